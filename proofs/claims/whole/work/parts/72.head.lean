/-! THE LAW'S HEAD, RAW: the room, the model, the row of answers -/
abbrev st_W (G : pa_G) (q1 q2 q3 : Nat) (u1 u2 : Nat → Nat) : va_W := ct_Wr G q1 u1 ++ ct_Wm G q2 u2 ++ [(q3, .inl (G.2.1 5, 1, .inr (.inl (fun _ => (0 : Int64)))))]
set_option maxRecDepth 100000 in
set_option maxHeartbeats 40000000 in
theorem st_head {G : pa_G} {p : Program} {l : Launch} {e : Env} {R : Room} {s : State} {m : MethodId} {args : Array Value} {below : List Frame} {meth : Method} {c : Code} {Q : State → Prop} (hx : p.tables.exec = Jvm.exec) (hb : c.code = cL_law) (hml : c.maxLocals = 7) (hown : s.vm.findClass RL = some m.cls) (hts : ∀ w ∈ pa_wl, w.before args s = true) (hU : pa_U G s) (hZ : pa_Zs G s s.heap) (hG : G.2.2.1 = s.heap.size) (hf : 5 ≤ R.frames) (hlo : 150 ≤ R.locals) (hcl : 64 ≤ R.cells) (hsl : 2942 ≤ R.slots) {b : Nat} {ls : Array Slot} (hl : lv_has ls 7 [(0, .ref b)])
    (kk : ∀ (q1 q2 q3 : Nat) (u1 u2 : Nat → Nat) (H : Heap) (locs : List Loc) (ls : Array Slot), va_P G.1 vwCl (st_W G q1 q2 q3 u1 u2) H → va_D (pa_A G) (st_W G q1 q2 q3 u1 u2) → va_S (pa_A G) s.heap H locs → lv_has ls 7 [(4, .int 0), (3, .ref q3), (2, .ref q2), (1, .ref q1), (0, .ref b)] → W p l e R s m args below meth c H locs 64 2942 Q (F0 m 23 ls [])) :
    W p l e R s m args below meth c s.heap [] 0 0 Q (F0 m 0 ls []) := by
  have hA : ∀ z : Nat, s.heap.size ≤ z → pa_A G z := fun z h => by
    show G.2.2.1 ≤ z
    omega
  have hS : va_S (pa_A G) s.heap s.heap [] := va_S.rf
  have hP : va_P G.1 vwCl [] s.heap := fun k q h => by simp at h
  have hD : va_D (pa_A G) [] := ⟨fun i j p q h => by simp at h, fun k q h => by simp at h⟩
  refine va_new (ci := 4) (fs := [.null, .null, .null, .null, .null, .int 0, .int 0, .int 0, .int 0, .int 0]) (C := RX3) (T := TX3) (N := 10) hx hb hts in_X3 tyX3 tyX3_ok hown (hts (.classLink RL 8 RX3) (lr_w (by decide +kernel) rfl)) (hts (.instantiable RX3 10) (lr_w (by decide +kernel) rfl)) (hts (.initialized RX3) (lr_w (by decide +kernel) rfl)) hU.1 hP hD hS hA rfl (fun j hj => by rcases (show j = 0 ∨ j = 1 ∨ j = 2 ∨ j = 3 ∨ j = 4 ∨ j = 5 ∨ j = 6 ∨ j = 7 ∨ j = 8 ∨ j = 9 by omega) with rfl | rfl | rfl | rfl | rfl | rfl | rfl | rfl | rfl | rfl <;> rfl) (by show 0 + 1 ≤ R.cells; omega) (by show 0 + 10 ≤ R.slots; omega) dL_law_0 (fun q1 H1 hP hD hS => ?_)
  have hP : va_P G.1 vwCl [(q1, .inr (4, [.null, .null, .null, .null, .null, .int 0, .int 0, .int 0, .int 0, .int 0]))] H1 := hP
  have hD : va_D (pa_A G) [(q1, .inr (4, [.null, .null, .null, .null, .null, .int 0, .int 0, .int 0, .int 0, .int 0]))] := hD
  refine lv_dup hx hb dL_law_3 rfl ?_
  have hq1 : G.2.2.1 ≤ q1 := hD.2 0 _ rfl
  have hzz : G.2.2.1 ≤ H1.size := by have := hS.1; omega
  have cw1 : CallB R s args RL 79 mX3_init.1 mX3_init.2.1 mX3_init.2.2.1 mX3_init.2.2.2 (pa_ws mX3_init) (pa_rm 4 33 293) 33 293 0 := pa_cb (y := mX3_init) (d' := 4) (d := 5) hts (by omega) (by omega) (by omega) (pa_wi (by decide +kernel) rfl) (pa_wi (by decide +kernel) rfl) (pa_wi (by decide +kernel) rfl) (by decide) (by decide +kernel) (by decide)
  refine va_callv (va_runI (b := q1) (As := []) (rest := [.ref q1]) ⟨hx, hb, hml, hown, hts⟩ (lr_roomInit G l H1.size q1 hq1 hzz) ⟨cw1, rfl, hts _ (pa_wi (w := .instanceMethod yX3_init) (by decide +kernel) rfl)⟩ ⟨lr_bl, fun U hU9 hW => lr_pre hU hZ hS (pa_P1 (hP 0 _ rfl)) (fun _ z => z.elim) hU9 hW⟩ rfl rfl hl.1 rfl (lv_room (Nat.le_of_ble_eq_true rfl)) dL_law_4 ⟨by show 0 + 1 + 33 ≤ R.cells; omega, by show 0 + 10 + 293 ≤ R.slots; omega⟩) hS (fun z h9 hz => by
    rcases hz with hz | hz
    · rw [hz]; exact hq1
    · omega) (fun z hz => by
    rcases hz with hz | hz
    · rw [hz]; exact hq1
    · exact Nat.le_trans hzz hz) (fun u1 t H2 locs2 ht hvm _ hB1 hsz1 hk hS => ?_)
  obtain ⟨hP1, hD1⟩ := hB1
  rw [ht] at hP1
  have hP : va_P G.1 vwCl (ct_Wr G q1 u1) H2 := hP1
  have hD : va_D (pa_A G) (ct_Wr G q1 u1) := ⟨hD1.1, fun k z hz9 => by
    rcases hD1.2 k z hz9 with h | h
    · rw [h]; exact hq1
    · exact Nat.le_trans hzz h⟩
  refine lv_astore_n (lv' := [(1, .ref q1), (0, .ref b)]) hx hb dL_law_7 rfl hl (by decide) rfl (fun ls hl => ?_)
  refine va_new (ci := 5) (fs := [.int 0, .int 0, .null, .null, .null, .null, .null, .null, .null, .null, .null, .null, .null, .null, .int 0, .int 0, .int 0, .int 0, .null, .null, .null, .null, .null, .null, .null, .null, .null, .null, .null, .null, .null, .int 0, .null, .null, .null, .int 0]) (C := RX4) (T := TX4) (N := 36) hx hb hts in_X4 tyX4 tyX4_ok hown (hts (.classLink RL 80 RX4) (lr_w (by decide +kernel) rfl)) (hts (.instantiable RX4 36) (lr_w (by decide +kernel) rfl)) (hts (.initialized RX4) (lr_w (by decide +kernel) rfl)) hU.1 hP hD hS hA rfl (fun j hj => by rcases (show j = 0 ∨ j = 1 ∨ j = 2 ∨ j = 3 ∨ j = 4 ∨ j = 5 ∨ j = 6 ∨ j = 7 ∨ j = 8 ∨ j = 9 ∨ j = 10 ∨ j = 11 ∨ j = 12 ∨ j = 13 ∨ j = 14 ∨ j = 15 ∨ j = 16 ∨ j = 17 ∨ j = 18 ∨ j = 19 ∨ j = 20 ∨ j = 21 ∨ j = 22 ∨ j = 23 ∨ j = 24 ∨ j = 25 ∨ j = 26 ∨ j = 27 ∨ j = 28 ∨ j = 29 ∨ j = 30 ∨ j = 31 ∨ j = 32 ∨ j = 33 ∨ j = 34 ∨ j = 35 by omega) with rfl | rfl | rfl | rfl | rfl | rfl | rfl | rfl | rfl | rfl | rfl | rfl | rfl | rfl | rfl | rfl | rfl | rfl | rfl | rfl | rfl | rfl | rfl | rfl | rfl | rfl | rfl | rfl | rfl | rfl | rfl | rfl | rfl | rfl | rfl | rfl <;> rfl) (by show 0 + 1 + 33 + 1 ≤ R.cells; omega) (by show 0 + 10 + 293 + 36 ≤ R.slots; omega) dL_law_8 (fun q2 H3 hP hD hS => ?_)
  refine lv_dup hx hb dL_law_11 rfl ?_
  have hq2 : G.2.2.1 ≤ q2 := hD.2 34 _ rfl
  have hzz : G.2.2.1 ≤ H3.size := by have := hS.1; omega
  have hS3 := hS
  have hP2 : va_at G.1 vwCl (q2, .inr (5, [.int 0, .int 0, .null, .null, .null, .null, .null, .null, .null, .null, .null, .null, .null, .null, .int 0, .int 0, .int 0, .int 0, .null, .null, .null, .null, .null, .null, .null, .null, .null, .null, .null, .null, .null, .int 0, .null, .null, .null, .int 0])) H3 := hP 34 _ rfl
  have cw2 : CallB R s args RL 82 mX4_init.1 mX4_init.2.1 mX4_init.2.2.1 mX4_init.2.2.2 (pa_ws mX4_init) (pa_rm 1 28 2602) 28 2602 0 := pa_cb (y := mX4_init) (d' := 1) (d := 2) hts (by omega) (by omega) (by omega) (pa_wi (by decide +kernel) rfl) (pa_wi (by decide +kernel) rfl) (pa_wi (by decide +kernel) rfl) (by decide) (by decide +kernel) (by decide)
  refine va_callv (va_runI (b := q2) (As := []) (rest := [.ref q2]) ⟨hx, hb, hml, hown, hts⟩ (lr_mInit G l H3.size q2) ⟨cw2, rfl, hts _ (pa_wi (w := .instanceMethod yX4_init) (by decide +kernel) rfl)⟩ ⟨lr_bl, fun U hU9 hW => lr_pre hU hZ hS (pa_P1 hP2) (fun _ z => z.elim) hU9 hW⟩ rfl rfl hl.1 rfl (lv_room (Nat.le_of_ble_eq_true rfl)) dL_law_12 ⟨by show 0 + 1 + 33 + 1 + 28 ≤ R.cells; omega, by show 0 + 10 + 293 + 36 + 2602 ≤ R.slots; omega⟩) hS (fun z h9 hz => by
    rcases hz with hz | hz
    · rw [hz]; exact hq2
    · omega) (fun z hz => by
    rcases hz with hz | hz
    · rw [hz]; exact hq2
    · exact Nat.le_trans hzz hz) (fun u2 t2 H4 locs4 ht2 hvm2 _ hB2 hsz2 hk2 hS => ?_)
  obtain ⟨hP1, hD1⟩ := hB2
  rw [ht2] at hP1
  have hA1 : ∀ z, (z = q2 ∨ H3.size ≤ z) → va_A [(q2, .inr (5, [.int 0, .int 0, .null, .null, .null, .null, .null, .null, .null, .null, .null, .null, .null, .null, .int 0, .int 0, .int 0, .int 0, .null, .null, .null, .null, .null, .null, .null, .null, .null, .null, .null, .null, .null, .int 0, .null, .null, .null, .int 0]))] H3.size z := fun z h9 => by
    rcases h9 with h9 | h9
    · subst h9; exact Or.inl ⟨0, _, rfl⟩
    · exact Or.inr h9
  obtain ⟨hP, hD⟩ := va_join (wc := [(q2, .inr (5, [.int 0, .int 0, .null, .null, .null, .null, .null, .null, .null, .null, .null, .null, .null, .null, .int 0, .int 0, .int 0, .int 0, .null, .null, .null, .null, .null, .null, .null, .null, .null, .null, .null, .null, .null, .int 0, .null, .null, .null, .int 0]))]) (wr := ct_Wr G q1 u1) (w1 := ct_Wm G q2 u2) hP hD [34] [0, 1, 2, 3, 4, 5, 6, 7, 8, 9, 10, 11, 12, 13, 14, 15, 16, 17, 18, 19, 20, 21, 22, 23, 24, 25, 26, 27, 28, 29, 30, 31, 32, 33] rfl rfl (by decide) (by decide) (fun z h1 h2 => hk2 z h1 (fun ez => h2 (hA1 z ez))) (va_free hD hS3 hA [34] rfl) hP1 ⟨hD1.1, fun w9 q9 hw9 => hA1 _ (hD1.2 w9 q9 hw9)⟩
  refine lv_astore_n (lv' := [(2, .ref q2), (1, .ref q1), (0, .ref b)]) hx hb dL_law_15 rfl hl (by decide) rfl (fun ls hl => ?_)
  refine lv_iconst (v := 1) hx hb dL_law_16 (by decide) ?_
  refine va_newa (atype := .long) (N' := 1) (a0 := (1, .inr (.inl (fun _ => (0 : Int64))))) (ty := .long) hx hb (hts (.arrayClass .long) (lr_w (by decide +kernel) rfl)) rfl hU.1 hP hD hS hA (fun _ => rfl) (by decide) (by decide) (by show 1 * 8 ≤ 536870912; omega) (by show 0 + 1 + 33 + 1 + 28 + 1 ≤ R.cells; omega) (by show 0 + 10 + 293 + 36 + 2602 + 1 ≤ R.slots; omega) dL_law_17 (fun q3 cr3 H5 hKr3 hP hD hS => ?_)
  have ec : cr3 = G.2.1 5 := Option.some.inj ((hKr3.2 6 _ rfl).2.symm.trans (hU.1.2 5 _ rfl).2)
  subst ec
  refine lv_astore_n (lv' := [(3, .ref q3), (2, .ref q2), (1, .ref q1), (0, .ref b)]) hx hb dL_law_19 rfl hl (by decide) rfl (fun ls hl => ?_)
  refine lv_iconst (v := 0) hx hb dL_law_20 (by decide) ?_
  refine lv_istore (lv' := [(4, .int 0), (3, .ref q3), (2, .ref q2), (1, .ref q1), (0, .ref b)]) hx hb dL_law_21 hl (by decide) rfl (fun ls hl => ?_)
  exact kk q1 q2 q3 u1 u2 H5 _ ls hP hD hS hl
