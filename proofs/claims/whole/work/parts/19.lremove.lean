/-! LISTS over the abstract heap: removing the last -/
set_option maxRecDepth 100000 in
set_option maxHeartbeats 2000000 in
theorem lr_fast (G : pa_G) (l : Launch) (sz a dr n cap : Nat) (m : Int32) (f : Nat → Option Nat) (h0 : 0 < n) (hn : n ≤ cap) (hcap : cap < 60000) (had : a ≠ dr) : Met l yJx4a65c_fastRemove_b59b0 (pa_ws mJx4a65c_fastRemove_b59b0) (pa_rm 1 0 0)
    (va_Pc [.ref a, .ref dr, .int (nI (n - 1))] (lr_B G sz [(a, lr_L m dr n), (dr, lr_E G f cap)] (fun _ => False)))
    (va_Qv (fun _ : lr_ONE => True) (fun _ t => va_P G.1 vwCl [(a, lr_L (m + 1) dr (n - 1)), (dr, lr_E G (va_up f (n - 1) none) cap)] t.heap) (lr_A a dr cap sz)) 0 0 (lr_A a dr cap sz) := by
  refine lr_start (y := mJx4a65c_fastRemove_b59b0) l (by decide) rfl fun p e s mm below meth c ls hx hb hml hown hts hr hlk hB hl => ?_
  obtain ⟨hsz, hP, hel, hU, hZ⟩ := hB
  have hl : lv_has ls 4 [(0, .ref a), (1, .ref dr), (2, .int (nI (n - 1)))] := hl
  have hS : va_S (lr_A a dr cap sz) s.heap s.heap [] := va_S.rf
  have hD : va_D (lr_A a dr cap sz) [(a, lr_L m dr n), (dr, lr_E G f cap)] := lr_d2 (Or.inl rfl) (Or.inr (Or.inl ⟨rfl, by omega⟩)) had
  have hsame : (Cond.sameField "java/util/ArrayList" "java/util/AbstractList" "modCount" "I").before ([.ref a, .ref dr, .int (nI (n - 1))] : List Value).toArray s = true := hts _ (lr_w (by decide +kernel) rfl)
  refine lv_aload_n hx hb dJx4a65c_fastRemove_b59b0_0 rfl (lv_at hl 0 rfl) ?_
  refine lv_dup hx hb dJx4a65c_fastRemove_b59b0_1 rfl ?_
  refine va_get (ref := "java/util/ArrayList") (ci := 0) (v := .int m) (C := RJx4a65c) (T := TJx4a65c) (N := 3) hx hb hts in_J hown hU.1 hP 0 rfl rfl 0 (by decide) (hts _ (lr_w (w := .fieldLink RJx4a65c 63 "java/util/ArrayList" "modCount" "I") (by decide +kernel) rfl)) (fun x9 h9 => u_same hsame x9 h9) rfl dJx4a65c_fastRemove_b59b0_2 ?_
  refine lv_iconst (v := 1) hx hb dJx4a65c_fastRemove_b59b0_5 (by decide) ?_
  refine lv_iadd hx hb dJx4a65c_fastRemove_b59b0_6 ?_
  refine va_put (ref := "java/util/ArrayList") (ci := 0) (v := .int (m + 1)) (ty := .int) (C := RJx4a65c) (T := TJx4a65c) (N := 3) hx hb hts in_J tyJx4a65c tyJx4a65c_ok nmJx4a65c hown hU.1 hP hD hS 0 rfl rfl 0 (by decide) (hts _ (lr_w (w := .fieldLink RJx4a65c 63 "java/util/ArrayList" "modCount" "I") (by decide +kernel) rfl)) (fun x9 h9 => u_same hsame x9 h9) rfl (by decide +kernel) rfl rfl (Nat.le_of_ble_eq_true rfl) dJx4a65c_fastRemove_b59b0_7 (fun H1 locs1 hP1 hD1 hS1 => ?_)
  have hP1 : va_P G.1 vwCl [(a, lr_L (m + 1) dr n), (dr, lr_E G f cap)] H1 := hP1
  have hD1 : va_D (lr_A a dr cap sz) [(a, lr_L (m + 1) dr n), (dr, lr_E G f cap)] := hD1
  refine lv_aload_n hx hb dJx4a65c_fastRemove_b59b0_10 rfl (lv_at hl 0 rfl) ?_
  refine va_get (ref := "java/util/ArrayList") (ci := 0) (v := .int (nI n)) (C := RJx4a65c) (T := TJx4a65c) (N := 3) hx hb hts in_J hown hU.1 hP1 0 rfl rfl 2 (by decide) (hts _ (lr_w (w := .fieldLink RJx4a65c 48 "java/util/ArrayList" "size" "I") (by decide +kernel) rfl)) (fun _ z => z) rfl dJx4a65c_fastRemove_b59b0_11 ?_
  refine lv_iconst (v := 1) hx hb dJx4a65c_fastRemove_b59b0_14 (by decide) ?_
  refine lv_isub hx hb dJx4a65c_fastRemove_b59b0_15 ?_
  have ed : nI n - 1 = nI (n - 1) := pk_sub (a := n) (b := 1) (by omega)
  rw [ed]
  refine lv_dup hx hb dJx4a65c_fastRemove_b59b0_16 rfl ?_
  refine lv_istore_n hx hb dJx4a65c_fastRemove_b59b0_17 rfl hl (by decide) rfl (fun ls hl => ?_)
  have hl : lv_has ls 4 [(3, .int (nI (n - 1))), (0, .ref a), (1, .ref dr), (2, .int (nI (n - 1)))] := hl
  refine lv_iload_n hx hb dJx4a65c_fastRemove_b59b0_18 rfl (lv_at hl 3 rfl) ?_
  refine lv_icmp_le (tgt := 34) hx hb dJx4a65c_fastRemove_b59b0_19 (by decide) (fun _ => ?_) (fun z => absurd (nI_le (Nat.le_refl (n - 1)) (by omega)) z)
  refine lv_aload_n hx hb dJx4a65c_fastRemove_b59b0_34 rfl (lv_at hl 2 rfl) ?_
  refine lv_aload_n hx hb dJx4a65c_fastRemove_b59b0_35 rfl (lv_at hl 1 rfl) ?_
  refine lv_iload_n hx hb dJx4a65c_fastRemove_b59b0_36 rfl (lv_at hl 0 rfl) ?_
  refine lv_dup_x1 hx hb dJx4a65c_fastRemove_b59b0_37 rfl rfl ?_
  refine va_put (ref := "java/util/ArrayList") (ci := 0) (v := .int (nI (n - 1))) (ty := .int) (C := RJx4a65c) (T := TJx4a65c) (N := 3) hx hb hts in_J tyJx4a65c tyJx4a65c_ok nmJx4a65c hown hU.1 hP1 hD1 hS1 0 rfl rfl 2 (by decide) (hts _ (lr_w (w := .fieldLink RJx4a65c 48 "java/util/ArrayList" "size" "I") (by decide +kernel) rfl)) (fun _ z => z) rfl (by decide +kernel) rfl rfl (Nat.le_of_ble_eq_true rfl) dJx4a65c_fastRemove_b59b0_38 (fun H2 locs2 hP2 hD2 hS2 => ?_)
  have hP2 : va_P G.1 vwCl [(a, lr_L (m + 1) dr (n - 1)), (dr, lr_E G f cap)] H2 := hP2
  have hD2 : va_D (lr_A a dr cap sz) [(a, lr_L (m + 1) dr (n - 1)), (dr, lr_E G f cap)] := hD2
  refine lv_null hx hb dJx4a65c_fastRemove_b59b0_41 ?_
  have ecl : (nI (n - 1)).toNatClampNeg = n - 1 := nI_clamp (by omega)
  refine va_astqN hx hb hU.1 hP2 hD2 hS2 1 4 rfl rfl (vp_in_nI (by omega) (by omega)) dJx4a65c_fastRemove_b59b0_42 (fun H3 locs3 hP3 hD3 hS3 => ?_)
  rw [ecl] at hP3
  exact W.vret hx hb hr (fun t ht hW => ⟨⟨(), rfl, trivial, (by subst ht; exact hP3)⟩, hS3.F ht⟩) hS3.2.2 dJx4a65c_fastRemove_b59b0_43
/-- the class's ints behind a removal -/
abbrev lr_Kr (K : Nat → Nat → Nat → Int32) (lst : Nat) : Nat → Nat → Nat → Int32 := pa_up K 0 lst 0 (K 0 lst 0 + 1)
set_option maxRecDepth 100000 in
set_option maxHeartbeats 2000000 in
theorem c_lfast (G : pa_G) (l : Launch) (h : pa_H) (lst : Nat) (hl : lst < 3) (h0 : 0 < h.2.2.1 (2 + lst)) (hc : h.2.2.1 (2 + lst) ≤ h.2.2.1 (5 + lst)) (hc9 : h.2.2.1 (5 + lst) < 60000) :
    pa_M G l mJx4a65c_fastRemove_b59b0 1 true [pv_o 0 lst, pv_o 8 lst, pv_i (nI (h.2.2.1 (2 + lst) - 1))] h 0 0 (fun r h' => r = none ∧ h' = (lr_Kr h.1 lst, h.2.1, lr_N h.2.2.1 lst (h.2.2.1 (2 + lst) - 1) (h.2.2.1 (5 + lst)), h.2.2.2)) := by
  intro ad
  have h5 : h.2.2.1 (5 + lst) ≠ 0 := by omega
  refine lr_met (ι := State) (ok := fun U => pa_R G ad h U.heap ∧ pa_U G U ∧ pa_Zs G U U.heap) (fun U hU => lr_fast G l U.heap.size (ad (0, lst)) (ad (8, lst)) (h.2.2.1 (2 + lst)) (h.2.2.1 (5 + lst)) (h.1 0 lst 0) (lr_f ad h lst) h0 hc hc9 (fun e => absurd (hU.1.2.1 _ _ (pl_0 hl) (pl_8 hl h5) e) (by intro z; cases z))) (fun a s hP => ?_)
  obtain ⟨rfl, hR, hU, hZ⟩ := hP
  have hcells := lr_cells hR hl h5
  have edr : lr_dr G ad h.2.2.1 lst = ad (8, lst) := if_neg h5
  rw [edr] at hcells
  refine ⟨s, ⟨hR, hU, hZ⟩, ⟨rfl, rfl, hcells, fun y hy => hy.elim, hU, hZ⟩, fun o t hq => ?_, fun q hq => ?_⟩
  · obtain ⟨⟨u, rfl, -, q2⟩, hz, hk⟩ := hq
    have hle9 : ∀ l2 j, pa_le (lr_Kr h.1 lst, h.2.1, lr_N h.2.2.1 lst (h.2.2.1 (2 + lst) - 1) (h.2.2.1 (5 + lst)), h.2.2.2) l2 j = pa_le h l2 j := fun l2 j => by
      unfold pa_le
      dsimp only
      rw [show lr_Kr h.1 lst 163 0 j = h.1 163 0 j from pa_up_ne (by decide)]
    obtain ⟨ad', g1, g2⟩ := lr_R (h' := (lr_Kr h.1 lst, h.2.1, lr_N h.2.2.1 lst (h.2.2.1 (2 + lst) - 1) (h.2.2.1 (5 + lst)), h.2.2.2)) (H1 := t.heap) (q := ad (8, lst)) hl hR h5 rfl (fun f o j h1 h2 => pa_up_ne (by omega)) (fun l2 h2 => by
        show pa_up h.1 0 lst 0 _ 0 l2 0 = _
        unfold pa_up
        exact if_neg (fun z => h2 z.2.1)) (fun l2 h3 h2 j => hle9 l2 j) rfl rfl (Or.inr ⟨h5, rfl⟩) hz (fun z h1 h2 h3 => hk z h1 (fun q => by
          rcases q with q | ⟨q, qc⟩ | q
          · exact h2 q
          · exact h3 ⟨q, qc⟩
          · omega))
      (by
        show va_at G.1 vwCl (ad (0, lst), .inr (0, [.int (lr_Kr h.1 lst 0 lst 0), .ref (ad (8, lst)), .int (nI (h.2.2.1 (2 + lst) - 1))])) t.heap
        rw [show lr_Kr h.1 lst 0 lst 0 = h.1 0 lst 0 + 1 from pa_up_self _ _ _ _ _]
        exact q2 0 _ rfl)
      (fun ad' had => by
        have e9 : va_up (lr_f ad h lst) (h.2.2.1 (2 + lst) - 1) none = fun j => if j < h.2.2.1 (2 + lst) - 1 then some (ad' (pa_le (lr_Kr h.1 lst, h.2.1, lr_N h.2.2.1 lst (h.2.2.1 (2 + lst) - 1) (h.2.2.1 (5 + lst)), h.2.2.2) lst j)) else none := by
          funext j
          unfold va_up
          by_cases c : j = h.2.2.1 (2 + lst) - 1
          · rw [if_pos c, if_neg (by omega)]
          · rw [if_neg c]
            by_cases c2 : j < h.2.2.1 (2 + lst) - 1
            · rw [if_pos c2, hle9, had _ (by rcases pa_le_k h lst j with z | z <;> rw [z] <;> decide)]
              exact if_pos (by omega)
            · rw [if_neg c2]
              exact if_neg (by omega)
        rw [← e9]
        exact q2 1 _ rfl)
    refine ⟨⟨none, _, ad', rfl, ⟨rfl, rfl⟩, g1, g2⟩, hz, fun q h1 h2 => hk q h1 (fun z => h2 ?_)⟩
    rcases z with z | ⟨z, zc⟩ | z
    · rw [z]; exact hR.2.2.1 _ (pl_0 hl)
    · rw [z]; exact hR.2.2.1 _ (pl_8 hl zc)
    · omega
  · rcases hq with z | ⟨z, zc⟩ | z
    · rw [z]; exact hR.2.2.1 _ (pl_0 hl)
    · rw [z]; exact hR.2.2.1 _ (pl_8 hl zc)
    · exact Nat.le_trans hR.2.2.2.2.2 z
set_option maxRecDepth 100000 in
set_option maxHeartbeats 2000000 in
theorem c_lrem (G : pa_G) (l : Launch) (h : pa_H) (lst : Nat) (hl : lst < 3) (h0 : 0 < h.2.2.1 (2 + lst)) (hc : h.2.2.1 (2 + lst) ≤ h.2.2.1 (5 + lst)) (hc9 : h.2.2.1 (5 + lst) < 60000) (hlv : pa_lv h.2.2.1 (pa_le h lst (h.2.2.1 (2 + lst) - 1))) :
    pa_M G l mJx4a65c_remove_915e3 3 true [pv_o 0 lst, pv_i (nI (h.2.2.1 (2 + lst) - 1))] h 0 0 (fun r h' => r = some (pv_r (some (pa_le h lst (h.2.2.1 (2 + lst) - 1)))) ∧ h' = (lr_Kr h.1 lst, h.2.1, lr_N h.2.2.1 lst (h.2.2.1 (2 + lst) - 1) (h.2.2.1 (5 + lst)), h.2.2.2)) := by
  refine pa_go l (by decide) (by simp [pa_c1l, pa_c1]) (fun _ => rfl) fun x C E el ea => ?_
  subst el
  show pa_w G x 4 h 0 0 0 [some (pv_o 0 lst), some (pv_i (nI (h.2.2.1 (2 + lst) - 1))), none, none] []
  refine pr_iload_n (pc := 0) C dJx4a65c_remove_915e3_0 rfl ?_
  refine pr_aload_n (pc := 1) C dJx4a65c_remove_915e3_1 rfl ?_
  refine pr_lsize (pc := 2) C hl dJx4a65c_remove_915e3_2 ?_
  refine pr_sP (pc := 5) C (c_chk2 G _ h (h.2.2.1 (2 + lst) - 1) (h.2.2.1 (2 + lst)) (by omega) (by omega)) ws_Jx4a65c_118 rfl rfl (by decide) (Nat.le_of_ble_eq_true rfl) (by omega) (by omega) dJx4a65c_remove_915e3_5 ?_
  refine pr_pop (pc := 8) C dJx4a65c_remove_915e3_8 trivial ?_
  refine pr_aload_n (pc := 9) C dJx4a65c_remove_915e3_9 rfl ?_
  refine pr_ldata (pc := 10) C hl (by omega) dJx4a65c_remove_915e3_10 ?_
  refine pr_astore_n (pc := 13) C dJx4a65c_remove_915e3_13 (by decide) ?_
  refine pr_aload_n (pc := 14) C dJx4a65c_remove_915e3_14 rfl ?_
  refine pr_iload_n (pc := 15) C dJx4a65c_remove_915e3_15 rfl ?_
  refine pr_lald (pc := 16) C hl (by omega) hc hc9 rfl dJx4a65c_remove_915e3_16 ?_
  refine pr_astore_n (pc := 17) C dJx4a65c_remove_915e3_17 (by decide) ?_
  refine pr_aload_n (pc := 18) C dJx4a65c_remove_915e3_18 rfl ?_
  refine pr_aload_n (pc := 19) C dJx4a65c_remove_915e3_19 rfl ?_
  refine pr_iload_n (pc := 20) C dJx4a65c_remove_915e3_20 rfl ?_
  refine pr_lo (lo' := [some (pv_o 0 lst), some (pv_i (nI (h.2.2.1 (2 + lst) - 1))), none, some (pv_r (some (pa_le h lst (h.2.2.1 (2 + lst) - 1))))]) ⟨rfl, rfl, rfl, trivial⟩ ?_
  refine pr_callV0 (pc := 21) (As := [pv_o 8 lst, pv_i (nI (h.2.2.1 (2 + lst) - 1))]) (rest := []) C (c_lfast G _ h lst hl h0 hc hc9) wv_Jx4a65c_144 rfl (by decide) (by decide) (pl_0 hl) (by decide) (Nat.le_refl _) (Nat.le_refl _) (fun z => absurd (ea.symm.trans z) (by decide)) (fun _ => ⟨trivial, ⟨lr_kn (by decide), pl_0 hl⟩, trivial, ⟨by rcases pa_le_k h lst (h.2.2.1 (2 + lst) - 1) with z | z <;> rw [z] <;> decide, hlv⟩, trivial⟩) dJx4a65c_remove_915e3_21 (fun r h' hp => ?_)
  obtain ⟨rfl, rfl⟩ := hp
  refine pr_aload_n (pc := 24) C dJx4a65c_remove_915e3_24 rfl ?_
  exact pr_aret (pc := 25) C E (by omega) (by omega) ⟨rfl, rfl⟩ dJx4a65c_remove_915e3_25
