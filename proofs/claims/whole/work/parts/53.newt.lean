/-! A NEW TURN: its constructor; the names of what it is made of -/
theorem pn_lv8 {N : Nat → Nat} {v : Nat} {n : pa_Nm} (hn : n.1 ≠ 6) : pa_lv (pa_un N 8 v) n ↔ pa_lv N n := by
  obtain ⟨k, i⟩ := n
  have e0 : pa_un N 8 v 0 = N 0 := if_neg (by decide)
  have e1 : pa_un N 8 v 1 = N 1 := if_neg (by decide)
  have e9 : pa_un N 8 v 9 = N 9 := if_neg (by decide)
  have e5 : i < 3 → pa_un N 8 v (5 + i) = N (5 + i) := fun h => if_neg (by omega)
  have el : pa_lo (pa_un N 8 v) = pa_lo N := funext fun k => funext fun i => by
    unfold pa_lo
    rw [e0, e1]
  unfold pa_lv
  dsimp only at hn ⊢
  rw [if_neg hn, if_neg hn, el, e9]
  by_cases c : i < 3
  · rw [e5 c]
  · by_cases c8 : k = 8
    · subst c8
      constructor
      · exact fun z => absurd z.1 c
      · exact fun z => absurd z.1 c
    · rw [if_neg c8, if_neg c8]
theorem pa_ce_6 (G : pa_G) (ad : pa_Nm → Nat) (h : pa_H) : pa_ce G ad h (6, 0) = .inr (3, [.null, .int 0, .int 0, .int 0, .int 0, .int 0, .int 0, .int 0, .int 0, .int 0, .int 0, .null, .null]) := by
  unfold pa_ce
  rw [if_neg (by decide), if_neg (by decide), if_pos rfl]
theorem lr_p4 {D : va_G} {cl : List vw_C} {q1 q2 q3 q4 : Nat × va_E} {H : Heap} (h1 : va_at D cl q1 H) (h2 : va_at D cl q2 H) (h3 : va_at D cl q3 H) (h4 : va_at D cl q4 H) : va_P D cl [q1, q2, q3, q4] H := fun k z hk => by
  match k, hk with
  | 0, hk => cases hk; exact h1
  | 1, hk => cases hk; exact h2
  | 2, hk => cases hk; exact h3
  | 3, hk => cases hk; exact h4
set_option maxRecDepth 100000 in
set_option maxHeartbeats 4000000 in
theorem lr_turnInit (G : pa_G) (l : Launch) (sz q sp : Nat) (fs0 : List Value) (v1 v2 v3 v4 v5 lg : Int32) (hfs : fs0[3]? = some (.int lg)) (hqs : q ≠ sp) : Met l yX2_init (pa_ws mX2_init) (pa_rm 2 2 8) (va_Pc [.ref q, .ref sp, .int v1, .int v2, .int v3, .int v4, .int v5] (lr_B G sz [(q, .inr (3, [.null, .int 0, .int 0, .int 0, .int 0, .int 0, .int 0, .int 0, .int 0, .int 0, .int 0, .null, .null])), (sp, .inr (1, fs0))] (fun _ => False)))
    (va_Qv (fun _ : Nat × Nat => True) (fun u t => sz ≤ u.1 ∧ sz ≤ u.2 ∧ u.1 ≠ u.2 ∧ va_P G.1 vwCl [(q, .inr (3, [.ref sp, .int v1, .int v4, .int v5, .int lg, .int 0, .int v2, .int v3, .int 0, .int (-1), .int 0, .ref u.1, .ref u.2])), (sp, .inr (1, fs0)), (u.1, .inl (G.2.1 0, 4, .inl (fun _ => (0 : Int32)))), (u.2, .inl (G.2.1 0, 4, .inl (fun _ => (0 : Int32))))] t.heap) (fun z => z = q ∨ z = sp ∨ sz ≤ z)) 2 8 (fun z => z = q ∨ z = sp ∨ sz ≤ z) := by
  refine lr_startI (y := mX2_init) l (by decide) rfl fun p e s mm below meth c ls hx hb hml hown hts hr hlk hin hB hl => ?_
  obtain ⟨hsz, hP, hel, hU, hZ⟩ := hB
  have hl : lv_has ls 7 [(0, .ref q), (1, .ref sp), (2, .int v1), (3, .int v2), (4, .int v3), (5, .int v4), (6, .int v5)] := hl
  have hS : va_S (fun z => z = q ∨ z = sp ∨ sz ≤ z) s.heap s.heap [] := va_S.rf
  have hD : va_D (fun z => z = q ∨ z = sp ∨ sz ≤ z) [(q, .inr (3, [.null, .int 0, .int 0, .int 0, .int 0, .int 0, .int 0, .int 0, .int 0, .int 0, .int 0, .null, .null])), (sp, .inr (1, fs0))] := lr_d2 (Or.inl rfl) (Or.inr (Or.inl rfl)) hqs
  have hA : ∀ z : Nat, s.heap.size ≤ z → (z = q ∨ z = sp ∨ sz ≤ z) := fun z h => Or.inr (Or.inr (by omega))
  have hlq : q < s.heap.size := (hP 0 _ rfl).lt
  have hls : sp < s.heap.size := (hP 1 _ rfl).lt
  refine lv_aload_n hx hb dX2_init_0 rfl (lv_at hl 0 rfl) ?_
  refine W.objInit hx hb hown (hts (.methodLink RX2 3 objectInit) (lr_w (by decide +kernel) rfl)) (hts (.instanceMethod objectInit) (lr_w (by decide +kernel) rfl)) (hts (.code objectInit ⟨#[0xb1]⟩ 1 none) (lr_w (by decide +kernel) rfl)) rfl (by rw [hml]; exact hl.1) rfl dX2_init_1 (Nat.le_of_ble_eq_true rfl) (Nat.le_of_ble_eq_true rfl) ?_
  refine lv_aload_n hx hb dX2_init_4 rfl (lv_at hl 0 rfl) ?_
  refine lv_iconst (v := 0) hx hb dX2_init_5 (by decide) ?_
  refine va_put (ref := RX2) (ci := 3) (v := .int 0) (ty := tyX2 8) (C := RX2) (T := TX2) (N := 13) hx hb hts in_X2 tyX2 tyX2_ok nmX2 hown hU.1 hP hD hS 0 rfl rfl 8 (by decide) (hts _ (lr_w (w := .fieldLink RX2 9 RX2 "state" "I") (by decide +kernel) rfl)) (fun _ z => z) rfl (tyX2_ok 8 (by decide)) rfl rfl (Nat.le_of_ble_eq_true rfl) dX2_init_6 (fun H6 locs6 hP hD hS => ?_)
  have hP : va_P G.1 vwCl [(q, .inr (3, [.null, .int 0, .int 0, .int 0, .int 0, .int 0, .int 0, .int 0, .int 0, .int 0, .int 0, .null, .null])), (sp, .inr (1, fs0))] H6 := hP
  have hD : va_D (fun z => z = q ∨ z = sp ∨ sz ≤ z) [(q, .inr (3, [.null, .int 0, .int 0, .int 0, .int 0, .int 0, .int 0, .int 0, .int 0, .int 0, .int 0, .null, .null])), (sp, .inr (1, fs0))] := hD
  refine lv_aload_n hx hb dX2_init_9 rfl (lv_at hl 0 rfl) ?_
  refine lv_iconst (v := -1) hx hb dX2_init_10 (by decide) ?_
  refine va_put (ref := RX2) (ci := 3) (v := .int (-1)) (ty := tyX2 9) (C := RX2) (T := TX2) (N := 13) hx hb hts in_X2 tyX2 tyX2_ok nmX2 hown hU.1 hP hD hS 0 rfl rfl 9 (by decide) (hts _ (lr_w (w := .fieldLink RX2 15 RX2 "carriedOutAt" "I") (by decide +kernel) rfl)) (fun _ z => z) rfl (tyX2_ok 9 (by decide)) rfl rfl (Nat.le_of_ble_eq_true rfl) dX2_init_11 (fun H11 locs11 hP hD hS => ?_)
  have hP : va_P G.1 vwCl [(q, .inr (3, [.null, .int 0, .int 0, .int 0, .int 0, .int 0, .int 0, .int 0, .int 0, .int (-1), .int 0, .null, .null])), (sp, .inr (1, fs0))] H11 := hP
  have hD : va_D (fun z => z = q ∨ z = sp ∨ sz ≤ z) [(q, .inr (3, [.null, .int 0, .int 0, .int 0, .int 0, .int 0, .int 0, .int 0, .int 0, .int (-1), .int 0, .null, .null])), (sp, .inr (1, fs0))] := hD
  refine lv_aload_n hx hb dX2_init_14 rfl (lv_at hl 0 rfl) ?_
  refine lv_iconst (v := 4) hx hb dX2_init_15 (by decide) ?_
  refine va_newa (atype := .int) (N' := 4) (a0 := (4, .inl (fun _ => (0 : Int32)))) (ty := .int) hx hb (hts (.arrayClass .int) (lr_w (by decide +kernel) rfl)) rfl hU.1 hP hD hS hA (fun _ => rfl) (by decide) (by decide) (by show 4 * 4 ≤ 536870912; omega) (by show 0 + 1 ≤ 2; omega) (by show 0 + 4 ≤ 8; omega) dX2_init_16 (fun r1 cr1 H16 hKr1 hP hD hS => ?_)
  have ec : cr1 = G.2.1 0 := Option.some.inj ((hKr1.2 6 _ rfl).2.symm.trans (hU.1.2 0 _ rfl).2)
  subst ec
  have hP : va_P G.1 vwCl [(q, .inr (3, [.null, .int 0, .int 0, .int 0, .int 0, .int 0, .int 0, .int 0, .int 0, .int (-1), .int 0, .null, .null])), (sp, .inr (1, fs0)), (r1, .inl (G.2.1 0, 4, .inl (fun _ => (0 : Int32))))] H16 := hP
  have hD : va_D (fun z => z = q ∨ z = sp ∨ sz ≤ z) [(q, .inr (3, [.null, .int 0, .int 0, .int 0, .int 0, .int 0, .int 0, .int 0, .int 0, .int (-1), .int 0, .null, .null])), (sp, .inr (1, fs0)), (r1, .inl (G.2.1 0, 4, .inl (fun _ => (0 : Int32))))] := hD
  have hq1 : r1 ≠ q := fun z => absurd (hD.1 0 2 _ _ rfl rfl z.symm) (by decide)
  have hs1 : r1 ≠ sp := fun z => absurd (hD.1 1 2 _ _ rfl rfl z.symm) (by decide)
  have hz1 : sz ≤ r1 := ((hD.2 2 _ rfl).resolve_left hq1).resolve_left hs1
  refine va_putF (ref := RX2) (ci := 3) (v := .ref r1) (ty := tyX2 11) (C := RX2) (T := TX2) (N := 13) hx hb hts in_X2 tyX2 tyX2_ok nmX2 hown hU.1 hP hD hS 0 rfl rfl 11 (by decide) (hts _ (lr_w (w := .fieldLink RX2 18 RX2 "reached" "[I") (by decide +kernel) rfl)) (fun _ z => z) rfl hin rfl (tyX2_ok 11 (by decide)) rfl rfl (Nat.le_of_ble_eq_true rfl) dX2_init_18 (fun H18 locs18 hP hD hS => ?_)
  have hP : va_P G.1 vwCl [(q, .inr (3, [.null, .int 0, .int 0, .int 0, .int 0, .int 0, .int 0, .int 0, .int 0, .int (-1), .int 0, .ref r1, .null])), (sp, .inr (1, fs0)), (r1, .inl (G.2.1 0, 4, .inl (fun _ => (0 : Int32))))] H18 := hP
  have hD : va_D (fun z => z = q ∨ z = sp ∨ sz ≤ z) [(q, .inr (3, [.null, .int 0, .int 0, .int 0, .int 0, .int 0, .int 0, .int 0, .int 0, .int (-1), .int 0, .ref r1, .null])), (sp, .inr (1, fs0)), (r1, .inl (G.2.1 0, 4, .inl (fun _ => (0 : Int32))))] := hD
  refine lv_aload_n hx hb dX2_init_21 rfl (lv_at hl 0 rfl) ?_
  refine lv_iconst (v := 4) hx hb dX2_init_22 (by decide) ?_
  refine va_newa (atype := .int) (N' := 4) (a0 := (4, .inl (fun _ => (0 : Int32)))) (ty := .int) hx hb (hts (.arrayClass .int) (lr_w (by decide +kernel) rfl)) rfl hU.1 hP hD hS hA (fun _ => rfl) (by decide) (by decide) (by show 4 * 4 ≤ 536870912; omega) (by show 1 + 1 ≤ 2; omega) (by show 4 + 4 ≤ 8; omega) dX2_init_23 (fun r2 cr2 H23 hKr2 hP hD hS => ?_)
  have ec : cr2 = G.2.1 0 := Option.some.inj ((hKr2.2 6 _ rfl).2.symm.trans (hU.1.2 0 _ rfl).2)
  subst ec
  have hP : va_P G.1 vwCl [(q, .inr (3, [.null, .int 0, .int 0, .int 0, .int 0, .int 0, .int 0, .int 0, .int 0, .int (-1), .int 0, .ref r1, .null])), (sp, .inr (1, fs0)), (r1, .inl (G.2.1 0, 4, .inl (fun _ => (0 : Int32)))), (r2, .inl (G.2.1 0, 4, .inl (fun _ => (0 : Int32))))] H23 := hP
  have hD : va_D (fun z => z = q ∨ z = sp ∨ sz ≤ z) [(q, .inr (3, [.null, .int 0, .int 0, .int 0, .int 0, .int 0, .int 0, .int 0, .int 0, .int (-1), .int 0, .ref r1, .null])), (sp, .inr (1, fs0)), (r1, .inl (G.2.1 0, 4, .inl (fun _ => (0 : Int32)))), (r2, .inl (G.2.1 0, 4, .inl (fun _ => (0 : Int32))))] := hD
  have hq2 : r2 ≠ q := fun z => absurd (hD.1 0 3 _ _ rfl rfl z.symm) (by decide)
  have hs2 : r2 ≠ sp := fun z => absurd (hD.1 1 3 _ _ rfl rfl z.symm) (by decide)
  have hz2 : sz ≤ r2 := ((hD.2 3 _ rfl).resolve_left hq2).resolve_left hs2
  have h12 : r1 ≠ r2 := fun z => absurd (hD.1 2 3 _ _ rfl rfl z) (by decide)
  refine va_putF (ref := RX2) (ci := 3) (v := .ref r2) (ty := tyX2 12) (C := RX2) (T := TX2) (N := 13) hx hb hts in_X2 tyX2 tyX2_ok nmX2 hown hU.1 hP hD hS 0 rfl rfl 12 (by decide) (hts _ (lr_w (w := .fieldLink RX2 22 RX2 "reachedAt" "[I") (by decide +kernel) rfl)) (fun _ z => z) rfl hin rfl (tyX2_ok 12 (by decide)) rfl rfl (Nat.le_of_ble_eq_true rfl) dX2_init_25 (fun H25 locs25 hP hD hS => ?_)
  have hP : va_P G.1 vwCl [(q, .inr (3, [.null, .int 0, .int 0, .int 0, .int 0, .int 0, .int 0, .int 0, .int 0, .int (-1), .int 0, .ref r1, .ref r2])), (sp, .inr (1, fs0)), (r1, .inl (G.2.1 0, 4, .inl (fun _ => (0 : Int32)))), (r2, .inl (G.2.1 0, 4, .inl (fun _ => (0 : Int32))))] H25 := hP
  have hD : va_D (fun z => z = q ∨ z = sp ∨ sz ≤ z) [(q, .inr (3, [.null, .int 0, .int 0, .int 0, .int 0, .int 0, .int 0, .int 0, .int 0, .int (-1), .int 0, .ref r1, .ref r2])), (sp, .inr (1, fs0)), (r1, .inl (G.2.1 0, 4, .inl (fun _ => (0 : Int32)))), (r2, .inl (G.2.1 0, 4, .inl (fun _ => (0 : Int32))))] := hD
  refine lv_aload_n hx hb dX2_init_28 rfl (lv_at hl 0 rfl) ?_
  refine lv_aload_n hx hb dX2_init_29 rfl (lv_at hl 1 rfl) ?_
  refine va_putF (ref := RX2) (ci := 3) (v := .ref sp) (ty := tyX2 0) (C := RX2) (T := TX2) (N := 13) hx hb hts in_X2 tyX2 tyX2_ok nmX2 hown hU.1 hP hD hS 0 rfl rfl 0 (by decide) (hts _ (lr_w (w := .fieldLink RX2 25 RX2 "speaker" "LParleyRoom$Speaker;") (by decide +kernel) rfl)) (fun _ z => z) rfl hin rfl (tyX2_ok 0 (by decide)) rfl rfl (Nat.le_of_ble_eq_true rfl) dX2_init_30 (fun H30 locs30 hP hD hS => ?_)
  have hP : va_P G.1 vwCl [(q, .inr (3, [.ref sp, .int 0, .int 0, .int 0, .int 0, .int 0, .int 0, .int 0, .int 0, .int (-1), .int 0, .ref r1, .ref r2])), (sp, .inr (1, fs0)), (r1, .inl (G.2.1 0, 4, .inl (fun _ => (0 : Int32)))), (r2, .inl (G.2.1 0, 4, .inl (fun _ => (0 : Int32))))] H30 := hP
  have hD : va_D (fun z => z = q ∨ z = sp ∨ sz ≤ z) [(q, .inr (3, [.ref sp, .int 0, .int 0, .int 0, .int 0, .int 0, .int 0, .int 0, .int 0, .int (-1), .int 0, .ref r1, .ref r2])), (sp, .inr (1, fs0)), (r1, .inl (G.2.1 0, 4, .inl (fun _ => (0 : Int32)))), (r2, .inl (G.2.1 0, 4, .inl (fun _ => (0 : Int32))))] := hD
  refine lv_aload_n hx hb dX2_init_33 rfl (lv_at hl 0 rfl) ?_
  refine lv_iload_n hx hb dX2_init_34 rfl (lv_at hl 2 rfl) ?_
  refine va_putF (ref := RX2) (ci := 3) (v := .int v1) (ty := tyX2 1) (C := RX2) (T := TX2) (N := 13) hx hb hts in_X2 tyX2 tyX2_ok nmX2 hown hU.1 hP hD hS 0 rfl rfl 1 (by decide) (hts _ (lr_w (w := .fieldLink RX2 29 RX2 "act" "I") (by decide +kernel) rfl)) (fun _ z => z) rfl hin rfl (tyX2_ok 1 (by decide)) rfl rfl (Nat.le_of_ble_eq_true rfl) dX2_init_35 (fun H35 locs35 hP hD hS => ?_)
  have hP : va_P G.1 vwCl [(q, .inr (3, [.ref sp, .int v1, .int 0, .int 0, .int 0, .int 0, .int 0, .int 0, .int 0, .int (-1), .int 0, .ref r1, .ref r2])), (sp, .inr (1, fs0)), (r1, .inl (G.2.1 0, 4, .inl (fun _ => (0 : Int32)))), (r2, .inl (G.2.1 0, 4, .inl (fun _ => (0 : Int32))))] H35 := hP
  have hD : va_D (fun z => z = q ∨ z = sp ∨ sz ≤ z) [(q, .inr (3, [.ref sp, .int v1, .int 0, .int 0, .int 0, .int 0, .int 0, .int 0, .int 0, .int (-1), .int 0, .ref r1, .ref r2])), (sp, .inr (1, fs0)), (r1, .inl (G.2.1 0, 4, .inl (fun _ => (0 : Int32)))), (r2, .inl (G.2.1 0, 4, .inl (fun _ => (0 : Int32))))] := hD
  refine lv_aload_n hx hb dX2_init_38 rfl (lv_at hl 0 rfl) ?_
  refine lv_iload_n hx hb dX2_init_39 rfl (lv_at hl 3 rfl) ?_
  refine va_put (ref := RX2) (ci := 3) (v := .int v2) (ty := tyX2 6) (C := RX2) (T := TX2) (N := 13) hx hb hts in_X2 tyX2 tyX2_ok nmX2 hown hU.1 hP hD hS 0 rfl rfl 6 (by decide) (hts _ (lr_w (w := .fieldLink RX2 32 RX2 "about" "I") (by decide +kernel) rfl)) (fun _ z => z) rfl (tyX2_ok 6 (by decide)) rfl rfl (Nat.le_of_ble_eq_true rfl) dX2_init_40 (fun H40 locs40 hP hD hS => ?_)
  have hP : va_P G.1 vwCl [(q, .inr (3, [.ref sp, .int v1, .int 0, .int 0, .int 0, .int 0, .int v2, .int 0, .int 0, .int (-1), .int 0, .ref r1, .ref r2])), (sp, .inr (1, fs0)), (r1, .inl (G.2.1 0, 4, .inl (fun _ => (0 : Int32)))), (r2, .inl (G.2.1 0, 4, .inl (fun _ => (0 : Int32))))] H40 := hP
  have hD : va_D (fun z => z = q ∨ z = sp ∨ sz ≤ z) [(q, .inr (3, [.ref sp, .int v1, .int 0, .int 0, .int 0, .int 0, .int v2, .int 0, .int 0, .int (-1), .int 0, .ref r1, .ref r2])), (sp, .inr (1, fs0)), (r1, .inl (G.2.1 0, 4, .inl (fun _ => (0 : Int32)))), (r2, .inl (G.2.1 0, 4, .inl (fun _ => (0 : Int32))))] := hD
  refine lv_aload_n hx hb dX2_init_43 rfl (lv_at hl 0 rfl) ?_
  refine lv_iload hx hb dX2_init_44 (lv_at hl 4 rfl) ?_
  refine va_put (ref := RX2) (ci := 3) (v := .int v3) (ty := tyX2 7) (C := RX2) (T := TX2) (N := 13) hx hb hts in_X2 tyX2 tyX2_ok nmX2 hown hU.1 hP hD hS 0 rfl rfl 7 (by decide) (hts _ (lr_w (w := .fieldLink RX2 35 RX2 "value" "I") (by decide +kernel) rfl)) (fun _ z => z) rfl (tyX2_ok 7 (by decide)) rfl rfl (Nat.le_of_ble_eq_true rfl) dX2_init_46 (fun H46 locs46 hP hD hS => ?_)
  have hP : va_P G.1 vwCl [(q, .inr (3, [.ref sp, .int v1, .int 0, .int 0, .int 0, .int 0, .int v2, .int v3, .int 0, .int (-1), .int 0, .ref r1, .ref r2])), (sp, .inr (1, fs0)), (r1, .inl (G.2.1 0, 4, .inl (fun _ => (0 : Int32)))), (r2, .inl (G.2.1 0, 4, .inl (fun _ => (0 : Int32))))] H46 := hP
  have hD : va_D (fun z => z = q ∨ z = sp ∨ sz ≤ z) [(q, .inr (3, [.ref sp, .int v1, .int 0, .int 0, .int 0, .int 0, .int v2, .int v3, .int 0, .int (-1), .int 0, .ref r1, .ref r2])), (sp, .inr (1, fs0)), (r1, .inl (G.2.1 0, 4, .inl (fun _ => (0 : Int32)))), (r2, .inl (G.2.1 0, 4, .inl (fun _ => (0 : Int32))))] := hD
  refine lv_aload_n hx hb dX2_init_49 rfl (lv_at hl 0 rfl) ?_
  refine lv_iload hx hb dX2_init_50 (lv_at hl 5 rfl) ?_
  refine va_putF (ref := RX2) (ci := 3) (v := .int v4) (ty := tyX2 2) (C := RX2) (T := TX2) (N := 13) hx hb hts in_X2 tyX2 tyX2_ok nmX2 hown hU.1 hP hD hS 0 rfl rfl 2 (by decide) (hts _ (lr_w (w := .fieldLink RX2 38 RX2 "to" "I") (by decide +kernel) rfl)) (fun _ z => z) rfl hin rfl (tyX2_ok 2 (by decide)) rfl rfl (Nat.le_of_ble_eq_true rfl) dX2_init_52 (fun H52 locs52 hP hD hS => ?_)
  have hP : va_P G.1 vwCl [(q, .inr (3, [.ref sp, .int v1, .int v4, .int 0, .int 0, .int 0, .int v2, .int v3, .int 0, .int (-1), .int 0, .ref r1, .ref r2])), (sp, .inr (1, fs0)), (r1, .inl (G.2.1 0, 4, .inl (fun _ => (0 : Int32)))), (r2, .inl (G.2.1 0, 4, .inl (fun _ => (0 : Int32))))] H52 := hP
  have hD : va_D (fun z => z = q ∨ z = sp ∨ sz ≤ z) [(q, .inr (3, [.ref sp, .int v1, .int v4, .int 0, .int 0, .int 0, .int v2, .int v3, .int 0, .int (-1), .int 0, .ref r1, .ref r2])), (sp, .inr (1, fs0)), (r1, .inl (G.2.1 0, 4, .inl (fun _ => (0 : Int32)))), (r2, .inl (G.2.1 0, 4, .inl (fun _ => (0 : Int32))))] := hD
  refine lv_aload_n hx hb dX2_init_55 rfl (lv_at hl 0 rfl) ?_
  refine lv_iload hx hb dX2_init_56 (lv_at hl 6 rfl) ?_
  refine va_putF (ref := RX2) (ci := 3) (v := .int v5) (ty := tyX2 3) (C := RX2) (T := TX2) (N := 13) hx hb hts in_X2 tyX2 tyX2_ok nmX2 hown hU.1 hP hD hS 0 rfl rfl 3 (by decide) (hts _ (lr_w (w := .fieldLink RX2 41 RX2 "given" "I") (by decide +kernel) rfl)) (fun _ z => z) rfl hin rfl (tyX2_ok 3 (by decide)) rfl rfl (Nat.le_of_ble_eq_true rfl) dX2_init_58 (fun H58 locs58 hP hD hS => ?_)
  have hP : va_P G.1 vwCl [(q, .inr (3, [.ref sp, .int v1, .int v4, .int v5, .int 0, .int 0, .int v2, .int v3, .int 0, .int (-1), .int 0, .ref r1, .ref r2])), (sp, .inr (1, fs0)), (r1, .inl (G.2.1 0, 4, .inl (fun _ => (0 : Int32)))), (r2, .inl (G.2.1 0, 4, .inl (fun _ => (0 : Int32))))] H58 := hP
  have hD : va_D (fun z => z = q ∨ z = sp ∨ sz ≤ z) [(q, .inr (3, [.ref sp, .int v1, .int v4, .int v5, .int 0, .int 0, .int v2, .int v3, .int 0, .int (-1), .int 0, .ref r1, .ref r2])), (sp, .inr (1, fs0)), (r1, .inl (G.2.1 0, 4, .inl (fun _ => (0 : Int32)))), (r2, .inl (G.2.1 0, 4, .inl (fun _ => (0 : Int32))))] := hD
  refine lv_aload_n hx hb dX2_init_61 rfl (lv_at hl 0 rfl) ?_
  refine lv_aload_n hx hb dX2_init_62 rfl (lv_at hl 1 rfl) ?_
  refine va_get (ref := RX0) (ci := 1) (C := RX0) (T := TX0) (N := 14) hx hb hts in_X0 hown hU.1 hP 1 rfl rfl 3 (by decide) (hts _ (lr_w (w := .fieldLink RX2 44 RX0 "speaks" "I") (by decide +kernel) rfl)) (fun _ z => z) hfs dX2_init_63 ?_
  refine va_putF (ref := RX2) (ci := 3) (v := .int lg) (ty := tyX2 4) (C := RX2) (T := TX2) (N := 13) hx hb hts in_X2 tyX2 tyX2_ok nmX2 hown hU.1 hP hD hS 0 rfl rfl 4 (by decide) (hts _ (lr_w (w := .fieldLink RX2 49 RX2 "language" "I") (by decide +kernel) rfl)) (fun _ z => z) rfl hin rfl (tyX2_ok 4 (by decide)) rfl rfl (Nat.le_of_ble_eq_true rfl) dX2_init_66 (fun H66 locs66 hP hD hS => ?_)
  have hP : va_P G.1 vwCl [(q, .inr (3, [.ref sp, .int v1, .int v4, .int v5, .int lg, .int 0, .int v2, .int v3, .int 0, .int (-1), .int 0, .ref r1, .ref r2])), (sp, .inr (1, fs0)), (r1, .inl (G.2.1 0, 4, .inl (fun _ => (0 : Int32)))), (r2, .inl (G.2.1 0, 4, .inl (fun _ => (0 : Int32))))] H66 := hP
  have hD : va_D (fun z => z = q ∨ z = sp ∨ sz ≤ z) [(q, .inr (3, [.ref sp, .int v1, .int v4, .int v5, .int lg, .int 0, .int v2, .int v3, .int 0, .int (-1), .int 0, .ref r1, .ref r2])), (sp, .inr (1, fs0)), (r1, .inl (G.2.1 0, 4, .inl (fun _ => (0 : Int32)))), (r2, .inl (G.2.1 0, 4, .inl (fun _ => (0 : Int32))))] := hD
  exact W.vret hx hb hr (fun t ht hW => ⟨⟨(r1, r2), rfl, trivial, hz1, hz2, h12, (by subst ht; exact hP)⟩, hS.F ht⟩) hS.2.2 dX2_init_69
theorem pn_lv0 {N : Nat → Nat} {n : pa_Nm} (h3 : n ≠ (3, N 0)) (h1 : n ≠ (231, N 0)) (h2 : n ≠ (232, N 0)) : pa_lv (pa_un N 0 (N 0 + 1)) n ↔ pa_lv N n := by
  obtain ⟨k, i⟩ := n
  have e0 : pa_un N 0 (N 0 + 1) 0 = N 0 + 1 := if_pos rfl
  have e1 : pa_un N 0 (N 0 + 1) 1 = N 1 := if_neg (by decide)
  have e8 : pa_un N 0 (N 0 + 1) 8 = N 8 := if_neg (by decide)
  have e9 : pa_un N 0 (N 0 + 1) 9 = N 9 := if_neg (by decide)
  have e5 : pa_un N 0 (N 0 + 1) (5 + i) = N (5 + i) := if_neg (by omega)
  have el : ∀ q, q ≠ 3 → (pa_lo (pa_un N 0 (N 0 + 1)) q i ↔ pa_lo N q i) := fun q hq => by
    unfold pa_lo
    rw [e1, if_neg hq, if_neg hq]
  have e3 : i ≠ N 0 → (pa_lo (pa_un N 0 (N 0 + 1)) 3 i ↔ pa_lo N 3 i) := fun hi => by
    show (i < pa_un N 0 (N 0 + 1) 0) ↔ i < N 0
    rw [e0]
    omega
  unfold pa_lv
  dsimp only
  rw [e8, e9, e5]
  by_cases c3 : k = 3
  · subst c3
    exact e3 (fun z => h3 (by rw [z]))
  by_cases c0 : k = 0
  · rw [if_pos c0, if_pos c0]
  rw [if_neg c0, if_neg c0]
  by_cases c1 : k < 6
  · rw [if_pos c1, if_pos c1]
    exact el k c3
  rw [if_neg c1, if_neg c1]
  by_cases c6 : k = 6
  · rw [if_pos c6, if_pos c6]
  rw [if_neg c6, if_neg c6]
  by_cases c7 : k = 7
  · rw [if_pos c7, if_pos c7]
  rw [if_neg c7, if_neg c7]
  by_cases c8 : k = 8
  · rw [if_pos c8, if_pos c8]
  rw [if_neg c8, if_neg c8]
  by_cases c9 : k = 9
  · rw [if_pos c9, if_pos c9]
  rw [if_neg c9, if_neg c9]
  by_cases cf : (k - 100) / 40 = 3
  · by_cases cr : k = 231 ∨ k = 232
    · have hi : i ≠ N 0 := fun z => by
        subst z
        rcases cr with rfl | rfl
        · exact h1 rfl
        · exact h2 rfl
      rw [cf]
      exact and_congr Iff.rfl (and_congr Iff.rfl (e3 hi))
    · have hz : pa_ln (k - 100) = 0 := by
        have hh : ∀ q, q < 40 → q ≠ 11 → q ≠ 12 → pa_ln (120 + q) = 0 := by decide +kernel
        have := hh (k - 100 - 120) (by omega) (by omega) (by omega)
        rwa [show 120 + (k - 100 - 120) = k - 100 by omega] at this
      constructor
      · exact fun z => absurd hz z.1
      · exact fun z => absurd hz z.1
  · exact and_congr Iff.rfl (and_congr Iff.rfl (el _ cf))
/-- the heap behind the making of new names, some old cells having been written with what they held -/
theorem pn_R2 {G : pa_G} {ad ad' : pa_Nm → Nat} {h h' : pa_H} {H H1 : Heap} {Fr : pa_Nm → Prop} (hR : pa_R G ad h H) (had : ∀ n, ¬ Fr n → ad' n = ad n)
    (hold : ∀ n, pa_lv h'.2.2.1 n → ¬ Fr n → pa_lv h.2.2.1 n ∧ va_at G.1 vwCl (ad n, pa_ce G ad' h' n) H1)
    (hnew : ∀ n, pa_lv h'.2.2.1 n → Fr n → va_at G.1 vwCl (ad' n, pa_ce G ad' h' n) H1 ∧ G.2.2.1 ≤ ad' n)
    (hinj : ∀ n m, pa_lv h'.2.2.1 n → pa_lv h'.2.2.1 m → Fr n → ad' n = ad' m → n = m)
    (hz : H1[G.2.2.2]? = H[G.2.2.2]?) (hsz : H.size ≤ H1.size) : pa_R G ad' h' H1 := by
  refine ⟨fun n hn => ?_, fun n m hn hm e => ?_, fun n hn => ?_, (by rw [hz]; exact hR.2.2.2.1), hR.2.2.2.2.1, Nat.le_trans hR.2.2.2.2.2 hsz⟩
  · by_cases c : Fr n
    · exact (hnew n hn c).1
    · rw [had n c]
      exact (hold n hn c).2
  · by_cases c : Fr n
    · exact hinj n m hn hm c e
    · by_cases c2 : Fr m
      · exact (hinj m n hm hn c2 e.symm).symm
      · rw [had n c, had m c2] at e
        exact hR.2.1 n m (hold n hn c).1 (hold m hm c2).1 e
  · by_cases c : Fr n
    · exact (hnew n hn c).2
    · rw [had n c]
      exact hR.2.2.1 n (hold n hn c).1
theorem pn_ty {f : Nat} (h : pa_ty f = 2 ∨ pa_ty f = 4) : f = 47 ∨ f = 50 ∨ f = 51 := by
  by_cases c : f < 240
  · have hh : ∀ f, f < 240 → pa_ty f = 2 ∨ pa_ty f = 4 → f = 47 ∨ f = 50 ∨ f = 51 := by decide +kernel
    exact hh f c h
  · have : pa_ty f = 99 := by
      unfold pa_ty
      rw [List.getD_eq_getElem?_getD, List.getElem?_eq_none (by show 200 ≤ f - 40; omega)]
      rfl
    omega
/-- references beside the rows' ends are none -/
def pn_nK (K : Nat → Nat → Nat → Int32) : Nat → Nat → Nat → Int32 := fun f i j => if (f = 50 ∨ f = 51) ∧ 10 ≤ j then -1 else K f i j
theorem pn_nK_lt {K : Nat → Nat → Nat → Int32} {f i j : Nat} (h : j < 10) : pn_nK K f i j = K f i j := if_neg (by omega)
theorem pn_nK_ne {K : Nat → Nat → Nat → Int32} {f i j : Nat} (h : f ≠ 50 ∧ f ≠ 51) : pn_nK K f i j = K f i j := if_neg (by omega)
theorem pn_arr {c : ClassId} {n : Nat} {f g : Nat → Value} (h : ∀ j, j < n → f j = g j) : arrV c n f = arrV c n g := by
  have e : (fun j : Fin n => f j.val) = fun j => g j.val := funext fun j => h j.val j.isLt
  unfold arrV
  rw [e]
theorem pn_nR {G : pa_G} {ad : pa_Nm → Nat} {K : Nat → Nat → Nat → Int32} {r : (Nat → Nat → Int32) × ((Nat → Nat) × (Nat → Int64))} {H : Heap} (h : pa_R G ad (K, r) H) : pa_R G ad (pn_nK K, r) H := by
  refine ⟨fun n hn => ?_, h.2⟩
  have h1 := h.1 n hn
  by_cases c : n.1 = 150 ∨ n.1 = 151
  · obtain ⟨k, i⟩ := n
    have key : ∀ f, f = 50 ∨ f = 51 → va_at G.1 vwCl (ad (100 + f, i), pa_ce G ad (K, r) (100 + f, i)) H → va_at G.1 vwCl (ad (100 + f, i), pa_ce G ad (pn_nK K, r) (100 + f, i)) H := fun f hf h1 => by
      rw [pa_ce_ar] at h1 ⊢
      have hty : pa_ty f = 4 := by rcases hf with rfl | rfl <;> rfl
      have hln : pa_ln f = 10 := by rcases hf with rfl | rfl <;> rfl
      have e1 : ∀ K', pa_av ad ((K', r) : pa_H) f i = pa_rw (fun j => (pa_rc 3 (K' f i j)).map ad) := fun K' => by
        unfold pa_av
        rw [if_neg (by omega), if_pos hty]
      rw [e1, hln] at h1 ⊢
      have e2 : vp_cell (G.2.1 (pa_ac f)) (10, pa_rw (fun j => (pa_rc 3 (pn_nK K f i j)).map ad)) = vp_cell (G.2.1 (pa_ac f)) (10, pa_rw (fun j => (pa_rc 3 (K f i j)).map ad)) := by
        rw [vp_cell_q, vp_cell_q]
        exact pn_arr fun j hj => by rw [pn_nK_lt hj]
      exact (show va_at G.1 vwCl (ad (100 + f, i), .inl (G.2.1 (pa_ac f), 10, pa_rw (fun j => (pa_rc 3 (K f i j)).map ad))) H from h1).trans (congrArg some e2.symm)
    rcases c with c | c
    · dsimp only at c
      subst c
      exact key 50 (Or.inl rfl) h1
    · dsimp only at c
      subst c
      exact key 51 (Or.inr rfl) h1
  · have e : pa_ce G ad (pn_nK K, r) n = pa_ce G ad (K, r) n := by
      obtain ⟨k, i⟩ := n
      dsimp only at c
      have e0 : ∀ f o, pn_nK K f o 0 = K f o 0 := fun f o => pn_nK_lt (by decide)
      have e2 : ∀ o j, pn_nK K 163 o j = K 163 o j := fun o j => pn_nK_ne (by decide)
      by_cases ck : k - 100 = 50 ∨ k - 100 = 51
      · exact absurd c (fun z => z (by omega))
      · have e3 : pn_nK K (k - 100) i = K (k - 100) i := funext fun j => pn_nK_ne (by omega)
        unfold pa_ce pa_fs pa_fv pa_le pa_av
        dsimp only
        simp only [e0, e2, e3]
    rw [e]
    exact h1
section NEWT
variable {G : pa_G} {x : pa_X} {cc : ByteArray} {nL : Nat} {d mc ms : Nat} {K : Nat → Nat → Nat → Int32} {S : Nat → Nat → Int32} {N : Nat → Nat} {O : Nat → Int64} {a b pc : Nat} {lo : List (Option pa_V)}
theorem pr_norm {st : List pa_V} (kk : pa_w G x nL (pn_nK K, S, N, O) a b pc lo st) : pa_w G x nL (K, S, N, O) a b pc lo st := by
  obtain ⟨p, l, e, R, s, m, args, below, meth, c, Q, h0, ad0, al⟩ := x
  intro ad H locs ls q1 q2 q3 q4
  exact kk ad H locs ls (pn_nR q1) q2 q3 q4
theorem pr_newT {st : List pa_V} (C : pa_C G x cc nL RX3 d mc ms) (hal : x.2.2.2.2.2.2.2.2.2.2.2.2.2 = true) (hN8 : N 8 = 0) (hst : pa_okl N st) (hlo : pa_oko N lo) (ha : a + 1 ≤ mc) (hb : b + 13 ≤ ms) (dg : decode cc pc = .ok (.new 106, 3))
    (kk : pa_w G x nL (K, S, pa_un N 8 1, O) (a + 1) (b + 13) (pc + 3) lo (pv_o 6 0 :: st)) : pa_w G x nL (K, S, N, O) a b pc lo st := by
  obtain ⟨p, l, e, R, s, m, args, below, meth, c, Q, h0, ad0, al⟩ := x
  intro ad H locs ls q1 q2 q3 q4
  obtain ⟨hx, hb9, hml, hown, hts, hU, hf, hlo9, hc9, hs9, -, hZ⟩ := C
  have hal : al = true := hal
  have hKn := hU.1.1 3 (RX2, TX2, 13) rfl
  refine W.newcK hx hb9 hown (hts _ (pa_wi (w := .classLink RX3 106 RX2) (by decide +kernel) rfl)) (hts _ (pa_wi (w := .instantiable RX2 13) (by decide +kernel) rfl)) (hts _ (pa_wi (w := .initialized RX2) (by decide +kernel) rfl)) rfl dg (by omega) (by omega) hKn.2.1 rfl fun H1 kC hkC e1 z1 o1 => ?_
  obtain ⟨ad', had6, had⟩ : ∃ ad' : pa_Nm → Nat, ad' (6, 0) = H.size ∧ ∀ n, ¬ n = (6, 0) → ad' n = ad n := ⟨fun n => if n = (6, 0) then H.size else ad n, if_pos rfl, fun n hn => if_neg hn⟩
  have hlt : ∀ n, pa_lv N n → ad n < H.size := fun n hn => (q1.1 n hn).lt
  have hno : ∀ n, pa_lv N n → ¬ n = (6, 0) := fun n hn z => by
    subst z
    have : (0 : Nat) = 0 ∧ N 8 = 1 := hn
    omega
  have hl6 : ∀ n, pa_lv (pa_un N 8 1) n → ¬ n = (6, 0) → pa_lv N n := fun n hn hz => by
    by_cases c6 : n.1 = 6
    · obtain ⟨k, i⟩ := n
      dsimp only at c6
      subst c6
      have : i = 0 ∧ pa_un N 8 1 8 = 1 := hn
      exact absurd (by rw [this.1]) hz
    · exact (pn_lv8 c6).mp hn
  have hag : pa_ag (K, S, N, O) ad ad' := fun n _ hn => had n (hno n hn)
  have hR : pa_R G ad' (K, S, pa_un N 8 1, O) H1 := by
    refine pn_R (Fr := fun n => n = (6, 0)) q1 had (fun n hn hz => ?_) (fun n hn hz => ?_) (fun n m hn hm hz e => ?_) (o1 _ (by have := q1.2.2.2.2; omega)) (by omega)
    · have hn0 := hl6 n hn hz
      obtain ⟨g1, g2, g3, g4⟩ := pn_lvf hn0
      refine ⟨hn0, pn_ce (Fr := fun n => n = (6, 0)) (h' := (K, S, pa_un N 8 1, O)) (h := (K, S, N, O)) (fun o => pn_k (by decide)) (fun o => pn_k (by decide)) (fun o => pn_k (by decide)) (pn_k (by decide)) (fun f i _ => pn_k (by omega)) had (fun _ _ _ _ => rfl) rfl rfl (fun k h1 h2 => if_neg (by omega)) hz (fun f hf h4 => pn_k (by have := g4 f hf; omega)) (fun f j _ _ w hw => ?_) (fun j _ _ => ?_) g1 g2 g3, o1 _ (hlt n hn0)⟩
      · rw [(pn_rc hw).1]
        exact pn_k (by decide)
      · exact fun z => by
          have := pa_le_k (K, S, N, O) n.2 j
          rw [z] at this
          rcases this with w | w <;> cases w
    · subst hz
      rw [had6, pa_ce_6]
      exact ⟨⟨(RX2, TX2, 13), rfl, (u_born tyX2 hts in_X2 hKn hkC e1 tyX2_ok).to (fun j hj => by
        rcases (show j = 0 ∨ j = 1 ∨ j = 2 ∨ j = 3 ∨ j = 4 ∨ j = 5 ∨ j = 6 ∨ j = 7 ∨ j = 8 ∨ j = 9 ∨ j = 10 ∨ j = 11 ∨ j = 12 by omega) with rfl | rfl | rfl | rfl | rfl | rfl | rfl | rfl | rfl | rfl | rfl | rfl | rfl <;> rfl)⟩, q1.2.2.2.2.2⟩
    · subst hz
      by_cases c : m = (6, 0)
      · exact c.symm
      · rw [had6, had m c] at e
        have := hlt m (hl6 m hm c)
        omega
  have k2 := kk ad' H1 locs ls hR ⟨fun n h8 hn => (had n (hno n (q2.2.2 n hn))).trans (q2.1 n h8 hn), fun z => (by rw [hal] at z; cases z), fun n hn => (pn_lv8 (fun z => hno n (q2.2.2 n hn) (by
    obtain ⟨k, i⟩ := n
    dsimp only at z
    subst z
    have : i = 0 ∧ N 8 = 1 := q2.2.2 _ hn
    omega))).mpr (q2.2.2 n hn)⟩ ⟨Nat.le_trans q3.1 (by omega), fun q h1 h2 => (o1 q (Nat.lt_of_lt_of_le h1 q3.1)).trans (q3.2.1 q h1 h2), q3.2.2⟩ (pa_Lo_ok hag hlo q4)
  rw [List.map_cons, pa_okl_tr hag hst] at k2
  have e7 : pa_tr ad' (pv_o 6 0) = .ref H.size := congrArg Value.ref had6
  rw [e7] at k2
  exact k2
/-- what a new turn holds -/
def pn_tv (k : Nat) (v1 v2 v3 v4 v5 lg : Int32) (f : Nat) : Int32 := [nI k, v1, v4, v5, lg, 0, v2, v3, 0, -1, 0, 0, 0].getD (f - 120) 0
def pn_tK (K : Nat → Nat → Nat → Int32) (D k : Nat) (v1 v2 v3 v4 v5 : Int32) : Nat → Nat → Nat → Int32 := fun f i j => if i = D ∧ f / 40 = 3 then pn_tv k v1 v2 v3 v4 v5 (K 43 k 0) f else K f i j
theorem pr_initT {rest : List pa_V} {k : Nat} {v1 v2 v3 v4 v5 : Int32} (C : pa_C G x cc nL RX3 d mc ms) (hal : x.2.2.2.2.2.2.2.2.2.2.2.2.2 = true) (hh0 : x.2.2.2.2.2.2.2.2.2.2.2.1.2.2.1 8 = 0) (hN8 : N 8 = 0) (hk4 : k < 4) (hel : ∀ l j, l < 3 → j < N (2 + l) → pa_lv N (pa_le (K, S, N, O) l j)) (href : ∀ f i j, (f = 47 ∧ j = 0) ∨ f = 50 ∨ f = 51 → i < 4 → K f i j < 0 ∨ (K f i j).toNatClampNeg < N 0) (hst : pa_okl N rest) (hlo : pa_oko N lo) (hd : 3 ≤ d) (hr : rest.length ≤ 3) (dg : decode cc pc = .ok (.invokespecial 260, 3))
    (ha : a + 2 ≤ mc) (hb : b + 8 ≤ ms) (kk : pa_w G x nL (pn_tK K (N 0) k v1 v2 v3 v4 v5, S, pa_un N 0 (N 0 + 1), O) (a + 2) (b + 8) (pc + 3) lo (pv_o 3 (N 0) :: rest)) : pa_w G x nL (K, S, pa_un N 8 1, O) a b pc lo (pv_i v5 :: pv_i v4 :: pv_i v3 :: pv_i v2 :: pv_i v1 :: pv_o 1 k :: pv_o 6 0 :: pv_o 6 0 :: rest) := by
  obtain ⟨p, l, e, R, s, m, args, below, meth, c, Q, h0, ad0, al⟩ := x
  intro ad H locs ls q1 q2 q3 q4
  obtain ⟨hx, hb9, hml, hown, hts, hU, hf, hlo9, hc9, hs9, -, hZ⟩ := C
  have hal : al = true := hal
  have hh0 : h0.2.2.1 8 = 0 := hh0
  have hl60 : pa_lv (pa_un N 8 1) (6, 0) := ⟨rfl, rfl⟩
  have hl1k : pa_lv (pa_un N 8 1) (1, k) := hk4
  have h6 := q1.1 (6, 0) hl60
  rw [pa_ce_6] at h6
  have h1 := q1.1 (1, k) hl1k
  rw [pa_ce_ob G ad _ k (by decide) (by decide)] at h1
  have h61 : ad (6, 0) ≠ ad (1, k) := fun z => absurd (q1.2.1 _ _ hl60 hl1k z) (pn_k (by decide))
  have cw : CallB R s args RX3 260 mX2_init.1 mX2_init.2.1 mX2_init.2.2.1 mX2_init.2.2.2 (pa_ws mX2_init) (pa_rm 2 2 8) 2 8 6 := pa_cb (y := mX2_init) hts hf hlo9 hd (pa_wi (by decide +kernel) rfl) (pa_wi (by decide +kernel) rfl) (pa_wi (by decide +kernel) rfl) (by decide) (by decide +kernel) (by decide)
  have hrun := va_runI (e := e) (p := p) (l := l) (R := R) (s := s) (below := below) (meth := meth) (locs := locs) (cells := a) (slots := b) (g := F0 m pc ls (.int v5 :: .int v4 :: .int v3 :: .int v2 :: .int v1 :: .ref (ad (1, k)) :: .ref (ad (6, 0)) :: .ref (ad (6, 0)) :: rest.map (pa_tr ad))) (b := ad (6, 0)) (As := [.ref (ad (1, k)), .int v1, .int v2, .int v3, .int v4, .int v5]) (rest := .ref (ad (6, 0)) :: rest.map (pa_tr ad)) ⟨hx, hb9, hml, hown, hts⟩ (lr_turnInit G l H.size (ad (6, 0)) (ad (1, k)) (pa_fs ad (K, S, pa_un N 8 1, O) 1 k 14) v1 v2 v3 v4 v5 (K 43 k 0) rfl h61) ⟨cw, rfl, hts _ (pa_wi (w := .instanceMethod yX2_init) (by decide +kernel) rfl)⟩ ⟨lr_bl, fun U hU9 hW => lr_pre hU hZ q3 (lr_p2 h6 h1) (fun _ z => z.elim) hU9 hW⟩ rfl rfl q4.1 rfl (pa_room ad (pv_o 6 0 :: rest) (by show rest.length + 1 ≤ 4; omega)) dg ⟨by omega, by omega⟩
  have hno6 : ∀ n, pa_lv N n → n.1 ≠ 6 := fun n hn z => by
    obtain ⟨k, i⟩ := n
    dsimp only at z
    subst z
    have : i = 0 ∧ N 8 = 1 := hn
    omega
  have hlt : ∀ n, pa_lv N n → ad n < H.size := fun n hn => (q1.1 n ((pn_lv8 (hno6 n hn)).mpr hn)).lt
  have hin : ∀ n, pa_lv N n → ad n ≠ ad (6, 0) := fun n hn z => hno6 n hn (by rw [q1.2.1 n (6, 0) ((pn_lv8 (hno6 n hn)).mpr hn) hl60 z])
  have hlt6 : ad (6, 0) < H.size := (q1.1 _ hl60).lt
  intro T hT X
  obtain ⟨v9, st₀, t, T', L, g0, X', hL, e1, e2, ⟨⟨⟨r1, r2⟩, hoc, -, hz1, hz2, h12, hP⟩, hF⟩, hst9⟩ := hrun T hT X
  dsimp only at hz1 hz2 h12 hP
  cases v9 with
  | some _ => cases hoc
  | none =>
  have hA9 : ∀ q, (q = ad (6, 0) ∨ q = ad (1, k) ∨ H.size ≤ q) → pa_A G q := fun q z => by
    rcases z with z | z | z
    · rw [z]
      exact q1.2.2.1 _ hl60
    · rw [z]
      exact q1.2.2.1 _ hl1k
    · exact Nat.le_trans q1.2.2.2.2.2 z
  obtain ⟨k1, k2, k3⟩ := vx_keep g0 e1 q3 (A0 := pa_A G) (fun q _ z => hA9 q z) hA9 hL hF
  rw [← e1] at hP
  let Fr : pa_Nm → Prop := fun n => n = (3, N 0) ∨ n = (231, N 0) ∨ n = (232, N 0)
  obtain ⟨ad', ha3, ha1, ha2, had⟩ : ∃ ad' : pa_Nm → Nat, ad' (3, N 0) = ad (6, 0) ∧ ad' (231, N 0) = r1 ∧ ad' (232, N 0) = r2 ∧ ∀ n, ¬ Fr n → ad' n = ad n := by
    refine ⟨fun n => if n = (3, N 0) then ad (6, 0) else if n = (231, N 0) then r1 else if n = (232, N 0) then r2 else ad n, if_pos rfl, ?_, ?_, fun n hn => ?_⟩
    · dsimp only
      rw [if_neg (pn_k (by decide)), if_pos rfl]
    · dsimp only
      rw [if_neg (pn_k (by decide)), if_neg (pn_k (by decide)), if_pos rfl]
    · dsimp only
      rw [if_neg (fun z => hn (Or.inl z)), if_neg (fun z => hn (Or.inr (Or.inl z))), if_neg (fun z => hn (Or.inr (Or.inr z)))]
  have hno : ∀ n, pa_lv N n → ¬ Fr n := fun n hn z => by
    rcases z with z | z | z <;> subst z
    · have : N 0 < N 0 := hn
      omega
    · have h3 : pa_lo N ((231 - 100) / 40) (N 0) := hn.2.2
      rw [show (231 - 100) / 40 = 3 from rfl] at h3
      have : N 0 < N 0 := h3
      omega
    · have h3 : pa_lo N ((232 - 100) / 40) (N 0) := hn.2.2
      rw [show (232 - 100) / 40 = 3 from rfl] at h3
      have : N 0 < N 0 := h3
      omega
  have hold : ∀ n, pa_lv (pa_un N 0 (N 0 + 1)) n → ¬ Fr n → pa_lv N n := fun n hn hz => (pn_lv0 (fun z => hz (Or.inl z)) (fun z => hz (Or.inr (Or.inl z))) (fun z => hz (Or.inr (Or.inr z)))).mp hn
  have hag : pa_ag (K, S, N, O) ad ad' := fun n _ hn => had n (hno n hn)
  have hFk : ∀ {q o : Nat}, q ≠ 3 → q ≠ 231 → q ≠ 232 → ¬ Fr (q, o) := fun h3 h1 h2 z => by
    rcases z with z | z | z
    · exact h3 (congrArg Prod.fst z)
    · exact h1 (congrArg Prod.fst z)
    · exact h2 (congrArg Prod.fst z)
  have hR : pa_R G ad' (pn_tK K (N 0) k v1 v2 v3 v4 v5, S, pa_un N 0 (N 0 + 1), O) T'.heap := by
    refine pn_R2 (Fr := Fr) q1 had (fun n hn hz => ?_) (fun n hn hz => ?_) (fun n m' hn hm hz e9 => ?_) (k2 _ (by have := q1.2.2.2.2; omega) (fun z => by
      have hg := q1.2.2.2.2
      have := q1.2.2.1 _ hl60
      have := q1.2.2.1 _ hl1k
      have z : G.2.2.2 = ad (6, 0) ∨ G.2.2.2 = ad (1, k) ∨ H.size ≤ G.2.2.2 := z
      omega)) k1
    · have hn0 : pa_lv N n := hold n hn hz
      obtain ⟨g1, g2, g3, g4⟩ := pn_lvf hn0
      have hce := pn_ce (G := G) (Fr := Fr) (ad := ad) (ad' := ad') (h' := (pn_tK K (N 0) k v1 v2 v3 v4 v5, S, pa_un N 0 (N 0 + 1), O)) (h := (K, S, pa_un N 8 1, O)) (z := n) (fun o => hFk (by decide) (by decide) (by decide)) (fun o => hFk (by decide) (by decide) (by decide)) (fun o => hFk (by decide) (by decide) (by decide)) (hFk (by decide) (by decide) (by decide)) (fun f i hf z => (by
        have hq : ∀ q, (q = 131 ∨ q = 132) → 100 + f = 100 + q → i = N 0 → False := fun q hq e ei => hf (Or.inl (by rw [ei, show f / 40 = 3 by omega]))
        rcases z with z | z | z
        · have : 100 + f = 3 := congrArg Prod.fst z
          omega
        · exact hq 131 (Or.inl rfl) (congrArg Prod.fst z) (congrArg Prod.snd z)
        · exact hq 132 (Or.inr rfl) (congrArg Prod.fst z) (congrArg Prod.snd z))) had (fun f i j hf => if_neg (fun z => hf (Or.inl (by rw [z.1, z.2])))) rfl rfl (fun k h1 h2 => (if_neg (by omega)).trans (if_neg (by omega)).symm) hz (fun f hf h4 z => by
        have g9 := (g4 f hf).2.2
        have h40 : f / 40 ≤ 5 := (g4 f hf).2.1
        rcases z with z | z | z
        · have z2 : f / 40 = 3 := congrArg Prod.fst z
          have z3 : n.2 = N 0 := congrArg Prod.snd z
          rw [z2, z3] at g9
          have : N 0 < N 0 := g9
          omega
        · have z2 : f / 40 = 231 := congrArg Prod.fst z
          omega
        · have z2 : f / 40 = 232 := congrArg Prod.fst z
          omega) (fun f j hf hz9 w hw => by
        rw [(pn_rc hw).1]
        have hi4 : n.2 < 4 := by
          have hf3 := pn_ty (hf.elim (fun q => Or.inl q.1) Or.inr)
          rcases hz9 with hz9 | hz9
          · have e1 : n.1 = 1 := by omega
            obtain ⟨n1, n2⟩ := n
            dsimp only at e1
            subst e1
            exact hn0
          · have g9 := (g4 f hz9).2.2
            rw [show f / 40 = 1 by omega] at g9
            exact g9
        have hr9 := href f n.2 j (by
          have hf3 := pn_ty (hf.elim (fun q => Or.inl q.1) Or.inr)
          rcases hf with ⟨hf, hj⟩ | hf
          · rcases hf3 with e | e | e
            · exact Or.inl ⟨e, hj⟩
            · exact Or.inr (Or.inl e)
            · exact Or.inr (Or.inr e)
          · rcases hf3 with e | e | e
            · subst e
              exact absurd hf (by decide)
            · exact Or.inr (Or.inl e)
            · exact Or.inr (Or.inr e)) hi4
        intro z
        rcases z with z | z | z
        · have z3 := congrArg Prod.snd z
          dsimp only at z3
          exact hr9.elim (fun q => (pn_rc hw).2 q) (fun q => by omega)
        · have z1 : (3 : Nat) = 231 := congrArg Prod.fst z
          omega
        · have z1 : (3 : Nat) = 232 := congrArg Prod.fst z
          omega) (fun j h8 hj => hno _ (hel n.2 j (g1 h8) (by have hj' : j < pa_un N 8 1 (2 + n.2) := hj; have := g1 h8; rwa [show pa_un N 8 1 (2 + n.2) = N (2 + n.2) from if_neg (by omega)] at hj'))) g1 g2 g3
      refine ⟨(pn_lv8 (hno6 n hn0)).mpr hn0, ?_⟩
      rw [hce]
      by_cases c1 : n = (1, k)
      · subst c1
        rw [pa_ce_ob G ad _ k (by decide) (by decide)]
        exact hP 1 _ rfl
      · refine (q1.1 n ((pn_lv8 (hno6 n hn0)).mpr hn0)).kept (k2 _ (hlt n hn0) (fun z => ?_))
        rcases z with z | z | z
        · exact hin n hn0 z
        · exact c1 (q1.2.1 n (1, k) ((pn_lv8 (hno6 n hn0)).mpr hn0) hl1k z)
        · have := hlt n hn0
          have z : H.size ≤ ad n := z
          omega
    · have hKf : ∀ f j, f / 40 = 3 → pn_tK K (N 0) k v1 v2 v3 v4 v5 f (N 0) j = pn_tv k v1 v2 v3 v4 v5 (K 43 k 0) f := fun f j hf => if_pos ⟨rfl, hf⟩
      rcases hz with hz | hz | hz <;> subst hz
      · rw [ha3]
        refine ⟨?_, q1.2.2.1 _ hl60⟩
        have hc : pa_ce G ad' (pn_tK K (N 0) k v1 v2 v3 v4 v5, S, pa_un N 0 (N 0 + 1), O) (3, N 0) = .inr (3, [.ref (ad' (1, (pn_tK K (N 0) k v1 v2 v3 v4 v5 120 (N 0) 0).toNatClampNeg)), .int (pn_tK K (N 0) k v1 v2 v3 v4 v5 121 (N 0) 0), .int (pn_tK K (N 0) k v1 v2 v3 v4 v5 122 (N 0) 0), .int (pn_tK K (N 0) k v1 v2 v3 v4 v5 123 (N 0) 0), .int (pn_tK K (N 0) k v1 v2 v3 v4 v5 124 (N 0) 0), .int (pn_tK K (N 0) k v1 v2 v3 v4 v5 125 (N 0) 0), .int (pn_tK K (N 0) k v1 v2 v3 v4 v5 126 (N 0) 0), .int (pn_tK K (N 0) k v1 v2 v3 v4 v5 127 (N 0) 0), .int (pn_tK K (N 0) k v1 v2 v3 v4 v5 128 (N 0) 0), .int (pn_tK K (N 0) k v1 v2 v3 v4 v5 129 (N 0) 0), .int (pn_tK K (N 0) k v1 v2 v3 v4 v5 130 (N 0) 0), .ref (ad' (231, N 0)), .ref (ad' (232, N 0))]) := by
          rw [pa_ce_ob G ad' _ (N 0) (by decide) (by decide)]
          rfl
        rw [hc, hKf 120 0 rfl, hKf 121 0 rfl, hKf 122 0 rfl, hKf 123 0 rfl, hKf 124 0 rfl, hKf 125 0 rfl, hKf 126 0 rfl, hKf 127 0 rfl, hKf 128 0 rfl, hKf 129 0 rfl, hKf 130 0 rfl, ha1, ha2]
        have e120 : (pn_tv k v1 v2 v3 v4 v5 (K 43 k 0) 120).toNatClampNeg = k := nI_clamp (by omega)
        rw [e120, had (1, k) (hFk (by decide) (by decide) (by decide))]
        exact hP 0 _ rfl
      · rw [ha1]
        refine ⟨?_, Nat.le_trans q1.2.2.2.2.2 hz1⟩
        rw [show ((231 : Nat), N 0) = (100 + 131, N 0) from rfl, pa_ce_ar]
        have : pa_av ad' (pn_tK K (N 0) k v1 v2 v3 v4 v5, S, pa_un N 0 (N 0 + 1), O) 131 (N 0) = .inl (fun _ => 0) := congrArg Sum.inl (funext fun j => hKf 131 j rfl)
        rw [this]
        exact hP 2 _ rfl
      · rw [ha2]
        refine ⟨?_, Nat.le_trans q1.2.2.2.2.2 hz2⟩
        rw [show ((232 : Nat), N 0) = (100 + 132, N 0) from rfl, pa_ce_ar]
        have : pa_av ad' (pn_tK K (N 0) k v1 v2 v3 v4 v5, S, pa_un N 0 (N 0 + 1), O) 132 (N 0) = .inl (fun _ => 0) := congrArg Sum.inl (funext fun j => hKf 132 j rfl)
        rw [this]
        exact hP 3 _ rfl
    · have hold9 : ¬ Fr m' → ad' m' = ad m' ∧ ad m' < H.size ∧ ad m' ≠ ad (6, 0) := fun c => ⟨had m' c, hlt m' (hold m' hm c), hin m' (hold m' hm c)⟩
      by_cases c9 : Fr m'
      · rcases hz with hz | hz | hz <;> subst hz <;> rcases c9 with c9 | c9 | c9 <;> subst c9 <;> first
          | rfl
          | (simp only [ha1, ha2, ha3] at e9; omega)
      · obtain ⟨g1, g2, g3⟩ := hold9 c9
        rw [g1] at e9
        rcases hz with hz | hz | hz <;> subst hz <;> simp only [ha1, ha2, ha3] at e9 <;> omega
  have han : ∀ n, pa_lv h0.2.2.1 n → pa_lv N n := fun n hn => (pn_lv8 (fun z => by
    obtain ⟨k, i⟩ := n
    dsimp only at z
    subst z
    have : i = 0 ∧ h0.2.2.1 8 = 1 := hn
    omega)).mp (q2.2.2 n hn)
  have k9 := kk ad' T'.heap (locs ++ L) ls hR ⟨fun n h8 hn => (had n (hno n (han n hn))).trans (q2.1 n h8 hn), fun z => (by rw [hal] at z; cases z), fun n hn => (by
    have hz := hno n (han n hn)
    exact (pn_lv0 (fun z => hz (Or.inl z)) (fun z => hz (Or.inr (Or.inl z))) (fun z => hz (Or.inr (Or.inr z)))).mpr (han n hn))⟩ k3 (pa_Lo_ok hag hlo q4)
  rw [List.map_cons, pa_okl_tr hag hst] at k9
  have e7 : pa_tr ad' (pv_o 3 (N 0)) = .ref (ad (6, 0)) := congrArg Value.ref ha3
  rw [e7] at k9
  obtain ⟨t2, a1, b1⟩ := k9 T' rfl X'
  exact ⟨t2, hst9 t2 a1, b1⟩
end NEWT
