/-! CAN AND SAY -/
section SAY
variable {K : Nat → Nat → Nat → Int32} {N : Nat → Nat} {T D e sp : Nat} {z : sj_Z} {S S' : Nat → Nat → Int32} {act of how set fr : Int32}
theorem sc_one16 : ∀ m, m < 16 → decide (ms_one (nI m) ≠ -1) = true → sc_1 m := by
  have h : ∀ m, m < 16 → decide (ms_one (nI m) ≠ -1) = true → m = 1 ∨ m = 2 ∨ m = 4 ∨ m = 8 := by decide +kernel
  exact h
/-- what the told say of a draft -/
theorem sc_told_x {a : Nat} (hT : T ≤ 100) (hsp : sp < 4) (ha : a < 16) (ht : ms_told (nI T) (nI sp) (nI a) of how set fr = true) : ((4 ≤ a ∧ a ≤ 8) ∨ 14 ≤ a → ∃ u, u < T ∧ of = nI u) ∧ (a ≤ 1 ∨ (9 ≤ a ∧ a ≤ 12) → ∃ u, u < 10 ∧ of = nI u) ∧ (∃ m, 0 < m ∧ m < 16 ∧ set = nI m ∧ m.testBit sp = false ∧ (a = 1 ∨ a = 13 → sc_1 m)) ∧ (a = 0 ∨ a = 11 → how = 1 ∨ how = 2) ∧ (a = 2 → how = 0 ∨ how = 1 ∨ how = 2) ∧ (a = 9 → ∃ v, v < 10 ∧ how = nI v) ∧ (a ≤ 1 → fr ≠ -1 → ∃ g, g < 10 ∧ fr = nI g) := by
  rw [← sc_told, Bool.and_eq_true, Bool.and_eq_true, Bool.not_eq_true'] at ht
  obtain ⟨h1, h2, h3⟩ := ht
  obtain ⟨m, hm, rfl⟩ := sc_m15 h1
  have hm0 : 0 < m := by
    rcases Nat.eq_zero_or_pos m with c | c
    · subst c
      exact absurd h1 (by decide)
    · exact c
  have htb : m.testBit sp = false := (sj_bit4 m hm sp hsp).symm.trans h2
  unfold sc_wtv at h3
  rw [show mn (nI a) = a from mn_nI (by omega), Bool.and_eq_true] at h3
  have h4 := h3.2
  have at9 : ∀ x : Int32, ms_in x 0 9 = true → ∃ u, u < 10 ∧ x = nI u := fun x hx => by
    obtain ⟨p, hp, e⟩ := sc_nn2 (k := 9) (by decide) hx
    exact ⟨p, by omega, e⟩
  have i12 : ∀ x : Int32, ms_in x 1 2 = true → x = 1 ∨ x = 2 := fun x hx => by
    have hx2 : ms_in x 0 (nI 2) = true := by
      unfold ms_in at hx ⊢
      rw [Bool.and_eq_true, decide_eq_true_eq, decide_eq_true_eq] at hx ⊢
      refine ⟨?_, hx.2⟩
      have h1 := hx.1
      rw [Int32.le_iff_toInt_le] at h1 ⊢
      rw [show (1 : Int32).toInt = 1 from rfl] at h1
      rw [show (0 : Int32).toInt = 0 from rfl]
      omega
    obtain ⟨p, hp, rfl⟩ := sc_nn2 (k := 2) (by decide) hx2
    rcases (show p = 0 ∨ p = 1 ∨ p = 2 by omega) with rfl | rfl | rfl
    · exact absurd hx (by decide)
    · exact Or.inl rfl
    · exact Or.inr rfl
  have i02 : ∀ x : Int32, ms_in x 0 2 = true → x = 0 ∨ x = 1 ∨ x = 2 := fun x hx => by
    obtain ⟨p, hp, rfl⟩ := sc_nn2 (k := 2) (by decide) hx
    rcases (show p = 0 ∨ p = 1 ∨ p = 2 by omega) with rfl | rfl | rfl
    · exact Or.inl rfl
    · exact Or.inr (Or.inl rfl)
    · exact Or.inr (Or.inr rfl)
  have fr9 : (decide (fr = -1) || ms_in fr 0 9) = true → fr ≠ -1 → ∃ g, g < 10 ∧ fr = nI g := fun h hn => by
    rw [decide_eq_false hn, Bool.false_or] at h
    exact at9 fr h
  rcases (show a = 0 ∨ a = 1 ∨ a = 2 ∨ a = 3 ∨ a = 4 ∨ a = 5 ∨ a = 6 ∨ a = 7 ∨ a = 8 ∨ a = 9 ∨ a = 10 ∨ a = 11 ∨ a = 12 ∨ a = 13 ∨ a = 14 ∨ a = 15 by omega) with rfl | rfl | rfl | rfl | rfl | rfl | rfl | rfl | rfl | rfl | rfl | rfl | rfl | rfl | rfl | rfl
  · replace h4 : (ms_in of 0 9 && ms_in how 1 2 && (decide (fr = -1) || ms_in fr 0 9)) = true := h4
    rw [Bool.and_eq_true, Bool.and_eq_true] at h4
    exact ⟨(fun q => absurd q (by decide)), (fun _ => at9 of h4.1.1), ⟨m, hm0, hm, rfl, htb, (fun q => absurd q (by decide))⟩, (fun _ => i12 how h4.1.2), (fun q => absurd q (by decide)), (fun q => absurd q (by decide)), (fun _ => fr9 h4.2)⟩
  · replace h4 : (ms_in of 0 9 && (decide (fr = -1) || ms_in fr 0 9) && decide (ms_one (nI m) ≠ -1)) = true := h4
    rw [Bool.and_eq_true, Bool.and_eq_true] at h4
    exact ⟨(fun q => absurd q (by decide)), (fun _ => at9 of h4.1.1), ⟨m, hm0, hm, rfl, htb, (fun _ => sc_one16 m hm h4.2)⟩, (fun q => absurd q (by decide)), (fun q => absurd q (by decide)), (fun q => absurd q (by decide)), (fun _ => fr9 h4.1.2)⟩
  · replace h4 : (ms_in how 0 2) = true := h4
    exact ⟨(fun q => absurd q (by decide)), (fun q => absurd q (by decide)), ⟨m, hm0, hm, rfl, htb, (fun q => absurd q (by decide))⟩, (fun q => absurd q (by decide)), (fun _ => i02 how h4), (fun q => absurd q (by decide)), (fun q => absurd q (by decide))⟩
  · replace h4 : (true) = true := h4
    exact ⟨(fun q => absurd q (by decide)), (fun q => absurd q (by decide)), ⟨m, hm0, hm, rfl, htb, (fun q => absurd q (by decide))⟩, (fun q => absurd q (by decide)), (fun q => absurd q (by decide)), (fun q => absurd q (by decide)), (fun q => absurd q (by decide))⟩
  · replace h4 : (ms_in of 0 (nI T - 1)) = true := h4
    exact ⟨(fun _ => sc_inTk (t := 0) hT h4), (fun q => absurd q (by decide)), ⟨m, hm0, hm, rfl, htb, (fun q => absurd q (by decide))⟩, (fun q => absurd q (by decide)), (fun q => absurd q (by decide)), (fun q => absurd q (by decide)), (fun q => absurd q (by decide))⟩
  · replace h4 : (ms_in of 0 (nI T - 1)) = true := h4
    exact ⟨(fun _ => sc_inTk (t := 0) hT h4), (fun q => absurd q (by decide)), ⟨m, hm0, hm, rfl, htb, (fun q => absurd q (by decide))⟩, (fun q => absurd q (by decide)), (fun q => absurd q (by decide)), (fun q => absurd q (by decide)), (fun q => absurd q (by decide))⟩
  · replace h4 : (ms_in of 0 (nI T - 1)) = true := h4
    exact ⟨(fun _ => sc_inTk (t := 0) hT h4), (fun q => absurd q (by decide)), ⟨m, hm0, hm, rfl, htb, (fun q => absurd q (by decide))⟩, (fun q => absurd q (by decide)), (fun q => absurd q (by decide)), (fun q => absurd q (by decide)), (fun q => absurd q (by decide))⟩
  · replace h4 : (ms_in of 0 (nI T - 1)) = true := h4
    exact ⟨(fun _ => sc_inTk (t := 0) hT h4), (fun q => absurd q (by decide)), ⟨m, hm0, hm, rfl, htb, (fun q => absurd q (by decide))⟩, (fun q => absurd q (by decide)), (fun q => absurd q (by decide)), (fun q => absurd q (by decide)), (fun q => absurd q (by decide))⟩
  · replace h4 : (ms_in of 0 (nI T - 1)) = true := h4
    exact ⟨(fun _ => sc_inTk (t := 0) hT h4), (fun q => absurd q (by decide)), ⟨m, hm0, hm, rfl, htb, (fun q => absurd q (by decide))⟩, (fun q => absurd q (by decide)), (fun q => absurd q (by decide)), (fun q => absurd q (by decide)), (fun q => absurd q (by decide))⟩
  · replace h4 : (ms_in of 0 9 && ms_in how 0 9 && decide (of ≠ how)) = true := h4
    rw [Bool.and_eq_true, Bool.and_eq_true] at h4
    exact ⟨(fun q => absurd q (by decide)), (fun _ => at9 of h4.1.1), ⟨m, hm0, hm, rfl, htb, (fun q => absurd q (by decide))⟩, (fun q => absurd q (by decide)), (fun q => absurd q (by decide)), (fun _ => at9 how h4.1.2), (fun q => absurd q (by decide))⟩
  · replace h4 : (ms_in of 0 9) = true := h4
    exact ⟨(fun q => absurd q (by decide)), (fun _ => at9 of h4), ⟨m, hm0, hm, rfl, htb, (fun q => absurd q (by decide))⟩, (fun q => absurd q (by decide)), (fun q => absurd q (by decide)), (fun q => absurd q (by decide)), (fun q => absurd q (by decide))⟩
  · replace h4 : (ms_in of 0 9 && ms_in how 1 2) = true := h4
    rw [Bool.and_eq_true] at h4
    exact ⟨(fun q => absurd q (by decide)), (fun _ => at9 of h4.1), ⟨m, hm0, hm, rfl, htb, (fun q => absurd q (by decide))⟩, (fun _ => i12 how h4.2), (fun q => absurd q (by decide)), (fun q => absurd q (by decide)), (fun q => absurd q (by decide))⟩
  · replace h4 : (ms_in of 0 9) = true := h4
    exact ⟨(fun q => absurd q (by decide)), (fun _ => at9 of h4), ⟨m, hm0, hm, rfl, htb, (fun q => absurd q (by decide))⟩, (fun q => absurd q (by decide)), (fun q => absurd q (by decide)), (fun q => absurd q (by decide)), (fun q => absurd q (by decide))⟩
  · replace h4 : (sc_wo of how (nI m) fr) = true := h4
    rw [sc_wo_eq, Bool.and_eq_true] at h4
    exact ⟨(fun q => absurd q (by decide)), (fun q => absurd q (by decide)), ⟨m, hm0, hm, rfl, htb, (fun _ => sc_one16 m hm h4.1)⟩, (fun q => absurd q (by decide)), (fun q => absurd q (by decide)), (fun q => absurd q (by decide)), (fun q => absurd q (by decide))⟩
  · replace h4 : (ms_in of 0 (nI T - 1)) = true := h4
    exact ⟨(fun _ => sc_inTk (t := 0) hT h4), (fun q => absurd q (by decide)), ⟨m, hm0, hm, rfl, htb, (fun q => absurd q (by decide))⟩, (fun q => absurd q (by decide)), (fun q => absurd q (by decide)), (fun q => absurd q (by decide)), (fun q => absurd q (by decide))⟩
  · replace h4 : (ms_in of 0 (nI T - 1)) = true := h4
    exact ⟨(fun _ => sc_inTk (t := 0) hT h4), (fun q => absurd q (by decide)), ⟨m, hm0, hm, rfl, htb, (fun q => absurd q (by decide))⟩, (fun q => absurd q (by decide)), (fun q => absurd q (by decide)), (fun q => absurd q (by decide)), (fun q => absurd q (by decide))⟩
theorem sc_t_dr {a : Nat} (hT : T ≤ 100) (hsp : sp < 4) (ha : a < 16) (ht : ms_told (nI T) (nI sp) (nI a) of how set fr = true) : sc_t (sc_dr S T sp (nI a) of how set fr) T T sp a := by
  have hv := sc_dr_v (S := S) (T := T) (sp := sp) (act := nI a) (of := of) (how := how) (set := set) (fr := fr)
  obtain ⟨x1, x2, ⟨m, m0, m1, m2, m3, m4⟩, -⟩ := sc_told_x hT hsp ha ht
  unfold sc_t
  rw [hv.1, hv.2.1, hv.2.2.1, hv.2.2.2.2.1]
  exact ⟨rfl, hsp, rfl, ha, x1, x2, m, m0, m1, m2, m3, m4⟩
theorem mw_of_told {a : Nat} (hT : T ≤ 100) (hsp : sp < 4) (ha : a < 16) (ht : ms_told (nI T) (nI sp) (nI a) of how set fr = true) : mw_of a of := by
  obtain ⟨x1, x2, -⟩ := sc_told_x hT hsp ha ht
  refine ⟨fun q => ?_, fun q => x2 q.symm⟩
  obtain ⟨u, hu, e⟩ := x1 q
  exact ⟨u, by omega, e⟩
theorem c_X3_canBeSaidD (G : pa_G) (l : Launch) (K : Nat → Nat → Nat → Int32) (Sm S : Nat → Nat → Int32) (N : Nat → Nat) (O : Nat → Int64) (T e sp a : Nat) (z : sj_Z) (of how set fr : Int32) (hs : sj_M K N T (T + 1) z e (sc_dr S T sp (nI a) of how set fr)) (hM : mw_S S T) (hJ : mj S T) (hsp : sp < 4) (ha : a < 16) (ht : ms_told (nI T) (nI sp) (nI a) of how set fr = true) (hzz : ∀ i, i < 4 → z.2 i = S 230 i) : pa_MP G l mX3_canBeSaid 6 [pv_o 4 0, pv_o 3 T] (K, Sm, N, O) (pv_i (pz_b (ms_canSay S sp a of how set))) := by
  have hv := sc_dr_v (S := S) (T := T) (sp := sp) (act := nI a) (of := of) (how := how) (set := set) (fr := fr)
  have hT := hM.1.1
  have h := c_X3_canBeSaid G l K Sm _ N O T (T + 1) e z hs T sp a (mw_S_B hM sd_B_dr) (mj_B hM hJ sd_B_dr) (Nat.lt_succ_self T) (sc_t_dr hT hsp ha ht) (fun i hi => (hs.2.2.2.2.2.1 i hi).trans ((hzz i hi).trans (sc_dr_ne (by decide)).symm))
  rw [hv.2.2.1, hv.2.2.2.1, hv.2.2.2.2.1, ms_canSay_B hM sd_B_dr hsp (sc_told_x hT hsp ha ht).1] at h
  exact h
/-- the list of turns has it -/
theorem sj_addM {cd : Int32} (hT9 : T < 100) (hs : sj_M K N T (T + 1) z e (sc_dr S T sp act of how set fr)) (h125 : K 125 T 0 = nI T) : sj_M (lr_K K 0 T cd) (lr_N N 0 (T + 1) (lr_nc T (N 5))) (T + 1) (T + 1) z e (sc_dr S T sp act of how set fr) := by
  have hv := sc_dr_v (S := S) (T := T) (sp := sp) (act := act) (of := of) (how := how) (set := set) (fr := fr)
  obtain ⟨hP, ⟨n0, n2, nT, n8, n9, n14, nq, nq6, n25, n36, n47, b5, b6, b7⟩, a40, a125, a163, a47, a128, a51, a52, a53, ast, aphi⟩ := hs
  have eK : ∀ f, 40 ≤ f → f ≠ 163 → ∀ o j, lr_K K 0 T cd f o j = K f o j := fun f h1 h2 o j => lr_K40 h1 h2
  have eN : ∀ k, k ≠ 2 → k ≠ 5 → lr_N N 0 (T + 1) (lr_nc T (N 5)) k = N k := fun k h3 h6 => lr_No h3 h6
  have e2 : lr_N N 0 (T + 1) (lr_nc T (N 5)) 2 = T + 1 := lr_N2 (l := 0) (by decide)
  have e5 : lr_N N 0 (T + 1) (lr_nc T (N 5)) 5 = lr_nc T (N 5) := lr_N5 (l := 0)
  have hcap := lr_cap_le (n := T) (b := T) (Nat.le_refl T)
  have hgt := lr_cap_gt T
  have hf : ∀ i a, sj_fs (lr_K K 0 T cd) i a = sj_fs K i a := fun i a => by
    funext v n
    unfold sj_fs
    rw [eK 80 (by decide) (by decide), eK 81 (by decide) (by decide), eK 82 (by decide) (by decide)]
  have hq40 : ∀ q ∈ sj_T, 40 ≤ q.1 := by decide
  have hq163 : ∀ q ∈ sj_T, q.1 ≠ 163 := by decide
  have hT5 : T ≤ N 5 := by omega
  have hnc : T + 1 ≤ lr_nc T (N 5) ∧ lr_nc T (N 5) < 1000 := by
    unfold lr_nc
    by_cases c : T = N 5
    · rw [if_pos c]
      omega
    · rw [if_neg c]
      omega
  refine ⟨sj_P_of hP (fun q hq o j => eK q.1 (hq40 q hq) (hq163 q hq) o j) (fun _ _ _ => rfl), ⟨by rw [eN 0 (by decide) (by decide)]; exact n0, e2, Nat.le_refl _, by rw [eN 8 (by decide) (by decide)]; exact n8, by rw [eN 9 (by decide) (by decide)]; exact n9, by rw [eN 1 (by decide) (by decide), eN 4 (by decide) (by decide)]; exact n14, by rw [eN 3 (by decide) (by decide)]; exact nq, by rw [eN 3 (by decide) (by decide)]; exact nq6, by rw [e2, e5]; exact hnc.1, by rw [eN 3 (by decide) (by decide), eN 6 (by decide) (by decide)]; exact n36, by rw [eN 4 (by decide) (by decide), eN 7 (by decide) (by decide)]; exact n47, by rw [e5]; exact hnc.2, by rw [eN 6 (by decide) (by decide)]; exact b6, by rw [eN 7 (by decide) (by decide)]; exact b7⟩, ?_, ?_, fun j hj => ?_, ?_, ?_, ?_, ?_, ?_, ?_, ?_⟩
  · exact fun i hi => (eK 40 (by decide) (by decide) i 0).trans (a40 i hi)
  · intro t ht
    rw [eK 125 (by decide) (by decide)]
    by_cases c : t = T
    · rw [c]
      exact h125
    · exact a125 t (by omega)
  · rw [eN 3 (by decide) (by decide)] at hj
    rw [lr_K163, if_neg (fun q => absurd q.1 (by decide))]
    exact a163 j hj
  · intro i hi
    rw [eK 47 (by decide) (by decide)]
    exact a47 i hi
  · intro t ht
    rw [eK 128 (by decide) (by decide)]
    exact a128 t ht
  · intro i j hi hj
    rw [eK 51 (by decide) (by decide)]
    exact a51 i j hi hj
  · intro i j hi hj
    obtain ⟨b, c1, c2, c3⟩ := a52 i j hi hj
    exact ⟨b, c1, (eK 52 (by decide) (by decide) i j).trans c2, c3⟩
  · intro i j hi hj
    obtain ⟨b, c1, c2, c3⟩ := a53 i j hi hj
    exact ⟨b, c1, (eK 53 (by decide) (by decide) i j).trans c2, c3⟩
  · intro i j hi hj
    rw [eN 1 (by decide) (by decide), hf]
    exact ast i j hi hj
  · rw [eN 1 (by decide) (by decide)]
    have e9 : sj_nd (sc_dr S T sp act of how set fr) (T + 1) = sj_nd (sc_dr S T sp act of how set fr) T := by
      unfold sj_nd
      rw [sj_c, hv.2.2.2.2.2.2.1]
      rfl
    rw [e9]
    exact aphi
theorem sj_sayM {v u : Int32} (hs : sj_M K N T D z e S) (hz1 : z.1 = false) : sj_M (pa_up K 47 sp 0 v) N T D (z.1, fun i => if i = sp then v else z.2 i) e (pa_us (pa_us S 230 sp v) 217 0 u) := by
  obtain ⟨hP, h1, a40, a125, a163, a47, a128, a51, a52, a53, ast, aphi⟩ := hs
  have eS : ∀ f, f ≠ 230 → f ≠ 217 → ∀ j, pa_us (pa_us S 230 sp v) 217 0 u f j = S f j := fun f h1 h2 j => by rw [pa_us_ne h2, pa_us_ne h1]
  have eK : ∀ f, f ≠ 47 → ∀ o j, pa_up K 47 sp 0 v f o j = K f o j := fun f h o j => pa_up_ne h
  have hq : ∀ q ∈ sj_T, q.1 ≠ 47 ∧ q.2.1 ≠ 230 ∧ q.2.1 ≠ 217 := by decide
  have hf : ∀ i a, sj_fs (pa_up K 47 sp 0 v) i a = sj_fs K i a := fun i a => by
    funext v9 n
    unfold sj_fs
    rw [eK 80 (by decide), eK 81 (by decide), eK 82 (by decide)]
  refine ⟨sj_P_of hP (fun q hm o j => eK q.1 (hq q hm).1 o j) (fun q hm j => eS q.2.1 (hq q hm).2.1 (hq q hm).2.2 j), ?_, ?_, ?_, fun j hj => ?_, ?_, ?_, ?_, ?_, ?_, ?_, ?_⟩
  · rw [eS 231 (by decide) (by decide)]
    exact h1
  · exact fun i hi => (eK 40 (by decide) i 0).trans (a40 i hi)
  · exact fun i hi => (eK 125 (by decide) i 0).trans (a125 i hi)
  · rw [eK 163 (by decide), eS 232 (by decide) (by decide)]
    exact a163 j hj
  · intro i hi
    by_cases c : i = sp
    · subst c
      dsimp only
      rw [pa_up_self, if_pos rfl]
    · dsimp only
      rw [if_neg c, ← a47 i hi]
      exact if_neg (fun q => c q.2.1)
  · intro t ht
    rw [eK 128 (by decide), eS 224 (by decide) (by decide)]
    rcases a128 t ht with c | ⟨c, -⟩
    · exact Or.inl c
    · exact absurd c (by rw [hz1]; decide)
  · intro i j hi hj
    rw [eK 51 (by decide), eS 210 (by decide) (by decide), eS 211 (by decide) (by decide)]
    exact a51 i j hi hj
  · intro i j hi hj
    obtain ⟨b, c1, c2, c3⟩ := a52 i j hi hj
    exact ⟨b, c1, (eK 52 (by decide) i j).trans c2, fun r hr => by rw [eS 234 (by decide) (by decide)]; exact c3 r hr⟩
  · intro i j hi hj
    obtain ⟨b, c1, c2, c3⟩ := a53 i j hi hj
    exact ⟨b, c1, (eK 53 (by decide) i j).trans c2, fun r hr => by rw [eS 233 (by decide) (by decide)]; exact c3 r hr⟩
  · intro i j hi hj
    rw [hf, eS 208 (by decide) (by decide)]
    exact ast i j hi hj
  · unfold sj_nz sj_nh sj_nd at aphi ⊢
    rw [show pa_us (pa_us S 230 sp v) 217 0 u 208 = S 208 from funext (eS 208 (by decide) (by decide)), show pa_us (pa_us S 230 sp v) 217 0 u 210 = S 210 from funext (eS 210 (by decide) (by decide)), show pa_us (pa_us S 230 sp v) 217 0 u 225 = S 225 from funext (eS 225 (by decide) (by decide))]
    exact aphi
end SAY
section LOW
variable {G : pa_G} {x : pa_X} {nL a b pc T : Nat} {lo : List (Option pa_V)} {st : List pa_V} {K : Nat → Nat → Nat → Int32} {S : Nat → Nat → Int32} {N N0 : Nat → Nat} {O : Nat → Int64}
theorem pn_low2 {n : pa_Nm} (h : pa_lv N n) (h0 : pa_lv N0 n) (hT : N0 0 = T) : pa_lv (pa_un N 0 T) n := by
  have eN : ∀ k, k ≠ 0 → pa_un N 0 T k = N k := fun k hk => if_neg hk
  obtain ⟨k, i⟩ := n
  have lo : ∀ q, pa_lo N q i → pa_lo N0 q i → pa_lo (pa_un N 0 T) q i := fun q hq hq0 => by
    by_cases c3 : q = 3
    · subst c3
      have : i < N0 0 := hq0
      show i < pa_un N 0 T 0
      rw [show pa_un N 0 T 0 = T from if_pos rfl]
      omega
    · unfold pa_lo at hq ⊢
      rw [eN 1 (by decide)]
      rw [if_neg c3] at hq ⊢
      exact hq
  unfold pa_lv at h h0 ⊢
  dsimp only at h h0 ⊢
  rw [eN 8 (by decide), eN 9 (by decide), eN (5 + i) (by omega)]
  by_cases c0 : k = 0
  · rw [if_pos c0] at h ⊢
    exact h
  rw [if_neg c0] at h h0 ⊢
  by_cases c1 : k < 6
  · rw [if_pos c1] at h h0 ⊢
    exact lo _ h h0
  rw [if_neg c1] at h h0 ⊢
  by_cases c6 : k = 6
  · rw [if_pos c6] at h ⊢
    exact h
  rw [if_neg c6] at h h0 ⊢
  by_cases c7 : k = 7
  · rw [if_pos c7] at h ⊢
    exact h
  rw [if_neg c7] at h h0 ⊢
  by_cases c8 : k = 8
  · rw [if_pos c8] at h ⊢
    exact h
  rw [if_neg c8] at h h0 ⊢
  by_cases c9 : k = 9
  · rw [if_pos c9] at h ⊢
    exact h
  rw [if_neg c9] at h h0 ⊢
  exact ⟨h.1, h.2.1, lo _ h.2.2 h0.2.2⟩
theorem pr_low (hT : T ≤ N 0) (h0 : (pa_h0 x).2.2.1 0 = T) (hal : x.2.2.2.2.2.2.2.2.2.2.2.2.2 = true) (kk : pa_w G x nL (K, S, pa_un N 0 T, O) a b pc lo st) : pa_w G x nL (K, S, N, O) a b pc lo st := by
  obtain ⟨p, l, e, R, s, m, args, below, meth, c, Q, h00, ad0, al⟩ := x
  intro ad H locs ls q1 q2 q3 q4
  have hal : al = true := hal
  exact kk ad H locs ls (pn_low hT q1).2 ⟨q2.1, fun z => (by rw [hal] at z; cases z), fun n hn => pn_low2 (q2.2.2 n hn) hn h0⟩ q3 q4
end LOW
theorem pa_tsISE : pa_ts 96 100 "java/lang/IllegalStateException" := ⟨by decide +kernel, pa_wi (by decide +kernel) rfl, pa_wi (by decide +kernel) rfl, by decide +kernel, by decide +kernel, by decide +kernel, by decide +kernel⟩
set_option maxRecDepth 100000 in
set_option maxHeartbeats 4000000 in
theorem c_X3_canY (G : pa_G) (l : Launch) (K : Nat → Nat → Nat → Int32) (Sm S : Nat → Nat → Int32) (N : Nat → Nat) (O : Nat → Int64) (T e : Nat) (z : sj_Z) (hs : sj_M K N T T z e S) (hM : mw_S S T) (hJ : mj S T) (h229 : ∀ p, 4 * T ≤ p → S 229 p = 0) (hz : ∀ i, i < 4 → z.2 i < 0 ∨ (z.2 i).toNatClampNeg < T) (hzz : ∀ i, i < 4 → z.2 i = S 230 i) (sp a : Nat) (of how set fr : Int32) (hs4 : sp < 4) (ha16 : a < 16) (ht : ms_told (nI T) (nI sp) (nI a) of how set fr = true) : pa_M G l mX3_can 7 true [pv_o 4 0, pv_i (nI sp), pv_i (nI a), pv_i of, pv_i how, pv_i set, pv_i fr] (K, Sm, N, O) 3 21 (sj_post (some (pv_i (pz_b (ms_canSay S sp a of how set)))) Sm O T T z e S) := by
  refine pa_go2 l (by decide) (by simp [pa_c1l, pa_c1]) (fun _ => rfl) fun x C E el ea eh => ?_
  subst el
  have hT := hM.1.1
  have hs0 := hs
  show pa_w G x 7 (K, Sm, N, O) 0 0 0 [some (pv_o 4 0), some (pv_i (nI sp)), some (pv_i (nI a)), some (pv_i of), some (pv_i how), some (pv_i set), some (pv_i fr)] []
  refine pr_aload_n (pc := 0) C dX3_can_0 rfl ?_
  refine pr_aload_n (pc := 1) C dX3_can_1 rfl ?_
  refine pr_iload_n (pc := 2) C dX3_can_2 rfl ?_
  refine pr_iload_n (pc := 3) C dX3_can_3 rfl ?_
  refine pr_iload_n (pc := 4) C dX3_can_4 rfl ?_
  refine pr_iload (pc := 5) C dX3_can_5 rfl ?_
  refine pr_iload (pc := 7) C dX3_can_7 rfl ?_
  refine pr_iload (pc := 9) C dX3_can_9 rfl ?_
  refine pr_callV0 (pc := 11) (mc' := 3) (ms' := 21) (y := mX3_draft) (rest := [pv_o 4 0]) (As := [pv_i (nI sp), pv_i (nI a), pv_i of, pv_i how, pv_i set, pv_i fr]) C (c_X3_draftY G _ K Sm S N O T e z hs hM hJ h229 hz sp (nI a) of how set fr hs4 ht) wv_X3_88 rfl (by decide) (by decide) (pl_4 _) (by decide) (by omega) (by omega) (fun zz => absurd (ea.symm.trans zz) (by decide)) (fun _ => ⟨⟨⟨lr_kn (by decide), (pl_4 _)⟩, trivial⟩, ⟨⟨lr_kn (by decide), (pl_4 _)⟩, ⟨trivial, ⟨trivial, ⟨trivial, ⟨trivial, ⟨trivial, ⟨trivial, trivial⟩⟩⟩⟩⟩⟩⟩⟩) dX3_can_11 (fun r h9 hp9 => ?_)
  obtain ⟨rfl, K, N, rfl, hs, h125, hbk⟩ := hp9
  show pa_w G x 7 (K, Sm, N, O) (0 + 3) (0 + 21) 14 [some (pv_o 4 0), some (pv_i (nI sp)), some (pv_i (nI a)), some (pv_i of), some (pv_i how), some (pv_i set), some (pv_i fr)] [pv_o 3 T, pv_o 4 0]
  refine pr_vP (pc := 14) C (c_X3_canBeSaidD G _ K Sm S N O T e sp a z of how set fr hs hM hJ hs4 ha16 ht hzz) wv_X3_92 rfl rfl (by decide) (by decide) (pl_4 _) (Nat.le_of_ble_eq_true rfl) (by omega) (by omega) dX3_can_14 ?_
  refine pr_low (T := T) (by rw [hs.2.1.1]; omega) (by unfold pa_h0; rw [eh]; exact hs0.2.1.1) ea ?_
  exact pr_iret (pc := 17) C E (Or.inr ⟨rfl, (pz_b01 _)⟩) (by omega) (by omega) ⟨rfl, K, pa_un N 0 T, rfl, sj_drop hs⟩ dX3_can_17

set_option maxRecDepth 100000 in
set_option maxHeartbeats 4000000 in
theorem c_X3_sayY (G : pa_G) (l : Launch) (K : Nat → Nat → Nat → Int32) (Sm S : Nat → Nat → Int32) (N : Nat → Nat) (O : Nat → Int64) (T e : Nat) (z : sj_Z) (hs : sj_M K N T T z e S) (hM : mw_S S T) (hJ : mj S T) (h229 : ∀ p, 4 * T ≤ p → S 229 p = 0) (hz : ∀ i, i < 4 → z.2 i < 0 ∨ (z.2 i).toNatClampNeg < T) (hzz : ∀ i, i < 4 → z.2 i = S 230 i) (sp a : Nat) (of how set fr : Int32) (hs4 : sp < 4) (ha16 : a < 16) (ht : ms_told (nI T) (nI sp) (nI a) of how set fr = true) (hz1 : z.1 = false) (hT1 : T < 100) (hcs : ms_canSay S sp a of how set = true) : pa_M G l mX3_say 8 true [pv_o 4 0, pv_i (nI sp), pv_i (nI a), pv_i of, pv_i how, pv_i set, pv_i fr] (K, Sm, N, O) 4 1600 (sj_post (some (pv_i (nI T))) Sm O (T + 1) (T + 1) (z.1, fun i => if i = sp then nI T else z.2 i) e (ms_say S T sp a of how set fr)) := by
  refine pa_go2 l (by decide) (by simp [pa_c1l, pa_c1]) (fun _ => rfl) fun x C E el ea eh => ?_
  subst el
  have hT := hM.1.1
  show pa_w G x 8 (K, Sm, N, O) 0 0 0 [some (pv_o 4 0), some (pv_i (nI sp)), some (pv_i (nI a)), some (pv_i of), some (pv_i how), some (pv_i set), some (pv_i fr), none] []
  refine pr_aload_n (pc := 0) C dX3_say_0 rfl ?_
  refine pr_iload_n (pc := 1) C dX3_say_1 rfl ?_
  refine pr_iload_n (pc := 2) C dX3_say_2 rfl ?_
  refine pr_iload_n (pc := 3) C dX3_say_3 rfl ?_
  refine pr_iload (pc := 4) C dX3_say_4 rfl ?_
  refine pr_iload (pc := 6) C dX3_say_6 rfl ?_
  refine pr_iload (pc := 8) C dX3_say_8 rfl ?_
  refine pr_callV0 (pc := 10) (mc' := 3) (ms' := 21) (y := mX3_draft) (rest := []) (As := [pv_i (nI sp), pv_i (nI a), pv_i of, pv_i how, pv_i set, pv_i fr]) C (c_X3_draftY G _ K Sm S N O T e z hs hM hJ h229 hz sp (nI a) of how set fr hs4 ht) wv_X3_88 rfl (by decide) (by decide) (pl_4 _) (by decide) (by omega) (by omega) (fun zz => absurd (ea.symm.trans zz) (by decide)) (fun _ => ⟨trivial, ⟨⟨lr_kn (by decide), (pl_4 _)⟩, ⟨trivial, ⟨trivial, ⟨trivial, ⟨trivial, ⟨trivial, ⟨trivial, trivial⟩⟩⟩⟩⟩⟩⟩⟩) dX3_say_10 (fun r h9 hp9 => ?_)
  obtain ⟨rfl, K, N, rfl, hs, h125, hbk⟩ := hp9
  show pa_w G x 8 (K, Sm, N, O) (0 + 3) (0 + 21) 13 [some (pv_o 4 0), some (pv_i (nI sp)), some (pv_i (nI a)), some (pv_i of), some (pv_i how), some (pv_i set), some (pv_i fr), none] [pv_o 3 T]
  refine pr_astore (pc := 13) C dX3_say_13 (by decide) ?_
  refine pr_aload_n (pc := 15) C dX3_say_15 rfl ?_
  refine pr_aload (pc := 16) C dX3_say_16 rfl ?_
  refine pr_vP (pc := 18) C (c_X3_canBeSaidD G _ K Sm S N O T e sp a z of how set fr hs hM hJ hs4 ha16 ht hzz) wv_X3_92 rfl rfl (by decide) (by decide) (pl_4 _) (Nat.le_of_ble_eq_true rfl) (by omega) (by omega) dX3_say_18 ?_
  refine pr_ifb_ne (pc := 21) C 34 dX3_say_21 (by decide) (fun c_21 => ?_) (fun c_21 => ?_)
  · refine pr_aload_n (pc := 34) C dX3_say_34 rfl ?_
    refine pr_getl (pc := 35) C 162 0 wf_X3_22 rfl rfl rfl (pl_4 _) dX3_say_35 ?_
    refine pr_aload (pc := 38) C dX3_say_38 rfl ?_
    have hN2 : N 2 = T := hs.2.1.2.1
    have hN5 : N 5 < 1000 := hs.2.1.2.2.2.2.2.2.2.2.2.2.2.1
    have hN25 : N 2 ≤ N 5 := hs.2.1.2.2.2.2.2.2.2.2.1
    have hN0 : N 0 = T + 1 := hs.2.1.1
    have hcap := lr_cap_le (n := N 5) (b := 999) (by omega)
    refine pr_callV0 (pc := 40) (mc' := 1) (ms' := lr_cap (N 5)) (y := mJx4a65c_add_9ea2d) (rest := []) (As := [pv_r (some (3, T))]) C (c_ladd G _ _ 0 (3, T) 0 (by decide) hN25 (by show N 5 < 60000; omega) (fun j hj => pl_3 (show j < N 0 by have : j < N 2 := hj; omega)) (pl_3 (show T < N 0 by omega)) ⟨fun _ => by show (3, T) = (3, N 2); rw [hN2], fun q => absurd q (by decide), fun q => absurd q (by decide)⟩) wv_X3_101 rfl (by decide) (by decide) (pl_0 (by decide)) (by decide) (by omega) (by show 0 + 21 + lr_cap (N 5) ≤ 1600; omega) (fun zz => absurd (ea.symm.trans zz) (by decide)) (fun _ => ⟨trivial, ⟨⟨lr_kn (by decide), (pl_4 _)⟩, ⟨trivial, ⟨trivial, ⟨trivial, ⟨trivial, ⟨trivial, ⟨trivial, ⟨⟨lr_kn (by decide), (pl_3 (sj_n0 hs (by first | assumption | omega)))⟩, trivial⟩⟩⟩⟩⟩⟩⟩⟩⟩) dX3_say_40 (fun r h9 hp9 => ?_)
    obtain ⟨rfl, rfl⟩ := hp9
    have hs2 := sj_addM (cd := 0) hT1 hs h125
    have eK9 : lr_K K 0 (N 2) 0 = lr_K K 0 T 0 := by rw [hN2]
    have eN9 : lr_N N 0 (N 2 + 1) (lr_nc (N 2) (N 5)) = lr_N N 0 (T + 1) (lr_nc T (N 5)) := by rw [hN2]
    show pa_w G x 8 (lr_K K 0 (N 2) 0, Sm, lr_N N 0 (N 2 + 1) (lr_nc (N 2) (N 5)), O) (0 + 3 + 1) (0 + 21 + lr_cap (N 5)) 43 [some (pv_o 4 0), some (pv_i (nI sp)), some (pv_i (nI a)), some (pv_i of), some (pv_i how), some (pv_i set), some (pv_i fr), some (pv_o 3 T)] [pv_i 1]
    rw [eK9, eN9]
    refine pr_sim hs2 ?_
    generalize lr_cap (N 5) = cap at hcap ⊢
    intro K N hs
    have hN0 : N 0 = T + 1 := hs.2.1.1
    refine pr_pop (pc := 43) C dX3_say_43 trivial ?_
    refine pr_aload (pc := 44) C dX3_say_44 rfl ?_
    refine pr_gets (pc := 46) C 120 wf_X3_105 rfl rfl (pl_3 (show T < N 0 by omega)) sp ((sj_r120 hs (show T < T + 1 by omega)).trans (sc_dr_v (act := nI a)).1) (by omega) dX3_say_46 ?_
    refine pr_aload (pc := 49) C dX3_say_49 rfl ?_
    refine pr_putt (pc := 51) C 47 (nI T) wp_X3_111 rfl (by decide) rfl (by decide) (pa_rc_nI (by omega)) (pl_1 hs4) dX3_say_51 ?_
    refine pr_sim (sj_sayM (v := nI T) (u := nI (T + 1)) (sp := sp) hs hz1) ?_
    intro K N hs
    have hN0 : N 0 = T + 1 := hs.2.1.1
    refine pr_aload (pc := 54) C dX3_say_54 rfl ?_
    refine pr_geti (pc := 56) C 125 wf_X3_115 rfl (by decide) (pl_3 (show T < N 0 by omega)) dX3_say_56 ?_
    refine pr_eqi (v := nI T) (sj_r125 hs (Nat.lt_succ_self T)) ?_
    exact pr_iret (pc := 59) C E (Or.inl rfl) (by omega) (by omega) ⟨rfl, K, N, rfl, hs⟩ dX3_say_59
  · exact absurd c_21 (by rw [hcs]; decide)

set_option maxRecDepth 100000 in
set_option maxHeartbeats 4000000 in
theorem c_X3_sayX3 (G : pa_G) (l : Launch) (K : Nat → Nat → Nat → Int32) (Sm S : Nat → Nat → Int32) (N : Nat → Nat) (O : Nat → Int64) (T e : Nat) (z : sj_Z) (hl9 : l.stackTraces = false) (hs : sj_M K N T T z e S) (hM : mw_S S T) (hJ : mj S T) (h229 : ∀ p, 4 * T ≤ p → S 229 p = 0) (hz : ∀ i, i < 4 → z.2 i < 0 ∨ (z.2 i).toNatClampNeg < T) (hzz : ∀ i, i < 4 → z.2 i = S 230 i) (sp a : Nat) (of how set fr : Int32) (hs4 : sp < 4) (ha16 : a < 16) (ht : ms_told (nI T) (nI sp) (nI a) of how set fr = true) (hcs : ms_canSay S sp a of how set = false) : pa_MT G l mX3_say 8 [pv_o 4 0, pv_i (nI sp), pv_i (nI a), pv_i of, pv_i how, pv_i set, pv_i fr] (K, Sm, N, O) 4 27 px_S := by
  refine pa_goX l hl9 (by decide) (by simp [pa_c1l, pa_c1]) (fun _ => rfl) fun x C E EX el e0 ea => ?_
  subst el
  have hT := hM.1.1
  show pa_w G x 8 (K, Sm, N, O) 0 0 0 [some (pv_o 4 0), some (pv_i (nI sp)), some (pv_i (nI a)), some (pv_i of), some (pv_i how), some (pv_i set), some (pv_i fr), none] []
  refine pr_aload_n (pc := 0) C dX3_say_0 rfl ?_
  refine pr_iload_n (pc := 1) C dX3_say_1 rfl ?_
  refine pr_iload_n (pc := 2) C dX3_say_2 rfl ?_
  refine pr_iload_n (pc := 3) C dX3_say_3 rfl ?_
  refine pr_iload (pc := 4) C dX3_say_4 rfl ?_
  refine pr_iload (pc := 6) C dX3_say_6 rfl ?_
  refine pr_iload (pc := 8) C dX3_say_8 rfl ?_
  refine pr_callV0 (pc := 10) (mc' := 3) (ms' := 21) (y := mX3_draft) (rest := []) (As := [pv_i (nI sp), pv_i (nI a), pv_i of, pv_i how, pv_i set, pv_i fr]) C (c_X3_draftY G _ K Sm S N O T e z hs hM hJ h229 hz sp (nI a) of how set fr hs4 ht) wv_X3_88 rfl (by decide) (by decide) (pl_4 _) (by decide) (by omega) (by omega) (fun zz => absurd (ea.symm.trans zz) (by decide)) (fun _ => ⟨trivial, ⟨⟨lr_kn (by decide), (pl_4 _)⟩, ⟨trivial, ⟨trivial, ⟨trivial, ⟨trivial, ⟨trivial, ⟨trivial, trivial⟩⟩⟩⟩⟩⟩⟩⟩) dX3_say_10 (fun r h9 hp9 => ?_)
  obtain ⟨rfl, K, N, rfl, hs, h125, hbk⟩ := hp9
  show pa_w G x 8 (K, Sm, N, O) (0 + 3) (0 + 21) 13 [some (pv_o 4 0), some (pv_i (nI sp)), some (pv_i (nI a)), some (pv_i of), some (pv_i how), some (pv_i set), some (pv_i fr), none] [pv_o 3 T]
  refine pr_astore (pc := 13) C dX3_say_13 (by decide) ?_
  refine pr_aload_n (pc := 15) C dX3_say_15 rfl ?_
  refine pr_aload (pc := 16) C dX3_say_16 rfl ?_
  refine pr_vP (pc := 18) C (c_X3_canBeSaidD G _ K Sm S N O T e sp a z of how set fr hs hM hJ hs4 ha16 ht hzz) wv_X3_92 rfl rfl (by decide) (by decide) (pl_4 _) (Nat.le_of_ble_eq_true rfl) (by omega) (by omega) dX3_say_18 ?_
  refine pr_ifb_ne (pc := 21) C 34 dX3_say_21 (by decide) (fun c_21 => ?_) (fun c_21 => ?_)
  · exact absurd c_21 (by rw [hcs]; decide)
  · exact pr_throw (pc := 24) (text := "this turn can not be said now") C EX pa_tsISE (by decide) rfl (fun ad H q => e0 ▸ hbk ad H (pn_low (by rw [hs.2.1.1]; omega) q).2) (by decide) (by decide) (by omega) (by omega) (by omega) (by omega) dX3_say_24 dX3_say_27 dX3_say_28 dX3_say_30 dX3_say_33

set_option maxRecDepth 100000 in
set_option maxHeartbeats 4000000 in
theorem c_X3_canX1 (G : pa_G) (l : Launch) (K : Nat → Nat → Nat → Int32) (Sm S : Nat → Nat → Int32) (N : Nat → Nat) (O : Nat → Int64) (T e : Nat) (z : sj_Z) (hl9 : l.stackTraces = false) (hs : sj_M K N T T z e S) (hM : mw_S S T) (hJ : mj S T) (h229 : ∀ p, 4 * T ≤ p → S 229 p = 0) (hz : ∀ i, i < 4 → z.2 i < 0 ∨ (z.2 i).toNatClampNeg < T) (w v of how set fr : Int32) (hn : ms_in w 0 3 = false) : pa_MT G l mX3_can 8 [pv_o 4 0, pv_i w, pv_i v, pv_i of, pv_i how, pv_i set, pv_i fr] (K, Sm, N, O) 1 6 px_I := by
  refine pa_goX l hl9 (by decide) (by simp [pa_c1l, pa_c1]) (fun _ => rfl) fun x C E EX el e0 ea => ?_
  subst el
  have hT := hM.1.1
  show pa_w G x 7 (K, Sm, N, O) 0 0 0 [some (pv_o 4 0), some (pv_i w), some (pv_i v), some (pv_i of), some (pv_i how), some (pv_i set), some (pv_i fr)] []
  refine pr_aload_n (pc := 0) C dX3_can_0 rfl ?_
  refine pr_aload_n (pc := 1) C dX3_can_1 rfl ?_
  refine pr_iload_n (pc := 2) C dX3_can_2 rfl ?_
  refine pr_iload_n (pc := 3) C dX3_can_3 rfl ?_
  refine pr_iload_n (pc := 4) C dX3_can_4 rfl ?_
  refine pr_iload (pc := 5) C dX3_can_5 rfl ?_
  refine pr_iload (pc := 7) C dX3_can_7 rfl ?_
  refine pr_iload (pc := 9) C dX3_can_9 rfl ?_
  exact pr_vX (pc := 11) C EX (c_X3_draftX1 G _ K Sm S N O T e z hl9 hs hM hJ h229 hz w v of how set fr hn) (fun _ q => q) wv_X3_88 rfl rfl (by decide) (by decide) (pl_4 _) (by decide) (by omega) (by omega) (by omega) (by omega) (pa_bk e0) dX3_can_11

set_option maxRecDepth 100000 in
set_option maxHeartbeats 4000000 in
theorem c_X3_canX2 (G : pa_G) (l : Launch) (K : Nat → Nat → Nat → Int32) (Sm S : Nat → Nat → Int32) (N : Nat → Nat) (O : Nat → Int64) (T e : Nat) (z : sj_Z) (hl9 : l.stackTraces = false) (hs : sj_M K N T T z e S) (hM : mw_S S T) (hJ : mj S T) (h229 : ∀ p, 4 * T ≤ p → S 229 p = 0) (hz : ∀ i, i < 4 → z.2 i < 0 ∨ (z.2 i).toNatClampNeg < T) (sp : Nat) (v of how set fr : Int32) (hs4 : sp < 4) (hn : ms_told (nI T) (nI sp) v of how set fr = false) : pa_MT G l mX3_can 8 [pv_o 4 0, pv_i (nI sp), pv_i v, pv_i of, pv_i how, pv_i set, pv_i fr] (K, Sm, N, O) 4 27 px_A := by
  refine pa_goX l hl9 (by decide) (by simp [pa_c1l, pa_c1]) (fun _ => rfl) fun x C E EX el e0 ea => ?_
  subst el
  have hT := hM.1.1
  show pa_w G x 7 (K, Sm, N, O) 0 0 0 [some (pv_o 4 0), some (pv_i (nI sp)), some (pv_i v), some (pv_i of), some (pv_i how), some (pv_i set), some (pv_i fr)] []
  refine pr_aload_n (pc := 0) C dX3_can_0 rfl ?_
  refine pr_aload_n (pc := 1) C dX3_can_1 rfl ?_
  refine pr_iload_n (pc := 2) C dX3_can_2 rfl ?_
  refine pr_iload_n (pc := 3) C dX3_can_3 rfl ?_
  refine pr_iload_n (pc := 4) C dX3_can_4 rfl ?_
  refine pr_iload (pc := 5) C dX3_can_5 rfl ?_
  refine pr_iload (pc := 7) C dX3_can_7 rfl ?_
  refine pr_iload (pc := 9) C dX3_can_9 rfl ?_
  exact pr_vX (pc := 11) C EX (c_X3_draftX2 G _ K Sm S N O T e z hl9 hs hM hJ h229 hz sp v of how set fr hs4 hn) (fun _ q => q) wv_X3_88 rfl rfl (by decide) (by decide) (pl_4 _) (by decide) (by omega) (by omega) (by omega) (by omega) (pa_bk e0) dX3_can_11

set_option maxRecDepth 100000 in
set_option maxHeartbeats 4000000 in
theorem c_X3_sayX1 (G : pa_G) (l : Launch) (K : Nat → Nat → Nat → Int32) (Sm S : Nat → Nat → Int32) (N : Nat → Nat) (O : Nat → Int64) (T e : Nat) (z : sj_Z) (hl9 : l.stackTraces = false) (hs : sj_M K N T T z e S) (hM : mw_S S T) (hJ : mj S T) (h229 : ∀ p, 4 * T ≤ p → S 229 p = 0) (hz : ∀ i, i < 4 → z.2 i < 0 ∨ (z.2 i).toNatClampNeg < T) (w v of how set fr : Int32) (hn : ms_in w 0 3 = false) : pa_MT G l mX3_say 8 [pv_o 4 0, pv_i w, pv_i v, pv_i of, pv_i how, pv_i set, pv_i fr] (K, Sm, N, O) 1 6 px_I := by
  refine pa_goX l hl9 (by decide) (by simp [pa_c1l, pa_c1]) (fun _ => rfl) fun x C E EX el e0 ea => ?_
  subst el
  have hT := hM.1.1
  show pa_w G x 8 (K, Sm, N, O) 0 0 0 [some (pv_o 4 0), some (pv_i w), some (pv_i v), some (pv_i of), some (pv_i how), some (pv_i set), some (pv_i fr), none] []
  refine pr_aload_n (pc := 0) C dX3_say_0 rfl ?_
  refine pr_iload_n (pc := 1) C dX3_say_1 rfl ?_
  refine pr_iload_n (pc := 2) C dX3_say_2 rfl ?_
  refine pr_iload_n (pc := 3) C dX3_say_3 rfl ?_
  refine pr_iload (pc := 4) C dX3_say_4 rfl ?_
  refine pr_iload (pc := 6) C dX3_say_6 rfl ?_
  refine pr_iload (pc := 8) C dX3_say_8 rfl ?_
  exact pr_vX (pc := 10) C EX (c_X3_draftX1 G _ K Sm S N O T e z hl9 hs hM hJ h229 hz w v of how set fr hn) (fun _ q => q) wv_X3_88 rfl rfl (by decide) (by decide) (pl_4 _) (by decide) (by omega) (by omega) (by omega) (by omega) (pa_bk e0) dX3_say_10

set_option maxRecDepth 100000 in
set_option maxHeartbeats 4000000 in
theorem c_X3_sayX2 (G : pa_G) (l : Launch) (K : Nat → Nat → Nat → Int32) (Sm S : Nat → Nat → Int32) (N : Nat → Nat) (O : Nat → Int64) (T e : Nat) (z : sj_Z) (hl9 : l.stackTraces = false) (hs : sj_M K N T T z e S) (hM : mw_S S T) (hJ : mj S T) (h229 : ∀ p, 4 * T ≤ p → S 229 p = 0) (hz : ∀ i, i < 4 → z.2 i < 0 ∨ (z.2 i).toNatClampNeg < T) (sp : Nat) (v of how set fr : Int32) (hs4 : sp < 4) (hn : ms_told (nI T) (nI sp) v of how set fr = false) : pa_MT G l mX3_say 8 [pv_o 4 0, pv_i (nI sp), pv_i v, pv_i of, pv_i how, pv_i set, pv_i fr] (K, Sm, N, O) 4 27 px_A := by
  refine pa_goX l hl9 (by decide) (by simp [pa_c1l, pa_c1]) (fun _ => rfl) fun x C E EX el e0 ea => ?_
  subst el
  have hT := hM.1.1
  show pa_w G x 8 (K, Sm, N, O) 0 0 0 [some (pv_o 4 0), some (pv_i (nI sp)), some (pv_i v), some (pv_i of), some (pv_i how), some (pv_i set), some (pv_i fr), none] []
  refine pr_aload_n (pc := 0) C dX3_say_0 rfl ?_
  refine pr_iload_n (pc := 1) C dX3_say_1 rfl ?_
  refine pr_iload_n (pc := 2) C dX3_say_2 rfl ?_
  refine pr_iload_n (pc := 3) C dX3_say_3 rfl ?_
  refine pr_iload (pc := 4) C dX3_say_4 rfl ?_
  refine pr_iload (pc := 6) C dX3_say_6 rfl ?_
  refine pr_iload (pc := 8) C dX3_say_8 rfl ?_
  exact pr_vX (pc := 10) C EX (c_X3_draftX2 G _ K Sm S N O T e z hl9 hs hM hJ h229 hz sp v of how set fr hs4 hn) (fun _ q => q) wv_X3_88 rfl rfl (by decide) (by decide) (pl_4 _) (by decide) (by omega) (by omega) (by omega) (by omega) (pa_bk e0) dX3_say_10

