/-! A DRAFT: what a new turn is in the state; whether it is well told -/
/-- a turn is written at T -/
def sc_dr (S : Nat → Nat → Int32) (T sp : Nat) (act of how set fr : Int32) : Nat → Nat → Int32 :=
  pa_us (pa_us (pa_us (pa_us (pa_us (pa_us (pa_us (pa_us S 218 T (nI sp)) 219 T act) 220 T of) 221 T how) 222 T set) 223 T fr) 225 T (-1)) 226 T (S 204 sp)
section DR
variable {K : Nat → Nat → Nat → Int32} {N : Nat → Nat} {T D e sp : Nat} {z : sj_Z} {S : Nat → Nat → Int32} {act of how set fr : Int32}
theorem sc_dr_ne {g j : Nat} (h : g ∉ [218, 219, 220, 221, 222, 223, 225, 226]) : sc_dr S T sp act of how set fr g j = S g j := by
  have hn : ∀ f, f ∈ [218, 219, 220, 221, 222, 223, 225, 226] → g ≠ f := fun f hf e => h (e ▸ hf)
  unfold sc_dr
  rw [pa_us_ne (hn 226 (by decide)), pa_us_ne (hn 225 (by decide)), pa_us_ne (hn 223 (by decide)), pa_us_ne (hn 222 (by decide)), pa_us_ne (hn 221 (by decide)), pa_us_ne (hn 220 (by decide)), pa_us_ne (hn 219 (by decide)), pa_us_ne (hn 218 (by decide))]
theorem sc_dr_nj {g j : Nat} (h : j ≠ T) : sc_dr S T sp act of how set fr g j = S g j := by
  unfold sc_dr
  rw [pa_us_nj h, pa_us_nj h, pa_us_nj h, pa_us_nj h, pa_us_nj h, pa_us_nj h, pa_us_nj h, pa_us_nj h]
theorem sc_dr_v : sc_dr S T sp act of how set fr 218 T = nI sp ∧ sc_dr S T sp act of how set fr 219 T = act ∧ sc_dr S T sp act of how set fr 220 T = of ∧ sc_dr S T sp act of how set fr 221 T = how ∧ sc_dr S T sp act of how set fr 222 T = set ∧ sc_dr S T sp act of how set fr 223 T = fr ∧ sc_dr S T sp act of how set fr 225 T = -1 ∧ sc_dr S T sp act of how set fr 226 T = S 204 sp := by
  unfold sc_dr
  simp [pa_us]
/-- the rows beside the ends being none, the class's state is the same -/
theorem sj_nK (h : sj_M K N T D z e S) : sj_M (pn_nK K) N T D z e S := by
  have hq : ∀ q ∈ sj_T, (q.1 = 50 → q.2.2.2.2 ≤ 10) ∧ q.1 ≠ 51 := by decide
  refine ⟨fun q hm o j ho hj => ?_, ?_⟩
  · rw [show pn_nK K q.1 o j = K q.1 o j from if_neg (fun w => w.1.elim (fun w1 => by have := (hq q hm).1 w1; omega) (hq q hm).2)]
    exact h.1 q hm o j ho hj
  · obtain ⟨-, h1, h2, h3, h4, h5, h6, h7, h8, h9, h10, h11⟩ := h
    have hf : ∀ i a, sj_fs (pn_nK K) i a = sj_fs K i a := fun i a => by
      funext v n
      unfold sj_fs
      rw [pn_nK_ne (by decide), pn_nK_ne (by decide), pn_nK_ne (by decide)]
    refine ⟨h1, fun i hi => (pn_nK_ne (by decide)).trans (h2 i hi), fun t ht => (pn_nK_ne (by decide)).trans (h3 t ht), fun j hj => (pn_nK_ne (by decide)).trans (h4 j hj), fun i hi => (pn_nK_ne (by decide)).trans (h5 i hi), fun t ht => ?_, fun i a hi ha => (pn_nK_lt ha).trans (h7 i a hi ha), fun i a hi ha => ?_, fun i j hi hj => ?_, fun i a hi ha => ?_, h11⟩
    · rw [pn_nK_ne (by decide)]
      exact h6 t ht
    · rw [pn_nK_ne (by decide)]
      exact h8 i a hi ha
    · rw [pn_nK_ne (by decide)]
      exact h9 i j hi hj
    · rw [hf]
      exact h10 i a hi ha
theorem pn_tK_ne {k : Nat} {v1 v2 v3 v4 v5 : Int32} {f i j : Nat} (h : f / 40 ≠ 3) : pn_tK K D k v1 v2 v3 v4 v5 f i j = K f i j := if_neg (fun w => h w.2)
theorem pn_tK_ni {k : Nat} {v1 v2 v3 v4 v5 : Int32} {f i j : Nat} (h : i ≠ D) : pn_tK K D k v1 v2 v3 v4 v5 f i j = K f i j := if_neg (fun w => h w.1)
theorem pn_tK_v {k : Nat} {v1 v2 v3 v4 v5 : Int32} {f j : Nat} (h : f / 40 = 3) : pn_tK K D k v1 v2 v3 v4 v5 f D j = pn_tv k v1 v2 v3 v4 v5 (K 43 k 0) f := if_pos ⟨rfl, h⟩
set_option maxHeartbeats 4000000 in
/-- the state behind the making of a turn -/
theorem sj_dr (h : sj_M K N T T z e S) (hsp : sp < 4) (h224 : S 224 T = 0) (h227 : S 227 T = 0) (h228 : ∀ j, j < 4 → S 228 (4 * T + j) = 0) (h229 : ∀ j, j < 4 → S 229 (4 * T + j) = 0) : sj_M (pn_tK K T sp act of how set fr) (pa_un N 0 (T + 1)) T (T + 1) z e (sc_dr S T sp act of how set fr) := by
  have hv := sc_dr_v (S := S) (T := T) (sp := sp) (act := act) (of := of) (how := how) (set := set) (fr := fr)
  have h43 := sj_r43 h hsp
  refine ⟨fun q hq o j ho hj => ?_, ?_⟩
  · simp only [sj_T, List.mem_cons, List.not_mem_nil, or_false] at hq
    rcases hq with rfl | rfl | rfl | rfl | rfl | rfl | rfl | rfl | rfl | rfl | rfl | rfl | rfl | rfl | rfl | rfl | rfl | rfl | rfl | rfl | rfl | rfl | rfl | rfl | rfl | rfl
    · exact ((pn_tK_ne (f := 41) (by decide)).trans (h.1 (41, 202, 1, 0, 1) (by decide) o j ho hj)).trans (sc_dr_ne (by decide)).symm
    · exact ((pn_tK_ne (f := 42) (by decide)).trans (h.1 (42, 203, 1, 0, 1) (by decide) o j ho hj)).trans (sc_dr_ne (by decide)).symm
    · exact ((pn_tK_ne (f := 43) (by decide)).trans (h.1 (43, 204, 1, 0, 1) (by decide) o j ho hj)).trans (sc_dr_ne (by decide)).symm
    · exact ((pn_tK_ne (f := 44) (by decide)).trans (h.1 (44, 205, 1, 0, 1) (by decide) o j ho hj)).trans (sc_dr_ne (by decide)).symm
    · exact ((pn_tK_ne (f := 45) (by decide)).trans (h.1 (45, 206, 1, 0, 1) (by decide) o j ho hj)).trans (sc_dr_ne (by decide)).symm
    · exact ((pn_tK_ne (f := 46) (by decide)).trans (h.1 (46, 212, 1, 0, 1) (by decide) o j ho hj)).trans (sc_dr_ne (by decide)).symm
    · exact ((pn_tK_ne (f := 48) (by decide)).trans (h.1 (48, 207, 10, 0, 10) (by decide) o j ho hj)).trans (sc_dr_ne (by decide)).symm
    · exact ((pn_tK_ne (f := 49) (by decide)).trans (h.1 (49, 208, 10, 0, 10) (by decide) o j ho hj)).trans (sc_dr_ne (by decide)).symm
    · exact ((pn_tK_ne (f := 50) (by decide)).trans (h.1 (50, 209, 10, 0, 10) (by decide) o j ho hj)).trans (sc_dr_ne (by decide)).symm
    · by_cases co : o = T
      · subst co
        obtain rfl : j = 0 := by have : j < 1 := hj; omega
        show pn_tK K o sp act of how set fr 120 o 0 = sc_dr S o sp act of how set fr 218 (1 * o + 0)
        rw [pn_tK_v (by decide), show 1 * o + 0 = o by omega]
        exact hv.1.symm
      · have ho9 : o < T + 1 := ho
        have h0 := h.1 (120, 218, 1, 1, 1) (by decide) o j (show o < T by omega) hj
        have hj9 : j < 1 := hj
        exact ((pn_tK_ni co).trans h0).trans (sc_dr_nj (show 1 * o + j ≠ T by omega)).symm
    · by_cases co : o = T
      · subst co
        obtain rfl : j = 0 := by have : j < 1 := hj; omega
        show pn_tK K o sp act of how set fr 121 o 0 = sc_dr S o sp act of how set fr 219 (1 * o + 0)
        rw [pn_tK_v (by decide), show 1 * o + 0 = o by omega]
        exact hv.2.1.symm
      · have ho9 : o < T + 1 := ho
        have h0 := h.1 (121, 219, 1, 1, 1) (by decide) o j (show o < T by omega) hj
        have hj9 : j < 1 := hj
        exact ((pn_tK_ni co).trans h0).trans (sc_dr_nj (show 1 * o + j ≠ T by omega)).symm
    · by_cases co : o = T
      · subst co
        obtain rfl : j = 0 := by have : j < 1 := hj; omega
        show pn_tK K o sp act of how set fr 122 o 0 = sc_dr S o sp act of how set fr 222 (1 * o + 0)
        rw [pn_tK_v (by decide), show 1 * o + 0 = o by omega]
        exact hv.2.2.2.2.1.symm
      · have ho9 : o < T + 1 := ho
        have h0 := h.1 (122, 222, 1, 1, 1) (by decide) o j (show o < T by omega) hj
        have hj9 : j < 1 := hj
        exact ((pn_tK_ni co).trans h0).trans (sc_dr_nj (show 1 * o + j ≠ T by omega)).symm
    · by_cases co : o = T
      · subst co
        obtain rfl : j = 0 := by have : j < 1 := hj; omega
        show pn_tK K o sp act of how set fr 123 o 0 = sc_dr S o sp act of how set fr 223 (1 * o + 0)
        rw [pn_tK_v (by decide), show 1 * o + 0 = o by omega]
        exact hv.2.2.2.2.2.1.symm
      · have ho9 : o < T + 1 := ho
        have h0 := h.1 (123, 223, 1, 1, 1) (by decide) o j (show o < T by omega) hj
        have hj9 : j < 1 := hj
        exact ((pn_tK_ni co).trans h0).trans (sc_dr_nj (show 1 * o + j ≠ T by omega)).symm
    · by_cases co : o = T
      · subst co
        obtain rfl : j = 0 := by have : j < 1 := hj; omega
        show pn_tK K o sp act of how set fr 124 o 0 = sc_dr S o sp act of how set fr 226 (1 * o + 0)
        rw [pn_tK_v (by decide), show 1 * o + 0 = o by omega]
        exact (h43.trans hv.2.2.2.2.2.2.2.symm)
      · have ho9 : o < T + 1 := ho
        have h0 := h.1 (124, 226, 1, 1, 1) (by decide) o j (show o < T by omega) hj
        have hj9 : j < 1 := hj
        exact ((pn_tK_ni co).trans h0).trans (sc_dr_nj (show 1 * o + j ≠ T by omega)).symm
    · by_cases co : o = T
      · subst co
        obtain rfl : j = 0 := by have : j < 1 := hj; omega
        show pn_tK K o sp act of how set fr 126 o 0 = sc_dr S o sp act of how set fr 220 (1 * o + 0)
        rw [pn_tK_v (by decide), show 1 * o + 0 = o by omega]
        exact hv.2.2.1.symm
      · have ho9 : o < T + 1 := ho
        have h0 := h.1 (126, 220, 1, 1, 1) (by decide) o j (show o < T by omega) hj
        have hj9 : j < 1 := hj
        exact ((pn_tK_ni co).trans h0).trans (sc_dr_nj (show 1 * o + j ≠ T by omega)).symm
    · by_cases co : o = T
      · subst co
        obtain rfl : j = 0 := by have : j < 1 := hj; omega
        show pn_tK K o sp act of how set fr 127 o 0 = sc_dr S o sp act of how set fr 221 (1 * o + 0)
        rw [pn_tK_v (by decide), show 1 * o + 0 = o by omega]
        exact hv.2.2.2.1.symm
      · have ho9 : o < T + 1 := ho
        have h0 := h.1 (127, 221, 1, 1, 1) (by decide) o j (show o < T by omega) hj
        have hj9 : j < 1 := hj
        exact ((pn_tK_ni co).trans h0).trans (sc_dr_nj (show 1 * o + j ≠ T by omega)).symm
    · by_cases co : o = T
      · subst co
        obtain rfl : j = 0 := by have : j < 1 := hj; omega
        show pn_tK K o sp act of how set fr 129 o 0 = sc_dr S o sp act of how set fr 225 (1 * o + 0)
        rw [pn_tK_v (by decide), show 1 * o + 0 = o by omega]
        exact hv.2.2.2.2.2.2.1.symm
      · have ho9 : o < T + 1 := ho
        have h0 := h.1 (129, 225, 1, 1, 1) (by decide) o j (show o < T by omega) hj
        have hj9 : j < 1 := hj
        exact ((pn_tK_ni co).trans h0).trans (sc_dr_nj (show 1 * o + j ≠ T by omega)).symm
    · by_cases co : o = T
      · subst co
        obtain rfl : j = 0 := by have : j < 1 := hj; omega
        show pn_tK K o sp act of how set fr 130 o 0 = sc_dr S o sp act of how set fr 227 (1 * o + 0)
        rw [pn_tK_v (by decide), show 1 * o + 0 = o by omega]
        exact ((sc_dr_ne (by decide)).trans h227).symm
      · have ho9 : o < T + 1 := ho
        have h0 := h.1 (130, 227, 1, 1, 1) (by decide) o j (show o < T by omega) hj
        have hj9 : j < 1 := hj
        exact ((pn_tK_ni co).trans h0).trans (sc_dr_nj (show 1 * o + j ≠ T by omega)).symm
    · by_cases co : o = T
      · subst co
        exact (pn_tK_v (f := 131) (by decide)).trans ((sc_dr_ne (g := 228) (by decide)).trans (h228 j hj)).symm
      · have ho9 : o < T + 1 := ho
        exact ((pn_tK_ni co).trans (h.1 (131, 228, 4, 1, 4) (by decide) o j (show o < T by omega) hj)).trans (sc_dr_ne (g := 228) (by decide)).symm
    · by_cases co : o = T
      · subst co
        exact (pn_tK_v (f := 132) (by decide)).trans ((sc_dr_ne (g := 229) (by decide)).trans (h229 j hj)).symm
      · have ho9 : o < T + 1 := ho
        exact ((pn_tK_ni co).trans (h.1 (132, 229, 4, 1, 4) (by decide) o j (show o < T by omega) hj)).trans (sc_dr_ne (g := 229) (by decide)).symm
    · exact ((pn_tK_ne (f := 161) (by decide)).trans (h.1 (161, 213, 8, 2, 8) (by decide) o j ho hj)).trans (sc_dr_ne (by decide)).symm
    · exact ((pn_tK_ne (f := 165) (by decide)).trans (h.1 (165, 201, 1, 2, 1) (by decide) o j ho hj)).trans (sc_dr_ne (by decide)).symm
    · exact ((pn_tK_ne (f := 166) (by decide)).trans (h.1 (166, 200, 1, 2, 1) (by decide) o j ho hj)).trans (sc_dr_ne (by decide)).symm
    · exact ((pn_tK_ne (f := 167) (by decide)).trans (h.1 (167, 215, 1, 2, 1) (by decide) o j ho hj)).trans (sc_dr_ne (by decide)).symm
    · exact ((pn_tK_ne (f := 168) (by decide)).trans (h.1 (168, 216, 1, 2, 1) (by decide) o j ho hj)).trans (sc_dr_ne (by decide)).symm
    · exact ((pn_tK_ne (f := 169) (by decide)).trans (h.1 (169, 214, 1, 2, 1) (by decide) o j ho hj)).trans (sc_dr_ne (by decide)).symm
  · obtain ⟨-, h1, h2, h3, h4, h5, h6, h7, h8, h9, h10, h11⟩ := h
    have eN : ∀ k, k ≠ 0 → pa_un N 0 (T + 1) k = N k := fun k hk => if_neg hk
    have hf : ∀ i a, sj_fs (pn_tK K T sp act of how set fr) i a = sj_fs K i a := fun i a => by
      funext v n
      unfold sj_fs
      rw [pn_tK_ne (by decide), pn_tK_ne (by decide), pn_tK_ne (by decide)]
    have hnd : sj_nd (sc_dr S T sp act of how set fr) T = sj_nd S T := sj_c_cong fun k hk => by rw [sc_dr_nj (by omega)]
    have hnz : sj_nz (sc_dr S T sp act of how set fr) = sj_nz S := sj_c_cong fun k hk => by rw [sc_dr_ne (by decide)]
    have hnh : sj_nh (sc_dr S T sp act of how set fr) = sj_nh S := sj_c_cong fun k hk => by rw [sc_dr_ne (by decide)]
    refine ⟨?_, fun i hi => (pn_tK_ne (by decide)).trans (h2 i hi), fun t ht => (pn_tK_ni (by omega)).trans (h3 t ht), fun j hj => ?_, fun i hi => (pn_tK_ne (by decide)).trans (h5 i hi), fun t ht => ?_, fun i a hi ha => ?_, fun i a hi ha => ?_, fun i j hi hj => ?_, fun i a hi ha => ?_, ?_⟩
    · rw [eN 2 (by decide), eN 8 (by decide), eN 9 (by decide), eN 1 (by decide), eN 4 (by decide), eN 3 (by decide), eN 5 (by decide), eN 6 (by decide), eN 7 (by decide), sc_dr_ne (by decide)]
      exact ⟨rfl, h1.2.1, Nat.le_succ T, h1.2.2.2⟩
    · rw [eN 3 (by decide)] at hj
      exact ((pn_tK_ne (by decide)).trans (h4 j hj)).trans (sc_dr_ne (by decide)).symm
    · by_cases c : t = T
      · subst c
        exact Or.inl ((pn_tK_v (by decide)).trans ((sc_dr_ne (by decide)).trans h224).symm)
      · rw [pn_tK_ni c, sc_dr_ne (by decide)]
        exact h6 t (by omega)
    · rw [pn_tK_ne (by decide), sc_dr_ne (by decide), sc_dr_ne (by decide)]
      exact h7 i a hi ha
    · obtain ⟨b, hb, e1, e2⟩ := h8 i a hi ha
      exact ⟨b, hb, (pn_tK_ne (by decide)).trans e1, fun r hr => by rw [sc_dr_ne (by decide)]; exact e2 r hr⟩
    · obtain ⟨b, hb, e1, e2⟩ := h9 i j hi hj
      exact ⟨b, hb, (pn_tK_ne (by decide)).trans e1, fun r hr => by rw [sc_dr_ne (by decide)]; exact e2 r hr⟩
    · rw [hf, eN 1 (by decide), sc_dr_ne (by decide)]
      exact h10 i a hi ha
    · rw [eN 1 (by decide), hnd, hnz, hnh]
      exact h11
theorem sj_w125d (h : sj_M K N T D z e S) {o j : Nat} {v : Int32} (ho : T ≤ o) : sj_M (pa_up K 125 o j v) N T D z e S := by
  refine ⟨sj_P_of h.1 (fun q hq o' j' => pa_up_ne ?_) (fun _ _ _ => rfl), ?_⟩
  · have : ∀ q ∈ sj_T, q.1 ≠ 125 := by decide
    exact this q hq
  · obtain ⟨-, h1, h2, h3, h4, h5, h6, h7, h8, h9, h10, h11⟩ := h
    have hf : ∀ i a, sj_fs (pa_up K 125 o j v) i a = sj_fs K i a := fun i a => by
      funext v n
      unfold sj_fs
      rw [pa_up_ne (by decide), pa_up_ne (by decide), pa_up_ne (by decide)]
    refine ⟨h1, fun i hi => (pa_up_ne (by decide)).trans (h2 i hi), fun t ht => (if_neg (fun w => by omega)).trans (h3 t ht), fun j hj => (pa_up_ne (by decide)).trans (h4 j hj), fun i hi => (pa_up_ne (by decide)).trans (h5 i hi), fun t ht => ?_, fun i a hi ha => (pa_up_ne (by decide)).trans (h7 i a hi ha), fun i a hi ha => ?_, fun i j hi hj => ?_, fun i a hi ha => ?_, h11⟩
    · rw [pa_up_ne (by decide)]
      exact h6 t ht
    · rw [pa_up_ne (by decide)]
      exact h8 i a hi ha
    · rw [pa_up_ne (by decide)]
      exact h9 i j hi hj
    · rw [hf]
      exact h10 i a hi ha
/-- the draft is dropped -/
theorem sj_drop (h : sj_M K N T (T + 1) z e (sc_dr S T sp act of how set fr)) : sj_M K (pa_un N 0 T) T T z e S := by
  refine ⟨fun q hq o j ho hj => ?_, ?_⟩
  · have ho' : o < sj_own (T + 1) q.2.2.2.1 := by
      unfold sj_own at ho ⊢
      by_cases c0 : q.2.2.2.1 = 0
      · rw [if_pos c0] at ho ⊢
        exact ho
      · rw [if_neg c0] at ho ⊢
        by_cases c1 : q.2.2.2.1 = 1
        · rw [if_pos c1] at ho ⊢
          omega
        · rw [if_neg c1] at ho ⊢
          exact ho
    rw [h.1 q hq o j ho' hj]
    have hd : ∀ q ∈ sj_T, q.2.1 ∉ [218, 219, 220, 221, 222, 223, 225, 226] ∨ (q.2.2.2.1 = 1 ∧ q.2.2.1 = 1 ∧ q.2.2.2.2 = 1) := by decide
    rcases hd q hq with c | ⟨c1, c2, c3⟩
    · exact sc_dr_ne c
    · refine sc_dr_nj ?_
      rw [c2]
      rw [c1] at ho
      have ho : o < T := ho
      omega
  · obtain ⟨-, h1, h2, h3, h4, h5, h6, h7, h8, h9, h10, h11⟩ := h
    have eN : ∀ k, k ≠ 0 → pa_un N 0 T k = N k := fun k hk => if_neg hk
    have hnd : sj_nd (sc_dr S T sp act of how set fr) T = sj_nd S T := sj_c_cong fun k hk => by rw [sc_dr_nj (by omega)]
    have hnz : sj_nz (sc_dr S T sp act of how set fr) = sj_nz S := sj_c_cong fun k hk => by rw [sc_dr_ne (by decide)]
    have hnh : sj_nh (sc_dr S T sp act of how set fr) = sj_nh S := sj_c_cong fun k hk => by rw [sc_dr_ne (by decide)]
    rw [sc_dr_ne (by decide)] at h1
    refine ⟨?_, h2, h3, fun j hj => ?_, h5, fun t ht => ?_, fun i a hi ha => ?_, fun i a hi ha => ?_, fun i j hi hj => ?_, fun i a hi ha => ?_, ?_⟩
    · rw [eN 2 (by decide), eN 8 (by decide), eN 9 (by decide), eN 1 (by decide), eN 4 (by decide), eN 3 (by decide), eN 5 (by decide), eN 6 (by decide), eN 7 (by decide)]
      exact ⟨rfl, h1.2.1, Nat.le_refl T, h1.2.2.2⟩
    · rw [eN 3 (by decide)] at hj
      exact (h4 j hj).trans (sc_dr_ne (by decide))
    · have := h6 t (by omega)
      rwa [sc_dr_ne (by decide)] at this
    · have := h7 i a hi ha
      rwa [sc_dr_ne (by decide), sc_dr_ne (by decide)] at this
    · obtain ⟨b, hb, e1, e2⟩ := h8 i a hi ha
      exact ⟨b, hb, e1, fun r hr => by rw [e2 r hr, sc_dr_ne (by decide)]⟩
    · obtain ⟨b, hb, e1, e2⟩ := h9 i j hi hj
      exact ⟨b, hb, e1, fun r hr => by rw [e2 r hr, sc_dr_ne (by decide)]⟩
    · rw [eN 1 (by decide), h10 i a hi ha, sc_dr_ne (by decide)]
    · rw [eN 1 (by decide)]
      rw [hnd, hnz, hnh] at h11
      exact h11
end DR
/-- the last turn's names are dropped -/
theorem pn_low {G : pa_G} {ad : pa_Nm → Nat} {K : Nat → Nat → Nat → Int32} {S : Nat → Nat → Int32} {N : Nat → Nat} {O : Nat → Int64} {H : Heap} {T : Nat} (hT : T ≤ N 0) (h : pa_R G ad (K, S, N, O) H) : (∀ n, pa_lv (pa_un N 0 T) n → pa_lv N n) ∧ pa_R G ad (K, S, pa_un N 0 T, O) H := by
  have eN : ∀ k, k ≠ 0 → pa_un N 0 T k = N k := fun k hk => if_neg hk
  have hl : ∀ n, pa_lv (pa_un N 0 T) n → pa_lv N n := fun n hn => by
    obtain ⟨k, i⟩ := n
    have lo : ∀ q, pa_lo (pa_un N 0 T) q i → pa_lo N q i := fun q hq => by
      unfold pa_lo at hq ⊢
      rw [eN 1 (by decide)] at hq
      by_cases c3 : q = 3
      · subst c3
        have : i < T := hq
        show i < N 0
        omega
      · rw [if_neg c3] at hq ⊢
        exact hq
    unfold pa_lv at hn ⊢
    dsimp only at hn ⊢
    rw [eN 8 (by decide), eN 9 (by decide), eN (5 + i) (by omega)] at hn
    by_cases c0 : k = 0
    · rw [if_pos c0] at hn ⊢
      exact hn
    rw [if_neg c0] at hn ⊢
    by_cases c1 : k < 6
    · rw [if_pos c1] at hn ⊢
      exact lo _ hn
    rw [if_neg c1] at hn ⊢
    by_cases c6 : k = 6
    · rw [if_pos c6] at hn ⊢
      exact hn
    rw [if_neg c6] at hn ⊢
    by_cases c7 : k = 7
    · rw [if_pos c7] at hn ⊢
      exact hn
    rw [if_neg c7] at hn ⊢
    by_cases c8 : k = 8
    · rw [if_pos c8] at hn ⊢
      exact hn
    rw [if_neg c8] at hn ⊢
    by_cases c9 : k = 9
    · rw [if_pos c9] at hn ⊢
      exact hn
    rw [if_neg c9] at hn ⊢
    exact ⟨hn.1, hn.2.1, lo _ hn.2.2⟩
  have hce : ∀ n, pa_ce G ad (K, S, pa_un N 0 T, O) n = pa_ce G ad (K, S, N, O) n := fun n => by
    unfold pa_ce pa_fs pa_fv pa_le pa_av
    dsimp only
    simp only [eN (5 + n.2) (by omega), eN (2 + n.2) (by omega)]
  exact ⟨hl, fun n hn => by rw [hce]; exact h.1 n (hl n hn), fun n m hn hm => h.2.1 n m (hl n hn) (hl m hm), fun n hn => h.2.2.1 n (hl n hn), h.2.2.2⟩
/-- the heap without the draft is the heap before it -/
theorem pn_back2 {G : pa_G} {ad : pa_Nm → Nat} {K : Nat → Nat → Nat → Int32} {S : Nat → Nat → Int32} {N : Nat → Nat} {O : Nat → Int64} {H : Heap} {k : Nat} {v1 v2 v3 v4 v5 : Int32} (h2 : pa_R G ad (pn_tK K (N 0) k v1 v2 v3 v4 v5, S, N, O) H) : pa_R G ad (K, S, N, O) H := by
  refine ⟨fun n hn => ?_, h2.2⟩
  have hl := pn_lvf hn
  have e : pa_ce G ad (pn_tK K (N 0) k v1 v2 v3 v4 v5, S, N, O) n = pa_ce G ad (K, S, N, O) n := by
    obtain ⟨q, i⟩ := n
    have e0 : ∀ f o j, f / 40 ≠ 3 → pn_tK K (N 0) k v1 v2 v3 v4 v5 f o j = K f o j := fun f o j hf => pn_tK_ne hf
    have hi : q = 3 → i ≠ N 0 := fun e3 z => by
      subst e3
      subst z
      have : N 0 < N 0 := hn
      omega
    have ef : ∀ f, f / 40 = q → ∀ j, pn_tK K (N 0) k v1 v2 v3 v4 v5 f i j = K f i j := fun f hf j => by
      by_cases c : q = 3
      · exact pn_tK_ni (hi c)
      · exact pn_tK_ne (by omega)
    by_cases c1 : q < 6
    · by_cases c0 : q = 0
      · subst c0
        rw [pa_ce_l, pa_ce_l]
        dsimp only
        rw [e0 0 i 0 (by decide)]
      · rw [pa_ce_ob G ad _ i (by omega) c1, pa_ce_ob G ad _ i (by omega) c1]
        have : pa_fs ad (pn_tK K (N 0) k v1 v2 v3 v4 v5, S, N, O) q i (pa_nf q) = pa_fs ad (K, S, N, O) q i (pa_nf q) := by
          unfold pa_fs
          refine List.map_congr_left fun r hr => ?_
          have hr9 := List.mem_range.mp hr
          have hnf : pa_nf q ≤ 40 := by
            rcases (show q = 1 ∨ q = 2 ∨ q = 3 ∨ q = 4 ∨ q = 5 by omega) with rfl | rfl | rfl | rfl | rfl <;> decide
          unfold pa_fv
          dsimp only
          rw [ef (40 * q + r) (by omega) 0]
        rw [this]
    · by_cases c8 : q = 8
      · unfold pa_ce pa_le
        dsimp only
        simp only [e0 163 _ _ (by decide)]
        rw [if_neg (by omega), if_neg c1, if_neg (by omega), if_neg (by omega), if_pos c8, if_neg (by omega), if_neg c1, if_neg (by omega), if_neg (by omega), if_pos c8]
      · unfold pa_ce
        dsimp only
        rw [if_neg (by omega), if_neg c1, if_neg (by omega : ¬ q = 0), if_neg c1]
        by_cases c6 : q = 6
        · rw [if_pos c6, if_pos c6]
        rw [if_neg c6, if_neg c6]
        by_cases c7 : q = 7
        · rw [if_pos c7, if_pos c7]
        rw [if_neg c7, if_neg c7, if_neg c8, if_neg c8]
        by_cases c9 : q = 9
        · rw [if_pos c9, if_pos c9]
        rw [if_neg c9, if_neg c9]
        have hav : pa_av ad (pn_tK K (N 0) k v1 v2 v3 v4 v5, S, N, O) (q - 100) i = pa_av ad (K, S, N, O) (q - 100) i := by
          have hq9 := hl.2.2.1
          dsimp only at hq9
          have hK : pn_tK K (N 0) k v1 v2 v3 v4 v5 (q - 100) i = K (q - 100) i := funext fun j => by
            by_cases c3 : (q - 100) / 40 = 3
            · refine pn_tK_ni (fun z => ?_)
              have g := (hl.2.2.2 (q - 100) (by show q = 100 + (q - 100); omega)).2.2
              rw [c3] at g
              have : i < N 0 := g
              omega
            · exact pn_tK_ne c3
          unfold pa_av
          dsimp only
          rw [hK]
        rw [hav]
  rw [← e]
  exact h2.1 n hn
theorem pn_un0 {N : Nat → Nat} {T v : Nat} (h : N 0 = T) : pa_un (pa_un N 0 v) 0 T = N := funext fun q => by
  unfold pa_un
  by_cases c : q = 0
  · rw [if_pos c, c, h]
  · rw [if_neg c, if_neg c]
theorem pn_up125 {G : pa_G} {ad : pa_Nm → Nat} {K : Nat → Nat → Nat → Int32} {S : Nat → Nat → Int32} {N : Nat → Nat} {O : Nat → Int64} {H : Heap} {T : Nat} {v : Int32} (h : pa_R G ad (pa_up K 125 T 0 v, S, pa_un N 0 T, O) H) : pa_R G ad (K, S, pa_un N 0 T, O) H := by
  refine ⟨fun n hn => ?_, h.2⟩
  have h1 := h.1 n hn
  have hne : n ≠ (125 / 40, T) := fun z => by
    subst z
    have : T < pa_un N 0 T 0 := hn
    rw [show pa_un N 0 T 0 = T from if_pos rfl] at this
    omega
  have e := pa_ce_up (G := G) (ad := ad) (h := (K, S, pa_un N 0 T, O)) (f := 125) (i := T) (j := 0) (v := v) (n := n) (by decide) (Or.inl rfl) hne (by decide)
  rw [← e]
  exact h1
theorem pn_nB {G : pa_G} {ad : pa_Nm → Nat} {K : Nat → Nat → Nat → Int32} {r : (Nat → Nat → Int32) × ((Nat → Nat) × (Nat → Int64))} {H : Heap} (h : pa_R G ad (pn_nK K, r) H) : pa_R G ad (K, r) H := by
  refine ⟨fun n hn => ?_, h.2⟩
  have h1 := h.1 n hn
  by_cases c : n.1 = 150 ∨ n.1 = 151
  · obtain ⟨k, i⟩ := n
    have key : ∀ f, f = 50 ∨ f = 51 → va_at G.1 vwCl (ad (100 + f, i), pa_ce G ad (pn_nK K, r) (100 + f, i)) H → va_at G.1 vwCl (ad (100 + f, i), pa_ce G ad (K, r) (100 + f, i)) H := fun f hf h1 => by
      rw [pa_ce_ar] at h1 ⊢
      have hty : pa_ty f = 4 := by rcases hf with rfl | rfl <;> rfl
      have hln : pa_ln f = 10 := by rcases hf with rfl | rfl <;> rfl
      have e1 : ∀ K', pa_av ad ((K', r) : pa_H) f i = pa_rw (fun j => (pa_rc 3 (K' f i j)).map ad) := fun K' => by
        unfold pa_av
        rw [if_neg (by omega), if_pos hty]
      rw [e1, hln] at h1 ⊢
      have e2 : vp_cell (G.2.1 (pa_ac f)) (10, pa_rw (fun j => (pa_rc 3 (pn_nK K f i j)).map ad)) = vp_cell (G.2.1 (pa_ac f)) (10, pa_rw (fun j => (pa_rc 3 (K f i j)).map ad)) := by
        rw [vp_cell_q, vp_cell_q]
        exact pn_arr fun j hj => by rw [pn_nK_lt hj]
      exact (show va_at G.1 vwCl (ad (100 + f, i), .inl (G.2.1 (pa_ac f), 10, pa_rw (fun j => (pa_rc 3 (pn_nK K f i j)).map ad))) H from h1).trans (congrArg some e2)
    rcases c with c | c
    · dsimp only at c
      subst c
      exact key 50 (Or.inl rfl) h1
    · dsimp only at c
      subst c
      exact key 51 (Or.inr rfl) h1
  · have e : pa_ce G ad (pn_nK K, r) n = pa_ce G ad (K, r) n := by
      obtain ⟨k, i⟩ := n
      dsimp only at c
      have e0 : ∀ f o, pn_nK K f o 0 = K f o 0 := fun f o => pn_nK_lt (by decide)
      have e2 : ∀ o j, pn_nK K 163 o j = K 163 o j := fun o j => pn_nK_ne (by decide)
      by_cases ck : k - 100 = 50 ∨ k - 100 = 51
      · exact absurd c (fun z => z (by omega))
      · have e3 : pn_nK K (k - 100) i = K (k - 100) i := funext fun j => pn_nK_ne (by omega)
        unfold pa_ce pa_fs pa_fv pa_le pa_av
        dsimp only
        simp only [e0, e2, e3]
    rw [← e]
    exact h1
