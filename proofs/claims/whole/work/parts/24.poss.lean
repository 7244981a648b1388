/-! THE CLASS: what is possible, what is permitted, whether it can be said; who doubts; what reaches a hearer -/
/-- one bit alone -/
def sc_1 (m : Nat) : Prop := m = 1 ∨ m = 2 ∨ m = 4 ∨ m = 8
/-- a turn t by w with the act a: what it is about, to whom it is -/
def sc_t (S : Nat → Nat → Int32) (T t w a : Nat) : Prop := S 218 t = nI w ∧ w < 4 ∧ S 219 t = nI a ∧ a < 16 ∧ ((4 ≤ a ∧ a ≤ 8) ∨ 14 ≤ a → ∃ u, u < T ∧ S 220 t = nI u) ∧ (a ≤ 1 ∨ (9 ≤ a ∧ a ≤ 12) → ∃ u, u < 10 ∧ S 220 t = nI u) ∧
  ∃ m, 0 < m ∧ m < 16 ∧ S 222 t = nI m ∧ m.testBit w = false ∧ (a = 1 ∨ a = 13 → sc_1 m)
def sc_q (S : Nat → Nat → Int32) (T Q q0 : Nat) : Prop := mw_Q S Q q0 ∧ (0 < Q → q0 < T ∧ (∃ m, sc_1 m ∧ S 222 q0 = nI m) ∧ (∃ w, w < 4 ∧ S 218 q0 = nI w) ∧ ∃ y, y < 10 ∧ S 220 q0 = nI y)
theorem sc_tw {S : Nat → Nat → Int32} {T t : Nat} (hM : mw_S S T) (hJ : mj_T S T) (ht : t < T) : ∃ w a, sc_t S T t w a := by
  obtain ⟨w, a, k1, k2, k3, k4, k5, k6, -⟩ := mw_S_t hM ht
  obtain ⟨-, -, ⟨m, m0, m1, m2, m3, m4⟩, -⟩ := hJ.1 t ht
  refine ⟨w, a, k3, k1, k4, k2, fun z => ?_, k6, m, m0, m1, m2, m3 w k1 k3, fun z => m4 ?_⟩
  · obtain ⟨u, g1, g2⟩ := k5 z
    exact ⟨u, by omega, g2⟩
  · rcases z with z | z
    · exact Or.inl (by rw [k4, z]; rfl)
    · exact Or.inr (by rw [k4, z]; rfl)
theorem sc_qw {S : Nat → Nat → Int32} {T : Nat} (hM : mw_S S T) (hJ : mj_T S T) : sc_q S T (mn (S 231 0)) (ms_aq S) := by
  refine ⟨mw_S_Q hM, fun h => ?_⟩
  obtain ⟨g1, g2⟩ := mw_S_top hM h
  obtain ⟨w, a, k1, k2, k3, k4, k5, k6, -⟩ := mw_S_t hM g1
  obtain ⟨-, -, ⟨m, m0, m1, m2, m3, m4⟩, -⟩ := hJ.1 _ g1
  have ea : a = 1 := (nI_eq (by omega) (by decide)).mp (by rw [← k4]; exact g2)
  obtain ⟨y, y1, y2⟩ := k6 (by omega)
  exact ⟨g1, ⟨m, m4 (Or.inl g2), m2⟩, ⟨w, k1, k3⟩, y, y1, y2⟩
theorem sc_1b {m w : Nat} (h : sc_1 m) (hw : w < 4) : (ms_one (nI m) = nI w) = (ms_isIn (nI m) (nI w) = true) := by
  have : ∀ w, w < 4 → (ms_one (nI 1) = nI w ↔ ms_isIn (nI 1) (nI w) = true) ∧ (ms_one (nI 2) = nI w ↔ ms_isIn (nI 2) (nI w) = true) ∧ (ms_one (nI 4) = nI w ↔ ms_isIn (nI 4) (nI w) = true) ∧ (ms_one (nI 8) = nI w ↔ ms_isIn (nI 8) (nI w) = true) := by decide +kernel
  obtain ⟨a1, a2, a3, a4⟩ := this w hw
  rcases h with rfl | rfl | rfl | rfl
  · exact propext a1
  · exact propext a2
  · exact propext a3
  · exact propext a4
theorem sc_top {S : Nat → Nat → Int32} {T Q q0 w : Nat} (h : sc_q S T Q q0) (h0 : 0 < Q) (hw : w < 4) : decide (ms_top S = nI w) = ms_isIn (S 222 q0) (nI w) := by
  obtain ⟨-, ⟨m, m1, m2⟩, -⟩ := h.2 h0
  rw [mw_Q_top h.1, if_neg (by omega), m2]
  cases e : ms_isIn (nI m) (nI w)
  · exact decide_eq_false (fun z => by rw [sc_1b m1 hw, e] at z; cases z)
  · exact decide_eq_true (by rw [sc_1b m1 hw]; exact e)
theorem sc_top0 {S : Nat → Nat → Int32} {T Q q0 w : Nat} (h : sc_q S T Q q0) (h0 : Q = 0) (hw : w < 4) : decide (ms_top S = nI w) = false := by
  rw [mw_Q_top h.1, if_pos h0]
  exact decide_eq_false (fun z => nI_nm (show w < 1000 by omega) z.symm)
theorem sc_rep_poss {S : Nat → Nat → Int32} {T w a wu u : Nat} {how set : Int32} (hu : u < 100) (ha : (4 ≤ a ∧ a ≤ 8) ∨ (14 ≤ a ∧ a ≤ 15)) (hwu : S 218 u = nI wu) (hwu4 : wu < 4) (hw4 : w < 4) (ho : mj_o S T) : ms_poss S w a (nI u) how set = (decide (S 224 u = 1) && sc_rep S w a wu u) := by
  have e : (nI u).toNatClampNeg = u := nI_clamp (by omega)
  have ew : (nI wu = nI w) = (wu = w) := propext (nI_eq (by omega) (by omega))
  have h7 : (ms_isClaim S u && decide (3 ≤ S 228 (4 * u + w))) = (decide (S 224 u = 1) && (ms_isClaim S u && decide (3 ≤ S 228 (4 * u + w)))) := by
    unfold ms_isClaim
    by_cases c : S 224 u = 1 <;> simp [c]
  have h14 : (decide (S 219 u = 13) && ms_isIn (S 222 u) (nI w) && decide (S 227 u ≠ 0) && decide (3 ≤ S 228 (4 * u + w))) = (decide (S 224 u = 1) && (decide (S 227 u ≠ 0) && ms_isIn (S 222 u) (nI w) && decide (3 ≤ S 228 (4 * u + w)))) := by
    rcases ho u with c | ⟨c1, -, c2, c3⟩
    · simp [c]
    · simp [c1, c2, c3]
  rcases (show a = 4 ∨ a = 5 ∨ a = 6 ∨ a = 7 ∨ a = 8 ∨ a = 14 ∨ a = 15 by omega) with rfl | rfl | rfl | rfl | rfl | rfl | rfl
  · simp [ms_poss, sc_rep, e]
  · simp [ms_poss, sc_rep, e]
  · simp [ms_poss, sc_rep, e, hwu, ew, ms_isMissed, sc_some, Bool.and_assoc]
  · simpa [ms_poss, sc_rep, e] using h7
  · simpa [ms_poss, sc_rep, e] using h7
  · simpa [ms_poss, sc_rep, e] using h14
  · simpa [ms_poss, sc_rep, e] using h14
set_option maxRecDepth 100000 in
set_option maxHeartbeats 4000000 in
theorem c_X3_isPossible (G : pa_G) (l : Launch) (K : Nat → Nat → Nat → Int32) (Sm S : Nat → Nat → Int32) (N : Nat → Nat) (O : Nat → Int64) (T D e : Nat) (z : sj_Z) (hs : sj_M K N T D z e S) (t w a : Nat) (hM : mw_S S T) (hJ : mj S T) (ht : t < D) (hc : sc_t S T t w a) : pa_MP G l mX3_isPossible 5 [pv_o 4 0, pv_o 3 t] (K, Sm, N, O) (pv_i (pz_b (ms_poss S w a (S 220 t) (S 221 t) (S 222 t)))) := by
  refine pa_go l (by decide) (by simp [pa_c1l, pa_c1]) (fun _ => rfl) fun x C E el ea => ?_
  subst el
  have hT := hM.1.1
  have hTD := sj_TD hs
  obtain ⟨hw1, hw4, ha, ha16, hrep, hatm, m9, hm0, hm16, hto, htb, hone⟩ := id hc
  obtain ⟨Q, q0, hqq⟩ : ∃ Q q0, sc_q S T Q q0 := ⟨_, _, sc_qw hM hJ.1⟩
  have hw := hqq.1
  have hQ6 := hw.2.1
  show pa_w G x 4 (K, Sm, N, O) 0 0 0 [some (pv_o 4 0), some (pv_o 3 t), none, none] []
  refine pr_aload_n (pc := 0) C dX3_isPossible_0 rfl ?_
  rcases Nat.eq_zero_or_pos Q with hQ0 | hQ0
  · -- no question
    refine pr_vP (pc := 1) C (c_X3_topQuestion0 G _ K Sm S N O T D e z hs Q q0 hw hQ0) wv_X3_283 rfl rfl (by decide) (by decide) (pl_4 _) (Nat.le_of_ble_eq_true rfl) (by omega) (by omega) dX3_isPossible_1 ?_
    refine pr_astore_n (pc := 4) C dX3_isPossible_4 (by decide) ?_
    refine pr_aload_n (pc := 5) C dX3_isPossible_5 rfl ?_
    refine pr_geti (pc := 6) C 121 wf_X3_161 rfl (by decide) (pl_3 (sj_n0 hs (by first | assumption | omega))) dX3_isPossible_6 ?_
    refine pr_eqi (v := S 219 t) (sj_r121 hs (by first | assumption | omega)) ?_
    refine pr_eqi ha ?_
    obtain rfl | rfl | rfl | rfl | rfl | rfl | rfl | rfl | rfl | rfl | rfl | rfl | rfl | rfl | rfl | rfl : a = 0 ∨ a = 1 ∨ a = 2 ∨ a = 3 ∨ a = 4 ∨ a = 5 ∨ a = 6 ∨ a = 7 ∨ a = 8 ∨ a = 9 ∨ a = 10 ∨ a = 11 ∨ a = 12 ∨ a = 13 ∨ a = 14 ∨ a = 15 := by omega
    · -- 0
      refine pr_tableIn (pc := 9) C 80 dX3_isPossible_9 (by decide) (by decide) (off := 71) (by decide) (by decide) ?_
      refine pr_iconst (pc := 80) (v := 1) C dX3_isPossible_80 (by decide) ?_
      exact pr_iret (pc := 81) C E (Or.inr ⟨rfl, (by decide)⟩) (by omega) (by omega) ⟨(by simp [-Int32.not_le, -Int32.not_lt, pz_b, pz_lt, ms_poss, hQ0]), rfl⟩ dX3_isPossible_81
    · -- 1
      refine pr_tableIn (pc := 9) C 82 dX3_isPossible_9 (by decide) (by decide) (off := 73) (by decide) (by decide) ?_
      refine pr_aload_n (pc := 82) C dX3_isPossible_82 rfl ?_
      refine pr_getl (pc := 83) C 163 1 wf_X3_26 rfl rfl rfl (pl_4 _) dX3_isPossible_83 ?_
      refine pr_vP (pc := 86) C (c_szQ G _ K Sm S N O T D e z hs) wv_X3_147 rfl rfl (by decide) (by decide) (pl_0 (by decide)) (Nat.le_of_ble_eq_true rfl) (by omega) (by omega) dX3_isPossible_86 ?_
      refine pr_eqi hw.1 ?_
      refine pr_bipush (pc := 89) (v := 6) C dX3_isPossible_89 (by decide) ?_
      refine pr_icmp_geN (pc := 91) C 98 Q 6 dX3_isPossible_91 (by decide) rfl rfl (by omega) (by omega) (fun c_91 => ?_) (fun c_91 => ?_)
      · refine pr_iconst (pc := 98) (v := 0) C dX3_isPossible_98 (by decide) ?_
        exact pr_iret (pc := 99) C E (Or.inr ⟨rfl, (by decide)⟩) (by omega) (by omega) ⟨(by simp [-Int32.not_le, -Int32.not_lt, pz_b, pz_lt, ms_poss, hw.1, pq_lt6 hQ6, c_91]), rfl⟩ dX3_isPossible_99
      · refine pr_iconst (pc := 94) (v := 1) C dX3_isPossible_94 (by decide) ?_
        refine pr_goto (pc := 95) C 99 dX3_isPossible_95 (by decide) ?_
        exact pr_iret (pc := 99) C E (Or.inr ⟨rfl, (by decide)⟩) (by omega) (by omega) ⟨(by simp [-Int32.not_le, -Int32.not_lt, pz_b, pz_lt, ms_poss, hw.1, pq_lt6 hQ6, c_91]), rfl⟩ dX3_isPossible_99
    · -- 2
      refine pr_tableIn (pc := 9) C 100 dX3_isPossible_9 (by decide) (by decide) (off := 91) (by decide) (by decide) ?_
      refine pr_aload_n (pc := 100) C dX3_isPossible_100 rfl ?_
      refine pr_ifnull0 (pc := 101) C 119 dX3_isPossible_101 (by decide) ?_
      refine pr_iconst (pc := 119) (v := 0) C dX3_isPossible_119 (by decide) ?_
      exact pr_iret (pc := 120) C E (Or.inr ⟨rfl, (by decide)⟩) (by omega) (by omega) ⟨by unfold ms_poss; rw [if_neg (by decide), if_pos rfl, sc_top0 hqq hQ0 hw4]; simp [pz_b, ], rfl⟩ dX3_isPossible_120
    · -- 3
      refine pr_tableIn (pc := 9) C 121 dX3_isPossible_9 (by decide) (by decide) (off := 112) (by decide) (by decide) ?_
      refine pr_aload_n (pc := 121) C dX3_isPossible_121 rfl ?_
      refine pr_ifnull0 (pc := 122) C 140 dX3_isPossible_122 (by decide) ?_
      refine pr_iconst (pc := 140) (v := 0) C dX3_isPossible_140 (by decide) ?_
      exact pr_iret (pc := 141) C E (Or.inr ⟨rfl, (by decide)⟩) (by omega) (by omega) ⟨(by simp [-Int32.not_le, -Int32.not_lt, pz_b, pz_lt, ms_poss, hw.1, pq_lt0 hQ6, hQ0, show (nI 0 ≤ (0 : Int32)) by decide]), rfl⟩ dX3_isPossible_141
    · -- 4
      refine pr_tableIn (pc := 9) C 190 dX3_isPossible_9 (by decide) (by decide) (off := 181) (by decide) (by decide) ?_
      obtain ⟨u, hu, hab⟩ := hrep (by omega)
      obtain ⟨wu, au, hcu⟩ := sc_tw hM hJ.1 hu
      have hwu := hcu.1
      have hwu4 := hcu.2.1
      have hrp := sc_rep_poss (how := S 221 t) (set := S 222 t) (a := 4) (by omega) (by omega) hwu hwu4 hw4 hJ.2.2.1
      refine pr_aload_n (pc := 190) C dX3_isPossible_190 rfl ?_
      refine pr_aload_n (pc := 191) C dX3_isPossible_191 rfl ?_
      refine pr_geti (pc := 192) C 126 wf_X3_164 rfl (by decide) (pl_3 (sj_n0 hs (by first | assumption | omega))) dX3_isPossible_192 ?_
      refine pr_eqi (v := S 220 t) (sj_r126 hs (by first | assumption | omega)) ?_
      refine pr_eqi hab ?_
      refine pr_vP (pc := 195) C (c_X3_turnAtY G _ K Sm S N O T D e z hs u (by first | assumption | omega) hT) wv_X3_151 rfl rfl (by decide) (by decide) (pl_4 _) (Nat.le_of_ble_eq_true rfl) (by omega) (by omega) dX3_isPossible_195 ?_
      refine pr_astore_n (pc := 198) C dX3_isPossible_198 (by decide) ?_
      refine pr_aload_n (pc := 199) C dX3_isPossible_199 rfl ?_
      refine pr_ifnull1 (pc := 200) C dX3_isPossible_200 ?_
      refine pr_aload_n (pc := 203) C dX3_isPossible_203 rfl ?_
      refine pr_geti (pc := 204) C 128 wf_X3_176 rfl (by decide) (pl_3 (sj_n0 hs (by first | assumption | omega))) dX3_isPossible_204 ?_
      refine pr_iconst (pc := 207) (v := 1) C dX3_isPossible_207 (by decide) ?_
      refine pr_icmp_ne (pc := 208) C 223 dX3_isPossible_208 (by decide) (fun c_208 => ?_) (fun c_208 => ?_)
      · refine pr_iconst (pc := 223) (v := 0) C dX3_isPossible_223 (by decide) ?_
        exact pr_iret (pc := 224) C E (Or.inr ⟨rfl, (by decide)⟩) (by omega) (by omega) ⟨by rw [hab, hrp, decide_eq_false (fun z => absurd ((sj_st1 hs (by omega)).mpr z) (by assumption))]; rfl, rfl⟩ dX3_isPossible_224
      · refine pr_aload_n (pc := 211) C dX3_isPossible_211 rfl ?_
        refine pr_aload_n (pc := 212) C dX3_isPossible_212 rfl ?_
        refine pr_sP (pc := 213) C (c_X3_isPossibleReply G _ K Sm S N O T D e z hs t u w 4 wu (by omega) (by omega) hw1 hw4 ha (by omega) hwu hwu4 (hJ.1.1 u (by omega)).2.1 hJ.2.2.2.2.2) ws_X3_293 rfl rfl (by decide) (Nat.le_of_ble_eq_true rfl) (by omega) (by omega) dX3_isPossible_213 ?_
        refine pr_ifb_eq (pc := 216) C 223 dX3_isPossible_216 (by decide) (fun c_216 => ?_) (fun c_216 => ?_)
        · refine pr_iconst (pc := 223) (v := 0) C dX3_isPossible_223 (by decide) ?_
          exact pr_iret (pc := 224) C E (Or.inr ⟨rfl, (by decide)⟩) (by omega) (by omega) ⟨by rw [hab, hrp, decide_eq_true ((sj_st1 hs (by omega)).mp (by assumption)), Bool.true_and]; simp [-Int32.not_le, -Int32.not_lt, pz_b, pz_lt, c_216], rfl⟩ dX3_isPossible_224
        · refine pr_iconst (pc := 219) (v := 1) C dX3_isPossible_219 (by decide) ?_
          refine pr_goto (pc := 220) C 224 dX3_isPossible_220 (by decide) ?_
          exact pr_iret (pc := 224) C E (Or.inr ⟨rfl, (by decide)⟩) (by omega) (by omega) ⟨by rw [hab, hrp, decide_eq_true ((sj_st1 hs (by omega)).mp (by assumption)), Bool.true_and]; simp [-Int32.not_le, -Int32.not_lt, pz_b, pz_lt, c_216], rfl⟩ dX3_isPossible_224
    · -- 5
      refine pr_tableIn (pc := 9) C 190 dX3_isPossible_9 (by decide) (by decide) (off := 181) (by decide) (by decide) ?_
      obtain ⟨u, hu, hab⟩ := hrep (by omega)
      obtain ⟨wu, au, hcu⟩ := sc_tw hM hJ.1 hu
      have hwu := hcu.1
      have hwu4 := hcu.2.1
      have hrp := sc_rep_poss (how := S 221 t) (set := S 222 t) (a := 5) (by omega) (by omega) hwu hwu4 hw4 hJ.2.2.1
      refine pr_aload_n (pc := 190) C dX3_isPossible_190 rfl ?_
      refine pr_aload_n (pc := 191) C dX3_isPossible_191 rfl ?_
      refine pr_geti (pc := 192) C 126 wf_X3_164 rfl (by decide) (pl_3 (sj_n0 hs (by first | assumption | omega))) dX3_isPossible_192 ?_
      refine pr_eqi (v := S 220 t) (sj_r126 hs (by first | assumption | omega)) ?_
      refine pr_eqi hab ?_
      refine pr_vP (pc := 195) C (c_X3_turnAtY G _ K Sm S N O T D e z hs u (by first | assumption | omega) hT) wv_X3_151 rfl rfl (by decide) (by decide) (pl_4 _) (Nat.le_of_ble_eq_true rfl) (by omega) (by omega) dX3_isPossible_195 ?_
      refine pr_astore_n (pc := 198) C dX3_isPossible_198 (by decide) ?_
      refine pr_aload_n (pc := 199) C dX3_isPossible_199 rfl ?_
      refine pr_ifnull1 (pc := 200) C dX3_isPossible_200 ?_
      refine pr_aload_n (pc := 203) C dX3_isPossible_203 rfl ?_
      refine pr_geti (pc := 204) C 128 wf_X3_176 rfl (by decide) (pl_3 (sj_n0 hs (by first | assumption | omega))) dX3_isPossible_204 ?_
      refine pr_iconst (pc := 207) (v := 1) C dX3_isPossible_207 (by decide) ?_
      refine pr_icmp_ne (pc := 208) C 223 dX3_isPossible_208 (by decide) (fun c_208 => ?_) (fun c_208 => ?_)
      · refine pr_iconst (pc := 223) (v := 0) C dX3_isPossible_223 (by decide) ?_
        exact pr_iret (pc := 224) C E (Or.inr ⟨rfl, (by decide)⟩) (by omega) (by omega) ⟨by rw [hab, hrp, decide_eq_false (fun z => absurd ((sj_st1 hs (by omega)).mpr z) (by assumption))]; rfl, rfl⟩ dX3_isPossible_224
      · refine pr_aload_n (pc := 211) C dX3_isPossible_211 rfl ?_
        refine pr_aload_n (pc := 212) C dX3_isPossible_212 rfl ?_
        refine pr_sP (pc := 213) C (c_X3_isPossibleReply G _ K Sm S N O T D e z hs t u w 5 wu (by omega) (by omega) hw1 hw4 ha (by omega) hwu hwu4 (hJ.1.1 u (by omega)).2.1 hJ.2.2.2.2.2) ws_X3_293 rfl rfl (by decide) (Nat.le_of_ble_eq_true rfl) (by omega) (by omega) dX3_isPossible_213 ?_
        refine pr_ifb_eq (pc := 216) C 223 dX3_isPossible_216 (by decide) (fun c_216 => ?_) (fun c_216 => ?_)
        · refine pr_iconst (pc := 223) (v := 0) C dX3_isPossible_223 (by decide) ?_
          exact pr_iret (pc := 224) C E (Or.inr ⟨rfl, (by decide)⟩) (by omega) (by omega) ⟨by rw [hab, hrp, decide_eq_true ((sj_st1 hs (by omega)).mp (by assumption)), Bool.true_and]; simp [-Int32.not_le, -Int32.not_lt, pz_b, pz_lt, c_216], rfl⟩ dX3_isPossible_224
        · refine pr_iconst (pc := 219) (v := 1) C dX3_isPossible_219 (by decide) ?_
          refine pr_goto (pc := 220) C 224 dX3_isPossible_220 (by decide) ?_
          exact pr_iret (pc := 224) C E (Or.inr ⟨rfl, (by decide)⟩) (by omega) (by omega) ⟨by rw [hab, hrp, decide_eq_true ((sj_st1 hs (by omega)).mp (by assumption)), Bool.true_and]; simp [-Int32.not_le, -Int32.not_lt, pz_b, pz_lt, c_216], rfl⟩ dX3_isPossible_224
    · -- 6
      refine pr_tableIn (pc := 9) C 190 dX3_isPossible_9 (by decide) (by decide) (off := 181) (by decide) (by decide) ?_
      obtain ⟨u, hu, hab⟩ := hrep (by omega)
      obtain ⟨wu, au, hcu⟩ := sc_tw hM hJ.1 hu
      have hwu := hcu.1
      have hwu4 := hcu.2.1
      have hrp := sc_rep_poss (how := S 221 t) (set := S 222 t) (a := 6) (by omega) (by omega) hwu hwu4 hw4 hJ.2.2.1
      refine pr_aload_n (pc := 190) C dX3_isPossible_190 rfl ?_
      refine pr_aload_n (pc := 191) C dX3_isPossible_191 rfl ?_
      refine pr_geti (pc := 192) C 126 wf_X3_164 rfl (by decide) (pl_3 (sj_n0 hs (by first | assumption | omega))) dX3_isPossible_192 ?_
      refine pr_eqi (v := S 220 t) (sj_r126 hs (by first | assumption | omega)) ?_
      refine pr_eqi hab ?_
      refine pr_vP (pc := 195) C (c_X3_turnAtY G _ K Sm S N O T D e z hs u (by first | assumption | omega) hT) wv_X3_151 rfl rfl (by decide) (by decide) (pl_4 _) (Nat.le_of_ble_eq_true rfl) (by omega) (by omega) dX3_isPossible_195 ?_
      refine pr_astore_n (pc := 198) C dX3_isPossible_198 (by decide) ?_
      refine pr_aload_n (pc := 199) C dX3_isPossible_199 rfl ?_
      refine pr_ifnull1 (pc := 200) C dX3_isPossible_200 ?_
      refine pr_aload_n (pc := 203) C dX3_isPossible_203 rfl ?_
      refine pr_geti (pc := 204) C 128 wf_X3_176 rfl (by decide) (pl_3 (sj_n0 hs (by first | assumption | omega))) dX3_isPossible_204 ?_
      refine pr_iconst (pc := 207) (v := 1) C dX3_isPossible_207 (by decide) ?_
      refine pr_icmp_ne (pc := 208) C 223 dX3_isPossible_208 (by decide) (fun c_208 => ?_) (fun c_208 => ?_)
      · refine pr_iconst (pc := 223) (v := 0) C dX3_isPossible_223 (by decide) ?_
        exact pr_iret (pc := 224) C E (Or.inr ⟨rfl, (by decide)⟩) (by omega) (by omega) ⟨by rw [hab, hrp, decide_eq_false (fun z => absurd ((sj_st1 hs (by omega)).mpr z) (by assumption))]; rfl, rfl⟩ dX3_isPossible_224
      · refine pr_aload_n (pc := 211) C dX3_isPossible_211 rfl ?_
        refine pr_aload_n (pc := 212) C dX3_isPossible_212 rfl ?_
        refine pr_sP (pc := 213) C (c_X3_isPossibleReply G _ K Sm S N O T D e z hs t u w 6 wu (by omega) (by omega) hw1 hw4 ha (by omega) hwu hwu4 (hJ.1.1 u (by omega)).2.1 hJ.2.2.2.2.2) ws_X3_293 rfl rfl (by decide) (Nat.le_of_ble_eq_true rfl) (by omega) (by omega) dX3_isPossible_213 ?_
        refine pr_ifb_eq (pc := 216) C 223 dX3_isPossible_216 (by decide) (fun c_216 => ?_) (fun c_216 => ?_)
        · refine pr_iconst (pc := 223) (v := 0) C dX3_isPossible_223 (by decide) ?_
          exact pr_iret (pc := 224) C E (Or.inr ⟨rfl, (by decide)⟩) (by omega) (by omega) ⟨by rw [hab, hrp, decide_eq_true ((sj_st1 hs (by omega)).mp (by assumption)), Bool.true_and]; simp [-Int32.not_le, -Int32.not_lt, pz_b, pz_lt, c_216], rfl⟩ dX3_isPossible_224
        · refine pr_iconst (pc := 219) (v := 1) C dX3_isPossible_219 (by decide) ?_
          refine pr_goto (pc := 220) C 224 dX3_isPossible_220 (by decide) ?_
          exact pr_iret (pc := 224) C E (Or.inr ⟨rfl, (by decide)⟩) (by omega) (by omega) ⟨by rw [hab, hrp, decide_eq_true ((sj_st1 hs (by omega)).mp (by assumption)), Bool.true_and]; simp [-Int32.not_le, -Int32.not_lt, pz_b, pz_lt, c_216], rfl⟩ dX3_isPossible_224
    · -- 7
      refine pr_tableIn (pc := 9) C 190 dX3_isPossible_9 (by decide) (by decide) (off := 181) (by decide) (by decide) ?_
      obtain ⟨u, hu, hab⟩ := hrep (by omega)
      obtain ⟨wu, au, hcu⟩ := sc_tw hM hJ.1 hu
      have hwu := hcu.1
      have hwu4 := hcu.2.1
      have hrp := sc_rep_poss (how := S 221 t) (set := S 222 t) (a := 7) (by omega) (by omega) hwu hwu4 hw4 hJ.2.2.1
      refine pr_aload_n (pc := 190) C dX3_isPossible_190 rfl ?_
      refine pr_aload_n (pc := 191) C dX3_isPossible_191 rfl ?_
      refine pr_geti (pc := 192) C 126 wf_X3_164 rfl (by decide) (pl_3 (sj_n0 hs (by first | assumption | omega))) dX3_isPossible_192 ?_
      refine pr_eqi (v := S 220 t) (sj_r126 hs (by first | assumption | omega)) ?_
      refine pr_eqi hab ?_
      refine pr_vP (pc := 195) C (c_X3_turnAtY G _ K Sm S N O T D e z hs u (by first | assumption | omega) hT) wv_X3_151 rfl rfl (by decide) (by decide) (pl_4 _) (Nat.le_of_ble_eq_true rfl) (by omega) (by omega) dX3_isPossible_195 ?_
      refine pr_astore_n (pc := 198) C dX3_isPossible_198 (by decide) ?_
      refine pr_aload_n (pc := 199) C dX3_isPossible_199 rfl ?_
      refine pr_ifnull1 (pc := 200) C dX3_isPossible_200 ?_
      refine pr_aload_n (pc := 203) C dX3_isPossible_203 rfl ?_
      refine pr_geti (pc := 204) C 128 wf_X3_176 rfl (by decide) (pl_3 (sj_n0 hs (by first | assumption | omega))) dX3_isPossible_204 ?_
      refine pr_iconst (pc := 207) (v := 1) C dX3_isPossible_207 (by decide) ?_
      refine pr_icmp_ne (pc := 208) C 223 dX3_isPossible_208 (by decide) (fun c_208 => ?_) (fun c_208 => ?_)
      · refine pr_iconst (pc := 223) (v := 0) C dX3_isPossible_223 (by decide) ?_
        exact pr_iret (pc := 224) C E (Or.inr ⟨rfl, (by decide)⟩) (by omega) (by omega) ⟨by rw [hab, hrp, decide_eq_false (fun z => absurd ((sj_st1 hs (by omega)).mpr z) (by assumption))]; rfl, rfl⟩ dX3_isPossible_224
      · refine pr_aload_n (pc := 211) C dX3_isPossible_211 rfl ?_
        refine pr_aload_n (pc := 212) C dX3_isPossible_212 rfl ?_
        refine pr_sP (pc := 213) C (c_X3_isPossibleReply G _ K Sm S N O T D e z hs t u w 7 wu (by omega) (by omega) hw1 hw4 ha (by omega) hwu hwu4 (hJ.1.1 u (by omega)).2.1 hJ.2.2.2.2.2) ws_X3_293 rfl rfl (by decide) (Nat.le_of_ble_eq_true rfl) (by omega) (by omega) dX3_isPossible_213 ?_
        refine pr_ifb_eq (pc := 216) C 223 dX3_isPossible_216 (by decide) (fun c_216 => ?_) (fun c_216 => ?_)
        · refine pr_iconst (pc := 223) (v := 0) C dX3_isPossible_223 (by decide) ?_
          exact pr_iret (pc := 224) C E (Or.inr ⟨rfl, (by decide)⟩) (by omega) (by omega) ⟨by rw [hab, hrp, decide_eq_true ((sj_st1 hs (by omega)).mp (by assumption)), Bool.true_and]; simp [-Int32.not_le, -Int32.not_lt, pz_b, pz_lt, c_216], rfl⟩ dX3_isPossible_224
        · refine pr_iconst (pc := 219) (v := 1) C dX3_isPossible_219 (by decide) ?_
          refine pr_goto (pc := 220) C 224 dX3_isPossible_220 (by decide) ?_
          exact pr_iret (pc := 224) C E (Or.inr ⟨rfl, (by decide)⟩) (by omega) (by omega) ⟨by rw [hab, hrp, decide_eq_true ((sj_st1 hs (by omega)).mp (by assumption)), Bool.true_and]; simp [-Int32.not_le, -Int32.not_lt, pz_b, pz_lt, c_216], rfl⟩ dX3_isPossible_224
    · -- 8
      refine pr_tableIn (pc := 9) C 190 dX3_isPossible_9 (by decide) (by decide) (off := 181) (by decide) (by decide) ?_
      obtain ⟨u, hu, hab⟩ := hrep (by omega)
      obtain ⟨wu, au, hcu⟩ := sc_tw hM hJ.1 hu
      have hwu := hcu.1
      have hwu4 := hcu.2.1
      have hrp := sc_rep_poss (how := S 221 t) (set := S 222 t) (a := 8) (by omega) (by omega) hwu hwu4 hw4 hJ.2.2.1
      refine pr_aload_n (pc := 190) C dX3_isPossible_190 rfl ?_
      refine pr_aload_n (pc := 191) C dX3_isPossible_191 rfl ?_
      refine pr_geti (pc := 192) C 126 wf_X3_164 rfl (by decide) (pl_3 (sj_n0 hs (by first | assumption | omega))) dX3_isPossible_192 ?_
      refine pr_eqi (v := S 220 t) (sj_r126 hs (by first | assumption | omega)) ?_
      refine pr_eqi hab ?_
      refine pr_vP (pc := 195) C (c_X3_turnAtY G _ K Sm S N O T D e z hs u (by first | assumption | omega) hT) wv_X3_151 rfl rfl (by decide) (by decide) (pl_4 _) (Nat.le_of_ble_eq_true rfl) (by omega) (by omega) dX3_isPossible_195 ?_
      refine pr_astore_n (pc := 198) C dX3_isPossible_198 (by decide) ?_
      refine pr_aload_n (pc := 199) C dX3_isPossible_199 rfl ?_
      refine pr_ifnull1 (pc := 200) C dX3_isPossible_200 ?_
      refine pr_aload_n (pc := 203) C dX3_isPossible_203 rfl ?_
      refine pr_geti (pc := 204) C 128 wf_X3_176 rfl (by decide) (pl_3 (sj_n0 hs (by first | assumption | omega))) dX3_isPossible_204 ?_
      refine pr_iconst (pc := 207) (v := 1) C dX3_isPossible_207 (by decide) ?_
      refine pr_icmp_ne (pc := 208) C 223 dX3_isPossible_208 (by decide) (fun c_208 => ?_) (fun c_208 => ?_)
      · refine pr_iconst (pc := 223) (v := 0) C dX3_isPossible_223 (by decide) ?_
        exact pr_iret (pc := 224) C E (Or.inr ⟨rfl, (by decide)⟩) (by omega) (by omega) ⟨by rw [hab, hrp, decide_eq_false (fun z => absurd ((sj_st1 hs (by omega)).mpr z) (by assumption))]; rfl, rfl⟩ dX3_isPossible_224
      · refine pr_aload_n (pc := 211) C dX3_isPossible_211 rfl ?_
        refine pr_aload_n (pc := 212) C dX3_isPossible_212 rfl ?_
        refine pr_sP (pc := 213) C (c_X3_isPossibleReply G _ K Sm S N O T D e z hs t u w 8 wu (by omega) (by omega) hw1 hw4 ha (by omega) hwu hwu4 (hJ.1.1 u (by omega)).2.1 hJ.2.2.2.2.2) ws_X3_293 rfl rfl (by decide) (Nat.le_of_ble_eq_true rfl) (by omega) (by omega) dX3_isPossible_213 ?_
        refine pr_ifb_eq (pc := 216) C 223 dX3_isPossible_216 (by decide) (fun c_216 => ?_) (fun c_216 => ?_)
        · refine pr_iconst (pc := 223) (v := 0) C dX3_isPossible_223 (by decide) ?_
          exact pr_iret (pc := 224) C E (Or.inr ⟨rfl, (by decide)⟩) (by omega) (by omega) ⟨by rw [hab, hrp, decide_eq_true ((sj_st1 hs (by omega)).mp (by assumption)), Bool.true_and]; simp [-Int32.not_le, -Int32.not_lt, pz_b, pz_lt, c_216], rfl⟩ dX3_isPossible_224
        · refine pr_iconst (pc := 219) (v := 1) C dX3_isPossible_219 (by decide) ?_
          refine pr_goto (pc := 220) C 224 dX3_isPossible_220 (by decide) ?_
          exact pr_iret (pc := 224) C E (Or.inr ⟨rfl, (by decide)⟩) (by omega) (by omega) ⟨by rw [hab, hrp, decide_eq_true ((sj_st1 hs (by omega)).mp (by assumption)), Bool.true_and]; simp [-Int32.not_le, -Int32.not_lt, pz_b, pz_lt, c_216], rfl⟩ dX3_isPossible_224
    · -- 9
      refine pr_tableIn (pc := 9) C 142 dX3_isPossible_9 (by decide) (by decide) (off := 133) (by decide) (by decide) ?_
      obtain ⟨u, hu, hab⟩ := hatm (by omega)
      have ecl : (nI u).toNatClampNeg = u := nI_clamp (by omega)
      refine pr_aload_n (pc := 142) C dX3_isPossible_142 rfl ?_
      refine pr_gets (pc := 143) C 120 wf_X3_105 rfl rfl (pl_3 (sj_n0 hs (by first | assumption | omega))) w ((sj_r120 hs (by first | assumption | omega)).trans hw1) (by first | assumption | omega) dX3_isPossible_143 ?_
      refine pr_geta (pc := 146) C 49 149 wf_X3_190 rfl rfl (by decide) (pl_1 (by first | assumption | omega)) dX3_isPossible_146 ?_
      refine pr_aload_n (pc := 149) C dX3_isPossible_149 rfl ?_
      refine pr_geti (pc := 150) C 126 wf_X3_164 rfl (by decide) (pl_3 (sj_n0 hs (by first | assumption | omega))) dX3_isPossible_150 ?_
      refine pr_eqi (v := S 220 t) (sj_r126 hs (by first | assumption | omega)) ?_
      refine pr_eqi hab ?_
      refine pr_aldi (pc := 153) (n := 10) C 49 u rfl rfl rfl (pl_r1 (by decide) (by first | assumption | omega)) rfl (by omega) (by decide) dX3_isPossible_153 ?_
      refine pr_eqi (v := S 208 (10 * w + u)) (sj_r49 hs (by first | assumption | omega) (by omega)) ?_
      refine pr_if_eq (pc := 154) C 161 dX3_isPossible_154 (by decide) (fun c_154 => ?_) (fun c_154 => ?_)
      · refine pr_iconst (pc := 161) (v := 0) C dX3_isPossible_161 (by decide) ?_
        exact pr_iret (pc := 162) C E (Or.inr ⟨rfl, (by decide)⟩) (by omega) (by omega) ⟨(by simp [-Int32.not_le, -Int32.not_lt, pz_b, pz_lt, ms_poss, hab, ecl, hQ0, eq_true c_154]), rfl⟩ dX3_isPossible_162
      · refine pr_iconst (pc := 157) (v := 1) C dX3_isPossible_157 (by decide) ?_
        refine pr_goto (pc := 158) C 162 dX3_isPossible_158 (by decide) ?_
        exact pr_iret (pc := 162) C E (Or.inr ⟨rfl, (by decide)⟩) (by omega) (by omega) ⟨(by simp [-Int32.not_le, -Int32.not_lt, pz_b, pz_lt, ms_poss, hab, ecl, hQ0, eq_false c_154]), rfl⟩ dX3_isPossible_162
    · -- 10
      refine pr_tableIn (pc := 9) C 142 dX3_isPossible_9 (by decide) (by decide) (off := 133) (by decide) (by decide) ?_
      obtain ⟨u, hu, hab⟩ := hatm (by omega)
      have ecl : (nI u).toNatClampNeg = u := nI_clamp (by omega)
      refine pr_aload_n (pc := 142) C dX3_isPossible_142 rfl ?_
      refine pr_gets (pc := 143) C 120 wf_X3_105 rfl rfl (pl_3 (sj_n0 hs (by first | assumption | omega))) w ((sj_r120 hs (by first | assumption | omega)).trans hw1) (by first | assumption | omega) dX3_isPossible_143 ?_
      refine pr_geta (pc := 146) C 49 149 wf_X3_190 rfl rfl (by decide) (pl_1 (by first | assumption | omega)) dX3_isPossible_146 ?_
      refine pr_aload_n (pc := 149) C dX3_isPossible_149 rfl ?_
      refine pr_geti (pc := 150) C 126 wf_X3_164 rfl (by decide) (pl_3 (sj_n0 hs (by first | assumption | omega))) dX3_isPossible_150 ?_
      refine pr_eqi (v := S 220 t) (sj_r126 hs (by first | assumption | omega)) ?_
      refine pr_eqi hab ?_
      refine pr_aldi (pc := 153) (n := 10) C 49 u rfl rfl rfl (pl_r1 (by decide) (by first | assumption | omega)) rfl (by omega) (by decide) dX3_isPossible_153 ?_
      refine pr_eqi (v := S 208 (10 * w + u)) (sj_r49 hs (by first | assumption | omega) (by omega)) ?_
      refine pr_if_eq (pc := 154) C 161 dX3_isPossible_154 (by decide) (fun c_154 => ?_) (fun c_154 => ?_)
      · refine pr_iconst (pc := 161) (v := 0) C dX3_isPossible_161 (by decide) ?_
        exact pr_iret (pc := 162) C E (Or.inr ⟨rfl, (by decide)⟩) (by omega) (by omega) ⟨(by simp [-Int32.not_le, -Int32.not_lt, pz_b, pz_lt, ms_poss, hab, ecl, hQ0, eq_true c_154]), rfl⟩ dX3_isPossible_162
      · refine pr_iconst (pc := 157) (v := 1) C dX3_isPossible_157 (by decide) ?_
        refine pr_goto (pc := 158) C 162 dX3_isPossible_158 (by decide) ?_
        exact pr_iret (pc := 162) C E (Or.inr ⟨rfl, (by decide)⟩) (by omega) (by omega) ⟨(by simp [-Int32.not_le, -Int32.not_lt, pz_b, pz_lt, ms_poss, hab, ecl, hQ0, eq_false c_154]), rfl⟩ dX3_isPossible_162
    · -- 11
      refine pr_tableIn (pc := 9) C 80 dX3_isPossible_9 (by decide) (by decide) (off := 71) (by decide) (by decide) ?_
      refine pr_iconst (pc := 80) (v := 1) C dX3_isPossible_80 (by decide) ?_
      exact pr_iret (pc := 81) C E (Or.inr ⟨rfl, (by decide)⟩) (by omega) (by omega) ⟨(by simp [-Int32.not_le, -Int32.not_lt, pz_b, pz_lt, ms_poss, hQ0]), rfl⟩ dX3_isPossible_81
    · -- 12
      refine pr_tableIn (pc := 9) C 163 dX3_isPossible_9 (by decide) (by decide) (off := 154) (by decide) (by decide) ?_
      obtain ⟨u, hu, hab⟩ := hatm (by omega)
      have ecl : (nI u).toNatClampNeg = u := nI_clamp (by omega)
      by_cases hh : S 210 (10 * w + u) = 0
      · -- none
        refine pr_aload_n (pc := 163) C dX3_isPossible_163 rfl ?_
        refine pr_gets (pc := 164) C 120 wf_X3_105 rfl rfl (pl_3 (sj_n0 hs (by first | assumption | omega))) w ((sj_r120 hs (by first | assumption | omega)).trans hw1) (by first | assumption | omega) dX3_isPossible_164 ?_
        refine pr_geta (pc := 167) C 51 151 wf_X3_209 rfl rfl (by decide) (pl_1 (by first | assumption | omega)) dX3_isPossible_167 ?_
        refine pr_aload_n (pc := 170) C dX3_isPossible_170 rfl ?_
        refine pr_geti (pc := 171) C 126 wf_X3_164 rfl (by decide) (pl_3 (sj_n0 hs (by first | assumption | omega))) dX3_isPossible_171 ?_
        refine pr_eqi (v := S 220 t) (sj_r126 hs (by first | assumption | omega)) ?_
        refine pr_eqi hab ?_
        refine pr_aldt (pc := 174) (n := 10) C 51 u rfl rfl rfl (pl_r1 (by decide) (by first | assumption | omega)) rfl (by omega) (by decide) dX3_isPossible_174 ?_
        refine pr_eqr (v := none) (by show pa_rc 3 (K 51 w u) = none; rw [sj_r51 hs hw4 hu, if_pos hh]; rfl) ?_
        refine pr_ifnull0 (pc := 175) C 182 dX3_isPossible_175 (by decide) ?_
        refine pr_iconst (pc := 182) (v := 0) C dX3_isPossible_182 (by decide) ?_
        exact pr_iret (pc := 183) C E (Or.inr ⟨rfl, (by decide)⟩) (by omega) (by omega) ⟨(by simp [-Int32.not_le, -Int32.not_lt, pz_b, pz_lt, ms_poss, hab, ecl, hQ0, hh]), rfl⟩ dX3_isPossible_183
      · -- one
        obtain ⟨eH, ltH, -⟩ := mw_S_H hM hh
        generalize mn (S 211 (10 * w + u)) = tv at eH ltH
        refine pr_aload_n (pc := 163) C dX3_isPossible_163 rfl ?_
        refine pr_gets (pc := 164) C 120 wf_X3_105 rfl rfl (pl_3 (sj_n0 hs (by first | assumption | omega))) w ((sj_r120 hs (by first | assumption | omega)).trans hw1) (by first | assumption | omega) dX3_isPossible_164 ?_
        refine pr_geta (pc := 167) C 51 151 wf_X3_209 rfl rfl (by decide) (pl_1 (by first | assumption | omega)) dX3_isPossible_167 ?_
        refine pr_aload_n (pc := 170) C dX3_isPossible_170 rfl ?_
        refine pr_geti (pc := 171) C 126 wf_X3_164 rfl (by decide) (pl_3 (sj_n0 hs (by first | assumption | omega))) dX3_isPossible_171 ?_
        refine pr_eqi (v := S 220 t) (sj_r126 hs (by first | assumption | omega)) ?_
        refine pr_eqi hab ?_
        refine pr_aldt (pc := 174) (n := 10) C 51 u rfl rfl rfl (pl_r1 (by decide) (by first | assumption | omega)) rfl (by omega) (by decide) dX3_isPossible_174 ?_
        refine pr_eqr (v := some (3, tv)) (by show pa_rc 3 (K 51 w u) = some (3, tv); rw [sj_r51 hs hw4 hu, if_neg hh, eH]; exact pa_rc_nI (by omega)) ?_
        refine pr_ifnull1 (pc := 175) C dX3_isPossible_175 ?_
        refine pr_iconst (pc := 178) (v := 1) C dX3_isPossible_178 (by decide) ?_
        refine pr_goto (pc := 179) C 183 dX3_isPossible_179 (by decide) ?_
        exact pr_iret (pc := 183) C E (Or.inr ⟨rfl, (by decide)⟩) (by omega) (by omega) ⟨(by simp [-Int32.not_le, -Int32.not_lt, pz_b, pz_lt, ms_poss, hab, ecl, hQ0, hh]), rfl⟩ dX3_isPossible_183
    · -- 13
      refine pr_tableIn (pc := 9) C 184 dX3_isPossible_9 (by decide) (by decide) (off := 175) (by decide) (by decide) ?_
      have e13 : ms_lis (S 222 t) = ms_one (S 222 t) := by rw [hto]; exact ms_lis_one (hone (by omega))
      refine pr_aload_n (pc := 184) C dX3_isPossible_184 rfl ?_
      refine pr_aload_n (pc := 185) C dX3_isPossible_185 rfl ?_
      refine pr_vP (pc := 186) C (c_X3_bothOwn G _ K Sm S N O T D e z hs t w (by first | assumption | omega) hw1 (by first | assumption | omega)) wv_X3_290 rfl rfl (by decide) (by decide) (pl_4 _) (Nat.le_of_ble_eq_true rfl) (by omega) (by omega) dX3_isPossible_186 ?_
      exact pr_iret (pc := 189) C E (Or.inr ⟨rfl, (pz_b01 _)⟩) (by omega) (by omega) ⟨(by simp [-Int32.not_le, -Int32.not_lt, pz_b, pz_lt, ms_poss, e13, hQ0]), rfl⟩ dX3_isPossible_189
    · -- 14
      refine pr_tableOut (pc := 9) C 190 dX3_isPossible_9 (by decide) (by decide) ?_
      obtain ⟨u, hu, hab⟩ := hrep (by omega)
      obtain ⟨wu, au, hcu⟩ := sc_tw hM hJ.1 hu
      have hwu := hcu.1
      have hwu4 := hcu.2.1
      have hrp := sc_rep_poss (how := S 221 t) (set := S 222 t) (a := 14) (by omega) (by omega) hwu hwu4 hw4 hJ.2.2.1
      refine pr_aload_n (pc := 190) C dX3_isPossible_190 rfl ?_
      refine pr_aload_n (pc := 191) C dX3_isPossible_191 rfl ?_
      refine pr_geti (pc := 192) C 126 wf_X3_164 rfl (by decide) (pl_3 (sj_n0 hs (by first | assumption | omega))) dX3_isPossible_192 ?_
      refine pr_eqi (v := S 220 t) (sj_r126 hs (by first | assumption | omega)) ?_
      refine pr_eqi hab ?_
      refine pr_vP (pc := 195) C (c_X3_turnAtY G _ K Sm S N O T D e z hs u (by first | assumption | omega) hT) wv_X3_151 rfl rfl (by decide) (by decide) (pl_4 _) (Nat.le_of_ble_eq_true rfl) (by omega) (by omega) dX3_isPossible_195 ?_
      refine pr_astore_n (pc := 198) C dX3_isPossible_198 (by decide) ?_
      refine pr_aload_n (pc := 199) C dX3_isPossible_199 rfl ?_
      refine pr_ifnull1 (pc := 200) C dX3_isPossible_200 ?_
      refine pr_aload_n (pc := 203) C dX3_isPossible_203 rfl ?_
      refine pr_geti (pc := 204) C 128 wf_X3_176 rfl (by decide) (pl_3 (sj_n0 hs (by first | assumption | omega))) dX3_isPossible_204 ?_
      refine pr_iconst (pc := 207) (v := 1) C dX3_isPossible_207 (by decide) ?_
      refine pr_icmp_ne (pc := 208) C 223 dX3_isPossible_208 (by decide) (fun c_208 => ?_) (fun c_208 => ?_)
      · refine pr_iconst (pc := 223) (v := 0) C dX3_isPossible_223 (by decide) ?_
        exact pr_iret (pc := 224) C E (Or.inr ⟨rfl, (by decide)⟩) (by omega) (by omega) ⟨by rw [hab, hrp, decide_eq_false (fun z => absurd ((sj_st1 hs (by omega)).mpr z) (by assumption))]; rfl, rfl⟩ dX3_isPossible_224
      · refine pr_aload_n (pc := 211) C dX3_isPossible_211 rfl ?_
        refine pr_aload_n (pc := 212) C dX3_isPossible_212 rfl ?_
        refine pr_sP (pc := 213) C (c_X3_isPossibleReply G _ K Sm S N O T D e z hs t u w 14 wu (by omega) (by omega) hw1 hw4 ha (by omega) hwu hwu4 (hJ.1.1 u (by omega)).2.1 hJ.2.2.2.2.2) ws_X3_293 rfl rfl (by decide) (Nat.le_of_ble_eq_true rfl) (by omega) (by omega) dX3_isPossible_213 ?_
        refine pr_ifb_eq (pc := 216) C 223 dX3_isPossible_216 (by decide) (fun c_216 => ?_) (fun c_216 => ?_)
        · refine pr_iconst (pc := 223) (v := 0) C dX3_isPossible_223 (by decide) ?_
          exact pr_iret (pc := 224) C E (Or.inr ⟨rfl, (by decide)⟩) (by omega) (by omega) ⟨by rw [hab, hrp, decide_eq_true ((sj_st1 hs (by omega)).mp (by assumption)), Bool.true_and]; simp [-Int32.not_le, -Int32.not_lt, pz_b, pz_lt, c_216], rfl⟩ dX3_isPossible_224
        · refine pr_iconst (pc := 219) (v := 1) C dX3_isPossible_219 (by decide) ?_
          refine pr_goto (pc := 220) C 224 dX3_isPossible_220 (by decide) ?_
          exact pr_iret (pc := 224) C E (Or.inr ⟨rfl, (by decide)⟩) (by omega) (by omega) ⟨by rw [hab, hrp, decide_eq_true ((sj_st1 hs (by omega)).mp (by assumption)), Bool.true_and]; simp [-Int32.not_le, -Int32.not_lt, pz_b, pz_lt, c_216], rfl⟩ dX3_isPossible_224
    · -- 15
      refine pr_tableOut (pc := 9) C 190 dX3_isPossible_9 (by decide) (by decide) ?_
      obtain ⟨u, hu, hab⟩ := hrep (by omega)
      obtain ⟨wu, au, hcu⟩ := sc_tw hM hJ.1 hu
      have hwu := hcu.1
      have hwu4 := hcu.2.1
      have hrp := sc_rep_poss (how := S 221 t) (set := S 222 t) (a := 15) (by omega) (by omega) hwu hwu4 hw4 hJ.2.2.1
      refine pr_aload_n (pc := 190) C dX3_isPossible_190 rfl ?_
      refine pr_aload_n (pc := 191) C dX3_isPossible_191 rfl ?_
      refine pr_geti (pc := 192) C 126 wf_X3_164 rfl (by decide) (pl_3 (sj_n0 hs (by first | assumption | omega))) dX3_isPossible_192 ?_
      refine pr_eqi (v := S 220 t) (sj_r126 hs (by first | assumption | omega)) ?_
      refine pr_eqi hab ?_
      refine pr_vP (pc := 195) C (c_X3_turnAtY G _ K Sm S N O T D e z hs u (by first | assumption | omega) hT) wv_X3_151 rfl rfl (by decide) (by decide) (pl_4 _) (Nat.le_of_ble_eq_true rfl) (by omega) (by omega) dX3_isPossible_195 ?_
      refine pr_astore_n (pc := 198) C dX3_isPossible_198 (by decide) ?_
      refine pr_aload_n (pc := 199) C dX3_isPossible_199 rfl ?_
      refine pr_ifnull1 (pc := 200) C dX3_isPossible_200 ?_
      refine pr_aload_n (pc := 203) C dX3_isPossible_203 rfl ?_
      refine pr_geti (pc := 204) C 128 wf_X3_176 rfl (by decide) (pl_3 (sj_n0 hs (by first | assumption | omega))) dX3_isPossible_204 ?_
      refine pr_iconst (pc := 207) (v := 1) C dX3_isPossible_207 (by decide) ?_
      refine pr_icmp_ne (pc := 208) C 223 dX3_isPossible_208 (by decide) (fun c_208 => ?_) (fun c_208 => ?_)
      · refine pr_iconst (pc := 223) (v := 0) C dX3_isPossible_223 (by decide) ?_
        exact pr_iret (pc := 224) C E (Or.inr ⟨rfl, (by decide)⟩) (by omega) (by omega) ⟨by rw [hab, hrp, decide_eq_false (fun z => absurd ((sj_st1 hs (by omega)).mpr z) (by assumption))]; rfl, rfl⟩ dX3_isPossible_224
      · refine pr_aload_n (pc := 211) C dX3_isPossible_211 rfl ?_
        refine pr_aload_n (pc := 212) C dX3_isPossible_212 rfl ?_
        refine pr_sP (pc := 213) C (c_X3_isPossibleReply G _ K Sm S N O T D e z hs t u w 15 wu (by omega) (by omega) hw1 hw4 ha (by omega) hwu hwu4 (hJ.1.1 u (by omega)).2.1 hJ.2.2.2.2.2) ws_X3_293 rfl rfl (by decide) (Nat.le_of_ble_eq_true rfl) (by omega) (by omega) dX3_isPossible_213 ?_
        refine pr_ifb_eq (pc := 216) C 223 dX3_isPossible_216 (by decide) (fun c_216 => ?_) (fun c_216 => ?_)
        · refine pr_iconst (pc := 223) (v := 0) C dX3_isPossible_223 (by decide) ?_
          exact pr_iret (pc := 224) C E (Or.inr ⟨rfl, (by decide)⟩) (by omega) (by omega) ⟨by rw [hab, hrp, decide_eq_true ((sj_st1 hs (by omega)).mp (by assumption)), Bool.true_and]; simp [-Int32.not_le, -Int32.not_lt, pz_b, pz_lt, c_216], rfl⟩ dX3_isPossible_224
        · refine pr_iconst (pc := 219) (v := 1) C dX3_isPossible_219 (by decide) ?_
          refine pr_goto (pc := 220) C 224 dX3_isPossible_220 (by decide) ?_
          exact pr_iret (pc := 224) C E (Or.inr ⟨rfl, (by decide)⟩) (by omega) (by omega) ⟨by rw [hab, hrp, decide_eq_true ((sj_st1 hs (by omega)).mp (by assumption)), Bool.true_and]; simp [-Int32.not_le, -Int32.not_lt, pz_b, pz_lt, c_216], rfl⟩ dX3_isPossible_224
  · -- the question q0
    obtain ⟨hq0T, ⟨mq, hmq, hqto⟩, ⟨wq, hwq4, hwq⟩, yq, hyq10, hyq⟩ := hqq.2 hQ0
    have hq0 : q0 < D := by omega
    refine pr_vP (pc := 1) C (c_X3_topQuestion1 G _ K Sm S N O T D e z hs Q q0 hw hQ0 hq0) wv_X3_283 rfl rfl (by decide) (by decide) (pl_4 _) (Nat.le_of_ble_eq_true rfl) (by omega) (by omega) dX3_isPossible_1 ?_
    refine pr_astore_n (pc := 4) C dX3_isPossible_4 (by decide) ?_
    refine pr_aload_n (pc := 5) C dX3_isPossible_5 rfl ?_
    refine pr_geti (pc := 6) C 121 wf_X3_161 rfl (by decide) (pl_3 (sj_n0 hs (by first | assumption | omega))) dX3_isPossible_6 ?_
    refine pr_eqi (v := S 219 t) (sj_r121 hs (by first | assumption | omega)) ?_
    refine pr_eqi ha ?_
    obtain rfl | rfl | rfl | rfl | rfl | rfl | rfl | rfl | rfl | rfl | rfl | rfl | rfl | rfl | rfl | rfl : a = 0 ∨ a = 1 ∨ a = 2 ∨ a = 3 ∨ a = 4 ∨ a = 5 ∨ a = 6 ∨ a = 7 ∨ a = 8 ∨ a = 9 ∨ a = 10 ∨ a = 11 ∨ a = 12 ∨ a = 13 ∨ a = 14 ∨ a = 15 := by omega
    · -- 0
      refine pr_tableIn (pc := 9) C 80 dX3_isPossible_9 (by decide) (by decide) (off := 71) (by decide) (by decide) ?_
      refine pr_iconst (pc := 80) (v := 1) C dX3_isPossible_80 (by decide) ?_
      exact pr_iret (pc := 81) C E (Or.inr ⟨rfl, (by decide)⟩) (by omega) (by omega) ⟨(by simp [-Int32.not_le, -Int32.not_lt, pz_b, pz_lt, ms_poss]), rfl⟩ dX3_isPossible_81
    · -- 1
      refine pr_tableIn (pc := 9) C 82 dX3_isPossible_9 (by decide) (by decide) (off := 73) (by decide) (by decide) ?_
      refine pr_aload_n (pc := 82) C dX3_isPossible_82 rfl ?_
      refine pr_getl (pc := 83) C 163 1 wf_X3_26 rfl rfl rfl (pl_4 _) dX3_isPossible_83 ?_
      refine pr_vP (pc := 86) C (c_szQ G _ K Sm S N O T D e z hs) wv_X3_147 rfl rfl (by decide) (by decide) (pl_0 (by decide)) (Nat.le_of_ble_eq_true rfl) (by omega) (by omega) dX3_isPossible_86 ?_
      refine pr_eqi hw.1 ?_
      refine pr_bipush (pc := 89) (v := 6) C dX3_isPossible_89 (by decide) ?_
      refine pr_icmp_geN (pc := 91) C 98 Q 6 dX3_isPossible_91 (by decide) rfl rfl (by omega) (by omega) (fun c_91 => ?_) (fun c_91 => ?_)
      · refine pr_iconst (pc := 98) (v := 0) C dX3_isPossible_98 (by decide) ?_
        exact pr_iret (pc := 99) C E (Or.inr ⟨rfl, (by decide)⟩) (by omega) (by omega) ⟨(by simp [-Int32.not_le, -Int32.not_lt, pz_b, pz_lt, ms_poss, hw.1, pq_lt6 hQ6, c_91]), rfl⟩ dX3_isPossible_99
      · refine pr_iconst (pc := 94) (v := 1) C dX3_isPossible_94 (by decide) ?_
        refine pr_goto (pc := 95) C 99 dX3_isPossible_95 (by decide) ?_
        exact pr_iret (pc := 99) C E (Or.inr ⟨rfl, (by decide)⟩) (by omega) (by omega) ⟨(by simp [-Int32.not_le, -Int32.not_lt, pz_b, pz_lt, ms_poss, hw.1, pq_lt6 hQ6, c_91]), rfl⟩ dX3_isPossible_99
    · -- 2
      refine pr_tableIn (pc := 9) C 100 dX3_isPossible_9 (by decide) (by decide) (off := 91) (by decide) (by decide) ?_
      refine pr_aload_n (pc := 100) C dX3_isPossible_100 rfl ?_
      refine pr_ifnull1 (pc := 101) C dX3_isPossible_101 ?_
      refine pr_aload_n (pc := 104) C dX3_isPossible_104 rfl ?_
      refine pr_aload_n (pc := 105) C dX3_isPossible_105 rfl ?_
      refine pr_gets (pc := 106) C 120 wf_X3_105 rfl rfl (pl_3 (sj_n0 hs (by first | assumption | omega))) w ((sj_r120 hs (by first | assumption | omega)).trans hw1) (by first | assumption | omega) dX3_isPossible_106 ?_
      refine pr_vP (pc := 109) C (c_X2_isTo G _ K Sm S N O T D e z hs q0 w (by first | assumption | omega) (by first | assumption | omega)) wv_X3_286 rfl rfl (by decide) (by decide) (pl_3 (sj_n0 hs (by first | assumption | omega))) (Nat.le_of_ble_eq_true rfl) (by omega) (by omega) dX3_isPossible_109 ?_
      refine pr_ifb_eq (pc := 112) C 119 dX3_isPossible_112 (by decide) (fun c_112 => ?_) (fun c_112 => ?_)
      · refine pr_iconst (pc := 119) (v := 0) C dX3_isPossible_119 (by decide) ?_
        exact pr_iret (pc := 120) C E (Or.inr ⟨rfl, (by decide)⟩) (by omega) (by omega) ⟨by unfold ms_poss; rw [if_neg (by decide), if_pos rfl, sc_top hqq hQ0 hw4]; simp [pz_b, c_112], rfl⟩ dX3_isPossible_120
      · refine pr_iconst (pc := 115) (v := 1) C dX3_isPossible_115 (by decide) ?_
        refine pr_goto (pc := 116) C 120 dX3_isPossible_116 (by decide) ?_
        exact pr_iret (pc := 120) C E (Or.inr ⟨rfl, (by decide)⟩) (by omega) (by omega) ⟨by unfold ms_poss; rw [if_neg (by decide), if_pos rfl, sc_top hqq hQ0 hw4]; simp [pz_b, c_112], rfl⟩ dX3_isPossible_120
    · -- 3
      refine pr_tableIn (pc := 9) C 121 dX3_isPossible_9 (by decide) (by decide) (off := 112) (by decide) (by decide) ?_
      refine pr_aload_n (pc := 121) C dX3_isPossible_121 rfl ?_
      refine pr_ifnull1 (pc := 122) C dX3_isPossible_122 ?_
      refine pr_aload_n (pc := 125) C dX3_isPossible_125 rfl ?_
      refine pr_gets (pc := 126) C 120 wf_X3_105 rfl rfl (pl_3 (sj_n0 hs (by first | assumption | omega))) wq ((sj_r120 hs (by first | assumption | omega)).trans hwq) (by first | assumption | omega) dX3_isPossible_126 ?_
      refine pr_aload_n (pc := 129) C dX3_isPossible_129 rfl ?_
      refine pr_gets (pc := 130) C 120 wf_X3_105 rfl rfl (pl_3 (sj_n0 hs (by first | assumption | omega))) w ((sj_r120 hs (by first | assumption | omega)).trans hw1) (by first | assumption | omega) dX3_isPossible_130 ?_
      refine pr_acmp_ne (pc := 133) C 140 dX3_isPossible_133 (by decide) (pl_1 (by first | assumption | omega)) (pl_1 (by first | assumption | omega)) (fun c_133 => ?_) (fun c_133 => ?_)
      · simp only [Prod.mk.injEq, true_and, ne_eq] at c_133
        refine pr_iconst (pc := 140) (v := 0) C dX3_isPossible_140 (by decide) ?_
        exact pr_iret (pc := 141) C E (Or.inr ⟨rfl, (by decide)⟩) (by omega) (by omega) ⟨(by simp [-Int32.not_le, -Int32.not_lt, pz_b, pz_lt, ms_poss, hw.1, pq_lt0 hQ6, show ¬ Q = 0 by omega, mw_Q_aq hw hQ0, hwq, nI_eq (show wq < 2 ^ 31 by omega) (show w < 2 ^ 31 by omega), c_133]), rfl⟩ dX3_isPossible_141
      · simp only [Prod.mk.injEq, true_and, ne_eq] at c_133
        refine pr_iconst (pc := 136) (v := 1) C dX3_isPossible_136 (by decide) ?_
        refine pr_goto (pc := 137) C 141 dX3_isPossible_137 (by decide) ?_
        exact pr_iret (pc := 141) C E (Or.inr ⟨rfl, (by decide)⟩) (by omega) (by omega) ⟨(by simp [-Int32.not_le, -Int32.not_lt, pz_b, pz_lt, ms_poss, hw.1, pq_lt0 hQ6, show ¬ Q = 0 by omega, mw_Q_aq hw hQ0, hwq, nI_eq (show wq < 2 ^ 31 by omega) (show w < 2 ^ 31 by omega), c_133]), rfl⟩ dX3_isPossible_141
    · -- 4
      refine pr_tableIn (pc := 9) C 190 dX3_isPossible_9 (by decide) (by decide) (off := 181) (by decide) (by decide) ?_
      obtain ⟨u, hu, hab⟩ := hrep (by omega)
      obtain ⟨wu, au, hcu⟩ := sc_tw hM hJ.1 hu
      have hwu := hcu.1
      have hwu4 := hcu.2.1
      have hrp := sc_rep_poss (how := S 221 t) (set := S 222 t) (a := 4) (by omega) (by omega) hwu hwu4 hw4 hJ.2.2.1
      refine pr_aload_n (pc := 190) C dX3_isPossible_190 rfl ?_
      refine pr_aload_n (pc := 191) C dX3_isPossible_191 rfl ?_
      refine pr_geti (pc := 192) C 126 wf_X3_164 rfl (by decide) (pl_3 (sj_n0 hs (by first | assumption | omega))) dX3_isPossible_192 ?_
      refine pr_eqi (v := S 220 t) (sj_r126 hs (by first | assumption | omega)) ?_
      refine pr_eqi hab ?_
      refine pr_vP (pc := 195) C (c_X3_turnAtY G _ K Sm S N O T D e z hs u (by first | assumption | omega) hT) wv_X3_151 rfl rfl (by decide) (by decide) (pl_4 _) (Nat.le_of_ble_eq_true rfl) (by omega) (by omega) dX3_isPossible_195 ?_
      refine pr_astore_n (pc := 198) C dX3_isPossible_198 (by decide) ?_
      refine pr_aload_n (pc := 199) C dX3_isPossible_199 rfl ?_
      refine pr_ifnull1 (pc := 200) C dX3_isPossible_200 ?_
      refine pr_aload_n (pc := 203) C dX3_isPossible_203 rfl ?_
      refine pr_geti (pc := 204) C 128 wf_X3_176 rfl (by decide) (pl_3 (sj_n0 hs (by first | assumption | omega))) dX3_isPossible_204 ?_
      refine pr_iconst (pc := 207) (v := 1) C dX3_isPossible_207 (by decide) ?_
      refine pr_icmp_ne (pc := 208) C 223 dX3_isPossible_208 (by decide) (fun c_208 => ?_) (fun c_208 => ?_)
      · refine pr_iconst (pc := 223) (v := 0) C dX3_isPossible_223 (by decide) ?_
        exact pr_iret (pc := 224) C E (Or.inr ⟨rfl, (by decide)⟩) (by omega) (by omega) ⟨by rw [hab, hrp, decide_eq_false (fun z => absurd ((sj_st1 hs (by omega)).mpr z) (by assumption))]; rfl, rfl⟩ dX3_isPossible_224
      · refine pr_aload_n (pc := 211) C dX3_isPossible_211 rfl ?_
        refine pr_aload_n (pc := 212) C dX3_isPossible_212 rfl ?_
        refine pr_sP (pc := 213) C (c_X3_isPossibleReply G _ K Sm S N O T D e z hs t u w 4 wu (by omega) (by omega) hw1 hw4 ha (by omega) hwu hwu4 (hJ.1.1 u (by omega)).2.1 hJ.2.2.2.2.2) ws_X3_293 rfl rfl (by decide) (Nat.le_of_ble_eq_true rfl) (by omega) (by omega) dX3_isPossible_213 ?_
        refine pr_ifb_eq (pc := 216) C 223 dX3_isPossible_216 (by decide) (fun c_216 => ?_) (fun c_216 => ?_)
        · refine pr_iconst (pc := 223) (v := 0) C dX3_isPossible_223 (by decide) ?_
          exact pr_iret (pc := 224) C E (Or.inr ⟨rfl, (by decide)⟩) (by omega) (by omega) ⟨by rw [hab, hrp, decide_eq_true ((sj_st1 hs (by omega)).mp (by assumption)), Bool.true_and]; simp [-Int32.not_le, -Int32.not_lt, pz_b, pz_lt, c_216], rfl⟩ dX3_isPossible_224
        · refine pr_iconst (pc := 219) (v := 1) C dX3_isPossible_219 (by decide) ?_
          refine pr_goto (pc := 220) C 224 dX3_isPossible_220 (by decide) ?_
          exact pr_iret (pc := 224) C E (Or.inr ⟨rfl, (by decide)⟩) (by omega) (by omega) ⟨by rw [hab, hrp, decide_eq_true ((sj_st1 hs (by omega)).mp (by assumption)), Bool.true_and]; simp [-Int32.not_le, -Int32.not_lt, pz_b, pz_lt, c_216], rfl⟩ dX3_isPossible_224
    · -- 5
      refine pr_tableIn (pc := 9) C 190 dX3_isPossible_9 (by decide) (by decide) (off := 181) (by decide) (by decide) ?_
      obtain ⟨u, hu, hab⟩ := hrep (by omega)
      obtain ⟨wu, au, hcu⟩ := sc_tw hM hJ.1 hu
      have hwu := hcu.1
      have hwu4 := hcu.2.1
      have hrp := sc_rep_poss (how := S 221 t) (set := S 222 t) (a := 5) (by omega) (by omega) hwu hwu4 hw4 hJ.2.2.1
      refine pr_aload_n (pc := 190) C dX3_isPossible_190 rfl ?_
      refine pr_aload_n (pc := 191) C dX3_isPossible_191 rfl ?_
      refine pr_geti (pc := 192) C 126 wf_X3_164 rfl (by decide) (pl_3 (sj_n0 hs (by first | assumption | omega))) dX3_isPossible_192 ?_
      refine pr_eqi (v := S 220 t) (sj_r126 hs (by first | assumption | omega)) ?_
      refine pr_eqi hab ?_
      refine pr_vP (pc := 195) C (c_X3_turnAtY G _ K Sm S N O T D e z hs u (by first | assumption | omega) hT) wv_X3_151 rfl rfl (by decide) (by decide) (pl_4 _) (Nat.le_of_ble_eq_true rfl) (by omega) (by omega) dX3_isPossible_195 ?_
      refine pr_astore_n (pc := 198) C dX3_isPossible_198 (by decide) ?_
      refine pr_aload_n (pc := 199) C dX3_isPossible_199 rfl ?_
      refine pr_ifnull1 (pc := 200) C dX3_isPossible_200 ?_
      refine pr_aload_n (pc := 203) C dX3_isPossible_203 rfl ?_
      refine pr_geti (pc := 204) C 128 wf_X3_176 rfl (by decide) (pl_3 (sj_n0 hs (by first | assumption | omega))) dX3_isPossible_204 ?_
      refine pr_iconst (pc := 207) (v := 1) C dX3_isPossible_207 (by decide) ?_
      refine pr_icmp_ne (pc := 208) C 223 dX3_isPossible_208 (by decide) (fun c_208 => ?_) (fun c_208 => ?_)
      · refine pr_iconst (pc := 223) (v := 0) C dX3_isPossible_223 (by decide) ?_
        exact pr_iret (pc := 224) C E (Or.inr ⟨rfl, (by decide)⟩) (by omega) (by omega) ⟨by rw [hab, hrp, decide_eq_false (fun z => absurd ((sj_st1 hs (by omega)).mpr z) (by assumption))]; rfl, rfl⟩ dX3_isPossible_224
      · refine pr_aload_n (pc := 211) C dX3_isPossible_211 rfl ?_
        refine pr_aload_n (pc := 212) C dX3_isPossible_212 rfl ?_
        refine pr_sP (pc := 213) C (c_X3_isPossibleReply G _ K Sm S N O T D e z hs t u w 5 wu (by omega) (by omega) hw1 hw4 ha (by omega) hwu hwu4 (hJ.1.1 u (by omega)).2.1 hJ.2.2.2.2.2) ws_X3_293 rfl rfl (by decide) (Nat.le_of_ble_eq_true rfl) (by omega) (by omega) dX3_isPossible_213 ?_
        refine pr_ifb_eq (pc := 216) C 223 dX3_isPossible_216 (by decide) (fun c_216 => ?_) (fun c_216 => ?_)
        · refine pr_iconst (pc := 223) (v := 0) C dX3_isPossible_223 (by decide) ?_
          exact pr_iret (pc := 224) C E (Or.inr ⟨rfl, (by decide)⟩) (by omega) (by omega) ⟨by rw [hab, hrp, decide_eq_true ((sj_st1 hs (by omega)).mp (by assumption)), Bool.true_and]; simp [-Int32.not_le, -Int32.not_lt, pz_b, pz_lt, c_216], rfl⟩ dX3_isPossible_224
        · refine pr_iconst (pc := 219) (v := 1) C dX3_isPossible_219 (by decide) ?_
          refine pr_goto (pc := 220) C 224 dX3_isPossible_220 (by decide) ?_
          exact pr_iret (pc := 224) C E (Or.inr ⟨rfl, (by decide)⟩) (by omega) (by omega) ⟨by rw [hab, hrp, decide_eq_true ((sj_st1 hs (by omega)).mp (by assumption)), Bool.true_and]; simp [-Int32.not_le, -Int32.not_lt, pz_b, pz_lt, c_216], rfl⟩ dX3_isPossible_224
    · -- 6
      refine pr_tableIn (pc := 9) C 190 dX3_isPossible_9 (by decide) (by decide) (off := 181) (by decide) (by decide) ?_
      obtain ⟨u, hu, hab⟩ := hrep (by omega)
      obtain ⟨wu, au, hcu⟩ := sc_tw hM hJ.1 hu
      have hwu := hcu.1
      have hwu4 := hcu.2.1
      have hrp := sc_rep_poss (how := S 221 t) (set := S 222 t) (a := 6) (by omega) (by omega) hwu hwu4 hw4 hJ.2.2.1
      refine pr_aload_n (pc := 190) C dX3_isPossible_190 rfl ?_
      refine pr_aload_n (pc := 191) C dX3_isPossible_191 rfl ?_
      refine pr_geti (pc := 192) C 126 wf_X3_164 rfl (by decide) (pl_3 (sj_n0 hs (by first | assumption | omega))) dX3_isPossible_192 ?_
      refine pr_eqi (v := S 220 t) (sj_r126 hs (by first | assumption | omega)) ?_
      refine pr_eqi hab ?_
      refine pr_vP (pc := 195) C (c_X3_turnAtY G _ K Sm S N O T D e z hs u (by first | assumption | omega) hT) wv_X3_151 rfl rfl (by decide) (by decide) (pl_4 _) (Nat.le_of_ble_eq_true rfl) (by omega) (by omega) dX3_isPossible_195 ?_
      refine pr_astore_n (pc := 198) C dX3_isPossible_198 (by decide) ?_
      refine pr_aload_n (pc := 199) C dX3_isPossible_199 rfl ?_
      refine pr_ifnull1 (pc := 200) C dX3_isPossible_200 ?_
      refine pr_aload_n (pc := 203) C dX3_isPossible_203 rfl ?_
      refine pr_geti (pc := 204) C 128 wf_X3_176 rfl (by decide) (pl_3 (sj_n0 hs (by first | assumption | omega))) dX3_isPossible_204 ?_
      refine pr_iconst (pc := 207) (v := 1) C dX3_isPossible_207 (by decide) ?_
      refine pr_icmp_ne (pc := 208) C 223 dX3_isPossible_208 (by decide) (fun c_208 => ?_) (fun c_208 => ?_)
      · refine pr_iconst (pc := 223) (v := 0) C dX3_isPossible_223 (by decide) ?_
        exact pr_iret (pc := 224) C E (Or.inr ⟨rfl, (by decide)⟩) (by omega) (by omega) ⟨by rw [hab, hrp, decide_eq_false (fun z => absurd ((sj_st1 hs (by omega)).mpr z) (by assumption))]; rfl, rfl⟩ dX3_isPossible_224
      · refine pr_aload_n (pc := 211) C dX3_isPossible_211 rfl ?_
        refine pr_aload_n (pc := 212) C dX3_isPossible_212 rfl ?_
        refine pr_sP (pc := 213) C (c_X3_isPossibleReply G _ K Sm S N O T D e z hs t u w 6 wu (by omega) (by omega) hw1 hw4 ha (by omega) hwu hwu4 (hJ.1.1 u (by omega)).2.1 hJ.2.2.2.2.2) ws_X3_293 rfl rfl (by decide) (Nat.le_of_ble_eq_true rfl) (by omega) (by omega) dX3_isPossible_213 ?_
        refine pr_ifb_eq (pc := 216) C 223 dX3_isPossible_216 (by decide) (fun c_216 => ?_) (fun c_216 => ?_)
        · refine pr_iconst (pc := 223) (v := 0) C dX3_isPossible_223 (by decide) ?_
          exact pr_iret (pc := 224) C E (Or.inr ⟨rfl, (by decide)⟩) (by omega) (by omega) ⟨by rw [hab, hrp, decide_eq_true ((sj_st1 hs (by omega)).mp (by assumption)), Bool.true_and]; simp [-Int32.not_le, -Int32.not_lt, pz_b, pz_lt, c_216], rfl⟩ dX3_isPossible_224
        · refine pr_iconst (pc := 219) (v := 1) C dX3_isPossible_219 (by decide) ?_
          refine pr_goto (pc := 220) C 224 dX3_isPossible_220 (by decide) ?_
          exact pr_iret (pc := 224) C E (Or.inr ⟨rfl, (by decide)⟩) (by omega) (by omega) ⟨by rw [hab, hrp, decide_eq_true ((sj_st1 hs (by omega)).mp (by assumption)), Bool.true_and]; simp [-Int32.not_le, -Int32.not_lt, pz_b, pz_lt, c_216], rfl⟩ dX3_isPossible_224
    · -- 7
      refine pr_tableIn (pc := 9) C 190 dX3_isPossible_9 (by decide) (by decide) (off := 181) (by decide) (by decide) ?_
      obtain ⟨u, hu, hab⟩ := hrep (by omega)
      obtain ⟨wu, au, hcu⟩ := sc_tw hM hJ.1 hu
      have hwu := hcu.1
      have hwu4 := hcu.2.1
      have hrp := sc_rep_poss (how := S 221 t) (set := S 222 t) (a := 7) (by omega) (by omega) hwu hwu4 hw4 hJ.2.2.1
      refine pr_aload_n (pc := 190) C dX3_isPossible_190 rfl ?_
      refine pr_aload_n (pc := 191) C dX3_isPossible_191 rfl ?_
      refine pr_geti (pc := 192) C 126 wf_X3_164 rfl (by decide) (pl_3 (sj_n0 hs (by first | assumption | omega))) dX3_isPossible_192 ?_
      refine pr_eqi (v := S 220 t) (sj_r126 hs (by first | assumption | omega)) ?_
      refine pr_eqi hab ?_
      refine pr_vP (pc := 195) C (c_X3_turnAtY G _ K Sm S N O T D e z hs u (by first | assumption | omega) hT) wv_X3_151 rfl rfl (by decide) (by decide) (pl_4 _) (Nat.le_of_ble_eq_true rfl) (by omega) (by omega) dX3_isPossible_195 ?_
      refine pr_astore_n (pc := 198) C dX3_isPossible_198 (by decide) ?_
      refine pr_aload_n (pc := 199) C dX3_isPossible_199 rfl ?_
      refine pr_ifnull1 (pc := 200) C dX3_isPossible_200 ?_
      refine pr_aload_n (pc := 203) C dX3_isPossible_203 rfl ?_
      refine pr_geti (pc := 204) C 128 wf_X3_176 rfl (by decide) (pl_3 (sj_n0 hs (by first | assumption | omega))) dX3_isPossible_204 ?_
      refine pr_iconst (pc := 207) (v := 1) C dX3_isPossible_207 (by decide) ?_
      refine pr_icmp_ne (pc := 208) C 223 dX3_isPossible_208 (by decide) (fun c_208 => ?_) (fun c_208 => ?_)
      · refine pr_iconst (pc := 223) (v := 0) C dX3_isPossible_223 (by decide) ?_
        exact pr_iret (pc := 224) C E (Or.inr ⟨rfl, (by decide)⟩) (by omega) (by omega) ⟨by rw [hab, hrp, decide_eq_false (fun z => absurd ((sj_st1 hs (by omega)).mpr z) (by assumption))]; rfl, rfl⟩ dX3_isPossible_224
      · refine pr_aload_n (pc := 211) C dX3_isPossible_211 rfl ?_
        refine pr_aload_n (pc := 212) C dX3_isPossible_212 rfl ?_
        refine pr_sP (pc := 213) C (c_X3_isPossibleReply G _ K Sm S N O T D e z hs t u w 7 wu (by omega) (by omega) hw1 hw4 ha (by omega) hwu hwu4 (hJ.1.1 u (by omega)).2.1 hJ.2.2.2.2.2) ws_X3_293 rfl rfl (by decide) (Nat.le_of_ble_eq_true rfl) (by omega) (by omega) dX3_isPossible_213 ?_
        refine pr_ifb_eq (pc := 216) C 223 dX3_isPossible_216 (by decide) (fun c_216 => ?_) (fun c_216 => ?_)
        · refine pr_iconst (pc := 223) (v := 0) C dX3_isPossible_223 (by decide) ?_
          exact pr_iret (pc := 224) C E (Or.inr ⟨rfl, (by decide)⟩) (by omega) (by omega) ⟨by rw [hab, hrp, decide_eq_true ((sj_st1 hs (by omega)).mp (by assumption)), Bool.true_and]; simp [-Int32.not_le, -Int32.not_lt, pz_b, pz_lt, c_216], rfl⟩ dX3_isPossible_224
        · refine pr_iconst (pc := 219) (v := 1) C dX3_isPossible_219 (by decide) ?_
          refine pr_goto (pc := 220) C 224 dX3_isPossible_220 (by decide) ?_
          exact pr_iret (pc := 224) C E (Or.inr ⟨rfl, (by decide)⟩) (by omega) (by omega) ⟨by rw [hab, hrp, decide_eq_true ((sj_st1 hs (by omega)).mp (by assumption)), Bool.true_and]; simp [-Int32.not_le, -Int32.not_lt, pz_b, pz_lt, c_216], rfl⟩ dX3_isPossible_224
    · -- 8
      refine pr_tableIn (pc := 9) C 190 dX3_isPossible_9 (by decide) (by decide) (off := 181) (by decide) (by decide) ?_
      obtain ⟨u, hu, hab⟩ := hrep (by omega)
      obtain ⟨wu, au, hcu⟩ := sc_tw hM hJ.1 hu
      have hwu := hcu.1
      have hwu4 := hcu.2.1
      have hrp := sc_rep_poss (how := S 221 t) (set := S 222 t) (a := 8) (by omega) (by omega) hwu hwu4 hw4 hJ.2.2.1
      refine pr_aload_n (pc := 190) C dX3_isPossible_190 rfl ?_
      refine pr_aload_n (pc := 191) C dX3_isPossible_191 rfl ?_
      refine pr_geti (pc := 192) C 126 wf_X3_164 rfl (by decide) (pl_3 (sj_n0 hs (by first | assumption | omega))) dX3_isPossible_192 ?_
      refine pr_eqi (v := S 220 t) (sj_r126 hs (by first | assumption | omega)) ?_
      refine pr_eqi hab ?_
      refine pr_vP (pc := 195) C (c_X3_turnAtY G _ K Sm S N O T D e z hs u (by first | assumption | omega) hT) wv_X3_151 rfl rfl (by decide) (by decide) (pl_4 _) (Nat.le_of_ble_eq_true rfl) (by omega) (by omega) dX3_isPossible_195 ?_
      refine pr_astore_n (pc := 198) C dX3_isPossible_198 (by decide) ?_
      refine pr_aload_n (pc := 199) C dX3_isPossible_199 rfl ?_
      refine pr_ifnull1 (pc := 200) C dX3_isPossible_200 ?_
      refine pr_aload_n (pc := 203) C dX3_isPossible_203 rfl ?_
      refine pr_geti (pc := 204) C 128 wf_X3_176 rfl (by decide) (pl_3 (sj_n0 hs (by first | assumption | omega))) dX3_isPossible_204 ?_
      refine pr_iconst (pc := 207) (v := 1) C dX3_isPossible_207 (by decide) ?_
      refine pr_icmp_ne (pc := 208) C 223 dX3_isPossible_208 (by decide) (fun c_208 => ?_) (fun c_208 => ?_)
      · refine pr_iconst (pc := 223) (v := 0) C dX3_isPossible_223 (by decide) ?_
        exact pr_iret (pc := 224) C E (Or.inr ⟨rfl, (by decide)⟩) (by omega) (by omega) ⟨by rw [hab, hrp, decide_eq_false (fun z => absurd ((sj_st1 hs (by omega)).mpr z) (by assumption))]; rfl, rfl⟩ dX3_isPossible_224
      · refine pr_aload_n (pc := 211) C dX3_isPossible_211 rfl ?_
        refine pr_aload_n (pc := 212) C dX3_isPossible_212 rfl ?_
        refine pr_sP (pc := 213) C (c_X3_isPossibleReply G _ K Sm S N O T D e z hs t u w 8 wu (by omega) (by omega) hw1 hw4 ha (by omega) hwu hwu4 (hJ.1.1 u (by omega)).2.1 hJ.2.2.2.2.2) ws_X3_293 rfl rfl (by decide) (Nat.le_of_ble_eq_true rfl) (by omega) (by omega) dX3_isPossible_213 ?_
        refine pr_ifb_eq (pc := 216) C 223 dX3_isPossible_216 (by decide) (fun c_216 => ?_) (fun c_216 => ?_)
        · refine pr_iconst (pc := 223) (v := 0) C dX3_isPossible_223 (by decide) ?_
          exact pr_iret (pc := 224) C E (Or.inr ⟨rfl, (by decide)⟩) (by omega) (by omega) ⟨by rw [hab, hrp, decide_eq_true ((sj_st1 hs (by omega)).mp (by assumption)), Bool.true_and]; simp [-Int32.not_le, -Int32.not_lt, pz_b, pz_lt, c_216], rfl⟩ dX3_isPossible_224
        · refine pr_iconst (pc := 219) (v := 1) C dX3_isPossible_219 (by decide) ?_
          refine pr_goto (pc := 220) C 224 dX3_isPossible_220 (by decide) ?_
          exact pr_iret (pc := 224) C E (Or.inr ⟨rfl, (by decide)⟩) (by omega) (by omega) ⟨by rw [hab, hrp, decide_eq_true ((sj_st1 hs (by omega)).mp (by assumption)), Bool.true_and]; simp [-Int32.not_le, -Int32.not_lt, pz_b, pz_lt, c_216], rfl⟩ dX3_isPossible_224
    · -- 9
      refine pr_tableIn (pc := 9) C 142 dX3_isPossible_9 (by decide) (by decide) (off := 133) (by decide) (by decide) ?_
      obtain ⟨u, hu, hab⟩ := hatm (by omega)
      have ecl : (nI u).toNatClampNeg = u := nI_clamp (by omega)
      refine pr_aload_n (pc := 142) C dX3_isPossible_142 rfl ?_
      refine pr_gets (pc := 143) C 120 wf_X3_105 rfl rfl (pl_3 (sj_n0 hs (by first | assumption | omega))) w ((sj_r120 hs (by first | assumption | omega)).trans hw1) (by first | assumption | omega) dX3_isPossible_143 ?_
      refine pr_geta (pc := 146) C 49 149 wf_X3_190 rfl rfl (by decide) (pl_1 (by first | assumption | omega)) dX3_isPossible_146 ?_
      refine pr_aload_n (pc := 149) C dX3_isPossible_149 rfl ?_
      refine pr_geti (pc := 150) C 126 wf_X3_164 rfl (by decide) (pl_3 (sj_n0 hs (by first | assumption | omega))) dX3_isPossible_150 ?_
      refine pr_eqi (v := S 220 t) (sj_r126 hs (by first | assumption | omega)) ?_
      refine pr_eqi hab ?_
      refine pr_aldi (pc := 153) (n := 10) C 49 u rfl rfl rfl (pl_r1 (by decide) (by first | assumption | omega)) rfl (by omega) (by decide) dX3_isPossible_153 ?_
      refine pr_eqi (v := S 208 (10 * w + u)) (sj_r49 hs (by first | assumption | omega) (by omega)) ?_
      refine pr_if_eq (pc := 154) C 161 dX3_isPossible_154 (by decide) (fun c_154 => ?_) (fun c_154 => ?_)
      · refine pr_iconst (pc := 161) (v := 0) C dX3_isPossible_161 (by decide) ?_
        exact pr_iret (pc := 162) C E (Or.inr ⟨rfl, (by decide)⟩) (by omega) (by omega) ⟨(by simp [-Int32.not_le, -Int32.not_lt, pz_b, pz_lt, ms_poss, hab, ecl, eq_true c_154]), rfl⟩ dX3_isPossible_162
      · refine pr_iconst (pc := 157) (v := 1) C dX3_isPossible_157 (by decide) ?_
        refine pr_goto (pc := 158) C 162 dX3_isPossible_158 (by decide) ?_
        exact pr_iret (pc := 162) C E (Or.inr ⟨rfl, (by decide)⟩) (by omega) (by omega) ⟨(by simp [-Int32.not_le, -Int32.not_lt, pz_b, pz_lt, ms_poss, hab, ecl, eq_false c_154]), rfl⟩ dX3_isPossible_162
    · -- 10
      refine pr_tableIn (pc := 9) C 142 dX3_isPossible_9 (by decide) (by decide) (off := 133) (by decide) (by decide) ?_
      obtain ⟨u, hu, hab⟩ := hatm (by omega)
      have ecl : (nI u).toNatClampNeg = u := nI_clamp (by omega)
      refine pr_aload_n (pc := 142) C dX3_isPossible_142 rfl ?_
      refine pr_gets (pc := 143) C 120 wf_X3_105 rfl rfl (pl_3 (sj_n0 hs (by first | assumption | omega))) w ((sj_r120 hs (by first | assumption | omega)).trans hw1) (by first | assumption | omega) dX3_isPossible_143 ?_
      refine pr_geta (pc := 146) C 49 149 wf_X3_190 rfl rfl (by decide) (pl_1 (by first | assumption | omega)) dX3_isPossible_146 ?_
      refine pr_aload_n (pc := 149) C dX3_isPossible_149 rfl ?_
      refine pr_geti (pc := 150) C 126 wf_X3_164 rfl (by decide) (pl_3 (sj_n0 hs (by first | assumption | omega))) dX3_isPossible_150 ?_
      refine pr_eqi (v := S 220 t) (sj_r126 hs (by first | assumption | omega)) ?_
      refine pr_eqi hab ?_
      refine pr_aldi (pc := 153) (n := 10) C 49 u rfl rfl rfl (pl_r1 (by decide) (by first | assumption | omega)) rfl (by omega) (by decide) dX3_isPossible_153 ?_
      refine pr_eqi (v := S 208 (10 * w + u)) (sj_r49 hs (by first | assumption | omega) (by omega)) ?_
      refine pr_if_eq (pc := 154) C 161 dX3_isPossible_154 (by decide) (fun c_154 => ?_) (fun c_154 => ?_)
      · refine pr_iconst (pc := 161) (v := 0) C dX3_isPossible_161 (by decide) ?_
        exact pr_iret (pc := 162) C E (Or.inr ⟨rfl, (by decide)⟩) (by omega) (by omega) ⟨(by simp [-Int32.not_le, -Int32.not_lt, pz_b, pz_lt, ms_poss, hab, ecl, eq_true c_154]), rfl⟩ dX3_isPossible_162
      · refine pr_iconst (pc := 157) (v := 1) C dX3_isPossible_157 (by decide) ?_
        refine pr_goto (pc := 158) C 162 dX3_isPossible_158 (by decide) ?_
        exact pr_iret (pc := 162) C E (Or.inr ⟨rfl, (by decide)⟩) (by omega) (by omega) ⟨(by simp [-Int32.not_le, -Int32.not_lt, pz_b, pz_lt, ms_poss, hab, ecl, eq_false c_154]), rfl⟩ dX3_isPossible_162
    · -- 11
      refine pr_tableIn (pc := 9) C 80 dX3_isPossible_9 (by decide) (by decide) (off := 71) (by decide) (by decide) ?_
      refine pr_iconst (pc := 80) (v := 1) C dX3_isPossible_80 (by decide) ?_
      exact pr_iret (pc := 81) C E (Or.inr ⟨rfl, (by decide)⟩) (by omega) (by omega) ⟨(by simp [-Int32.not_le, -Int32.not_lt, pz_b, pz_lt, ms_poss]), rfl⟩ dX3_isPossible_81
    · -- 12
      refine pr_tableIn (pc := 9) C 163 dX3_isPossible_9 (by decide) (by decide) (off := 154) (by decide) (by decide) ?_
      obtain ⟨u, hu, hab⟩ := hatm (by omega)
      have ecl : (nI u).toNatClampNeg = u := nI_clamp (by omega)
      by_cases hh : S 210 (10 * w + u) = 0
      · -- none
        refine pr_aload_n (pc := 163) C dX3_isPossible_163 rfl ?_
        refine pr_gets (pc := 164) C 120 wf_X3_105 rfl rfl (pl_3 (sj_n0 hs (by first | assumption | omega))) w ((sj_r120 hs (by first | assumption | omega)).trans hw1) (by first | assumption | omega) dX3_isPossible_164 ?_
        refine pr_geta (pc := 167) C 51 151 wf_X3_209 rfl rfl (by decide) (pl_1 (by first | assumption | omega)) dX3_isPossible_167 ?_
        refine pr_aload_n (pc := 170) C dX3_isPossible_170 rfl ?_
        refine pr_geti (pc := 171) C 126 wf_X3_164 rfl (by decide) (pl_3 (sj_n0 hs (by first | assumption | omega))) dX3_isPossible_171 ?_
        refine pr_eqi (v := S 220 t) (sj_r126 hs (by first | assumption | omega)) ?_
        refine pr_eqi hab ?_
        refine pr_aldt (pc := 174) (n := 10) C 51 u rfl rfl rfl (pl_r1 (by decide) (by first | assumption | omega)) rfl (by omega) (by decide) dX3_isPossible_174 ?_
        refine pr_eqr (v := none) (by show pa_rc 3 (K 51 w u) = none; rw [sj_r51 hs hw4 hu, if_pos hh]; rfl) ?_
        refine pr_ifnull0 (pc := 175) C 182 dX3_isPossible_175 (by decide) ?_
        refine pr_iconst (pc := 182) (v := 0) C dX3_isPossible_182 (by decide) ?_
        exact pr_iret (pc := 183) C E (Or.inr ⟨rfl, (by decide)⟩) (by omega) (by omega) ⟨(by simp [-Int32.not_le, -Int32.not_lt, pz_b, pz_lt, ms_poss, hab, ecl, hh]), rfl⟩ dX3_isPossible_183
      · -- one
        obtain ⟨eH, ltH, -⟩ := mw_S_H hM hh
        generalize mn (S 211 (10 * w + u)) = tv at eH ltH
        refine pr_aload_n (pc := 163) C dX3_isPossible_163 rfl ?_
        refine pr_gets (pc := 164) C 120 wf_X3_105 rfl rfl (pl_3 (sj_n0 hs (by first | assumption | omega))) w ((sj_r120 hs (by first | assumption | omega)).trans hw1) (by first | assumption | omega) dX3_isPossible_164 ?_
        refine pr_geta (pc := 167) C 51 151 wf_X3_209 rfl rfl (by decide) (pl_1 (by first | assumption | omega)) dX3_isPossible_167 ?_
        refine pr_aload_n (pc := 170) C dX3_isPossible_170 rfl ?_
        refine pr_geti (pc := 171) C 126 wf_X3_164 rfl (by decide) (pl_3 (sj_n0 hs (by first | assumption | omega))) dX3_isPossible_171 ?_
        refine pr_eqi (v := S 220 t) (sj_r126 hs (by first | assumption | omega)) ?_
        refine pr_eqi hab ?_
        refine pr_aldt (pc := 174) (n := 10) C 51 u rfl rfl rfl (pl_r1 (by decide) (by first | assumption | omega)) rfl (by omega) (by decide) dX3_isPossible_174 ?_
        refine pr_eqr (v := some (3, tv)) (by show pa_rc 3 (K 51 w u) = some (3, tv); rw [sj_r51 hs hw4 hu, if_neg hh, eH]; exact pa_rc_nI (by omega)) ?_
        refine pr_ifnull1 (pc := 175) C dX3_isPossible_175 ?_
        refine pr_iconst (pc := 178) (v := 1) C dX3_isPossible_178 (by decide) ?_
        refine pr_goto (pc := 179) C 183 dX3_isPossible_179 (by decide) ?_
        exact pr_iret (pc := 183) C E (Or.inr ⟨rfl, (by decide)⟩) (by omega) (by omega) ⟨(by simp [-Int32.not_le, -Int32.not_lt, pz_b, pz_lt, ms_poss, hab, ecl, hh]), rfl⟩ dX3_isPossible_183
    · -- 13
      refine pr_tableIn (pc := 9) C 184 dX3_isPossible_9 (by decide) (by decide) (off := 175) (by decide) (by decide) ?_
      have e13 : ms_lis (S 222 t) = ms_one (S 222 t) := by rw [hto]; exact ms_lis_one (hone (by omega))
      refine pr_aload_n (pc := 184) C dX3_isPossible_184 rfl ?_
      refine pr_aload_n (pc := 185) C dX3_isPossible_185 rfl ?_
      refine pr_vP (pc := 186) C (c_X3_bothOwn G _ K Sm S N O T D e z hs t w (by first | assumption | omega) hw1 (by first | assumption | omega)) wv_X3_290 rfl rfl (by decide) (by decide) (pl_4 _) (Nat.le_of_ble_eq_true rfl) (by omega) (by omega) dX3_isPossible_186 ?_
      exact pr_iret (pc := 189) C E (Or.inr ⟨rfl, (pz_b01 _)⟩) (by omega) (by omega) ⟨(by simp [-Int32.not_le, -Int32.not_lt, pz_b, pz_lt, ms_poss, e13]), rfl⟩ dX3_isPossible_189
    · -- 14
      refine pr_tableOut (pc := 9) C 190 dX3_isPossible_9 (by decide) (by decide) ?_
      obtain ⟨u, hu, hab⟩ := hrep (by omega)
      obtain ⟨wu, au, hcu⟩ := sc_tw hM hJ.1 hu
      have hwu := hcu.1
      have hwu4 := hcu.2.1
      have hrp := sc_rep_poss (how := S 221 t) (set := S 222 t) (a := 14) (by omega) (by omega) hwu hwu4 hw4 hJ.2.2.1
      refine pr_aload_n (pc := 190) C dX3_isPossible_190 rfl ?_
      refine pr_aload_n (pc := 191) C dX3_isPossible_191 rfl ?_
      refine pr_geti (pc := 192) C 126 wf_X3_164 rfl (by decide) (pl_3 (sj_n0 hs (by first | assumption | omega))) dX3_isPossible_192 ?_
      refine pr_eqi (v := S 220 t) (sj_r126 hs (by first | assumption | omega)) ?_
      refine pr_eqi hab ?_
      refine pr_vP (pc := 195) C (c_X3_turnAtY G _ K Sm S N O T D e z hs u (by first | assumption | omega) hT) wv_X3_151 rfl rfl (by decide) (by decide) (pl_4 _) (Nat.le_of_ble_eq_true rfl) (by omega) (by omega) dX3_isPossible_195 ?_
      refine pr_astore_n (pc := 198) C dX3_isPossible_198 (by decide) ?_
      refine pr_aload_n (pc := 199) C dX3_isPossible_199 rfl ?_
      refine pr_ifnull1 (pc := 200) C dX3_isPossible_200 ?_
      refine pr_aload_n (pc := 203) C dX3_isPossible_203 rfl ?_
      refine pr_geti (pc := 204) C 128 wf_X3_176 rfl (by decide) (pl_3 (sj_n0 hs (by first | assumption | omega))) dX3_isPossible_204 ?_
      refine pr_iconst (pc := 207) (v := 1) C dX3_isPossible_207 (by decide) ?_
      refine pr_icmp_ne (pc := 208) C 223 dX3_isPossible_208 (by decide) (fun c_208 => ?_) (fun c_208 => ?_)
      · refine pr_iconst (pc := 223) (v := 0) C dX3_isPossible_223 (by decide) ?_
        exact pr_iret (pc := 224) C E (Or.inr ⟨rfl, (by decide)⟩) (by omega) (by omega) ⟨by rw [hab, hrp, decide_eq_false (fun z => absurd ((sj_st1 hs (by omega)).mpr z) (by assumption))]; rfl, rfl⟩ dX3_isPossible_224
      · refine pr_aload_n (pc := 211) C dX3_isPossible_211 rfl ?_
        refine pr_aload_n (pc := 212) C dX3_isPossible_212 rfl ?_
        refine pr_sP (pc := 213) C (c_X3_isPossibleReply G _ K Sm S N O T D e z hs t u w 14 wu (by omega) (by omega) hw1 hw4 ha (by omega) hwu hwu4 (hJ.1.1 u (by omega)).2.1 hJ.2.2.2.2.2) ws_X3_293 rfl rfl (by decide) (Nat.le_of_ble_eq_true rfl) (by omega) (by omega) dX3_isPossible_213 ?_
        refine pr_ifb_eq (pc := 216) C 223 dX3_isPossible_216 (by decide) (fun c_216 => ?_) (fun c_216 => ?_)
        · refine pr_iconst (pc := 223) (v := 0) C dX3_isPossible_223 (by decide) ?_
          exact pr_iret (pc := 224) C E (Or.inr ⟨rfl, (by decide)⟩) (by omega) (by omega) ⟨by rw [hab, hrp, decide_eq_true ((sj_st1 hs (by omega)).mp (by assumption)), Bool.true_and]; simp [-Int32.not_le, -Int32.not_lt, pz_b, pz_lt, c_216], rfl⟩ dX3_isPossible_224
        · refine pr_iconst (pc := 219) (v := 1) C dX3_isPossible_219 (by decide) ?_
          refine pr_goto (pc := 220) C 224 dX3_isPossible_220 (by decide) ?_
          exact pr_iret (pc := 224) C E (Or.inr ⟨rfl, (by decide)⟩) (by omega) (by omega) ⟨by rw [hab, hrp, decide_eq_true ((sj_st1 hs (by omega)).mp (by assumption)), Bool.true_and]; simp [-Int32.not_le, -Int32.not_lt, pz_b, pz_lt, c_216], rfl⟩ dX3_isPossible_224
    · -- 15
      refine pr_tableOut (pc := 9) C 190 dX3_isPossible_9 (by decide) (by decide) ?_
      obtain ⟨u, hu, hab⟩ := hrep (by omega)
      obtain ⟨wu, au, hcu⟩ := sc_tw hM hJ.1 hu
      have hwu := hcu.1
      have hwu4 := hcu.2.1
      have hrp := sc_rep_poss (how := S 221 t) (set := S 222 t) (a := 15) (by omega) (by omega) hwu hwu4 hw4 hJ.2.2.1
      refine pr_aload_n (pc := 190) C dX3_isPossible_190 rfl ?_
      refine pr_aload_n (pc := 191) C dX3_isPossible_191 rfl ?_
      refine pr_geti (pc := 192) C 126 wf_X3_164 rfl (by decide) (pl_3 (sj_n0 hs (by first | assumption | omega))) dX3_isPossible_192 ?_
      refine pr_eqi (v := S 220 t) (sj_r126 hs (by first | assumption | omega)) ?_
      refine pr_eqi hab ?_
      refine pr_vP (pc := 195) C (c_X3_turnAtY G _ K Sm S N O T D e z hs u (by first | assumption | omega) hT) wv_X3_151 rfl rfl (by decide) (by decide) (pl_4 _) (Nat.le_of_ble_eq_true rfl) (by omega) (by omega) dX3_isPossible_195 ?_
      refine pr_astore_n (pc := 198) C dX3_isPossible_198 (by decide) ?_
      refine pr_aload_n (pc := 199) C dX3_isPossible_199 rfl ?_
      refine pr_ifnull1 (pc := 200) C dX3_isPossible_200 ?_
      refine pr_aload_n (pc := 203) C dX3_isPossible_203 rfl ?_
      refine pr_geti (pc := 204) C 128 wf_X3_176 rfl (by decide) (pl_3 (sj_n0 hs (by first | assumption | omega))) dX3_isPossible_204 ?_
      refine pr_iconst (pc := 207) (v := 1) C dX3_isPossible_207 (by decide) ?_
      refine pr_icmp_ne (pc := 208) C 223 dX3_isPossible_208 (by decide) (fun c_208 => ?_) (fun c_208 => ?_)
      · refine pr_iconst (pc := 223) (v := 0) C dX3_isPossible_223 (by decide) ?_
        exact pr_iret (pc := 224) C E (Or.inr ⟨rfl, (by decide)⟩) (by omega) (by omega) ⟨by rw [hab, hrp, decide_eq_false (fun z => absurd ((sj_st1 hs (by omega)).mpr z) (by assumption))]; rfl, rfl⟩ dX3_isPossible_224
      · refine pr_aload_n (pc := 211) C dX3_isPossible_211 rfl ?_
        refine pr_aload_n (pc := 212) C dX3_isPossible_212 rfl ?_
        refine pr_sP (pc := 213) C (c_X3_isPossibleReply G _ K Sm S N O T D e z hs t u w 15 wu (by omega) (by omega) hw1 hw4 ha (by omega) hwu hwu4 (hJ.1.1 u (by omega)).2.1 hJ.2.2.2.2.2) ws_X3_293 rfl rfl (by decide) (Nat.le_of_ble_eq_true rfl) (by omega) (by omega) dX3_isPossible_213 ?_
        refine pr_ifb_eq (pc := 216) C 223 dX3_isPossible_216 (by decide) (fun c_216 => ?_) (fun c_216 => ?_)
        · refine pr_iconst (pc := 223) (v := 0) C dX3_isPossible_223 (by decide) ?_
          exact pr_iret (pc := 224) C E (Or.inr ⟨rfl, (by decide)⟩) (by omega) (by omega) ⟨by rw [hab, hrp, decide_eq_true ((sj_st1 hs (by omega)).mp (by assumption)), Bool.true_and]; simp [-Int32.not_le, -Int32.not_lt, pz_b, pz_lt, c_216], rfl⟩ dX3_isPossible_224
        · refine pr_iconst (pc := 219) (v := 1) C dX3_isPossible_219 (by decide) ?_
          refine pr_goto (pc := 220) C 224 dX3_isPossible_220 (by decide) ?_
          exact pr_iret (pc := 224) C E (Or.inr ⟨rfl, (by decide)⟩) (by omega) (by omega) ⟨by rw [hab, hrp, decide_eq_true ((sj_st1 hs (by omega)).mp (by assumption)), Bool.true_and]; simp [-Int32.not_le, -Int32.not_lt, pz_b, pz_lt, c_216], rfl⟩ dX3_isPossible_224

theorem sc_in46 : ∀ a, a < 16 → (ms_in (nI a) 4 6 = true ↔ (a = 4 ∨ a = 5 ∨ a = 6)) := by decide +kernel
theorem sc_perm1 {S : Nat → Nat → Int32} {w a : Nat} {of : Int32} (ha : a < 16) (h : S 201 0 = 0 ∨ a = 4 ∨ a = 5 ∨ a = 6) : ms_perm S w a of = true := by
  unfold ms_perm
  rw [if_pos]
  rcases h with h | h
  · simp [h]
  · simp [(sc_in46 a ha).mpr h]
theorem sc_perm2 {S : Nat → Nat → Int32} {w a : Nat} {of : Int32} (ha : a < 16) (h : ¬ S 201 0 = 0) (h4 : ¬ a = 4) (h5 : ¬ a = 5) (h6 : ¬ a = 6) (ht : decide (ms_top S = nI w) = true) : ms_perm S w a of = (decide (a = 2) || (decide (a = 0) && decide (of = S 220 (ms_aq S)))) := by
  unfold ms_perm
  have : ms_in (nI a) 4 6 = false := by
    cases e : ms_in (nI a) 4 6
    · rfl
    · rcases (sc_in46 a ha).mp e with z | z | z <;> exact absurd z (by assumption)
  rw [this, decide_eq_false h, if_neg (by decide), if_pos (of_decide_eq_true ht)]
theorem sc_perm3 {S : Nat → Nat → Int32} {w a : Nat} {of : Int32} (ha : a < 16) (h : ¬ S 201 0 = 0) (h4 : ¬ a = 4) (h5 : ¬ a = 5) (h6 : ¬ a = 6) (ht : decide (ms_top S = nI w) = false) : ms_perm S w a of = (!pz_any (ms_asIn S w) 10 || ((decide (a = 9) || decide (a = 10)) && ms_asIn S w of.toNatClampNeg)) := by
  unfold ms_perm
  have : ms_in (nI a) 4 6 = false := by
    cases e : ms_in (nI a) 4 6
    · rfl
    · rcases (sc_in46 a ha).mp e with z | z | z <;> exact absurd z (by assumption)
  rw [this, decide_eq_false h, if_neg (by decide), if_neg (of_decide_eq_false ht)]
theorem sc_53 {K : Nat → Nat → Nat → Int32} {N : Nat → Nat} {T D e : Nat} {z : sj_Z} {S : Nat → Nat → Int32} (hs : sj_M K N T D z e S) {w : Nat} (hw : w < 4) : ∃ b : Nat → Nat, (∀ j, j < 4 → K 53 w j = nI (b j)) ∧ sc_or b 4 < 1024 ∧ ∀ a9, a9 < 10 → (sc_or b 4).testBit a9 = ms_asIn S w a9 := by
  obtain ⟨b0, l0, e0, t0⟩ := sj_r53 hs hw (j := 0) (by omega)
  obtain ⟨b1, l1, e1, t1⟩ := sj_r53 hs hw (j := 1) (by omega)
  obtain ⟨b2, l2, e2, t2⟩ := sj_r53 hs hw (j := 2) (by omega)
  obtain ⟨b3, l3, e3, t3⟩ := sj_r53 hs hw (j := 3) (by omega)
  refine ⟨fun j => if j = 0 then b0 else if j = 1 then b1 else if j = 2 then b2 else b3, fun j hj => ?_, ?_, fun a9 ha => ?_⟩
  · rcases (show j = 0 ∨ j = 1 ∨ j = 2 ∨ j = 3 by omega) with rfl | rfl | rfl | rfl
    · exact e0
    · exact e1
    · exact e2
    · exact e3
  · simp only [sc_or, Nat.zero_or]
    have h0 : b0 < 2 ^ 10 := l0
    have h1 : b1 < 2 ^ 10 := l1
    have h2 : b2 < 2 ^ 10 := l2
    have h3 : b3 < 2 ^ 10 := l3
    have := Nat.or_lt_two_pow (Nat.or_lt_two_pow (Nat.or_lt_two_pow h0 h1) h2) h3
    simpa using this
  · simp only [sc_or, Nat.zero_or, ms_asIn, pz_any, ms_qr, Bool.false_or]
    simp [Nat.testBit_or, t0 a9 ha, t1 a9 ha, t2 a9 ha, t3 a9 ha]
theorem sc_z10 : ∀ x, x < 1024 → (x = 0 ↔ ∀ a9, a9 < 10 → x.testBit a9 = false) := by decide +kernel
theorem sc_any {S : Nat → Nat → Int32} {w x : Nat} (hbl : x < 1024) (hbt : ∀ a9, a9 < 10 → x.testBit a9 = ms_asIn S w a9) (h0 : x ≠ 0) : pz_any (ms_asIn S w) 10 = true := by
  cases eA : pz_any (ms_asIn S w) 10
  · refine absurd ((sc_z10 _ hbl).mpr fun j hj => ?_) h0
    rw [hbt j hj]
    cases eJ : ms_asIn S w j
    · rfl
    · exact absurd (pz_any_at (p := ms_asIn S w) hj eJ) (by rw [eA]; decide)
  · rfl
set_option maxRecDepth 100000 in
set_option maxHeartbeats 4000000 in
theorem c_X3_isPermitted (G : pa_G) (l : Launch) (K : Nat → Nat → Nat → Int32) (Sm S : Nat → Nat → Int32) (N : Nat → Nat) (O : Nat → Int64) (T D e : Nat) (z : sj_Z) (hs : sj_M K N T D z e S) (t w a : Nat) (hM : mw_S S T) (hJ : mj S T) (ht : t < D) (hc : sc_t S T t w a) : pa_MP G l mX3_isPermitted 5 [pv_o 4 0, pv_o 3 t] (K, Sm, N, O) (pv_i (pz_b (ms_perm S w a (S 220 t)))) := by
  refine pa_go l (by decide) (by simp [pa_c1l, pa_c1]) (fun _ => rfl) fun x C E el ea => ?_
  subst el
  have hT := hM.1.1
  have hTD := sj_TD hs
  obtain ⟨hw1, hw4, ha, ha16, hrep, hatm, m9, hm0, hm16, hto, htb, hone⟩ := id hc
  obtain ⟨Q, q0, hqq⟩ : ∃ Q q0, sc_q S T Q q0 := ⟨_, _, sc_qw hM hJ.1⟩
  have hw := hqq.1
  have hQ6 := hw.2.1
  show pa_w G x 4 (K, Sm, N, O) 0 0 0 [some (pv_o 4 0), some (pv_o 3 t), none, none] []
  refine pr_aload_n (pc := 0) C dX3_isPermitted_0 rfl ?_
  refine pr_geti (pc := 1) C 165 wf_X3_85 rfl (by decide) (pl_4 _) dX3_isPermitted_1 ?_
  refine pr_eqi (v := S 201 0) (sj_r165 hs) ?_
  refine pr_if_eq (pc := 4) C 32 dX3_isPermitted_4 (by decide) (fun c_4 => ?_) (fun c_4 => ?_)
  · refine pr_iconst (pc := 32) (v := 1) C dX3_isPermitted_32 (by decide) ?_
    exact pr_iret (pc := 33) C E (Or.inr ⟨rfl, (by decide)⟩) (by omega) (by omega) ⟨by rw [sc_perm1 ha16 (by first | exact Or.inl (by assumption) | exact Or.inr (by omega))]; rfl, rfl⟩ dX3_isPermitted_33
  · refine pr_aload_n (pc := 7) C dX3_isPermitted_7 rfl ?_
    refine pr_geti (pc := 8) C 121 wf_X3_161 rfl (by decide) (pl_3 (sj_n0 hs (by first | assumption | omega))) dX3_isPermitted_8 ?_
    refine pr_eqi (v := S 219 t) (sj_r121 hs (by first | assumption | omega)) ?_
    refine pr_eqi ha ?_
    refine pr_iconst (pc := 11) (v := 4) C dX3_isPermitted_11 (by decide) ?_
    refine pr_icmp_eqN (pc := 12) C 32 a 4 dX3_isPermitted_12 (by decide) rfl rfl (by omega) (by omega) (fun c_12 => ?_) (fun c_12 => ?_)
    · refine pr_iconst (pc := 32) (v := 1) C dX3_isPermitted_32 (by decide) ?_
      exact pr_iret (pc := 33) C E (Or.inr ⟨rfl, (by decide)⟩) (by omega) (by omega) ⟨by rw [sc_perm1 ha16 (by first | exact Or.inl (by assumption) | exact Or.inr (by omega))]; rfl, rfl⟩ dX3_isPermitted_33
    · refine pr_aload_n (pc := 15) C dX3_isPermitted_15 rfl ?_
      refine pr_geti (pc := 16) C 121 wf_X3_161 rfl (by decide) (pl_3 (sj_n0 hs (by first | assumption | omega))) dX3_isPermitted_16 ?_
      refine pr_eqi (v := S 219 t) (sj_r121 hs (by first | assumption | omega)) ?_
      refine pr_eqi ha ?_
      refine pr_iconst (pc := 19) (v := 5) C dX3_isPermitted_19 (by decide) ?_
      refine pr_icmp_eqN (pc := 20) C 32 a 5 dX3_isPermitted_20 (by decide) rfl rfl (by omega) (by omega) (fun c_20 => ?_) (fun c_20 => ?_)
      · refine pr_iconst (pc := 32) (v := 1) C dX3_isPermitted_32 (by decide) ?_
        exact pr_iret (pc := 33) C E (Or.inr ⟨rfl, (by decide)⟩) (by omega) (by omega) ⟨by rw [sc_perm1 ha16 (by first | exact Or.inl (by assumption) | exact Or.inr (by omega))]; rfl, rfl⟩ dX3_isPermitted_33
      · refine pr_aload_n (pc := 23) C dX3_isPermitted_23 rfl ?_
        refine pr_geti (pc := 24) C 121 wf_X3_161 rfl (by decide) (pl_3 (sj_n0 hs (by first | assumption | omega))) dX3_isPermitted_24 ?_
        refine pr_eqi (v := S 219 t) (sj_r121 hs (by first | assumption | omega)) ?_
        refine pr_eqi ha ?_
        refine pr_bipush (pc := 27) (v := 6) C dX3_isPermitted_27 (by decide) ?_
        refine pr_icmp_neN (pc := 29) C 34 a 6 dX3_isPermitted_29 (by decide) rfl rfl (by omega) (by omega) (fun c_29 => ?_) (fun c_29 => ?_)
        · refine pr_aload_n (pc := 34) C dX3_isPermitted_34 rfl ?_
          rcases Nat.eq_zero_or_pos Q with hQ0 | hQ0
          · -- no question
            refine pr_vP (pc := 35) C (c_X3_topQuestion0 G _ K Sm S N O T D e z hs Q q0 hw hQ0) wv_X3_283 rfl rfl (by decide) (by decide) (pl_4 _) (Nat.le_of_ble_eq_true rfl) (by omega) (by omega) dX3_isPermitted_35 ?_
            refine pr_astore_n (pc := 38) C dX3_isPermitted_38 (by decide) ?_
            refine pr_aload_n (pc := 39) C dX3_isPermitted_39 rfl ?_
            refine pr_ifnull0 (pc := 40) C 86 dX3_isPermitted_40 (by decide) ?_
            refine pr_aload_n (pc := 86) C dX3_isPermitted_86 rfl ?_
            refine pr_gets (pc := 87) C 120 wf_X3_105 rfl rfl (pl_3 (sj_n0 hs (by first | assumption | omega))) w ((sj_r120 hs (by first | assumption | omega)).trans hw1) (by first | assumption | omega) dX3_isPermitted_87 ?_
            obtain ⟨b, hb, hbl, hbt⟩ := sc_53 hs hw4
            refine pr_vP (pc := 90) C (c_X0_disputedAtoms G _ K Sm S N O T D e z hs w b (by first | assumption | omega) hb) wv_X3_303 rfl rfl (by decide) (by decide) (pl_1 (by first | assumption | omega)) (Nat.le_of_ble_eq_true rfl) (by omega) (by omega) dX3_isPermitted_90 ?_
            refine pr_istore_n (pc := 93) C dX3_isPermitted_93 (by decide) ?_
            refine pr_iload_n (pc := 94) C dX3_isPermitted_94 rfl ?_
            refine pr_if_neN (pc := 95) C 100 (sc_or b 4) dX3_isPermitted_95 (by decide) rfl (by omega) (fun c_95 => ?_) (fun c_95 => ?_)
            · refine pr_aload_n (pc := 100) C dX3_isPermitted_100 rfl ?_
              refine pr_geti (pc := 101) C 121 wf_X3_161 rfl (by decide) (pl_3 (sj_n0 hs (by first | assumption | omega))) dX3_isPermitted_101 ?_
              refine pr_eqi (v := S 219 t) (sj_r121 hs (by first | assumption | omega)) ?_
              refine pr_eqi ha ?_
              refine pr_bipush (pc := 104) (v := 9) C dX3_isPermitted_104 (by decide) ?_
              refine pr_icmp_eqN (pc := 106) C 118 a 9 dX3_isPermitted_106 (by decide) rfl rfl (by omega) (by omega) (fun c_106 => ?_) (fun c_106 => ?_)
              · refine pr_iload_n (pc := 118) C dX3_isPermitted_118 rfl ?_
                obtain ⟨u, hu, hab⟩ := hatm (by omega)
                refine pr_aload_n (pc := 119) C dX3_isPermitted_119 rfl ?_
                refine pr_geti (pc := 120) C 126 wf_X3_164 rfl (by decide) (pl_3 (sj_n0 hs (by first | assumption | omega))) dX3_isPermitted_120 ?_
                refine pr_eqi (v := S 220 t) (sj_r126 hs (by first | assumption | omega)) ?_
                refine pr_eqi hab ?_
                refine pr_sP (pc := 123) C (c_X3_isIn G _ (K, Sm, N, O) (nI (sc_or b 4)) (nI u)) ws_X3_49 rfl rfl (by decide) (Nat.le_of_ble_eq_true rfl) (by omega) (by omega) dX3_isPermitted_123 ?_
                refine pr_ifb_eq (pc := 126) C 133 dX3_isPermitted_126 (by decide) (fun c_126 => ?_) (fun c_126 => ?_)
                · refine pr_iconst (pc := 133) (v := 0) C dX3_isPermitted_133 (by decide) ?_
                  exact pr_iret (pc := 134) C E (Or.inr ⟨rfl, (by decide)⟩) (by omega) (by omega) ⟨by rw [sc_perm3 ha16 (by first | assumption | omega) (by first | assumption | omega) (by first | assumption | omega) (by first | assumption | omega) (sc_top0 hqq hQ0 hw4), (show pz_any (ms_asIn S w) 10 = true from sc_any hbl hbt (by first | assumption | omega)), hab, nI_clamp (show u < 2 ^ 31 by omega), ← hbt u hu, ← sj_bit _ hbl u hu]; simp [-Int32.not_le, -Int32.not_lt, pz_b, pz_lt, eq_true c_106, c_126], rfl⟩ dX3_isPermitted_134
                · refine pr_iconst (pc := 129) (v := 1) C dX3_isPermitted_129 (by decide) ?_
                  refine pr_goto (pc := 130) C 134 dX3_isPermitted_130 (by decide) ?_
                  exact pr_iret (pc := 134) C E (Or.inr ⟨rfl, (by decide)⟩) (by omega) (by omega) ⟨by rw [sc_perm3 ha16 (by first | assumption | omega) (by first | assumption | omega) (by first | assumption | omega) (by first | assumption | omega) (sc_top0 hqq hQ0 hw4), (show pz_any (ms_asIn S w) 10 = true from sc_any hbl hbt (by first | assumption | omega)), hab, nI_clamp (show u < 2 ^ 31 by omega), ← hbt u hu, ← sj_bit _ hbl u hu]; simp [-Int32.not_le, -Int32.not_lt, pz_b, pz_lt, eq_true c_106, c_126], rfl⟩ dX3_isPermitted_134
              · refine pr_aload_n (pc := 109) C dX3_isPermitted_109 rfl ?_
                refine pr_geti (pc := 110) C 121 wf_X3_161 rfl (by decide) (pl_3 (sj_n0 hs (by first | assumption | omega))) dX3_isPermitted_110 ?_
                refine pr_eqi (v := S 219 t) (sj_r121 hs (by first | assumption | omega)) ?_
                refine pr_eqi ha ?_
                refine pr_bipush (pc := 113) (v := 10) C dX3_isPermitted_113 (by decide) ?_
                refine pr_icmp_neN (pc := 115) C 133 a 10 dX3_isPermitted_115 (by decide) rfl rfl (by omega) (by omega) (fun c_115 => ?_) (fun c_115 => ?_)
                · refine pr_iconst (pc := 133) (v := 0) C dX3_isPermitted_133 (by decide) ?_
                  exact pr_iret (pc := 134) C E (Or.inr ⟨rfl, (by decide)⟩) (by omega) (by omega) ⟨by rw [sc_perm3 ha16 (by first | assumption | omega) (by first | assumption | omega) (by first | assumption | omega) (by first | assumption | omega) (sc_top0 hqq hQ0 hw4), (show pz_any (ms_asIn S w) 10 = true from sc_any hbl hbt (by first | assumption | omega))]; simp [-Int32.not_le, -Int32.not_lt, pz_b, pz_lt, eq_false c_106, eq_false c_115], rfl⟩ dX3_isPermitted_134
                · refine pr_iload_n (pc := 118) C dX3_isPermitted_118 rfl ?_
                  obtain ⟨u, hu, hab⟩ := hatm (by omega)
                  refine pr_aload_n (pc := 119) C dX3_isPermitted_119 rfl ?_
                  refine pr_geti (pc := 120) C 126 wf_X3_164 rfl (by decide) (pl_3 (sj_n0 hs (by first | assumption | omega))) dX3_isPermitted_120 ?_
                  refine pr_eqi (v := S 220 t) (sj_r126 hs (by first | assumption | omega)) ?_
                  refine pr_eqi hab ?_
                  refine pr_sP (pc := 123) C (c_X3_isIn G _ (K, Sm, N, O) (nI (sc_or b 4)) (nI u)) ws_X3_49 rfl rfl (by decide) (Nat.le_of_ble_eq_true rfl) (by omega) (by omega) dX3_isPermitted_123 ?_
                  refine pr_ifb_eq (pc := 126) C 133 dX3_isPermitted_126 (by decide) (fun c_126 => ?_) (fun c_126 => ?_)
                  · refine pr_iconst (pc := 133) (v := 0) C dX3_isPermitted_133 (by decide) ?_
                    exact pr_iret (pc := 134) C E (Or.inr ⟨rfl, (by decide)⟩) (by omega) (by omega) ⟨by rw [sc_perm3 ha16 (by first | assumption | omega) (by first | assumption | omega) (by first | assumption | omega) (by first | assumption | omega) (sc_top0 hqq hQ0 hw4), (show pz_any (ms_asIn S w) 10 = true from sc_any hbl hbt (by first | assumption | omega)), hab, nI_clamp (show u < 2 ^ 31 by omega), ← hbt u hu, ← sj_bit _ hbl u hu]; simp [-Int32.not_le, -Int32.not_lt, pz_b, pz_lt, eq_false c_106, eq_true c_115, c_126], rfl⟩ dX3_isPermitted_134
                  · refine pr_iconst (pc := 129) (v := 1) C dX3_isPermitted_129 (by decide) ?_
                    refine pr_goto (pc := 130) C 134 dX3_isPermitted_130 (by decide) ?_
                    exact pr_iret (pc := 134) C E (Or.inr ⟨rfl, (by decide)⟩) (by omega) (by omega) ⟨by rw [sc_perm3 ha16 (by first | assumption | omega) (by first | assumption | omega) (by first | assumption | omega) (by first | assumption | omega) (sc_top0 hqq hQ0 hw4), (show pz_any (ms_asIn S w) 10 = true from sc_any hbl hbt (by first | assumption | omega)), hab, nI_clamp (show u < 2 ^ 31 by omega), ← hbt u hu, ← sj_bit _ hbl u hu]; simp [-Int32.not_le, -Int32.not_lt, pz_b, pz_lt, eq_false c_106, eq_true c_115, c_126], rfl⟩ dX3_isPermitted_134
            · refine pr_iconst (pc := 98) (v := 1) C dX3_isPermitted_98 (by decide) ?_
              exact pr_iret (pc := 99) C E (Or.inr ⟨rfl, (by decide)⟩) (by omega) (by omega) ⟨by rw [sc_perm3 ha16 (by first | assumption | omega) (by first | assumption | omega) (by first | assumption | omega) (by first | assumption | omega) (sc_top0 hqq hQ0 hw4), pz_any_no (fun j hj => by rw [← hbt j hj]; exact (sc_z10 _ hbl).mp (by omega) j hj)]; rfl, rfl⟩ dX3_isPermitted_99
          · -- the question q0
            obtain ⟨hq0T, ⟨mq, hmq, hqto⟩, ⟨wq, hwq4, hwq⟩, yq, hyq10, hyq⟩ := hqq.2 hQ0
            have hq0 : q0 < D := by omega
            refine pr_vP (pc := 35) C (c_X3_topQuestion1 G _ K Sm S N O T D e z hs Q q0 hw hQ0 hq0) wv_X3_283 rfl rfl (by decide) (by decide) (pl_4 _) (Nat.le_of_ble_eq_true rfl) (by omega) (by omega) dX3_isPermitted_35 ?_
            refine pr_astore_n (pc := 38) C dX3_isPermitted_38 (by decide) ?_
            refine pr_aload_n (pc := 39) C dX3_isPermitted_39 rfl ?_
            refine pr_ifnull1 (pc := 40) C dX3_isPermitted_40 ?_
            refine pr_aload_n (pc := 43) C dX3_isPermitted_43 rfl ?_
            refine pr_aload_n (pc := 44) C dX3_isPermitted_44 rfl ?_
            refine pr_gets (pc := 45) C 120 wf_X3_105 rfl rfl (pl_3 (sj_n0 hs (by first | assumption | omega))) w ((sj_r120 hs (by first | assumption | omega)).trans hw1) (by first | assumption | omega) dX3_isPermitted_45 ?_
            refine pr_vP (pc := 48) C (c_X2_isTo G _ K Sm S N O T D e z hs q0 w (by first | assumption | omega) (by first | assumption | omega)) wv_X3_286 rfl rfl (by decide) (by decide) (pl_3 (sj_n0 hs (by first | assumption | omega))) (Nat.le_of_ble_eq_true rfl) (by omega) (by omega) dX3_isPermitted_48 ?_
            refine pr_ifb_eq (pc := 51) C 86 dX3_isPermitted_51 (by decide) (fun c_51 => ?_) (fun c_51 => ?_)
            · refine pr_aload_n (pc := 86) C dX3_isPermitted_86 rfl ?_
              refine pr_gets (pc := 87) C 120 wf_X3_105 rfl rfl (pl_3 (sj_n0 hs (by first | assumption | omega))) w ((sj_r120 hs (by first | assumption | omega)).trans hw1) (by first | assumption | omega) dX3_isPermitted_87 ?_
              obtain ⟨b, hb, hbl, hbt⟩ := sc_53 hs hw4
              refine pr_vP (pc := 90) C (c_X0_disputedAtoms G _ K Sm S N O T D e z hs w b (by first | assumption | omega) hb) wv_X3_303 rfl rfl (by decide) (by decide) (pl_1 (by first | assumption | omega)) (Nat.le_of_ble_eq_true rfl) (by omega) (by omega) dX3_isPermitted_90 ?_
              refine pr_istore_n (pc := 93) C dX3_isPermitted_93 (by decide) ?_
              refine pr_iload_n (pc := 94) C dX3_isPermitted_94 rfl ?_
              refine pr_if_neN (pc := 95) C 100 (sc_or b 4) dX3_isPermitted_95 (by decide) rfl (by omega) (fun c_95 => ?_) (fun c_95 => ?_)
              · refine pr_aload_n (pc := 100) C dX3_isPermitted_100 rfl ?_
                refine pr_geti (pc := 101) C 121 wf_X3_161 rfl (by decide) (pl_3 (sj_n0 hs (by first | assumption | omega))) dX3_isPermitted_101 ?_
                refine pr_eqi (v := S 219 t) (sj_r121 hs (by first | assumption | omega)) ?_
                refine pr_eqi ha ?_
                refine pr_bipush (pc := 104) (v := 9) C dX3_isPermitted_104 (by decide) ?_
                refine pr_icmp_eqN (pc := 106) C 118 a 9 dX3_isPermitted_106 (by decide) rfl rfl (by omega) (by omega) (fun c_106 => ?_) (fun c_106 => ?_)
                · refine pr_iload_n (pc := 118) C dX3_isPermitted_118 rfl ?_
                  obtain ⟨u, hu, hab⟩ := hatm (by omega)
                  refine pr_aload_n (pc := 119) C dX3_isPermitted_119 rfl ?_
                  refine pr_geti (pc := 120) C 126 wf_X3_164 rfl (by decide) (pl_3 (sj_n0 hs (by first | assumption | omega))) dX3_isPermitted_120 ?_
                  refine pr_eqi (v := S 220 t) (sj_r126 hs (by first | assumption | omega)) ?_
                  refine pr_eqi hab ?_
                  refine pr_sP (pc := 123) C (c_X3_isIn G _ (K, Sm, N, O) (nI (sc_or b 4)) (nI u)) ws_X3_49 rfl rfl (by decide) (Nat.le_of_ble_eq_true rfl) (by omega) (by omega) dX3_isPermitted_123 ?_
                  refine pr_ifb_eq (pc := 126) C 133 dX3_isPermitted_126 (by decide) (fun c_126 => ?_) (fun c_126 => ?_)
                  · refine pr_iconst (pc := 133) (v := 0) C dX3_isPermitted_133 (by decide) ?_
                    exact pr_iret (pc := 134) C E (Or.inr ⟨rfl, (by decide)⟩) (by omega) (by omega) ⟨by rw [sc_perm3 ha16 (by first | assumption | omega) (by first | assumption | omega) (by first | assumption | omega) (by first | assumption | omega) (by rw [sc_top hqq hQ0 hw4]; assumption), (show pz_any (ms_asIn S w) 10 = true from sc_any hbl hbt (by first | assumption | omega)), hab, nI_clamp (show u < 2 ^ 31 by omega), ← hbt u hu, ← sj_bit _ hbl u hu]; simp [-Int32.not_le, -Int32.not_lt, pz_b, pz_lt, eq_true c_106, c_126], rfl⟩ dX3_isPermitted_134
                  · refine pr_iconst (pc := 129) (v := 1) C dX3_isPermitted_129 (by decide) ?_
                    refine pr_goto (pc := 130) C 134 dX3_isPermitted_130 (by decide) ?_
                    exact pr_iret (pc := 134) C E (Or.inr ⟨rfl, (by decide)⟩) (by omega) (by omega) ⟨by rw [sc_perm3 ha16 (by first | assumption | omega) (by first | assumption | omega) (by first | assumption | omega) (by first | assumption | omega) (by rw [sc_top hqq hQ0 hw4]; assumption), (show pz_any (ms_asIn S w) 10 = true from sc_any hbl hbt (by first | assumption | omega)), hab, nI_clamp (show u < 2 ^ 31 by omega), ← hbt u hu, ← sj_bit _ hbl u hu]; simp [-Int32.not_le, -Int32.not_lt, pz_b, pz_lt, eq_true c_106, c_126], rfl⟩ dX3_isPermitted_134
                · refine pr_aload_n (pc := 109) C dX3_isPermitted_109 rfl ?_
                  refine pr_geti (pc := 110) C 121 wf_X3_161 rfl (by decide) (pl_3 (sj_n0 hs (by first | assumption | omega))) dX3_isPermitted_110 ?_
                  refine pr_eqi (v := S 219 t) (sj_r121 hs (by first | assumption | omega)) ?_
                  refine pr_eqi ha ?_
                  refine pr_bipush (pc := 113) (v := 10) C dX3_isPermitted_113 (by decide) ?_
                  refine pr_icmp_neN (pc := 115) C 133 a 10 dX3_isPermitted_115 (by decide) rfl rfl (by omega) (by omega) (fun c_115 => ?_) (fun c_115 => ?_)
                  · refine pr_iconst (pc := 133) (v := 0) C dX3_isPermitted_133 (by decide) ?_
                    exact pr_iret (pc := 134) C E (Or.inr ⟨rfl, (by decide)⟩) (by omega) (by omega) ⟨by rw [sc_perm3 ha16 (by first | assumption | omega) (by first | assumption | omega) (by first | assumption | omega) (by first | assumption | omega) (by rw [sc_top hqq hQ0 hw4]; assumption), (show pz_any (ms_asIn S w) 10 = true from sc_any hbl hbt (by first | assumption | omega))]; simp [-Int32.not_le, -Int32.not_lt, pz_b, pz_lt, eq_false c_106, eq_false c_115], rfl⟩ dX3_isPermitted_134
                  · refine pr_iload_n (pc := 118) C dX3_isPermitted_118 rfl ?_
                    obtain ⟨u, hu, hab⟩ := hatm (by omega)
                    refine pr_aload_n (pc := 119) C dX3_isPermitted_119 rfl ?_
                    refine pr_geti (pc := 120) C 126 wf_X3_164 rfl (by decide) (pl_3 (sj_n0 hs (by first | assumption | omega))) dX3_isPermitted_120 ?_
                    refine pr_eqi (v := S 220 t) (sj_r126 hs (by first | assumption | omega)) ?_
                    refine pr_eqi hab ?_
                    refine pr_sP (pc := 123) C (c_X3_isIn G _ (K, Sm, N, O) (nI (sc_or b 4)) (nI u)) ws_X3_49 rfl rfl (by decide) (Nat.le_of_ble_eq_true rfl) (by omega) (by omega) dX3_isPermitted_123 ?_
                    refine pr_ifb_eq (pc := 126) C 133 dX3_isPermitted_126 (by decide) (fun c_126 => ?_) (fun c_126 => ?_)
                    · refine pr_iconst (pc := 133) (v := 0) C dX3_isPermitted_133 (by decide) ?_
                      exact pr_iret (pc := 134) C E (Or.inr ⟨rfl, (by decide)⟩) (by omega) (by omega) ⟨by rw [sc_perm3 ha16 (by first | assumption | omega) (by first | assumption | omega) (by first | assumption | omega) (by first | assumption | omega) (by rw [sc_top hqq hQ0 hw4]; assumption), (show pz_any (ms_asIn S w) 10 = true from sc_any hbl hbt (by first | assumption | omega)), hab, nI_clamp (show u < 2 ^ 31 by omega), ← hbt u hu, ← sj_bit _ hbl u hu]; simp [-Int32.not_le, -Int32.not_lt, pz_b, pz_lt, eq_false c_106, eq_true c_115, c_126], rfl⟩ dX3_isPermitted_134
                    · refine pr_iconst (pc := 129) (v := 1) C dX3_isPermitted_129 (by decide) ?_
                      refine pr_goto (pc := 130) C 134 dX3_isPermitted_130 (by decide) ?_
                      exact pr_iret (pc := 134) C E (Or.inr ⟨rfl, (by decide)⟩) (by omega) (by omega) ⟨by rw [sc_perm3 ha16 (by first | assumption | omega) (by first | assumption | omega) (by first | assumption | omega) (by first | assumption | omega) (by rw [sc_top hqq hQ0 hw4]; assumption), (show pz_any (ms_asIn S w) 10 = true from sc_any hbl hbt (by first | assumption | omega)), hab, nI_clamp (show u < 2 ^ 31 by omega), ← hbt u hu, ← sj_bit _ hbl u hu]; simp [-Int32.not_le, -Int32.not_lt, pz_b, pz_lt, eq_false c_106, eq_true c_115, c_126], rfl⟩ dX3_isPermitted_134
              · refine pr_iconst (pc := 98) (v := 1) C dX3_isPermitted_98 (by decide) ?_
                exact pr_iret (pc := 99) C E (Or.inr ⟨rfl, (by decide)⟩) (by omega) (by omega) ⟨by rw [sc_perm3 ha16 (by first | assumption | omega) (by first | assumption | omega) (by first | assumption | omega) (by first | assumption | omega) (by rw [sc_top hqq hQ0 hw4]; assumption), pz_any_no (fun j hj => by rw [← hbt j hj]; exact (sc_z10 _ hbl).mp (by omega) j hj)]; rfl, rfl⟩ dX3_isPermitted_99
            · refine pr_aload_n (pc := 54) C dX3_isPermitted_54 rfl ?_
              refine pr_geti (pc := 55) C 121 wf_X3_161 rfl (by decide) (pl_3 (sj_n0 hs (by first | assumption | omega))) dX3_isPermitted_55 ?_
              refine pr_eqi (v := S 219 t) (sj_r121 hs (by first | assumption | omega)) ?_
              refine pr_eqi ha ?_
              refine pr_iconst (pc := 58) (v := 2) C dX3_isPermitted_58 (by decide) ?_
              refine pr_icmp_eqN (pc := 59) C 80 a 2 dX3_isPermitted_59 (by decide) rfl rfl (by omega) (by omega) (fun c_59 => ?_) (fun c_59 => ?_)
              · refine pr_iconst (pc := 80) (v := 1) C dX3_isPermitted_80 (by decide) ?_
                refine pr_goto (pc := 81) C 85 dX3_isPermitted_81 (by decide) ?_
                exact pr_iret (pc := 85) C E (Or.inr ⟨rfl, (by decide)⟩) (by omega) (by omega) ⟨by rw [sc_perm2 ha16 (by first | assumption | omega) (by first | assumption | omega) (by first | assumption | omega) (by first | assumption | omega) (by rw [sc_top hqq hQ0 hw4]; assumption), mw_Q_aq hw hQ0]; simp [-Int32.not_le, -Int32.not_lt, pz_b, pz_lt, eq_true c_59], rfl⟩ dX3_isPermitted_85
              · refine pr_aload_n (pc := 62) C dX3_isPermitted_62 rfl ?_
                refine pr_geti (pc := 63) C 121 wf_X3_161 rfl (by decide) (pl_3 (sj_n0 hs (by first | assumption | omega))) dX3_isPermitted_63 ?_
                refine pr_eqi (v := S 219 t) (sj_r121 hs (by first | assumption | omega)) ?_
                refine pr_eqi ha ?_
                refine pr_if_neN (pc := 66) C 84 a dX3_isPermitted_66 (by decide) rfl (by omega) (fun c_66 => ?_) (fun c_66 => ?_)
                · refine pr_iconst (pc := 84) (v := 0) C dX3_isPermitted_84 (by decide) ?_
                  exact pr_iret (pc := 85) C E (Or.inr ⟨rfl, (by decide)⟩) (by omega) (by omega) ⟨by rw [sc_perm2 ha16 (by first | assumption | omega) (by first | assumption | omega) (by first | assumption | omega) (by first | assumption | omega) (by rw [sc_top hqq hQ0 hw4]; assumption), mw_Q_aq hw hQ0]; simp [-Int32.not_le, -Int32.not_lt, pz_b, pz_lt, eq_false c_59, eq_false c_66], rfl⟩ dX3_isPermitted_85
                · refine pr_aload_n (pc := 69) C dX3_isPermitted_69 rfl ?_
                  refine pr_geti (pc := 70) C 126 wf_X3_164 rfl (by decide) (pl_3 (sj_n0 hs (by first | assumption | omega))) dX3_isPermitted_70 ?_
                  refine pr_eqi (v := S 220 t) (sj_r126 hs (by first | assumption | omega)) ?_
                  refine pr_aload_n (pc := 73) C dX3_isPermitted_73 rfl ?_
                  refine pr_geti (pc := 74) C 126 wf_X3_164 rfl (by decide) (pl_3 (sj_n0 hs (by first | assumption | omega))) dX3_isPermitted_74 ?_
                  refine pr_eqi (v := S 220 q0) (sj_r126 hs (by first | assumption | omega)) ?_
                  refine pr_icmp_ne (pc := 77) C 84 dX3_isPermitted_77 (by decide) (fun c_77 => ?_) (fun c_77 => ?_)
                  · refine pr_iconst (pc := 84) (v := 0) C dX3_isPermitted_84 (by decide) ?_
                    exact pr_iret (pc := 85) C E (Or.inr ⟨rfl, (by decide)⟩) (by omega) (by omega) ⟨by rw [sc_perm2 ha16 (by first | assumption | omega) (by first | assumption | omega) (by first | assumption | omega) (by first | assumption | omega) (by rw [sc_top hqq hQ0 hw4]; assumption), mw_Q_aq hw hQ0]; simp [-Int32.not_le, -Int32.not_lt, pz_b, pz_lt, eq_false c_59, eq_true c_66, eq_false c_77], rfl⟩ dX3_isPermitted_85
                  · refine pr_iconst (pc := 80) (v := 1) C dX3_isPermitted_80 (by decide) ?_
                    refine pr_goto (pc := 81) C 85 dX3_isPermitted_81 (by decide) ?_
                    exact pr_iret (pc := 85) C E (Or.inr ⟨rfl, (by decide)⟩) (by omega) (by omega) ⟨by rw [sc_perm2 ha16 (by first | assumption | omega) (by first | assumption | omega) (by first | assumption | omega) (by first | assumption | omega) (by rw [sc_top hqq hQ0 hw4]; assumption), mw_Q_aq hw hQ0]; simp [-Int32.not_le, -Int32.not_lt, pz_b, pz_lt, eq_false c_59, eq_true c_66, eq_true c_77], rfl⟩ dX3_isPermitted_85
        · refine pr_iconst (pc := 32) (v := 1) C dX3_isPermitted_32 (by decide) ?_
          exact pr_iret (pc := 33) C E (Or.inr ⟨rfl, (by decide)⟩) (by omega) (by omega) ⟨by rw [sc_perm1 ha16 (by first | exact Or.inl (by assumption) | exact Or.inr (by omega))]; rfl, rfl⟩ dX3_isPermitted_33

/-- what the speakers have said stands in the class as in the rows -/
def sj_Y (K : Nat → Nat → Nat → Int32) (S : Nat → Nat → Int32) : Prop := ∀ i, i < 4 → K 47 i 0 = S 230 i
set_option maxRecDepth 100000 in
set_option maxHeartbeats 4000000 in
theorem c_X3_canBeSaid (G : pa_G) (l : Launch) (K : Nat → Nat → Nat → Int32) (Sm S : Nat → Nat → Int32) (N : Nat → Nat) (O : Nat → Int64) (T D e : Nat) (z : sj_Z) (hs : sj_M K N T D z e S) (t w a : Nat) (hM : mw_S S T) (hJ : mj S T) (ht : t < D) (hc : sc_t S T t w a) (hY : sj_Y K S) : pa_MP G l mX3_canBeSaid 6 [pv_o 4 0, pv_o 3 t] (K, Sm, N, O) (pv_i (pz_b (ms_canSay S w a (S 220 t) (S 221 t) (S 222 t)))) := by
  refine pa_go l (by decide) (by simp [pa_c1l, pa_c1]) (fun _ => rfl) fun x C E el ea => ?_
  subst el
  have hT := hM.1.1
  have hTD := sj_TD hs
  obtain ⟨hw1, hw4, ha, ha16, hrep, hatm, m9, hm0, hm16, hto, htb, hone⟩ := id hc
  show pa_w G x 2 (K, Sm, N, O) 0 0 0 [some (pv_o 4 0), some (pv_o 3 t)] []
  refine pr_aload_n (pc := 0) C dX3_canBeSaid_0 rfl ?_
  refine pr_gets (pc := 1) C 120 wf_X3_105 rfl rfl (pl_3 (sj_n0 hs (by first | assumption | omega))) w ((sj_r120 hs (by first | assumption | omega)).trans hw1) (by first | assumption | omega) dX3_canBeSaid_1 ?_
  by_cases hsay : S 230 w = -1
  · -- nothing
    refine pr_gett (pc := 4) C 47 wf_X3_111 rfl rfl (pl_1 (by first | assumption | omega)) dX3_canBeSaid_4 ?_
    refine pr_eqr (v := none) (by show pa_rc 3 (K 47 w 0) = none; rw [hY w hw4, hsay]; rfl) ?_
    refine pr_ifnonnull0 (pc := 7) C dX3_canBeSaid_7 ?_
    refine pr_aload_n (pc := 10) C dX3_canBeSaid_10 rfl ?_
    refine pr_getl (pc := 11) C 162 0 wf_X3_22 rfl rfl rfl (pl_4 _) dX3_canBeSaid_11 ?_
    refine pr_vP (pc := 14) C (c_szT G _ K Sm S N O T D e z hs) wv_X3_147 rfl rfl (by decide) (by decide) (pl_0 (by decide)) (Nat.le_of_ble_eq_true rfl) (by omega) (by omega) dX3_canBeSaid_14 ?_
    refine pr_bipush (pc := 17) (v := 100) C dX3_canBeSaid_17 (by decide) ?_
    refine pr_icmp_geN (pc := 19) C 42 T 100 dX3_canBeSaid_19 (by decide) rfl rfl (by omega) (by omega) (fun c_19 => ?_) (fun c_19 => ?_)
    · refine pr_iconst (pc := 42) (v := 0) C dX3_canBeSaid_42 (by decide) ?_
      exact pr_iret (pc := 43) C E (Or.inr ⟨rfl, (by decide)⟩) (by omega) (by omega) ⟨(by simp [-Int32.not_le, -Int32.not_lt, pz_b, pz_lt, ms_canSay, hM.1.2.1, (nI_leI (a := 100) (b := T) (by decide) (by omega)), show ((100 : Int32) ≤ nI T) = (100 ≤ T) from propext (nI_leI (a := 100) (b := T) (by decide) (by omega)), c_19, hsay]), rfl⟩ dX3_canBeSaid_43
    · refine pr_aload_n (pc := 22) C dX3_canBeSaid_22 rfl ?_
      refine pr_aload_n (pc := 23) C dX3_canBeSaid_23 rfl ?_
      refine pr_vP (pc := 24) C (c_X3_isPossible G _ K Sm S N O T D e z hs t w a hM hJ (by omega) hc) wv_X3_277 rfl rfl (by decide) (by decide) (pl_4 _) (Nat.le_of_ble_eq_true rfl) (by omega) (by omega) dX3_canBeSaid_24 ?_
      refine pr_ifb_eq (pc := 27) C 42 dX3_canBeSaid_27 (by decide) (fun c_27 => ?_) (fun c_27 => ?_)
      · refine pr_iconst (pc := 42) (v := 0) C dX3_canBeSaid_42 (by decide) ?_
        exact pr_iret (pc := 43) C E (Or.inr ⟨rfl, (by decide)⟩) (by omega) (by omega) ⟨(by simp [-Int32.not_le, -Int32.not_lt, pz_b, pz_lt, ms_canSay, hM.1.2.1, (nI_leI (a := 100) (b := T) (by decide) (by omega)), show ((100 : Int32) ≤ nI T) = (100 ≤ T) from propext (nI_leI (a := 100) (b := T) (by decide) (by omega)), c_19, show ¬ 100 ≤ T by omega, hsay, c_27]), rfl⟩ dX3_canBeSaid_43
      · refine pr_aload_n (pc := 30) C dX3_canBeSaid_30 rfl ?_
        refine pr_aload_n (pc := 31) C dX3_canBeSaid_31 rfl ?_
        refine pr_vP (pc := 32) C (c_X3_isPermitted G _ K Sm S N O T D e z hs t w a hM hJ (by omega) hc) wv_X3_280 rfl rfl (by decide) (by decide) (pl_4 _) (Nat.le_of_ble_eq_true rfl) (by omega) (by omega) dX3_canBeSaid_32 ?_
        refine pr_ifb_eq (pc := 35) C 42 dX3_canBeSaid_35 (by decide) (fun c_35 => ?_) (fun c_35 => ?_)
        · refine pr_iconst (pc := 42) (v := 0) C dX3_canBeSaid_42 (by decide) ?_
          exact pr_iret (pc := 43) C E (Or.inr ⟨rfl, (by decide)⟩) (by omega) (by omega) ⟨(by simp [-Int32.not_le, -Int32.not_lt, pz_b, pz_lt, ms_canSay, hM.1.2.1, (nI_leI (a := 100) (b := T) (by decide) (by omega)), show ((100 : Int32) ≤ nI T) = (100 ≤ T) from propext (nI_leI (a := 100) (b := T) (by decide) (by omega)), c_19, show ¬ 100 ≤ T by omega, hsay, c_27, c_35]), rfl⟩ dX3_canBeSaid_43
        · refine pr_iconst (pc := 38) (v := 1) C dX3_canBeSaid_38 (by decide) ?_
          refine pr_goto (pc := 39) C 43 dX3_canBeSaid_39 (by decide) ?_
          exact pr_iret (pc := 43) C E (Or.inr ⟨rfl, (by decide)⟩) (by omega) (by omega) ⟨(by simp [-Int32.not_le, -Int32.not_lt, pz_b, pz_lt, ms_canSay, hM.1.2.1, (nI_leI (a := 100) (b := T) (by decide) (by omega)), show ((100 : Int32) ≤ nI T) = (100 ≤ T) from propext (nI_leI (a := 100) (b := T) (by decide) (by omega)), c_19, show ¬ 100 ≤ T by omega, hsay, c_27, c_35]), rfl⟩ dX3_canBeSaid_43
  · -- a turn
    obtain ⟨eN, ltN, -⟩ := mw_S_N hM hw4 hsay
    generalize mn (S 230 w) = tv at eN ltN
    refine pr_gett (pc := 4) C 47 wf_X3_111 rfl rfl (pl_1 (by first | assumption | omega)) dX3_canBeSaid_4 ?_
    refine pr_eqr (v := some (3, tv)) (by show pa_rc 3 (K 47 w 0) = some (3, tv); rw [hY w hw4, eN]; exact pa_rc_nI (by omega)) ?_
    refine pr_ifnonnull1 (pc := 7) C 42 dX3_canBeSaid_7 (by decide) ?_
    refine pr_iconst (pc := 42) (v := 0) C dX3_canBeSaid_42 (by decide) ?_
    exact pr_iret (pc := 43) C E (Or.inr ⟨rfl, (by decide)⟩) (by omega) (by omega) ⟨(by simp [-Int32.not_le, -Int32.not_lt, pz_b, pz_lt, ms_canSay, hM.1.2.1, (nI_leI (a := 100) (b := T) (by decide) (by omega)), show ((100 : Int32) ≤ nI T) = (100 ≤ T) from propext (nI_leI (a := 100) (b := T) (by decide) (by omega)), hsay]), rfl⟩ dX3_canBeSaid_43

set_option maxRecDepth 100000 in
set_option maxHeartbeats 4000000 in
theorem c_X3_isDoubted (G : pa_G) (l : Launch) (K : Nat → Nat → Nat → Int32) (Sm S : Nat → Nat → Int32) (N : Nat → Nat) (O : Nat → Int64) (T D e : Nat) (z : sj_Z) (hs : sj_M K N T D z e S) (t g : Nat) (ht : t < D) (hg : S 223 t = nI g) (hg10 : g < 10) : pa_MP G l mX3_isDoubted 3 [pv_o 4 0, pv_o 3 t] (K, Sm, N, O) (pv_i (pz_b (ms_chal S t g))) := by
  refine pa_go l (by decide) (by simp [pa_c1l, pa_c1]) (fun _ => rfl) fun x C E el ea => ?_
  subst el
  show pa_w G x 3 (K, Sm, N, O) 0 0 0 [some (pv_o 4 0), some (pv_o 3 t), none] []
  refine pr_iconst (pc := 0) (v := 0) C dX3_isDoubted_0 (by decide) ?_
  refine pr_istore_n (pc := 1) C dX3_isDoubted_1 (by decide) ?_
  have lp2 : ∀ (n3 k1 : Nat), k1 ≤ 4 → 4 < k1 + n3 → (∀ j, j < k1 → (ms_chp S t g) j = false) → pa_w G x 3 (K, Sm, N, O) 0 0 2 [some (pv_o 4 0), some (pv_o 3 t), some (pv_i (nI k1))] [] := by
    intro n3
    induction n3 with
    | zero => intro k1 h1 h2; exact absurd h2 (by omega)
    | succ n3 ih4 =>
      intro k1 hk1_k1 hk2_k1 hx_k1
      refine pr_iload_n (pc := 2) C dX3_isDoubted_2 rfl ?_
      refine pr_iconst (pc := 3) (v := 4) C dX3_isDoubted_3 (by decide) ?_
      refine pr_icmp_geN (pc := 4) C 46 k1 4 dX3_isDoubted_4 (by decide) rfl rfl (by omega) (by omega) (fun c_4 => ?_) (fun c_4 => ?_)
      · obtain rfl : 4 = k1 := by omega
        refine pr_iconst (pc := 46) (v := 0) C dX3_isDoubted_46 (by decide) ?_
        exact pr_iret (pc := 47) C E (Or.inr ⟨rfl, (by decide)⟩) (by omega) (by omega) ⟨by rw [show ms_chal S t g = false from pz_any_no hx_k1]; rfl, rfl⟩ dX3_isDoubted_47
      · refine pr_aload_n (pc := 7) C dX3_isDoubted_7 rfl ?_
        refine pr_aload_n (pc := 8) C dX3_isDoubted_8 rfl ?_
        refine pr_geta (pc := 9) C 160 260 wf_X3_11 rfl rfl (by decide) (pl_4 _) dX3_isDoubted_9 ?_
        refine pr_iload_n (pc := 12) C dX3_isDoubted_12 rfl ?_
        refine pr_alds (pc := 13) (n := 4) C 160 k1 rfl rfl rfl (pl_r4 (by decide)) rfl (by omega) (by decide) dX3_isDoubted_13 ?_
        refine pr_vP (pc := 14) C (c_X2_isTo G _ K Sm S N O T D e z hs t k1 (by first | assumption | omega) (by first | assumption | omega)) wv_X3_286 rfl rfl (by decide) (by decide) (pl_3 (sj_n0 hs (by first | assumption | omega))) (Nat.le_of_ble_eq_true rfl) (by omega) (by omega) dX3_isDoubted_14 ?_
        refine pr_ifb_eq (pc := 17) C 40 dX3_isDoubted_17 (by decide) (fun c_17 => ?_) (fun c_17 => ?_)
        · refine pr_iincN (pc := 40) C dX3_isDoubted_40 rfl k1 1 rfl rfl (by decide) ?_
          refine pr_goto (pc := 43) C 2 dX3_isDoubted_43 (by decide) ?_
          exact ih4 (k1 + 1) (by omega) (by omega) (pz_nx (p := (ms_chp S t g)) hx_k1 (by simp [ms_chp, c_4, c_17]))
        · refine pr_aload_n (pc := 20) C dX3_isDoubted_20 rfl ?_
          refine pr_geta (pc := 21) C 160 260 wf_X3_11 rfl rfl (by decide) (pl_4 _) dX3_isDoubted_21 ?_
          refine pr_iload_n (pc := 24) C dX3_isDoubted_24 rfl ?_
          refine pr_alds (pc := 25) (n := 4) C 160 k1 rfl rfl rfl (pl_r4 (by decide)) rfl (by omega) (by decide) dX3_isDoubted_25 ?_
          refine pr_geta (pc := 26) C 49 149 wf_X3_190 rfl rfl (by decide) (pl_1 (by first | assumption | omega)) dX3_isDoubted_26 ?_
          refine pr_aload_n (pc := 29) C dX3_isDoubted_29 rfl ?_
          refine pr_geti (pc := 30) C 123 wf_X3_173 rfl (by decide) (pl_3 (sj_n0 hs (by first | assumption | omega))) dX3_isDoubted_30 ?_
          refine pr_eqi (v := S 223 t) (sj_r123 hs (by first | assumption | omega)) ?_
          refine pr_eqi hg ?_
          refine pr_aldi (pc := 33) (n := 10) C 49 g rfl rfl rfl (pl_r1 (by decide) (by first | assumption | omega)) rfl (by omega) (by decide) dX3_isDoubted_33 ?_
          refine pr_eqi (v := S 208 (10 * k1 + g)) (sj_r49 hs (by first | assumption | omega) (by omega)) ?_
          refine pr_iconst (pc := 34) (v := 2) C dX3_isDoubted_34 (by decide) ?_
          refine pr_icmp_ne (pc := 35) C 40 dX3_isDoubted_35 (by decide) (fun c_35 => ?_) (fun c_35 => ?_)
          · refine pr_iincN (pc := 40) C dX3_isDoubted_40 rfl k1 1 rfl rfl (by decide) ?_
            refine pr_goto (pc := 43) C 2 dX3_isDoubted_43 (by decide) ?_
            exact ih4 (k1 + 1) (by omega) (by omega) (pz_nx (p := (ms_chp S t g)) hx_k1 (by simp [ms_chp, c_4, c_17, eq_false c_35]))
          · refine pr_iconst (pc := 38) (v := 1) C dX3_isDoubted_38 (by decide) ?_
            exact pr_iret (pc := 39) C E (Or.inr ⟨rfl, (by decide)⟩) (by omega) (by omega) ⟨by rw [show ms_chal S t g = true from pz_any_at (p := (ms_chp S t g)) (k := k1) (by omega) (by simp [ms_chp, c_4, c_17, eq_true c_35])]; rfl, rfl⟩ dX3_isDoubted_39
  exact lp2 (4 + 1) 0 (by omega) (by omega) (fun j hj => absurd hj (by omega))

set_option maxRecDepth 100000 in
set_option maxHeartbeats 4000000 in
theorem c_X3_reachOf (G : pa_G) (l : Launch) (K : Nat → Nat → Nat → Int32) (Sm S : Nat → Nat → Int32) (N : Nat → Nat) (O : Nat → Int64) (T D e : Nat) (z : sj_Z) (hs : sj_M K N T D z e S) (t hr : Nat) (ht : t < D) (hh : hr < 4) : pa_MP G l mX3_reachOf 3 [pv_o 4 0, pv_o 3 t, pv_o 1 hr] (K, Sm, N, O) (pv_i (ms_dlh S t hr)) := by
  refine pa_go l (by decide) (by simp [pa_c1l, pa_c1]) (fun _ => rfl) fun x C E el ea => ?_
  subst el
  show pa_w G x 5 (K, Sm, N, O) 0 0 0 [some (pv_o 4 0), some (pv_o 3 t), some (pv_o 1 hr), none, none] []
  refine pr_aload_n (pc := 0) C dX3_reachOf_0 rfl ?_
  refine pr_aload_n (pc := 1) C dX3_reachOf_1 rfl ?_
  refine pr_geti (pc := 2) C 166 wf_X3_76 rfl (by decide) (pl_4 _) dX3_reachOf_2 ?_
  refine pr_eqi (v := S 200 0) (sj_r166 hs) ?_
  refine pr_vP (pc := 5) C (c_X0_isDeafAt G _ K Sm S N O T D e z hs hr (S 200 0) (by first | assumption | omega)) wv_X3_386 rfl rfl (by decide) (by decide) (pl_1 (by first | assumption | omega)) (Nat.le_of_ble_eq_true rfl) (by omega) (by omega) dX3_reachOf_5 ?_
  refine pr_ifb_eq (pc := 8) C 13 dX3_reachOf_8 (by decide) (fun c_8 => ?_) (fun c_8 => ?_)
  · refine pr_aload_n (pc := 13) C dX3_reachOf_13 rfl ?_
    refine pr_geti (pc := 14) C 42 wf_X3_60 rfl (by decide) (pl_1 (by first | assumption | omega)) dX3_reachOf_14 ?_
    refine pr_eqi (v := S 203 hr) (sj_r42 hs (by first | assumption | omega)) ?_
    refine pr_aload_n (pc := 17) C dX3_reachOf_17 rfl ?_
    refine pr_geti (pc := 18) C 124 wf_X3_389 rfl (by decide) (pl_3 (sj_n0 hs (by first | assumption | omega))) dX3_reachOf_18 ?_
    refine pr_eqi (v := S 226 t) (sj_r124 hs (by first | assumption | omega)) ?_
    refine pr_sP (pc := 21) C (c_X3_isIn G _ (K, Sm, N, O) (S 203 hr) (S 226 t)) ws_X3_49 rfl rfl (by decide) (Nat.le_of_ble_eq_true rfl) (by omega) (by omega) dX3_reachOf_21 ?_
    refine pr_ifb_eq (pc := 24) C 29 dX3_reachOf_24 (by decide) (fun c_24 => ?_) (fun c_24 => ?_)
    · refine pr_iconst (pc := 29) (v := 0) C dX3_reachOf_29 (by decide) ?_
      refine pr_istore_n (pc := 30) C dX3_reachOf_30 (by decide) ?_
      have lp2 : ∀ (n3 k1 : Nat), k1 ≤ 4 → 4 < k1 + n3 → (∀ j, j < k1 → (ms_hip S t hr) j = false) → pa_w G x 5 (K, Sm, N, O) 0 0 31 [some (pv_o 4 0), some (pv_o 3 t), some (pv_o 1 hr), some (pv_i (nI k1)), none] [] := by
        intro n3
        induction n3 with
        | zero => intro k1 h1 h2; exact absurd h2 (by omega)
        | succ n3 ih4 =>
          intro k1 hk1_k1 hk2_k1 hx_k1
          refine pr_iload_n (pc := 31) C dX3_reachOf_31 rfl ?_
          refine pr_iconst (pc := 32) (v := 4) C dX3_reachOf_32 (by decide) ?_
          refine pr_icmp_geN (pc := 33) C 115 k1 4 dX3_reachOf_33 (by decide) rfl rfl (by omega) (by omega) (fun c_33 => ?_) (fun c_33 => ?_)
          · obtain rfl : 4 = k1 := by omega
            refine pr_iconst (pc := 115) (v := 1) C dX3_reachOf_115 (by decide) ?_
            exact pr_iret (pc := 116) C E (Or.inl rfl) (by omega) (by omega) ⟨by unfold ms_dlh; rw [show ms_deaf S hr = false from c_8, if_neg (by decide), c_24, if_neg (by decide), show ms_hasI S t hr = false from pz_any_no hx_k1]; rfl, rfl⟩ dX3_reachOf_116
          · refine pr_aload_n (pc := 36) C dX3_reachOf_36 rfl ?_
            refine pr_geta (pc := 37) C 160 260 wf_X3_11 rfl rfl (by decide) (pl_4 _) dX3_reachOf_37 ?_
            refine pr_iload_n (pc := 40) C dX3_reachOf_40 rfl ?_
            refine pr_alds (pc := 41) (n := 4) C 160 k1 rfl rfl rfl (pl_r4 (by decide)) rfl (by omega) (by decide) dX3_reachOf_41 ?_
            refine pr_astore (pc := 42) C dX3_reachOf_42 (by decide) ?_
            refine pr_aload (pc := 44) C dX3_reachOf_44 rfl ?_
            refine pr_aload_n (pc := 46) C dX3_reachOf_46 rfl ?_
            refine pr_acmp_eq (pc := 47) C 109 dX3_reachOf_47 (by decide) (pl_1 (by first | assumption | omega)) (pl_1 (by first | assumption | omega)) (fun c_47 => ?_) (fun c_47 => ?_)
            · simp only [Prod.mk.injEq, true_and, ne_eq] at c_47
              refine pr_iincN (pc := 109) C dX3_reachOf_109 rfl k1 1 rfl rfl (by decide) ?_
              refine pr_goto (pc := 112) C 31 dX3_reachOf_112 (by decide) ?_
              refine pr_lo (lo' := [some (pv_o 4 0), some (pv_o 3 t), some (pv_o 1 hr), some (pv_i (nI (k1 + 1))), none]) (show pa_lle [some (pv_o 4 0), some (pv_o 3 t), some (pv_o 1 hr), some (pv_i (nI (k1 + 1))), none] [some (pv_o 4 0), some (pv_o 3 t), some (pv_o 1 hr), some (pv_i (nI (k1 + 1))), some (pv_o 1 k1)] by simp [pa_lle]) ?_
              exact ih4 (k1 + 1) (by omega) (by omega) (pz_nx (p := (ms_hip S t hr)) hx_k1 (by simp [ms_hip, ms_deaf, c_8, c_24, c_33, c_47]))
            · simp only [Prod.mk.injEq, true_and, ne_eq] at c_47
              refine pr_aload_n (pc := 50) C dX3_reachOf_50 rfl ?_
              refine pr_aload (pc := 51) C dX3_reachOf_51 rfl ?_
              refine pr_vP (pc := 53) C (c_X2_isTo G _ K Sm S N O T D e z hs t k1 (by first | assumption | omega) (by first | assumption | omega)) wv_X3_286 rfl rfl (by decide) (by decide) (pl_3 (sj_n0 hs (by first | assumption | omega))) (Nat.le_of_ble_eq_true rfl) (by omega) (by omega) dX3_reachOf_53 ?_
              refine pr_ifb_eq (pc := 56) C 109 dX3_reachOf_56 (by decide) (fun c_56 => ?_) (fun c_56 => ?_)
              · refine pr_iincN (pc := 109) C dX3_reachOf_109 rfl k1 1 rfl rfl (by decide) ?_
                refine pr_goto (pc := 112) C 31 dX3_reachOf_112 (by decide) ?_
                refine pr_lo (lo' := [some (pv_o 4 0), some (pv_o 3 t), some (pv_o 1 hr), some (pv_i (nI (k1 + 1))), none]) (show pa_lle [some (pv_o 4 0), some (pv_o 3 t), some (pv_o 1 hr), some (pv_i (nI (k1 + 1))), none] [some (pv_o 4 0), some (pv_o 3 t), some (pv_o 1 hr), some (pv_i (nI (k1 + 1))), some (pv_o 1 k1)] by simp [pa_lle]) ?_
                exact ih4 (k1 + 1) (by omega) (by omega) (pz_nx (p := (ms_hip S t hr)) hx_k1 (by simp [ms_hip, ms_deaf, c_8, c_24, c_33, c_47, c_56]))
              · refine pr_aload (pc := 59) C dX3_reachOf_59 rfl ?_
                refine pr_geti (pc := 61) C 44 wf_X3_66 rfl (by decide) (pl_1 (by first | assumption | omega)) dX3_reachOf_61 ?_
                refine pr_eqi (v := S 205 k1) (sj_r44 hs (by first | assumption | omega)) ?_
                refine pr_if_eq (pc := 64) C 109 dX3_reachOf_64 (by decide) (fun c_64 => ?_) (fun c_64 => ?_)
                · refine pr_iincN (pc := 109) C dX3_reachOf_109 rfl k1 1 rfl rfl (by decide) ?_
                  refine pr_goto (pc := 112) C 31 dX3_reachOf_112 (by decide) ?_
                  refine pr_lo (lo' := [some (pv_o 4 0), some (pv_o 3 t), some (pv_o 1 hr), some (pv_i (nI (k1 + 1))), none]) (show pa_lle [some (pv_o 4 0), some (pv_o 3 t), some (pv_o 1 hr), some (pv_i (nI (k1 + 1))), none] [some (pv_o 4 0), some (pv_o 3 t), some (pv_o 1 hr), some (pv_i (nI (k1 + 1))), some (pv_o 1 k1)] by simp [pa_lle]) ?_
                  exact ih4 (k1 + 1) (by omega) (by omega) (pz_nx (p := (ms_hip S t hr)) hx_k1 (by simp [ms_hip, ms_deaf, c_8, c_24, c_33, c_47, c_56, eq_true c_64]))
                · refine pr_aload (pc := 67) C dX3_reachOf_67 rfl ?_
                  refine pr_aload_n (pc := 69) C dX3_reachOf_69 rfl ?_
                  refine pr_geti (pc := 70) C 166 wf_X3_76 rfl (by decide) (pl_4 _) dX3_reachOf_70 ?_
                  refine pr_eqi (v := S 200 0) (sj_r166 hs) ?_
                  refine pr_vP (pc := 73) C (c_X0_isDeafAt G _ K Sm S N O T D e z hs k1 (S 200 0) (by first | assumption | omega)) wv_X3_386 rfl rfl (by decide) (by decide) (pl_1 (by first | assumption | omega)) (Nat.le_of_ble_eq_true rfl) (by omega) (by omega) dX3_reachOf_73 ?_
                  refine pr_ifb_ne (pc := 76) C 109 dX3_reachOf_76 (by decide) (fun c_76 => ?_) (fun c_76 => ?_)
                  · refine pr_iincN (pc := 109) C dX3_reachOf_109 rfl k1 1 rfl rfl (by decide) ?_
                    refine pr_goto (pc := 112) C 31 dX3_reachOf_112 (by decide) ?_
                    refine pr_lo (lo' := [some (pv_o 4 0), some (pv_o 3 t), some (pv_o 1 hr), some (pv_i (nI (k1 + 1))), none]) (show pa_lle [some (pv_o 4 0), some (pv_o 3 t), some (pv_o 1 hr), some (pv_i (nI (k1 + 1))), none] [some (pv_o 4 0), some (pv_o 3 t), some (pv_o 1 hr), some (pv_i (nI (k1 + 1))), some (pv_o 1 k1)] by simp [pa_lle]) ?_
                    exact ih4 (k1 + 1) (by omega) (by omega) (pz_nx (p := (ms_hip S t hr)) hx_k1 (by simp [ms_hip, ms_deaf, c_8, c_24, c_33, c_47, c_56, eq_false c_64, c_76]))
                  · refine pr_aload (pc := 79) C dX3_reachOf_79 rfl ?_
                    refine pr_geti (pc := 81) C 42 wf_X3_60 rfl (by decide) (pl_1 (by first | assumption | omega)) dX3_reachOf_81 ?_
                    refine pr_eqi (v := S 203 k1) (sj_r42 hs (by first | assumption | omega)) ?_
                    refine pr_aload_n (pc := 84) C dX3_reachOf_84 rfl ?_
                    refine pr_geti (pc := 85) C 124 wf_X3_389 rfl (by decide) (pl_3 (sj_n0 hs (by first | assumption | omega))) dX3_reachOf_85 ?_
                    refine pr_eqi (v := S 226 t) (sj_r124 hs (by first | assumption | omega)) ?_
                    refine pr_sP (pc := 88) C (c_X3_isIn G _ (K, Sm, N, O) (S 203 k1) (S 226 t)) ws_X3_49 rfl rfl (by decide) (Nat.le_of_ble_eq_true rfl) (by omega) (by omega) dX3_reachOf_88 ?_
                    refine pr_ifb_eq (pc := 91) C 109 dX3_reachOf_91 (by decide) (fun c_91 => ?_) (fun c_91 => ?_)
                    · refine pr_iincN (pc := 109) C dX3_reachOf_109 rfl k1 1 rfl rfl (by decide) ?_
                      refine pr_goto (pc := 112) C 31 dX3_reachOf_112 (by decide) ?_
                      refine pr_lo (lo' := [some (pv_o 4 0), some (pv_o 3 t), some (pv_o 1 hr), some (pv_i (nI (k1 + 1))), none]) (show pa_lle [some (pv_o 4 0), some (pv_o 3 t), some (pv_o 1 hr), some (pv_i (nI (k1 + 1))), none] [some (pv_o 4 0), some (pv_o 3 t), some (pv_o 1 hr), some (pv_i (nI (k1 + 1))), some (pv_o 1 k1)] by simp [pa_lle]) ?_
                      exact ih4 (k1 + 1) (by omega) (by omega) (pz_nx (p := (ms_hip S t hr)) hx_k1 (by simp [ms_hip, ms_deaf, c_8, c_24, c_33, c_47, c_56, eq_false c_64, c_76, c_91]))
                    · refine pr_aload (pc := 94) C dX3_reachOf_94 rfl ?_
                      refine pr_geti (pc := 96) C 42 wf_X3_60 rfl (by decide) (pl_1 (by first | assumption | omega)) dX3_reachOf_96 ?_
                      refine pr_eqi (v := S 203 k1) (sj_r42 hs (by first | assumption | omega)) ?_
                      refine pr_aload_n (pc := 99) C dX3_reachOf_99 rfl ?_
                      refine pr_geti (pc := 100) C 42 wf_X3_60 rfl (by decide) (pl_1 (by first | assumption | omega)) dX3_reachOf_100 ?_
                      refine pr_eqi (v := S 203 hr) (sj_r42 hs (by first | assumption | omega)) ?_
                      refine pr_iand (pc := 103) C dX3_reachOf_103 ?_
                      refine pr_if_eq (pc := 104) C 109 dX3_reachOf_104 (by decide) (fun c_104 => ?_) (fun c_104 => ?_)
                      · refine pr_iincN (pc := 109) C dX3_reachOf_109 rfl k1 1 rfl rfl (by decide) ?_
                        refine pr_goto (pc := 112) C 31 dX3_reachOf_112 (by decide) ?_
                        refine pr_lo (lo' := [some (pv_o 4 0), some (pv_o 3 t), some (pv_o 1 hr), some (pv_i (nI (k1 + 1))), none]) (show pa_lle [some (pv_o 4 0), some (pv_o 3 t), some (pv_o 1 hr), some (pv_i (nI (k1 + 1))), none] [some (pv_o 4 0), some (pv_o 3 t), some (pv_o 1 hr), some (pv_i (nI (k1 + 1))), some (pv_o 1 k1)] by simp [pa_lle]) ?_
                        exact ih4 (k1 + 1) (by omega) (by omega) (pz_nx (p := (ms_hip S t hr)) hx_k1 (by simp [ms_hip, ms_deaf, c_8, c_24, c_33, c_47, c_56, eq_false c_64, c_76, c_91, eq_true c_104]))
                      · refine pr_iconst (pc := 107) (v := 2) C dX3_reachOf_107 (by decide) ?_
                        exact pr_iret (pc := 108) C E (Or.inl rfl) (by omega) (by omega) ⟨by unfold ms_dlh; rw [show ms_deaf S hr = false from c_8, if_neg (by decide), c_24, if_neg (by decide), show ms_hasI S t hr = true from pz_any_at (p := (ms_hip S t hr)) (k := k1) (by omega) (by simp [ms_hip, ms_deaf, c_8, c_24, c_33, c_47, c_56, eq_false c_64, c_76, c_91, eq_false c_104])]; rfl, rfl⟩ dX3_reachOf_108
      exact lp2 (4 + 1) 0 (by omega) (by omega) (fun j hj => absurd hj (by omega))
    · refine pr_iconst (pc := 27) (v := 3) C dX3_reachOf_27 (by decide) ?_
      exact pr_iret (pc := 28) C E (Or.inl rfl) (by omega) (by omega) ⟨by unfold ms_dlh; rw [show ms_deaf S hr = false from c_8, if_neg (by decide), if_pos c_24], rfl⟩ dX3_reachOf_28
  · refine pr_iconst (pc := 11) (v := 1) C dX3_reachOf_11 (by decide) ?_
    exact pr_iret (pc := 12) C E (Or.inl rfl) (by omega) (by omega) ⟨by unfold ms_dlh; rw [show ms_deaf S hr = true from c_8]; rfl, rfl⟩ dX3_reachOf_12

