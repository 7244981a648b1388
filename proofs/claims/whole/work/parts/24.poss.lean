/-! THE CLASS: what is possible, what is permitted, whether it can be said; who doubts; what reaches a hearer -/
/-- one bit alone -/
def sc_1 (m : Nat) : Prop := m = 1 ∨ m = 2 ∨ m = 4 ∨ m = 8
/-- a turn t by w with the act a: what it is about, to whom it is -/
def sc_t (S : Nat → Nat → Int32) (T t w a : Nat) : Prop := S 218 t = nI w ∧ w < 4 ∧ S 219 t = nI a ∧ a < 16 ∧ ((4 ≤ a ∧ a ≤ 8) ∨ 14 ≤ a → ∃ u, u < T ∧ S 220 t = nI u) ∧ (a ≤ 1 ∨ (9 ≤ a ∧ a ≤ 12) → ∃ u, u < 10 ∧ S 220 t = nI u) ∧
  ∃ m, 0 < m ∧ m < 16 ∧ S 222 t = nI m ∧ m.testBit w = false ∧ (a = 1 ∨ a = 13 → sc_1 m)
def sc_q (S : Nat → Nat → Int32) (T Q q0 : Nat) : Prop := mw_Q S Q q0 ∧ (0 < Q → q0 < T ∧ (∃ m, sc_1 m ∧ S 222 q0 = nI m) ∧ (∃ w, w < 4 ∧ S 218 q0 = nI w) ∧ ∃ y, y < 10 ∧ S 220 q0 = nI y)
theorem sc_tw {S : Nat → Nat → Int32} {T t : Nat} (hM : mw_S S T) (hJ : mj_T S T) (ht : t < T) : ∃ w a, sc_t S T t w a := by
  obtain ⟨w, a, k1, k2, k3, k4, k5, k6, -⟩ := mw_S_t hM ht
  obtain ⟨-, -, ⟨m, m0, m1, m2, m3, m4⟩, -⟩ := hJ.1 t ht
  refine ⟨w, a, k3, k1, k4, k2, fun z => ?_, k6, m, m0, m1, m2, m3 w k1 k3, fun z => m4 ?_⟩
  · obtain ⟨u, g1, g2⟩ := k5 z
    exact ⟨u, by omega, g2⟩
  · rcases z with z | z
    · exact Or.inl (by rw [k4, z]; rfl)
    · exact Or.inr (by rw [k4, z]; rfl)
theorem sc_qw {S : Nat → Nat → Int32} {T : Nat} (hM : mw_S S T) (hJ : mj_T S T) : sc_q S T (mn (S 231 0)) (ms_aq S) := by
  refine ⟨mw_S_Q hM, fun h => ?_⟩
  obtain ⟨g1, g2⟩ := mw_S_top hM h
  obtain ⟨w, a, k1, k2, k3, k4, k5, k6, -⟩ := mw_S_t hM g1
  obtain ⟨-, -, ⟨m, m0, m1, m2, m3, m4⟩, -⟩ := hJ.1 _ g1
  have ea : a = 1 := (nI_eq (by omega) (by decide)).mp (by rw [← k4]; exact g2)
  obtain ⟨y, y1, y2⟩ := k6 (by omega)
  exact ⟨g1, ⟨m, m4 (Or.inl g2), m2⟩, ⟨w, k1, k3⟩, y, y1, y2⟩
theorem sc_1b {m w : Nat} (h : sc_1 m) (hw : w < 4) : (ms_one (nI m) = nI w) = (ms_isIn (nI m) (nI w) = true) := by
  have : ∀ w, w < 4 → (ms_one (nI 1) = nI w ↔ ms_isIn (nI 1) (nI w) = true) ∧ (ms_one (nI 2) = nI w ↔ ms_isIn (nI 2) (nI w) = true) ∧ (ms_one (nI 4) = nI w ↔ ms_isIn (nI 4) (nI w) = true) ∧ (ms_one (nI 8) = nI w ↔ ms_isIn (nI 8) (nI w) = true) := by decide +kernel
  obtain ⟨a1, a2, a3, a4⟩ := this w hw
  rcases h with rfl | rfl | rfl | rfl
  · exact propext a1
  · exact propext a2
  · exact propext a3
  · exact propext a4
theorem sc_top {S : Nat → Nat → Int32} {T Q q0 w : Nat} (h : sc_q S T Q q0) (h0 : 0 < Q) (hw : w < 4) : decide (ms_top S = nI w) = ms_isIn (S 222 q0) (nI w) := by
  obtain ⟨-, ⟨m, m1, m2⟩, -⟩ := h.2 h0
  rw [mw_Q_top h.1, if_neg (by omega), m2]
  cases e : ms_isIn (nI m) (nI w)
  · exact decide_eq_false (fun z => by rw [sc_1b m1 hw, e] at z; cases z)
  · exact decide_eq_true (by rw [sc_1b m1 hw]; exact e)
theorem sc_top0 {S : Nat → Nat → Int32} {T Q q0 w : Nat} (h : sc_q S T Q q0) (h0 : Q = 0) (hw : w < 4) : decide (ms_top S = nI w) = false := by
  rw [mw_Q_top h.1, if_pos h0]
  exact decide_eq_false (fun z => nI_nm (show w < 1000 by omega) z.symm)
theorem sc_rep_poss {S : Nat → Nat → Int32} {T w a wu u : Nat} {how set : Int32} (hu : u < 100) (ha : (4 ≤ a ∧ a ≤ 8) ∨ (14 ≤ a ∧ a ≤ 15)) (hwu : S 218 u = nI wu) (hwu4 : wu < 4) (hw4 : w < 4) (ho : mj_o S T) : ms_poss S w a (nI u) how set = (decide (S 224 u = 1) && sc_rep S w a wu u) := by
  have e : (nI u).toNatClampNeg = u := nI_clamp (by omega)
  have ew : (nI wu = nI w) = (wu = w) := propext (nI_eq (by omega) (by omega))
  have h7 : (ms_isClaim S u && decide (3 ≤ S 228 (4 * u + w))) = (decide (S 224 u = 1) && (ms_isClaim S u && decide (3 ≤ S 228 (4 * u + w)))) := by
    unfold ms_isClaim
    by_cases c : S 224 u = 1 <;> simp [c]
  have h14 : (decide (S 219 u = 13) && ms_isIn (S 222 u) (nI w) && decide (S 227 u ≠ 0) && decide (3 ≤ S 228 (4 * u + w))) = (decide (S 224 u = 1) && (decide (S 227 u ≠ 0) && ms_isIn (S 222 u) (nI w) && decide (3 ≤ S 228 (4 * u + w)))) := by
    rcases ho u with c | ⟨c1, -, c2, c3⟩
    · simp [c]
    · simp [c1, c2, c3]
  rcases (show a = 4 ∨ a = 5 ∨ a = 6 ∨ a = 7 ∨ a = 8 ∨ a = 14 ∨ a = 15 by omega) with rfl | rfl | rfl | rfl | rfl | rfl | rfl
  · simp [ms_poss, sc_rep, e]
  · simp [ms_poss, sc_rep, e]
  · simp [ms_poss, sc_rep, e, hwu, ew, ms_isMissed, sc_some, Bool.and_assoc]
  · simpa [ms_poss, sc_rep, e] using h7
  · simpa [ms_poss, sc_rep, e] using h7
  · simpa [ms_poss, sc_rep, e] using h14
  · simpa [ms_poss, sc_rep, e] using h14
set_option maxRecDepth 100000 in
set_option maxHeartbeats 2000000 in
theorem c_X3_isPossible (G : pa_G) (l : Launch) (K : Nat → Nat → Nat → Int32) (Sm S : Nat → Nat → Int32) (N : Nat → Nat) (O : Nat → Int64) (T D e : Nat) (z : Bool) (hs : sj_M K N T D z e S) (t w a : Nat) (hM : mw_S S T) (hJ : mj S T) (ht : t < D) (hc : sc_t S T t w a) : pa_MP G l mX3_isPossible 5 [pv_o 4 0, pv_o 3 t] (K, Sm, N, O) (pv_i (pz_b (ms_poss S w a (S 220 t) (S 221 t) (S 222 t)))) := by
  refine pa_go l (by decide) (by simp [pa_c1l, pa_c1]) (fun _ => rfl) fun x C E el ea => ?_
  subst el
  have hT := hM.1.1
  have hTD := sj_TD hs
  obtain ⟨hw1, hw4, ha, ha16, hrep, hatm, m9, hm0, hm16, hto, htb, hone⟩ := id hc
  obtain ⟨Q, q0, hqq⟩ : ∃ Q q0, sc_q S T Q q0 := ⟨_, _, sc_qw hM hJ.1⟩
  have hw := hqq.1
  have hQ6 := hw.2.1
  show pa_w G x 4 (K, Sm, N, O) 0 0 0 [some (pv_o 4 0), some (pv_o 3 t), none, none] []
  refine pr_aload_n (pc := 0) C dX3_isPossible_0 rfl ?_
  rcases Nat.eq_zero_or_pos Q with hQ0 | hQ0
  · -- no question
    refine pr_vP (pc := 1) C (c_X3_topQuestion0 G _ K Sm S N O T D e z hs Q q0 hw hQ0) wv_X3_283 rfl rfl (by decide) (by decide) (pl_4 _) (Nat.le_of_ble_eq_true rfl) (by omega) (by omega) dX3_isPossible_1 ?_
    refine pr_astore_n (pc := 4) C dX3_isPossible_4 (by decide) ?_
    refine pr_aload_n (pc := 5) C dX3_isPossible_5 rfl ?_
    refine pr_geti (pc := 6) C 121 wf_X3_161 rfl (by decide) (pl_3 (sj_n0 hs (by first | assumption | omega))) dX3_isPossible_6 ?_
    refine pr_eqi (v := S 219 t) (sj_r121 hs (by first | assumption | omega)) ?_
    refine pr_eqi ha ?_
    obtain rfl | rfl | rfl | rfl | rfl | rfl | rfl | rfl | rfl | rfl | rfl | rfl | rfl | rfl | rfl | rfl : a = 0 ∨ a = 1 ∨ a = 2 ∨ a = 3 ∨ a = 4 ∨ a = 5 ∨ a = 6 ∨ a = 7 ∨ a = 8 ∨ a = 9 ∨ a = 10 ∨ a = 11 ∨ a = 12 ∨ a = 13 ∨ a = 14 ∨ a = 15 := by omega
    · -- 0
      refine pr_tableIn (pc := 9) C 80 dX3_isPossible_9 (by decide) (by decide) (off := 71) (by decide) (by decide) ?_
      refine pr_iconst (pc := 80) (v := 1) C dX3_isPossible_80 (by decide) ?_
      exact pr_iret (pc := 81) C E (Or.inr ⟨rfl, (by decide)⟩) (by omega) (by omega) ⟨(by simp [-Int32.not_le, -Int32.not_lt, pz_b, pz_lt, ms_poss, hQ0]), rfl⟩ dX3_isPossible_81
    · -- 1
      refine pr_tableIn (pc := 9) C 82 dX3_isPossible_9 (by decide) (by decide) (off := 73) (by decide) (by decide) ?_
      refine pr_aload_n (pc := 82) C dX3_isPossible_82 rfl ?_
      refine pr_getl (pc := 83) C 163 1 wf_X3_26 rfl rfl rfl (pl_4 _) dX3_isPossible_83 ?_
      refine pr_vP (pc := 86) C (c_szQ G _ K Sm S N O T D e z hs) wv_X3_147 rfl rfl (by decide) (by decide) (pl_0 (by decide)) (Nat.le_of_ble_eq_true rfl) (by omega) (by omega) dX3_isPossible_86 ?_
      refine pr_eqi hw.1 ?_
      refine pr_bipush (pc := 89) (v := 6) C dX3_isPossible_89 (by decide) ?_
      refine pr_icmp_geN (pc := 91) C 98 Q 6 dX3_isPossible_91 (by decide) rfl rfl (by omega) (by omega) (fun c_91 => ?_) (fun c_91 => ?_)
      · refine pr_iconst (pc := 98) (v := 0) C dX3_isPossible_98 (by decide) ?_
        exact pr_iret (pc := 99) C E (Or.inr ⟨rfl, (by decide)⟩) (by omega) (by omega) ⟨(by simp [-Int32.not_le, -Int32.not_lt, pz_b, pz_lt, ms_poss, hw.1, pq_lt6 hQ6, hQ0, c_91]), rfl⟩ dX3_isPossible_99
      · refine pr_iconst (pc := 94) (v := 1) C dX3_isPossible_94 (by decide) ?_
        refine pr_goto (pc := 95) C 99 dX3_isPossible_95 (by decide) ?_
        exact pr_iret (pc := 99) C E (Or.inr ⟨rfl, (by decide)⟩) (by omega) (by omega) ⟨(by simp [-Int32.not_le, -Int32.not_lt, pz_b, pz_lt, ms_poss, hw.1, pq_lt6 hQ6, hQ0, c_91]), rfl⟩ dX3_isPossible_99
    · -- 2
      refine pr_tableIn (pc := 9) C 100 dX3_isPossible_9 (by decide) (by decide) (off := 91) (by decide) (by decide) ?_
      refine pr_aload_n (pc := 100) C dX3_isPossible_100 rfl ?_
      refine pr_ifnull0 (pc := 101) C 119 dX3_isPossible_101 (by decide) ?_
      refine pr_iconst (pc := 119) (v := 0) C dX3_isPossible_119 (by decide) ?_
      exact pr_iret (pc := 120) C E (Or.inr ⟨rfl, (by decide)⟩) (by omega) (by omega) ⟨by unfold ms_poss; rw [if_neg (by decide), if_pos rfl, sc_top0 hqq hQ0 hw4]; simp [pz_b, ], rfl⟩ dX3_isPossible_120
    · -- 3
      refine pr_tableIn (pc := 9) C 121 dX3_isPossible_9 (by decide) (by decide) (off := 112) (by decide) (by decide) ?_
      refine pr_aload_n (pc := 121) C dX3_isPossible_121 rfl ?_
      refine pr_ifnull0 (pc := 122) C 140 dX3_isPossible_122 (by decide) ?_
      refine pr_iconst (pc := 140) (v := 0) C dX3_isPossible_140 (by decide) ?_
      exact pr_iret (pc := 141) C E (Or.inr ⟨rfl, (by decide)⟩) (by omega) (by omega) ⟨(by simp [-Int32.not_le, -Int32.not_lt, pz_b, pz_lt, ms_poss, hw.1, pq_lt0 hQ6, hQ0, show (nI 0 ≤ (0 : Int32)) by decide]), rfl⟩ dX3_isPossible_141
    · -- 4
      refine pr_tableIn (pc := 9) C 190 dX3_isPossible_9 (by decide) (by decide) (off := 181) (by decide) (by decide) ?_
      obtain ⟨u, hu, hab⟩ := hrep (by omega)
      obtain ⟨wu, au, hcu⟩ := sc_tw hM hJ.1 hu
      have hwu := hcu.1
      have hwu4 := hcu.2.1
      have hrp := sc_rep_poss (how := S 221 t) (set := S 222 t) (a := 4) (by omega) (by omega) hwu hwu4 hw4 hJ.2.2.1
      refine pr_aload_n (pc := 190) C dX3_isPossible_190 rfl ?_
      refine pr_aload_n (pc := 191) C dX3_isPossible_191 rfl ?_
      refine pr_geti (pc := 192) C 126 wf_X3_164 rfl (by decide) (pl_3 (sj_n0 hs (by first | assumption | omega))) dX3_isPossible_192 ?_
      refine pr_eqi (v := S 220 t) (sj_r126 hs (by first | assumption | omega)) ?_
      refine pr_eqi hab ?_
      refine pr_vP (pc := 195) C (c_X3_turnAtY G _ K Sm S N O T D e z hs u (by first | assumption | omega) hT) wv_X3_151 rfl rfl (by decide) (by decide) (pl_4 _) (Nat.le_of_ble_eq_true rfl) (by omega) (by omega) dX3_isPossible_195 ?_
      refine pr_astore_n (pc := 198) C dX3_isPossible_198 (by decide) ?_
      refine pr_aload_n (pc := 199) C dX3_isPossible_199 rfl ?_
      refine pr_ifnull1 (pc := 200) C dX3_isPossible_200 ?_
      refine pr_aload_n (pc := 203) C dX3_isPossible_203 rfl ?_
      refine pr_geti (pc := 204) C 128 wf_X3_176 rfl (by decide) (pl_3 (sj_n0 hs (by first | assumption | omega))) dX3_isPossible_204 ?_
      refine pr_iconst (pc := 207) (v := 1) C dX3_isPossible_207 (by decide) ?_
      refine pr_icmp_ne (pc := 208) C 223 dX3_isPossible_208 (by decide) (fun c_208 => ?_) (fun c_208 => ?_)
      · refine pr_iconst (pc := 223) (v := 0) C dX3_isPossible_223 (by decide) ?_
        exact pr_iret (pc := 224) C E (Or.inr ⟨rfl, (by decide)⟩) (by omega) (by omega) ⟨by rw [hab, hrp, decide_eq_false (fun z => absurd ((sj_st1 hs (by omega)).mpr z) (by assumption))]; rfl, rfl⟩ dX3_isPossible_224
      · refine pr_aload_n (pc := 211) C dX3_isPossible_211 rfl ?_
        refine pr_aload_n (pc := 212) C dX3_isPossible_212 rfl ?_
        refine pr_sP (pc := 213) C (c_X3_isPossibleReply G _ K Sm S N O T D e z hs t u w a wu (by omega) (by omega) hw1 hw4 ha (by omega) hwu hwu4 (hJ.1.1 u (by omega)).2.1 hJ.2.2.2.2.2) ws_X3_293 rfl rfl (by decide) (Nat.le_of_ble_eq_true rfl) (by omega) (by omega) dX3_isPossible_213 ?_
        refine pr_ifb_eq (pc := 216) C 223 dX3_isPossible_216 (by decide) (fun c_216 => ?_) (fun c_216 => ?_)
        · refine pr_iconst (pc := 223) (v := 0) C dX3_isPossible_223 (by decide) ?_
          exact pr_iret (pc := 224) C E (Or.inr ⟨rfl, (by decide)⟩) (by omega) (by omega) ⟨by rw [hab, hrp, decide_eq_true ((sj_st1 hs (by omega)).mp (by assumption)), Bool.true_and]; simp [-Int32.not_le, -Int32.not_lt, pz_b, pz_lt, c_216], rfl⟩ dX3_isPossible_224
        · refine pr_iconst (pc := 219) (v := 1) C dX3_isPossible_219 (by decide) ?_
          refine pr_goto (pc := 220) C 224 dX3_isPossible_220 (by decide) ?_
          exact pr_iret (pc := 224) C E (Or.inr ⟨rfl, (by decide)⟩) (by omega) (by omega) ⟨by rw [hab, hrp, decide_eq_true ((sj_st1 hs (by omega)).mp (by assumption)), Bool.true_and]; simp [-Int32.not_le, -Int32.not_lt, pz_b, pz_lt, c_216], rfl⟩ dX3_isPossible_224
    · -- 5
      refine pr_tableIn (pc := 9) C 190 dX3_isPossible_9 (by decide) (by decide) (off := 181) (by decide) (by decide) ?_
      obtain ⟨u, hu, hab⟩ := hrep (by omega)
      obtain ⟨wu, au, hcu⟩ := sc_tw hM hJ.1 hu
      have hwu := hcu.1
      have hwu4 := hcu.2.1
      have hrp := sc_rep_poss (how := S 221 t) (set := S 222 t) (a := 5) (by omega) (by omega) hwu hwu4 hw4 hJ.2.2.1
      refine pr_aload_n (pc := 190) C dX3_isPossible_190 rfl ?_
      refine pr_aload_n (pc := 191) C dX3_isPossible_191 rfl ?_
      refine pr_geti (pc := 192) C 126 wf_X3_164 rfl (by decide) (pl_3 (sj_n0 hs (by first | assumption | omega))) dX3_isPossible_192 ?_
      refine pr_eqi (v := S 220 t) (sj_r126 hs (by first | assumption | omega)) ?_
      refine pr_eqi hab ?_
      refine pr_vP (pc := 195) C (c_X3_turnAtY G _ K Sm S N O T D e z hs u (by first | assumption | omega) hT) wv_X3_151 rfl rfl (by decide) (by decide) (pl_4 _) (Nat.le_of_ble_eq_true rfl) (by omega) (by omega) dX3_isPossible_195 ?_
      refine pr_astore_n (pc := 198) C dX3_isPossible_198 (by decide) ?_
      refine pr_aload_n (pc := 199) C dX3_isPossible_199 rfl ?_
      refine pr_ifnull1 (pc := 200) C dX3_isPossible_200 ?_
      refine pr_aload_n (pc := 203) C dX3_isPossible_203 rfl ?_
      refine pr_geti (pc := 204) C 128 wf_X3_176 rfl (by decide) (pl_3 (sj_n0 hs (by first | assumption | omega))) dX3_isPossible_204 ?_
      refine pr_iconst (pc := 207) (v := 1) C dX3_isPossible_207 (by decide) ?_
      refine pr_icmp_ne (pc := 208) C 223 dX3_isPossible_208 (by decide) (fun c_208 => ?_) (fun c_208 => ?_)
      · refine pr_iconst (pc := 223) (v := 0) C dX3_isPossible_223 (by decide) ?_
        exact pr_iret (pc := 224) C E (Or.inr ⟨rfl, (by decide)⟩) (by omega) (by omega) ⟨by rw [hab, hrp, decide_eq_false (fun z => absurd ((sj_st1 hs (by omega)).mpr z) (by assumption))]; rfl, rfl⟩ dX3_isPossible_224
      · refine pr_aload_n (pc := 211) C dX3_isPossible_211 rfl ?_
        refine pr_aload_n (pc := 212) C dX3_isPossible_212 rfl ?_
        refine pr_sP (pc := 213) C (c_X3_isPossibleReply G _ K Sm S N O T D e z hs t u w a wu (by omega) (by omega) hw1 hw4 ha (by omega) hwu hwu4 (hJ.1.1 u (by omega)).2.1 hJ.2.2.2.2.2) ws_X3_293 rfl rfl (by decide) (Nat.le_of_ble_eq_true rfl) (by omega) (by omega) dX3_isPossible_213 ?_
        refine pr_ifb_eq (pc := 216) C 223 dX3_isPossible_216 (by decide) (fun c_216 => ?_) (fun c_216 => ?_)
        · refine pr_iconst (pc := 223) (v := 0) C dX3_isPossible_223 (by decide) ?_
          exact pr_iret (pc := 224) C E (Or.inr ⟨rfl, (by decide)⟩) (by omega) (by omega) ⟨by rw [hab, hrp, decide_eq_true ((sj_st1 hs (by omega)).mp (by assumption)), Bool.true_and]; simp [-Int32.not_le, -Int32.not_lt, pz_b, pz_lt, c_216], rfl⟩ dX3_isPossible_224
        · refine pr_iconst (pc := 219) (v := 1) C dX3_isPossible_219 (by decide) ?_
          refine pr_goto (pc := 220) C 224 dX3_isPossible_220 (by decide) ?_
          exact pr_iret (pc := 224) C E (Or.inr ⟨rfl, (by decide)⟩) (by omega) (by omega) ⟨by rw [hab, hrp, decide_eq_true ((sj_st1 hs (by omega)).mp (by assumption)), Bool.true_and]; simp [-Int32.not_le, -Int32.not_lt, pz_b, pz_lt, c_216], rfl⟩ dX3_isPossible_224
    · -- 6
      refine pr_tableIn (pc := 9) C 190 dX3_isPossible_9 (by decide) (by decide) (off := 181) (by decide) (by decide) ?_
      obtain ⟨u, hu, hab⟩ := hrep (by omega)
      obtain ⟨wu, au, hcu⟩ := sc_tw hM hJ.1 hu
      have hwu := hcu.1
      have hwu4 := hcu.2.1
      have hrp := sc_rep_poss (how := S 221 t) (set := S 222 t) (a := 6) (by omega) (by omega) hwu hwu4 hw4 hJ.2.2.1
      refine pr_aload_n (pc := 190) C dX3_isPossible_190 rfl ?_
      refine pr_aload_n (pc := 191) C dX3_isPossible_191 rfl ?_
      refine pr_geti (pc := 192) C 126 wf_X3_164 rfl (by decide) (pl_3 (sj_n0 hs (by first | assumption | omega))) dX3_isPossible_192 ?_
      refine pr_eqi (v := S 220 t) (sj_r126 hs (by first | assumption | omega)) ?_
      refine pr_eqi hab ?_
      refine pr_vP (pc := 195) C (c_X3_turnAtY G _ K Sm S N O T D e z hs u (by first | assumption | omega) hT) wv_X3_151 rfl rfl (by decide) (by decide) (pl_4 _) (Nat.le_of_ble_eq_true rfl) (by omega) (by omega) dX3_isPossible_195 ?_
      refine pr_astore_n (pc := 198) C dX3_isPossible_198 (by decide) ?_
      refine pr_aload_n (pc := 199) C dX3_isPossible_199 rfl ?_
      refine pr_ifnull1 (pc := 200) C dX3_isPossible_200 ?_
      refine pr_aload_n (pc := 203) C dX3_isPossible_203 rfl ?_
      refine pr_geti (pc := 204) C 128 wf_X3_176 rfl (by decide) (pl_3 (sj_n0 hs (by first | assumption | omega))) dX3_isPossible_204 ?_
      refine pr_iconst (pc := 207) (v := 1) C dX3_isPossible_207 (by decide) ?_
      refine pr_icmp_ne (pc := 208) C 223 dX3_isPossible_208 (by decide) (fun c_208 => ?_) (fun c_208 => ?_)
      · refine pr_iconst (pc := 223) (v := 0) C dX3_isPossible_223 (by decide) ?_
        exact pr_iret (pc := 224) C E (Or.inr ⟨rfl, (by decide)⟩) (by omega) (by omega) ⟨by rw [hab, hrp, decide_eq_false (fun z => absurd ((sj_st1 hs (by omega)).mpr z) (by assumption))]; rfl, rfl⟩ dX3_isPossible_224
      · refine pr_aload_n (pc := 211) C dX3_isPossible_211 rfl ?_
        refine pr_aload_n (pc := 212) C dX3_isPossible_212 rfl ?_
        refine pr_sP (pc := 213) C (c_X3_isPossibleReply G _ K Sm S N O T D e z hs t u w a wu (by omega) (by omega) hw1 hw4 ha (by omega) hwu hwu4 (hJ.1.1 u (by omega)).2.1 hJ.2.2.2.2.2) ws_X3_293 rfl rfl (by decide) (Nat.le_of_ble_eq_true rfl) (by omega) (by omega) dX3_isPossible_213 ?_
        refine pr_ifb_eq (pc := 216) C 223 dX3_isPossible_216 (by decide) (fun c_216 => ?_) (fun c_216 => ?_)
        · refine pr_iconst (pc := 223) (v := 0) C dX3_isPossible_223 (by decide) ?_
          exact pr_iret (pc := 224) C E (Or.inr ⟨rfl, (by decide)⟩) (by omega) (by omega) ⟨by rw [hab, hrp, decide_eq_true ((sj_st1 hs (by omega)).mp (by assumption)), Bool.true_and]; simp [-Int32.not_le, -Int32.not_lt, pz_b, pz_lt, c_216], rfl⟩ dX3_isPossible_224
        · refine pr_iconst (pc := 219) (v := 1) C dX3_isPossible_219 (by decide) ?_
          refine pr_goto (pc := 220) C 224 dX3_isPossible_220 (by decide) ?_
          exact pr_iret (pc := 224) C E (Or.inr ⟨rfl, (by decide)⟩) (by omega) (by omega) ⟨by rw [hab, hrp, decide_eq_true ((sj_st1 hs (by omega)).mp (by assumption)), Bool.true_and]; simp [-Int32.not_le, -Int32.not_lt, pz_b, pz_lt, c_216], rfl⟩ dX3_isPossible_224
    · -- 7
      refine pr_tableIn (pc := 9) C 190 dX3_isPossible_9 (by decide) (by decide) (off := 181) (by decide) (by decide) ?_
      obtain ⟨u, hu, hab⟩ := hrep (by omega)
      obtain ⟨wu, au, hcu⟩ := sc_tw hM hJ.1 hu
      have hwu := hcu.1
      have hwu4 := hcu.2.1
      have hrp := sc_rep_poss (how := S 221 t) (set := S 222 t) (a := 7) (by omega) (by omega) hwu hwu4 hw4 hJ.2.2.1
      refine pr_aload_n (pc := 190) C dX3_isPossible_190 rfl ?_
      refine pr_aload_n (pc := 191) C dX3_isPossible_191 rfl ?_
      refine pr_geti (pc := 192) C 126 wf_X3_164 rfl (by decide) (pl_3 (sj_n0 hs (by first | assumption | omega))) dX3_isPossible_192 ?_
      refine pr_eqi (v := S 220 t) (sj_r126 hs (by first | assumption | omega)) ?_
      refine pr_eqi hab ?_
      refine pr_vP (pc := 195) C (c_X3_turnAtY G _ K Sm S N O T D e z hs u (by first | assumption | omega) hT) wv_X3_151 rfl rfl (by decide) (by decide) (pl_4 _) (Nat.le_of_ble_eq_true rfl) (by omega) (by omega) dX3_isPossible_195 ?_
      refine pr_astore_n (pc := 198) C dX3_isPossible_198 (by decide) ?_
      refine pr_aload_n (pc := 199) C dX3_isPossible_199 rfl ?_
      refine pr_ifnull1 (pc := 200) C dX3_isPossible_200 ?_
      refine pr_aload_n (pc := 203) C dX3_isPossible_203 rfl ?_
      refine pr_geti (pc := 204) C 128 wf_X3_176 rfl (by decide) (pl_3 (sj_n0 hs (by first | assumption | omega))) dX3_isPossible_204 ?_
      refine pr_iconst (pc := 207) (v := 1) C dX3_isPossible_207 (by decide) ?_
      refine pr_icmp_ne (pc := 208) C 223 dX3_isPossible_208 (by decide) (fun c_208 => ?_) (fun c_208 => ?_)
      · refine pr_iconst (pc := 223) (v := 0) C dX3_isPossible_223 (by decide) ?_
        exact pr_iret (pc := 224) C E (Or.inr ⟨rfl, (by decide)⟩) (by omega) (by omega) ⟨by rw [hab, hrp, decide_eq_false (fun z => absurd ((sj_st1 hs (by omega)).mpr z) (by assumption))]; rfl, rfl⟩ dX3_isPossible_224
      · refine pr_aload_n (pc := 211) C dX3_isPossible_211 rfl ?_
        refine pr_aload_n (pc := 212) C dX3_isPossible_212 rfl ?_
        refine pr_sP (pc := 213) C (c_X3_isPossibleReply G _ K Sm S N O T D e z hs t u w a wu (by omega) (by omega) hw1 hw4 ha (by omega) hwu hwu4 (hJ.1.1 u (by omega)).2.1 hJ.2.2.2.2.2) ws_X3_293 rfl rfl (by decide) (Nat.le_of_ble_eq_true rfl) (by omega) (by omega) dX3_isPossible_213 ?_
        refine pr_ifb_eq (pc := 216) C 223 dX3_isPossible_216 (by decide) (fun c_216 => ?_) (fun c_216 => ?_)
        · refine pr_iconst (pc := 223) (v := 0) C dX3_isPossible_223 (by decide) ?_
          exact pr_iret (pc := 224) C E (Or.inr ⟨rfl, (by decide)⟩) (by omega) (by omega) ⟨by rw [hab, hrp, decide_eq_true ((sj_st1 hs (by omega)).mp (by assumption)), Bool.true_and]; simp [-Int32.not_le, -Int32.not_lt, pz_b, pz_lt, c_216], rfl⟩ dX3_isPossible_224
        · refine pr_iconst (pc := 219) (v := 1) C dX3_isPossible_219 (by decide) ?_
          refine pr_goto (pc := 220) C 224 dX3_isPossible_220 (by decide) ?_
          exact pr_iret (pc := 224) C E (Or.inr ⟨rfl, (by decide)⟩) (by omega) (by omega) ⟨by rw [hab, hrp, decide_eq_true ((sj_st1 hs (by omega)).mp (by assumption)), Bool.true_and]; simp [-Int32.not_le, -Int32.not_lt, pz_b, pz_lt, c_216], rfl⟩ dX3_isPossible_224
    · -- 8
      refine pr_tableIn (pc := 9) C 190 dX3_isPossible_9 (by decide) (by decide) (off := 181) (by decide) (by decide) ?_
      obtain ⟨u, hu, hab⟩ := hrep (by omega)
      obtain ⟨wu, au, hcu⟩ := sc_tw hM hJ.1 hu
      have hwu := hcu.1
      have hwu4 := hcu.2.1
      have hrp := sc_rep_poss (how := S 221 t) (set := S 222 t) (a := 8) (by omega) (by omega) hwu hwu4 hw4 hJ.2.2.1
      refine pr_aload_n (pc := 190) C dX3_isPossible_190 rfl ?_
      refine pr_aload_n (pc := 191) C dX3_isPossible_191 rfl ?_
      refine pr_geti (pc := 192) C 126 wf_X3_164 rfl (by decide) (pl_3 (sj_n0 hs (by first | assumption | omega))) dX3_isPossible_192 ?_
      refine pr_eqi (v := S 220 t) (sj_r126 hs (by first | assumption | omega)) ?_
      refine pr_eqi hab ?_
      refine pr_vP (pc := 195) C (c_X3_turnAtY G _ K Sm S N O T D e z hs u (by first | assumption | omega) hT) wv_X3_151 rfl rfl (by decide) (by decide) (pl_4 _) (Nat.le_of_ble_eq_true rfl) (by omega) (by omega) dX3_isPossible_195 ?_
      refine pr_astore_n (pc := 198) C dX3_isPossible_198 (by decide) ?_
      refine pr_aload_n (pc := 199) C dX3_isPossible_199 rfl ?_
      refine pr_ifnull1 (pc := 200) C dX3_isPossible_200 ?_
      refine pr_aload_n (pc := 203) C dX3_isPossible_203 rfl ?_
      refine pr_geti (pc := 204) C 128 wf_X3_176 rfl (by decide) (pl_3 (sj_n0 hs (by first | assumption | omega))) dX3_isPossible_204 ?_
      refine pr_iconst (pc := 207) (v := 1) C dX3_isPossible_207 (by decide) ?_
      refine pr_icmp_ne (pc := 208) C 223 dX3_isPossible_208 (by decide) (fun c_208 => ?_) (fun c_208 => ?_)
      · refine pr_iconst (pc := 223) (v := 0) C dX3_isPossible_223 (by decide) ?_
        exact pr_iret (pc := 224) C E (Or.inr ⟨rfl, (by decide)⟩) (by omega) (by omega) ⟨by rw [hab, hrp, decide_eq_false (fun z => absurd ((sj_st1 hs (by omega)).mpr z) (by assumption))]; rfl, rfl⟩ dX3_isPossible_224
      · refine pr_aload_n (pc := 211) C dX3_isPossible_211 rfl ?_
        refine pr_aload_n (pc := 212) C dX3_isPossible_212 rfl ?_
        refine pr_sP (pc := 213) C (c_X3_isPossibleReply G _ K Sm S N O T D e z hs t u w a wu (by omega) (by omega) hw1 hw4 ha (by omega) hwu hwu4 (hJ.1.1 u (by omega)).2.1 hJ.2.2.2.2.2) ws_X3_293 rfl rfl (by decide) (Nat.le_of_ble_eq_true rfl) (by omega) (by omega) dX3_isPossible_213 ?_
        refine pr_ifb_eq (pc := 216) C 223 dX3_isPossible_216 (by decide) (fun c_216 => ?_) (fun c_216 => ?_)
        · refine pr_iconst (pc := 223) (v := 0) C dX3_isPossible_223 (by decide) ?_
          exact pr_iret (pc := 224) C E (Or.inr ⟨rfl, (by decide)⟩) (by omega) (by omega) ⟨by rw [hab, hrp, decide_eq_true ((sj_st1 hs (by omega)).mp (by assumption)), Bool.true_and]; simp [-Int32.not_le, -Int32.not_lt, pz_b, pz_lt, c_216], rfl⟩ dX3_isPossible_224
        · refine pr_iconst (pc := 219) (v := 1) C dX3_isPossible_219 (by decide) ?_
          refine pr_goto (pc := 220) C 224 dX3_isPossible_220 (by decide) ?_
          exact pr_iret (pc := 224) C E (Or.inr ⟨rfl, (by decide)⟩) (by omega) (by omega) ⟨by rw [hab, hrp, decide_eq_true ((sj_st1 hs (by omega)).mp (by assumption)), Bool.true_and]; simp [-Int32.not_le, -Int32.not_lt, pz_b, pz_lt, c_216], rfl⟩ dX3_isPossible_224
    · -- 9
      refine pr_tableIn (pc := 9) C 142 dX3_isPossible_9 (by decide) (by decide) (off := 133) (by decide) (by decide) ?_
      obtain ⟨u, hu, hab⟩ := hatm (by omega)
      have ecl : (nI u).toNatClampNeg = u := nI_clamp (by omega)
      refine pr_aload_n (pc := 142) C dX3_isPossible_142 rfl ?_
      refine pr_gets (pc := 143) C 120 wf_X3_105 rfl rfl (pl_3 (sj_n0 hs (by first | assumption | omega))) w ((sj_r120 hs (by first | assumption | omega)).trans hw1) (by first | assumption | omega) dX3_isPossible_143 ?_
      refine pr_geta (pc := 146) C 49 149 wf_X3_190 rfl rfl (by decide) (pl_1 (by first | assumption | omega)) dX3_isPossible_146 ?_
      refine pr_aload_n (pc := 149) C dX3_isPossible_149 rfl ?_
      refine pr_geti (pc := 150) C 126 wf_X3_164 rfl (by decide) (pl_3 (sj_n0 hs (by first | assumption | omega))) dX3_isPossible_150 ?_
      refine pr_eqi (v := S 220 t) (sj_r126 hs (by first | assumption | omega)) ?_
      refine pr_eqi hab ?_
      refine pr_aldi (pc := 153) (n := 10) C 49 u rfl rfl rfl (pl_r1 (by decide) (by first | assumption | omega)) rfl (by omega) (by decide) dX3_isPossible_153 ?_
      refine pr_eqi (v := S 208 (10 * w + u)) (sj_r49 hs (by first | assumption | omega) (by omega)) ?_
      refine pr_if_eq (pc := 154) C 161 dX3_isPossible_154 (by decide) (fun c_154 => ?_) (fun c_154 => ?_)
      · refine pr_iconst (pc := 161) (v := 0) C dX3_isPossible_161 (by decide) ?_
        exact pr_iret (pc := 162) C E (Or.inr ⟨rfl, (by decide)⟩) (by omega) (by omega) ⟨(by simp [-Int32.not_le, -Int32.not_lt, pz_b, pz_lt, ms_poss, hab, ecl, hQ0, eq_true c_154]), rfl⟩ dX3_isPossible_162
      · refine pr_iconst (pc := 157) (v := 1) C dX3_isPossible_157 (by decide) ?_
        refine pr_goto (pc := 158) C 162 dX3_isPossible_158 (by decide) ?_
        exact pr_iret (pc := 162) C E (Or.inr ⟨rfl, (by decide)⟩) (by omega) (by omega) ⟨(by simp [-Int32.not_le, -Int32.not_lt, pz_b, pz_lt, ms_poss, hab, ecl, hQ0, eq_false c_154]), rfl⟩ dX3_isPossible_162
    · -- 10
      refine pr_tableIn (pc := 9) C 142 dX3_isPossible_9 (by decide) (by decide) (off := 133) (by decide) (by decide) ?_
      obtain ⟨u, hu, hab⟩ := hatm (by omega)
      have ecl : (nI u).toNatClampNeg = u := nI_clamp (by omega)
      refine pr_aload_n (pc := 142) C dX3_isPossible_142 rfl ?_
      refine pr_gets (pc := 143) C 120 wf_X3_105 rfl rfl (pl_3 (sj_n0 hs (by first | assumption | omega))) w ((sj_r120 hs (by first | assumption | omega)).trans hw1) (by first | assumption | omega) dX3_isPossible_143 ?_
      refine pr_geta (pc := 146) C 49 149 wf_X3_190 rfl rfl (by decide) (pl_1 (by first | assumption | omega)) dX3_isPossible_146 ?_
      refine pr_aload_n (pc := 149) C dX3_isPossible_149 rfl ?_
      refine pr_geti (pc := 150) C 126 wf_X3_164 rfl (by decide) (pl_3 (sj_n0 hs (by first | assumption | omega))) dX3_isPossible_150 ?_
      refine pr_eqi (v := S 220 t) (sj_r126 hs (by first | assumption | omega)) ?_
      refine pr_eqi hab ?_
      refine pr_aldi (pc := 153) (n := 10) C 49 u rfl rfl rfl (pl_r1 (by decide) (by first | assumption | omega)) rfl (by omega) (by decide) dX3_isPossible_153 ?_
      refine pr_eqi (v := S 208 (10 * w + u)) (sj_r49 hs (by first | assumption | omega) (by omega)) ?_
      refine pr_if_eq (pc := 154) C 161 dX3_isPossible_154 (by decide) (fun c_154 => ?_) (fun c_154 => ?_)
      · refine pr_iconst (pc := 161) (v := 0) C dX3_isPossible_161 (by decide) ?_
        exact pr_iret (pc := 162) C E (Or.inr ⟨rfl, (by decide)⟩) (by omega) (by omega) ⟨(by simp [-Int32.not_le, -Int32.not_lt, pz_b, pz_lt, ms_poss, hab, ecl, hQ0, eq_true c_154]), rfl⟩ dX3_isPossible_162
      · refine pr_iconst (pc := 157) (v := 1) C dX3_isPossible_157 (by decide) ?_
        refine pr_goto (pc := 158) C 162 dX3_isPossible_158 (by decide) ?_
        exact pr_iret (pc := 162) C E (Or.inr ⟨rfl, (by decide)⟩) (by omega) (by omega) ⟨(by simp [-Int32.not_le, -Int32.not_lt, pz_b, pz_lt, ms_poss, hab, ecl, hQ0, eq_false c_154]), rfl⟩ dX3_isPossible_162
    · -- 11
      refine pr_tableIn (pc := 9) C 80 dX3_isPossible_9 (by decide) (by decide) (off := 71) (by decide) (by decide) ?_
      refine pr_iconst (pc := 80) (v := 1) C dX3_isPossible_80 (by decide) ?_
      exact pr_iret (pc := 81) C E (Or.inr ⟨rfl, (by decide)⟩) (by omega) (by omega) ⟨(by simp [-Int32.not_le, -Int32.not_lt, pz_b, pz_lt, ms_poss, hQ0]), rfl⟩ dX3_isPossible_81
    · -- 12
      refine pr_tableIn (pc := 9) C 163 dX3_isPossible_9 (by decide) (by decide) (off := 154) (by decide) (by decide) ?_
      obtain ⟨u, hu, hab⟩ := hatm (by omega)
      have ecl : (nI u).toNatClampNeg = u := nI_clamp (by omega)
      by_cases hh : S 210 (10 * w + u) = 0
      · -- none
        refine pr_aload_n (pc := 163) C dX3_isPossible_163 rfl ?_
        refine pr_gets (pc := 164) C 120 wf_X3_105 rfl rfl (pl_3 (sj_n0 hs (by first | assumption | omega))) w ((sj_r120 hs (by first | assumption | omega)).trans hw1) (by first | assumption | omega) dX3_isPossible_164 ?_
        refine pr_geta (pc := 167) C 51 151 wf_X3_209 rfl rfl (by decide) (pl_1 (by first | assumption | omega)) dX3_isPossible_167 ?_
        refine pr_aload_n (pc := 170) C dX3_isPossible_170 rfl ?_
        refine pr_geti (pc := 171) C 126 wf_X3_164 rfl (by decide) (pl_3 (sj_n0 hs (by first | assumption | omega))) dX3_isPossible_171 ?_
        refine pr_eqi (v := S 220 t) (sj_r126 hs (by first | assumption | omega)) ?_
        refine pr_eqi hab ?_
        refine pr_aldt (pc := 174) (n := 10) C 51 u rfl rfl rfl (pl_r1 (by decide) (by first | assumption | omega)) rfl (by omega) (by decide) dX3_isPossible_174 ?_
        refine pr_eqr (v := none) (by rw [sj_r51 hs hw4 hu, if_pos hh]; rfl) ?_
        refine pr_ifnull0 (pc := 175) C 182 dX3_isPossible_175 (by decide) ?_
        refine pr_iconst (pc := 182) (v := 0) C dX3_isPossible_182 (by decide) ?_
        exact pr_iret (pc := 183) C E (Or.inr ⟨rfl, (by decide)⟩) (by omega) (by omega) ⟨(by simp [-Int32.not_le, -Int32.not_lt, pz_b, pz_lt, ms_poss, hab, ecl, hQ0, hh]), rfl⟩ dX3_isPossible_183
      · -- one
        obtain ⟨eH, ltH, -⟩ := mw_S_H hM hh
        generalize mn (S 211 (10 * w + u)) = tv at eH ltH
        refine pr_aload_n (pc := 163) C dX3_isPossible_163 rfl ?_
        refine pr_gets (pc := 164) C 120 wf_X3_105 rfl rfl (pl_3 (sj_n0 hs (by first | assumption | omega))) w ((sj_r120 hs (by first | assumption | omega)).trans hw1) (by first | assumption | omega) dX3_isPossible_164 ?_
        refine pr_geta (pc := 167) C 51 151 wf_X3_209 rfl rfl (by decide) (pl_1 (by first | assumption | omega)) dX3_isPossible_167 ?_
        refine pr_aload_n (pc := 170) C dX3_isPossible_170 rfl ?_
        refine pr_geti (pc := 171) C 126 wf_X3_164 rfl (by decide) (pl_3 (sj_n0 hs (by first | assumption | omega))) dX3_isPossible_171 ?_
        refine pr_eqi (v := S 220 t) (sj_r126 hs (by first | assumption | omega)) ?_
        refine pr_eqi hab ?_
        refine pr_aldt (pc := 174) (n := 10) C 51 u rfl rfl rfl (pl_r1 (by decide) (by first | assumption | omega)) rfl (by omega) (by decide) dX3_isPossible_174 ?_
        refine pr_eqr (v := some (3, tv)) (by rw [sj_r51 hs hw4 hu, if_neg hh, eH]; exact pa_rc_nI (by omega)) ?_
        refine pr_ifnull1 (pc := 175) C dX3_isPossible_175 ?_
        refine pr_iconst (pc := 178) (v := 1) C dX3_isPossible_178 (by decide) ?_
        refine pr_goto (pc := 179) C 183 dX3_isPossible_179 (by decide) ?_
        exact pr_iret (pc := 183) C E (Or.inr ⟨rfl, (by decide)⟩) (by omega) (by omega) ⟨(by simp [-Int32.not_le, -Int32.not_lt, pz_b, pz_lt, ms_poss, hab, ecl, hQ0, hh]), rfl⟩ dX3_isPossible_183
    · -- 13
      refine pr_tableIn (pc := 9) C 184 dX3_isPossible_9 (by decide) (by decide) (off := 175) (by decide) (by decide) ?_
      have e13 : ms_lis (S 222 t) = ms_one (S 222 t) := by rw [hto]; exact ms_lis_one (hone (by omega))
      refine pr_aload_n (pc := 184) C dX3_isPossible_184 rfl ?_
      refine pr_aload_n (pc := 185) C dX3_isPossible_185 rfl ?_
      refine pr_vP (pc := 186) C (c_X3_bothOwn G _ K Sm S N O T D e z hs t w (by first | assumption | omega) hw1 (by first | assumption | omega)) wv_X3_290 rfl rfl (by decide) (by decide) (pl_4 _) (Nat.le_of_ble_eq_true rfl) (by omega) (by omega) dX3_isPossible_186 ?_
      exact pr_iret (pc := 189) C E (Or.inr ⟨rfl, (pz_b01 _)⟩) (by omega) (by omega) ⟨(by simp [-Int32.not_le, -Int32.not_lt, pz_b, pz_lt, ms_poss, e13, hQ0]), rfl⟩ dX3_isPossible_189
    · -- 14
      refine pr_tableOut (pc := 9) C 190 dX3_isPossible_9 (by decide) (by decide) ?_
      obtain ⟨u, hu, hab⟩ := hrep (by omega)
      obtain ⟨wu, au, hcu⟩ := sc_tw hM hJ.1 hu
      have hwu := hcu.1
      have hwu4 := hcu.2.1
      have hrp := sc_rep_poss (how := S 221 t) (set := S 222 t) (a := 14) (by omega) (by omega) hwu hwu4 hw4 hJ.2.2.1
      refine pr_aload_n (pc := 190) C dX3_isPossible_190 rfl ?_
      refine pr_aload_n (pc := 191) C dX3_isPossible_191 rfl ?_
      refine pr_geti (pc := 192) C 126 wf_X3_164 rfl (by decide) (pl_3 (sj_n0 hs (by first | assumption | omega))) dX3_isPossible_192 ?_
      refine pr_eqi (v := S 220 t) (sj_r126 hs (by first | assumption | omega)) ?_
      refine pr_eqi hab ?_
      refine pr_vP (pc := 195) C (c_X3_turnAtY G _ K Sm S N O T D e z hs u (by first | assumption | omega) hT) wv_X3_151 rfl rfl (by decide) (by decide) (pl_4 _) (Nat.le_of_ble_eq_true rfl) (by omega) (by omega) dX3_isPossible_195 ?_
      refine pr_astore_n (pc := 198) C dX3_isPossible_198 (by decide) ?_
      refine pr_aload_n (pc := 199) C dX3_isPossible_199 rfl ?_
      refine pr_ifnull1 (pc := 200) C dX3_isPossible_200 ?_
      refine pr_aload_n (pc := 203) C dX3_isPossible_203 rfl ?_
      refine pr_geti (pc := 204) C 128 wf_X3_176 rfl (by decide) (pl_3 (sj_n0 hs (by first | assumption | omega))) dX3_isPossible_204 ?_
      refine pr_iconst (pc := 207) (v := 1) C dX3_isPossible_207 (by decide) ?_
      refine pr_icmp_ne (pc := 208) C 223 dX3_isPossible_208 (by decide) (fun c_208 => ?_) (fun c_208 => ?_)
      · refine pr_iconst (pc := 223) (v := 0) C dX3_isPossible_223 (by decide) ?_
        exact pr_iret (pc := 224) C E (Or.inr ⟨rfl, (by decide)⟩) (by omega) (by omega) ⟨by rw [hab, hrp, decide_eq_false (fun z => absurd ((sj_st1 hs (by omega)).mpr z) (by assumption))]; rfl, rfl⟩ dX3_isPossible_224
      · refine pr_aload_n (pc := 211) C dX3_isPossible_211 rfl ?_
        refine pr_aload_n (pc := 212) C dX3_isPossible_212 rfl ?_
        refine pr_sP (pc := 213) C (c_X3_isPossibleReply G _ K Sm S N O T D e z hs t u w a wu (by omega) (by omega) hw1 hw4 ha (by omega) hwu hwu4 (hJ.1.1 u (by omega)).2.1 hJ.2.2.2.2.2) ws_X3_293 rfl rfl (by decide) (Nat.le_of_ble_eq_true rfl) (by omega) (by omega) dX3_isPossible_213 ?_
        refine pr_ifb_eq (pc := 216) C 223 dX3_isPossible_216 (by decide) (fun c_216 => ?_) (fun c_216 => ?_)
        · refine pr_iconst (pc := 223) (v := 0) C dX3_isPossible_223 (by decide) ?_
          exact pr_iret (pc := 224) C E (Or.inr ⟨rfl, (by decide)⟩) (by omega) (by omega) ⟨by rw [hab, hrp, decide_eq_true ((sj_st1 hs (by omega)).mp (by assumption)), Bool.true_and]; simp [-Int32.not_le, -Int32.not_lt, pz_b, pz_lt, c_216], rfl⟩ dX3_isPossible_224
        · refine pr_iconst (pc := 219) (v := 1) C dX3_isPossible_219 (by decide) ?_
          refine pr_goto (pc := 220) C 224 dX3_isPossible_220 (by decide) ?_
          exact pr_iret (pc := 224) C E (Or.inr ⟨rfl, (by decide)⟩) (by omega) (by omega) ⟨by rw [hab, hrp, decide_eq_true ((sj_st1 hs (by omega)).mp (by assumption)), Bool.true_and]; simp [-Int32.not_le, -Int32.not_lt, pz_b, pz_lt, c_216], rfl⟩ dX3_isPossible_224
    · -- 15
      refine pr_tableOut (pc := 9) C 190 dX3_isPossible_9 (by decide) (by decide) ?_
      obtain ⟨u, hu, hab⟩ := hrep (by omega)
      obtain ⟨wu, au, hcu⟩ := sc_tw hM hJ.1 hu
      have hwu := hcu.1
      have hwu4 := hcu.2.1
      have hrp := sc_rep_poss (how := S 221 t) (set := S 222 t) (a := 15) (by omega) (by omega) hwu hwu4 hw4 hJ.2.2.1
      refine pr_aload_n (pc := 190) C dX3_isPossible_190 rfl ?_
      refine pr_aload_n (pc := 191) C dX3_isPossible_191 rfl ?_
      refine pr_geti (pc := 192) C 126 wf_X3_164 rfl (by decide) (pl_3 (sj_n0 hs (by first | assumption | omega))) dX3_isPossible_192 ?_
      refine pr_eqi (v := S 220 t) (sj_r126 hs (by first | assumption | omega)) ?_
      refine pr_eqi hab ?_
      refine pr_vP (pc := 195) C (c_X3_turnAtY G _ K Sm S N O T D e z hs u (by first | assumption | omega) hT) wv_X3_151 rfl rfl (by decide) (by decide) (pl_4 _) (Nat.le_of_ble_eq_true rfl) (by omega) (by omega) dX3_isPossible_195 ?_
      refine pr_astore_n (pc := 198) C dX3_isPossible_198 (by decide) ?_
      refine pr_aload_n (pc := 199) C dX3_isPossible_199 rfl ?_
      refine pr_ifnull1 (pc := 200) C dX3_isPossible_200 ?_
      refine pr_aload_n (pc := 203) C dX3_isPossible_203 rfl ?_
      refine pr_geti (pc := 204) C 128 wf_X3_176 rfl (by decide) (pl_3 (sj_n0 hs (by first | assumption | omega))) dX3_isPossible_204 ?_
      refine pr_iconst (pc := 207) (v := 1) C dX3_isPossible_207 (by decide) ?_
      refine pr_icmp_ne (pc := 208) C 223 dX3_isPossible_208 (by decide) (fun c_208 => ?_) (fun c_208 => ?_)
      · refine pr_iconst (pc := 223) (v := 0) C dX3_isPossible_223 (by decide) ?_
        exact pr_iret (pc := 224) C E (Or.inr ⟨rfl, (by decide)⟩) (by omega) (by omega) ⟨by rw [hab, hrp, decide_eq_false (fun z => absurd ((sj_st1 hs (by omega)).mpr z) (by assumption))]; rfl, rfl⟩ dX3_isPossible_224
      · refine pr_aload_n (pc := 211) C dX3_isPossible_211 rfl ?_
        refine pr_aload_n (pc := 212) C dX3_isPossible_212 rfl ?_
        refine pr_sP (pc := 213) C (c_X3_isPossibleReply G _ K Sm S N O T D e z hs t u w a wu (by omega) (by omega) hw1 hw4 ha (by omega) hwu hwu4 (hJ.1.1 u (by omega)).2.1 hJ.2.2.2.2.2) ws_X3_293 rfl rfl (by decide) (Nat.le_of_ble_eq_true rfl) (by omega) (by omega) dX3_isPossible_213 ?_
        refine pr_ifb_eq (pc := 216) C 223 dX3_isPossible_216 (by decide) (fun c_216 => ?_) (fun c_216 => ?_)
        · refine pr_iconst (pc := 223) (v := 0) C dX3_isPossible_223 (by decide) ?_
          exact pr_iret (pc := 224) C E (Or.inr ⟨rfl, (by decide)⟩) (by omega) (by omega) ⟨by rw [hab, hrp, decide_eq_true ((sj_st1 hs (by omega)).mp (by assumption)), Bool.true_and]; simp [-Int32.not_le, -Int32.not_lt, pz_b, pz_lt, c_216], rfl⟩ dX3_isPossible_224
        · refine pr_iconst (pc := 219) (v := 1) C dX3_isPossible_219 (by decide) ?_
          refine pr_goto (pc := 220) C 224 dX3_isPossible_220 (by decide) ?_
          exact pr_iret (pc := 224) C E (Or.inr ⟨rfl, (by decide)⟩) (by omega) (by omega) ⟨by rw [hab, hrp, decide_eq_true ((sj_st1 hs (by omega)).mp (by assumption)), Bool.true_and]; simp [-Int32.not_le, -Int32.not_lt, pz_b, pz_lt, c_216], rfl⟩ dX3_isPossible_224
  · -- the question q0
    obtain ⟨hq0T, ⟨mq, hmq, hqto⟩, ⟨wq, hwq4, hwq⟩, yq, hyq10, hyq⟩ := hqq.2 hQ0
    have hq0 : q0 < D := by omega
    refine pr_vP (pc := 1) C (c_X3_topQuestion1 G _ K Sm S N O T D e z hs Q q0 hw hQ0 hq0) wv_X3_283 rfl rfl (by decide) (by decide) (pl_4 _) (Nat.le_of_ble_eq_true rfl) (by omega) (by omega) dX3_isPossible_1 ?_
    refine pr_astore_n (pc := 4) C dX3_isPossible_4 (by decide) ?_
    refine pr_aload_n (pc := 5) C dX3_isPossible_5 rfl ?_
    refine pr_geti (pc := 6) C 121 wf_X3_161 rfl (by decide) (pl_3 (sj_n0 hs (by first | assumption | omega))) dX3_isPossible_6 ?_
    refine pr_eqi (v := S 219 t) (sj_r121 hs (by first | assumption | omega)) ?_
    refine pr_eqi ha ?_
    obtain rfl | rfl | rfl | rfl | rfl | rfl | rfl | rfl | rfl | rfl | rfl | rfl | rfl | rfl | rfl | rfl : a = 0 ∨ a = 1 ∨ a = 2 ∨ a = 3 ∨ a = 4 ∨ a = 5 ∨ a = 6 ∨ a = 7 ∨ a = 8 ∨ a = 9 ∨ a = 10 ∨ a = 11 ∨ a = 12 ∨ a = 13 ∨ a = 14 ∨ a = 15 := by omega
    · -- 0
      refine pr_tableIn (pc := 9) C 80 dX3_isPossible_9 (by decide) (by decide) (off := 71) (by decide) (by decide) ?_
      refine pr_iconst (pc := 80) (v := 1) C dX3_isPossible_80 (by decide) ?_
      exact pr_iret (pc := 81) C E (Or.inr ⟨rfl, (by decide)⟩) (by omega) (by omega) ⟨(by simp [-Int32.not_le, -Int32.not_lt, pz_b, pz_lt, ms_poss]), rfl⟩ dX3_isPossible_81
    · -- 1
      refine pr_tableIn (pc := 9) C 82 dX3_isPossible_9 (by decide) (by decide) (off := 73) (by decide) (by decide) ?_
      refine pr_aload_n (pc := 82) C dX3_isPossible_82 rfl ?_
      refine pr_getl (pc := 83) C 163 1 wf_X3_26 rfl rfl rfl (pl_4 _) dX3_isPossible_83 ?_
      refine pr_vP (pc := 86) C (c_szQ G _ K Sm S N O T D e z hs) wv_X3_147 rfl rfl (by decide) (by decide) (pl_0 (by decide)) (Nat.le_of_ble_eq_true rfl) (by omega) (by omega) dX3_isPossible_86 ?_
      refine pr_eqi hw.1 ?_
      refine pr_bipush (pc := 89) (v := 6) C dX3_isPossible_89 (by decide) ?_
      refine pr_icmp_geN (pc := 91) C 98 Q 6 dX3_isPossible_91 (by decide) rfl rfl (by omega) (by omega) (fun c_91 => ?_) (fun c_91 => ?_)
      · refine pr_iconst (pc := 98) (v := 0) C dX3_isPossible_98 (by decide) ?_
        exact pr_iret (pc := 99) C E (Or.inr ⟨rfl, (by decide)⟩) (by omega) (by omega) ⟨(by simp [-Int32.not_le, -Int32.not_lt, pz_b, pz_lt, ms_poss, hw.1, pq_lt6 hQ6, c_91]), rfl⟩ dX3_isPossible_99
      · refine pr_iconst (pc := 94) (v := 1) C dX3_isPossible_94 (by decide) ?_
        refine pr_goto (pc := 95) C 99 dX3_isPossible_95 (by decide) ?_
        exact pr_iret (pc := 99) C E (Or.inr ⟨rfl, (by decide)⟩) (by omega) (by omega) ⟨(by simp [-Int32.not_le, -Int32.not_lt, pz_b, pz_lt, ms_poss, hw.1, pq_lt6 hQ6, c_91]), rfl⟩ dX3_isPossible_99
    · -- 2
      refine pr_tableIn (pc := 9) C 100 dX3_isPossible_9 (by decide) (by decide) (off := 91) (by decide) (by decide) ?_
      refine pr_aload_n (pc := 100) C dX3_isPossible_100 rfl ?_
      refine pr_ifnull1 (pc := 101) C dX3_isPossible_101 ?_
      refine pr_aload_n (pc := 104) C dX3_isPossible_104 rfl ?_
      refine pr_aload_n (pc := 105) C dX3_isPossible_105 rfl ?_
      refine pr_gets (pc := 106) C 120 wf_X3_105 rfl rfl (pl_3 (sj_n0 hs (by first | assumption | omega))) w ((sj_r120 hs (by first | assumption | omega)).trans hw1) (by first | assumption | omega) dX3_isPossible_106 ?_
      refine pr_vP (pc := 109) C (c_X2_isTo G _ K Sm S N O T D e z hs q0 w (by first | assumption | omega) (by first | assumption | omega)) wv_X3_286 rfl rfl (by decide) (by decide) (pl_3 (sj_n0 hs (by first | assumption | omega))) (Nat.le_of_ble_eq_true rfl) (by omega) (by omega) dX3_isPossible_109 ?_
      refine pr_ifb_eq (pc := 112) C 119 dX3_isPossible_112 (by decide) (fun c_112 => ?_) (fun c_112 => ?_)
      · refine pr_iconst (pc := 119) (v := 0) C dX3_isPossible_119 (by decide) ?_
        exact pr_iret (pc := 120) C E (Or.inr ⟨rfl, (by decide)⟩) (by omega) (by omega) ⟨by unfold ms_poss; rw [if_neg (by decide), if_pos rfl, sc_top hqq hQ0 hw4]; simp [pz_b, c_112], rfl⟩ dX3_isPossible_120
      · refine pr_iconst (pc := 115) (v := 1) C dX3_isPossible_115 (by decide) ?_
        refine pr_goto (pc := 116) C 120 dX3_isPossible_116 (by decide) ?_
        exact pr_iret (pc := 120) C E (Or.inr ⟨rfl, (by decide)⟩) (by omega) (by omega) ⟨by unfold ms_poss; rw [if_neg (by decide), if_pos rfl, sc_top hqq hQ0 hw4]; simp [pz_b, c_112], rfl⟩ dX3_isPossible_120
    · -- 3
      refine pr_tableIn (pc := 9) C 121 dX3_isPossible_9 (by decide) (by decide) (off := 112) (by decide) (by decide) ?_
      refine pr_aload_n (pc := 121) C dX3_isPossible_121 rfl ?_
      refine pr_ifnull1 (pc := 122) C dX3_isPossible_122 ?_
      refine pr_aload_n (pc := 125) C dX3_isPossible_125 rfl ?_
      refine pr_gets (pc := 126) C 120 wf_X3_105 rfl rfl (pl_3 (sj_n0 hs (by first | assumption | omega))) wq ((sj_r120 hs (by first | assumption | omega)).trans hwq) (by first | assumption | omega) dX3_isPossible_126 ?_
      refine pr_aload_n (pc := 129) C dX3_isPossible_129 rfl ?_
      refine pr_gets (pc := 130) C 120 wf_X3_105 rfl rfl (pl_3 (sj_n0 hs (by first | assumption | omega))) w ((sj_r120 hs (by first | assumption | omega)).trans hw1) (by first | assumption | omega) dX3_isPossible_130 ?_
      refine pr_acmp_ne (pc := 133) C 140 dX3_isPossible_133 (by decide) (pl_1 (by first | assumption | omega)) (pl_1 (by first | assumption | omega)) (fun c_133 => ?_) (fun c_133 => ?_)
      · simp only [Prod.mk.injEq, true_and, ne_eq] at c_133
        refine pr_iconst (pc := 140) (v := 0) C dX3_isPossible_140 (by decide) ?_
        exact pr_iret (pc := 141) C E (Or.inr ⟨rfl, (by decide)⟩) (by omega) (by omega) ⟨(by simp [-Int32.not_le, -Int32.not_lt, pz_b, pz_lt, ms_poss, hw.1, pq_lt0 hQ6, show ¬ Q = 0 by omega, mw_Q_aq hw hQ0, hwq, nI_eq (show wq < 2 ^ 31 by omega) (show w < 2 ^ 31 by omega), c_133]), rfl⟩ dX3_isPossible_141
      · simp only [Prod.mk.injEq, true_and, ne_eq] at c_133
        refine pr_iconst (pc := 136) (v := 1) C dX3_isPossible_136 (by decide) ?_
        refine pr_goto (pc := 137) C 141 dX3_isPossible_137 (by decide) ?_
        exact pr_iret (pc := 141) C E (Or.inr ⟨rfl, (by decide)⟩) (by omega) (by omega) ⟨(by simp [-Int32.not_le, -Int32.not_lt, pz_b, pz_lt, ms_poss, hw.1, pq_lt0 hQ6, show ¬ Q = 0 by omega, mw_Q_aq hw hQ0, hwq, nI_eq (show wq < 2 ^ 31 by omega) (show w < 2 ^ 31 by omega), c_133]), rfl⟩ dX3_isPossible_141
    · -- 4
      refine pr_tableIn (pc := 9) C 190 dX3_isPossible_9 (by decide) (by decide) (off := 181) (by decide) (by decide) ?_
      obtain ⟨u, hu, hab⟩ := hrep (by omega)
      obtain ⟨wu, au, hcu⟩ := sc_tw hM hJ.1 hu
      have hwu := hcu.1
      have hwu4 := hcu.2.1
      have hrp := sc_rep_poss (how := S 221 t) (set := S 222 t) (a := 4) (by omega) (by omega) hwu hwu4 hw4 hJ.2.2.1
      refine pr_aload_n (pc := 190) C dX3_isPossible_190 rfl ?_
      refine pr_aload_n (pc := 191) C dX3_isPossible_191 rfl ?_
      refine pr_geti (pc := 192) C 126 wf_X3_164 rfl (by decide) (pl_3 (sj_n0 hs (by first | assumption | omega))) dX3_isPossible_192 ?_
      refine pr_eqi (v := S 220 t) (sj_r126 hs (by first | assumption | omega)) ?_
      refine pr_eqi hab ?_
      refine pr_vP (pc := 195) C (c_X3_turnAtY G _ K Sm S N O T D e z hs u (by first | assumption | omega) hT) wv_X3_151 rfl rfl (by decide) (by decide) (pl_4 _) (Nat.le_of_ble_eq_true rfl) (by omega) (by omega) dX3_isPossible_195 ?_
      refine pr_astore_n (pc := 198) C dX3_isPossible_198 (by decide) ?_
      refine pr_aload_n (pc := 199) C dX3_isPossible_199 rfl ?_
      refine pr_ifnull1 (pc := 200) C dX3_isPossible_200 ?_
      refine pr_aload_n (pc := 203) C dX3_isPossible_203 rfl ?_
      refine pr_geti (pc := 204) C 128 wf_X3_176 rfl (by decide) (pl_3 (sj_n0 hs (by first | assumption | omega))) dX3_isPossible_204 ?_
      refine pr_iconst (pc := 207) (v := 1) C dX3_isPossible_207 (by decide) ?_
      refine pr_icmp_ne (pc := 208) C 223 dX3_isPossible_208 (by decide) (fun c_208 => ?_) (fun c_208 => ?_)
      · refine pr_iconst (pc := 223) (v := 0) C dX3_isPossible_223 (by decide) ?_
        exact pr_iret (pc := 224) C E (Or.inr ⟨rfl, (by decide)⟩) (by omega) (by omega) ⟨by rw [hab, hrp, decide_eq_false (fun z => absurd ((sj_st1 hs (by omega)).mpr z) (by assumption))]; rfl, rfl⟩ dX3_isPossible_224
      · refine pr_aload_n (pc := 211) C dX3_isPossible_211 rfl ?_
        refine pr_aload_n (pc := 212) C dX3_isPossible_212 rfl ?_
        refine pr_sP (pc := 213) C (c_X3_isPossibleReply G _ K Sm S N O T D e z hs t u w a wu (by omega) (by omega) hw1 hw4 ha (by omega) hwu hwu4 (hJ.1.1 u (by omega)).2.1 hJ.2.2.2.2.2) ws_X3_293 rfl rfl (by decide) (Nat.le_of_ble_eq_true rfl) (by omega) (by omega) dX3_isPossible_213 ?_
        refine pr_ifb_eq (pc := 216) C 223 dX3_isPossible_216 (by decide) (fun c_216 => ?_) (fun c_216 => ?_)
        · refine pr_iconst (pc := 223) (v := 0) C dX3_isPossible_223 (by decide) ?_
          exact pr_iret (pc := 224) C E (Or.inr ⟨rfl, (by decide)⟩) (by omega) (by omega) ⟨by rw [hab, hrp, decide_eq_true ((sj_st1 hs (by omega)).mp (by assumption)), Bool.true_and]; simp [-Int32.not_le, -Int32.not_lt, pz_b, pz_lt, c_216], rfl⟩ dX3_isPossible_224
        · refine pr_iconst (pc := 219) (v := 1) C dX3_isPossible_219 (by decide) ?_
          refine pr_goto (pc := 220) C 224 dX3_isPossible_220 (by decide) ?_
          exact pr_iret (pc := 224) C E (Or.inr ⟨rfl, (by decide)⟩) (by omega) (by omega) ⟨by rw [hab, hrp, decide_eq_true ((sj_st1 hs (by omega)).mp (by assumption)), Bool.true_and]; simp [-Int32.not_le, -Int32.not_lt, pz_b, pz_lt, c_216], rfl⟩ dX3_isPossible_224
    · -- 5
      refine pr_tableIn (pc := 9) C 190 dX3_isPossible_9 (by decide) (by decide) (off := 181) (by decide) (by decide) ?_
      obtain ⟨u, hu, hab⟩ := hrep (by omega)
      obtain ⟨wu, au, hcu⟩ := sc_tw hM hJ.1 hu
      have hwu := hcu.1
      have hwu4 := hcu.2.1
      have hrp := sc_rep_poss (how := S 221 t) (set := S 222 t) (a := 5) (by omega) (by omega) hwu hwu4 hw4 hJ.2.2.1
      refine pr_aload_n (pc := 190) C dX3_isPossible_190 rfl ?_
      refine pr_aload_n (pc := 191) C dX3_isPossible_191 rfl ?_
      refine pr_geti (pc := 192) C 126 wf_X3_164 rfl (by decide) (pl_3 (sj_n0 hs (by first | assumption | omega))) dX3_isPossible_192 ?_
      refine pr_eqi (v := S 220 t) (sj_r126 hs (by first | assumption | omega)) ?_
      refine pr_eqi hab ?_
      refine pr_vP (pc := 195) C (c_X3_turnAtY G _ K Sm S N O T D e z hs u (by first | assumption | omega) hT) wv_X3_151 rfl rfl (by decide) (by decide) (pl_4 _) (Nat.le_of_ble_eq_true rfl) (by omega) (by omega) dX3_isPossible_195 ?_
      refine pr_astore_n (pc := 198) C dX3_isPossible_198 (by decide) ?_
      refine pr_aload_n (pc := 199) C dX3_isPossible_199 rfl ?_
      refine pr_ifnull1 (pc := 200) C dX3_isPossible_200 ?_
      refine pr_aload_n (pc := 203) C dX3_isPossible_203 rfl ?_
      refine pr_geti (pc := 204) C 128 wf_X3_176 rfl (by decide) (pl_3 (sj_n0 hs (by first | assumption | omega))) dX3_isPossible_204 ?_
      refine pr_iconst (pc := 207) (v := 1) C dX3_isPossible_207 (by decide) ?_
      refine pr_icmp_ne (pc := 208) C 223 dX3_isPossible_208 (by decide) (fun c_208 => ?_) (fun c_208 => ?_)
      · refine pr_iconst (pc := 223) (v := 0) C dX3_isPossible_223 (by decide) ?_
        exact pr_iret (pc := 224) C E (Or.inr ⟨rfl, (by decide)⟩) (by omega) (by omega) ⟨by rw [hab, hrp, decide_eq_false (fun z => absurd ((sj_st1 hs (by omega)).mpr z) (by assumption))]; rfl, rfl⟩ dX3_isPossible_224
      · refine pr_aload_n (pc := 211) C dX3_isPossible_211 rfl ?_
        refine pr_aload_n (pc := 212) C dX3_isPossible_212 rfl ?_
        refine pr_sP (pc := 213) C (c_X3_isPossibleReply G _ K Sm S N O T D e z hs t u w a wu (by omega) (by omega) hw1 hw4 ha (by omega) hwu hwu4 (hJ.1.1 u (by omega)).2.1 hJ.2.2.2.2.2) ws_X3_293 rfl rfl (by decide) (Nat.le_of_ble_eq_true rfl) (by omega) (by omega) dX3_isPossible_213 ?_
        refine pr_ifb_eq (pc := 216) C 223 dX3_isPossible_216 (by decide) (fun c_216 => ?_) (fun c_216 => ?_)
        · refine pr_iconst (pc := 223) (v := 0) C dX3_isPossible_223 (by decide) ?_
          exact pr_iret (pc := 224) C E (Or.inr ⟨rfl, (by decide)⟩) (by omega) (by omega) ⟨by rw [hab, hrp, decide_eq_true ((sj_st1 hs (by omega)).mp (by assumption)), Bool.true_and]; simp [-Int32.not_le, -Int32.not_lt, pz_b, pz_lt, c_216], rfl⟩ dX3_isPossible_224
        · refine pr_iconst (pc := 219) (v := 1) C dX3_isPossible_219 (by decide) ?_
          refine pr_goto (pc := 220) C 224 dX3_isPossible_220 (by decide) ?_
          exact pr_iret (pc := 224) C E (Or.inr ⟨rfl, (by decide)⟩) (by omega) (by omega) ⟨by rw [hab, hrp, decide_eq_true ((sj_st1 hs (by omega)).mp (by assumption)), Bool.true_and]; simp [-Int32.not_le, -Int32.not_lt, pz_b, pz_lt, c_216], rfl⟩ dX3_isPossible_224
    · -- 6
      refine pr_tableIn (pc := 9) C 190 dX3_isPossible_9 (by decide) (by decide) (off := 181) (by decide) (by decide) ?_
      obtain ⟨u, hu, hab⟩ := hrep (by omega)
      obtain ⟨wu, au, hcu⟩ := sc_tw hM hJ.1 hu
      have hwu := hcu.1
      have hwu4 := hcu.2.1
      have hrp := sc_rep_poss (how := S 221 t) (set := S 222 t) (a := 6) (by omega) (by omega) hwu hwu4 hw4 hJ.2.2.1
      refine pr_aload_n (pc := 190) C dX3_isPossible_190 rfl ?_
      refine pr_aload_n (pc := 191) C dX3_isPossible_191 rfl ?_
      refine pr_geti (pc := 192) C 126 wf_X3_164 rfl (by decide) (pl_3 (sj_n0 hs (by first | assumption | omega))) dX3_isPossible_192 ?_
      refine pr_eqi (v := S 220 t) (sj_r126 hs (by first | assumption | omega)) ?_
      refine pr_eqi hab ?_
      refine pr_vP (pc := 195) C (c_X3_turnAtY G _ K Sm S N O T D e z hs u (by first | assumption | omega) hT) wv_X3_151 rfl rfl (by decide) (by decide) (pl_4 _) (Nat.le_of_ble_eq_true rfl) (by omega) (by omega) dX3_isPossible_195 ?_
      refine pr_astore_n (pc := 198) C dX3_isPossible_198 (by decide) ?_
      refine pr_aload_n (pc := 199) C dX3_isPossible_199 rfl ?_
      refine pr_ifnull1 (pc := 200) C dX3_isPossible_200 ?_
      refine pr_aload_n (pc := 203) C dX3_isPossible_203 rfl ?_
      refine pr_geti (pc := 204) C 128 wf_X3_176 rfl (by decide) (pl_3 (sj_n0 hs (by first | assumption | omega))) dX3_isPossible_204 ?_
      refine pr_iconst (pc := 207) (v := 1) C dX3_isPossible_207 (by decide) ?_
      refine pr_icmp_ne (pc := 208) C 223 dX3_isPossible_208 (by decide) (fun c_208 => ?_) (fun c_208 => ?_)
      · refine pr_iconst (pc := 223) (v := 0) C dX3_isPossible_223 (by decide) ?_
        exact pr_iret (pc := 224) C E (Or.inr ⟨rfl, (by decide)⟩) (by omega) (by omega) ⟨by rw [hab, hrp, decide_eq_false (fun z => absurd ((sj_st1 hs (by omega)).mpr z) (by assumption))]; rfl, rfl⟩ dX3_isPossible_224
      · refine pr_aload_n (pc := 211) C dX3_isPossible_211 rfl ?_
        refine pr_aload_n (pc := 212) C dX3_isPossible_212 rfl ?_
        refine pr_sP (pc := 213) C (c_X3_isPossibleReply G _ K Sm S N O T D e z hs t u w a wu (by omega) (by omega) hw1 hw4 ha (by omega) hwu hwu4 (hJ.1.1 u (by omega)).2.1 hJ.2.2.2.2.2) ws_X3_293 rfl rfl (by decide) (Nat.le_of_ble_eq_true rfl) (by omega) (by omega) dX3_isPossible_213 ?_
        refine pr_ifb_eq (pc := 216) C 223 dX3_isPossible_216 (by decide) (fun c_216 => ?_) (fun c_216 => ?_)
        · refine pr_iconst (pc := 223) (v := 0) C dX3_isPossible_223 (by decide) ?_
          exact pr_iret (pc := 224) C E (Or.inr ⟨rfl, (by decide)⟩) (by omega) (by omega) ⟨by rw [hab, hrp, decide_eq_true ((sj_st1 hs (by omega)).mp (by assumption)), Bool.true_and]; simp [-Int32.not_le, -Int32.not_lt, pz_b, pz_lt, c_216], rfl⟩ dX3_isPossible_224
        · refine pr_iconst (pc := 219) (v := 1) C dX3_isPossible_219 (by decide) ?_
          refine pr_goto (pc := 220) C 224 dX3_isPossible_220 (by decide) ?_
          exact pr_iret (pc := 224) C E (Or.inr ⟨rfl, (by decide)⟩) (by omega) (by omega) ⟨by rw [hab, hrp, decide_eq_true ((sj_st1 hs (by omega)).mp (by assumption)), Bool.true_and]; simp [-Int32.not_le, -Int32.not_lt, pz_b, pz_lt, c_216], rfl⟩ dX3_isPossible_224
    · -- 7
      refine pr_tableIn (pc := 9) C 190 dX3_isPossible_9 (by decide) (by decide) (off := 181) (by decide) (by decide) ?_
      obtain ⟨u, hu, hab⟩ := hrep (by omega)
      obtain ⟨wu, au, hcu⟩ := sc_tw hM hJ.1 hu
      have hwu := hcu.1
      have hwu4 := hcu.2.1
      have hrp := sc_rep_poss (how := S 221 t) (set := S 222 t) (a := 7) (by omega) (by omega) hwu hwu4 hw4 hJ.2.2.1
      refine pr_aload_n (pc := 190) C dX3_isPossible_190 rfl ?_
      refine pr_aload_n (pc := 191) C dX3_isPossible_191 rfl ?_
      refine pr_geti (pc := 192) C 126 wf_X3_164 rfl (by decide) (pl_3 (sj_n0 hs (by first | assumption | omega))) dX3_isPossible_192 ?_
      refine pr_eqi (v := S 220 t) (sj_r126 hs (by first | assumption | omega)) ?_
      refine pr_eqi hab ?_
      refine pr_vP (pc := 195) C (c_X3_turnAtY G _ K Sm S N O T D e z hs u (by first | assumption | omega) hT) wv_X3_151 rfl rfl (by decide) (by decide) (pl_4 _) (Nat.le_of_ble_eq_true rfl) (by omega) (by omega) dX3_isPossible_195 ?_
      refine pr_astore_n (pc := 198) C dX3_isPossible_198 (by decide) ?_
      refine pr_aload_n (pc := 199) C dX3_isPossible_199 rfl ?_
      refine pr_ifnull1 (pc := 200) C dX3_isPossible_200 ?_
      refine pr_aload_n (pc := 203) C dX3_isPossible_203 rfl ?_
      refine pr_geti (pc := 204) C 128 wf_X3_176 rfl (by decide) (pl_3 (sj_n0 hs (by first | assumption | omega))) dX3_isPossible_204 ?_
      refine pr_iconst (pc := 207) (v := 1) C dX3_isPossible_207 (by decide) ?_
      refine pr_icmp_ne (pc := 208) C 223 dX3_isPossible_208 (by decide) (fun c_208 => ?_) (fun c_208 => ?_)
      · refine pr_iconst (pc := 223) (v := 0) C dX3_isPossible_223 (by decide) ?_
        exact pr_iret (pc := 224) C E (Or.inr ⟨rfl, (by decide)⟩) (by omega) (by omega) ⟨by rw [hab, hrp, decide_eq_false (fun z => absurd ((sj_st1 hs (by omega)).mpr z) (by assumption))]; rfl, rfl⟩ dX3_isPossible_224
      · refine pr_aload_n (pc := 211) C dX3_isPossible_211 rfl ?_
        refine pr_aload_n (pc := 212) C dX3_isPossible_212 rfl ?_
        refine pr_sP (pc := 213) C (c_X3_isPossibleReply G _ K Sm S N O T D e z hs t u w a wu (by omega) (by omega) hw1 hw4 ha (by omega) hwu hwu4 (hJ.1.1 u (by omega)).2.1 hJ.2.2.2.2.2) ws_X3_293 rfl rfl (by decide) (Nat.le_of_ble_eq_true rfl) (by omega) (by omega) dX3_isPossible_213 ?_
        refine pr_ifb_eq (pc := 216) C 223 dX3_isPossible_216 (by decide) (fun c_216 => ?_) (fun c_216 => ?_)
        · refine pr_iconst (pc := 223) (v := 0) C dX3_isPossible_223 (by decide) ?_
          exact pr_iret (pc := 224) C E (Or.inr ⟨rfl, (by decide)⟩) (by omega) (by omega) ⟨by rw [hab, hrp, decide_eq_true ((sj_st1 hs (by omega)).mp (by assumption)), Bool.true_and]; simp [-Int32.not_le, -Int32.not_lt, pz_b, pz_lt, c_216], rfl⟩ dX3_isPossible_224
        · refine pr_iconst (pc := 219) (v := 1) C dX3_isPossible_219 (by decide) ?_
          refine pr_goto (pc := 220) C 224 dX3_isPossible_220 (by decide) ?_
          exact pr_iret (pc := 224) C E (Or.inr ⟨rfl, (by decide)⟩) (by omega) (by omega) ⟨by rw [hab, hrp, decide_eq_true ((sj_st1 hs (by omega)).mp (by assumption)), Bool.true_and]; simp [-Int32.not_le, -Int32.not_lt, pz_b, pz_lt, c_216], rfl⟩ dX3_isPossible_224
    · -- 8
      refine pr_tableIn (pc := 9) C 190 dX3_isPossible_9 (by decide) (by decide) (off := 181) (by decide) (by decide) ?_
      obtain ⟨u, hu, hab⟩ := hrep (by omega)
      obtain ⟨wu, au, hcu⟩ := sc_tw hM hJ.1 hu
      have hwu := hcu.1
      have hwu4 := hcu.2.1
      have hrp := sc_rep_poss (how := S 221 t) (set := S 222 t) (a := 8) (by omega) (by omega) hwu hwu4 hw4 hJ.2.2.1
      refine pr_aload_n (pc := 190) C dX3_isPossible_190 rfl ?_
      refine pr_aload_n (pc := 191) C dX3_isPossible_191 rfl ?_
      refine pr_geti (pc := 192) C 126 wf_X3_164 rfl (by decide) (pl_3 (sj_n0 hs (by first | assumption | omega))) dX3_isPossible_192 ?_
      refine pr_eqi (v := S 220 t) (sj_r126 hs (by first | assumption | omega)) ?_
      refine pr_eqi hab ?_
      refine pr_vP (pc := 195) C (c_X3_turnAtY G _ K Sm S N O T D e z hs u (by first | assumption | omega) hT) wv_X3_151 rfl rfl (by decide) (by decide) (pl_4 _) (Nat.le_of_ble_eq_true rfl) (by omega) (by omega) dX3_isPossible_195 ?_
      refine pr_astore_n (pc := 198) C dX3_isPossible_198 (by decide) ?_
      refine pr_aload_n (pc := 199) C dX3_isPossible_199 rfl ?_
      refine pr_ifnull1 (pc := 200) C dX3_isPossible_200 ?_
      refine pr_aload_n (pc := 203) C dX3_isPossible_203 rfl ?_
      refine pr_geti (pc := 204) C 128 wf_X3_176 rfl (by decide) (pl_3 (sj_n0 hs (by first | assumption | omega))) dX3_isPossible_204 ?_
      refine pr_iconst (pc := 207) (v := 1) C dX3_isPossible_207 (by decide) ?_
      refine pr_icmp_ne (pc := 208) C 223 dX3_isPossible_208 (by decide) (fun c_208 => ?_) (fun c_208 => ?_)
      · refine pr_iconst (pc := 223) (v := 0) C dX3_isPossible_223 (by decide) ?_
        exact pr_iret (pc := 224) C E (Or.inr ⟨rfl, (by decide)⟩) (by omega) (by omega) ⟨by rw [hab, hrp, decide_eq_false (fun z => absurd ((sj_st1 hs (by omega)).mpr z) (by assumption))]; rfl, rfl⟩ dX3_isPossible_224
      · refine pr_aload_n (pc := 211) C dX3_isPossible_211 rfl ?_
        refine pr_aload_n (pc := 212) C dX3_isPossible_212 rfl ?_
        refine pr_sP (pc := 213) C (c_X3_isPossibleReply G _ K Sm S N O T D e z hs t u w a wu (by omega) (by omega) hw1 hw4 ha (by omega) hwu hwu4 (hJ.1.1 u (by omega)).2.1 hJ.2.2.2.2.2) ws_X3_293 rfl rfl (by decide) (Nat.le_of_ble_eq_true rfl) (by omega) (by omega) dX3_isPossible_213 ?_
        refine pr_ifb_eq (pc := 216) C 223 dX3_isPossible_216 (by decide) (fun c_216 => ?_) (fun c_216 => ?_)
        · refine pr_iconst (pc := 223) (v := 0) C dX3_isPossible_223 (by decide) ?_
          exact pr_iret (pc := 224) C E (Or.inr ⟨rfl, (by decide)⟩) (by omega) (by omega) ⟨by rw [hab, hrp, decide_eq_true ((sj_st1 hs (by omega)).mp (by assumption)), Bool.true_and]; simp [-Int32.not_le, -Int32.not_lt, pz_b, pz_lt, c_216], rfl⟩ dX3_isPossible_224
        · refine pr_iconst (pc := 219) (v := 1) C dX3_isPossible_219 (by decide) ?_
          refine pr_goto (pc := 220) C 224 dX3_isPossible_220 (by decide) ?_
          exact pr_iret (pc := 224) C E (Or.inr ⟨rfl, (by decide)⟩) (by omega) (by omega) ⟨by rw [hab, hrp, decide_eq_true ((sj_st1 hs (by omega)).mp (by assumption)), Bool.true_and]; simp [-Int32.not_le, -Int32.not_lt, pz_b, pz_lt, c_216], rfl⟩ dX3_isPossible_224
    · -- 9
      refine pr_tableIn (pc := 9) C 142 dX3_isPossible_9 (by decide) (by decide) (off := 133) (by decide) (by decide) ?_
      obtain ⟨u, hu, hab⟩ := hatm (by omega)
      have ecl : (nI u).toNatClampNeg = u := nI_clamp (by omega)
      refine pr_aload_n (pc := 142) C dX3_isPossible_142 rfl ?_
      refine pr_gets (pc := 143) C 120 wf_X3_105 rfl rfl (pl_3 (sj_n0 hs (by first | assumption | omega))) w ((sj_r120 hs (by first | assumption | omega)).trans hw1) (by first | assumption | omega) dX3_isPossible_143 ?_
      refine pr_geta (pc := 146) C 49 149 wf_X3_190 rfl rfl (by decide) (pl_1 (by first | assumption | omega)) dX3_isPossible_146 ?_
      refine pr_aload_n (pc := 149) C dX3_isPossible_149 rfl ?_
      refine pr_geti (pc := 150) C 126 wf_X3_164 rfl (by decide) (pl_3 (sj_n0 hs (by first | assumption | omega))) dX3_isPossible_150 ?_
      refine pr_eqi (v := S 220 t) (sj_r126 hs (by first | assumption | omega)) ?_
      refine pr_eqi hab ?_
      refine pr_aldi (pc := 153) (n := 10) C 49 u rfl rfl rfl (pl_r1 (by decide) (by first | assumption | omega)) rfl (by omega) (by decide) dX3_isPossible_153 ?_
      refine pr_eqi (v := S 208 (10 * w + u)) (sj_r49 hs (by first | assumption | omega) (by omega)) ?_
      refine pr_if_eq (pc := 154) C 161 dX3_isPossible_154 (by decide) (fun c_154 => ?_) (fun c_154 => ?_)
      · refine pr_iconst (pc := 161) (v := 0) C dX3_isPossible_161 (by decide) ?_
        exact pr_iret (pc := 162) C E (Or.inr ⟨rfl, (by decide)⟩) (by omega) (by omega) ⟨(by simp [-Int32.not_le, -Int32.not_lt, pz_b, pz_lt, ms_poss, hab, ecl, eq_true c_154]), rfl⟩ dX3_isPossible_162
      · refine pr_iconst (pc := 157) (v := 1) C dX3_isPossible_157 (by decide) ?_
        refine pr_goto (pc := 158) C 162 dX3_isPossible_158 (by decide) ?_
        exact pr_iret (pc := 162) C E (Or.inr ⟨rfl, (by decide)⟩) (by omega) (by omega) ⟨(by simp [-Int32.not_le, -Int32.not_lt, pz_b, pz_lt, ms_poss, hab, ecl, eq_false c_154]), rfl⟩ dX3_isPossible_162
    · -- 10
      refine pr_tableIn (pc := 9) C 142 dX3_isPossible_9 (by decide) (by decide) (off := 133) (by decide) (by decide) ?_
      obtain ⟨u, hu, hab⟩ := hatm (by omega)
      have ecl : (nI u).toNatClampNeg = u := nI_clamp (by omega)
      refine pr_aload_n (pc := 142) C dX3_isPossible_142 rfl ?_
      refine pr_gets (pc := 143) C 120 wf_X3_105 rfl rfl (pl_3 (sj_n0 hs (by first | assumption | omega))) w ((sj_r120 hs (by first | assumption | omega)).trans hw1) (by first | assumption | omega) dX3_isPossible_143 ?_
      refine pr_geta (pc := 146) C 49 149 wf_X3_190 rfl rfl (by decide) (pl_1 (by first | assumption | omega)) dX3_isPossible_146 ?_
      refine pr_aload_n (pc := 149) C dX3_isPossible_149 rfl ?_
      refine pr_geti (pc := 150) C 126 wf_X3_164 rfl (by decide) (pl_3 (sj_n0 hs (by first | assumption | omega))) dX3_isPossible_150 ?_
      refine pr_eqi (v := S 220 t) (sj_r126 hs (by first | assumption | omega)) ?_
      refine pr_eqi hab ?_
      refine pr_aldi (pc := 153) (n := 10) C 49 u rfl rfl rfl (pl_r1 (by decide) (by first | assumption | omega)) rfl (by omega) (by decide) dX3_isPossible_153 ?_
      refine pr_eqi (v := S 208 (10 * w + u)) (sj_r49 hs (by first | assumption | omega) (by omega)) ?_
      refine pr_if_eq (pc := 154) C 161 dX3_isPossible_154 (by decide) (fun c_154 => ?_) (fun c_154 => ?_)
      · refine pr_iconst (pc := 161) (v := 0) C dX3_isPossible_161 (by decide) ?_
        exact pr_iret (pc := 162) C E (Or.inr ⟨rfl, (by decide)⟩) (by omega) (by omega) ⟨(by simp [-Int32.not_le, -Int32.not_lt, pz_b, pz_lt, ms_poss, hab, ecl, eq_true c_154]), rfl⟩ dX3_isPossible_162
      · refine pr_iconst (pc := 157) (v := 1) C dX3_isPossible_157 (by decide) ?_
        refine pr_goto (pc := 158) C 162 dX3_isPossible_158 (by decide) ?_
        exact pr_iret (pc := 162) C E (Or.inr ⟨rfl, (by decide)⟩) (by omega) (by omega) ⟨(by simp [-Int32.not_le, -Int32.not_lt, pz_b, pz_lt, ms_poss, hab, ecl, eq_false c_154]), rfl⟩ dX3_isPossible_162
    · -- 11
      refine pr_tableIn (pc := 9) C 80 dX3_isPossible_9 (by decide) (by decide) (off := 71) (by decide) (by decide) ?_
      refine pr_iconst (pc := 80) (v := 1) C dX3_isPossible_80 (by decide) ?_
      exact pr_iret (pc := 81) C E (Or.inr ⟨rfl, (by decide)⟩) (by omega) (by omega) ⟨(by simp [-Int32.not_le, -Int32.not_lt, pz_b, pz_lt, ms_poss]), rfl⟩ dX3_isPossible_81
    · -- 12
      refine pr_tableIn (pc := 9) C 163 dX3_isPossible_9 (by decide) (by decide) (off := 154) (by decide) (by decide) ?_
      obtain ⟨u, hu, hab⟩ := hatm (by omega)
      have ecl : (nI u).toNatClampNeg = u := nI_clamp (by omega)
      by_cases hh : S 210 (10 * w + u) = 0
      · -- none
        refine pr_aload_n (pc := 163) C dX3_isPossible_163 rfl ?_
        refine pr_gets (pc := 164) C 120 wf_X3_105 rfl rfl (pl_3 (sj_n0 hs (by first | assumption | omega))) w ((sj_r120 hs (by first | assumption | omega)).trans hw1) (by first | assumption | omega) dX3_isPossible_164 ?_
        refine pr_geta (pc := 167) C 51 151 wf_X3_209 rfl rfl (by decide) (pl_1 (by first | assumption | omega)) dX3_isPossible_167 ?_
        refine pr_aload_n (pc := 170) C dX3_isPossible_170 rfl ?_
        refine pr_geti (pc := 171) C 126 wf_X3_164 rfl (by decide) (pl_3 (sj_n0 hs (by first | assumption | omega))) dX3_isPossible_171 ?_
        refine pr_eqi (v := S 220 t) (sj_r126 hs (by first | assumption | omega)) ?_
        refine pr_eqi hab ?_
        refine pr_aldt (pc := 174) (n := 10) C 51 u rfl rfl rfl (pl_r1 (by decide) (by first | assumption | omega)) rfl (by omega) (by decide) dX3_isPossible_174 ?_
        refine pr_eqr (v := none) (by rw [sj_r51 hs hw4 hu, if_pos hh]; rfl) ?_
        refine pr_ifnull0 (pc := 175) C 182 dX3_isPossible_175 (by decide) ?_
        refine pr_iconst (pc := 182) (v := 0) C dX3_isPossible_182 (by decide) ?_
        exact pr_iret (pc := 183) C E (Or.inr ⟨rfl, (by decide)⟩) (by omega) (by omega) ⟨(by simp [-Int32.not_le, -Int32.not_lt, pz_b, pz_lt, ms_poss, hab, ecl, hh]), rfl⟩ dX3_isPossible_183
      · -- one
        obtain ⟨eH, ltH, -⟩ := mw_S_H hM hh
        generalize mn (S 211 (10 * w + u)) = tv at eH ltH
        refine pr_aload_n (pc := 163) C dX3_isPossible_163 rfl ?_
        refine pr_gets (pc := 164) C 120 wf_X3_105 rfl rfl (pl_3 (sj_n0 hs (by first | assumption | omega))) w ((sj_r120 hs (by first | assumption | omega)).trans hw1) (by first | assumption | omega) dX3_isPossible_164 ?_
        refine pr_geta (pc := 167) C 51 151 wf_X3_209 rfl rfl (by decide) (pl_1 (by first | assumption | omega)) dX3_isPossible_167 ?_
        refine pr_aload_n (pc := 170) C dX3_isPossible_170 rfl ?_
        refine pr_geti (pc := 171) C 126 wf_X3_164 rfl (by decide) (pl_3 (sj_n0 hs (by first | assumption | omega))) dX3_isPossible_171 ?_
        refine pr_eqi (v := S 220 t) (sj_r126 hs (by first | assumption | omega)) ?_
        refine pr_eqi hab ?_
        refine pr_aldt (pc := 174) (n := 10) C 51 u rfl rfl rfl (pl_r1 (by decide) (by first | assumption | omega)) rfl (by omega) (by decide) dX3_isPossible_174 ?_
        refine pr_eqr (v := some (3, tv)) (by rw [sj_r51 hs hw4 hu, if_neg hh, eH]; exact pa_rc_nI (by omega)) ?_
        refine pr_ifnull1 (pc := 175) C dX3_isPossible_175 ?_
        refine pr_iconst (pc := 178) (v := 1) C dX3_isPossible_178 (by decide) ?_
        refine pr_goto (pc := 179) C 183 dX3_isPossible_179 (by decide) ?_
        exact pr_iret (pc := 183) C E (Or.inr ⟨rfl, (by decide)⟩) (by omega) (by omega) ⟨(by simp [-Int32.not_le, -Int32.not_lt, pz_b, pz_lt, ms_poss, hab, ecl, hh]), rfl⟩ dX3_isPossible_183
    · -- 13
      refine pr_tableIn (pc := 9) C 184 dX3_isPossible_9 (by decide) (by decide) (off := 175) (by decide) (by decide) ?_
      have e13 : ms_lis (S 222 t) = ms_one (S 222 t) := by rw [hto]; exact ms_lis_one (hone (by omega))
      refine pr_aload_n (pc := 184) C dX3_isPossible_184 rfl ?_
      refine pr_aload_n (pc := 185) C dX3_isPossible_185 rfl ?_
      refine pr_vP (pc := 186) C (c_X3_bothOwn G _ K Sm S N O T D e z hs t w (by first | assumption | omega) hw1 (by first | assumption | omega)) wv_X3_290 rfl rfl (by decide) (by decide) (pl_4 _) (Nat.le_of_ble_eq_true rfl) (by omega) (by omega) dX3_isPossible_186 ?_
      exact pr_iret (pc := 189) C E (Or.inr ⟨rfl, (pz_b01 _)⟩) (by omega) (by omega) ⟨(by simp [-Int32.not_le, -Int32.not_lt, pz_b, pz_lt, ms_poss, e13]), rfl⟩ dX3_isPossible_189
    · -- 14
      refine pr_tableOut (pc := 9) C 190 dX3_isPossible_9 (by decide) (by decide) ?_
      obtain ⟨u, hu, hab⟩ := hrep (by omega)
      obtain ⟨wu, au, hcu⟩ := sc_tw hM hJ.1 hu
      have hwu := hcu.1
      have hwu4 := hcu.2.1
      have hrp := sc_rep_poss (how := S 221 t) (set := S 222 t) (a := 14) (by omega) (by omega) hwu hwu4 hw4 hJ.2.2.1
      refine pr_aload_n (pc := 190) C dX3_isPossible_190 rfl ?_
      refine pr_aload_n (pc := 191) C dX3_isPossible_191 rfl ?_
      refine pr_geti (pc := 192) C 126 wf_X3_164 rfl (by decide) (pl_3 (sj_n0 hs (by first | assumption | omega))) dX3_isPossible_192 ?_
      refine pr_eqi (v := S 220 t) (sj_r126 hs (by first | assumption | omega)) ?_
      refine pr_eqi hab ?_
      refine pr_vP (pc := 195) C (c_X3_turnAtY G _ K Sm S N O T D e z hs u (by first | assumption | omega) hT) wv_X3_151 rfl rfl (by decide) (by decide) (pl_4 _) (Nat.le_of_ble_eq_true rfl) (by omega) (by omega) dX3_isPossible_195 ?_
      refine pr_astore_n (pc := 198) C dX3_isPossible_198 (by decide) ?_
      refine pr_aload_n (pc := 199) C dX3_isPossible_199 rfl ?_
      refine pr_ifnull1 (pc := 200) C dX3_isPossible_200 ?_
      refine pr_aload_n (pc := 203) C dX3_isPossible_203 rfl ?_
      refine pr_geti (pc := 204) C 128 wf_X3_176 rfl (by decide) (pl_3 (sj_n0 hs (by first | assumption | omega))) dX3_isPossible_204 ?_
      refine pr_iconst (pc := 207) (v := 1) C dX3_isPossible_207 (by decide) ?_
      refine pr_icmp_ne (pc := 208) C 223 dX3_isPossible_208 (by decide) (fun c_208 => ?_) (fun c_208 => ?_)
      · refine pr_iconst (pc := 223) (v := 0) C dX3_isPossible_223 (by decide) ?_
        exact pr_iret (pc := 224) C E (Or.inr ⟨rfl, (by decide)⟩) (by omega) (by omega) ⟨by rw [hab, hrp, decide_eq_false (fun z => absurd ((sj_st1 hs (by omega)).mpr z) (by assumption))]; rfl, rfl⟩ dX3_isPossible_224
      · refine pr_aload_n (pc := 211) C dX3_isPossible_211 rfl ?_
        refine pr_aload_n (pc := 212) C dX3_isPossible_212 rfl ?_
        refine pr_sP (pc := 213) C (c_X3_isPossibleReply G _ K Sm S N O T D e z hs t u w a wu (by omega) (by omega) hw1 hw4 ha (by omega) hwu hwu4 (hJ.1.1 u (by omega)).2.1 hJ.2.2.2.2.2) ws_X3_293 rfl rfl (by decide) (Nat.le_of_ble_eq_true rfl) (by omega) (by omega) dX3_isPossible_213 ?_
        refine pr_ifb_eq (pc := 216) C 223 dX3_isPossible_216 (by decide) (fun c_216 => ?_) (fun c_216 => ?_)
        · refine pr_iconst (pc := 223) (v := 0) C dX3_isPossible_223 (by decide) ?_
          exact pr_iret (pc := 224) C E (Or.inr ⟨rfl, (by decide)⟩) (by omega) (by omega) ⟨by rw [hab, hrp, decide_eq_true ((sj_st1 hs (by omega)).mp (by assumption)), Bool.true_and]; simp [-Int32.not_le, -Int32.not_lt, pz_b, pz_lt, c_216], rfl⟩ dX3_isPossible_224
        · refine pr_iconst (pc := 219) (v := 1) C dX3_isPossible_219 (by decide) ?_
          refine pr_goto (pc := 220) C 224 dX3_isPossible_220 (by decide) ?_
          exact pr_iret (pc := 224) C E (Or.inr ⟨rfl, (by decide)⟩) (by omega) (by omega) ⟨by rw [hab, hrp, decide_eq_true ((sj_st1 hs (by omega)).mp (by assumption)), Bool.true_and]; simp [-Int32.not_le, -Int32.not_lt, pz_b, pz_lt, c_216], rfl⟩ dX3_isPossible_224
    · -- 15
      refine pr_tableOut (pc := 9) C 190 dX3_isPossible_9 (by decide) (by decide) ?_
      obtain ⟨u, hu, hab⟩ := hrep (by omega)
      obtain ⟨wu, au, hcu⟩ := sc_tw hM hJ.1 hu
      have hwu := hcu.1
      have hwu4 := hcu.2.1
      have hrp := sc_rep_poss (how := S 221 t) (set := S 222 t) (a := 15) (by omega) (by omega) hwu hwu4 hw4 hJ.2.2.1
      refine pr_aload_n (pc := 190) C dX3_isPossible_190 rfl ?_
      refine pr_aload_n (pc := 191) C dX3_isPossible_191 rfl ?_
      refine pr_geti (pc := 192) C 126 wf_X3_164 rfl (by decide) (pl_3 (sj_n0 hs (by first | assumption | omega))) dX3_isPossible_192 ?_
      refine pr_eqi (v := S 220 t) (sj_r126 hs (by first | assumption | omega)) ?_
      refine pr_eqi hab ?_
      refine pr_vP (pc := 195) C (c_X3_turnAtY G _ K Sm S N O T D e z hs u (by first | assumption | omega) hT) wv_X3_151 rfl rfl (by decide) (by decide) (pl_4 _) (Nat.le_of_ble_eq_true rfl) (by omega) (by omega) dX3_isPossible_195 ?_
      refine pr_astore_n (pc := 198) C dX3_isPossible_198 (by decide) ?_
      refine pr_aload_n (pc := 199) C dX3_isPossible_199 rfl ?_
      refine pr_ifnull1 (pc := 200) C dX3_isPossible_200 ?_
      refine pr_aload_n (pc := 203) C dX3_isPossible_203 rfl ?_
      refine pr_geti (pc := 204) C 128 wf_X3_176 rfl (by decide) (pl_3 (sj_n0 hs (by first | assumption | omega))) dX3_isPossible_204 ?_
      refine pr_iconst (pc := 207) (v := 1) C dX3_isPossible_207 (by decide) ?_
      refine pr_icmp_ne (pc := 208) C 223 dX3_isPossible_208 (by decide) (fun c_208 => ?_) (fun c_208 => ?_)
      · refine pr_iconst (pc := 223) (v := 0) C dX3_isPossible_223 (by decide) ?_
        exact pr_iret (pc := 224) C E (Or.inr ⟨rfl, (by decide)⟩) (by omega) (by omega) ⟨by rw [hab, hrp, decide_eq_false (fun z => absurd ((sj_st1 hs (by omega)).mpr z) (by assumption))]; rfl, rfl⟩ dX3_isPossible_224
      · refine pr_aload_n (pc := 211) C dX3_isPossible_211 rfl ?_
        refine pr_aload_n (pc := 212) C dX3_isPossible_212 rfl ?_
        refine pr_sP (pc := 213) C (c_X3_isPossibleReply G _ K Sm S N O T D e z hs t u w a wu (by omega) (by omega) hw1 hw4 ha (by omega) hwu hwu4 (hJ.1.1 u (by omega)).2.1 hJ.2.2.2.2.2) ws_X3_293 rfl rfl (by decide) (Nat.le_of_ble_eq_true rfl) (by omega) (by omega) dX3_isPossible_213 ?_
        refine pr_ifb_eq (pc := 216) C 223 dX3_isPossible_216 (by decide) (fun c_216 => ?_) (fun c_216 => ?_)
        · refine pr_iconst (pc := 223) (v := 0) C dX3_isPossible_223 (by decide) ?_
          exact pr_iret (pc := 224) C E (Or.inr ⟨rfl, (by decide)⟩) (by omega) (by omega) ⟨by rw [hab, hrp, decide_eq_true ((sj_st1 hs (by omega)).mp (by assumption)), Bool.true_and]; simp [-Int32.not_le, -Int32.not_lt, pz_b, pz_lt, c_216], rfl⟩ dX3_isPossible_224
        · refine pr_iconst (pc := 219) (v := 1) C dX3_isPossible_219 (by decide) ?_
          refine pr_goto (pc := 220) C 224 dX3_isPossible_220 (by decide) ?_
          exact pr_iret (pc := 224) C E (Or.inr ⟨rfl, (by decide)⟩) (by omega) (by omega) ⟨by rw [hab, hrp, decide_eq_true ((sj_st1 hs (by omega)).mp (by assumption)), Bool.true_and]; simp [-Int32.not_le, -Int32.not_lt, pz_b, pz_lt, c_216], rfl⟩ dX3_isPossible_224

