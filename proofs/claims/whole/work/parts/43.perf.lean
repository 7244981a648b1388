/-! THE CLASS: what any act does, and the one contract of a turn that is carried out -/
theorem pa_M_mono {G : pa_G} {l : Launch} {y : pa_Y} {d : Nat} {al : Bool} {av : List pa_V} {h : pa_H} {mc ms : Nat} {post post' : Option pa_V → pa_H → Prop} (hM : pa_M G l y d al av h mc ms post) (hp : ∀ r h', post r h' → post' r h') : pa_M G l y d al av h mc ms post' := by
  intro ad
  have h1 := hM ad
  intro p e ha hc hk s m args below hf hs hP hK
  obtain ⟨n, o, k1, k2, k3, ⟨⟨r, h', ad', g1, g2, g3, g4⟩, g5⟩, g6⟩ := h1 p e ha hc hk s m args below hf hs hP hK
  exact ⟨n, o, k1, k2, k3, ⟨⟨r, h', ad', g1, hp _ _ g2, g3, g4⟩, g5⟩, g6⟩
theorem sj_post_mono {v : Option pa_V} {Sm : Nat → Nat → Int32} {O : Nat → Int64} {T D e e' : Nat} {z : sj_Z} {S S' : Nat → Nat → Int32} (hS : S = S') (he : e' ≤ e) : ∀ r h', sj_post v Sm O T D z e S r h' → sj_post v Sm O T D z e' S' r h' := by
  rintro r h' ⟨h1, K', N', h2, h3⟩
  exact ⟨h1, K', N', h2, sj_eqle hS he h3⟩
-- offers: those that the class closes are those that the reference closes
abbrev sc_oc (S : Nat → Nat → Int32) (t w k : Nat) : Prop := (S 218 k = nI w ∧ ms_lis (S 222 k) = ms_lis (S 222 t)) ∨ (ms_isIn (S 222 k) (nI w) = true ∧ ms_isIn (S 222 t) (S 218 k) = true)
def sc_os (S : Nat → Nat → Int32) (t w k : Nat) : Bool := decide (S 227 k ≠ 0) && !(decide (S 218 k = nI w) && decide (S 222 k = S 222 t)) && !(decide (S 218 k = ms_one (S 222 t)) && decide (ms_one (S 222 k) = nI w))
theorem ms_ofc_at {S : Nat → Nat → Int32} {t w : Nat} : ∀ n k, (k < n ∧ sc_oc S t w k → pz_it (ms_ofc t w) n S 227 k = 0) ∧ (¬ (k < n ∧ sc_oc S t w k) → pz_it (ms_ofc t w) n S 227 k = S 227 k)
  | 0, k => ⟨fun h => absurd h.1 (Nat.not_lt_zero k), fun _ => rfl⟩
  | n + 1, k => by
    obtain ⟨i1, i2⟩ := ms_ofc_at (S := S) (t := t) (w := w) n k
    have e : ∀ f, f ≠ 227 → ∀ j, pz_it (ms_ofc t w) n S f j = S f j := fun f hf j => ms_ofc_fr hf
    rw [pz_it_s]
    by_cases c : sc_oc S t w n
    · have hstep : ∀ S' : Nat → Nat → Int32, (∀ f, f ≠ 227 → ∀ j, S' f j = S f j) → ms_ofc t w S' n = pa_us S' 227 n 0 := fun S' e => by
        unfold ms_ofc
        rw [e 218 (by decide), e 222 (by decide), e 222 (by decide)]
        exact if_pos c
      rw [hstep _ e]
      by_cases ck : k = n
      · subst ck
        exact ⟨fun _ => pa_us_self _ _ _ _, fun h => absurd ⟨by omega, c⟩ h⟩
      · rw [pa_us_nj ck]
        exact ⟨fun h => i1 ⟨by omega, h.2⟩, fun h => i2 (fun q => h ⟨by omega, q.2⟩)⟩
    · have hstep : ∀ S' : Nat → Nat → Int32, (∀ f, f ≠ 227 → ∀ j, S' f j = S f j) → ms_ofc t w S' n = S' := fun S' e => by
        unfold ms_ofc
        rw [e 218 (by decide), e 222 (by decide), e 222 (by decide)]
        exact if_neg c
      rw [hstep _ e]
      refine ⟨fun h => i1 ⟨?_, h.2⟩, fun h => i2 (fun q => h ⟨by omega, q.2⟩)⟩
      rcases Nat.lt_or_ge k n with q | q
      · exact q
      · exact absurd (show sc_oc S t w n by rw [show n = k by omega]; exact h.2) c
theorem ms_ofs_at {S : Nat → Nat → Int32} {t w : Nat} : ∀ n k, (k < n → pz_it (ms_ofs t w) n S 227 k = pz_b (sc_os S t w k)) ∧ (¬ k < n → pz_it (ms_ofs t w) n S 227 k = S 227 k)
  | 0, k => ⟨fun h => absurd h (Nat.not_lt_zero k), fun _ => rfl⟩
  | n + 1, k => by
    obtain ⟨i1, i2⟩ := ms_ofs_at (S := S) (t := t) (w := w) n k
    have e : ∀ f, f ≠ 227 → ∀ j, pz_it (ms_ofs t w) n S f j = S f j := fun f hf j => ms_ofs_ne hf
    have hstep : ∀ S' : Nat → Nat → Int32, (∀ f, f ≠ 227 → ∀ j, S' f j = S f j) → S' 227 n = S 227 n → ms_ofs t w S' n = pa_us S' 227 n (pz_b (sc_os S t w n)) := fun S' e e2 => by
      unfold ms_ofs
      rw [e 218 (by decide), e 222 (by decide), e 222 (by decide), e2]
      rfl
    rw [pz_it_s, hstep _ e ((ms_ofs_at (S := S) (t := t) (w := w) n n).2 (by omega))]
    by_cases ck : k = n
    · subst ck
      exact ⟨fun _ => pa_us_self _ _ _ _, fun h => absurd (by omega) h⟩
    · rw [pa_us_nj ck]
      exact ⟨fun h => i1 (by omega), fun h => i2 (by omega)⟩
theorem sc_lis_inj {m m' : Nat} (h : sc_1 m) (h' : sc_1 m') : (ms_lis (nI m) = ms_lis (nI m')) ↔ (nI m = nI m') := by
  rcases h with rfl | rfl | rfl | rfl <;> rcases h' with rfl | rfl | rfl | rfl <;> decide
theorem sc_offers {S : Nat → Nat → Int32} {T t w : Nat} (hM : mw_T S T) (hJ : mj_T S T) (ho : mj_o S T) (hop : ∀ k, S 227 k ≠ 0 → k < t) (ht : t < T) (ha : S 219 t = nI 13) (hw4 : w < 4) : pz_it (ms_ofc t w) T S = pz_it (ms_ofs t w) t S := by
  have one : ∀ k, k < T → S 219 k = nI 13 → ∃ m, sc_1 m ∧ S 222 k = nI m := fun k hk h13 => by
    obtain ⟨-, -, ⟨m, -, -, m2, -, m4⟩, -⟩ := hJ.1 k hk
    exact ⟨m, m4 (Or.inr h13), m2⟩
  funext f j
  by_cases hf : f = 227
  · subst hf
    obtain ⟨c1, c2⟩ := ms_ofc_at (S := S) (t := t) (w := w) T j
    obtain ⟨s1, s2⟩ := ms_ofs_at (S := S) (t := t) (w := w) t j
    by_cases h0 : S 227 j = 0
    · have l0 : pz_it (ms_ofc t w) T S 227 j = 0 := by
        by_cases c : j < T ∧ sc_oc S t w j
        · exact c1 c
        · rw [c2 c, h0]
      rw [l0]
      by_cases c : j < t
      · rw [s1 c]
        unfold sc_os
        rw [h0]
        rfl
      · rw [s2 c, h0]
    · obtain ⟨h1, hjT, h13, -⟩ := (ho j).resolve_left h0
      have hjt := hop j h0
      rw [s1 hjt]
      obtain ⟨m, hm, em⟩ := one j hjT h13
      obtain ⟨m', hm', em'⟩ := one t ht ha
      obtain ⟨wj, aj, hwj, -, ewj, -⟩ := hM.2.2 j hjT
      have q1 : (S 218 j = nI w ∧ ms_lis (S 222 j) = ms_lis (S 222 t)) ↔ (S 218 j = nI w ∧ S 222 j = S 222 t) := by
        rw [em, em']
        exact and_congr_right fun _ => sc_lis_inj hm hm'
      have q2 : (ms_isIn (S 222 j) (nI w) = true ∧ ms_isIn (S 222 t) (S 218 j) = true) ↔ (S 218 j = ms_one (S 222 t) ∧ ms_one (S 222 j) = nI w) := by
        rw [em, em', ewj, ← sc_1b hm hw4, ← sc_1b hm' hwj]
        exact ⟨fun h => ⟨h.2.symm, h.1⟩, fun h => ⟨h.2, h.1.symm⟩⟩
      have hb : pz_b (sc_os S t w j) = if sc_oc S t w j then 0 else 1 := by
        have : sc_os S t w j = !decide (sc_oc S t w j) := by
          unfold sc_os sc_oc
          rw [decide_eq_true h0, Bool.true_and]
          simp only [q1, q2, Bool.decide_or, Bool.decide_and, Bool.not_or]
        rw [this]
        by_cases c : sc_oc S t w j
        · rw [decide_eq_true c, if_pos c]; rfl
        · rw [decide_eq_false c, if_neg c]; rfl
      rw [hb]
      by_cases c : sc_oc S t w j
      · rw [if_pos c, c1 ⟨hjT, c⟩]
      · rw [if_neg c, c2 (fun q => c q.2), h1]
  · rw [ms_ofc_fr hf, ms_ofs_ne hf]
theorem mj_s_tk {S : Nat → Nat → Int32} {t w a g : Nat} (h : mj_s S) : mj_s (ms_tk S t w a g) := by
  unfold ms_tk
  split
  · exact mj_s_says h (Or.inr (Or.inl rfl))
  · exact h
theorem mj_q_tk {S : Nat → Nat → Int32} {t w a g : Nat} (h : mj_q S) : mj_q (ms_tk S t w a g) := by
  unfold ms_tk
  split
  · exact mj_q_says
  · exact h
/-- where a turn's act begins -/
def ms_s2 (S : Nat → Nat → Int32) (t w a g : Nat) : Nat → Nat → Int32 := pa_us (ms_tk (ms_pre S t a) t w a g) 224 t 1
theorem ms_s2_ne {S : Nat → Nat → Int32} {t w a g : Nat} : ∀ f, f ∉ [228, 229, 225, 215, 208, 209, 233, 212, 224] → ∀ j, ms_s2 S t w a g f j = S f j := by
  intro f hf j
  have h : ∀ q, q ∈ [228, 229, 225, 215, 208, 209, 233, 212, 224] → f ≠ q := fun q hq e => hf (e ▸ hq)
  unfold ms_s2
  rw [pa_us_ne (h 224 (by decide)), ms_tk_ne (h 208 (by decide)) (h 209 (by decide)) (h 233 (by decide)) (h 212 (by decide)), ms_pre_ne (h 228 (by decide)) (h 229 (by decide)) (h 225 (by decide)) (h 215 (by decide))]
theorem ms_s2_224 {S : Nat → Nat → Int32} {t w a g k : Nat} : ms_s2 S t w a g 224 k = if k = t then 1 else S 224 k := by
  unfold ms_s2
  by_cases c : k = t
  · rw [c, pa_us_self, if_pos rfl]
  · rw [pa_us_nj c, if_neg c, ms_tk_ne (by decide) (by decide) (by decide) (by decide), ms_pre_n (by decide)]
theorem ms_s2_225 {S : Nat → Nat → Int32} {t w a g k : Nat} (h : k ≠ t) : ms_s2 S t w a g 225 k = S 225 k := by
  unfold ms_s2 ms_pre
  rw [pa_us_ne (by decide), ms_tk_ne (by decide) (by decide) (by decide) (by decide), pa_us_ne (by decide), pa_us_nj h, ms_dlv_ne (by decide) (by decide)]
theorem mj_s_s2 {S : Nat → Nat → Int32} {t w a g : Nat} (h : mj_s S) : mj_s (ms_s2 S t w a g) :=
  mj_s_of (mj_s_tk (mj_s_of h (fun j => ms_pre_n (a := a) (by decide)) (fun j => ms_pre_n (by decide)))) (fun j => pa_us_ne (by decide)) (fun j => pa_us_ne (by decide))
theorem mj_q_s2 {S : Nat → Nat → Int32} {t w a g : Nat} (h : mj_q S) : mj_q (ms_s2 S t w a g) :=
  mj_q_of (mj_q_tk (mj_q_of h (fun j => ms_pre_n (a := a) (by decide)) (fun j => ms_pre_n (by decide)))) (fun j => pa_us_ne (by decide)) (fun j => pa_us_ne (by decide))
theorem mw_S_s2 {S : Nat → Nat → Int32} {T t w a g : Nat} (h : mw_S S T) (ht : t < T) (ha : S 219 t ≠ nI 2) : mw_S (ms_s2 S t w a g) T :=
  mw_S_st (mw_S_tk (mw_S_pre h) ht) (fun e => absurd e (by rw [ms_tk_ne (by decide) (by decide) (by decide) (by decide), ms_pre_n (by decide)]; exact ha))
theorem mw_L_s2 {S : Nat → Nat → Int32} {T t w a g : Nat} (h : mw_S S T) : mw_L (ms_s2 S t w a g) T := by
  refine ⟨h.1.1, ?_⟩
  have h4 := h.2.1
  unfold mw_qs at h4 ⊢
  simp only [ms_s2_ne 231 (by decide), ms_s2_ne 232 (by decide), ms_s2_ne 219 (by decide)]
  exact h4
theorem mj_T_s2 {S : Nat → Nat → Int32} {T t w a g : Nat} (h : mj_T S T) (ht : t < T) : mj_T (ms_s2 S t w a g) T := by
  refine ⟨fun k hk => ?_, fun k hk => by rw [ms_s2_224, if_neg (by omega)]; exact h.2 k hk⟩
  obtain ⟨h1, h2, h3, h4⟩ := h.1 k hk
  have e : ∀ f, f ∉ [228, 229, 225, 215, 208, 209, 233, 212, 224] → ms_s2 S t w a g f k = S f k := fun f hf => ms_s2_ne f hf k
  unfold mj_t
  rw [e 219 (by decide), e 221 (by decide), e 222 (by decide), e 218 (by decide)]
  refine ⟨h1, h2, h3, fun q => ?_⟩
  by_cases c : k = t
  · subst c
    rw [ms_s2_224, if_pos rfl] at q
    exact absurd q (by decide)
  · rw [ms_s2_224, if_neg c] at q
    rw [ms_s2_225 c]
    exact h4 q
theorem mj_v_of {S : Nat → Nat → Int32} {T : Nat} (h : mj_g S T) : mj_v S := h.1
theorem mj_v_s2 {S : Nat → Nat → Int32} {t w a g : Nat} (h : mj_v S) : mj_v (ms_s2 S t w a g) := fun p => by
  have e : ms_s2 S t w a g 228 p = ms_dlv S t 228 p := by
    unfold ms_s2
    rw [pa_us_ne (by decide), ms_tk_ne (by decide) (by decide) (by decide) (by decide)]
    unfold ms_pre
    rw [pa_us_ne (by decide), pa_us_ne (by decide)]
  rw [e]
  exact mj_v_dlv h p
theorem ms_poss_rep {S : Nat → Nat → Int32} {w a u : Nat} {how set : Int32} (ha : a = 14 ∨ a = 15) (hu : u < 100) (h : ms_poss S w a (nI u) how set = true) : S 219 u = 13 ∧ ms_isIn (S 222 u) (nI w) = true ∧ S 227 u ≠ 0 := by
  have e : (nI u).toNatClampNeg = u := nI_clamp (by omega)
  rcases ha with rfl | rfl <;> (simp [ms_poss, e] at h; exact ⟨h.1.1.1, h.1.1.2, h.1.2⟩)
theorem ms_does_Q {S : Nat → Nat → Int32} {t w a u wu x9 v Q q0 y : Nat} (h : a ≤ 3) : ms_does S t w a u wu x9 v Q q0 y = ms_doQ S t w a Q q0 u y := if_pos h
theorem ms_does_O {S : Nat → Nat → Int32} {t w a u wu x9 v Q q0 y : Nat} (h : 13 ≤ a) : ms_does S t w a u wu x9 v Q q0 y = ms_doO S t w a u wu := (if_neg (by omega)).trans (if_pos h)
theorem ms_does_T {S : Nat → Nat → Int32} {t w a u wu x9 v Q q0 y : Nat} (h : 4 ≤ a) (h8 : a ≤ 8) : ms_does S t w a u wu x9 v Q q0 y = ms_doT S t w a u wu x9 := (if_neg (by omega)).trans ((if_neg (by omega)).trans (if_pos h8))
theorem ms_does_A {S : Nat → Nat → Int32} {t w a u wu x9 v Q q0 y : Nat} (h : 9 ≤ a) (h12 : a ≤ 12) : ms_does S t w a u wu x9 v Q q0 y = ms_doA S t w a u v := (if_neg (by omega)).trans ((if_neg (by omega)).trans (if_neg (by omega)))
theorem ms_doQ_1 {S : Nat → Nat → Int32} {t w Q q0 x y : Nat} : ms_doQ S t w 1 Q q0 0 0 = ms_doQ S t w 1 Q q0 x y := by
  unfold ms_doQ
  rw [if_pos rfl, if_pos rfl]
theorem ms_doQ_3 {S : Nat → Nat → Int32} {t w Q q0 x y : Nat} : ms_doQ S t w 3 Q q0 0 0 = ms_doQ S t w 3 Q q0 x y := by
  unfold ms_doQ
  rw [if_neg (by decide), if_pos rfl, if_neg (by decide), if_pos rfl]
theorem ms_doQ_2 {S : Nat → Nat → Int32} {t w Q q0 x y : Nat} : ms_doQ S t w 2 Q q0 0 y = ms_doQ S t w 2 Q q0 x y :=
  ((if_neg (by decide)).trans ((if_neg (by decide)).trans (if_pos rfl))).trans ((if_neg (by decide)).trans ((if_neg (by decide)).trans (if_pos rfl))).symm
theorem ms_doA_10 {S : Nat → Nat → Int32} {t w x v : Nat} : ms_doA S t w 10 x 0 = ms_doA S t w 10 x v :=
  ((if_neg (by decide)).trans (if_pos rfl)).trans ((if_neg (by decide)).trans (if_pos rfl)).symm
theorem ms_doA_11 {S : Nat → Nat → Int32} {t w x v : Nat} : ms_doA S t w 11 x 0 = ms_doA S t w 11 x v :=
  ((if_neg (by decide)).trans (if_neg (by decide))).trans ((if_neg (by decide)).trans (if_neg (by decide))).symm
theorem ms_doA_12 {S : Nat → Nat → Int32} {t w x v : Nat} : ms_doA S t w 12 x 0 = ms_doA S t w 12 x v :=
  ((if_neg (by decide)).trans (if_neg (by decide))).trans ((if_neg (by decide)).trans (if_neg (by decide))).symm
theorem ms_doT_4 {S : Nat → Nat → Int32} {t w u wu x : Nat} : pa_us S 228 (4 * u + w) 4 = ms_doT S t w 4 u wu x := (if_pos rfl).symm
theorem ms_doT_5 {S : Nat → Nat → Int32} {t w u wu x : Nat} : ms_right S (nI wu) = ms_doT S t w 5 u wu x := ((if_neg (by decide)).trans (if_pos rfl)).symm
theorem ms_doT_6 {S : Nat → Nat → Int32} {t w u wu x : Nat} : ms_dlv S u = ms_doT S t w 6 u wu x := ((if_neg (by decide)).trans ((if_neg (by decide)).trans (if_pos rfl))).symm
theorem ms_doT_7 {S : Nat → Nat → Int32} {t w u wu x : Nat} : ms_says S t w x (S 221 u) = ms_doT S t w 7 u wu x := ((if_neg (by decide)).trans ((if_neg (by decide)).trans ((if_neg (by decide)).trans (if_pos rfl)))).symm
theorem ms_doO_13 {S : Nat → Nat → Int32} {t w u wu : Nat} : ms_right (pa_us (pz_it (ms_ofs t w) t S) 227 t 1) (ms_one (S 222 t)) = ms_doO S t w 13 u wu := (if_pos rfl).symm
theorem ms_doO_15 {S : Nat → Nat → Int32} {t w u wu : Nat} : pa_us S 227 u 0 = ms_doO S t w 15 u wu := ((if_neg (by decide)).trans (if_neg (by decide))).symm
set_option maxRecDepth 100000 in
set_option maxHeartbeats 4000000 in
theorem c_X3_performA (G : pa_G) (l : Launch) (K : Nat → Nat → Nat → Int32) (Sm S : Nat → Nat → Int32) (N : Nat → Nat) (O : Nat → Int64) (T D e : Nat) (z : sj_Z) (t w a u wu x9 v g Q q0 y : Nat) (hs : sj_M K N T D z (e + 2) (ms_s2 S t w a g)) (hM : mw_S S T) (hJ : mj S T) (ht : t < T) (hc : sc_t S T t w a) (hcar : mw_car S t w a u wu x9 v g Q q0 y) (hqq : sc_q S T Q q0)
    (hP : (ms_poss S w a (S 220 t) (S 221 t) (S 222 t) && ms_perm S w a (S 220 t)) = true) (hop : a = 13 → ∀ k, S 227 k ≠ 0 → k < t) (hut : (4 ≤ a ∧ a ≤ 8) ∨ 14 ≤ a → u < t) : pa_M G l mX3_perform 12 true [pv_o 4 0, pv_o 3 t] (K, Sm, N, O) 2 1520 (sj_post none Sm O T D z e (ms_does (ms_s2 S t w a g) t w a u wu x9 v Q q0 y)) := by
  obtain ⟨hp, hperm⟩ := (Bool.and_eq_true _ _).mp hP
  obtain ⟨c1, c2, c3, c4, c5, c6, c7, c8, c9, c10, c11, c12, c13⟩ := hcar
  obtain ⟨-, -, -, -, -, -, m9, hm0, hm16, hto, htb, hone⟩ := hc
  have E := @ms_s2_ne S t w a g
  have e218 : ms_s2 S t w a g 218 t = nI w := (E 218 (by decide) t).trans c2
  have e219 : ms_s2 S t w a g 219 t = nI a := (E 219 (by decide) t).trans c4
  have hJs := mj_s_s2 (t := t) (w := w) (a := a) (g := g) hJ.2.1
  have hJq := mj_q_s2 (t := t) (w := w) (a := a) (g := g) hJ.2.2.2.2.1
  have hqq2 : sc_q (ms_s2 S t w a g) T Q q0 := sc_q_of hqq (fun f hf j => E f (by intro q; revert hf q; intro hf q; simp at hf q; omega) j)
  have hl2 := mw_L_s2 (t := t) (w := w) (a := a) (g := g) hM
  have hM2 : a ≠ 2 → mw_S (ms_s2 S t w a g) T := fun q => mw_S_s2 hM ht (by rw [c4]; exact nI_ne q (by omega) (by omega))
  have hJT := mj_T_s2 (w := w) (a := a) (g := g) hJ.1 ht
  have ea : ∀ b, b < 16 → a = b → S 219 t = nI b := fun b _ q => q ▸ c4
  obtain ⟨jv1, jv2, -, -⟩ := hJ.1.1 t ht
  have hQ6 := c7.2.1
  rcases (show a = 0 ∨ a = 1 ∨ a = 2 ∨ a = 3 ∨ a = 4 ∨ a = 5 ∨ a = 6 ∨ a = 7 ∨ a = 8 ∨ a = 9 ∨ a = 10 ∨ a = 11 ∨ a = 12 ∨ a = 13 ∨ a = 14 ∨ a = 15 by omega) with h | h | h | h | h | h | h | h | h | h | h | h | h | h | h | h <;> subst h
  · -- ASSERT
    rw [ms_does_Q (by decide)]
    obtain ⟨hx, hx10⟩ := c9 (Or.inl (by omega))
    have hx2 := (E 220 (by decide) t).trans hx
    have hv2 : ms_s2 S t w 0 g 221 t = 1 ∨ ms_s2 S t w 0 g 221 t = 2 := by rw [E 221 (by decide) t]; exact jv1 (Or.inl c4)
    rcases Nat.eq_zero_or_pos Q with q | q
    · exact c_X3_perform0a G l K Sm _ N O T D (e + 2) z hs t w u e Q q0 y (hM2 (by decide)) hJs hJq ht e218 c3 e219 hx2 hx10 hv2 (by omega) hqq2 q
    · exact c_X3_perform0b G l K Sm _ N O T D (e + 2) z hs t w u e Q q0 y (hM2 (by decide)) hJs hJq ht e218 c3 e219 hx2 hx10 hv2 (by omega) hqq2 q
  · -- ASK
    rw [ms_does_Q (by decide)]
    have hl : ms_lis (ms_s2 S t w 1 g 222 t) = ms_one (ms_s2 S t w 1 g 222 t) := by rw [E 222 (by decide) t, hto]; exact ms_lis_one (hone (Or.inl rfl))
    exact pa_M_mono (c_X3_perform1 G l K Sm _ N O T D (e + 2) z hs t w Q q0 (hM2 (by decide)) hJs hJq ht e218 c3 e219 hqq2 (ms_poss_ask c7 hp) hl) (sj_post_mono ms_doQ_1 (by omega))
  · -- ANSWER
    rw [ms_does_Q (by decide)]
    have hQ0 := ms_poss_ans c7 c3 hp
    obtain ⟨hy, hy10⟩ := c13 hQ0
    have hy2 := (E 220 (by decide) q0).trans hy
    rcases jv2 c4 with q | q
    · refine pa_M_mono (c_X3_perform2a G l K Sm _ N O T D (e + 2) z hs t w y Q q0 hl2 hJs hJq ht e218 c3 e219 ((E 221 (by decide) t).trans q) hqq2 hQ0 hy2) (sj_post_mono ms_doQ_2 (by omega))
    · have hv2 : ms_s2 S t w 2 g 221 t = 1 ∨ ms_s2 S t w 2 g 221 t = 2 := by rw [E 221 (by decide) t]; exact q
      refine pa_M_mono (c_X3_perform2b G l K Sm _ N O T D (e + 2) z hs t w y e Q q0 hl2 hJs hJq ht e218 c3 e219 hv2 hqq2 hQ0 hy2 hy10 ?_ (by omega)) (sj_post_mono ms_doQ_2 (by omega))
      have k0 : mw_S (ms_tk (ms_pre S t 2) t w 2 g) T := mw_S_tk (mw_S_pre hM) ht
      unfold ms_s2
      rw [pa_us_comm (f := 231) (g := 220) (by decide), pa_us_comm (f := 224) (g := 220) (by decide)]
      have k1 := mw_S_abt (t := t) k0 hy10 (by rw [ms_tk_ne (by decide) (by decide) (by decide) (by decide), ms_pre_n (by decide)]; exact c4)
      refine mw_S_pop (Q := Q) (mw_S_st k1 (fun _ _ => ⟨y, hy10, by rw [pa_us_self]⟩)) ?_ (by omega) (by omega)
      rw [pa_us_ne (by decide), pa_us_ne (by decide), ms_tk_ne (by decide) (by decide) (by decide) (by decide), ms_pre_n (by decide)]
      exact c7.1
  · -- DROP
    rw [ms_does_Q (by decide)]
    exact pa_M_mono (c_X3_perform3 G l K Sm _ N O T D (e + 2) z hs t w Q q0 (hM2 (by decide)) hJs hJq ht e218 c3 e219 hqq2 (ms_poss_drop c7 hp)) (sj_post_mono ms_doQ_3 (by omega))
  · -- ACK
    rw [ms_does_T (by decide) (by decide)]
    obtain ⟨hu, hu100, hwu, hwu4⟩ := c8 (by omega)
    exact pa_M_mono (c_X3_perform4 G l K Sm _ N O T D (e + 2) z hs t w u wu (hM2 (by decide)) hJs hJq ht e218 c3 e219 (by have := hut (by omega); omega) ((E 220 (by decide) t).trans hu) ((E 218 (by decide) u).trans hwu) hwu4) (sj_post_mono ms_doT_4 (by omega))
  · -- CLARIFY
    rw [ms_does_T (by decide) (by decide)]
    obtain ⟨hu, hu100, hwu, hwu4⟩ := c8 (by omega)
    exact pa_M_mono (c_X3_perform5 G l K Sm _ N O T D (e + 2) z hs t w u wu (hM2 (by decide)) hJs hJq ht e218 c3 e219 (by have := hut (by omega); omega) ((E 220 (by decide) t).trans hu) ((E 218 (by decide) u).trans hwu) hwu4) (sj_post_mono ms_doT_5 (by omega))
  · -- REPEAT
    rw [ms_does_T (by decide) (by decide)]
    obtain ⟨hu, hu100, hwu, hwu4⟩ := c8 (by omega)
    exact pa_M_mono (c_X3_perform6 G l K Sm _ N O T D (e + 2) z hs t w u wu (hM2 (by decide)) hJs hJq ht e218 c3 e219 (by have := hut (by omega); omega) ((E 220 (by decide) t).trans hu) ((E 218 (by decide) u).trans hwu) hwu4 (mj_v_s2 (mj_v_of hJ.2.2.2.2.2))) (sj_post_mono ms_doT_6 (by omega))
  · -- CONCEDE
    rw [ms_does_T (by decide) (by decide)]
    obtain ⟨hu, hu100, hwu, hwu4⟩ := c8 (by omega)
    have huT : u < T := by have := hut (by omega); omega
    rw [hu] at hp
    have hcl := ms_poss_claim (Or.inl rfl) hu100 hp
    obtain ⟨hx, hx10⟩ := c10 (Or.inl rfl) hcl
    exact pa_M_mono (c_X3_perform7 G l K Sm _ N O T D (e + 2) z hs t w u wu x9 e (hM2 (by decide)) hJs hJq ht e218 c3 e219 huT ((E 220 (by decide) t).trans hu) ((E 218 (by decide) u).trans hwu) hwu4 ((E 220 (by decide) u).trans hx) hx10 (by rw [E 221 (by decide) u]; exact sc_clv hJ.1 huT hcl) (by omega)) (sj_post_mono ms_doT_7 (by omega))
  · -- DENY
    rw [ms_does_T (by decide) (by decide)]
    obtain ⟨hu, hu100, hwu, hwu4⟩ := c8 (by omega)
    have huT : u < T := by have := hut (by omega); omega
    rw [hu] at hp
    have hcl := ms_poss_claim (Or.inr rfl) hu100 hp
    obtain ⟨hx, hx10⟩ := c10 (Or.inr rfl) hcl
    exact pa_M_mono (c_X3_perform8 G l K Sm _ N O T D (e + 2) z hs t w u wu x9 e (hM2 (by decide)) hJs hJq ht e218 c3 e219 huT ((E 220 (by decide) t).trans hu) ((E 218 (by decide) u).trans hwu) hwu4 ((E 220 (by decide) u).trans hx) hx10 (by rw [E 221 (by decide) u]; exact sc_clv hJ.1 huT hcl) (by omega)) (sj_post_mono rfl (by omega))
  · -- BECAUSE
    rw [ms_does_A (by decide) (by decide)]
    obtain ⟨hx, hx10⟩ := c9 (by omega)
    obtain ⟨hv, hv10⟩ := c11 rfl
    exact pa_M_mono (c_X3_perform9 G l K Sm _ N O T D (e + 2) z hs t w u v e (hM2 (by decide)) hJs hJq ht e218 c3 e219 ((E 220 (by decide) t).trans hx) hx10 ((E 221 (by decide) t).trans hv) hv10 (by omega)) (sj_post_mono rfl (by omega))
  · -- RETRACT
    rw [ms_does_A (by decide) (by decide)]
    obtain ⟨hx, hx10⟩ := c9 (by omega)
    exact pa_M_mono (c_X3_perform10 G l K Sm _ N O T D (e + 2) z hs t w u e (hM2 (by decide)) hJs hJq ht e218 c3 e219 ((E 220 (by decide) t).trans hx) hx10 (by omega)) (sj_post_mono ms_doA_10 (by omega))
  · -- HINT
    rw [ms_does_A (by decide) (by decide)]
    obtain ⟨hx, hx10⟩ := c9 (by omega)
    have hv2 := jv1 (Or.inr c4)
    have hv0 : ¬ ms_s2 S t w 11 g 221 t = 0 := by rw [E 221 (by decide) t]; rcases hv2 with q | q <;> rw [q] <;> decide
    exact pa_M_mono (c_X3_perform11 G l K Sm _ N O T D (e + 2) z hs t w u e (hM2 (by decide)) hJs hJq ht e218 c3 e219 ((E 220 (by decide) t).trans hx) hx10 hv0 (by rw [decide_eq_true hv0]; have : true.toNat = 1 := rfl; omega)) (sj_post_mono ms_doA_11 (by omega))
  · -- CANCEL
    rw [ms_does_A (by decide) (by decide)]
    obtain ⟨hx, hx10⟩ := c9 (by omega)
    exact pa_M_mono (c_X3_perform12 G l K Sm _ N O T D (e + 2) z hs t w u e (hM2 (by decide)) hJs hJq ht e218 c3 e219 ((E 220 (by decide) t).trans hx) hx10 (by have : (decide ((0 : Int32) ≠ 0)).toNat = 0 := rfl; omega)) (sj_post_mono ms_doA_12 (by omega))
  · -- OFFER
    rw [ms_does_O (by decide)]
    have eo : pz_it (ms_ofc t w) T (ms_s2 S t w 13 g) = pz_it (ms_ofs t w) t (ms_s2 S t w 13 g) := by
      refine sc_offers (hM2 (by decide)).1 hJT ?_ (fun k hk => hop rfl k (by rw [E 227 (by decide) k] at hk; exact hk)) ht e219 c3
      intro k
      rw [E 227 (by decide) k, E 219 (by decide) k]
      rcases hJ.2.2.1 k with q | ⟨q1, q2, q3, q4⟩
      · exact Or.inl q
      · refine Or.inr ⟨q1, q2, q3, ?_⟩
        rw [ms_s2_224]
        split
        · rfl
        · exact q4
    have hl : ms_lis (ms_s2 S t w 13 g 222 t) = ms_one (ms_s2 S t w 13 g 222 t) := by rw [E 222 (by decide) t, hto]; exact ms_lis_one (hone (Or.inr rfl))
    refine pa_M_mono (c_X3_perform13 G l K Sm _ N O T D (e + 2) z hs t w (hM2 (by decide)) hJs hJq ht e218 c3 e219 hJT) (sj_post_mono ?_ (by omega))
    rw [eo, hl]
    exact ms_doO_13
  · -- ACCEPT
    rw [ms_does_O (by decide)]
    obtain ⟨hu, hu100, hwu, hwu4⟩ := c8 (by omega)
    have hut9 := hut (by omega)
    rw [hu] at hp
    obtain ⟨h13, hin, h227⟩ := ms_poss_rep (Or.inl rfl) hu100 hp
    obtain ⟨-, -, ⟨m, m0, m1, m2, m3, m4⟩, -⟩ := hJ.1.1 u (by omega)
    have hm1 := m4 (Or.inr h13)
    have hinb : m.testBit w = true := by rw [m2, sj_bit4 m m1 w c3] at hin; exact hin
    have hne : w ≠ wu := fun q => by rw [q, m3 wu hwu4 hwu] at hinb; cases hinb
    have hl : ms_lis (ms_s2 S t w 14 g 222 u) = nI w := by
      rw [E 222 (by decide) u, m2, ms_lis_one hm1, sc_1b hm1 c3, sj_bit4 m m1 w c3]
      exact hinb
    exact pa_M_mono (c_X3_perform14 G l K Sm _ N O T D (e + 2) z hs t w u wu (hM2 (by decide)) hJs hJq ht e218 c3 e219 (by omega) ((E 220 (by decide) t).trans hu) ((E 218 (by decide) u).trans hwu) hwu4 (by omega) hne hl) (sj_post_mono rfl (by omega))
  · -- REJECT
    rw [ms_does_O (by decide)]
    obtain ⟨hu, hu100, hwu, hwu4⟩ := c8 (by omega)
    exact pa_M_mono (c_X3_perform15 G l K Sm _ N O T D (e + 2) z hs t w u wu (hM2 (by decide)) hJs hJq ht e218 c3 e219 (by have := hut (by omega); omega) ((E 220 (by decide) t).trans hu) ((E 218 (by decide) u).trans hwu) hwu4) (sj_post_mono ms_doO_15 (by omega))
