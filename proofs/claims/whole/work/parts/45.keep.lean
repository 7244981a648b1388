/-! WHAT HOLDS OF THE ROWS is kept when a turn is carried out -/
def mj_fs : List Nat := [208, 209, 210, 211, 218, 219, 221, 222, 224, 225, 227, 228, 233]
theorem mj_of {S S' : Nat → Nat → Int32} {T : Nat} (h : mj S T) (e : ∀ f, f ∈ mj_fs → ∀ j, S' f j = S f j) : mj S' T := by
  obtain ⟨h1, h2, h3, h4, h5, h6⟩ := h
  have k : ∀ {l : List Nat}, (∀ f, f ∈ l → f ∈ mj_fs) → ∀ f, f ∈ l → ∀ j, S' f j = S f j := fun hl f hf => e f (hl f hf)
  exact ⟨mj_T_of h1 (k (by decide)), mj_s_of h2 (e 208 (by decide)) (e 209 (by decide)), mj_o_of h3 (k (by decide)), mj_h_of h4 (k (by decide)), mj_q_of h5 (e 208 (by decide)) (e 233 (by decide)), mj_g_of h6 (e 228 (by decide))⟩
theorem mj_us {S : Nat → Nat → Int32} {T f j : Nat} {v : Int32} (h : mj S T) (hf : f ∉ mj_fs) : mj (pa_us S f j v) T := mj_of h fun g hg q => pa_us_ne (fun z => hf (z ▸ hg))
theorem mj_rt {S : Nat → Nat → Int32} {T : Nat} {v : Int32} (h : mj S T) : mj (ms_right S v) T := mj_us (mj_us h (by decide)) (by decide)
/-- what hearers have of turns -/
theorem mj_228 {S S' : Nat → Nat → Int32} {T : Nat} (h : mj S T) (e : ∀ f, f ≠ 228 → f ≠ 229 → ∀ j, S' f j = S f j) (hg : mj_g S' T) : mj S' T := by
  obtain ⟨h1, h2, h3, h4, h5, -⟩ := h
  exact ⟨mj_T_of h1 (fun f hf => e f (by intro q; subst q; revert hf; decide) (by intro q; subst q; revert hf; decide)), mj_s_of h2 (e 208 (by decide) (by decide)) (e 209 (by decide) (by decide)), mj_o_of h3 (fun f hf => e f (by intro q; subst q; revert hf; decide) (by intro q; subst q; revert hf; decide)), mj_h_of h4 (fun f hf => e f (by intro q; subst q; revert hf; decide) (by intro q; subst q; revert hf; decide)), mj_q_of h5 (e 208 (by decide) (by decide)) (e 233 (by decide) (by decide)), hg⟩
theorem mj_g_dlv {S : Nat → Nat → Int32} {T t : Nat} (h : mj_g S T) (ht : t < T) : mj_g (ms_dlv S t) T := by
  refine ⟨mj_v_dlv h.1, fun p hp => ?_⟩
  have key : ∀ n, n ≤ 4 → pz_it (ms_dls t) n S 228 p = 0 := by
    intro n
    induction n with
    | zero => intro _; exact h.2 p hp
    | succ n ih =>
      intro hn
      rw [pz_it_s]
      have hi := ih (by omega)
      generalize pz_it (ms_dls t) n S = S' at hi ⊢
      unfold ms_dls
      split
      · rw [pa_us_ne (by decide), pa_us_nj (by omega)]
        exact hi
      · exact hi
  exact key 4 (by omega)
theorem mj_dlv {S : Nat → Nat → Int32} {T t : Nat} (h : mj S T) (ht : t < T) : mj (ms_dlv S t) T := mj_228 h (fun f h1 h2 j => ms_dlv_ne h1 h2) (mj_g_dlv h.2.2.2.2.2 ht)
theorem mj_ack {S : Nat → Nat → Int32} {T p : Nat} (h : mj S T) (hp : p < 4 * T) : mj (pa_us S 228 p 4) T := by
  refine mj_228 h (fun f h1 h2 j => pa_us_ne h1) ⟨fun q => ?_, fun q hq => ?_⟩
  · by_cases c : q = p
    · rw [c, pa_us_self]
      decide
    · rw [pa_us_nj c]
      exact h.2.2.2.2.2.1 q
  · rw [pa_us_nj (by omega)]
    exact h.2.2.2.2.2.2 q hq
/-- offers -/
theorem mj_227 {S S' : Nat → Nat → Int32} {T : Nat} (h : mj S T) (e : ∀ f, f ≠ 227 → ∀ j, S' f j = S f j) (ho : mj_o S' T) : mj S' T := by
  obtain ⟨h1, h2, -, h4, h5, h6⟩ := h
  exact ⟨mj_T_of h1 (fun f hf => e f (by intro q; subst q; revert hf; decide)), mj_s_of h2 (e 208 (by decide)) (e 209 (by decide)), ho, mj_h_of h4 (fun f hf => e f (by intro q; subst q; revert hf; decide)), mj_q_of h5 (e 208 (by decide)) (e 233 (by decide)), mj_g_of h6 (e 228 (by decide))⟩
theorem mj_o0 {S : Nat → Nat → Int32} {T k : Nat} (h : mj S T) : mj (pa_us S 227 k 0) T := by
  refine mj_227 h (fun f hf j => pa_us_ne hf) fun q => ?_
  by_cases c : q = k
  · rw [c, pa_us_self]
    exact Or.inl rfl
  · rw [pa_us_nj c, pa_us_ne (by decide), pa_us_ne (by decide)]
    exact h.2.2.1 q
theorem mj_o1 {S : Nat → Nat → Int32} {T t : Nat} (h : mj S T) (ht : t < T) (h1 : S 219 t = 13) (h2 : S 224 t = 1) : mj (pa_us S 227 t 1) T := by
  refine mj_227 h (fun f hf j => pa_us_ne hf) fun q => ?_
  rw [pa_us_ne (by decide : (219 : Nat) ≠ 227), pa_us_ne (by decide : (224 : Nat) ≠ 227)]
  by_cases c : q = t
  · rw [c, pa_us_self]
    exact Or.inr ⟨rfl, ht, h1, h2⟩
  · rw [pa_us_nj c]
    exact h.2.2.1 q
theorem mj_ofs {S : Nat → Nat → Int32} {T t w n : Nat} (h : mj S T) : mj (pz_it (ms_ofs t w) n S) T := by
  refine mj_227 h (fun f hf j => ms_ofs_ne hf) fun q => ?_
  rw [ms_ofs_ne (f := 219) (by decide), ms_ofs_ne (f := 224) (by decide)]
  obtain ⟨s1, s2⟩ := ms_ofs_at (S := S) (t := t) (w := w) n q
  by_cases c : q < n
  · rw [s1 c]
    cases hb : sc_os S t w q
    · exact Or.inl rfl
    · refine Or.inr ⟨rfl, ?_⟩
      have h0 : S 227 q ≠ 0 := by
        unfold sc_os at hb
        simp only [Bool.and_eq_true, decide_eq_true_eq] at hb
        exact hb.1.1
      exact ((h.2.2.1 q).resolve_left h0).2
  · rw [s2 c]
    exact h.2.2.1 q
/-- an ACCEPT's answer -/
theorem mj_221 {S : Nat → Nat → Int32} {T t : Nat} {v : Int32} (h : mj S T) (ha : S 219 t = 14) : mj (pa_us S 221 t v) T := by
  obtain ⟨h1, h2, h3, h4, h5, h6⟩ := h
  refine ⟨⟨fun k hk => ?_, h1.2⟩, h2, h3, fun p hp h0 => ?_, h5, h6⟩
  · obtain ⟨g1, g2, g3, g4⟩ := h1.1 k hk
    by_cases c : k = t
    · subst c
      refine ⟨fun q => ?_, fun q => ?_, g3, g4⟩
      · rcases q with q | q
        · exact absurd (ha.symm.trans q) (by decide)
        · exact absurd (ha.symm.trans q) (by decide)
      · exact absurd (ha.symm.trans q) (by decide)
    · have e : pa_us S 221 t v 221 k = S 221 k := pa_us_nj c
      exact ⟨fun q => by rw [e]; exact g1 q, fun q => by rw [e]; exact g2 q, g3, g4⟩
  · obtain ⟨g1, g2, g3⟩ := h4 p hp h0
    refine ⟨g1, ?_, g3⟩
    rw [pa_us_nj]
    · exact g2
    · intro c
      have : S 219 t = 11 := by rw [← c]; exact g3
      exact absurd (ha.symm.trans this) (by decide)
/-- hints -/
theorem mj_hint {S : Nat → Nat → Int32} {T p t : Nat} {v : Int32} (h : mj S T) (ht : t < 100) (hv : v ≠ 0 → (v = 1 ∨ v = 2) ∧ S 221 t = v ∧ S 219 t = 11) : mj (pa_us (pa_us S 210 p v) 211 p (nI t)) T := by
  obtain ⟨h1, h2, h3, h4, h5, h6⟩ := h
  refine ⟨h1, h2, h3, fun q hq h0 => ?_, h5, h6⟩
  have hX : ∀ x y : Int32, pa_us (pa_us S 210 p v) 211 p (nI t) 210 q = x → pa_us (pa_us S 210 p v) 211 p (nI t) 211 q = y → (x = 1 ∨ x = 2) ∧ S 221 (mn y) = x ∧ S 219 (mn y) = 11 → (pa_us (pa_us S 210 p v) 211 p (nI t) 210 q = 1 ∨ pa_us (pa_us S 210 p v) 211 p (nI t) 210 q = 2) ∧ S 221 (mn (pa_us (pa_us S 210 p v) 211 p (nI t) 211 q)) = pa_us (pa_us S 210 p v) 211 p (nI t) 210 q ∧ S 219 (mn (pa_us (pa_us S 210 p v) 211 p (nI t) 211 q)) = 11 := by
    rintro x y rfl rfl hh
    exact hh
  by_cases c : q = p
  · subst c
    have e : pa_us (pa_us S 210 q v) 211 q (nI t) 210 q = v := (pa_us_ne (by decide)).trans (pa_us_self _ _ _ _)
    have e2 : pa_us (pa_us S 210 q v) 211 q (nI t) 211 q = nI t := pa_us_self _ _ _ _
    rw [e] at h0
    refine hX v (nI t) e e2 ?_
    rw [show mn (nI t) = t from nI_clamp (by omega)]
    exact hv h0
  · have e : pa_us (pa_us S 210 p v) 211 p (nI t) 210 q = S 210 q := (pa_us_ne (by decide)).trans (pa_us_nj c)
    have e2 : pa_us (pa_us S 210 p v) 211 p (nI t) 211 q = S 211 q := (pa_us_nj c).trans (pa_us_ne (by decide))
    rw [e] at h0
    exact hX _ _ e e2 (h4 q hq h0)
/-- quarrels -/
theorem mj_233 {S S' : Nat → Nat → Int32} {T : Nat} (h : mj S T) (e : ∀ f, f ≠ 233 → ∀ j, S' f j = S f j) (hq : mj_q S') : mj S' T := by
  obtain ⟨h1, h2, h3, h4, -, h6⟩ := h
  exact ⟨mj_T_of h1 (fun f hf => e f (by intro q; subst q; revert hf; decide)), mj_s_of h2 (e 208 (by decide)) (e 209 (by decide)), mj_o_of h3 (fun f hf => e f (by intro q; subst q; revert hf; decide)), mj_h_of h4 (fun f hf => e f (by intro q; subst q; revert hf; decide)), hq, mj_g_of h6 (e 228 (by decide))⟩
theorem mj_qxs {S : Nat → Nat → Int32} {T w x : Nat} (h : mj S T) : mj (pz_it (ms_qxs w x) 4 S) T := by
  refine pz_it_inv (f := ms_qxs w x) (I := fun S' => mj S' T) (fun s k z => ?_) 4 S h
  unfold ms_qxs
  refine mj_233 z (fun f hf j => pa_us_ne hf) fun q hq h0 => ?_
  by_cases c : q = 40 * w + 10 * k + x
  · rw [c, pa_us_self] at h0
    exact absurd rfl h0
  · rw [pa_us_nj c] at h0
    exact z.2.2.2.2.1 q hq h0
theorem mj_deny {S : Nat → Nat → Int32} {T t w wu x : Nat} {cv : Int32} (h : mj S T) (hw : w < 4) (hwu : wu < 4) (hx : x < 10) (hcv : cv = 1 ∨ cv = 2) : mj (pa_us (ms_says S t w x (ms_contrary cv)) 233 (40 * wu + 10 * w + x) (pz_b (decide (ms_says S t w x (ms_contrary cv) 208 (10 * wu + x) = cv)))) T := by
  have hc2 : ms_contrary cv = 1 ∨ ms_contrary cv = 2 := by rcases hcv with q | q <;> rw [q] <;> decide
  have h1 := mj_says (w := w) (p := x) (t := t) h (Or.inr hc2)
  refine mj_233 h1 (fun f hf j => pa_us_ne hf) fun q hq h0 => ?_
  rw [pa_us_ne (by decide), pa_us_ne (by decide)]
  by_cases c : q = 40 * wu + 10 * w + x
  · subst c
    rw [pa_us_self] at h0
    have h2 : ms_says S t w x (ms_contrary cv) 208 (10 * wu + x) = cv := by
      have := pz_bn.mp h0
      exact of_decide_eq_true this
    rw [show (40 * wu + 10 * w + x) / 40 = wu by omega, show (40 * wu + 10 * w + x) % 10 = x by omega, show (40 * wu + 10 * w + x) / 10 % 4 = w by omega, h2]
    refine ⟨by rcases hcv with q | q <;> rw [q] <;> decide, ?_⟩
    unfold ms_says
    rw [pa_us_ne (by decide), ms_com_208, if_pos rfl]
  · rw [pa_us_nj c] at h0
    exact h1.2.2.2.2.1 q hq h0
/-- a turn's state is written -/
theorem mj_st {S : Nat → Nat → Int32} {T t : Nat} {v : Int32} (h : mj S T) (ht : t < T) (h0 : S 224 t = 0) (hv : v ≠ 0) : mj (pa_us S 224 t v) T := by
  obtain ⟨h1, h2, h3, h4, h5, h6⟩ := h
  refine ⟨⟨fun k hk => ?_, fun k hk => by rw [pa_us_nj (by omega)]; exact h1.2 k hk⟩, h2, fun k => ?_, h4, h5, h6⟩
  · obtain ⟨g1, g2, g3, g4⟩ := h1.1 k hk
    refine ⟨g1, g2, g3, fun q => ?_⟩
    by_cases c : k = t
    · rw [c, pa_us_self] at q
      exact absurd q hv
    · rw [pa_us_nj c] at q
      exact g4 q
  · show S 227 k = 0 ∨ _
    by_cases c : k = t
    · rcases h3 k with q | ⟨-, -, -, q⟩
      · exact Or.inl q
      · rw [c, h0] at q
        exact absurd q (by decide)
    · have e : pa_us S 224 t v 224 k = S 224 k := pa_us_nj c
      rw [e]
      exact h3 k
/-- it is delivered, its clock noted, and it is in the state v -/
theorem mj_pre {S : Nat → Nat → Int32} {T t a : Nat} {v : Int32} (h : mj S T) (ht : t < T) (h0 : S 224 t = 0) (hv : v ≠ 0) : mj (pa_us (ms_pre S t a) 224 t v) T := by
  have k : mj (pa_us (ms_dlv S t) 224 t v) T := mj_st (mj_dlv h ht) ht ((ms_dlv_ne (by decide) (by decide)).trans h0) hv
  unfold ms_pre
  obtain ⟨h1, h2, h3, h4, h5, h6⟩ := k
  refine ⟨⟨fun q hq => ?_, h1.2⟩, h2, h3, h4, h5, h6⟩
  obtain ⟨g1, g2, g3, g4⟩ := h1.1 q hq
  refine ⟨g1, g2, g3, fun z => ?_⟩
  by_cases c : q = t
  · rw [c, pa_us_self] at z
    exact absurd z hv
  · have g5 := g4 z
    rw [pa_us_ne (by decide)] at g5
    rw [pa_us_ne (by decide), pa_us_ne (by decide), pa_us_nj c]
    exact g5
theorem ms_com_us224 {S : Nat → Nat → Int32} {t w p : Nat} {v its tt : Int32} : ms_com (pa_us S 224 t v) w p its tt = pa_us (ms_com S w p its tt) 224 t v := by
  have e1 : ∀ n (S' : Nat → Nat → Int32), pz_it ms_eqs n (pa_us S' 224 t v) = pa_us (pz_it ms_eqs n S') 224 t v := by
    intro n
    induction n with
    | zero => intro S'; rfl
    | succ n ih =>
      intro S'
      rw [pz_it_s, pz_it_s, ih]
      generalize pz_it ms_eqs n S' = S2
      have : ms_qok (pa_us S2 224 t v) n = ms_qok S2 n := by
        unfold ms_qok
        rw [pa_us_ne (by decide), pa_us_ne (by decide), pa_us_ne (by decide)]
      unfold ms_eqs
      rw [this, pa_us_comm (by decide)]
  unfold ms_com ms_eq
  rw [pa_us_comm (f := 224) (g := 208) (by decide), pa_us_comm (f := 224) (g := 209) (by decide), e1]
theorem ms_says_us224 {S : Nat → Nat → Int32} {t t' w p : Nat} {v its : Int32} : ms_says (pa_us S 224 t v) t' w p its = pa_us (ms_says S t' w p its) 224 t v := by
  unfold ms_says
  rw [ms_com_us224, pa_us_ne (by decide), pa_us_ne (by decide), pa_us_comm (by decide)]
theorem mj_s2 {S : Nat → Nat → Int32} {T t w a g : Nat} (h : mj S T) (ht : t < T) (h0 : S 224 t = 0) : mj (ms_s2 S t w a g) T := by
  have k := mj_pre (a := a) (v := 1) h ht h0 (by decide)
  unfold ms_s2 ms_tk
  split
  · rw [← ms_says_us224]
    exact mj_says k (Or.inr (Or.inl rfl))
  · exact k
theorem mj_does {S : Nat → Nat → Int32} {T t w a u wu x9 v Q q0 y : Nat} (h : mj S T) (hT : T ≤ 100) (ht : t < T) (h1 : S 224 t = 1) (ha : S 219 t = nI a) (ha16 : a < 16) (hw : w < 4) (hu : (4 ≤ a ∧ a ≤ 8) ∨ 14 ≤ a → u < T ∧ wu < 4)
    (hcl : a = 7 ∨ a = 8 → x9 < 10 ∧ (S 221 u = 1 ∨ S 221 u = 2)) : mj (ms_does S t w a u wu x9 v Q q0 y) T := by
  obtain ⟨jv1, jv2, -, -⟩ := h.1.1 t ht
  unfold ms_does
  split
  · unfold ms_doQ
    split
    · exact mj_rt (mj_us (mj_us h (by decide)) (by decide))
    split
    · exact mj_us h (by decide)
    split
    · rename_i e2
      have hv : S 221 t = 0 ∨ S 221 t = 1 ∨ S 221 t = 2 := jv2 (by rw [ha, e2]; rfl)
      have k : mj (pa_us (pa_us S 231 0 (nI (Q - 1))) 220 t (nI y)) T := mj_us (mj_us h (by decide)) (by decide)
      split
      · exact mj_says k hv
      · exact k
    · have e0 : a = 0 := by omega
      have hv : S 221 t = 1 ∨ S 221 t = 2 := jv1 (Or.inl (by rw [ha, e0]; rfl))
      exact mj_us (mj_says h (Or.inr hv)) (by decide)
  split
  · unfold ms_doO
    split
    · rename_i e13
      refine mj_rt (mj_o1 (mj_ofs h) ht ?_ ?_)
      · rw [ms_ofs_ne (by decide), ha, e13]; rfl
      · rw [ms_ofs_ne (by decide)]; exact h1
    split
    · rename_i e14
      have e219 : S 219 t = 14 := by rw [ha, e14]; rfl
      split
      · refine mj_us (mj_221 ?_ ?_) (by decide)
        · exact pz_it_inv (I := fun S' => mj S' T) (fun s k z => by unfold ms_ows; exact mj_us z (by decide)) _ _ (mj_o0 h)
        · rw [ms_ows_ne (by decide)]; exact (pa_us_ne (by decide)).trans e219
      · exact mj_us (mj_221 (mj_o0 h) ((pa_us_ne (by decide)).trans e219)) (by decide)
    · exact mj_o0 h
  split
  · unfold ms_doT
    split
    · exact mj_ack h (by have := hu (by omega); omega)
    split
    · exact mj_rt h
    split
    · exact mj_dlv h (hu (by omega)).1
    split
    · exact mj_says h (Or.inr (hcl (by omega)).2)
    · exact mj_rt (mj_deny h hw (hu (by omega)).2 (hcl (by omega)).1 (hcl (by omega)).2)
  · unfold ms_doA
    split
    · exact mj_qxs (mj_us (mj_says h (Or.inr (Or.inl rfl))) (by decide))
    split
    · exact mj_com h (Or.inl rfl)
    · refine mj_hint h (by omega) (fun q => ?_)
      by_cases c : a = 11
      · rw [if_pos c] at q ⊢
        have h11 : S 219 t = 11 := by rw [ha, c]; rfl
        exact ⟨jv1 (Or.inr h11), rfl, h11⟩
      · rw [if_neg c] at q
        exact absurd rfl q
theorem mj_carry {S : Nat → Nat → Int32} {T t : Nat} (hM : mw_S S T) (h : mj S T) (ht : t < T) (h0 : S 224 t = 0) : mj (ms_carry S t) T := by
  have hT := hM.1.1
  have hcar := mw_car_of hM ht
  have hu5 : (4 ≤ mn (S 219 t) ∧ mn (S 219 t) ≤ 8) ∨ 14 ≤ mn (S 219 t) → mn (S 220 t) < T := fun q => by
    obtain ⟨w', a', k1, k2, k3, k4, k5, -⟩ := mw_S_t hM ht
    have e' : mn (S 219 t) = a' := by rw [k4]; exact nI_clamp (by omega)
    rw [e'] at q
    obtain ⟨u, g1, g2⟩ := k5 q
    rw [g2, show mn (nI u) = u from nI_clamp (by omega)]
    omega
  unfold ms_carry
  generalize mn (S 218 t) = w at hcar ⊢
  generalize mn (S 219 t) = a at hcar hu5 ⊢
  generalize mn (S 220 t) = u at hcar hu5 ⊢
  generalize mn (S 218 u) = wu at hcar ⊢
  generalize mn (S 220 u) = x9 at hcar ⊢
  generalize mn (S 221 t) = v at hcar ⊢
  generalize mn (S 223 t) = g at hcar ⊢
  generalize mn (S 231 0) = Q at hcar ⊢
  generalize ms_aq S = q0 at hcar ⊢
  generalize mn (S 220 q0) = y at hcar ⊢
  obtain ⟨c1, c2, c3, c4, c5, c6, c7, c8, c9, c10, c11, c12, c13⟩ := hcar
  unfold ms_carN
  split
  · exact mj_st h ht h0 (by decide)
  rename_i hP
  have hp : ms_poss S w a (S 220 t) (S 221 t) (S 222 t) = true := ((Bool.and_eq_true _ _).mp (eq_true_of_ne_false hP)).1
  split
  · exact mj_pre h ht h0 (by decide)
  · show mj (ms_does (ms_s2 S t w a g) t w a u wu x9 v Q q0 y) T
    refine mj_does (mj_s2 h ht h0) hT ht (by rw [ms_s2_224, if_pos rfl]) ((ms_s2_ne 219 (by decide) t).trans c4) c5 c3 (fun q => ⟨hu5 q, (c8 q).2.2.2⟩) (fun q => ?_)
    obtain ⟨e1, e2, -, -⟩ := c8 (by omega)
    rw [e1] at hp
    have hcl := ms_poss_claim q e2 hp
    exact ⟨(c10 q hcl).2, by rw [ms_s2_ne 221 (by decide) u]; exact sc_clv h.1 (hu5 (by omega)) hcl⟩
