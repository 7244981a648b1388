/-! THE REFERENCE'S ROWS: what holds of them between its steps; each step keeps it -/
abbrev mn (v : Int32) : Nat := v.toNatClampNeg
theorem mn_nI {u : Nat} (h : u < 1000) : mn (nI u) = u := nI_clamp (by omega)
/-- what holds of a turn t -/
def mw_t (S : Nat → Nat → Int32) (t : Nat) : Prop :=
  ∃ w a, w < 4 ∧ a < 16 ∧ S 218 t = nI w ∧ S 219 t = nI a ∧
  ((4 ≤ a ∧ a ≤ 8) ∨ 14 ≤ a → ∃ u, u < t ∧ S 220 t = nI u) ∧
  (a ≤ 1 ∨ (9 ≤ a ∧ a ≤ 12) → ∃ u, u < 10 ∧ S 220 t = nI u) ∧
  (a = 9 → ∃ v, v < 10 ∧ S 221 t = nI v) ∧
  (a ≤ 1 → S 223 t ≠ -1 → ∃ g, g < 10 ∧ S 223 t = nI g) ∧
  (a = 2 → S 224 t = 1 → ∃ y, y < 10 ∧ S 220 t = nI y)
def mw_T (S : Nat → Nat → Int32) (T : Nat) : Prop := T ≤ 100 ∧ S 217 0 = nI T ∧ ∀ t, t < T → mw_t S t
def mw_qs (S : Nat → Nat → Int32) (T : Nat) : Prop := ∃ Q, Q ≤ 6 ∧ S 231 0 = nI Q ∧ (∀ j, ∃ q, q < 100 ∧ S 232 j = nI q) ∧ ∀ j, j < Q → ∃ q, q < T ∧ S 232 j = nI q ∧ S 219 q = nI 1
def mw_N (S : Nat → Nat → Int32) (T : Nat) : Prop := ∀ k, k < 4 → S 230 k = -1 ∨ ∃ t, t < T ∧ S 230 k = nI t
def mw_h (S : Nat → Nat → Int32) (T : Nat) : Prop := ∀ p, S 210 p ≠ 0 → ∃ t, t < T ∧ S 211 p = nI t
def mw_s (S : Nat → Nat → Int32) (T : Nat) : Prop := ∀ p, S 208 p ≠ 0 → ∃ t, t < T ∧ S 209 p = nI t
def mw_r (S : Nat → Nat → Int32) : Prop := S 215 0 = -1 ∨ ∃ r, r < 4 ∧ S 215 0 = nI r
def mw_S (S : Nat → Nat → Int32) (T : Nat) : Prop := mw_T S T ∧ mw_qs S T ∧ mw_N S T ∧ mw_h S T ∧ mw_s S T ∧ mw_r S
theorem mw_t_of {S S' : Nat → Nat → Int32} {t : Nat} (h : mw_t S t) (e1 : S' 218 t = S 218 t) (e2 : S' 219 t = S 219 t) (e3 : S' 220 t = S 220 t) (e4 : S' 221 t = S 221 t) (e5 : S' 223 t = S 223 t) (e6 : S' 224 t = S 224 t) : mw_t S' t := by
  unfold mw_t at h ⊢
  rw [e1, e2, e3, e4, e5, e6]
  exact h
/-- the rows that the facts speak of stand as they were -/
theorem mw_S_of {S S' : Nat → Nat → Int32} {T : Nat} (h : mw_S S T) (e : ∀ f j, f ∈ [217, 218, 219, 220, 221, 223, 224, 231, 232, 230, 210, 211, 208, 209, 215] → S' f j = S f j) : mw_S S' T := by
  obtain ⟨⟨h1, h2, h3⟩, h4, h5, h6, h7, h8⟩ := h
  have E : ∀ f, f ∈ [217, 218, 219, 220, 221, 223, 224, 231, 232, 230, 210, 211, 208, 209, 215] → ∀ j, S' f j = S f j := fun f hf j => e f j hf
  refine ⟨⟨h1, by rw [E 217 (by decide)]; exact h2, fun t ht => mw_t_of (h3 t ht) (E 218 (by decide) t) (E 219 (by decide) t) (E 220 (by decide) t) (E 221 (by decide) t) (E 223 (by decide) t) (E 224 (by decide) t)⟩, ?_, ?_, ?_, ?_, ?_⟩
  · unfold mw_qs at h4 ⊢
    simp only [E 231 (by decide), E 232 (by decide), E 219 (by decide)]
    exact h4
  · unfold mw_N at h5 ⊢
    simp only [E 230 (by decide)]
    exact h5
  · unfold mw_h at h6 ⊢
    simp only [E 210 (by decide), E 211 (by decide)]
    exact h6
  · unfold mw_s at h7 ⊢
    simp only [E 208 (by decide), E 209 (by decide)]
    exact h7
  · unfold mw_r at h8 ⊢
    rw [E 215 (by decide)]
    exact h8
theorem mw_S_us {S : Nat → Nat → Int32} {T f j : Nat} {v : Int32} (h : mw_S S T) (hf : f ∉ [217, 218, 219, 220, 221, 223, 224, 231, 232, 230, 210, 211, 208, 209, 215]) : mw_S (pa_us S f j v) T :=
  mw_S_of h fun g q hg => pa_us_ne (fun z => hf (z ▸ hg))
theorem mw_S_dlv {S : Nat → Nat → Int32} {T t : Nat} (h : mw_S S T) : mw_S (ms_dlv S t) T :=
  mw_S_of h fun g q hg => ms_dlv_ne (fun z => absurd hg (by rw [z]; decide)) (fun z => absurd hg (by rw [z]; decide))
theorem mw_S_right {S : Nat → Nat → Int32} {T : Nat} {v : Int32} (h : mw_S S T) (hv : v = -1 ∨ ∃ r, r < 4 ∧ v = nI r) : mw_S (pa_us S 215 0 v) T := by
  obtain ⟨⟨h1, h2, h3⟩, h4, h5, h6, h7, h8⟩ := h
  refine ⟨⟨h1, h2, fun t ht => mw_t_of (h3 t ht) rfl rfl rfl rfl rfl rfl⟩, h4, h5, h6, h7, ?_⟩
  unfold mw_r
  rw [pa_us_self]
  exact hv
theorem ms_one_r (v : Int32) : ms_one v = -1 ∨ ∃ r, r < 4 ∧ ms_one v = nI r := by
  unfold ms_one
  split
  · exact Or.inr ⟨0, by decide, by decide⟩
  split
  · exact Or.inr ⟨1, by decide, by decide⟩
  split
  · exact Or.inr ⟨2, by decide, by decide⟩
  split
  · exact Or.inr ⟨3, by decide, by decide⟩
  · exact Or.inl rfl
theorem mw_S_rt {S : Nat → Nat → Int32} {T : Nat} {v : Int32} (h : mw_S S T) (hv : v = -1 ∨ ∃ r, r < 4 ∧ v = nI r) : mw_S (ms_right S v) T := by
  unfold ms_right
  exact mw_S_us (mw_S_right h hv) (by decide)
theorem ms_com_208 {S : Nat → Nat → Int32} {sp a9 j : Nat} {its t : Int32} : ms_com S sp a9 its t 208 j = if j = 10 * sp + a9 then its else S 208 j := by
  unfold ms_com
  rw [ms_eq_ne (by decide), pa_us_ne (by decide)]
  simp [pa_us]
theorem ms_com_209 {S : Nat → Nat → Int32} {sp a9 j : Nat} {its t : Int32} : ms_com S sp a9 its t 209 j = if j = 10 * sp + a9 then (if its = 0 then -1 else t) else S 209 j := by
  unfold ms_com
  rw [ms_eq_ne (by decide)]
  simp [pa_us]
theorem mw_S_com {S : Nat → Nat → Int32} {T sp a9 t : Nat} {its : Int32} (h : mw_S S T) (ht : t < T) : mw_S (ms_com S sp a9 its (nI t)) T := by
  obtain ⟨⟨h1, h2, h3⟩, h4, h5, h6, h7, h8⟩ := h
  have E : ∀ f j, f ≠ 208 → f ≠ 209 → f ≠ 233 → ms_com S sp a9 its (nI t) f j = S f j := fun f j => ms_com_ne
  refine ⟨⟨h1, by rw [E 217 _ (by decide) (by decide) (by decide)]; exact h2, fun t ht => mw_t_of (h3 t ht) (E _ _ (by decide) (by decide) (by decide)) (E _ _ (by decide) (by decide) (by decide)) (E _ _ (by decide) (by decide) (by decide)) (E _ _ (by decide) (by decide) (by decide)) (E _ _ (by decide) (by decide) (by decide)) (E _ _ (by decide) (by decide) (by decide))⟩, ?_, ?_, ?_, ?_, ?_⟩
  · unfold mw_qs at h4 ⊢
    simpa only [ms_com_ne, ne_eq, Nat.reduceEqDiff, not_false_eq_true] using h4
  · unfold mw_N at h5 ⊢
    simpa only [ms_com_ne, ne_eq, Nat.reduceEqDiff, not_false_eq_true] using h5
  · unfold mw_h at h6 ⊢
    simpa only [ms_com_ne, ne_eq, Nat.reduceEqDiff, not_false_eq_true] using h6
  · intro p hp
    rw [ms_com_208] at hp
    rw [ms_com_209]
    by_cases c : p = 10 * sp + a9
    · rw [if_pos c] at hp ⊢
      exact ⟨t, ht, by rw [if_neg hp]⟩
    · rw [if_neg c] at hp ⊢
      exact h7 p hp
  · unfold mw_r at h8 ⊢
    simpa only [ms_com_ne, ne_eq, Nat.reduceEqDiff, not_false_eq_true] using h8
theorem mw_S_says {S : Nat → Nat → Int32} {T t w a9 : Nat} {its : Int32} (h : mw_S S T) (ht : t < T) : mw_S (ms_says S t w a9 its) T := by
  unfold ms_says
  exact mw_S_us (mw_S_com h ht) (by decide)
theorem mw_S_tk {S : Nat → Nat → Int32} {T t w a g : Nat} (h : mw_S S T) (ht : t < T) : mw_S (ms_tk S t w a g) T := by
  unfold ms_tk
  split
  · exact mw_S_says h ht
  · exact h
theorem mw_S_pre {S : Nat → Nat → Int32} {T t a : Nat} (h : mw_S S T) : mw_S (ms_pre S t a) T := by
  unfold ms_pre
  refine mw_S_right (mw_S_us (mw_S_dlv h) (by decide)) ?_
  split
  · exact h.2.2.2.2.2
  · exact Or.inl rfl
/-- the state of a turn is written -/
theorem mw_S_st {S : Nat → Nat → Int32} {T t : Nat} {v : Int32} (h : mw_S S T) (hv : S 219 t = nI 2 → v = 1 → ∃ y, y < 10 ∧ S 220 t = nI y) : mw_S (pa_us S 224 t v) T := by
  obtain ⟨⟨h1, h2, h3⟩, h4, h5, h6, h7, h8⟩ := h
  refine ⟨⟨h1, h2, fun t' ht => ?_⟩, h4, h5, h6, h7, h8⟩
  obtain ⟨w, a, k1, k2, k3, k4, k5, k6, k7, k8, k9⟩ := h3 t' ht
  refine ⟨w, a, k1, k2, k3, k4, k5, k6, k7, k8, fun e2 e3 => ?_⟩
  by_cases c : t' = t
  · subst c
    rw [pa_us_self] at e3
    rw [e2] at k4
    exact hv k4 e3
  · exact k9 e2 (by rw [pa_us_nj c] at e3; exact e3)
/-- a value is written that no step uses as a place -/
theorem mw_S_val {S : Nat → Nat → Int32} {T t : Nat} {v : Int32} (h : mw_S S T) (hv : S 219 t ≠ nI 9) : mw_S (pa_us S 221 t v) T := by
  obtain ⟨⟨h1, h2, h3⟩, h4, h5, h6, h7, h8⟩ := h
  refine ⟨⟨h1, h2, fun t' ht => ?_⟩, h4, h5, h6, h7, h8⟩
  obtain ⟨w, a, k1, k2, k3, k4, k5, k6, k7, k8, k9⟩ := h3 t' ht
  refine ⟨w, a, k1, k2, k3, k4, k5, k6, fun e2 => ?_, k8, k9⟩
  by_cases c : t' = t
  · subst c
    rw [e2] at k4
    exact absurd k4 hv
  · obtain ⟨v', g1, g2⟩ := k7 e2
    exact ⟨v', g1, by rw [pa_us_nj c]; exact g2⟩
/-- an ANSWER gets its atom -/
theorem mw_S_abt {S : Nat → Nat → Int32} {T t y : Nat} (h : mw_S S T) (hy : y < 10) (hv : S 219 t = nI 2) : mw_S (pa_us S 220 t (nI y)) T := by
  obtain ⟨⟨h1, h2, h3⟩, h4, h5, h6, h7, h8⟩ := h
  refine ⟨⟨h1, h2, fun t' ht => ?_⟩, h4, h5, h6, h7, h8⟩
  obtain ⟨w, a, k1, k2, k3, k4, k5, k6, k7, k8, k9⟩ := h3 t' ht
  by_cases c : t' = t
  · subst c
    have ea : a = 2 := by
      have : nI a = nI 2 := by rw [← k4]; exact hv
      exact (nI_eq (by omega) (by decide)).mp this
    subst ea
    exact ⟨w, 2, k1, k2, k3, k4, fun z => absurd z (by omega), fun z => absurd z (by omega), fun z => absurd z (by omega), fun z => absurd z (by omega), fun _ _ => ⟨y, hy, by rw [pa_us_self]⟩⟩
  · exact mw_t_of (h3 t' ht) rfl rfl (pa_us_nj c) rfl rfl rfl
/-- the top question is gone, or a new one put -/
theorem mw_S_pop {S : Nat → Nat → Int32} {T Q R : Nat} (h : mw_S S T) (hQ : S 231 0 = nI Q) (hQ1 : Q < 1000) (hR : R ≤ Q) : mw_S (pa_us S 231 0 (nI R)) T := by
  obtain ⟨⟨h1, h2, h3⟩, ⟨Q', q1, q2, q3, q4⟩, h5, h6, h7, h8⟩ := h
  have : Q' = Q := (nI_eq (by omega) (by omega)).mp (by rw [← q2]; exact hQ)
  subst this
  exact ⟨⟨h1, h2, h3⟩, ⟨R, by omega, by rw [pa_us_self], q3, fun j hj => q4 j (by omega)⟩, h5, h6, h7, h8⟩
theorem mw_S_push {S : Nat → Nat → Int32} {T Q t : Nat} (h : mw_S S T) (hQ : S 231 0 = nI Q) (hQ1 : Q < 6) (ht : t < T) (ha : S 219 t = nI 1) : mw_S (pa_us (pa_us S 232 Q (nI t)) 231 0 (nI (Q + 1))) T := by
  obtain ⟨⟨h1, h2, h3⟩, ⟨Q', q1, q2, q3, q4⟩, h5, h6, h7, h8⟩ := h
  have : Q' = Q := (nI_eq (by omega) (by omega)).mp (by rw [← q2]; exact hQ)
  subst this
  refine ⟨⟨h1, h2, h3⟩, ⟨Q' + 1, by omega, by rw [pa_us_self], fun j => ?_, fun j hj => ?_⟩, h5, h6, h7, h8⟩
  · rw [pa_us_ne (by decide)]
    by_cases c : j = Q'
    · subst c
      exact ⟨t, by omega, by rw [pa_us_self]⟩
    · rw [pa_us_nj c]
      exact q3 j
  · rw [pa_us_ne (by decide)]
    by_cases c : j = Q'
    · subst c
      exact ⟨t, ht, by rw [pa_us_self], ha⟩
    · rw [pa_us_nj c]
      obtain ⟨q, g1, g2, g3⟩ := q4 j (by omega)
      exact ⟨q, g1, g2, g3⟩
theorem mw_S_hint {S : Nat → Nat → Int32} {T p t : Nat} {v : Int32} (h : mw_S S T) (ht : t < T) : mw_S (pa_us (pa_us S 210 p v) 211 p (nI t)) T := by
  obtain ⟨h1, h4, h5, h6, h7, h8⟩ := h
  refine ⟨h1, h4, h5, fun p' hp => ?_, h7, h8⟩
  by_cases c : p' = p
  · subst c
    exact ⟨t, ht, by rw [pa_us_self]⟩
  · rw [pa_us_ne (by decide), pa_us_nj c] at hp
    rw [pa_us_nj c, pa_us_ne (by decide)]
    exact h6 p' hp
theorem mw_S_hint0 {S : Nat → Nat → Int32} {T p : Nat} (h : mw_S S T) : mw_S (pa_us S 210 p 0) T := by
  obtain ⟨h1, h4, h5, h6, h7, h8⟩ := h
  refine ⟨h1, h4, h5, fun p' hp => ?_, h7, h8⟩
  by_cases c : p' = p
  · subst c
    rw [pa_us_self] at hp
    exact absurd rfl hp
  · rw [pa_us_nj c] at hp
    rw [pa_us_ne (by decide)]
    exact h6 p' hp
theorem mw_S_now {S : Nat → Nat → Int32} {T k : Nat} (h : mw_S S T) : mw_S (pa_us S 230 k (-1)) T := by
  obtain ⟨h1, h4, h5, h6, h7, h8⟩ := h
  refine ⟨h1, h4, fun p hp => ?_, h6, h7, h8⟩
  by_cases c : p = k
  · subst c
    exact Or.inl (by rw [pa_us_self])
  · rw [pa_us_nj c]
    exact h5 p hp
/-- a turn's own facts, by what it holds -/
theorem mw_S_t {S : Nat → Nat → Int32} {T t : Nat} (h : mw_S S T) (ht : t < T) : mw_t S t := h.1.2.2 t ht
def ms_carry (S : Nat → Nat → Int32) (t : Nat) : Nat → Nat → Int32 :=
  ms_carN S t (mn (S 218 t)) (mn (S 219 t)) (mn (S 220 t)) (mn (S 218 (mn (S 220 t)))) (mn (S 220 (mn (S 220 t)))) (mn (S 221 t)) (mn (S 223 t)) (mn (S 231 0)) (ms_aq S) (mn (S 220 (ms_aq S)))
theorem mn_lt {v : Int32} {u b : Nat} (e : v = nI u) (h : u < b) (hb : b ≤ 1000) : v = nI (mn v) ∧ mn v < b := by
  have : mn v = u := by rw [e]; exact mn_nI (by omega)
  rw [this]
  exact ⟨e, h⟩
theorem mw_S_Q {S : Nat → Nat → Int32} {T : Nat} (h : mw_S S T) : mw_Q S (mn (S 231 0)) (ms_aq S) := by
  obtain ⟨-, ⟨Q, q1, q2, q3, -⟩, -⟩ := h
  obtain ⟨e1, e2⟩ := mn_lt q2 (b := 7) (by omega) (by decide)
  obtain ⟨q, g1, g2⟩ := q3 (mn (S 231 0) - 1)
  obtain ⟨e3, e4⟩ := mn_lt g2 g1 (by decide)
  exact ⟨e1, by omega, e4, fun _ => e3⟩
theorem mw_S_top {S : Nat → Nat → Int32} {T : Nat} (h : mw_S S T) (hQ : 0 < mn (S 231 0)) : ms_aq S < T ∧ S 219 (ms_aq S) = nI 1 := by
  obtain ⟨⟨h1, -, -⟩, ⟨Q, q1, q2, q3, q4⟩, -⟩ := h
  have e : mn (S 231 0) = Q := by rw [q2]; exact mn_nI (by omega)
  rw [e] at hQ
  obtain ⟨q, g1, g2, g3⟩ := q4 (Q - 1) (by omega)
  have e2 : ms_aq S = q := by
    unfold ms_aq
    rw [show (S 231 0).toNatClampNeg = Q from e, g2]
    exact mn_nI (by omega)
  rw [e2]
  exact ⟨g1, g3⟩
/-- what a turn's steps need, out of what holds -/
theorem mw_car_of {S : Nat → Nat → Int32} {T t : Nat} (h : mw_S S T) (ht : t < T) : mw_car S t (mn (S 218 t)) (mn (S 219 t)) (mn (S 220 t)) (mn (S 218 (mn (S 220 t)))) (mn (S 220 (mn (S 220 t)))) (mn (S 221 t)) (mn (S 223 t)) (mn (S 231 0)) (ms_aq S) (mn (S 220 (ms_aq S))) := by
  have hT := h.1.1
  obtain ⟨w, a, k1, k2, k3, k4, k5, k6, k7, k8, k9⟩ := mw_S_t h ht
  have ew : mn (S 218 t) = w := by rw [k3]; exact mn_nI (by omega)
  have ea : mn (S 219 t) = a := by rw [k4]; exact mn_nI (by omega)
  rw [ew, ea]
  refine ⟨by omega, k3, k1, k4, k2, ⟨fun z => ?_, fun z => ?_⟩, mw_S_Q h, fun z => ?_, fun z => ?_, fun z c => ?_, fun z => ?_, fun z z2 => ?_, fun z => ?_⟩
  · obtain ⟨u, g1, g2⟩ := k5 z
    exact ⟨u, by omega, g2⟩
  · obtain ⟨u, g1, g2⟩ := k6 (by omega)
    exact ⟨u, g1, g2⟩
  · obtain ⟨u, g1, g2⟩ := k5 z
    have eu : mn (S 220 t) = u := by rw [g2]; exact mn_nI (by omega)
    rw [eu]
    obtain ⟨w', a', j1, j2, j3, -⟩ := mw_S_t h (t := u) (by omega)
    have ew' : mn (S 218 u) = w' := by rw [j3]; exact mn_nI (by omega)
    rw [ew']
    exact ⟨g2, by omega, j3, j1⟩
  · obtain ⟨u, g1, g2⟩ := k6 z
    exact mn_lt g2 g1 (by decide)
  · obtain ⟨u, g1, g2⟩ := k5 (by omega)
    have eu : mn (S 220 t) = u := by rw [g2]; exact mn_nI (by omega)
    rw [eu] at c ⊢
    obtain ⟨w', a', j1, j2, j3, j4, j5, j6, j7, j8, j9⟩ := mw_S_t h (t := u) (by omega)
    unfold ms_isClaim at c
    simp only [Bool.and_eq_true, Bool.or_eq_true, decide_eq_true_eq] at c
    obtain ⟨c1, c2⟩ := c
    rcases c2 with c2 | ⟨c2, -⟩
    · have : a' = 0 := (nI_eq (by omega) (by decide)).mp (show nI a' = nI 0 by rw [← j4]; exact c2)
      obtain ⟨y, y1, y2⟩ := j6 (by omega)
      exact mn_lt y2 y1 (by decide)
    · have : a' = 2 := (nI_eq (by omega) (by decide)).mp (show nI a' = nI 2 by rw [← j4]; exact c2)
      obtain ⟨y, y1, y2⟩ := j9 this c1
      exact mn_lt y2 y1 (by decide)
  · obtain ⟨v, g1, g2⟩ := k7 z
    exact mn_lt g2 g1 (by decide)
  · obtain ⟨v, g1, g2⟩ := k8 z z2
    exact mn_lt g2 g1 (by decide)
  · obtain ⟨g1, g2⟩ := mw_S_top h z
    obtain ⟨w', a', j1, j2, j3, j4, j5, j6, -⟩ := mw_S_t h g1
    have : a' = 1 := (nI_eq (by omega) (by decide)).mp (by rw [← j4]; exact g2)
    obtain ⟨y, y1, y2⟩ := j6 (by omega)
    exact mn_lt y2 y1 (by decide)
theorem pa_us_comm {S : Nat → Nat → Int32} {f g j q : Nat} {v w : Int32} (h : f ≠ g) : pa_us (pa_us S f j v) g q w = pa_us (pa_us S g q w) f j v := by
  funext a b
  unfold pa_us
  by_cases c1 : a = g ∧ b = q
  · rw [if_pos c1, if_neg (fun z => h (z.1.symm.trans c1.1)), if_pos c1]
  · rw [if_neg c1]
    by_cases c2 : a = f ∧ b = j
    · rw [if_pos c2, if_pos c2]
    · rw [if_neg c2, if_neg c2, if_neg c1]
theorem nI_ne {a b : Nat} (h : a ≠ b) (ha : a < 1000) (hb : b < 1000) : nI a ≠ nI b := fun e => h ((nI_eq (by omega) (by omega)).mp e)
theorem mw_S_does {S : Nat → Nat → Int32} {T t w a u wu x9 v Q q0 y : Nat} (h : mw_S S T) (ht : t < T) (ha : S 219 t = nI a) (ha16 : a < 16)
    (hQ : S 231 0 = nI Q) (hQ7 : Q < 7) (h1 : a = 1 → Q < 6) (hy : a = 2 → y < 10) (hw : (4 ≤ a ∧ a ≤ 8) → wu < 4) :
    mw_S (ms_does (pa_us S 224 t 1) t w a u wu x9 v Q q0 y) T := by
  have h2 : a ≠ 2 → mw_S (pa_us S 224 t 1) T := fun z => mw_S_st h (fun e => absurd (ha.symm.trans e) (nI_ne z (by omega) (by omega)))
  unfold ms_does
  split
  · unfold ms_doQ
    split
    · refine mw_S_rt (mw_S_push (h2 (by omega)) hQ (h1 (by omega)) ht ?_) (ms_one_r _)
      have : a = 1 := by assumption
      rw [pa_us_ne (by decide), ha, this]
    split
    · exact mw_S_pop (h2 (by omega)) hQ (by omega) (by omega)
    split
    · have e2 : a = 2 := by assumption
      have k : mw_S (pa_us (pa_us (pa_us S 224 t 1) 231 0 (nI (Q - 1))) 220 t (nI y)) T := by
        rw [pa_us_comm (f := 231) (g := 220) (by decide), pa_us_comm (f := 224) (g := 220) (by decide)]
        have k1 := mw_S_abt h (hy e2) (by rw [ha, e2])
        refine mw_S_pop (Q := Q) (mw_S_st k1 (fun _ _ => ⟨y, hy e2, by rw [pa_us_self]⟩)) ?_ (by omega) (by omega)
        exact hQ
      split
      · exact mw_S_says k ht
      · exact k
    · refine mw_S_pop (Q := Q) (mw_S_says (h2 (by omega)) ht) ?_ (by omega) (by split <;> omega)
      rw [ms_says_ne (by decide) (by decide) (by decide) (by decide)]
      exact hQ
  split
  · unfold ms_doO
    have k := h2 (by omega)
    split
    · refine mw_S_rt (mw_S_us ?_ (by decide)) (ms_one_r _)
      exact pz_it_inv (I := fun S' => mw_S S' T) (fun s k z => by unfold ms_ofs; exact mw_S_us z (by decide)) _ _ k
    split
    · have n9 : ∀ S' : Nat → Nat → Int32, S' 219 t = S 219 t → S' 219 t ≠ nI 9 := fun S' e => by rw [e, ha]; exact nI_ne (by omega) (by omega) (by omega)
      split
      · refine mw_S_us (mw_S_val ?_ (n9 _ ?_)) (by decide)
        · exact pz_it_inv (I := fun S' => mw_S S' T) (fun s k z => by unfold ms_ows; exact mw_S_us z (by decide)) _ _ (mw_S_us k (by decide))
        · rw [ms_ows_ne (by decide)]
          exact (pa_us_ne (by decide)).trans (pa_us_ne (by decide))
      · exact mw_S_us (mw_S_val (mw_S_us k (by decide)) (n9 _ rfl)) (by decide)
    · exact mw_S_us k (by decide)
  split
  · unfold ms_doT
    have k := h2 (by omega)
    split
    · exact mw_S_us k (by decide)
    split
    · exact mw_S_rt k (Or.inr ⟨wu, hw ⟨by omega, by omega⟩, rfl⟩)
    split
    · exact mw_S_dlv k
    split
    · exact mw_S_says k ht
    · exact mw_S_rt (mw_S_us (mw_S_says k ht) (by decide)) (Or.inr ⟨wu, hw ⟨by omega, by omega⟩, rfl⟩)
  · unfold ms_doA
    have k := h2 (by omega)
    split
    · exact pz_it_inv (I := fun S' => mw_S S' T) (fun s k z => by unfold ms_qxs; exact mw_S_us z (by decide)) _ _ (mw_S_us (mw_S_says k ht) (by decide))
    split
    · exact mw_S_com k ht
    · exact mw_S_hint k ht
theorem mw_S_carN {S : Nat → Nat → Int32} {T t w a u wu x9 v g Q q0 y : Nat} (h : mw_S S T) (ht : t < T) (hc : mw_car S t w a u wu x9 v g Q q0 y) : mw_S (ms_carN S t w a u wu x9 v g Q q0 y) T := by
  obtain ⟨c1, c2, c3, c4, c5, c6, c7, c8, c9, c10, c11, c12, c13⟩ := hc
  unfold ms_carN
  split
  · exact mw_S_st h (fun _ z => absurd z (by decide))
  rename_i hp
  simp only [Bool.not_eq_false, Bool.and_eq_true] at hp
  split
  · exact mw_S_st (mw_S_pre h) (fun _ z => absurd z (by decide))
  refine mw_S_does (mw_S_tk (mw_S_pre h) ht) ht ?_ c5 ?_ (by have := c7.2.1; omega) (fun z => ?_) (fun z => ?_) (fun z => ?_)
  · rw [ms_tk_ne (by decide) (by decide) (by decide) (by decide), ms_pre_ne (by decide) (by decide) (by decide) (by decide)]
    exact c4
  · rw [ms_tk_ne (by decide) (by decide) (by decide) (by decide), ms_pre_ne (by decide) (by decide) (by decide) (by decide)]
    exact c7.1
  · subst z
    exact ms_poss_ask c7 hp.1
  · subst z
    exact (c13 (ms_poss_ans c7 c3 hp.1)).2
  · exact (c8 (Or.inl z)).2.2.2
theorem mw_S_carry {S : Nat → Nat → Int32} {T t : Nat} (h : mw_S S T) (ht : t < T) : mw_S (ms_carry S t) T := mw_S_carN h ht (mw_car_of h ht)
/-- a turn is carried out -/
theorem c_X4_carry (G : pa_G) (l : Launch) (h : pa_H) (T t : Nat) (hS : mw_S h.2.1 T) (ht : t < T) : pa_ME G l mX4_carries 6 [pv_o 5 0, pv_i (nI t)] h (h.1, ms_carry h.2.1 t, h.2.2) :=
  c_X4_carries G l h t _ _ _ _ _ _ _ _ _ _ (mw_car_of hS ht)
