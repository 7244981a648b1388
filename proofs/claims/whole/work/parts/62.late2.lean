/-! WHEN WHAT WAS SAID REACHED: nothing beside the turns' places -/
theorem s9_dlv {S : Nat → Nat → Int32} {T t p : Nat} (ht : t < T) (hp : 4 * T ≤ p) : ms_dlv S t 229 p = S 229 p := by
  have key : ∀ n, n ≤ 4 → pz_it (ms_dls t) n S 229 p = S 229 p := by
    intro n
    induction n with
    | zero => intro _; rfl
    | succ n ih =>
      intro hn
      rw [pz_it_s]
      have hi := ih (by omega)
      generalize pz_it (ms_dls t) n S = S' at hi ⊢
      unfold ms_dls
      split
      · rw [pa_us_nj (by omega), pa_us_ne (by decide)]
        exact hi
      · exact hi
  exact key 4 (by omega)
theorem s9_does {S : Nat → Nat → Int32} {T t w a u wu x9 v Q q0 y p : Nat} (hu : a = 6 → u < T) (hp : 4 * T ≤ p) : ms_does S t w a u wu x9 v Q q0 y 229 p = S 229 p := by
  have h231 : (229 : Nat) ≠ 231 := by decide
  have h232 : (229 : Nat) ≠ 232 := by decide
  have h215 : (229 : Nat) ≠ 215 := by decide
  have h216 : (229 : Nat) ≠ 216 := by decide
  have h220 : (229 : Nat) ≠ 220 := by decide
  have h208 : (229 : Nat) ≠ 208 := by decide
  have h209 : (229 : Nat) ≠ 209 := by decide
  have h233 : (229 : Nat) ≠ 233 := by decide
  have h212 : (229 : Nat) ≠ 212 := by decide
  have h227 : (229 : Nat) ≠ 227 := by decide
  have h213 : (229 : Nat) ≠ 213 := by decide
  have h221 : (229 : Nat) ≠ 221 := by decide
  have h214 : (229 : Nat) ≠ 214 := by decide
  have h228 : (229 : Nat) ≠ 228 := by decide
  have h234 : (229 : Nat) ≠ 234 := by decide
  have h210 : (229 : Nat) ≠ 210 := by decide
  have h211 : (229 : Nat) ≠ 211 := by decide
  unfold ms_does
  split
  · unfold ms_doQ
    split
    · rw [ms_right_ne h215 h216, pa_us_ne h231, pa_us_ne h232]
    split
    · rw [pa_us_ne h231]
    split
    · split
      · rw [ms_says_ne h208 h209 h233 h212, pa_us_ne h220, pa_us_ne h231]
      · rw [pa_us_ne h220, pa_us_ne h231]
    · rw [pa_us_ne h231, ms_says_ne h208 h209 h233 h212]
  split
  · unfold ms_doO
    split
    · rw [ms_right_ne h215 h216, pa_us_ne h227, ms_ofs_ne h227]
    split
    · split
      · rw [pa_us_ne h214, pa_us_ne h221, ms_ows_ne h213, pa_us_ne h227]
      · rw [pa_us_ne h214, pa_us_ne h221, pa_us_ne h227]
    · rw [pa_us_ne h227]
  split
  · unfold ms_doT
    split
    · rw [pa_us_ne h228]
    split
    · rw [ms_right_ne h215 h216]
    split
    · rename_i e6
      exact s9_dlv (hu e6) hp
    split
    · rw [ms_says_ne h208 h209 h233 h212]
    · rw [ms_right_ne h215 h216, pa_us_ne h233, ms_says_ne h208 h209 h233 h212]
  · unfold ms_doA
    split
    · rw [ms_qxs_fr h233, pa_us_ne h234, ms_says_ne h208 h209 h233 h212]
    split
    · rw [ms_com_ne h208 h209 h233]
    · rw [pa_us_ne h211, pa_us_ne h210]
theorem s9_carry {S : Nat → Nat → Int32} {T t p : Nat} (hM : mw_S S T) (ht : t < T) (hp : 4 * T ≤ p) : ms_carry S t 229 p = S 229 p := by
  have hT := hM.1.1
  have hu : mn (S 219 t) = 6 → mn (S 220 t) < T := fun q => by
    obtain ⟨w', a', k1, k2, k3, k4, k5, -⟩ := mw_S_t hM ht
    have e' : mn (S 219 t) = a' := by rw [k4]; exact nI_clamp (by omega)
    rw [e'] at q
    obtain ⟨u, g1, g2⟩ := k5 (by omega)
    rw [g2, show mn (nI u) = u from nI_clamp (by omega)]
    omega
  have hpre : ∀ a, ms_pre S t a 229 p = S 229 p := fun a => by
    unfold ms_pre
    rw [pa_us_ne (by decide), pa_us_ne (by decide), s9_dlv ht hp]
  unfold ms_carry ms_carN
  split
  · exact pa_us_ne (by decide)
  split
  · rw [pa_us_ne (by decide), hpre]
  · rw [s9_does hu hp, pa_us_ne (by decide), ms_tk_ne (by decide) (by decide) (by decide) (by decide), hpre]
theorem s9_acks {S : Nat → Nat → Int32} {T p : Nat} (hM : mw_S S T) (hp : 4 * T ≤ p) : ms_acks S 229 p = S 229 p := by
  have h := pz_it_lt (f := ms_ack) (I := fun S' => mw_S S' T ∧ S' 229 p = S 229 p) 4 S (fun s k hk z => ⟨mw_S_ack z.1 hk, by
    unfold ms_ack
    split
    · rename_i c
      obtain ⟨t, ht, et⟩ := (z.1.2.2.1 k hk).resolve_left c.1
      have em : mn (s 230 k) = t := by rw [et]; exact mn_nI (by have := z.1.1.1; omega)
      rw [em, pa_us_ne (by decide), s9_carry z.1 ht hp]
      exact z.2
    · exact z.2⟩) ⟨hM, rfl⟩
  exact h.2
theorem s9_comes {S : Nat → Nat → Int32} {T p : Nat} (hp : 4 * T ≤ p) : ms_comes S T 229 p = S 229 p := by
  refine pz_it_lt (f := ms_cls) (I := fun S' => S' 229 p = S 229 p) (4 * T) S (fun s k hk z => ?_) rfl
  unfold ms_cls
  split
  · rw [pa_us_nj (by omega), pa_us_ne (by decide)]
    exact z
  · exact z
