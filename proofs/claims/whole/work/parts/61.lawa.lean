/-! WHAT HOLDS BETWEEN THE LAW'S CALLS, of the rows -/
theorem sj_M_235 {K : Nat → Nat → Nat → Int32} {N : Nat → Nat} {T D e : Nat} {z : sj_Z} {S S' : Nat → Nat → Int32} (h : sj_M K N T D z e S) (hS : ∀ f j, f ≠ 235 → S' f j = S f j) : sj_M K N T D z e S' :=
  ⟨sj_P_of h.1 (fun _ _ _ _ => rfl) (fun q hq j => hS q.2.1 j (by
    have : ∀ q ∈ sj_T, q.2.1 ≠ 235 := by decide
    exact this q hq)), sj_R_of h.2 (fun _ _ _ _ => rfl) (fun f hf j => hS f j (by
    have : ∀ f ∈ [208, 210, 211, 224, 225, 231, 232, 233, 234], f ≠ 235 := by decide
    exact this f hf))⟩
def sc_Af : List Nat := [200, 208, 209, 210, 211, 215, 217, 218, 219, 220, 221, 222, 223, 224, 225, 227, 228, 229, 230, 231, 232, 233]
theorem sc_A_of {S S' : Nat → Nat → Int32} {T c : Nat} (h : sc_A S T c) (e : ∀ f, f ∈ sc_Af → ∀ j, S' f j = S f j) : sc_A S' T c := by
  obtain ⟨h1, h2, h3, h4, h5, h6⟩ := h
  have k : ∀ {l : List Nat}, (∀ f, f ∈ l → f ∈ sc_Af) → ∀ f, f ∈ l → ∀ j, S' f j = S f j := fun hl f hf => e f (hl f hf)
  refine ⟨mw_S_of h1 (fun f j hf => k (l := [217, 218, 219, 220, 221, 223, 224, 231, 232, 230, 210, 211, 208, 209, 215]) (by decide) f hf j), mj_of h2 (k (by decide)), mj_l_of h3 (k (by decide)), fun i hi hn => ?_, (e 200 (by decide) 0).trans h5, h6⟩
  rw [e 230 (by decide)] at hn ⊢
  rw [e 224 (by decide), e 218 (by decide)]
  obtain ⟨a1, a2, a3⟩ := h4 i hi hn
  exact ⟨a1, a2, fun u hu => a3 u (by rwa [e 227 (by decide)] at hu)⟩
theorem sc_A_us {S : Nat → Nat → Int32} {T c f j : Nat} {v : Int32} (h : sc_A S T c) (hf : f ∉ sc_Af) : sc_A (pa_us S f j v) T c := sc_A_of h fun g hg q => pa_us_ne (fun z => hf (z ▸ hg))
section SAYA
variable {S : Nat → Nat → Int32} {T c sp a : Nat} {of how set fr : Int32}
theorem ms_say_A {f j : Nat} (h : f ∉ [218, 219, 220, 221, 222, 223, 225, 226]) (h1 : f ≠ 230) (h2 : f ≠ 217) : ms_say S T sp a of how set fr f j = S f j :=
  (pa_us_ne h2).trans ((pa_us_ne h1).trans (sc_dr_ne (S := S) (T := T) (sp := sp) (act := nI a) (of := of) (how := how) (set := set) (fr := fr) h))
theorem ms_say_B {f u : Nat} (h : u ≠ T) (h1 : f ≠ 230) (h2 : f ≠ 217) : ms_say S T sp a of how set fr f u = S f u :=
  (pa_us_ne h2).trans ((pa_us_ne h1).trans (sc_dr_nj (S := S) (T := T) (sp := sp) (act := nI a) (of := of) (how := how) (set := set) (fr := fr) h))
theorem ms_say_V : ms_say S T sp a of how set fr 218 T = nI sp ∧ ms_say S T sp a of how set fr 219 T = nI a ∧ ms_say S T sp a of how set fr 220 T = of ∧ ms_say S T sp a of how set fr 221 T = how ∧ ms_say S T sp a of how set fr 222 T = set ∧ ms_say S T sp a of how set fr 223 T = fr ∧ ms_say S T sp a of how set fr 225 T = -1 ∧ ms_say S T sp a of how set fr 217 0 = nI (T + 1) ∧ ms_say S T sp a of how set fr 230 sp = nI T ∧ (∀ k, k ≠ sp → ms_say S T sp a of how set fr 230 k = S 230 k) := by
  have hv := sc_dr_v (S := S) (T := T) (sp := sp) (act := nI a) (of := of) (how := how) (set := set) (fr := fr)
  have k : ∀ f, f ≠ 230 → f ≠ 217 → ms_say S T sp a of how set fr f T = sc_dr S T sp (nI a) of how set fr f T := fun f h1 h2 => (pa_us_ne h2).trans (pa_us_ne h1)
  refine ⟨(k 218 (by decide) (by decide)).trans hv.1, (k 219 (by decide) (by decide)).trans hv.2.1, (k 220 (by decide) (by decide)).trans hv.2.2.1, (k 221 (by decide) (by decide)).trans hv.2.2.2.1, (k 222 (by decide) (by decide)).trans hv.2.2.2.2.1, (k 223 (by decide) (by decide)).trans hv.2.2.2.2.2.1, (k 225 (by decide) (by decide)).trans hv.2.2.2.2.2.2.1, pa_us_self _ _ _ _, (pa_us_ne (by decide)).trans (pa_us_self _ _ _ _), fun q hq => (pa_us_ne (by decide)).trans ((pa_us_nj hq).trans (sc_dr_ne (S := S) (T := T) (sp := sp) (act := nI a) (of := of) (how := how) (set := set) (fr := fr) (by decide)))⟩
set_option maxHeartbeats 4000000 in
theorem sc_A_say (h : sc_A S T c) (hT1 : T < 100) (hsp : sp < 4) (ha : a < 16) (ht : ms_told (nI T) (nI sp) (nI a) of how set fr = true) : sc_A (ms_say S T sp a of how set fr) (T + 1) c := by
  obtain ⟨hM, hJ, hl, hn, h200, hc⟩ := h
  obtain ⟨x1, x2, ⟨m, m0, m1, m2, m3, m4⟩, x4, x5, x6, x7⟩ := sc_told_x (by omega) hsp ha ht
  obtain ⟨v1, v2, v3, v4, v5, v6, v7, v8, v9, v10⟩ := ms_say_V (S := S) (T := T) (sp := sp) (a := a) (of := of) (how := how) (set := set) (fr := fr)
  have hA := fun (f j : Nat) (q : f ∉ [218, 219, 220, 221, 222, 223, 225, 226]) (q1 : f ≠ 230) (q2 : f ≠ 217) => ms_say_A (S := S) (T := T) (sp := sp) (a := a) (of := of) (how := how) (set := set) (fr := fr) (j := j) q q1 q2
  have hB := fun (f u : Nat) (q : u ≠ T) (q1 : f ≠ 230) (q2 : f ≠ 217) => ms_say_B (S := S) (T := T) (sp := sp) (a := a) (of := of) (how := how) (set := set) (fr := fr) (f := f) q q1 q2
  generalize ms_say S T sp a of how set fr = S' at v1 v2 v3 v4 v5 v6 v7 v8 v9 v10 hA hB ⊢
  have h224 : S' 224 T = 0 := (hA 224 T (by decide) (by decide) (by decide)).trans (hJ.1.2 T (Nat.le_refl T))
  have ea : ∀ k, k < 16 → (nI a = nI k ↔ a = k) := fun k hk => nI_eq (by omega) (by omega)
  obtain ⟨⟨t1, t2, t3⟩, ⟨Q, q1, q2, q3, q4⟩, n5, n6, n7, n8⟩ := id hM
  obtain ⟨j1, j2, j3, j4, j5, j6⟩ := id hJ
  have l230 : ∀ k, k < 4 → S 230 k ≠ -1 → ∃ t, t < T ∧ S 230 k = nI t := fun k hk hne => (n5 k hk).resolve_left hne
  refine ⟨⟨⟨by omega, v8, fun t ht9 => ?_⟩, ⟨Q, q1, by rw [hA 231 0 (by decide) (by decide) (by decide)]; exact q2, fun j => by rw [hA 232 j (by decide) (by decide) (by decide)]; exact q3 j, fun j hj => ?_⟩, fun k hk => ?_, fun p hp => ?_, fun p hp => ?_, ?_⟩, ⟨⟨fun t ht9 => ?_, fun t ht9 => ?_⟩, mj_s_of j2 (fun j => hA 208 j (by decide) (by decide) (by decide)) (fun j => hA 209 j (by decide) (by decide) (by decide)), fun t => ?_, fun p hp h0 => ?_, mj_q_of j5 (fun j => hA 208 j (by decide) (by decide) (by decide)) (fun j => hA 233 j (by decide) (by decide) (by decide)), ⟨fun p => ?_, fun p hp => ?_⟩⟩, mj_l_of hl (fun f hf j => ?_), fun k hk hne => ?_, (hA 200 0 (by decide) (by decide) (by decide)).trans h200, hc⟩
  · by_cases e : t = T
    · subst e
      refine ⟨sp, a, hsp, ha, v1, v2, ?_, ?_, ?_, ?_, ?_⟩
      · rw [v3]; exact x1
      · rw [v3]; exact x2
      · rw [v4]; exact x6
      · rw [v6]; exact x7
      · intro _ q
        rw [h224] at q
        exact absurd q (by decide)
    · exact mw_t_of (t3 t (by omega)) (hB _ t e (by decide) (by decide)) (hB _ t e (by decide) (by decide)) (hB _ t e (by decide) (by decide)) (hB _ t e (by decide) (by decide)) (hB _ t e (by decide) (by decide)) (hB _ t e (by decide) (by decide))
  · obtain ⟨q, k1, k2, k3⟩ := q4 j hj
    exact ⟨q, by omega, by rw [hA 232 j (by decide) (by decide) (by decide)]; exact k2, by rw [hB 219 q (by omega) (by decide) (by decide)]; exact k3⟩
  · by_cases e : k = sp
    · subst e
      exact Or.inr ⟨T, by omega, v9⟩
    · rw [v10 k e]
      rcases n5 k hk with q | ⟨t, k1, k2⟩
      · exact Or.inl q
      · exact Or.inr ⟨t, by omega, k2⟩
  · rw [hA 210 p (by decide) (by decide) (by decide)] at hp
    obtain ⟨t, k1, k2⟩ := n6 p hp
    exact ⟨t, by omega, by rw [hA 211 p (by decide) (by decide) (by decide)]; exact k2⟩
  · rw [hA 208 p (by decide) (by decide) (by decide)] at hp
    obtain ⟨t, k1, k2⟩ := n7 p hp
    exact ⟨t, by omega, by rw [hA 209 p (by decide) (by decide) (by decide)]; exact k2⟩
  · unfold mw_r at n8 ⊢
    rw [hA 215 0 (by decide) (by decide) (by decide)]
    exact n8
  · by_cases e : t = T
    · subst e
      unfold mj_t
      rw [v2, v4, v5, v1, v7]
      refine ⟨fun q => x4 (q.elim (fun q => Or.inl ((ea 0 (by decide)).mp q)) (fun q => Or.inr ((ea 11 (by decide)).mp q))), fun q => x5 ((ea 2 (by decide)).mp q), ⟨m, m0, m1, m2, fun w hw e9 => ?_, fun q => m4 (q.elim (fun q => Or.inl ((ea 1 (by decide)).mp q)) (fun q => Or.inr ((ea 13 (by decide)).mp q)))⟩, fun _ => rfl⟩
      rw [← (nI_eq (by omega) (by omega)).mp e9]
      exact m3
    · exact mj_t_of (j1.1 t (by omega)) (fun f hf => hB f t e (by
        have : ∀ f ∈ [218, 219, 221, 222, 224, 225], f ≠ 230 := by decide
        exact this f hf) (by
        have : ∀ f ∈ [218, 219, 221, 222, 224, 225], f ≠ 217 := by decide
        exact this f hf))
  · rw [hA 224 t (by decide) (by decide) (by decide)]
    exact j1.2 t (by omega)
  · rw [hA 227 t (by decide) (by decide) (by decide)]
    rcases j3 t with q | ⟨k1, k2, k3, k4⟩
    · exact Or.inl q
    · exact Or.inr ⟨k1, by omega, by rw [hB 219 t (by omega) (by decide) (by decide)]; exact k3, by rw [hA 224 t (by decide) (by decide) (by decide)]; exact k4⟩
  · rw [hA 210 p (by decide) (by decide) (by decide)] at h0 ⊢
    obtain ⟨t, k1, k2⟩ := n6 p h0
    have em : mn (S 211 p) = t := by rw [k2]; exact mn_nI (by omega)
    have := j4 p hp h0
    rw [em] at this
    rw [hA 211 p (by decide) (by decide) (by decide), em, hB 221 t (by omega) (by decide) (by decide), hB 219 t (by omega) (by decide) (by decide)]
    exact this
  · rw [hA 228 p (by decide) (by decide) (by decide)]
    exact j6.1 p
  · rw [hA 228 p (by decide) (by decide) (by decide)]
    exact j6.2 p (by omega)
  · have : ∀ f ∈ [200, 228, 229], f ∉ [218, 219, 220, 221, 222, 223, 225, 226] ∧ f ≠ 230 ∧ f ≠ 217 := by decide
    exact hA f j (this f hf).1 (this f hf).2.1 (this f hf).2.2
  · by_cases e : k = sp
    · subst e
      rw [v9, show mn (nI T) = T from mn_nI (by omega)]
      refine ⟨h224, v1, fun u hu => ?_⟩
      rw [hA 227 u (by decide) (by decide) (by decide)] at hu
      rcases j3 u with q | ⟨-, k2, -⟩
      · exact absurd q hu
      · exact k2
    · rw [v10 k e] at hne ⊢
      obtain ⟨t, k1, k2⟩ := l230 k hk hne
      have em : mn (S 230 k) = t := by rw [k2]; exact mn_nI (by omega)
      obtain ⟨a1, a2, a3⟩ := hn k hk hne
      rw [em] at a1 a2 a3 ⊢
      exact ⟨by rw [hA 224 t (by decide) (by decide) (by decide)]; exact a1, by rw [hB 218 t (by omega) (by decide) (by decide)]; exact a2, fun u hu => a3 u (by rwa [hA 227 u (by decide) (by decide) (by decide)] at hu)⟩
end SAYA
