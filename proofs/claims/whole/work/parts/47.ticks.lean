/-! WHAT HOLDS OF THE ROWS through a tick -/
theorem nI_nm2 {c : Nat} (h : c < 30000) : nI c ≠ -1 := fun e => by
  have h1 := nI_pos' (n := c) (by omega)
  rw [e] at h1
  exact absurd h1 (by decide)
/-- between the steps of a tick, c being the clock -/
def sc_A (S : Nat → Nat → Int32) (T c : Nat) : Prop := mw_S S T ∧ mj S T ∧ mj_l S ∧ mj_n S ∧ S 200 0 = nI c ∧ c < 30000
theorem mj_l_us {S : Nat → Nat → Int32} {f j : Nat} {v : Int32} (h : mj_l S) (hf : f ∉ [200, 228, 229]) : mj_l (pa_us S f j v) := mj_l_of h fun g hg q => pa_us_ne (fun z => hf (z ▸ hg))
/-- what one says, another doesn't -/
theorem sc_A_ne {S : Nat → Nat → Int32} {T c i k : Nat} (h : sc_A S T c) (hi : i < 4) (hk : k < 4) (hne : i ≠ k) (h1 : S 230 i ≠ -1) (h2 : S 230 k ≠ -1) : mn (S 230 i) ≠ mn (S 230 k) := fun e => by
  have a1 := (h.2.2.2.1 i hi h1).2.1
  have a2 := (h.2.2.2.1 k hk h2).2.1
  rw [e] at a1
  exact hne ((nI_eq (by omega) (by omega)).mp (a1.symm.trans a2))
theorem sc_A_ack {S : Nat → Nat → Int32} {T c k : Nat} (h : sc_A S T c) (hk : k < 4) : sc_A (ms_ack S k) T c ∧ sj_ph S T ≤ sj_ph (ms_ack S k) T ∧ (S 230 k ≠ -1 → S 219 (mn (S 230 k)) = 4 → sj_ph S T + 2 ≤ sj_ph (ms_ack S k) T) := by
  have hA := h
  obtain ⟨hM, hJ, hl, hn, hc, hc9⟩ := h
  by_cases e : S 230 k = -1
  · rw [ms_ack_0 e]
    exact ⟨hA, Nat.le_refl _, fun q => absurd e q⟩
  obtain ⟨eN, ltT, hT⟩ := mw_S_N hM hk e
  obtain ⟨n1, n2, n3⟩ := hn k hk e
  by_cases h4 : S 219 (mn (S 230 k)) = 4
  · rw [ms_ack_y eN (by omega) e h4]
    have hph := sj_ph_carry hM hJ ltT n1 (by rw [hc]; exact nI_nm2 hc9)
    rw [sj_ph_us (by decide)]
    have hh := hA
    have hne := fun i hi hik h1 => sc_A_ne (i := i) (k := k) hh hi hk hik h1 e
    generalize mn (S 230 k) = t at eN ltT n1 n2 n3 h4 hph hne ⊢
    refine ⟨⟨mw_S_now (mw_S_carry hM ltT), mj_us (mj_carry hM hJ ltT n1) (by decide), mj_l_us (mj_l_carry hl hc hc9) (by decide), fun i hi h1 => ?_, ?_, hc9⟩, by omega, fun _ _ => hph⟩
    · by_cases c1 : i = k
      · rw [c1, pa_us_self] at h1
        exact absurd rfl h1
      · have e230 : pa_us (ms_carry S t) 230 k (-1) 230 i = S 230 i := (pa_us_nj c1).trans (ms_carry_ne (by decide))
        rw [e230] at h1 ⊢
        obtain ⟨m1, m2, m3⟩ := hn i hi h1
        refine ⟨?_, ?_, fun u hu => ?_⟩
        · rw [pa_us_ne (by decide), ms_carry_224.1 (hne i hi c1 h1)]
          exact m1
        · rw [pa_us_ne (by decide), ms_carry_ne (by decide)]
          exact m2
        · rw [pa_us_ne (by decide), ms_carry_227a h4] at hu
          exact m3 u hu
    · rw [pa_us_ne (by decide), ms_carry_ne (by decide)]
      exact hc
  · rw [ms_ack_n eN (by omega) h4]
    exact ⟨hA, Nat.le_refl _, fun _ q => absurd q h4⟩
theorem sc_A_acks {S : Nat → Nat → Int32} {T c : Nat} (h : sc_A S T c) : ∀ k, k ≤ 4 → sc_A (pz_it ms_ack k S) T c
  | 0, _ => h
  | k + 1, hk => (sc_A_ack (sc_A_acks h k (by omega)) (by omega)).1
theorem sc_A_ph {S : Nat → Nat → Int32} {T c : Nat} (h : sc_A S T c) {k : Nat} (hk : k ≤ 4) : sj_ph (pz_it ms_ack k S) T ≤ sj_ph (ms_acks S) T :=
  pz_it_mono (m := fun S' => sj_ph S' T) (I := fun S' => sc_A S' T c) (fun s k hk q => ⟨(sc_A_ack q hk).1, (sc_A_ack q hk).2.1⟩) h (4 - k) k (by omega)
/-- what the class holds for said, once the first k have been looked at for ACKs -/
def sc_Yk (z : sj_Z) (S : Nat → Nat → Int32) (T k : Nat) : Prop := sc_Y z S T ∧ ∀ j, k ≤ j → j < 4 → z.2 j = S 230 j
theorem sc_Yk0 {z : sj_Z} {S : Nat → Nat → Int32} {T c : Nat} (hA : sc_A S T c) (hz : ∀ j, j < 4 → z.2 j = S 230 j) : sc_Yk z S T 0 :=
  ⟨fun i hi => ⟨fun h => ⟨hz i hi, (hA.2.2.2.1 i hi h).1, (hA.2.2.2.1 i hi h).2.1⟩, fun h => Or.inl ((hz i hi).trans h)⟩, fun j _ hj => hz j hj⟩
theorem sc_Yk_ack {z : sj_Z} {S : Nat → Nat → Int32} {T c k : Nat} (hA : sc_A S T c) (hY : sc_Yk z S T k) (hk : k < 4) : sc_Yk z (ms_ack S k) T (k + 1) := by
  obtain ⟨hY1, hY2⟩ := hY
  by_cases e : S 230 k = -1
  · rw [ms_ack_0 e]
    exact ⟨hY1, fun j h1 h2 => hY2 j (by omega) h2⟩
  have hh := hA
  obtain ⟨hM, hJ, hl, hn, hc, hc9⟩ := hA
  obtain ⟨eN, ltT, hT⟩ := mw_S_N hM hk e
  obtain ⟨n1, n2, n3⟩ := hn k hk e
  by_cases h4 : S 219 (mn (S 230 k)) = 4
  · rw [ms_ack_y eN (by omega) e h4]
    have hne := fun i hi hik h1 => sc_A_ne (i := i) (k := k) hh hi hk hik h1 e
    generalize mn (S 230 k) = t at eN ltT n1 n2 n3 h4 hne ⊢
    have e230 : ∀ i, i ≠ k → pa_us (ms_carry S t) 230 k (-1) 230 i = S 230 i := fun i c1 => (pa_us_nj c1).trans (ms_carry_ne (by decide))
    refine ⟨fun i hi => ?_, fun j h1 h2 => ?_⟩
    · obtain ⟨y1, y2⟩ := hY1 i hi
      by_cases c1 : i = k
      · subst c1
        rw [pa_us_self]
        refine ⟨fun h => absurd rfl h, fun _ => Or.inr ⟨t, ltT, (hY2 i (by omega) hi).trans eN, ?_⟩⟩
        rw [pa_us_ne (by decide)]
        exact (ms_carry_224 (k := t)).2
      · rw [e230 i c1]
        refine ⟨fun h => ?_, fun h => ?_⟩
        · obtain ⟨m1, m2, m3⟩ := y1 h
          refine ⟨m1, ?_, ?_⟩
          · rw [pa_us_ne (by decide), ms_carry_224.1 (hne i hi c1 h)]
            exact m2
          · rw [pa_us_ne (by decide), ms_carry_ne (by decide)]
            exact m3
        · rcases y2 h with q | ⟨t', q1, q2, q3⟩
          · exact Or.inl q
          · refine Or.inr ⟨t', q1, q2, ?_⟩
            rw [pa_us_ne (by decide), ms_carry_224.1 (fun z => q3 (by rw [z]; exact n1))]
            exact q3
    · rw [e230 j (by omega)]
      exact hY2 j (by omega) h2
  · rw [ms_ack_n eN (by omega) h4]
    exact ⟨hY1, fun j h1 h2 => hY2 j (by omega) h2⟩
-- what is lost
theorem ms_flo_at {S : Nat → Nat → Int32} {b : Int32} : ∀ n, (∀ f, f ≠ 224 → f ≠ 230 → ∀ j, pz_it (ms_flo b) n S f j = S f j) ∧ (∀ i, i < n → pz_it (ms_flo b) n S 230 i = -1) ∧ (∀ i, n ≤ i → pz_it (ms_flo b) n S 230 i = S 230 i) ∧
    (∀ i, i < n → S 230 i ≠ -1 → nI i ≠ b → pz_it (ms_flo b) n S 224 (mn (S 230 i)) = 2) ∧ (∀ t, pz_it (ms_flo b) n S 224 t = S 224 t ∨ (pz_it (ms_flo b) n S 224 t = 2 ∧ ∃ i, i < n ∧ S 230 i ≠ -1 ∧ nI i ≠ b ∧ t = mn (S 230 i)))
  | 0 => ⟨fun _ _ _ _ => rfl, fun i hi => absurd hi (Nat.not_lt_zero i), fun _ _ => rfl, fun i hi => absurd hi (Nat.not_lt_zero i), fun _ => Or.inl rfl⟩
  | n + 1 => by
    obtain ⟨a1, a2, a3, a4, a5⟩ := ms_flo_at (S := S) (b := b) n
    have e230 := a3 n (Nat.le_refl n)
    rw [pz_it_s]
    generalize pz_it (ms_flo b) n S = L at a1 a2 a3 a4 a5 e230 ⊢
    unfold ms_flo
    rw [e230]
    by_cases c : S 230 n ≠ -1 ∧ nI n ≠ b
    · rw [if_pos c]
      refine ⟨fun f h1 h2 j => ?_, fun i hi => ?_, fun i hi => ?_, fun i hi h1 h2 => ?_, fun t => ?_⟩
      · rw [pa_us_ne h2, pa_us_ne h1]
        exact a1 f h1 h2 j
      · by_cases ci : i = n
        · rw [ci, pa_us_self]
        · rw [pa_us_nj ci, pa_us_ne (by decide)]
          exact a2 i (by omega)
      · rw [pa_us_nj (by omega), pa_us_ne (by decide)]
        exact a3 i (by omega)
      · rw [pa_us_ne (by decide)]
        by_cases cq : mn (S 230 i) = mn (S 230 n)
        · rw [cq, pa_us_self]
        · rw [pa_us_nj cq]
          by_cases ci : i = n
          · exact absurd (by rw [ci]) cq
          · exact a4 i (by omega) h1 h2
      · rw [pa_us_ne (by decide)]
        by_cases cq : t = mn (S 230 n)
        · rw [cq, pa_us_self]
          exact Or.inr ⟨rfl, n, by omega, c.1, c.2, rfl⟩
        · rw [pa_us_nj cq]
          rcases a5 t with q | ⟨q1, i, q2, q3⟩
          · exact Or.inl q
          · exact Or.inr ⟨q1, i, by omega, q3⟩
    · rw [if_neg c]
      refine ⟨fun f h1 h2 j => ?_, fun i hi => ?_, fun i hi => ?_, fun i hi h1 h2 => ?_, fun t => ?_⟩
      · rw [pa_us_ne h2]
        exact a1 f h1 h2 j
      · by_cases ci : i = n
        · rw [ci, pa_us_self]
        · rw [pa_us_nj ci]
          exact a2 i (by omega)
      · rw [pa_us_nj (by omega)]
        exact a3 i (by omega)
      · rw [pa_us_ne (by decide)]
        by_cases ci : i = n
        · exact absurd ⟨ci ▸ h1, ci ▸ h2⟩ c
        · exact a4 i (by omega) h1 h2
      · rw [pa_us_ne (by decide)]
        rcases a5 t with q | ⟨q1, i, q2, q3⟩
        · exact Or.inl q
        · exact Or.inr ⟨q1, i, by omega, q3⟩
theorem ms_lose_ne {S : Nat → Nat → Int32} {f j : Nat} (h1 : f ≠ 224) (h2 : f ≠ 230) : ms_lose S f j = S f j := (ms_flo_at 4).1 f h1 h2 j
theorem ms_lose_230 {S : Nat → Nat → Int32} {i : Nat} (hi : i < 4) : ms_lose S 230 i = -1 := (ms_flo_at 4).2.1 i hi
theorem ms_lose_2 {S : Nat → Nat → Int32} {i : Nat} (hi : i < 4) (h1 : S 230 i ≠ -1) (h2 : nI i ≠ ms_best S) : ms_lose S 224 (mn (S 230 i)) = 2 := (ms_flo_at 4).2.2.2.1 i hi h1 h2
theorem ms_lose_t {S : Nat → Nat → Int32} (t : Nat) : ms_lose S 224 t = S 224 t ∨ (ms_lose S 224 t = 2 ∧ ∃ i, i < 4 ∧ S 230 i ≠ -1 ∧ nI i ≠ ms_best S ∧ t = mn (S 230 i)) := (ms_flo_at 4).2.2.2.2 t
theorem mj_flo {S : Nat → Nat → Int32} {T c : Nat} {b : Int32} (h : sc_A S T c) : ∀ n, n ≤ 4 → mj (pz_it (ms_flo b) n S) T ∧ sj_ph S T ≤ sj_ph (pz_it (ms_flo b) n S) T
  | 0, _ => ⟨h.2.1, Nat.le_refl _⟩
  | n + 1, hn => by
    obtain ⟨ih, ihp⟩ := mj_flo (b := b) h n (by omega)
    obtain ⟨a1, a2, a3, a4, a5⟩ := ms_flo_at (S := S) (b := b) n
    have e230 := a3 n (Nat.le_refl n)
    rw [pz_it_s]
    have h5 : S 230 n ≠ -1 → pz_it (ms_flo b) n S 224 (mn (S 230 n)) = 0 := fun hne => by
      rcases a5 (mn (S 230 n)) with q | ⟨q1, i, q2, q3, q4, q5⟩
      · rw [q]
        exact (h.2.2.2.1 n (by omega) hne).1
      · exact absurd q5.symm (sc_A_ne h (by omega) (by omega) (by omega) q3 hne)
    generalize pz_it (ms_flo b) n S = L at ih ihp e230 h5 ⊢
    unfold ms_flo
    rw [e230]
    by_cases c1 : S 230 n ≠ -1 ∧ nI n ≠ b
    · rw [if_pos c1]
      have ltT := (mw_S_N h.1 (show n < 4 by omega) c1.1).2.1
      refine ⟨mj_us (mj_st ih ltT (h5 c1.1) (by decide)) (by decide), ?_⟩
      rw [sj_ph_us (by decide)]
      have hns := sj_ns_up (S := L) (S' := pa_us L 224 (mn (S 230 n)) 2) ltT (h5 c1.1) (by rw [pa_us_self]; decide) (fun j hj => pa_us_nj hj)
      have hpt : sj_pt (pa_us L 224 (mn (S 230 n)) 2) T = sj_pt L T := sj_pt_us (by decide)
      unfold sj_ph at ihp ⊢
      omega
    · rw [if_neg c1]
      exact ⟨mj_us ih (by decide), by rw [sj_ph_us (by decide)]; exact ihp⟩
theorem sj_lose {K : Nat → Nat → Nat → Int32} {N : Nat → Nat} {T D e c : Nat} {z : sj_Z} {S : Nat → Nat → Int32} (hs : sj_M K N T D z e S) (hz : z.1 = false) (hA : sc_A S T c) (hY : sc_Y z S T) : sj_M K N T D (true, z.2) e (ms_lose S) := by
  have eS : ∀ f, f ≠ 224 → f ≠ 230 → ∀ j, ms_lose S f j = S f j := fun f h1 h2 j => ms_lose_ne h1 h2
  obtain ⟨hP, hN, a40, a125, a163, a47, a128, a51, a52, a53, ast, aphi⟩ := hs
  refine ⟨sj_P_of hP (fun q hq o j => rfl) (fun q hq j => eS q.2.1 ?_ ?_ j), ?_, a40, a125, fun j hj => ?_, a47, fun t ht => ?_, ?_, ?_, ?_, ?_, ?_⟩
  · have : ∀ q ∈ sj_T, q.2.1 ≠ 224 := by decide
    exact this q hq
  · have : ∀ q ∈ sj_T, q.2.1 ≠ 230 := by decide
    exact this q hq
  · rw [eS 231 (by decide) (by decide)]
    exact hN
  · rw [eS 232 (by decide) (by decide)]
    exact a163 j hj
  · have k0 : K 128 t 0 = S 224 t := by
      rcases a128 t ht with q | ⟨q, -⟩
      · exact q
      · rw [hz] at q; cases q
    rcases ms_lose_t (S := S) t with q | ⟨q1, i, q2, q3, q4, q5⟩
    · exact Or.inl (k0.trans q.symm)
    · obtain ⟨y1, y2, y3⟩ := (hY i q2).1 q3
      obtain ⟨eN, -, -⟩ := mw_S_N hA.1 q2 q3
      refine Or.inr ⟨rfl, ⟨i, q2, by rw [q5]; exact y1.trans eN⟩, ?_, q1⟩
      rw [k0, q5]
      exact y2
  · intro i a hi ha
    rw [eS 210 (by decide) (by decide), eS 211 (by decide) (by decide)]
    exact a51 i a hi ha
  · intro i a hi ha
    obtain ⟨b, c1, c2, c3⟩ := a52 i a hi ha
    exact ⟨b, c1, c2, fun r hr => by rw [eS 234 (by decide) (by decide)]; exact c3 r hr⟩
  · intro i a hi ha
    obtain ⟨b, c1, c2, c3⟩ := a53 i a hi ha
    exact ⟨b, c1, c2, fun r hr => by rw [eS 233 (by decide) (by decide)]; exact c3 r hr⟩
  · intro i a hi ha
    rw [eS 208 (by decide) (by decide)]
    exact ast i a hi ha
  · unfold sj_nz sj_nh sj_nd at aphi ⊢
    rw [show ms_lose S 208 = S 208 from funext (eS 208 (by decide) (by decide)), show ms_lose S 210 = S 210 from funext (eS 210 (by decide) (by decide)), show ms_lose S 225 = S 225 from funext (eS 225 (by decide) (by decide))]
    exact aphi
/-- the one with the floor, m, says t -/
theorem sc_fl {S : Nat → Nat → Int32} {T c : Nat} (hA : sc_A S T c) (hb : ms_best S ≠ -1) : ∃ m t, m < 4 ∧ ms_best S = nI m ∧ S 230 m ≠ -1 ∧ S 230 m = nI t ∧ t < T ∧ S 224 t = 0 ∧ S 218 t = nI m ∧ (∀ u, S 227 u ≠ 0 → u < t) ∧ ms_lose S 224 t = 0 ∧ ms_floor S = ms_carry (ms_lose S) t := by
  obtain ⟨m, m4, eb, hm⟩ := (ms_bk_r hA.1 4 (by omega)).resolve_left hb
  obtain ⟨eN, ltT, hT⟩ := mw_S_N hA.1 m4 hm
  obtain ⟨n1, n2, n3⟩ := hA.2.2.2.1 m m4 hm
  refine ⟨m, mn (S 230 m), m4, eb, hm, eN, ltT, n1, n2, n3, ?_, ?_⟩
  · rcases ms_lose_t (S := S) (mn (S 230 m)) with q | ⟨q1, i, q2, q3, q4, q5⟩
    · rw [q]; exact n1
    · exact absurd q5.symm (sc_A_ne hA q2 m4 (fun z => q4 (by rw [z]; exact eb.symm)) q3 hm)
  · unfold ms_floor
    rw [if_neg hb, show ms_best S = nI m from eb, show mn (nI m) = m from nI_clamp (by omega)]
/-- behind the floor: nothing is said any more -/
def sc_B (z : sj_Z) (S : Nat → Nat → Int32) (T c : Nat) : Prop := mw_S S T ∧ mj S T ∧ mj_l S ∧ (∀ i, i < 4 → S 230 i = -1) ∧ S 200 0 = nI c ∧ c < 30000 ∧ ∀ i, i < 4 → z.2 i = -1 ∨ ∃ t, t < T ∧ z.2 i = nI t ∧ S 224 t ≠ 0
theorem sc_A_lose {S : Nat → Nat → Int32} {T c : Nat} (hA : sc_A S T c) : mw_S (ms_lose S) T ∧ mj (ms_lose S) T ∧ mj_l (ms_lose S) ∧ ms_lose S 200 0 = nI c ∧ sj_ph S T ≤ sj_ph (ms_lose S) T :=
  ⟨mw_S_lose hA.1, (mj_flo hA 4 (by omega)).1, mj_l_of hA.2.2.1 (fun g hg q => ms_lose_ne (by intro z; subst z; revert hg; decide) (by intro z; subst z; revert hg; decide)), (ms_lose_ne (by decide) (by decide)).trans hA.2.2.2.2.1, (mj_flo hA 4 (by omega)).2⟩
theorem sc_A_floor {z : sj_Z} {S : Nat → Nat → Int32} {T c : Nat} (hA : sc_A S T c) (hY : sc_Y z S T) : sc_B z (ms_floor S) T c ∧ sj_ph S T ≤ sj_ph (ms_floor S) T ∧ (ms_best S ≠ -1 → sj_ph S T + 2 ≤ sj_ph (ms_floor S) T) := by
  obtain ⟨l1, l2, l3, l4, l5⟩ := sc_A_lose hA
  have hc9 := hA.2.2.2.2.2
  by_cases hb : ms_best S = -1
  · have ef : ms_floor S = ms_lose S := if_pos hb
    rw [ef]
    refine ⟨⟨l1, l2, l3, fun i hi => ms_lose_230 hi, l4, hc9, fun i hi => ?_⟩, l5, fun q => absurd hb q⟩
    obtain ⟨y1, y2⟩ := hY i hi
    by_cases h : S 230 i = -1
    · rcases y2 h with q | ⟨t, q1, q2, q3⟩
      · exact Or.inl q
      · refine Or.inr ⟨t, q1, q2, ?_⟩
        rcases ms_lose_t (S := S) t with r | ⟨r, -⟩
        · rw [r]; exact q3
        · rw [r]; decide
    · obtain ⟨eN, ltT, -⟩ := mw_S_N hA.1 hi h
      refine Or.inr ⟨mn (S 230 i), ltT, (y1 h).1.trans eN, ?_⟩
      rw [ms_lose_2 hi h (by rw [hb]; exact nI_nm (by omega))]
      decide
  · obtain ⟨m, t, m4, eb, hm, eN, ltT, n1, n2, n3, n4, ef⟩ := sc_fl hA hb
    rw [ef]
    have hph := sj_ph_carry l1 l2 ltT n4 (by rw [l4]; exact nI_nm2 hc9)
    refine ⟨⟨mw_S_carry l1 ltT, mj_carry l1 l2 ltT n4, mj_l_carry l3 l4 hc9, fun i hi => (ms_carry_ne (by decide)).trans (ms_lose_230 hi), (ms_carry_ne (by decide)).trans l4, hc9, fun i hi => ?_⟩, by omega, fun _ => by omega⟩
    obtain ⟨y1, y2⟩ := hY i hi
    by_cases h : S 230 i = -1
    · rcases y2 h with q | ⟨t', q1, q2, q3⟩
      · exact Or.inl q
      · refine Or.inr ⟨t', q1, q2, ?_⟩
        rw [ms_carry_224.1 (fun z => q3 (by rw [z]; exact n1))]
        rcases ms_lose_t (S := S) t' with r | ⟨r, -⟩
        · rw [r]; exact q3
        · rw [r]; decide
    · obtain ⟨eNi, ltTi, -⟩ := mw_S_N hA.1 hi h
      refine Or.inr ⟨mn (S 230 i), ltTi, (y1 h).1.trans eNi, ?_⟩
      by_cases ci : i = m
      · rw [ci, eN, show mn (nI t) = t from nI_clamp (by have := hA.1.1.1; omega)]
        exact (ms_carry_224 (k := t)).2
      · have h9 := sc_A_ne hA hi m4 ci h hm
        rw [eN, show mn (nI t) = t from nI_clamp (by have := hA.1.1.1; omega)] at h9
        rw [ms_carry_224.1 h9, ms_lose_2 hi h (by rw [eb]; exact fun q => ci ((nI_eq (by omega) (by omega)).mp q))]
        decide
-- the rest of a tick
theorem nI_suc_le {c : Nat} {x : Int32} (hc : c < 30000) (h : nI c < x) : nI (c + 1) ≤ x := by
  rw [Int32.lt_iff_toInt_lt, nI_toInt (by omega)] at h
  rw [Int32.le_iff_toInt_le, nI_toInt (by omega)]
  omega
theorem mj_l0_clk {S : Nat → Nat → Int32} {c : Nat} (h : mj_l S) (hc : S 200 0 = nI c) (hc9 : c < 30000) : mj_l0 (ms_clk S) := fun p hp => by
  unfold ms_clk at hp ⊢
  rw [pa_us_ne (by decide)] at hp
  rw [pa_us_self, pa_us_ne (by decide), hc, nI_1]
  exact nI_suc_le hc9 (by rw [← hc]; exact h p hp)
theorem mj_comes {S : Nat → Nat → Int32} {T : Nat} (h : mj S T) : mj (ms_comes S T) T := by
  refine mj_228 h (fun f h1 h2 j => ms_comes_ne h1 h2) ?_
  refine pz_it_lt (f := ms_cls) (I := fun S' => mj_g S' T) (4 * T) S (fun s k hk z => ?_) h.2.2.2.2.2
  unfold ms_cls
  split
  · refine ⟨fun q => ?_, fun q hq => ?_⟩
    · rw [pa_us_ne (by decide)]
      by_cases c : q = k
      · rw [c, pa_us_self]
        split <;> decide
      · rw [pa_us_nj c]
        exact z.1 q
    · rw [pa_us_ne (by decide), pa_us_nj (by omega)]
      exact z.2 q hq
  · exact z
theorem mj_l_comes {S : Nat → Nat → Int32} {T : Nat} (h : mj_g S T) : mj_l (ms_comes S T) := by
  have key : ∀ n, n ≤ 4 * T → (pz_it ms_cls n S 200 0 = S 200 0) ∧ (∀ p, p < n → pz_it ms_cls n S 228 p = 2 → S 200 0 < pz_it ms_cls n S 229 p) ∧ (∀ p, n ≤ p → pz_it ms_cls n S 228 p = S 228 p) := by
    intro n
    induction n with
    | zero => intro _; exact ⟨rfl, fun p hp => absurd hp (Nat.not_lt_zero p), fun _ _ => rfl⟩
    | succ n ih =>
      intro hn
      obtain ⟨i1, i2, i3⟩ := ih (by omega)
      rw [pz_it_s]
      generalize pz_it ms_cls n S = L at i1 i2 i3 ⊢
      unfold ms_cls
      by_cases c : L 228 n = 2 ∧ L 229 n ≤ L 200 0
      · rw [if_pos c]
        refine ⟨by rw [pa_us_ne (by decide), pa_us_ne (by decide)]; exact i1, fun p hp h2 => ?_, fun p hp => by rw [pa_us_ne (by decide), pa_us_nj (by omega)]; exact i3 p (by omega)⟩
        by_cases cp : p = n
        · subst cp
          rw [pa_us_ne (by decide), pa_us_self] at h2
          have h9 : (if ms_deaf L (p % 4) = true then (1 : Int32) else 3) ≠ 2 := by split <;> decide
          exact absurd h2 h9
        · rw [pa_us_ne (by decide), pa_us_nj cp] at h2
          rw [pa_us_nj cp, pa_us_ne (by decide)]
          exact i2 p (by omega) h2
      · rw [if_neg c]
        refine ⟨i1, fun p hp h2 => ?_, fun p hp => i3 p (by omega)⟩
        by_cases cp : p = n
        · subst cp
          rw [← i1]
          exact Int32.not_le.mp (fun q => c ⟨h2, q⟩)
        · exact i2 p (by omega) h2
  intro p hp
  obtain ⟨k1, k2, k3⟩ := key (4 * T) (Nat.le_refl _)
  unfold ms_comes at hp ⊢
  rw [k1]
  rcases Nat.lt_or_ge p (4 * T) with q | q
  · exact k2 p q hp
  · rw [k3 p q, h.2 p q] at hp
    exact absurd hp (by decide)
theorem ms_hard_ne {S : Nat → Nat → Int32} {f j : Nat} (h1 : f ≠ 208) (h2 : f ≠ 209) (h3 : f ≠ 233) (h4 : f ≠ 210) : ms_hard S f j = S f j :=
  pz_it_inv (f := ms_hds) (I := fun S' => S' f j = S f j) (fun s k h => by
    unfold ms_hds
    split
    · split
      · rw [ms_com_ne h1 h2 h3, pa_us_ne h4]; exact h
      · rw [pa_us_ne h4]; exact h
    · exact h) 40 S rfl
theorem ms_opn_ne {S : Nat → Nat → Int32} {T f j : Nat} (h1 : f ≠ 227) : ms_opn S T f j = S f j :=
  pz_it_inv (f := ms_ops) (I := fun S' => S' f j = S f j) (fun s k h => by
    unfold ms_ops
    rw [pa_us_ne h1]; exact h) T S rfl
theorem ms_sil_ne {S : Nat → Nat → Int32} {T f j : Nat} (h1 : f ≠ 208) (h2 : f ≠ 209) (h3 : f ≠ 233) : ms_sil S T f j = S f j := by
  unfold ms_sil
  split
  · rfl
  · exact pz_it_inv (f := ms_sis) (I := fun S' => S' f j = S f j) (fun s k h => by
      unfold ms_sis
      split
      · rw [ms_com_ne h1 h2 h3]; exact h
      · exact h) _ S rfl
theorem mj_opn {S : Nat → Nat → Int32} {T : Nat} (h : mj S T) : mj (ms_opn S T) T := by
  refine pz_it_inv (f := ms_ops) (I := fun S' => mj S' T) (fun s k z => ?_) T S h
  unfold ms_ops
  refine mj_227 z (fun f hf j => pa_us_ne hf) fun q => ?_
  rw [pa_us_ne (by decide : (219 : Nat) ≠ 227), pa_us_ne (by decide : (224 : Nat) ≠ 227)]
  by_cases c : q = k
  · rw [c, pa_us_self]
    cases hb : (decide (s 227 k ≠ 0) && decide (s 200 0 - s 225 k ≤ s 223 k))
    · exact Or.inl rfl
    · have h0 : s 227 k ≠ 0 := of_decide_eq_true ((Bool.and_eq_true _ _).mp hb).1
      exact Or.inr ⟨rfl, ((z.2.2.1 k).resolve_left h0).2⟩
  · rw [pa_us_nj c]
    exact z.2.2.1 q
theorem sc_hard {S : Nat → Nat → Int32} {T : Nat} (hM : mw_S S T) (hJ : mj S T) : mj (ms_hard S) T ∧ sj_pt S T ≤ sj_pt (ms_hard S) T := by
  have key : ∀ n, n ≤ 40 → sc_H S (pz_it ms_hds n S) T := by
    intro n
    induction n with
    | zero => intro _; exact ⟨hM, hJ, Nat.le_refl _⟩
    | succ n ih =>
      intro hn
      have q := sc_H_hds (i := n / 10) (a := n % 10) (ih (by omega)) (by omega) (by omega)
      rw [show 10 * (n / 10) + n % 10 = n by omega] at q
      exact q
  exact ⟨(key 40 (by omega)).2.1, (key 40 (by omega)).2.2⟩
theorem sc_sils {S : Nat → Nat → Int32} {T : Nat} (hM : mw_S S T) (hJ : mj S T) : mj (ms_sil S T) T ∧ sj_pt S T ≤ sj_pt (ms_sil S T) T := by
  unfold ms_sil
  split
  · exact ⟨hJ, Nat.le_refl _⟩
  · have key : ∀ n, n ≤ 4 * T → sc_J S (pz_it ms_sis n S) T := by
      intro n
      induction n with
      | zero => intro _; exact ⟨hM, hJ, Nat.le_refl _, fun _ _ _ _ _ => rfl⟩
      | succ n ih =>
        intro hn
        exact (sc_J_sis (by omega) (ih (by omega))).1
    exact ⟨(key _ (Nat.le_refl _)).2.1, (key _ (Nat.le_refl _)).2.2.1⟩
/-- the steps of a tick, named -/
def ms_g1 (S : Nat → Nat → Int32) : Nat → Nat → Int32 := ms_floor (ms_acks S)
def ms_g3 (T : Nat) (S : Nat → Nat → Int32) : Nat → Nat → Int32 := ms_comes (ms_clk (ms_g1 S)) T
def ms_g5 (T : Nat) (S : Nat → Nat → Int32) : Nat → Nat → Int32 := ms_opn (ms_hard (ms_g3 T S)) T
theorem ms_tick1_g {T k : Nat} {S : Nat → Nat → Int32} : ms_tick1 T S k = ms_sil (ms_g5 T S) T := rfl
theorem sc_tick {z : sj_Z} {S : Nat → Nat → Int32} {T c k : Nat} (hA : sc_A S T c) (hz : ∀ j, j < 4 → z.2 j = S 230 j) (hc1 : c + 1 < 30000) :
    sc_A (ms_acks S) T c ∧ sc_Y z (ms_acks S) T ∧ sc_B z (ms_g1 S) T c ∧ mj_l0 (ms_clk (ms_g1 S)) ∧ (mw_S (ms_g3 T S) T ∧ mj (ms_g3 T S) T) ∧ (mw_S (ms_g5 T S) T ∧ mj (ms_g5 T S) T) ∧ sc_A (ms_tick1 T S k) T (c + 1) ∧ (∀ i, i < 4 → ms_tick1 T S k 230 i = -1) ∧
    (sj_ph S T ≤ sj_ph (ms_acks S) T ∧ sj_ph (ms_acks S) T ≤ sj_ph (ms_g1 S) T ∧ sj_ph (ms_g3 T S) T = sj_ph (ms_g1 S) T ∧ sj_ph (ms_g3 T S) T ≤ sj_ph (ms_hard (ms_g3 T S)) T ∧ sj_ph (ms_g5 T S) T = sj_ph (ms_hard (ms_g3 T S)) T ∧ sj_ph (ms_g5 T S) T ≤ sj_ph (ms_tick1 T S k) T) ∧
    (ms_best (ms_acks S) ≠ -1 → sj_ph (ms_acks S) T + 2 ≤ sj_ph (ms_g1 S) T) := by
  have hT := hA.1.1.1
  have h1 : sc_A (ms_acks S) T c := sc_A_acks hA 4 (by omega)
  have hY : sc_Y z (ms_acks S) T := by
    have : ∀ n, n ≤ 4 → sc_Yk z (pz_it ms_ack n S) T n := by
      intro n
      induction n with
      | zero => intro _; exact sc_Yk0 hA hz
      | succ n ih => intro hn; exact sc_Yk_ack (sc_A_acks hA n (by omega)) (ih (by omega)) (by omega)
    exact (this 4 (by omega)).1
  obtain ⟨h2, p2, p2b⟩ := sc_A_floor h1 hY
  have h2B := h2
  obtain ⟨b1, b2, b3, b4, b5, b6, b7⟩ := h2
  have h3 : mj_l0 (ms_clk (ms_g1 S)) := mj_l0_clk b3 b5 b6
  have g3m : mw_S (ms_g3 T S) T := mw_S_comes (mw_S_clk b1)
  have g2j : mj (ms_clk (ms_g1 S)) T := mj_us b2 (by decide)
  have g3j : mj (ms_g3 T S) T := mj_comes g2j
  have g3l : mj_l (ms_g3 T S) := mj_l_comes g2j.2.2.2.2.2
  have g3c : ms_g3 T S 200 0 = nI (c + 1) := by
    unfold ms_g3
    rw [ms_comes_ne (by decide) (by decide)]
    unfold ms_clk
    rw [pa_us_self]
    show ms_floor (ms_acks S) 200 0 + 1 = _
    rw [b5, nI_1]
  have g3n : ∀ i, i < 4 → ms_g3 T S 230 i = -1 := fun i hi => by
    unfold ms_g3
    rw [ms_comes_ne (by decide) (by decide)]
    unfold ms_clk
    rw [pa_us_ne (by decide)]
    exact b4 i hi
  obtain ⟨g4j, p4⟩ := sc_hard g3m g3j
  have g4m := mw_S_hard g3m
  have g5m : mw_S (ms_g5 T S) T := mw_S_opn g4m
  have g5j : mj (ms_g5 T S) T := mj_opn g4j
  obtain ⟨g6j, p6⟩ := sc_sils g5m g5j
  have g6m : mw_S (ms_sil (ms_g5 T S) T) T := mw_S_sil g5m
  have e6 : ∀ f, f ≠ 208 → f ≠ 209 → f ≠ 233 → f ≠ 210 → f ≠ 227 → ∀ j, ms_tick1 T S k f j = ms_g3 T S f j := fun f q1 q2 q3 q4 q5 j => by
    rw [ms_tick1_g, ms_sil_ne q1 q2 q3]
    unfold ms_g5
    rw [ms_opn_ne q5, ms_hard_ne q1 q2 q3 q4]
  have n6 : ∀ i, i < 4 → ms_tick1 T S k 230 i = -1 := fun i hi => (e6 230 (by decide) (by decide) (by decide) (by decide) (by decide) i).trans (g3n i hi)
  refine ⟨h1, hY, h2B, h3, ⟨g3m, g3j⟩, ⟨g5m, g5j⟩, ⟨g6m, g6j, ?_, fun i hi h => absurd (n6 i hi) h, (e6 200 (by decide) (by decide) (by decide) (by decide) (by decide) 0).trans g3c, hc1⟩, n6, ⟨?_, p2, ?_, ?_, ?_, ?_⟩, p2b⟩
  · exact mj_l_of g3l fun g hg q => e6 g (by intro z; subst z; revert hg; decide) (by intro z; subst z; revert hg; decide) (by intro z; subst z; revert hg; decide) (by intro z; subst z; revert hg; decide) (by intro z; subst z; revert hg; decide) q
  · exact sc_A_ph hA (k := 0) (by omega)
  · unfold ms_g3
    rw [sj_ph_cong (S := ms_clk (ms_g1 S)) (fun g hg q => ms_comes_ne (by intro z; subst z; revert hg; decide) (by intro z; subst z; revert hg; decide))]
    exact sj_ph_us (by decide)
  · exact sj_ph_pt (fun j => ms_hard_ne (by decide) (by decide) (by decide) (by decide)) p4
  · exact sj_ph_cong (fun g hg q => ms_opn_ne (by intro z; subst z; revert hg; decide))
  · exact sj_ph_pt (fun j => ms_sil_ne (by decide) (by decide) (by decide)) p6
