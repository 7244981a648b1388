/-! THE CLASS'S STATE, read off the reference's rows S: the plain fields; the rest (what is said, states, hints, reasons, quarrels as bits, steps); what a write does to both -/
def sj_T : List (Nat × (Nat × (Nat × (Nat × Nat)))) := [(41, 202, 1, 0, 1), (42, 203, 1, 0, 1), (43, 204, 1, 0, 1), (44, 205, 1, 0, 1), (45, 206, 1, 0, 1), (46, 212, 1, 0, 1), (48, 207, 10, 0, 10), (49, 208, 10, 0, 10), (50, 209, 10, 0, 10), (120, 218, 1, 1, 1), (121, 219, 1, 1, 1), (122, 222, 1, 1, 1), (123, 223, 1, 1, 1), (124, 226, 1, 1, 1), (126, 220, 1, 1, 1), (127, 221, 1, 1, 1), (129, 225, 1, 1, 1), (130, 227, 1, 1, 1), (131, 228, 4, 1, 4), (132, 229, 4, 1, 4), (161, 213, 8, 2, 8), (165, 201, 1, 2, 1), (166, 200, 1, 2, 1), (167, 215, 1, 2, 1), (168, 216, 1, 2, 1), (169, 214, 1, 2, 1)]
def sj_own (D k : Nat) : Nat := if k = 0 then 4 else if k = 1 then D else 1
def sj_P (K : Nat → Nat → Nat → Int32) (D : Nat) (S : Nat → Nat → Int32) : Prop := ∀ q ∈ sj_T, ∀ o j, o < sj_own D q.2.2.2.1 → j < q.2.2.2.2 → K q.1 o j = S q.2.1 (q.2.2.1 * o + j)
theorem sj_T1 : ∀ q ∈ sj_T, q.2.2.2.2 ≤ q.2.2.1 ∧ 0 < q.2.2.1 := by decide
theorem sj_T2 : ∀ q ∈ sj_T, ∀ r ∈ sj_T, q.1 = r.1 ∨ q.2.1 = r.2.1 → q = r := by decide
theorem sj_ix {m o j p q : Nat} (h0 : 0 < m) (h1 : j < m) (h2 : q < m) (h : m * p + q = m * o + j) : p = o ∧ q = j := by
  have e1 : (m * o + j) / m = o := by rw [Nat.mul_add_div h0, Nat.div_eq_of_lt h1, Nat.add_zero]
  have e2 : (m * p + q) / m = p := by rw [Nat.mul_add_div h0, Nat.div_eq_of_lt h2, Nat.add_zero]
  have e3 : p = o := by rw [← e1, ← e2, h]
  subst e3
  exact ⟨rfl, by omega⟩
theorem sj_P_up {K : Nat → Nat → Nat → Int32} {D : Nat} {S : Nat → Nat → Int32} {q : Nat × (Nat × (Nat × (Nat × Nat)))} (h : sj_P K D S) (hq : q ∈ sj_T) {o j : Nat} {v : Int32} (hj : j < q.2.2.2.2) : sj_P (pa_up K q.1 o j v) D (pa_us S q.2.1 (q.2.2.1 * o + j) v) := by
  intro r hr o' j' ho' hj'
  by_cases c : r = q
  · subst c
    by_cases e : o' = o ∧ j' = j
    · obtain ⟨rfl, rfl⟩ := e
      rw [pa_up_self, pa_us_self]
    · have t1 := sj_T1 r hr
      have hne : r.2.2.1 * o' + j' ≠ r.2.2.1 * o + j := fun z => e (sj_ix t1.2 (by omega) (by omega) z)
      rw [pa_us_nj hne, ← h r hr o' j' ho' hj']
      unfold pa_up
      exact if_neg (fun z => e ⟨z.2.1, z.2.2⟩)
  · have h1 : r.1 ≠ q.1 := fun z => c (sj_T2 r hr q hq (Or.inl z))
    have h2 : r.2.1 ≠ q.2.1 := fun z => c (sj_T2 r hr q hq (Or.inr z))
    rw [pa_us_ne h2, pa_up_ne h1]
    exact h r hr o' j' ho' hj'
/-- rows that the plain fields don't speak of -/
theorem sj_P_of {K K' : Nat → Nat → Nat → Int32} {D : Nat} {S S' : Nat → Nat → Int32} (h : sj_P K D S) (eK : ∀ q ∈ sj_T, ∀ o j, K' q.1 o j = K q.1 o j) (eS : ∀ q ∈ sj_T, ∀ j, S' q.2.1 j = S q.2.1 j) : sj_P K' D S' := fun q hq o j ho hj => by
  rw [eK q hq, eS q hq]
  exact h q hq o j ho hj
/-- how many of n -/
def sj_c (p : Nat → Bool) : Nat → Nat | 0 => 0 | n + 1 => sj_c p n + (p n).toNat
theorem sj_c_cong {p q : Nat → Bool} : ∀ {n : Nat}, (∀ k, k < n → p k = q k) → sj_c p n = sj_c q n
  | 0, _ => rfl
  | n + 1, h => by rw [sj_c, sj_c, sj_c_cong (fun k hk => h k (by omega)), h n (by omega)]
theorem sj_c_le (p : Nat → Bool) : ∀ n, sj_c p n ≤ n
  | 0 => Nat.le_refl _
  | n + 1 => by
    have := sj_c_le p n
    rw [sj_c]
    cases p n <;> simp <;> omega
/-- one place differs -/
theorem sj_c_up {p q : Nat → Bool} {i : Nat} : ∀ {n : Nat}, i < n → (∀ k, k < n → k ≠ i → p k = q k) → sj_c p n + (q i).toNat = sj_c q n + (p i).toNat
  | 0, h, _ => absurd h (Nat.not_lt_zero i)
  | n + 1, h, e => by
    rw [sj_c, sj_c]
    by_cases c : i = n
    · subst c
      rw [sj_c_cong (p := p) (q := q) (fun k hk => e k (by omega) (by omega))]
      omega
    · have := sj_c_up (n := n) (i := i) (by omega) (fun k hk h2 => e k (by omega) h2)
      rw [e n (by omega) (fun z => c z.symm)]
      omega
/-- what the steps leave of a cell -/
def sj_fs (K : Nat → Nat → Nat → Int32) (sp a : Nat) (v : Int32) (i : Nat) : Int32 := if K 80 i 0 = nI sp ∧ K 81 i 0 = nI a then K 82 i 0 else v
abbrev sj_nz (S : Nat → Nat → Int32) : Nat := sj_c (fun p => decide (S 208 p = 0)) 40
abbrev sj_nh (S : Nat → Nat → Int32) : Nat := sj_c (fun p => decide (S 210 p ≠ 0)) 40
abbrev sj_nd (S : Nat → Nat → Int32) (T : Nat) : Nat := sj_c (fun t => decide (S 225 t ≠ -1)) T
/-- z: whether turns may count as lost already that the class still holds for said, and who has said what since the last tick, as the class holds it -/
abbrev sj_Z : Type := Bool × (Nat → Int32)
def sj_R (K : Nat → Nat → Nat → Int32) (N : Nat → Nat) (T D : Nat) (z : sj_Z) (e : Nat) (S : Nat → Nat → Int32) : Prop :=
  (N 0 = D ∧ N 2 = T ∧ T ≤ D ∧ N 8 = 0 ∧ N 9 = 0 ∧ N 1 = N 4 ∧ S 231 0 = nI (N 3) ∧ N 3 ≤ 6 ∧ N 2 ≤ N 5 ∧ N 3 ≤ N 6 ∧ N 4 ≤ N 7 ∧ N 5 < 1000 ∧ N 6 < 1000 ∧ N 7 < 1000) ∧
  (∀ i, i < 4 → K 40 i 0 = nI i) ∧ (∀ t, t < T → K 125 t 0 = nI t) ∧
  (∀ j, j < N 3 → K 163 0 j = S 232 j) ∧
  (∀ i, i < 4 → K 47 i 0 = z.2 i) ∧
  (∀ t, t < D → K 128 t 0 = S 224 t ∨ (z.1 = true ∧ (∃ j, j < 4 ∧ z.2 j = nI t) ∧ K 128 t 0 = 0 ∧ S 224 t = 2)) ∧
  (∀ i a, i < 4 → a < 10 → K 51 i a = if S 210 (10 * i + a) = 0 then -1 else S 211 (10 * i + a)) ∧
  (∀ i a, i < 4 → a < 10 → ∃ b, b < 1024 ∧ K 52 i a = nI b ∧ ∀ r, r < 10 → b.testBit r = decide (S 234 (10 * (10 * i + a) + r) ≠ 0)) ∧
  (∀ i j, i < 4 → j < 4 → ∃ b, b < 1024 ∧ K 53 i j = nI b ∧ ∀ a, a < 10 → b.testBit a = decide (S 233 (40 * i + 10 * j + a) ≠ 0)) ∧
  (∀ i a, i < 4 → a < 10 → pz_it (sj_fs K i a) (N 1) 0 = S 208 (10 * i + a)) ∧
  N 1 + sj_nz S + sj_nh S + e ≤ 40 + 3 * sj_nd S T
/-- T turns, D of them made (the last may be a draft); z: turns may count as lost already that the class still holds for said; e: so many more steps may come -/
def sj_M (K : Nat → Nat → Nat → Int32) (N : Nat → Nat) (T D : Nat) (z : sj_Z) (e : Nat) (S : Nat → Nat → Int32) : Prop := sj_P K D S ∧ sj_R K N T D z e S
section SIM
variable {K K' : Nat → Nat → Nat → Int32} {N : Nat → Nat} {T D e : Nat} {z : sj_Z} {S S' : Nat → Nat → Int32}
theorem sj_R_of (h : sj_R K N T D z e S) (eK : ∀ f ∈ [40, 125, 163, 47, 128, 51, 52, 53, 80, 81, 82], ∀ o j, K' f o j = K f o j) (eS : ∀ f ∈ [208, 210, 211, 224, 225, 231, 232, 233, 234], ∀ j, S' f j = S f j) : sj_R K' N T D z e S' := by
  have k40 := eK 40 (by decide)
  have k125 := eK 125 (by decide)
  have k163 := eK 163 (by decide)
  have k47 := eK 47 (by decide)
  have k128 := eK 128 (by decide)
  have k51 := eK 51 (by decide)
  have k52 := eK 52 (by decide)
  have k53 := eK 53 (by decide)
  have hf : ∀ i a, sj_fs K' i a = sj_fs K i a := fun i a => by
    funext v n
    unfold sj_fs
    rw [eK 80 (by decide), eK 81 (by decide), eK 82 (by decide)]
  have s208 := eS 208 (by decide)
  have s210 := eS 210 (by decide)
  have s211 := eS 211 (by decide)
  have s224 := eS 224 (by decide)
  have s225 := eS 225 (by decide)
  have s231 := eS 231 (by decide)
  have s232 := eS 232 (by decide)
  have s233 := eS 233 (by decide)
  have s234 := eS 234 (by decide)
  unfold sj_R sj_nz sj_nh sj_nd at h ⊢
  simp only [k40, k125, k163, k47, k128, k51, k52, k53, hf, s208, s210, s211, s224, s225, s231, s232, s233, s234]
  exact h
theorem sj_M_up (h : sj_M K N T D z e S) {q : Nat × (Nat × (Nat × (Nat × Nat)))} (hq : q ∈ sj_T) (h2 : q.2.1 ≠ 208 ∧ q.2.1 ≠ 225) {o j : Nat} {v : Int32} (hj : j < q.2.2.2.2) : sj_M (pa_up K q.1 o j v) N T D z e (pa_us S q.2.1 (q.2.2.1 * o + j) v) := by
  refine ⟨sj_P_up h.1 hq hj, sj_R_of h.2 (fun f hf o' j' => pa_up_ne ?_) (fun f hf j' => pa_us_ne ?_)⟩
  · have : ∀ q ∈ sj_T, ∀ f ∈ [40, 125, 163, 47, 128, 51, 52, 53, 80, 81, 82], f ≠ q.1 := by decide
    exact this q hq f hf
  · have : ∀ q ∈ sj_T, q.2.1 ≠ 208 ∧ q.2.1 ≠ 225 → ∀ f ∈ [208, 210, 211, 224, 225, 231, 232, 233, 234], f ≠ q.2.1 := by decide
    exact this q hq h2 f hf
theorem sj_r41 (h : sj_M K N T D z e S) {i : Nat} (hi : i < 4)  : K 41 i 0 = S 202 i := by
  have := h.1 (41, 202, 1, 0, 1) (by decide) i 0 hi (by decide)
  simpa using this
theorem sj_w41 (h : sj_M K N T D z e S) {i : Nat}   {v : Int32} : sj_M (pa_up K 41 i 0 v) N T D z e (pa_us S 202 i v) := by
  have := sj_M_up h (q := (41, 202, 1, 0, 1)) (by decide) (by decide) (o := i) (j := 0) (v := v) (by decide)
  simpa using this
theorem sj_r42 (h : sj_M K N T D z e S) {i : Nat} (hi : i < 4)  : K 42 i 0 = S 203 i := by
  have := h.1 (42, 203, 1, 0, 1) (by decide) i 0 hi (by decide)
  simpa using this
theorem sj_w42 (h : sj_M K N T D z e S) {i : Nat}   {v : Int32} : sj_M (pa_up K 42 i 0 v) N T D z e (pa_us S 203 i v) := by
  have := sj_M_up h (q := (42, 203, 1, 0, 1)) (by decide) (by decide) (o := i) (j := 0) (v := v) (by decide)
  simpa using this
theorem sj_r43 (h : sj_M K N T D z e S) {i : Nat} (hi : i < 4)  : K 43 i 0 = S 204 i := by
  have := h.1 (43, 204, 1, 0, 1) (by decide) i 0 hi (by decide)
  simpa using this
theorem sj_w43 (h : sj_M K N T D z e S) {i : Nat}   {v : Int32} : sj_M (pa_up K 43 i 0 v) N T D z e (pa_us S 204 i v) := by
  have := sj_M_up h (q := (43, 204, 1, 0, 1)) (by decide) (by decide) (o := i) (j := 0) (v := v) (by decide)
  simpa using this
theorem sj_r44 (h : sj_M K N T D z e S) {i : Nat} (hi : i < 4)  : K 44 i 0 = S 205 i := by
  have := h.1 (44, 205, 1, 0, 1) (by decide) i 0 hi (by decide)
  simpa using this
theorem sj_w44 (h : sj_M K N T D z e S) {i : Nat}   {v : Int32} : sj_M (pa_up K 44 i 0 v) N T D z e (pa_us S 205 i v) := by
  have := sj_M_up h (q := (44, 205, 1, 0, 1)) (by decide) (by decide) (o := i) (j := 0) (v := v) (by decide)
  simpa using this
theorem sj_r45 (h : sj_M K N T D z e S) {i : Nat} (hi : i < 4)  : K 45 i 0 = S 206 i := by
  have := h.1 (45, 206, 1, 0, 1) (by decide) i 0 hi (by decide)
  simpa using this
theorem sj_w45 (h : sj_M K N T D z e S) {i : Nat}   {v : Int32} : sj_M (pa_up K 45 i 0 v) N T D z e (pa_us S 206 i v) := by
  have := sj_M_up h (q := (45, 206, 1, 0, 1)) (by decide) (by decide) (o := i) (j := 0) (v := v) (by decide)
  simpa using this
theorem sj_r46 (h : sj_M K N T D z e S) {i : Nat} (hi : i < 4)  : K 46 i 0 = S 212 i := by
  have := h.1 (46, 212, 1, 0, 1) (by decide) i 0 hi (by decide)
  simpa using this
theorem sj_w46 (h : sj_M K N T D z e S) {i : Nat}   {v : Int32} : sj_M (pa_up K 46 i 0 v) N T D z e (pa_us S 212 i v) := by
  have := sj_M_up h (q := (46, 212, 1, 0, 1)) (by decide) (by decide) (o := i) (j := 0) (v := v) (by decide)
  simpa using this
theorem sj_r48 (h : sj_M K N T D z e S) {i : Nat} (hi : i < 4) {j : Nat} (hj : j < 10) : K 48 i j = S 207 (10 * i + j) := by
  have := h.1 (48, 207, 10, 0, 10) (by decide) i j hi hj
  simpa using this
theorem sj_w48 (h : sj_M K N T D z e S) {i : Nat}  {j : Nat} (hj : j < 10) {v : Int32} : sj_M (pa_up K 48 i j v) N T D z e (pa_us S 207 (10 * i + j) v) := by
  have := sj_M_up h (q := (48, 207, 10, 0, 10)) (by decide) (by decide) (o := i) (j := j) (v := v) hj
  simpa using this
theorem sj_r49 (h : sj_M K N T D z e S) {i : Nat} (hi : i < 4) {j : Nat} (hj : j < 10) : K 49 i j = S 208 (10 * i + j) := by
  have := h.1 (49, 208, 10, 0, 10) (by decide) i j hi hj
  simpa using this
theorem sj_r50 (h : sj_M K N T D z e S) {i : Nat} (hi : i < 4) {j : Nat} (hj : j < 10) : K 50 i j = S 209 (10 * i + j) := by
  have := h.1 (50, 209, 10, 0, 10) (by decide) i j hi hj
  simpa using this
theorem sj_w50 (h : sj_M K N T D z e S) {i : Nat}  {j : Nat} (hj : j < 10) {v : Int32} : sj_M (pa_up K 50 i j v) N T D z e (pa_us S 209 (10 * i + j) v) := by
  have := sj_M_up h (q := (50, 209, 10, 0, 10)) (by decide) (by decide) (o := i) (j := j) (v := v) hj
  simpa using this
theorem sj_r120 (h : sj_M K N T D z e S) {i : Nat} (hi : i < D)  : K 120 i 0 = S 218 i := by
  have := h.1 (120, 218, 1, 1, 1) (by decide) i 0 hi (by decide)
  simpa using this
theorem sj_r121 (h : sj_M K N T D z e S) {i : Nat} (hi : i < D)  : K 121 i 0 = S 219 i := by
  have := h.1 (121, 219, 1, 1, 1) (by decide) i 0 hi (by decide)
  simpa using this
theorem sj_r122 (h : sj_M K N T D z e S) {i : Nat} (hi : i < D)  : K 122 i 0 = S 222 i := by
  have := h.1 (122, 222, 1, 1, 1) (by decide) i 0 hi (by decide)
  simpa using this
theorem sj_r123 (h : sj_M K N T D z e S) {i : Nat} (hi : i < D)  : K 123 i 0 = S 223 i := by
  have := h.1 (123, 223, 1, 1, 1) (by decide) i 0 hi (by decide)
  simpa using this
theorem sj_r124 (h : sj_M K N T D z e S) {i : Nat} (hi : i < D)  : K 124 i 0 = S 226 i := by
  have := h.1 (124, 226, 1, 1, 1) (by decide) i 0 hi (by decide)
  simpa using this
theorem sj_r126 (h : sj_M K N T D z e S) {i : Nat} (hi : i < D)  : K 126 i 0 = S 220 i := by
  have := h.1 (126, 220, 1, 1, 1) (by decide) i 0 hi (by decide)
  simpa using this
theorem sj_w126 (h : sj_M K N T D z e S) {i : Nat}   {v : Int32} : sj_M (pa_up K 126 i 0 v) N T D z e (pa_us S 220 i v) := by
  have := sj_M_up h (q := (126, 220, 1, 1, 1)) (by decide) (by decide) (o := i) (j := 0) (v := v) (by decide)
  simpa using this
theorem sj_r127 (h : sj_M K N T D z e S) {i : Nat} (hi : i < D)  : K 127 i 0 = S 221 i := by
  have := h.1 (127, 221, 1, 1, 1) (by decide) i 0 hi (by decide)
  simpa using this
theorem sj_w127 (h : sj_M K N T D z e S) {i : Nat}   {v : Int32} : sj_M (pa_up K 127 i 0 v) N T D z e (pa_us S 221 i v) := by
  have := sj_M_up h (q := (127, 221, 1, 1, 1)) (by decide) (by decide) (o := i) (j := 0) (v := v) (by decide)
  simpa using this
theorem sj_r129 (h : sj_M K N T D z e S) {i : Nat} (hi : i < D)  : K 129 i 0 = S 225 i := by
  have := h.1 (129, 225, 1, 1, 1) (by decide) i 0 hi (by decide)
  simpa using this
theorem sj_r130 (h : sj_M K N T D z e S) {i : Nat} (hi : i < D)  : K 130 i 0 = S 227 i := by
  have := h.1 (130, 227, 1, 1, 1) (by decide) i 0 hi (by decide)
  simpa using this
theorem sj_w130 (h : sj_M K N T D z e S) {i : Nat}   {v : Int32} : sj_M (pa_up K 130 i 0 v) N T D z e (pa_us S 227 i v) := by
  have := sj_M_up h (q := (130, 227, 1, 1, 1)) (by decide) (by decide) (o := i) (j := 0) (v := v) (by decide)
  simpa using this
theorem sj_r131 (h : sj_M K N T D z e S) {i : Nat} (hi : i < D) {j : Nat} (hj : j < 4) : K 131 i j = S 228 (4 * i + j) := by
  have := h.1 (131, 228, 4, 1, 4) (by decide) i j hi hj
  simpa using this
theorem sj_w131 (h : sj_M K N T D z e S) {i : Nat}  {j : Nat} (hj : j < 4) {v : Int32} : sj_M (pa_up K 131 i j v) N T D z e (pa_us S 228 (4 * i + j) v) := by
  have := sj_M_up h (q := (131, 228, 4, 1, 4)) (by decide) (by decide) (o := i) (j := j) (v := v) hj
  simpa using this
theorem sj_r132 (h : sj_M K N T D z e S) {i : Nat} (hi : i < D) {j : Nat} (hj : j < 4) : K 132 i j = S 229 (4 * i + j) := by
  have := h.1 (132, 229, 4, 1, 4) (by decide) i j hi hj
  simpa using this
theorem sj_w132 (h : sj_M K N T D z e S) {i : Nat}  {j : Nat} (hj : j < 4) {v : Int32} : sj_M (pa_up K 132 i j v) N T D z e (pa_us S 229 (4 * i + j) v) := by
  have := sj_M_up h (q := (132, 229, 4, 1, 4)) (by decide) (by decide) (o := i) (j := j) (v := v) hj
  simpa using this
theorem sj_r161 (h : sj_M K N T D z e S)  {j : Nat} (hj : j < 8) : K 161 0 j = S 213 j := by
  have := h.1 (161, 213, 8, 2, 8) (by decide) 0 j Nat.zero_lt_one hj
  simpa using this
theorem sj_w161 (h : sj_M K N T D z e S)  {j : Nat} (hj : j < 8) {v : Int32} : sj_M (pa_up K 161 0 j v) N T D z e (pa_us S 213 j v) := by
  have := sj_M_up h (q := (161, 213, 8, 2, 8)) (by decide) (by decide) (o := 0) (j := j) (v := v) hj
  simpa using this
theorem sj_r165 (h : sj_M K N T D z e S)   : K 165 0 0 = S 201 0 := by
  have := h.1 (165, 201, 1, 2, 1) (by decide) 0 0 Nat.zero_lt_one (by decide)
  simpa using this
theorem sj_w165 (h : sj_M K N T D z e S)   {v : Int32} : sj_M (pa_up K 165 0 0 v) N T D z e (pa_us S 201 0 v) := by
  have := sj_M_up h (q := (165, 201, 1, 2, 1)) (by decide) (by decide) (o := 0) (j := 0) (v := v) (by decide)
  simpa using this
theorem sj_r166 (h : sj_M K N T D z e S)   : K 166 0 0 = S 200 0 := by
  have := h.1 (166, 200, 1, 2, 1) (by decide) 0 0 Nat.zero_lt_one (by decide)
  simpa using this
theorem sj_w166 (h : sj_M K N T D z e S)   {v : Int32} : sj_M (pa_up K 166 0 0 v) N T D z e (pa_us S 200 0 v) := by
  have := sj_M_up h (q := (166, 200, 1, 2, 1)) (by decide) (by decide) (o := 0) (j := 0) (v := v) (by decide)
  simpa using this
theorem sj_r167 (h : sj_M K N T D z e S)   : K 167 0 0 = S 215 0 := by
  have := h.1 (167, 215, 1, 2, 1) (by decide) 0 0 Nat.zero_lt_one (by decide)
  simpa using this
theorem sj_w167 (h : sj_M K N T D z e S)   {v : Int32} : sj_M (pa_up K 167 0 0 v) N T D z e (pa_us S 215 0 v) := by
  have := sj_M_up h (q := (167, 215, 1, 2, 1)) (by decide) (by decide) (o := 0) (j := 0) (v := v) (by decide)
  simpa using this
theorem sj_r168 (h : sj_M K N T D z e S)   : K 168 0 0 = S 216 0 := by
  have := h.1 (168, 216, 1, 2, 1) (by decide) 0 0 Nat.zero_lt_one (by decide)
  simpa using this
theorem sj_w168 (h : sj_M K N T D z e S)   {v : Int32} : sj_M (pa_up K 168 0 0 v) N T D z e (pa_us S 216 0 v) := by
  have := sj_M_up h (q := (168, 216, 1, 2, 1)) (by decide) (by decide) (o := 0) (j := 0) (v := v) (by decide)
  simpa using this
theorem sj_r169 (h : sj_M K N T D z e S)   : K 169 0 0 = S 214 0 := by
  have := h.1 (169, 214, 1, 2, 1) (by decide) 0 0 Nat.zero_lt_one (by decide)
  simpa using this
theorem sj_w169 (h : sj_M K N T D z e S)   {v : Int32} : sj_M (pa_up K 169 0 0 v) N T D z e (pa_us S 214 0 v) := by
  have := sj_M_up h (q := (169, 214, 1, 2, 1)) (by decide) (by decide) (o := 0) (j := 0) (v := v) (by decide)
  simpa using this
theorem sj_n0 (h : sj_M K N T D z e S) {t : Nat} (ht : t < D) : t < N 0 := by rw [h.2.1.1]; exact ht
theorem sj_n2 (h : sj_M K N T D z e S) : N 2 = T := h.2.1.2.1
theorem sj_TD (h : sj_M K N T D z e S) : T ≤ D := h.2.1.2.2.1
theorem sj_Q (h : sj_M K N T D z e S) : S 231 0 = nI (N 3) := h.2.1.2.2.2.2.2.2.1
theorem sj_Q6 (h : sj_M K N T D z e S) : N 3 ≤ 6 := h.2.1.2.2.2.2.2.2.2.1
theorem sj_c5 (h : sj_M K N T D z e S) : N 2 ≤ N 5 ∧ N 5 < 1000 := ⟨h.2.1.2.2.2.2.2.2.2.2.1, h.2.1.2.2.2.2.2.2.2.2.2.2.2.1⟩
theorem sj_c6 (h : sj_M K N T D z e S) : N 3 ≤ N 6 ∧ N 6 < 1000 := ⟨h.2.1.2.2.2.2.2.2.2.2.2.1, h.2.1.2.2.2.2.2.2.2.2.2.2.2.2.1⟩
theorem sj_c7 (h : sj_M K N T D z e S) : N 4 ≤ N 7 ∧ N 7 < 1000 := ⟨h.2.1.2.2.2.2.2.2.2.2.2.2.1, h.2.1.2.2.2.2.2.2.2.2.2.2.2.2.2⟩
theorem sj_N14 (h : sj_M K N T D z e S) : N 1 = N 4 := h.2.1.2.2.2.2.2.1
theorem sj_NQ (h : sj_M K N T D z e S) {Q q0 : Nat} (hw : mw_Q S Q q0) : N 3 = Q := (nI_eq (by have := sj_Q6 h; omega) (by have := hw.2.1; omega)).mp ((sj_Q h).symm.trans hw.1)
theorem sj_r40 (h : sj_M K N T D z e S) {i : Nat} (hi : i < 4) : K 40 i 0 = nI i := h.2.2.1 i hi
theorem sj_r125 (h : sj_M K N T D z e S) {i : Nat} (hi : i < T) : K 125 i 0 = nI i := h.2.2.2.1 i hi
theorem sj_r163 (h : sj_M K N T D z e S) {j : Nat} (hj : j < N 3) : K 163 0 j = S 232 j := h.2.2.2.2.1 j hj
theorem sj_r47 (h : sj_M K N T D z e S) {i : Nat} (hi : i < 4) : K 47 i 0 = z.2 i := h.2.2.2.2.2.1 i hi
theorem sj_r128 (h : sj_M K N T D z e S) {i : Nat} (hi : i < D) : K 128 i 0 = S 224 i ∨ (z.1 = true ∧ (∃ j, j < 4 ∧ z.2 j = nI i) ∧ K 128 i 0 = 0 ∧ S 224 i = 2) := h.2.2.2.2.2.2.1 i hi
theorem sj_r51 (h : sj_M K N T D z e S) {i j : Nat} (hi : i < 4) (hj : j < 10) : K 51 i j = if S 210 (10 * i + j) = 0 then -1 else S 211 (10 * i + j) := h.2.2.2.2.2.2.2.1 i j hi hj
theorem sj_r52 (h : sj_M K N T D z e S) {i j : Nat} (hi : i < 4) (hj : j < 10) : ∃ b, b < 1024 ∧ K 52 i j = nI b ∧ ∀ r, r < 10 → b.testBit r = decide (S 234 (10 * (10 * i + j) + r) ≠ 0) := h.2.2.2.2.2.2.2.2.1 i j hi hj
theorem sj_r53 (h : sj_M K N T D z e S) {i j : Nat} (hi : i < 4) (hj : j < 4) : ∃ b, b < 1024 ∧ K 53 i j = nI b ∧ ∀ a, a < 10 → b.testBit a = decide (S 233 (40 * i + 10 * j + a) ≠ 0) := h.2.2.2.2.2.2.2.2.2.1 i j hi hj
theorem sj_rst (h : sj_M K N T D z e S) {i a : Nat} (hi : i < 4) (ha : a < 10) : pz_it (sj_fs K i a) (N 1) 0 = S 208 (10 * i + a) := h.2.2.2.2.2.2.2.2.2.2.1 i a hi ha
theorem sj_phi (h : sj_M K N T D z e S) : N 1 + sj_nz S + sj_nh S + e ≤ 40 + 3 * sj_nd S T := h.2.2.2.2.2.2.2.2.2.2.2
theorem sj_st1 (h : sj_M K N T D z e S) {i : Nat} (hi : i < D) : (K 128 i 0 = 1) = (S 224 i = 1) := by
  rcases sj_r128 h hi with q | ⟨-, -, q, r⟩
  · rw [q]
  · rw [q, r]; decide
end SIM
