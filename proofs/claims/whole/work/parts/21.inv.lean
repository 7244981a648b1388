/-! WHAT ELSE HOLDS of the reference's rows between its steps: values' ranges; and the rows of the walk over the class's state -/
theorem sj_eq {K : Nat → Nat → Nat → Int32} {N : Nat → Nat} {T D e : Nat} {z : sj_Z} {S S' : Nat → Nat → Int32} (h : S = S') (hs : sj_M K N T D z e S) : sj_M K N T D z e S' := h ▸ hs
/-- the end of a method of the class: its answer, the state that it stands for -/
def sj_post (v : Option pa_V) (Sm : Nat → Nat → Int32) (O : Nat → Int64) (T D : Nat) (z : sj_Z) (e : Nat) (S : Nat → Nat → Int32) : Option pa_V → pa_H → Prop := fun r h' => r = v ∧ ∃ K' N', h' = (K', Sm, N', O) ∧ sj_M K' N' T D z e S
section CROWS
variable {G : pa_G} {x : pa_X} {cc : ByteArray} {nL : Nat} {own : String} {d mc ms a b pc : Nat} {lo : List (Option pa_V)} {st : List pa_V} {T D e : Nat} {z : sj_Z} {Sm S S1 : Nat → Nat → Int32} {O : Nat → Int64} {K : Nat → Nat → Nat → Int32} {N : Nat → Nat}
theorem pr_sim (hs : sj_M K N T D z e S) (k : ∀ (K : Nat → Nat → Nat → Int32) (N : Nat → Nat), sj_M K N T D z e S → pa_w G x nL (K, Sm, N, O) a b pc lo st) : pa_w G x nL (K, Sm, N, O) a b pc lo st := k K N hs
theorem pr_vC0 (C : pa_C G x cc nL own d mc ms) {y : pa_Y} {d' k i ix n mc' ms' : Nat} {al' : Bool} {As rest : List pa_V} {T1 D1 e1 : Nat} {z1 : sj_Z} (hM : pa_M G x.2.1 y d' al' (pv_o k i :: As) (K, Sm, N, O) mc' ms' (sj_post none Sm O T1 D1 z1 e1 S1)) (cs : pa_cv own ix y k n) (hst : st = As.reverse ++ pv_o k i :: rest) (hn : As.length = n) (hd : d' + 1 ≤ d) (hk : k < 6) (hl : pa_lv N (k, i)) (hr : rest.length ≤ 4) (ha : a + mc' ≤ mc) (hb : b + ms' ≤ ms)
    (hal : x.2.2.2.2.2.2.2.2.2.2.2.2.2 = false → al' = false) (hok : al' = true → pa_okl N rest ∧ pa_oko N lo) (dg : decode cc pc = .ok (.invokevirtual ix, 3)) (kk : ∀ (K : Nat → Nat → Nat → Int32) (N : Nat → Nat), sj_M K N T1 D1 z1 e1 S1 → pa_w G x nL (K, Sm, N, O) (a + mc') (b + ms') (pc + 3) lo rest) : pa_w G x nL (K, Sm, N, O) a b pc lo st := by
  rw [hst]
  refine pr_callV0 C hM cs hn hd hk hl hr ha hb hal hok dg fun r h' hp => ?_
  obtain ⟨rfl, K', N', rfl, hs'⟩ := hp
  exact kk K' N' hs'
theorem pr_vC1 (C : pa_C G x cc nL own d mc ms) {y : pa_Y} {d' k i ix n mc' ms' : Nat} {al' : Bool} {As rest : List pa_V} {v : pa_V} {T1 D1 e1 : Nat} {z1 : sj_Z} (hM : pa_M G x.2.1 y d' al' (pv_o k i :: As) (K, Sm, N, O) mc' ms' (sj_post (some v) Sm O T1 D1 z1 e1 S1)) (cs : pa_cv own ix y k n) (hst : st = As.reverse ++ pv_o k i :: rest) (hn : As.length = n) (hd : d' + 1 ≤ d) (hk : k < 6) (hl : pa_lv N (k, i)) (hr : rest.length ≤ 4) (ha : a + mc' ≤ mc) (hb : b + ms' ≤ ms)
    (hal : x.2.2.2.2.2.2.2.2.2.2.2.2.2 = false → al' = false) (hok : al' = true → pa_okl N rest ∧ pa_oko N lo) (dg : decode cc pc = .ok (.invokevirtual ix, 3)) (kk : ∀ (K : Nat → Nat → Nat → Int32) (N : Nat → Nat), sj_M K N T1 D1 z1 e1 S1 → pa_w G x nL (K, Sm, N, O) (a + mc') (b + ms') (pc + 3) lo (v :: rest)) : pa_w G x nL (K, Sm, N, O) a b pc lo st := by
  rw [hst]
  refine pr_callV0 C hM cs hn hd hk hl hr ha hb hal hok dg fun r h' hp => ?_
  obtain ⟨rfl, K', N', rfl, hs'⟩ := hp
  exact kk K' N' hs'
end CROWS
/-- a turn's values: an ASSERT's and a HINT's, an ANSWER's; to whom it is: others, one alone where the act says so; a turn that is SAID isn't done -/
def mj_t (S : Nat → Nat → Int32) (t : Nat) : Prop := (S 219 t = 0 ∨ S 219 t = 11 → S 221 t = 1 ∨ S 221 t = 2) ∧ (S 219 t = 2 → S 221 t = 0 ∨ S 221 t = 1 ∨ S 221 t = 2) ∧
  (∃ m, 0 < m ∧ m < 16 ∧ S 222 t = nI m ∧ (∀ w, w < 4 → S 218 t = nI w → m.testBit w = false) ∧ (S 219 t = 1 ∨ S 219 t = 13 → m = 1 ∨ m = 2 ∨ m = 4 ∨ m = 8)) ∧ (S 224 t = 0 → S 225 t = -1)
def mj_T (S : Nat → Nat → Int32) (T : Nat) : Prop := (∀ t, t < T → mj_t S t) ∧ ∀ t, T ≤ t → S 224 t = 0
def mj_s (S : Nat → Nat → Int32) : Prop := ∀ p, p < 40 → (S 208 p = 0 ∨ S 208 p = 1 ∨ S 208 p = 2) ∧ (S 208 p = 0 → S 209 p = -1)
def mj_o (S : Nat → Nat → Int32) (T : Nat) : Prop := ∀ t, S 227 t = 0 ∨ (S 227 t = 1 ∧ t < T ∧ S 219 t = 13 ∧ S 224 t = 1)
def mj_h (S : Nat → Nat → Int32) : Prop := ∀ p, p < 40 → S 210 p ≠ 0 → (S 210 p = 1 ∨ S 210 p = 2) ∧ S 221 (mn (S 211 p)) = S 210 p ∧ S 219 (mn (S 211 p)) = 11
def mj_q (S : Nat → Nat → Int32) : Prop := ∀ k, k < 160 → S 233 k ≠ 0 → S 208 (10 * (k / 40) + k % 10) ≠ 0 ∧ S 208 (10 * (k / 10 % 4) + k % 10) = ms_contrary (S 208 (10 * (k / 40) + k % 10))
def mj_g (S : Nat → Nat → Int32) (T : Nat) : Prop := (∀ p, S 228 p = 0 ∨ S 228 p = 1 ∨ S 228 p = 2 ∨ S 228 p = 3 ∨ S 228 p = 4) ∧ ∀ p, 4 * T ≤ p → S 228 p = 0
def mj (S : Nat → Nat → Int32) (T : Nat) : Prop := mj_T S T ∧ mj_s S ∧ mj_o S T ∧ mj_h S ∧ mj_q S ∧ mj_g S T
/-- what comes late comes later than now -/
def mj_l (S : Nat → Nat → Int32) : Prop := ∀ p, S 228 p = 2 → S 200 0 < S 229 p
/-- what was said since the last tick is SAID, and later than all offers that are open -/
def mj_n (S : Nat → Nat → Int32) : Prop := ∀ k, k < 4 → S 230 k ≠ -1 → S 224 (mn (S 230 k)) = 0 ∧ S 218 (mn (S 230 k)) = nI k ∧ ∀ u, S 227 u ≠ 0 → u < mn (S 230 k)
theorem mj_g3 {S : Nat → Nat → Int32} {T p : Nat} (h : mj_g S T) : (S 228 p = 3 ∨ S 228 p = 4) = (3 ≤ S 228 p) := by
  apply propext
  rcases h.1 p with e | e | e | e | e <;> rw [e] <;> decide
theorem mj_g1 {S : Nat → Nat → Int32} {T p : Nat} (h : mj_g S T) : (S 228 p = 0 ∨ S 228 p = 1) = (¬ 2 ≤ S 228 p) := by
  apply propext
  rcases h.1 p with e | e | e | e | e <;> rw [e] <;> decide
-- bits of small numbers
theorem sj_bit : ∀ b, b < 1024 → ∀ r, r < 10 → ms_isIn (nI b) (nI r) = b.testBit r := by decide +kernel
theorem sj_or : ∀ b, b < 1024 → ∀ r, r < 10 → nI b ||| ((1 : Int32) <<< (nI r &&& 31)) = nI (b ||| 2 ^ r) := by decide +kernel
theorem sj_clr : ∀ b, b < 1024 → ∀ r, r < 10 → nI b &&& (((1 : Int32) <<< (nI r &&& 31)) ^^^ -1) = nI (b &&& (1023 ^^^ 2 ^ r)) := by decide +kernel
theorem sj_bit4 : ∀ m, m < 16 → ∀ r, r < 4 → ms_isIn (nI m) (nI r) = m.testBit r := by decide +kernel
theorem sj_orN (x y : Nat) : nI x ||| nI y = nI (x ||| y) := by
  apply Int32.toBitVec_inj.mp
  simp [nI, BitVec.ofNat_or]
