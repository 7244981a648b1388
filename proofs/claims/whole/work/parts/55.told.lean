/-! WHETHER A DRAFT IS WELL TOLD -/
def sc_wo (of how set fr : Int32) : Bool := ms_in of 0 255 && ms_in how 0 255 && decide (of ||| how ≠ 0) && ms_in fr 1 20 && decide (ms_one set ≠ -1)
def sc_wt (T : Int32) (a : Nat) (of how set fr : Int32) : Bool :=
  if a = 0 then ms_in of 0 9 && ms_in how 1 2 && (decide (fr = -1) || ms_in fr 0 9) else
  if a = 1 then ms_in of 0 9 && (decide (fr = -1) || ms_in fr 0 9) && decide (ms_one set ≠ -1) else
  if a = 2 then ms_in how 0 2 else
  if a = 3 then true else
  if a = 9 then ms_in of 0 9 && ms_in how 0 9 && decide (of ≠ how) else
  if a = 10 ∨ a = 12 then ms_in of 0 9 else
  if a = 11 then ms_in of 0 9 && ms_in how 1 2 else
  if a = 13 then sc_wo of how set fr else ms_in of 0 (T - 1)
def sc_wtv (T act of how set fr : Int32) : Bool := ms_in act 0 15 && sc_wt T (mn act) of how set fr
theorem sc_fr (fr : Int32) : ms_in fr (-1) 9 = (decide (fr = -1) || ms_in fr 0 9) := by
  have h : ∀ v : Int32, v.toInt = -1 ↔ v = -1 := fun v => ⟨fun h => Int32.toInt_inj.mp h, fun h => by rw [h]; rfl⟩
  unfold ms_in
  by_cases c : fr = -1
  · subst c
    decide
  · have hc : fr.toInt ≠ -1 := fun z => c ((h fr).mp z)
    rw [decide_eq_false c, Bool.false_or]
    congr 1
    apply decide_eq_decide.mpr
    rw [Int32.le_iff_toInt_le, Int32.le_iff_toInt_le, show (-1 : Int32).toInt = -1 from rfl, show (0 : Int32).toInt = 0 from rfl]
    omega
theorem sc_nn2 {v : Int32} {k : Nat} (hk : k < 1000) (h : ms_in v 0 (nI k) = true) : ∃ p, p ≤ k ∧ v = nI p := by
  unfold ms_in at h
  rw [Bool.and_eq_true, decide_eq_true_eq, decide_eq_true_eq] at h
  obtain ⟨h1, h2⟩ := h
  have h1' : 0 ≤ v.toInt := sc_nn.mp h1
  rw [Int32.le_iff_toInt_le, nI_toInt (by omega)] at h2
  refine ⟨v.toInt.toNat, by omega, ?_⟩
  apply Int32.toInt_inj.mp
  rw [nI_toInt (by omega)]
  omega
theorem sc_orn {of how : Int32} (h1 : ms_in of 0 255 = true) (h2 : ms_in how 0 255 = true) : decide (of ||| how ≠ 0) = decide (0 < of + how) := by
  obtain ⟨p, hp, rfl⟩ := sc_nn2 (k := 255) (by decide) h1
  obtain ⟨q, hq, rfl⟩ := sc_nn2 (k := 255) (by decide) h2
  have e0 : ∀ r, r ≤ 255 → (nI r = 0 ↔ r = 0) := fun r hr => by
    rw [show (0 : Int32) = nI 0 from rfl]
    exact nI_eq (by omega) (by omega)
  apply decide_eq_decide.mpr
  rw [ne_eq, Int32.or_eq_zero_iff, e0 p hp, e0 q hq, nI_add, Int32.lt_iff_toInt_lt, nI_toInt (by omega), show (0 : Int32).toInt = 0 from rfl]
  omega
theorem sc_wo_eq (of how set fr : Int32) : sc_wo of how set fr = (decide (ms_one set ≠ -1) && (ms_in of 0 255 && ms_in how 0 255 && decide (0 < of + how) && ms_in fr 1 20)) := by
  unfold sc_wo
  by_cases c1 : ms_in of 0 255 = true
  · by_cases c2 : ms_in how 0 255 = true
    · rw [sc_orn c1 c2, Bool.and_comm]
    · rw [Bool.not_eq_true] at c2
      simp [c2]
  · rw [Bool.not_eq_true] at c1
    simp [c1]
set_option maxRecDepth 100000 in
set_option maxHeartbeats 4000000 in
theorem sc_told {T sp act of how set fr : Int32} : (ms_in set 1 15 && (!ms_isIn set sp && sc_wtv T act of how set fr)) = ms_told T sp act of how set fr := by
  unfold ms_told ms_told4 ms_told3 ms_told2 ms_told1 sc_wtv
  cases h0 : ms_in act 0 15 with
  | false => simp
  | true =>
    obtain ⟨a, ha, rfl⟩ := sc_nn2 (k := 15) (by decide) h0
    have em : mn (nI a) = a := nI_clamp (by omega)
    rw [em, sc_fr]
    rcases (show a = 0 ∨ a = 1 ∨ a = 2 ∨ a = 3 ∨ a = 4 ∨ a = 5 ∨ a = 6 ∨ a = 7 ∨ a = 8 ∨ a = 9 ∨ a = 10 ∨ a = 11 ∨ a = 12 ∨ a = 13 ∨ a = 14 ∨ a = 15 by omega) with rfl | rfl | rfl | rfl | rfl | rfl | rfl | rfl | rfl | rfl | rfl | rfl | rfl | rfl | rfl | rfl
    · simp only [show ms_ofTurn (nI 0) = false by decide, show ms_ofAtom (nI 0) = true by decide, show decide (nI 0 ≠ 0) = false by decide, show decide (nI 0 ≠ 11) = true by decide, show decide (nI 0 ≠ 2) = true by decide, show decide (nI 0 ≠ 9) = true by decide, show decide (nI 0 ≠ 1) = true by decide, show decide (nI 0 ≠ 13) = true by decide, show decide (1 < nI 0) = false by decide, show sc_wt T 0 of how set fr = (ms_in of 0 9 && ms_in how 1 2 && (decide (fr = -1) || ms_in fr 0 9)) from rfl, Bool.true_and, Bool.and_true, Bool.not_true, Bool.not_false, Bool.false_or, Bool.true_or, Bool.or_true, Bool.false_and, Bool.or_false, Bool.and_assoc]
    · simp only [show ms_ofTurn (nI 1) = false by decide, show ms_ofAtom (nI 1) = true by decide, show decide (nI 1 ≠ 0) = true by decide, show decide (nI 1 ≠ 11) = true by decide, show decide (nI 1 ≠ 2) = true by decide, show decide (nI 1 ≠ 9) = true by decide, show decide (nI 1 ≠ 1) = false by decide, show decide (nI 1 ≠ 13) = true by decide, show decide (1 < nI 1) = false by decide, show sc_wt T 1 of how set fr = (ms_in of 0 9 && (decide (fr = -1) || ms_in fr 0 9) && decide (ms_one set ≠ -1)) from rfl, Bool.true_and, Bool.and_true, Bool.not_true, Bool.not_false, Bool.false_or, Bool.true_or, Bool.or_true, Bool.false_and, Bool.or_false, Bool.and_assoc]
    · simp only [show ms_ofTurn (nI 2) = false by decide, show ms_ofAtom (nI 2) = false by decide, show decide (nI 2 ≠ 0) = true by decide, show decide (nI 2 ≠ 11) = true by decide, show decide (nI 2 ≠ 2) = false by decide, show decide (nI 2 ≠ 9) = true by decide, show decide (nI 2 ≠ 1) = true by decide, show decide (nI 2 ≠ 13) = true by decide, show decide (1 < nI 2) = true by decide, show sc_wt T 2 of how set fr = (ms_in how 0 2) from rfl, Bool.true_and, Bool.and_true, Bool.not_true, Bool.not_false, Bool.false_or, Bool.true_or, Bool.or_true, Bool.false_and, Bool.or_false, Bool.and_assoc]
    · simp only [show ms_ofTurn (nI 3) = false by decide, show ms_ofAtom (nI 3) = false by decide, show decide (nI 3 ≠ 0) = true by decide, show decide (nI 3 ≠ 11) = true by decide, show decide (nI 3 ≠ 2) = true by decide, show decide (nI 3 ≠ 9) = true by decide, show decide (nI 3 ≠ 1) = true by decide, show decide (nI 3 ≠ 13) = true by decide, show decide (1 < nI 3) = true by decide, show sc_wt T 3 of how set fr = (true) from rfl, Bool.true_and, Bool.and_true, Bool.not_true, Bool.not_false, Bool.false_or, Bool.true_or, Bool.or_true, Bool.false_and, Bool.or_false, Bool.and_assoc]
    · simp only [show ms_ofTurn (nI 4) = true by decide, show ms_ofAtom (nI 4) = false by decide, show decide (nI 4 ≠ 0) = true by decide, show decide (nI 4 ≠ 11) = true by decide, show decide (nI 4 ≠ 2) = true by decide, show decide (nI 4 ≠ 9) = true by decide, show decide (nI 4 ≠ 1) = true by decide, show decide (nI 4 ≠ 13) = true by decide, show decide (1 < nI 4) = true by decide, show sc_wt T 4 of how set fr = (ms_in of 0 (T - 1)) from rfl, Bool.true_and, Bool.and_true, Bool.not_true, Bool.not_false, Bool.false_or, Bool.true_or, Bool.or_true, Bool.false_and, Bool.or_false, Bool.and_assoc]
    · simp only [show ms_ofTurn (nI 5) = true by decide, show ms_ofAtom (nI 5) = false by decide, show decide (nI 5 ≠ 0) = true by decide, show decide (nI 5 ≠ 11) = true by decide, show decide (nI 5 ≠ 2) = true by decide, show decide (nI 5 ≠ 9) = true by decide, show decide (nI 5 ≠ 1) = true by decide, show decide (nI 5 ≠ 13) = true by decide, show decide (1 < nI 5) = true by decide, show sc_wt T 5 of how set fr = (ms_in of 0 (T - 1)) from rfl, Bool.true_and, Bool.and_true, Bool.not_true, Bool.not_false, Bool.false_or, Bool.true_or, Bool.or_true, Bool.false_and, Bool.or_false, Bool.and_assoc]
    · simp only [show ms_ofTurn (nI 6) = true by decide, show ms_ofAtom (nI 6) = false by decide, show decide (nI 6 ≠ 0) = true by decide, show decide (nI 6 ≠ 11) = true by decide, show decide (nI 6 ≠ 2) = true by decide, show decide (nI 6 ≠ 9) = true by decide, show decide (nI 6 ≠ 1) = true by decide, show decide (nI 6 ≠ 13) = true by decide, show decide (1 < nI 6) = true by decide, show sc_wt T 6 of how set fr = (ms_in of 0 (T - 1)) from rfl, Bool.true_and, Bool.and_true, Bool.not_true, Bool.not_false, Bool.false_or, Bool.true_or, Bool.or_true, Bool.false_and, Bool.or_false, Bool.and_assoc]
    · simp only [show ms_ofTurn (nI 7) = true by decide, show ms_ofAtom (nI 7) = false by decide, show decide (nI 7 ≠ 0) = true by decide, show decide (nI 7 ≠ 11) = true by decide, show decide (nI 7 ≠ 2) = true by decide, show decide (nI 7 ≠ 9) = true by decide, show decide (nI 7 ≠ 1) = true by decide, show decide (nI 7 ≠ 13) = true by decide, show decide (1 < nI 7) = true by decide, show sc_wt T 7 of how set fr = (ms_in of 0 (T - 1)) from rfl, Bool.true_and, Bool.and_true, Bool.not_true, Bool.not_false, Bool.false_or, Bool.true_or, Bool.or_true, Bool.false_and, Bool.or_false, Bool.and_assoc]
    · simp only [show ms_ofTurn (nI 8) = true by decide, show ms_ofAtom (nI 8) = false by decide, show decide (nI 8 ≠ 0) = true by decide, show decide (nI 8 ≠ 11) = true by decide, show decide (nI 8 ≠ 2) = true by decide, show decide (nI 8 ≠ 9) = true by decide, show decide (nI 8 ≠ 1) = true by decide, show decide (nI 8 ≠ 13) = true by decide, show decide (1 < nI 8) = true by decide, show sc_wt T 8 of how set fr = (ms_in of 0 (T - 1)) from rfl, Bool.true_and, Bool.and_true, Bool.not_true, Bool.not_false, Bool.false_or, Bool.true_or, Bool.or_true, Bool.false_and, Bool.or_false, Bool.and_assoc]
    · simp only [show ms_ofTurn (nI 9) = false by decide, show ms_ofAtom (nI 9) = true by decide, show decide (nI 9 ≠ 0) = true by decide, show decide (nI 9 ≠ 11) = true by decide, show decide (nI 9 ≠ 2) = true by decide, show decide (nI 9 ≠ 9) = false by decide, show decide (nI 9 ≠ 1) = true by decide, show decide (nI 9 ≠ 13) = true by decide, show decide (1 < nI 9) = true by decide, show sc_wt T 9 of how set fr = (ms_in of 0 9 && ms_in how 0 9 && decide (of ≠ how)) from rfl, show decide (of ≠ how) = decide (how ≠ of) from decide_eq_decide.mpr ⟨Ne.symm, Ne.symm⟩, Bool.true_and, Bool.and_true, Bool.not_true, Bool.not_false, Bool.false_or, Bool.true_or, Bool.or_true, Bool.false_and, Bool.or_false, Bool.and_assoc]
    · simp only [show ms_ofTurn (nI 10) = false by decide, show ms_ofAtom (nI 10) = true by decide, show decide (nI 10 ≠ 0) = true by decide, show decide (nI 10 ≠ 11) = true by decide, show decide (nI 10 ≠ 2) = true by decide, show decide (nI 10 ≠ 9) = true by decide, show decide (nI 10 ≠ 1) = true by decide, show decide (nI 10 ≠ 13) = true by decide, show decide (1 < nI 10) = true by decide, show sc_wt T 10 of how set fr = (ms_in of 0 9) from rfl, Bool.true_and, Bool.and_true, Bool.not_true, Bool.not_false, Bool.false_or, Bool.true_or, Bool.or_true, Bool.false_and, Bool.or_false, Bool.and_assoc]
    · simp only [show ms_ofTurn (nI 11) = false by decide, show ms_ofAtom (nI 11) = true by decide, show decide (nI 11 ≠ 0) = true by decide, show decide (nI 11 ≠ 11) = false by decide, show decide (nI 11 ≠ 2) = true by decide, show decide (nI 11 ≠ 9) = true by decide, show decide (nI 11 ≠ 1) = true by decide, show decide (nI 11 ≠ 13) = true by decide, show decide (1 < nI 11) = true by decide, show sc_wt T 11 of how set fr = (ms_in of 0 9 && ms_in how 1 2) from rfl, Bool.true_and, Bool.and_true, Bool.not_true, Bool.not_false, Bool.false_or, Bool.true_or, Bool.or_true, Bool.false_and, Bool.or_false, Bool.and_assoc]
    · simp only [show ms_ofTurn (nI 12) = false by decide, show ms_ofAtom (nI 12) = true by decide, show decide (nI 12 ≠ 0) = true by decide, show decide (nI 12 ≠ 11) = true by decide, show decide (nI 12 ≠ 2) = true by decide, show decide (nI 12 ≠ 9) = true by decide, show decide (nI 12 ≠ 1) = true by decide, show decide (nI 12 ≠ 13) = true by decide, show decide (1 < nI 12) = true by decide, show sc_wt T 12 of how set fr = (ms_in of 0 9) from rfl, Bool.true_and, Bool.and_true, Bool.not_true, Bool.not_false, Bool.false_or, Bool.true_or, Bool.or_true, Bool.false_and, Bool.or_false, Bool.and_assoc]
    · simp only [show ms_ofTurn (nI 13) = false by decide, show ms_ofAtom (nI 13) = false by decide, show decide (nI 13 ≠ 0) = true by decide, show decide (nI 13 ≠ 11) = true by decide, show decide (nI 13 ≠ 2) = true by decide, show decide (nI 13 ≠ 9) = true by decide, show decide (nI 13 ≠ 1) = true by decide, show decide (nI 13 ≠ 13) = false by decide, show decide (1 < nI 13) = true by decide, show sc_wt T 13 of how set fr = (sc_wo of how set fr) from rfl, sc_wo_eq, Bool.true_and, Bool.and_true, Bool.not_true, Bool.not_false, Bool.false_or, Bool.true_or, Bool.or_true, Bool.false_and, Bool.or_false, Bool.and_assoc]
    · simp only [show ms_ofTurn (nI 14) = true by decide, show ms_ofAtom (nI 14) = false by decide, show decide (nI 14 ≠ 0) = true by decide, show decide (nI 14 ≠ 11) = true by decide, show decide (nI 14 ≠ 2) = true by decide, show decide (nI 14 ≠ 9) = true by decide, show decide (nI 14 ≠ 1) = true by decide, show decide (nI 14 ≠ 13) = true by decide, show decide (1 < nI 14) = true by decide, show sc_wt T 14 of how set fr = (ms_in of 0 (T - 1)) from rfl, Bool.true_and, Bool.and_true, Bool.not_true, Bool.not_false, Bool.false_or, Bool.true_or, Bool.or_true, Bool.false_and, Bool.or_false, Bool.and_assoc]
    · simp only [show ms_ofTurn (nI 15) = true by decide, show ms_ofAtom (nI 15) = false by decide, show decide (nI 15 ≠ 0) = true by decide, show decide (nI 15 ≠ 11) = true by decide, show decide (nI 15 ≠ 2) = true by decide, show decide (nI 15 ≠ 9) = true by decide, show decide (nI 15 ≠ 1) = true by decide, show decide (nI 15 ≠ 13) = true by decide, show decide (1 < nI 15) = true by decide, show sc_wt T 15 of how set fr = (ms_in of 0 (T - 1)) from rfl, Bool.true_and, Bool.and_true, Bool.not_true, Bool.not_false, Bool.false_or, Bool.true_or, Bool.or_true, Bool.false_and, Bool.or_false, Bool.and_assoc]
set_option maxRecDepth 100000 in
set_option maxHeartbeats 4000000 in
theorem c_X3_isWellOffered (G : pa_G) (l : Launch) (K : Nat → Nat → Nat → Int32) (Sm S : Nat → Nat → Int32) (N : Nat → Nat) (O : Nat → Int64) (T D e : Nat) (z : sj_Z) (hs : sj_M K N T D z e S) (t m : Nat) (ht : t < D) (hm : m < 16) (hto : S 222 t = nI m) : pa_MP G l mX3_isWellOffered 3 [pv_o 3 t] (K, Sm, N, O) (pv_i (pz_b (sc_wo (S 220 t) (S 221 t) (S 222 t) (S 223 t)))) := by
  refine pa_go l (by decide) (by simp [pa_c1l, pa_c1]) (fun _ => rfl) fun x C E el ea => ?_
  subst el
  show pa_w G x 1 (K, Sm, N, O) 0 0 0 [some (pv_o 3 t)] []
  refine pr_aload_n (pc := 0) C dX3_isWellOffered_0 rfl ?_
  refine pr_geti (pc := 1) C 126 wf_X3_164 rfl (by decide) (pl_3 (sj_n0 hs (by first | assumption | omega))) dX3_isWellOffered_1 ?_
  refine pr_eqi (v := S 220 t) (sj_r126 hs (by first | assumption | omega)) ?_
  refine pr_iconst (pc := 4) (v := 0) C dX3_isWellOffered_4 (by decide) ?_
  refine pr_sipush (pc := 5) (v := 255) C dX3_isWellOffered_5 (by decide) ?_
  refine pr_sP (pc := 8) C (c_X3_isWithin G _ (K, Sm, N, O) (S 220 t) (0 : Int32) (255 : Int32)) ws_X3_251 rfl rfl (by decide) (Nat.le_of_ble_eq_true rfl) (by omega) (by omega) dX3_isWellOffered_8 ?_
  refine pr_ifb_eq (pc := 11) C 64 dX3_isWellOffered_11 (by decide) (fun c_11 => ?_) (fun c_11 => ?_)
  · refine pr_iconst (pc := 64) (v := 0) C dX3_isWellOffered_64 (by decide) ?_
    exact pr_iret (pc := 65) C E (Or.inr ⟨rfl, (by decide)⟩) (by omega) (by omega) ⟨(by simp [-Int32.not_le, -Int32.not_lt, pz_b, pz_lt, sc_wo, c_11]), rfl⟩ dX3_isWellOffered_65
  · refine pr_aload_n (pc := 14) C dX3_isWellOffered_14 rfl ?_
    refine pr_geti (pc := 15) C 127 wf_X3_167 rfl (by decide) (pl_3 (sj_n0 hs (by first | assumption | omega))) dX3_isWellOffered_15 ?_
    refine pr_eqi (v := S 221 t) (sj_r127 hs (by first | assumption | omega)) ?_
    refine pr_iconst (pc := 18) (v := 0) C dX3_isWellOffered_18 (by decide) ?_
    refine pr_sipush (pc := 19) (v := 255) C dX3_isWellOffered_19 (by decide) ?_
    refine pr_sP (pc := 22) C (c_X3_isWithin G _ (K, Sm, N, O) (S 221 t) (0 : Int32) (255 : Int32)) ws_X3_251 rfl rfl (by decide) (Nat.le_of_ble_eq_true rfl) (by omega) (by omega) dX3_isWellOffered_22 ?_
    refine pr_ifb_eq (pc := 25) C 64 dX3_isWellOffered_25 (by decide) (fun c_25 => ?_) (fun c_25 => ?_)
    · refine pr_iconst (pc := 64) (v := 0) C dX3_isWellOffered_64 (by decide) ?_
      exact pr_iret (pc := 65) C E (Or.inr ⟨rfl, (by decide)⟩) (by omega) (by omega) ⟨(by simp [-Int32.not_le, -Int32.not_lt, pz_b, pz_lt, sc_wo, c_11, c_25]), rfl⟩ dX3_isWellOffered_65
    · refine pr_aload_n (pc := 28) C dX3_isWellOffered_28 rfl ?_
      refine pr_geti (pc := 29) C 126 wf_X3_164 rfl (by decide) (pl_3 (sj_n0 hs (by first | assumption | omega))) dX3_isWellOffered_29 ?_
      refine pr_eqi (v := S 220 t) (sj_r126 hs (by first | assumption | omega)) ?_
      refine pr_aload_n (pc := 32) C dX3_isWellOffered_32 rfl ?_
      refine pr_geti (pc := 33) C 127 wf_X3_167 rfl (by decide) (pl_3 (sj_n0 hs (by first | assumption | omega))) dX3_isWellOffered_33 ?_
      refine pr_eqi (v := S 221 t) (sj_r127 hs (by first | assumption | omega)) ?_
      refine pr_ior (pc := 36) C dX3_isWellOffered_36 ?_
      refine pr_if_eq (pc := 37) C 64 dX3_isWellOffered_37 (by decide) (fun c_37 => ?_) (fun c_37 => ?_)
      · refine pr_iconst (pc := 64) (v := 0) C dX3_isWellOffered_64 (by decide) ?_
        exact pr_iret (pc := 65) C E (Or.inr ⟨rfl, (by decide)⟩) (by omega) (by omega) ⟨(by simp [-Int32.not_le, -Int32.not_lt, pz_b, pz_lt, sc_wo, c_11, c_25, eq_true c_37]), rfl⟩ dX3_isWellOffered_65
      · refine pr_aload_n (pc := 40) C dX3_isWellOffered_40 rfl ?_
        refine pr_geti (pc := 41) C 123 wf_X3_173 rfl (by decide) (pl_3 (sj_n0 hs (by first | assumption | omega))) dX3_isWellOffered_41 ?_
        refine pr_eqi (v := S 223 t) (sj_r123 hs (by first | assumption | omega)) ?_
        refine pr_iconst (pc := 44) (v := 1) C dX3_isWellOffered_44 (by decide) ?_
        refine pr_bipush (pc := 45) (v := 20) C dX3_isWellOffered_45 (by decide) ?_
        refine pr_sP (pc := 47) C (c_X3_isWithin G _ (K, Sm, N, O) (S 223 t) (1 : Int32) (20 : Int32)) ws_X3_251 rfl rfl (by decide) (Nat.le_of_ble_eq_true rfl) (by omega) (by omega) dX3_isWellOffered_47 ?_
        refine pr_ifb_eq (pc := 50) C 64 dX3_isWellOffered_50 (by decide) (fun c_50 => ?_) (fun c_50 => ?_)
        · refine pr_iconst (pc := 64) (v := 0) C dX3_isWellOffered_64 (by decide) ?_
          exact pr_iret (pc := 65) C E (Or.inr ⟨rfl, (by decide)⟩) (by omega) (by omega) ⟨(by simp [-Int32.not_le, -Int32.not_lt, pz_b, pz_lt, sc_wo, c_11, c_25, eq_false c_37, c_50]), rfl⟩ dX3_isWellOffered_65
        · refine pr_aload_n (pc := 53) C dX3_isWellOffered_53 rfl ?_
          refine pr_vP (pc := 54) C (c_X2_isToOneAlone G _ K Sm S N O T D e z hs t m (by first | assumption | omega) hm hto) wv_X3_271 rfl rfl (by decide) (by decide) (pl_3 (sj_n0 hs (by first | assumption | omega))) (Nat.le_of_ble_eq_true rfl) (by omega) (by omega) dX3_isWellOffered_54 ?_
          refine pr_ifb_eq (pc := 57) C 64 dX3_isWellOffered_57 (by decide) (fun c_57 => ?_) (fun c_57 => ?_)
          · refine pr_iconst (pc := 64) (v := 0) C dX3_isWellOffered_64 (by decide) ?_
            exact pr_iret (pc := 65) C E (Or.inr ⟨rfl, (by decide)⟩) (by omega) (by omega) ⟨(by simp [-Int32.not_le, -Int32.not_lt, pz_b, pz_lt, sc_wo, c_11, c_25, eq_false c_37, c_50, c_57]), rfl⟩ dX3_isWellOffered_65
          · refine pr_iconst (pc := 60) (v := 1) C dX3_isWellOffered_60 (by decide) ?_
            refine pr_goto (pc := 61) C 65 dX3_isWellOffered_61 (by decide) ?_
            exact pr_iret (pc := 65) C E (Or.inr ⟨rfl, (by decide)⟩) (by omega) (by omega) ⟨(by simp [-Int32.not_le, -Int32.not_lt, pz_b, pz_lt, sc_wo, c_11, c_25, eq_false c_37, c_50, c_57]), rfl⟩ dX3_isWellOffered_65

set_option maxRecDepth 100000 in
set_option maxHeartbeats 4000000 in
theorem c_X3_isWellToldY (G : pa_G) (l : Launch) (K : Nat → Nat → Nat → Int32) (Sm S : Nat → Nat → Int32) (N : Nat → Nat) (O : Nat → Int64) (T D e : Nat) (z : sj_Z) (hs : sj_M K N T D z e S) (t m a : Nat) (hT : T ≤ 100) (ht : t < D) (hm : m < 16) (hto : S 222 t = nI m) (ha16 : a < 16) (ha : S 219 t = nI a) : pa_MP G l mX3_isWellTold 5 [pv_o 4 0, pv_o 3 t] (K, Sm, N, O) (pv_i (pz_b (sc_wt (nI T) a (S 220 t) (S 221 t) (S 222 t) (S 223 t)))) := by
  refine pa_go l (by decide) (by simp [pa_c1l, pa_c1]) (fun _ => rfl) fun x C E el ea => ?_
  subst el
  have hTD := sj_TD hs
  show pa_w G x 2 (K, Sm, N, O) 0 0 0 [some (pv_o 4 0), some (pv_o 3 t)] []
  refine pr_aload_n (pc := 0) C dX3_isWellTold_0 rfl ?_
  refine pr_geti (pc := 1) C 121 wf_X3_161 rfl (by decide) (pl_3 (sj_n0 hs (by first | assumption | omega))) dX3_isWellTold_1 ?_
  refine pr_eqi (v := S 219 t) (sj_r121 hs (by first | assumption | omega)) ?_
  refine pr_eqi ha ?_
  obtain rfl | rfl | rfl | rfl | rfl | rfl | rfl | rfl | rfl | rfl | rfl | rfl | rfl | rfl | rfl | rfl : a = 0 ∨ a = 1 ∨ a = 2 ∨ a = 3 ∨ a = 4 ∨ a = 5 ∨ a = 6 ∨ a = 7 ∨ a = 8 ∨ a = 9 ∨ a = 10 ∨ a = 11 ∨ a = 12 ∨ a = 13 ∨ a = 14 ∨ a = 15 := by omega
  · -- 0
    refine pr_tableIn (pc := 4) C 84 dX3_isWellTold_4 (by decide) (by decide) (off := 80) (by decide) (by decide) ?_
    refine pr_aload_n (pc := 84) C dX3_isWellTold_84 rfl ?_
    refine pr_geti (pc := 85) C 126 wf_X3_164 rfl (by decide) (pl_3 (sj_n0 hs (by first | assumption | omega))) dX3_isWellTold_85 ?_
    refine pr_eqi (v := S 220 t) (sj_r126 hs (by first | assumption | omega)) ?_
    refine pr_sP (pc := 88) C (c_X3_isAtom G _ (K, Sm, N, O) (S 220 t)) ws_X3_243 rfl rfl (by decide) (Nat.le_of_ble_eq_true rfl) (by omega) (by omega) dX3_isWellTold_88 ?_
    refine pr_ifb_eq (pc := 91) C 120 dX3_isWellTold_91 (by decide) (fun c_91 => ?_) (fun c_91 => ?_)
    · refine pr_iconst (pc := 120) (v := 0) C dX3_isWellTold_120 (by decide) ?_
      exact pr_iret (pc := 121) C E (Or.inr ⟨rfl, (by decide)⟩) (by omega) (by omega) ⟨(by simp [sc_wt, pz_b, -Int32.not_le, -Int32.not_lt, c_91]), rfl⟩ dX3_isWellTold_121
    · refine pr_aload_n (pc := 94) C dX3_isWellTold_94 rfl ?_
      refine pr_geti (pc := 95) C 127 wf_X3_167 rfl (by decide) (pl_3 (sj_n0 hs (by first | assumption | omega))) dX3_isWellTold_95 ?_
      refine pr_eqi (v := S 221 t) (sj_r127 hs (by first | assumption | omega)) ?_
      refine pr_iconst (pc := 98) (v := 1) C dX3_isWellTold_98 (by decide) ?_
      refine pr_iconst (pc := 99) (v := 2) C dX3_isWellTold_99 (by decide) ?_
      refine pr_sP (pc := 100) C (c_X3_isWithin G _ (K, Sm, N, O) (S 221 t) (1 : Int32) (2 : Int32)) ws_X3_251 rfl rfl (by decide) (Nat.le_of_ble_eq_true rfl) (by omega) (by omega) dX3_isWellTold_100 ?_
      refine pr_ifb_eq (pc := 103) C 120 dX3_isWellTold_103 (by decide) (fun c_103 => ?_) (fun c_103 => ?_)
      · refine pr_iconst (pc := 120) (v := 0) C dX3_isWellTold_120 (by decide) ?_
        exact pr_iret (pc := 121) C E (Or.inr ⟨rfl, (by decide)⟩) (by omega) (by omega) ⟨(by simp [sc_wt, pz_b, -Int32.not_le, -Int32.not_lt, c_91, c_103]), rfl⟩ dX3_isWellTold_121
      · refine pr_aload_n (pc := 106) C dX3_isWellTold_106 rfl ?_
        refine pr_geti (pc := 107) C 123 wf_X3_173 rfl (by decide) (pl_3 (sj_n0 hs (by first | assumption | omega))) dX3_isWellTold_107 ?_
        refine pr_eqi (v := S 223 t) (sj_r123 hs (by first | assumption | omega)) ?_
        refine pr_sP (pc := 110) C (c_X3_isAtomOrNone G _ (K, Sm, N, O) (S 223 t)) ws_X3_268 rfl rfl (by decide) (Nat.le_of_ble_eq_true rfl) (by omega) (by omega) dX3_isWellTold_110 ?_
        refine pr_ifb_eq (pc := 113) C 120 dX3_isWellTold_113 (by decide) (fun c_113 => ?_) (fun c_113 => ?_)
        · refine pr_iconst (pc := 120) (v := 0) C dX3_isWellTold_120 (by decide) ?_
          exact pr_iret (pc := 121) C E (Or.inr ⟨rfl, (by decide)⟩) (by omega) (by omega) ⟨(by simp [sc_wt, pz_b, -Int32.not_le, -Int32.not_lt, c_91, c_103, c_113]), rfl⟩ dX3_isWellTold_121
        · refine pr_iconst (pc := 116) (v := 1) C dX3_isWellTold_116 (by decide) ?_
          refine pr_goto (pc := 117) C 121 dX3_isWellTold_117 (by decide) ?_
          exact pr_iret (pc := 121) C E (Or.inr ⟨rfl, (by decide)⟩) (by omega) (by omega) ⟨(by simp [sc_wt, pz_b, -Int32.not_le, -Int32.not_lt, c_91, c_103, c_113]), rfl⟩ dX3_isWellTold_121
  · -- 1
    refine pr_tableIn (pc := 4) C 122 dX3_isWellTold_4 (by decide) (by decide) (off := 118) (by decide) (by decide) ?_
    refine pr_aload_n (pc := 122) C dX3_isWellTold_122 rfl ?_
    refine pr_geti (pc := 123) C 126 wf_X3_164 rfl (by decide) (pl_3 (sj_n0 hs (by first | assumption | omega))) dX3_isWellTold_123 ?_
    refine pr_eqi (v := S 220 t) (sj_r126 hs (by first | assumption | omega)) ?_
    refine pr_sP (pc := 126) C (c_X3_isAtom G _ (K, Sm, N, O) (S 220 t)) ws_X3_243 rfl rfl (by decide) (Nat.le_of_ble_eq_true rfl) (by omega) (by omega) dX3_isWellTold_126 ?_
    refine pr_ifb_eq (pc := 129) C 153 dX3_isWellTold_129 (by decide) (fun c_129 => ?_) (fun c_129 => ?_)
    · refine pr_iconst (pc := 153) (v := 0) C dX3_isWellTold_153 (by decide) ?_
      exact pr_iret (pc := 154) C E (Or.inr ⟨rfl, (by decide)⟩) (by omega) (by omega) ⟨(by simp [sc_wt, pz_b, -Int32.not_le, -Int32.not_lt, c_129]), rfl⟩ dX3_isWellTold_154
    · refine pr_aload_n (pc := 132) C dX3_isWellTold_132 rfl ?_
      refine pr_geti (pc := 133) C 123 wf_X3_173 rfl (by decide) (pl_3 (sj_n0 hs (by first | assumption | omega))) dX3_isWellTold_133 ?_
      refine pr_eqi (v := S 223 t) (sj_r123 hs (by first | assumption | omega)) ?_
      refine pr_sP (pc := 136) C (c_X3_isAtomOrNone G _ (K, Sm, N, O) (S 223 t)) ws_X3_268 rfl rfl (by decide) (Nat.le_of_ble_eq_true rfl) (by omega) (by omega) dX3_isWellTold_136 ?_
      refine pr_ifb_eq (pc := 139) C 153 dX3_isWellTold_139 (by decide) (fun c_139 => ?_) (fun c_139 => ?_)
      · refine pr_iconst (pc := 153) (v := 0) C dX3_isWellTold_153 (by decide) ?_
        exact pr_iret (pc := 154) C E (Or.inr ⟨rfl, (by decide)⟩) (by omega) (by omega) ⟨(by simp [sc_wt, pz_b, -Int32.not_le, -Int32.not_lt, c_129, c_139]), rfl⟩ dX3_isWellTold_154
      · refine pr_aload_n (pc := 142) C dX3_isWellTold_142 rfl ?_
        refine pr_vP (pc := 143) C (c_X2_isToOneAlone G _ K Sm S N O T D e z hs t m (by first | assumption | omega) hm hto) wv_X3_271 rfl rfl (by decide) (by decide) (pl_3 (sj_n0 hs (by first | assumption | omega))) (Nat.le_of_ble_eq_true rfl) (by omega) (by omega) dX3_isWellTold_143 ?_
        refine pr_ifb_eq (pc := 146) C 153 dX3_isWellTold_146 (by decide) (fun c_146 => ?_) (fun c_146 => ?_)
        · refine pr_iconst (pc := 153) (v := 0) C dX3_isWellTold_153 (by decide) ?_
          exact pr_iret (pc := 154) C E (Or.inr ⟨rfl, (by decide)⟩) (by omega) (by omega) ⟨(by simp [sc_wt, pz_b, -Int32.not_le, -Int32.not_lt, c_129, c_139, c_146]), rfl⟩ dX3_isWellTold_154
        · refine pr_iconst (pc := 149) (v := 1) C dX3_isWellTold_149 (by decide) ?_
          refine pr_goto (pc := 150) C 154 dX3_isWellTold_150 (by decide) ?_
          exact pr_iret (pc := 154) C E (Or.inr ⟨rfl, (by decide)⟩) (by omega) (by omega) ⟨(by simp [sc_wt, pz_b, -Int32.not_le, -Int32.not_lt, c_129, c_139, c_146]), rfl⟩ dX3_isWellTold_154
  · -- 2
    refine pr_tableIn (pc := 4) C 155 dX3_isWellTold_4 (by decide) (by decide) (off := 151) (by decide) (by decide) ?_
    refine pr_aload_n (pc := 155) C dX3_isWellTold_155 rfl ?_
    refine pr_geti (pc := 156) C 127 wf_X3_167 rfl (by decide) (pl_3 (sj_n0 hs (by first | assumption | omega))) dX3_isWellTold_156 ?_
    refine pr_eqi (v := S 221 t) (sj_r127 hs (by first | assumption | omega)) ?_
    refine pr_iconst (pc := 159) (v := 0) C dX3_isWellTold_159 (by decide) ?_
    refine pr_iconst (pc := 160) (v := 2) C dX3_isWellTold_160 (by decide) ?_
    refine pr_sP (pc := 161) C (c_X3_isWithin G _ (K, Sm, N, O) (S 221 t) (0 : Int32) (2 : Int32)) ws_X3_251 rfl rfl (by decide) (Nat.le_of_ble_eq_true rfl) (by omega) (by omega) dX3_isWellTold_161 ?_
    exact pr_iret (pc := 164) C E (Or.inr ⟨rfl, (pz_b01 _)⟩) (by omega) (by omega) ⟨(by simp [sc_wt, pz_b, -Int32.not_le, -Int32.not_lt]), rfl⟩ dX3_isWellTold_164
  · -- 3
    refine pr_tableIn (pc := 4) C 165 dX3_isWellTold_4 (by decide) (by decide) (off := 161) (by decide) (by decide) ?_
    refine pr_iconst (pc := 165) (v := 1) C dX3_isWellTold_165 (by decide) ?_
    exact pr_iret (pc := 166) C E (Or.inr ⟨rfl, (by decide)⟩) (by omega) (by omega) ⟨(by simp [sc_wt, pz_b, -Int32.not_le, -Int32.not_lt]), rfl⟩ dX3_isWellTold_166
  · -- 4
    refine pr_tableIn (pc := 4) C 167 dX3_isWellTold_4 (by decide) (by decide) (off := 163) (by decide) (by decide) ?_
    rcases hin : ms_in (S 220 t) 0 (nI T - 1) with _ | _
    · -- no such turn
      refine pr_aload_n (pc := 167) C dX3_isWellTold_167 rfl ?_
      refine pr_aload_n (pc := 168) C dX3_isWellTold_168 rfl ?_
      refine pr_geti (pc := 169) C 126 wf_X3_164 rfl (by decide) (pl_3 (sj_n0 hs (by first | assumption | omega))) dX3_isWellTold_169 ?_
      refine pr_eqi (v := S 220 t) (sj_r126 hs (by first | assumption | omega)) ?_
      refine pr_vP (pc := 172) C (c_X3_turnAtN G _ K Sm S N O T D e z hs (S 220 t) hT hin) wv_X3_151 rfl rfl (by decide) (by decide) (pl_4 _) (Nat.le_of_ble_eq_true rfl) (by omega) (by omega) dX3_isWellTold_172 ?_
      refine pr_ifnull0 (pc := 175) C 182 dX3_isWellTold_175 (by decide) ?_
      refine pr_iconst (pc := 182) (v := 0) C dX3_isWellTold_182 (by decide) ?_
      exact pr_iret (pc := 183) C E (Or.inr ⟨rfl, (by decide)⟩) (by omega) (by omega) ⟨(by simp [sc_wt, pz_b, -Int32.not_le, -Int32.not_lt, hin]), rfl⟩ dX3_isWellTold_183
    · obtain ⟨u, hu, eu⟩ := sc_inTk (t := 0) hT hin
      refine pr_aload_n (pc := 167) C dX3_isWellTold_167 rfl ?_
      refine pr_aload_n (pc := 168) C dX3_isWellTold_168 rfl ?_
      refine pr_geti (pc := 169) C 126 wf_X3_164 rfl (by decide) (pl_3 (sj_n0 hs (by first | assumption | omega))) dX3_isWellTold_169 ?_
      refine pr_eqi (v := S 220 t) (sj_r126 hs (by first | assumption | omega)) ?_
      refine pr_eqi eu ?_
      refine pr_vP (pc := 172) C (c_X3_turnAtY G _ K Sm S N O T D e z hs u (by first | assumption | omega) hT) wv_X3_151 rfl rfl (by decide) (by decide) (pl_4 _) (Nat.le_of_ble_eq_true rfl) (by omega) (by omega) dX3_isWellTold_172 ?_
      refine pr_ifnull1 (pc := 175) C dX3_isWellTold_175 ?_
      refine pr_iconst (pc := 178) (v := 1) C dX3_isWellTold_178 (by decide) ?_
      refine pr_goto (pc := 179) C 183 dX3_isWellTold_179 (by decide) ?_
      exact pr_iret (pc := 183) C E (Or.inr ⟨rfl, (by decide)⟩) (by omega) (by omega) ⟨(by simp [sc_wt, pz_b, -Int32.not_le, -Int32.not_lt, hin]), rfl⟩ dX3_isWellTold_183
  · -- 5
    refine pr_tableIn (pc := 4) C 167 dX3_isWellTold_4 (by decide) (by decide) (off := 163) (by decide) (by decide) ?_
    rcases hin : ms_in (S 220 t) 0 (nI T - 1) with _ | _
    · -- no such turn
      refine pr_aload_n (pc := 167) C dX3_isWellTold_167 rfl ?_
      refine pr_aload_n (pc := 168) C dX3_isWellTold_168 rfl ?_
      refine pr_geti (pc := 169) C 126 wf_X3_164 rfl (by decide) (pl_3 (sj_n0 hs (by first | assumption | omega))) dX3_isWellTold_169 ?_
      refine pr_eqi (v := S 220 t) (sj_r126 hs (by first | assumption | omega)) ?_
      refine pr_vP (pc := 172) C (c_X3_turnAtN G _ K Sm S N O T D e z hs (S 220 t) hT hin) wv_X3_151 rfl rfl (by decide) (by decide) (pl_4 _) (Nat.le_of_ble_eq_true rfl) (by omega) (by omega) dX3_isWellTold_172 ?_
      refine pr_ifnull0 (pc := 175) C 182 dX3_isWellTold_175 (by decide) ?_
      refine pr_iconst (pc := 182) (v := 0) C dX3_isWellTold_182 (by decide) ?_
      exact pr_iret (pc := 183) C E (Or.inr ⟨rfl, (by decide)⟩) (by omega) (by omega) ⟨(by simp [sc_wt, pz_b, -Int32.not_le, -Int32.not_lt, hin]), rfl⟩ dX3_isWellTold_183
    · obtain ⟨u, hu, eu⟩ := sc_inTk (t := 0) hT hin
      refine pr_aload_n (pc := 167) C dX3_isWellTold_167 rfl ?_
      refine pr_aload_n (pc := 168) C dX3_isWellTold_168 rfl ?_
      refine pr_geti (pc := 169) C 126 wf_X3_164 rfl (by decide) (pl_3 (sj_n0 hs (by first | assumption | omega))) dX3_isWellTold_169 ?_
      refine pr_eqi (v := S 220 t) (sj_r126 hs (by first | assumption | omega)) ?_
      refine pr_eqi eu ?_
      refine pr_vP (pc := 172) C (c_X3_turnAtY G _ K Sm S N O T D e z hs u (by first | assumption | omega) hT) wv_X3_151 rfl rfl (by decide) (by decide) (pl_4 _) (Nat.le_of_ble_eq_true rfl) (by omega) (by omega) dX3_isWellTold_172 ?_
      refine pr_ifnull1 (pc := 175) C dX3_isWellTold_175 ?_
      refine pr_iconst (pc := 178) (v := 1) C dX3_isWellTold_178 (by decide) ?_
      refine pr_goto (pc := 179) C 183 dX3_isWellTold_179 (by decide) ?_
      exact pr_iret (pc := 183) C E (Or.inr ⟨rfl, (by decide)⟩) (by omega) (by omega) ⟨(by simp [sc_wt, pz_b, -Int32.not_le, -Int32.not_lt, hin]), rfl⟩ dX3_isWellTold_183
  · -- 6
    refine pr_tableIn (pc := 4) C 167 dX3_isWellTold_4 (by decide) (by decide) (off := 163) (by decide) (by decide) ?_
    rcases hin : ms_in (S 220 t) 0 (nI T - 1) with _ | _
    · -- no such turn
      refine pr_aload_n (pc := 167) C dX3_isWellTold_167 rfl ?_
      refine pr_aload_n (pc := 168) C dX3_isWellTold_168 rfl ?_
      refine pr_geti (pc := 169) C 126 wf_X3_164 rfl (by decide) (pl_3 (sj_n0 hs (by first | assumption | omega))) dX3_isWellTold_169 ?_
      refine pr_eqi (v := S 220 t) (sj_r126 hs (by first | assumption | omega)) ?_
      refine pr_vP (pc := 172) C (c_X3_turnAtN G _ K Sm S N O T D e z hs (S 220 t) hT hin) wv_X3_151 rfl rfl (by decide) (by decide) (pl_4 _) (Nat.le_of_ble_eq_true rfl) (by omega) (by omega) dX3_isWellTold_172 ?_
      refine pr_ifnull0 (pc := 175) C 182 dX3_isWellTold_175 (by decide) ?_
      refine pr_iconst (pc := 182) (v := 0) C dX3_isWellTold_182 (by decide) ?_
      exact pr_iret (pc := 183) C E (Or.inr ⟨rfl, (by decide)⟩) (by omega) (by omega) ⟨(by simp [sc_wt, pz_b, -Int32.not_le, -Int32.not_lt, hin]), rfl⟩ dX3_isWellTold_183
    · obtain ⟨u, hu, eu⟩ := sc_inTk (t := 0) hT hin
      refine pr_aload_n (pc := 167) C dX3_isWellTold_167 rfl ?_
      refine pr_aload_n (pc := 168) C dX3_isWellTold_168 rfl ?_
      refine pr_geti (pc := 169) C 126 wf_X3_164 rfl (by decide) (pl_3 (sj_n0 hs (by first | assumption | omega))) dX3_isWellTold_169 ?_
      refine pr_eqi (v := S 220 t) (sj_r126 hs (by first | assumption | omega)) ?_
      refine pr_eqi eu ?_
      refine pr_vP (pc := 172) C (c_X3_turnAtY G _ K Sm S N O T D e z hs u (by first | assumption | omega) hT) wv_X3_151 rfl rfl (by decide) (by decide) (pl_4 _) (Nat.le_of_ble_eq_true rfl) (by omega) (by omega) dX3_isWellTold_172 ?_
      refine pr_ifnull1 (pc := 175) C dX3_isWellTold_175 ?_
      refine pr_iconst (pc := 178) (v := 1) C dX3_isWellTold_178 (by decide) ?_
      refine pr_goto (pc := 179) C 183 dX3_isWellTold_179 (by decide) ?_
      exact pr_iret (pc := 183) C E (Or.inr ⟨rfl, (by decide)⟩) (by omega) (by omega) ⟨(by simp [sc_wt, pz_b, -Int32.not_le, -Int32.not_lt, hin]), rfl⟩ dX3_isWellTold_183
  · -- 7
    refine pr_tableIn (pc := 4) C 167 dX3_isWellTold_4 (by decide) (by decide) (off := 163) (by decide) (by decide) ?_
    rcases hin : ms_in (S 220 t) 0 (nI T - 1) with _ | _
    · -- no such turn
      refine pr_aload_n (pc := 167) C dX3_isWellTold_167 rfl ?_
      refine pr_aload_n (pc := 168) C dX3_isWellTold_168 rfl ?_
      refine pr_geti (pc := 169) C 126 wf_X3_164 rfl (by decide) (pl_3 (sj_n0 hs (by first | assumption | omega))) dX3_isWellTold_169 ?_
      refine pr_eqi (v := S 220 t) (sj_r126 hs (by first | assumption | omega)) ?_
      refine pr_vP (pc := 172) C (c_X3_turnAtN G _ K Sm S N O T D e z hs (S 220 t) hT hin) wv_X3_151 rfl rfl (by decide) (by decide) (pl_4 _) (Nat.le_of_ble_eq_true rfl) (by omega) (by omega) dX3_isWellTold_172 ?_
      refine pr_ifnull0 (pc := 175) C 182 dX3_isWellTold_175 (by decide) ?_
      refine pr_iconst (pc := 182) (v := 0) C dX3_isWellTold_182 (by decide) ?_
      exact pr_iret (pc := 183) C E (Or.inr ⟨rfl, (by decide)⟩) (by omega) (by omega) ⟨(by simp [sc_wt, pz_b, -Int32.not_le, -Int32.not_lt, hin]), rfl⟩ dX3_isWellTold_183
    · obtain ⟨u, hu, eu⟩ := sc_inTk (t := 0) hT hin
      refine pr_aload_n (pc := 167) C dX3_isWellTold_167 rfl ?_
      refine pr_aload_n (pc := 168) C dX3_isWellTold_168 rfl ?_
      refine pr_geti (pc := 169) C 126 wf_X3_164 rfl (by decide) (pl_3 (sj_n0 hs (by first | assumption | omega))) dX3_isWellTold_169 ?_
      refine pr_eqi (v := S 220 t) (sj_r126 hs (by first | assumption | omega)) ?_
      refine pr_eqi eu ?_
      refine pr_vP (pc := 172) C (c_X3_turnAtY G _ K Sm S N O T D e z hs u (by first | assumption | omega) hT) wv_X3_151 rfl rfl (by decide) (by decide) (pl_4 _) (Nat.le_of_ble_eq_true rfl) (by omega) (by omega) dX3_isWellTold_172 ?_
      refine pr_ifnull1 (pc := 175) C dX3_isWellTold_175 ?_
      refine pr_iconst (pc := 178) (v := 1) C dX3_isWellTold_178 (by decide) ?_
      refine pr_goto (pc := 179) C 183 dX3_isWellTold_179 (by decide) ?_
      exact pr_iret (pc := 183) C E (Or.inr ⟨rfl, (by decide)⟩) (by omega) (by omega) ⟨(by simp [sc_wt, pz_b, -Int32.not_le, -Int32.not_lt, hin]), rfl⟩ dX3_isWellTold_183
  · -- 8
    refine pr_tableIn (pc := 4) C 167 dX3_isWellTold_4 (by decide) (by decide) (off := 163) (by decide) (by decide) ?_
    rcases hin : ms_in (S 220 t) 0 (nI T - 1) with _ | _
    · -- no such turn
      refine pr_aload_n (pc := 167) C dX3_isWellTold_167 rfl ?_
      refine pr_aload_n (pc := 168) C dX3_isWellTold_168 rfl ?_
      refine pr_geti (pc := 169) C 126 wf_X3_164 rfl (by decide) (pl_3 (sj_n0 hs (by first | assumption | omega))) dX3_isWellTold_169 ?_
      refine pr_eqi (v := S 220 t) (sj_r126 hs (by first | assumption | omega)) ?_
      refine pr_vP (pc := 172) C (c_X3_turnAtN G _ K Sm S N O T D e z hs (S 220 t) hT hin) wv_X3_151 rfl rfl (by decide) (by decide) (pl_4 _) (Nat.le_of_ble_eq_true rfl) (by omega) (by omega) dX3_isWellTold_172 ?_
      refine pr_ifnull0 (pc := 175) C 182 dX3_isWellTold_175 (by decide) ?_
      refine pr_iconst (pc := 182) (v := 0) C dX3_isWellTold_182 (by decide) ?_
      exact pr_iret (pc := 183) C E (Or.inr ⟨rfl, (by decide)⟩) (by omega) (by omega) ⟨(by simp [sc_wt, pz_b, -Int32.not_le, -Int32.not_lt, hin]), rfl⟩ dX3_isWellTold_183
    · obtain ⟨u, hu, eu⟩ := sc_inTk (t := 0) hT hin
      refine pr_aload_n (pc := 167) C dX3_isWellTold_167 rfl ?_
      refine pr_aload_n (pc := 168) C dX3_isWellTold_168 rfl ?_
      refine pr_geti (pc := 169) C 126 wf_X3_164 rfl (by decide) (pl_3 (sj_n0 hs (by first | assumption | omega))) dX3_isWellTold_169 ?_
      refine pr_eqi (v := S 220 t) (sj_r126 hs (by first | assumption | omega)) ?_
      refine pr_eqi eu ?_
      refine pr_vP (pc := 172) C (c_X3_turnAtY G _ K Sm S N O T D e z hs u (by first | assumption | omega) hT) wv_X3_151 rfl rfl (by decide) (by decide) (pl_4 _) (Nat.le_of_ble_eq_true rfl) (by omega) (by omega) dX3_isWellTold_172 ?_
      refine pr_ifnull1 (pc := 175) C dX3_isWellTold_175 ?_
      refine pr_iconst (pc := 178) (v := 1) C dX3_isWellTold_178 (by decide) ?_
      refine pr_goto (pc := 179) C 183 dX3_isWellTold_179 (by decide) ?_
      exact pr_iret (pc := 183) C E (Or.inr ⟨rfl, (by decide)⟩) (by omega) (by omega) ⟨(by simp [sc_wt, pz_b, -Int32.not_le, -Int32.not_lt, hin]), rfl⟩ dX3_isWellTold_183
  · -- 9
    refine pr_tableIn (pc := 4) C 184 dX3_isWellTold_4 (by decide) (by decide) (off := 180) (by decide) (by decide) ?_
    refine pr_aload_n (pc := 184) C dX3_isWellTold_184 rfl ?_
    refine pr_geti (pc := 185) C 126 wf_X3_164 rfl (by decide) (pl_3 (sj_n0 hs (by first | assumption | omega))) dX3_isWellTold_185 ?_
    refine pr_eqi (v := S 220 t) (sj_r126 hs (by first | assumption | omega)) ?_
    refine pr_sP (pc := 188) C (c_X3_isAtom G _ (K, Sm, N, O) (S 220 t)) ws_X3_243 rfl rfl (by decide) (Nat.le_of_ble_eq_true rfl) (by omega) (by omega) dX3_isWellTold_188 ?_
    refine pr_ifb_eq (pc := 191) C 219 dX3_isWellTold_191 (by decide) (fun c_191 => ?_) (fun c_191 => ?_)
    · refine pr_iconst (pc := 219) (v := 0) C dX3_isWellTold_219 (by decide) ?_
      exact pr_iret (pc := 220) C E (Or.inr ⟨rfl, (by decide)⟩) (by omega) (by omega) ⟨(by simp [sc_wt, pz_b, -Int32.not_le, -Int32.not_lt, c_191]), rfl⟩ dX3_isWellTold_220
    · refine pr_aload_n (pc := 194) C dX3_isWellTold_194 rfl ?_
      refine pr_geti (pc := 195) C 127 wf_X3_167 rfl (by decide) (pl_3 (sj_n0 hs (by first | assumption | omega))) dX3_isWellTold_195 ?_
      refine pr_eqi (v := S 221 t) (sj_r127 hs (by first | assumption | omega)) ?_
      refine pr_sP (pc := 198) C (c_X3_isAtom G _ (K, Sm, N, O) (S 221 t)) ws_X3_243 rfl rfl (by decide) (Nat.le_of_ble_eq_true rfl) (by omega) (by omega) dX3_isWellTold_198 ?_
      refine pr_ifb_eq (pc := 201) C 219 dX3_isWellTold_201 (by decide) (fun c_201 => ?_) (fun c_201 => ?_)
      · refine pr_iconst (pc := 219) (v := 0) C dX3_isWellTold_219 (by decide) ?_
        exact pr_iret (pc := 220) C E (Or.inr ⟨rfl, (by decide)⟩) (by omega) (by omega) ⟨(by simp [sc_wt, pz_b, -Int32.not_le, -Int32.not_lt, c_191, c_201]), rfl⟩ dX3_isWellTold_220
      · refine pr_aload_n (pc := 204) C dX3_isWellTold_204 rfl ?_
        refine pr_geti (pc := 205) C 126 wf_X3_164 rfl (by decide) (pl_3 (sj_n0 hs (by first | assumption | omega))) dX3_isWellTold_205 ?_
        refine pr_eqi (v := S 220 t) (sj_r126 hs (by first | assumption | omega)) ?_
        refine pr_aload_n (pc := 208) C dX3_isWellTold_208 rfl ?_
        refine pr_geti (pc := 209) C 127 wf_X3_167 rfl (by decide) (pl_3 (sj_n0 hs (by first | assumption | omega))) dX3_isWellTold_209 ?_
        refine pr_eqi (v := S 221 t) (sj_r127 hs (by first | assumption | omega)) ?_
        refine pr_icmp_eq (pc := 212) C 219 dX3_isWellTold_212 (by decide) (fun c_212 => ?_) (fun c_212 => ?_)
        · refine pr_iconst (pc := 219) (v := 0) C dX3_isWellTold_219 (by decide) ?_
          exact pr_iret (pc := 220) C E (Or.inr ⟨rfl, (by decide)⟩) (by omega) (by omega) ⟨(by simp [sc_wt, pz_b, -Int32.not_le, -Int32.not_lt, c_191, c_201, eq_true c_212]), rfl⟩ dX3_isWellTold_220
        · refine pr_iconst (pc := 215) (v := 1) C dX3_isWellTold_215 (by decide) ?_
          refine pr_goto (pc := 216) C 220 dX3_isWellTold_216 (by decide) ?_
          exact pr_iret (pc := 220) C E (Or.inr ⟨rfl, (by decide)⟩) (by omega) (by omega) ⟨(by simp [sc_wt, pz_b, -Int32.not_le, -Int32.not_lt, c_191, c_201, eq_false c_212]), rfl⟩ dX3_isWellTold_220
  · -- 10
    refine pr_tableIn (pc := 4) C 221 dX3_isWellTold_4 (by decide) (by decide) (off := 217) (by decide) (by decide) ?_
    refine pr_aload_n (pc := 221) C dX3_isWellTold_221 rfl ?_
    refine pr_geti (pc := 222) C 126 wf_X3_164 rfl (by decide) (pl_3 (sj_n0 hs (by first | assumption | omega))) dX3_isWellTold_222 ?_
    refine pr_eqi (v := S 220 t) (sj_r126 hs (by first | assumption | omega)) ?_
    refine pr_sP (pc := 225) C (c_X3_isAtom G _ (K, Sm, N, O) (S 220 t)) ws_X3_243 rfl rfl (by decide) (Nat.le_of_ble_eq_true rfl) (by omega) (by omega) dX3_isWellTold_225 ?_
    exact pr_iret (pc := 228) C E (Or.inr ⟨rfl, (pz_b01 _)⟩) (by omega) (by omega) ⟨(by simp [sc_wt, pz_b, -Int32.not_le, -Int32.not_lt]), rfl⟩ dX3_isWellTold_228
  · -- 11
    refine pr_tableIn (pc := 4) C 229 dX3_isWellTold_4 (by decide) (by decide) (off := 225) (by decide) (by decide) ?_
    refine pr_aload_n (pc := 229) C dX3_isWellTold_229 rfl ?_
    refine pr_geti (pc := 230) C 126 wf_X3_164 rfl (by decide) (pl_3 (sj_n0 hs (by first | assumption | omega))) dX3_isWellTold_230 ?_
    refine pr_eqi (v := S 220 t) (sj_r126 hs (by first | assumption | omega)) ?_
    refine pr_sP (pc := 233) C (c_X3_isAtom G _ (K, Sm, N, O) (S 220 t)) ws_X3_243 rfl rfl (by decide) (Nat.le_of_ble_eq_true rfl) (by omega) (by omega) dX3_isWellTold_233 ?_
    refine pr_ifb_eq (pc := 236) C 255 dX3_isWellTold_236 (by decide) (fun c_236 => ?_) (fun c_236 => ?_)
    · refine pr_iconst (pc := 255) (v := 0) C dX3_isWellTold_255 (by decide) ?_
      exact pr_iret (pc := 256) C E (Or.inr ⟨rfl, (by decide)⟩) (by omega) (by omega) ⟨(by simp [sc_wt, pz_b, -Int32.not_le, -Int32.not_lt, c_236]), rfl⟩ dX3_isWellTold_256
    · refine pr_aload_n (pc := 239) C dX3_isWellTold_239 rfl ?_
      refine pr_geti (pc := 240) C 127 wf_X3_167 rfl (by decide) (pl_3 (sj_n0 hs (by first | assumption | omega))) dX3_isWellTold_240 ?_
      refine pr_eqi (v := S 221 t) (sj_r127 hs (by first | assumption | omega)) ?_
      refine pr_iconst (pc := 243) (v := 1) C dX3_isWellTold_243 (by decide) ?_
      refine pr_iconst (pc := 244) (v := 2) C dX3_isWellTold_244 (by decide) ?_
      refine pr_sP (pc := 245) C (c_X3_isWithin G _ (K, Sm, N, O) (S 221 t) (1 : Int32) (2 : Int32)) ws_X3_251 rfl rfl (by decide) (Nat.le_of_ble_eq_true rfl) (by omega) (by omega) dX3_isWellTold_245 ?_
      refine pr_ifb_eq (pc := 248) C 255 dX3_isWellTold_248 (by decide) (fun c_248 => ?_) (fun c_248 => ?_)
      · refine pr_iconst (pc := 255) (v := 0) C dX3_isWellTold_255 (by decide) ?_
        exact pr_iret (pc := 256) C E (Or.inr ⟨rfl, (by decide)⟩) (by omega) (by omega) ⟨(by simp [sc_wt, pz_b, -Int32.not_le, -Int32.not_lt, c_236, c_248]), rfl⟩ dX3_isWellTold_256
      · refine pr_iconst (pc := 251) (v := 1) C dX3_isWellTold_251 (by decide) ?_
        refine pr_goto (pc := 252) C 256 dX3_isWellTold_252 (by decide) ?_
        exact pr_iret (pc := 256) C E (Or.inr ⟨rfl, (by decide)⟩) (by omega) (by omega) ⟨(by simp [sc_wt, pz_b, -Int32.not_le, -Int32.not_lt, c_236, c_248]), rfl⟩ dX3_isWellTold_256
  · -- 12
    refine pr_tableIn (pc := 4) C 221 dX3_isWellTold_4 (by decide) (by decide) (off := 217) (by decide) (by decide) ?_
    refine pr_aload_n (pc := 221) C dX3_isWellTold_221 rfl ?_
    refine pr_geti (pc := 222) C 126 wf_X3_164 rfl (by decide) (pl_3 (sj_n0 hs (by first | assumption | omega))) dX3_isWellTold_222 ?_
    refine pr_eqi (v := S 220 t) (sj_r126 hs (by first | assumption | omega)) ?_
    refine pr_sP (pc := 225) C (c_X3_isAtom G _ (K, Sm, N, O) (S 220 t)) ws_X3_243 rfl rfl (by decide) (Nat.le_of_ble_eq_true rfl) (by omega) (by omega) dX3_isWellTold_225 ?_
    exact pr_iret (pc := 228) C E (Or.inr ⟨rfl, (pz_b01 _)⟩) (by omega) (by omega) ⟨(by simp [sc_wt, pz_b, -Int32.not_le, -Int32.not_lt]), rfl⟩ dX3_isWellTold_228
  · -- 13
    refine pr_tableIn (pc := 4) C 257 dX3_isWellTold_4 (by decide) (by decide) (off := 253) (by decide) (by decide) ?_
    refine pr_aload_n (pc := 257) C dX3_isWellTold_257 rfl ?_
    refine pr_sP (pc := 258) C (c_X3_isWellOffered G _ K Sm S N O T D e z hs t m (by first | assumption | omega) hm hto) ws_X3_274 rfl rfl (by decide) (Nat.le_of_ble_eq_true rfl) (by omega) (by omega) dX3_isWellTold_258 ?_
    exact pr_iret (pc := 261) C E (Or.inr ⟨rfl, (pz_b01 _)⟩) (by omega) (by omega) ⟨(by simp [sc_wt, pz_b, -Int32.not_le, -Int32.not_lt]), rfl⟩ dX3_isWellTold_261
  · -- 14
    refine pr_tableIn (pc := 4) C 167 dX3_isWellTold_4 (by decide) (by decide) (off := 163) (by decide) (by decide) ?_
    rcases hin : ms_in (S 220 t) 0 (nI T - 1) with _ | _
    · -- no such turn
      refine pr_aload_n (pc := 167) C dX3_isWellTold_167 rfl ?_
      refine pr_aload_n (pc := 168) C dX3_isWellTold_168 rfl ?_
      refine pr_geti (pc := 169) C 126 wf_X3_164 rfl (by decide) (pl_3 (sj_n0 hs (by first | assumption | omega))) dX3_isWellTold_169 ?_
      refine pr_eqi (v := S 220 t) (sj_r126 hs (by first | assumption | omega)) ?_
      refine pr_vP (pc := 172) C (c_X3_turnAtN G _ K Sm S N O T D e z hs (S 220 t) hT hin) wv_X3_151 rfl rfl (by decide) (by decide) (pl_4 _) (Nat.le_of_ble_eq_true rfl) (by omega) (by omega) dX3_isWellTold_172 ?_
      refine pr_ifnull0 (pc := 175) C 182 dX3_isWellTold_175 (by decide) ?_
      refine pr_iconst (pc := 182) (v := 0) C dX3_isWellTold_182 (by decide) ?_
      exact pr_iret (pc := 183) C E (Or.inr ⟨rfl, (by decide)⟩) (by omega) (by omega) ⟨(by simp [sc_wt, pz_b, -Int32.not_le, -Int32.not_lt, hin]), rfl⟩ dX3_isWellTold_183
    · obtain ⟨u, hu, eu⟩ := sc_inTk (t := 0) hT hin
      refine pr_aload_n (pc := 167) C dX3_isWellTold_167 rfl ?_
      refine pr_aload_n (pc := 168) C dX3_isWellTold_168 rfl ?_
      refine pr_geti (pc := 169) C 126 wf_X3_164 rfl (by decide) (pl_3 (sj_n0 hs (by first | assumption | omega))) dX3_isWellTold_169 ?_
      refine pr_eqi (v := S 220 t) (sj_r126 hs (by first | assumption | omega)) ?_
      refine pr_eqi eu ?_
      refine pr_vP (pc := 172) C (c_X3_turnAtY G _ K Sm S N O T D e z hs u (by first | assumption | omega) hT) wv_X3_151 rfl rfl (by decide) (by decide) (pl_4 _) (Nat.le_of_ble_eq_true rfl) (by omega) (by omega) dX3_isWellTold_172 ?_
      refine pr_ifnull1 (pc := 175) C dX3_isWellTold_175 ?_
      refine pr_iconst (pc := 178) (v := 1) C dX3_isWellTold_178 (by decide) ?_
      refine pr_goto (pc := 179) C 183 dX3_isWellTold_179 (by decide) ?_
      exact pr_iret (pc := 183) C E (Or.inr ⟨rfl, (by decide)⟩) (by omega) (by omega) ⟨(by simp [sc_wt, pz_b, -Int32.not_le, -Int32.not_lt, hin]), rfl⟩ dX3_isWellTold_183
  · -- 15
    refine pr_tableIn (pc := 4) C 167 dX3_isWellTold_4 (by decide) (by decide) (off := 163) (by decide) (by decide) ?_
    rcases hin : ms_in (S 220 t) 0 (nI T - 1) with _ | _
    · -- no such turn
      refine pr_aload_n (pc := 167) C dX3_isWellTold_167 rfl ?_
      refine pr_aload_n (pc := 168) C dX3_isWellTold_168 rfl ?_
      refine pr_geti (pc := 169) C 126 wf_X3_164 rfl (by decide) (pl_3 (sj_n0 hs (by first | assumption | omega))) dX3_isWellTold_169 ?_
      refine pr_eqi (v := S 220 t) (sj_r126 hs (by first | assumption | omega)) ?_
      refine pr_vP (pc := 172) C (c_X3_turnAtN G _ K Sm S N O T D e z hs (S 220 t) hT hin) wv_X3_151 rfl rfl (by decide) (by decide) (pl_4 _) (Nat.le_of_ble_eq_true rfl) (by omega) (by omega) dX3_isWellTold_172 ?_
      refine pr_ifnull0 (pc := 175) C 182 dX3_isWellTold_175 (by decide) ?_
      refine pr_iconst (pc := 182) (v := 0) C dX3_isWellTold_182 (by decide) ?_
      exact pr_iret (pc := 183) C E (Or.inr ⟨rfl, (by decide)⟩) (by omega) (by omega) ⟨(by simp [sc_wt, pz_b, -Int32.not_le, -Int32.not_lt, hin]), rfl⟩ dX3_isWellTold_183
    · obtain ⟨u, hu, eu⟩ := sc_inTk (t := 0) hT hin
      refine pr_aload_n (pc := 167) C dX3_isWellTold_167 rfl ?_
      refine pr_aload_n (pc := 168) C dX3_isWellTold_168 rfl ?_
      refine pr_geti (pc := 169) C 126 wf_X3_164 rfl (by decide) (pl_3 (sj_n0 hs (by first | assumption | omega))) dX3_isWellTold_169 ?_
      refine pr_eqi (v := S 220 t) (sj_r126 hs (by first | assumption | omega)) ?_
      refine pr_eqi eu ?_
      refine pr_vP (pc := 172) C (c_X3_turnAtY G _ K Sm S N O T D e z hs u (by first | assumption | omega) hT) wv_X3_151 rfl rfl (by decide) (by decide) (pl_4 _) (Nat.le_of_ble_eq_true rfl) (by omega) (by omega) dX3_isWellTold_172 ?_
      refine pr_ifnull1 (pc := 175) C dX3_isWellTold_175 ?_
      refine pr_iconst (pc := 178) (v := 1) C dX3_isWellTold_178 (by decide) ?_
      refine pr_goto (pc := 179) C 183 dX3_isWellTold_179 (by decide) ?_
      exact pr_iret (pc := 183) C E (Or.inr ⟨rfl, (by decide)⟩) (by omega) (by omega) ⟨(by simp [sc_wt, pz_b, -Int32.not_le, -Int32.not_lt, hin]), rfl⟩ dX3_isWellTold_183

set_option maxRecDepth 100000 in
set_option maxHeartbeats 4000000 in
theorem c_X3_isWellToldN (G : pa_G) (l : Launch) (K : Nat → Nat → Nat → Int32) (Sm S : Nat → Nat → Int32) (N : Nat → Nat) (O : Nat → Int64) (T D e : Nat) (z : sj_Z) (hs : sj_M K N T D z e S) (t : Nat) (ht : t < D) (ha : ms_in (S 219 t) 0 15 = false) : pa_MP G l mX3_isWellTold 5 [pv_o 4 0, pv_o 3 t] (K, Sm, N, O) (pv_i 0) := by
  refine pa_go l (by decide) (by simp [pa_c1l, pa_c1]) (fun _ => rfl) fun x C E el ea => ?_
  subst el
  show pa_w G x 2 (K, Sm, N, O) 0 0 0 [some (pv_o 4 0), some (pv_o 3 t)] []
  refine pr_aload_n (pc := 0) C dX3_isWellTold_0 rfl ?_
  refine pr_geti (pc := 1) C 121 wf_X3_161 rfl (by decide) (pl_3 (sj_n0 hs (by first | assumption | omega))) dX3_isWellTold_1 ?_
  refine pr_eqi (v := S 219 t) (sj_r121 hs (by first | assumption | omega)) ?_
  refine pr_tableOut (pc := 4) C 262 dX3_isWellTold_4 (sc_out (k := 15) (by decide) ha) (by decide) ?_
  refine pr_iconst (pc := 262) (v := 0) C dX3_isWellTold_262 (by decide) ?_
  exact pr_iret (pc := 263) C E (Or.inr ⟨rfl, (by decide)⟩) (by omega) (by omega) ⟨rfl, rfl⟩ dX3_isWellTold_263

theorem c_X3_isWellTold (G : pa_G) (l : Launch) (K : Nat → Nat → Nat → Int32) (Sm S : Nat → Nat → Int32) (N : Nat → Nat) (O : Nat → Int64) (T D e : Nat) (z : sj_Z) (hs : sj_M K N T D z e S) (t m : Nat) (hT : T ≤ 100) (ht : t < D) (hm : m < 16) (hto : S 222 t = nI m) : pa_MP G l mX3_isWellTold 5 [pv_o 4 0, pv_o 3 t] (K, Sm, N, O) (pv_i (pz_b (sc_wtv (nI T) (S 219 t) (S 220 t) (S 221 t) (S 222 t) (S 223 t)))) := by
  unfold sc_wtv
  cases h : ms_in (S 219 t) 0 15 with
  | false => exact c_X3_isWellToldN G l K Sm S N O T D e z hs t ht h
  | true =>
    obtain ⟨a, ha, ea⟩ := sc_nn2 (k := 15) (by decide) h
    rw [Bool.true_and, show mn (S 219 t) = a by rw [ea]; exact nI_clamp (by omega)]
    exact c_X3_isWellToldY G l K Sm S N O T D e z hs t m a hT ht hm hto (by omega) ea
