/-! THE CLASS: a turn is carried out: the one contract -/
set_option maxHeartbeats 1000000 in
theorem c_X3_carryOut (G : pa_G) (l : Launch) (K : Nat → Nat → Nat → Int32) (Sm S : Nat → Nat → Int32) (N : Nat → Nat) (O : Nat → Int64) (T D e : Nat) (z : sj_Z) (hs : sj_M K N T D z e S) (t : Nat) (hM : mw_S S T) (hJ : mj S T) (ht : t < T) (h0 : S 224 t = 0) (hclk : S 200 0 ≠ -1) (hop : S 219 t = 13 → ∀ k, S 227 k ≠ 0 → k < t) : pa_M G l mX3_carryOut 13 true [pv_o 4 0, pv_o 3 t] (K, Sm, N, O) 4 3040 (sj_post none Sm O T D z e (ms_carry S t)) := by
  have hT := hM.1.1
  obtain ⟨w, a, hc⟩ := sc_tw hM hJ.1 ht
  have ew : mn (S 218 t) = w := by rw [hc.1]; exact nI_clamp (by have := hc.2.1; omega)
  have ea : mn (S 219 t) = a := by rw [hc.2.2.1]; exact nI_clamp (by have := hc.2.2.2.1; omega)
  have hcar := mw_car_of hM ht
  have h225 : S 225 t = -1 := (hJ.1.1 t ht).2.2.2 h0
  have hqq := sc_qw hM hJ.1
  have hu5 : (4 ≤ a ∧ a ≤ 8) ∨ 14 ≤ a → mn (S 220 t) < t := fun q => by
    obtain ⟨w', a', k1, k2, k3, k4, k5, -⟩ := mw_S_t hM ht
    have e' : a' = a := (nI_eq (by omega) (by have := hc.2.2.2.1; omega)).mp (k4.symm.trans hc.2.2.1)
    obtain ⟨u, g1, g2⟩ := k5 (e' ▸ q)
    rw [g2, show mn (nI u) = u from nI_clamp (by omega)]
    exact g1
  unfold ms_carry
  rw [ew, ea] at hcar ⊢
  generalize mn (S 220 t) = u at hcar hu5 ⊢
  generalize mn (S 218 u) = wu at hcar ⊢
  generalize mn (S 220 u) = x9 at hcar ⊢
  generalize mn (S 221 t) = v at hcar ⊢
  generalize mn (S 223 t) = g at hcar ⊢
  generalize mn (S 231 0) = Q at hcar hqq ⊢
  generalize ms_aq S = q0 at hcar hqq ⊢
  generalize mn (S 220 q0) = y at hcar ⊢
  unfold ms_carN
  by_cases hP : (ms_poss S w a (S 220 t) (S 221 t) (S 222 t) && ms_perm S w a (S 220 t)) = false
  · rw [if_pos hP]
    exact c_X3_carryOutF G l K Sm S N O T D e z hs t w a hM hJ ht hc hP
  rw [if_neg hP]
  have hP1 : (ms_poss S w a (S 220 t) (S 221 t) (S 222 t) && ms_perm S w a (S 220 t)) = true := eq_true_of_ne_false hP
  have hg : ms_tkb S t a = true → ms_pre S t a 223 t = nI g ∧ g < 10 := fun q => by
    have q2 : a ≤ 1 ∧ ¬ S 223 t = -1 := by simpa [ms_tkb] using q
    rw [ms_pre_n (by decide)]
    exact hcar.2.2.2.2.2.2.2.2.2.2.2.1 q2.1 q2.2
  have ha1 : a < 16 := hc.2.2.2.1
  have htk : sc_tk (ms_pre S t a) t = ms_tkb S t a := by
    unfold sc_tk
    rw [ms_pre_n (f := 219) (by decide), ms_pre_n (f := 223) (by decide), hc.2.2.1]
    have e0 : (nI a = (0 : Int32)) = (a = 0) := propext (nI_eq (a := a) (b := 0) (by omega) (by decide))
    have e1 : (nI a = (1 : Int32)) = (a = 1) := propext (nI_eq (a := a) (b := 1) (by omega) (by decide))
    by_cases c : a ≤ 1
    · have d1 : (decide (nI a = (0 : Int32)) || decide (nI a = (1 : Int32))) = true := by
        rw [Bool.or_eq_true, decide_eq_true_eq, decide_eq_true_eq, e0, e1]
        omega
      rw [d1, Bool.true_and]
      unfold ms_tkb
      rw [decide_eq_true c, Bool.true_and]
      by_cases c3 : S 223 t = -1
      · rw [c3]
        decide
      · obtain ⟨g1, g2⟩ := hcar.2.2.2.2.2.2.2.2.2.2.2.1 c c3
        rw [decide_eq_true (show S 223 t ≠ -1 from c3), g1]
        have : ∀ k, k < 10 → ms_in (nI k) 0 9 = true := by decide
        exact this g g2
    · have d1 : (decide (nI a = (0 : Int32)) || decide (nI a = (1 : Int32))) = false := by
        rw [decide_eq_false (by rw [e0]; omega), decide_eq_false (by rw [e1]; omega)]
        rfl
      rw [d1, Bool.false_and]
      unfold ms_tkb
      rw [decide_eq_false c, Bool.false_and]
  by_cases hD : (ms_tkb S t a && ms_chal (ms_pre S t a) t g) = true
  · rw [if_pos hD]
    have hk := ((Bool.and_eq_true _ _).mp hD).1
    exact pa_M_mono (c_X3_carryOutD G l K Sm S N O T D e z hs t w a g hM hJ ht hc hP1 h225 hclk (mj_v_of hJ.2.2.2.2.2) htk (hg hk).1 (hg hk).2 hD) (sj_post_mono rfl (by omega))
  · rw [if_neg hD]
    refine c_X3_carryOutP G l K Sm S N O T D e z hs t w a g (e + 2) e _ hM hJ ht hc hP1 h225 hclk (mj_v_of hJ.2.2.2.2.2) htk hg (fun q => ?_) ?_ (fun K N hs2 => ?_)
    · rw [q, Bool.true_and] at hD
      exact eq_false_of_ne_true hD
    · cases ms_tkb S t a
      · show e + 2 + 0 ≤ e + 3
        omega
      · show e + 2 + 1 ≤ e + 3
        omega
    · exact c_X3_performA G l K Sm S N O T D e z t w a u wu x9 v g Q q0 y hs2 hM hJ ht hc hcar hqq hP1 (fun q => hop (by rw [hc.2.2.1, q]; rfl)) hu5
