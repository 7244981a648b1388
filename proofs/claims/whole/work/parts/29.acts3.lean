/-! THE CLASS: assertions, answers, offers -/
theorem sc_q_of {S S' : Nat → Nat → Int32} {T Q q0 : Nat} (h : sc_q S T Q q0) (e : ∀ f, f ∈ [231, 232, 222, 218, 220] → ∀ j, S' f j = S f j) : sc_q S' T Q q0 := by
  refine ⟨mw_Q_of h.1 (e 231 (by decide) 0) (fun j => e 232 (by decide) j), fun h0 => ?_⟩
  rw [e 222 (by decide), e 218 (by decide), e 220 (by decide)]
  exact h.2 h0
theorem sc_as0 {S : Nat → Nat → Int32} {Q : Nat} {b : Bool} (h : S 231 0 = nI Q) (hb : b = false) : S = pa_us S 231 0 (nI (if b = true then Q - 1 else Q)) := by
  rw [hb, if_neg (by decide), ← h, pa_us_same]
theorem sc_as1 {S : Nat → Nat → Int32} {Q : Nat} {b : Bool} (hb : b = true) : pa_us S 231 0 (nI (Q - 1)) = pa_us S 231 0 (nI (if b = true then Q - 1 else Q)) := by rw [hb, if_pos rfl]
set_option maxRecDepth 100000 in
set_option maxHeartbeats 4000000 in
theorem c_X3_assertAtom0 (G : pa_G) (l : Launch) (K : Nat → Nat → Nat → Int32) (Sm S : Nat → Nat → Int32) (N : Nat → Nat) (O : Nat → Int64) (T D e : Nat) (z : sj_Z) (hs : sj_M K N T D z e S) (t w xa e1 Q q0 : Nat) (hM : mw_S S T) (hJs : mj_s S) (hJq : mj_q S) (ht : t < T) (hw : S 218 t = nI w) (hw4 : w < 4) (hxa : S 220 t = nI xa) (hxa10 : xa < 10) (hv : S 221 t = 1 ∨ S 221 t = 2) (he : e1 + 1 ≤ e + (decide (S 208 (10 * w + xa) = 0)).toNat) (hqq : sc_q S T Q q0) (hQ0 : Q = 0) : pa_M G l mX3_assertAtom 10 true [pv_o 4 0, pv_o 3 t] (K, Sm, N, O) 2 1520 (sj_post none Sm O T D z e1 (ms_says S t w xa (S 221 t))) := by
  refine pa_go l (by decide) (by simp [pa_c1l, pa_c1]) (fun _ => rfl) fun x C E el ea => ?_
  subst el
  have hT := hM.1.1
  have hTD := sj_TD hs
  show pa_w G x 3 (K, Sm, N, O) 0 0 0 [some (pv_o 4 0), some (pv_o 3 t), none] []
  refine pr_aload_n (pc := 0) C dX3_assertAtom_0 rfl ?_
  refine pr_aload_n (pc := 1) C dX3_assertAtom_1 rfl ?_
  refine pr_aload_n (pc := 2) C dX3_assertAtom_2 rfl ?_
  refine pr_geti (pc := 3) C 126 wf_X3_164 rfl (by decide) (pl_3 (sj_n0 hs (by first | assumption | omega))) dX3_assertAtom_3 ?_
  refine pr_eqi (v := S 220 t) (sj_r126 hs (by first | assumption | omega)) ?_
  refine pr_eqi hxa ?_
  refine pr_aload_n (pc := 6) C dX3_assertAtom_6 rfl ?_
  refine pr_geti (pc := 7) C 127 wf_X3_167 rfl (by decide) (pl_3 (sj_n0 hs (by first | assumption | omega))) dX3_assertAtom_7 ?_
  refine pr_eqi (v := S 221 t) (sj_r127 hs (by first | assumption | omega)) ?_
  refine pr_vC0 (pc := 10) (rest := []) C (c_X3_commitOwn G _ K Sm S N O T D e z hs t w xa e1 (S 221 t) hM hJs hJq ht hw hw4 hxa10 hv he) wv_X3_318 rfl rfl (by decide) (by decide) (pl_4 _) (by decide) (by omega) (by omega) (fun z => absurd (ea.symm.trans z) (by decide)) (fun _ => ⟨trivial, ⟨⟨lr_kn (by decide), (pl_4 _)⟩, ⟨⟨lr_kn (by decide), (pl_3 (sj_n0 hs (by first | assumption | omega)))⟩, trivial⟩⟩⟩) dX3_assertAtom_10 ?_
  intro K N hs
  have hws : (ms_says S t w xa (S 221 t)) 218 t = nI w := (ms_says_ne (by decide) (by decide) (by decide) (by decide)).trans hw
  refine pr_aload_n (pc := 13) C dX3_assertAtom_13 rfl ?_
  refine pr_vP (pc := 14) C (c_X3_topQuestion0 G _ K Sm (ms_says S t w xa (S 221 t)) N O T D e1 z hs Q q0 (mw_Q_says hqq.1) hQ0) wv_X3_283 rfl rfl (by decide) (by decide) (pl_4 _) (Nat.le_of_ble_eq_true rfl) (by omega) (by omega) dX3_assertAtom_14 ?_
  refine pr_astore_n (pc := 17) C dX3_assertAtom_17 (by decide) ?_
  refine pr_aload_n (pc := 18) C dX3_assertAtom_18 rfl ?_
  refine pr_ifnull0 (pc := 19) C 48 dX3_assertAtom_19 (by decide) ?_
  exact pr_vret (pc := 48) C E (by omega) (by omega) ⟨rfl, K, N, rfl, hs⟩ dX3_assertAtom_48

set_option maxRecDepth 100000 in
set_option maxHeartbeats 4000000 in
theorem c_X3_assertAtom1 (G : pa_G) (l : Launch) (K : Nat → Nat → Nat → Int32) (Sm S : Nat → Nat → Int32) (N : Nat → Nat) (O : Nat → Int64) (T D e : Nat) (z : sj_Z) (hs : sj_M K N T D z e S) (t w xa e1 Q q0 : Nat) (hM : mw_S S T) (hJs : mj_s S) (hJq : mj_q S) (ht : t < T) (hw : S 218 t = nI w) (hw4 : w < 4) (hxa : S 220 t = nI xa) (hxa10 : xa < 10) (hv : S 221 t = 1 ∨ S 221 t = 2) (he : e1 + 1 ≤ e + (decide (S 208 (10 * w + xa) = 0)).toNat) (hqq : sc_q S T Q q0) (hQ0 : 0 < Q) : pa_M G l mX3_assertAtom 10 true [pv_o 4 0, pv_o 3 t] (K, Sm, N, O) 2 1520 (sj_post none Sm O T D z e1 (pa_us (ms_says S t w xa (S 221 t)) 231 0 (nI (if (ms_isIn (S 222 q0) (nI w) && decide (S 220 q0 = nI xa)) = true then Q - 1 else Q)))) := by
  refine pa_go l (by decide) (by simp [pa_c1l, pa_c1]) (fun _ => rfl) fun x C E el ea => ?_
  subst el
  have hT := hM.1.1
  have hTD := sj_TD hs
  obtain ⟨hq0T, ⟨mq, hmq, hqto⟩, ⟨wq, hwq4, hwq⟩, yq, hyq10, hyq⟩ := hqq.2 hQ0
  have hq0 : q0 < D := by omega
  show pa_w G x 3 (K, Sm, N, O) 0 0 0 [some (pv_o 4 0), some (pv_o 3 t), none] []
  refine pr_aload_n (pc := 0) C dX3_assertAtom_0 rfl ?_
  refine pr_aload_n (pc := 1) C dX3_assertAtom_1 rfl ?_
  refine pr_aload_n (pc := 2) C dX3_assertAtom_2 rfl ?_
  refine pr_geti (pc := 3) C 126 wf_X3_164 rfl (by decide) (pl_3 (sj_n0 hs (by first | assumption | omega))) dX3_assertAtom_3 ?_
  refine pr_eqi (v := S 220 t) (sj_r126 hs (by first | assumption | omega)) ?_
  refine pr_eqi hxa ?_
  refine pr_aload_n (pc := 6) C dX3_assertAtom_6 rfl ?_
  refine pr_geti (pc := 7) C 127 wf_X3_167 rfl (by decide) (pl_3 (sj_n0 hs (by first | assumption | omega))) dX3_assertAtom_7 ?_
  refine pr_eqi (v := S 221 t) (sj_r127 hs (by first | assumption | omega)) ?_
  refine pr_vC0 (pc := 10) (rest := []) C (c_X3_commitOwn G _ K Sm S N O T D e z hs t w xa e1 (S 221 t) hM hJs hJq ht hw hw4 hxa10 hv he) wv_X3_318 rfl rfl (by decide) (by decide) (pl_4 _) (by decide) (by omega) (by omega) (fun z => absurd (ea.symm.trans z) (by decide)) (fun _ => ⟨trivial, ⟨⟨lr_kn (by decide), (pl_4 _)⟩, ⟨⟨lr_kn (by decide), (pl_3 (sj_n0 hs (by first | assumption | omega)))⟩, trivial⟩⟩⟩) dX3_assertAtom_10 ?_
  intro K N hs
  have hws : (ms_says S t w xa (S 221 t)) 218 t = nI w := (ms_says_ne (by decide) (by decide) (by decide) (by decide)).trans hw
  have e222 : (ms_says S t w xa (S 221 t)) 222 q0 = S 222 q0 := (ms_says_ne (by decide) (by decide) (by decide) (by decide))
  have e231 : (ms_says S t w xa (S 221 t)) 231 0 = nI Q := (ms_says_ne (by decide) (by decide) (by decide) (by decide)).trans hqq.1.1
  refine pr_aload_n (pc := 13) C dX3_assertAtom_13 rfl ?_
  refine pr_vP (pc := 14) C (c_X3_topQuestion1 G _ K Sm (ms_says S t w xa (S 221 t)) N O T D e1 z hs Q q0 (mw_Q_says hqq.1) hQ0 hq0) wv_X3_283 rfl rfl (by decide) (by decide) (pl_4 _) (Nat.le_of_ble_eq_true rfl) (by omega) (by omega) dX3_assertAtom_14 ?_
  refine pr_astore_n (pc := 17) C dX3_assertAtom_17 (by decide) ?_
  refine pr_aload_n (pc := 18) C dX3_assertAtom_18 rfl ?_
  refine pr_ifnull1 (pc := 19) C dX3_assertAtom_19 ?_
  refine pr_aload_n (pc := 22) C dX3_assertAtom_22 rfl ?_
  refine pr_aload_n (pc := 23) C dX3_assertAtom_23 rfl ?_
  refine pr_gets (pc := 24) C 120 wf_X3_105 rfl rfl (pl_3 (sj_n0 hs (by first | assumption | omega))) w ((sj_r120 hs (by first | assumption | omega)).trans hws) (by first | assumption | omega) dX3_assertAtom_24 ?_
  refine pr_vP (pc := 27) C (c_X2_isTo G _ K Sm (ms_says S t w xa (S 221 t)) N O T D e1 z hs q0 w (by first | assumption | omega) (by first | assumption | omega)) wv_X3_286 rfl rfl (by decide) (by decide) (pl_3 (sj_n0 hs (by first | assumption | omega))) (Nat.le_of_ble_eq_true rfl) (by omega) (by omega) dX3_assertAtom_27 ?_
  refine pr_ifb_eq (pc := 30) C 48 dX3_assertAtom_30 (by decide) (fun c_30 => ?_) (fun c_30 => ?_)
  · exact pr_vret (pc := 48) C E (by omega) (by omega) ⟨rfl, K, N, rfl, sj_eq (sc_as0 e231 (by rw [e222] at c_30; rw [c_30, Bool.false_and])) hs⟩ dX3_assertAtom_48
  · refine pr_aload_n (pc := 33) C dX3_assertAtom_33 rfl ?_
    refine pr_geti (pc := 34) C 126 wf_X3_164 rfl (by decide) (pl_3 (sj_n0 hs (by first | assumption | omega))) dX3_assertAtom_34 ?_
    refine pr_eqi (v := S 220 q0) ((sj_r126 hs (by first | assumption | omega)).trans (by simp only [pa_us_ne, pa_us_self, ms_says_ne, ms_com_ne, ms_dlv_ne, ms_right_ne, ne_eq, Nat.reduceEqDiff, not_false_eq_true, reduceCtorEq])) ?_
    refine pr_aload_n (pc := 37) C dX3_assertAtom_37 rfl ?_
    refine pr_geti (pc := 38) C 126 wf_X3_164 rfl (by decide) (pl_3 (sj_n0 hs (by first | assumption | omega))) dX3_assertAtom_38 ?_
    refine pr_eqi (v := S 220 t) ((sj_r126 hs (by first | assumption | omega)).trans (by simp only [pa_us_ne, pa_us_self, ms_says_ne, ms_com_ne, ms_dlv_ne, ms_right_ne, ne_eq, Nat.reduceEqDiff, not_false_eq_true, reduceCtorEq])) ?_
    refine pr_eqi hxa ?_
    refine pr_icmp_ne (pc := 41) C 48 dX3_assertAtom_41 (by decide) (fun c_41 => ?_) (fun c_41 => ?_)
    · exact pr_vret (pc := 48) C E (by omega) (by omega) ⟨rfl, K, N, rfl, sj_eq (sc_as0 e231 (by rw [decide_eq_false c_41, Bool.and_false])) hs⟩ dX3_assertAtom_48
    · refine pr_aload_n (pc := 44) C dX3_assertAtom_44 rfl ?_
      refine pr_vC0 (pc := 45) (rest := []) C (c_X3_closeTopQuestion1 G _ K Sm (ms_says S t w xa (S 221 t)) N O T D e1 z hs Q q0 (mw_L_of (mw_S_says hM ht)) (mw_Q_says hqq.1) hQ0) wv_X3_334 rfl rfl (by decide) (by decide) (pl_4 _) (by decide) (by omega) (by omega) (fun z => absurd (ea.symm.trans z) (by decide)) (fun _ => ⟨trivial, ⟨⟨lr_kn (by decide), (pl_4 _)⟩, ⟨⟨lr_kn (by decide), (pl_3 (sj_n0 hs (by first | assumption | omega)))⟩, ⟨⟨lr_kn (by decide), (pl_3 (sj_n0 hs (by first | assumption | omega)))⟩, trivial⟩⟩⟩⟩) dX3_assertAtom_45 ?_
      intro K N hs
      exact pr_vret (pc := 48) C E (by omega) (by omega) ⟨rfl, K, N, rfl, sj_eq (sc_as1 (by rw [e222] at c_30; rw [c_30, decide_eq_true c_41]; rfl)) hs⟩ dX3_assertAtom_48

set_option maxRecDepth 100000 in
set_option maxHeartbeats 4000000 in
theorem c_X3_answerTopQuestion0 (G : pa_G) (l : Launch) (K : Nat → Nat → Nat → Int32) (Sm S : Nat → Nat → Int32) (N : Nat → Nat) (O : Nat → Int64) (T D e : Nat) (z : sj_Z) (hs : sj_M K N T D z e S) (t Q q0 : Nat) (hqq : sc_q S T Q q0) (hQ0 : Q = 0) : pa_M G l mX3_answerTopQuestion 10 true [pv_o 4 0, pv_o 3 t] (K, Sm, N, O) 0 0 (sj_post none Sm O T D z e S) := by
  refine pa_go l (by decide) (by simp [pa_c1l, pa_c1]) (fun _ => rfl) fun x C E el ea => ?_
  subst el
  show pa_w G x 3 (K, Sm, N, O) 0 0 0 [some (pv_o 4 0), some (pv_o 3 t), none] []
  refine pr_aload_n (pc := 0) C dX3_answerTopQuestion_0 rfl ?_
  refine pr_vP (pc := 1) C (c_X3_topQuestion0 G _ K Sm S N O T D e z hs Q q0 hqq.1 hQ0) wv_X3_283 rfl rfl (by decide) (by decide) (pl_4 _) (Nat.le_of_ble_eq_true rfl) (by omega) (by omega) dX3_answerTopQuestion_1 ?_
  refine pr_astore_n (pc := 4) C dX3_answerTopQuestion_4 (by decide) ?_
  refine pr_aload_n (pc := 5) C dX3_answerTopQuestion_5 rfl ?_
  refine pr_ifnonnull0 (pc := 6) C dX3_answerTopQuestion_6 ?_
  exact pr_vret (pc := 9) C E (by omega) (by omega) ⟨rfl, K, N, rfl, hs⟩ dX3_answerTopQuestion_9

set_option maxRecDepth 100000 in
set_option maxHeartbeats 4000000 in
theorem c_X3_answerTopQuestion1 (G : pa_G) (l : Launch) (K : Nat → Nat → Nat → Int32) (Sm S : Nat → Nat → Int32) (N : Nat → Nat) (O : Nat → Int64) (T D e : Nat) (z : sj_Z) (hs : sj_M K N T D z e S) (t y Q q0 : Nat) (hM : mw_L S T) (ht : t < T) (hv : S 221 t = 0) (hqq : sc_q S T Q q0) (hQ0 : 0 < Q) (hy : S 220 q0 = nI y) : pa_M G l mX3_answerTopQuestion 10 true [pv_o 4 0, pv_o 3 t] (K, Sm, N, O) 0 0 (sj_post none Sm O T D z e (pa_us (pa_us S 231 0 (nI (Q - 1))) 220 t (nI y))) := by
  refine pa_go l (by decide) (by simp [pa_c1l, pa_c1]) (fun _ => rfl) fun x C E el ea => ?_
  subst el
  have hT := hM.1
  have hTD := sj_TD hs
  obtain ⟨hq0T, ⟨mq, hmq, hqto⟩, ⟨wq, hwq4, hwq⟩, yq, hyq10, hyq⟩ := hqq.2 hQ0
  have hq0 : q0 < D := by omega
  show pa_w G x 3 (K, Sm, N, O) 0 0 0 [some (pv_o 4 0), some (pv_o 3 t), none] []
  refine pr_aload_n (pc := 0) C dX3_answerTopQuestion_0 rfl ?_
  refine pr_vP (pc := 1) C (c_X3_topQuestion1 G _ K Sm S N O T D e z hs Q q0 hqq.1 hQ0 hq0) wv_X3_283 rfl rfl (by decide) (by decide) (pl_4 _) (Nat.le_of_ble_eq_true rfl) (by omega) (by omega) dX3_answerTopQuestion_1 ?_
  refine pr_astore_n (pc := 4) C dX3_answerTopQuestion_4 (by decide) ?_
  refine pr_aload_n (pc := 5) C dX3_answerTopQuestion_5 rfl ?_
  refine pr_ifnonnull1 (pc := 6) C 10 dX3_answerTopQuestion_6 (by decide) ?_
  refine pr_aload_n (pc := 10) C dX3_answerTopQuestion_10 rfl ?_
  refine pr_vC0 (pc := 11) (rest := []) C (c_X3_closeTopQuestion1 G _ K Sm S N O T D e z hs Q q0 hM hqq.1 hQ0) wv_X3_334 rfl rfl (by decide) (by decide) (pl_4 _) (by decide) (by omega) (by omega) (fun z => absurd (ea.symm.trans z) (by decide)) (fun _ => ⟨trivial, ⟨⟨lr_kn (by decide), (pl_4 _)⟩, ⟨⟨lr_kn (by decide), (pl_3 (sj_n0 hs (by first | assumption | omega)))⟩, ⟨⟨lr_kn (by decide), (pl_3 (sj_n0 hs (by first | assumption | omega)))⟩, trivial⟩⟩⟩⟩) dX3_answerTopQuestion_11 ?_
  intro K N hs
  refine pr_aload_n (pc := 14) C dX3_answerTopQuestion_14 rfl ?_
  refine pr_aload_n (pc := 15) C dX3_answerTopQuestion_15 rfl ?_
  refine pr_geti (pc := 16) C 126 wf_X3_164 rfl (by decide) (pl_3 (sj_n0 hs (by first | assumption | omega))) dX3_answerTopQuestion_16 ?_
  refine pr_eqi (v := S 220 q0) ((sj_r126 hs (by first | assumption | omega)).trans rfl) ?_
  refine pr_eqi hy ?_
  refine pr_puti (pc := 19) C 126 wp_X3_164 rfl (by decide) rfl (by decide) (pl_3 (sj_n0 hs (by first | assumption | omega))) dX3_answerTopQuestion_19 ?_
  refine pr_sim (sj_w126 hs) ?_
  intro K N hs
  refine pr_aload_n (pc := 22) C dX3_answerTopQuestion_22 rfl ?_
  refine pr_geti (pc := 23) C 127 wf_X3_167 rfl (by decide) (pl_3 (sj_n0 hs (by first | assumption | omega))) dX3_answerTopQuestion_23 ?_
  refine pr_eqi (v := S 221 t) ((sj_r127 hs (by first | assumption | omega)).trans rfl) ?_
  refine pr_eqi hv ?_
  refine pr_if_eq (pc := 26) C 42 dX3_answerTopQuestion_26 (by decide) (fun _ => ?_) (fun c_26 => absurd c_26 (by decide))
  exact pr_vret (pc := 42) C E (by omega) (by omega) ⟨rfl, K, N, rfl, hs⟩ dX3_answerTopQuestion_42

set_option maxRecDepth 100000 in
set_option maxHeartbeats 4000000 in
theorem c_X3_answerTopQuestion2 (G : pa_G) (l : Launch) (K : Nat → Nat → Nat → Int32) (Sm S : Nat → Nat → Int32) (N : Nat → Nat) (O : Nat → Int64) (T D e : Nat) (z : sj_Z) (hs : sj_M K N T D z e S) (t w y e1 Q q0 : Nat) (hM : mw_L S T) (hJs : mj_s S) (hJq : mj_q S) (ht : t < T) (hw : S 218 t = nI w) (hw4 : w < 4) (hv : S 221 t = 1 ∨ S 221 t = 2) (hqq : sc_q S T Q q0) (hQ0 : 0 < Q) (hy : S 220 q0 = nI y) (hy10 : y < 10) (hM2 : mw_S (pa_us (pa_us S 231 0 (nI (Q - 1))) 220 t (nI y)) T) (he : e1 + 1 ≤ e + (decide (S 208 (10 * w + y) = 0)).toNat) : pa_M G l mX3_answerTopQuestion 10 true [pv_o 4 0, pv_o 3 t] (K, Sm, N, O) 2 1520 (sj_post none Sm O T D z e1 (ms_says (pa_us (pa_us S 231 0 (nI (Q - 1))) 220 t (nI y)) t w y (S 221 t))) := by
  refine pa_go l (by decide) (by simp [pa_c1l, pa_c1]) (fun _ => rfl) fun x C E el ea => ?_
  subst el
  have hT := hM.1
  have hTD := sj_TD hs
  obtain ⟨hq0T, ⟨mq, hmq, hqto⟩, ⟨wq, hwq4, hwq⟩, yq, hyq10, hyq⟩ := hqq.2 hQ0
  have hq0 : q0 < D := by omega
  show pa_w G x 3 (K, Sm, N, O) 0 0 0 [some (pv_o 4 0), some (pv_o 3 t), none] []
  refine pr_aload_n (pc := 0) C dX3_answerTopQuestion_0 rfl ?_
  refine pr_vP (pc := 1) C (c_X3_topQuestion1 G _ K Sm S N O T D e z hs Q q0 hqq.1 hQ0 hq0) wv_X3_283 rfl rfl (by decide) (by decide) (pl_4 _) (Nat.le_of_ble_eq_true rfl) (by omega) (by omega) dX3_answerTopQuestion_1 ?_
  refine pr_astore_n (pc := 4) C dX3_answerTopQuestion_4 (by decide) ?_
  refine pr_aload_n (pc := 5) C dX3_answerTopQuestion_5 rfl ?_
  refine pr_ifnonnull1 (pc := 6) C 10 dX3_answerTopQuestion_6 (by decide) ?_
  refine pr_aload_n (pc := 10) C dX3_answerTopQuestion_10 rfl ?_
  refine pr_vC0 (pc := 11) (rest := []) C (c_X3_closeTopQuestion1 G _ K Sm S N O T D e z hs Q q0 hM hqq.1 hQ0) wv_X3_334 rfl rfl (by decide) (by decide) (pl_4 _) (by decide) (by omega) (by omega) (fun z => absurd (ea.symm.trans z) (by decide)) (fun _ => ⟨trivial, ⟨⟨lr_kn (by decide), (pl_4 _)⟩, ⟨⟨lr_kn (by decide), (pl_3 (sj_n0 hs (by first | assumption | omega)))⟩, ⟨⟨lr_kn (by decide), (pl_3 (sj_n0 hs (by first | assumption | omega)))⟩, trivial⟩⟩⟩⟩) dX3_answerTopQuestion_11 ?_
  intro K N hs
  refine pr_aload_n (pc := 14) C dX3_answerTopQuestion_14 rfl ?_
  refine pr_aload_n (pc := 15) C dX3_answerTopQuestion_15 rfl ?_
  refine pr_geti (pc := 16) C 126 wf_X3_164 rfl (by decide) (pl_3 (sj_n0 hs (by first | assumption | omega))) dX3_answerTopQuestion_16 ?_
  refine pr_eqi (v := S 220 q0) ((sj_r126 hs (by first | assumption | omega)).trans rfl) ?_
  refine pr_eqi hy ?_
  refine pr_puti (pc := 19) C 126 wp_X3_164 rfl (by decide) rfl (by decide) (pl_3 (sj_n0 hs (by first | assumption | omega))) dX3_answerTopQuestion_19 ?_
  refine pr_sim (sj_w126 hs) ?_
  intro K N hs
  refine pr_aload_n (pc := 22) C dX3_answerTopQuestion_22 rfl ?_
  refine pr_geti (pc := 23) C 127 wf_X3_167 rfl (by decide) (pl_3 (sj_n0 hs (by first | assumption | omega))) dX3_answerTopQuestion_23 ?_
  refine pr_eqi (v := S 221 t) ((sj_r127 hs (by first | assumption | omega)).trans rfl) ?_
  refine pr_if_eq (pc := 26) C 42 dX3_answerTopQuestion_26 (by decide) (fun c_26 => ?_) (fun c_26 => ?_)
  · exact absurd c_26 (by rcases hv with q | q <;> rw [q] <;> decide)
  · refine pr_aload_n (pc := 29) C dX3_answerTopQuestion_29 rfl ?_
    refine pr_aload_n (pc := 30) C dX3_answerTopQuestion_30 rfl ?_
    refine pr_aload_n (pc := 31) C dX3_answerTopQuestion_31 rfl ?_
    refine pr_geti (pc := 32) C 126 wf_X3_164 rfl (by decide) (pl_3 (sj_n0 hs (by first | assumption | omega))) dX3_answerTopQuestion_32 ?_
    refine pr_eqi (v := (nI y)) ((sj_r126 hs (by first | assumption | omega)).trans (pa_us_self _ _ _ _)) ?_
    refine pr_aload_n (pc := 35) C dX3_answerTopQuestion_35 rfl ?_
    refine pr_geti (pc := 36) C 127 wf_X3_167 rfl (by decide) (pl_3 (sj_n0 hs (by first | assumption | omega))) dX3_answerTopQuestion_36 ?_
    refine pr_eqi (v := S 221 t) ((sj_r127 hs (by first | assumption | omega)).trans rfl) ?_
    refine pr_vC0 (pc := 39) (rest := []) C (c_X3_commitOwn G _ K Sm (pa_us (pa_us S 231 0 (nI (Q - 1))) 220 t (nI y)) N O T D e z hs t w y e1 (S 221 t) hM2 (mj_s_of hJs (fun j => rfl) (fun j => rfl)) (mj_q_of hJq (fun j => rfl) (fun j => rfl)) ht hw hw4 hy10 hv he) wv_X3_318 rfl rfl (by decide) (by decide) (pl_4 _) (by decide) (by omega) (by omega) (fun z => absurd (ea.symm.trans z) (by decide)) (fun _ => ⟨trivial, ⟨⟨lr_kn (by decide), (pl_4 _)⟩, ⟨⟨lr_kn (by decide), (pl_3 (sj_n0 hs (by first | assumption | omega)))⟩, ⟨⟨lr_kn (by decide), (pl_3 (sj_n0 hs (by first | assumption | omega)))⟩, trivial⟩⟩⟩⟩) dX3_answerTopQuestion_39 ?_
    intro K N hs
    exact pr_vret (pc := 42) C E (by omega) (by omega) ⟨rfl, K, N, rfl, hs⟩ dX3_answerTopQuestion_42

theorem ms_hov_fr {g v : Int32} {f j : Nat} {S : Nat → Nat → Int32} (hf : f ≠ 213) : ∀ n, pz_it (ms_hov g v) n S f j = S f j
  | 0 => rfl
  | n + 1 => by
    rw [pz_it_s]
    unfold ms_hov
    split
    · rw [pa_us_ne hf]; exact ms_hov_fr hf n
    · exact ms_hov_fr hf n
