/-! THE CLASS: denials, reasons, questions, offers -/
theorem sc_deny0 {S : Nat → Nat → Int32} {t w wu xa : Nat} {v : Int32} (hw : w < 4) (hwu : wu < 4) (hx : xa < 10) (hv : v = 1 ∨ v = 2) (h : ¬ ms_says S t w xa (ms_contrary v) 208 (10 * wu + xa) = v) : ms_says S t w xa (ms_contrary v) 233 (40 * wu + 10 * w + xa) = 0 := by
  have e1 : ms_says S t w xa (ms_contrary v) 233 (40 * wu + 10 * w + xa) = ms_com S w xa (ms_contrary v) (nI t) 233 (40 * wu + 10 * w + xa) := pa_us_ne (by decide)
  rcases ms_com_b (S := S) (w := w) (p := xa) (v := ms_contrary v) (t := nI t) (k := 40 * wu + 10 * w + xa) (by omega) with c | c
  · exact e1.trans c
  · exfalso
    have hq := mj_q_says (S := S) (w := w) (p := xa) (t := t) (v := ms_contrary v) (40 * wu + 10 * w + xa) (by omega) (by rw [e1, c]; decide)
    rw [show (40 * wu + 10 * w + xa) / 40 = wu by omega, show (40 * wu + 10 * w + xa) % 10 = xa by omega, show (40 * wu + 10 * w + xa) / 10 % 4 = w by omega] at hq
    have e2 : ms_says S t w xa (ms_contrary v) 208 (10 * w + xa) = ms_contrary v := (pa_us_ne (by decide)).trans (ms_com_208.trans (if_pos rfl))
    rw [e2] at hq
    generalize ms_says S t w xa (ms_contrary v) 208 (10 * wu + xa) = y at h hq
    have h2 := hq.2
    unfold ms_contrary at h2
    rcases hv with rfl | rfl
    · rw [if_pos rfl] at h2
      by_cases y1 : y = 1
      · exact h y1
      · rw [if_neg y1] at h2
        by_cases y2 : y = 2
        · rw [if_pos y2] at h2
          revert h2; decide
        · rw [if_neg y2] at h2
          revert h2; decide
    · rw [if_neg (by decide), if_pos rfl] at h2
      by_cases y1 : y = 1
      · rw [if_pos y1] at h2
        revert h2; decide
      · rw [if_neg y1] at h2
        by_cases y2 : y = 2
        · exact h y2
        · rw [if_neg y2] at h2
          revert h2; decide
set_option maxRecDepth 100000 in
set_option maxHeartbeats 4000000 in
theorem c_X3_denyClaim (G : pa_G) (l : Launch) (K : Nat → Nat → Nat → Int32) (Sm S : Nat → Nat → Int32) (N : Nat → Nat) (O : Nat → Int64) (T D e : Nat) (z : sj_Z) (hs : sj_M K N T D z e S) (t u w wu xa e1 : Nat) (hM : mw_S S T) (hJs : mj_s S) (hJq : mj_q S) (ht : t < T) (hu : u < T) (hw : S 218 t = nI w) (hw4 : w < 4) (hwu : S 218 u = nI wu) (hwu4 : wu < 4) (hx : S 220 u = nI xa) (hx10 : xa < 10) (hv : S 221 u = 1 ∨ S 221 u = 2) (he : e1 + 1 ≤ e + (decide (S 208 (10 * w + xa) = 0)).toNat) : pa_M G l mX3_denyClaim 10 true [pv_o 4 0, pv_o 3 t, pv_o 3 u] (K, Sm, N, O) 2 1520 (sj_post none Sm O T D z e1 (pa_us (ms_says S t w xa (ms_contrary (S 221 u))) 233 (40 * wu + 10 * w + xa) (pz_b (decide (ms_says S t w xa (ms_contrary (S 221 u)) 208 (10 * wu + xa) = S 221 u))))) := by
  refine pa_go l (by decide) (by simp [pa_c1l, pa_c1]) (fun _ => rfl) fun x C E el ea => ?_
  subst el
  have hT := hM.1.1
  have hTD := sj_TD hs
  have hcv : 3 - S 221 u = ms_contrary (S 221 u) := by rcases hv with q | q <;> rw [q] <;> decide
  have hcv2 : ms_contrary (S 221 u) = 1 ∨ ms_contrary (S 221 u) = 2 := by rcases hv with q | q <;> rw [q] <;> decide
  show pa_w G x 4 (K, Sm, N, O) 0 0 0 [some (pv_o 4 0), some (pv_o 3 t), some (pv_o 3 u), none] []
  refine pr_aload_n (pc := 0) C dX3_denyClaim_0 rfl ?_
  refine pr_aload_n (pc := 1) C dX3_denyClaim_1 rfl ?_
  refine pr_aload_n (pc := 2) C dX3_denyClaim_2 rfl ?_
  refine pr_geti (pc := 3) C 126 wf_X3_164 rfl (by decide) (pl_3 (sj_n0 hs (by first | assumption | omega))) dX3_denyClaim_3 ?_
  refine pr_eqi (v := S 220 u) (sj_r126 hs (by first | assumption | omega)) ?_
  refine pr_eqi hx ?_
  refine pr_aload_n (pc := 6) C dX3_denyClaim_6 rfl ?_
  refine pr_geti (pc := 7) C 127 wf_X3_167 rfl (by decide) (pl_3 (sj_n0 hs (by first | assumption | omega))) dX3_denyClaim_7 ?_
  refine pr_eqi (v := S 221 u) (sj_r127 hs (by first | assumption | omega)) ?_
  refine pr_sP (pc := 10) C (c_X3_contrary G _ (K, Sm, N, O) (S 221 u)) ws_X3_360 rfl rfl (by decide) (Nat.le_of_ble_eq_true rfl) (by omega) (by omega) dX3_denyClaim_10 ?_
  refine pr_eqi hcv ?_
  refine pr_vC0 (pc := 13) (rest := []) C (c_X3_commitOwn G _ K Sm S N O T D e z hs t w xa e1 (ms_contrary (S 221 u)) hM hJs hJq ht hw hw4 hx10 hcv2 he) wv_X3_318 rfl rfl (by decide) (by decide) (pl_4 _) (by decide) (by omega) (by omega) (fun z => absurd (ea.symm.trans z) (by decide)) (fun _ => ⟨trivial, ⟨⟨lr_kn (by decide), (pl_4 _)⟩, ⟨⟨lr_kn (by decide), (pl_3 (sj_n0 hs (by first | assumption | omega)))⟩, ⟨⟨lr_kn (by decide), (pl_3 (sj_n0 hs (by first | assumption | omega)))⟩, trivial⟩⟩⟩⟩) dX3_denyClaim_13 ?_
  intro K N hs
  have hws : (ms_says S t w xa (ms_contrary (S 221 u))) 218 t = nI w := (ms_says_ne (by decide) (by decide) (by decide) (by decide)).trans hw
  have hwus : (ms_says S t w xa (ms_contrary (S 221 u))) 218 u = nI wu := (ms_says_ne (by decide) (by decide) (by decide) (by decide)).trans hwu
  refine pr_aload_n (pc := 16) C dX3_denyClaim_16 rfl ?_
  refine pr_gets (pc := 17) C 120 wf_X3_105 rfl rfl (pl_3 (sj_n0 hs (by first | assumption | omega))) wu ((sj_r120 hs (by first | assumption | omega)).trans hwus) (by first | assumption | omega) dX3_denyClaim_17 ?_
  refine pr_astore_n (pc := 20) C dX3_denyClaim_20 (by decide) ?_
  refine pr_aload_n (pc := 21) C dX3_denyClaim_21 rfl ?_
  refine pr_geta (pc := 22) C 49 149 wf_X3_190 rfl rfl (by decide) (pl_1 (by first | assumption | omega)) dX3_denyClaim_22 ?_
  refine pr_aload_n (pc := 25) C dX3_denyClaim_25 rfl ?_
  refine pr_geti (pc := 26) C 126 wf_X3_164 rfl (by decide) (pl_3 (sj_n0 hs (by first | assumption | omega))) dX3_denyClaim_26 ?_
  refine pr_eqi (v := S 220 u) ((sj_r126 hs (by first | assumption | omega)).trans (by simp only [pa_us_ne, pa_us_self, ms_says_ne, ms_com_ne, ms_dlv_ne, ms_right_ne, ne_eq, Nat.reduceEqDiff, not_false_eq_true, reduceCtorEq])) ?_
  refine pr_eqi hx ?_
  refine pr_aldi (pc := 29) (n := 10) C 49 xa rfl rfl rfl (pl_r1 (by decide) (by first | assumption | omega)) rfl (by omega) (by decide) dX3_denyClaim_29 ?_
  refine pr_eqi (v := (ms_says S t w xa (ms_contrary (S 221 u))) 208 (10 * wu + xa)) (sj_r49 hs (by first | assumption | omega) (by omega)) ?_
  refine pr_aload_n (pc := 30) C dX3_denyClaim_30 rfl ?_
  refine pr_geti (pc := 31) C 127 wf_X3_167 rfl (by decide) (pl_3 (sj_n0 hs (by first | assumption | omega))) dX3_denyClaim_31 ?_
  refine pr_eqi (v := S 221 u) ((sj_r127 hs (by first | assumption | omega)).trans (by simp only [pa_us_ne, pa_us_self, ms_says_ne, ms_com_ne, ms_dlv_ne, ms_right_ne, ne_eq, Nat.reduceEqDiff, not_false_eq_true, reduceCtorEq])) ?_
  refine pr_icmp_ne (pc := 34) C 58 dX3_denyClaim_34 (by decide) (fun c_34 => ?_) (fun c_34 => ?_)
  · exact pr_vret (pc := 58) C E (by omega) (by omega) ⟨rfl, K, N, rfl, sj_eq (by rw [decide_eq_false c_34, pz_bf]; conv => rhs; rw [← sc_deny0 (S := S) (t := t) hw4 hwu4 hx10 hv c_34]; rw [pa_us_same]) hs⟩ dX3_denyClaim_58
  · refine pr_aload_n (pc := 37) C dX3_denyClaim_37 rfl ?_
    refine pr_geta (pc := 38) C 53 153 wf_X3_229 rfl rfl (by decide) (pl_1 (by first | assumption | omega)) dX3_denyClaim_38 ?_
    refine pr_aload_n (pc := 41) C dX3_denyClaim_41 rfl ?_
    refine pr_gets (pc := 42) C 120 wf_X3_105 rfl rfl (pl_3 (sj_n0 hs (by first | assumption | omega))) w ((sj_r120 hs (by first | assumption | omega)).trans hws) (by first | assumption | omega) dX3_denyClaim_42 ?_
    refine pr_geti (pc := 45) C 40 wf_X3_160 rfl (by decide) (pl_1 (by first | assumption | omega)) dX3_denyClaim_45 ?_
    refine pr_eqi (v := nI w) (sj_r40 hs (by first | assumption | omega)) ?_
    refine pr_dup2 (pc := 48) C dX3_denyClaim_48 trivial trivial ?_
    refine pr_aldi (pc := 49) (n := 4) C 53 w rfl rfl rfl (pl_r1 (by decide) (by first | assumption | omega)) rfl (by omega) (by decide) dX3_denyClaim_49 ?_
    refine pr_iconst (pc := 50) (v := 1) C dX3_denyClaim_50 (by decide) ?_
    refine pr_aload_n (pc := 51) C dX3_denyClaim_51 rfl ?_
    refine pr_geti (pc := 52) C 126 wf_X3_164 rfl (by decide) (pl_3 (sj_n0 hs (by first | assumption | omega))) dX3_denyClaim_52 ?_
    refine pr_eqi (v := S 220 u) ((sj_r126 hs (by first | assumption | omega)).trans (by simp only [pa_us_ne, pa_us_self, ms_says_ne, ms_com_ne, ms_dlv_ne, ms_right_ne, ne_eq, Nat.reduceEqDiff, not_false_eq_true, reduceCtorEq])) ?_
    refine pr_eqi hx ?_
    refine pr_ishl (pc := 55) C dX3_denyClaim_55 ?_
    refine pr_ior (pc := 56) C dX3_denyClaim_56 ?_
    refine pr_asti (pc := 57) (n := 4) C 53 w rfl (by decide) rfl rfl (pl_r1 (by decide) (by first | assumption | omega)) rfl (by omega) (by decide) dX3_denyClaim_57 ?_
    refine pr_sim (sj_w53s hs (by omega) (by omega) hx10) ?_
    intro K N hs
    exact pr_vret (pc := 58) C E (by omega) (by omega) ⟨rfl, K, N, rfl, sj_eq (by rw [decide_eq_true c_34, pz_bt]) hs⟩ dX3_denyClaim_58

theorem ms_qxs_fr {w xa k f j : Nat} {S : Nat → Nat → Int32} (hf : f ≠ 233) : pz_it (ms_qxs w xa) k S f j = S f j :=
  pz_it_inv (f := ms_qxs w xa) (I := fun S' => S' f j = S f j) (fun s k h => by unfold ms_qxs; rw [pa_us_ne hf]; exact h) k S rfl
set_option maxRecDepth 100000 in
set_option maxHeartbeats 4000000 in
theorem c_X3_giveReason (G : pa_G) (l : Launch) (K : Nat → Nat → Nat → Int32) (Sm S : Nat → Nat → Int32) (N : Nat → Nat) (O : Nat → Int64) (T D e : Nat) (z : sj_Z) (hs : sj_M K N T D z e S) (t w xa v e1 : Nat) (hM : mw_S S T) (hJs : mj_s S) (hJq : mj_q S) (ht : t < T) (hw : S 218 t = nI w) (hw4 : w < 4) (hx : S 220 t = nI xa) (hx10 : xa < 10) (hv : S 221 t = nI v) (hv10 : v < 10) (he : e1 + 1 ≤ e + (decide (S 208 (10 * w + v) = 0)).toNat) : pa_M G l mX3_giveReason 10 true [pv_o 4 0, pv_o 3 t] (K, Sm, N, O) 2 1520 (sj_post none Sm O T D z e1 (pz_it (ms_qxs w xa) 4 (pa_us (ms_says S t w v 1) 234 (10 * (10 * w + xa) + v) 1))) := by
  refine pa_go l (by decide) (by simp [pa_c1l, pa_c1]) (fun _ => rfl) fun x C E el ea => ?_
  subst el
  have hT := hM.1.1
  have hTD := sj_TD hs
  show pa_w G x 4 (K, Sm, N, O) 0 0 0 [some (pv_o 4 0), some (pv_o 3 t), none, none] []
  refine pr_aload_n (pc := 0) C dX3_giveReason_0 rfl ?_
  refine pr_gets (pc := 1) C 120 wf_X3_105 rfl rfl (pl_3 (sj_n0 hs (by first | assumption | omega))) w ((sj_r120 hs (by first | assumption | omega)).trans hw) (by first | assumption | omega) dX3_giveReason_1 ?_
  refine pr_astore_n (pc := 4) C dX3_giveReason_4 (by decide) ?_
  refine pr_aload_n (pc := 5) C dX3_giveReason_5 rfl ?_
  refine pr_aload_n (pc := 6) C dX3_giveReason_6 rfl ?_
  refine pr_aload_n (pc := 7) C dX3_giveReason_7 rfl ?_
  refine pr_geti (pc := 8) C 127 wf_X3_167 rfl (by decide) (pl_3 (sj_n0 hs (by first | assumption | omega))) dX3_giveReason_8 ?_
  refine pr_eqi (v := S 221 t) (sj_r127 hs (by first | assumption | omega)) ?_
  refine pr_eqi hv ?_
  refine pr_iconst (pc := 11) (v := 1) C dX3_giveReason_11 (by decide) ?_
  refine pr_vC0 (pc := 12) (rest := []) C (c_X3_commitOwn G _ K Sm S N O T D e z hs t w v e1 (1 : Int32) hM hJs hJq ht hw hw4 hv10 (Or.inl rfl) he) wv_X3_318 rfl rfl (by decide) (by decide) (pl_4 _) (by decide) (by omega) (by omega) (fun z => absurd (ea.symm.trans z) (by decide)) (fun _ => ⟨trivial, ⟨⟨lr_kn (by decide), (pl_4 _)⟩, ⟨⟨lr_kn (by decide), (pl_3 (sj_n0 hs (by first | assumption | omega)))⟩, ⟨⟨lr_kn (by decide), (pl_1 (by first | assumption | omega))⟩, trivial⟩⟩⟩⟩) dX3_giveReason_12 ?_
  intro K N hs
  refine pr_aload_n (pc := 15) C dX3_giveReason_15 rfl ?_
  refine pr_geta (pc := 16) C 52 152 wf_X3_212 rfl rfl (by decide) (pl_1 (by first | assumption | omega)) dX3_giveReason_16 ?_
  refine pr_aload_n (pc := 19) C dX3_giveReason_19 rfl ?_
  refine pr_geti (pc := 20) C 126 wf_X3_164 rfl (by decide) (pl_3 (sj_n0 hs (by first | assumption | omega))) dX3_giveReason_20 ?_
  refine pr_eqi (v := S 220 t) ((sj_r126 hs (by first | assumption | omega)).trans (by simp only [pa_us_ne, pa_us_self, ms_says_ne, ms_com_ne, ms_dlv_ne, ms_right_ne, ne_eq, Nat.reduceEqDiff, not_false_eq_true, reduceCtorEq])) ?_
  refine pr_eqi hx ?_
  refine pr_dup2 (pc := 23) C dX3_giveReason_23 trivial trivial ?_
  refine pr_aldi (pc := 24) (n := 10) C 52 xa rfl rfl rfl (pl_r1 (by decide) (by first | assumption | omega)) rfl (by omega) (by decide) dX3_giveReason_24 ?_
  refine pr_iconst (pc := 25) (v := 1) C dX3_giveReason_25 (by decide) ?_
  refine pr_aload_n (pc := 26) C dX3_giveReason_26 rfl ?_
  refine pr_geti (pc := 27) C 127 wf_X3_167 rfl (by decide) (pl_3 (sj_n0 hs (by first | assumption | omega))) dX3_giveReason_27 ?_
  refine pr_eqi (v := S 221 t) ((sj_r127 hs (by first | assumption | omega)).trans (by simp only [pa_us_ne, pa_us_self, ms_says_ne, ms_com_ne, ms_dlv_ne, ms_right_ne, ne_eq, Nat.reduceEqDiff, not_false_eq_true, reduceCtorEq])) ?_
  refine pr_eqi hv ?_
  refine pr_ishl (pc := 30) C dX3_giveReason_30 ?_
  refine pr_ior (pc := 31) C dX3_giveReason_31 ?_
  refine pr_asti (pc := 32) (n := 10) C 52 xa rfl (by decide) rfl rfl (pl_r1 (by decide) (by first | assumption | omega)) rfl (by omega) (by decide) dX3_giveReason_32 ?_
  refine pr_sim (sj_w52s hs hw4 hx10 hv10) ?_
  intro K N hs
  refine pr_iconst (pc := 33) (v := 0) C dX3_giveReason_33 (by decide) ?_
  refine pr_istore_n (pc := 34) C dX3_giveReason_34 (by decide) ?_
  have lp2 : ∀ (n3 k1 : Nat) (S5 : Nat → Nat → Int32) (K : Nat → Nat → Nat → Int32) (N : Nat → Nat), k1 ≤ 4 → 4 < k1 + n3 → S5 = pz_it (ms_qxs w xa) k1 (pa_us (ms_says S t w v (1 : Int32)) 234 (10 * (10 * w + xa) + v) (1 : Int32)) → sj_M K N T D z e1 S5 → pa_w G x 4 (K, Sm, N, O) (0 + 2) (0 + 1520) 35 [some (pv_o 4 0), some (pv_o 3 t), some (pv_o 1 w), some (pv_i (nI k1))] [] := by
    intro n3
    induction n3 with
    | zero => intro k1 S5 K N h1 h2; exact absurd h2 (by omega)
    | succ n3 ih4 =>
      intro k1 S5 K N hk1_k1 hk2_k1 eS_k1 hs
      have hxv : S5 220 t = nI xa := by rw [eS_k1, ms_qxs_fr (by decide)]; exact (pa_us_ne (by decide)).trans ((ms_says_ne (by decide) (by decide) (by decide) (by decide)).trans hx)
      refine pr_iload_n (pc := 35) C dX3_giveReason_35 rfl ?_
      refine pr_iconst (pc := 36) (v := 4) C dX3_giveReason_36 (by decide) ?_
      refine pr_icmp_geN (pc := 37) C 63 k1 4 dX3_giveReason_37 (by decide) rfl rfl (by omega) (by omega) (fun c_37 => ?_) (fun c_37 => ?_)
      · obtain rfl : 4 = k1 := by omega
        exact pr_vret (pc := 63) C E (by omega) (by omega) ⟨rfl, K, N, rfl, sj_eq eS_k1 hs⟩ dX3_giveReason_63
      · refine pr_aload_n (pc := 40) C dX3_giveReason_40 rfl ?_
        refine pr_geta (pc := 41) C 53 153 wf_X3_229 rfl rfl (by decide) (pl_1 (by first | assumption | omega)) dX3_giveReason_41 ?_
        refine pr_iload_n (pc := 44) C dX3_giveReason_44 rfl ?_
        refine pr_dup2 (pc := 45) C dX3_giveReason_45 trivial trivial ?_
        refine pr_aldi (pc := 46) (n := 4) C 53 k1 rfl rfl rfl (pl_r1 (by decide) (by first | assumption | omega)) rfl (by omega) (by decide) dX3_giveReason_46 ?_
        refine pr_iconst (pc := 47) (v := 1) C dX3_giveReason_47 (by decide) ?_
        refine pr_aload_n (pc := 48) C dX3_giveReason_48 rfl ?_
        refine pr_geti (pc := 49) C 126 wf_X3_164 rfl (by decide) (pl_3 (sj_n0 hs (by first | assumption | omega))) dX3_giveReason_49 ?_
        refine pr_eqi (v := S5 220 t) (sj_r126 hs (by first | assumption | omega)) ?_
        refine pr_eqi hxv ?_
        refine pr_ishl (pc := 52) C dX3_giveReason_52 ?_
        refine pr_iconst (pc := 53) (v := -1) C dX3_giveReason_53 (by decide) ?_
        refine pr_ixor (pc := 54) C dX3_giveReason_54 ?_
        refine pr_iand (pc := 55) C dX3_giveReason_55 ?_
        refine pr_asti (pc := 56) (n := 4) C 53 k1 rfl (by decide) rfl rfl (pl_r1 (by decide) (by first | assumption | omega)) rfl (by omega) (by decide) dX3_giveReason_56 ?_
        refine pr_sim (sj_w53 hs hw4 (by omega) hx10) ?_
        intro K N hs
        refine pr_iincN (pc := 57) C dX3_giveReason_57 rfl k1 1 rfl rfl (by decide) ?_
        refine pr_goto (pc := 60) C 35 dX3_giveReason_60 (by decide) ?_
        exact ih4 (k1 + 1) (pa_us S5 233 (40 * w + 10 * k1 + xa) (0 : Int32)) K N (by omega) (by omega) (by rw [pz_it_s, ← eS_k1]; rfl) hs
  exact lp2 (4 + 1) 0 _ K N (by omega) (by omega) (pz_it_z _ _) hs

