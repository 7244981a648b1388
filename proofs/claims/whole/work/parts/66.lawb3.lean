/-! THE LAW'S BLOCKS, third part -/
theorem wl_112 : pa_csw RL 112 mL_can hL_can 8 := ⟨pa_wi (by decide +kernel) rfl, pa_wi (by decide +kernel) rfl, pa_wi (by decide +kernel) rfl, pa_wi (by decide +kernel) rfl, by decide, by decide +kernel, by decide⟩
theorem wl_116 : pa_csw RL 116 mL_say hL_say 8 := ⟨pa_wi (by decide +kernel) rfl, pa_wi (by decide +kernel) rfl, pa_wi (by decide +kernel) rfl, pa_wi (by decide +kernel) rfl, by decide, by decide +kernel, by decide⟩
theorem wl_119 : pa_csw RL 119 mL_tick hL_tick 3 := ⟨pa_wi (by decide +kernel) rfl, pa_wi (by decide +kernel) rfl, pa_wi (by decide +kernel) rfl, pa_wi (by decide +kernel) rfl, by decide, by decide +kernel, by decide⟩
theorem wl_166 : pa_csw RL 166 mL_question hL_question 4 := ⟨pa_wi (by decide +kernel) rfl, pa_wi (by decide +kernel) rfl, pa_wi (by decide +kernel) rfl, pa_wi (by decide +kernel) rfl, by decide, by decide +kernel, by decide⟩
set_option maxRecDepth 100000 in
set_option maxHeartbeats 4000000 in
theorem lb_question {G : pa_G} {x : pa_X} {scr L mc ms i a b : Nat} {xs : Nat → Int32} {K : Nat → Nat → Nat → Int32} {N : Nat → Nat} {T : Nat} {z : sj_Z} {S : Nat → Nat → Int32} {c : Nat} {O : Nat → Int64} (hl9 : x.2.1.stackTraces = false) (C : pa_C G x cL_law 7 RL 17 mc ms) (X : lw_X G x scr L xs) (hL : L ≤ 3584) (hi : i + 7 ≤ L) (h : lw_R K N T z S c) (hc : c + 22 < 30000) (ha : a + 2000 ≤ mc) (hb : b + 900000 ≤ ms)
    (kk : ∀ (K' : Nat → Nat → Nat → Int32) (N' : Nat → Nat) (O' : Nat → Int64) (T' : Nat) (z' : sj_Z) (S' : Nat → Nat → Int32) (c' a' b' : Nat), lw_R K' N' T' z' S' c' → c' ≤ c + 20 → sj_ph S T ≤ sj_ph S' T' → a' ≤ a + 2 * (sj_ph S' T' - sj_ph S T) + 4 → b' ≤ b + 1520 * (sj_ph S' T' - sj_ph S T) + 1600 → lw_w G x scr 7 (K', S', N', O') a' b' 1718 (lw_lo i) []) : lw_w G x scr 7 (K, S, N, O) a b 1555 (lw_lo i) [] := by
  have hM := h.2.1.1
  have hJ := h.2.1.2.1
  have hT := hM.1.1
  have h217 : S 217 0 = nI T := hM.1.2.1
  have h0 := lw_R_235 (v := 0) h
  obtain ⟨A1, eA1⟩ : ∃ v, v = xs (i + 1) := ⟨_, rfl⟩
  obtain ⟨A2, eA2⟩ : ∃ v, v = xs (i + 2) := ⟨_, rfl⟩
  have h0M := h0.2.1.1
  have h0J := h0.2.1.2.1
  have h09 := h0.2.2.2.2.2
  have hz0 := lw_R_ref h0
  have hzr := lw_R_ref h
  have eph : sj_ph (pa_us S 235 0 0) T = sj_ph S T := sj_ph_us (by decide)
  obtain ⟨Q, hQ6, hQe, -, hQq⟩ := id hM.2.1
  have hwQ : mw_Q S Q (ms_aq S) := by
    have := mw_S_Q hM
    rwa [show mn (S 231 0) = Q by rw [hQe]; exact mn_nI (by omega)] at this
  rcases h1 : ms_in A1 0 (nI Q - 1) with _ | _
  · -- badly told
    refine lw_of fun ad hs => ?_
    have Cx : pa_C G (lw_at x (K, S, N, O) ad) cL_law 7 RL 17 mc ms := lw_C C
    refine pr_aload_n (pc := 1555) Cx dL_law_1555 rfl ?_
    refine pr_arg (pc := 1556) Cx X hs (by omega) 1 (by decide) (by omega) rfl rfl dL_law_1556 dL_law_1557 dL_law_1559 dL_law_1560 dL_law_1561 ?_
    refine pr_eqi (v := A1) eA1.symm ?_
    refine pr_arg (pc := 1562) Cx X hs (by omega) 2 (by decide) (by omega) rfl rfl dL_law_1562 dL_law_1563 dL_law_1565 dL_law_1566 dL_law_1567 ?_
    refine pr_eqi (v := A2) eA2.symm ?_
    refine pr_aload_n (pc := 1568) Cx dL_law_1568 rfl ?_
    refine pr_callL (pc := 1569) (As := [pv_o 4 0, pv_i A1, pv_i A2, pv_o 9 0]) C hs (l_questionX1 (al' := false) G _ K S N O A1 A2 (c_X3_questionX1 G _ K S S N O T T 0 z hl9 h.1 Q (ms_aq S) A1 A2 hwQ h1)) (fun r h9 hp9 => ⟨_, hp9.1⟩) wl_166 rfl rfl (Nat.le_of_ble_eq_true rfl) (by omega) (by omega) lw_lo_ok dL_law_1569 (fun k9 h9 hp9 => ?_)
    obtain ⟨ek, rfl⟩ := hp9
    obtain rfl : k9 = 1 := by cases ek; rfl
    refine lw_of fun ad hs => ?_
    have Cx : pa_C G (lw_at x (K, S, N, O) ad) cL_law 7 RL 17 mc ms := lw_C C
    refine pr_istore (pc := 1572) Cx dL_law_1572 (by decide) ?_
    refine pr_aload_n (pc := 1574) Cx dL_law_1574 rfl ?_
    refine pr_arg (pc := 1575) Cx X hs (by omega) 1 (by decide) (by omega) rfl rfl dL_law_1575 dL_law_1576 dL_law_1578 dL_law_1579 dL_law_1580 ?_
    refine pr_eqi (v := A1) eA1.symm ?_
    refine pr_arg (pc := 1581) Cx X hs (by omega) 2 (by decide) (by omega) rfl rfl dL_law_1581 dL_law_1582 dL_law_1584 dL_law_1585 dL_law_1586 ?_
    refine pr_eqi (v := A2) eA2.symm ?_
    refine pr_vR (pc := 1587) Cx (c_X4_questionN G _ (K, S, N, O) A1 A2 (by simp [hQe, h1])) wv_L_168 rfl rfl (Nat.le_of_ble_eq_true rfl) (by decide) (pl_5 _) (Nat.le_of_ble_eq_true rfl) (by omega) (by omega) dL_law_1587 ?_
    refine pr_istore (pc := 1590) Cx dL_law_1590 (by decide) ?_
    refine pr_aload_n (pc := 1592) Cx dL_law_1592 rfl ?_
    refine pr_vP (pc := 1593) Cx (c_X4_thrown G _ _) wv_L_89 rfl rfl (Nat.le_of_ble_eq_true rfl) (by decide) (pl_5 _) (Nat.le_of_ble_eq_true rfl) (by omega) (by omega) dL_law_1593 ?_
    refine pr_eqi (v := 1) (by simp [ms_thr, pa_us_self, hQe, h1]) ?_
    refine pr_iload (pc := 1596) Cx dL_law_1596 rfl ?_
    refine pr_icmp_eq (pc := 1598) Cx 1603 dL_law_1598 (by decide) (fun _ => ?_) (fun q => absurd rfl q)
    refine pr_iload (pc := 1603) Cx dL_law_1603 rfl ?_
    refine pr_if_ne (pc := 1605) Cx 1620 dL_law_1605 (by decide) (fun _ => ?_) (fun q => absurd q (by decide))
    refine pr_goto (pc := 1620) Cx 1718 dL_law_1620 (by decide) ?_
    refine pr_lo (lo' := lw_lo i) (by simp [pa_lle]) ?_
    exact lw_to hs (kk K N _ T z _ c _ _ (lw_R_235 h) (by omega) (Nat.le_of_eq (sj_ph_us (by decide)).symm) (by omega) (by omega))
  · skip
    obtain ⟨p1, hp1, ep1⟩ := sc_inTk (t := 0) (show Q ≤ 100 by omega) h1
    subst ep1
    obtain ⟨qq, hqT, hqq, hq1⟩ := hQq (Q - 1 - p1) (by omega)
    obtain ⟨wq, aq9, hwq4, -, hwq, -⟩ := mw_S_t hM hqT
    have hlq : ms_lis (S 222 qq) = ms_one (S 222 qq) := by
      obtain ⟨-, -, ⟨m, -, -, em, -, m1⟩, -⟩ := hJ.1.1 qq hqT
      rw [em]
      exact ms_lis_one (m1 (Or.inl hq1))
    rcases h2 : ms_in A2 0 3 with _ | _
    · -- badly told
      refine lw_of fun ad hs => ?_
      have Cx : pa_C G (lw_at x (K, S, N, O) ad) cL_law 7 RL 17 mc ms := lw_C C
      refine pr_aload_n (pc := 1555) Cx dL_law_1555 rfl ?_
      refine pr_arg (pc := 1556) Cx X hs (by omega) 1 (by decide) (by omega) rfl rfl dL_law_1556 dL_law_1557 dL_law_1559 dL_law_1560 dL_law_1561 ?_
      refine pr_eqi (v := (nI p1)) eA1.symm ?_
      refine pr_arg (pc := 1562) Cx X hs (by omega) 2 (by decide) (by omega) rfl rfl dL_law_1562 dL_law_1563 dL_law_1565 dL_law_1566 dL_law_1567 ?_
      refine pr_eqi (v := A2) eA2.symm ?_
      refine pr_aload_n (pc := 1568) Cx dL_law_1568 rfl ?_
      refine pr_callL (pc := 1569) (As := [pv_o 4 0, pv_i (nI p1), pv_i A2, pv_o 9 0]) C hs (l_questionX2 (al' := false) G _ K S N O (nI p1) A2 (c_X3_questionX2 G _ K S S N O T T 0 z hl9 h.1 Q (ms_aq S) p1 qq A2 hwQ hp1 hqq hqT hT h2)) (fun r h9 hp9 => ⟨_, hp9.1⟩) wl_166 rfl rfl (Nat.le_of_ble_eq_true rfl) (by omega) (by omega) lw_lo_ok dL_law_1569 (fun k9 h9 hp9 => ?_)
      obtain ⟨ek, rfl⟩ := hp9
      obtain rfl : k9 = 2 := by cases ek; rfl
      refine lw_of fun ad hs => ?_
      have Cx : pa_C G (lw_at x (K, S, N, O) ad) cL_law 7 RL 17 mc ms := lw_C C
      refine pr_istore (pc := 1572) Cx dL_law_1572 (by decide) ?_
      refine pr_aload_n (pc := 1574) Cx dL_law_1574 rfl ?_
      refine pr_arg (pc := 1575) Cx X hs (by omega) 1 (by decide) (by omega) rfl rfl dL_law_1575 dL_law_1576 dL_law_1578 dL_law_1579 dL_law_1580 ?_
      refine pr_eqi (v := (nI p1)) eA1.symm ?_
      refine pr_arg (pc := 1581) Cx X hs (by omega) 2 (by decide) (by omega) rfl rfl dL_law_1581 dL_law_1582 dL_law_1584 dL_law_1585 dL_law_1586 ?_
      refine pr_eqi (v := A2) eA2.symm ?_
      refine pr_vR (pc := 1587) Cx (c_X4_questionN G _ (K, S, N, O) (nI p1) A2 (by simp [hQe, h1, h2])) wv_L_168 rfl rfl (Nat.le_of_ble_eq_true rfl) (by decide) (pl_5 _) (Nat.le_of_ble_eq_true rfl) (by omega) (by omega) dL_law_1587 ?_
      refine pr_istore (pc := 1590) Cx dL_law_1590 (by decide) ?_
      refine pr_aload_n (pc := 1592) Cx dL_law_1592 rfl ?_
      refine pr_vP (pc := 1593) Cx (c_X4_thrown G _ _) wv_L_89 rfl rfl (Nat.le_of_ble_eq_true rfl) (by decide) (pl_5 _) (Nat.le_of_ble_eq_true rfl) (by omega) (by omega) dL_law_1593 ?_
      refine pr_eqi (v := 2) (by simp [ms_thr, pa_us_self, hQe, h1, h2]) ?_
      refine pr_iload (pc := 1596) Cx dL_law_1596 rfl ?_
      refine pr_icmp_eq (pc := 1598) Cx 1603 dL_law_1598 (by decide) (fun _ => ?_) (fun q => absurd rfl q)
      refine pr_iload (pc := 1603) Cx dL_law_1603 rfl ?_
      refine pr_if_ne (pc := 1605) Cx 1620 dL_law_1605 (by decide) (fun _ => ?_) (fun q => absurd q (by decide))
      refine pr_goto (pc := 1620) Cx 1718 dL_law_1620 (by decide) ?_
      refine pr_lo (lo' := lw_lo i) (by simp [pa_lle]) ?_
      exact lw_to hs (kk K N _ T z _ c _ _ (lw_R_235 h) (by omega) (Nat.le_of_eq (sj_ph_us (by decide)).symm) (by omega) (by omega))
    · skip
      obtain ⟨s2, hs2, es2⟩ := sc_nn2 (k := 3) (by decide) h2
      subst es2
      refine lw_of fun ad hs => ?_
      have Cx : pa_C G (lw_at x (K, S, N, O) ad) cL_law 7 RL 17 mc ms := lw_C C
      refine pr_aload_n (pc := 1555) Cx dL_law_1555 rfl ?_
      refine pr_arg (pc := 1556) Cx X hs (by omega) 1 (by decide) (by omega) rfl rfl dL_law_1556 dL_law_1557 dL_law_1559 dL_law_1560 dL_law_1561 ?_
      refine pr_eqi (v := (nI p1)) eA1.symm ?_
      refine pr_arg (pc := 1562) Cx X hs (by omega) 2 (by decide) (by omega) rfl rfl dL_law_1562 dL_law_1563 dL_law_1565 dL_law_1566 dL_law_1567 ?_
      refine pr_eqi (v := (nI s2)) eA2.symm ?_
      refine pr_aload_n (pc := 1568) Cx dL_law_1568 rfl ?_
      refine pr_callL (pc := 1569) (As := [pv_o 4 0, pv_i (nI p1), pv_i (nI s2), pv_o 9 0]) C hs (l_questionY G _ K S N O (nI p1) (nI s2) (P := fun v K' N' => v = ms_que S qq s2 ∧ lw_R K' N' T z (pa_us S 235 0 0) c) (c_X3_questionY G _ K S S N O T T 0 z h.1 Q (ms_aq S) p1 qq s2 wq hwQ hp1 hqq hqT hT (by omega) hwq hwq4 hlq) (fun r h9 hp => ⟨_, K, N, hp.1, hp.2, rfl, h0⟩)) (fun r h9 hp9 => ⟨_, hp9.1⟩) wl_166 rfl rfl (Nat.le_of_ble_eq_true rfl) (by omega) (by omega) lw_lo_ok dL_law_1569 (fun k9 h9 hp9 => ?_)
      obtain ⟨ek, v9, K', N', rfl, rfl, hR⟩ := hp9
      obtain rfl : k9 = 0 := by cases ek; rfl
      refine lw_of fun ad hs => ?_
      have Cx : pa_C G (lw_at x (K', S, N', (pa_uo O (ms_que S qq s2).toInt64)) ad) cL_law 7 RL 17 mc ms := lw_C C
      refine pr_istore (pc := 1572) Cx dL_law_1572 (by decide) ?_
      refine pr_aload_n (pc := 1574) Cx dL_law_1574 rfl ?_
      refine pr_arg (pc := 1575) Cx X hs (by omega) 1 (by decide) (by omega) rfl rfl dL_law_1575 dL_law_1576 dL_law_1578 dL_law_1579 dL_law_1580 ?_
      refine pr_eqi (v := (nI p1)) eA1.symm ?_
      refine pr_arg (pc := 1581) Cx X hs (by omega) 2 (by decide) (by omega) rfl rfl dL_law_1581 dL_law_1582 dL_law_1584 dL_law_1585 dL_law_1586 ?_
      refine pr_eqi (v := (nI s2)) eA2.symm ?_
      refine pr_vR (pc := 1587) Cx (c_X4_questionY G _ (K', S, N', (pa_uo O (ms_que S qq s2).toInt64)) Q p1 qq s2 hQe hQ6 hp1 hqq (by omega) (by omega)) wv_L_168 rfl rfl (Nat.le_of_ble_eq_true rfl) (by decide) (pl_5 _) (Nat.le_of_ble_eq_true rfl) (by omega) (by omega) dL_law_1587 ?_
      refine pr_istore (pc := 1590) Cx dL_law_1590 (by decide) ?_
      refine pr_aload_n (pc := 1592) Cx dL_law_1592 rfl ?_
      refine pr_vP (pc := 1593) Cx (c_X4_thrown G _ _) wv_L_89 rfl rfl (Nat.le_of_ble_eq_true rfl) (by decide) (pl_5 _) (Nat.le_of_ble_eq_true rfl) (by omega) (by omega) dL_law_1593 ?_
      refine pr_eqi (v := 0) (by show pa_us S 235 0 0 235 0 = 0; exact pa_us_self _ _ _ _) ?_
      refine pr_iload (pc := 1596) Cx dL_law_1596 rfl ?_
      refine pr_icmp_eq (pc := 1598) Cx 1603 dL_law_1598 (by decide) (fun _ => ?_) (fun q => absurd rfl q)
      refine pr_iload (pc := 1603) Cx dL_law_1603 rfl ?_
      refine pr_if_ne (pc := 1605) Cx 1620 dL_law_1605 (by decide) (fun q => absurd rfl q) (fun _ => ?_)
      refine pr_aload_n (pc := 1608) Cx dL_law_1608 rfl ?_
      refine pr_iconst (pc := 1609) (v := 0) Cx dL_law_1609 (by decide) ?_
      refine pr_lald9 (pc := 1610) Cx rfl dL_law_1610 ?_
      refine pr_iload (pc := 1611) Cx dL_law_1611 rfl ?_
      refine pr_i2l (pc := 1613) Cx dL_law_1613 ?_
      refine pr_lcmp (pc := 1614) Cx dL_law_1614 ?_
      refine pr_if_eq (pc := 1615) Cx 1620 dL_law_1615 (by decide) (fun _ => ?_) (fun q => absurd (lw_cmp0 _) q)
      refine pr_goto (pc := 1620) Cx 1718 dL_law_1620 (by decide) ?_
      refine pr_lo (lo' := lw_lo i) (by simp [pa_lle]) ?_
      exact lw_to hs (kk K' N' _ T z (pa_us S 235 0 0) c _ _ hR (by omega) (Nat.le_of_eq (sj_ph_us (by decide)).symm) (by omega) (by omega))
set_option maxRecDepth 100000 in
set_option maxHeartbeats 4000000 in
theorem lb_tick {G : pa_G} {x : pa_X} {scr L mc ms i a b : Nat} {xs : Nat → Int32} {K : Nat → Nat → Nat → Int32} {N : Nat → Nat} {T : Nat} {z : sj_Z} {S : Nat → Nat → Int32} {c : Nat} {O : Nat → Int64} (hl9 : x.2.1.stackTraces = false) (C : pa_C G x cL_law 7 RL 17 mc ms) (X : lw_X G x scr L xs) (hL : L ≤ 3584) (hi : i + 7 ≤ L) (h : lw_R K N T z S c) (hc : c + 22 < 30000) (ha : a + 2000 ≤ mc) (hb : b + 900000 ≤ ms)
    (kk : ∀ (K' : Nat → Nat → Nat → Int32) (N' : Nat → Nat) (O' : Nat → Int64) (T' : Nat) (z' : sj_Z) (S' : Nat → Nat → Int32) (c' a' b' : Nat), lw_R K' N' T' z' S' c' → c' ≤ c + 20 → sj_ph S T ≤ sj_ph S' T' → a' ≤ a + 2 * (sj_ph S' T' - sj_ph S T) + 4 → b' ≤ b + 1520 * (sj_ph S' T' - sj_ph S T) + 1600 → lw_w G x scr 7 (K', S', N', O') a' b' 1718 (lw_lo i) []) : lw_w G x scr 7 (K, S, N, O) a b 840 (lw_lo i) [] := by
  have hM := h.2.1.1
  have hJ := h.2.1.2.1
  have hT := hM.1.1
  have h217 : S 217 0 = nI T := hM.1.2.1
  have h0 := lw_R_235 (v := 0) h
  obtain ⟨A1, eA1⟩ : ∃ v, v = xs (i + 1) := ⟨_, rfl⟩
  have h0M := h0.2.1.1
  have h0J := h0.2.1.2.1
  have h09 := h0.2.2.2.2.2
  have hz0 := lw_R_ref h0
  have hzr := lw_R_ref h
  have eph : sj_ph (pa_us S 235 0 0) T = sj_ph S T := sj_ph_us (by decide)
  rcases h1 : ms_in A1 1 20 with _ | _
  · -- badly told
    refine lw_of fun ad hs => ?_
    have Cx : pa_C G (lw_at x (K, S, N, O) ad) cL_law 7 RL 17 mc ms := lw_C C
    refine pr_aload_n (pc := 840) Cx dL_law_840 rfl ?_
    refine pr_arg (pc := 841) Cx X hs (by omega) 1 (by decide) (by omega) rfl rfl dL_law_841 dL_law_842 dL_law_844 dL_law_845 dL_law_846 ?_
    refine pr_eqi (v := A1) eA1.symm ?_
    refine pr_aload_n (pc := 847) Cx dL_law_847 rfl ?_
    refine pr_callL (pc := 848) (As := [pv_o 4 0, pv_i A1, pv_o 9 0]) C hs (l_tickX1 (al' := false) G _ K S N O A1 (c_X3_tickX1 G _ K S S N O T T 0 z hl9 h.1 A1 h1)) (fun r h9 hp9 => ⟨_, hp9.1⟩) wl_119 rfl rfl (Nat.le_of_ble_eq_true rfl) (by omega) (by omega) lw_lo_ok dL_law_848 (fun k9 h9 hp9 => ?_)
    obtain ⟨ek, rfl⟩ := hp9
    obtain rfl : k9 = 1 := by cases ek; rfl
    refine lw_of fun ad hs => ?_
    have Cx : pa_C G (lw_at x (K, S, N, O) ad) cL_law 7 RL 17 mc ms := lw_C C
    refine pr_istore (pc := 851) Cx dL_law_851 (by decide) ?_
    refine pr_aload_n (pc := 853) Cx dL_law_853 rfl ?_
    refine pr_arg (pc := 854) Cx X hs (by omega) 1 (by decide) (by omega) rfl rfl dL_law_854 dL_law_855 dL_law_857 dL_law_858 dL_law_859 ?_
    refine pr_eqi (v := A1) eA1.symm ?_
    refine pr_vR (pc := 860) Cx (c_X4_tickN G _ (K, S, N, O) A1 (by simp [h217, h1])) wv_L_122 rfl rfl (Nat.le_of_ble_eq_true rfl) (by decide) (pl_5 _) (Nat.le_of_ble_eq_true rfl) (by omega) (by omega) dL_law_860 ?_
    refine pr_istore (pc := 863) Cx dL_law_863 (by decide) ?_
    refine pr_aload_n (pc := 865) Cx dL_law_865 rfl ?_
    refine pr_vP (pc := 866) Cx (c_X4_thrown G _ _) wv_L_89 rfl rfl (Nat.le_of_ble_eq_true rfl) (by decide) (pl_5 _) (Nat.le_of_ble_eq_true rfl) (by omega) (by omega) dL_law_866 ?_
    refine pr_eqi (v := 1) (by simp [ms_thr, pa_us_self, h217, h1]) ?_
    refine pr_iload (pc := 869) Cx dL_law_869 rfl ?_
    refine pr_icmp_eq (pc := 871) Cx 876 dL_law_871 (by decide) (fun _ => ?_) (fun q => absurd rfl q)
    refine pr_iload (pc := 876) Cx dL_law_876 rfl ?_
    refine pr_if_ne (pc := 878) Cx 893 dL_law_878 (by decide) (fun _ => ?_) (fun q => absurd q (by decide))
    refine pr_goto (pc := 893) Cx 1718 dL_law_893 (by decide) ?_
    refine pr_lo (lo' := lw_lo i) (by simp [pa_lle]) ?_
    exact lw_to hs (kk K N _ T z _ c _ _ (lw_R_235 h) (by omega) (Nat.le_of_eq (sj_ph_us (by decide)).symm) (by omega) (by omega))
  · skip
    obtain ⟨m9, hm1, hm20, em9⟩ := sc_m20 h1
    subst em9
    have h580 : sj_ph (ms_ticks T m9 (pa_us S 235 0 0)) T ≤ 580 := sj_ph_580 hT
    have hph : sj_ph (pa_us S 235 0 0) T ≤ sj_ph (ms_ticks T m9 (pa_us S 235 0 0)) T := sc_I_ph (lw_R_I h0) (by omega) m9 0 (Nat.zero_add m9)
    refine lw_of fun ad hs => ?_
    have Cx : pa_C G (lw_at x (K, S, N, O) ad) cL_law 7 RL 17 mc ms := lw_C C
    refine pr_aload_n (pc := 840) Cx dL_law_840 rfl ?_
    refine pr_arg (pc := 841) Cx X hs (by omega) 1 (by decide) (by omega) rfl rfl dL_law_841 dL_law_842 dL_law_844 dL_law_845 dL_law_846 ?_
    refine pr_eqi (v := (nI m9)) eA1.symm ?_
    refine pr_aload_n (pc := 847) Cx dL_law_847 rfl ?_
    refine pr_callL (pc := 848) (As := [pv_o 4 0, pv_i (nI m9), pv_o 9 0]) C hs (l_tickY G _ K S N O (nI m9) (P := fun v K' N' => v = (ms_ticks T m9 (pa_us S 235 0 0)) 200 0 ∧ lw_R K' N' T sc_zf (ms_ticks T m9 (pa_us S 235 0 0)) (c + m9)) (c_X3_tickY G _ K S (pa_us S 235 0 0) N O T T 0 z h0.1 c m9 h0.2.1 h0.2.2.2.1 h0.2.2.1 hm1 hm20 (by omega) (by omega)) (fun r h9 ⟨e1, K', N', e2, hs9⟩ => ⟨_, K', N', e1, e2, rfl, (lw_R_tick h0 hm1 (by omega) hs9).1⟩)) (fun r h9 hp9 => ⟨_, hp9.1⟩) wl_119 rfl rfl (Nat.le_of_ble_eq_true rfl) (by omega) (by omega) lw_lo_ok dL_law_848 (fun k9 h9 hp9 => ?_)
    obtain ⟨ek, v9, K', N', rfl, rfl, hR⟩ := hp9
    obtain rfl : k9 = 0 := by cases ek; rfl
    refine lw_of fun ad hs => ?_
    have Cx : pa_C G (lw_at x (K', S, N', (pa_uo O ((ms_ticks T m9 (pa_us S 235 0 0)) 200 0).toInt64)) ad) cL_law 7 RL 17 mc ms := lw_C C
    refine pr_istore (pc := 851) Cx dL_law_851 (by decide) ?_
    refine pr_aload_n (pc := 853) Cx dL_law_853 rfl ?_
    refine pr_arg (pc := 854) Cx X hs (by omega) 1 (by decide) (by omega) rfl rfl dL_law_854 dL_law_855 dL_law_857 dL_law_858 dL_law_859 ?_
    refine pr_eqi (v := (nI m9)) eA1.symm ?_
    refine pr_vR (pc := 860) Cx (c_X4_tickY G _ (K', S, N', (pa_uo O ((ms_ticks T m9 (pa_us S 235 0 0)) 200 0).toInt64)) T m9 hM hm1 hm20) wv_L_122 rfl rfl (Nat.le_of_ble_eq_true rfl) (by decide) (pl_5 _) (Nat.le_of_ble_eq_true rfl) (by omega) (by omega) dL_law_860 ?_
    refine pr_istore (pc := 863) Cx dL_law_863 (by decide) ?_
    refine pr_aload_n (pc := 865) Cx dL_law_865 rfl ?_
    refine pr_vP (pc := 866) Cx (c_X4_thrown G _ _) wv_L_89 rfl rfl (Nat.le_of_ble_eq_true rfl) (by decide) (pl_5 _) (Nat.le_of_ble_eq_true rfl) (by omega) (by omega) dL_law_866 ?_
    refine pr_eqi (v := 0) (by show (ms_ticks T m9 (pa_us S 235 0 0)) 235 0 = 0; rw [lw_ticks_235, pa_us_self]) ?_
    refine pr_iload (pc := 869) Cx dL_law_869 rfl ?_
    refine pr_icmp_eq (pc := 871) Cx 876 dL_law_871 (by decide) (fun _ => ?_) (fun q => absurd rfl q)
    refine pr_iload (pc := 876) Cx dL_law_876 rfl ?_
    refine pr_if_ne (pc := 878) Cx 893 dL_law_878 (by decide) (fun q => absurd rfl q) (fun _ => ?_)
    refine pr_aload_n (pc := 881) Cx dL_law_881 rfl ?_
    refine pr_iconst (pc := 882) (v := 0) Cx dL_law_882 (by decide) ?_
    refine pr_lald9 (pc := 883) Cx rfl dL_law_883 ?_
    refine pr_iload (pc := 884) Cx dL_law_884 rfl ?_
    refine pr_i2l (pc := 886) Cx dL_law_886 ?_
    refine pr_lcmp (pc := 887) Cx dL_law_887 ?_
    refine pr_if_eq (pc := 888) Cx 893 dL_law_888 (by decide) (fun _ => ?_) (fun q => absurd (lw_cmp0 _) q)
    refine pr_goto (pc := 893) Cx 1718 dL_law_893 (by decide) ?_
    refine pr_lo (lo' := lw_lo i) (by simp [pa_lle]) ?_
    exact lw_to hs (kk K' N' _ T sc_zf (ms_ticks T m9 (pa_us S 235 0 0)) (c + m9) _ _ hR (by omega) (by omega) (by omega) (by omega))
set_option maxRecDepth 100000 in
set_option maxHeartbeats 4000000 in
theorem lb_can {G : pa_G} {x : pa_X} {scr L mc ms i a b : Nat} {xs : Nat → Int32} {K : Nat → Nat → Nat → Int32} {N : Nat → Nat} {T : Nat} {z : sj_Z} {S : Nat → Nat → Int32} {c : Nat} {O : Nat → Int64} (hl9 : x.2.1.stackTraces = false) (C : pa_C G x cL_law 7 RL 17 mc ms) (X : lw_X G x scr L xs) (hL : L ≤ 3584) (hi : i + 7 ≤ L) (h : lw_R K N T z S c) (hc : c + 22 < 30000) (ha : a + 2000 ≤ mc) (hb : b + 900000 ≤ ms)
    (kk : ∀ (K' : Nat → Nat → Nat → Int32) (N' : Nat → Nat) (O' : Nat → Int64) (T' : Nat) (z' : sj_Z) (S' : Nat → Nat → Int32) (c' a' b' : Nat), lw_R K' N' T' z' S' c' → c' ≤ c + 20 → sj_ph S T ≤ sj_ph S' T' → a' ≤ a + 2 * (sj_ph S' T' - sj_ph S T) + 4 → b' ≤ b + 1520 * (sj_ph S' T' - sj_ph S T) + 1600 → lw_w G x scr 7 (K', S', N', O') a' b' 1718 (lw_lo i) []) : lw_w G x scr 7 (K, S, N, O) a b 597 (lw_lo i) [] := by
  have hM := h.2.1.1
  have hJ := h.2.1.2.1
  have hT := hM.1.1
  have h217 : S 217 0 = nI T := hM.1.2.1
  have h0 := lw_R_235 (v := 0) h
  obtain ⟨A1, eA1⟩ : ∃ v, v = xs (i + 1) := ⟨_, rfl⟩
  obtain ⟨A2, eA2⟩ : ∃ v, v = xs (i + 2) := ⟨_, rfl⟩
  obtain ⟨A3, eA3⟩ : ∃ v, v = xs (i + 3) := ⟨_, rfl⟩
  obtain ⟨A4, eA4⟩ : ∃ v, v = xs (i + 4) := ⟨_, rfl⟩
  obtain ⟨A5, eA5⟩ : ∃ v, v = xs (i + 5) := ⟨_, rfl⟩
  obtain ⟨A6, eA6⟩ : ∃ v, v = xs (i + 6) := ⟨_, rfl⟩
  have h0M := h0.2.1.1
  have h0J := h0.2.1.2.1
  have h09 := h0.2.2.2.2.2
  have hz0 := lw_R_ref h0
  have hzr := lw_R_ref h
  have eph : sj_ph (pa_us S 235 0 0) T = sj_ph S T := sj_ph_us (by decide)
  rcases h1 : ms_in A1 0 3 with _ | _
  · -- badly told
    refine lw_of fun ad hs => ?_
    have Cx : pa_C G (lw_at x (K, S, N, O) ad) cL_law 7 RL 17 mc ms := lw_C C
    refine pr_aload_n (pc := 597) Cx dL_law_597 rfl ?_
    refine pr_arg (pc := 598) Cx X hs (by omega) 1 (by decide) (by omega) rfl rfl dL_law_598 dL_law_599 dL_law_601 dL_law_602 dL_law_603 ?_
    refine pr_eqi (v := A1) eA1.symm ?_
    refine pr_arg (pc := 604) Cx X hs (by omega) 2 (by decide) (by omega) rfl rfl dL_law_604 dL_law_605 dL_law_607 dL_law_608 dL_law_609 ?_
    refine pr_eqi (v := A2) eA2.symm ?_
    refine pr_arg (pc := 610) Cx X hs (by omega) 3 (by decide) (by omega) rfl rfl dL_law_610 dL_law_611 dL_law_613 dL_law_614 dL_law_615 ?_
    refine pr_eqi (v := A3) eA3.symm ?_
    refine pr_arg (pc := 616) Cx X hs (by omega) 4 (by decide) (by omega) rfl rfl dL_law_616 dL_law_617 dL_law_619 dL_law_620 dL_law_621 ?_
    refine pr_eqi (v := A4) eA4.symm ?_
    refine pr_arg (pc := 622) Cx X hs (by omega) 5 (by decide) (by omega) rfl rfl dL_law_622 dL_law_623 dL_law_625 dL_law_626 dL_law_627 ?_
    refine pr_eqi (v := A5) eA5.symm ?_
    refine pr_arg6 (pc := 628) Cx X hs (by omega) (by omega) rfl rfl dL_law_628 dL_law_629 dL_law_631 dL_law_633 dL_law_634 ?_
    refine pr_eqi (v := A6) eA6.symm ?_
    refine pr_aload_n (pc := 635) Cx dL_law_635 rfl ?_
    refine pr_callL (pc := 636) (As := [pv_o 4 0, pv_i A1, pv_i A2, pv_i A3, pv_i A4, pv_i A5, pv_i A6, pv_o 9 0]) C hs (l_canX1 (al' := false) G _ K S N O A1 A2 A3 A4 A5 A6 (c_X3_canX1 G _ K S S N O T 0 z hl9 h.1 hM hJ h.2.2.2.2.2 hzr A1 A2 A3 A4 A5 A6 h1)) (fun r h9 hp9 => ⟨_, hp9.1⟩) wl_112 rfl rfl (Nat.le_of_ble_eq_true rfl) (by omega) (by omega) lw_lo_ok dL_law_636 (fun k9 h9 hp9 => ?_)
    obtain ⟨ek, rfl⟩ := hp9
    obtain rfl : k9 = 1 := by cases ek; rfl
    refine lw_of fun ad hs => ?_
    have Cx : pa_C G (lw_at x (K, S, N, O) ad) cL_law 7 RL 17 mc ms := lw_C C
    refine pr_istore (pc := 639) Cx dL_law_639 (by decide) ?_
    refine pr_aload_n (pc := 641) Cx dL_law_641 rfl ?_
    refine pr_arg (pc := 642) Cx X hs (by omega) 1 (by decide) (by omega) rfl rfl dL_law_642 dL_law_643 dL_law_645 dL_law_646 dL_law_647 ?_
    refine pr_eqi (v := A1) eA1.symm ?_
    refine pr_arg (pc := 648) Cx X hs (by omega) 2 (by decide) (by omega) rfl rfl dL_law_648 dL_law_649 dL_law_651 dL_law_652 dL_law_653 ?_
    refine pr_eqi (v := A2) eA2.symm ?_
    refine pr_arg (pc := 654) Cx X hs (by omega) 3 (by decide) (by omega) rfl rfl dL_law_654 dL_law_655 dL_law_657 dL_law_658 dL_law_659 ?_
    refine pr_eqi (v := A3) eA3.symm ?_
    refine pr_arg (pc := 660) Cx X hs (by omega) 4 (by decide) (by omega) rfl rfl dL_law_660 dL_law_661 dL_law_663 dL_law_664 dL_law_665 ?_
    refine pr_eqi (v := A4) eA4.symm ?_
    refine pr_arg (pc := 666) Cx X hs (by omega) 5 (by decide) (by omega) rfl rfl dL_law_666 dL_law_667 dL_law_669 dL_law_670 dL_law_671 ?_
    refine pr_eqi (v := A5) eA5.symm ?_
    refine pr_arg6 (pc := 672) Cx X hs (by omega) (by omega) rfl rfl dL_law_672 dL_law_673 dL_law_675 dL_law_677 dL_law_678 ?_
    refine pr_eqi (v := A6) eA6.symm ?_
    refine pr_vR (pc := 679) Cx (c_X4_canN G _ (K, S, N, O) A1 A2 A3 A4 A5 A6 (by simp [h217, h1])) wv_L_115 rfl rfl (Nat.le_of_ble_eq_true rfl) (by decide) (pl_5 _) (Nat.le_of_ble_eq_true rfl) (by omega) (by omega) dL_law_679 ?_
    refine pr_istore (pc := 682) Cx dL_law_682 (by decide) ?_
    refine pr_aload_n (pc := 684) Cx dL_law_684 rfl ?_
    refine pr_vP (pc := 685) Cx (c_X4_thrown G _ _) wv_L_89 rfl rfl (Nat.le_of_ble_eq_true rfl) (by decide) (pl_5 _) (Nat.le_of_ble_eq_true rfl) (by omega) (by omega) dL_law_685 ?_
    refine pr_eqi (v := 1) (by simp [ms_thr, pa_us_self, h217, h1]) ?_
    refine pr_iload (pc := 688) Cx dL_law_688 rfl ?_
    refine pr_icmp_eq (pc := 690) Cx 695 dL_law_690 (by decide) (fun _ => ?_) (fun q => absurd rfl q)
    refine pr_iload (pc := 695) Cx dL_law_695 rfl ?_
    refine pr_if_ne (pc := 697) Cx 719 dL_law_697 (by decide) (fun _ => ?_) (fun q => absurd q (by decide))
    refine pr_goto (pc := 719) Cx 1718 dL_law_719 (by decide) ?_
    refine pr_lo (lo' := lw_lo i) (by simp [pa_lle]) ?_
    exact lw_to hs (kk K N _ T z _ c _ _ (lw_R_235 h) (by omega) (Nat.le_of_eq (sj_ph_us (by decide)).symm) (by omega) (by omega))
  · skip
    obtain ⟨s1, hs1, es1⟩ := sc_nn2 (k := 3) (by decide) h1
    subst es1
    rcases h2 : ms_told (nI T) (nI s1) A2 A3 A4 A5 A6 with _ | _
    · -- badly told
      refine lw_of fun ad hs => ?_
      have Cx : pa_C G (lw_at x (K, S, N, O) ad) cL_law 7 RL 17 mc ms := lw_C C
      refine pr_aload_n (pc := 597) Cx dL_law_597 rfl ?_
      refine pr_arg (pc := 598) Cx X hs (by omega) 1 (by decide) (by omega) rfl rfl dL_law_598 dL_law_599 dL_law_601 dL_law_602 dL_law_603 ?_
      refine pr_eqi (v := (nI s1)) eA1.symm ?_
      refine pr_arg (pc := 604) Cx X hs (by omega) 2 (by decide) (by omega) rfl rfl dL_law_604 dL_law_605 dL_law_607 dL_law_608 dL_law_609 ?_
      refine pr_eqi (v := A2) eA2.symm ?_
      refine pr_arg (pc := 610) Cx X hs (by omega) 3 (by decide) (by omega) rfl rfl dL_law_610 dL_law_611 dL_law_613 dL_law_614 dL_law_615 ?_
      refine pr_eqi (v := A3) eA3.symm ?_
      refine pr_arg (pc := 616) Cx X hs (by omega) 4 (by decide) (by omega) rfl rfl dL_law_616 dL_law_617 dL_law_619 dL_law_620 dL_law_621 ?_
      refine pr_eqi (v := A4) eA4.symm ?_
      refine pr_arg (pc := 622) Cx X hs (by omega) 5 (by decide) (by omega) rfl rfl dL_law_622 dL_law_623 dL_law_625 dL_law_626 dL_law_627 ?_
      refine pr_eqi (v := A5) eA5.symm ?_
      refine pr_arg6 (pc := 628) Cx X hs (by omega) (by omega) rfl rfl dL_law_628 dL_law_629 dL_law_631 dL_law_633 dL_law_634 ?_
      refine pr_eqi (v := A6) eA6.symm ?_
      refine pr_aload_n (pc := 635) Cx dL_law_635 rfl ?_
      refine pr_callL (pc := 636) (As := [pv_o 4 0, pv_i (nI s1), pv_i A2, pv_i A3, pv_i A4, pv_i A5, pv_i A6, pv_o 9 0]) C hs (l_canX2 (al' := false) G _ K S N O (nI s1) A2 A3 A4 A5 A6 (c_X3_canX2 G _ K S S N O T 0 z hl9 h.1 hM hJ h.2.2.2.2.2 hzr s1 A2 A3 A4 A5 A6 (by omega) h2)) (fun r h9 hp9 => ⟨_, hp9.1⟩) wl_112 rfl rfl (Nat.le_of_ble_eq_true rfl) (by omega) (by omega) lw_lo_ok dL_law_636 (fun k9 h9 hp9 => ?_)
      obtain ⟨ek, rfl⟩ := hp9
      obtain rfl : k9 = 2 := by cases ek; rfl
      refine lw_of fun ad hs => ?_
      have Cx : pa_C G (lw_at x (K, S, N, O) ad) cL_law 7 RL 17 mc ms := lw_C C
      refine pr_istore (pc := 639) Cx dL_law_639 (by decide) ?_
      refine pr_aload_n (pc := 641) Cx dL_law_641 rfl ?_
      refine pr_arg (pc := 642) Cx X hs (by omega) 1 (by decide) (by omega) rfl rfl dL_law_642 dL_law_643 dL_law_645 dL_law_646 dL_law_647 ?_
      refine pr_eqi (v := (nI s1)) eA1.symm ?_
      refine pr_arg (pc := 648) Cx X hs (by omega) 2 (by decide) (by omega) rfl rfl dL_law_648 dL_law_649 dL_law_651 dL_law_652 dL_law_653 ?_
      refine pr_eqi (v := A2) eA2.symm ?_
      refine pr_arg (pc := 654) Cx X hs (by omega) 3 (by decide) (by omega) rfl rfl dL_law_654 dL_law_655 dL_law_657 dL_law_658 dL_law_659 ?_
      refine pr_eqi (v := A3) eA3.symm ?_
      refine pr_arg (pc := 660) Cx X hs (by omega) 4 (by decide) (by omega) rfl rfl dL_law_660 dL_law_661 dL_law_663 dL_law_664 dL_law_665 ?_
      refine pr_eqi (v := A4) eA4.symm ?_
      refine pr_arg (pc := 666) Cx X hs (by omega) 5 (by decide) (by omega) rfl rfl dL_law_666 dL_law_667 dL_law_669 dL_law_670 dL_law_671 ?_
      refine pr_eqi (v := A5) eA5.symm ?_
      refine pr_arg6 (pc := 672) Cx X hs (by omega) (by omega) rfl rfl dL_law_672 dL_law_673 dL_law_675 dL_law_677 dL_law_678 ?_
      refine pr_eqi (v := A6) eA6.symm ?_
      refine pr_vR (pc := 679) Cx (c_X4_canN G _ (K, S, N, O) (nI s1) A2 A3 A4 A5 A6 (by simp [h217, h1, h2])) wv_L_115 rfl rfl (Nat.le_of_ble_eq_true rfl) (by decide) (pl_5 _) (Nat.le_of_ble_eq_true rfl) (by omega) (by omega) dL_law_679 ?_
      refine pr_istore (pc := 682) Cx dL_law_682 (by decide) ?_
      refine pr_aload_n (pc := 684) Cx dL_law_684 rfl ?_
      refine pr_vP (pc := 685) Cx (c_X4_thrown G _ _) wv_L_89 rfl rfl (Nat.le_of_ble_eq_true rfl) (by decide) (pl_5 _) (Nat.le_of_ble_eq_true rfl) (by omega) (by omega) dL_law_685 ?_
      refine pr_eqi (v := 2) (by simp [ms_thr, pa_us_self, h217, h1, h2]) ?_
      refine pr_iload (pc := 688) Cx dL_law_688 rfl ?_
      refine pr_icmp_eq (pc := 690) Cx 695 dL_law_690 (by decide) (fun _ => ?_) (fun q => absurd rfl q)
      refine pr_iload (pc := 695) Cx dL_law_695 rfl ?_
      refine pr_if_ne (pc := 697) Cx 719 dL_law_697 (by decide) (fun _ => ?_) (fun q => absurd q (by decide))
      refine pr_goto (pc := 719) Cx 1718 dL_law_719 (by decide) ?_
      refine pr_lo (lo' := lw_lo i) (by simp [pa_lle]) ?_
      exact lw_to hs (kk K N _ T z _ c _ _ (lw_R_235 h) (by omega) (Nat.le_of_eq (sj_ph_us (by decide)).symm) (by omega) (by omega))
    · skip
      obtain ⟨av, hav, eav⟩ := sc_act h2
      subst eav
      refine lw_of fun ad hs => ?_
      have Cx : pa_C G (lw_at x (K, S, N, O) ad) cL_law 7 RL 17 mc ms := lw_C C
      refine pr_aload_n (pc := 597) Cx dL_law_597 rfl ?_
      refine pr_arg (pc := 598) Cx X hs (by omega) 1 (by decide) (by omega) rfl rfl dL_law_598 dL_law_599 dL_law_601 dL_law_602 dL_law_603 ?_
      refine pr_eqi (v := (nI s1)) eA1.symm ?_
      refine pr_arg (pc := 604) Cx X hs (by omega) 2 (by decide) (by omega) rfl rfl dL_law_604 dL_law_605 dL_law_607 dL_law_608 dL_law_609 ?_
      refine pr_eqi (v := (nI av)) eA2.symm ?_
      refine pr_arg (pc := 610) Cx X hs (by omega) 3 (by decide) (by omega) rfl rfl dL_law_610 dL_law_611 dL_law_613 dL_law_614 dL_law_615 ?_
      refine pr_eqi (v := A3) eA3.symm ?_
      refine pr_arg (pc := 616) Cx X hs (by omega) 4 (by decide) (by omega) rfl rfl dL_law_616 dL_law_617 dL_law_619 dL_law_620 dL_law_621 ?_
      refine pr_eqi (v := A4) eA4.symm ?_
      refine pr_arg (pc := 622) Cx X hs (by omega) 5 (by decide) (by omega) rfl rfl dL_law_622 dL_law_623 dL_law_625 dL_law_626 dL_law_627 ?_
      refine pr_eqi (v := A5) eA5.symm ?_
      refine pr_arg6 (pc := 628) Cx X hs (by omega) (by omega) rfl rfl dL_law_628 dL_law_629 dL_law_631 dL_law_633 dL_law_634 ?_
      refine pr_eqi (v := A6) eA6.symm ?_
      refine pr_aload_n (pc := 635) Cx dL_law_635 rfl ?_
      refine pr_callL (pc := 636) (As := [pv_o 4 0, pv_i (nI s1), pv_i (nI av), pv_i A3, pv_i A4, pv_i A5, pv_i A6, pv_o 9 0]) C hs (l_canY G _ K S N O (nI s1) (nI av) A3 A4 A5 A6 (P := fun v K' N' => v = pz_b (ms_canSay (pa_us S 235 0 0) s1 av A3 A4 A5) ∧ lw_R K' N' T z (pa_us S 235 0 0) c) (c_X3_canY G _ K S (pa_us S 235 0 0) N O T 0 z h0.1 h0M h0J h09 hz0 h0.2.2.2.1 s1 av A3 A4 A5 A6 (by omega) hav h2) (fun r h9 ⟨e1, K', N', e2, hs9⟩ => ⟨_, K', N', e1, e2, pz_b01 _, rfl, ⟨hs9, h0.2⟩⟩)) (fun r h9 hp9 => ⟨_, hp9.1⟩) wl_112 rfl rfl (Nat.le_of_ble_eq_true rfl) (by omega) (by omega) lw_lo_ok dL_law_636 (fun k9 h9 hp9 => ?_)
      obtain ⟨ek, v9, K', N', rfl, rfl, hR⟩ := hp9
      obtain rfl : k9 = 0 := by cases ek; rfl
      refine lw_of fun ad hs => ?_
      have Cx : pa_C G (lw_at x (K', S, N', (pa_uo O (pz_b (ms_canSay (pa_us S 235 0 0) s1 av A3 A4 A5)).toInt64)) ad) cL_law 7 RL 17 mc ms := lw_C C
      refine pr_istore (pc := 639) Cx dL_law_639 (by decide) ?_
      refine pr_aload_n (pc := 641) Cx dL_law_641 rfl ?_
      refine pr_arg (pc := 642) Cx X hs (by omega) 1 (by decide) (by omega) rfl rfl dL_law_642 dL_law_643 dL_law_645 dL_law_646 dL_law_647 ?_
      refine pr_eqi (v := (nI s1)) eA1.symm ?_
      refine pr_arg (pc := 648) Cx X hs (by omega) 2 (by decide) (by omega) rfl rfl dL_law_648 dL_law_649 dL_law_651 dL_law_652 dL_law_653 ?_
      refine pr_eqi (v := (nI av)) eA2.symm ?_
      refine pr_arg (pc := 654) Cx X hs (by omega) 3 (by decide) (by omega) rfl rfl dL_law_654 dL_law_655 dL_law_657 dL_law_658 dL_law_659 ?_
      refine pr_eqi (v := A3) eA3.symm ?_
      refine pr_arg (pc := 660) Cx X hs (by omega) 4 (by decide) (by omega) rfl rfl dL_law_660 dL_law_661 dL_law_663 dL_law_664 dL_law_665 ?_
      refine pr_eqi (v := A4) eA4.symm ?_
      refine pr_arg (pc := 666) Cx X hs (by omega) 5 (by decide) (by omega) rfl rfl dL_law_666 dL_law_667 dL_law_669 dL_law_670 dL_law_671 ?_
      refine pr_eqi (v := A5) eA5.symm ?_
      refine pr_arg6 (pc := 672) Cx X hs (by omega) (by omega) rfl rfl dL_law_672 dL_law_673 dL_law_675 dL_law_677 dL_law_678 ?_
      refine pr_eqi (v := A6) eA6.symm ?_
      refine pr_vR (pc := 679) Cx (c_X4_canY G _ (K', S, N', (pa_uo O (pz_b (ms_canSay (pa_us S 235 0 0) s1 av A3 A4 A5)).toInt64)) (mn (S 231 0)) (ms_aq S) s1 av A3 A4 A5 A6 (by omega) hav (mw_of_told hT (by omega) hav h2) (mw_S_Q hM) (by show ms_told (S 217 0) _ _ _ _ _ _ = true; rw [h217]; exact h2)) wv_L_115 rfl rfl (Nat.le_of_ble_eq_true rfl) (by decide) (pl_5 _) (Nat.le_of_ble_eq_true rfl) (by omega) (by omega) dL_law_679 ?_
      have hB9 : pz_b (ms_canSay (pa_us S 235 0 0) s1 av A3 A4 A5) = 0 ∨ pz_b (ms_canSay (pa_us S 235 0 0) s1 av A3 A4 A5) = 1 := pz_b01 _
      refine pr_istore (pc := 682) Cx dL_law_682 (by decide) ?_
      refine pr_aload_n (pc := 684) Cx dL_law_684 rfl ?_
      refine pr_vP (pc := 685) Cx (c_X4_thrown G _ _) wv_L_89 rfl rfl (Nat.le_of_ble_eq_true rfl) (by decide) (pl_5 _) (Nat.le_of_ble_eq_true rfl) (by omega) (by omega) dL_law_685 ?_
      refine pr_eqi (v := 0) (by show pa_us S 235 0 0 235 0 = 0; exact pa_us_self _ _ _ _) ?_
      refine pr_iload (pc := 688) Cx dL_law_688 rfl ?_
      refine pr_icmp_eq (pc := 690) Cx 695 dL_law_690 (by decide) (fun _ => ?_) (fun q => absurd rfl q)
      refine pr_iload (pc := 695) Cx dL_law_695 rfl ?_
      refine pr_if_ne (pc := 697) Cx 719 dL_law_697 (by decide) (fun q => absurd rfl q) (fun _ => ?_)
      refine pr_aload_n (pc := 700) Cx dL_law_700 rfl ?_
      refine pr_iconst (pc := 701) (v := 0) Cx dL_law_701 (by decide) ?_
      refine pr_lald9 (pc := 702) Cx rfl dL_law_702 ?_
      refine pr_iload (pc := 703) Cx dL_law_703 rfl ?_
      rcases hB9 with hB9 | hB9
      · skip
        refine pr_if_eq (pc := 705) Cx 712 dL_law_705 (by decide) (fun _ => ?_) (fun q => absurd hB9 q)
        refine pr_lconst (pc := 712) (v := 0) Cx dL_law_712 (by decide) ?_
        refine pr_lcmp (pc := 713) Cx dL_law_713 ?_
        refine pr_if_eq (pc := 714) Cx 719 dL_law_714 (by decide) (fun _ => ?_) (fun q => absurd (show lg_cmp (pz_b (ms_canSay (pa_us S 235 0 0) s1 av A3 A4 A5)).toInt64 0 = 0 by rw [hB9]; exact lw_cmp0 _) q)
        refine pr_goto (pc := 719) Cx 1718 dL_law_719 (by decide) ?_
        refine pr_lo (lo' := lw_lo i) (by simp [pa_lle]) ?_
        exact lw_to hs (kk K' N' _ T z (pa_us S 235 0 0) c _ _ hR (by omega) (Nat.le_of_eq eph.symm) (by omega) (by omega))
      · skip
        refine pr_if_eq (pc := 705) Cx 712 dL_law_705 (by decide) (fun q => absurd (hB9.symm.trans q) (by decide)) (fun _ => ?_)
        refine pr_lconst (pc := 708) (v := 1) Cx dL_law_708 (by decide) ?_
        refine pr_goto (pc := 709) Cx 713 dL_law_709 (by decide) ?_
        refine pr_lcmp (pc := 713) Cx dL_law_713 ?_
        refine pr_if_eq (pc := 714) Cx 719 dL_law_714 (by decide) (fun _ => ?_) (fun q => absurd (show lg_cmp (pz_b (ms_canSay (pa_us S 235 0 0) s1 av A3 A4 A5)).toInt64 1 = 0 by rw [hB9]; exact lw_cmp0 _) q)
        refine pr_goto (pc := 719) Cx 1718 dL_law_719 (by decide) ?_
        refine pr_lo (lo' := lw_lo i) (by simp [pa_lle]) ?_
        exact lw_to hs (kk K' N' _ T z (pa_us S 235 0 0) c _ _ hR (by omega) (Nat.le_of_eq eph.symm) (by omega) (by omega))
theorem lw_ph_say {S : Nat → Nat → Int32} {T sp a : Nat} {of how set fr : Int32} (h : S 224 T = 0) : sj_ph (pa_us S 235 0 0) T ≤ sj_ph (ms_say (pa_us S 235 0 0) T sp a of how set fr) (T + 1) := by
  generalize pa_us S 235 0 0 = S
  have e208 : ms_say S T sp a of how set fr 208 = S 208 := funext fun j => ms_say_A (by decide) (by decide) (by decide)
  have e210 : ms_say S T sp a of how set fr 210 = S 210 := funext fun j => ms_say_A (by decide) (by decide) (by decide)
  have e224 : ms_say S T sp a of how set fr 224 = S 224 := funext fun j => ms_say_A (by decide) (by decide) (by decide)
  have e225 : sj_nd S T ≤ sj_nd (ms_say S T sp a of how set fr) (T + 1) := by
    have e : sj_nd (ms_say S T sp a of how set fr) T = sj_nd S T := sj_c_cong fun k hk => by rw [ms_say_B (by omega) (by decide) (by decide)]
    unfold sj_nd at e ⊢
    rw [sj_c, e]
    omega
  unfold sj_ph sj_ns sj_pt sj_nz sj_nh
  rw [e208, e210, e224]
  have e9 : sj_c (fun t => decide (S 224 t ≠ 0)) T ≤ sj_c (fun t => decide (S 224 t ≠ 0)) (T + 1) := Nat.le_add_right _ _
  omega
set_option maxRecDepth 100000 in
set_option maxHeartbeats 4000000 in
theorem lb_say {G : pa_G} {x : pa_X} {scr L mc ms i a b : Nat} {xs : Nat → Int32} {K : Nat → Nat → Nat → Int32} {N : Nat → Nat} {T : Nat} {z : sj_Z} {S : Nat → Nat → Int32} {c : Nat} {O : Nat → Int64} (hl9 : x.2.1.stackTraces = false) (C : pa_C G x cL_law 7 RL 17 mc ms) (X : lw_X G x scr L xs) (hL : L ≤ 3584) (hi : i + 7 ≤ L) (h : lw_R K N T z S c) (hc : c + 22 < 30000) (ha : a + 2000 ≤ mc) (hb : b + 900000 ≤ ms)
    (kk : ∀ (K' : Nat → Nat → Nat → Int32) (N' : Nat → Nat) (O' : Nat → Int64) (T' : Nat) (z' : sj_Z) (S' : Nat → Nat → Int32) (c' a' b' : Nat), lw_R K' N' T' z' S' c' → c' ≤ c + 20 → sj_ph S T ≤ sj_ph S' T' → a' ≤ a + 2 * (sj_ph S' T' - sj_ph S T) + 4 → b' ≤ b + 1520 * (sj_ph S' T' - sj_ph S T) + 1600 → lw_w G x scr 7 (K', S', N', O') a' b' 1718 (lw_lo i) []) : lw_w G x scr 7 (K, S, N, O) a b 722 (lw_lo i) [] := by
  have hM := h.2.1.1
  have hJ := h.2.1.2.1
  have hT := hM.1.1
  have h217 : S 217 0 = nI T := hM.1.2.1
  have h0 := lw_R_235 (v := 0) h
  obtain ⟨A1, eA1⟩ : ∃ v, v = xs (i + 1) := ⟨_, rfl⟩
  obtain ⟨A2, eA2⟩ : ∃ v, v = xs (i + 2) := ⟨_, rfl⟩
  obtain ⟨A3, eA3⟩ : ∃ v, v = xs (i + 3) := ⟨_, rfl⟩
  obtain ⟨A4, eA4⟩ : ∃ v, v = xs (i + 4) := ⟨_, rfl⟩
  obtain ⟨A5, eA5⟩ : ∃ v, v = xs (i + 5) := ⟨_, rfl⟩
  obtain ⟨A6, eA6⟩ : ∃ v, v = xs (i + 6) := ⟨_, rfl⟩
  have h0M := h0.2.1.1
  have h0J := h0.2.1.2.1
  have h09 := h0.2.2.2.2.2
  have hz0 := lw_R_ref h0
  have hzr := lw_R_ref h
  have eph : sj_ph (pa_us S 235 0 0) T = sj_ph S T := sj_ph_us (by decide)
  rcases h1 : ms_in A1 0 3 with _ | _
  · -- badly told
    refine lw_of fun ad hs => ?_
    have Cx : pa_C G (lw_at x (K, S, N, O) ad) cL_law 7 RL 17 mc ms := lw_C C
    refine pr_aload_n (pc := 722) Cx dL_law_722 rfl ?_
    refine pr_arg (pc := 723) Cx X hs (by omega) 1 (by decide) (by omega) rfl rfl dL_law_723 dL_law_724 dL_law_726 dL_law_727 dL_law_728 ?_
    refine pr_eqi (v := A1) eA1.symm ?_
    refine pr_arg (pc := 729) Cx X hs (by omega) 2 (by decide) (by omega) rfl rfl dL_law_729 dL_law_730 dL_law_732 dL_law_733 dL_law_734 ?_
    refine pr_eqi (v := A2) eA2.symm ?_
    refine pr_arg (pc := 735) Cx X hs (by omega) 3 (by decide) (by omega) rfl rfl dL_law_735 dL_law_736 dL_law_738 dL_law_739 dL_law_740 ?_
    refine pr_eqi (v := A3) eA3.symm ?_
    refine pr_arg (pc := 741) Cx X hs (by omega) 4 (by decide) (by omega) rfl rfl dL_law_741 dL_law_742 dL_law_744 dL_law_745 dL_law_746 ?_
    refine pr_eqi (v := A4) eA4.symm ?_
    refine pr_arg (pc := 747) Cx X hs (by omega) 5 (by decide) (by omega) rfl rfl dL_law_747 dL_law_748 dL_law_750 dL_law_751 dL_law_752 ?_
    refine pr_eqi (v := A5) eA5.symm ?_
    refine pr_arg6 (pc := 753) Cx X hs (by omega) (by omega) rfl rfl dL_law_753 dL_law_754 dL_law_756 dL_law_758 dL_law_759 ?_
    refine pr_eqi (v := A6) eA6.symm ?_
    refine pr_aload_n (pc := 760) Cx dL_law_760 rfl ?_
    refine pr_callL (pc := 761) (As := [pv_o 4 0, pv_i A1, pv_i A2, pv_i A3, pv_i A4, pv_i A5, pv_i A6, pv_o 9 0]) C hs (l_sayX1 (al' := false) G _ K S N O A1 A2 A3 A4 A5 A6 (c_X3_sayX1 G _ K S S N O T 0 z hl9 h.1 hM hJ h.2.2.2.2.2 hzr A1 A2 A3 A4 A5 A6 h1)) (fun r h9 hp9 => ⟨_, hp9.1⟩) wl_116 rfl rfl (Nat.le_of_ble_eq_true rfl) (by omega) (by omega) lw_lo_ok dL_law_761 (fun k9 h9 hp9 => ?_)
    obtain ⟨ek, rfl⟩ := hp9
    obtain rfl : k9 = 1 := by cases ek; rfl
    refine lw_of fun ad hs => ?_
    have Cx : pa_C G (lw_at x (K, S, N, O) ad) cL_law 7 RL 17 mc ms := lw_C C
    refine pr_istore (pc := 764) Cx dL_law_764 (by decide) ?_
    refine pr_aload_n (pc := 766) Cx dL_law_766 rfl ?_
    refine pr_arg (pc := 767) Cx X hs (by omega) 1 (by decide) (by omega) rfl rfl dL_law_767 dL_law_768 dL_law_770 dL_law_771 dL_law_772 ?_
    refine pr_eqi (v := A1) eA1.symm ?_
    refine pr_arg (pc := 773) Cx X hs (by omega) 2 (by decide) (by omega) rfl rfl dL_law_773 dL_law_774 dL_law_776 dL_law_777 dL_law_778 ?_
    refine pr_eqi (v := A2) eA2.symm ?_
    refine pr_arg (pc := 779) Cx X hs (by omega) 3 (by decide) (by omega) rfl rfl dL_law_779 dL_law_780 dL_law_782 dL_law_783 dL_law_784 ?_
    refine pr_eqi (v := A3) eA3.symm ?_
    refine pr_arg (pc := 785) Cx X hs (by omega) 4 (by decide) (by omega) rfl rfl dL_law_785 dL_law_786 dL_law_788 dL_law_789 dL_law_790 ?_
    refine pr_eqi (v := A4) eA4.symm ?_
    refine pr_arg (pc := 791) Cx X hs (by omega) 5 (by decide) (by omega) rfl rfl dL_law_791 dL_law_792 dL_law_794 dL_law_795 dL_law_796 ?_
    refine pr_eqi (v := A5) eA5.symm ?_
    refine pr_arg6 (pc := 797) Cx X hs (by omega) (by omega) rfl rfl dL_law_797 dL_law_798 dL_law_800 dL_law_802 dL_law_803 ?_
    refine pr_eqi (v := A6) eA6.symm ?_
    refine pr_vR (pc := 804) Cx (c_X4_sayN G _ (K, S, N, O) A1 A2 A3 A4 A5 A6 (by simp [h217, h1])) wv_L_118 rfl rfl (Nat.le_of_ble_eq_true rfl) (by decide) (pl_5 _) (Nat.le_of_ble_eq_true rfl) (by omega) (by omega) dL_law_804 ?_
    refine pr_istore (pc := 807) Cx dL_law_807 (by decide) ?_
    refine pr_aload_n (pc := 809) Cx dL_law_809 rfl ?_
    refine pr_vP (pc := 810) Cx (c_X4_thrown G _ _) wv_L_89 rfl rfl (Nat.le_of_ble_eq_true rfl) (by decide) (pl_5 _) (Nat.le_of_ble_eq_true rfl) (by omega) (by omega) dL_law_810 ?_
    refine pr_eqi (v := 1) (by simp [ms_thr, pa_us_self, h217, h1]) ?_
    refine pr_iload (pc := 813) Cx dL_law_813 rfl ?_
    refine pr_icmp_eq (pc := 815) Cx 820 dL_law_815 (by decide) (fun _ => ?_) (fun q => absurd rfl q)
    refine pr_iload (pc := 820) Cx dL_law_820 rfl ?_
    refine pr_if_ne (pc := 822) Cx 837 dL_law_822 (by decide) (fun _ => ?_) (fun q => absurd q (by decide))
    refine pr_goto (pc := 837) Cx 1718 dL_law_837 (by decide) ?_
    refine pr_lo (lo' := lw_lo i) (by simp [pa_lle]) ?_
    exact lw_to hs (kk K N _ T z _ c _ _ (lw_R_235 h) (by omega) (Nat.le_of_eq (sj_ph_us (by decide)).symm) (by omega) (by omega))
  · skip
    obtain ⟨s1, hs1, es1⟩ := sc_nn2 (k := 3) (by decide) h1
    subst es1
    rcases h2 : ms_told (nI T) (nI s1) A2 A3 A4 A5 A6 with _ | _
    · -- badly told
      refine lw_of fun ad hs => ?_
      have Cx : pa_C G (lw_at x (K, S, N, O) ad) cL_law 7 RL 17 mc ms := lw_C C
      refine pr_aload_n (pc := 722) Cx dL_law_722 rfl ?_
      refine pr_arg (pc := 723) Cx X hs (by omega) 1 (by decide) (by omega) rfl rfl dL_law_723 dL_law_724 dL_law_726 dL_law_727 dL_law_728 ?_
      refine pr_eqi (v := (nI s1)) eA1.symm ?_
      refine pr_arg (pc := 729) Cx X hs (by omega) 2 (by decide) (by omega) rfl rfl dL_law_729 dL_law_730 dL_law_732 dL_law_733 dL_law_734 ?_
      refine pr_eqi (v := A2) eA2.symm ?_
      refine pr_arg (pc := 735) Cx X hs (by omega) 3 (by decide) (by omega) rfl rfl dL_law_735 dL_law_736 dL_law_738 dL_law_739 dL_law_740 ?_
      refine pr_eqi (v := A3) eA3.symm ?_
      refine pr_arg (pc := 741) Cx X hs (by omega) 4 (by decide) (by omega) rfl rfl dL_law_741 dL_law_742 dL_law_744 dL_law_745 dL_law_746 ?_
      refine pr_eqi (v := A4) eA4.symm ?_
      refine pr_arg (pc := 747) Cx X hs (by omega) 5 (by decide) (by omega) rfl rfl dL_law_747 dL_law_748 dL_law_750 dL_law_751 dL_law_752 ?_
      refine pr_eqi (v := A5) eA5.symm ?_
      refine pr_arg6 (pc := 753) Cx X hs (by omega) (by omega) rfl rfl dL_law_753 dL_law_754 dL_law_756 dL_law_758 dL_law_759 ?_
      refine pr_eqi (v := A6) eA6.symm ?_
      refine pr_aload_n (pc := 760) Cx dL_law_760 rfl ?_
      refine pr_callL (pc := 761) (As := [pv_o 4 0, pv_i (nI s1), pv_i A2, pv_i A3, pv_i A4, pv_i A5, pv_i A6, pv_o 9 0]) C hs (l_sayX2 (al' := false) G _ K S N O (nI s1) A2 A3 A4 A5 A6 (c_X3_sayX2 G _ K S S N O T 0 z hl9 h.1 hM hJ h.2.2.2.2.2 hzr s1 A2 A3 A4 A5 A6 (by omega) h2)) (fun r h9 hp9 => ⟨_, hp9.1⟩) wl_116 rfl rfl (Nat.le_of_ble_eq_true rfl) (by omega) (by omega) lw_lo_ok dL_law_761 (fun k9 h9 hp9 => ?_)
      obtain ⟨ek, rfl⟩ := hp9
      obtain rfl : k9 = 2 := by cases ek; rfl
      refine lw_of fun ad hs => ?_
      have Cx : pa_C G (lw_at x (K, S, N, O) ad) cL_law 7 RL 17 mc ms := lw_C C
      refine pr_istore (pc := 764) Cx dL_law_764 (by decide) ?_
      refine pr_aload_n (pc := 766) Cx dL_law_766 rfl ?_
      refine pr_arg (pc := 767) Cx X hs (by omega) 1 (by decide) (by omega) rfl rfl dL_law_767 dL_law_768 dL_law_770 dL_law_771 dL_law_772 ?_
      refine pr_eqi (v := (nI s1)) eA1.symm ?_
      refine pr_arg (pc := 773) Cx X hs (by omega) 2 (by decide) (by omega) rfl rfl dL_law_773 dL_law_774 dL_law_776 dL_law_777 dL_law_778 ?_
      refine pr_eqi (v := A2) eA2.symm ?_
      refine pr_arg (pc := 779) Cx X hs (by omega) 3 (by decide) (by omega) rfl rfl dL_law_779 dL_law_780 dL_law_782 dL_law_783 dL_law_784 ?_
      refine pr_eqi (v := A3) eA3.symm ?_
      refine pr_arg (pc := 785) Cx X hs (by omega) 4 (by decide) (by omega) rfl rfl dL_law_785 dL_law_786 dL_law_788 dL_law_789 dL_law_790 ?_
      refine pr_eqi (v := A4) eA4.symm ?_
      refine pr_arg (pc := 791) Cx X hs (by omega) 5 (by decide) (by omega) rfl rfl dL_law_791 dL_law_792 dL_law_794 dL_law_795 dL_law_796 ?_
      refine pr_eqi (v := A5) eA5.symm ?_
      refine pr_arg6 (pc := 797) Cx X hs (by omega) (by omega) rfl rfl dL_law_797 dL_law_798 dL_law_800 dL_law_802 dL_law_803 ?_
      refine pr_eqi (v := A6) eA6.symm ?_
      refine pr_vR (pc := 804) Cx (c_X4_sayN G _ (K, S, N, O) (nI s1) A2 A3 A4 A5 A6 (by simp [h217, h1, h2])) wv_L_118 rfl rfl (Nat.le_of_ble_eq_true rfl) (by decide) (pl_5 _) (Nat.le_of_ble_eq_true rfl) (by omega) (by omega) dL_law_804 ?_
      refine pr_istore (pc := 807) Cx dL_law_807 (by decide) ?_
      refine pr_aload_n (pc := 809) Cx dL_law_809 rfl ?_
      refine pr_vP (pc := 810) Cx (c_X4_thrown G _ _) wv_L_89 rfl rfl (Nat.le_of_ble_eq_true rfl) (by decide) (pl_5 _) (Nat.le_of_ble_eq_true rfl) (by omega) (by omega) dL_law_810 ?_
      refine pr_eqi (v := 2) (by simp [ms_thr, pa_us_self, h217, h1, h2]) ?_
      refine pr_iload (pc := 813) Cx dL_law_813 rfl ?_
      refine pr_icmp_eq (pc := 815) Cx 820 dL_law_815 (by decide) (fun _ => ?_) (fun q => absurd rfl q)
      refine pr_iload (pc := 820) Cx dL_law_820 rfl ?_
      refine pr_if_ne (pc := 822) Cx 837 dL_law_822 (by decide) (fun _ => ?_) (fun q => absurd q (by decide))
      refine pr_goto (pc := 837) Cx 1718 dL_law_837 (by decide) ?_
      refine pr_lo (lo' := lw_lo i) (by simp [pa_lle]) ?_
      exact lw_to hs (kk K N _ T z _ c _ _ (lw_R_235 h) (by omega) (Nat.le_of_eq (sj_ph_us (by decide)).symm) (by omega) (by omega))
    · skip
      obtain ⟨av, hav, eav⟩ := sc_act h2
      subst eav
      rcases h3 : ms_canSay S s1 av A3 A4 A5 with _ | _
      · -- not now
        refine lw_of fun ad hs => ?_
        have Cx : pa_C G (lw_at x (K, S, N, O) ad) cL_law 7 RL 17 mc ms := lw_C C
        refine pr_aload_n (pc := 722) Cx dL_law_722 rfl ?_
        refine pr_arg (pc := 723) Cx X hs (by omega) 1 (by decide) (by omega) rfl rfl dL_law_723 dL_law_724 dL_law_726 dL_law_727 dL_law_728 ?_
        refine pr_eqi (v := (nI s1)) eA1.symm ?_
        refine pr_arg (pc := 729) Cx X hs (by omega) 2 (by decide) (by omega) rfl rfl dL_law_729 dL_law_730 dL_law_732 dL_law_733 dL_law_734 ?_
        refine pr_eqi (v := (nI av)) eA2.symm ?_
        refine pr_arg (pc := 735) Cx X hs (by omega) 3 (by decide) (by omega) rfl rfl dL_law_735 dL_law_736 dL_law_738 dL_law_739 dL_law_740 ?_
        refine pr_eqi (v := A3) eA3.symm ?_
        refine pr_arg (pc := 741) Cx X hs (by omega) 4 (by decide) (by omega) rfl rfl dL_law_741 dL_law_742 dL_law_744 dL_law_745 dL_law_746 ?_
        refine pr_eqi (v := A4) eA4.symm ?_
        refine pr_arg (pc := 747) Cx X hs (by omega) 5 (by decide) (by omega) rfl rfl dL_law_747 dL_law_748 dL_law_750 dL_law_751 dL_law_752 ?_
        refine pr_eqi (v := A5) eA5.symm ?_
        refine pr_arg6 (pc := 753) Cx X hs (by omega) (by omega) rfl rfl dL_law_753 dL_law_754 dL_law_756 dL_law_758 dL_law_759 ?_
        refine pr_eqi (v := A6) eA6.symm ?_
        refine pr_aload_n (pc := 760) Cx dL_law_760 rfl ?_
        refine pr_callL (pc := 761) (As := [pv_o 4 0, pv_i (nI s1), pv_i (nI av), pv_i A3, pv_i A4, pv_i A5, pv_i A6, pv_o 9 0]) C hs (l_sayX3 (al' := false) G _ K S N O (nI s1) (nI av) A3 A4 A5 A6 (c_X3_sayX3 G _ K S S N O T 0 z hl9 h.1 hM hJ h.2.2.2.2.2 hzr h.2.2.2.1 s1 av A3 A4 A5 A6 (by omega) hav h2 h3)) (fun r h9 hp9 => ⟨_, hp9.1⟩) wl_116 rfl rfl (Nat.le_of_ble_eq_true rfl) (by omega) (by omega) lw_lo_ok dL_law_761 (fun k9 h9 hp9 => ?_)
        obtain ⟨ek, rfl⟩ := hp9
        obtain rfl : k9 = 3 := by cases ek; rfl
        refine lw_of fun ad hs => ?_
        have Cx : pa_C G (lw_at x (K, S, N, O) ad) cL_law 7 RL 17 mc ms := lw_C C
        refine pr_istore (pc := 764) Cx dL_law_764 (by decide) ?_
        refine pr_aload_n (pc := 766) Cx dL_law_766 rfl ?_
        refine pr_arg (pc := 767) Cx X hs (by omega) 1 (by decide) (by omega) rfl rfl dL_law_767 dL_law_768 dL_law_770 dL_law_771 dL_law_772 ?_
        refine pr_eqi (v := (nI s1)) eA1.symm ?_
        refine pr_arg (pc := 773) Cx X hs (by omega) 2 (by decide) (by omega) rfl rfl dL_law_773 dL_law_774 dL_law_776 dL_law_777 dL_law_778 ?_
        refine pr_eqi (v := (nI av)) eA2.symm ?_
        refine pr_arg (pc := 779) Cx X hs (by omega) 3 (by decide) (by omega) rfl rfl dL_law_779 dL_law_780 dL_law_782 dL_law_783 dL_law_784 ?_
        refine pr_eqi (v := A3) eA3.symm ?_
        refine pr_arg (pc := 785) Cx X hs (by omega) 4 (by decide) (by omega) rfl rfl dL_law_785 dL_law_786 dL_law_788 dL_law_789 dL_law_790 ?_
        refine pr_eqi (v := A4) eA4.symm ?_
        refine pr_arg (pc := 791) Cx X hs (by omega) 5 (by decide) (by omega) rfl rfl dL_law_791 dL_law_792 dL_law_794 dL_law_795 dL_law_796 ?_
        refine pr_eqi (v := A5) eA5.symm ?_
        refine pr_arg6 (pc := 797) Cx X hs (by omega) (by omega) rfl rfl dL_law_797 dL_law_798 dL_law_800 dL_law_802 dL_law_803 ?_
        refine pr_eqi (v := A6) eA6.symm ?_
        refine pr_vR (pc := 804) Cx (c_X4_sayM G _ (K, S, N, O) (mn (S 231 0)) (ms_aq S) s1 av A3 A4 A5 A6 (by omega) hav (mw_of_told hT (by omega) hav h2) (mw_S_Q hM) (by show ms_told (S 217 0) _ _ _ _ _ _ = true; rw [h217]; exact h2) h3) wv_L_118 rfl rfl (Nat.le_of_ble_eq_true rfl) (by decide) (pl_5 _) (Nat.le_of_ble_eq_true rfl) (by omega) (by omega) dL_law_804 ?_
        refine pr_istore (pc := 807) Cx dL_law_807 (by decide) ?_
        refine pr_aload_n (pc := 809) Cx dL_law_809 rfl ?_
        refine pr_vP (pc := 810) Cx (c_X4_thrown G _ _) wv_L_89 rfl rfl (Nat.le_of_ble_eq_true rfl) (by decide) (pl_5 _) (Nat.le_of_ble_eq_true rfl) (by omega) (by omega) dL_law_810 ?_
        refine pr_eqi (v := 3) (by simp [ms_thr, pa_us_self, h1]) ?_
        refine pr_iload (pc := 813) Cx dL_law_813 rfl ?_
        refine pr_icmp_eq (pc := 815) Cx 820 dL_law_815 (by decide) (fun _ => ?_) (fun q => absurd rfl q)
        refine pr_iload (pc := 820) Cx dL_law_820 rfl ?_
        refine pr_if_ne (pc := 822) Cx 837 dL_law_822 (by decide) (fun _ => ?_) (fun q => absurd q (by decide))
        refine pr_goto (pc := 837) Cx 1718 dL_law_837 (by decide) ?_
        refine pr_lo (lo' := lw_lo i) (by simp [pa_lle]) ?_
        exact lw_to hs (kk K N _ T z _ c _ _ (lw_R_235 h) (by omega) (Nat.le_of_eq (sj_ph_us (by decide)).symm) (by omega) (by omega))
      · skip
        have hT1 := sc_canT h3 hT h217
        have hph : sj_ph S T ≤ sj_ph (ms_say (pa_us S 235 0 0) T s1 av A3 A4 A5 A6) (T + 1) := by
          have e9 : ∀ K9 N9, sj_M K9 N9 (T + 1) (T + 1) (z.1, fun i => if i = s1 then nI T else z.2 i) 0 (ms_say (pa_us S 235 0 0) T s1 av A3 A4 A5 A6) → sj_ph (pa_us S 235 0 0) T ≤ sj_ph (ms_say (pa_us S 235 0 0) T s1 av A3 A4 A5 A6) (T + 1) := fun K9 N9 hs9 => (lw_R_say h0 hT1 (by omega) hav h2 hs9).2
          rw [← eph]
          exact lw_ph_say (hJ.1.2 T (Nat.le_refl T))
        refine lw_of fun ad hs => ?_
        have Cx : pa_C G (lw_at x (K, S, N, O) ad) cL_law 7 RL 17 mc ms := lw_C C
        refine pr_aload_n (pc := 722) Cx dL_law_722 rfl ?_
        refine pr_arg (pc := 723) Cx X hs (by omega) 1 (by decide) (by omega) rfl rfl dL_law_723 dL_law_724 dL_law_726 dL_law_727 dL_law_728 ?_
        refine pr_eqi (v := (nI s1)) eA1.symm ?_
        refine pr_arg (pc := 729) Cx X hs (by omega) 2 (by decide) (by omega) rfl rfl dL_law_729 dL_law_730 dL_law_732 dL_law_733 dL_law_734 ?_
        refine pr_eqi (v := (nI av)) eA2.symm ?_
        refine pr_arg (pc := 735) Cx X hs (by omega) 3 (by decide) (by omega) rfl rfl dL_law_735 dL_law_736 dL_law_738 dL_law_739 dL_law_740 ?_
        refine pr_eqi (v := A3) eA3.symm ?_
        refine pr_arg (pc := 741) Cx X hs (by omega) 4 (by decide) (by omega) rfl rfl dL_law_741 dL_law_742 dL_law_744 dL_law_745 dL_law_746 ?_
        refine pr_eqi (v := A4) eA4.symm ?_
        refine pr_arg (pc := 747) Cx X hs (by omega) 5 (by decide) (by omega) rfl rfl dL_law_747 dL_law_748 dL_law_750 dL_law_751 dL_law_752 ?_
        refine pr_eqi (v := A5) eA5.symm ?_
        refine pr_arg6 (pc := 753) Cx X hs (by omega) (by omega) rfl rfl dL_law_753 dL_law_754 dL_law_756 dL_law_758 dL_law_759 ?_
        refine pr_eqi (v := A6) eA6.symm ?_
        refine pr_aload_n (pc := 760) Cx dL_law_760 rfl ?_
        refine pr_callL (pc := 761) (As := [pv_o 4 0, pv_i (nI s1), pv_i (nI av), pv_i A3, pv_i A4, pv_i A5, pv_i A6, pv_o 9 0]) C hs (l_sayY G _ K S N O (nI s1) (nI av) A3 A4 A5 A6 (P := fun v K' N' => v = nI T ∧ lw_R K' N' (T + 1) (z.1, fun i => if i = s1 then nI T else z.2 i) (ms_say (pa_us S 235 0 0) T s1 av A3 A4 A5 A6) c) (c_X3_sayY G _ K S (pa_us S 235 0 0) N O T 0 z h0.1 h0M h0J h09 hz0 h0.2.2.2.1 s1 av A3 A4 A5 A6 (by omega) hav h2 h0.2.2.1 hT1 (ms_canSay_235.trans h3)) (fun r h9 ⟨e1, K', N', e2, hs9⟩ => ⟨_, K', N', e1, e2, rfl, (lw_R_say h0 hT1 (by omega) hav h2 hs9).1⟩)) (fun r h9 hp9 => ⟨_, hp9.1⟩) wl_116 rfl rfl (Nat.le_of_ble_eq_true rfl) (by omega) (by omega) lw_lo_ok dL_law_761 (fun k9 h9 hp9 => ?_)
        obtain ⟨ek, v9, K', N', rfl, rfl, hR⟩ := hp9
        obtain rfl : k9 = 0 := by cases ek; rfl
        refine lw_of fun ad hs => ?_
        have Cx : pa_C G (lw_at x (K', S, N', (pa_uo O (nI T).toInt64)) ad) cL_law 7 RL 17 mc ms := lw_C C
        refine pr_istore (pc := 764) Cx dL_law_764 (by decide) ?_
        refine pr_aload_n (pc := 766) Cx dL_law_766 rfl ?_
        refine pr_arg (pc := 767) Cx X hs (by omega) 1 (by decide) (by omega) rfl rfl dL_law_767 dL_law_768 dL_law_770 dL_law_771 dL_law_772 ?_
        refine pr_eqi (v := (nI s1)) eA1.symm ?_
        refine pr_arg (pc := 773) Cx X hs (by omega) 2 (by decide) (by omega) rfl rfl dL_law_773 dL_law_774 dL_law_776 dL_law_777 dL_law_778 ?_
        refine pr_eqi (v := (nI av)) eA2.symm ?_
        refine pr_arg (pc := 779) Cx X hs (by omega) 3 (by decide) (by omega) rfl rfl dL_law_779 dL_law_780 dL_law_782 dL_law_783 dL_law_784 ?_
        refine pr_eqi (v := A3) eA3.symm ?_
        refine pr_arg (pc := 785) Cx X hs (by omega) 4 (by decide) (by omega) rfl rfl dL_law_785 dL_law_786 dL_law_788 dL_law_789 dL_law_790 ?_
        refine pr_eqi (v := A4) eA4.symm ?_
        refine pr_arg (pc := 791) Cx X hs (by omega) 5 (by decide) (by omega) rfl rfl dL_law_791 dL_law_792 dL_law_794 dL_law_795 dL_law_796 ?_
        refine pr_eqi (v := A5) eA5.symm ?_
        refine pr_arg6 (pc := 797) Cx X hs (by omega) (by omega) rfl rfl dL_law_797 dL_law_798 dL_law_800 dL_law_802 dL_law_803 ?_
        refine pr_eqi (v := A6) eA6.symm ?_
        refine pr_vR (pc := 804) Cx (c_X4_sayY G _ (K', S, N', (pa_uo O (nI T).toInt64)) T (mn (S 231 0)) (ms_aq S) s1 av A3 A4 A5 A6 (by omega) hav (mw_of_told hT (by omega) hav h2) (mw_S_Q hM)  (by show ms_told (S 217 0) _ _ _ _ _ _ = true; rw [h217]; exact h2) h217 hT1 h3) wv_L_118 rfl rfl (Nat.le_of_ble_eq_true rfl) (by decide) (pl_5 _) (Nat.le_of_ble_eq_true rfl) (by omega) (by omega) dL_law_804 ?_
        refine pr_istore (pc := 807) Cx dL_law_807 (by decide) ?_
        refine pr_aload_n (pc := 809) Cx dL_law_809 rfl ?_
        refine pr_vP (pc := 810) Cx (c_X4_thrown G _ _) wv_L_89 rfl rfl (Nat.le_of_ble_eq_true rfl) (by decide) (pl_5 _) (Nat.le_of_ble_eq_true rfl) (by omega) (by omega) dL_law_810 ?_
        refine pr_eqi (v := 0) (by show (ms_say (pa_us S 235 0 0) T s1 av A3 A4 A5 A6) 235 0 = 0; rw [ms_say_A (by decide) (by decide) (by decide), pa_us_self]) ?_
        refine pr_iload (pc := 813) Cx dL_law_813 rfl ?_
        refine pr_icmp_eq (pc := 815) Cx 820 dL_law_815 (by decide) (fun _ => ?_) (fun q => absurd rfl q)
        refine pr_iload (pc := 820) Cx dL_law_820 rfl ?_
        refine pr_if_ne (pc := 822) Cx 837 dL_law_822 (by decide) (fun q => absurd rfl q) (fun _ => ?_)
        refine pr_aload_n (pc := 825) Cx dL_law_825 rfl ?_
        refine pr_iconst (pc := 826) (v := 0) Cx dL_law_826 (by decide) ?_
        refine pr_lald9 (pc := 827) Cx rfl dL_law_827 ?_
        refine pr_iload (pc := 828) Cx dL_law_828 rfl ?_
        refine pr_i2l (pc := 830) Cx dL_law_830 ?_
        refine pr_lcmp (pc := 831) Cx dL_law_831 ?_
        refine pr_if_eq (pc := 832) Cx 837 dL_law_832 (by decide) (fun _ => ?_) (fun q => absurd (lw_cmp0 _) q)
        refine pr_goto (pc := 837) Cx 1718 dL_law_837 (by decide) ?_
        refine pr_lo (lo' := lw_lo i) (by simp [pa_lle]) ?_
        exact lw_to hs (kk K' N' _ (T + 1) (z.1, fun i => if i = s1 then nI T else z.2 i) (ms_say (pa_us S 235 0 0) T s1 av A3 A4 A5 A6) c _ _ hR (by omega) hph (by omega) (by omega))
set_option maxRecDepth 100000 in
set_option maxHeartbeats 4000000 in
theorem lb_clock {G : pa_G} {x : pa_X} {scr L mc ms i a b : Nat} {xs : Nat → Int32} {K : Nat → Nat → Nat → Int32} {N : Nat → Nat} {T : Nat} {z : sj_Z} {S : Nat → Nat → Int32} {c : Nat} {O : Nat → Int64} (hl9 : x.2.1.stackTraces = false) (C : pa_C G x cL_law 7 RL 17 mc ms) (X : lw_X G x scr L xs) (hL : L ≤ 3584) (hi : i + 7 ≤ L) (h : lw_R K N T z S c) (hc : c + 22 < 30000) (ha : a + 2000 ≤ mc) (hb : b + 900000 ≤ ms)
    (kk : ∀ (K' : Nat → Nat → Nat → Int32) (N' : Nat → Nat) (O' : Nat → Int64) (T' : Nat) (z' : sj_Z) (S' : Nat → Nat → Int32) (c' a' b' : Nat), lw_R K' N' T' z' S' c' → c' ≤ c + 20 → sj_ph S T ≤ sj_ph S' T' → a' ≤ a + 2 * (sj_ph S' T' - sj_ph S T) + 4 → b' ≤ b + 1520 * (sj_ph S' T' - sj_ph S T) + 1600 → lw_w G x scr 7 (K', S', N', O') a' b' 1718 (lw_lo i) []) : lw_w G x scr 7 (K, S, N, O) a b 896 (lw_lo i) [] := by
  have hM := h.2.1.1
  have hJ := h.2.1.2.1
  have hT := hM.1.1
  have h217 : S 217 0 = nI T := hM.1.2.1
  have h0 := lw_R_235 (v := 0) h
  refine lw_of fun ad hs => ?_
  have Cx : pa_C G (lw_at x (K, S, N, O) ad) cL_law 7 RL 17 mc ms := lw_C C
  refine pr_aload_n (pc := 896) Cx dL_law_896 rfl ?_
  refine pr_vP (pc := 897) Cx (c_X3_clock G _ K S S N O T T 0 z h.1) wv_L_123 rfl rfl (Nat.le_of_ble_eq_true rfl) (by decide) (pl_4 _) (Nat.le_of_ble_eq_true rfl) (by omega) (by omega) dL_law_897 ?_
  refine pr_aload_n (pc := 900) Cx dL_law_900 rfl ?_
  refine pr_vR (pc := 901) Cx (c_X4_clock G _ (K, S, N, O)) wv_L_126 rfl rfl (Nat.le_of_ble_eq_true rfl) (by decide) (pl_5 _) (Nat.le_of_ble_eq_true rfl) (by omega) (by omega) dL_law_901 ?_
  refine pr_icmp_eq (pc := 904) Cx 1718 dL_law_904 (by decide) (fun _ => ?_) (fun q => absurd rfl q)
  exact lw_to hs (kk K N _ T z _ c _ _ h0 (by omega) (Nat.le_of_eq (sj_ph_us (by decide)).symm) (by omega) (by omega))
set_option maxRecDepth 100000 in
set_option maxHeartbeats 4000000 in
theorem lb_next {G : pa_G} {x : pa_X} {scr L mc ms i a b : Nat} {xs : Nat → Int32} {K : Nat → Nat → Nat → Int32} {N : Nat → Nat} {T : Nat} {z : sj_Z} {S : Nat → Nat → Int32} {c : Nat} {O : Nat → Int64} (hl9 : x.2.1.stackTraces = false) (C : pa_C G x cL_law 7 RL 17 mc ms) (X : lw_X G x scr L xs) (hL : L ≤ 3584) (hi : i + 7 ≤ L) (h : lw_R K N T z S c) (hc : c + 22 < 30000) (ha : a + 2000 ≤ mc) (hb : b + 900000 ≤ ms)
    (kk : ∀ (K' : Nat → Nat → Nat → Int32) (N' : Nat → Nat) (O' : Nat → Int64) (T' : Nat) (z' : sj_Z) (S' : Nat → Nat → Int32) (c' a' b' : Nat), lw_R K' N' T' z' S' c' → c' ≤ c + 20 → sj_ph S T ≤ sj_ph S' T' → a' ≤ a + 2 * (sj_ph S' T' - sj_ph S T) + 4 → b' ≤ b + 1520 * (sj_ph S' T' - sj_ph S T) + 1600 → lw_w G x scr 7 (K', S', N', O') a' b' 1718 (lw_lo i) []) : lw_w G x scr 7 (K, S, N, O) a b 909 (lw_lo i) [] := by
  have hM := h.2.1.1
  have hJ := h.2.1.2.1
  have hT := hM.1.1
  have h217 : S 217 0 = nI T := hM.1.2.1
  have h0 := lw_R_235 (v := 0) h
  refine lw_of fun ad hs => ?_
  have Cx : pa_C G (lw_at x (K, S, N, O) ad) cL_law 7 RL 17 mc ms := lw_C C
  refine pr_aload_n (pc := 909) Cx dL_law_909 rfl ?_
  refine pr_vP (pc := 910) Cx (c_X3_next G _ K S S N O T T 0 z h.1) wv_L_127 rfl rfl (Nat.le_of_ble_eq_true rfl) (by decide) (pl_4 _) (Nat.le_of_ble_eq_true rfl) (by omega) (by omega) dL_law_910 ?_
  refine pr_aload_n (pc := 913) Cx dL_law_913 rfl ?_
  refine pr_vR (pc := 914) Cx (c_X4_next G _ (K, S, N, O)) wv_L_130 rfl rfl (Nat.le_of_ble_eq_true rfl) (by decide) (pl_5 _) (Nat.le_of_ble_eq_true rfl) (by omega) (by omega) dL_law_914 ?_
  refine pr_icmp_eq (pc := 917) Cx 1718 dL_law_917 (by decide) (fun _ => ?_) (fun q => absurd (show (if S 200 0 ≤ S 216 0 then S 215 0 else -1) = ms_holder S by unfold ms_holder; first | rfl | (by_cases q : S 200 0 ≤ S 216 0 <;> simp [q, pz_lt])) q)
  exact lw_to hs (kk K N _ T z _ c _ _ h0 (by omega) (Nat.le_of_eq (sj_ph_us (by decide)).symm) (by omega) (by omega))
set_option maxRecDepth 100000 in
set_option maxHeartbeats 4000000 in
theorem lb_said {G : pa_G} {x : pa_X} {scr L mc ms i a b : Nat} {xs : Nat → Int32} {K : Nat → Nat → Nat → Int32} {N : Nat → Nat} {T : Nat} {z : sj_Z} {S : Nat → Nat → Int32} {c : Nat} {O : Nat → Int64} (hl9 : x.2.1.stackTraces = false) (C : pa_C G x cL_law 7 RL 17 mc ms) (X : lw_X G x scr L xs) (hL : L ≤ 3584) (hi : i + 7 ≤ L) (h : lw_R K N T z S c) (hc : c + 22 < 30000) (ha : a + 2000 ≤ mc) (hb : b + 900000 ≤ ms)
    (kk : ∀ (K' : Nat → Nat → Nat → Int32) (N' : Nat → Nat) (O' : Nat → Int64) (T' : Nat) (z' : sj_Z) (S' : Nat → Nat → Int32) (c' a' b' : Nat), lw_R K' N' T' z' S' c' → c' ≤ c + 20 → sj_ph S T ≤ sj_ph S' T' → a' ≤ a + 2 * (sj_ph S' T' - sj_ph S T) + 4 → b' ≤ b + 1520 * (sj_ph S' T' - sj_ph S T) + 1600 → lw_w G x scr 7 (K', S', N', O') a' b' 1718 (lw_lo i) []) : lw_w G x scr 7 (K, S, N, O) a b 922 (lw_lo i) [] := by
  have hM := h.2.1.1
  have hJ := h.2.1.2.1
  have hT := hM.1.1
  have h217 : S 217 0 = nI T := hM.1.2.1
  have h0 := lw_R_235 (v := 0) h
  refine lw_of fun ad hs => ?_
  have Cx : pa_C G (lw_at x (K, S, N, O) ad) cL_law 7 RL 17 mc ms := lw_C C
  refine pr_aload_n (pc := 922) Cx dL_law_922 rfl ?_
  refine pr_vP (pc := 923) Cx (c_X3_said G _ K S S N O T T 0 z h.1) wv_L_131 rfl rfl (Nat.le_of_ble_eq_true rfl) (by decide) (pl_4 _) (Nat.le_of_ble_eq_true rfl) (by omega) (by omega) dL_law_923 ?_
  refine pr_aload_n (pc := 926) Cx dL_law_926 rfl ?_
  refine pr_vR (pc := 927) Cx (c_X4_said G _ (K, S, N, O)) wv_L_134 rfl rfl (Nat.le_of_ble_eq_true rfl) (by decide) (pl_5 _) (Nat.le_of_ble_eq_true rfl) (by omega) (by omega) dL_law_927 ?_
  refine pr_icmp_eq (pc := 930) Cx 1718 dL_law_930 (by decide) (fun _ => ?_) (fun q => absurd h217.symm q)
  exact lw_to hs (kk K N _ T z _ c _ _ h0 (by omega) (Nat.le_of_eq (sj_ph_us (by decide)).symm) (by omega) (by omega))
set_option maxRecDepth 100000 in
set_option maxHeartbeats 4000000 in
theorem lb_questions {G : pa_G} {x : pa_X} {scr L mc ms i a b : Nat} {xs : Nat → Int32} {K : Nat → Nat → Nat → Int32} {N : Nat → Nat} {T : Nat} {z : sj_Z} {S : Nat → Nat → Int32} {c : Nat} {O : Nat → Int64} (hl9 : x.2.1.stackTraces = false) (C : pa_C G x cL_law 7 RL 17 mc ms) (X : lw_X G x scr L xs) (hL : L ≤ 3584) (hi : i + 7 ≤ L) (h : lw_R K N T z S c) (hc : c + 22 < 30000) (ha : a + 2000 ≤ mc) (hb : b + 900000 ≤ ms)
    (kk : ∀ (K' : Nat → Nat → Nat → Int32) (N' : Nat → Nat) (O' : Nat → Int64) (T' : Nat) (z' : sj_Z) (S' : Nat → Nat → Int32) (c' a' b' : Nat), lw_R K' N' T' z' S' c' → c' ≤ c + 20 → sj_ph S T ≤ sj_ph S' T' → a' ≤ a + 2 * (sj_ph S' T' - sj_ph S T) + 4 → b' ≤ b + 1520 * (sj_ph S' T' - sj_ph S T) + 1600 → lw_w G x scr 7 (K', S', N', O') a' b' 1718 (lw_lo i) []) : lw_w G x scr 7 (K, S, N, O) a b 1542 (lw_lo i) [] := by
  have hM := h.2.1.1
  have hJ := h.2.1.2.1
  have hT := hM.1.1
  have h217 : S 217 0 = nI T := hM.1.2.1
  have h0 := lw_R_235 (v := 0) h
  refine lw_of fun ad hs => ?_
  have Cx : pa_C G (lw_at x (K, S, N, O) ad) cL_law 7 RL 17 mc ms := lw_C C
  refine pr_aload_n (pc := 1542) Cx dL_law_1542 rfl ?_
  refine pr_vP (pc := 1543) Cx (c_X3_questions G _ K S S N O T T 0 z h.1) wv_L_162 rfl rfl (Nat.le_of_ble_eq_true rfl) (by decide) (pl_4 _) (Nat.le_of_ble_eq_true rfl) (by omega) (by omega) dL_law_1543 ?_
  refine pr_aload_n (pc := 1546) Cx dL_law_1546 rfl ?_
  refine pr_vR (pc := 1547) Cx (c_X4_questions G _ (K, S, N, O)) wv_L_165 rfl rfl (Nat.le_of_ble_eq_true rfl) (by decide) (pl_5 _) (Nat.le_of_ble_eq_true rfl) (by omega) (by omega) dL_law_1547 ?_
  refine pr_icmp_eq (pc := 1550) Cx 1718 dL_law_1550 (by decide) (fun _ => ?_) (fun q => absurd rfl q)
  exact lw_to hs (kk K N _ T z _ c _ _ h0 (by omega) (Nat.le_of_eq (sj_ph_us (by decide)).symm) (by omega) (by omega))
set_option maxRecDepth 100000 in
set_option maxHeartbeats 4000000 in
theorem lb_quarrels {G : pa_G} {x : pa_X} {scr L mc ms i a b : Nat} {xs : Nat → Int32} {K : Nat → Nat → Nat → Int32} {N : Nat → Nat} {T : Nat} {z : sj_Z} {S : Nat → Nat → Int32} {c : Nat} {O : Nat → Int64} (hl9 : x.2.1.stackTraces = false) (C : pa_C G x cL_law 7 RL 17 mc ms) (X : lw_X G x scr L xs) (hL : L ≤ 3584) (hi : i + 7 ≤ L) (h : lw_R K N T z S c) (hc : c + 22 < 30000) (ha : a + 2000 ≤ mc) (hb : b + 900000 ≤ ms)
    (kk : ∀ (K' : Nat → Nat → Nat → Int32) (N' : Nat → Nat) (O' : Nat → Int64) (T' : Nat) (z' : sj_Z) (S' : Nat → Nat → Int32) (c' a' b' : Nat), lw_R K' N' T' z' S' c' → c' ≤ c + 20 → sj_ph S T ≤ sj_ph S' T' → a' ≤ a + 2 * (sj_ph S' T' - sj_ph S T) + 4 → b' ≤ b + 1520 * (sj_ph S' T' - sj_ph S T) + 1600 → lw_w G x scr 7 (K', S', N', O') a' b' 1718 (lw_lo i) []) : lw_w G x scr 7 (K, S, N, O) a b 1623 (lw_lo i) [] := by
  have hM := h.2.1.1
  have hJ := h.2.1.2.1
  have hT := hM.1.1
  have h217 : S 217 0 = nI T := hM.1.2.1
  have h0 := lw_R_235 (v := 0) h
  refine lw_of fun ad hs => ?_
  have Cx : pa_C G (lw_at x (K, S, N, O) ad) cL_law 7 RL 17 mc ms := lw_C C
  refine pr_aload_n (pc := 1623) Cx dL_law_1623 rfl ?_
  refine pr_vP (pc := 1624) Cx (c_X3_quarrels G _ K S S N O T T 0 z h.1) wv_L_169 rfl rfl (Nat.le_of_ble_eq_true rfl) (by decide) (pl_4 _) (Nat.le_of_ble_eq_true rfl) (by omega) (by omega) dL_law_1624 ?_
  refine pr_aload_n (pc := 1627) Cx dL_law_1627 rfl ?_
  refine pr_vR (pc := 1628) Cx (c_X4_quarrels G _ (K, S, N, O)) wv_L_172 rfl rfl (Nat.le_of_ble_eq_true rfl) (by decide) (pl_5 _) (Nat.le_of_ble_eq_true rfl) (by omega) (by omega) dL_law_1628 ?_
  refine pr_icmp_eq (pc := 1631) Cx 1718 dL_law_1631 (by decide) (fun _ => ?_) (fun q => absurd rfl q)
  exact lw_to hs (kk K N _ T z _ c _ _ h0 (by omega) (Nat.le_of_eq (sj_ph_us (by decide)).symm) (by omega) (by omega))
set_option maxRecDepth 100000 in
set_option maxHeartbeats 4000000 in
theorem lb_deals {G : pa_G} {x : pa_X} {scr L mc ms i a b : Nat} {xs : Nat → Int32} {K : Nat → Nat → Nat → Int32} {N : Nat → Nat} {T : Nat} {z : sj_Z} {S : Nat → Nat → Int32} {c : Nat} {O : Nat → Int64} (hl9 : x.2.1.stackTraces = false) (C : pa_C G x cL_law 7 RL 17 mc ms) (X : lw_X G x scr L xs) (hL : L ≤ 3584) (hi : i + 7 ≤ L) (h : lw_R K N T z S c) (hc : c + 22 < 30000) (ha : a + 2000 ≤ mc) (hb : b + 900000 ≤ ms)
    (kk : ∀ (K' : Nat → Nat → Nat → Int32) (N' : Nat → Nat) (O' : Nat → Int64) (T' : Nat) (z' : sj_Z) (S' : Nat → Nat → Int32) (c' a' b' : Nat), lw_R K' N' T' z' S' c' → c' ≤ c + 20 → sj_ph S T ≤ sj_ph S' T' → a' ≤ a + 2 * (sj_ph S' T' - sj_ph S T) + 4 → b' ≤ b + 1520 * (sj_ph S' T' - sj_ph S T) + 1600 → lw_w G x scr 7 (K', S', N', O') a' b' 1718 (lw_lo i) []) : lw_w G x scr 7 (K, S, N, O) a b 1692 (lw_lo i) [] := by
  have hM := h.2.1.1
  have hJ := h.2.1.2.1
  have hT := hM.1.1
  have h217 : S 217 0 = nI T := hM.1.2.1
  have h0 := lw_R_235 (v := 0) h
  refine lw_of fun ad hs => ?_
  have Cx : pa_C G (lw_at x (K, S, N, O) ad) cL_law 7 RL 17 mc ms := lw_C C
  refine pr_aload_n (pc := 1692) Cx dL_law_1692 rfl ?_
  refine pr_vP (pc := 1693) Cx (c_X3_deals G _ K S S N O T T 0 z h.1) wv_L_176 rfl rfl (Nat.le_of_ble_eq_true rfl) (by decide) (pl_4 _) (Nat.le_of_ble_eq_true rfl) (by omega) (by omega) dL_law_1693 ?_
  refine pr_aload_n (pc := 1696) Cx dL_law_1696 rfl ?_
  refine pr_vR (pc := 1697) Cx (c_X4_deals G _ (K, S, N, O)) wv_L_179 rfl rfl (Nat.le_of_ble_eq_true rfl) (by decide) (pl_5 _) (Nat.le_of_ble_eq_true rfl) (by omega) (by omega) dL_law_1697 ?_
  refine pr_icmp_eq (pc := 1700) Cx 1718 dL_law_1700 (by decide) (fun _ => ?_) (fun q => absurd rfl q)
  exact lw_to hs (kk K N _ T z _ c _ _ h0 (by omega) (Nat.le_of_eq (sj_ph_us (by decide)).symm) (by omega) (by omega))
set_option maxRecDepth 100000 in
set_option maxHeartbeats 4000000 in
theorem lb_minutes {G : pa_G} {x : pa_X} {scr L mc ms i a b : Nat} {xs : Nat → Int32} {K : Nat → Nat → Nat → Int32} {N : Nat → Nat} {T : Nat} {z : sj_Z} {S : Nat → Nat → Int32} {c : Nat} {O : Nat → Int64} (hl9 : x.2.1.stackTraces = false) (C : pa_C G x cL_law 7 RL 17 mc ms) (X : lw_X G x scr L xs) (hL : L ≤ 3584) (hi : i + 7 ≤ L) (h : lw_R K N T z S c) (hc : c + 22 < 30000) (ha : a + 2000 ≤ mc) (hb : b + 900000 ≤ ms)
    (kk : ∀ (K' : Nat → Nat → Nat → Int32) (N' : Nat → Nat) (O' : Nat → Int64) (T' : Nat) (z' : sj_Z) (S' : Nat → Nat → Int32) (c' a' b' : Nat), lw_R K' N' T' z' S' c' → c' ≤ c + 20 → sj_ph S T ≤ sj_ph S' T' → a' ≤ a + 2 * (sj_ph S' T' - sj_ph S T) + 4 → b' ≤ b + 1520 * (sj_ph S' T' - sj_ph S T) + 1600 → lw_w G x scr 7 (K', S', N', O') a' b' 1718 (lw_lo i) []) : lw_w G x scr 7 (K, S, N, O) a b 1705 (lw_lo i) [] := by
  have hM := h.2.1.1
  have hJ := h.2.1.2.1
  have hT := hM.1.1
  have h217 : S 217 0 = nI T := hM.1.2.1
  have h0 := lw_R_235 (v := 0) h
  refine lw_of fun ad hs => ?_
  have Cx : pa_C G (lw_at x (K, S, N, O) ad) cL_law 7 RL 17 mc ms := lw_C C
  refine pr_aload_n (pc := 1705) Cx dL_law_1705 rfl ?_
  refine pr_vP (pc := 1706) Cx (c_X3_minutesY G _ K S S N O T T 0 z h.1 hM hJ h.2.2.1) wv_L_180 rfl rfl (Nat.le_of_ble_eq_true rfl) (by decide) (pl_4 _) (Nat.le_of_ble_eq_true rfl) (by omega) (by omega) dL_law_1706 ?_
  refine pr_aload_n (pc := 1709) Cx dL_law_1709 rfl ?_
  refine pr_vR (pc := 1710) Cx (c_X4_minutes G _ (K, S, N, O) T h217 hT) wv_L_183 rfl rfl (Nat.le_of_ble_eq_true rfl) (by decide) (pl_5 _) (Nat.le_of_ble_eq_true rfl) (by omega) (by omega) dL_law_1710 ?_
  refine pr_icmp_eq (pc := 1713) Cx 1718 dL_law_1713 (by decide) (fun _ => ?_) (fun q => absurd rfl q)
  exact lw_to hs (kk K N _ T z _ c _ _ h0 (by omega) (Nat.le_of_eq (sj_ph_us (by decide)).symm) (by omega) (by omega))
set_option maxRecDepth 100000 in
set_option maxHeartbeats 4000000 in
theorem lb_strict {G : pa_G} {x : pa_X} {scr L mc ms i a b : Nat} {xs : Nat → Int32} {K : Nat → Nat → Nat → Int32} {N : Nat → Nat} {T : Nat} {z : sj_Z} {S : Nat → Nat → Int32} {c : Nat} {O : Nat → Int64} (hl9 : x.2.1.stackTraces = false) (C : pa_C G x cL_law 7 RL 17 mc ms) (X : lw_X G x scr L xs) (hL : L ≤ 3584) (hi : i + 7 ≤ L) (h : lw_R K N T z S c) (hc : c + 22 < 30000) (ha : a + 2000 ≤ mc) (hb : b + 900000 ≤ ms)
    (kk : ∀ (K' : Nat → Nat → Nat → Int32) (N' : Nat → Nat) (O' : Nat → Int64) (T' : Nat) (z' : sj_Z) (S' : Nat → Nat → Int32) (c' a' b' : Nat), lw_R K' N' T' z' S' c' → c' ≤ c + 20 → sj_ph S T ≤ sj_ph S' T' → a' ≤ a + 2 * (sj_ph S' T' - sj_ph S T) + 4 → b' ≤ b + 1520 * (sj_ph S' T' - sj_ph S T) + 1600 → lw_w G x scr 7 (K', S', N', O') a' b' 1718 (lw_lo i) []) : lw_w G x scr 7 (K, S, N, O) a b 556 (lw_lo i) [] := by
  have hM := h.2.1.1
  have hJ := h.2.1.2.1
  have hT := hM.1.1
  have h217 : S 217 0 = nI T := hM.1.2.1
  have h0 := lw_R_235 (v := 0) h
  obtain ⟨A1, eA1⟩ : ∃ v, v = xs (i + 1) := ⟨_, rfl⟩
  by_cases hz1 : A1 = 0
  · skip
    refine lw_of fun ad hs => ?_
    have Cx : pa_C G (lw_at x (K, S, N, O) ad) cL_law 7 RL 17 mc ms := lw_C C
    refine pr_aload_n (pc := 556) Cx dL_law_556 rfl ?_
    refine pr_arg (pc := 557) Cx X hs (by omega) 1 (by decide) (by omega) rfl rfl dL_law_557 dL_law_558 dL_law_560 dL_law_561 dL_law_562 ?_
    refine pr_if_eq (pc := 563) Cx 570 dL_law_563 (by decide) (fun _ => ?_) (fun cc => absurd (eA1.symm.trans hz1) cc)
    refine pr_iconst (pc := 570) (v := 0) Cx dL_law_570 (by decide) ?_
    refine pr_vC1 (pc := 571) (rest := []) Cx (c_X3_strictY G _ K S (pa_us S 235 0 0) N O T T 0 z h0.1 0 (by decide) h0.2.2.2.2.1) wv_L_107 rfl rfl (Nat.le_of_ble_eq_true rfl) (by decide) (pl_4 _) (by decide) (by omega) (by omega) (fun _ => rfl) (fun q => by cases q) dL_law_571 ?_
    intro K' N' hs9
    have hR := lw_R_201 h0 hs9 (by decide)
    refine pr_aload_n (pc := 574) Cx dL_law_574 rfl ?_
    refine pr_arg (pc := 575) Cx X hs (by omega) 1 (by decide) (by omega) rfl rfl dL_law_575 dL_law_576 dL_law_578 dL_law_579 dL_law_580 ?_
    refine pr_if_eq (pc := 581) Cx 588 dL_law_581 (by decide) (fun _ => ?_) (fun cc => absurd (eA1.symm.trans hz1) cc)
    refine pr_iconst (pc := 588) (v := 0) Cx dL_law_588 (by decide) ?_
    refine pr_vR (pc := 589) Cx (c_X4_strict G _ (K', S, N', O) 0 (by decide) h.2.2.2.2.1) wv_L_111 rfl rfl (Nat.le_of_ble_eq_true rfl) (by decide) (pl_5 _) (Nat.le_of_ble_eq_true rfl) (by omega) (by omega) dL_law_589 ?_
    refine pr_icmp_eq (pc := 592) Cx 1718 dL_law_592 (by decide) (fun _ => ?_) (fun q => absurd (pa_us_ne (by decide)) q)
    exact lw_to hs (kk K' N' _ T z _ c _ _ hR (by omega) (Nat.le_of_eq ((sj_ph_us (by decide)).trans (sj_ph_us (by decide))).symm) (by omega) (by omega))
  · skip
    refine lw_of fun ad hs => ?_
    have Cx : pa_C G (lw_at x (K, S, N, O) ad) cL_law 7 RL 17 mc ms := lw_C C
    refine pr_aload_n (pc := 556) Cx dL_law_556 rfl ?_
    refine pr_arg (pc := 557) Cx X hs (by omega) 1 (by decide) (by omega) rfl rfl dL_law_557 dL_law_558 dL_law_560 dL_law_561 dL_law_562 ?_
    refine pr_if_eq (pc := 563) Cx 570 dL_law_563 (by decide) (fun cc => absurd (eA1.trans cc) hz1) (fun _ => ?_)
    refine pr_iconst (pc := 566) (v := 1) Cx dL_law_566 (by decide) ?_
    refine pr_goto (pc := 567) Cx 571 dL_law_567 (by decide) ?_
    refine pr_vC1 (pc := 571) (rest := []) Cx (c_X3_strictY G _ K S (pa_us S 235 0 0) N O T T 0 z h0.1 1 (by decide) h0.2.2.2.2.1) wv_L_107 rfl rfl (Nat.le_of_ble_eq_true rfl) (by decide) (pl_4 _) (by decide) (by omega) (by omega) (fun _ => rfl) (fun q => by cases q) dL_law_571 ?_
    intro K' N' hs9
    have hR := lw_R_201 h0 hs9 (by decide)
    refine pr_aload_n (pc := 574) Cx dL_law_574 rfl ?_
    refine pr_arg (pc := 575) Cx X hs (by omega) 1 (by decide) (by omega) rfl rfl dL_law_575 dL_law_576 dL_law_578 dL_law_579 dL_law_580 ?_
    refine pr_if_eq (pc := 581) Cx 588 dL_law_581 (by decide) (fun cc => absurd (eA1.trans cc) hz1) (fun _ => ?_)
    refine pr_iconst (pc := 584) (v := 1) Cx dL_law_584 (by decide) ?_
    refine pr_goto (pc := 585) Cx 589 dL_law_585 (by decide) ?_
    refine pr_vR (pc := 589) Cx (c_X4_strict G _ (K', S, N', O) 1 (by decide) h.2.2.2.2.1) wv_L_111 rfl rfl (Nat.le_of_ble_eq_true rfl) (by decide) (pl_5 _) (Nat.le_of_ble_eq_true rfl) (by omega) (by omega) dL_law_589 ?_
    refine pr_icmp_eq (pc := 592) Cx 1718 dL_law_592 (by decide) (fun _ => ?_) (fun q => absurd (pa_us_ne (by decide)) q)
    exact lw_to hs (kk K' N' _ T z _ c _ _ hR (by omega) (Nat.le_of_eq ((sj_ph_us (by decide)).trans (sj_ph_us (by decide))).symm) (by omega) (by omega))
