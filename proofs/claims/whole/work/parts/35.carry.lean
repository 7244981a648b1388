/-! THE CLASS: a turn is carried out: it fails, it is doubted -/
set_option maxRecDepth 100000 in
set_option maxHeartbeats 4000000 in
theorem c_X3_carryOutF (G : pa_G) (l : Launch) (K : Nat → Nat → Nat → Int32) (Sm S : Nat → Nat → Int32) (N : Nat → Nat) (O : Nat → Int64) (T D e : Nat) (z : sj_Z) (hs : sj_M K N T D z e S) (t w a : Nat) (hM : mw_S S T) (hJ : mj S T) (ht : t < T) (hc : sc_t S T t w a) (hF : (ms_poss S w a (S 220 t) (S 221 t) (S 222 t) && ms_perm S w a (S 220 t)) = false) : pa_M G l mX3_carryOut 13 true [pv_o 4 0, pv_o 3 t] (K, Sm, N, O) 4 3040 (sj_post none Sm O T D z e (pa_us S 224 t 4)) := by
  refine pa_go l (by decide) (by simp [pa_c1l, pa_c1]) (fun _ => rfl) fun x C E el ea => ?_
  subst el
  have hT := hM.1.1
  have hTD := sj_TD hs
  have hw1 := hc.1
  have hw4 := hc.2.1
  have ha := hc.2.2.1
  have ha16 := hc.2.2.2.1
  show pa_w G x 2 (K, Sm, N, O) 0 0 0 [some (pv_o 4 0), some (pv_o 3 t)] []
  refine pr_aload_n (pc := 0) C dX3_carryOut_0 rfl ?_
  refine pr_aload_n (pc := 1) C dX3_carryOut_1 rfl ?_
  refine pr_vP (pc := 2) C (c_X3_isPossible G _ K Sm S N O T D e z hs t w a hM hJ (by omega) hc) wv_X3_277 rfl rfl (by decide) (by decide) (pl_4 _) (Nat.le_of_ble_eq_true rfl) (by omega) (by omega) dX3_carryOut_2 ?_
  refine pr_ifb_eq (pc := 5) C 16 dX3_carryOut_5 (by decide) (fun c_5 => ?_) (fun c_5 => ?_)
  · refine pr_aload_n (pc := 16) C dX3_carryOut_16 rfl ?_
    refine pr_iconst (pc := 17) (v := 4) C dX3_carryOut_17 (by decide) ?_
    refine pr_puti (pc := 18) C 128 wp_X3_176 rfl (by decide) rfl (by decide) (pl_3 (sj_n0 hs (by first | assumption | omega))) dX3_carryOut_18 ?_
    refine pr_sim (sj_w128 hs (by decide)) ?_
    intro K N hs
    exact pr_vret (pc := 21) C E (by omega) (by omega) ⟨rfl, K, N, rfl, hs⟩ dX3_carryOut_21
  · refine pr_aload_n (pc := 8) C dX3_carryOut_8 rfl ?_
    refine pr_aload_n (pc := 9) C dX3_carryOut_9 rfl ?_
    refine pr_vP (pc := 10) C (c_X3_isPermitted G _ K Sm S N O T D e z hs t w a hM hJ (by omega) hc) wv_X3_280 rfl rfl (by decide) (by decide) (pl_4 _) (Nat.le_of_ble_eq_true rfl) (by omega) (by omega) dX3_carryOut_10 ?_
    refine pr_ifb_ne (pc := 13) C 22 dX3_carryOut_13 (by decide) (fun c_13 => ?_) (fun c_13 => ?_)
    · exact absurd hF (by rw [c_5, c_13]; decide)
    · refine pr_aload_n (pc := 16) C dX3_carryOut_16 rfl ?_
      refine pr_iconst (pc := 17) (v := 4) C dX3_carryOut_17 (by decide) ?_
      refine pr_puti (pc := 18) C 128 wp_X3_176 rfl (by decide) rfl (by decide) (pl_3 (sj_n0 hs (by first | assumption | omega))) dX3_carryOut_18 ?_
      refine pr_sim (sj_w128 hs (by decide)) ?_
      intro K N hs
      exact pr_vret (pc := 21) C E (by omega) (by omega) ⟨rfl, K, N, rfl, hs⟩ dX3_carryOut_21

set_option maxRecDepth 100000 in
set_option maxHeartbeats 4000000 in
theorem c_X3_carryOutD (G : pa_G) (l : Launch) (K : Nat → Nat → Nat → Int32) (Sm S : Nat → Nat → Int32) (N : Nat → Nat) (O : Nat → Int64) (T D e : Nat) (z : sj_Z) (hs : sj_M K N T D z e S) (t w a g : Nat) (hM : mw_S S T) (hJ : mj S T) (ht : t < T) (hc : sc_t S T t w a) (hP : (ms_poss S w a (S 220 t) (S 221 t) (S 222 t) && ms_perm S w a (S 220 t)) = true) (h225 : S 225 t = -1) (hclk : S 200 0 ≠ -1) (hJv : mj_v S) (htk : sc_tk (ms_pre S t a) t = ms_tkb S t a) (hg : ms_pre S t a 223 t = nI g) (hg10 : g < 10) (hD : (ms_tkb S t a && ms_chal (ms_pre S t a) t g) = true) : pa_M G l mX3_carryOut 13 true [pv_o 4 0, pv_o 3 t] (K, Sm, N, O) 4 3040 (sj_post none Sm O T D z (e + 3) (pa_us (ms_pre S t a) 224 t 3)) := by
  refine pa_go l (by decide) (by simp [pa_c1l, pa_c1]) (fun _ => rfl) fun x C E el ea => ?_
  subst el
  have hT := hM.1.1
  have hTD := sj_TD hs
  have hw1 := hc.1
  have hw4 := hc.2.1
  have ha := hc.2.2.1
  have ha16 := hc.2.2.2.1
  show pa_w G x 2 (K, Sm, N, O) 0 0 0 [some (pv_o 4 0), some (pv_o 3 t)] []
  refine pr_aload_n (pc := 0) C dX3_carryOut_0 rfl ?_
  refine pr_aload_n (pc := 1) C dX3_carryOut_1 rfl ?_
  refine pr_vP (pc := 2) C (c_X3_isPossible G _ K Sm S N O T D e z hs t w a hM hJ (by omega) hc) wv_X3_277 rfl rfl (by decide) (by decide) (pl_4 _) (Nat.le_of_ble_eq_true rfl) (by omega) (by omega) dX3_carryOut_2 ?_
  refine pr_ifb_eq (pc := 5) C 16 dX3_carryOut_5 (by decide) (fun c_5 => ?_) (fun c_5 => ?_)
  · exact absurd hP (by rw [c_5]; simp)
  · refine pr_aload_n (pc := 8) C dX3_carryOut_8 rfl ?_
    refine pr_aload_n (pc := 9) C dX3_carryOut_9 rfl ?_
    refine pr_vP (pc := 10) C (c_X3_isPermitted G _ K Sm S N O T D e z hs t w a hM hJ (by omega) hc) wv_X3_280 rfl rfl (by decide) (by decide) (pl_4 _) (Nat.le_of_ble_eq_true rfl) (by omega) (by omega) dX3_carryOut_10 ?_
    refine pr_ifb_ne (pc := 13) C 22 dX3_carryOut_13 (by decide) (fun c_13 => ?_) (fun c_13 => ?_)
    · refine pr_aload_n (pc := 22) C dX3_carryOut_22 rfl ?_
      refine pr_aload_n (pc := 23) C dX3_carryOut_23 rfl ?_
      refine pr_geti (pc := 24) C 166 wf_X3_76 rfl (by decide) (pl_4 _) dX3_carryOut_24 ?_
      refine pr_eqi (v := S 200 0) (sj_r166 hs) ?_
      refine pr_puti (pc := 27) C 129 wp_X3_179 rfl (by decide) rfl (by decide) (pl_3 (sj_n0 hs (by first | assumption | omega))) dX3_carryOut_27 ?_
      refine pr_sim (sj_w129 hs ht h225 hclk) ?_
      intro K N hs
      refine pr_aload_n (pc := 30) C dX3_carryOut_30 rfl ?_
      refine pr_aload_n (pc := 31) C dX3_carryOut_31 rfl ?_
      refine pr_vC0 (pc := 32) (rest := []) C (c_X3_deliver G _ K Sm (pa_us S 225 t (S 200 0)) N O T D (e + 3) z hs t (fun p => hJv p) (by first | assumption | omega)) wv_X3_309 rfl rfl (by decide) (by decide) (pl_4 _) (by decide) (by omega) (by omega) (fun _ => rfl) (fun z => by cases z) dX3_carryOut_32 ?_
      intro K N hs
      refine pr_aload_n (pc := 35) C dX3_carryOut_35 rfl ?_
      refine pr_geti (pc := 36) C 121 wf_X3_161 rfl (by decide) (pl_3 (sj_n0 hs (by first | assumption | omega))) dX3_carryOut_36 ?_
      refine pr_eqi (v := S 219 t) ((sj_r121 hs (by first | assumption | omega)).trans (by simp only [pa_us_ne, pa_us_self, ms_says_ne, ms_com_ne, ms_dlv_ne, ms_right_ne, ne_eq, Nat.reduceEqDiff, not_false_eq_true, reduceCtorEq])) ?_
      refine pr_eqi ha ?_
      refine pr_iconst (pc := 39) (v := 4) C dX3_carryOut_39 (by decide) ?_
      have j48_1 : ∀ (K : Nat → Nat → Nat → Int32) (N : Nat → Nat), sj_M K N T D z (e + 3) (ms_pre S t a) → pa_w G x 2 (K, Sm, N, O) 0 0 48 [some (pv_o 4 0), some (pv_o 3 t)] [] := by
        intro K N hs
        refine pr_aload_n (pc := 48) C dX3_carryOut_48 rfl ?_
        refine pr_vP (pc := 49) C (c_X2_takesForGiven G _ K Sm (ms_pre S t a) N O T D (e + 3) z hs t (by first | assumption | omega)) wv_X3_312 rfl rfl (by decide) (by decide) (pl_3 (sj_n0 hs (by first | assumption | omega))) (Nat.le_of_ble_eq_true rfl) (by omega) (by omega) dX3_carryOut_49 ?_
        refine pr_ifb_eq (pc := 52) C 95 dX3_carryOut_52 (by decide) (fun c_52 => ?_) (fun c_52 => ?_)
        · exact absurd hD (by rw [← htk, c_52]; simp)
        · refine pr_aload_n (pc := 55) C dX3_carryOut_55 rfl ?_
          refine pr_aload_n (pc := 56) C dX3_carryOut_56 rfl ?_
          refine pr_vP (pc := 57) C (c_X3_isDoubted G _ K Sm (ms_pre S t a) N O T D (e + 3) z hs t g (by omega) hg hg10) wv_X3_315 rfl rfl (by decide) (by decide) (pl_4 _) (Nat.le_of_ble_eq_true rfl) (by omega) (by omega) dX3_carryOut_57 ?_
          refine pr_ifb_eq (pc := 60) C 69 dX3_carryOut_60 (by decide) (fun c_60 => ?_) (fun c_60 => ?_)
          · exact absurd hD (by rw [c_60, Bool.and_false]; decide)
          · refine pr_aload_n (pc := 63) C dX3_carryOut_63 rfl ?_
            refine pr_iconst (pc := 64) (v := 3) C dX3_carryOut_64 (by decide) ?_
            refine pr_puti (pc := 65) C 128 wp_X3_176 rfl (by decide) rfl (by decide) (pl_3 (sj_n0 hs (by first | assumption | omega))) dX3_carryOut_65 ?_
            refine pr_sim (sj_w128 hs (by decide)) ?_
            intro K N hs
            exact pr_vret (pc := 68) C E (by omega) (by omega) ⟨rfl, K, N, rfl, hs⟩ dX3_carryOut_68
      refine pr_icmp_eqN (pc := 40) C 48 a 4 dX3_carryOut_40 (by decide) rfl rfl (by omega) (by omega) (fun c_40 => ?_) (fun c_40 => ?_)
      · exact j48_1 K N (sj_eq (by rw [ms_dlv_225]; unfold ms_pre; rw [if_pos c_40]; conv => rhs; rw [← (show pa_us (ms_dlv S t) 225 t (S 200 0) 215 0 = S 215 0 from (pa_us_ne (by decide)).trans (ms_dlv_ne (by decide) (by decide)))]; rw [pa_us_same]) hs)
      · refine pr_aload_n (pc := 43) C dX3_carryOut_43 rfl ?_
        refine pr_iconst (pc := 44) (v := -1) C dX3_carryOut_44 (by decide) ?_
        refine pr_puti (pc := 45) C 167 wp_X3_32 rfl (by decide) rfl (by decide) (pl_4 _) dX3_carryOut_45 ?_
        refine pr_sim (sj_w167 hs) ?_
        intro K N hs
        exact j48_1 K N (sj_eq (by rw [ms_dlv_225]; unfold ms_pre; rw [if_neg c_40]) hs)
    · exact absurd hP (by rw [c_13, Bool.and_false]; decide)

