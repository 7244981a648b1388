/-! THE CLASS: its public methods, all being well told -/
theorem sc_in9 : ∀ a, a < 10 → ms_in (nI a) 0 9 = true := by decide
theorem sc_in3 : ∀ a, a < 4 → ms_in (nI a) 0 3 = true := by decide
theorem sc_in7 : ∀ a, a < 8 → ms_in (nI a) 0 7 = true := by decide
set_option maxRecDepth 100000 in
set_option maxHeartbeats 4000000 in
theorem c_X3_powerY (G : pa_G) (l : Launch) (K : Nat → Nat → Nat → Int32) (Sm S : Nat → Nat → Int32) (N : Nat → Nat) (O : Nat → Int64) (T D e : Nat) (z : sj_Z) (hs : sj_M K N T D z e S) (sp : Nat) (p : Int32) (hs4 : sp < 4) (hp : ms_in p 0 9 = true) : pa_M G l mX3_power 4 false [pv_o 4 0, pv_i (nI sp), pv_i p] (K, Sm, N, O) 0 0 (sj_post (some (pv_i (S 202 sp))) Sm O T D z e (pa_us S 202 sp p)) := by
  refine pa_go l (by decide) (by simp [pa_c1l, pa_c1]) (fun _ => rfl) fun x C E el ea => ?_
  subst el
  show pa_w G x 4 (K, Sm, N, O) 0 0 0 [some (pv_o 4 0), some (pv_i (nI sp)), some (pv_i p), none] []
  refine pr_iload_n (pc := 0) C dX3_power_0 rfl ?_
  refine pr_sE (pc := 1) C (c_X3_needSpeakerY G _ (K, Sm, N, O) sp (by first | assumption | omega)) ws_X3_39 rfl rfl (by decide) (Nat.le_of_ble_eq_true rfl) (by omega) (by omega) dX3_power_1 ?_
  refine pr_iload_n (pc := 4) C dX3_power_4 rfl ?_
  refine pr_iconst (pc := 5) (v := 0) C dX3_power_5 (by decide) ?_
  refine pr_bipush (pc := 6) (v := 9) C dX3_power_6 (by decide) ?_
  refine pr_sE (pc := 8) C (c_X3_needRangeY G _ (K, Sm, N, O) p (0 : Int32) (9 : Int32) hp) ws_X3_42 rfl rfl (by decide) (Nat.le_of_ble_eq_true rfl) (by omega) (by omega) dX3_power_8 ?_
  refine pr_aload_n (pc := 11) C dX3_power_11 rfl ?_
  refine pr_geta (pc := 12) C 160 260 wf_X3_11 rfl rfl (by decide) (pl_4 _) dX3_power_12 ?_
  refine pr_iload_n (pc := 15) C dX3_power_15 rfl ?_
  refine pr_alds (pc := 16) (n := 4) C 160 sp rfl rfl rfl (pl_r4 (by decide)) rfl (by omega) (by decide) dX3_power_16 ?_
  refine pr_geti (pc := 17) C 41 wf_X3_46 rfl (by decide) (pl_1 (by first | assumption | omega)) dX3_power_17 ?_
  refine pr_eqi (v := S 202 sp) (sj_r41 hs (by first | assumption | omega)) ?_
  refine pr_istore_n (pc := 20) C dX3_power_20 (by decide) ?_
  refine pr_aload_n (pc := 21) C dX3_power_21 rfl ?_
  refine pr_geta (pc := 22) C 160 260 wf_X3_11 rfl rfl (by decide) (pl_4 _) dX3_power_22 ?_
  refine pr_iload_n (pc := 25) C dX3_power_25 rfl ?_
  refine pr_alds (pc := 26) (n := 4) C 160 sp rfl rfl rfl (pl_r4 (by decide)) rfl (by omega) (by decide) dX3_power_26 ?_
  refine pr_iload_n (pc := 27) C dX3_power_27 rfl ?_
  refine pr_puti (pc := 28) C 41 wp_X3_46 rfl (by decide) rfl (by decide) (pl_1 (by first | assumption | omega)) dX3_power_28 ?_
  refine pr_sim (sj_w41 hs) ?_
  intro K N hs
  refine pr_iload_n (pc := 31) C dX3_power_31 rfl ?_
  exact pr_iret (pc := 32) C E (Or.inl rfl) (by omega) (by omega) ⟨rfl, K, N, rfl, hs⟩ dX3_power_32

set_option maxRecDepth 100000 in
set_option maxHeartbeats 4000000 in
theorem c_X3_knowsY (G : pa_G) (l : Launch) (K : Nat → Nat → Nat → Int32) (Sm S : Nat → Nat → Int32) (N : Nat → Nat) (O : Nat → Int64) (T D e : Nat) (z : sj_Z) (hs : sj_M K N T D z e S) (sp : Nat) (set one is : Int32) (hs4 : sp < 4) (h1 : ms_in set 1 7 = true) (h2 : ms_in one 0 2 = true) (h3 : ms_isIn set one = true) (hb : is = 0 ∨ is = 1) : pa_M G l mX3_knows 4 false [pv_o 4 0, pv_i (nI sp), pv_i set, pv_i one, pv_i is] (K, Sm, N, O) 0 0 (sj_post (some (pv_i (S 203 sp))) Sm O T D z e (pa_us (pa_us (pa_us S 203 sp set) 204 sp one) 205 sp is)) := by
  refine pa_go l (by decide) (by simp [pa_c1l, pa_c1]) (fun _ => rfl) fun x C E el ea => ?_
  subst el
  show pa_w G x 6 (K, Sm, N, O) 0 0 0 [some (pv_o 4 0), some (pv_i (nI sp)), some (pv_i set), some (pv_i one), some (pv_i is), none] []
  refine pr_iload_n (pc := 0) C dX3_knows_0 rfl ?_
  refine pr_sE (pc := 1) C (c_X3_needSpeakerY G _ (K, Sm, N, O) sp (by first | assumption | omega)) ws_X3_39 rfl rfl (by decide) (Nat.le_of_ble_eq_true rfl) (by omega) (by omega) dX3_knows_1 ?_
  refine pr_iload_n (pc := 4) C dX3_knows_4 rfl ?_
  refine pr_iconst (pc := 5) (v := 1) C dX3_knows_5 (by decide) ?_
  refine pr_bipush (pc := 6) (v := 7) C dX3_knows_6 (by decide) ?_
  refine pr_sE (pc := 8) C (c_X3_needRangeY G _ (K, Sm, N, O) set (1 : Int32) (7 : Int32) h1) ws_X3_42 rfl rfl (by decide) (Nat.le_of_ble_eq_true rfl) (by omega) (by omega) dX3_knows_8 ?_
  refine pr_iload_n (pc := 11) C dX3_knows_11 rfl ?_
  refine pr_iconst (pc := 12) (v := 0) C dX3_knows_12 (by decide) ?_
  refine pr_iconst (pc := 13) (v := 2) C dX3_knows_13 (by decide) ?_
  refine pr_sE (pc := 14) C (c_X3_needRangeY G _ (K, Sm, N, O) one (0 : Int32) (2 : Int32) h2) ws_X3_42 rfl rfl (by decide) (Nat.le_of_ble_eq_true rfl) (by omega) (by omega) dX3_knows_14 ?_
  refine pr_iload_n (pc := 17) C dX3_knows_17 rfl ?_
  refine pr_iload_n (pc := 18) C dX3_knows_18 rfl ?_
  refine pr_sP (pc := 19) C (c_X3_isIn G _ (K, Sm, N, O) set one) ws_X3_49 rfl rfl (by decide) (Nat.le_of_ble_eq_true rfl) (by omega) (by omega) dX3_knows_19 ?_
  refine pr_ifb_ne (pc := 22) C 35 dX3_knows_22 (by decide) (fun c_22 => ?_) (fun c_22 => ?_)
  · refine pr_aload_n (pc := 35) C dX3_knows_35 rfl ?_
    refine pr_geta (pc := 36) C 160 260 wf_X3_11 rfl rfl (by decide) (pl_4 _) dX3_knows_36 ?_
    refine pr_iload_n (pc := 39) C dX3_knows_39 rfl ?_
    refine pr_alds (pc := 40) (n := 4) C 160 sp rfl rfl rfl (pl_r4 (by decide)) rfl (by omega) (by decide) dX3_knows_40 ?_
    refine pr_geti (pc := 41) C 42 wf_X3_60 rfl (by decide) (pl_1 (by first | assumption | omega)) dX3_knows_41 ?_
    refine pr_eqi (v := S 203 sp) (sj_r42 hs (by first | assumption | omega)) ?_
    refine pr_istore (pc := 44) C dX3_knows_44 (by decide) ?_
    refine pr_aload_n (pc := 46) C dX3_knows_46 rfl ?_
    refine pr_geta (pc := 47) C 160 260 wf_X3_11 rfl rfl (by decide) (pl_4 _) dX3_knows_47 ?_
    refine pr_iload_n (pc := 50) C dX3_knows_50 rfl ?_
    refine pr_alds (pc := 51) (n := 4) C 160 sp rfl rfl rfl (pl_r4 (by decide)) rfl (by omega) (by decide) dX3_knows_51 ?_
    refine pr_iload_n (pc := 52) C dX3_knows_52 rfl ?_
    refine pr_puti (pc := 53) C 42 wp_X3_60 rfl (by decide) rfl (by decide) (pl_1 (by first | assumption | omega)) dX3_knows_53 ?_
    refine pr_sim (sj_w42 hs) ?_
    intro K N hs
    refine pr_aload_n (pc := 56) C dX3_knows_56 rfl ?_
    refine pr_geta (pc := 57) C 160 260 wf_X3_11 rfl rfl (by decide) (pl_4 _) dX3_knows_57 ?_
    refine pr_iload_n (pc := 60) C dX3_knows_60 rfl ?_
    refine pr_alds (pc := 61) (n := 4) C 160 sp rfl rfl rfl (pl_r4 (by decide)) rfl (by omega) (by decide) dX3_knows_61 ?_
    refine pr_iload_n (pc := 62) C dX3_knows_62 rfl ?_
    refine pr_puti (pc := 63) C 43 wp_X3_63 rfl (by decide) rfl (by decide) (pl_1 (by first | assumption | omega)) dX3_knows_63 ?_
    refine pr_sim (sj_w43 hs) ?_
    intro K N hs
    refine pr_aload_n (pc := 66) C dX3_knows_66 rfl ?_
    refine pr_geta (pc := 67) C 160 260 wf_X3_11 rfl rfl (by decide) (pl_4 _) dX3_knows_67 ?_
    refine pr_iload_n (pc := 70) C dX3_knows_70 rfl ?_
    refine pr_alds (pc := 71) (n := 4) C 160 sp rfl rfl rfl (pl_r4 (by decide)) rfl (by omega) (by decide) dX3_knows_71 ?_
    refine pr_iload (pc := 72) C dX3_knows_72 rfl ?_
    refine pr_putb (pc := 74) C 44 wp_X3_66 rfl (by decide) rfl (by decide) hb (pl_1 (by first | assumption | omega)) dX3_knows_74 ?_
    refine pr_sim (sj_w44 hs) ?_
    intro K N hs
    refine pr_iload (pc := 77) C dX3_knows_77 rfl ?_
    exact pr_iret (pc := 79) C E (Or.inl rfl) (by omega) (by omega) ⟨rfl, K, N, rfl, hs⟩ dX3_knows_79
  · exact absurd c_22 (by rw [h3]; decide)

set_option maxRecDepth 100000 in
set_option maxHeartbeats 4000000 in
theorem c_X3_believeY (G : pa_G) (l : Launch) (K : Nat → Nat → Nat → Int32) (Sm S : Nat → Nat → Int32) (N : Nat → Nat) (O : Nat → Int64) (T D e : Nat) (z : sj_Z) (hs : sj_M K N T D z e S) (sp a9 : Nat) (v : Int32) (hs4 : sp < 4) (ha10 : a9 < 10) (hv : ms_in v 0 2 = true) : pa_M G l mX3_believe 4 false [pv_o 4 0, pv_i (nI sp), pv_i (nI a9), pv_i v] (K, Sm, N, O) 0 0 (sj_post (some (pv_i (S 207 (10 * sp + a9)))) Sm O T D z e (pa_us S 207 (10 * sp + a9) v)) := by
  refine pa_go l (by decide) (by simp [pa_c1l, pa_c1]) (fun _ => rfl) fun x C E el ea => ?_
  subst el
  show pa_w G x 5 (K, Sm, N, O) 0 0 0 [some (pv_o 4 0), some (pv_i (nI sp)), some (pv_i (nI a9)), some (pv_i v), none] []
  refine pr_iload_n (pc := 0) C dX3_believe_0 rfl ?_
  refine pr_sE (pc := 1) C (c_X3_needSpeakerY G _ (K, Sm, N, O) sp (by first | assumption | omega)) ws_X3_39 rfl rfl (by decide) (Nat.le_of_ble_eq_true rfl) (by omega) (by omega) dX3_believe_1 ?_
  refine pr_iload_n (pc := 4) C dX3_believe_4 rfl ?_
  refine pr_sE (pc := 5) C (c_X3_needAtomY G _ (K, Sm, N, O) (nI a9) (sc_in9 _ (by first | assumption | omega))) ws_X3_70 rfl rfl (by decide) (Nat.le_of_ble_eq_true rfl) (by omega) (by omega) dX3_believe_5 ?_
  refine pr_iload_n (pc := 8) C dX3_believe_8 rfl ?_
  refine pr_iconst (pc := 9) (v := 0) C dX3_believe_9 (by decide) ?_
  refine pr_iconst (pc := 10) (v := 2) C dX3_believe_10 (by decide) ?_
  refine pr_sE (pc := 11) C (c_X3_needRangeY G _ (K, Sm, N, O) v (0 : Int32) (2 : Int32) hv) ws_X3_42 rfl rfl (by decide) (Nat.le_of_ble_eq_true rfl) (by omega) (by omega) dX3_believe_11 ?_
  refine pr_aload_n (pc := 14) C dX3_believe_14 rfl ?_
  refine pr_geta (pc := 15) C 160 260 wf_X3_11 rfl rfl (by decide) (pl_4 _) dX3_believe_15 ?_
  refine pr_iload_n (pc := 18) C dX3_believe_18 rfl ?_
  refine pr_alds (pc := 19) (n := 4) C 160 sp rfl rfl rfl (pl_r4 (by decide)) rfl (by omega) (by decide) dX3_believe_19 ?_
  refine pr_geta (pc := 20) C 48 148 wf_X3_73 rfl rfl (by decide) (pl_1 (by first | assumption | omega)) dX3_believe_20 ?_
  refine pr_iload_n (pc := 23) C dX3_believe_23 rfl ?_
  refine pr_aldi (pc := 24) (n := 10) C 48 a9 rfl rfl rfl (pl_r1 (by decide) (by first | assumption | omega)) rfl (by omega) (by decide) dX3_believe_24 ?_
  refine pr_eqi (v := S 207 (10 * sp + a9)) (sj_r48 hs (by first | assumption | omega) (by omega)) ?_
  refine pr_istore (pc := 25) C dX3_believe_25 (by decide) ?_
  refine pr_aload_n (pc := 27) C dX3_believe_27 rfl ?_
  refine pr_geta (pc := 28) C 160 260 wf_X3_11 rfl rfl (by decide) (pl_4 _) dX3_believe_28 ?_
  refine pr_iload_n (pc := 31) C dX3_believe_31 rfl ?_
  refine pr_alds (pc := 32) (n := 4) C 160 sp rfl rfl rfl (pl_r4 (by decide)) rfl (by omega) (by decide) dX3_believe_32 ?_
  refine pr_geta (pc := 33) C 48 148 wf_X3_73 rfl rfl (by decide) (pl_1 (by first | assumption | omega)) dX3_believe_33 ?_
  refine pr_iload_n (pc := 36) C dX3_believe_36 rfl ?_
  refine pr_iload_n (pc := 37) C dX3_believe_37 rfl ?_
  refine pr_asti (pc := 38) (n := 10) C 48 a9 rfl (by decide) rfl rfl (pl_r1 (by decide) (by first | assumption | omega)) rfl (by omega) (by decide) dX3_believe_38 ?_
  refine pr_sim (sj_w48 hs (by omega)) ?_
  intro K N hs
  refine pr_iload (pc := 39) C dX3_believe_39 rfl ?_
  exact pr_iret (pc := 41) C E (Or.inl rfl) (by omega) (by omega) ⟨rfl, K, N, rfl, hs⟩ dX3_believe_41

set_option maxRecDepth 100000 in
set_option maxHeartbeats 4000000 in
theorem c_X3_deafenY (G : pa_G) (l : Launch) (K : Nat → Nat → Nat → Int32) (Sm S : Nat → Nat → Int32) (N : Nat → Nat) (O : Nat → Int64) (T D e : Nat) (z : sj_Z) (hs : sj_M K N T D z e S) (sp : Nat) (p : Int32) (hs4 : sp < 4) (hp : ms_in p 0 20 = true) : pa_M G l mX3_deafen 4 false [pv_o 4 0, pv_i (nI sp), pv_i p] (K, Sm, N, O) 0 0 (sj_post (some (pv_i (S 200 0 + p))) Sm O T D z e (pa_us S 206 sp (S 200 0 + p))) := by
  refine pa_go l (by decide) (by simp [pa_c1l, pa_c1]) (fun _ => rfl) fun x C E el ea => ?_
  subst el
  show pa_w G x 3 (K, Sm, N, O) 0 0 0 [some (pv_o 4 0), some (pv_i (nI sp)), some (pv_i p)] []
  refine pr_iload_n (pc := 0) C dX3_deafen_0 rfl ?_
  refine pr_sE (pc := 1) C (c_X3_needSpeakerY G _ (K, Sm, N, O) sp (by first | assumption | omega)) ws_X3_39 rfl rfl (by decide) (Nat.le_of_ble_eq_true rfl) (by omega) (by omega) dX3_deafen_1 ?_
  refine pr_iload_n (pc := 4) C dX3_deafen_4 rfl ?_
  refine pr_iconst (pc := 5) (v := 0) C dX3_deafen_5 (by decide) ?_
  refine pr_bipush (pc := 6) (v := 20) C dX3_deafen_6 (by decide) ?_
  refine pr_sE (pc := 8) C (c_X3_needRangeY G _ (K, Sm, N, O) p (0 : Int32) (20 : Int32) hp) ws_X3_42 rfl rfl (by decide) (Nat.le_of_ble_eq_true rfl) (by omega) (by omega) dX3_deafen_8 ?_
  refine pr_aload_n (pc := 11) C dX3_deafen_11 rfl ?_
  refine pr_geta (pc := 12) C 160 260 wf_X3_11 rfl rfl (by decide) (pl_4 _) dX3_deafen_12 ?_
  refine pr_iload_n (pc := 15) C dX3_deafen_15 rfl ?_
  refine pr_alds (pc := 16) (n := 4) C 160 sp rfl rfl rfl (pl_r4 (by decide)) rfl (by omega) (by decide) dX3_deafen_16 ?_
  refine pr_aload_n (pc := 17) C dX3_deafen_17 rfl ?_
  refine pr_geti (pc := 18) C 166 wf_X3_76 rfl (by decide) (pl_4 _) dX3_deafen_18 ?_
  refine pr_eqi (v := S 200 0) (sj_r166 hs) ?_
  refine pr_iload_n (pc := 21) C dX3_deafen_21 rfl ?_
  refine pr_iadd (pc := 22) C dX3_deafen_22 ?_
  refine pr_puti (pc := 23) C 45 wp_X3_79 rfl (by decide) rfl (by decide) (pl_1 (by first | assumption | omega)) dX3_deafen_23 ?_
  refine pr_sim (sj_w45 hs) ?_
  intro K N hs
  refine pr_aload_n (pc := 26) C dX3_deafen_26 rfl ?_
  refine pr_geta (pc := 27) C 160 260 wf_X3_11 rfl rfl (by decide) (pl_4 _) dX3_deafen_27 ?_
  refine pr_iload_n (pc := 30) C dX3_deafen_30 rfl ?_
  refine pr_alds (pc := 31) (n := 4) C 160 sp rfl rfl rfl (pl_r4 (by decide)) rfl (by omega) (by decide) dX3_deafen_31 ?_
  refine pr_geti (pc := 32) C 45 wf_X3_79 rfl (by decide) (pl_1 (by first | assumption | omega)) dX3_deafen_32 ?_
  refine pr_eqi (v := ((S 200 0) + p)) ((sj_r45 hs (by first | assumption | omega)).trans (pa_us_self _ _ _ _)) ?_
  exact pr_iret (pc := 35) C E (Or.inl rfl) (by omega) (by omega) ⟨rfl, K, N, rfl, hs⟩ dX3_deafen_35

set_option maxRecDepth 100000 in
set_option maxHeartbeats 4000000 in
theorem c_X3_giveYa (G : pa_G) (l : Launch) (K : Nat → Nat → Nat → Int32) (Sm S : Nat → Nat → Int32) (N : Nat → Nat) (O : Nat → Int64) (T D e : Nat) (z : sj_Z) (hs : sj_M K N T D z e S) (g : Nat) (hg8 : g < 8) : pa_M G l mX3_give 4 false [pv_o 4 0, pv_i (nI g), pv_i (-1 : Int32)] (K, Sm, N, O) 0 0 (sj_post (some (pv_i (S 213 g))) Sm O T D z e (pa_us S 213 g (-1))) := by
  refine pa_go l (by decide) (by simp [pa_c1l, pa_c1]) (fun _ => rfl) fun x C E el ea => ?_
  subst el
  show pa_w G x 4 (K, Sm, N, O) 0 0 0 [some (pv_o 4 0), some (pv_i (nI g)), some (pv_i (-1 : Int32)), none] []
  refine pr_iload_n (pc := 0) C dX3_give_0 rfl ?_
  refine pr_sE (pc := 1) C (c_X3_needGoodY G _ (K, Sm, N, O) g (by first | assumption | omega)) ws_X3_82 rfl rfl (by decide) (Nat.le_of_ble_eq_true rfl) (by omega) (by omega) dX3_give_1 ?_
  refine pr_iload_n (pc := 4) C dX3_give_4 rfl ?_
  refine pr_iconst (pc := 5) (v := -1) C dX3_give_5 (by decide) ?_
  refine pr_icmp_eq (pc := 6) C 13 dX3_give_6 (by decide) (fun _ => ?_) (fun c_6 => absurd c_6 (by decide))
  refine pr_aload_n (pc := 13) C dX3_give_13 rfl ?_
  refine pr_geta (pc := 14) C 161 261 wf_X3_15 rfl rfl (by decide) (pl_4 _) dX3_give_14 ?_
  refine pr_iload_n (pc := 17) C dX3_give_17 rfl ?_
  refine pr_aldi (pc := 18) (n := 8) C 161 g rfl rfl rfl (pl_r4 (by decide)) rfl (by omega) (by decide) dX3_give_18 ?_
  refine pr_eqi (v := S 213 g) (sj_r161 hs (by omega)) ?_
  refine pr_istore_n (pc := 19) C dX3_give_19 (by decide) ?_
  refine pr_aload_n (pc := 20) C dX3_give_20 rfl ?_
  refine pr_geta (pc := 21) C 161 261 wf_X3_15 rfl rfl (by decide) (pl_4 _) dX3_give_21 ?_
  refine pr_iload_n (pc := 24) C dX3_give_24 rfl ?_
  refine pr_iload_n (pc := 25) C dX3_give_25 rfl ?_
  refine pr_asti (pc := 26) (n := 8) C 161 g rfl (by decide) rfl rfl (pl_r4 (by decide)) rfl (by omega) (by decide) dX3_give_26 ?_
  refine pr_sim (sj_w161 hs (by omega)) ?_
  intro K N hs
  refine pr_iload_n (pc := 27) C dX3_give_27 rfl ?_
  exact pr_iret (pc := 28) C E (Or.inl rfl) (by omega) (by omega) ⟨rfl, K, N, rfl, hs⟩ dX3_give_28

set_option maxRecDepth 100000 in
set_option maxHeartbeats 4000000 in
theorem c_X3_giveYb (G : pa_G) (l : Launch) (K : Nat → Nat → Nat → Int32) (Sm S : Nat → Nat → Int32) (N : Nat → Nat) (O : Nat → Int64) (T D e : Nat) (z : sj_Z) (hs : sj_M K N T D z e S) (g k : Nat) (hg8 : g < 8) (hk4 : k < 4) : pa_M G l mX3_give 4 false [pv_o 4 0, pv_i (nI g), pv_i (nI k)] (K, Sm, N, O) 0 0 (sj_post (some (pv_i (S 213 g))) Sm O T D z e (pa_us S 213 g (nI k))) := by
  refine pa_go l (by decide) (by simp [pa_c1l, pa_c1]) (fun _ => rfl) fun x C E el ea => ?_
  subst el
  show pa_w G x 4 (K, Sm, N, O) 0 0 0 [some (pv_o 4 0), some (pv_i (nI g)), some (pv_i (nI k)), none] []
  refine pr_iload_n (pc := 0) C dX3_give_0 rfl ?_
  refine pr_sE (pc := 1) C (c_X3_needGoodY G _ (K, Sm, N, O) g (by first | assumption | omega)) ws_X3_82 rfl rfl (by decide) (Nat.le_of_ble_eq_true rfl) (by omega) (by omega) dX3_give_1 ?_
  refine pr_iload_n (pc := 4) C dX3_give_4 rfl ?_
  refine pr_iconst (pc := 5) (v := -1) C dX3_give_5 (by decide) ?_
  refine pr_icmp_eq (pc := 6) C 13 dX3_give_6 (by decide) (fun c_6 => ?_) (fun c_6 => ?_)
  · exact absurd c_6 (nI_nm (by omega))
  · refine pr_iload_n (pc := 9) C dX3_give_9 rfl ?_
    refine pr_sE (pc := 10) C (c_X3_needSpeakerY G _ (K, Sm, N, O) k (by first | assumption | omega)) ws_X3_39 rfl rfl (by decide) (Nat.le_of_ble_eq_true rfl) (by omega) (by omega) dX3_give_10 ?_
    refine pr_aload_n (pc := 13) C dX3_give_13 rfl ?_
    refine pr_geta (pc := 14) C 161 261 wf_X3_15 rfl rfl (by decide) (pl_4 _) dX3_give_14 ?_
    refine pr_iload_n (pc := 17) C dX3_give_17 rfl ?_
    refine pr_aldi (pc := 18) (n := 8) C 161 g rfl rfl rfl (pl_r4 (by decide)) rfl (by omega) (by decide) dX3_give_18 ?_
    refine pr_eqi (v := S 213 g) (sj_r161 hs (by omega)) ?_
    refine pr_istore_n (pc := 19) C dX3_give_19 (by decide) ?_
    refine pr_aload_n (pc := 20) C dX3_give_20 rfl ?_
    refine pr_geta (pc := 21) C 161 261 wf_X3_15 rfl rfl (by decide) (pl_4 _) dX3_give_21 ?_
    refine pr_iload_n (pc := 24) C dX3_give_24 rfl ?_
    refine pr_iload_n (pc := 25) C dX3_give_25 rfl ?_
    refine pr_asti (pc := 26) (n := 8) C 161 g rfl (by decide) rfl rfl (pl_r4 (by decide)) rfl (by omega) (by decide) dX3_give_26 ?_
    refine pr_sim (sj_w161 hs (by omega)) ?_
    intro K N hs
    refine pr_iload_n (pc := 27) C dX3_give_27 rfl ?_
    exact pr_iret (pc := 28) C E (Or.inl rfl) (by omega) (by omega) ⟨rfl, K, N, rfl, hs⟩ dX3_give_28

set_option maxRecDepth 100000 in
set_option maxHeartbeats 4000000 in
theorem c_X3_strictY (G : pa_G) (l : Launch) (K : Nat → Nat → Nat → Int32) (Sm S : Nat → Nat → Int32) (N : Nat → Nat) (O : Nat → Int64) (T D e : Nat) (z : sj_Z) (hs : sj_M K N T D z e S) (is : Int32) (hb : is = 0 ∨ is = 1) (h1 : S 201 0 = 0 ∨ S 201 0 = 1) : pa_M G l mX3_strict 1 false [pv_o 4 0, pv_i is] (K, Sm, N, O) 0 0 (sj_post (some (pv_i (S 201 0))) Sm O T D z e (pa_us S 201 0 is)) := by
  refine pa_go l (by decide) (by simp [pa_c1l, pa_c1]) (fun _ => rfl) fun x C E el ea => ?_
  subst el
  show pa_w G x 3 (K, Sm, N, O) 0 0 0 [some (pv_o 4 0), some (pv_i is), none] []
  refine pr_aload_n (pc := 0) C dX3_strict_0 rfl ?_
  refine pr_geti (pc := 1) C 165 wf_X3_85 rfl (by decide) (pl_4 _) dX3_strict_1 ?_
  refine pr_eqi (v := S 201 0) (sj_r165 hs) ?_
  refine pr_istore_n (pc := 4) C dX3_strict_4 (by decide) ?_
  refine pr_aload_n (pc := 5) C dX3_strict_5 rfl ?_
  refine pr_iload_n (pc := 6) C dX3_strict_6 rfl ?_
  refine pr_putb (pc := 7) C 165 wp_X3_85 rfl (by decide) rfl (by decide) hb (pl_4 _) dX3_strict_7 ?_
  refine pr_sim (sj_w165 hs) ?_
  intro K N hs
  refine pr_iload_n (pc := 10) C dX3_strict_10 rfl ?_
  exact pr_iret (pc := 11) C E (Or.inr ⟨rfl, h1⟩) (by omega) (by omega) ⟨rfl, K, N, rfl, hs⟩ dX3_strict_11

set_option maxRecDepth 100000 in
set_option maxHeartbeats 4000000 in
theorem c_X3_clock (G : pa_G) (l : Launch) (K : Nat → Nat → Nat → Int32) (Sm S : Nat → Nat → Int32) (N : Nat → Nat) (O : Nat → Int64) (T D e : Nat) (z : sj_Z) (hs : sj_M K N T D z e S)  : pa_MP G l mX3_clock 1 [pv_o 4 0] (K, Sm, N, O) (pv_i (S 200 0)) := by
  refine pa_go l (by decide) (by simp [pa_c1l, pa_c1]) (fun _ => rfl) fun x C E el ea => ?_
  subst el
  show pa_w G x 1 (K, Sm, N, O) 0 0 0 [some (pv_o 4 0)] []
  refine pr_aload_n (pc := 0) C dX3_clock_0 rfl ?_
  refine pr_geti (pc := 1) C 166 wf_X3_76 rfl (by decide) (pl_4 _) dX3_clock_1 ?_
  refine pr_eqi (v := S 200 0) (sj_r166 hs) ?_
  exact pr_iret (pc := 4) C E (Or.inl rfl) (by omega) (by omega) ⟨rfl, rfl⟩ dX3_clock_4

set_option maxRecDepth 100000 in
set_option maxHeartbeats 4000000 in
theorem c_X3_deals (G : pa_G) (l : Launch) (K : Nat → Nat → Nat → Int32) (Sm S : Nat → Nat → Int32) (N : Nat → Nat) (O : Nat → Int64) (T D e : Nat) (z : sj_Z) (hs : sj_M K N T D z e S)  : pa_MP G l mX3_deals 1 [pv_o 4 0] (K, Sm, N, O) (pv_i (S 214 0)) := by
  refine pa_go l (by decide) (by simp [pa_c1l, pa_c1]) (fun _ => rfl) fun x C E el ea => ?_
  subst el
  show pa_w G x 1 (K, Sm, N, O) 0 0 0 [some (pv_o 4 0)] []
  refine pr_aload_n (pc := 0) C dX3_deals_0 rfl ?_
  refine pr_geti (pc := 1) C 169 wf_X3_238 rfl (by decide) (pl_4 _) dX3_deals_1 ?_
  refine pr_eqi (v := S 214 0) (sj_r169 hs) ?_
  exact pr_iret (pc := 4) C E (Or.inl rfl) (by omega) (by omega) ⟨rfl, rfl⟩ dX3_deals_4

set_option maxRecDepth 100000 in
set_option maxHeartbeats 4000000 in
theorem c_X3_said (G : pa_G) (l : Launch) (K : Nat → Nat → Nat → Int32) (Sm S : Nat → Nat → Int32) (N : Nat → Nat) (O : Nat → Int64) (T D e : Nat) (z : sj_Z) (hs : sj_M K N T D z e S)  : pa_MP G l mX3_said 2 [pv_o 4 0] (K, Sm, N, O) (pv_i (nI T)) := by
  refine pa_go l (by decide) (by simp [pa_c1l, pa_c1]) (fun _ => rfl) fun x C E el ea => ?_
  subst el
  show pa_w G x 1 (K, Sm, N, O) 0 0 0 [some (pv_o 4 0)] []
  refine pr_aload_n (pc := 0) C dX3_said_0 rfl ?_
  refine pr_getl (pc := 1) C 162 0 wf_X3_22 rfl rfl rfl (pl_4 _) dX3_said_1 ?_
  refine pr_vP (pc := 4) C (c_szT G _ K Sm S N O T D e z hs) wv_X3_147 rfl rfl (by decide) (by decide) (pl_0 (by decide)) (Nat.le_of_ble_eq_true rfl) (by omega) (by omega) dX3_said_4 ?_
  exact pr_iret (pc := 7) C E (Or.inl rfl) (by omega) (by omega) ⟨rfl, rfl⟩ dX3_said_7

set_option maxRecDepth 100000 in
set_option maxHeartbeats 4000000 in
theorem c_X3_questions (G : pa_G) (l : Launch) (K : Nat → Nat → Nat → Int32) (Sm S : Nat → Nat → Int32) (N : Nat → Nat) (O : Nat → Int64) (T D e : Nat) (z : sj_Z) (hs : sj_M K N T D z e S)  : pa_MP G l mX3_questions 2 [pv_o 4 0] (K, Sm, N, O) (pv_i (S 231 0)) := by
  refine pa_go l (by decide) (by simp [pa_c1l, pa_c1]) (fun _ => rfl) fun x C E el ea => ?_
  subst el
  show pa_w G x 1 (K, Sm, N, O) 0 0 0 [some (pv_o 4 0)] []
  refine pr_aload_n (pc := 0) C dX3_questions_0 rfl ?_
  refine pr_getl (pc := 1) C 163 1 wf_X3_26 rfl rfl rfl (pl_4 _) dX3_questions_1 ?_
  refine pr_vP (pc := 4) C (c_szQ G _ K Sm S N O T D e z hs) wv_X3_147 rfl rfl (by decide) (by decide) (pl_0 (by decide)) (Nat.le_of_ble_eq_true rfl) (by omega) (by omega) dX3_questions_4 ?_
  exact pr_iret (pc := 7) C E (Or.inl rfl) (by omega) (by omega) ⟨rfl, rfl⟩ dX3_questions_7

set_option maxRecDepth 100000 in
set_option maxHeartbeats 4000000 in
theorem c_X3_liesY (G : pa_G) (l : Launch) (K : Nat → Nat → Nat → Int32) (Sm S : Nat → Nat → Int32) (N : Nat → Nat) (O : Nat → Int64) (T D e : Nat) (z : sj_Z) (hs : sj_M K N T D z e S) (sp : Nat) (hs4 : sp < 4) : pa_MP G l mX3_lies 4 [pv_o 4 0, pv_i (nI sp)] (K, Sm, N, O) (pv_i (S 212 sp)) := by
  refine pa_go l (by decide) (by simp [pa_c1l, pa_c1]) (fun _ => rfl) fun x C E el ea => ?_
  subst el
  show pa_w G x 2 (K, Sm, N, O) 0 0 0 [some (pv_o 4 0), some (pv_i (nI sp))] []
  refine pr_iload_n (pc := 0) C dX3_lies_0 rfl ?_
  refine pr_sE (pc := 1) C (c_X3_needSpeakerY G _ (K, Sm, N, O) sp (by first | assumption | omega)) ws_X3_39 rfl rfl (by decide) (Nat.le_of_ble_eq_true rfl) (by omega) (by omega) dX3_lies_1 ?_
  refine pr_aload_n (pc := 4) C dX3_lies_4 rfl ?_
  refine pr_geta (pc := 5) C 160 260 wf_X3_11 rfl rfl (by decide) (pl_4 _) dX3_lies_5 ?_
  refine pr_iload_n (pc := 8) C dX3_lies_8 rfl ?_
  refine pr_alds (pc := 9) (n := 4) C 160 sp rfl rfl rfl (pl_r4 (by decide)) rfl (by omega) (by decide) dX3_lies_9 ?_
  refine pr_geti (pc := 10) C 46 wf_X3_215 rfl (by decide) (pl_1 (by first | assumption | omega)) dX3_lies_10 ?_
  refine pr_eqi (v := S 212 sp) (sj_r46 hs (by first | assumption | omega)) ?_
  exact pr_iret (pc := 13) C E (Or.inl rfl) (by omega) (by omega) ⟨rfl, rfl⟩ dX3_lies_13

set_option maxRecDepth 100000 in
set_option maxHeartbeats 4000000 in
theorem c_X3_ownerY (G : pa_G) (l : Launch) (K : Nat → Nat → Nat → Int32) (Sm S : Nat → Nat → Int32) (N : Nat → Nat) (O : Nat → Int64) (T D e : Nat) (z : sj_Z) (hs : sj_M K N T D z e S) (g : Nat) (hg8 : g < 8) : pa_MP G l mX3_owner 4 [pv_o 4 0, pv_i (nI g)] (K, Sm, N, O) (pv_i (S 213 g)) := by
  refine pa_go l (by decide) (by simp [pa_c1l, pa_c1]) (fun _ => rfl) fun x C E el ea => ?_
  subst el
  show pa_w G x 2 (K, Sm, N, O) 0 0 0 [some (pv_o 4 0), some (pv_i (nI g))] []
  refine pr_iload_n (pc := 0) C dX3_owner_0 rfl ?_
  refine pr_sE (pc := 1) C (c_X3_needGoodY G _ (K, Sm, N, O) g (by first | assumption | omega)) ws_X3_82 rfl rfl (by decide) (Nat.le_of_ble_eq_true rfl) (by omega) (by omega) dX3_owner_1 ?_
  refine pr_aload_n (pc := 4) C dX3_owner_4 rfl ?_
  refine pr_geta (pc := 5) C 161 261 wf_X3_15 rfl rfl (by decide) (pl_4 _) dX3_owner_5 ?_
  refine pr_iload_n (pc := 8) C dX3_owner_8 rfl ?_
  refine pr_aldi (pc := 9) (n := 8) C 161 g rfl rfl rfl (pl_r4 (by decide)) rfl (by omega) (by decide) dX3_owner_9 ?_
  refine pr_eqi (v := S 213 g) (sj_r161 hs (by omega)) ?_
  exact pr_iret (pc := 10) C E (Or.inl rfl) (by omega) (by omega) ⟨rfl, rfl⟩ dX3_owner_10

set_option maxRecDepth 100000 in
set_option maxHeartbeats 4000000 in
theorem c_X3_standY (G : pa_G) (l : Launch) (K : Nat → Nat → Nat → Int32) (Sm S : Nat → Nat → Int32) (N : Nat → Nat) (O : Nat → Int64) (T D e : Nat) (z : sj_Z) (hs : sj_M K N T D z e S) (sp a9 : Nat) (hs4 : sp < 4) (ha10 : a9 < 10) : pa_MP G l mX3_stand 4 [pv_o 4 0, pv_i (nI sp), pv_i (nI a9)] (K, Sm, N, O) (pv_i (S 208 (10 * sp + a9))) := by
  refine pa_go l (by decide) (by simp [pa_c1l, pa_c1]) (fun _ => rfl) fun x C E el ea => ?_
  subst el
  show pa_w G x 3 (K, Sm, N, O) 0 0 0 [some (pv_o 4 0), some (pv_i (nI sp)), some (pv_i (nI a9))] []
  refine pr_iload_n (pc := 0) C dX3_stand_0 rfl ?_
  refine pr_sE (pc := 1) C (c_X3_needSpeakerY G _ (K, Sm, N, O) sp (by first | assumption | omega)) ws_X3_39 rfl rfl (by decide) (Nat.le_of_ble_eq_true rfl) (by omega) (by omega) dX3_stand_1 ?_
  refine pr_iload_n (pc := 4) C dX3_stand_4 rfl ?_
  refine pr_sE (pc := 5) C (c_X3_needAtomY G _ (K, Sm, N, O) (nI a9) (sc_in9 _ (by first | assumption | omega))) ws_X3_70 rfl rfl (by decide) (Nat.le_of_ble_eq_true rfl) (by omega) (by omega) dX3_stand_5 ?_
  refine pr_aload_n (pc := 8) C dX3_stand_8 rfl ?_
  refine pr_geta (pc := 9) C 160 260 wf_X3_11 rfl rfl (by decide) (pl_4 _) dX3_stand_9 ?_
  refine pr_iload_n (pc := 12) C dX3_stand_12 rfl ?_
  refine pr_alds (pc := 13) (n := 4) C 160 sp rfl rfl rfl (pl_r4 (by decide)) rfl (by omega) (by decide) dX3_stand_13 ?_
  refine pr_geta (pc := 14) C 49 149 wf_X3_190 rfl rfl (by decide) (pl_1 (by first | assumption | omega)) dX3_stand_14 ?_
  refine pr_iload_n (pc := 17) C dX3_stand_17 rfl ?_
  refine pr_aldi (pc := 18) (n := 10) C 49 a9 rfl rfl rfl (pl_r1 (by decide) (by first | assumption | omega)) rfl (by omega) (by decide) dX3_stand_18 ?_
  refine pr_eqi (v := S 208 (10 * sp + a9)) (sj_r49 hs (by first | assumption | omega) (by omega)) ?_
  exact pr_iret (pc := 19) C E (Or.inl rfl) (by omega) (by omega) ⟨rfl, rfl⟩ dX3_stand_19

theorem sc_oft0 {S : Nat → Nat → Int32} {t : Nat} : ms_oft S t 0 = S 218 t ∧ ms_oft S t 1 = S 219 t ∧ ms_oft S t 2 = S 220 t ∧ ms_oft S t 3 = S 221 t ∧ ms_oft S t 4 = S 222 t ∧ ms_oft S t 5 = S 223 t ∧ ms_oft S t 6 = S 224 t ∧ ms_oft S t 7 = S 225 t ∧ ms_oft S t 8 = pz_b (decide (S 227 t ≠ 0)) := ⟨rfl, rfl, rfl, rfl, rfl, rfl, rfl, rfl, rfl⟩
set_option maxRecDepth 100000 in
set_option maxHeartbeats 4000000 in
theorem c_X3_turnY (G : pa_G) (l : Launch) (K : Nat → Nat → Nat → Int32) (Sm S : Nat → Nat → Int32) (N : Nat → Nat) (O : Nat → Int64) (T D e : Nat) (z : sj_Z) (hs : sj_M K N T D z e S) (t v9 wt : Nat) (hT : T ≤ 100) (ht : t < T) (hv9 : v9 < 9) (hz : z.1 = false) (hwt : S 218 t = nI wt) (hwt4 : wt < 4) : pa_MP G l mX3_turn 5 [pv_o 4 0, pv_i (nI t), pv_i (nI v9)] (K, Sm, N, O) (pv_i (ms_oft S t v9)) := by
  refine pa_go l (by decide) (by simp [pa_c1l, pa_c1]) (fun _ => rfl) fun x C E el ea => ?_
  subst el
  have hTD := sj_TD hs
  show pa_w G x 4 (K, Sm, N, O) 0 0 0 [some (pv_o 4 0), some (pv_i (nI t)), some (pv_i (nI v9)), none] []
  refine pr_aload_n (pc := 0) C dX3_turn_0 rfl ?_
  refine pr_iload_n (pc := 1) C dX3_turn_1 rfl ?_
  refine pr_vP (pc := 2) C (c_X3_turnAtY G _ K Sm S N O T D e z hs t (by first | assumption | omega) hT) wv_X3_151 rfl rfl (by decide) (by decide) (pl_4 _) (Nat.le_of_ble_eq_true rfl) (by omega) (by omega) dX3_turn_2 ?_
  refine pr_astore_n (pc := 5) C dX3_turn_5 (by decide) ?_
  refine pr_aload_n (pc := 6) C dX3_turn_6 rfl ?_
  refine pr_ifnonnull1 (pc := 7) C 20 dX3_turn_7 (by decide) ?_
  refine pr_iload_n (pc := 20) C dX3_turn_20 rfl ?_
  obtain rfl | rfl | rfl | rfl | rfl | rfl | rfl | rfl | rfl : v9 = 0 ∨ v9 = 1 ∨ v9 = 2 ∨ v9 = 3 ∨ v9 = 4 ∨ v9 = 5 ∨ v9 = 6 ∨ v9 = 7 ∨ v9 = 8 := by omega
  · -- 0
    refine pr_tableIn (pc := 21) C 72 dX3_turn_21 (by decide) (by decide) (off := 51) (by decide) (by decide) ?_
    refine pr_aload_n (pc := 72) C dX3_turn_72 rfl ?_
    refine pr_gets (pc := 73) C 120 wf_X3_105 rfl rfl (pl_3 (sj_n0 hs (by first | assumption | omega))) wt ((sj_r120 hs (by first | assumption | omega)).trans hwt) (by first | assumption | omega) dX3_turn_73 ?_
    refine pr_geti (pc := 76) C 40 wf_X3_160 rfl (by decide) (pl_1 (by first | assumption | omega)) dX3_turn_76 ?_
    refine pr_eqi (v := nI wt) (sj_r40 hs (by first | assumption | omega)) ?_
    exact pr_iret (pc := 79) C E (Or.inl rfl) (by omega) (by omega) ⟨by rw [sc_oft0.1, hwt], rfl⟩ dX3_turn_79
  · -- 1
    refine pr_tableIn (pc := 21) C 80 dX3_turn_21 (by decide) (by decide) (off := 59) (by decide) (by decide) ?_
    refine pr_aload_n (pc := 80) C dX3_turn_80 rfl ?_
    refine pr_geti (pc := 81) C 121 wf_X3_161 rfl (by decide) (pl_3 (sj_n0 hs (by first | assumption | omega))) dX3_turn_81 ?_
    refine pr_eqi (v := S 219 t) (sj_r121 hs (by first | assumption | omega)) ?_
    exact pr_iret (pc := 84) C E (Or.inl rfl) (by omega) (by omega) ⟨rfl, rfl⟩ dX3_turn_84
  · -- 2
    refine pr_tableIn (pc := 21) C 85 dX3_turn_21 (by decide) (by decide) (off := 64) (by decide) (by decide) ?_
    refine pr_aload_n (pc := 85) C dX3_turn_85 rfl ?_
    refine pr_geti (pc := 86) C 126 wf_X3_164 rfl (by decide) (pl_3 (sj_n0 hs (by first | assumption | omega))) dX3_turn_86 ?_
    refine pr_eqi (v := S 220 t) (sj_r126 hs (by first | assumption | omega)) ?_
    exact pr_iret (pc := 89) C E (Or.inl rfl) (by omega) (by omega) ⟨rfl, rfl⟩ dX3_turn_89
  · -- 3
    refine pr_tableIn (pc := 21) C 90 dX3_turn_21 (by decide) (by decide) (off := 69) (by decide) (by decide) ?_
    refine pr_aload_n (pc := 90) C dX3_turn_90 rfl ?_
    refine pr_geti (pc := 91) C 127 wf_X3_167 rfl (by decide) (pl_3 (sj_n0 hs (by first | assumption | omega))) dX3_turn_91 ?_
    refine pr_eqi (v := S 221 t) (sj_r127 hs (by first | assumption | omega)) ?_
    exact pr_iret (pc := 94) C E (Or.inl rfl) (by omega) (by omega) ⟨rfl, rfl⟩ dX3_turn_94
  · -- 4
    refine pr_tableIn (pc := 21) C 95 dX3_turn_21 (by decide) (by decide) (off := 74) (by decide) (by decide) ?_
    refine pr_aload_n (pc := 95) C dX3_turn_95 rfl ?_
    refine pr_geti (pc := 96) C 122 wf_X3_170 rfl (by decide) (pl_3 (sj_n0 hs (by first | assumption | omega))) dX3_turn_96 ?_
    refine pr_eqi (v := S 222 t) (sj_r122 hs (by first | assumption | omega)) ?_
    exact pr_iret (pc := 99) C E (Or.inl rfl) (by omega) (by omega) ⟨rfl, rfl⟩ dX3_turn_99
  · -- 5
    refine pr_tableIn (pc := 21) C 100 dX3_turn_21 (by decide) (by decide) (off := 79) (by decide) (by decide) ?_
    refine pr_aload_n (pc := 100) C dX3_turn_100 rfl ?_
    refine pr_geti (pc := 101) C 123 wf_X3_173 rfl (by decide) (pl_3 (sj_n0 hs (by first | assumption | omega))) dX3_turn_101 ?_
    refine pr_eqi (v := S 223 t) (sj_r123 hs (by first | assumption | omega)) ?_
    exact pr_iret (pc := 104) C E (Or.inl rfl) (by omega) (by omega) ⟨rfl, rfl⟩ dX3_turn_104
  · -- 6
    refine pr_tableIn (pc := 21) C 105 dX3_turn_21 (by decide) (by decide) (off := 84) (by decide) (by decide) ?_
    refine pr_aload_n (pc := 105) C dX3_turn_105 rfl ?_
    refine pr_geti (pc := 106) C 128 wf_X3_176 rfl (by decide) (pl_3 (sj_n0 hs (by first | assumption | omega))) dX3_turn_106 ?_
    exact pr_iret (pc := 109) C E (Or.inl rfl) (by omega) (by omega) ⟨by rw [sc_oft0.2.2.2.2.2.2.1]; exact congrArg (fun q => some (pv_i q)) (sj_st0 hs hz (by omega) : K 128 t 0 = S 224 t), rfl⟩ dX3_turn_109
  · -- 7
    refine pr_tableIn (pc := 21) C 110 dX3_turn_21 (by decide) (by decide) (off := 89) (by decide) (by decide) ?_
    refine pr_aload_n (pc := 110) C dX3_turn_110 rfl ?_
    refine pr_geti (pc := 111) C 129 wf_X3_179 rfl (by decide) (pl_3 (sj_n0 hs (by first | assumption | omega))) dX3_turn_111 ?_
    refine pr_eqi (v := S 225 t) (sj_r129 hs (by first | assumption | omega)) ?_
    exact pr_iret (pc := 114) C E (Or.inl rfl) (by omega) (by omega) ⟨rfl, rfl⟩ dX3_turn_114
  · -- 8
    refine pr_tableIn (pc := 21) C 115 dX3_turn_21 (by decide) (by decide) (off := 94) (by decide) (by decide) ?_
    refine pr_aload_n (pc := 115) C dX3_turn_115 rfl ?_
    refine pr_geti (pc := 116) C 130 wf_X3_182 rfl (by decide) (pl_3 (sj_n0 hs (by first | assumption | omega))) dX3_turn_116 ?_
    refine pr_eqi (v := S 227 t) (sj_r130 hs (by first | assumption | omega)) ?_
    refine pr_if_eq (pc := 119) C 126 dX3_turn_119 (by decide) (fun c_119 => ?_) (fun c_119 => ?_)
    · refine pr_iconst (pc := 126) (v := 0) C dX3_turn_126 (by decide) ?_
      exact pr_iret (pc := 127) C E (Or.inl rfl) (by omega) (by omega) ⟨by rw [sc_oft0.2.2.2.2.2.2.2.2, decide_eq_false (not_not_intro c_119)]; rfl, rfl⟩ dX3_turn_127
    · refine pr_iconst (pc := 122) (v := 1) C dX3_turn_122 (by decide) ?_
      refine pr_goto (pc := 123) C 127 dX3_turn_123 (by decide) ?_
      exact pr_iret (pc := 127) C E (Or.inl rfl) (by omega) (by omega) ⟨by rw [sc_oft0.2.2.2.2.2.2.2.2, decide_eq_true (show S 227 t ≠ 0 from c_119)]; rfl, rfl⟩ dX3_turn_127

set_option maxRecDepth 100000 in
set_option maxHeartbeats 4000000 in
theorem c_X3_heardY (G : pa_G) (l : Launch) (K : Nat → Nat → Nat → Int32) (Sm S : Nat → Nat → Int32) (N : Nat → Nat) (O : Nat → Int64) (T D e : Nat) (z : sj_Z) (hs : sj_M K N T D z e S) (t k : Nat) (hT : T ≤ 100) (ht : t < T) (hk4 : k < 4) : pa_MP G l mX3_heard 5 [pv_o 4 0, pv_i (nI t), pv_i (nI k)] (K, Sm, N, O) (pv_i (S 228 (4 * t + k))) := by
  refine pa_go l (by decide) (by simp [pa_c1l, pa_c1]) (fun _ => rfl) fun x C E el ea => ?_
  subst el
  have hTD := sj_TD hs
  show pa_w G x 4 (K, Sm, N, O) 0 0 0 [some (pv_o 4 0), some (pv_i (nI t)), some (pv_i (nI k)), none] []
  refine pr_aload_n (pc := 0) C dX3_heard_0 rfl ?_
  refine pr_iload_n (pc := 1) C dX3_heard_1 rfl ?_
  refine pr_vP (pc := 2) C (c_X3_turnAtY G _ K Sm S N O T D e z hs t (by first | assumption | omega) hT) wv_X3_151 rfl rfl (by decide) (by decide) (pl_4 _) (Nat.le_of_ble_eq_true rfl) (by omega) (by omega) dX3_heard_2 ?_
  refine pr_astore_n (pc := 5) C dX3_heard_5 (by decide) ?_
  refine pr_aload_n (pc := 6) C dX3_heard_6 rfl ?_
  refine pr_ifnonnull1 (pc := 7) C 20 dX3_heard_7 (by decide) ?_
  refine pr_iload_n (pc := 20) C dX3_heard_20 rfl ?_
  refine pr_sE (pc := 21) C (c_X3_needSpeakerY G _ (K, Sm, N, O) k (by first | assumption | omega)) ws_X3_39 rfl rfl (by decide) (Nat.le_of_ble_eq_true rfl) (by omega) (by omega) dX3_heard_21 ?_
  refine pr_aload_n (pc := 24) C dX3_heard_24 rfl ?_
  refine pr_geta (pc := 25) C 131 231 wf_X3_187 rfl rfl (by decide) (pl_3 (sj_n0 hs (by first | assumption | omega))) dX3_heard_25 ?_
  refine pr_iload_n (pc := 28) C dX3_heard_28 rfl ?_
  refine pr_aldi (pc := 29) (n := 4) C 131 k rfl rfl rfl (pl_r3 (by decide) (sj_n0 hs (by first | assumption | omega))) rfl (by omega) (by decide) dX3_heard_29 ?_
  refine pr_eqi (v := S 228 (4 * t + k)) (sj_r131 hs (by first | assumption | omega) (by omega)) ?_
  exact pr_iret (pc := 30) C E (Or.inl rfl) (by omega) (by omega) ⟨rfl, rfl⟩ dX3_heard_30

set_option maxRecDepth 100000 in
set_option maxHeartbeats 4000000 in
theorem c_X3_standByY (G : pa_G) (l : Launch) (K : Nat → Nat → Nat → Int32) (Sm S : Nat → Nat → Int32) (N : Nat → Nat) (O : Nat → Int64) (T D e : Nat) (z : sj_Z) (hs : sj_M K N T D z e S) (sp a9 : Nat) (hs4 : sp < 4) (ha10 : a9 < 10) (hM : mw_S S T) (hJ : mj S T) : pa_MP G l mX3_standBy 4 [pv_o 4 0, pv_i (nI sp), pv_i (nI a9)] (K, Sm, N, O) (pv_i (S 209 (10 * sp + a9))) := by
  refine pa_go l (by decide) (by simp [pa_c1l, pa_c1]) (fun _ => rfl) fun x C E el ea => ?_
  subst el
  have hT := hM.1.1
  have hTD := sj_TD hs
  show pa_w G x 4 (K, Sm, N, O) 0 0 0 [some (pv_o 4 0), some (pv_i (nI sp)), some (pv_i (nI a9)), none] []
  refine pr_iload_n (pc := 0) C dX3_standBy_0 rfl ?_
  refine pr_sE (pc := 1) C (c_X3_needSpeakerY G _ (K, Sm, N, O) sp (by first | assumption | omega)) ws_X3_39 rfl rfl (by decide) (Nat.le_of_ble_eq_true rfl) (by omega) (by omega) dX3_standBy_1 ?_
  refine pr_iload_n (pc := 4) C dX3_standBy_4 rfl ?_
  refine pr_sE (pc := 5) C (c_X3_needAtomY G _ (K, Sm, N, O) (nI a9) (sc_in9 _ (by first | assumption | omega))) ws_X3_70 rfl rfl (by decide) (Nat.le_of_ble_eq_true rfl) (by omega) (by omega) dX3_standBy_5 ?_
  refine pr_aload_n (pc := 8) C dX3_standBy_8 rfl ?_
  refine pr_geta (pc := 9) C 160 260 wf_X3_11 rfl rfl (by decide) (pl_4 _) dX3_standBy_9 ?_
  refine pr_iload_n (pc := 12) C dX3_standBy_12 rfl ?_
  refine pr_alds (pc := 13) (n := 4) C 160 sp rfl rfl rfl (pl_r4 (by decide)) rfl (by omega) (by decide) dX3_standBy_13 ?_
  refine pr_geta (pc := 14) C 50 150 wf_X3_193 rfl rfl (by decide) (pl_1 (by first | assumption | omega)) dX3_standBy_14 ?_
  refine pr_iload_n (pc := 17) C dX3_standBy_17 rfl ?_
  by_cases hh : S 208 (10 * sp + a9) = 0
  · -- none
    refine pr_aldt (pc := 18) (n := 10) C 50 a9 rfl rfl rfl (pl_r1 (by decide) (by first | assumption | omega)) rfl (by omega) (by decide) dX3_standBy_18 ?_
    refine pr_eqr (v := none) (by show pa_rc 3 (K 50 sp a9) = none; rw [sj_r50 hs hs4 ha10, (hJ.2.1 _ (by omega)).2 hh]; rfl) ?_
    refine pr_astore_n (pc := 19) C dX3_standBy_19 (by decide) ?_
    refine pr_aload_n (pc := 20) C dX3_standBy_20 rfl ?_
    refine pr_ifnonnull0 (pc := 21) C dX3_standBy_21 ?_
    refine pr_iconst (pc := 24) (v := -1) C dX3_standBy_24 (by decide) ?_
    refine pr_goto (pc := 25) C 32 dX3_standBy_25 (by decide) ?_
    exact pr_iret (pc := 32) C E (Or.inl rfl) (by omega) (by omega) ⟨by rw [(hJ.2.1 _ (by omega)).2 hh], rfl⟩ dX3_standBy_32
  · -- one
    obtain ⟨tv, ltH, eH⟩ := hM.2.2.2.2.1 _ hh
    refine pr_aldt (pc := 18) (n := 10) C 50 a9 rfl rfl rfl (pl_r1 (by decide) (by first | assumption | omega)) rfl (by omega) (by decide) dX3_standBy_18 ?_
    refine pr_eqr (v := some (3, tv)) (by show pa_rc 3 (K 50 sp a9) = some (3, tv); rw [sj_r50 hs hs4 ha10, eH]; exact pa_rc_nI (by omega)) ?_
    refine pr_astore_n (pc := 19) C dX3_standBy_19 (by decide) ?_
    refine pr_aload_n (pc := 20) C dX3_standBy_20 rfl ?_
    refine pr_ifnonnull1 (pc := 21) C 28 dX3_standBy_21 (by decide) ?_
    refine pr_aload_n (pc := 28) C dX3_standBy_28 rfl ?_
    refine pr_geti (pc := 29) C 125 wf_X3_115 rfl (by decide) (pl_3 (sj_n0 hs (by first | assumption | omega))) dX3_standBy_29 ?_
    refine pr_eqi (v := nI tv) (sj_r125 hs (by first | assumption | omega)) ?_
    exact pr_iret (pc := 32) C E (Or.inl rfl) (by omega) (by omega) ⟨by rw [eH], rfl⟩ dX3_standBy_32

set_option maxRecDepth 100000 in
set_option maxHeartbeats 4000000 in
theorem c_X3_hintY (G : pa_G) (l : Launch) (K : Nat → Nat → Nat → Int32) (Sm S : Nat → Nat → Int32) (N : Nat → Nat) (O : Nat → Int64) (T D e : Nat) (z : sj_Z) (hs : sj_M K N T D z e S) (sp a9 : Nat) (hs4 : sp < 4) (ha10 : a9 < 10) (hM : mw_S S T) (hJ : mj S T) : pa_MP G l mX3_hint 4 [pv_o 4 0, pv_i (nI sp), pv_i (nI a9)] (K, Sm, N, O) (pv_i (S 210 (10 * sp + a9))) := by
  refine pa_go l (by decide) (by simp [pa_c1l, pa_c1]) (fun _ => rfl) fun x C E el ea => ?_
  subst el
  have hT := hM.1.1
  have hTD := sj_TD hs
  show pa_w G x 4 (K, Sm, N, O) 0 0 0 [some (pv_o 4 0), some (pv_i (nI sp)), some (pv_i (nI a9)), none] []
  refine pr_iload_n (pc := 0) C dX3_hint_0 rfl ?_
  refine pr_sE (pc := 1) C (c_X3_needSpeakerY G _ (K, Sm, N, O) sp (by first | assumption | omega)) ws_X3_39 rfl rfl (by decide) (Nat.le_of_ble_eq_true rfl) (by omega) (by omega) dX3_hint_1 ?_
  refine pr_iload_n (pc := 4) C dX3_hint_4 rfl ?_
  refine pr_sE (pc := 5) C (c_X3_needAtomY G _ (K, Sm, N, O) (nI a9) (sc_in9 _ (by first | assumption | omega))) ws_X3_70 rfl rfl (by decide) (Nat.le_of_ble_eq_true rfl) (by omega) (by omega) dX3_hint_5 ?_
  refine pr_aload_n (pc := 8) C dX3_hint_8 rfl ?_
  refine pr_geta (pc := 9) C 160 260 wf_X3_11 rfl rfl (by decide) (pl_4 _) dX3_hint_9 ?_
  refine pr_iload_n (pc := 12) C dX3_hint_12 rfl ?_
  refine pr_alds (pc := 13) (n := 4) C 160 sp rfl rfl rfl (pl_r4 (by decide)) rfl (by omega) (by decide) dX3_hint_13 ?_
  refine pr_geta (pc := 14) C 51 151 wf_X3_209 rfl rfl (by decide) (pl_1 (by first | assumption | omega)) dX3_hint_14 ?_
  refine pr_iload_n (pc := 17) C dX3_hint_17 rfl ?_
  by_cases hh : S 210 (10 * sp + a9) = 0
  · -- none
    refine pr_aldt (pc := 18) (n := 10) C 51 a9 rfl rfl rfl (pl_r1 (by decide) (by first | assumption | omega)) rfl (by omega) (by decide) dX3_hint_18 ?_
    refine pr_eqr (v := none) (by show pa_rc 3 (K 51 sp a9) = none; rw [sj_r51 hs hs4 ha10, if_pos hh]; rfl) ?_
    refine pr_astore_n (pc := 19) C dX3_hint_19 (by decide) ?_
    refine pr_aload_n (pc := 20) C dX3_hint_20 rfl ?_
    refine pr_ifnonnull0 (pc := 21) C dX3_hint_21 ?_
    refine pr_iconst (pc := 24) (v := 0) C dX3_hint_24 (by decide) ?_
    refine pr_goto (pc := 25) C 32 dX3_hint_25 (by decide) ?_
    exact pr_iret (pc := 32) C E (Or.inl rfl) (by omega) (by omega) ⟨by rw [hh], rfl⟩ dX3_hint_32
  · -- one
    obtain ⟨eH, ltH, -⟩ := mw_S_H hM hh
    obtain ⟨-, hvt, -⟩ := hJ.2.2.2.1 _ (show 10 * sp + a9 < 40 by omega) hh
    generalize mn (S 211 (10 * sp + a9)) = tv at eH ltH hvt
    refine pr_aldt (pc := 18) (n := 10) C 51 a9 rfl rfl rfl (pl_r1 (by decide) (by first | assumption | omega)) rfl (by omega) (by decide) dX3_hint_18 ?_
    refine pr_eqr (v := some (3, tv)) (by show pa_rc 3 (K 51 sp a9) = some (3, tv); rw [sj_r51 hs hs4 ha10, if_neg hh, eH]; exact pa_rc_nI (by omega)) ?_
    refine pr_astore_n (pc := 19) C dX3_hint_19 (by decide) ?_
    refine pr_aload_n (pc := 20) C dX3_hint_20 rfl ?_
    refine pr_ifnonnull1 (pc := 21) C 28 dX3_hint_21 (by decide) ?_
    refine pr_aload_n (pc := 28) C dX3_hint_28 rfl ?_
    refine pr_geti (pc := 29) C 127 wf_X3_167 rfl (by decide) (pl_3 (sj_n0 hs (by first | assumption | omega))) dX3_hint_29 ?_
    refine pr_eqi (v := S 221 tv) (sj_r127 hs (by first | assumption | omega)) ?_
    exact pr_iret (pc := 32) C E (Or.inl rfl) (by omega) (by omega) ⟨by rw [hvt], rfl⟩ dX3_hint_32

set_option maxRecDepth 100000 in
set_option maxHeartbeats 4000000 in
theorem c_X3_standAnewY (G : pa_G) (l : Launch) (K : Nat → Nat → Nat → Int32) (Sm S : Nat → Nat → Int32) (N : Nat → Nat) (O : Nat → Int64) (T D e : Nat) (z : sj_Z) (hs : sj_M K N T D z e S) (sp a9 : Nat) (hs4 : sp < 4) (ha10 : a9 < 10) : pa_MP G l mX3_standAnew 4 [pv_o 4 0, pv_i (nI sp), pv_i (nI a9)] (K, Sm, N, O) (pv_i (S 208 (10 * sp + a9))) := by
  refine pa_go l (by decide) (by simp [pa_c1l, pa_c1]) (fun _ => rfl) fun x C E el ea => ?_
  subst el
  have hN7 := sj_c7 hs
  have hN14 := sj_N14 hs
  show pa_w G x 6 (K, Sm, N, O) 0 0 0 [some (pv_o 4 0), some (pv_i (nI sp)), some (pv_i (nI a9)), none, none, none] []
  refine pr_iload_n (pc := 0) C dX3_standAnew_0 rfl ?_
  refine pr_sE (pc := 1) C (c_X3_needSpeakerY G _ (K, Sm, N, O) sp (by first | assumption | omega)) ws_X3_39 rfl rfl (by decide) (Nat.le_of_ble_eq_true rfl) (by omega) (by omega) dX3_standAnew_1 ?_
  refine pr_iload_n (pc := 4) C dX3_standAnew_4 rfl ?_
  refine pr_sE (pc := 5) C (c_X3_needAtomY G _ (K, Sm, N, O) (nI a9) (sc_in9 _ (by first | assumption | omega))) ws_X3_70 rfl rfl (by decide) (Nat.le_of_ble_eq_true rfl) (by omega) (by omega) dX3_standAnew_5 ?_
  refine pr_iconst (pc := 8) (v := 0) C dX3_standAnew_8 (by decide) ?_
  refine pr_istore_n (pc := 9) C dX3_standAnew_9 (by decide) ?_
  refine pr_los (lo' := [some (pv_o 4 0), some (pv_i (nI sp)), some (pv_i (nI a9)), some (pv_i (pz_it (sj_fs K sp a9) 0 0)), none, none]) rfl ?_
  refine pr_iconst (pc := 10) (v := 0) C dX3_standAnew_10 (by decide) ?_
  refine pr_istore (pc := 11) C dX3_standAnew_11 (by decide) ?_
  have lp2 : ∀ (n3 k1 : Nat), k1 ≤ N 1 → N 1 < k1 + n3 → pa_w G x 6 (K, Sm, N, O) 0 0 13 [some (pv_o 4 0), some (pv_i (nI sp)), some (pv_i (nI a9)), some (pv_i (pz_it (sj_fs K sp a9) k1 0)), some (pv_i (nI k1)), none] [] := by
    intro n3
    induction n3 with
    | zero => intro k1 h1 h2; exact absurd h2 (by omega)
    | succ n3 ih4 =>
      intro k1 hk1_k1 hk2_k1
      refine pr_iload (pc := 13) C dX3_standAnew_13 rfl ?_
      refine pr_aload_n (pc := 15) C dX3_standAnew_15 rfl ?_
      refine pr_getl (pc := 16) C 164 2 wf_X3_29 rfl rfl rfl (pl_4 _) dX3_standAnew_16 ?_
      refine pr_vP (pc := 19) C (c_szS G _ K Sm S N O T D e z hs) wv_X3_147 rfl rfl (by decide) (by decide) (pl_0 (by decide)) (Nat.le_of_ble_eq_true rfl) (by omega) (by omega) dX3_standAnew_19 ?_
      refine pr_icmp_geN (pc := 22) C 69 k1 (N 1) dX3_standAnew_22 (by decide) rfl rfl (by omega) (by omega) (fun c_22 => ?_) (fun c_22 => ?_)
      · obtain rfl : N 1 = k1 := by omega
        refine pr_iload_n (pc := 69) C dX3_standAnew_69 rfl ?_
        exact pr_iret (pc := 70) C E (Or.inl rfl) (by omega) (by omega) ⟨by rw [sj_rst hs hs4 ha10], rfl⟩ dX3_standAnew_70
      · refine pr_aload_n (pc := 25) C dX3_standAnew_25 rfl ?_
        refine pr_getl (pc := 26) C 164 2 wf_X3_29 rfl rfl rfl (pl_4 _) dX3_standAnew_26 ?_
        refine pr_iload (pc := 29) C dX3_standAnew_29 rfl ?_
        refine pr_vP (pc := 31) C (c_gtS G _ K Sm S N O T D e z hs k1 (by first | assumption | omega)) wv_X3_197 rfl rfl (by decide) (by decide) (pl_0 (by decide)) (Nat.le_of_ble_eq_true rfl) (by omega) (by omega) dX3_standAnew_31 ?_
        refine pr_cast (pc := 34) C (k := 2) (r := (RX1, TX1, 3)) ⟨by decide, by decide⟩ rfl (pa_wi (by decide +kernel) rfl) (pl_2 (by first | assumption | omega)) dX3_standAnew_34 ?_
        refine pr_astore (pc := 37) C dX3_standAnew_37 (by decide) ?_
        refine pr_aload (pc := 39) C dX3_standAnew_39 rfl ?_
        refine pr_geti (pc := 41) C 80 wf_X3_203 rfl (by decide) (pl_2 (by first | assumption | omega)) dX3_standAnew_41 ?_
        refine pr_iload_n (pc := 44) C dX3_standAnew_44 rfl ?_
        refine pr_icmp_ne (pc := 45) C 63 dX3_standAnew_45 (by decide) (fun c_45 => ?_) (fun c_45 => ?_)
        · refine pr_los (lo' := [some (pv_o 4 0), some (pv_i (nI sp)), some (pv_i (nI a9)), some (pv_i (pz_it (sj_fs K sp a9) (k1 + 1) 0)), some (pv_i (nI k1)), some (pv_o 2 k1)]) (by rw [show pz_it (sj_fs K sp a9) (k1 + 1) 0 = (pz_it (sj_fs K sp a9) k1 0) from if_neg (fun q => c_45 q.1)]; rfl) ?_
          refine pr_iincN (pc := 63) C dX3_standAnew_63 rfl k1 1 rfl rfl (by decide) ?_
          refine pr_goto (pc := 66) C 13 dX3_standAnew_66 (by decide) ?_
          refine pr_lo (lo' := [some (pv_o 4 0), some (pv_i (nI sp)), some (pv_i (nI a9)), some (pv_i (pz_it (sj_fs K sp a9) (k1 + 1) 0)), some (pv_i (nI (k1 + 1))), none]) (show pa_lle [some (pv_o 4 0), some (pv_i (nI sp)), some (pv_i (nI a9)), some (pv_i (pz_it (sj_fs K sp a9) (k1 + 1) 0)), some (pv_i (nI (k1 + 1))), none] [some (pv_o 4 0), some (pv_i (nI sp)), some (pv_i (nI a9)), some (pv_i (pz_it (sj_fs K sp a9) (k1 + 1) 0)), some (pv_i (nI (k1 + 1))), some (pv_o 2 k1)] by simp [pa_lle]) ?_
          exact ih4 (k1 + 1) (by omega) (by omega)
        · refine pr_aload (pc := 48) C dX3_standAnew_48 rfl ?_
          refine pr_geti (pc := 50) C 81 wf_X3_205 rfl (by decide) (pl_2 (by first | assumption | omega)) dX3_standAnew_50 ?_
          refine pr_iload_n (pc := 53) C dX3_standAnew_53 rfl ?_
          refine pr_icmp_ne (pc := 54) C 63 dX3_standAnew_54 (by decide) (fun c_54 => ?_) (fun c_54 => ?_)
          · refine pr_los (lo' := [some (pv_o 4 0), some (pv_i (nI sp)), some (pv_i (nI a9)), some (pv_i (pz_it (sj_fs K sp a9) (k1 + 1) 0)), some (pv_i (nI k1)), some (pv_o 2 k1)]) (by rw [show pz_it (sj_fs K sp a9) (k1 + 1) 0 = (pz_it (sj_fs K sp a9) k1 0) from if_neg (fun q => c_54 q.2)]; rfl) ?_
            refine pr_iincN (pc := 63) C dX3_standAnew_63 rfl k1 1 rfl rfl (by decide) ?_
            refine pr_goto (pc := 66) C 13 dX3_standAnew_66 (by decide) ?_
            refine pr_lo (lo' := [some (pv_o 4 0), some (pv_i (nI sp)), some (pv_i (nI a9)), some (pv_i (pz_it (sj_fs K sp a9) (k1 + 1) 0)), some (pv_i (nI (k1 + 1))), none]) (show pa_lle [some (pv_o 4 0), some (pv_i (nI sp)), some (pv_i (nI a9)), some (pv_i (pz_it (sj_fs K sp a9) (k1 + 1) 0)), some (pv_i (nI (k1 + 1))), none] [some (pv_o 4 0), some (pv_i (nI sp)), some (pv_i (nI a9)), some (pv_i (pz_it (sj_fs K sp a9) (k1 + 1) 0)), some (pv_i (nI (k1 + 1))), some (pv_o 2 k1)] by simp [pa_lle]) ?_
            exact ih4 (k1 + 1) (by omega) (by omega)
          · refine pr_aload (pc := 57) C dX3_standAnew_57 rfl ?_
            refine pr_geti (pc := 59) C 82 wf_X3_208 rfl (by decide) (pl_2 (by first | assumption | omega)) dX3_standAnew_59 ?_
            refine pr_istore_n (pc := 62) C dX3_standAnew_62 (by decide) ?_
            refine pr_los (lo' := [some (pv_o 4 0), some (pv_i (nI sp)), some (pv_i (nI a9)), some (pv_i (pz_it (sj_fs K sp a9) (k1 + 1) 0)), some (pv_i (nI k1)), some (pv_o 2 k1)]) (by rw [show pz_it (sj_fs K sp a9) (k1 + 1) 0 = (K 82 k1 0) from if_pos ⟨c_45, c_54⟩]; rfl) ?_
            refine pr_iincN (pc := 63) C dX3_standAnew_63 rfl k1 1 rfl rfl (by decide) ?_
            refine pr_goto (pc := 66) C 13 dX3_standAnew_66 (by decide) ?_
            refine pr_lo (lo' := [some (pv_o 4 0), some (pv_i (nI sp)), some (pv_i (nI a9)), some (pv_i (pz_it (sj_fs K sp a9) (k1 + 1) 0)), some (pv_i (nI (k1 + 1))), none]) (show pa_lle [some (pv_o 4 0), some (pv_i (nI sp)), some (pv_i (nI a9)), some (pv_i (pz_it (sj_fs K sp a9) (k1 + 1) 0)), some (pv_i (nI (k1 + 1))), none] [some (pv_o 4 0), some (pv_i (nI sp)), some (pv_i (nI a9)), some (pv_i (pz_it (sj_fs K sp a9) (k1 + 1) 0)), some (pv_i (nI (k1 + 1))), some (pv_o 2 k1)] by simp [pa_lle]) ?_
            exact ih4 (k1 + 1) (by omega) (by omega)
  exact lp2 (N 1 + 1) 0 (by omega) (by omega)

set_option maxRecDepth 100000 in
set_option maxHeartbeats 4000000 in
theorem c_X3_isSupportedY (G : pa_G) (l : Launch) (K : Nat → Nat → Nat → Int32) (Sm S : Nat → Nat → Int32) (N : Nat → Nat) (O : Nat → Int64) (T D e : Nat) (z : sj_Z) (hs : sj_M K N T D z e S) (sp a9 : Nat) (hs4 : sp < 4) (ha10 : a9 < 10) : pa_MP G l mX3_isSupported 4 [pv_o 4 0, pv_i (nI sp), pv_i (nI a9)] (K, Sm, N, O) (pv_i (pz_b (ms_sup S sp a9))) := by
  refine pa_go l (by decide) (by simp [pa_c1l, pa_c1]) (fun _ => rfl) fun x C E el ea => ?_
  subst el
  obtain ⟨bb, hb1, hKb, hbb⟩ := sj_r52 hs hs4 ha10
  show pa_w G x 5 (K, Sm, N, O) 0 0 0 [some (pv_o 4 0), some (pv_i (nI sp)), some (pv_i (nI a9)), none, none] []
  refine pr_iload_n (pc := 0) C dX3_isSupported_0 rfl ?_
  refine pr_sE (pc := 1) C (c_X3_needSpeakerY G _ (K, Sm, N, O) sp (by first | assumption | omega)) ws_X3_39 rfl rfl (by decide) (Nat.le_of_ble_eq_true rfl) (by omega) (by omega) dX3_isSupported_1 ?_
  refine pr_iload_n (pc := 4) C dX3_isSupported_4 rfl ?_
  refine pr_sE (pc := 5) C (c_X3_needAtomY G _ (K, Sm, N, O) (nI a9) (sc_in9 _ (by first | assumption | omega))) ws_X3_70 rfl rfl (by decide) (Nat.le_of_ble_eq_true rfl) (by omega) (by omega) dX3_isSupported_5 ?_
  refine pr_aload_n (pc := 8) C dX3_isSupported_8 rfl ?_
  refine pr_geta (pc := 9) C 160 260 wf_X3_11 rfl rfl (by decide) (pl_4 _) dX3_isSupported_9 ?_
  refine pr_iload_n (pc := 12) C dX3_isSupported_12 rfl ?_
  refine pr_alds (pc := 13) (n := 4) C 160 sp rfl rfl rfl (pl_r4 (by decide)) rfl (by omega) (by decide) dX3_isSupported_13 ?_
  refine pr_astore_n (pc := 14) C dX3_isSupported_14 (by decide) ?_
  refine pr_aload_n (pc := 15) C dX3_isSupported_15 rfl ?_
  refine pr_geta (pc := 16) C 49 149 wf_X3_190 rfl rfl (by decide) (pl_1 (by first | assumption | omega)) dX3_isSupported_16 ?_
  refine pr_iload_n (pc := 19) C dX3_isSupported_19 rfl ?_
  refine pr_aldi (pc := 20) (n := 10) C 49 a9 rfl rfl rfl (pl_r1 (by decide) (by first | assumption | omega)) rfl (by omega) (by decide) dX3_isSupported_20 ?_
  refine pr_eqi (v := S 208 (10 * sp + a9)) (sj_r49 hs (by first | assumption | omega) (by omega)) ?_
  refine pr_if_ne (pc := 21) C 26 dX3_isSupported_21 (by decide) (fun c_21 => ?_) (fun c_21 => ?_)
  · refine pr_iconst (pc := 26) (v := 0) C dX3_isSupported_26 (by decide) ?_
    refine pr_istore (pc := 27) C dX3_isSupported_27 (by decide) ?_
    have lp2 : ∀ (n3 k1 : Nat), k1 ≤ 10 → 10 < k1 + n3 → (∀ j, j < k1 → (ms_spk S sp a9) j = false) → pa_w G x 5 (K, Sm, N, O) 0 0 29 [some (pv_o 4 0), some (pv_i (nI sp)), some (pv_i (nI a9)), some (pv_o 1 sp), some (pv_i (nI k1))] [] := by
      intro n3
      induction n3 with
      | zero => intro k1 h1 h2; exact absurd h2 (by omega)
      | succ n3 ih4 =>
        intro k1 hk1_k1 hk2_k1 hx_k1
        refine pr_iload (pc := 29) C dX3_isSupported_29 rfl ?_
        refine pr_bipush (pc := 31) (v := 10) C dX3_isSupported_31 (by decide) ?_
        refine pr_icmp_geN (pc := 33) C 69 k1 10 dX3_isSupported_33 (by decide) rfl rfl (by omega) (by omega) (fun c_33 => ?_) (fun c_33 => ?_)
        · obtain rfl : 10 = k1 := by omega
          refine pr_iconst (pc := 69) (v := 0) C dX3_isSupported_69 (by decide) ?_
          exact pr_iret (pc := 70) C E (Or.inr ⟨rfl, (by decide)⟩) (by omega) (by omega) ⟨by unfold ms_sup; rw [pz_any_no hx_k1, Bool.false_and]; rfl, rfl⟩ dX3_isSupported_70
        · refine pr_aload_n (pc := 36) C dX3_isSupported_36 rfl ?_
          refine pr_geta (pc := 37) C 52 152 wf_X3_212 rfl rfl (by decide) (pl_1 (by first | assumption | omega)) dX3_isSupported_37 ?_
          refine pr_iload_n (pc := 40) C dX3_isSupported_40 rfl ?_
          refine pr_aldi (pc := 41) (n := 10) C 52 a9 rfl rfl rfl (pl_r1 (by decide) (by first | assumption | omega)) rfl (by omega) (by decide) dX3_isSupported_41 ?_
          refine pr_eqi hKb ?_
          refine pr_iload (pc := 42) C dX3_isSupported_42 rfl ?_
          refine pr_sP (pc := 44) C (c_X3_isIn G _ (K, Sm, N, O) (nI bb) (nI k1)) ws_X3_49 rfl rfl (by decide) (Nat.le_of_ble_eq_true rfl) (by omega) (by omega) dX3_isSupported_44 ?_
          refine pr_ifb_eq (pc := 47) C 63 dX3_isSupported_47 (by decide) (fun c_47 => ?_) (fun c_47 => ?_)
          · refine pr_iincN (pc := 63) C dX3_isSupported_63 rfl k1 1 rfl rfl (by decide) ?_
            refine pr_goto (pc := 66) C 29 dX3_isSupported_66 (by decide) ?_
            exact ih4 (k1 + 1) (by omega) (by omega) (pz_nx (p := (ms_spk S sp a9)) hx_k1 (by unfold ms_spk; rw [← hbb k1 (by omega), ← sj_bit _ hb1 _ (by omega), c_47, Bool.false_and]))
          · refine pr_aload_n (pc := 50) C dX3_isSupported_50 rfl ?_
            refine pr_geta (pc := 51) C 49 149 wf_X3_190 rfl rfl (by decide) (pl_1 (by first | assumption | omega)) dX3_isSupported_51 ?_
            refine pr_iload (pc := 54) C dX3_isSupported_54 rfl ?_
            refine pr_aldi (pc := 56) (n := 10) C 49 k1 rfl rfl rfl (pl_r1 (by decide) (by first | assumption | omega)) rfl (by omega) (by decide) dX3_isSupported_56 ?_
            refine pr_eqi (v := S 208 (10 * sp + k1)) (sj_r49 hs (by first | assumption | omega) (by omega)) ?_
            refine pr_iconst (pc := 57) (v := 1) C dX3_isSupported_57 (by decide) ?_
            refine pr_icmp_ne (pc := 58) C 63 dX3_isSupported_58 (by decide) (fun c_58 => ?_) (fun c_58 => ?_)
            · refine pr_iincN (pc := 63) C dX3_isSupported_63 rfl k1 1 rfl rfl (by decide) ?_
              refine pr_goto (pc := 66) C 29 dX3_isSupported_66 (by decide) ?_
              exact ih4 (k1 + 1) (by omega) (by omega) (pz_nx (p := (ms_spk S sp a9)) hx_k1 (by unfold ms_spk; rw [decide_eq_false c_58, Bool.and_false]))
            · refine pr_iconst (pc := 61) (v := 1) C dX3_isSupported_61 (by decide) ?_
              exact pr_iret (pc := 62) C E (Or.inr ⟨rfl, (by decide)⟩) (by omega) (by omega) ⟨by unfold ms_sup; rw [pz_any_at (p := (ms_spk S sp a9)) (k := k1) (by omega) (by unfold ms_spk; rw [← hbb k1 (by omega), ← sj_bit _ hb1 _ (by omega), c_47, decide_eq_true c_58]; rfl), decide_eq_true (show S 208 (10 * sp + a9) ≠ 0 from c_21)]; rfl, rfl⟩ dX3_isSupported_62
    exact lp2 (10 + 1) 0 (by omega) (by omega) (fun j hj => absurd hj (by omega))
  · refine pr_iconst (pc := 24) (v := 0) C dX3_isSupported_24 (by decide) ?_
    exact pr_iret (pc := 25) C E (Or.inr ⟨rfl, (by decide)⟩) (by omega) (by omega) ⟨by unfold ms_sup; rw [decide_eq_false (not_not_intro c_21), Bool.and_false]; rfl, rfl⟩ dX3_isSupported_25

set_option maxRecDepth 100000 in
set_option maxHeartbeats 4000000 in
theorem c_X3_questionY (G : pa_G) (l : Launch) (K : Nat → Nat → Nat → Int32) (Sm S : Nat → Nat → Int32) (N : Nat → Nat) (O : Nat → Int64) (T D e : Nat) (z : sj_Z) (hs : sj_M K N T D z e S) (Q q0 p qq v9 wq : Nat) (hw : mw_Q S Q q0) (hp : p < Q) (hqq : S 232 (Q - 1 - p) = nI qq) (hqT : qq < T) (hT : T ≤ 100) (hv9 : v9 < 4) (hwq : S 218 qq = nI wq) (hwq4 : wq < 4) (hl : ms_lis (S 222 qq) = ms_one (S 222 qq)) : pa_MP G l mX3_question 5 [pv_o 4 0, pv_i (nI p), pv_i (nI v9)] (K, Sm, N, O) (pv_i (ms_que S qq v9)) := by
  refine pa_go l (by decide) (by simp [pa_c1l, pa_c1]) (fun _ => rfl) fun x C E el ea => ?_
  subst el
  have hTD := sj_TD hs
  have hQ6 := hw.2.1
  show pa_w G x 4 (K, Sm, N, O) 0 0 0 [some (pv_o 4 0), some (pv_i (nI p)), some (pv_i (nI v9)), none] []
  refine pr_iload_n (pc := 0) C dX3_question_0 rfl ?_
  refine pr_if_ltN (pc := 1) C 15 p dX3_question_1 (by decide) rfl (by omega) (fun c_1 => ?_) (fun c_1 => ?_)
  · exact absurd c_1 (by omega)
  · refine pr_iload_n (pc := 4) C dX3_question_4 rfl ?_
    refine pr_aload_n (pc := 5) C dX3_question_5 rfl ?_
    refine pr_getl (pc := 6) C 163 1 wf_X3_26 rfl rfl rfl (pl_4 _) dX3_question_6 ?_
    refine pr_vP (pc := 9) C (c_szQ G _ K Sm S N O T D e z hs) wv_X3_147 rfl rfl (by decide) (by decide) (pl_0 (by decide)) (Nat.le_of_ble_eq_true rfl) (by omega) (by omega) dX3_question_9 ?_
    refine pr_eqi hw.1 ?_
    refine pr_icmp_ltN (pc := 12) C 25 p Q dX3_question_12 (by decide) rfl rfl (by omega) (by omega) (fun c_12 => ?_) (fun c_12 => ?_)
    · refine pr_aload_n (pc := 25) C dX3_question_25 rfl ?_
      refine pr_getl (pc := 26) C 163 1 wf_X3_26 rfl rfl rfl (pl_4 _) dX3_question_26 ?_
      refine pr_aload_n (pc := 29) C dX3_question_29 rfl ?_
      refine pr_getl (pc := 30) C 163 1 wf_X3_26 rfl rfl rfl (pl_4 _) dX3_question_30 ?_
      refine pr_vP (pc := 33) C (c_szQ G _ K Sm S N O T D e z hs) wv_X3_147 rfl rfl (by decide) (by decide) (pl_0 (by decide)) (Nat.le_of_ble_eq_true rfl) (by omega) (by omega) dX3_question_33 ?_
      refine pr_eqi hw.1 ?_
      refine pr_iconst (pc := 36) (v := 1) C dX3_question_36 (by decide) ?_
      refine pr_isubN (pc := 37) C dX3_question_37 Q 1 rfl rfl (by omega) ?_
      refine pr_iload_n (pc := 38) C dX3_question_38 rfl ?_
      refine pr_isubN (pc := 39) C dX3_question_39 (Q - 1) p rfl rfl (by omega) ?_
      refine pr_vP (pc := 40) C (c_gtQ G _ K Sm S N O T D e z hs Q q0 ((Q - 1) - p) qq hw (by omega) hqq (by omega)) wv_X3_197 rfl rfl (by decide) (by decide) (pl_0 (by decide)) (Nat.le_of_ble_eq_true rfl) (by omega) (by omega) dX3_question_40 ?_
      refine pr_cast (pc := 43) C (k := 3) (r := (RX2, TX2, 13)) ⟨by decide, by decide⟩ rfl (pa_wi (by decide +kernel) rfl) (pl_3 (sj_n0 hs (by first | assumption | omega))) dX3_question_43 ?_
      refine pr_astore_n (pc := 46) C dX3_question_46 (by decide) ?_
      refine pr_iload_n (pc := 47) C dX3_question_47 rfl ?_
      obtain rfl | rfl | rfl | rfl : v9 = 0 ∨ v9 = 1 ∨ v9 = 2 ∨ v9 = 3 := by omega
      · -- 0
        refine pr_tableIn (pc := 48) C 80 dX3_question_48 (by decide) (by decide) (off := 32) (by decide) (by decide) ?_
        refine pr_aload_n (pc := 80) C dX3_question_80 rfl ?_
        refine pr_gets (pc := 81) C 120 wf_X3_105 rfl rfl (pl_3 (sj_n0 hs (by first | assumption | omega))) wq ((sj_r120 hs (by first | assumption | omega)).trans hwq) (by first | assumption | omega) dX3_question_81 ?_
        refine pr_geti (pc := 84) C 40 wf_X3_160 rfl (by decide) (pl_1 (by first | assumption | omega)) dX3_question_84 ?_
        refine pr_eqi (v := nI wq) (sj_r40 hs (by first | assumption | omega)) ?_
        exact pr_iret (pc := 87) C E (Or.inl rfl) (by omega) (by omega) ⟨by rw [show ms_que S qq 0 = S 218 qq from rfl, hwq], rfl⟩ dX3_question_87
      · -- 1
        refine pr_tableIn (pc := 48) C 88 dX3_question_48 (by decide) (by decide) (off := 40) (by decide) (by decide) ?_
        refine pr_aload_n (pc := 88) C dX3_question_88 rfl ?_
        refine pr_vP (pc := 89) C (c_X2_listener G _ K Sm S N O T D e z hs qq (by first | assumption | omega)) wv_X3_224 rfl rfl (by decide) (by decide) (pl_3 (sj_n0 hs (by first | assumption | omega))) (Nat.le_of_ble_eq_true rfl) (by omega) (by omega) dX3_question_89 ?_
        exact pr_iret (pc := 92) C E (Or.inl rfl) (by omega) (by omega) ⟨by rw [show ms_que S qq 1 = ms_one (S 222 qq) from rfl, hl], rfl⟩ dX3_question_92
      · -- 2
        refine pr_tableIn (pc := 48) C 93 dX3_question_48 (by decide) (by decide) (off := 45) (by decide) (by decide) ?_
        refine pr_aload_n (pc := 93) C dX3_question_93 rfl ?_
        refine pr_geti (pc := 94) C 126 wf_X3_164 rfl (by decide) (pl_3 (sj_n0 hs (by first | assumption | omega))) dX3_question_94 ?_
        refine pr_eqi (v := S 220 qq) (sj_r126 hs (by first | assumption | omega)) ?_
        exact pr_iret (pc := 97) C E (Or.inl rfl) (by omega) (by omega) ⟨rfl, rfl⟩ dX3_question_97
      · -- 3
        refine pr_tableIn (pc := 48) C 98 dX3_question_48 (by decide) (by decide) (off := 50) (by decide) (by decide) ?_
        refine pr_aload_n (pc := 98) C dX3_question_98 rfl ?_
        refine pr_geti (pc := 99) C 125 wf_X3_115 rfl (by decide) (pl_3 (sj_n0 hs (by first | assumption | omega))) dX3_question_99 ?_
        refine pr_eqi (v := nI qq) (sj_r125 hs (by first | assumption | omega)) ?_
        exact pr_iret (pc := 102) C E (Or.inl rfl) (by omega) (by omega) ⟨rfl, rfl⟩ dX3_question_102
    · exact absurd c_12 (by omega)

set_option maxRecDepth 100000 in
set_option maxHeartbeats 4000000 in
theorem c_X3_minutesY (G : pa_G) (l : Launch) (K : Nat → Nat → Nat → Int32) (Sm S : Nat → Nat → Int32) (N : Nat → Nat) (O : Nat → Int64) (T D e : Nat) (z : sj_Z) (hs : sj_M K N T D z e S) (hM : mw_S S T) (hJ : mj S T) (hz : z.1 = false) : pa_MP G l mX3_minutes 4 [pv_o 4 0] (K, Sm, N, O) (pv_i (ms_minutes S T)) := by
  refine pa_go l (by decide) (by simp [pa_c1l, pa_c1]) (fun _ => rfl) fun x C E el ea => ?_
  subst el
  have hT := hM.1.1
  have hTD := sj_TD hs
  show pa_w G x 4 (K, Sm, N, O) 0 0 0 [some (pv_o 4 0), none, none, none] []
  refine pr_bipush (pc := 0) (v := 7) C dX3_minutes_0 (by decide) ?_
  refine pr_istore_n (pc := 2) C dX3_minutes_2 (by decide) ?_
  refine pr_los (lo' := [some (pv_o 4 0), some (pv_i (pz_it (ms_mi S) 0 7)), none, none]) rfl ?_
  refine pr_iconst (pc := 3) (v := 0) C dX3_minutes_3 (by decide) ?_
  refine pr_istore_n (pc := 4) C dX3_minutes_4 (by decide) ?_
  have lp2 : ∀ (n3 k1 : Nat), k1 ≤ T → T < k1 + n3 → pa_w G x 4 (K, Sm, N, O) 0 0 5 [some (pv_o 4 0), some (pv_i (pz_it (ms_mi S) k1 7)), some (pv_i (nI k1)), none] [] := by
    intro n3
    induction n3 with
    | zero => intro k1 h1 h2; exact absurd h2 (by omega)
    | succ n3 ih4 =>
      intro k1 hk1_k1 hk2_k1
      refine pr_iload_n (pc := 5) C dX3_minutes_5 rfl ?_
      refine pr_aload_n (pc := 6) C dX3_minutes_6 rfl ?_
      refine pr_getl (pc := 7) C 162 0 wf_X3_22 rfl rfl rfl (pl_4 _) dX3_minutes_7 ?_
      refine pr_vP (pc := 10) C (c_szT G _ K Sm S N O T D e z hs) wv_X3_147 rfl rfl (by decide) (by decide) (pl_0 (by decide)) (Nat.le_of_ble_eq_true rfl) (by omega) (by omega) dX3_minutes_10 ?_
      refine pr_icmp_geN (pc := 13) C 97 k1 T dX3_minutes_13 (by decide) rfl rfl (by omega) (by omega) (fun c_13 => ?_) (fun c_13 => ?_)
      · obtain rfl : T = k1 := by omega
        refine pr_iload_n (pc := 97) C dX3_minutes_97 rfl ?_
        exact pr_iret (pc := 98) C E (Or.inl rfl) (by omega) (by omega) ⟨rfl, rfl⟩ dX3_minutes_98
      · refine pr_aload_n (pc := 16) C dX3_minutes_16 rfl ?_
        refine pr_getl (pc := 17) C 162 0 wf_X3_22 rfl rfl rfl (pl_4 _) dX3_minutes_17 ?_
        refine pr_iload_n (pc := 20) C dX3_minutes_20 rfl ?_
        refine pr_vP (pc := 21) C (c_gtT G _ K Sm S N O T D e z hs k1 (by first | assumption | omega)) wv_X3_197 rfl rfl (by decide) (by decide) (pl_0 (by decide)) (Nat.le_of_ble_eq_true rfl) (by omega) (by omega) dX3_minutes_21 ?_
        have hkT : k1 < T := by omega
        obtain ⟨wk, ak, hck⟩ := sc_tw hM hJ.1 hkT
        have hwk := hck.1
        have hwk4 := hck.2.1
        have h128 : K 128 k1 0 = S 224 k1 := sj_st0 hs hz (by omega)
        refine pr_cast (pc := 24) C (k := 3) (r := (RX2, TX2, 13)) ⟨by decide, by decide⟩ rfl (pa_wi (by decide +kernel) rfl) (pl_3 (sj_n0 hs (by first | assumption | omega))) dX3_minutes_24 ?_
        refine pr_astore_n (pc := 27) C dX3_minutes_27 (by decide) ?_
        refine pr_bipush (pc := 28) (v := 31) C dX3_minutes_28 (by decide) ?_
        refine pr_iload_n (pc := 30) C dX3_minutes_30 rfl ?_
        refine pr_imul (pc := 31) C dX3_minutes_31 ?_
        refine pr_aload_n (pc := 32) C dX3_minutes_32 rfl ?_
        refine pr_gets (pc := 33) C 120 wf_X3_105 rfl rfl (pl_3 (sj_n0 hs (by first | assumption | omega))) wk ((sj_r120 hs (by first | assumption | omega)).trans hwk) (by first | assumption | omega) dX3_minutes_33 ?_
        refine pr_geti (pc := 36) C 40 wf_X3_160 rfl (by decide) (pl_1 (by first | assumption | omega)) dX3_minutes_36 ?_
        refine pr_eqi (v := nI wk) (sj_r40 hs (by first | assumption | omega)) ?_
        refine pr_iadd (pc := 39) C dX3_minutes_39 ?_
        refine pr_istore_n (pc := 40) C dX3_minutes_40 (by decide) ?_
        refine pr_bipush (pc := 41) (v := 31) C dX3_minutes_41 (by decide) ?_
        refine pr_iload_n (pc := 43) C dX3_minutes_43 rfl ?_
        refine pr_imul (pc := 44) C dX3_minutes_44 ?_
        refine pr_aload_n (pc := 45) C dX3_minutes_45 rfl ?_
        refine pr_geti (pc := 46) C 121 wf_X3_161 rfl (by decide) (pl_3 (sj_n0 hs (by first | assumption | omega))) dX3_minutes_46 ?_
        refine pr_eqi (v := S 219 k1) (sj_r121 hs (by first | assumption | omega)) ?_
        refine pr_iadd (pc := 49) C dX3_minutes_49 ?_
        refine pr_istore_n (pc := 50) C dX3_minutes_50 (by decide) ?_
        refine pr_bipush (pc := 51) (v := 31) C dX3_minutes_51 (by decide) ?_
        refine pr_iload_n (pc := 53) C dX3_minutes_53 rfl ?_
        refine pr_imul (pc := 54) C dX3_minutes_54 ?_
        refine pr_aload_n (pc := 55) C dX3_minutes_55 rfl ?_
        refine pr_geti (pc := 56) C 126 wf_X3_164 rfl (by decide) (pl_3 (sj_n0 hs (by first | assumption | omega))) dX3_minutes_56 ?_
        refine pr_eqi (v := S 220 k1) (sj_r126 hs (by first | assumption | omega)) ?_
        refine pr_iadd (pc := 59) C dX3_minutes_59 ?_
        refine pr_istore_n (pc := 60) C dX3_minutes_60 (by decide) ?_
        refine pr_bipush (pc := 61) (v := 31) C dX3_minutes_61 (by decide) ?_
        refine pr_iload_n (pc := 63) C dX3_minutes_63 rfl ?_
        refine pr_imul (pc := 64) C dX3_minutes_64 ?_
        refine pr_aload_n (pc := 65) C dX3_minutes_65 rfl ?_
        refine pr_geti (pc := 66) C 127 wf_X3_167 rfl (by decide) (pl_3 (sj_n0 hs (by first | assumption | omega))) dX3_minutes_66 ?_
        refine pr_eqi (v := S 221 k1) (sj_r127 hs (by first | assumption | omega)) ?_
        refine pr_iadd (pc := 69) C dX3_minutes_69 ?_
        refine pr_istore_n (pc := 70) C dX3_minutes_70 (by decide) ?_
        refine pr_bipush (pc := 71) (v := 31) C dX3_minutes_71 (by decide) ?_
        refine pr_iload_n (pc := 73) C dX3_minutes_73 rfl ?_
        refine pr_imul (pc := 74) C dX3_minutes_74 ?_
        refine pr_aload_n (pc := 75) C dX3_minutes_75 rfl ?_
        refine pr_geti (pc := 76) C 122 wf_X3_170 rfl (by decide) (pl_3 (sj_n0 hs (by first | assumption | omega))) dX3_minutes_76 ?_
        refine pr_eqi (v := S 222 k1) (sj_r122 hs (by first | assumption | omega)) ?_
        refine pr_iadd (pc := 79) C dX3_minutes_79 ?_
        refine pr_istore_n (pc := 80) C dX3_minutes_80 (by decide) ?_
        refine pr_bipush (pc := 81) (v := 31) C dX3_minutes_81 (by decide) ?_
        refine pr_iload_n (pc := 83) C dX3_minutes_83 rfl ?_
        refine pr_imul (pc := 84) C dX3_minutes_84 ?_
        refine pr_aload_n (pc := 85) C dX3_minutes_85 rfl ?_
        refine pr_geti (pc := 86) C 128 wf_X3_176 rfl (by decide) (pl_3 (sj_n0 hs (by first | assumption | omega))) dX3_minutes_86 ?_
        refine pr_eqi (v := S 224 k1) h128 ?_
        refine pr_iadd (pc := 89) C dX3_minutes_89 ?_
        refine pr_istore_n (pc := 90) C dX3_minutes_90 (by decide) ?_
        refine pr_los (lo' := [some (pv_o 4 0), some (pv_i (pz_it (ms_mi S) (k1 + 1) 7)), some (pv_i (nI k1)), some (pv_o 3 k1)]) (by rw [show pz_it (ms_mi S) (k1 + 1) 7 = (((31 : Int32) * (((31 : Int32) * (((31 : Int32) * (((31 : Int32) * (((31 : Int32) * (((31 : Int32) * (pz_it (ms_mi S) k1 7)) + (nI wk))) + (S 219 k1))) + (S 220 k1))) + (S 221 k1))) + (S 222 k1))) + (S 224 k1)) by rw [pz_it_s]; unfold ms_mi; rw [hwk]]; rfl) ?_
        refine pr_iincN (pc := 91) C dX3_minutes_91 rfl k1 1 rfl rfl (by decide) ?_
        refine pr_goto (pc := 94) C 5 dX3_minutes_94 (by decide) ?_
        refine pr_lo (lo' := [some (pv_o 4 0), some (pv_i (pz_it (ms_mi S) (k1 + 1) 7)), some (pv_i (nI (k1 + 1))), none]) (show pa_lle [some (pv_o 4 0), some (pv_i (pz_it (ms_mi S) (k1 + 1) 7)), some (pv_i (nI (k1 + 1))), none] [some (pv_o 4 0), some (pv_i (pz_it (ms_mi S) (k1 + 1) 7)), some (pv_i (nI (k1 + 1))), some (pv_o 3 k1)] by simp [pa_lle]) ?_
        exact ih4 (k1 + 1) (by omega) (by omega)
  exact lp2 (T + 1) 0 (by omega) (by omega)

