/-! THE CLASS: common ground, quarrels -/
/-- the other one j of a set goes with k, who is committed to v by the turn tv -/
def sc_aw (S : Nat → Nat → Int32) (set : Int32) (a9 : Nat) (v : Int32) (tv k j : Nat) : Bool := !ms_isIn set (nI j) || decide (j = k) || (decide (S 228 (4 * tv + j) = 4) && decide (S 208 (10 * j + a9) ≠ 3 - v)) || decide (S 208 (10 * j + a9) = v)
theorem sc_aw_gr {S : Nat → Nat → Int32} {set v : Int32} {a9 tv k : Nat} (hv : v = 1 ∨ v = 2) (h1 : S 208 (10 * k + a9) = v) (h2 : S 209 (10 * k + a9) = nI tv) (ht : tv < 100) : ∀ j, sc_aw S set a9 v tv k j = ms_grk S set a9 v k j := fun j => by
  have e1 : mn (nI tv) = tv := nI_clamp (by omega)
  have e2 : ms_contrary v = 3 - v := by rcases hv with rfl | rfl <;> decide
  unfold sc_aw ms_grk
  rw [h2, e1, e2]
  by_cases c : j = k
  · subst c
    rw [h1]
    simp
  · rw [decide_eq_false c]
    cases ms_isIn set (nI j) <;> cases hq : decide (S 208 (10 * j + a9) = v) <;> cases decide (S 228 (4 * tv + j) = 4) <;> cases decide (S 208 (10 * j + a9) ≠ 3 - v) <;> simp_all
def sc_ig (S : Nat → Nat → Int32) (set : Int32) (a9 : Nat) (v : Int32) : Bool := pz_any (fun k => ms_gr S set a9 v k) 4
theorem sc_gb (a b c d e f g h : Bool) : (if d then (1:Int32) else if c then 1 else if b then 1 else if a then 1 else if h then 2 else if g then 2 else if f then 2 else if e then 2 else 0) = if (false || a || b || c || d) then 1 else if (false || e || f || g || h) then 2 else 0 := by
  cases a <;> cases b <;> cases c <;> cases d <;> cases e <;> cases f <;> cases g <;> cases h <;> rfl
theorem sc_ground {S : Nat → Nat → Int32} {set : Int32} {a9 : Nat} : ms_ground S set a9 = if sc_ig S set a9 1 then 1 else if sc_ig S set a9 2 then 2 else 0 := by
  exact sc_gb (ms_gr S set a9 1 0) (ms_gr S set a9 1 1) (ms_gr S set a9 1 2) (ms_gr S set a9 1 3) (ms_gr S set a9 2 0) (ms_gr S set a9 2 1) (ms_gr S set a9 2 2) (ms_gr S set a9 2 3)
set_option maxRecDepth 100000 in
set_option maxHeartbeats 4000000 in
theorem c_X3_areWith (G : pa_G) (l : Launch) (K : Nat → Nat → Nat → Int32) (Sm S : Nat → Nat → Int32) (N : Nat → Nat) (O : Nat → Int64) (T D e : Nat) (z : sj_Z) (hs : sj_M K N T D z e S) (k a9 tv : Nat) (set v : Int32) (hk4 : k < 4) (ha10 : a9 < 10) (h1 : S 208 (10 * k + a9) = v) (h2 : S 209 (10 * k + a9) = nI tv) (ht : tv < T) (hT : T ≤ 100) : pa_MP G l mX3_areWith 3 [pv_o 4 0, pv_o 1 k, pv_i set, pv_i (nI a9)] (K, Sm, N, O) (pv_i (pz_b (pz_all (sc_aw S set a9 v tv k) 4))) := by
  refine pa_go l (by decide) (by simp [pa_c1l, pa_c1]) (fun _ => rfl) fun x C E el ea => ?_
  subst el
  have hTD := sj_TD hs
  show pa_w G x 9 (K, Sm, N, O) 0 0 0 [some (pv_o 4 0), some (pv_o 1 k), some (pv_i set), some (pv_i (nI a9)), none, none, none, none, none] []
  refine pr_aload_n (pc := 0) C dX3_areWith_0 rfl ?_
  refine pr_geta (pc := 1) C 49 149 wf_X3_190 rfl rfl (by decide) (pl_1 (by first | assumption | omega)) dX3_areWith_1 ?_
  refine pr_iload_n (pc := 4) C dX3_areWith_4 rfl ?_
  refine pr_aldi (pc := 5) (n := 10) C 49 a9 rfl rfl rfl (pl_r1 (by decide) (by first | assumption | omega)) rfl (by omega) (by decide) dX3_areWith_5 ?_
  refine pr_eqi (v := S 208 (10 * k + a9)) (sj_r49 hs (by first | assumption | omega) (by omega)) ?_
  refine pr_eqi h1 ?_
  refine pr_istore (pc := 6) C dX3_areWith_6 (by decide) ?_
  refine pr_aload_n (pc := 8) C dX3_areWith_8 rfl ?_
  refine pr_geta (pc := 9) C 50 150 wf_X3_193 rfl rfl (by decide) (pl_1 (by first | assumption | omega)) dX3_areWith_9 ?_
  refine pr_iload_n (pc := 12) C dX3_areWith_12 rfl ?_
  refine pr_aldt (pc := 13) (n := 10) C 50 a9 rfl rfl rfl (pl_r1 (by decide) (by first | assumption | omega)) rfl (by omega) (by decide) dX3_areWith_13 ?_
  refine pr_eqr (v := some (3, tv)) (by show pa_rc 3 (K 50 k a9) = some (3, tv); rw [sj_r50 hs hk4 ha10, h2]; exact pa_rc_nI (by omega)) ?_
  refine pr_astore (pc := 14) C dX3_areWith_14 (by decide) ?_
  refine pr_iconst (pc := 16) (v := 0) C dX3_areWith_16 (by decide) ?_
  refine pr_istore (pc := 17) C dX3_areWith_17 (by decide) ?_
  have lp2 : ∀ (n3 k1 : Nat), k1 ≤ 4 → 4 < k1 + n3 → (∀ j, j < k1 → (sc_aw S set a9 v tv k) j = true) → pa_w G x 9 (K, Sm, N, O) 0 0 19 [some (pv_o 4 0), some (pv_o 1 k), some (pv_i set), some (pv_i (nI a9)), some (pv_i v), some (pv_o 3 tv), some (pv_i (nI k1)), none, none] [] := by
    intro n3
    induction n3 with
    | zero => intro k1 h1 h2; exact absurd h2 (by omega)
    | succ n3 ih4 =>
      intro k1 hk1_k1 hk2_k1 hx_k1
      refine pr_iload (pc := 19) C dX3_areWith_19 rfl ?_
      refine pr_iconst (pc := 21) (v := 4) C dX3_areWith_21 (by decide) ?_
      refine pr_icmp_geN (pc := 22) C 111 k1 4 dX3_areWith_22 (by decide) rfl rfl (by omega) (by omega) (fun c_22 => ?_) (fun c_22 => ?_)
      · obtain rfl : 4 = k1 := by omega
        refine pr_iconst (pc := 111) (v := 1) C dX3_areWith_111 (by decide) ?_
        exact pr_iret (pc := 112) C E (Or.inr ⟨rfl, (by decide)⟩) (by omega) (by omega) ⟨by rw [show pz_all (sc_aw S set a9 v tv k) 4 = true from pz_all_iff.mpr hx_k1]; rfl, rfl⟩ dX3_areWith_112
      · refine pr_iload_n (pc := 25) C dX3_areWith_25 rfl ?_
        refine pr_iload (pc := 26) C dX3_areWith_26 rfl ?_
        refine pr_sP (pc := 28) C (c_X3_isIn G _ (K, Sm, N, O) set (nI k1)) ws_X3_49 rfl rfl (by decide) (Nat.le_of_ble_eq_true rfl) (by omega) (by omega) dX3_areWith_28 ?_
        refine pr_ifb_eq (pc := 31) C 105 dX3_areWith_31 (by decide) (fun c_31 => ?_) (fun c_31 => ?_)
        · refine pr_iincN (pc := 105) C dX3_areWith_105 rfl k1 1 rfl rfl (by decide) ?_
          refine pr_goto (pc := 108) C 19 dX3_areWith_108 (by decide) ?_
          exact ih4 (k1 + 1) (by omega) (by omega) (pz_nx (p := (sc_aw S set a9 v tv k)) hx_k1 (by unfold sc_aw; simp [c_22, c_31]))
        · refine pr_iload (pc := 34) C dX3_areWith_34 rfl ?_
          refine pr_aload_n (pc := 36) C dX3_areWith_36 rfl ?_
          refine pr_geti (pc := 37) C 40 wf_X3_160 rfl (by decide) (pl_1 (by first | assumption | omega)) dX3_areWith_37 ?_
          refine pr_eqi (v := nI k) (sj_r40 hs (by first | assumption | omega)) ?_
          refine pr_icmp_eqN (pc := 40) C 105 k1 k dX3_areWith_40 (by decide) rfl rfl (by omega) (by omega) (fun c_40 => ?_) (fun c_40 => ?_)
          · refine pr_iincN (pc := 105) C dX3_areWith_105 rfl k1 1 rfl rfl (by decide) ?_
            refine pr_goto (pc := 108) C 19 dX3_areWith_108 (by decide) ?_
            exact ih4 (k1 + 1) (by omega) (by omega) (pz_nx (p := (sc_aw S set a9 v tv k)) hx_k1 (by unfold sc_aw; simp [c_22, c_31, eq_true c_40]))
          · refine pr_aload_n (pc := 43) C dX3_areWith_43 rfl ?_
            refine pr_geta (pc := 44) C 160 260 wf_X3_11 rfl rfl (by decide) (pl_4 _) dX3_areWith_44 ?_
            refine pr_iload (pc := 47) C dX3_areWith_47 rfl ?_
            refine pr_alds (pc := 49) (n := 4) C 160 k1 rfl rfl rfl (pl_r4 (by decide)) rfl (by omega) (by decide) dX3_areWith_49 ?_
            refine pr_geta (pc := 50) C 49 149 wf_X3_190 rfl rfl (by decide) (pl_1 (by first | assumption | omega)) dX3_areWith_50 ?_
            refine pr_iload_n (pc := 53) C dX3_areWith_53 rfl ?_
            refine pr_aldi (pc := 54) (n := 10) C 49 a9 rfl rfl rfl (pl_r1 (by decide) (by first | assumption | omega)) rfl (by omega) (by decide) dX3_areWith_54 ?_
            refine pr_eqi (v := S 208 (10 * k1 + a9)) (sj_r49 hs (by first | assumption | omega) (by omega)) ?_
            refine pr_istore (pc := 55) C dX3_areWith_55 (by decide) ?_
            refine pr_aload (pc := 57) C dX3_areWith_57 rfl ?_
            refine pr_ifnull1 (pc := 59) C dX3_areWith_59 ?_
            refine pr_aload (pc := 62) C dX3_areWith_62 rfl ?_
            refine pr_geta (pc := 64) C 131 231 wf_X3_187 rfl rfl (by decide) (pl_3 (sj_n0 hs (by first | assumption | omega))) dX3_areWith_64 ?_
            refine pr_iload (pc := 67) C dX3_areWith_67 rfl ?_
            refine pr_aldi (pc := 69) (n := 4) C 131 k1 rfl rfl rfl (pl_r3 (by decide) (sj_n0 hs (by first | assumption | omega))) rfl (by omega) (by decide) dX3_areWith_69 ?_
            refine pr_eqi (v := S 228 (4 * tv + k1)) (sj_r131 hs (by first | assumption | omega) (by omega)) ?_
            refine pr_iconst (pc := 70) (v := 4) C dX3_areWith_70 (by decide) ?_
            refine pr_icmp_ne (pc := 71) C 88 dX3_areWith_71 (by decide) (fun c_71 => ?_) (fun c_71 => ?_)
            · refine pr_iconst (pc := 88) (v := 0) C dX3_areWith_88 (by decide) ?_
              refine pr_istore (pc := 89) C dX3_areWith_89 (by decide) ?_
              refine pr_iload (pc := 91) C dX3_areWith_91 rfl ?_
              refine pr_if_ne (pc := 93) C 105 dX3_areWith_93 (by decide) (fun c_93 => absurd c_93 (by decide)) (fun _ => ?_)
              refine pr_iload (pc := 96) C dX3_areWith_96 rfl ?_
              refine pr_iload (pc := 98) C dX3_areWith_98 rfl ?_
              refine pr_icmp_eq (pc := 100) C 105 dX3_areWith_100 (by decide) (fun c_100 => ?_) (fun c_100 => ?_)
              · refine pr_iincN (pc := 105) C dX3_areWith_105 rfl k1 1 rfl rfl (by decide) ?_
                refine pr_goto (pc := 108) C 19 dX3_areWith_108 (by decide) ?_
                refine pr_lo (lo' := [some (pv_o 4 0), some (pv_o 1 k), some (pv_i set), some (pv_i (nI a9)), some (pv_i v), some (pv_o 3 tv), some (pv_i (nI (k1 + 1))), none, none]) (show pa_lle [some (pv_o 4 0), some (pv_o 1 k), some (pv_i set), some (pv_i (nI a9)), some (pv_i v), some (pv_o 3 tv), some (pv_i (nI (k1 + 1))), none, none] [some (pv_o 4 0), some (pv_o 1 k), some (pv_i set), some (pv_i (nI a9)), some (pv_i v), some (pv_o 3 tv), some (pv_i (nI (k1 + 1))), some (pv_i (S 208 (10 * k1 + a9))), some (pv_i (0 : Int32))] by simp [pa_lle]) ?_
                exact ih4 (k1 + 1) (by omega) (by omega) (pz_nx (p := (sc_aw S set a9 v tv k)) hx_k1 (by unfold sc_aw; simp [c_22, c_31, eq_false c_40, eq_false c_71, eq_true c_100]))
              · refine pr_iconst (pc := 103) (v := 0) C dX3_areWith_103 (by decide) ?_
                exact pr_iret (pc := 104) C E (Or.inr ⟨rfl, (by decide)⟩) (by omega) (by omega) ⟨by rw [show pz_all (sc_aw S set a9 v tv k) 4 = false from pz_all_at (k := k1) (by omega) (by unfold sc_aw; simp [c_22, c_31, eq_false c_40, eq_false c_71, eq_false c_100])]; rfl, rfl⟩ dX3_areWith_104
            · refine pr_iload (pc := 74) C dX3_areWith_74 rfl ?_
              refine pr_iload (pc := 76) C dX3_areWith_76 rfl ?_
              refine pr_sP (pc := 78) C (c_X3_contrary G _ (K, Sm, N, O) v) ws_X3_360 rfl rfl (by decide) (Nat.le_of_ble_eq_true rfl) (by omega) (by omega) dX3_areWith_78 ?_
              refine pr_icmp_eq (pc := 81) C 88 dX3_areWith_81 (by decide) (fun c_81 => ?_) (fun c_81 => ?_)
              · refine pr_iconst (pc := 88) (v := 0) C dX3_areWith_88 (by decide) ?_
                refine pr_istore (pc := 89) C dX3_areWith_89 (by decide) ?_
                refine pr_iload (pc := 91) C dX3_areWith_91 rfl ?_
                refine pr_if_ne (pc := 93) C 105 dX3_areWith_93 (by decide) (fun c_93 => absurd c_93 (by decide)) (fun _ => ?_)
                refine pr_iload (pc := 96) C dX3_areWith_96 rfl ?_
                refine pr_iload (pc := 98) C dX3_areWith_98 rfl ?_
                refine pr_icmp_eq (pc := 100) C 105 dX3_areWith_100 (by decide) (fun c_100 => ?_) (fun c_100 => ?_)
                · refine pr_iincN (pc := 105) C dX3_areWith_105 rfl k1 1 rfl rfl (by decide) ?_
                  refine pr_goto (pc := 108) C 19 dX3_areWith_108 (by decide) ?_
                  refine pr_lo (lo' := [some (pv_o 4 0), some (pv_o 1 k), some (pv_i set), some (pv_i (nI a9)), some (pv_i v), some (pv_o 3 tv), some (pv_i (nI (k1 + 1))), none, none]) (show pa_lle [some (pv_o 4 0), some (pv_o 1 k), some (pv_i set), some (pv_i (nI a9)), some (pv_i v), some (pv_o 3 tv), some (pv_i (nI (k1 + 1))), none, none] [some (pv_o 4 0), some (pv_o 1 k), some (pv_i set), some (pv_i (nI a9)), some (pv_i v), some (pv_o 3 tv), some (pv_i (nI (k1 + 1))), some (pv_i (S 208 (10 * k1 + a9))), some (pv_i (0 : Int32))] by simp [pa_lle]) ?_
                  exact ih4 (k1 + 1) (by omega) (by omega) (pz_nx (p := (sc_aw S set a9 v tv k)) hx_k1 (by unfold sc_aw; simp [c_22, c_31, eq_false c_40, eq_true c_71, eq_true c_81, eq_true c_100]))
                · refine pr_iconst (pc := 103) (v := 0) C dX3_areWith_103 (by decide) ?_
                  exact pr_iret (pc := 104) C E (Or.inr ⟨rfl, (by decide)⟩) (by omega) (by omega) ⟨by rw [show pz_all (sc_aw S set a9 v tv k) 4 = false from pz_all_at (k := k1) (by omega) (by unfold sc_aw; simp [c_22, c_31, eq_false c_40, eq_true c_71, eq_true c_81, eq_false c_100])]; rfl, rfl⟩ dX3_areWith_104
              · refine pr_iconst (pc := 84) (v := 1) C dX3_areWith_84 (by decide) ?_
                refine pr_goto (pc := 85) C 89 dX3_areWith_85 (by decide) ?_
                refine pr_istore (pc := 89) C dX3_areWith_89 (by decide) ?_
                refine pr_iload (pc := 91) C dX3_areWith_91 rfl ?_
                refine pr_if_ne (pc := 93) C 105 dX3_areWith_93 (by decide) (fun _ => ?_) (fun c_93 => absurd c_93 (by decide))
                refine pr_iincN (pc := 105) C dX3_areWith_105 rfl k1 1 rfl rfl (by decide) ?_
                refine pr_goto (pc := 108) C 19 dX3_areWith_108 (by decide) ?_
                refine pr_lo (lo' := [some (pv_o 4 0), some (pv_o 1 k), some (pv_i set), some (pv_i (nI a9)), some (pv_i v), some (pv_o 3 tv), some (pv_i (nI (k1 + 1))), none, none]) (show pa_lle [some (pv_o 4 0), some (pv_o 1 k), some (pv_i set), some (pv_i (nI a9)), some (pv_i v), some (pv_o 3 tv), some (pv_i (nI (k1 + 1))), none, none] [some (pv_o 4 0), some (pv_o 1 k), some (pv_i set), some (pv_i (nI a9)), some (pv_i v), some (pv_o 3 tv), some (pv_i (nI (k1 + 1))), some (pv_i (S 208 (10 * k1 + a9))), some (pv_i (1 : Int32))] by simp [pa_lle]) ?_
                exact ih4 (k1 + 1) (by omega) (by omega) (pz_nx (p := (sc_aw S set a9 v tv k)) hx_k1 (by unfold sc_aw; simp [c_22, c_31, eq_false c_40, eq_true c_71, eq_false c_81]))
  exact lp2 (4 + 1) 0 (by omega) (by omega) (fun j hj => absurd hj (by omega))

set_option maxRecDepth 100000 in
set_option maxHeartbeats 4000000 in
theorem c_X3_isGround (G : pa_G) (l : Launch) (K : Nat → Nat → Nat → Int32) (Sm S : Nat → Nat → Int32) (N : Nat → Nat) (O : Nat → Int64) (T D e : Nat) (z : sj_Z) (hs : sj_M K N T D z e S) (a9 : Nat) (set v : Int32) (ha10 : a9 < 10) (hv : v = 1 ∨ v = 2) (hM : mw_S S T) : pa_MP G l mX3_isGround 4 [pv_o 4 0, pv_i set, pv_i (nI a9), pv_i v] (K, Sm, N, O) (pv_i (pz_b (sc_ig S set a9 v))) := by
  refine pa_go l (by decide) (by simp [pa_c1l, pa_c1]) (fun _ => rfl) fun x C E el ea => ?_
  subst el
  have hT := hM.1.1
  have hTD := sj_TD hs
  show pa_w G x 5 (K, Sm, N, O) 0 0 0 [some (pv_o 4 0), some (pv_i set), some (pv_i (nI a9)), some (pv_i v), none] []
  refine pr_iconst (pc := 0) (v := 0) C dX3_isGround_0 (by decide) ?_
  refine pr_istore (pc := 1) C dX3_isGround_1 (by decide) ?_
  have lp2 : ∀ (n3 k1 : Nat), k1 ≤ 4 → 4 < k1 + n3 → (∀ j, j < k1 → (fun q => ms_gr S set a9 v q) j = false) → pa_w G x 5 (K, Sm, N, O) 0 0 3 [some (pv_o 4 0), some (pv_i set), some (pv_i (nI a9)), some (pv_i v), some (pv_i (nI k1))] [] := by
    intro n3
    induction n3 with
    | zero => intro k1 h1 h2; exact absurd h2 (by omega)
    | succ n3 ih4 =>
      intro k1 hk1_k1 hk2_k1 hx_k1
      refine pr_iload (pc := 3) C dX3_isGround_3 rfl ?_
      refine pr_iconst (pc := 5) (v := 4) C dX3_isGround_5 (by decide) ?_
      refine pr_icmp_geN (pc := 6) C 58 k1 4 dX3_isGround_6 (by decide) rfl rfl (by omega) (by omega) (fun c_6 => ?_) (fun c_6 => ?_)
      · obtain rfl : 4 = k1 := by omega
        refine pr_iconst (pc := 58) (v := 0) C dX3_isGround_58 (by decide) ?_
        exact pr_iret (pc := 59) C E (Or.inr ⟨rfl, (by decide)⟩) (by omega) (by omega) ⟨by rw [show sc_ig S set a9 v = false from pz_any_no hx_k1]; rfl, rfl⟩ dX3_isGround_59
      · refine pr_iload_n (pc := 9) C dX3_isGround_9 rfl ?_
        refine pr_iload (pc := 10) C dX3_isGround_10 rfl ?_
        refine pr_sP (pc := 12) C (c_X3_isIn G _ (K, Sm, N, O) set (nI k1)) ws_X3_49 rfl rfl (by decide) (Nat.le_of_ble_eq_true rfl) (by omega) (by omega) dX3_isGround_12 ?_
        refine pr_ifb_eq (pc := 15) C 52 dX3_isGround_15 (by decide) (fun c_15 => ?_) (fun c_15 => ?_)
        · refine pr_iincN (pc := 52) C dX3_isGround_52 rfl k1 1 rfl rfl (by decide) ?_
          refine pr_goto (pc := 55) C 3 dX3_isGround_55 (by decide) ?_
          exact ih4 (k1 + 1) (by omega) (by omega) (pz_nx (p := (fun q => ms_gr S set a9 v q)) hx_k1 (by show ms_gr S set a9 v k1 = _; unfold ms_gr ms_grt ms_gr0; rw [c_15, Bool.false_and, Bool.false_and]))
        · refine pr_aload_n (pc := 18) C dX3_isGround_18 rfl ?_
          refine pr_geta (pc := 19) C 160 260 wf_X3_11 rfl rfl (by decide) (pl_4 _) dX3_isGround_19 ?_
          refine pr_iload (pc := 22) C dX3_isGround_22 rfl ?_
          refine pr_alds (pc := 24) (n := 4) C 160 k1 rfl rfl rfl (pl_r4 (by decide)) rfl (by omega) (by decide) dX3_isGround_24 ?_
          refine pr_geta (pc := 25) C 49 149 wf_X3_190 rfl rfl (by decide) (pl_1 (by first | assumption | omega)) dX3_isGround_25 ?_
          refine pr_iload_n (pc := 28) C dX3_isGround_28 rfl ?_
          refine pr_aldi (pc := 29) (n := 10) C 49 a9 rfl rfl rfl (pl_r1 (by decide) (by first | assumption | omega)) rfl (by omega) (by decide) dX3_isGround_29 ?_
          refine pr_eqi (v := S 208 (10 * k1 + a9)) (sj_r49 hs (by first | assumption | omega) (by omega)) ?_
          refine pr_iload_n (pc := 30) C dX3_isGround_30 rfl ?_
          refine pr_icmp_ne (pc := 31) C 52 dX3_isGround_31 (by decide) (fun c_31 => ?_) (fun c_31 => ?_)
          · refine pr_iincN (pc := 52) C dX3_isGround_52 rfl k1 1 rfl rfl (by decide) ?_
            refine pr_goto (pc := 55) C 3 dX3_isGround_55 (by decide) ?_
            exact ih4 (k1 + 1) (by omega) (by omega) (pz_nx (p := (fun q => ms_gr S set a9 v q)) hx_k1 (by show ms_gr S set a9 v k1 = _; unfold ms_gr ms_grt ms_gr0; rw [decide_eq_false c_31, Bool.and_false, Bool.false_and]))
          · obtain ⟨tv, ltH, eH⟩ := hM.2.2.2.2.1 (10 * k1 + a9) (by rw [c_31]; rcases hv with q | q <;> rw [q] <;> decide)
            have haw : pz_all (sc_aw S set a9 v tv k1) 4 = pz_all (ms_grk S set a9 v k1) 4 := pz_all_cong (fun j _ => sc_aw_gr hv c_31 eH (by omega) j)
            refine pr_aload_n (pc := 34) C dX3_isGround_34 rfl ?_
            refine pr_aload_n (pc := 35) C dX3_isGround_35 rfl ?_
            refine pr_geta (pc := 36) C 160 260 wf_X3_11 rfl rfl (by decide) (pl_4 _) dX3_isGround_36 ?_
            refine pr_iload (pc := 39) C dX3_isGround_39 rfl ?_
            refine pr_alds (pc := 41) (n := 4) C 160 k1 rfl rfl rfl (pl_r4 (by decide)) rfl (by omega) (by decide) dX3_isGround_41 ?_
            refine pr_iload_n (pc := 42) C dX3_isGround_42 rfl ?_
            refine pr_iload_n (pc := 43) C dX3_isGround_43 rfl ?_

            refine pr_vP (pc := 44) C (c_X3_areWith G _ K Sm S N O T D e z hs k1 a9 tv set v (by omega) ha10 c_31 eH ltH hT) wv_X3_368 rfl rfl (by decide) (by decide) (pl_4 _) (Nat.le_of_ble_eq_true rfl) (by omega) (by omega) dX3_isGround_44 ?_
            refine pr_ifb_eq (pc := 47) C 52 dX3_isGround_47 (by decide) (fun c_47 => ?_) (fun c_47 => ?_)
            · refine pr_iincN (pc := 52) C dX3_isGround_52 rfl k1 1 rfl rfl (by decide) ?_
              refine pr_goto (pc := 55) C 3 dX3_isGround_55 (by decide) ?_
              exact ih4 (k1 + 1) (by omega) (by omega) (pz_nx (p := (fun q => ms_gr S set a9 v q)) hx_k1 (by show ms_gr S set a9 v k1 = _; unfold ms_gr ms_grt ms_gr0; rw [← haw, c_47]; simp))
            · refine pr_iconst (pc := 50) (v := 1) C dX3_isGround_50 (by decide) ?_
              exact pr_iret (pc := 51) C E (Or.inr ⟨rfl, (by decide)⟩) (by omega) (by omega) ⟨by rw [show sc_ig S set a9 v = true from pz_any_at (p := (fun q => ms_gr S set a9 v q)) (k := k1) (by omega) (by show ms_gr S set a9 v k1 = true; unfold ms_gr ms_grt ms_gr0; rw [← haw, c_47, c_15, decide_eq_true c_31]; rfl)]; rfl, rfl⟩ dX3_isGround_51
  exact lp2 (4 + 1) 0 (by omega) (by omega) (fun j hj => absurd hj (by omega))

set_option maxRecDepth 100000 in
set_option maxHeartbeats 4000000 in
theorem c_X3_groundY (G : pa_G) (l : Launch) (K : Nat → Nat → Nat → Int32) (Sm S : Nat → Nat → Int32) (N : Nat → Nat) (O : Nat → Int64) (T D e : Nat) (z : sj_Z) (hs : sj_M K N T D z e S) (a9 : Nat) (set : Int32) (ha10 : a9 < 10) (hset : ms_in set 1 15 = true) (hM : mw_S S T) : pa_MP G l mX3_ground 5 [pv_o 4 0, pv_i set, pv_i (nI a9)] (K, Sm, N, O) (pv_i (ms_ground S set a9)) := by
  refine pa_go l (by decide) (by simp [pa_c1l, pa_c1]) (fun _ => rfl) fun x C E el ea => ?_
  subst el
  show pa_w G x 3 (K, Sm, N, O) 0 0 0 [some (pv_o 4 0), some (pv_i set), some (pv_i (nI a9))] []
  refine pr_iload_n (pc := 0) C dX3_ground_0 rfl ?_
  refine pr_sE (pc := 1) C (c_X3_needAtomY G _ (K, Sm, N, O) (nI a9) (sc_in9 _ (by first | assumption | omega))) ws_X3_70 rfl rfl (by decide) (Nat.le_of_ble_eq_true rfl) (by omega) (by omega) dX3_ground_1 ?_
  refine pr_iload_n (pc := 4) C dX3_ground_4 rfl ?_
  refine pr_iconst (pc := 5) (v := 1) C dX3_ground_5 (by decide) ?_
  refine pr_bipush (pc := 6) (v := 15) C dX3_ground_6 (by decide) ?_
  refine pr_sE (pc := 8) C (c_X3_needRangeY G _ (K, Sm, N, O) set (1 : Int32) (15 : Int32) hset) ws_X3_42 rfl rfl (by decide) (Nat.le_of_ble_eq_true rfl) (by omega) (by omega) dX3_ground_8 ?_
  refine pr_aload_n (pc := 11) C dX3_ground_11 rfl ?_
  refine pr_iload_n (pc := 12) C dX3_ground_12 rfl ?_
  refine pr_iload_n (pc := 13) C dX3_ground_13 rfl ?_
  refine pr_iconst (pc := 14) (v := 1) C dX3_ground_14 (by decide) ?_
  refine pr_vP (pc := 15) C (c_X3_isGround G _ K Sm S N O T D e z hs a9 set (1 : Int32) ha10 (by decide) hM) wv_X3_218 rfl rfl (by decide) (by decide) (pl_4 _) (Nat.le_of_ble_eq_true rfl) (by omega) (by omega) dX3_ground_15 ?_
  refine pr_ifb_eq (pc := 18) C 23 dX3_ground_18 (by decide) (fun c_18 => ?_) (fun c_18 => ?_)
  · refine pr_aload_n (pc := 23) C dX3_ground_23 rfl ?_
    refine pr_iload_n (pc := 24) C dX3_ground_24 rfl ?_
    refine pr_iload_n (pc := 25) C dX3_ground_25 rfl ?_
    refine pr_iconst (pc := 26) (v := 2) C dX3_ground_26 (by decide) ?_
    refine pr_vP (pc := 27) C (c_X3_isGround G _ K Sm S N O T D e z hs a9 set (2 : Int32) ha10 (by decide) hM) wv_X3_218 rfl rfl (by decide) (by decide) (pl_4 _) (Nat.le_of_ble_eq_true rfl) (by omega) (by omega) dX3_ground_27 ?_
    refine pr_ifb_eq (pc := 30) C 37 dX3_ground_30 (by decide) (fun c_30 => ?_) (fun c_30 => ?_)
    · refine pr_iconst (pc := 37) (v := 0) C dX3_ground_37 (by decide) ?_
      exact pr_iret (pc := 38) C E (Or.inl rfl) (by omega) (by omega) ⟨by rw [sc_ground, c_18, c_30]; rfl, rfl⟩ dX3_ground_38
    · refine pr_iconst (pc := 33) (v := 2) C dX3_ground_33 (by decide) ?_
      refine pr_goto (pc := 34) C 38 dX3_ground_34 (by decide) ?_
      exact pr_iret (pc := 38) C E (Or.inl rfl) (by omega) (by omega) ⟨by rw [sc_ground, c_18, c_30]; rfl, rfl⟩ dX3_ground_38
  · refine pr_iconst (pc := 21) (v := 1) C dX3_ground_21 (by decide) ?_
    exact pr_iret (pc := 22) C E (Or.inl rfl) (by omega) (by omega) ⟨by rw [sc_ground, c_18]; rfl, rfl⟩ dX3_ground_22

def sc_b10 (p : Nat → Bool) (s : Int32) (a : Nat) : Int32 := s + (if p a then 1 else 0)
theorem sc_bc10 : ∀ b, b < 1024 → sc_bc (nI b) = pz_it (sc_b10 b.testBit) 10 0 := by decide +kernel
theorem sc_qsum {S : Nat → Nat → Int32} {c : Nat} {p : Nat → Bool} : ∀ n, (∀ a, a < n → p a = decide (S 233 (c + a) ≠ 0)) → pz_it (ms_qs S) (c + n) 0 = pz_it (ms_qs S) c 0 + pz_it (sc_b10 p) n 0
  | 0, _ => (Int32.add_zero _).symm
  | n + 1, h => by
    have e := sc_qsum n (fun a ha => h a (by omega))
    rw [show c + (n + 1) = (c + n) + 1 by omega, pz_it_s, pz_it_s, e]
    unfold ms_qs sc_b10
    rw [h n (by omega), ← Int32.add_assoc]
    by_cases q : S 233 (c + n) ≠ 0
    · rw [if_pos q, decide_eq_true q, if_pos rfl]
    · rw [if_neg q, decide_eq_false q, if_neg (by decide)]
set_option maxRecDepth 100000 in
set_option maxHeartbeats 4000000 in
theorem c_X3_quarrels (G : pa_G) (l : Launch) (K : Nat → Nat → Nat → Int32) (Sm S : Nat → Nat → Int32) (N : Nat → Nat) (O : Nat → Int64) (T D e : Nat) (z : sj_Z) (hs : sj_M K N T D z e S)  : pa_MP G l mX3_quarrels 2 [pv_o 4 0] (K, Sm, N, O) (pv_i (ms_quarrels S)) := by
  refine pa_go l (by decide) (by simp [pa_c1l, pa_c1]) (fun _ => rfl) fun x C E el ea => ?_
  subst el
  show pa_w G x 4 (K, Sm, N, O) 0 0 0 [some (pv_o 4 0), none, none, none] []
  refine pr_iconst (pc := 0) (v := 0) C dX3_quarrels_0 (by decide) ?_
  refine pr_istore_n (pc := 1) C dX3_quarrels_1 (by decide) ?_
  refine pr_los (lo' := [some (pv_o 4 0), some (pv_i (pz_it (ms_qs S) (40 * 0) 0)), none, none]) (rfl) ?_
  refine pr_iconst (pc := 2) (v := 0) C dX3_quarrels_2 (by decide) ?_
  refine pr_istore_n (pc := 3) C dX3_quarrels_3 (by decide) ?_
  have lp2 : ∀ (n3 k1 : Nat), k1 ≤ 4 → 4 < k1 + n3 → pa_w G x 4 (K, Sm, N, O) 0 0 4 [some (pv_o 4 0), some (pv_i (pz_it (ms_qs S) (40 * k1) 0)), some (pv_i (nI k1)), none] [] := by
    intro n3
    induction n3 with
    | zero => intro k1 h1 h2; exact absurd h2 (by omega)
    | succ n3 ih4 =>
      intro k1 hk1_k1 hk2_k1
      refine pr_iload_n (pc := 4) C dX3_quarrels_4 rfl ?_
      refine pr_iconst (pc := 5) (v := 4) C dX3_quarrels_5 (by decide) ?_
      refine pr_icmp_geN (pc := 6) C 45 k1 4 dX3_quarrels_6 (by decide) rfl rfl (by omega) (by omega) (fun c_6 => ?_) (fun c_6 => ?_)
      · obtain rfl : 4 = k1 := by omega
        refine pr_iload_n (pc := 45) C dX3_quarrels_45 rfl ?_
        exact pr_iret (pc := 46) C E (Or.inl rfl) (by omega) (by omega) ⟨rfl, rfl⟩ dX3_quarrels_46
      · refine pr_iconst (pc := 9) (v := 0) C dX3_quarrels_9 (by decide) ?_
        refine pr_istore_n (pc := 10) C dX3_quarrels_10 (by decide) ?_
        have lp6 : ∀ (n7 k5 : Nat), k5 ≤ 4 → 4 < k5 + n7 → pa_w G x 4 (K, Sm, N, O) 0 0 11 [some (pv_o 4 0), some (pv_i (pz_it (ms_qs S) (40 * k1 + 10 * k5) 0)), some (pv_i (nI k1)), some (pv_i (nI k5))] [] := by
          intro n7
          induction n7 with
          | zero => intro k5 h1 h2; exact absurd h2 (by omega)
          | succ n7 ih8 =>
            intro k5 hk1_k5 hk2_k5
            refine pr_iload_n (pc := 11) C dX3_quarrels_11 rfl ?_
            refine pr_iconst (pc := 12) (v := 4) C dX3_quarrels_12 (by decide) ?_
            refine pr_icmp_geN (pc := 13) C 39 k5 4 dX3_quarrels_13 (by decide) rfl rfl (by omega) (by omega) (fun c_13 => ?_) (fun c_13 => ?_)
            · obtain rfl : 4 = k5 := by omega
              refine pr_los (lo' := [some (pv_o 4 0), some (pv_i (pz_it (ms_qs S) (40 * (k1 + 1)) 0)), some (pv_i (nI k1)), some (pv_i (nI 4))]) (by rw [show 40 * (k1 + 1) = 40 * k1 + 10 * 4 by omega]) ?_
              refine pr_iincN (pc := 39) C dX3_quarrels_39 rfl k1 1 rfl rfl (by decide) ?_
              refine pr_goto (pc := 42) C 4 dX3_quarrels_42 (by decide) ?_
              refine pr_lo (lo' := [some (pv_o 4 0), some (pv_i (pz_it (ms_qs S) (40 * (k1 + 1)) 0)), some (pv_i (nI (k1 + 1))), none]) (show pa_lle [some (pv_o 4 0), some (pv_i (pz_it (ms_qs S) (40 * (k1 + 1)) 0)), some (pv_i (nI (k1 + 1))), none] [some (pv_o 4 0), some (pv_i (pz_it (ms_qs S) (40 * (k1 + 1)) 0)), some (pv_i (nI (k1 + 1))), some (pv_i (nI 4))] by simp [pa_lle]) ?_
              exact ih4 (k1 + 1) (by omega) (by omega)
            · refine pr_iload_n (pc := 16) C dX3_quarrels_16 rfl ?_
              refine pr_aload_n (pc := 17) C dX3_quarrels_17 rfl ?_
              refine pr_geta (pc := 18) C 160 260 wf_X3_11 rfl rfl (by decide) (pl_4 _) dX3_quarrels_18 ?_
              refine pr_iload_n (pc := 21) C dX3_quarrels_21 rfl ?_
              refine pr_alds (pc := 22) (n := 4) C 160 k1 rfl rfl rfl (pl_r4 (by decide)) rfl (by omega) (by decide) dX3_quarrels_22 ?_
              refine pr_geta (pc := 23) C 53 153 wf_X3_229 rfl rfl (by decide) (pl_1 (by first | assumption | omega)) dX3_quarrels_23 ?_
              refine pr_iload_n (pc := 26) C dX3_quarrels_26 rfl ?_
              refine pr_aldi (pc := 27) (n := 4) C 53 k5 rfl rfl rfl (pl_r1 (by decide) (by first | assumption | omega)) rfl (by omega) (by decide) dX3_quarrels_27 ?_
              obtain ⟨bq, hb1, hKb, hbb⟩ := sj_r53 hs (show k1 < 4 by omega) (show k5 < 4 by omega)
              refine pr_eqi hKb ?_
              refine pr_sP (pc := 28) C (c_J6_bitCount_0f7a4 G _ (K, Sm, N, O) (nI bq)) ws_X3_232 rfl rfl (by decide) (Nat.le_of_ble_eq_true rfl) (by omega) (by omega) dX3_quarrels_28 ?_
              refine pr_iadd (pc := 31) C dX3_quarrels_31 ?_
              refine pr_istore_n (pc := 32) C dX3_quarrels_32 (by decide) ?_
              refine pr_los (lo' := [some (pv_o 4 0), some (pv_i (pz_it (ms_qs S) (40 * k1 + 10 * (k5 + 1)) 0)), some (pv_i (nI k1)), some (pv_i (nI k5))]) (by rw [show pz_it (ms_qs S) (40 * k1 + 10 * (k5 + 1)) 0 = ((pz_it (ms_qs S) (40 * k1 + 10 * k5) 0) + (sc_bc (nI bq))) by rw [show 40 * k1 + 10 * (k5 + 1) = (40 * k1 + 10 * k5) + 10 by omega, sc_qsum 10 hbb, sc_bc10 _ hb1]]; rfl) ?_
              refine pr_iincN (pc := 33) C dX3_quarrels_33 rfl k5 1 rfl rfl (by decide) ?_
              refine pr_goto (pc := 36) C 11 dX3_quarrels_36 (by decide) ?_
              exact ih8 (k5 + 1) (by omega) (by omega)
        exact lp6 (4 + 1) 0 (by omega) (by omega)
  exact lp2 (4 + 1) 0 (by omega) (by omega)

