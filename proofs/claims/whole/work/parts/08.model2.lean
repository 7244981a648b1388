/-! THE REFERENCE, second part: what is permitted, what hearers get, commitments and quarrels -/
def ms_perm (S : Nat → Nat → Int32) (sp a : Nat) (of : Int32) : Bool :=
  if decide (S 201 0 = 0) || ms_in (nI a) 4 6 then true else
  if ms_top S = nI sp then decide (a = 2) || (decide (a = 0) && decide (of = S 220 (ms_aq S))) else
  !pz_any (ms_asIn S sp) 10 || ((decide (a = 9) || decide (a = 10)) && ms_asIn S sp of.toNatClampNeg)
theorem ms_top_pos {S : Nat → Nat → Int32} {Q q0 sp : Nat} (w : mw_Q S Q q0) (hs : sp < 4) (h : ms_top S = nI sp) : 0 < Q := by
  rcases Nat.eq_zero_or_pos Q with c | c
  · rw [mw_Q_top w, if_pos c] at h
    have : ∀ k, k < 4 → ¬ (-1 : Int32) = nI k := by decide
    exact absurd h (this sp hs)
  · exact c
set_option maxRecDepth 100000 in
set_option maxHeartbeats 2000000 in
theorem c_X4_isPermitted (G : pa_G) (l : Launch) (h : pa_H) (sp av Q q0 : Nat) (of : Int32) (hs : sp < 4) (ha : av < 16) (hof : mw_of av of) (hw : mw_Q h.2.1 Q q0) : pa_MP G l mX4_isPermitted 3 [pv_o 5 0, pv_i (nI sp), pv_i (nI av), pv_i of] h (pv_i (pz_b (ms_perm h.2.1 sp av of))) := by
  refine pa_go l (by decide) (by simp [pa_c1l, pa_c1]) (fun _ => rfl) fun x C E el ea => ?_
  subst el
  obtain ⟨-, hQ6, hq100, -⟩ := id hw
  show pa_w G x 6 h 0 0 0 [some (pv_o 5 0), some (pv_i (nI sp)), some (pv_i (nI av)), some (pv_i of), none, none] []
  refine pr_aload_n (pc := 0) C dX4_isPermitted_0 rfl ?_
  refine pr_getm (pc := 1) C 201 wf_X4_124 rfl (by decide) (pl_5 _) dX4_isPermitted_1 ?_
  refine pr_if_eq (pc := 4) C 17 dX4_isPermitted_4 (by decide) (fun c_4 => ?_) (fun c_4 => ?_)
  · refine pr_iconst (pc := 17) (v := 1) C dX4_isPermitted_17 (by decide) ?_
    exact pr_iret (pc := 18) C E (Or.inr ⟨rfl, (by decide)⟩) (by omega) (by omega) ⟨(by simp [-Int32.not_le, -Int32.not_lt, pz_b, pz_lt, ms_perm, eq_true c_4]), rfl⟩ dX4_isPermitted_18
  · refine pr_iload_n (pc := 7) C dX4_isPermitted_7 rfl ?_
    refine pr_iconst (pc := 8) (v := 4) C dX4_isPermitted_8 (by decide) ?_
    refine pr_bipush (pc := 9) (v := 6) C dX4_isPermitted_9 (by decide) ?_
    refine pr_sP (pc := 11) C (c_X4_in G _ h (nI av) (4 : Int32) (6 : Int32)) ws_X4_102 rfl rfl (by decide) (Nat.le_of_ble_eq_true rfl) (by omega) (by omega) dX4_isPermitted_11 ?_
    refine pr_ifb_eq (pc := 14) C 19 dX4_isPermitted_14 (by decide) (fun c_14 => ?_) (fun c_14 => ?_)
    · refine pr_aload_n (pc := 19) C dX4_isPermitted_19 rfl ?_
      refine pr_vP (pc := 20) C (c_X4_topAsked G _ h Q q0 hw) wv_X4_144 rfl rfl (by decide) (by decide) (pl_5 _) (Nat.le_of_ble_eq_true rfl) (by omega) (by omega) dX4_isPermitted_20 ?_
      refine pr_iload_n (pc := 23) C dX4_isPermitted_23 rfl ?_
      refine pr_icmp_ne (pc := 24) C 62 dX4_isPermitted_24 (by decide) (fun c_24 => ?_) (fun c_24 => ?_)
      · refine pr_iconst (pc := 62) (v := 0) C dX4_isPermitted_62 (by decide) ?_
        refine pr_istore (pc := 63) C dX4_isPermitted_63 (by decide) ?_
        refine pr_iconst (pc := 65) (v := 0) C dX4_isPermitted_65 (by decide) ?_
        refine pr_istore (pc := 66) C dX4_isPermitted_66 (by decide) ?_
        have lp2 : ∀ (n3 k1 : Nat), k1 ≤ 10 → 10 < k1 + n3 → pa_w G x 6 h 0 0 68 [some (pv_o 5 0), some (pv_i (nI sp)), some (pv_i (nI av)), some (pv_i of), some (pv_i (pz_b (pz_any (ms_asIn h.2.1 sp) k1))), some (pv_i (nI k1))] [] := by
          intro n3
          induction n3 with
          | zero => intro k1 h1 h2; exact absurd h2 (by omega)
          | succ n3 ih4 =>
            intro k1 hk1_k1 hk2_k1
            refine pr_iload (pc := 68) C dX4_isPermitted_68 rfl ?_
            refine pr_bipush (pc := 70) (v := 10) C dX4_isPermitted_70 (by decide) ?_
            refine pr_icmp_geN (pc := 72) C 103 k1 10 dX4_isPermitted_72 (by decide) rfl rfl (by omega) (by omega) (fun c_72 => ?_) (fun c_72 => ?_)
            · obtain rfl : 10 = k1 := by omega
              refine pr_iload (pc := 103) C dX4_isPermitted_103 rfl ?_
              refine pr_ifb_eq (pc := 105) C 129 dX4_isPermitted_105 (by decide) (fun c_105 => ?_) (fun c_105 => ?_)
              · refine pr_iconst (pc := 129) (v := 1) C dX4_isPermitted_129 (by decide) ?_
                refine pr_goto (pc := 130) C 134 dX4_isPermitted_130 (by decide) ?_
                exact pr_iret (pc := 134) C E (Or.inr ⟨rfl, (by decide)⟩) (by omega) (by omega) ⟨(by simp [-Int32.not_le, -Int32.not_lt, pz_b, pz_lt, ms_perm, eq_false c_4, c_14, eq_false c_24, c_105]), rfl⟩ dX4_isPermitted_134
              · refine pr_iload_n (pc := 108) C dX4_isPermitted_108 rfl ?_
                refine pr_bipush (pc := 109) (v := 9) C dX4_isPermitted_109 (by decide) ?_
                refine pr_icmp_eqN (pc := 111) C 120 av 9 dX4_isPermitted_111 (by decide) rfl rfl (by omega) (by omega) (fun c_111 => ?_) (fun c_111 => ?_)
                · obtain ⟨u, hu, rfl⟩ := hof.2 (Or.inl ⟨by omega, by omega⟩)
                  refine pr_aload_n (pc := 120) C dX4_isPermitted_120 rfl ?_
                  refine pr_iload_n (pc := 121) C dX4_isPermitted_121 rfl ?_
                  refine pr_iload_n (pc := 122) C dX4_isPermitted_122 rfl ?_
                  refine pr_vP (pc := 123) C (c_X4_assertsIn G _ h sp u (by first | assumption | omega) (by first | assumption | omega)) wv_X4_157 rfl rfl (by decide) (by decide) (pl_5 _) (Nat.le_of_ble_eq_true rfl) (by omega) (by omega) dX4_isPermitted_123 ?_
                  refine pr_ifb_eq (pc := 126) C 133 dX4_isPermitted_126 (by decide) (fun c_126 => ?_) (fun c_126 => ?_)
                  · refine pr_iconst (pc := 133) (v := 0) C dX4_isPermitted_133 (by decide) ?_
                    exact pr_iret (pc := 134) C E (Or.inr ⟨rfl, (by decide)⟩) (by omega) (by omega) ⟨(by simp [-Int32.not_le, -Int32.not_lt, pz_b, pz_lt, ms_perm, pz_cl (show u < 1000 by omega), eq_false c_4, c_14, eq_false c_24, c_105, eq_true c_111, c_126]), rfl⟩ dX4_isPermitted_134
                  · refine pr_iconst (pc := 129) (v := 1) C dX4_isPermitted_129 (by decide) ?_
                    refine pr_goto (pc := 130) C 134 dX4_isPermitted_130 (by decide) ?_
                    exact pr_iret (pc := 134) C E (Or.inr ⟨rfl, (by decide)⟩) (by omega) (by omega) ⟨(by simp [-Int32.not_le, -Int32.not_lt, pz_b, pz_lt, ms_perm, pz_cl (show u < 1000 by omega), eq_false c_4, c_14, eq_false c_24, c_105, eq_true c_111, c_126]), rfl⟩ dX4_isPermitted_134
                · refine pr_iload_n (pc := 114) C dX4_isPermitted_114 rfl ?_
                  refine pr_bipush (pc := 115) (v := 10) C dX4_isPermitted_115 (by decide) ?_
                  refine pr_icmp_neN (pc := 117) C 133 av 10 dX4_isPermitted_117 (by decide) rfl rfl (by omega) (by omega) (fun c_117 => ?_) (fun c_117 => ?_)
                  · refine pr_iconst (pc := 133) (v := 0) C dX4_isPermitted_133 (by decide) ?_
                    exact pr_iret (pc := 134) C E (Or.inr ⟨rfl, (by decide)⟩) (by omega) (by omega) ⟨(by simp [-Int32.not_le, -Int32.not_lt, pz_b, pz_lt, ms_perm, eq_false c_4, c_14, eq_false c_24, c_105, eq_false c_111, eq_false c_117]), rfl⟩ dX4_isPermitted_134
                  · obtain ⟨u, hu, rfl⟩ := hof.2 (Or.inl ⟨by omega, by omega⟩)
                    refine pr_aload_n (pc := 120) C dX4_isPermitted_120 rfl ?_
                    refine pr_iload_n (pc := 121) C dX4_isPermitted_121 rfl ?_
                    refine pr_iload_n (pc := 122) C dX4_isPermitted_122 rfl ?_
                    refine pr_vP (pc := 123) C (c_X4_assertsIn G _ h sp u (by first | assumption | omega) (by first | assumption | omega)) wv_X4_157 rfl rfl (by decide) (by decide) (pl_5 _) (Nat.le_of_ble_eq_true rfl) (by omega) (by omega) dX4_isPermitted_123 ?_
                    refine pr_ifb_eq (pc := 126) C 133 dX4_isPermitted_126 (by decide) (fun c_126 => ?_) (fun c_126 => ?_)
                    · refine pr_iconst (pc := 133) (v := 0) C dX4_isPermitted_133 (by decide) ?_
                      exact pr_iret (pc := 134) C E (Or.inr ⟨rfl, (by decide)⟩) (by omega) (by omega) ⟨(by simp [-Int32.not_le, -Int32.not_lt, pz_b, pz_lt, ms_perm, pz_cl (show u < 1000 by omega), eq_false c_4, c_14, eq_false c_24, c_105, eq_false c_111, eq_true c_117, c_126]), rfl⟩ dX4_isPermitted_134
                    · refine pr_iconst (pc := 129) (v := 1) C dX4_isPermitted_129 (by decide) ?_
                      refine pr_goto (pc := 130) C 134 dX4_isPermitted_130 (by decide) ?_
                      exact pr_iret (pc := 134) C E (Or.inr ⟨rfl, (by decide)⟩) (by omega) (by omega) ⟨(by simp [-Int32.not_le, -Int32.not_lt, pz_b, pz_lt, ms_perm, pz_cl (show u < 1000 by omega), eq_false c_4, c_14, eq_false c_24, c_105, eq_false c_111, eq_true c_117, c_126]), rfl⟩ dX4_isPermitted_134
            · have j95_5 : pa_w G x 6 h 0 0 95 [some (pv_o 5 0), some (pv_i (nI sp)), some (pv_i (nI av)), some (pv_i of), some (pv_i (pz_b (pz_any (ms_asIn h.2.1 sp) k1))), some (pv_i (nI k1))] [pv_i (pz_b (pz_any (ms_asIn h.2.1 sp) (k1 + 1)))] := by
                refine pr_istore (pc := 95) C dX4_isPermitted_95 (by decide) ?_
                refine pr_iincN (pc := 97) C dX4_isPermitted_97 rfl k1 1 rfl rfl (by decide) ?_
                refine pr_goto (pc := 100) C 68 dX4_isPermitted_100 (by decide) ?_
                exact ih4 (k1 + 1) (by omega) (by omega)
              refine pr_iload (pc := 75) C dX4_isPermitted_75 rfl ?_
              refine pr_ifb_ne (pc := 77) C 90 dX4_isPermitted_77 (by decide) (fun c_77 => ?_) (fun c_77 => ?_)
              · refine pr_iconst (pc := 90) (v := 1) C dX4_isPermitted_90 (by decide) ?_
                refine pr_goto (pc := 91) C 95 dX4_isPermitted_91 (by decide) ?_
                exact pr_eqi (show (1 : Int32) = (pz_b (pz_any (ms_asIn h.2.1 sp) (k1 + 1))) from (by simp [-Int32.not_le, -Int32.not_lt, pz_b, pz_lt, pz_any, eq_false c_4, c_14, eq_false c_24, c_72, c_77])) j95_5
              · refine pr_aload_n (pc := 80) C dX4_isPermitted_80 rfl ?_
                refine pr_iload_n (pc := 81) C dX4_isPermitted_81 rfl ?_
                refine pr_iload (pc := 82) C dX4_isPermitted_82 rfl ?_
                refine pr_vP (pc := 84) C (c_X4_assertsIn G _ h sp k1 (by first | assumption | omega) (by first | assumption | omega)) wv_X4_157 rfl rfl (by decide) (by decide) (pl_5 _) (Nat.le_of_ble_eq_true rfl) (by omega) (by omega) dX4_isPermitted_84 ?_
                refine pr_ifb_eq (pc := 87) C 94 dX4_isPermitted_87 (by decide) (fun c_87 => ?_) (fun c_87 => ?_)
                · refine pr_iconst (pc := 94) (v := 0) C dX4_isPermitted_94 (by decide) ?_
                  exact pr_eqi (show (0 : Int32) = (pz_b (pz_any (ms_asIn h.2.1 sp) (k1 + 1))) from (by simp [-Int32.not_le, -Int32.not_lt, pz_b, pz_lt, pz_any, eq_false c_4, c_14, eq_false c_24, c_72, c_77, c_87])) j95_5
                · refine pr_iconst (pc := 90) (v := 1) C dX4_isPermitted_90 (by decide) ?_
                  refine pr_goto (pc := 91) C 95 dX4_isPermitted_91 (by decide) ?_
                  exact pr_eqi (show (1 : Int32) = (pz_b (pz_any (ms_asIn h.2.1 sp) (k1 + 1))) from (by simp [-Int32.not_le, -Int32.not_lt, pz_b, pz_lt, pz_any, eq_false c_4, c_14, eq_false c_24, c_72, c_77, c_87])) j95_5
        exact lp2 (10 + 1) 0 (by omega) (by omega)
      · have hQ0 := ms_top_pos hw hs c_24
        refine pr_iload_n (pc := 27) C dX4_isPermitted_27 rfl ?_
        refine pr_iconst (pc := 28) (v := 2) C dX4_isPermitted_28 (by decide) ?_
        refine pr_icmp_eqN (pc := 29) C 56 av 2 dX4_isPermitted_29 (by decide) rfl rfl (by omega) (by omega) (fun c_29 => ?_) (fun c_29 => ?_)
        · refine pr_iconst (pc := 56) (v := 1) C dX4_isPermitted_56 (by decide) ?_
          refine pr_goto (pc := 57) C 61 dX4_isPermitted_57 (by decide) ?_
          exact pr_iret (pc := 61) C E (Or.inr ⟨rfl, (by decide)⟩) (by omega) (by omega) ⟨(by simp [-Int32.not_le, -Int32.not_lt, pz_b, pz_lt, ms_perm, mw_Q_aq hw hQ0, eq_false c_4, c_14, eq_true c_24, eq_true c_29]), rfl⟩ dX4_isPermitted_61
        · refine pr_iload_n (pc := 32) C dX4_isPermitted_32 rfl ?_
          refine pr_if_neN (pc := 33) C 60 av dX4_isPermitted_33 (by decide) rfl (by omega) (fun c_33 => ?_) (fun c_33 => ?_)
          · refine pr_iconst (pc := 60) (v := 0) C dX4_isPermitted_60 (by decide) ?_
            exact pr_iret (pc := 61) C E (Or.inr ⟨rfl, (by decide)⟩) (by omega) (by omega) ⟨(by simp [-Int32.not_le, -Int32.not_lt, pz_b, pz_lt, ms_perm, mw_Q_aq hw hQ0, eq_false c_4, c_14, eq_true c_24, eq_false c_29, eq_false c_33]), rfl⟩ dX4_isPermitted_61
          · refine pr_iload_n (pc := 36) C dX4_isPermitted_36 rfl ?_
            refine pr_aload_n (pc := 37) C dX4_isPermitted_37 rfl ?_
            refine pr_geta (pc := 38) C 220 320 wf_X4_53 rfl rfl (by decide) (pl_5 _) dX4_isPermitted_38 ?_
            refine pr_aload_n (pc := 41) C dX4_isPermitted_41 rfl ?_
            refine pr_geta (pc := 42) C 232 332 wf_X4_86 rfl rfl (by decide) (pl_5 _) dX4_isPermitted_42 ?_
            refine pr_aload_n (pc := 45) C dX4_isPermitted_45 rfl ?_
            refine pr_getm (pc := 46) C 231 wf_X4_141 rfl (by decide) (pl_5 _) dX4_isPermitted_46 ?_
            refine pr_eqi hw.1 ?_
            refine pr_iconst (pc := 49) (v := 1) C dX4_isPermitted_49 (by decide) ?_
            refine pr_isubN (pc := 50) C dX4_isPermitted_50 Q 1 rfl rfl (by omega) ?_
            refine pr_aldm (pc := 51) (n := 6) C 232 (Q - 1) rfl rfl rfl (pl_r5 (by decide)) rfl (by omega) (by decide) dX4_isPermitted_51 ?_
            refine pr_eqi (hw.2.2.2 hQ0) ?_
            refine pr_aldm (pc := 52) (n := 100) C 220 q0 rfl rfl rfl (pl_r5 (by decide)) rfl (by omega) (by decide) dX4_isPermitted_52 ?_
            refine pr_icmp_ne (pc := 53) C 60 dX4_isPermitted_53 (by decide) (fun c_53 => ?_) (fun c_53 => ?_)
            · refine pr_iconst (pc := 60) (v := 0) C dX4_isPermitted_60 (by decide) ?_
              exact pr_iret (pc := 61) C E (Or.inr ⟨rfl, (by decide)⟩) (by omega) (by omega) ⟨(by simp [-Int32.not_le, -Int32.not_lt, pz_b, pz_lt, ms_perm, mw_Q_aq hw hQ0, eq_false c_4, c_14, eq_true c_24, eq_false c_29, eq_true c_33, eq_false c_53]), rfl⟩ dX4_isPermitted_61
            · refine pr_iconst (pc := 56) (v := 1) C dX4_isPermitted_56 (by decide) ?_
              refine pr_goto (pc := 57) C 61 dX4_isPermitted_57 (by decide) ?_
              exact pr_iret (pc := 61) C E (Or.inr ⟨rfl, (by decide)⟩) (by omega) (by omega) ⟨(by simp [-Int32.not_le, -Int32.not_lt, pz_b, pz_lt, ms_perm, mw_Q_aq hw hQ0, eq_false c_4, c_14, eq_true c_24, eq_false c_29, eq_true c_33, eq_true c_53]), rfl⟩ dX4_isPermitted_61
    · refine pr_iconst (pc := 17) (v := 1) C dX4_isPermitted_17 (by decide) ?_
      exact pr_iret (pc := 18) C E (Or.inr ⟨rfl, (by decide)⟩) (by omega) (by omega) ⟨(by simp [-Int32.not_le, -Int32.not_lt, pz_b, pz_lt, ms_perm, eq_false c_4, c_14]), rfl⟩ dX4_isPermitted_18

def ms_canSay (S : Nat → Nat → Int32) (sp a : Nat) (of how set : Int32) : Bool := decide (S 230 sp = -1) && decide (¬ 100 ≤ S 217 0) && ms_poss S sp a of how set && ms_perm S sp a of
set_option maxRecDepth 100000 in
set_option maxHeartbeats 2000000 in
theorem c_X4_canSay (G : pa_G) (l : Launch) (h : pa_H) (sp av Q q0 : Nat) (of how set : Int32) (hs : sp < 4) (ha : av < 16) (hof : mw_of av of) (hw : mw_Q h.2.1 Q q0) : pa_MP G l mX4_canSay 4 [pv_o 5 0, pv_i (nI sp), pv_i (nI av), pv_i of, pv_i how, pv_i set] h (pv_i (pz_b (ms_canSay h.2.1 sp av of how set))) := by
  refine pa_go l (by decide) (by simp [pa_c1l, pa_c1]) (fun _ => rfl) fun x C E el ea => ?_
  subst el
  show pa_w G x 6 h 0 0 0 [some (pv_o 5 0), some (pv_i (nI sp)), some (pv_i (nI av)), some (pv_i of), some (pv_i how), some (pv_i set)] []
  refine pr_aload_n (pc := 0) C dX4_canSay_0 rfl ?_
  refine pr_geta (pc := 1) C 230 330 wf_X4_83 rfl rfl (by decide) (pl_5 _) dX4_canSay_1 ?_
  refine pr_iload_n (pc := 4) C dX4_canSay_4 rfl ?_
  refine pr_aldm (pc := 5) (n := 4) C 230 sp rfl rfl rfl (pl_r5 (by decide)) rfl (by omega) (by decide) dX4_canSay_5 ?_
  refine pr_iconst (pc := 6) (v := -1) C dX4_canSay_6 (by decide) ?_
  refine pr_icmp_ne (pc := 7) C 47 dX4_canSay_7 (by decide) (fun c_7 => ?_) (fun c_7 => ?_)
  · refine pr_iconst (pc := 47) (v := 0) C dX4_canSay_47 (by decide) ?_
    exact pr_iret (pc := 48) C E (Or.inr ⟨rfl, (by decide)⟩) (by omega) (by omega) ⟨(by simp [-Int32.not_le, -Int32.not_lt, pz_b, pz_lt, ms_canSay, eq_false c_7]), rfl⟩ dX4_canSay_48
  · refine pr_aload_n (pc := 10) C dX4_canSay_10 rfl ?_
    refine pr_getm (pc := 11) C 217 wf_X4_131 rfl (by decide) (pl_5 _) dX4_canSay_11 ?_
    refine pr_bipush (pc := 14) (v := 100) C dX4_canSay_14 (by decide) ?_
    refine pr_icmp_ge (pc := 16) C 47 dX4_canSay_16 (by decide) (fun c_16 => ?_) (fun c_16 => ?_)
    · refine pr_iconst (pc := 47) (v := 0) C dX4_canSay_47 (by decide) ?_
      exact pr_iret (pc := 48) C E (Or.inr ⟨rfl, (by decide)⟩) (by omega) (by omega) ⟨(by simp [-Int32.not_le, -Int32.not_lt, pz_b, pz_lt, ms_canSay, eq_true c_7, c_16]), rfl⟩ dX4_canSay_48
    · refine pr_aload_n (pc := 19) C dX4_canSay_19 rfl ?_
      refine pr_iload_n (pc := 20) C dX4_canSay_20 rfl ?_
      refine pr_iload_n (pc := 21) C dX4_canSay_21 rfl ?_
      refine pr_iload_n (pc := 22) C dX4_canSay_22 rfl ?_
      refine pr_iload (pc := 23) C dX4_canSay_23 rfl ?_
      refine pr_iload (pc := 25) C dX4_canSay_25 rfl ?_
      refine pr_vP (pc := 27) C (c_X4_isPossible G _ h sp av Q q0 of how set (by first | assumption | omega) (by first | assumption | omega) hof hw) wv_X4_160 rfl rfl (by decide) (by decide) (pl_5 _) (Nat.le_of_ble_eq_true rfl) (by omega) (by omega) dX4_canSay_27 ?_
      refine pr_ifb_eq (pc := 30) C 47 dX4_canSay_30 (by decide) (fun c_30 => ?_) (fun c_30 => ?_)
      · refine pr_iconst (pc := 47) (v := 0) C dX4_canSay_47 (by decide) ?_
        exact pr_iret (pc := 48) C E (Or.inr ⟨rfl, (by decide)⟩) (by omega) (by omega) ⟨(by simp [-Int32.not_le, -Int32.not_lt, pz_b, pz_lt, ms_canSay, eq_true c_7, c_16, c_30]), rfl⟩ dX4_canSay_48
      · refine pr_aload_n (pc := 33) C dX4_canSay_33 rfl ?_
        refine pr_iload_n (pc := 34) C dX4_canSay_34 rfl ?_
        refine pr_iload_n (pc := 35) C dX4_canSay_35 rfl ?_
        refine pr_iload_n (pc := 36) C dX4_canSay_36 rfl ?_
        refine pr_vP (pc := 37) C (c_X4_isPermitted G _ h sp av Q q0 of (by first | assumption | omega) (by first | assumption | omega) hof hw) wv_X4_164 rfl rfl (by decide) (by decide) (pl_5 _) (Nat.le_of_ble_eq_true rfl) (by omega) (by omega) dX4_canSay_37 ?_
        refine pr_ifb_eq (pc := 40) C 47 dX4_canSay_40 (by decide) (fun c_40 => ?_) (fun c_40 => ?_)
        · refine pr_iconst (pc := 47) (v := 0) C dX4_canSay_47 (by decide) ?_
          exact pr_iret (pc := 48) C E (Or.inr ⟨rfl, (by decide)⟩) (by omega) (by omega) ⟨(by simp [-Int32.not_le, -Int32.not_lt, pz_b, pz_lt, ms_canSay, eq_true c_7, c_16, c_30, c_40]), rfl⟩ dX4_canSay_48
        · refine pr_iconst (pc := 43) (v := 1) C dX4_canSay_43 (by decide) ?_
          refine pr_goto (pc := 44) C 48 dX4_canSay_44 (by decide) ?_
          exact pr_iret (pc := 48) C E (Or.inr ⟨rfl, (by decide)⟩) (by omega) (by omega) ⟨(by simp [-Int32.not_le, -Int32.not_lt, pz_b, pz_lt, ms_canSay, eq_true c_7, c_16, c_30, c_40]), rfl⟩ dX4_canSay_48

/-- what a hearer k gets of the turn t as it is delivered -/
def ms_dlh (S : Nat → Nat → Int32) (t k : Nat) : Int32 := if ms_deaf S k then 1 else if ms_isIn (S 203 k) (S 226 t) then 3 else if ms_hasI S t k then 2 else 1
def ms_dls (t : Nat) (S : Nat → Nat → Int32) (k : Nat) : Nat → Nat → Int32 :=
  if ms_isIn (S 222 t) (nI k) && decide (¬ 2 ≤ S 228 (4 * t + k)) then
    pa_us (pa_us S 228 (4 * t + k) (ms_dlh S t k)) 229 (4 * t + k) (if ms_dlh S t k = 2 then S 200 0 + 2 else S 200 0) else S
def ms_dlv (S : Nat → Nat → Int32) (t : Nat) : Nat → Nat → Int32 := pz_it (ms_dls t) 4 S
theorem ms_dlv_ne {S : Nat → Nat → Int32} {t f j : Nat} (h1 : f ≠ 228) (h2 : f ≠ 229) : ms_dlv S t f j = S f j := by
  have := pz_it_inv (f := ms_dls t) (I := fun S' => S' f j = S f j) (fun s k h => by
    unfold ms_dls
    split
    · rw [pa_us_ne h2, pa_us_ne h1, h]
    · exact h) 4 S rfl
  exact this
set_option maxRecDepth 100000 in
set_option maxHeartbeats 2000000 in
theorem c_X4_delivers (G : pa_G) (l : Launch) (h : pa_H) (t : Nat) (ht : t < 100) : pa_ME G l mX4_delivers 3 [pv_o 5 0, pv_i (nI t)] h (h.1, ms_dlv h.2.1 t, h.2.2) := by
  refine pa_go l (by decide) (by simp [pa_c1l, pa_c1]) (fun _ => rfl) fun x C E el ea => ?_
  subst el
  show pa_w G x 5 h 0 0 0 [some (pv_o 5 0), some (pv_i (nI t)), none, none, none] []
  refine pr_iconst (pc := 0) (v := 0) C dX4_delivers_0 (by decide) ?_
  refine pr_istore_n (pc := 1) C dX4_delivers_1 (by decide) ?_
  have lp2 : ∀ (n3 k1 : Nat) (S5 : Nat → Nat → Int32), k1 ≤ 4 → 4 < k1 + n3 → S5 = pz_it (ms_dls t) k1 h.2.1 → pa_w G x 5 (h.1, S5, h.2.2) 0 0 2 [some (pv_o 5 0), some (pv_i (nI t)), some (pv_i (nI k1)), none, none] [] := by
    intro n3
    induction n3 with
    | zero => intro k1 S5 h1 h2; exact absurd h2 (by omega)
    | succ n3 ih4 =>
      intro k1 S5 hk1_k1 hk2_k1 eS_k1
      refine pr_iload_n (pc := 2) C dX4_delivers_2 rfl ?_
      refine pr_iconst (pc := 3) (v := 4) C dX4_delivers_3 (by decide) ?_
      refine pr_icmp_geN (pc := 4) C 129 k1 4 dX4_delivers_4 (by decide) rfl rfl (by omega) (by omega) (fun c_4 => ?_) (fun c_4 => ?_)
      · obtain rfl : 4 = k1 := by omega
        exact pr_vret (pc := 129) C E (by omega) (by omega) ⟨rfl, by rw [eS_k1]; rfl⟩ dX4_delivers_129
      · refine pr_iconst (pc := 7) (v := 4) C dX4_delivers_7 (by decide) ?_
        refine pr_iload_n (pc := 8) C dX4_delivers_8 rfl ?_
        refine pr_imulN (pc := 9) C dX4_delivers_9 4 t rfl rfl ?_
        refine pr_iload_n (pc := 10) C dX4_delivers_10 rfl ?_
        refine pr_iaddN (pc := 11) C dX4_delivers_11 (4 * t) k1 rfl rfl ?_
        refine pr_istore_n (pc := 12) C dX4_delivers_12 (by decide) ?_
        refine pr_aload_n (pc := 13) C dX4_delivers_13 rfl ?_
        refine pr_geta (pc := 14) C 222 322 wf_X4_59 rfl rfl (by decide) (pl_5 _) dX4_delivers_14 ?_
        refine pr_iload_n (pc := 17) C dX4_delivers_17 rfl ?_
        refine pr_aldm (pc := 18) (n := 100) C 222 t rfl rfl rfl (pl_r5 (by decide)) rfl (by omega) (by decide) dX4_delivers_18 ?_
        refine pr_iload_n (pc := 19) C dX4_delivers_19 rfl ?_
        refine pr_sP (pc := 20) C (c_X4_isIn G _ (h.1, S5, h.2.2) (S5 222 t) (nI k1)) ws_X4_114 rfl rfl (by decide) (Nat.le_of_ble_eq_true rfl) (by omega) (by omega) dX4_delivers_20 ?_
        refine pr_ifb_eq (pc := 23) C 123 dX4_delivers_23 (by decide) (fun c_23 => ?_) (fun c_23 => ?_)
        · refine pr_iincN (pc := 123) C dX4_delivers_123 rfl k1 1 rfl rfl (by decide) ?_
          refine pr_goto (pc := 126) C 2 dX4_delivers_126 (by decide) ?_
          refine pr_lo (lo' := [some (pv_o 5 0), some (pv_i (nI t)), some (pv_i (nI (k1 + 1))), none, none]) (show pa_lle [some (pv_o 5 0), some (pv_i (nI t)), some (pv_i (nI (k1 + 1))), none, none] [some (pv_o 5 0), some (pv_i (nI t)), some (pv_i (nI (k1 + 1))), some (pv_i (nI ((4 * t) + k1))), none] by simp [pa_lle]) ?_
          exact ih4 (k1 + 1) S5 (by omega) (by omega) (by rw [pz_it_s, ← eS_k1]; simp [-Int32.not_le, -Int32.not_lt, pz_b, pz_lt, ms_dls, ms_dlh, c_4, c_23])
        · refine pr_aload_n (pc := 26) C dX4_delivers_26 rfl ?_
          refine pr_geta (pc := 27) C 228 328 wf_X4_77 rfl rfl (by decide) (pl_5 _) dX4_delivers_27 ?_
          refine pr_iload_n (pc := 30) C dX4_delivers_30 rfl ?_
          refine pr_aldm (pc := 31) (n := 400) C 228 ((4 * t) + k1) rfl rfl rfl (pl_r5 (by decide)) rfl (by omega) (by decide) dX4_delivers_31 ?_
          refine pr_iconst (pc := 32) (v := 2) C dX4_delivers_32 (by decide) ?_
          refine pr_icmp_ge (pc := 33) C 123 dX4_delivers_33 (by decide) (fun c_33 => ?_) (fun c_33 => ?_)
          · refine pr_iincN (pc := 123) C dX4_delivers_123 rfl k1 1 rfl rfl (by decide) ?_
            refine pr_goto (pc := 126) C 2 dX4_delivers_126 (by decide) ?_
            refine pr_lo (lo' := [some (pv_o 5 0), some (pv_i (nI t)), some (pv_i (nI (k1 + 1))), none, none]) (show pa_lle [some (pv_o 5 0), some (pv_i (nI t)), some (pv_i (nI (k1 + 1))), none, none] [some (pv_o 5 0), some (pv_i (nI t)), some (pv_i (nI (k1 + 1))), some (pv_i (nI ((4 * t) + k1))), none] by simp [pa_lle]) ?_
            exact ih4 (k1 + 1) S5 (by omega) (by omega) (by rw [pz_it_s, ← eS_k1]; simp [-Int32.not_le, -Int32.not_lt, pz_b, pz_lt, ms_dls, ms_dlh, c_4, c_23, c_33])
          · refine pr_aload_n (pc := 36) C dX4_delivers_36 rfl ?_
            refine pr_geta (pc := 37) C 203 303 wf_X4_13 rfl rfl (by decide) (pl_5 _) dX4_delivers_37 ?_
            refine pr_iload_n (pc := 40) C dX4_delivers_40 rfl ?_
            refine pr_aldm (pc := 41) (n := 4) C 203 k1 rfl rfl rfl (pl_r5 (by decide)) rfl (by omega) (by decide) dX4_delivers_41 ?_
            refine pr_aload_n (pc := 42) C dX4_delivers_42 rfl ?_
            refine pr_geta (pc := 43) C 226 326 wf_X4_71 rfl rfl (by decide) (pl_5 _) dX4_delivers_43 ?_
            refine pr_iload_n (pc := 46) C dX4_delivers_46 rfl ?_
            refine pr_aldm (pc := 47) (n := 100) C 226 t rfl rfl rfl (pl_r5 (by decide)) rfl (by omega) (by decide) dX4_delivers_47 ?_
            refine pr_sP (pc := 48) C (c_X4_isIn G _ (h.1, S5, h.2.2) (S5 203 k1) (S5 226 t)) ws_X4_114 rfl rfl (by decide) (Nat.le_of_ble_eq_true rfl) (by omega) (by omega) dX4_delivers_48 ?_
            refine pr_istore (pc := 51) C dX4_delivers_51 (by decide) ?_
            refine pr_aload_n (pc := 53) C dX4_delivers_53 rfl ?_
            refine pr_geta (pc := 54) C 228 328 wf_X4_77 rfl rfl (by decide) (pl_5 _) dX4_delivers_54 ?_
            refine pr_iload_n (pc := 57) C dX4_delivers_57 rfl ?_
            have j93_6 : pa_w G x 5 (h.1, S5, h.2.2) 0 0 93 [some (pv_o 5 0), some (pv_i (nI t)), some (pv_i (nI k1)), some (pv_i (nI ((4 * t) + k1))), some (pv_i (pz_b (ms_isIn (S5 203 k1) (S5 226 t))))] [pv_i (ms_dlh S5 t k1), pv_i (nI ((4 * t) + k1)), pv_o 328 0] := by
              refine pr_astm (pc := 93) (n := 400) C 228 ((4 * t) + k1) rfl (by decide) rfl rfl (pl_r5 (by decide)) rfl (by omega) (by decide) dX4_delivers_93 ?_
              refine pr_aload_n (pc := 94) C dX4_delivers_94 rfl ?_
              refine pr_geta (pc := 95) C 229 329 wf_X4_80 rfl rfl (by decide) (pl_5 _) dX4_delivers_95 ?_
              refine pr_iload_n (pc := 98) C dX4_delivers_98 rfl ?_
              have j122_7 : pa_w G x 5 (h.1, (pa_us S5 228 ((4 * t) + k1) (ms_dlh S5 t k1)), h.2.2) 0 0 122 [some (pv_o 5 0), some (pv_i (nI t)), some (pv_i (nI k1)), some (pv_i (nI ((4 * t) + k1))), some (pv_i (pz_b (ms_isIn (S5 203 k1) (S5 226 t))))] [pv_i (if ms_dlh S5 t k1 = 2 then S5 200 0 + 2 else S5 200 0), pv_i (nI ((4 * t) + k1)), pv_o 329 0] := by
                refine pr_astm (pc := 122) (n := 400) C 229 ((4 * t) + k1) rfl (by decide) rfl rfl (pl_r5 (by decide)) rfl (by omega) (by decide) dX4_delivers_122 ?_
                refine pr_iincN (pc := 123) C dX4_delivers_123 rfl k1 1 rfl rfl (by decide) ?_
                refine pr_goto (pc := 126) C 2 dX4_delivers_126 (by decide) ?_
                refine pr_lo (lo' := [some (pv_o 5 0), some (pv_i (nI t)), some (pv_i (nI (k1 + 1))), none, none]) (show pa_lle [some (pv_o 5 0), some (pv_i (nI t)), some (pv_i (nI (k1 + 1))), none, none] [some (pv_o 5 0), some (pv_i (nI t)), some (pv_i (nI (k1 + 1))), some (pv_i (nI ((4 * t) + k1))), some (pv_i (pz_b (ms_isIn (S5 203 k1) (S5 226 t))))] by simp [pa_lle]) ?_
                exact ih4 (k1 + 1) (pa_us (pa_us S5 228 ((4 * t) + k1) (ms_dlh S5 t k1)) 229 ((4 * t) + k1) (if ms_dlh S5 t k1 = 2 then S5 200 0 + 2 else S5 200 0)) (by omega) (by omega) (by rw [pz_it_s, ← eS_k1]; simp [-Int32.not_le, -Int32.not_lt, pz_b, pz_lt, ms_dls, ms_dlh, c_4, c_23, c_33])
              refine pr_aload_n (pc := 99) C dX4_delivers_99 rfl ?_
              refine pr_geta (pc := 100) C 228 328 wf_X4_77 rfl rfl (by decide) (pl_5 _) dX4_delivers_100 ?_
              refine pr_iload_n (pc := 103) C dX4_delivers_103 rfl ?_
              refine pr_aldm (pc := 104) (n := 400) C 228 ((4 * t) + k1) rfl rfl rfl (pl_r5 (by decide)) rfl (by omega) (by decide) dX4_delivers_104 ?_
              refine pr_eqi (v := (ms_dlh S5 t k1)) (pa_us_self _ _ _ _) ?_
              refine pr_iconst (pc := 105) (v := 2) C dX4_delivers_105 (by decide) ?_
              refine pr_icmp_ne (pc := 106) C 118 dX4_delivers_106 (by decide) (fun c_106 => ?_) (fun c_106 => ?_)
              · refine pr_aload_n (pc := 118) C dX4_delivers_118 rfl ?_
                refine pr_getm (pc := 119) C 200 wf_X4_121 rfl (by decide) (pl_5 _) dX4_delivers_119 ?_
                refine pr_eqi (v := S5 200 0) rfl ?_
                exact pr_eqi (show (S5 200 0) = (if ms_dlh S5 t k1 = 2 then S5 200 0 + 2 else S5 200 0) from (by simp [-Int32.not_le, -Int32.not_lt, pz_b, pz_lt, c_4, c_23, c_33, eq_false c_106])) j122_7
              · refine pr_aload_n (pc := 109) C dX4_delivers_109 rfl ?_
                refine pr_getm (pc := 110) C 200 wf_X4_121 rfl (by decide) (pl_5 _) dX4_delivers_110 ?_
                refine pr_eqi (v := S5 200 0) rfl ?_
                refine pr_iconst (pc := 113) (v := 2) C dX4_delivers_113 (by decide) ?_
                refine pr_iadd (pc := 114) C dX4_delivers_114 ?_
                refine pr_goto (pc := 115) C 122 dX4_delivers_115 (by decide) ?_
                exact pr_eqi (show ((S5 200 0) + (2 : Int32)) = (if ms_dlh S5 t k1 = 2 then S5 200 0 + 2 else S5 200 0) from (by simp [-Int32.not_le, -Int32.not_lt, pz_b, pz_lt, c_4, c_23, c_33, eq_true c_106])) j122_7
            refine pr_aload_n (pc := 58) C dX4_delivers_58 rfl ?_
            refine pr_iload_n (pc := 59) C dX4_delivers_59 rfl ?_
            refine pr_vP (pc := 60) C (c_X4_isDeaf G _ (h.1, S5, h.2.2) k1 (by first | assumption | omega)) wv_X4_174 rfl rfl (by decide) (by decide) (pl_5 _) (Nat.le_of_ble_eq_true rfl) (by omega) (by omega) dX4_delivers_60 ?_
            refine pr_ifb_eq (pc := 63) C 70 dX4_delivers_63 (by decide) (fun c_63 => ?_) (fun c_63 => ?_)
            · refine pr_iload (pc := 70) C dX4_delivers_70 rfl ?_
              refine pr_ifb_eq (pc := 72) C 79 dX4_delivers_72 (by decide) (fun c_72 => ?_) (fun c_72 => ?_)
              · refine pr_aload_n (pc := 79) C dX4_delivers_79 rfl ?_
                refine pr_iload_n (pc := 80) C dX4_delivers_80 rfl ?_
                refine pr_iload_n (pc := 81) C dX4_delivers_81 rfl ?_
                refine pr_vP (pc := 82) C (c_X4_hasInterpreter G _ (h.1, S5, h.2.2) t k1 (by first | assumption | omega) (by first | assumption | omega)) wv_X4_177 rfl rfl (by decide) (by decide) (pl_5 _) (Nat.le_of_ble_eq_true rfl) (by omega) (by omega) dX4_delivers_82 ?_
                refine pr_ifb_eq (pc := 85) C 92 dX4_delivers_85 (by decide) (fun c_85 => ?_) (fun c_85 => ?_)
                · refine pr_iconst (pc := 92) (v := 1) C dX4_delivers_92 (by decide) ?_
                  exact pr_eqi (show (1 : Int32) = (ms_dlh S5 t k1) from (by simp [-Int32.not_le, -Int32.not_lt, pz_b, pz_lt, ms_dlh, c_4, c_23, c_33, c_63, c_72, c_85])) j93_6
                · refine pr_iconst (pc := 88) (v := 2) C dX4_delivers_88 (by decide) ?_
                  refine pr_goto (pc := 89) C 93 dX4_delivers_89 (by decide) ?_
                  exact pr_eqi (show (2 : Int32) = (ms_dlh S5 t k1) from (by simp [-Int32.not_le, -Int32.not_lt, pz_b, pz_lt, ms_dlh, c_4, c_23, c_33, c_63, c_72, c_85])) j93_6
              · refine pr_iconst (pc := 75) (v := 3) C dX4_delivers_75 (by decide) ?_
                refine pr_goto (pc := 76) C 93 dX4_delivers_76 (by decide) ?_
                exact pr_eqi (show (3 : Int32) = (ms_dlh S5 t k1) from (by simp [-Int32.not_le, -Int32.not_lt, pz_b, pz_lt, ms_dlh, c_4, c_23, c_33, c_63, c_72])) j93_6
            · refine pr_iconst (pc := 66) (v := 1) C dX4_delivers_66 (by decide) ?_
              refine pr_goto (pc := 67) C 93 dX4_delivers_67 (by decide) ?_
              exact pr_eqi (show (1 : Int32) = (ms_dlh S5 t k1) from (by simp [-Int32.not_le, -Int32.not_lt, pz_b, pz_lt, ms_dlh, c_4, c_23, c_33, c_63])) j93_6
  exact lp2 (4 + 1) 0 _ (by omega) (by omega) rfl

