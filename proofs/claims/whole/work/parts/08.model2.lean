/-! THE REFERENCE, second part: what is permitted, what hearers get, commitments and quarrels -/
def ms_perm (S : Nat → Nat → Int32) (sp a : Nat) (of : Int32) : Bool :=
  if decide (S 201 0 = 0) || ms_in (nI a) 4 6 then true else
  if ms_top S = nI sp then decide (a = 2) || (decide (a = 0) && decide (of = S 220 (ms_aq S))) else
  !pz_any (ms_asIn S sp) 10 || ((decide (a = 9) || decide (a = 10)) && ms_asIn S sp of.toNatClampNeg)
theorem ms_top_pos {S : Nat → Nat → Int32} {Q q0 sp : Nat} (w : mw_Q S Q q0) (hs : sp < 4) (h : ms_top S = nI sp) : 0 < Q := by
  rcases Nat.eq_zero_or_pos Q with c | c
  · rw [mw_Q_top w, if_pos c] at h
    have : ∀ k, k < 4 → ¬ (-1 : Int32) = nI k := by decide
    exact absurd h (this sp hs)
  · exact c
set_option maxRecDepth 100000 in
set_option maxHeartbeats 2000000 in
theorem c_X4_isPermitted (G : pa_G) (l : Launch) (h : pa_H) (sp av Q q0 : Nat) (of : Int32) (hs : sp < 4) (ha : av < 16) (hof : mw_of av of) (hw : mw_Q h.2.1 Q q0) : pa_MP G l mX4_isPermitted 3 [pv_o 5 0, pv_i (nI sp), pv_i (nI av), pv_i of] h (pv_i (pz_b (ms_perm h.2.1 sp av of))) := by
  refine pa_go l (by decide) (by simp [pa_c1l, pa_c1]) (fun _ => rfl) fun x C E el ea => ?_
  subst el
  obtain ⟨-, hQ6, hq100, -⟩ := id hw
  show pa_w G x 6 h 0 0 0 [some (pv_o 5 0), some (pv_i (nI sp)), some (pv_i (nI av)), some (pv_i of), none, none] []
  refine pr_aload_n (pc := 0) C dX4_isPermitted_0 rfl ?_
  refine pr_getm (pc := 1) C 201 wf_X4_124 rfl (by decide) (pl_5 _) dX4_isPermitted_1 ?_
  refine pr_if_eq (pc := 4) C 17 dX4_isPermitted_4 (by decide) (fun c_4 => ?_) (fun c_4 => ?_)
  · refine pr_iconst (pc := 17) (v := 1) C dX4_isPermitted_17 (by decide) ?_
    exact pr_iret (pc := 18) C E (Or.inr ⟨rfl, (by decide)⟩) (by omega) (by omega) ⟨(by simp [-Int32.not_le, -Int32.not_lt, pz_b, pz_lt, ms_perm, eq_true c_4]), rfl⟩ dX4_isPermitted_18
  · refine pr_iload_n (pc := 7) C dX4_isPermitted_7 rfl ?_
    refine pr_iconst (pc := 8) (v := 4) C dX4_isPermitted_8 (by decide) ?_
    refine pr_bipush (pc := 9) (v := 6) C dX4_isPermitted_9 (by decide) ?_
    refine pr_sP (pc := 11) C (c_X4_in G _ h (nI av) (4 : Int32) (6 : Int32)) ws_X4_102 rfl rfl (by decide) (Nat.le_of_ble_eq_true rfl) (by omega) (by omega) dX4_isPermitted_11 ?_
    refine pr_ifb_eq (pc := 14) C 19 dX4_isPermitted_14 (by decide) (fun c_14 => ?_) (fun c_14 => ?_)
    · refine pr_aload_n (pc := 19) C dX4_isPermitted_19 rfl ?_
      refine pr_vP (pc := 20) C (c_X4_topAsked G _ h Q q0 hw) wv_X4_144 rfl rfl (by decide) (by decide) (pl_5 _) (Nat.le_of_ble_eq_true rfl) (by omega) (by omega) dX4_isPermitted_20 ?_
      refine pr_iload_n (pc := 23) C dX4_isPermitted_23 rfl ?_
      refine pr_icmp_ne (pc := 24) C 62 dX4_isPermitted_24 (by decide) (fun c_24 => ?_) (fun c_24 => ?_)
      · refine pr_iconst (pc := 62) (v := 0) C dX4_isPermitted_62 (by decide) ?_
        refine pr_istore (pc := 63) C dX4_isPermitted_63 (by decide) ?_
        refine pr_iconst (pc := 65) (v := 0) C dX4_isPermitted_65 (by decide) ?_
        refine pr_istore (pc := 66) C dX4_isPermitted_66 (by decide) ?_
        have lp2 : ∀ (n3 k1 : Nat), k1 ≤ 10 → 10 < k1 + n3 → pa_w G x 6 h 0 0 68 [some (pv_o 5 0), some (pv_i (nI sp)), some (pv_i (nI av)), some (pv_i of), some (pv_i (pz_b (pz_any (ms_asIn h.2.1 sp) k1))), some (pv_i (nI k1))] [] := by
          intro n3
          induction n3 with
          | zero => intro k1 h1 h2; exact absurd h2 (by omega)
          | succ n3 ih4 =>
            intro k1 hk1_k1 hk2_k1
            refine pr_iload (pc := 68) C dX4_isPermitted_68 rfl ?_
            refine pr_bipush (pc := 70) (v := 10) C dX4_isPermitted_70 (by decide) ?_
            refine pr_icmp_geN (pc := 72) C 103 k1 10 dX4_isPermitted_72 (by decide) rfl rfl (by omega) (by omega) (fun c_72 => ?_) (fun c_72 => ?_)
            · obtain rfl : 10 = k1 := by omega
              refine pr_iload (pc := 103) C dX4_isPermitted_103 rfl ?_
              refine pr_ifb_eq (pc := 105) C 129 dX4_isPermitted_105 (by decide) (fun c_105 => ?_) (fun c_105 => ?_)
              · refine pr_iconst (pc := 129) (v := 1) C dX4_isPermitted_129 (by decide) ?_
                refine pr_goto (pc := 130) C 134 dX4_isPermitted_130 (by decide) ?_
                exact pr_iret (pc := 134) C E (Or.inr ⟨rfl, (by decide)⟩) (by omega) (by omega) ⟨(by simp [-Int32.not_le, -Int32.not_lt, pz_b, pz_lt, ms_perm, eq_false c_4, c_14, eq_false c_24, c_105]), rfl⟩ dX4_isPermitted_134
              · refine pr_iload_n (pc := 108) C dX4_isPermitted_108 rfl ?_
                refine pr_bipush (pc := 109) (v := 9) C dX4_isPermitted_109 (by decide) ?_
                refine pr_icmp_eqN (pc := 111) C 120 av 9 dX4_isPermitted_111 (by decide) rfl rfl (by omega) (by omega) (fun c_111 => ?_) (fun c_111 => ?_)
                · obtain ⟨u, hu, rfl⟩ := hof.2 (Or.inl ⟨by omega, by omega⟩)
                  refine pr_aload_n (pc := 120) C dX4_isPermitted_120 rfl ?_
                  refine pr_iload_n (pc := 121) C dX4_isPermitted_121 rfl ?_
                  refine pr_iload_n (pc := 122) C dX4_isPermitted_122 rfl ?_
                  refine pr_vP (pc := 123) C (c_X4_assertsIn G _ h sp u (by first | assumption | omega) (by first | assumption | omega)) wv_X4_157 rfl rfl (by decide) (by decide) (pl_5 _) (Nat.le_of_ble_eq_true rfl) (by omega) (by omega) dX4_isPermitted_123 ?_
                  refine pr_ifb_eq (pc := 126) C 133 dX4_isPermitted_126 (by decide) (fun c_126 => ?_) (fun c_126 => ?_)
                  · refine pr_iconst (pc := 133) (v := 0) C dX4_isPermitted_133 (by decide) ?_
                    exact pr_iret (pc := 134) C E (Or.inr ⟨rfl, (by decide)⟩) (by omega) (by omega) ⟨(by simp [-Int32.not_le, -Int32.not_lt, pz_b, pz_lt, ms_perm, pz_cl (show u < 1000 by omega), eq_false c_4, c_14, eq_false c_24, c_105, eq_true c_111, c_126]), rfl⟩ dX4_isPermitted_134
                  · refine pr_iconst (pc := 129) (v := 1) C dX4_isPermitted_129 (by decide) ?_
                    refine pr_goto (pc := 130) C 134 dX4_isPermitted_130 (by decide) ?_
                    exact pr_iret (pc := 134) C E (Or.inr ⟨rfl, (by decide)⟩) (by omega) (by omega) ⟨(by simp [-Int32.not_le, -Int32.not_lt, pz_b, pz_lt, ms_perm, pz_cl (show u < 1000 by omega), eq_false c_4, c_14, eq_false c_24, c_105, eq_true c_111, c_126]), rfl⟩ dX4_isPermitted_134
                · refine pr_iload_n (pc := 114) C dX4_isPermitted_114 rfl ?_
                  refine pr_bipush (pc := 115) (v := 10) C dX4_isPermitted_115 (by decide) ?_
                  refine pr_icmp_neN (pc := 117) C 133 av 10 dX4_isPermitted_117 (by decide) rfl rfl (by omega) (by omega) (fun c_117 => ?_) (fun c_117 => ?_)
                  · refine pr_iconst (pc := 133) (v := 0) C dX4_isPermitted_133 (by decide) ?_
                    exact pr_iret (pc := 134) C E (Or.inr ⟨rfl, (by decide)⟩) (by omega) (by omega) ⟨(by simp [-Int32.not_le, -Int32.not_lt, pz_b, pz_lt, ms_perm, eq_false c_4, c_14, eq_false c_24, c_105, eq_false c_111, eq_false c_117]), rfl⟩ dX4_isPermitted_134
                  · obtain ⟨u, hu, rfl⟩ := hof.2 (Or.inl ⟨by omega, by omega⟩)
                    refine pr_aload_n (pc := 120) C dX4_isPermitted_120 rfl ?_
                    refine pr_iload_n (pc := 121) C dX4_isPermitted_121 rfl ?_
                    refine pr_iload_n (pc := 122) C dX4_isPermitted_122 rfl ?_
                    refine pr_vP (pc := 123) C (c_X4_assertsIn G _ h sp u (by first | assumption | omega) (by first | assumption | omega)) wv_X4_157 rfl rfl (by decide) (by decide) (pl_5 _) (Nat.le_of_ble_eq_true rfl) (by omega) (by omega) dX4_isPermitted_123 ?_
                    refine pr_ifb_eq (pc := 126) C 133 dX4_isPermitted_126 (by decide) (fun c_126 => ?_) (fun c_126 => ?_)
                    · refine pr_iconst (pc := 133) (v := 0) C dX4_isPermitted_133 (by decide) ?_
                      exact pr_iret (pc := 134) C E (Or.inr ⟨rfl, (by decide)⟩) (by omega) (by omega) ⟨(by simp [-Int32.not_le, -Int32.not_lt, pz_b, pz_lt, ms_perm, pz_cl (show u < 1000 by omega), eq_false c_4, c_14, eq_false c_24, c_105, eq_false c_111, eq_true c_117, c_126]), rfl⟩ dX4_isPermitted_134
                    · refine pr_iconst (pc := 129) (v := 1) C dX4_isPermitted_129 (by decide) ?_
                      refine pr_goto (pc := 130) C 134 dX4_isPermitted_130 (by decide) ?_
                      exact pr_iret (pc := 134) C E (Or.inr ⟨rfl, (by decide)⟩) (by omega) (by omega) ⟨(by simp [-Int32.not_le, -Int32.not_lt, pz_b, pz_lt, ms_perm, pz_cl (show u < 1000 by omega), eq_false c_4, c_14, eq_false c_24, c_105, eq_false c_111, eq_true c_117, c_126]), rfl⟩ dX4_isPermitted_134
            · have j95_5 : pa_w G x 6 h 0 0 95 [some (pv_o 5 0), some (pv_i (nI sp)), some (pv_i (nI av)), some (pv_i of), some (pv_i (pz_b (pz_any (ms_asIn h.2.1 sp) k1))), some (pv_i (nI k1))] [pv_i (pz_b (pz_any (ms_asIn h.2.1 sp) (k1 + 1)))] := by
                refine pr_istore (pc := 95) C dX4_isPermitted_95 (by decide) ?_
                refine pr_iincN (pc := 97) C dX4_isPermitted_97 rfl k1 1 rfl rfl (by decide) ?_
                refine pr_goto (pc := 100) C 68 dX4_isPermitted_100 (by decide) ?_
                exact ih4 (k1 + 1) (by omega) (by omega)
              refine pr_iload (pc := 75) C dX4_isPermitted_75 rfl ?_
              refine pr_ifb_ne (pc := 77) C 90 dX4_isPermitted_77 (by decide) (fun c_77 => ?_) (fun c_77 => ?_)
              · refine pr_iconst (pc := 90) (v := 1) C dX4_isPermitted_90 (by decide) ?_
                refine pr_goto (pc := 91) C 95 dX4_isPermitted_91 (by decide) ?_
                exact pr_eqi (show (1 : Int32) = (pz_b (pz_any (ms_asIn h.2.1 sp) (k1 + 1))) from (by simp [-Int32.not_le, -Int32.not_lt, pz_b, pz_lt, pz_any, eq_false c_4, c_14, eq_false c_24, c_72, c_77])) j95_5
              · refine pr_aload_n (pc := 80) C dX4_isPermitted_80 rfl ?_
                refine pr_iload_n (pc := 81) C dX4_isPermitted_81 rfl ?_
                refine pr_iload (pc := 82) C dX4_isPermitted_82 rfl ?_
                refine pr_vP (pc := 84) C (c_X4_assertsIn G _ h sp k1 (by first | assumption | omega) (by first | assumption | omega)) wv_X4_157 rfl rfl (by decide) (by decide) (pl_5 _) (Nat.le_of_ble_eq_true rfl) (by omega) (by omega) dX4_isPermitted_84 ?_
                refine pr_ifb_eq (pc := 87) C 94 dX4_isPermitted_87 (by decide) (fun c_87 => ?_) (fun c_87 => ?_)
                · refine pr_iconst (pc := 94) (v := 0) C dX4_isPermitted_94 (by decide) ?_
                  exact pr_eqi (show (0 : Int32) = (pz_b (pz_any (ms_asIn h.2.1 sp) (k1 + 1))) from (by simp [-Int32.not_le, -Int32.not_lt, pz_b, pz_lt, pz_any, eq_false c_4, c_14, eq_false c_24, c_72, c_77, c_87])) j95_5
                · refine pr_iconst (pc := 90) (v := 1) C dX4_isPermitted_90 (by decide) ?_
                  refine pr_goto (pc := 91) C 95 dX4_isPermitted_91 (by decide) ?_
                  exact pr_eqi (show (1 : Int32) = (pz_b (pz_any (ms_asIn h.2.1 sp) (k1 + 1))) from (by simp [-Int32.not_le, -Int32.not_lt, pz_b, pz_lt, pz_any, eq_false c_4, c_14, eq_false c_24, c_72, c_77, c_87])) j95_5
        exact lp2 (10 + 1) 0 (by omega) (by omega)
      · have hQ0 := ms_top_pos hw hs c_24
        refine pr_iload_n (pc := 27) C dX4_isPermitted_27 rfl ?_
        refine pr_iconst (pc := 28) (v := 2) C dX4_isPermitted_28 (by decide) ?_
        refine pr_icmp_eqN (pc := 29) C 56 av 2 dX4_isPermitted_29 (by decide) rfl rfl (by omega) (by omega) (fun c_29 => ?_) (fun c_29 => ?_)
        · refine pr_iconst (pc := 56) (v := 1) C dX4_isPermitted_56 (by decide) ?_
          refine pr_goto (pc := 57) C 61 dX4_isPermitted_57 (by decide) ?_
          exact pr_iret (pc := 61) C E (Or.inr ⟨rfl, (by decide)⟩) (by omega) (by omega) ⟨(by simp [-Int32.not_le, -Int32.not_lt, pz_b, pz_lt, ms_perm, mw_Q_aq hw hQ0, eq_false c_4, c_14, eq_true c_24, eq_true c_29]), rfl⟩ dX4_isPermitted_61
        · refine pr_iload_n (pc := 32) C dX4_isPermitted_32 rfl ?_
          refine pr_if_neN (pc := 33) C 60 av dX4_isPermitted_33 (by decide) rfl (by omega) (fun c_33 => ?_) (fun c_33 => ?_)
          · refine pr_iconst (pc := 60) (v := 0) C dX4_isPermitted_60 (by decide) ?_
            exact pr_iret (pc := 61) C E (Or.inr ⟨rfl, (by decide)⟩) (by omega) (by omega) ⟨(by simp [-Int32.not_le, -Int32.not_lt, pz_b, pz_lt, ms_perm, mw_Q_aq hw hQ0, eq_false c_4, c_14, eq_true c_24, eq_false c_29, eq_false c_33]), rfl⟩ dX4_isPermitted_61
          · refine pr_iload_n (pc := 36) C dX4_isPermitted_36 rfl ?_
            refine pr_aload_n (pc := 37) C dX4_isPermitted_37 rfl ?_
            refine pr_geta (pc := 38) C 220 320 wf_X4_53 rfl rfl (by decide) (pl_5 _) dX4_isPermitted_38 ?_
            refine pr_aload_n (pc := 41) C dX4_isPermitted_41 rfl ?_
            refine pr_geta (pc := 42) C 232 332 wf_X4_86 rfl rfl (by decide) (pl_5 _) dX4_isPermitted_42 ?_
            refine pr_aload_n (pc := 45) C dX4_isPermitted_45 rfl ?_
            refine pr_getm (pc := 46) C 231 wf_X4_141 rfl (by decide) (pl_5 _) dX4_isPermitted_46 ?_
            refine pr_eqi hw.1 ?_
            refine pr_iconst (pc := 49) (v := 1) C dX4_isPermitted_49 (by decide) ?_
            refine pr_isubN (pc := 50) C dX4_isPermitted_50 Q 1 rfl rfl (by omega) ?_
            refine pr_aldm (pc := 51) (n := 6) C 232 (Q - 1) rfl rfl rfl (pl_r5 (by decide)) rfl (by omega) (by decide) dX4_isPermitted_51 ?_
            refine pr_eqi (hw.2.2.2 hQ0) ?_
            refine pr_aldm (pc := 52) (n := 100) C 220 q0 rfl rfl rfl (pl_r5 (by decide)) rfl (by omega) (by decide) dX4_isPermitted_52 ?_
            refine pr_icmp_ne (pc := 53) C 60 dX4_isPermitted_53 (by decide) (fun c_53 => ?_) (fun c_53 => ?_)
            · refine pr_iconst (pc := 60) (v := 0) C dX4_isPermitted_60 (by decide) ?_
              exact pr_iret (pc := 61) C E (Or.inr ⟨rfl, (by decide)⟩) (by omega) (by omega) ⟨(by simp [-Int32.not_le, -Int32.not_lt, pz_b, pz_lt, ms_perm, mw_Q_aq hw hQ0, eq_false c_4, c_14, eq_true c_24, eq_false c_29, eq_true c_33, eq_false c_53]), rfl⟩ dX4_isPermitted_61
            · refine pr_iconst (pc := 56) (v := 1) C dX4_isPermitted_56 (by decide) ?_
              refine pr_goto (pc := 57) C 61 dX4_isPermitted_57 (by decide) ?_
              exact pr_iret (pc := 61) C E (Or.inr ⟨rfl, (by decide)⟩) (by omega) (by omega) ⟨(by simp [-Int32.not_le, -Int32.not_lt, pz_b, pz_lt, ms_perm, mw_Q_aq hw hQ0, eq_false c_4, c_14, eq_true c_24, eq_false c_29, eq_true c_33, eq_true c_53]), rfl⟩ dX4_isPermitted_61
    · refine pr_iconst (pc := 17) (v := 1) C dX4_isPermitted_17 (by decide) ?_
      exact pr_iret (pc := 18) C E (Or.inr ⟨rfl, (by decide)⟩) (by omega) (by omega) ⟨(by simp [-Int32.not_le, -Int32.not_lt, pz_b, pz_lt, ms_perm, eq_false c_4, c_14]), rfl⟩ dX4_isPermitted_18

def ms_canSay (S : Nat → Nat → Int32) (sp a : Nat) (of how set : Int32) : Bool := decide (S 230 sp = -1) && decide (¬ 100 ≤ S 217 0) && ms_poss S sp a of how set && ms_perm S sp a of
set_option maxRecDepth 100000 in
set_option maxHeartbeats 2000000 in
theorem c_X4_canSay (G : pa_G) (l : Launch) (h : pa_H) (sp av Q q0 : Nat) (of how set : Int32) (hs : sp < 4) (ha : av < 16) (hof : mw_of av of) (hw : mw_Q h.2.1 Q q0) : pa_MP G l mX4_canSay 4 [pv_o 5 0, pv_i (nI sp), pv_i (nI av), pv_i of, pv_i how, pv_i set] h (pv_i (pz_b (ms_canSay h.2.1 sp av of how set))) := by
  refine pa_go l (by decide) (by simp [pa_c1l, pa_c1]) (fun _ => rfl) fun x C E el ea => ?_
  subst el
  show pa_w G x 6 h 0 0 0 [some (pv_o 5 0), some (pv_i (nI sp)), some (pv_i (nI av)), some (pv_i of), some (pv_i how), some (pv_i set)] []
  refine pr_aload_n (pc := 0) C dX4_canSay_0 rfl ?_
  refine pr_geta (pc := 1) C 230 330 wf_X4_83 rfl rfl (by decide) (pl_5 _) dX4_canSay_1 ?_
  refine pr_iload_n (pc := 4) C dX4_canSay_4 rfl ?_
  refine pr_aldm (pc := 5) (n := 4) C 230 sp rfl rfl rfl (pl_r5 (by decide)) rfl (by omega) (by decide) dX4_canSay_5 ?_
  refine pr_iconst (pc := 6) (v := -1) C dX4_canSay_6 (by decide) ?_
  refine pr_icmp_ne (pc := 7) C 47 dX4_canSay_7 (by decide) (fun c_7 => ?_) (fun c_7 => ?_)
  · refine pr_iconst (pc := 47) (v := 0) C dX4_canSay_47 (by decide) ?_
    exact pr_iret (pc := 48) C E (Or.inr ⟨rfl, (by decide)⟩) (by omega) (by omega) ⟨(by simp [-Int32.not_le, -Int32.not_lt, pz_b, pz_lt, ms_canSay, eq_false c_7]), rfl⟩ dX4_canSay_48
  · refine pr_aload_n (pc := 10) C dX4_canSay_10 rfl ?_
    refine pr_getm (pc := 11) C 217 wf_X4_131 rfl (by decide) (pl_5 _) dX4_canSay_11 ?_
    refine pr_bipush (pc := 14) (v := 100) C dX4_canSay_14 (by decide) ?_
    refine pr_icmp_ge (pc := 16) C 47 dX4_canSay_16 (by decide) (fun c_16 => ?_) (fun c_16 => ?_)
    · refine pr_iconst (pc := 47) (v := 0) C dX4_canSay_47 (by decide) ?_
      exact pr_iret (pc := 48) C E (Or.inr ⟨rfl, (by decide)⟩) (by omega) (by omega) ⟨(by simp [-Int32.not_le, -Int32.not_lt, pz_b, pz_lt, ms_canSay, eq_true c_7, c_16]), rfl⟩ dX4_canSay_48
    · refine pr_aload_n (pc := 19) C dX4_canSay_19 rfl ?_
      refine pr_iload_n (pc := 20) C dX4_canSay_20 rfl ?_
      refine pr_iload_n (pc := 21) C dX4_canSay_21 rfl ?_
      refine pr_iload_n (pc := 22) C dX4_canSay_22 rfl ?_
      refine pr_iload (pc := 23) C dX4_canSay_23 rfl ?_
      refine pr_iload (pc := 25) C dX4_canSay_25 rfl ?_
      refine pr_vP (pc := 27) C (c_X4_isPossible G _ h sp av Q q0 of how set (by first | assumption | omega) (by first | assumption | omega) hof hw) wv_X4_160 rfl rfl (by decide) (by decide) (pl_5 _) (Nat.le_of_ble_eq_true rfl) (by omega) (by omega) dX4_canSay_27 ?_
      refine pr_ifb_eq (pc := 30) C 47 dX4_canSay_30 (by decide) (fun c_30 => ?_) (fun c_30 => ?_)
      · refine pr_iconst (pc := 47) (v := 0) C dX4_canSay_47 (by decide) ?_
        exact pr_iret (pc := 48) C E (Or.inr ⟨rfl, (by decide)⟩) (by omega) (by omega) ⟨(by simp [-Int32.not_le, -Int32.not_lt, pz_b, pz_lt, ms_canSay, eq_true c_7, c_16, c_30]), rfl⟩ dX4_canSay_48
      · refine pr_aload_n (pc := 33) C dX4_canSay_33 rfl ?_
        refine pr_iload_n (pc := 34) C dX4_canSay_34 rfl ?_
        refine pr_iload_n (pc := 35) C dX4_canSay_35 rfl ?_
        refine pr_iload_n (pc := 36) C dX4_canSay_36 rfl ?_
        refine pr_vP (pc := 37) C (c_X4_isPermitted G _ h sp av Q q0 of (by first | assumption | omega) (by first | assumption | omega) hof hw) wv_X4_164 rfl rfl (by decide) (by decide) (pl_5 _) (Nat.le_of_ble_eq_true rfl) (by omega) (by omega) dX4_canSay_37 ?_
        refine pr_ifb_eq (pc := 40) C 47 dX4_canSay_40 (by decide) (fun c_40 => ?_) (fun c_40 => ?_)
        · refine pr_iconst (pc := 47) (v := 0) C dX4_canSay_47 (by decide) ?_
          exact pr_iret (pc := 48) C E (Or.inr ⟨rfl, (by decide)⟩) (by omega) (by omega) ⟨(by simp [-Int32.not_le, -Int32.not_lt, pz_b, pz_lt, ms_canSay, eq_true c_7, c_16, c_30, c_40]), rfl⟩ dX4_canSay_48
        · refine pr_iconst (pc := 43) (v := 1) C dX4_canSay_43 (by decide) ?_
          refine pr_goto (pc := 44) C 48 dX4_canSay_44 (by decide) ?_
          exact pr_iret (pc := 48) C E (Or.inr ⟨rfl, (by decide)⟩) (by omega) (by omega) ⟨(by simp [-Int32.not_le, -Int32.not_lt, pz_b, pz_lt, ms_canSay, eq_true c_7, c_16, c_30, c_40]), rfl⟩ dX4_canSay_48

/-- what a hearer k gets of the turn t as it is delivered -/
def ms_dlh (S : Nat → Nat → Int32) (t k : Nat) : Int32 := if ms_deaf S k then 1 else if ms_isIn (S 203 k) (S 226 t) then 3 else if ms_hasI S t k then 2 else 1
def ms_dls (t : Nat) (S : Nat → Nat → Int32) (k : Nat) : Nat → Nat → Int32 :=
  if ms_isIn (S 222 t) (nI k) && decide (¬ 2 ≤ S 228 (4 * t + k)) then
    pa_us (pa_us S 228 (4 * t + k) (ms_dlh S t k)) 229 (4 * t + k) (if ms_dlh S t k = 2 then S 200 0 + 2 else S 200 0) else S
def ms_dlv (S : Nat → Nat → Int32) (t : Nat) : Nat → Nat → Int32 := pz_it (ms_dls t) 4 S
theorem ms_dlv_ne {S : Nat → Nat → Int32} {t f j : Nat} (h1 : f ≠ 228) (h2 : f ≠ 229) : ms_dlv S t f j = S f j := by
  have := pz_it_inv (f := ms_dls t) (I := fun S' => S' f j = S f j) (fun s k h => by
    unfold ms_dls
    split
    · rw [pa_us_ne h2, pa_us_ne h1, h]
    · exact h) 4 S rfl
  exact this
set_option maxRecDepth 100000 in
set_option maxHeartbeats 2000000 in
theorem c_X4_delivers (G : pa_G) (l : Launch) (h : pa_H) (t : Nat) (ht : t < 100) : pa_ME G l mX4_delivers 3 [pv_o 5 0, pv_i (nI t)] h (h.1, ms_dlv h.2.1 t, h.2.2) := by
  refine pa_go l (by decide) (by simp [pa_c1l, pa_c1]) (fun _ => rfl) fun x C E el ea => ?_
  subst el
  show pa_w G x 5 h 0 0 0 [some (pv_o 5 0), some (pv_i (nI t)), none, none, none] []
  refine pr_iconst (pc := 0) (v := 0) C dX4_delivers_0 (by decide) ?_
  refine pr_istore_n (pc := 1) C dX4_delivers_1 (by decide) ?_
  have lp2 : ∀ (n3 k1 : Nat) (S5 : Nat → Nat → Int32), k1 ≤ 4 → 4 < k1 + n3 → S5 = pz_it (ms_dls t) k1 h.2.1 → pa_w G x 5 (h.1, S5, h.2.2) 0 0 2 [some (pv_o 5 0), some (pv_i (nI t)), some (pv_i (nI k1)), none, none] [] := by
    intro n3
    induction n3 with
    | zero => intro k1 S5 h1 h2; exact absurd h2 (by omega)
    | succ n3 ih4 =>
      intro k1 S5 hk1_k1 hk2_k1 eS_k1
      refine pr_iload_n (pc := 2) C dX4_delivers_2 rfl ?_
      refine pr_iconst (pc := 3) (v := 4) C dX4_delivers_3 (by decide) ?_
      refine pr_icmp_geN (pc := 4) C 129 k1 4 dX4_delivers_4 (by decide) rfl rfl (by omega) (by omega) (fun c_4 => ?_) (fun c_4 => ?_)
      · obtain rfl : 4 = k1 := by omega
        exact pr_vret (pc := 129) C E (by omega) (by omega) ⟨rfl, by rw [eS_k1]; rfl⟩ dX4_delivers_129
      · refine pr_iconst (pc := 7) (v := 4) C dX4_delivers_7 (by decide) ?_
        refine pr_iload_n (pc := 8) C dX4_delivers_8 rfl ?_
        refine pr_imulN (pc := 9) C dX4_delivers_9 4 t rfl rfl ?_
        refine pr_iload_n (pc := 10) C dX4_delivers_10 rfl ?_
        refine pr_iaddN (pc := 11) C dX4_delivers_11 (4 * t) k1 rfl rfl ?_
        refine pr_istore_n (pc := 12) C dX4_delivers_12 (by decide) ?_
        refine pr_aload_n (pc := 13) C dX4_delivers_13 rfl ?_
        refine pr_geta (pc := 14) C 222 322 wf_X4_59 rfl rfl (by decide) (pl_5 _) dX4_delivers_14 ?_
        refine pr_iload_n (pc := 17) C dX4_delivers_17 rfl ?_
        refine pr_aldm (pc := 18) (n := 100) C 222 t rfl rfl rfl (pl_r5 (by decide)) rfl (by omega) (by decide) dX4_delivers_18 ?_
        refine pr_iload_n (pc := 19) C dX4_delivers_19 rfl ?_
        refine pr_sP (pc := 20) C (c_X4_isIn G _ (h.1, S5, h.2.2) (S5 222 t) (nI k1)) ws_X4_114 rfl rfl (by decide) (Nat.le_of_ble_eq_true rfl) (by omega) (by omega) dX4_delivers_20 ?_
        refine pr_ifb_eq (pc := 23) C 123 dX4_delivers_23 (by decide) (fun c_23 => ?_) (fun c_23 => ?_)
        · refine pr_iincN (pc := 123) C dX4_delivers_123 rfl k1 1 rfl rfl (by decide) ?_
          refine pr_goto (pc := 126) C 2 dX4_delivers_126 (by decide) ?_
          refine pr_lo (lo' := [some (pv_o 5 0), some (pv_i (nI t)), some (pv_i (nI (k1 + 1))), none, none]) (show pa_lle [some (pv_o 5 0), some (pv_i (nI t)), some (pv_i (nI (k1 + 1))), none, none] [some (pv_o 5 0), some (pv_i (nI t)), some (pv_i (nI (k1 + 1))), some (pv_i (nI ((4 * t) + k1))), none] by simp [pa_lle]) ?_
          exact ih4 (k1 + 1) S5 (by omega) (by omega) (by rw [pz_it_s, ← eS_k1]; simp [-Int32.not_le, -Int32.not_lt, pz_b, pz_lt, ms_dls, ms_dlh, c_4, c_23])
        · refine pr_aload_n (pc := 26) C dX4_delivers_26 rfl ?_
          refine pr_geta (pc := 27) C 228 328 wf_X4_77 rfl rfl (by decide) (pl_5 _) dX4_delivers_27 ?_
          refine pr_iload_n (pc := 30) C dX4_delivers_30 rfl ?_
          refine pr_aldm (pc := 31) (n := 400) C 228 ((4 * t) + k1) rfl rfl rfl (pl_r5 (by decide)) rfl (by omega) (by decide) dX4_delivers_31 ?_
          refine pr_iconst (pc := 32) (v := 2) C dX4_delivers_32 (by decide) ?_
          refine pr_icmp_ge (pc := 33) C 123 dX4_delivers_33 (by decide) (fun c_33 => ?_) (fun c_33 => ?_)
          · refine pr_iincN (pc := 123) C dX4_delivers_123 rfl k1 1 rfl rfl (by decide) ?_
            refine pr_goto (pc := 126) C 2 dX4_delivers_126 (by decide) ?_
            refine pr_lo (lo' := [some (pv_o 5 0), some (pv_i (nI t)), some (pv_i (nI (k1 + 1))), none, none]) (show pa_lle [some (pv_o 5 0), some (pv_i (nI t)), some (pv_i (nI (k1 + 1))), none, none] [some (pv_o 5 0), some (pv_i (nI t)), some (pv_i (nI (k1 + 1))), some (pv_i (nI ((4 * t) + k1))), none] by simp [pa_lle]) ?_
            exact ih4 (k1 + 1) S5 (by omega) (by omega) (by rw [pz_it_s, ← eS_k1]; simp [-Int32.not_le, -Int32.not_lt, pz_b, pz_lt, ms_dls, ms_dlh, c_4, c_23, c_33])
          · refine pr_aload_n (pc := 36) C dX4_delivers_36 rfl ?_
            refine pr_geta (pc := 37) C 203 303 wf_X4_13 rfl rfl (by decide) (pl_5 _) dX4_delivers_37 ?_
            refine pr_iload_n (pc := 40) C dX4_delivers_40 rfl ?_
            refine pr_aldm (pc := 41) (n := 4) C 203 k1 rfl rfl rfl (pl_r5 (by decide)) rfl (by omega) (by decide) dX4_delivers_41 ?_
            refine pr_aload_n (pc := 42) C dX4_delivers_42 rfl ?_
            refine pr_geta (pc := 43) C 226 326 wf_X4_71 rfl rfl (by decide) (pl_5 _) dX4_delivers_43 ?_
            refine pr_iload_n (pc := 46) C dX4_delivers_46 rfl ?_
            refine pr_aldm (pc := 47) (n := 100) C 226 t rfl rfl rfl (pl_r5 (by decide)) rfl (by omega) (by decide) dX4_delivers_47 ?_
            refine pr_sP (pc := 48) C (c_X4_isIn G _ (h.1, S5, h.2.2) (S5 203 k1) (S5 226 t)) ws_X4_114 rfl rfl (by decide) (Nat.le_of_ble_eq_true rfl) (by omega) (by omega) dX4_delivers_48 ?_
            refine pr_istore (pc := 51) C dX4_delivers_51 (by decide) ?_
            refine pr_aload_n (pc := 53) C dX4_delivers_53 rfl ?_
            refine pr_geta (pc := 54) C 228 328 wf_X4_77 rfl rfl (by decide) (pl_5 _) dX4_delivers_54 ?_
            refine pr_iload_n (pc := 57) C dX4_delivers_57 rfl ?_
            have j93_6 : pa_w G x 5 (h.1, S5, h.2.2) 0 0 93 [some (pv_o 5 0), some (pv_i (nI t)), some (pv_i (nI k1)), some (pv_i (nI ((4 * t) + k1))), some (pv_i (pz_b (ms_isIn (S5 203 k1) (S5 226 t))))] [pv_i (ms_dlh S5 t k1), pv_i (nI ((4 * t) + k1)), pv_o 328 0] := by
              refine pr_astm (pc := 93) (n := 400) C 228 ((4 * t) + k1) rfl (by decide) rfl rfl (pl_r5 (by decide)) rfl (by omega) (by decide) dX4_delivers_93 ?_
              refine pr_aload_n (pc := 94) C dX4_delivers_94 rfl ?_
              refine pr_geta (pc := 95) C 229 329 wf_X4_80 rfl rfl (by decide) (pl_5 _) dX4_delivers_95 ?_
              refine pr_iload_n (pc := 98) C dX4_delivers_98 rfl ?_
              have j122_7 : pa_w G x 5 (h.1, (pa_us S5 228 ((4 * t) + k1) (ms_dlh S5 t k1)), h.2.2) 0 0 122 [some (pv_o 5 0), some (pv_i (nI t)), some (pv_i (nI k1)), some (pv_i (nI ((4 * t) + k1))), some (pv_i (pz_b (ms_isIn (S5 203 k1) (S5 226 t))))] [pv_i (if ms_dlh S5 t k1 = 2 then S5 200 0 + 2 else S5 200 0), pv_i (nI ((4 * t) + k1)), pv_o 329 0] := by
                refine pr_astm (pc := 122) (n := 400) C 229 ((4 * t) + k1) rfl (by decide) rfl rfl (pl_r5 (by decide)) rfl (by omega) (by decide) dX4_delivers_122 ?_
                refine pr_iincN (pc := 123) C dX4_delivers_123 rfl k1 1 rfl rfl (by decide) ?_
                refine pr_goto (pc := 126) C 2 dX4_delivers_126 (by decide) ?_
                refine pr_lo (lo' := [some (pv_o 5 0), some (pv_i (nI t)), some (pv_i (nI (k1 + 1))), none, none]) (show pa_lle [some (pv_o 5 0), some (pv_i (nI t)), some (pv_i (nI (k1 + 1))), none, none] [some (pv_o 5 0), some (pv_i (nI t)), some (pv_i (nI (k1 + 1))), some (pv_i (nI ((4 * t) + k1))), some (pv_i (pz_b (ms_isIn (S5 203 k1) (S5 226 t))))] by simp [pa_lle]) ?_
                exact ih4 (k1 + 1) (pa_us (pa_us S5 228 ((4 * t) + k1) (ms_dlh S5 t k1)) 229 ((4 * t) + k1) (if ms_dlh S5 t k1 = 2 then S5 200 0 + 2 else S5 200 0)) (by omega) (by omega) (by rw [pz_it_s, ← eS_k1]; simp [-Int32.not_le, -Int32.not_lt, pz_b, pz_lt, ms_dls, ms_dlh, c_4, c_23, c_33])
              refine pr_aload_n (pc := 99) C dX4_delivers_99 rfl ?_
              refine pr_geta (pc := 100) C 228 328 wf_X4_77 rfl rfl (by decide) (pl_5 _) dX4_delivers_100 ?_
              refine pr_iload_n (pc := 103) C dX4_delivers_103 rfl ?_
              refine pr_aldm (pc := 104) (n := 400) C 228 ((4 * t) + k1) rfl rfl rfl (pl_r5 (by decide)) rfl (by omega) (by decide) dX4_delivers_104 ?_
              refine pr_eqi (v := (ms_dlh S5 t k1)) (pa_us_self _ _ _ _) ?_
              refine pr_iconst (pc := 105) (v := 2) C dX4_delivers_105 (by decide) ?_
              refine pr_icmp_ne (pc := 106) C 118 dX4_delivers_106 (by decide) (fun c_106 => ?_) (fun c_106 => ?_)
              · refine pr_aload_n (pc := 118) C dX4_delivers_118 rfl ?_
                refine pr_getm (pc := 119) C 200 wf_X4_121 rfl (by decide) (pl_5 _) dX4_delivers_119 ?_
                refine pr_eqi (v := S5 200 0) rfl ?_
                exact pr_eqi (show (S5 200 0) = (if ms_dlh S5 t k1 = 2 then S5 200 0 + 2 else S5 200 0) from (by simp [-Int32.not_le, -Int32.not_lt, pz_b, pz_lt, c_4, c_23, c_33, eq_false c_106])) j122_7
              · refine pr_aload_n (pc := 109) C dX4_delivers_109 rfl ?_
                refine pr_getm (pc := 110) C 200 wf_X4_121 rfl (by decide) (pl_5 _) dX4_delivers_110 ?_
                refine pr_eqi (v := S5 200 0) rfl ?_
                refine pr_iconst (pc := 113) (v := 2) C dX4_delivers_113 (by decide) ?_
                refine pr_iadd (pc := 114) C dX4_delivers_114 ?_
                refine pr_goto (pc := 115) C 122 dX4_delivers_115 (by decide) ?_
                exact pr_eqi (show ((S5 200 0) + (2 : Int32)) = (if ms_dlh S5 t k1 = 2 then S5 200 0 + 2 else S5 200 0) from (by simp [-Int32.not_le, -Int32.not_lt, pz_b, pz_lt, c_4, c_23, c_33, eq_true c_106])) j122_7
            refine pr_aload_n (pc := 58) C dX4_delivers_58 rfl ?_
            refine pr_iload_n (pc := 59) C dX4_delivers_59 rfl ?_
            refine pr_vP (pc := 60) C (c_X4_isDeaf G _ (h.1, S5, h.2.2) k1 (by first | assumption | omega)) wv_X4_174 rfl rfl (by decide) (by decide) (pl_5 _) (Nat.le_of_ble_eq_true rfl) (by omega) (by omega) dX4_delivers_60 ?_
            refine pr_ifb_eq (pc := 63) C 70 dX4_delivers_63 (by decide) (fun c_63 => ?_) (fun c_63 => ?_)
            · refine pr_iload (pc := 70) C dX4_delivers_70 rfl ?_
              refine pr_ifb_eq (pc := 72) C 79 dX4_delivers_72 (by decide) (fun c_72 => ?_) (fun c_72 => ?_)
              · refine pr_aload_n (pc := 79) C dX4_delivers_79 rfl ?_
                refine pr_iload_n (pc := 80) C dX4_delivers_80 rfl ?_
                refine pr_iload_n (pc := 81) C dX4_delivers_81 rfl ?_
                refine pr_vP (pc := 82) C (c_X4_hasInterpreter G _ (h.1, S5, h.2.2) t k1 (by first | assumption | omega) (by first | assumption | omega)) wv_X4_177 rfl rfl (by decide) (by decide) (pl_5 _) (Nat.le_of_ble_eq_true rfl) (by omega) (by omega) dX4_delivers_82 ?_
                refine pr_ifb_eq (pc := 85) C 92 dX4_delivers_85 (by decide) (fun c_85 => ?_) (fun c_85 => ?_)
                · refine pr_iconst (pc := 92) (v := 1) C dX4_delivers_92 (by decide) ?_
                  exact pr_eqi (show (1 : Int32) = (ms_dlh S5 t k1) from (by simp [-Int32.not_le, -Int32.not_lt, pz_b, pz_lt, ms_dlh, c_4, c_23, c_33, c_63, c_72, c_85])) j93_6
                · refine pr_iconst (pc := 88) (v := 2) C dX4_delivers_88 (by decide) ?_
                  refine pr_goto (pc := 89) C 93 dX4_delivers_89 (by decide) ?_
                  exact pr_eqi (show (2 : Int32) = (ms_dlh S5 t k1) from (by simp [-Int32.not_le, -Int32.not_lt, pz_b, pz_lt, ms_dlh, c_4, c_23, c_33, c_63, c_72, c_85])) j93_6
              · refine pr_iconst (pc := 75) (v := 3) C dX4_delivers_75 (by decide) ?_
                refine pr_goto (pc := 76) C 93 dX4_delivers_76 (by decide) ?_
                exact pr_eqi (show (3 : Int32) = (ms_dlh S5 t k1) from (by simp [-Int32.not_le, -Int32.not_lt, pz_b, pz_lt, ms_dlh, c_4, c_23, c_33, c_63, c_72])) j93_6
            · refine pr_iconst (pc := 66) (v := 1) C dX4_delivers_66 (by decide) ?_
              refine pr_goto (pc := 67) C 93 dX4_delivers_67 (by decide) ?_
              exact pr_eqi (show (1 : Int32) = (ms_dlh S5 t k1) from (by simp [-Int32.not_le, -Int32.not_lt, pz_b, pz_lt, ms_dlh, c_4, c_23, c_33, c_63])) j93_6
  exact lp2 (4 + 1) 0 _ (by omega) (by omega) rfl

/-- is the quarrel k one still -/
def ms_qok (S : Nat → Nat → Int32) (k : Nat) : Bool := decide (S 233 k ≠ 0) && decide (S 208 (10 * (k / 40) + k % 10) ≠ 0) && decide (S 208 (10 * (k / 10 % 4) + k % 10) = ms_contrary (S 208 (10 * (k / 40) + k % 10)))
def ms_eqs (S : Nat → Nat → Int32) (k : Nat) : Nat → Nat → Int32 := pa_us S 233 k (pz_b (ms_qok S k))
def ms_eq (S : Nat → Nat → Int32) : Nat → Nat → Int32 := pz_it ms_eqs 160 S
theorem ms_eq_ne {S : Nat → Nat → Int32} {f j : Nat} (h1 : f ≠ 233) : ms_eq S f j = S f j :=
  pz_it_inv (f := ms_eqs) (I := fun S' => S' f j = S f j) (fun s k h => by unfold ms_eqs; rw [pa_us_ne h1, h]) 160 S rfl
set_option maxRecDepth 100000 in
set_option maxHeartbeats 2000000 in
theorem c_X4_endsQuarrels (G : pa_G) (l : Launch) (h : pa_H)  : pa_ME G l mX4_endsQuarrels 2 [pv_o 5 0] h (h.1, ms_eq h.2.1, h.2.2) := by
  refine pa_go l (by decide) (by simp [pa_c1l, pa_c1]) (fun _ => rfl) fun x C E el ea => ?_
  subst el
  show pa_w G x 4 h 0 0 0 [some (pv_o 5 0), none, none, none] []
  refine pr_iconst (pc := 0) (v := 0) C dX4_endsQuarrels_0 (by decide) ?_
  refine pr_istore_n (pc := 1) C dX4_endsQuarrels_1 (by decide) ?_
  have lp2 : ∀ (n3 k1 : Nat) (S5 : Nat → Nat → Int32), k1 ≤ 160 → 160 < k1 + n3 → S5 = pz_it ms_eqs k1 h.2.1 → pa_w G x 4 (h.1, S5, h.2.2) 0 0 2 [some (pv_o 5 0), some (pv_i (nI k1)), none, none] [] := by
    intro n3
    induction n3 with
    | zero => intro k1 S5 h1 h2; exact absurd h2 (by omega)
    | succ n3 ih4 =>
      intro k1 S5 hk1_k1 hk2_k1 eS_k1
      refine pr_iload_n (pc := 2) C dX4_endsQuarrels_2 rfl ?_
      refine pr_sipush (pc := 3) (v := 160) C dX4_endsQuarrels_3 (by decide) ?_
      refine pr_icmp_geN (pc := 6) C 85 k1 160 dX4_endsQuarrels_6 (by decide) rfl rfl (by omega) (by omega) (fun c_6 => ?_) (fun c_6 => ?_)
      · obtain rfl : 160 = k1 := by omega
        exact pr_vret (pc := 85) C E (by omega) (by omega) ⟨rfl, by rw [eS_k1]; rfl⟩ dX4_endsQuarrels_85
      · refine pr_aload_n (pc := 9) C dX4_endsQuarrels_9 rfl ?_
        refine pr_geta (pc := 10) C 208 308 wf_X4_29 rfl rfl (by decide) (pl_5 _) dX4_endsQuarrels_10 ?_
        refine pr_bipush (pc := 13) (v := 10) C dX4_endsQuarrels_13 (by decide) ?_
        refine pr_iload_n (pc := 15) C dX4_endsQuarrels_15 rfl ?_
        refine pr_bipush (pc := 16) (v := 40) C dX4_endsQuarrels_16 (by decide) ?_
        refine pr_idivN (pc := 18) C dX4_endsQuarrels_18 k1 40 rfl rfl (by omega) (by omega) (by omega) ?_
        refine pr_imulN (pc := 19) C dX4_endsQuarrels_19 10 (k1 / 40) rfl rfl ?_
        refine pr_iload_n (pc := 20) C dX4_endsQuarrels_20 rfl ?_
        refine pr_bipush (pc := 21) (v := 10) C dX4_endsQuarrels_21 (by decide) ?_
        refine pr_iremN (pc := 23) C dX4_endsQuarrels_23 k1 10 rfl rfl (by omega) (by omega) (by omega) ?_
        refine pr_iaddN (pc := 24) C dX4_endsQuarrels_24 (10 * (k1 / 40)) (k1 % 10) rfl rfl ?_
        refine pr_aldm (pc := 25) (n := 40) C 208 ((10 * (k1 / 40)) + (k1 % 10)) rfl rfl rfl (pl_r5 (by decide)) rfl (by omega) (by decide) dX4_endsQuarrels_25 ?_
        refine pr_istore_n (pc := 26) C dX4_endsQuarrels_26 (by decide) ?_
        refine pr_aload_n (pc := 27) C dX4_endsQuarrels_27 rfl ?_
        refine pr_geta (pc := 28) C 208 308 wf_X4_29 rfl rfl (by decide) (pl_5 _) dX4_endsQuarrels_28 ?_
        refine pr_bipush (pc := 31) (v := 10) C dX4_endsQuarrels_31 (by decide) ?_
        refine pr_iload_n (pc := 33) C dX4_endsQuarrels_33 rfl ?_
        refine pr_bipush (pc := 34) (v := 10) C dX4_endsQuarrels_34 (by decide) ?_
        refine pr_idivN (pc := 36) C dX4_endsQuarrels_36 k1 10 rfl rfl (by omega) (by omega) (by omega) ?_
        refine pr_iconst (pc := 37) (v := 4) C dX4_endsQuarrels_37 (by decide) ?_
        refine pr_iremN (pc := 38) C dX4_endsQuarrels_38 (k1 / 10) 4 rfl rfl (by omega) (by omega) (by omega) ?_
        refine pr_imulN (pc := 39) C dX4_endsQuarrels_39 10 ((k1 / 10) % 4) rfl rfl ?_
        refine pr_iload_n (pc := 40) C dX4_endsQuarrels_40 rfl ?_
        refine pr_bipush (pc := 41) (v := 10) C dX4_endsQuarrels_41 (by decide) ?_
        refine pr_iremN (pc := 43) C dX4_endsQuarrels_43 k1 10 rfl rfl (by omega) (by omega) (by omega) ?_
        refine pr_iaddN (pc := 44) C dX4_endsQuarrels_44 (10 * ((k1 / 10) % 4)) (k1 % 10) rfl rfl ?_
        refine pr_aldm (pc := 45) (n := 40) C 208 ((10 * ((k1 / 10) % 4)) + (k1 % 10)) rfl rfl rfl (pl_r5 (by decide)) rfl (by omega) (by decide) dX4_endsQuarrels_45 ?_
        refine pr_istore_n (pc := 46) C dX4_endsQuarrels_46 (by decide) ?_
        refine pr_aload_n (pc := 47) C dX4_endsQuarrels_47 rfl ?_
        refine pr_geta (pc := 48) C 233 333 wf_X4_89 rfl rfl (by decide) (pl_5 _) dX4_endsQuarrels_48 ?_
        refine pr_iload_n (pc := 51) C dX4_endsQuarrels_51 rfl ?_
        have j78_6 : pa_w G x 4 (h.1, S5, h.2.2) 0 0 78 [some (pv_o 5 0), some (pv_i (nI k1)), some (pv_i (S5 208 ((10 * (k1 / 40)) + (k1 % 10)))), some (pv_i (S5 208 ((10 * ((k1 / 10) % 4)) + (k1 % 10))))] [pv_i (pz_b (ms_qok S5 k1)), pv_i (nI k1), pv_o 333 0] := by
          refine pr_astb (pc := 78) (n := 160) C 233 k1 rfl (by decide) rfl rfl (pl_r5 (by decide)) (pz_b01 _) rfl (by omega) (by decide) dX4_endsQuarrels_78 ?_
          refine pr_iincN (pc := 79) C dX4_endsQuarrels_79 rfl k1 1 rfl rfl (by decide) ?_
          refine pr_goto (pc := 82) C 2 dX4_endsQuarrels_82 (by decide) ?_
          refine pr_lo (lo' := [some (pv_o 5 0), some (pv_i (nI (k1 + 1))), none, none]) (show pa_lle [some (pv_o 5 0), some (pv_i (nI (k1 + 1))), none, none] [some (pv_o 5 0), some (pv_i (nI (k1 + 1))), some (pv_i (S5 208 ((10 * (k1 / 40)) + (k1 % 10)))), some (pv_i (S5 208 ((10 * ((k1 / 10) % 4)) + (k1 % 10))))] by simp [pa_lle]) ?_
          exact ih4 (k1 + 1) (pa_us S5 233 k1 (pz_b (ms_qok S5 k1))) (by omega) (by omega) (by rw [pz_it_s, ← eS_k1]; rfl)
        refine pr_aload_n (pc := 52) C dX4_endsQuarrels_52 rfl ?_
        refine pr_geta (pc := 53) C 233 333 wf_X4_89 rfl rfl (by decide) (pl_5 _) dX4_endsQuarrels_53 ?_
        refine pr_iload_n (pc := 56) C dX4_endsQuarrels_56 rfl ?_
        refine pr_aldb (pc := 57) (n := 160) C 233 k1 rfl rfl rfl (pl_r5 (by decide)) rfl (by omega) (by decide) dX4_endsQuarrels_57 ?_
        refine pr_if_eq (pc := 58) C 77 dX4_endsQuarrels_58 (by decide) (fun c_58 => ?_) (fun c_58 => ?_)
        · refine pr_iconst (pc := 77) (v := 0) C dX4_endsQuarrels_77 (by decide) ?_
          exact pr_eqi (show (0 : Int32) = (pz_b (ms_qok S5 k1)) from (by simp [-Int32.not_le, -Int32.not_lt, pz_b, pz_lt, ms_qok, c_6, eq_true c_58])) j78_6
        · refine pr_iload_n (pc := 61) C dX4_endsQuarrels_61 rfl ?_
          refine pr_if_eq (pc := 62) C 77 dX4_endsQuarrels_62 (by decide) (fun c_62 => ?_) (fun c_62 => ?_)
          · refine pr_iconst (pc := 77) (v := 0) C dX4_endsQuarrels_77 (by decide) ?_
            exact pr_eqi (show (0 : Int32) = (pz_b (ms_qok S5 k1)) from (by simp [-Int32.not_le, -Int32.not_lt, pz_b, pz_lt, ms_qok, c_6, eq_false c_58, eq_true c_62])) j78_6
          · refine pr_iload_n (pc := 65) C dX4_endsQuarrels_65 rfl ?_
            refine pr_iload_n (pc := 66) C dX4_endsQuarrels_66 rfl ?_
            refine pr_sP (pc := 67) C (c_X4_contrary G _ (h.1, S5, h.2.2) (S5 208 ((10 * (k1 / 40)) + (k1 % 10)))) ws_X4_187 rfl rfl (by decide) (Nat.le_of_ble_eq_true rfl) (by omega) (by omega) dX4_endsQuarrels_67 ?_
            refine pr_icmp_ne (pc := 70) C 77 dX4_endsQuarrels_70 (by decide) (fun c_70 => ?_) (fun c_70 => ?_)
            · refine pr_iconst (pc := 77) (v := 0) C dX4_endsQuarrels_77 (by decide) ?_
              exact pr_eqi (show (0 : Int32) = (pz_b (ms_qok S5 k1)) from (by simp [-Int32.not_le, -Int32.not_lt, pz_b, pz_lt, ms_qok, c_6, eq_false c_58, eq_false c_62, eq_false c_70])) j78_6
            · refine pr_iconst (pc := 73) (v := 1) C dX4_endsQuarrels_73 (by decide) ?_
              refine pr_goto (pc := 74) C 78 dX4_endsQuarrels_74 (by decide) ?_
              exact pr_eqi (show (1 : Int32) = (pz_b (ms_qok S5 k1)) from (by simp [-Int32.not_le, -Int32.not_lt, pz_b, pz_lt, ms_qok, c_6, eq_false c_58, eq_false c_62, eq_true c_70])) j78_6
  exact lp2 (160 + 1) 0 _ (by omega) (by omega) rfl

def ms_com (S : Nat → Nat → Int32) (sp a9 : Nat) (its t : Int32) : Nat → Nat → Int32 := ms_eq (pa_us (pa_us S 208 (10 * sp + a9) its) 209 (10 * sp + a9) (if its = 0 then -1 else t))
theorem ms_com_ne {S : Nat → Nat → Int32} {sp a9 f j : Nat} {its t : Int32} (h1 : f ≠ 208) (h2 : f ≠ 209) (h3 : f ≠ 233) : ms_com S sp a9 its t f j = S f j := by
  unfold ms_com
  rw [ms_eq_ne h3, pa_us_ne h2, pa_us_ne h1]
set_option maxRecDepth 100000 in
set_option maxHeartbeats 2000000 in
theorem c_X4_commits (G : pa_G) (l : Launch) (h : pa_H) (sp a9 : Nat) (its t : Int32) (hs : sp < 4) (ha : a9 < 10) : pa_ME G l mX4_commits 3 [pv_o 5 0, pv_i (nI sp), pv_i (nI a9), pv_i its, pv_i t] h (h.1, ms_com h.2.1 sp a9 its t, h.2.2) := by
  refine pa_go l (by decide) (by simp [pa_c1l, pa_c1]) (fun _ => rfl) fun x C E el ea => ?_
  subst el
  show pa_w G x 5 h 0 0 0 [some (pv_o 5 0), some (pv_i (nI sp)), some (pv_i (nI a9)), some (pv_i its), some (pv_i t)] []
  refine pr_aload_n (pc := 0) C dX4_commits_0 rfl ?_
  refine pr_geta (pc := 1) C 208 308 wf_X4_29 rfl rfl (by decide) (pl_5 _) dX4_commits_1 ?_
  refine pr_bipush (pc := 4) (v := 10) C dX4_commits_4 (by decide) ?_
  refine pr_iload_n (pc := 6) C dX4_commits_6 rfl ?_
  refine pr_imulN (pc := 7) C dX4_commits_7 10 sp rfl rfl ?_
  refine pr_iload_n (pc := 8) C dX4_commits_8 rfl ?_
  refine pr_iaddN (pc := 9) C dX4_commits_9 (10 * sp) a9 rfl rfl ?_
  refine pr_iload_n (pc := 10) C dX4_commits_10 rfl ?_
  refine pr_astm (pc := 11) (n := 40) C 208 ((10 * sp) + a9) rfl (by decide) rfl rfl (pl_r5 (by decide)) rfl (by omega) (by decide) dX4_commits_11 ?_
  refine pr_aload_n (pc := 12) C dX4_commits_12 rfl ?_
  refine pr_geta (pc := 13) C 209 309 wf_X4_32 rfl rfl (by decide) (pl_5 _) dX4_commits_13 ?_
  refine pr_bipush (pc := 16) (v := 10) C dX4_commits_16 (by decide) ?_
  refine pr_iload_n (pc := 18) C dX4_commits_18 rfl ?_
  refine pr_imulN (pc := 19) C dX4_commits_19 10 sp rfl rfl ?_
  refine pr_iload_n (pc := 20) C dX4_commits_20 rfl ?_
  refine pr_iaddN (pc := 21) C dX4_commits_21 (10 * sp) a9 rfl rfl ?_
  have j32_1 : pa_w G x 5 (h.1, (pa_us h.2.1 208 ((10 * sp) + a9) its), h.2.2) 0 0 32 [some (pv_o 5 0), some (pv_i (nI sp)), some (pv_i (nI a9)), some (pv_i its), some (pv_i t)] [pv_i (if its = 0 then -1 else t), pv_i (nI ((10 * sp) + a9)), pv_o 309 0] := by
    refine pr_astm (pc := 32) (n := 40) C 209 ((10 * sp) + a9) rfl (by decide) rfl rfl (pl_r5 (by decide)) rfl (by omega) (by decide) dX4_commits_32 ?_
    refine pr_aload_n (pc := 33) C dX4_commits_33 rfl ?_
    refine pr_vE (pc := 34) C (c_X4_endsQuarrels G _ (h.1, (pa_us (pa_us h.2.1 208 ((10 * sp) + a9) its) 209 ((10 * sp) + a9) (if its = 0 then -1 else t)), h.2.2)) wv_X4_180 rfl rfl (by decide) (by decide) (pl_5 _) (Nat.le_of_ble_eq_true rfl) (by omega) (by omega) dX4_commits_34 ?_
    exact pr_vret (pc := 37) C E (by omega) (by omega) ⟨rfl, rfl⟩ dX4_commits_37
  refine pr_iload_n (pc := 22) C dX4_commits_22 rfl ?_
  refine pr_if_ne (pc := 23) C 30 dX4_commits_23 (by decide) (fun c_23 => ?_) (fun c_23 => ?_)
  · refine pr_iload (pc := 30) C dX4_commits_30 rfl ?_
    exact pr_eqi (show t = (if its = 0 then -1 else t) from (by simp [-Int32.not_le, -Int32.not_lt, pz_b, pz_lt, eq_false c_23])) j32_1
  · refine pr_iconst (pc := 26) (v := -1) C dX4_commits_26 (by decide) ?_
    refine pr_goto (pc := 27) C 32 dX4_commits_27 (by decide) ?_
    exact pr_eqi (show (-1 : Int32) = (if its = 0 then -1 else t) from (by simp [-Int32.not_le, -Int32.not_lt, pz_b, pz_lt, eq_true c_23])) j32_1

def ms_says (S : Nat → Nat → Int32) (t w a9 : Nat) (its : Int32) : Nat → Nat → Int32 :=
  pa_us (ms_com S w a9 its (nI t)) 212 w (S 212 w + pz_b (decide (S 207 (10 * w + a9) = ms_contrary its)))
theorem ms_says_ne {S : Nat → Nat → Int32} {t w a9 f j : Nat} {its : Int32} (h1 : f ≠ 208) (h2 : f ≠ 209) (h3 : f ≠ 233) (h4 : f ≠ 212) : ms_says S t w a9 its f j = S f j := by
  unfold ms_says
  rw [pa_us_ne h4, ms_com_ne h1 h2 h3]
set_option maxRecDepth 100000 in
set_option maxHeartbeats 2000000 in
theorem c_X4_says (G : pa_G) (l : Launch) (h : pa_H) (t w a9 : Nat) (its : Int32) (ht : t < 100) (hw : h.2.1 218 t = nI w) (hw4 : w < 4) (ha : a9 < 10) : pa_ME G l mX4_says 4 [pv_o 5 0, pv_i (nI t), pv_i (nI a9), pv_i its] h (h.1, ms_says h.2.1 t w a9 its, h.2.2) := by
  refine pa_go l (by decide) (by simp [pa_c1l, pa_c1]) (fun _ => rfl) fun x C E el ea => ?_
  subst el
  show pa_w G x 4 h 0 0 0 [some (pv_o 5 0), some (pv_i (nI t)), some (pv_i (nI a9)), some (pv_i its)] []
  refine pr_aload_n (pc := 0) C dX4_says_0 rfl ?_
  refine pr_aload_n (pc := 1) C dX4_says_1 rfl ?_
  refine pr_geta (pc := 2) C 218 318 wf_X4_47 rfl rfl (by decide) (pl_5 _) dX4_says_2 ?_
  refine pr_iload_n (pc := 5) C dX4_says_5 rfl ?_
  refine pr_aldm (pc := 6) (n := 100) C 218 t rfl rfl rfl (pl_r5 (by decide)) rfl (by omega) (by decide) dX4_says_6 ?_
  refine pr_eqi hw ?_
  refine pr_iload_n (pc := 7) C dX4_says_7 rfl ?_
  refine pr_iload_n (pc := 8) C dX4_says_8 rfl ?_
  refine pr_iload_n (pc := 9) C dX4_says_9 rfl ?_
  refine pr_vE (pc := 10) C (c_X4_commits G _ h w a9 its (nI t) (by first | assumption | omega) (by first | assumption | omega)) wv_X4_183 rfl rfl (by decide) (by decide) (pl_5 _) (Nat.le_of_ble_eq_true rfl) (by omega) (by omega) dX4_says_10 ?_
  refine pr_aload_n (pc := 13) C dX4_says_13 rfl ?_
  refine pr_geta (pc := 14) C 212 312 wf_X4_41 rfl rfl (by decide) (pl_5 _) dX4_says_14 ?_
  refine pr_aload_n (pc := 17) C dX4_says_17 rfl ?_
  refine pr_geta (pc := 18) C 218 318 wf_X4_47 rfl rfl (by decide) (pl_5 _) dX4_says_18 ?_
  refine pr_iload_n (pc := 21) C dX4_says_21 rfl ?_
  refine pr_aldm (pc := 22) (n := 100) C 218 t rfl rfl rfl (pl_r5 (by decide)) rfl (by omega) (by decide) dX4_says_22 ?_
  refine pr_eqi (v := h.2.1 218 t) (by simp only [pa_us_ne, pa_us_self, ms_dlv_ne, ms_eq_ne, ms_com_ne, ms_says_ne, ne_eq, Nat.reduceEqDiff, not_false_eq_true, reduceCtorEq]) ?_
  refine pr_eqi hw ?_
  refine pr_dup2 (pc := 23) C dX4_says_23 trivial trivial ?_
  refine pr_aldm (pc := 24) (n := 4) C 212 w rfl rfl rfl (pl_r5 (by decide)) rfl (by omega) (by decide) dX4_says_24 ?_
  refine pr_eqi (v := h.2.1 212 w) (by simp only [pa_us_ne, pa_us_self, ms_dlv_ne, ms_eq_ne, ms_com_ne, ms_says_ne, ne_eq, Nat.reduceEqDiff, not_false_eq_true, reduceCtorEq]) ?_
  have j53_1 : pa_w G x 4 (h.1, (ms_com h.2.1 w a9 its (nI t)), h.2.2) 0 0 53 [some (pv_o 5 0), some (pv_i (nI t)), some (pv_i (nI a9)), some (pv_i its)] [pv_i (pz_b (decide (h.2.1 207 (10 * w + a9) = ms_contrary its))), pv_i (h.2.1 212 w), pv_i (nI w), pv_o 312 0] := by
    refine pr_iadd (pc := 53) C dX4_says_53 ?_
    refine pr_astm (pc := 54) (n := 4) C 212 w rfl (by decide) rfl rfl (pl_r5 (by decide)) rfl (by omega) (by decide) dX4_says_54 ?_
    exact pr_vret (pc := 55) C E (by omega) (by omega) ⟨rfl, rfl⟩ dX4_says_55
  refine pr_aload_n (pc := 25) C dX4_says_25 rfl ?_
  refine pr_geta (pc := 26) C 207 307 wf_X4_26 rfl rfl (by decide) (pl_5 _) dX4_says_26 ?_
  refine pr_bipush (pc := 29) (v := 10) C dX4_says_29 (by decide) ?_
  refine pr_aload_n (pc := 31) C dX4_says_31 rfl ?_
  refine pr_geta (pc := 32) C 218 318 wf_X4_47 rfl rfl (by decide) (pl_5 _) dX4_says_32 ?_
  refine pr_iload_n (pc := 35) C dX4_says_35 rfl ?_
  refine pr_aldm (pc := 36) (n := 100) C 218 t rfl rfl rfl (pl_r5 (by decide)) rfl (by omega) (by decide) dX4_says_36 ?_
  refine pr_eqi (v := h.2.1 218 t) (by simp only [pa_us_ne, pa_us_self, ms_dlv_ne, ms_eq_ne, ms_com_ne, ms_says_ne, ne_eq, Nat.reduceEqDiff, not_false_eq_true, reduceCtorEq]) ?_
  refine pr_eqi hw ?_
  refine pr_imulN (pc := 37) C dX4_says_37 10 w rfl rfl ?_
  refine pr_iload_n (pc := 38) C dX4_says_38 rfl ?_
  refine pr_iaddN (pc := 39) C dX4_says_39 (10 * w) a9 rfl rfl ?_
  refine pr_aldm (pc := 40) (n := 40) C 207 ((10 * w) + a9) rfl rfl rfl (pl_r5 (by decide)) rfl (by omega) (by decide) dX4_says_40 ?_
  refine pr_eqi (v := h.2.1 207 ((10 * w) + a9)) (by simp only [pa_us_ne, pa_us_self, ms_dlv_ne, ms_eq_ne, ms_com_ne, ms_says_ne, ne_eq, Nat.reduceEqDiff, not_false_eq_true, reduceCtorEq]) ?_
  refine pr_iload_n (pc := 41) C dX4_says_41 rfl ?_
  refine pr_sP (pc := 42) C (c_X4_contrary G _ (h.1, (ms_com h.2.1 w a9 its (nI t)), h.2.2) its) ws_X4_187 rfl rfl (by decide) (Nat.le_of_ble_eq_true rfl) (by omega) (by omega) dX4_says_42 ?_
  refine pr_icmp_ne (pc := 45) C 52 dX4_says_45 (by decide) (fun c_45 => ?_) (fun c_45 => ?_)
  · refine pr_iconst (pc := 52) (v := 0) C dX4_says_52 (by decide) ?_
    exact pr_eqi (show (0 : Int32) = (pz_b (decide (h.2.1 207 (10 * w + a9) = ms_contrary its))) from (by simp [-Int32.not_le, -Int32.not_lt, pz_b, pz_lt, eq_false c_45])) j53_1
  · refine pr_iconst (pc := 48) (v := 1) C dX4_says_48 (by decide) ?_
    refine pr_goto (pc := 49) C 53 dX4_says_49 (by decide) ?_
    exact pr_eqi (show (1 : Int32) = (pz_b (decide (h.2.1 207 (10 * w + a9) = ms_contrary its))) from (by simp [-Int32.not_le, -Int32.not_lt, pz_b, pz_lt, eq_true c_45])) j53_1

def ms_chp (S : Nat → Nat → Int32) (t g k : Nat) : Bool := ms_isIn (S 222 t) (nI k) && decide (S 208 (10 * k + g) = 2)
def ms_chal (S : Nat → Nat → Int32) (t g : Nat) : Bool := pz_any (ms_chp S t g) 4
set_option maxRecDepth 100000 in
set_option maxHeartbeats 2000000 in
theorem c_X4_isChallenged (G : pa_G) (l : Launch) (h : pa_H) (t g : Nat) (ht : t < 100) (hg : h.2.1 223 t = nI g) (hg10 : g < 10) : pa_MP G l mX4_isChallenged 2 [pv_o 5 0, pv_i (nI t)] h (pv_i (pz_b (ms_chal h.2.1 t g))) := by
  refine pa_go l (by decide) (by simp [pa_c1l, pa_c1]) (fun _ => rfl) fun x C E el ea => ?_
  subst el
  show pa_w G x 4 h 0 0 0 [some (pv_o 5 0), some (pv_i (nI t)), none, none] []
  refine pr_iconst (pc := 0) (v := 0) C dX4_isChallenged_0 (by decide) ?_
  refine pr_istore_n (pc := 1) C dX4_isChallenged_1 (by decide) ?_
  refine pr_iconst (pc := 2) (v := 0) C dX4_isChallenged_2 (by decide) ?_
  refine pr_istore_n (pc := 3) C dX4_isChallenged_3 (by decide) ?_
  have lp2 : ∀ (n3 k1 : Nat), k1 ≤ 4 → 4 < k1 + n3 → pa_w G x 4 h 0 0 4 [some (pv_o 5 0), some (pv_i (nI t)), some (pv_i (pz_b (pz_any (ms_chp h.2.1 t g) k1))), some (pv_i (nI k1))] [] := by
    intro n3
    induction n3 with
    | zero => intro k1 h1 h2; exact absurd h2 (by omega)
    | succ n3 ih4 =>
      intro k1 hk1_k1 hk2_k1
      refine pr_iload_n (pc := 4) C dX4_isChallenged_4 rfl ?_
      refine pr_iconst (pc := 5) (v := 4) C dX4_isChallenged_5 (by decide) ?_
      refine pr_icmp_geN (pc := 6) C 58 k1 4 dX4_isChallenged_6 (by decide) rfl rfl (by omega) (by omega) (fun c_6 => ?_) (fun c_6 => ?_)
      · obtain rfl : 4 = k1 := by omega
        refine pr_iload_n (pc := 58) C dX4_isChallenged_58 rfl ?_
        exact pr_iret (pc := 59) C E (Or.inr ⟨rfl, (pz_b01 _)⟩) (by omega) (by omega) ⟨rfl, rfl⟩ dX4_isChallenged_59
      · have j51_5 : pa_w G x 4 h 0 0 51 [some (pv_o 5 0), some (pv_i (nI t)), some (pv_i (pz_b (pz_any (ms_chp h.2.1 t g) k1))), some (pv_i (nI k1))] [pv_i (pz_b (pz_any (ms_chp h.2.1 t g) (k1 + 1)))] := by
          refine pr_istore_n (pc := 51) C dX4_isChallenged_51 (by decide) ?_
          refine pr_iincN (pc := 52) C dX4_isChallenged_52 rfl k1 1 rfl rfl (by decide) ?_
          refine pr_goto (pc := 55) C 4 dX4_isChallenged_55 (by decide) ?_
          exact ih4 (k1 + 1) (by omega) (by omega)
        refine pr_iload_n (pc := 9) C dX4_isChallenged_9 rfl ?_
        refine pr_ifb_ne (pc := 10) C 46 dX4_isChallenged_10 (by decide) (fun c_10 => ?_) (fun c_10 => ?_)
        · refine pr_iconst (pc := 46) (v := 1) C dX4_isChallenged_46 (by decide) ?_
          refine pr_goto (pc := 47) C 51 dX4_isChallenged_47 (by decide) ?_
          exact pr_eqi (show (1 : Int32) = (pz_b (pz_any (ms_chp h.2.1 t g) (k1 + 1))) from (by simp [-Int32.not_le, -Int32.not_lt, pz_b, pz_lt, pz_any, ms_chp, c_6, c_10])) j51_5
        · refine pr_aload_n (pc := 13) C dX4_isChallenged_13 rfl ?_
          refine pr_geta (pc := 14) C 222 322 wf_X4_59 rfl rfl (by decide) (pl_5 _) dX4_isChallenged_14 ?_
          refine pr_iload_n (pc := 17) C dX4_isChallenged_17 rfl ?_
          refine pr_aldm (pc := 18) (n := 100) C 222 t rfl rfl rfl (pl_r5 (by decide)) rfl (by omega) (by decide) dX4_isChallenged_18 ?_
          refine pr_iload_n (pc := 19) C dX4_isChallenged_19 rfl ?_
          refine pr_sP (pc := 20) C (c_X4_isIn G _ h (h.2.1 222 t) (nI k1)) ws_X4_114 rfl rfl (by decide) (Nat.le_of_ble_eq_true rfl) (by omega) (by omega) dX4_isChallenged_20 ?_
          refine pr_ifb_eq (pc := 23) C 50 dX4_isChallenged_23 (by decide) (fun c_23 => ?_) (fun c_23 => ?_)
          · refine pr_iconst (pc := 50) (v := 0) C dX4_isChallenged_50 (by decide) ?_
            exact pr_eqi (show (0 : Int32) = (pz_b (pz_any (ms_chp h.2.1 t g) (k1 + 1))) from (by simp [-Int32.not_le, -Int32.not_lt, pz_b, pz_lt, pz_any, ms_chp, c_6, c_10, c_23])) j51_5
          · refine pr_aload_n (pc := 26) C dX4_isChallenged_26 rfl ?_
            refine pr_geta (pc := 27) C 208 308 wf_X4_29 rfl rfl (by decide) (pl_5 _) dX4_isChallenged_27 ?_
            refine pr_bipush (pc := 30) (v := 10) C dX4_isChallenged_30 (by decide) ?_
            refine pr_iload_n (pc := 32) C dX4_isChallenged_32 rfl ?_
            refine pr_imulN (pc := 33) C dX4_isChallenged_33 10 k1 rfl rfl ?_
            refine pr_aload_n (pc := 34) C dX4_isChallenged_34 rfl ?_
            refine pr_geta (pc := 35) C 223 323 wf_X4_62 rfl rfl (by decide) (pl_5 _) dX4_isChallenged_35 ?_
            refine pr_iload_n (pc := 38) C dX4_isChallenged_38 rfl ?_
            refine pr_aldm (pc := 39) (n := 100) C 223 t rfl rfl rfl (pl_r5 (by decide)) rfl (by omega) (by decide) dX4_isChallenged_39 ?_
            refine pr_eqi hg ?_
            refine pr_iaddN (pc := 40) C dX4_isChallenged_40 (10 * k1) g rfl rfl ?_
            refine pr_aldm (pc := 41) (n := 40) C 208 ((10 * k1) + g) rfl rfl rfl (pl_r5 (by decide)) rfl (by omega) (by decide) dX4_isChallenged_41 ?_
            refine pr_iconst (pc := 42) (v := 2) C dX4_isChallenged_42 (by decide) ?_
            refine pr_icmp_ne (pc := 43) C 50 dX4_isChallenged_43 (by decide) (fun c_43 => ?_) (fun c_43 => ?_)
            · refine pr_iconst (pc := 50) (v := 0) C dX4_isChallenged_50 (by decide) ?_
              exact pr_eqi (show (0 : Int32) = (pz_b (pz_any (ms_chp h.2.1 t g) (k1 + 1))) from (by simp [-Int32.not_le, -Int32.not_lt, pz_b, pz_lt, pz_any, ms_chp, c_6, c_10, c_23, eq_false c_43])) j51_5
            · refine pr_iconst (pc := 46) (v := 1) C dX4_isChallenged_46 (by decide) ?_
              refine pr_goto (pc := 47) C 51 dX4_isChallenged_47 (by decide) ?_
              exact pr_eqi (show (1 : Int32) = (pz_b (pz_any (ms_chp h.2.1 t g) (k1 + 1))) from (by simp [-Int32.not_le, -Int32.not_lt, pz_b, pz_lt, pz_any, ms_chp, c_6, c_10, c_23, eq_true c_43])) j51_5
  exact lp2 (4 + 1) 0 (by omega) (by omega)

def ms_right (S : Nat → Nat → Int32) (v : Int32) : Nat → Nat → Int32 := pa_us (pa_us S 215 0 v) 216 0 (S 200 0 + 2)
theorem ms_right_ne {S : Nat → Nat → Int32} {v : Int32} {f j : Nat} (h1 : f ≠ 215) (h2 : f ≠ 216) : ms_right S v f j = S f j := by
  unfold ms_right
  rw [pa_us_ne h2, pa_us_ne h1]
set_option maxRecDepth 100000 in
set_option maxHeartbeats 2000000 in
theorem c_X4_rightTo (G : pa_G) (l : Launch) (h : pa_H) (v : Int32) : pa_ME G l mX4_rightTo 1 [pv_o 5 0, pv_i v] h (h.1, ms_right h.2.1 v, h.2.2) := by
  refine pa_go l (by decide) (by simp [pa_c1l, pa_c1]) (fun _ => rfl) fun x C E el ea => ?_
  subst el
  show pa_w G x 2 h 0 0 0 [some (pv_o 5 0), some (pv_i v)] []
  refine pr_aload_n (pc := 0) C dX4_rightTo_0 rfl ?_
  refine pr_iload_n (pc := 1) C dX4_rightTo_1 rfl ?_
  refine pr_putm (pc := 2) C 215 wp_X4_95 rfl (by decide) rfl (pl_5 _) dX4_rightTo_2 ?_
  refine pr_aload_n (pc := 5) C dX4_rightTo_5 rfl ?_
  refine pr_aload_n (pc := 6) C dX4_rightTo_6 rfl ?_
  refine pr_getm (pc := 7) C 200 wf_X4_121 rfl (by decide) (pl_5 _) dX4_rightTo_7 ?_
  refine pr_eqi (v := h.2.1 200 0) rfl ?_
  refine pr_iconst (pc := 10) (v := 2) C dX4_rightTo_10 (by decide) ?_
  refine pr_iadd (pc := 11) C dX4_rightTo_11 ?_
  refine pr_putm (pc := 12) C 216 wp_X4_190 rfl (by decide) rfl (pl_5 _) dX4_rightTo_12 ?_
  exact pr_vret (pc := 15) C E (by omega) (by omega) ⟨rfl, rfl⟩ dX4_rightTo_15

theorem mw_Q_of {S S' : Nat → Nat → Int32} {Q q0 : Nat} (w : mw_Q S Q q0) (h1 : S' 231 0 = S 231 0) (h2 : ∀ j, S' 232 j = S 232 j) : mw_Q S' Q q0 := ⟨h1.trans w.1, w.2.1, w.2.2.1, fun z => (h2 _).trans (w.2.2.2 z)⟩
theorem mw_Q_says {S : Nat → Nat → Int32} {Q q0 t w a9 : Nat} {its : Int32} (h : mw_Q S Q q0) : mw_Q (ms_says S t w a9 its) Q q0 := mw_Q_of h (ms_says_ne (by decide) (by decide) (by decide) (by decide)) (fun _ => ms_says_ne (by decide) (by decide) (by decide) (by decide))
/-- the acts about questions: x the atom of an ASSERT, y that of the question that is answered -/
def ms_doQ (S : Nat → Nat → Int32) (t w a Q q0 x y : Nat) : Nat → Nat → Int32 :=
  if a = 1 then ms_right (pa_us (pa_us S 232 Q (nI t)) 231 0 (nI (Q + 1))) (ms_one (S 222 t)) else
  if a = 3 then pa_us S 231 0 (nI (Q - 1)) else
  if a = 2 then (if ¬ S 221 t ≤ 0 then ms_says (pa_us (pa_us S 231 0 (nI (Q - 1))) 220 t (nI y)) t w y (S 221 t) else pa_us (pa_us S 231 0 (nI (Q - 1))) 220 t (nI y)) else
  pa_us (ms_says S t w x (S 221 t)) 231 0 (nI (if (decide (ms_top (ms_says S t w x (S 221 t)) = nI w) && decide (S 220 q0 = nI x)) then Q - 1 else Q))
set_option maxRecDepth 100000 in
set_option maxHeartbeats 2000000 in
theorem c_X4_doesQuestion (G : pa_G) (l : Launch) (h : pa_H) (t w a Q q0 x9 y : Nat) (ht : t < 100) (hw : h.2.1 218 t = nI w) (hw4 : w < 4) (ha : h.2.1 219 t = nI a) (ha3 : a ≤ 3) (hQ : mw_Q h.2.1 Q q0) (h1 : a = 1 → Q < 6) (h23 : a = 2 ∨ a = 3 → 0 < Q) (h0 : a = 0 → h.2.1 220 t = nI x9 ∧ x9 < 10) (h2 : a = 2 → h.2.1 220 q0 = nI y ∧ y < 10) : pa_ME G l mX4_doesQuestion 5 [pv_o 5 0, pv_i (nI t)] h (h.1, ms_doQ h.2.1 t w a Q q0 x9 y, h.2.2) := by
  refine pa_go l (by decide) (by simp [pa_c1l, pa_c1]) (fun _ => rfl) fun x C E el ea => ?_
  subst el
  obtain ⟨-, hQ6, hq100, -⟩ := id hQ
  show pa_w G x 4 h 0 0 0 [some (pv_o 5 0), some (pv_i (nI t)), none, none] []
  refine pr_aload_n (pc := 0) C dX4_doesQuestion_0 rfl ?_
  refine pr_geta (pc := 1) C 219 319 wf_X4_50 rfl rfl (by decide) (pl_5 _) dX4_doesQuestion_1 ?_
  refine pr_iload_n (pc := 4) C dX4_doesQuestion_4 rfl ?_
  refine pr_aldm (pc := 5) (n := 100) C 219 t rfl rfl rfl (pl_r5 (by decide)) rfl (by omega) (by decide) dX4_doesQuestion_5 ?_
  refine pr_eqi ha ?_
  refine pr_istore_n (pc := 6) C dX4_doesQuestion_6 (by decide) ?_
  refine pr_iload_n (pc := 7) C dX4_doesQuestion_7 rfl ?_
  refine pr_iconst (pc := 8) (v := 1) C dX4_doesQuestion_8 (by decide) ?_
  refine pr_icmp_neN (pc := 9) C 48 a 1 dX4_doesQuestion_9 (by decide) rfl rfl (by omega) (by omega) (fun c_9 => ?_) (fun c_9 => ?_)
  · refine pr_iload_n (pc := 48) C dX4_doesQuestion_48 rfl ?_
    refine pr_iconst (pc := 49) (v := 3) C dX4_doesQuestion_49 (by decide) ?_
    refine pr_icmp_neN (pc := 50) C 66 a 3 dX4_doesQuestion_50 (by decide) rfl rfl (by omega) (by omega) (fun c_50 => ?_) (fun c_50 => ?_)
    · refine pr_iload_n (pc := 66) C dX4_doesQuestion_66 rfl ?_
      refine pr_iconst (pc := 67) (v := 2) C dX4_doesQuestion_67 (by decide) ?_
      refine pr_icmp_neN (pc := 68) C 130 a 2 dX4_doesQuestion_68 (by decide) rfl rfl (by omega) (by omega) (fun c_68 => ?_) (fun c_68 => ?_)
      · refine pr_aload_n (pc := 130) C dX4_doesQuestion_130 rfl ?_
        refine pr_iload_n (pc := 131) C dX4_doesQuestion_131 rfl ?_
        refine pr_aload_n (pc := 132) C dX4_doesQuestion_132 rfl ?_
        refine pr_geta (pc := 133) C 220 320 wf_X4_53 rfl rfl (by decide) (pl_5 _) dX4_doesQuestion_133 ?_
        refine pr_iload_n (pc := 136) C dX4_doesQuestion_136 rfl ?_
        refine pr_aldm (pc := 137) (n := 100) C 220 t rfl rfl rfl (pl_r5 (by decide)) rfl (by omega) (by decide) dX4_doesQuestion_137 ?_
        refine pr_eqi (h0 (by omega)).1 ?_
        refine pr_aload_n (pc := 138) C dX4_doesQuestion_138 rfl ?_
        refine pr_geta (pc := 139) C 221 321 wf_X4_56 rfl rfl (by decide) (pl_5 _) dX4_doesQuestion_139 ?_
        refine pr_iload_n (pc := 142) C dX4_doesQuestion_142 rfl ?_
        refine pr_aldm (pc := 143) (n := 100) C 221 t rfl rfl rfl (pl_r5 (by decide)) rfl (by omega) (by decide) dX4_doesQuestion_143 ?_
        refine pr_vE (pc := 144) C (c_X4_says G _ h t w x9 (h.2.1 221 t) (by first | assumption | omega) hw hw4 (h0 (by omega)).2) wv_X4_200 rfl rfl (by decide) (by decide) (pl_5 _) (Nat.le_of_ble_eq_true rfl) (by omega) (by omega) dX4_doesQuestion_144 ?_
        have j190_1 : pa_w G x 4 (h.1, (ms_says h.2.1 t w x9 (h.2.1 221 t)), h.2.2) 0 0 190 [some (pv_o 5 0), some (pv_i (nI t)), some (pv_i (nI a)), none] [pv_i (pz_b (decide (ms_top (ms_says h.2.1 t w x9 (h.2.1 221 t)) = nI w) && decide (h.2.1 220 q0 = nI x9)))] := by
          refine pr_istore_n (pc := 190) C dX4_doesQuestion_190 (by decide) ?_
          refine pr_aload_n (pc := 191) C dX4_doesQuestion_191 rfl ?_
          refine pr_dup (pc := 192) C dX4_doesQuestion_192 trivial ?_
          refine pr_getm (pc := 193) C 231 wf_X4_141 rfl (by decide) (pl_5 _) dX4_doesQuestion_193 ?_
          refine pr_eqi (v := h.2.1 231 0) (by simp only [pa_us_ne, pa_us_self, ms_dlv_ne, ms_eq_ne, ms_com_ne, ms_says_ne, ms_right_ne, ne_eq, Nat.reduceEqDiff, not_false_eq_true, reduceCtorEq]) ?_
          refine pr_eqi hQ.1 ?_
          refine pr_iload_n (pc := 196) C dX4_doesQuestion_196 rfl ?_
          refine pr_ifb_eq (pc := 197) C 204 dX4_doesQuestion_197 (by decide) (fun c_197 => ?_) (fun c_197 => ?_)
          · refine pr_iconst (pc := 204) (v := 0) C dX4_doesQuestion_204 (by decide) ?_
            refine pr_isubN (pc := 205) C dX4_doesQuestion_205 Q 0 rfl rfl (by omega) ?_
            refine pr_putm (pc := 206) C 231 wp_X4_141 rfl (by decide) rfl (pl_5 _) dX4_doesQuestion_206 ?_
            exact pr_vret (pc := 209) C E (by omega) (by omega) ⟨rfl, (by simp [-Int32.not_le, -Int32.not_lt, pz_b, pz_lt, ms_doQ, ms_right, eq_false c_9, eq_false c_50, eq_false c_68, c_197])⟩ dX4_doesQuestion_209
          · have hQ0 := ms_top_pos (mw_Q_says hQ) hw4 (by simp at c_197; exact c_197.1)
            refine pr_iconst (pc := 200) (v := 1) C dX4_doesQuestion_200 (by decide) ?_
            refine pr_goto (pc := 201) C 205 dX4_doesQuestion_201 (by decide) ?_
            refine pr_isubN (pc := 205) C dX4_doesQuestion_205 Q 1 rfl rfl (by omega) ?_
            refine pr_putm (pc := 206) C 231 wp_X4_141 rfl (by decide) rfl (pl_5 _) dX4_doesQuestion_206 ?_
            exact pr_vret (pc := 209) C E (by omega) (by omega) ⟨rfl, (by simp [-Int32.not_le, -Int32.not_lt, pz_b, pz_lt, ms_doQ, ms_right, eq_false c_9, eq_false c_50, eq_false c_68, c_197])⟩ dX4_doesQuestion_209
        refine pr_aload_n (pc := 147) C dX4_doesQuestion_147 rfl ?_
        refine pr_vP (pc := 148) C (c_X4_topAsked G _ (h.1, (ms_says h.2.1 t w x9 (h.2.1 221 t)), h.2.2) Q q0 (mw_Q_says hQ)) wv_X4_144 rfl rfl (by decide) (by decide) (pl_5 _) (Nat.le_of_ble_eq_true rfl) (by omega) (by omega) dX4_doesQuestion_148 ?_
        refine pr_aload_n (pc := 151) C dX4_doesQuestion_151 rfl ?_
        refine pr_geta (pc := 152) C 218 318 wf_X4_47 rfl rfl (by decide) (pl_5 _) dX4_doesQuestion_152 ?_
        refine pr_iload_n (pc := 155) C dX4_doesQuestion_155 rfl ?_
        refine pr_aldm (pc := 156) (n := 100) C 218 t rfl rfl rfl (pl_r5 (by decide)) rfl (by omega) (by decide) dX4_doesQuestion_156 ?_
        refine pr_eqi (v := h.2.1 218 t) (by simp only [pa_us_ne, pa_us_self, ms_dlv_ne, ms_eq_ne, ms_com_ne, ms_says_ne, ms_right_ne, ne_eq, Nat.reduceEqDiff, not_false_eq_true, reduceCtorEq]) ?_
        refine pr_eqi hw ?_
        refine pr_icmp_ne (pc := 157) C 189 dX4_doesQuestion_157 (by decide) (fun c_157 => ?_) (fun c_157 => ?_)
        · refine pr_iconst (pc := 189) (v := 0) C dX4_doesQuestion_189 (by decide) ?_
          exact pr_eqi (show (0 : Int32) = (pz_b (decide (ms_top (ms_says h.2.1 t w x9 (h.2.1 221 t)) = nI w) && decide (h.2.1 220 q0 = nI x9))) from (by simp [-Int32.not_le, -Int32.not_lt, pz_b, pz_lt, eq_false c_9, eq_false c_50, eq_false c_68, eq_false c_157])) j190_1
        · have hQ0 := ms_top_pos (mw_Q_says hQ) hw4 c_157
          refine pr_aload_n (pc := 160) C dX4_doesQuestion_160 rfl ?_
          refine pr_geta (pc := 161) C 220 320 wf_X4_53 rfl rfl (by decide) (pl_5 _) dX4_doesQuestion_161 ?_
          refine pr_aload_n (pc := 164) C dX4_doesQuestion_164 rfl ?_
          refine pr_geta (pc := 165) C 232 332 wf_X4_86 rfl rfl (by decide) (pl_5 _) dX4_doesQuestion_165 ?_
          refine pr_aload_n (pc := 168) C dX4_doesQuestion_168 rfl ?_
          refine pr_getm (pc := 169) C 231 wf_X4_141 rfl (by decide) (pl_5 _) dX4_doesQuestion_169 ?_
          refine pr_eqi (v := h.2.1 231 0) (by simp only [pa_us_ne, pa_us_self, ms_dlv_ne, ms_eq_ne, ms_com_ne, ms_says_ne, ms_right_ne, ne_eq, Nat.reduceEqDiff, not_false_eq_true, reduceCtorEq]) ?_
          refine pr_eqi hQ.1 ?_
          refine pr_iconst (pc := 172) (v := 1) C dX4_doesQuestion_172 (by decide) ?_
          refine pr_isubN (pc := 173) C dX4_doesQuestion_173 Q 1 rfl rfl (by omega) ?_
          refine pr_aldm (pc := 174) (n := 6) C 232 (Q - 1) rfl rfl rfl (pl_r5 (by decide)) rfl (by omega) (by decide) dX4_doesQuestion_174 ?_
          refine pr_eqi (v := h.2.1 232 (Q - 1)) (by simp only [pa_us_ne, pa_us_self, ms_dlv_ne, ms_eq_ne, ms_com_ne, ms_says_ne, ms_right_ne, ne_eq, Nat.reduceEqDiff, not_false_eq_true, reduceCtorEq]) ?_
          refine pr_eqi (hQ.2.2.2 (by omega)) ?_
          refine pr_aldm (pc := 175) (n := 100) C 220 q0 rfl rfl rfl (pl_r5 (by decide)) rfl (by omega) (by decide) dX4_doesQuestion_175 ?_
          refine pr_eqi (v := h.2.1 220 q0) (by simp only [pa_us_ne, pa_us_self, ms_dlv_ne, ms_eq_ne, ms_com_ne, ms_says_ne, ms_right_ne, ne_eq, Nat.reduceEqDiff, not_false_eq_true, reduceCtorEq]) ?_
          refine pr_aload_n (pc := 176) C dX4_doesQuestion_176 rfl ?_
          refine pr_geta (pc := 177) C 220 320 wf_X4_53 rfl rfl (by decide) (pl_5 _) dX4_doesQuestion_177 ?_
          refine pr_iload_n (pc := 180) C dX4_doesQuestion_180 rfl ?_
          refine pr_aldm (pc := 181) (n := 100) C 220 t rfl rfl rfl (pl_r5 (by decide)) rfl (by omega) (by decide) dX4_doesQuestion_181 ?_
          refine pr_eqi (v := h.2.1 220 t) (by simp only [pa_us_ne, pa_us_self, ms_dlv_ne, ms_eq_ne, ms_com_ne, ms_says_ne, ms_right_ne, ne_eq, Nat.reduceEqDiff, not_false_eq_true, reduceCtorEq]) ?_
          refine pr_eqi (h0 (by omega)).1 ?_
          refine pr_icmp_ne (pc := 182) C 189 dX4_doesQuestion_182 (by decide) (fun c_182 => ?_) (fun c_182 => ?_)
          · refine pr_iconst (pc := 189) (v := 0) C dX4_doesQuestion_189 (by decide) ?_
            exact pr_eqi (show (0 : Int32) = (pz_b (decide (ms_top (ms_says h.2.1 t w x9 (h.2.1 221 t)) = nI w) && decide (h.2.1 220 q0 = nI x9))) from (by simp [-Int32.not_le, -Int32.not_lt, pz_b, pz_lt, eq_false c_9, eq_false c_50, eq_false c_68, eq_true c_157, eq_false c_182])) j190_1
          · refine pr_iconst (pc := 185) (v := 1) C dX4_doesQuestion_185 (by decide) ?_
            refine pr_goto (pc := 186) C 190 dX4_doesQuestion_186 (by decide) ?_
            exact pr_eqi (show (1 : Int32) = (pz_b (decide (ms_top (ms_says h.2.1 t w x9 (h.2.1 221 t)) = nI w) && decide (h.2.1 220 q0 = nI x9))) from (by simp [-Int32.not_le, -Int32.not_lt, pz_b, pz_lt, eq_false c_9, eq_false c_50, eq_false c_68, eq_true c_157, eq_true c_182])) j190_1
      · refine pr_aload_n (pc := 71) C dX4_doesQuestion_71 rfl ?_
        refine pr_dup (pc := 72) C dX4_doesQuestion_72 trivial ?_
        refine pr_getm (pc := 73) C 231 wf_X4_141 rfl (by decide) (pl_5 _) dX4_doesQuestion_73 ?_
        refine pr_eqi hQ.1 ?_
        refine pr_iconst (pc := 76) (v := 1) C dX4_doesQuestion_76 (by decide) ?_
        refine pr_isubN (pc := 77) C dX4_doesQuestion_77 Q 1 rfl rfl (by omega) ?_
        refine pr_putm (pc := 78) C 231 wp_X4_141 rfl (by decide) rfl (pl_5 _) dX4_doesQuestion_78 ?_
        refine pr_aload_n (pc := 81) C dX4_doesQuestion_81 rfl ?_
        refine pr_geta (pc := 82) C 220 320 wf_X4_53 rfl rfl (by decide) (pl_5 _) dX4_doesQuestion_82 ?_
        refine pr_iload_n (pc := 85) C dX4_doesQuestion_85 rfl ?_
        refine pr_aload_n (pc := 86) C dX4_doesQuestion_86 rfl ?_
        refine pr_geta (pc := 87) C 220 320 wf_X4_53 rfl rfl (by decide) (pl_5 _) dX4_doesQuestion_87 ?_
        refine pr_aload_n (pc := 90) C dX4_doesQuestion_90 rfl ?_
        refine pr_geta (pc := 91) C 232 332 wf_X4_86 rfl rfl (by decide) (pl_5 _) dX4_doesQuestion_91 ?_
        refine pr_aload_n (pc := 94) C dX4_doesQuestion_94 rfl ?_
        refine pr_getm (pc := 95) C 231 wf_X4_141 rfl (by decide) (pl_5 _) dX4_doesQuestion_95 ?_
        refine pr_eqi (v := (nI (Q - 1))) rfl ?_
        refine pr_aldm (pc := 98) (n := 6) C 232 (Q - 1) rfl rfl rfl (pl_r5 (by decide)) rfl (by omega) (by decide) dX4_doesQuestion_98 ?_
        refine pr_eqi (v := h.2.1 232 (Q - 1)) rfl ?_
        refine pr_eqi (hQ.2.2.2 (by omega)) ?_
        refine pr_aldm (pc := 99) (n := 100) C 220 q0 rfl rfl rfl (pl_r5 (by decide)) rfl (by omega) (by decide) dX4_doesQuestion_99 ?_
        refine pr_eqi (v := h.2.1 220 q0) rfl ?_
        refine pr_eqi (h2 (by omega)).1 ?_
        refine pr_astm (pc := 100) (n := 100) C 220 t rfl (by decide) rfl rfl (pl_r5 (by decide)) rfl (by omega) (by decide) dX4_doesQuestion_100 ?_
        refine pr_aload_n (pc := 101) C dX4_doesQuestion_101 rfl ?_
        refine pr_geta (pc := 102) C 221 321 wf_X4_56 rfl rfl (by decide) (pl_5 _) dX4_doesQuestion_102 ?_
        refine pr_iload_n (pc := 105) C dX4_doesQuestion_105 rfl ?_
        refine pr_aldm (pc := 106) (n := 100) C 221 t rfl rfl rfl (pl_r5 (by decide)) rfl (by omega) (by decide) dX4_doesQuestion_106 ?_
        refine pr_eqi (v := h.2.1 221 t) rfl ?_
        refine pr_if_le (pc := 107) C 209 dX4_doesQuestion_107 (by decide) (fun c_107 => ?_) (fun c_107 => ?_)
        · exact pr_vret (pc := 209) C E (by omega) (by omega) ⟨rfl, (by simp [-Int32.not_le, -Int32.not_lt, pz_b, pz_lt, ms_doQ, ms_right, eq_false c_9, eq_false c_50, eq_true c_68, c_107])⟩ dX4_doesQuestion_209
        · refine pr_aload_n (pc := 110) C dX4_doesQuestion_110 rfl ?_
          refine pr_iload_n (pc := 111) C dX4_doesQuestion_111 rfl ?_
          refine pr_aload_n (pc := 112) C dX4_doesQuestion_112 rfl ?_
          refine pr_geta (pc := 113) C 220 320 wf_X4_53 rfl rfl (by decide) (pl_5 _) dX4_doesQuestion_113 ?_
          refine pr_iload_n (pc := 116) C dX4_doesQuestion_116 rfl ?_
          refine pr_aldm (pc := 117) (n := 100) C 220 t rfl rfl rfl (pl_r5 (by decide)) rfl (by omega) (by decide) dX4_doesQuestion_117 ?_
          refine pr_eqi (v := (nI y)) (pa_us_self _ _ _ _) ?_
          refine pr_aload_n (pc := 118) C dX4_doesQuestion_118 rfl ?_
          refine pr_geta (pc := 119) C 221 321 wf_X4_56 rfl rfl (by decide) (pl_5 _) dX4_doesQuestion_119 ?_
          refine pr_iload_n (pc := 122) C dX4_doesQuestion_122 rfl ?_
          refine pr_aldm (pc := 123) (n := 100) C 221 t rfl rfl rfl (pl_r5 (by decide)) rfl (by omega) (by decide) dX4_doesQuestion_123 ?_
          refine pr_eqi (v := h.2.1 221 t) rfl ?_
          refine pr_vE (pc := 124) C (c_X4_says G _ (h.1, (pa_us (pa_us h.2.1 231 0 (nI (Q - 1))) 220 t (nI y)), h.2.2) t w y (h.2.1 221 t) (by first | assumption | omega) hw hw4 (h2 (by omega)).2) wv_X4_200 rfl rfl (by decide) (by decide) (pl_5 _) (Nat.le_of_ble_eq_true rfl) (by omega) (by omega) dX4_doesQuestion_124 ?_
          refine pr_goto (pc := 127) C 209 dX4_doesQuestion_127 (by decide) ?_
          exact pr_vret (pc := 209) C E (by omega) (by omega) ⟨rfl, (by simp [-Int32.not_le, -Int32.not_lt, pz_b, pz_lt, ms_doQ, ms_right, eq_false c_9, eq_false c_50, eq_true c_68, c_107])⟩ dX4_doesQuestion_209
    · refine pr_aload_n (pc := 53) C dX4_doesQuestion_53 rfl ?_
      refine pr_dup (pc := 54) C dX4_doesQuestion_54 trivial ?_
      refine pr_getm (pc := 55) C 231 wf_X4_141 rfl (by decide) (pl_5 _) dX4_doesQuestion_55 ?_
      refine pr_eqi hQ.1 ?_
      refine pr_iconst (pc := 58) (v := 1) C dX4_doesQuestion_58 (by decide) ?_
      refine pr_isubN (pc := 59) C dX4_doesQuestion_59 Q 1 rfl rfl (by omega) ?_
      refine pr_putm (pc := 60) C 231 wp_X4_141 rfl (by decide) rfl (pl_5 _) dX4_doesQuestion_60 ?_
      refine pr_goto (pc := 63) C 209 dX4_doesQuestion_63 (by decide) ?_
      exact pr_vret (pc := 209) C E (by omega) (by omega) ⟨rfl, (by simp [-Int32.not_le, -Int32.not_lt, pz_b, pz_lt, ms_doQ, ms_right, eq_false c_9, eq_true c_50])⟩ dX4_doesQuestion_209
  · refine pr_aload_n (pc := 12) C dX4_doesQuestion_12 rfl ?_
    refine pr_geta (pc := 13) C 232 332 wf_X4_86 rfl rfl (by decide) (pl_5 _) dX4_doesQuestion_13 ?_
    refine pr_aload_n (pc := 16) C dX4_doesQuestion_16 rfl ?_
    refine pr_getm (pc := 17) C 231 wf_X4_141 rfl (by decide) (pl_5 _) dX4_doesQuestion_17 ?_
    refine pr_eqi hQ.1 ?_
    refine pr_iload_n (pc := 20) C dX4_doesQuestion_20 rfl ?_
    refine pr_astm (pc := 21) (n := 6) C 232 Q rfl (by decide) rfl rfl (pl_r5 (by decide)) rfl (by omega) (by decide) dX4_doesQuestion_21 ?_
    refine pr_aload_n (pc := 22) C dX4_doesQuestion_22 rfl ?_
    refine pr_dup (pc := 23) C dX4_doesQuestion_23 trivial ?_
    refine pr_getm (pc := 24) C 231 wf_X4_141 rfl (by decide) (pl_5 _) dX4_doesQuestion_24 ?_
    refine pr_eqi (v := h.2.1 231 0) rfl ?_
    refine pr_eqi hQ.1 ?_
    refine pr_iconst (pc := 27) (v := 1) C dX4_doesQuestion_27 (by decide) ?_
    refine pr_iaddN (pc := 28) C dX4_doesQuestion_28 Q 1 rfl rfl ?_
    refine pr_putm (pc := 29) C 231 wp_X4_141 rfl (by decide) rfl (pl_5 _) dX4_doesQuestion_29 ?_
    refine pr_aload_n (pc := 32) C dX4_doesQuestion_32 rfl ?_
    refine pr_aload_n (pc := 33) C dX4_doesQuestion_33 rfl ?_
    refine pr_geta (pc := 34) C 222 322 wf_X4_59 rfl rfl (by decide) (pl_5 _) dX4_doesQuestion_34 ?_
    refine pr_iload_n (pc := 37) C dX4_doesQuestion_37 rfl ?_
    refine pr_aldm (pc := 38) (n := 100) C 222 t rfl rfl rfl (pl_r5 (by decide)) rfl (by omega) (by decide) dX4_doesQuestion_38 ?_
    refine pr_eqi (v := h.2.1 222 t) rfl ?_
    refine pr_sP (pc := 39) C (c_X4_one G _ (h.1, (pa_us (pa_us h.2.1 232 Q (nI t)) 231 0 (nI (Q + 1))), h.2.2) (h.2.1 222 t)) ws_X4_137 rfl rfl (by decide) (Nat.le_of_ble_eq_true rfl) (by omega) (by omega) dX4_doesQuestion_39 ?_
    refine pr_vE (pc := 42) C (c_X4_rightTo G _ (h.1, (pa_us (pa_us h.2.1 232 Q (nI t)) 231 0 (nI (Q + 1))), h.2.2) (ms_one (h.2.1 222 t))) wv_X4_216 rfl rfl (by decide) (by decide) (pl_5 _) (Nat.le_of_ble_eq_true rfl) (by omega) (by omega) dX4_doesQuestion_42 ?_
    refine pr_goto (pc := 45) C 209 dX4_doesQuestion_45 (by decide) ?_
    exact pr_vret (pc := 209) C E (by omega) (by omega) ⟨rfl, (by simp [-Int32.not_le, -Int32.not_lt, pz_b, pz_lt, ms_doQ, ms_right, eq_true c_9])⟩ dX4_doesQuestion_209

/-- the acts about a turn u: wu who said it, x its atom -/
def ms_doT (S : Nat → Nat → Int32) (t w a u wu x : Nat) : Nat → Nat → Int32 :=
  if a = 4 then pa_us S 228 (4 * u + w) 4 else
  if a = 5 then ms_right S (nI wu) else
  if a = 6 then ms_dlv S u else
  if a = 7 then ms_says S t w x (S 221 u) else
  ms_right (pa_us (ms_says S t w x (ms_contrary (S 221 u))) 233 (40 * wu + 10 * w + x) (pz_b (decide (ms_says S t w x (ms_contrary (S 221 u)) 208 (10 * wu + x) = S 221 u)))) (nI wu)
set_option maxRecDepth 100000 in
set_option maxHeartbeats 2000000 in
theorem c_X4_doesTurn (G : pa_G) (l : Launch) (h : pa_H) (t w a u wu x9 : Nat) (ht : t < 100) (hw : h.2.1 218 t = nI w) (hw4 : w < 4) (ha : h.2.1 219 t = nI a) (ha4 : 4 ≤ a ∧ a ≤ 8) (hu : h.2.1 220 t = nI u) (hu100 : u < 100) (hwu : h.2.1 218 u = nI wu) (hwu4 : wu < 4) (hx : a = 7 ∨ a = 8 → h.2.1 220 u = nI x9 ∧ x9 < 10) : pa_ME G l mX4_doesTurn 5 [pv_o 5 0, pv_i (nI t)] h (h.1, ms_doT h.2.1 t w a u wu x9, h.2.2) := by
  refine pa_go l (by decide) (by simp [pa_c1l, pa_c1]) (fun _ => rfl) fun x C E el ea => ?_
  subst el
  obtain ⟨ha4, ha8⟩ := ha4
  show pa_w G x 4 h 0 0 0 [some (pv_o 5 0), some (pv_i (nI t)), none, none] []
  refine pr_aload_n (pc := 0) C dX4_doesTurn_0 rfl ?_
  refine pr_geta (pc := 1) C 219 319 wf_X4_50 rfl rfl (by decide) (pl_5 _) dX4_doesTurn_1 ?_
  refine pr_iload_n (pc := 4) C dX4_doesTurn_4 rfl ?_
  refine pr_aldm (pc := 5) (n := 100) C 219 t rfl rfl rfl (pl_r5 (by decide)) rfl (by omega) (by decide) dX4_doesTurn_5 ?_
  refine pr_eqi ha ?_
  refine pr_istore_n (pc := 6) C dX4_doesTurn_6 (by decide) ?_
  refine pr_aload_n (pc := 7) C dX4_doesTurn_7 rfl ?_
  refine pr_geta (pc := 8) C 220 320 wf_X4_53 rfl rfl (by decide) (pl_5 _) dX4_doesTurn_8 ?_
  refine pr_iload_n (pc := 11) C dX4_doesTurn_11 rfl ?_
  refine pr_aldm (pc := 12) (n := 100) C 220 t rfl rfl rfl (pl_r5 (by decide)) rfl (by omega) (by decide) dX4_doesTurn_12 ?_
  refine pr_eqi hu ?_
  refine pr_istore_n (pc := 13) C dX4_doesTurn_13 (by decide) ?_
  refine pr_iload_n (pc := 14) C dX4_doesTurn_14 rfl ?_
  refine pr_iconst (pc := 15) (v := 4) C dX4_doesTurn_15 (by decide) ?_
  refine pr_icmp_neN (pc := 16) C 38 a 4 dX4_doesTurn_16 (by decide) rfl rfl (by omega) (by omega) (fun c_16 => ?_) (fun c_16 => ?_)
  · refine pr_iload_n (pc := 38) C dX4_doesTurn_38 rfl ?_
    refine pr_iconst (pc := 39) (v := 5) C dX4_doesTurn_39 (by decide) ?_
    refine pr_icmp_neN (pc := 40) C 56 a 5 dX4_doesTurn_40 (by decide) rfl rfl (by omega) (by omega) (fun c_40 => ?_) (fun c_40 => ?_)
    · refine pr_iload_n (pc := 56) C dX4_doesTurn_56 rfl ?_
      refine pr_bipush (pc := 57) (v := 6) C dX4_doesTurn_57 (by decide) ?_
      refine pr_icmp_neN (pc := 59) C 70 a 6 dX4_doesTurn_59 (by decide) rfl rfl (by omega) (by omega) (fun c_59 => ?_) (fun c_59 => ?_)
      · refine pr_iload_n (pc := 70) C dX4_doesTurn_70 rfl ?_
        refine pr_bipush (pc := 71) (v := 7) C dX4_doesTurn_71 (by decide) ?_
        refine pr_icmp_neN (pc := 73) C 96 a 7 dX4_doesTurn_73 (by decide) rfl rfl (by omega) (by omega) (fun c_73 => ?_) (fun c_73 => ?_)
        · refine pr_aload_n (pc := 96) C dX4_doesTurn_96 rfl ?_
          refine pr_iload_n (pc := 97) C dX4_doesTurn_97 rfl ?_
          refine pr_aload_n (pc := 98) C dX4_doesTurn_98 rfl ?_
          refine pr_geta (pc := 99) C 220 320 wf_X4_53 rfl rfl (by decide) (pl_5 _) dX4_doesTurn_99 ?_
          refine pr_iload_n (pc := 102) C dX4_doesTurn_102 rfl ?_
          refine pr_aldm (pc := 103) (n := 100) C 220 u rfl rfl rfl (pl_r5 (by decide)) rfl (by omega) (by decide) dX4_doesTurn_103 ?_
          refine pr_eqi (hx (by omega)).1 ?_
          refine pr_aload_n (pc := 104) C dX4_doesTurn_104 rfl ?_
          refine pr_geta (pc := 105) C 221 321 wf_X4_56 rfl rfl (by decide) (pl_5 _) dX4_doesTurn_105 ?_
          refine pr_iload_n (pc := 108) C dX4_doesTurn_108 rfl ?_
          refine pr_aldm (pc := 109) (n := 100) C 221 u rfl rfl rfl (pl_r5 (by decide)) rfl (by omega) (by decide) dX4_doesTurn_109 ?_
          refine pr_sP (pc := 110) C (c_X4_contrary G _ h (h.2.1 221 u)) ws_X4_187 rfl rfl (by decide) (Nat.le_of_ble_eq_true rfl) (by omega) (by omega) dX4_doesTurn_110 ?_
          refine pr_vE (pc := 113) C (c_X4_says G _ h t w x9 (ms_contrary (h.2.1 221 u)) (by first | assumption | omega) hw hw4 (hx (by omega)).2) wv_X4_200 rfl rfl (by decide) (by decide) (pl_5 _) (Nat.le_of_ble_eq_true rfl) (by omega) (by omega) dX4_doesTurn_113 ?_
          obtain ⟨hx1, hx2⟩ := hx (by omega)
          refine pr_aload_n (pc := 116) C dX4_doesTurn_116 rfl ?_
          refine pr_geta (pc := 117) C 233 333 wf_X4_89 rfl rfl (by decide) (pl_5 _) dX4_doesTurn_117 ?_
          refine pr_bipush (pc := 120) (v := 40) C dX4_doesTurn_120 (by decide) ?_
          refine pr_aload_n (pc := 122) C dX4_doesTurn_122 rfl ?_
          refine pr_geta (pc := 123) C 218 318 wf_X4_47 rfl rfl (by decide) (pl_5 _) dX4_doesTurn_123 ?_
          refine pr_iload_n (pc := 126) C dX4_doesTurn_126 rfl ?_
          refine pr_aldm (pc := 127) (n := 100) C 218 u rfl rfl rfl (pl_r5 (by decide)) rfl (by omega) (by decide) dX4_doesTurn_127 ?_
          refine pr_eqi (v := h.2.1 218 u) (by simp only [pa_us_ne, pa_us_self, ms_dlv_ne, ms_eq_ne, ms_com_ne, ms_says_ne, ms_right_ne, ne_eq, Nat.reduceEqDiff, not_false_eq_true, reduceCtorEq]) ?_
          refine pr_eqi hwu ?_
          refine pr_imulN (pc := 128) C dX4_doesTurn_128 40 wu rfl rfl ?_
          refine pr_bipush (pc := 129) (v := 10) C dX4_doesTurn_129 (by decide) ?_
          refine pr_aload_n (pc := 131) C dX4_doesTurn_131 rfl ?_
          refine pr_geta (pc := 132) C 218 318 wf_X4_47 rfl rfl (by decide) (pl_5 _) dX4_doesTurn_132 ?_
          refine pr_iload_n (pc := 135) C dX4_doesTurn_135 rfl ?_
          refine pr_aldm (pc := 136) (n := 100) C 218 t rfl rfl rfl (pl_r5 (by decide)) rfl (by omega) (by decide) dX4_doesTurn_136 ?_
          refine pr_eqi (v := h.2.1 218 t) (by simp only [pa_us_ne, pa_us_self, ms_dlv_ne, ms_eq_ne, ms_com_ne, ms_says_ne, ms_right_ne, ne_eq, Nat.reduceEqDiff, not_false_eq_true, reduceCtorEq]) ?_
          refine pr_eqi hw ?_
          refine pr_imulN (pc := 137) C dX4_doesTurn_137 10 w rfl rfl ?_
          refine pr_iaddN (pc := 138) C dX4_doesTurn_138 (40 * wu) (10 * w) rfl rfl ?_
          refine pr_aload_n (pc := 139) C dX4_doesTurn_139 rfl ?_
          refine pr_geta (pc := 140) C 220 320 wf_X4_53 rfl rfl (by decide) (pl_5 _) dX4_doesTurn_140 ?_
          refine pr_iload_n (pc := 143) C dX4_doesTurn_143 rfl ?_
          refine pr_aldm (pc := 144) (n := 100) C 220 u rfl rfl rfl (pl_r5 (by decide)) rfl (by omega) (by decide) dX4_doesTurn_144 ?_
          refine pr_eqi (v := h.2.1 220 u) (by simp only [pa_us_ne, pa_us_self, ms_dlv_ne, ms_eq_ne, ms_com_ne, ms_says_ne, ms_right_ne, ne_eq, Nat.reduceEqDiff, not_false_eq_true, reduceCtorEq]) ?_
          refine pr_eqi (hx (by omega)).1 ?_
          refine pr_iaddN (pc := 145) C dX4_doesTurn_145 ((40 * wu) + (10 * w)) x9 rfl rfl ?_
          have j181_1 : pa_w G x 4 (h.1, (ms_says h.2.1 t w x9 (ms_contrary (h.2.1 221 u))), h.2.2) 0 0 181 [some (pv_o 5 0), some (pv_i (nI t)), some (pv_i (nI a)), some (pv_i (nI u))] [pv_i (pz_b (decide ((ms_says h.2.1 t w x9 (ms_contrary (h.2.1 221 u))) 208 (10 * wu + x9) = h.2.1 221 u))), pv_i (nI (((40 * wu) + (10 * w)) + x9)), pv_o 333 0] := by
            refine pr_astb (pc := 181) (n := 160) C 233 (((40 * wu) + (10 * w)) + x9) rfl (by decide) rfl rfl (pl_r5 (by decide)) (pz_b01 _) rfl (by omega) (by decide) dX4_doesTurn_181 ?_
            refine pr_aload_n (pc := 182) C dX4_doesTurn_182 rfl ?_
            refine pr_aload_n (pc := 183) C dX4_doesTurn_183 rfl ?_
            refine pr_geta (pc := 184) C 218 318 wf_X4_47 rfl rfl (by decide) (pl_5 _) dX4_doesTurn_184 ?_
            refine pr_iload_n (pc := 187) C dX4_doesTurn_187 rfl ?_
            refine pr_aldm (pc := 188) (n := 100) C 218 u rfl rfl rfl (pl_r5 (by decide)) rfl (by omega) (by decide) dX4_doesTurn_188 ?_
            refine pr_eqi (v := h.2.1 218 u) (by simp only [pa_us_ne, pa_us_self, ms_dlv_ne, ms_eq_ne, ms_com_ne, ms_says_ne, ms_right_ne, ne_eq, Nat.reduceEqDiff, not_false_eq_true, reduceCtorEq]) ?_
            refine pr_eqi hwu ?_
            refine pr_vE (pc := 189) C (c_X4_rightTo G _ (h.1, (pa_us (ms_says h.2.1 t w x9 (ms_contrary (h.2.1 221 u))) 233 (((40 * wu) + (10 * w)) + x9) (pz_b (decide ((ms_says h.2.1 t w x9 (ms_contrary (h.2.1 221 u))) 208 (10 * wu + x9) = h.2.1 221 u)))), h.2.2) (nI wu)) wv_X4_216 rfl rfl (by decide) (by decide) (pl_5 _) (Nat.le_of_ble_eq_true rfl) (by omega) (by omega) dX4_doesTurn_189 ?_
            exact pr_vret (pc := 192) C E (by omega) (by omega) ⟨rfl, (by simp [-Int32.not_le, -Int32.not_lt, pz_b, pz_lt, ms_doT, ms_right, eq_false c_16, eq_false c_40, eq_false c_59, eq_false c_73])⟩ dX4_doesTurn_192
          refine pr_aload_n (pc := 146) C dX4_doesTurn_146 rfl ?_
          refine pr_geta (pc := 147) C 208 308 wf_X4_29 rfl rfl (by decide) (pl_5 _) dX4_doesTurn_147 ?_
          refine pr_bipush (pc := 150) (v := 10) C dX4_doesTurn_150 (by decide) ?_
          refine pr_aload_n (pc := 152) C dX4_doesTurn_152 rfl ?_
          refine pr_geta (pc := 153) C 218 318 wf_X4_47 rfl rfl (by decide) (pl_5 _) dX4_doesTurn_153 ?_
          refine pr_iload_n (pc := 156) C dX4_doesTurn_156 rfl ?_
          refine pr_aldm (pc := 157) (n := 100) C 218 u rfl rfl rfl (pl_r5 (by decide)) rfl (by omega) (by decide) dX4_doesTurn_157 ?_
          refine pr_eqi (v := h.2.1 218 u) (by simp only [pa_us_ne, pa_us_self, ms_dlv_ne, ms_eq_ne, ms_com_ne, ms_says_ne, ms_right_ne, ne_eq, Nat.reduceEqDiff, not_false_eq_true, reduceCtorEq]) ?_
          refine pr_eqi hwu ?_
          refine pr_imulN (pc := 158) C dX4_doesTurn_158 10 wu rfl rfl ?_
          refine pr_aload_n (pc := 159) C dX4_doesTurn_159 rfl ?_
          refine pr_geta (pc := 160) C 220 320 wf_X4_53 rfl rfl (by decide) (pl_5 _) dX4_doesTurn_160 ?_
          refine pr_iload_n (pc := 163) C dX4_doesTurn_163 rfl ?_
          refine pr_aldm (pc := 164) (n := 100) C 220 u rfl rfl rfl (pl_r5 (by decide)) rfl (by omega) (by decide) dX4_doesTurn_164 ?_
          refine pr_eqi (v := h.2.1 220 u) (by simp only [pa_us_ne, pa_us_self, ms_dlv_ne, ms_eq_ne, ms_com_ne, ms_says_ne, ms_right_ne, ne_eq, Nat.reduceEqDiff, not_false_eq_true, reduceCtorEq]) ?_
          refine pr_eqi (hx (by omega)).1 ?_
          refine pr_iaddN (pc := 165) C dX4_doesTurn_165 (10 * wu) x9 rfl rfl ?_
          refine pr_aldm (pc := 166) (n := 40) C 208 ((10 * wu) + x9) rfl rfl rfl (pl_r5 (by decide)) rfl (by omega) (by decide) dX4_doesTurn_166 ?_
          refine pr_aload_n (pc := 167) C dX4_doesTurn_167 rfl ?_
          refine pr_geta (pc := 168) C 221 321 wf_X4_56 rfl rfl (by decide) (pl_5 _) dX4_doesTurn_168 ?_
          refine pr_iload_n (pc := 171) C dX4_doesTurn_171 rfl ?_
          refine pr_aldm (pc := 172) (n := 100) C 221 u rfl rfl rfl (pl_r5 (by decide)) rfl (by omega) (by decide) dX4_doesTurn_172 ?_
          refine pr_eqi (v := h.2.1 221 u) (by simp only [pa_us_ne, pa_us_self, ms_dlv_ne, ms_eq_ne, ms_com_ne, ms_says_ne, ms_right_ne, ne_eq, Nat.reduceEqDiff, not_false_eq_true, reduceCtorEq]) ?_
          refine pr_icmp_ne (pc := 173) C 180 dX4_doesTurn_173 (by decide) (fun c_173 => ?_) (fun c_173 => ?_)
          · refine pr_iconst (pc := 180) (v := 0) C dX4_doesTurn_180 (by decide) ?_
            exact pr_eqi (show (0 : Int32) = (pz_b (decide ((ms_says h.2.1 t w x9 (ms_contrary (h.2.1 221 u))) 208 (10 * wu + x9) = h.2.1 221 u))) from (by simp [-Int32.not_le, -Int32.not_lt, pz_b, pz_lt, eq_false c_16, eq_false c_40, eq_false c_59, eq_false c_73, eq_false c_173])) j181_1
          · refine pr_iconst (pc := 176) (v := 1) C dX4_doesTurn_176 (by decide) ?_
            refine pr_goto (pc := 177) C 181 dX4_doesTurn_177 (by decide) ?_
            exact pr_eqi (show (1 : Int32) = (pz_b (decide ((ms_says h.2.1 t w x9 (ms_contrary (h.2.1 221 u))) 208 (10 * wu + x9) = h.2.1 221 u))) from (by simp [-Int32.not_le, -Int32.not_lt, pz_b, pz_lt, eq_false c_16, eq_false c_40, eq_false c_59, eq_false c_73, eq_true c_173])) j181_1
        · refine pr_aload_n (pc := 76) C dX4_doesTurn_76 rfl ?_
          refine pr_iload_n (pc := 77) C dX4_doesTurn_77 rfl ?_
          refine pr_aload_n (pc := 78) C dX4_doesTurn_78 rfl ?_
          refine pr_geta (pc := 79) C 220 320 wf_X4_53 rfl rfl (by decide) (pl_5 _) dX4_doesTurn_79 ?_
          refine pr_iload_n (pc := 82) C dX4_doesTurn_82 rfl ?_
          refine pr_aldm (pc := 83) (n := 100) C 220 u rfl rfl rfl (pl_r5 (by decide)) rfl (by omega) (by decide) dX4_doesTurn_83 ?_
          refine pr_eqi (hx (by omega)).1 ?_
          refine pr_aload_n (pc := 84) C dX4_doesTurn_84 rfl ?_
          refine pr_geta (pc := 85) C 221 321 wf_X4_56 rfl rfl (by decide) (pl_5 _) dX4_doesTurn_85 ?_
          refine pr_iload_n (pc := 88) C dX4_doesTurn_88 rfl ?_
          refine pr_aldm (pc := 89) (n := 100) C 221 u rfl rfl rfl (pl_r5 (by decide)) rfl (by omega) (by decide) dX4_doesTurn_89 ?_
          refine pr_vE (pc := 90) C (c_X4_says G _ h t w x9 (h.2.1 221 u) (by first | assumption | omega) hw hw4 (hx (by omega)).2) wv_X4_200 rfl rfl (by decide) (by decide) (pl_5 _) (Nat.le_of_ble_eq_true rfl) (by omega) (by omega) dX4_doesTurn_90 ?_
          refine pr_goto (pc := 93) C 192 dX4_doesTurn_93 (by decide) ?_
          exact pr_vret (pc := 192) C E (by omega) (by omega) ⟨rfl, (by simp [-Int32.not_le, -Int32.not_lt, pz_b, pz_lt, ms_doT, ms_right, eq_false c_16, eq_false c_40, eq_false c_59, eq_true c_73])⟩ dX4_doesTurn_192
      · refine pr_aload_n (pc := 62) C dX4_doesTurn_62 rfl ?_
        refine pr_iload_n (pc := 63) C dX4_doesTurn_63 rfl ?_
        refine pr_vE (pc := 64) C (c_X4_delivers G _ h u (by first | assumption | omega)) wv_X4_193 rfl rfl (by decide) (by decide) (pl_5 _) (Nat.le_of_ble_eq_true rfl) (by omega) (by omega) dX4_doesTurn_64 ?_
        refine pr_goto (pc := 67) C 192 dX4_doesTurn_67 (by decide) ?_
        exact pr_vret (pc := 192) C E (by omega) (by omega) ⟨rfl, (by simp [-Int32.not_le, -Int32.not_lt, pz_b, pz_lt, ms_doT, ms_right, eq_false c_16, eq_false c_40, eq_true c_59])⟩ dX4_doesTurn_192
    · refine pr_aload_n (pc := 43) C dX4_doesTurn_43 rfl ?_
      refine pr_aload_n (pc := 44) C dX4_doesTurn_44 rfl ?_
      refine pr_geta (pc := 45) C 218 318 wf_X4_47 rfl rfl (by decide) (pl_5 _) dX4_doesTurn_45 ?_
      refine pr_iload_n (pc := 48) C dX4_doesTurn_48 rfl ?_
      refine pr_aldm (pc := 49) (n := 100) C 218 u rfl rfl rfl (pl_r5 (by decide)) rfl (by omega) (by decide) dX4_doesTurn_49 ?_
      refine pr_eqi hwu ?_
      refine pr_vE (pc := 50) C (c_X4_rightTo G _ h (nI wu)) wv_X4_216 rfl rfl (by decide) (by decide) (pl_5 _) (Nat.le_of_ble_eq_true rfl) (by omega) (by omega) dX4_doesTurn_50 ?_
      refine pr_goto (pc := 53) C 192 dX4_doesTurn_53 (by decide) ?_
      exact pr_vret (pc := 192) C E (by omega) (by omega) ⟨rfl, (by simp [-Int32.not_le, -Int32.not_lt, pz_b, pz_lt, ms_doT, ms_right, eq_false c_16, eq_true c_40])⟩ dX4_doesTurn_192
  · refine pr_aload_n (pc := 19) C dX4_doesTurn_19 rfl ?_
    refine pr_geta (pc := 20) C 228 328 wf_X4_77 rfl rfl (by decide) (pl_5 _) dX4_doesTurn_20 ?_
    refine pr_iconst (pc := 23) (v := 4) C dX4_doesTurn_23 (by decide) ?_
    refine pr_iload_n (pc := 24) C dX4_doesTurn_24 rfl ?_
    refine pr_imulN (pc := 25) C dX4_doesTurn_25 4 u rfl rfl ?_
    refine pr_aload_n (pc := 26) C dX4_doesTurn_26 rfl ?_
    refine pr_geta (pc := 27) C 218 318 wf_X4_47 rfl rfl (by decide) (pl_5 _) dX4_doesTurn_27 ?_
    refine pr_iload_n (pc := 30) C dX4_doesTurn_30 rfl ?_
    refine pr_aldm (pc := 31) (n := 100) C 218 t rfl rfl rfl (pl_r5 (by decide)) rfl (by omega) (by decide) dX4_doesTurn_31 ?_
    refine pr_eqi hw ?_
    refine pr_iaddN (pc := 32) C dX4_doesTurn_32 (4 * u) w rfl rfl ?_
    refine pr_iconst (pc := 33) (v := 4) C dX4_doesTurn_33 (by decide) ?_
    refine pr_astm (pc := 34) (n := 400) C 228 ((4 * u) + w) rfl (by decide) rfl rfl (pl_r5 (by decide)) rfl (by omega) (by decide) dX4_doesTurn_34 ?_
    refine pr_goto (pc := 35) C 192 dX4_doesTurn_35 (by decide) ?_
    exact pr_vret (pc := 192) C E (by omega) (by omega) ⟨rfl, (by simp [-Int32.not_le, -Int32.not_lt, pz_b, pz_lt, ms_doT, ms_right, eq_true c_16])⟩ dX4_doesTurn_192

def ms_qxs (w x : Nat) (S : Nat → Nat → Int32) (k : Nat) : Nat → Nat → Int32 := pa_us S 233 (40 * w + 10 * k + x) 0
/-- the acts about an atom x: v the other atom of a BECAUSE -/
def ms_doA (S : Nat → Nat → Int32) (t w a x v : Nat) : Nat → Nat → Int32 :=
  if a = 9 then pz_it (ms_qxs w x) 4 (pa_us (ms_says S t w v 1) 234 (10 * (10 * w + x) + v) 1) else
  if a = 10 then ms_com S w x 0 (nI t) else
  pa_us (pa_us S 210 (10 * w + x) (if a = 11 then S 221 t else 0)) 211 (10 * w + x) (nI t)
set_option maxRecDepth 100000 in
set_option maxHeartbeats 2000000 in
theorem c_X4_doesAtom (G : pa_G) (l : Launch) (h : pa_H) (t w a x9 v : Nat) (ht : t < 100) (hw : h.2.1 218 t = nI w) (hw4 : w < 4) (ha : h.2.1 219 t = nI a) (ha16 : a < 16) (hx : h.2.1 220 t = nI x9) (hx10 : x9 < 10) (hv : a = 9 → h.2.1 221 t = nI v ∧ v < 10) : pa_ME G l mX4_doesAtom 5 [pv_o 5 0, pv_i (nI t)] h (h.1, ms_doA h.2.1 t w a x9 v, h.2.2) := by
  refine pa_go l (by decide) (by simp [pa_c1l, pa_c1]) (fun _ => rfl) fun x C E el ea => ?_
  subst el
  show pa_w G x 5 h 0 0 0 [some (pv_o 5 0), some (pv_i (nI t)), none, none, none] []
  refine pr_aload_n (pc := 0) C dX4_doesAtom_0 rfl ?_
  refine pr_geta (pc := 1) C 219 319 wf_X4_50 rfl rfl (by decide) (pl_5 _) dX4_doesAtom_1 ?_
  refine pr_iload_n (pc := 4) C dX4_doesAtom_4 rfl ?_
  refine pr_aldm (pc := 5) (n := 100) C 219 t rfl rfl rfl (pl_r5 (by decide)) rfl (by omega) (by decide) dX4_doesAtom_5 ?_
  refine pr_eqi ha ?_
  refine pr_istore_n (pc := 6) C dX4_doesAtom_6 (by decide) ?_
  refine pr_bipush (pc := 7) (v := 10) C dX4_doesAtom_7 (by decide) ?_
  refine pr_aload_n (pc := 9) C dX4_doesAtom_9 rfl ?_
  refine pr_geta (pc := 10) C 218 318 wf_X4_47 rfl rfl (by decide) (pl_5 _) dX4_doesAtom_10 ?_
  refine pr_iload_n (pc := 13) C dX4_doesAtom_13 rfl ?_
  refine pr_aldm (pc := 14) (n := 100) C 218 t rfl rfl rfl (pl_r5 (by decide)) rfl (by omega) (by decide) dX4_doesAtom_14 ?_
  refine pr_eqi hw ?_
  refine pr_imulN (pc := 15) C dX4_doesAtom_15 10 w rfl rfl ?_
  refine pr_aload_n (pc := 16) C dX4_doesAtom_16 rfl ?_
  refine pr_geta (pc := 17) C 220 320 wf_X4_53 rfl rfl (by decide) (pl_5 _) dX4_doesAtom_17 ?_
  refine pr_iload_n (pc := 20) C dX4_doesAtom_20 rfl ?_
  refine pr_aldm (pc := 21) (n := 100) C 220 t rfl rfl rfl (pl_r5 (by decide)) rfl (by omega) (by decide) dX4_doesAtom_21 ?_
  refine pr_eqi hx ?_
  refine pr_iaddN (pc := 22) C dX4_doesAtom_22 (10 * w) x9 rfl rfl ?_
  refine pr_istore_n (pc := 23) C dX4_doesAtom_23 (by decide) ?_
  refine pr_iload_n (pc := 24) C dX4_doesAtom_24 rfl ?_
  refine pr_bipush (pc := 25) (v := 9) C dX4_doesAtom_25 (by decide) ?_
  refine pr_icmp_neN (pc := 27) C 105 a 9 dX4_doesAtom_27 (by decide) rfl rfl (by omega) (by omega) (fun c_27 => ?_) (fun c_27 => ?_)
  · refine pr_iload_n (pc := 105) C dX4_doesAtom_105 rfl ?_
    refine pr_bipush (pc := 106) (v := 10) C dX4_doesAtom_106 (by decide) ?_
    refine pr_icmp_neN (pc := 108) C 132 a 10 dX4_doesAtom_108 (by decide) rfl rfl (by omega) (by omega) (fun c_108 => ?_) (fun c_108 => ?_)
    · refine pr_aload_n (pc := 132) C dX4_doesAtom_132 rfl ?_
      refine pr_geta (pc := 133) C 210 310 wf_X4_35 rfl rfl (by decide) (pl_5 _) dX4_doesAtom_133 ?_
      refine pr_iload_n (pc := 136) C dX4_doesAtom_136 rfl ?_
      have j153_1 : pa_w G x 5 h 0 0 153 [some (pv_o 5 0), some (pv_i (nI t)), some (pv_i (nI a)), some (pv_i (nI ((10 * w) + x9))), none] [pv_i (if a = 11 then h.2.1 221 t else 0), pv_i (nI ((10 * w) + x9)), pv_o 310 0] := by
        refine pr_astm (pc := 153) (n := 40) C 210 ((10 * w) + x9) rfl (by decide) rfl rfl (pl_r5 (by decide)) rfl (by omega) (by decide) dX4_doesAtom_153 ?_
        refine pr_aload_n (pc := 154) C dX4_doesAtom_154 rfl ?_
        refine pr_geta (pc := 155) C 211 311 wf_X4_38 rfl rfl (by decide) (pl_5 _) dX4_doesAtom_155 ?_
        refine pr_iload_n (pc := 158) C dX4_doesAtom_158 rfl ?_
        refine pr_iload_n (pc := 159) C dX4_doesAtom_159 rfl ?_
        refine pr_astm (pc := 160) (n := 40) C 211 ((10 * w) + x9) rfl (by decide) rfl rfl (pl_r5 (by decide)) rfl (by omega) (by decide) dX4_doesAtom_160 ?_
        exact pr_vret (pc := 161) C E (by omega) (by omega) ⟨rfl, (by simp [-Int32.not_le, -Int32.not_lt, pz_b, pz_lt, ms_doA, eq_false c_27, eq_false c_108])⟩ dX4_doesAtom_161
      refine pr_iload_n (pc := 137) C dX4_doesAtom_137 rfl ?_
      refine pr_bipush (pc := 138) (v := 11) C dX4_doesAtom_138 (by decide) ?_
      refine pr_icmp_neN (pc := 140) C 152 a 11 dX4_doesAtom_140 (by decide) rfl rfl (by omega) (by omega) (fun c_140 => ?_) (fun c_140 => ?_)
      · refine pr_iconst (pc := 152) (v := 0) C dX4_doesAtom_152 (by decide) ?_
        exact pr_eqi (show (0 : Int32) = (if a = 11 then h.2.1 221 t else 0) from (by simp [-Int32.not_le, -Int32.not_lt, pz_b, pz_lt, eq_false c_27, eq_false c_108, eq_false c_140])) j153_1
      · refine pr_aload_n (pc := 143) C dX4_doesAtom_143 rfl ?_
        refine pr_geta (pc := 144) C 221 321 wf_X4_56 rfl rfl (by decide) (pl_5 _) dX4_doesAtom_144 ?_
        refine pr_iload_n (pc := 147) C dX4_doesAtom_147 rfl ?_
        refine pr_aldm (pc := 148) (n := 100) C 221 t rfl rfl rfl (pl_r5 (by decide)) rfl (by omega) (by decide) dX4_doesAtom_148 ?_
        refine pr_goto (pc := 149) C 153 dX4_doesAtom_149 (by decide) ?_
        exact pr_eqi (show (h.2.1 221 t) = (if a = 11 then h.2.1 221 t else 0) from (by simp [-Int32.not_le, -Int32.not_lt, pz_b, pz_lt, eq_false c_27, eq_false c_108, eq_true c_140])) j153_1
    · refine pr_aload_n (pc := 111) C dX4_doesAtom_111 rfl ?_
      refine pr_aload_n (pc := 112) C dX4_doesAtom_112 rfl ?_
      refine pr_geta (pc := 113) C 218 318 wf_X4_47 rfl rfl (by decide) (pl_5 _) dX4_doesAtom_113 ?_
      refine pr_iload_n (pc := 116) C dX4_doesAtom_116 rfl ?_
      refine pr_aldm (pc := 117) (n := 100) C 218 t rfl rfl rfl (pl_r5 (by decide)) rfl (by omega) (by decide) dX4_doesAtom_117 ?_
      refine pr_eqi hw ?_
      refine pr_aload_n (pc := 118) C dX4_doesAtom_118 rfl ?_
      refine pr_geta (pc := 119) C 220 320 wf_X4_53 rfl rfl (by decide) (pl_5 _) dX4_doesAtom_119 ?_
      refine pr_iload_n (pc := 122) C dX4_doesAtom_122 rfl ?_
      refine pr_aldm (pc := 123) (n := 100) C 220 t rfl rfl rfl (pl_r5 (by decide)) rfl (by omega) (by decide) dX4_doesAtom_123 ?_
      refine pr_eqi hx ?_
      refine pr_iconst (pc := 124) (v := 0) C dX4_doesAtom_124 (by decide) ?_
      refine pr_iload_n (pc := 125) C dX4_doesAtom_125 rfl ?_
      refine pr_vE (pc := 126) C (c_X4_commits G _ h w x9 (0 : Int32) (nI t) (by first | assumption | omega) (by first | assumption | omega)) wv_X4_183 rfl rfl (by decide) (by decide) (pl_5 _) (Nat.le_of_ble_eq_true rfl) (by omega) (by omega) dX4_doesAtom_126 ?_
      refine pr_goto (pc := 129) C 161 dX4_doesAtom_129 (by decide) ?_
      exact pr_vret (pc := 161) C E (by omega) (by omega) ⟨rfl, (by simp [-Int32.not_le, -Int32.not_lt, pz_b, pz_lt, ms_doA, eq_false c_27, eq_true c_108])⟩ dX4_doesAtom_161
  · refine pr_aload_n (pc := 30) C dX4_doesAtom_30 rfl ?_
    refine pr_iload_n (pc := 31) C dX4_doesAtom_31 rfl ?_
    refine pr_aload_n (pc := 32) C dX4_doesAtom_32 rfl ?_
    refine pr_geta (pc := 33) C 221 321 wf_X4_56 rfl rfl (by decide) (pl_5 _) dX4_doesAtom_33 ?_
    refine pr_iload_n (pc := 36) C dX4_doesAtom_36 rfl ?_
    refine pr_aldm (pc := 37) (n := 100) C 221 t rfl rfl rfl (pl_r5 (by decide)) rfl (by omega) (by decide) dX4_doesAtom_37 ?_
    refine pr_eqi (hv (by omega)).1 ?_
    refine pr_iconst (pc := 38) (v := 1) C dX4_doesAtom_38 (by decide) ?_
    refine pr_vE (pc := 39) C (c_X4_says G _ h t w v (1 : Int32) (by first | assumption | omega) hw hw4 (hv (by omega)).2) wv_X4_200 rfl rfl (by decide) (by decide) (pl_5 _) (Nat.le_of_ble_eq_true rfl) (by omega) (by omega) dX4_doesAtom_39 ?_
    obtain ⟨hv1, hv2⟩ := hv (by omega)
    refine pr_aload_n (pc := 42) C dX4_doesAtom_42 rfl ?_
    refine pr_geta (pc := 43) C 234 334 wf_X4_92 rfl rfl (by decide) (pl_5 _) dX4_doesAtom_43 ?_
    refine pr_bipush (pc := 46) (v := 10) C dX4_doesAtom_46 (by decide) ?_
    refine pr_iload_n (pc := 48) C dX4_doesAtom_48 rfl ?_
    refine pr_imulN (pc := 49) C dX4_doesAtom_49 10 ((10 * w) + x9) rfl rfl ?_
    refine pr_aload_n (pc := 50) C dX4_doesAtom_50 rfl ?_
    refine pr_geta (pc := 51) C 221 321 wf_X4_56 rfl rfl (by decide) (pl_5 _) dX4_doesAtom_51 ?_
    refine pr_iload_n (pc := 54) C dX4_doesAtom_54 rfl ?_
    refine pr_aldm (pc := 55) (n := 100) C 221 t rfl rfl rfl (pl_r5 (by decide)) rfl (by omega) (by decide) dX4_doesAtom_55 ?_
    refine pr_eqi (v := h.2.1 221 t) (by simp only [pa_us_ne, pa_us_self, ms_dlv_ne, ms_eq_ne, ms_com_ne, ms_says_ne, ms_right_ne, ne_eq, Nat.reduceEqDiff, not_false_eq_true, reduceCtorEq]) ?_
    refine pr_eqi (hv (by omega)).1 ?_
    refine pr_iaddN (pc := 56) C dX4_doesAtom_56 (10 * ((10 * w) + x9)) v rfl rfl ?_
    refine pr_iconst (pc := 57) (v := 1) C dX4_doesAtom_57 (by decide) ?_
    refine pr_astb (pc := 58) (n := 400) C 234 ((10 * ((10 * w) + x9)) + v) rfl (by decide) rfl rfl (pl_r5 (by decide)) (by decide) rfl (by omega) (by decide) dX4_doesAtom_58 ?_
    refine pr_iconst (pc := 59) (v := 0) C dX4_doesAtom_59 (by decide) ?_
    refine pr_istore (pc := 60) C dX4_doesAtom_60 (by decide) ?_
    have lp3 : ∀ (n4 k2 : Nat) (S6 : Nat → Nat → Int32), k2 ≤ 4 → 4 < k2 + n4 → S6 = pz_it (ms_qxs w x9) k2 (pa_us (ms_says h.2.1 t w v (1 : Int32)) 234 ((10 * ((10 * w) + x9)) + v) (1 : Int32)) → (S6 218 t = nI w ∧ S6 220 t = nI x9) → pa_w G x 5 (h.1, S6, h.2.2) 0 0 62 [some (pv_o 5 0), some (pv_i (nI t)), some (pv_i (nI a)), some (pv_i (nI ((10 * w) + x9))), some (pv_i (nI k2))] [] := by
      intro n4
      induction n4 with
      | zero => intro k2 S6 h1 h2; exact absurd h2 (by omega)
      | succ n4 ih5 =>
        intro k2 S6 hk1_k2 hk2_k2 eS_k2 hx_k2
        refine pr_iload (pc := 62) C dX4_doesAtom_62 rfl ?_
        refine pr_iconst (pc := 64) (v := 4) C dX4_doesAtom_64 (by decide) ?_
        refine pr_icmp_geN (pc := 65) C 102 k2 4 dX4_doesAtom_65 (by decide) rfl rfl (by omega) (by omega) (fun c_65 => ?_) (fun c_65 => ?_)
        · obtain rfl : 4 = k2 := by omega
          refine pr_goto (pc := 102) C 161 dX4_doesAtom_102 (by decide) ?_
          exact pr_vret (pc := 161) C E (by omega) (by omega) ⟨rfl, by rw [eS_k2]; simp [ms_doA, eq_true c_27]⟩ dX4_doesAtom_161
        · refine pr_aload_n (pc := 68) C dX4_doesAtom_68 rfl ?_
          refine pr_geta (pc := 69) C 233 333 wf_X4_89 rfl rfl (by decide) (pl_5 _) dX4_doesAtom_69 ?_
          refine pr_bipush (pc := 72) (v := 40) C dX4_doesAtom_72 (by decide) ?_
          refine pr_aload_n (pc := 74) C dX4_doesAtom_74 rfl ?_
          refine pr_geta (pc := 75) C 218 318 wf_X4_47 rfl rfl (by decide) (pl_5 _) dX4_doesAtom_75 ?_
          refine pr_iload_n (pc := 78) C dX4_doesAtom_78 rfl ?_
          refine pr_aldm (pc := 79) (n := 100) C 218 t rfl rfl rfl (pl_r5 (by decide)) rfl (by omega) (by decide) dX4_doesAtom_79 ?_
          refine pr_eqi hx_k2.1 ?_
          refine pr_imulN (pc := 80) C dX4_doesAtom_80 40 w rfl rfl ?_
          refine pr_bipush (pc := 81) (v := 10) C dX4_doesAtom_81 (by decide) ?_
          refine pr_iload (pc := 83) C dX4_doesAtom_83 rfl ?_
          refine pr_imulN (pc := 85) C dX4_doesAtom_85 10 k2 rfl rfl ?_
          refine pr_iaddN (pc := 86) C dX4_doesAtom_86 (40 * w) (10 * k2) rfl rfl ?_
          refine pr_aload_n (pc := 87) C dX4_doesAtom_87 rfl ?_
          refine pr_geta (pc := 88) C 220 320 wf_X4_53 rfl rfl (by decide) (pl_5 _) dX4_doesAtom_88 ?_
          refine pr_iload_n (pc := 91) C dX4_doesAtom_91 rfl ?_
          refine pr_aldm (pc := 92) (n := 100) C 220 t rfl rfl rfl (pl_r5 (by decide)) rfl (by omega) (by decide) dX4_doesAtom_92 ?_
          refine pr_eqi hx_k2.2 ?_
          refine pr_iaddN (pc := 93) C dX4_doesAtom_93 ((40 * w) + (10 * k2)) x9 rfl rfl ?_
          refine pr_iconst (pc := 94) (v := 0) C dX4_doesAtom_94 (by decide) ?_
          refine pr_astb (pc := 95) (n := 160) C 233 (((40 * w) + (10 * k2)) + x9) rfl (by decide) rfl rfl (pl_r5 (by decide)) (by decide) rfl (by omega) (by decide) dX4_doesAtom_95 ?_
          refine pr_iincN (pc := 96) C dX4_doesAtom_96 rfl k2 1 rfl rfl (by decide) ?_
          refine pr_goto (pc := 99) C 62 dX4_doesAtom_99 (by decide) ?_
          exact ih5 (k2 + 1) (pa_us S6 233 (((40 * w) + (10 * k2)) + x9) (0 : Int32)) (by omega) (by omega) (by rw [pz_it_s, ← eS_k2]; rfl) ⟨hx_k2.1, hx_k2.2⟩
    exact lp3 (4 + 1) 0 _ (by omega) (by omega) rfl ⟨by simp only [pa_us_ne, ms_says_ne, ne_eq, Nat.reduceEqDiff, not_false_eq_true, hw], by simp only [pa_us_ne, ms_says_ne, ne_eq, Nat.reduceEqDiff, not_false_eq_true, hx]⟩

def ms_ofs (t w : Nat) (S : Nat → Nat → Int32) (k : Nat) : Nat → Nat → Int32 :=
  pa_us S 227 k (pz_b (decide (S 227 k ≠ 0) && !(decide (S 218 k = nI w) && decide (S 222 k = S 222 t)) && !(decide (S 218 k = ms_one (S 222 t)) && decide (ms_one (S 222 k) = nI w))))
def ms_ows (w wu u : Nat) (S : Nat → Nat → Int32) (k : Nat) : Nat → Nat → Int32 :=
  pa_us S 213 k (if ms_isIn (S 220 u) (nI k) then nI w else if ms_isIn (S 221 u) (nI k) then nI wu else S 213 k)
/-- can the offer u of wu be met, w being the other one -/
def ms_ocan (S : Nat → Nat → Int32) (w u wu : Nat) : Bool := ms_owns S (nI wu) (S 220 u) && ms_owns S (nI w) (S 221 u)
def ms_doO (S : Nat → Nat → Int32) (t w a u wu : Nat) : Nat → Nat → Int32 :=
  if a = 13 then ms_right (pa_us (pz_it (ms_ofs t w) t S) 227 t 1) (ms_one (S 222 t)) else
  if a = 14 then (if ms_ocan (pa_us S 227 u 0) w u wu then
      pa_us (pa_us (pz_it (ms_ows w wu u) 8 (pa_us S 227 u 0)) 221 t 1) 214 0 (S 214 0 + 1)
    else pa_us (pa_us (pa_us S 227 u 0) 221 t 0) 214 0 (S 214 0 + 0)) else pa_us S 227 u 0
theorem ms_ofs_ne {t w n f j : Nat} {S : Nat → Nat → Int32} (h1 : f ≠ 227) : pz_it (ms_ofs t w) n S f j = S f j :=
  pz_it_inv (f := ms_ofs t w) (I := fun S' => S' f j = S f j) (fun s k h => by unfold ms_ofs; rw [pa_us_ne h1, h]) n S rfl
theorem ms_ows_ne {w wu u n f j : Nat} {S : Nat → Nat → Int32} (h1 : f ≠ 213) : pz_it (ms_ows w wu u) n S f j = S f j :=
  pz_it_inv (f := ms_ows w wu u) (I := fun S' => S' f j = S f j) (fun s k h => by unfold ms_ows; rw [pa_us_ne h1, h]) n S rfl
set_option maxRecDepth 100000 in
set_option maxHeartbeats 2000000 in
theorem c_X4_doesOffer (G : pa_G) (l : Launch) (h : pa_H) (t w a u wu : Nat) (ht : t < 100) (hw : h.2.1 218 t = nI w) (hw4 : w < 4) (ha : h.2.1 219 t = nI a) (ha16 : a < 16) (hu : a ≠ 13 → h.2.1 220 t = nI u ∧ u < 100 ∧ h.2.1 218 u = nI wu ∧ wu < 4) : pa_ME G l mX4_doesOffer 5 [pv_o 5 0, pv_i (nI t)] h (h.1, ms_doO h.2.1 t w a u wu, h.2.2) := by
  refine pa_go l (by decide) (by simp [pa_c1l, pa_c1]) (fun _ => rfl) fun x C E el ea => ?_
  subst el
  show pa_w G x 6 h 0 0 0 [some (pv_o 5 0), some (pv_i (nI t)), none, none, none, none] []
  refine pr_aload_n (pc := 0) C dX4_doesOffer_0 rfl ?_
  refine pr_geta (pc := 1) C 219 319 wf_X4_50 rfl rfl (by decide) (pl_5 _) dX4_doesOffer_1 ?_
  refine pr_iload_n (pc := 4) C dX4_doesOffer_4 rfl ?_
  refine pr_aldm (pc := 5) (n := 100) C 219 t rfl rfl rfl (pl_r5 (by decide)) rfl (by omega) (by decide) dX4_doesOffer_5 ?_
  refine pr_eqi ha ?_
  refine pr_istore_n (pc := 6) C dX4_doesOffer_6 (by decide) ?_
  refine pr_iload_n (pc := 7) C dX4_doesOffer_7 rfl ?_
  refine pr_bipush (pc := 8) (v := 13) C dX4_doesOffer_8 (by decide) ?_
  refine pr_icmp_neN (pc := 10) C 157 a 13 dX4_doesOffer_10 (by decide) rfl rfl (by omega) (by omega) (fun c_10 => ?_) (fun c_10 => ?_)
  · obtain ⟨-, hu100, hwu, hwu4⟩ := hu (by omega)
    refine pr_aload_n (pc := 157) C dX4_doesOffer_157 rfl ?_
    refine pr_geta (pc := 158) C 220 320 wf_X4_53 rfl rfl (by decide) (pl_5 _) dX4_doesOffer_158 ?_
    refine pr_iload_n (pc := 161) C dX4_doesOffer_161 rfl ?_
    refine pr_aldm (pc := 162) (n := 100) C 220 t rfl rfl rfl (pl_r5 (by decide)) rfl (by omega) (by decide) dX4_doesOffer_162 ?_
    refine pr_eqi (hu (by omega)).1 ?_
    refine pr_istore_n (pc := 163) C dX4_doesOffer_163 (by decide) ?_
    refine pr_aload_n (pc := 164) C dX4_doesOffer_164 rfl ?_
    refine pr_geta (pc := 165) C 227 327 wf_X4_74 rfl rfl (by decide) (pl_5 _) dX4_doesOffer_165 ?_
    refine pr_iload_n (pc := 168) C dX4_doesOffer_168 rfl ?_
    refine pr_iconst (pc := 169) (v := 0) C dX4_doesOffer_169 (by decide) ?_
    refine pr_astb (pc := 170) (n := 100) C 227 u rfl (by decide) rfl rfl (pl_r5 (by decide)) (by decide) rfl (by omega) (by decide) dX4_doesOffer_170 ?_
    refine pr_iload_n (pc := 171) C dX4_doesOffer_171 rfl ?_
    refine pr_bipush (pc := 172) (v := 14) C dX4_doesOffer_172 (by decide) ?_
    refine pr_icmp_neN (pc := 174) C 338 a 14 dX4_doesOffer_174 (by decide) rfl rfl (by omega) (by omega) (fun c_174 => ?_) (fun c_174 => ?_)
    · exact pr_vret (pc := 338) C E (by omega) (by omega) ⟨rfl, (by simp [-Int32.not_le, -Int32.not_lt, pz_b, pz_lt, ms_doO, ms_right, pa_us_ne, eq_false c_10, eq_false c_174])⟩ dX4_doesOffer_338
    · have j220_1 : pa_w G x 6 (h.1, (pa_us h.2.1 227 u (0 : Int32)), h.2.2) 0 0 220 [some (pv_o 5 0), some (pv_i (nI t)), some (pv_i (nI a)), some (pv_i (nI u)), none, none] [pv_i (pz_b (ms_ocan (pa_us h.2.1 227 u (0 : Int32)) w u wu))] := by
        refine pr_istore (pc := 220) C dX4_doesOffer_220 (by decide) ?_
        cases hcb : (ms_ocan (pa_us h.2.1 227 u (0 : Int32)) w u wu) with
        | false =>
          refine pr_iconst (pc := 222) (v := 0) C dX4_doesOffer_222 (by decide) ?_
          refine pr_istore (pc := 223) C dX4_doesOffer_223 (by decide) ?_
          refine pr_iload (pc := 225) C dX4_doesOffer_225 rfl ?_
          refine pr_bipush (pc := 227) (v := 8) C dX4_doesOffer_227 (by decide) ?_
          refine pr_icmp_ge (pc := 229) C 303 dX4_doesOffer_229 (by decide) (fun c_229 => absurd c_229 (by decide)) (fun _ => ?_)
          refine pr_iload (pc := 232) C dX4_doesOffer_232 rfl ?_
          refine pr_if_eq (pc := 234) C 303 dX4_doesOffer_234 (by decide) (fun _ => ?_) (fun c_234 => absurd c_234 (by decide))
          refine pr_aload_n (pc := 303) C dX4_doesOffer_303 rfl ?_
          refine pr_geta (pc := 304) C 221 321 wf_X4_56 rfl rfl (by decide) (pl_5 _) dX4_doesOffer_304 ?_
          refine pr_iload_n (pc := 307) C dX4_doesOffer_307 rfl ?_
          refine pr_iload (pc := 308) C dX4_doesOffer_308 rfl ?_
          refine pr_if_eq (pc := 310) C 317 dX4_doesOffer_310 (by decide) (fun _ => ?_) (fun c_310 => absurd c_310 (by decide))
          refine pr_iconst (pc := 317) (v := 0) C dX4_doesOffer_317 (by decide) ?_
          refine pr_astm (pc := 318) (n := 100) C 221 t rfl (by decide) rfl rfl (pl_r5 (by decide)) rfl (by omega) (by decide) dX4_doesOffer_318 ?_
          refine pr_aload_n (pc := 319) C dX4_doesOffer_319 rfl ?_
          refine pr_dup (pc := 320) C dX4_doesOffer_320 trivial ?_
          refine pr_getm (pc := 321) C 214 wf_X4_219 rfl (by decide) (pl_5 _) dX4_doesOffer_321 ?_
          refine pr_eqi (v := h.2.1 214 0) rfl ?_
          refine pr_iload (pc := 324) C dX4_doesOffer_324 rfl ?_
          refine pr_if_eq (pc := 326) C 333 dX4_doesOffer_326 (by decide) (fun _ => ?_) (fun c_326 => absurd c_326 (by decide))
          refine pr_iconst (pc := 333) (v := 0) C dX4_doesOffer_333 (by decide) ?_
          refine pr_iadd (pc := 334) C dX4_doesOffer_334 ?_
          refine pr_putm (pc := 335) C 214 wp_X4_219 rfl (by decide) rfl (pl_5 _) dX4_doesOffer_335 ?_
          exact pr_vret (pc := 338) C E (by omega) (by omega) ⟨rfl, (by simp [-Int32.not_le, -Int32.not_lt, pz_b, pz_lt, ms_doO, ms_right, pa_us_ne, eq_false c_10, eq_true c_174, hcb])⟩ dX4_doesOffer_338
        | true =>
          refine pr_iconst (pc := 222) (v := 0) C dX4_doesOffer_222 (by decide) ?_
          refine pr_istore (pc := 223) C dX4_doesOffer_223 (by decide) ?_
          have lp3 : ∀ (n4 k2 : Nat) (S6 : Nat → Nat → Int32), k2 ≤ 8 → 8 < k2 + n4 → S6 = pz_it (ms_ows w wu u) k2 (pa_us h.2.1 227 u (0 : Int32)) → (S6 218 t = nI w ∧ S6 218 u = nI wu) → pa_w G x 6 (h.1, S6, h.2.2) 0 0 225 [some (pv_o 5 0), some (pv_i (nI t)), some (pv_i (nI a)), some (pv_i (nI u)), some (pv_i (1 : Int32)), some (pv_i (nI k2))] [] := by
            intro n4
            induction n4 with
            | zero => intro k2 S6 h1 h2; exact absurd h2 (by omega)
            | succ n4 ih5 =>
              intro k2 S6 hk1_k2 hk2_k2 eS_k2 hx_k2
              refine pr_iload (pc := 225) C dX4_doesOffer_225 rfl ?_
              refine pr_bipush (pc := 227) (v := 8) C dX4_doesOffer_227 (by decide) ?_
              refine pr_icmp_geN (pc := 229) C 303 k2 8 dX4_doesOffer_229 (by decide) rfl rfl (by omega) (by omega) (fun c_229 => ?_) (fun c_229 => ?_)
              · obtain rfl : 8 = k2 := by omega
                refine pr_aload_n (pc := 303) C dX4_doesOffer_303 rfl ?_
                refine pr_geta (pc := 304) C 221 321 wf_X4_56 rfl rfl (by decide) (pl_5 _) dX4_doesOffer_304 ?_
                refine pr_iload_n (pc := 307) C dX4_doesOffer_307 rfl ?_
                refine pr_iload (pc := 308) C dX4_doesOffer_308 rfl ?_
                refine pr_if_eq (pc := 310) C 317 dX4_doesOffer_310 (by decide) (fun c_310 => absurd c_310 (by decide)) (fun _ => ?_)
                refine pr_iconst (pc := 313) (v := 1) C dX4_doesOffer_313 (by decide) ?_
                refine pr_goto (pc := 314) C 318 dX4_doesOffer_314 (by decide) ?_
                refine pr_astm (pc := 318) (n := 100) C 221 t rfl (by decide) rfl rfl (pl_r5 (by decide)) rfl (by omega) (by decide) dX4_doesOffer_318 ?_
                refine pr_aload_n (pc := 319) C dX4_doesOffer_319 rfl ?_
                refine pr_dup (pc := 320) C dX4_doesOffer_320 trivial ?_
                refine pr_getm (pc := 321) C 214 wf_X4_219 rfl (by decide) (pl_5 _) dX4_doesOffer_321 ?_
                refine pr_eqi (v := S6 214 0) rfl ?_
                refine pr_iload (pc := 324) C dX4_doesOffer_324 rfl ?_
                refine pr_if_eq (pc := 326) C 333 dX4_doesOffer_326 (by decide) (fun c_326 => absurd c_326 (by decide)) (fun _ => ?_)
                refine pr_iconst (pc := 329) (v := 1) C dX4_doesOffer_329 (by decide) ?_
                refine pr_goto (pc := 330) C 334 dX4_doesOffer_330 (by decide) ?_
                refine pr_iadd (pc := 334) C dX4_doesOffer_334 ?_
                refine pr_putm (pc := 335) C 214 wp_X4_219 rfl (by decide) rfl (pl_5 _) dX4_doesOffer_335 ?_
                exact pr_vret (pc := 338) C E (by omega) (by omega) ⟨rfl, by rw [eS_k2]; simp [ms_doO, ms_right, pa_us_ne, ms_ofs_ne, ms_ows_ne, eq_false c_10, eq_true c_174, hcb]⟩ dX4_doesOffer_338
              · refine pr_iload (pc := 232) C dX4_doesOffer_232 rfl ?_
                refine pr_if_eq (pc := 234) C 303 dX4_doesOffer_234 (by decide) (fun c_234 => absurd c_234 (by decide)) (fun _ => ?_)
                refine pr_aload_n (pc := 237) C dX4_doesOffer_237 rfl ?_
                refine pr_geta (pc := 238) C 213 313 wf_X4_44 rfl rfl (by decide) (pl_5 _) dX4_doesOffer_238 ?_
                refine pr_iload (pc := 241) C dX4_doesOffer_241 rfl ?_
                refine pr_aload_n (pc := 243) C dX4_doesOffer_243 rfl ?_
                refine pr_geta (pc := 244) C 220 320 wf_X4_53 rfl rfl (by decide) (pl_5 _) dX4_doesOffer_244 ?_
                refine pr_iload_n (pc := 247) C dX4_doesOffer_247 rfl ?_
                refine pr_aldm (pc := 248) (n := 100) C 220 u rfl rfl rfl (pl_r5 (by decide)) rfl (by omega) (by decide) dX4_doesOffer_248 ?_
                refine pr_iload (pc := 249) C dX4_doesOffer_249 rfl ?_
                refine pr_sP (pc := 251) C (c_X4_isIn G _ (h.1, S6, h.2.2) (S6 220 u) (nI k2)) ws_X4_114 rfl rfl (by decide) (Nat.le_of_ble_eq_true rfl) (by omega) (by omega) dX4_doesOffer_251 ?_
                refine pr_ifb_eq (pc := 254) C 266 dX4_doesOffer_254 (by decide) (fun c_254 => ?_) (fun c_254 => ?_)
                · refine pr_aload_n (pc := 266) C dX4_doesOffer_266 rfl ?_
                  refine pr_geta (pc := 267) C 221 321 wf_X4_56 rfl rfl (by decide) (pl_5 _) dX4_doesOffer_267 ?_
                  refine pr_iload_n (pc := 270) C dX4_doesOffer_270 rfl ?_
                  refine pr_aldm (pc := 271) (n := 100) C 221 u rfl rfl rfl (pl_r5 (by decide)) rfl (by omega) (by decide) dX4_doesOffer_271 ?_
                  refine pr_iload (pc := 272) C dX4_doesOffer_272 rfl ?_
                  refine pr_sP (pc := 274) C (c_X4_isIn G _ (h.1, S6, h.2.2) (S6 221 u) (nI k2)) ws_X4_114 rfl rfl (by decide) (Nat.le_of_ble_eq_true rfl) (by omega) (by omega) dX4_doesOffer_274 ?_
                  refine pr_ifb_eq (pc := 277) C 289 dX4_doesOffer_277 (by decide) (fun c_277 => ?_) (fun c_277 => ?_)
                  · refine pr_aload_n (pc := 289) C dX4_doesOffer_289 rfl ?_
                    refine pr_geta (pc := 290) C 213 313 wf_X4_44 rfl rfl (by decide) (pl_5 _) dX4_doesOffer_290 ?_
                    refine pr_iload (pc := 293) C dX4_doesOffer_293 rfl ?_
                    refine pr_aldm (pc := 295) (n := 8) C 213 k2 rfl rfl rfl (pl_r5 (by decide)) rfl (by omega) (by decide) dX4_doesOffer_295 ?_
                    refine pr_astm (pc := 296) (n := 8) C 213 k2 rfl (by decide) rfl rfl (pl_r5 (by decide)) rfl (by omega) (by decide) dX4_doesOffer_296 ?_
                    refine pr_iincN (pc := 297) C dX4_doesOffer_297 rfl k2 1 rfl rfl (by decide) ?_
                    refine pr_goto (pc := 300) C 225 dX4_doesOffer_300 (by decide) ?_
                    exact ih5 (k2 + 1) (pa_us S6 213 k2 (S6 213 k2)) (by omega) (by omega) (by rw [pz_it_s, ← eS_k2]; simp [-Int32.not_le, -Int32.not_lt, pz_b, pz_lt, ms_ows, eq_false c_10, eq_true c_174, hcb, c_229, c_254, c_277]) ⟨hx_k2.1, hx_k2.2⟩
                  · refine pr_aload_n (pc := 280) C dX4_doesOffer_280 rfl ?_
                    refine pr_geta (pc := 281) C 218 318 wf_X4_47 rfl rfl (by decide) (pl_5 _) dX4_doesOffer_281 ?_
                    refine pr_iload_n (pc := 284) C dX4_doesOffer_284 rfl ?_
                    refine pr_aldm (pc := 285) (n := 100) C 218 u rfl rfl rfl (pl_r5 (by decide)) rfl (by omega) (by decide) dX4_doesOffer_285 ?_
                    refine pr_eqi hx_k2.2 ?_
                    refine pr_goto (pc := 286) C 296 dX4_doesOffer_286 (by decide) ?_
                    refine pr_astm (pc := 296) (n := 8) C 213 k2 rfl (by decide) rfl rfl (pl_r5 (by decide)) rfl (by omega) (by decide) dX4_doesOffer_296 ?_
                    refine pr_iincN (pc := 297) C dX4_doesOffer_297 rfl k2 1 rfl rfl (by decide) ?_
                    refine pr_goto (pc := 300) C 225 dX4_doesOffer_300 (by decide) ?_
                    exact ih5 (k2 + 1) (pa_us S6 213 k2 (nI wu)) (by omega) (by omega) (by rw [pz_it_s, ← eS_k2]; simp [-Int32.not_le, -Int32.not_lt, pz_b, pz_lt, ms_ows, eq_false c_10, eq_true c_174, hcb, c_229, c_254, c_277]) ⟨hx_k2.1, hx_k2.2⟩
                · refine pr_aload_n (pc := 257) C dX4_doesOffer_257 rfl ?_
                  refine pr_geta (pc := 258) C 218 318 wf_X4_47 rfl rfl (by decide) (pl_5 _) dX4_doesOffer_258 ?_
                  refine pr_iload_n (pc := 261) C dX4_doesOffer_261 rfl ?_
                  refine pr_aldm (pc := 262) (n := 100) C 218 t rfl rfl rfl (pl_r5 (by decide)) rfl (by omega) (by decide) dX4_doesOffer_262 ?_
                  refine pr_eqi hx_k2.1 ?_
                  refine pr_goto (pc := 263) C 296 dX4_doesOffer_263 (by decide) ?_
                  refine pr_astm (pc := 296) (n := 8) C 213 k2 rfl (by decide) rfl rfl (pl_r5 (by decide)) rfl (by omega) (by decide) dX4_doesOffer_296 ?_
                  refine pr_iincN (pc := 297) C dX4_doesOffer_297 rfl k2 1 rfl rfl (by decide) ?_
                  refine pr_goto (pc := 300) C 225 dX4_doesOffer_300 (by decide) ?_
                  exact ih5 (k2 + 1) (pa_us S6 213 k2 (nI w)) (by omega) (by omega) (by rw [pz_it_s, ← eS_k2]; simp [-Int32.not_le, -Int32.not_lt, pz_b, pz_lt, ms_ows, eq_false c_10, eq_true c_174, hcb, c_229, c_254]) ⟨hx_k2.1, hx_k2.2⟩
          exact lp3 (8 + 1) 0 _ (by omega) (by omega) rfl ⟨hw, hwu⟩
      refine pr_aload_n (pc := 177) C dX4_doesOffer_177 rfl ?_
      refine pr_aload_n (pc := 178) C dX4_doesOffer_178 rfl ?_
      refine pr_geta (pc := 179) C 218 318 wf_X4_47 rfl rfl (by decide) (pl_5 _) dX4_doesOffer_179 ?_
      refine pr_iload_n (pc := 182) C dX4_doesOffer_182 rfl ?_
      refine pr_aldm (pc := 183) (n := 100) C 218 u rfl rfl rfl (pl_r5 (by decide)) rfl (by omega) (by decide) dX4_doesOffer_183 ?_
      refine pr_eqi (v := h.2.1 218 u) rfl ?_
      refine pr_eqi hwu ?_
      refine pr_aload_n (pc := 184) C dX4_doesOffer_184 rfl ?_
      refine pr_geta (pc := 185) C 220 320 wf_X4_53 rfl rfl (by decide) (pl_5 _) dX4_doesOffer_185 ?_
      refine pr_iload_n (pc := 188) C dX4_doesOffer_188 rfl ?_
      refine pr_aldm (pc := 189) (n := 100) C 220 u rfl rfl rfl (pl_r5 (by decide)) rfl (by omega) (by decide) dX4_doesOffer_189 ?_
      refine pr_eqi (v := h.2.1 220 u) rfl ?_
      refine pr_vP (pc := 190) C (c_X4_owns G _ (h.1, (pa_us h.2.1 227 u (0 : Int32)), h.2.2) (nI wu) (h.2.1 220 u)) wv_X4_154 rfl rfl (by decide) (by decide) (pl_5 _) (Nat.le_of_ble_eq_true rfl) (by omega) (by omega) dX4_doesOffer_190 ?_
      refine pr_ifb_eq (pc := 193) C 219 dX4_doesOffer_193 (by decide) (fun c_193 => ?_) (fun c_193 => ?_)
      · refine pr_iconst (pc := 219) (v := 0) C dX4_doesOffer_219 (by decide) ?_
        exact pr_eqi (show (0 : Int32) = (pz_b (ms_ocan (pa_us h.2.1 227 u (0 : Int32)) w u wu)) from (by simp [-Int32.not_le, -Int32.not_lt, pz_b, pz_lt, ms_ocan, pa_us_ne, eq_false c_10, eq_true c_174, c_193])) j220_1
      · refine pr_aload_n (pc := 196) C dX4_doesOffer_196 rfl ?_
        refine pr_aload_n (pc := 197) C dX4_doesOffer_197 rfl ?_
        refine pr_geta (pc := 198) C 218 318 wf_X4_47 rfl rfl (by decide) (pl_5 _) dX4_doesOffer_198 ?_
        refine pr_iload_n (pc := 201) C dX4_doesOffer_201 rfl ?_
        refine pr_aldm (pc := 202) (n := 100) C 218 t rfl rfl rfl (pl_r5 (by decide)) rfl (by omega) (by decide) dX4_doesOffer_202 ?_
        refine pr_eqi (v := h.2.1 218 t) rfl ?_
        refine pr_eqi hw ?_
        refine pr_aload_n (pc := 203) C dX4_doesOffer_203 rfl ?_
        refine pr_geta (pc := 204) C 221 321 wf_X4_56 rfl rfl (by decide) (pl_5 _) dX4_doesOffer_204 ?_
        refine pr_iload_n (pc := 207) C dX4_doesOffer_207 rfl ?_
        refine pr_aldm (pc := 208) (n := 100) C 221 u rfl rfl rfl (pl_r5 (by decide)) rfl (by omega) (by decide) dX4_doesOffer_208 ?_
        refine pr_eqi (v := h.2.1 221 u) rfl ?_
        refine pr_vP (pc := 209) C (c_X4_owns G _ (h.1, (pa_us h.2.1 227 u (0 : Int32)), h.2.2) (nI w) (h.2.1 221 u)) wv_X4_154 rfl rfl (by decide) (by decide) (pl_5 _) (Nat.le_of_ble_eq_true rfl) (by omega) (by omega) dX4_doesOffer_209 ?_
        refine pr_ifb_eq (pc := 212) C 219 dX4_doesOffer_212 (by decide) (fun c_212 => ?_) (fun c_212 => ?_)
        · refine pr_iconst (pc := 219) (v := 0) C dX4_doesOffer_219 (by decide) ?_
          exact pr_eqi (show (0 : Int32) = (pz_b (ms_ocan (pa_us h.2.1 227 u (0 : Int32)) w u wu)) from (by simp [-Int32.not_le, -Int32.not_lt, pz_b, pz_lt, ms_ocan, pa_us_ne, eq_false c_10, eq_true c_174, c_193, c_212])) j220_1
        · refine pr_iconst (pc := 215) (v := 1) C dX4_doesOffer_215 (by decide) ?_
          refine pr_goto (pc := 216) C 220 dX4_doesOffer_216 (by decide) ?_
          exact pr_eqi (show (1 : Int32) = (pz_b (ms_ocan (pa_us h.2.1 227 u (0 : Int32)) w u wu)) from (by simp [-Int32.not_le, -Int32.not_lt, pz_b, pz_lt, ms_ocan, pa_us_ne, eq_false c_10, eq_true c_174, c_193, c_212])) j220_1
  · refine pr_iconst (pc := 13) (v := 0) C dX4_doesOffer_13 (by decide) ?_
    refine pr_istore_n (pc := 14) C dX4_doesOffer_14 (by decide) ?_
    have lp8 : ∀ (n9 k7 : Nat) (S11 : Nat → Nat → Int32), k7 ≤ t → t < k7 + n9 → S11 = pz_it (ms_ofs t w) k7 h.2.1 → (S11 218 t = nI w ∧ S11 222 t = h.2.1 222 t) → pa_w G x 6 (h.1, S11, h.2.2) 0 0 15 [some (pv_o 5 0), some (pv_i (nI t)), some (pv_i (nI a)), some (pv_i (nI k7)), none, none] [] := by
      intro n9
      induction n9 with
      | zero => intro k7 S11 h1 h2; exact absurd h2 (by omega)
      | succ n9 ih10 =>
        intro k7 S11 hk1_k7 hk2_k7 eS_k7 hx_k7
        refine pr_iload_n (pc := 15) C dX4_doesOffer_15 rfl ?_
        refine pr_iload_n (pc := 16) C dX4_doesOffer_16 rfl ?_
        refine pr_icmp_geN (pc := 17) C 136 k7 t dX4_doesOffer_17 (by decide) rfl rfl (by omega) (by omega) (fun c_17 => ?_) (fun c_17 => ?_)
        · obtain rfl : t = k7 := by omega
          refine pr_aload_n (pc := 136) C dX4_doesOffer_136 rfl ?_
          refine pr_geta (pc := 137) C 227 327 wf_X4_74 rfl rfl (by decide) (pl_5 _) dX4_doesOffer_137 ?_
          refine pr_iload_n (pc := 140) C dX4_doesOffer_140 rfl ?_
          refine pr_iconst (pc := 141) (v := 1) C dX4_doesOffer_141 (by decide) ?_
          refine pr_astb (pc := 142) (n := 100) C 227 t rfl (by decide) rfl rfl (pl_r5 (by decide)) (by decide) rfl (by omega) (by decide) dX4_doesOffer_142 ?_
          refine pr_aload_n (pc := 143) C dX4_doesOffer_143 rfl ?_
          refine pr_aload_n (pc := 144) C dX4_doesOffer_144 rfl ?_
          refine pr_geta (pc := 145) C 222 322 wf_X4_59 rfl rfl (by decide) (pl_5 _) dX4_doesOffer_145 ?_
          refine pr_iload_n (pc := 148) C dX4_doesOffer_148 rfl ?_
          refine pr_aldm (pc := 149) (n := 100) C 222 t rfl rfl rfl (pl_r5 (by decide)) rfl (by omega) (by decide) dX4_doesOffer_149 ?_
          refine pr_eqi (v := S11 222 t) rfl ?_
          refine pr_sP (pc := 150) C (c_X4_one G _ (h.1, (pa_us S11 227 t (1 : Int32)), h.2.2) (S11 222 t)) ws_X4_137 rfl rfl (by decide) (Nat.le_of_ble_eq_true rfl) (by omega) (by omega) dX4_doesOffer_150 ?_
          refine pr_vE (pc := 153) C (c_X4_rightTo G _ (h.1, (pa_us S11 227 t (1 : Int32)), h.2.2) (ms_one (S11 222 t))) wv_X4_216 rfl rfl (by decide) (by decide) (pl_5 _) (Nat.le_of_ble_eq_true rfl) (by omega) (by omega) dX4_doesOffer_153 ?_
          exact pr_vret (pc := 156) C E (by omega) (by omega) ⟨rfl, by rw [eS_k7]; simp [ms_doO, ms_right, pa_us_ne, ms_ofs_ne, ms_ows_ne, eq_true c_10]⟩ dX4_doesOffer_156
        · have j55_12 : pa_w G x 6 (h.1, S11, h.2.2) 0 0 55 [some (pv_o 5 0), some (pv_i (nI t)), some (pv_i (nI a)), some (pv_i (nI k7)), none, none] [pv_i (pz_b (decide (S11 218 k7 = nI w) && decide (S11 222 k7 = S11 222 t)))] := by
            refine pr_istore (pc := 55) C dX4_doesOffer_55 (by decide) ?_
            have j98_13 : pa_w G x 6 (h.1, S11, h.2.2) 0 0 98 [some (pv_o 5 0), some (pv_i (nI t)), some (pv_i (nI a)), some (pv_i (nI k7)), some (pv_i (pz_b (decide (S11 218 k7 = nI w) && decide (S11 222 k7 = S11 222 t)))), none] [pv_i (pz_b (decide (S11 218 k7 = ms_one (S11 222 t)) && decide (ms_one (S11 222 k7) = nI w)))] := by
              refine pr_istore (pc := 98) C dX4_doesOffer_98 (by decide) ?_
              refine pr_aload_n (pc := 100) C dX4_doesOffer_100 rfl ?_
              refine pr_geta (pc := 101) C 227 327 wf_X4_74 rfl rfl (by decide) (pl_5 _) dX4_doesOffer_101 ?_
              refine pr_iload_n (pc := 104) C dX4_doesOffer_104 rfl ?_
              have j129_14 : pa_w G x 6 (h.1, S11, h.2.2) 0 0 129 [some (pv_o 5 0), some (pv_i (nI t)), some (pv_i (nI a)), some (pv_i (nI k7)), some (pv_i (pz_b (decide (S11 218 k7 = nI w) && decide (S11 222 k7 = S11 222 t)))), some (pv_i (pz_b (decide (S11 218 k7 = ms_one (S11 222 t)) && decide (ms_one (S11 222 k7) = nI w))))] [pv_i (pz_b (decide (S11 227 k7 ≠ 0) && !(decide (S11 218 k7 = nI w) && decide (S11 222 k7 = S11 222 t)) && !(decide (S11 218 k7 = ms_one (S11 222 t)) && decide (ms_one (S11 222 k7) = nI w)))), pv_i (nI k7), pv_o 327 0] := by
                refine pr_astb (pc := 129) (n := 100) C 227 k7 rfl (by decide) rfl rfl (pl_r5 (by decide)) (pz_b01 _) rfl (by omega) (by decide) dX4_doesOffer_129 ?_
                refine pr_iincN (pc := 130) C dX4_doesOffer_130 rfl k7 1 rfl rfl (by decide) ?_
                refine pr_goto (pc := 133) C 15 dX4_doesOffer_133 (by decide) ?_
                refine pr_lo (lo' := [some (pv_o 5 0), some (pv_i (nI t)), some (pv_i (nI a)), some (pv_i (nI (k7 + 1))), none, none]) (show pa_lle [some (pv_o 5 0), some (pv_i (nI t)), some (pv_i (nI a)), some (pv_i (nI (k7 + 1))), none, none] [some (pv_o 5 0), some (pv_i (nI t)), some (pv_i (nI a)), some (pv_i (nI (k7 + 1))), some (pv_i (pz_b (decide (S11 218 k7 = nI w) && decide (S11 222 k7 = S11 222 t)))), some (pv_i (pz_b (decide (S11 218 k7 = ms_one (S11 222 t)) && decide (ms_one (S11 222 k7) = nI w))))] by simp [pa_lle]) ?_
                exact ih10 (k7 + 1) (pa_us S11 227 k7 (pz_b (decide (S11 227 k7 ≠ 0) && !(decide (S11 218 k7 = nI w) && decide (S11 222 k7 = S11 222 t)) && !(decide (S11 218 k7 = ms_one (S11 222 t)) && decide (ms_one (S11 222 k7) = nI w))))) (by omega) (by omega) (by rw [pz_it_s, ← eS_k7]; simp [-Int32.not_le, -Int32.not_lt, pz_b, pz_lt, ms_ofs, eq_true c_10, c_17]) ⟨hx_k7.1, hx_k7.2⟩
              refine pr_aload_n (pc := 105) C dX4_doesOffer_105 rfl ?_
              refine pr_geta (pc := 106) C 227 327 wf_X4_74 rfl rfl (by decide) (pl_5 _) dX4_doesOffer_106 ?_
              refine pr_iload_n (pc := 109) C dX4_doesOffer_109 rfl ?_
              refine pr_aldb (pc := 110) (n := 100) C 227 k7 rfl rfl rfl (pl_r5 (by decide)) rfl (by omega) (by decide) dX4_doesOffer_110 ?_
              refine pr_if_eq (pc := 111) C 128 dX4_doesOffer_111 (by decide) (fun c_111 => ?_) (fun c_111 => ?_)
              · refine pr_iconst (pc := 128) (v := 0) C dX4_doesOffer_128 (by decide) ?_
                exact pr_eqi (show (0 : Int32) = (pz_b (decide (S11 227 k7 ≠ 0) && !(decide (S11 218 k7 = nI w) && decide (S11 222 k7 = S11 222 t)) && !(decide (S11 218 k7 = ms_one (S11 222 t)) && decide (ms_one (S11 222 k7) = nI w)))) from (by simp [-Int32.not_le, -Int32.not_lt, pz_b, pz_lt, eq_true c_10, c_17, eq_true c_111])) j129_14
              · refine pr_iload (pc := 114) C dX4_doesOffer_114 rfl ?_
                refine pr_ifb_ne (pc := 116) C 128 dX4_doesOffer_116 (by decide) (fun c_116 => ?_) (fun c_116 => ?_)
                · refine pr_iconst (pc := 128) (v := 0) C dX4_doesOffer_128 (by decide) ?_
                  exact pr_eqi (show (0 : Int32) = (pz_b (decide (S11 227 k7 ≠ 0) && !(decide (S11 218 k7 = nI w) && decide (S11 222 k7 = S11 222 t)) && !(decide (S11 218 k7 = ms_one (S11 222 t)) && decide (ms_one (S11 222 k7) = nI w)))) from (by simp [-Int32.not_le, -Int32.not_lt, pz_b, pz_lt, eq_true c_10, c_17, eq_false c_111, c_116])) j129_14
                · refine pr_iload (pc := 119) C dX4_doesOffer_119 rfl ?_
                  refine pr_ifb_ne (pc := 121) C 128 dX4_doesOffer_121 (by decide) (fun c_121 => ?_) (fun c_121 => ?_)
                  · refine pr_iconst (pc := 128) (v := 0) C dX4_doesOffer_128 (by decide) ?_
                    exact pr_eqi (show (0 : Int32) = (pz_b (decide (S11 227 k7 ≠ 0) && !(decide (S11 218 k7 = nI w) && decide (S11 222 k7 = S11 222 t)) && !(decide (S11 218 k7 = ms_one (S11 222 t)) && decide (ms_one (S11 222 k7) = nI w)))) from (by simp [-Int32.not_le, -Int32.not_lt, pz_b, pz_lt, eq_true c_10, c_17, eq_false c_111, c_116, c_121])) j129_14
                  · refine pr_iconst (pc := 124) (v := 1) C dX4_doesOffer_124 (by decide) ?_
                    refine pr_goto (pc := 125) C 129 dX4_doesOffer_125 (by decide) ?_
                    exact pr_eqi (show (1 : Int32) = (pz_b (decide (S11 227 k7 ≠ 0) && !(decide (S11 218 k7 = nI w) && decide (S11 222 k7 = S11 222 t)) && !(decide (S11 218 k7 = ms_one (S11 222 t)) && decide (ms_one (S11 222 k7) = nI w)))) from (by simp [-Int32.not_le, -Int32.not_lt, pz_b, pz_lt, eq_true c_10, c_17, eq_false c_111, c_116, c_121])) j129_14
            refine pr_aload_n (pc := 57) C dX4_doesOffer_57 rfl ?_
            refine pr_geta (pc := 58) C 218 318 wf_X4_47 rfl rfl (by decide) (pl_5 _) dX4_doesOffer_58 ?_
            refine pr_iload_n (pc := 61) C dX4_doesOffer_61 rfl ?_
            refine pr_aldm (pc := 62) (n := 100) C 218 k7 rfl rfl rfl (pl_r5 (by decide)) rfl (by omega) (by decide) dX4_doesOffer_62 ?_
            refine pr_aload_n (pc := 63) C dX4_doesOffer_63 rfl ?_
            refine pr_geta (pc := 64) C 222 322 wf_X4_59 rfl rfl (by decide) (pl_5 _) dX4_doesOffer_64 ?_
            refine pr_iload_n (pc := 67) C dX4_doesOffer_67 rfl ?_
            refine pr_aldm (pc := 68) (n := 100) C 222 t rfl rfl rfl (pl_r5 (by decide)) rfl (by omega) (by decide) dX4_doesOffer_68 ?_
            refine pr_sP (pc := 69) C (c_X4_one G _ (h.1, S11, h.2.2) (S11 222 t)) ws_X4_137 rfl rfl (by decide) (Nat.le_of_ble_eq_true rfl) (by omega) (by omega) dX4_doesOffer_69 ?_
            refine pr_icmp_ne (pc := 72) C 97 dX4_doesOffer_72 (by decide) (fun c_72 => ?_) (fun c_72 => ?_)
            · refine pr_iconst (pc := 97) (v := 0) C dX4_doesOffer_97 (by decide) ?_
              exact pr_eqi (show (0 : Int32) = (pz_b (decide (S11 218 k7 = ms_one (S11 222 t)) && decide (ms_one (S11 222 k7) = nI w))) from (by simp [-Int32.not_le, -Int32.not_lt, pz_b, pz_lt, eq_true c_10, c_17, eq_false c_72])) j98_13
            · refine pr_aload_n (pc := 75) C dX4_doesOffer_75 rfl ?_
              refine pr_geta (pc := 76) C 222 322 wf_X4_59 rfl rfl (by decide) (pl_5 _) dX4_doesOffer_76 ?_
              refine pr_iload_n (pc := 79) C dX4_doesOffer_79 rfl ?_
              refine pr_aldm (pc := 80) (n := 100) C 222 k7 rfl rfl rfl (pl_r5 (by decide)) rfl (by omega) (by decide) dX4_doesOffer_80 ?_
              refine pr_sP (pc := 81) C (c_X4_one G _ (h.1, S11, h.2.2) (S11 222 k7)) ws_X4_137 rfl rfl (by decide) (Nat.le_of_ble_eq_true rfl) (by omega) (by omega) dX4_doesOffer_81 ?_
              refine pr_aload_n (pc := 84) C dX4_doesOffer_84 rfl ?_
              refine pr_geta (pc := 85) C 218 318 wf_X4_47 rfl rfl (by decide) (pl_5 _) dX4_doesOffer_85 ?_
              refine pr_iload_n (pc := 88) C dX4_doesOffer_88 rfl ?_
              refine pr_aldm (pc := 89) (n := 100) C 218 t rfl rfl rfl (pl_r5 (by decide)) rfl (by omega) (by decide) dX4_doesOffer_89 ?_
              refine pr_eqi hx_k7.1 ?_
              refine pr_icmp_ne (pc := 90) C 97 dX4_doesOffer_90 (by decide) (fun c_90 => ?_) (fun c_90 => ?_)
              · refine pr_iconst (pc := 97) (v := 0) C dX4_doesOffer_97 (by decide) ?_
                exact pr_eqi (show (0 : Int32) = (pz_b (decide (S11 218 k7 = ms_one (S11 222 t)) && decide (ms_one (S11 222 k7) = nI w))) from (by simp [-Int32.not_le, -Int32.not_lt, pz_b, pz_lt, eq_true c_10, c_17, eq_true c_72, eq_false c_90])) j98_13
              · refine pr_iconst (pc := 93) (v := 1) C dX4_doesOffer_93 (by decide) ?_
                refine pr_goto (pc := 94) C 98 dX4_doesOffer_94 (by decide) ?_
                exact pr_eqi (show (1 : Int32) = (pz_b (decide (S11 218 k7 = ms_one (S11 222 t)) && decide (ms_one (S11 222 k7) = nI w))) from (by simp [-Int32.not_le, -Int32.not_lt, pz_b, pz_lt, eq_true c_10, c_17, eq_true c_72, eq_true c_90])) j98_13
          refine pr_aload_n (pc := 20) C dX4_doesOffer_20 rfl ?_
          refine pr_geta (pc := 21) C 218 318 wf_X4_47 rfl rfl (by decide) (pl_5 _) dX4_doesOffer_21 ?_
          refine pr_iload_n (pc := 24) C dX4_doesOffer_24 rfl ?_
          refine pr_aldm (pc := 25) (n := 100) C 218 k7 rfl rfl rfl (pl_r5 (by decide)) rfl (by omega) (by decide) dX4_doesOffer_25 ?_
          refine pr_aload_n (pc := 26) C dX4_doesOffer_26 rfl ?_
          refine pr_geta (pc := 27) C 218 318 wf_X4_47 rfl rfl (by decide) (pl_5 _) dX4_doesOffer_27 ?_
          refine pr_iload_n (pc := 30) C dX4_doesOffer_30 rfl ?_
          refine pr_aldm (pc := 31) (n := 100) C 218 t rfl rfl rfl (pl_r5 (by decide)) rfl (by omega) (by decide) dX4_doesOffer_31 ?_
          refine pr_eqi hx_k7.1 ?_
          refine pr_icmp_ne (pc := 32) C 54 dX4_doesOffer_32 (by decide) (fun c_32 => ?_) (fun c_32 => ?_)
          · refine pr_iconst (pc := 54) (v := 0) C dX4_doesOffer_54 (by decide) ?_
            exact pr_eqi (show (0 : Int32) = (pz_b (decide (S11 218 k7 = nI w) && decide (S11 222 k7 = S11 222 t))) from (by simp [-Int32.not_le, -Int32.not_lt, pz_b, pz_lt, eq_true c_10, c_17, eq_false c_32])) j55_12
          · refine pr_aload_n (pc := 35) C dX4_doesOffer_35 rfl ?_
            refine pr_geta (pc := 36) C 222 322 wf_X4_59 rfl rfl (by decide) (pl_5 _) dX4_doesOffer_36 ?_
            refine pr_iload_n (pc := 39) C dX4_doesOffer_39 rfl ?_
            refine pr_aldm (pc := 40) (n := 100) C 222 k7 rfl rfl rfl (pl_r5 (by decide)) rfl (by omega) (by decide) dX4_doesOffer_40 ?_
            refine pr_aload_n (pc := 41) C dX4_doesOffer_41 rfl ?_
            refine pr_geta (pc := 42) C 222 322 wf_X4_59 rfl rfl (by decide) (pl_5 _) dX4_doesOffer_42 ?_
            refine pr_iload_n (pc := 45) C dX4_doesOffer_45 rfl ?_
            refine pr_aldm (pc := 46) (n := 100) C 222 t rfl rfl rfl (pl_r5 (by decide)) rfl (by omega) (by decide) dX4_doesOffer_46 ?_
            refine pr_icmp_ne (pc := 47) C 54 dX4_doesOffer_47 (by decide) (fun c_47 => ?_) (fun c_47 => ?_)
            · refine pr_iconst (pc := 54) (v := 0) C dX4_doesOffer_54 (by decide) ?_
              exact pr_eqi (show (0 : Int32) = (pz_b (decide (S11 218 k7 = nI w) && decide (S11 222 k7 = S11 222 t))) from (by simp [-Int32.not_le, -Int32.not_lt, pz_b, pz_lt, eq_true c_10, c_17, eq_true c_32, eq_false c_47])) j55_12
            · refine pr_iconst (pc := 50) (v := 1) C dX4_doesOffer_50 (by decide) ?_
              refine pr_goto (pc := 51) C 55 dX4_doesOffer_51 (by decide) ?_
              exact pr_eqi (show (1 : Int32) = (pz_b (decide (S11 218 k7 = nI w) && decide (S11 222 k7 = S11 222 t))) from (by simp [-Int32.not_le, -Int32.not_lt, pz_b, pz_lt, eq_true c_10, c_17, eq_true c_32, eq_true c_47])) j55_12
    exact lp8 (t + 1) 0 _ (by omega) (by omega) rfl ⟨hw, rfl⟩

