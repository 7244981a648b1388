/-! THE LAW'S BLOCKS: each call, of the class and of the reference -/
theorem wl_141 : pa_csw RL 141 mL_stand hL_stand 4 := ⟨pa_wi (by decide +kernel) rfl, pa_wi (by decide +kernel) rfl, pa_wi (by decide +kernel) rfl, pa_wi (by decide +kernel) rfl, by decide, by decide +kernel, by decide⟩
theorem wl_144 : pa_csw RL 144 mL_standBy hL_standBy 4 := ⟨pa_wi (by decide +kernel) rfl, pa_wi (by decide +kernel) rfl, pa_wi (by decide +kernel) rfl, pa_wi (by decide +kernel) rfl, by decide, by decide +kernel, by decide⟩
theorem wl_147 : pa_csw RL 147 mL_standAnew hL_standAnew 4 := ⟨pa_wi (by decide +kernel) rfl, pa_wi (by decide +kernel) rfl, pa_wi (by decide +kernel) rfl, pa_wi (by decide +kernel) rfl, by decide, by decide +kernel, by decide⟩
theorem wl_150 : pa_csw RL 150 mL_hint hL_hint 4 := ⟨pa_wi (by decide +kernel) rfl, pa_wi (by decide +kernel) rfl, pa_wi (by decide +kernel) rfl, pa_wi (by decide +kernel) rfl, by decide, by decide +kernel, by decide⟩
theorem wl_153 : pa_csw RL 153 mL_isSupported hL_isSupported 4 := ⟨pa_wi (by decide +kernel) rfl, pa_wi (by decide +kernel) rfl, pa_wi (by decide +kernel) rfl, pa_wi (by decide +kernel) rfl, by decide, by decide +kernel, by decide⟩
theorem wl_156 : pa_csw RL 156 mL_lies hL_lies 3 := ⟨pa_wi (by decide +kernel) rfl, pa_wi (by decide +kernel) rfl, pa_wi (by decide +kernel) rfl, pa_wi (by decide +kernel) rfl, by decide, by decide +kernel, by decide⟩
theorem wl_173 : pa_csw RL 173 mL_owner hL_owner 3 := ⟨pa_wi (by decide +kernel) rfl, pa_wi (by decide +kernel) rfl, pa_wi (by decide +kernel) rfl, pa_wi (by decide +kernel) rfl, by decide, by decide +kernel, by decide⟩
abbrev lw_lo (i : Nat) : List (Option pa_V) := [some (pv_o 10 0), some (pv_o 4 0), some (pv_o 5 0), some (pv_o 9 0), some (pv_i (nI i)), none, none]
theorem lw_lo_ok {N : Nat → Nat} {i : Nat} : ∀ (j : Nat) (v : pa_V), (lw_lo i)[j]? = some (some v) → pa_ok N v ∨ v = pv_o 10 0 := fun j v hv => by
  match j, hv with
  | 0, hv => cases hv; exact Or.inr rfl
  | 1, hv => cases hv; exact Or.inl ⟨lr_kn (by decide), pl_4 _⟩
  | 2, hv => cases hv; exact Or.inl ⟨lr_kn (by decide), pl_5 _⟩
  | 3, hv => cases hv; exact Or.inl ⟨lr_kn (by decide), pa_lv9⟩
  | 4, hv => cases hv; exact Or.inl trivial
  | 5, hv => cases hv
  | 6, hv => cases hv
theorem lw_cmp0 (u : Int64) : lg_cmp u u = 0 := by
  unfold lg_cmp
  rw [if_neg (by simp), if_pos rfl]
theorem lw_ticks_235 {T m : Nat} {S : Nat → Nat → Int32} : ms_ticks T m S 235 0 = S 235 0 := by
  refine pz_it_inv (f := ms_tick1 T) (I := fun S' => S' 235 0 = S 235 0) (fun s k h => ?_) m S rfl
  rw [← h]
  unfold ms_tick1
  rw [ms_sil_ne (by decide) (by decide) (by decide), ms_opn_ne (by decide), ms_hard_ne (by decide) (by decide) (by decide) (by decide), ms_comes_ne (by decide) (by decide)]
  unfold ms_clk
  rw [pa_us_ne (by decide)]
  have e1 : ∀ s : Nat → Nat → Int32, ms_floor s 235 0 = s 235 0 := fun s => by
    unfold ms_floor
    split
    · rw [ms_lose_ne (by decide) (by decide)]
    · rw [ms_carry_ne (by decide), ms_lose_ne (by decide) (by decide)]
  rw [e1]
  exact pz_it_inv (f := ms_ack) (I := fun S' => S' 235 0 = s 235 0) (fun s9 k h => by
    unfold ms_ack
    split
    · rw [pa_us_ne (by decide), ms_carry_ne (by decide)]; exact h
    · exact h) 4 s rfl
set_option maxRecDepth 100000 in
set_option maxHeartbeats 4000000 in
theorem lb_stand {G : pa_G} {x : pa_X} {scr L mc ms i a b : Nat} {xs : Nat → Int32} {K : Nat → Nat → Nat → Int32} {N : Nat → Nat} {T : Nat} {z : sj_Z} {S : Nat → Nat → Int32} {c : Nat} {O : Nat → Int64} (hl9 : x.2.1.stackTraces = false) (C : pa_C G x cL_law 7 RL 17 mc ms) (X : lw_X G x scr L xs) (hL : L ≤ 3584) (hi : i + 7 ≤ L) (h : lw_R K N T z S c) (hc : c + 22 < 30000) (ha : a + 2000 ≤ mc) (hb : b + 900000 ≤ ms)
    (kk : ∀ (K' : Nat → Nat → Nat → Int32) (N' : Nat → Nat) (O' : Nat → Int64) (T' : Nat) (z' : sj_Z) (S' : Nat → Nat → Int32) (c' a' b' : Nat), lw_R K' N' T' z' S' c' → c' ≤ c + 20 → sj_ph S T ≤ sj_ph S' T' → a' ≤ a + 2 * (sj_ph S' T' - sj_ph S T) + 4 → b' ≤ b + 1520 * (sj_ph S' T' - sj_ph S T) + 1600 → lw_w G x scr 7 (K', S', N', O') a' b' 1718 (lw_lo i) []) : lw_w G x scr 7 (K, S, N, O) a b 1071 (lw_lo i) [] := by
  have hM := h.2.1.1
  have hJ := h.2.1.2.1
  have hT := hM.1.1
  have h217 : S 217 0 = nI T := hM.1.2.1
  have h0 := lw_R_235 (v := 0) h
  obtain ⟨A1, eA1⟩ : ∃ v, v = xs (i + 1) := ⟨_, rfl⟩
  obtain ⟨A2, eA2⟩ : ∃ v, v = xs (i + 2) := ⟨_, rfl⟩
  rcases h1 : ms_in A1 0 3 with _ | _
  · -- badly told
    refine lw_of fun ad hs => ?_
    have Cx : pa_C G (lw_at x (K, S, N, O) ad) cL_law 7 RL 17 mc ms := lw_C C
    refine pr_aload_n (pc := 1071) Cx dL_law_1071 rfl ?_
    refine pr_arg (pc := 1072) Cx X hs (by omega) 1 (by decide) (by omega) rfl rfl dL_law_1072 dL_law_1073 dL_law_1075 dL_law_1076 dL_law_1077 ?_
    refine pr_eqi (v := A1) eA1.symm ?_
    refine pr_arg (pc := 1078) Cx X hs (by omega) 2 (by decide) (by omega) rfl rfl dL_law_1078 dL_law_1079 dL_law_1081 dL_law_1082 dL_law_1083 ?_
    refine pr_eqi (v := A2) eA2.symm ?_
    refine pr_aload_n (pc := 1084) Cx dL_law_1084 rfl ?_
    refine pr_callL (pc := 1085) (As := [pv_o 4 0, pv_i A1, pv_i A2, pv_o 9 0]) C hs (l_standX1 (al' := false) G _ K S N O A1 A2 (c_X3_standX1 G _ K S S N O T T 0 z hl9 h.1 A1 A2 h1)) (fun r h9 hp9 => ⟨_, hp9.1⟩) wl_141 rfl rfl (Nat.le_of_ble_eq_true rfl) (by omega) (by omega) lw_lo_ok dL_law_1085 (fun k9 h9 hp9 => ?_)
    obtain ⟨ek, rfl⟩ := hp9
    obtain rfl : k9 = 1 := by cases ek; rfl
    refine lw_of fun ad hs => ?_
    have Cx : pa_C G (lw_at x (K, S, N, O) ad) cL_law 7 RL 17 mc ms := lw_C C
    refine pr_istore (pc := 1088) Cx dL_law_1088 (by decide) ?_
    refine pr_aload_n (pc := 1090) Cx dL_law_1090 rfl ?_
    refine pr_arg (pc := 1091) Cx X hs (by omega) 1 (by decide) (by omega) rfl rfl dL_law_1091 dL_law_1092 dL_law_1094 dL_law_1095 dL_law_1096 ?_
    refine pr_eqi (v := A1) eA1.symm ?_
    refine pr_arg (pc := 1097) Cx X hs (by omega) 2 (by decide) (by omega) rfl rfl dL_law_1097 dL_law_1098 dL_law_1100 dL_law_1101 dL_law_1102 ?_
    refine pr_eqi (v := A2) eA2.symm ?_
    refine pr_vR (pc := 1103) Cx (c_X4_standN G _ (K, S, N, O) A1 A2 (by simp [h217, sc_kn, h1])) wv_L_143 rfl rfl (Nat.le_of_ble_eq_true rfl) (by decide) (pl_5 _) (Nat.le_of_ble_eq_true rfl) (by omega) (by omega) dL_law_1103 ?_
    refine pr_istore (pc := 1106) Cx dL_law_1106 (by decide) ?_
    refine pr_aload_n (pc := 1108) Cx dL_law_1108 rfl ?_
    refine pr_vP (pc := 1109) Cx (c_X4_thrown G _ _) wv_L_89 rfl rfl (Nat.le_of_ble_eq_true rfl) (by decide) (pl_5 _) (Nat.le_of_ble_eq_true rfl) (by omega) (by omega) dL_law_1109 ?_
    refine pr_eqi (v := 1) (by simp [ms_thr, pa_us_self, h217, sc_kn, h1]) ?_
    refine pr_iload (pc := 1112) Cx dL_law_1112 rfl ?_
    refine pr_icmp_eq (pc := 1114) Cx 1119 dL_law_1114 (by decide) (fun _ => ?_) (fun q => absurd rfl q)
    refine pr_iload (pc := 1119) Cx dL_law_1119 rfl ?_
    refine pr_if_ne (pc := 1121) Cx 1136 dL_law_1121 (by decide) (fun _ => ?_) (fun q => absurd q (by decide))
    refine pr_goto (pc := 1136) Cx 1718 dL_law_1136 (by decide) ?_
    refine pr_lo (lo' := lw_lo i) (by simp [pa_lle]) ?_
    exact lw_to hs (kk K N _ T z _ c _ _ (lw_R_235 h) (by omega) (Nat.le_of_eq (sj_ph_us (by decide)).symm) (by omega) (by omega))
  · skip
    obtain ⟨s1, hs1, es1⟩ := sc_nn2 (k := 3) (by decide) h1
    subst es1
    rcases h2 : ms_in A2 0 9 with _ | _
    · -- badly told
      refine lw_of fun ad hs => ?_
      have Cx : pa_C G (lw_at x (K, S, N, O) ad) cL_law 7 RL 17 mc ms := lw_C C
      refine pr_aload_n (pc := 1071) Cx dL_law_1071 rfl ?_
      refine pr_arg (pc := 1072) Cx X hs (by omega) 1 (by decide) (by omega) rfl rfl dL_law_1072 dL_law_1073 dL_law_1075 dL_law_1076 dL_law_1077 ?_
      refine pr_eqi (v := (nI s1)) eA1.symm ?_
      refine pr_arg (pc := 1078) Cx X hs (by omega) 2 (by decide) (by omega) rfl rfl dL_law_1078 dL_law_1079 dL_law_1081 dL_law_1082 dL_law_1083 ?_
      refine pr_eqi (v := A2) eA2.symm ?_
      refine pr_aload_n (pc := 1084) Cx dL_law_1084 rfl ?_
      refine pr_callL (pc := 1085) (As := [pv_o 4 0, pv_i (nI s1), pv_i A2, pv_o 9 0]) C hs (l_standX1 (al' := false) G _ K S N O (nI s1) A2 (c_X3_standX2 G _ K S S N O T T 0 z hl9 h.1 s1 A2 (by omega) h2)) (fun r h9 hp9 => ⟨_, hp9.1⟩) wl_141 rfl rfl (Nat.le_of_ble_eq_true rfl) (by omega) (by omega) lw_lo_ok dL_law_1085 (fun k9 h9 hp9 => ?_)
      obtain ⟨ek, rfl⟩ := hp9
      obtain rfl : k9 = 1 := by cases ek; rfl
      refine lw_of fun ad hs => ?_
      have Cx : pa_C G (lw_at x (K, S, N, O) ad) cL_law 7 RL 17 mc ms := lw_C C
      refine pr_istore (pc := 1088) Cx dL_law_1088 (by decide) ?_
      refine pr_aload_n (pc := 1090) Cx dL_law_1090 rfl ?_
      refine pr_arg (pc := 1091) Cx X hs (by omega) 1 (by decide) (by omega) rfl rfl dL_law_1091 dL_law_1092 dL_law_1094 dL_law_1095 dL_law_1096 ?_
      refine pr_eqi (v := (nI s1)) eA1.symm ?_
      refine pr_arg (pc := 1097) Cx X hs (by omega) 2 (by decide) (by omega) rfl rfl dL_law_1097 dL_law_1098 dL_law_1100 dL_law_1101 dL_law_1102 ?_
      refine pr_eqi (v := A2) eA2.symm ?_
      refine pr_vR (pc := 1103) Cx (c_X4_standN G _ (K, S, N, O) (nI s1) A2 (by simp [h217, sc_kn, h1, h2])) wv_L_143 rfl rfl (Nat.le_of_ble_eq_true rfl) (by decide) (pl_5 _) (Nat.le_of_ble_eq_true rfl) (by omega) (by omega) dL_law_1103 ?_
      refine pr_istore (pc := 1106) Cx dL_law_1106 (by decide) ?_
      refine pr_aload_n (pc := 1108) Cx dL_law_1108 rfl ?_
      refine pr_vP (pc := 1109) Cx (c_X4_thrown G _ _) wv_L_89 rfl rfl (Nat.le_of_ble_eq_true rfl) (by decide) (pl_5 _) (Nat.le_of_ble_eq_true rfl) (by omega) (by omega) dL_law_1109 ?_
      refine pr_eqi (v := 1) (by simp [ms_thr, pa_us_self, h217, sc_kn, h1, h2]) ?_
      refine pr_iload (pc := 1112) Cx dL_law_1112 rfl ?_
      refine pr_icmp_eq (pc := 1114) Cx 1119 dL_law_1114 (by decide) (fun _ => ?_) (fun q => absurd rfl q)
      refine pr_iload (pc := 1119) Cx dL_law_1119 rfl ?_
      refine pr_if_ne (pc := 1121) Cx 1136 dL_law_1121 (by decide) (fun _ => ?_) (fun q => absurd q (by decide))
      refine pr_goto (pc := 1136) Cx 1718 dL_law_1136 (by decide) ?_
      refine pr_lo (lo' := lw_lo i) (by simp [pa_lle]) ?_
      exact lw_to hs (kk K N _ T z _ c _ _ (lw_R_235 h) (by omega) (Nat.le_of_eq (sj_ph_us (by decide)).symm) (by omega) (by omega))
    · skip
      obtain ⟨s2, hs2, es2⟩ := sc_nn2 (k := 9) (by decide) h2
      subst es2
      refine lw_of fun ad hs => ?_
      have Cx : pa_C G (lw_at x (K, S, N, O) ad) cL_law 7 RL 17 mc ms := lw_C C
      refine pr_aload_n (pc := 1071) Cx dL_law_1071 rfl ?_
      refine pr_arg (pc := 1072) Cx X hs (by omega) 1 (by decide) (by omega) rfl rfl dL_law_1072 dL_law_1073 dL_law_1075 dL_law_1076 dL_law_1077 ?_
      refine pr_eqi (v := (nI s1)) eA1.symm ?_
      refine pr_arg (pc := 1078) Cx X hs (by omega) 2 (by decide) (by omega) rfl rfl dL_law_1078 dL_law_1079 dL_law_1081 dL_law_1082 dL_law_1083 ?_
      refine pr_eqi (v := (nI s2)) eA2.symm ?_
      refine pr_aload_n (pc := 1084) Cx dL_law_1084 rfl ?_
      refine pr_callL (pc := 1085) (As := [pv_o 4 0, pv_i (nI s1), pv_i (nI s2), pv_o 9 0]) C hs (l_standY G _ K S N O (nI s1) (nI s2) (P := fun v K' N' => v = S 208 (10 * s1 + s2) ∧ lw_R K' N' T z (pa_us S 235 0 0) c) (c_X3_standY G _ K S S N O T T 0 z h.1 s1 s2 (by omega) (by omega)) (fun r h9 hp => ⟨_, K, N, hp.1, hp.2, rfl, h0⟩)) (fun r h9 hp9 => ⟨_, hp9.1⟩) wl_141 rfl rfl (Nat.le_of_ble_eq_true rfl) (by omega) (by omega) lw_lo_ok dL_law_1085 (fun k9 h9 hp9 => ?_)
      obtain ⟨ek, v9, K', N', rfl, rfl, hR⟩ := hp9
      obtain rfl : k9 = 0 := by cases ek; rfl
      refine lw_of fun ad hs => ?_
      have Cx : pa_C G (lw_at x (K', S, N', (pa_uo O (S 208 (10 * s1 + s2)).toInt64)) ad) cL_law 7 RL 17 mc ms := lw_C C
      refine pr_istore (pc := 1088) Cx dL_law_1088 (by decide) ?_
      refine pr_aload_n (pc := 1090) Cx dL_law_1090 rfl ?_
      refine pr_arg (pc := 1091) Cx X hs (by omega) 1 (by decide) (by omega) rfl rfl dL_law_1091 dL_law_1092 dL_law_1094 dL_law_1095 dL_law_1096 ?_
      refine pr_eqi (v := (nI s1)) eA1.symm ?_
      refine pr_arg (pc := 1097) Cx X hs (by omega) 2 (by decide) (by omega) rfl rfl dL_law_1097 dL_law_1098 dL_law_1100 dL_law_1101 dL_law_1102 ?_
      refine pr_eqi (v := (nI s2)) eA2.symm ?_
      refine pr_vR (pc := 1103) Cx (c_X4_standY G _ (K', S, N', (pa_uo O (S 208 (10 * s1 + s2)).toInt64)) s1 s2 (by omega) (by omega)) wv_L_143 rfl rfl (Nat.le_of_ble_eq_true rfl) (by decide) (pl_5 _) (Nat.le_of_ble_eq_true rfl) (by omega) (by omega) dL_law_1103 ?_
      refine pr_istore (pc := 1106) Cx dL_law_1106 (by decide) ?_
      refine pr_aload_n (pc := 1108) Cx dL_law_1108 rfl ?_
      refine pr_vP (pc := 1109) Cx (c_X4_thrown G _ _) wv_L_89 rfl rfl (Nat.le_of_ble_eq_true rfl) (by decide) (pl_5 _) (Nat.le_of_ble_eq_true rfl) (by omega) (by omega) dL_law_1109 ?_
      refine pr_eqi (v := 0) (by show pa_us S 235 0 0 235 0 = 0; exact pa_us_self _ _ _ _) ?_
      refine pr_iload (pc := 1112) Cx dL_law_1112 rfl ?_
      refine pr_icmp_eq (pc := 1114) Cx 1119 dL_law_1114 (by decide) (fun _ => ?_) (fun q => absurd rfl q)
      refine pr_iload (pc := 1119) Cx dL_law_1119 rfl ?_
      refine pr_if_ne (pc := 1121) Cx 1136 dL_law_1121 (by decide) (fun q => absurd rfl q) (fun _ => ?_)
      refine pr_aload_n (pc := 1124) Cx dL_law_1124 rfl ?_
      refine pr_iconst (pc := 1125) (v := 0) Cx dL_law_1125 (by decide) ?_
      refine pr_lald9 (pc := 1126) Cx rfl dL_law_1126 ?_
      refine pr_iload (pc := 1127) Cx dL_law_1127 rfl ?_
      refine pr_i2l (pc := 1129) Cx dL_law_1129 ?_
      refine pr_lcmp (pc := 1130) Cx dL_law_1130 ?_
      refine pr_if_eq (pc := 1131) Cx 1136 dL_law_1131 (by decide) (fun _ => ?_) (fun q => absurd (lw_cmp0 _) q)
      refine pr_goto (pc := 1136) Cx 1718 dL_law_1136 (by decide) ?_
      refine pr_lo (lo' := lw_lo i) (by simp [pa_lle]) ?_
      exact lw_to hs (kk K' N' _ T z (pa_us S 235 0 0) c _ _ hR (by omega) (Nat.le_of_eq (sj_ph_us (by decide)).symm) (by omega) (by omega))
set_option maxRecDepth 100000 in
set_option maxHeartbeats 4000000 in
theorem lb_standBy {G : pa_G} {x : pa_X} {scr L mc ms i a b : Nat} {xs : Nat → Int32} {K : Nat → Nat → Nat → Int32} {N : Nat → Nat} {T : Nat} {z : sj_Z} {S : Nat → Nat → Int32} {c : Nat} {O : Nat → Int64} (hl9 : x.2.1.stackTraces = false) (C : pa_C G x cL_law 7 RL 17 mc ms) (X : lw_X G x scr L xs) (hL : L ≤ 3584) (hi : i + 7 ≤ L) (h : lw_R K N T z S c) (hc : c + 22 < 30000) (ha : a + 2000 ≤ mc) (hb : b + 900000 ≤ ms)
    (kk : ∀ (K' : Nat → Nat → Nat → Int32) (N' : Nat → Nat) (O' : Nat → Int64) (T' : Nat) (z' : sj_Z) (S' : Nat → Nat → Int32) (c' a' b' : Nat), lw_R K' N' T' z' S' c' → c' ≤ c + 20 → sj_ph S T ≤ sj_ph S' T' → a' ≤ a + 2 * (sj_ph S' T' - sj_ph S T) + 4 → b' ≤ b + 1520 * (sj_ph S' T' - sj_ph S T) + 1600 → lw_w G x scr 7 (K', S', N', O') a' b' 1718 (lw_lo i) []) : lw_w G x scr 7 (K, S, N, O) a b 1139 (lw_lo i) [] := by
  have hM := h.2.1.1
  have hJ := h.2.1.2.1
  have hT := hM.1.1
  have h217 : S 217 0 = nI T := hM.1.2.1
  have h0 := lw_R_235 (v := 0) h
  obtain ⟨A1, eA1⟩ : ∃ v, v = xs (i + 1) := ⟨_, rfl⟩
  obtain ⟨A2, eA2⟩ : ∃ v, v = xs (i + 2) := ⟨_, rfl⟩
  rcases h1 : ms_in A1 0 3 with _ | _
  · -- badly told
    refine lw_of fun ad hs => ?_
    have Cx : pa_C G (lw_at x (K, S, N, O) ad) cL_law 7 RL 17 mc ms := lw_C C
    refine pr_aload_n (pc := 1139) Cx dL_law_1139 rfl ?_
    refine pr_arg (pc := 1140) Cx X hs (by omega) 1 (by decide) (by omega) rfl rfl dL_law_1140 dL_law_1141 dL_law_1143 dL_law_1144 dL_law_1145 ?_
    refine pr_eqi (v := A1) eA1.symm ?_
    refine pr_arg (pc := 1146) Cx X hs (by omega) 2 (by decide) (by omega) rfl rfl dL_law_1146 dL_law_1147 dL_law_1149 dL_law_1150 dL_law_1151 ?_
    refine pr_eqi (v := A2) eA2.symm ?_
    refine pr_aload_n (pc := 1152) Cx dL_law_1152 rfl ?_
    refine pr_callL (pc := 1153) (As := [pv_o 4 0, pv_i A1, pv_i A2, pv_o 9 0]) C hs (l_standByX1 (al' := false) G _ K S N O A1 A2 (c_X3_standByX1 G _ K S S N O T T 0 z hl9 h.1 A1 A2 h1)) (fun r h9 hp9 => ⟨_, hp9.1⟩) wl_144 rfl rfl (Nat.le_of_ble_eq_true rfl) (by omega) (by omega) lw_lo_ok dL_law_1153 (fun k9 h9 hp9 => ?_)
    obtain ⟨ek, rfl⟩ := hp9
    obtain rfl : k9 = 1 := by cases ek; rfl
    refine lw_of fun ad hs => ?_
    have Cx : pa_C G (lw_at x (K, S, N, O) ad) cL_law 7 RL 17 mc ms := lw_C C
    refine pr_istore (pc := 1156) Cx dL_law_1156 (by decide) ?_
    refine pr_aload_n (pc := 1158) Cx dL_law_1158 rfl ?_
    refine pr_arg (pc := 1159) Cx X hs (by omega) 1 (by decide) (by omega) rfl rfl dL_law_1159 dL_law_1160 dL_law_1162 dL_law_1163 dL_law_1164 ?_
    refine pr_eqi (v := A1) eA1.symm ?_
    refine pr_arg (pc := 1165) Cx X hs (by omega) 2 (by decide) (by omega) rfl rfl dL_law_1165 dL_law_1166 dL_law_1168 dL_law_1169 dL_law_1170 ?_
    refine pr_eqi (v := A2) eA2.symm ?_
    refine pr_vR (pc := 1171) Cx (c_X4_standByN G _ (K, S, N, O) A1 A2 (by simp [h217, sc_kn, h1])) wv_L_146 rfl rfl (Nat.le_of_ble_eq_true rfl) (by decide) (pl_5 _) (Nat.le_of_ble_eq_true rfl) (by omega) (by omega) dL_law_1171 ?_
    refine pr_istore (pc := 1174) Cx dL_law_1174 (by decide) ?_
    refine pr_aload_n (pc := 1176) Cx dL_law_1176 rfl ?_
    refine pr_vP (pc := 1177) Cx (c_X4_thrown G _ _) wv_L_89 rfl rfl (Nat.le_of_ble_eq_true rfl) (by decide) (pl_5 _) (Nat.le_of_ble_eq_true rfl) (by omega) (by omega) dL_law_1177 ?_
    refine pr_eqi (v := 1) (by simp [ms_thr, pa_us_self, h217, sc_kn, h1]) ?_
    refine pr_iload (pc := 1180) Cx dL_law_1180 rfl ?_
    refine pr_icmp_eq (pc := 1182) Cx 1187 dL_law_1182 (by decide) (fun _ => ?_) (fun q => absurd rfl q)
    refine pr_iload (pc := 1187) Cx dL_law_1187 rfl ?_
    refine pr_if_ne (pc := 1189) Cx 1204 dL_law_1189 (by decide) (fun _ => ?_) (fun q => absurd q (by decide))
    refine pr_goto (pc := 1204) Cx 1718 dL_law_1204 (by decide) ?_
    refine pr_lo (lo' := lw_lo i) (by simp [pa_lle]) ?_
    exact lw_to hs (kk K N _ T z _ c _ _ (lw_R_235 h) (by omega) (Nat.le_of_eq (sj_ph_us (by decide)).symm) (by omega) (by omega))
  · skip
    obtain ⟨s1, hs1, es1⟩ := sc_nn2 (k := 3) (by decide) h1
    subst es1
    rcases h2 : ms_in A2 0 9 with _ | _
    · -- badly told
      refine lw_of fun ad hs => ?_
      have Cx : pa_C G (lw_at x (K, S, N, O) ad) cL_law 7 RL 17 mc ms := lw_C C
      refine pr_aload_n (pc := 1139) Cx dL_law_1139 rfl ?_
      refine pr_arg (pc := 1140) Cx X hs (by omega) 1 (by decide) (by omega) rfl rfl dL_law_1140 dL_law_1141 dL_law_1143 dL_law_1144 dL_law_1145 ?_
      refine pr_eqi (v := (nI s1)) eA1.symm ?_
      refine pr_arg (pc := 1146) Cx X hs (by omega) 2 (by decide) (by omega) rfl rfl dL_law_1146 dL_law_1147 dL_law_1149 dL_law_1150 dL_law_1151 ?_
      refine pr_eqi (v := A2) eA2.symm ?_
      refine pr_aload_n (pc := 1152) Cx dL_law_1152 rfl ?_
      refine pr_callL (pc := 1153) (As := [pv_o 4 0, pv_i (nI s1), pv_i A2, pv_o 9 0]) C hs (l_standByX1 (al' := false) G _ K S N O (nI s1) A2 (c_X3_standByX2 G _ K S S N O T T 0 z hl9 h.1 s1 A2 (by omega) h2)) (fun r h9 hp9 => ⟨_, hp9.1⟩) wl_144 rfl rfl (Nat.le_of_ble_eq_true rfl) (by omega) (by omega) lw_lo_ok dL_law_1153 (fun k9 h9 hp9 => ?_)
      obtain ⟨ek, rfl⟩ := hp9
      obtain rfl : k9 = 1 := by cases ek; rfl
      refine lw_of fun ad hs => ?_
      have Cx : pa_C G (lw_at x (K, S, N, O) ad) cL_law 7 RL 17 mc ms := lw_C C
      refine pr_istore (pc := 1156) Cx dL_law_1156 (by decide) ?_
      refine pr_aload_n (pc := 1158) Cx dL_law_1158 rfl ?_
      refine pr_arg (pc := 1159) Cx X hs (by omega) 1 (by decide) (by omega) rfl rfl dL_law_1159 dL_law_1160 dL_law_1162 dL_law_1163 dL_law_1164 ?_
      refine pr_eqi (v := (nI s1)) eA1.symm ?_
      refine pr_arg (pc := 1165) Cx X hs (by omega) 2 (by decide) (by omega) rfl rfl dL_law_1165 dL_law_1166 dL_law_1168 dL_law_1169 dL_law_1170 ?_
      refine pr_eqi (v := A2) eA2.symm ?_
      refine pr_vR (pc := 1171) Cx (c_X4_standByN G _ (K, S, N, O) (nI s1) A2 (by simp [h217, sc_kn, h1, h2])) wv_L_146 rfl rfl (Nat.le_of_ble_eq_true rfl) (by decide) (pl_5 _) (Nat.le_of_ble_eq_true rfl) (by omega) (by omega) dL_law_1171 ?_
      refine pr_istore (pc := 1174) Cx dL_law_1174 (by decide) ?_
      refine pr_aload_n (pc := 1176) Cx dL_law_1176 rfl ?_
      refine pr_vP (pc := 1177) Cx (c_X4_thrown G _ _) wv_L_89 rfl rfl (Nat.le_of_ble_eq_true rfl) (by decide) (pl_5 _) (Nat.le_of_ble_eq_true rfl) (by omega) (by omega) dL_law_1177 ?_
      refine pr_eqi (v := 1) (by simp [ms_thr, pa_us_self, h217, sc_kn, h1, h2]) ?_
      refine pr_iload (pc := 1180) Cx dL_law_1180 rfl ?_
      refine pr_icmp_eq (pc := 1182) Cx 1187 dL_law_1182 (by decide) (fun _ => ?_) (fun q => absurd rfl q)
      refine pr_iload (pc := 1187) Cx dL_law_1187 rfl ?_
      refine pr_if_ne (pc := 1189) Cx 1204 dL_law_1189 (by decide) (fun _ => ?_) (fun q => absurd q (by decide))
      refine pr_goto (pc := 1204) Cx 1718 dL_law_1204 (by decide) ?_
      refine pr_lo (lo' := lw_lo i) (by simp [pa_lle]) ?_
      exact lw_to hs (kk K N _ T z _ c _ _ (lw_R_235 h) (by omega) (Nat.le_of_eq (sj_ph_us (by decide)).symm) (by omega) (by omega))
    · skip
      obtain ⟨s2, hs2, es2⟩ := sc_nn2 (k := 9) (by decide) h2
      subst es2
      refine lw_of fun ad hs => ?_
      have Cx : pa_C G (lw_at x (K, S, N, O) ad) cL_law 7 RL 17 mc ms := lw_C C
      refine pr_aload_n (pc := 1139) Cx dL_law_1139 rfl ?_
      refine pr_arg (pc := 1140) Cx X hs (by omega) 1 (by decide) (by omega) rfl rfl dL_law_1140 dL_law_1141 dL_law_1143 dL_law_1144 dL_law_1145 ?_
      refine pr_eqi (v := (nI s1)) eA1.symm ?_
      refine pr_arg (pc := 1146) Cx X hs (by omega) 2 (by decide) (by omega) rfl rfl dL_law_1146 dL_law_1147 dL_law_1149 dL_law_1150 dL_law_1151 ?_
      refine pr_eqi (v := (nI s2)) eA2.symm ?_
      refine pr_aload_n (pc := 1152) Cx dL_law_1152 rfl ?_
      refine pr_callL (pc := 1153) (As := [pv_o 4 0, pv_i (nI s1), pv_i (nI s2), pv_o 9 0]) C hs (l_standByY G _ K S N O (nI s1) (nI s2) (P := fun v K' N' => v = S 209 (10 * s1 + s2) ∧ lw_R K' N' T z (pa_us S 235 0 0) c) (c_X3_standByY G _ K S S N O T T 0 z h.1 s1 s2 (by omega) (by omega) hM hJ) (fun r h9 hp => ⟨_, K, N, hp.1, hp.2, rfl, h0⟩)) (fun r h9 hp9 => ⟨_, hp9.1⟩) wl_144 rfl rfl (Nat.le_of_ble_eq_true rfl) (by omega) (by omega) lw_lo_ok dL_law_1153 (fun k9 h9 hp9 => ?_)
      obtain ⟨ek, v9, K', N', rfl, rfl, hR⟩ := hp9
      obtain rfl : k9 = 0 := by cases ek; rfl
      refine lw_of fun ad hs => ?_
      have Cx : pa_C G (lw_at x (K', S, N', (pa_uo O (S 209 (10 * s1 + s2)).toInt64)) ad) cL_law 7 RL 17 mc ms := lw_C C
      refine pr_istore (pc := 1156) Cx dL_law_1156 (by decide) ?_
      refine pr_aload_n (pc := 1158) Cx dL_law_1158 rfl ?_
      refine pr_arg (pc := 1159) Cx X hs (by omega) 1 (by decide) (by omega) rfl rfl dL_law_1159 dL_law_1160 dL_law_1162 dL_law_1163 dL_law_1164 ?_
      refine pr_eqi (v := (nI s1)) eA1.symm ?_
      refine pr_arg (pc := 1165) Cx X hs (by omega) 2 (by decide) (by omega) rfl rfl dL_law_1165 dL_law_1166 dL_law_1168 dL_law_1169 dL_law_1170 ?_
      refine pr_eqi (v := (nI s2)) eA2.symm ?_
      refine pr_vR (pc := 1171) Cx (c_X4_standByY G _ (K', S, N', (pa_uo O (S 209 (10 * s1 + s2)).toInt64)) s1 s2 (by omega) (by omega)) wv_L_146 rfl rfl (Nat.le_of_ble_eq_true rfl) (by decide) (pl_5 _) (Nat.le_of_ble_eq_true rfl) (by omega) (by omega) dL_law_1171 ?_
      refine pr_istore (pc := 1174) Cx dL_law_1174 (by decide) ?_
      refine pr_aload_n (pc := 1176) Cx dL_law_1176 rfl ?_
      refine pr_vP (pc := 1177) Cx (c_X4_thrown G _ _) wv_L_89 rfl rfl (Nat.le_of_ble_eq_true rfl) (by decide) (pl_5 _) (Nat.le_of_ble_eq_true rfl) (by omega) (by omega) dL_law_1177 ?_
      refine pr_eqi (v := 0) (by show pa_us S 235 0 0 235 0 = 0; exact pa_us_self _ _ _ _) ?_
      refine pr_iload (pc := 1180) Cx dL_law_1180 rfl ?_
      refine pr_icmp_eq (pc := 1182) Cx 1187 dL_law_1182 (by decide) (fun _ => ?_) (fun q => absurd rfl q)
      refine pr_iload (pc := 1187) Cx dL_law_1187 rfl ?_
      refine pr_if_ne (pc := 1189) Cx 1204 dL_law_1189 (by decide) (fun q => absurd rfl q) (fun _ => ?_)
      refine pr_aload_n (pc := 1192) Cx dL_law_1192 rfl ?_
      refine pr_iconst (pc := 1193) (v := 0) Cx dL_law_1193 (by decide) ?_
      refine pr_lald9 (pc := 1194) Cx rfl dL_law_1194 ?_
      refine pr_iload (pc := 1195) Cx dL_law_1195 rfl ?_
      refine pr_i2l (pc := 1197) Cx dL_law_1197 ?_
      refine pr_lcmp (pc := 1198) Cx dL_law_1198 ?_
      refine pr_if_eq (pc := 1199) Cx 1204 dL_law_1199 (by decide) (fun _ => ?_) (fun q => absurd (lw_cmp0 _) q)
      refine pr_goto (pc := 1204) Cx 1718 dL_law_1204 (by decide) ?_
      refine pr_lo (lo' := lw_lo i) (by simp [pa_lle]) ?_
      exact lw_to hs (kk K' N' _ T z (pa_us S 235 0 0) c _ _ hR (by omega) (Nat.le_of_eq (sj_ph_us (by decide)).symm) (by omega) (by omega))
set_option maxRecDepth 100000 in
set_option maxHeartbeats 4000000 in
theorem lb_standAnew {G : pa_G} {x : pa_X} {scr L mc ms i a b : Nat} {xs : Nat → Int32} {K : Nat → Nat → Nat → Int32} {N : Nat → Nat} {T : Nat} {z : sj_Z} {S : Nat → Nat → Int32} {c : Nat} {O : Nat → Int64} (hl9 : x.2.1.stackTraces = false) (C : pa_C G x cL_law 7 RL 17 mc ms) (X : lw_X G x scr L xs) (hL : L ≤ 3584) (hi : i + 7 ≤ L) (h : lw_R K N T z S c) (hc : c + 22 < 30000) (ha : a + 2000 ≤ mc) (hb : b + 900000 ≤ ms)
    (kk : ∀ (K' : Nat → Nat → Nat → Int32) (N' : Nat → Nat) (O' : Nat → Int64) (T' : Nat) (z' : sj_Z) (S' : Nat → Nat → Int32) (c' a' b' : Nat), lw_R K' N' T' z' S' c' → c' ≤ c + 20 → sj_ph S T ≤ sj_ph S' T' → a' ≤ a + 2 * (sj_ph S' T' - sj_ph S T) + 4 → b' ≤ b + 1520 * (sj_ph S' T' - sj_ph S T) + 1600 → lw_w G x scr 7 (K', S', N', O') a' b' 1718 (lw_lo i) []) : lw_w G x scr 7 (K, S, N, O) a b 1207 (lw_lo i) [] := by
  have hM := h.2.1.1
  have hJ := h.2.1.2.1
  have hT := hM.1.1
  have h217 : S 217 0 = nI T := hM.1.2.1
  have h0 := lw_R_235 (v := 0) h
  obtain ⟨A1, eA1⟩ : ∃ v, v = xs (i + 1) := ⟨_, rfl⟩
  obtain ⟨A2, eA2⟩ : ∃ v, v = xs (i + 2) := ⟨_, rfl⟩
  rcases h1 : ms_in A1 0 3 with _ | _
  · -- badly told
    refine lw_of fun ad hs => ?_
    have Cx : pa_C G (lw_at x (K, S, N, O) ad) cL_law 7 RL 17 mc ms := lw_C C
    refine pr_aload_n (pc := 1207) Cx dL_law_1207 rfl ?_
    refine pr_arg (pc := 1208) Cx X hs (by omega) 1 (by decide) (by omega) rfl rfl dL_law_1208 dL_law_1209 dL_law_1211 dL_law_1212 dL_law_1213 ?_
    refine pr_eqi (v := A1) eA1.symm ?_
    refine pr_arg (pc := 1214) Cx X hs (by omega) 2 (by decide) (by omega) rfl rfl dL_law_1214 dL_law_1215 dL_law_1217 dL_law_1218 dL_law_1219 ?_
    refine pr_eqi (v := A2) eA2.symm ?_
    refine pr_aload_n (pc := 1220) Cx dL_law_1220 rfl ?_
    refine pr_callL (pc := 1221) (As := [pv_o 4 0, pv_i A1, pv_i A2, pv_o 9 0]) C hs (l_standAnewX1 (al' := false) G _ K S N O A1 A2 (c_X3_standAnewX1 G _ K S S N O T T 0 z hl9 h.1 A1 A2 h1)) (fun r h9 hp9 => ⟨_, hp9.1⟩) wl_147 rfl rfl (Nat.le_of_ble_eq_true rfl) (by omega) (by omega) lw_lo_ok dL_law_1221 (fun k9 h9 hp9 => ?_)
    obtain ⟨ek, rfl⟩ := hp9
    obtain rfl : k9 = 1 := by cases ek; rfl
    refine lw_of fun ad hs => ?_
    have Cx : pa_C G (lw_at x (K, S, N, O) ad) cL_law 7 RL 17 mc ms := lw_C C
    refine pr_istore (pc := 1224) Cx dL_law_1224 (by decide) ?_
    refine pr_aload_n (pc := 1226) Cx dL_law_1226 rfl ?_
    refine pr_arg (pc := 1227) Cx X hs (by omega) 1 (by decide) (by omega) rfl rfl dL_law_1227 dL_law_1228 dL_law_1230 dL_law_1231 dL_law_1232 ?_
    refine pr_eqi (v := A1) eA1.symm ?_
    refine pr_arg (pc := 1233) Cx X hs (by omega) 2 (by decide) (by omega) rfl rfl dL_law_1233 dL_law_1234 dL_law_1236 dL_law_1237 dL_law_1238 ?_
    refine pr_eqi (v := A2) eA2.symm ?_
    refine pr_vR (pc := 1239) Cx (c_X4_standAnewN G _ (K, S, N, O) A1 A2 (by simp [h217, sc_kn, h1])) wv_L_149 rfl rfl (Nat.le_of_ble_eq_true rfl) (by decide) (pl_5 _) (Nat.le_of_ble_eq_true rfl) (by omega) (by omega) dL_law_1239 ?_
    refine pr_istore (pc := 1242) Cx dL_law_1242 (by decide) ?_
    refine pr_aload_n (pc := 1244) Cx dL_law_1244 rfl ?_
    refine pr_vP (pc := 1245) Cx (c_X4_thrown G _ _) wv_L_89 rfl rfl (Nat.le_of_ble_eq_true rfl) (by decide) (pl_5 _) (Nat.le_of_ble_eq_true rfl) (by omega) (by omega) dL_law_1245 ?_
    refine pr_eqi (v := 1) (by simp [ms_thr, pa_us_self, h217, sc_kn, h1]) ?_
    refine pr_iload (pc := 1248) Cx dL_law_1248 rfl ?_
    refine pr_icmp_eq (pc := 1250) Cx 1255 dL_law_1250 (by decide) (fun _ => ?_) (fun q => absurd rfl q)
    refine pr_iload (pc := 1255) Cx dL_law_1255 rfl ?_
    refine pr_if_ne (pc := 1257) Cx 1272 dL_law_1257 (by decide) (fun _ => ?_) (fun q => absurd q (by decide))
    refine pr_goto (pc := 1272) Cx 1718 dL_law_1272 (by decide) ?_
    refine pr_lo (lo' := lw_lo i) (by simp [pa_lle]) ?_
    exact lw_to hs (kk K N _ T z _ c _ _ (lw_R_235 h) (by omega) (Nat.le_of_eq (sj_ph_us (by decide)).symm) (by omega) (by omega))
  · skip
    obtain ⟨s1, hs1, es1⟩ := sc_nn2 (k := 3) (by decide) h1
    subst es1
    rcases h2 : ms_in A2 0 9 with _ | _
    · -- badly told
      refine lw_of fun ad hs => ?_
      have Cx : pa_C G (lw_at x (K, S, N, O) ad) cL_law 7 RL 17 mc ms := lw_C C
      refine pr_aload_n (pc := 1207) Cx dL_law_1207 rfl ?_
      refine pr_arg (pc := 1208) Cx X hs (by omega) 1 (by decide) (by omega) rfl rfl dL_law_1208 dL_law_1209 dL_law_1211 dL_law_1212 dL_law_1213 ?_
      refine pr_eqi (v := (nI s1)) eA1.symm ?_
      refine pr_arg (pc := 1214) Cx X hs (by omega) 2 (by decide) (by omega) rfl rfl dL_law_1214 dL_law_1215 dL_law_1217 dL_law_1218 dL_law_1219 ?_
      refine pr_eqi (v := A2) eA2.symm ?_
      refine pr_aload_n (pc := 1220) Cx dL_law_1220 rfl ?_
      refine pr_callL (pc := 1221) (As := [pv_o 4 0, pv_i (nI s1), pv_i A2, pv_o 9 0]) C hs (l_standAnewX1 (al' := false) G _ K S N O (nI s1) A2 (c_X3_standAnewX2 G _ K S S N O T T 0 z hl9 h.1 s1 A2 (by omega) h2)) (fun r h9 hp9 => ⟨_, hp9.1⟩) wl_147 rfl rfl (Nat.le_of_ble_eq_true rfl) (by omega) (by omega) lw_lo_ok dL_law_1221 (fun k9 h9 hp9 => ?_)
      obtain ⟨ek, rfl⟩ := hp9
      obtain rfl : k9 = 1 := by cases ek; rfl
      refine lw_of fun ad hs => ?_
      have Cx : pa_C G (lw_at x (K, S, N, O) ad) cL_law 7 RL 17 mc ms := lw_C C
      refine pr_istore (pc := 1224) Cx dL_law_1224 (by decide) ?_
      refine pr_aload_n (pc := 1226) Cx dL_law_1226 rfl ?_
      refine pr_arg (pc := 1227) Cx X hs (by omega) 1 (by decide) (by omega) rfl rfl dL_law_1227 dL_law_1228 dL_law_1230 dL_law_1231 dL_law_1232 ?_
      refine pr_eqi (v := (nI s1)) eA1.symm ?_
      refine pr_arg (pc := 1233) Cx X hs (by omega) 2 (by decide) (by omega) rfl rfl dL_law_1233 dL_law_1234 dL_law_1236 dL_law_1237 dL_law_1238 ?_
      refine pr_eqi (v := A2) eA2.symm ?_
      refine pr_vR (pc := 1239) Cx (c_X4_standAnewN G _ (K, S, N, O) (nI s1) A2 (by simp [h217, sc_kn, h1, h2])) wv_L_149 rfl rfl (Nat.le_of_ble_eq_true rfl) (by decide) (pl_5 _) (Nat.le_of_ble_eq_true rfl) (by omega) (by omega) dL_law_1239 ?_
      refine pr_istore (pc := 1242) Cx dL_law_1242 (by decide) ?_
      refine pr_aload_n (pc := 1244) Cx dL_law_1244 rfl ?_
      refine pr_vP (pc := 1245) Cx (c_X4_thrown G _ _) wv_L_89 rfl rfl (Nat.le_of_ble_eq_true rfl) (by decide) (pl_5 _) (Nat.le_of_ble_eq_true rfl) (by omega) (by omega) dL_law_1245 ?_
      refine pr_eqi (v := 1) (by simp [ms_thr, pa_us_self, h217, sc_kn, h1, h2]) ?_
      refine pr_iload (pc := 1248) Cx dL_law_1248 rfl ?_
      refine pr_icmp_eq (pc := 1250) Cx 1255 dL_law_1250 (by decide) (fun _ => ?_) (fun q => absurd rfl q)
      refine pr_iload (pc := 1255) Cx dL_law_1255 rfl ?_
      refine pr_if_ne (pc := 1257) Cx 1272 dL_law_1257 (by decide) (fun _ => ?_) (fun q => absurd q (by decide))
      refine pr_goto (pc := 1272) Cx 1718 dL_law_1272 (by decide) ?_
      refine pr_lo (lo' := lw_lo i) (by simp [pa_lle]) ?_
      exact lw_to hs (kk K N _ T z _ c _ _ (lw_R_235 h) (by omega) (Nat.le_of_eq (sj_ph_us (by decide)).symm) (by omega) (by omega))
    · skip
      obtain ⟨s2, hs2, es2⟩ := sc_nn2 (k := 9) (by decide) h2
      subst es2
      refine lw_of fun ad hs => ?_
      have Cx : pa_C G (lw_at x (K, S, N, O) ad) cL_law 7 RL 17 mc ms := lw_C C
      refine pr_aload_n (pc := 1207) Cx dL_law_1207 rfl ?_
      refine pr_arg (pc := 1208) Cx X hs (by omega) 1 (by decide) (by omega) rfl rfl dL_law_1208 dL_law_1209 dL_law_1211 dL_law_1212 dL_law_1213 ?_
      refine pr_eqi (v := (nI s1)) eA1.symm ?_
      refine pr_arg (pc := 1214) Cx X hs (by omega) 2 (by decide) (by omega) rfl rfl dL_law_1214 dL_law_1215 dL_law_1217 dL_law_1218 dL_law_1219 ?_
      refine pr_eqi (v := (nI s2)) eA2.symm ?_
      refine pr_aload_n (pc := 1220) Cx dL_law_1220 rfl ?_
      refine pr_callL (pc := 1221) (As := [pv_o 4 0, pv_i (nI s1), pv_i (nI s2), pv_o 9 0]) C hs (l_standAnewY G _ K S N O (nI s1) (nI s2) (P := fun v K' N' => v = S 208 (10 * s1 + s2) ∧ lw_R K' N' T z (pa_us S 235 0 0) c) (c_X3_standAnewY G _ K S S N O T T 0 z h.1 s1 s2 (by omega) (by omega)) (fun r h9 hp => ⟨_, K, N, hp.1, hp.2, rfl, h0⟩)) (fun r h9 hp9 => ⟨_, hp9.1⟩) wl_147 rfl rfl (Nat.le_of_ble_eq_true rfl) (by omega) (by omega) lw_lo_ok dL_law_1221 (fun k9 h9 hp9 => ?_)
      obtain ⟨ek, v9, K', N', rfl, rfl, hR⟩ := hp9
      obtain rfl : k9 = 0 := by cases ek; rfl
      refine lw_of fun ad hs => ?_
      have Cx : pa_C G (lw_at x (K', S, N', (pa_uo O (S 208 (10 * s1 + s2)).toInt64)) ad) cL_law 7 RL 17 mc ms := lw_C C
      refine pr_istore (pc := 1224) Cx dL_law_1224 (by decide) ?_
      refine pr_aload_n (pc := 1226) Cx dL_law_1226 rfl ?_
      refine pr_arg (pc := 1227) Cx X hs (by omega) 1 (by decide) (by omega) rfl rfl dL_law_1227 dL_law_1228 dL_law_1230 dL_law_1231 dL_law_1232 ?_
      refine pr_eqi (v := (nI s1)) eA1.symm ?_
      refine pr_arg (pc := 1233) Cx X hs (by omega) 2 (by decide) (by omega) rfl rfl dL_law_1233 dL_law_1234 dL_law_1236 dL_law_1237 dL_law_1238 ?_
      refine pr_eqi (v := (nI s2)) eA2.symm ?_
      refine pr_vR (pc := 1239) Cx (c_X4_standAnewY G _ (K', S, N', (pa_uo O (S 208 (10 * s1 + s2)).toInt64)) s1 s2 (by omega) (by omega)) wv_L_149 rfl rfl (Nat.le_of_ble_eq_true rfl) (by decide) (pl_5 _) (Nat.le_of_ble_eq_true rfl) (by omega) (by omega) dL_law_1239 ?_
      refine pr_istore (pc := 1242) Cx dL_law_1242 (by decide) ?_
      refine pr_aload_n (pc := 1244) Cx dL_law_1244 rfl ?_
      refine pr_vP (pc := 1245) Cx (c_X4_thrown G _ _) wv_L_89 rfl rfl (Nat.le_of_ble_eq_true rfl) (by decide) (pl_5 _) (Nat.le_of_ble_eq_true rfl) (by omega) (by omega) dL_law_1245 ?_
      refine pr_eqi (v := 0) (by show pa_us S 235 0 0 235 0 = 0; exact pa_us_self _ _ _ _) ?_
      refine pr_iload (pc := 1248) Cx dL_law_1248 rfl ?_
      refine pr_icmp_eq (pc := 1250) Cx 1255 dL_law_1250 (by decide) (fun _ => ?_) (fun q => absurd rfl q)
      refine pr_iload (pc := 1255) Cx dL_law_1255 rfl ?_
      refine pr_if_ne (pc := 1257) Cx 1272 dL_law_1257 (by decide) (fun q => absurd rfl q) (fun _ => ?_)
      refine pr_aload_n (pc := 1260) Cx dL_law_1260 rfl ?_
      refine pr_iconst (pc := 1261) (v := 0) Cx dL_law_1261 (by decide) ?_
      refine pr_lald9 (pc := 1262) Cx rfl dL_law_1262 ?_
      refine pr_iload (pc := 1263) Cx dL_law_1263 rfl ?_
      refine pr_i2l (pc := 1265) Cx dL_law_1265 ?_
      refine pr_lcmp (pc := 1266) Cx dL_law_1266 ?_
      refine pr_if_eq (pc := 1267) Cx 1272 dL_law_1267 (by decide) (fun _ => ?_) (fun q => absurd (lw_cmp0 _) q)
      refine pr_goto (pc := 1272) Cx 1718 dL_law_1272 (by decide) ?_
      refine pr_lo (lo' := lw_lo i) (by simp [pa_lle]) ?_
      exact lw_to hs (kk K' N' _ T z (pa_us S 235 0 0) c _ _ hR (by omega) (Nat.le_of_eq (sj_ph_us (by decide)).symm) (by omega) (by omega))
set_option maxRecDepth 100000 in
set_option maxHeartbeats 4000000 in
theorem lb_hint {G : pa_G} {x : pa_X} {scr L mc ms i a b : Nat} {xs : Nat → Int32} {K : Nat → Nat → Nat → Int32} {N : Nat → Nat} {T : Nat} {z : sj_Z} {S : Nat → Nat → Int32} {c : Nat} {O : Nat → Int64} (hl9 : x.2.1.stackTraces = false) (C : pa_C G x cL_law 7 RL 17 mc ms) (X : lw_X G x scr L xs) (hL : L ≤ 3584) (hi : i + 7 ≤ L) (h : lw_R K N T z S c) (hc : c + 22 < 30000) (ha : a + 2000 ≤ mc) (hb : b + 900000 ≤ ms)
    (kk : ∀ (K' : Nat → Nat → Nat → Int32) (N' : Nat → Nat) (O' : Nat → Int64) (T' : Nat) (z' : sj_Z) (S' : Nat → Nat → Int32) (c' a' b' : Nat), lw_R K' N' T' z' S' c' → c' ≤ c + 20 → sj_ph S T ≤ sj_ph S' T' → a' ≤ a + 2 * (sj_ph S' T' - sj_ph S T) + 4 → b' ≤ b + 1520 * (sj_ph S' T' - sj_ph S T) + 1600 → lw_w G x scr 7 (K', S', N', O') a' b' 1718 (lw_lo i) []) : lw_w G x scr 7 (K, S, N, O) a b 1275 (lw_lo i) [] := by
  have hM := h.2.1.1
  have hJ := h.2.1.2.1
  have hT := hM.1.1
  have h217 : S 217 0 = nI T := hM.1.2.1
  have h0 := lw_R_235 (v := 0) h
  obtain ⟨A1, eA1⟩ : ∃ v, v = xs (i + 1) := ⟨_, rfl⟩
  obtain ⟨A2, eA2⟩ : ∃ v, v = xs (i + 2) := ⟨_, rfl⟩
  rcases h1 : ms_in A1 0 3 with _ | _
  · -- badly told
    refine lw_of fun ad hs => ?_
    have Cx : pa_C G (lw_at x (K, S, N, O) ad) cL_law 7 RL 17 mc ms := lw_C C
    refine pr_aload_n (pc := 1275) Cx dL_law_1275 rfl ?_
    refine pr_arg (pc := 1276) Cx X hs (by omega) 1 (by decide) (by omega) rfl rfl dL_law_1276 dL_law_1277 dL_law_1279 dL_law_1280 dL_law_1281 ?_
    refine pr_eqi (v := A1) eA1.symm ?_
    refine pr_arg (pc := 1282) Cx X hs (by omega) 2 (by decide) (by omega) rfl rfl dL_law_1282 dL_law_1283 dL_law_1285 dL_law_1286 dL_law_1287 ?_
    refine pr_eqi (v := A2) eA2.symm ?_
    refine pr_aload_n (pc := 1288) Cx dL_law_1288 rfl ?_
    refine pr_callL (pc := 1289) (As := [pv_o 4 0, pv_i A1, pv_i A2, pv_o 9 0]) C hs (l_hintX1 (al' := false) G _ K S N O A1 A2 (c_X3_hintX1 G _ K S S N O T T 0 z hl9 h.1 A1 A2 h1)) (fun r h9 hp9 => ⟨_, hp9.1⟩) wl_150 rfl rfl (Nat.le_of_ble_eq_true rfl) (by omega) (by omega) lw_lo_ok dL_law_1289 (fun k9 h9 hp9 => ?_)
    obtain ⟨ek, rfl⟩ := hp9
    obtain rfl : k9 = 1 := by cases ek; rfl
    refine lw_of fun ad hs => ?_
    have Cx : pa_C G (lw_at x (K, S, N, O) ad) cL_law 7 RL 17 mc ms := lw_C C
    refine pr_istore (pc := 1292) Cx dL_law_1292 (by decide) ?_
    refine pr_aload_n (pc := 1294) Cx dL_law_1294 rfl ?_
    refine pr_arg (pc := 1295) Cx X hs (by omega) 1 (by decide) (by omega) rfl rfl dL_law_1295 dL_law_1296 dL_law_1298 dL_law_1299 dL_law_1300 ?_
    refine pr_eqi (v := A1) eA1.symm ?_
    refine pr_arg (pc := 1301) Cx X hs (by omega) 2 (by decide) (by omega) rfl rfl dL_law_1301 dL_law_1302 dL_law_1304 dL_law_1305 dL_law_1306 ?_
    refine pr_eqi (v := A2) eA2.symm ?_
    refine pr_vR (pc := 1307) Cx (c_X4_hintN G _ (K, S, N, O) A1 A2 (by simp [h217, sc_kn, h1])) wv_L_152 rfl rfl (Nat.le_of_ble_eq_true rfl) (by decide) (pl_5 _) (Nat.le_of_ble_eq_true rfl) (by omega) (by omega) dL_law_1307 ?_
    refine pr_istore (pc := 1310) Cx dL_law_1310 (by decide) ?_
    refine pr_aload_n (pc := 1312) Cx dL_law_1312 rfl ?_
    refine pr_vP (pc := 1313) Cx (c_X4_thrown G _ _) wv_L_89 rfl rfl (Nat.le_of_ble_eq_true rfl) (by decide) (pl_5 _) (Nat.le_of_ble_eq_true rfl) (by omega) (by omega) dL_law_1313 ?_
    refine pr_eqi (v := 1) (by simp [ms_thr, pa_us_self, h217, sc_kn, h1]) ?_
    refine pr_iload (pc := 1316) Cx dL_law_1316 rfl ?_
    refine pr_icmp_eq (pc := 1318) Cx 1323 dL_law_1318 (by decide) (fun _ => ?_) (fun q => absurd rfl q)
    refine pr_iload (pc := 1323) Cx dL_law_1323 rfl ?_
    refine pr_if_ne (pc := 1325) Cx 1340 dL_law_1325 (by decide) (fun _ => ?_) (fun q => absurd q (by decide))
    refine pr_goto (pc := 1340) Cx 1718 dL_law_1340 (by decide) ?_
    refine pr_lo (lo' := lw_lo i) (by simp [pa_lle]) ?_
    exact lw_to hs (kk K N _ T z _ c _ _ (lw_R_235 h) (by omega) (Nat.le_of_eq (sj_ph_us (by decide)).symm) (by omega) (by omega))
  · skip
    obtain ⟨s1, hs1, es1⟩ := sc_nn2 (k := 3) (by decide) h1
    subst es1
    rcases h2 : ms_in A2 0 9 with _ | _
    · -- badly told
      refine lw_of fun ad hs => ?_
      have Cx : pa_C G (lw_at x (K, S, N, O) ad) cL_law 7 RL 17 mc ms := lw_C C
      refine pr_aload_n (pc := 1275) Cx dL_law_1275 rfl ?_
      refine pr_arg (pc := 1276) Cx X hs (by omega) 1 (by decide) (by omega) rfl rfl dL_law_1276 dL_law_1277 dL_law_1279 dL_law_1280 dL_law_1281 ?_
      refine pr_eqi (v := (nI s1)) eA1.symm ?_
      refine pr_arg (pc := 1282) Cx X hs (by omega) 2 (by decide) (by omega) rfl rfl dL_law_1282 dL_law_1283 dL_law_1285 dL_law_1286 dL_law_1287 ?_
      refine pr_eqi (v := A2) eA2.symm ?_
      refine pr_aload_n (pc := 1288) Cx dL_law_1288 rfl ?_
      refine pr_callL (pc := 1289) (As := [pv_o 4 0, pv_i (nI s1), pv_i A2, pv_o 9 0]) C hs (l_hintX1 (al' := false) G _ K S N O (nI s1) A2 (c_X3_hintX2 G _ K S S N O T T 0 z hl9 h.1 s1 A2 (by omega) h2)) (fun r h9 hp9 => ⟨_, hp9.1⟩) wl_150 rfl rfl (Nat.le_of_ble_eq_true rfl) (by omega) (by omega) lw_lo_ok dL_law_1289 (fun k9 h9 hp9 => ?_)
      obtain ⟨ek, rfl⟩ := hp9
      obtain rfl : k9 = 1 := by cases ek; rfl
      refine lw_of fun ad hs => ?_
      have Cx : pa_C G (lw_at x (K, S, N, O) ad) cL_law 7 RL 17 mc ms := lw_C C
      refine pr_istore (pc := 1292) Cx dL_law_1292 (by decide) ?_
      refine pr_aload_n (pc := 1294) Cx dL_law_1294 rfl ?_
      refine pr_arg (pc := 1295) Cx X hs (by omega) 1 (by decide) (by omega) rfl rfl dL_law_1295 dL_law_1296 dL_law_1298 dL_law_1299 dL_law_1300 ?_
      refine pr_eqi (v := (nI s1)) eA1.symm ?_
      refine pr_arg (pc := 1301) Cx X hs (by omega) 2 (by decide) (by omega) rfl rfl dL_law_1301 dL_law_1302 dL_law_1304 dL_law_1305 dL_law_1306 ?_
      refine pr_eqi (v := A2) eA2.symm ?_
      refine pr_vR (pc := 1307) Cx (c_X4_hintN G _ (K, S, N, O) (nI s1) A2 (by simp [h217, sc_kn, h1, h2])) wv_L_152 rfl rfl (Nat.le_of_ble_eq_true rfl) (by decide) (pl_5 _) (Nat.le_of_ble_eq_true rfl) (by omega) (by omega) dL_law_1307 ?_
      refine pr_istore (pc := 1310) Cx dL_law_1310 (by decide) ?_
      refine pr_aload_n (pc := 1312) Cx dL_law_1312 rfl ?_
      refine pr_vP (pc := 1313) Cx (c_X4_thrown G _ _) wv_L_89 rfl rfl (Nat.le_of_ble_eq_true rfl) (by decide) (pl_5 _) (Nat.le_of_ble_eq_true rfl) (by omega) (by omega) dL_law_1313 ?_
      refine pr_eqi (v := 1) (by simp [ms_thr, pa_us_self, h217, sc_kn, h1, h2]) ?_
      refine pr_iload (pc := 1316) Cx dL_law_1316 rfl ?_
      refine pr_icmp_eq (pc := 1318) Cx 1323 dL_law_1318 (by decide) (fun _ => ?_) (fun q => absurd rfl q)
      refine pr_iload (pc := 1323) Cx dL_law_1323 rfl ?_
      refine pr_if_ne (pc := 1325) Cx 1340 dL_law_1325 (by decide) (fun _ => ?_) (fun q => absurd q (by decide))
      refine pr_goto (pc := 1340) Cx 1718 dL_law_1340 (by decide) ?_
      refine pr_lo (lo' := lw_lo i) (by simp [pa_lle]) ?_
      exact lw_to hs (kk K N _ T z _ c _ _ (lw_R_235 h) (by omega) (Nat.le_of_eq (sj_ph_us (by decide)).symm) (by omega) (by omega))
    · skip
      obtain ⟨s2, hs2, es2⟩ := sc_nn2 (k := 9) (by decide) h2
      subst es2
      refine lw_of fun ad hs => ?_
      have Cx : pa_C G (lw_at x (K, S, N, O) ad) cL_law 7 RL 17 mc ms := lw_C C
      refine pr_aload_n (pc := 1275) Cx dL_law_1275 rfl ?_
      refine pr_arg (pc := 1276) Cx X hs (by omega) 1 (by decide) (by omega) rfl rfl dL_law_1276 dL_law_1277 dL_law_1279 dL_law_1280 dL_law_1281 ?_
      refine pr_eqi (v := (nI s1)) eA1.symm ?_
      refine pr_arg (pc := 1282) Cx X hs (by omega) 2 (by decide) (by omega) rfl rfl dL_law_1282 dL_law_1283 dL_law_1285 dL_law_1286 dL_law_1287 ?_
      refine pr_eqi (v := (nI s2)) eA2.symm ?_
      refine pr_aload_n (pc := 1288) Cx dL_law_1288 rfl ?_
      refine pr_callL (pc := 1289) (As := [pv_o 4 0, pv_i (nI s1), pv_i (nI s2), pv_o 9 0]) C hs (l_hintY G _ K S N O (nI s1) (nI s2) (P := fun v K' N' => v = S 210 (10 * s1 + s2) ∧ lw_R K' N' T z (pa_us S 235 0 0) c) (c_X3_hintY G _ K S S N O T T 0 z h.1 s1 s2 (by omega) (by omega) hM hJ) (fun r h9 hp => ⟨_, K, N, hp.1, hp.2, rfl, h0⟩)) (fun r h9 hp9 => ⟨_, hp9.1⟩) wl_150 rfl rfl (Nat.le_of_ble_eq_true rfl) (by omega) (by omega) lw_lo_ok dL_law_1289 (fun k9 h9 hp9 => ?_)
      obtain ⟨ek, v9, K', N', rfl, rfl, hR⟩ := hp9
      obtain rfl : k9 = 0 := by cases ek; rfl
      refine lw_of fun ad hs => ?_
      have Cx : pa_C G (lw_at x (K', S, N', (pa_uo O (S 210 (10 * s1 + s2)).toInt64)) ad) cL_law 7 RL 17 mc ms := lw_C C
      refine pr_istore (pc := 1292) Cx dL_law_1292 (by decide) ?_
      refine pr_aload_n (pc := 1294) Cx dL_law_1294 rfl ?_
      refine pr_arg (pc := 1295) Cx X hs (by omega) 1 (by decide) (by omega) rfl rfl dL_law_1295 dL_law_1296 dL_law_1298 dL_law_1299 dL_law_1300 ?_
      refine pr_eqi (v := (nI s1)) eA1.symm ?_
      refine pr_arg (pc := 1301) Cx X hs (by omega) 2 (by decide) (by omega) rfl rfl dL_law_1301 dL_law_1302 dL_law_1304 dL_law_1305 dL_law_1306 ?_
      refine pr_eqi (v := (nI s2)) eA2.symm ?_
      refine pr_vR (pc := 1307) Cx (c_X4_hintY G _ (K', S, N', (pa_uo O (S 210 (10 * s1 + s2)).toInt64)) s1 s2 (by omega) (by omega)) wv_L_152 rfl rfl (Nat.le_of_ble_eq_true rfl) (by decide) (pl_5 _) (Nat.le_of_ble_eq_true rfl) (by omega) (by omega) dL_law_1307 ?_
      refine pr_istore (pc := 1310) Cx dL_law_1310 (by decide) ?_
      refine pr_aload_n (pc := 1312) Cx dL_law_1312 rfl ?_
      refine pr_vP (pc := 1313) Cx (c_X4_thrown G _ _) wv_L_89 rfl rfl (Nat.le_of_ble_eq_true rfl) (by decide) (pl_5 _) (Nat.le_of_ble_eq_true rfl) (by omega) (by omega) dL_law_1313 ?_
      refine pr_eqi (v := 0) (by show pa_us S 235 0 0 235 0 = 0; exact pa_us_self _ _ _ _) ?_
      refine pr_iload (pc := 1316) Cx dL_law_1316 rfl ?_
      refine pr_icmp_eq (pc := 1318) Cx 1323 dL_law_1318 (by decide) (fun _ => ?_) (fun q => absurd rfl q)
      refine pr_iload (pc := 1323) Cx dL_law_1323 rfl ?_
      refine pr_if_ne (pc := 1325) Cx 1340 dL_law_1325 (by decide) (fun q => absurd rfl q) (fun _ => ?_)
      refine pr_aload_n (pc := 1328) Cx dL_law_1328 rfl ?_
      refine pr_iconst (pc := 1329) (v := 0) Cx dL_law_1329 (by decide) ?_
      refine pr_lald9 (pc := 1330) Cx rfl dL_law_1330 ?_
      refine pr_iload (pc := 1331) Cx dL_law_1331 rfl ?_
      refine pr_i2l (pc := 1333) Cx dL_law_1333 ?_
      refine pr_lcmp (pc := 1334) Cx dL_law_1334 ?_
      refine pr_if_eq (pc := 1335) Cx 1340 dL_law_1335 (by decide) (fun _ => ?_) (fun q => absurd (lw_cmp0 _) q)
      refine pr_goto (pc := 1340) Cx 1718 dL_law_1340 (by decide) ?_
      refine pr_lo (lo' := lw_lo i) (by simp [pa_lle]) ?_
      exact lw_to hs (kk K' N' _ T z (pa_us S 235 0 0) c _ _ hR (by omega) (Nat.le_of_eq (sj_ph_us (by decide)).symm) (by omega) (by omega))
set_option maxRecDepth 100000 in
set_option maxHeartbeats 4000000 in
theorem lb_isSupported {G : pa_G} {x : pa_X} {scr L mc ms i a b : Nat} {xs : Nat → Int32} {K : Nat → Nat → Nat → Int32} {N : Nat → Nat} {T : Nat} {z : sj_Z} {S : Nat → Nat → Int32} {c : Nat} {O : Nat → Int64} (hl9 : x.2.1.stackTraces = false) (C : pa_C G x cL_law 7 RL 17 mc ms) (X : lw_X G x scr L xs) (hL : L ≤ 3584) (hi : i + 7 ≤ L) (h : lw_R K N T z S c) (hc : c + 22 < 30000) (ha : a + 2000 ≤ mc) (hb : b + 900000 ≤ ms)
    (kk : ∀ (K' : Nat → Nat → Nat → Int32) (N' : Nat → Nat) (O' : Nat → Int64) (T' : Nat) (z' : sj_Z) (S' : Nat → Nat → Int32) (c' a' b' : Nat), lw_R K' N' T' z' S' c' → c' ≤ c + 20 → sj_ph S T ≤ sj_ph S' T' → a' ≤ a + 2 * (sj_ph S' T' - sj_ph S T) + 4 → b' ≤ b + 1520 * (sj_ph S' T' - sj_ph S T) + 1600 → lw_w G x scr 7 (K', S', N', O') a' b' 1718 (lw_lo i) []) : lw_w G x scr 7 (K, S, N, O) a b 1343 (lw_lo i) [] := by
  have hM := h.2.1.1
  have hJ := h.2.1.2.1
  have hT := hM.1.1
  have h217 : S 217 0 = nI T := hM.1.2.1
  have h0 := lw_R_235 (v := 0) h
  obtain ⟨A1, eA1⟩ : ∃ v, v = xs (i + 1) := ⟨_, rfl⟩
  obtain ⟨A2, eA2⟩ : ∃ v, v = xs (i + 2) := ⟨_, rfl⟩
  rcases h1 : ms_in A1 0 3 with _ | _
  · -- badly told
    refine lw_of fun ad hs => ?_
    have Cx : pa_C G (lw_at x (K, S, N, O) ad) cL_law 7 RL 17 mc ms := lw_C C
    refine pr_aload_n (pc := 1343) Cx dL_law_1343 rfl ?_
    refine pr_arg (pc := 1344) Cx X hs (by omega) 1 (by decide) (by omega) rfl rfl dL_law_1344 dL_law_1345 dL_law_1347 dL_law_1348 dL_law_1349 ?_
    refine pr_eqi (v := A1) eA1.symm ?_
    refine pr_arg (pc := 1350) Cx X hs (by omega) 2 (by decide) (by omega) rfl rfl dL_law_1350 dL_law_1351 dL_law_1353 dL_law_1354 dL_law_1355 ?_
    refine pr_eqi (v := A2) eA2.symm ?_
    refine pr_aload_n (pc := 1356) Cx dL_law_1356 rfl ?_
    refine pr_callL (pc := 1357) (As := [pv_o 4 0, pv_i A1, pv_i A2, pv_o 9 0]) C hs (l_isSupportedX1 (al' := false) G _ K S N O A1 A2 (c_X3_isSupportedX1 G _ K S S N O T T 0 z hl9 h.1 A1 A2 h1)) (fun r h9 hp9 => ⟨_, hp9.1⟩) wl_153 rfl rfl (Nat.le_of_ble_eq_true rfl) (by omega) (by omega) lw_lo_ok dL_law_1357 (fun k9 h9 hp9 => ?_)
    obtain ⟨ek, rfl⟩ := hp9
    obtain rfl : k9 = 1 := by cases ek; rfl
    refine lw_of fun ad hs => ?_
    have Cx : pa_C G (lw_at x (K, S, N, O) ad) cL_law 7 RL 17 mc ms := lw_C C
    refine pr_istore (pc := 1360) Cx dL_law_1360 (by decide) ?_
    refine pr_aload_n (pc := 1362) Cx dL_law_1362 rfl ?_
    refine pr_arg (pc := 1363) Cx X hs (by omega) 1 (by decide) (by omega) rfl rfl dL_law_1363 dL_law_1364 dL_law_1366 dL_law_1367 dL_law_1368 ?_
    refine pr_eqi (v := A1) eA1.symm ?_
    refine pr_arg (pc := 1369) Cx X hs (by omega) 2 (by decide) (by omega) rfl rfl dL_law_1369 dL_law_1370 dL_law_1372 dL_law_1373 dL_law_1374 ?_
    refine pr_eqi (v := A2) eA2.symm ?_
    refine pr_vR (pc := 1375) Cx (c_X4_isSupportedN G _ (K, S, N, O) A1 A2 (by simp [h217, sc_kn, h1])) wv_L_155 rfl rfl (Nat.le_of_ble_eq_true rfl) (by decide) (pl_5 _) (Nat.le_of_ble_eq_true rfl) (by omega) (by omega) dL_law_1375 ?_
    refine pr_istore (pc := 1378) Cx dL_law_1378 (by decide) ?_
    refine pr_aload_n (pc := 1380) Cx dL_law_1380 rfl ?_
    refine pr_vP (pc := 1381) Cx (c_X4_thrown G _ _) wv_L_89 rfl rfl (Nat.le_of_ble_eq_true rfl) (by decide) (pl_5 _) (Nat.le_of_ble_eq_true rfl) (by omega) (by omega) dL_law_1381 ?_
    refine pr_eqi (v := 1) (by simp [ms_thr, pa_us_self, h217, sc_kn, h1]) ?_
    refine pr_iload (pc := 1384) Cx dL_law_1384 rfl ?_
    refine pr_icmp_eq (pc := 1386) Cx 1391 dL_law_1386 (by decide) (fun _ => ?_) (fun q => absurd rfl q)
    refine pr_iload (pc := 1391) Cx dL_law_1391 rfl ?_
    refine pr_if_ne (pc := 1393) Cx 1415 dL_law_1393 (by decide) (fun _ => ?_) (fun q => absurd q (by decide))
    refine pr_goto (pc := 1415) Cx 1718 dL_law_1415 (by decide) ?_
    refine pr_lo (lo' := lw_lo i) (by simp [pa_lle]) ?_
    exact lw_to hs (kk K N _ T z _ c _ _ (lw_R_235 h) (by omega) (Nat.le_of_eq (sj_ph_us (by decide)).symm) (by omega) (by omega))
  · skip
    obtain ⟨s1, hs1, es1⟩ := sc_nn2 (k := 3) (by decide) h1
    subst es1
    rcases h2 : ms_in A2 0 9 with _ | _
    · -- badly told
      refine lw_of fun ad hs => ?_
      have Cx : pa_C G (lw_at x (K, S, N, O) ad) cL_law 7 RL 17 mc ms := lw_C C
      refine pr_aload_n (pc := 1343) Cx dL_law_1343 rfl ?_
      refine pr_arg (pc := 1344) Cx X hs (by omega) 1 (by decide) (by omega) rfl rfl dL_law_1344 dL_law_1345 dL_law_1347 dL_law_1348 dL_law_1349 ?_
      refine pr_eqi (v := (nI s1)) eA1.symm ?_
      refine pr_arg (pc := 1350) Cx X hs (by omega) 2 (by decide) (by omega) rfl rfl dL_law_1350 dL_law_1351 dL_law_1353 dL_law_1354 dL_law_1355 ?_
      refine pr_eqi (v := A2) eA2.symm ?_
      refine pr_aload_n (pc := 1356) Cx dL_law_1356 rfl ?_
      refine pr_callL (pc := 1357) (As := [pv_o 4 0, pv_i (nI s1), pv_i A2, pv_o 9 0]) C hs (l_isSupportedX1 (al' := false) G _ K S N O (nI s1) A2 (c_X3_isSupportedX2 G _ K S S N O T T 0 z hl9 h.1 s1 A2 (by omega) h2)) (fun r h9 hp9 => ⟨_, hp9.1⟩) wl_153 rfl rfl (Nat.le_of_ble_eq_true rfl) (by omega) (by omega) lw_lo_ok dL_law_1357 (fun k9 h9 hp9 => ?_)
      obtain ⟨ek, rfl⟩ := hp9
      obtain rfl : k9 = 1 := by cases ek; rfl
      refine lw_of fun ad hs => ?_
      have Cx : pa_C G (lw_at x (K, S, N, O) ad) cL_law 7 RL 17 mc ms := lw_C C
      refine pr_istore (pc := 1360) Cx dL_law_1360 (by decide) ?_
      refine pr_aload_n (pc := 1362) Cx dL_law_1362 rfl ?_
      refine pr_arg (pc := 1363) Cx X hs (by omega) 1 (by decide) (by omega) rfl rfl dL_law_1363 dL_law_1364 dL_law_1366 dL_law_1367 dL_law_1368 ?_
      refine pr_eqi (v := (nI s1)) eA1.symm ?_
      refine pr_arg (pc := 1369) Cx X hs (by omega) 2 (by decide) (by omega) rfl rfl dL_law_1369 dL_law_1370 dL_law_1372 dL_law_1373 dL_law_1374 ?_
      refine pr_eqi (v := A2) eA2.symm ?_
      refine pr_vR (pc := 1375) Cx (c_X4_isSupportedN G _ (K, S, N, O) (nI s1) A2 (by simp [h217, sc_kn, h1, h2])) wv_L_155 rfl rfl (Nat.le_of_ble_eq_true rfl) (by decide) (pl_5 _) (Nat.le_of_ble_eq_true rfl) (by omega) (by omega) dL_law_1375 ?_
      refine pr_istore (pc := 1378) Cx dL_law_1378 (by decide) ?_
      refine pr_aload_n (pc := 1380) Cx dL_law_1380 rfl ?_
      refine pr_vP (pc := 1381) Cx (c_X4_thrown G _ _) wv_L_89 rfl rfl (Nat.le_of_ble_eq_true rfl) (by decide) (pl_5 _) (Nat.le_of_ble_eq_true rfl) (by omega) (by omega) dL_law_1381 ?_
      refine pr_eqi (v := 1) (by simp [ms_thr, pa_us_self, h217, sc_kn, h1, h2]) ?_
      refine pr_iload (pc := 1384) Cx dL_law_1384 rfl ?_
      refine pr_icmp_eq (pc := 1386) Cx 1391 dL_law_1386 (by decide) (fun _ => ?_) (fun q => absurd rfl q)
      refine pr_iload (pc := 1391) Cx dL_law_1391 rfl ?_
      refine pr_if_ne (pc := 1393) Cx 1415 dL_law_1393 (by decide) (fun _ => ?_) (fun q => absurd q (by decide))
      refine pr_goto (pc := 1415) Cx 1718 dL_law_1415 (by decide) ?_
      refine pr_lo (lo' := lw_lo i) (by simp [pa_lle]) ?_
      exact lw_to hs (kk K N _ T z _ c _ _ (lw_R_235 h) (by omega) (Nat.le_of_eq (sj_ph_us (by decide)).symm) (by omega) (by omega))
    · skip
      obtain ⟨s2, hs2, es2⟩ := sc_nn2 (k := 9) (by decide) h2
      subst es2
      refine lw_of fun ad hs => ?_
      have Cx : pa_C G (lw_at x (K, S, N, O) ad) cL_law 7 RL 17 mc ms := lw_C C
      refine pr_aload_n (pc := 1343) Cx dL_law_1343 rfl ?_
      refine pr_arg (pc := 1344) Cx X hs (by omega) 1 (by decide) (by omega) rfl rfl dL_law_1344 dL_law_1345 dL_law_1347 dL_law_1348 dL_law_1349 ?_
      refine pr_eqi (v := (nI s1)) eA1.symm ?_
      refine pr_arg (pc := 1350) Cx X hs (by omega) 2 (by decide) (by omega) rfl rfl dL_law_1350 dL_law_1351 dL_law_1353 dL_law_1354 dL_law_1355 ?_
      refine pr_eqi (v := (nI s2)) eA2.symm ?_
      refine pr_aload_n (pc := 1356) Cx dL_law_1356 rfl ?_
      refine pr_callL (pc := 1357) (As := [pv_o 4 0, pv_i (nI s1), pv_i (nI s2), pv_o 9 0]) C hs (l_isSupportedY G _ K S N O (nI s1) (nI s2) (P := fun v K' N' => v = pz_b (ms_sup S s1 s2) ∧ lw_R K' N' T z (pa_us S 235 0 0) c) (c_X3_isSupportedY G _ K S S N O T T 0 z h.1 s1 s2 (by omega) (by omega)) (fun r h9 hp => ⟨_, K, N, hp.1, hp.2, pz_b01 _, rfl, h0⟩)) (fun r h9 hp9 => ⟨_, hp9.1⟩) wl_153 rfl rfl (Nat.le_of_ble_eq_true rfl) (by omega) (by omega) lw_lo_ok dL_law_1357 (fun k9 h9 hp9 => ?_)
      obtain ⟨ek, v9, K', N', rfl, rfl, hR⟩ := hp9
      obtain rfl : k9 = 0 := by cases ek; rfl
      refine lw_of fun ad hs => ?_
      have Cx : pa_C G (lw_at x (K', S, N', (pa_uo O (pz_b (ms_sup S s1 s2)).toInt64)) ad) cL_law 7 RL 17 mc ms := lw_C C
      refine pr_istore (pc := 1360) Cx dL_law_1360 (by decide) ?_
      refine pr_aload_n (pc := 1362) Cx dL_law_1362 rfl ?_
      refine pr_arg (pc := 1363) Cx X hs (by omega) 1 (by decide) (by omega) rfl rfl dL_law_1363 dL_law_1364 dL_law_1366 dL_law_1367 dL_law_1368 ?_
      refine pr_eqi (v := (nI s1)) eA1.symm ?_
      refine pr_arg (pc := 1369) Cx X hs (by omega) 2 (by decide) (by omega) rfl rfl dL_law_1369 dL_law_1370 dL_law_1372 dL_law_1373 dL_law_1374 ?_
      refine pr_eqi (v := (nI s2)) eA2.symm ?_
      refine pr_vR (pc := 1375) Cx (c_X4_isSupportedY G _ (K', S, N', (pa_uo O (pz_b (ms_sup S s1 s2)).toInt64)) s1 s2 (by omega) (by omega)) wv_L_155 rfl rfl (Nat.le_of_ble_eq_true rfl) (by decide) (pl_5 _) (Nat.le_of_ble_eq_true rfl) (by omega) (by omega) dL_law_1375 ?_
      have hB9 : pz_b (ms_sup S s1 s2) = 0 ∨ pz_b (ms_sup S s1 s2) = 1 := pz_b01 _
      refine pr_istore (pc := 1378) Cx dL_law_1378 (by decide) ?_
      refine pr_aload_n (pc := 1380) Cx dL_law_1380 rfl ?_
      refine pr_vP (pc := 1381) Cx (c_X4_thrown G _ _) wv_L_89 rfl rfl (Nat.le_of_ble_eq_true rfl) (by decide) (pl_5 _) (Nat.le_of_ble_eq_true rfl) (by omega) (by omega) dL_law_1381 ?_
      refine pr_eqi (v := 0) (by show pa_us S 235 0 0 235 0 = 0; exact pa_us_self _ _ _ _) ?_
      refine pr_iload (pc := 1384) Cx dL_law_1384 rfl ?_
      refine pr_icmp_eq (pc := 1386) Cx 1391 dL_law_1386 (by decide) (fun _ => ?_) (fun q => absurd rfl q)
      refine pr_iload (pc := 1391) Cx dL_law_1391 rfl ?_
      refine pr_if_ne (pc := 1393) Cx 1415 dL_law_1393 (by decide) (fun q => absurd rfl q) (fun _ => ?_)
      refine pr_aload_n (pc := 1396) Cx dL_law_1396 rfl ?_
      refine pr_iconst (pc := 1397) (v := 0) Cx dL_law_1397 (by decide) ?_
      refine pr_lald9 (pc := 1398) Cx rfl dL_law_1398 ?_
      refine pr_iload (pc := 1399) Cx dL_law_1399 rfl ?_
      rcases hB9 with hB9 | hB9
      · skip
        refine pr_if_eq (pc := 1401) Cx 1408 dL_law_1401 (by decide) (fun _ => ?_) (fun q => absurd hB9 q)
        refine pr_lconst (pc := 1408) (v := 0) Cx dL_law_1408 (by decide) ?_
        refine pr_lcmp (pc := 1409) Cx dL_law_1409 ?_
        refine pr_if_eq (pc := 1410) Cx 1415 dL_law_1410 (by decide) (fun _ => ?_) (fun q => absurd (show lg_cmp (pz_b (ms_sup S s1 s2)).toInt64 0 = 0 by rw [hB9]; exact lw_cmp0 _) q)
        refine pr_goto (pc := 1415) Cx 1718 dL_law_1415 (by decide) ?_
        refine pr_lo (lo' := lw_lo i) (by simp [pa_lle]) ?_
        exact lw_to hs (kk K' N' _ T z (pa_us S 235 0 0) c _ _ hR (by omega) (Nat.le_of_eq (sj_ph_us (by decide)).symm) (by omega) (by omega))
      · skip
        refine pr_if_eq (pc := 1401) Cx 1408 dL_law_1401 (by decide) (fun q => absurd (hB9.symm.trans q) (by decide)) (fun _ => ?_)
        refine pr_lconst (pc := 1404) (v := 1) Cx dL_law_1404 (by decide) ?_
        refine pr_goto (pc := 1405) Cx 1409 dL_law_1405 (by decide) ?_
        refine pr_lcmp (pc := 1409) Cx dL_law_1409 ?_
        refine pr_if_eq (pc := 1410) Cx 1415 dL_law_1410 (by decide) (fun _ => ?_) (fun q => absurd (show lg_cmp (pz_b (ms_sup S s1 s2)).toInt64 1 = 0 by rw [hB9]; exact lw_cmp0 _) q)
        refine pr_goto (pc := 1415) Cx 1718 dL_law_1415 (by decide) ?_
        refine pr_lo (lo' := lw_lo i) (by simp [pa_lle]) ?_
        exact lw_to hs (kk K' N' _ T z (pa_us S 235 0 0) c _ _ hR (by omega) (Nat.le_of_eq (sj_ph_us (by decide)).symm) (by omega) (by omega))
set_option maxRecDepth 100000 in
set_option maxHeartbeats 4000000 in
theorem lb_lies {G : pa_G} {x : pa_X} {scr L mc ms i a b : Nat} {xs : Nat → Int32} {K : Nat → Nat → Nat → Int32} {N : Nat → Nat} {T : Nat} {z : sj_Z} {S : Nat → Nat → Int32} {c : Nat} {O : Nat → Int64} (hl9 : x.2.1.stackTraces = false) (C : pa_C G x cL_law 7 RL 17 mc ms) (X : lw_X G x scr L xs) (hL : L ≤ 3584) (hi : i + 7 ≤ L) (h : lw_R K N T z S c) (hc : c + 22 < 30000) (ha : a + 2000 ≤ mc) (hb : b + 900000 ≤ ms)
    (kk : ∀ (K' : Nat → Nat → Nat → Int32) (N' : Nat → Nat) (O' : Nat → Int64) (T' : Nat) (z' : sj_Z) (S' : Nat → Nat → Int32) (c' a' b' : Nat), lw_R K' N' T' z' S' c' → c' ≤ c + 20 → sj_ph S T ≤ sj_ph S' T' → a' ≤ a + 2 * (sj_ph S' T' - sj_ph S T) + 4 → b' ≤ b + 1520 * (sj_ph S' T' - sj_ph S T) + 1600 → lw_w G x scr 7 (K', S', N', O') a' b' 1718 (lw_lo i) []) : lw_w G x scr 7 (K, S, N, O) a b 1418 (lw_lo i) [] := by
  have hM := h.2.1.1
  have hJ := h.2.1.2.1
  have hT := hM.1.1
  have h217 : S 217 0 = nI T := hM.1.2.1
  have h0 := lw_R_235 (v := 0) h
  obtain ⟨A1, eA1⟩ : ∃ v, v = xs (i + 1) := ⟨_, rfl⟩
  rcases h1 : ms_in A1 0 3 with _ | _
  · -- badly told
    refine lw_of fun ad hs => ?_
    have Cx : pa_C G (lw_at x (K, S, N, O) ad) cL_law 7 RL 17 mc ms := lw_C C
    refine pr_aload_n (pc := 1418) Cx dL_law_1418 rfl ?_
    refine pr_arg (pc := 1419) Cx X hs (by omega) 1 (by decide) (by omega) rfl rfl dL_law_1419 dL_law_1420 dL_law_1422 dL_law_1423 dL_law_1424 ?_
    refine pr_eqi (v := A1) eA1.symm ?_
    refine pr_aload_n (pc := 1425) Cx dL_law_1425 rfl ?_
    refine pr_callL (pc := 1426) (As := [pv_o 4 0, pv_i A1, pv_o 9 0]) C hs (l_liesX1 (al' := false) G _ K S N O A1 (c_X3_liesX1 G _ K S S N O T T 0 z hl9 h.1 A1 h1)) (fun r h9 hp9 => ⟨_, hp9.1⟩) wl_156 rfl rfl (Nat.le_of_ble_eq_true rfl) (by omega) (by omega) lw_lo_ok dL_law_1426 (fun k9 h9 hp9 => ?_)
    obtain ⟨ek, rfl⟩ := hp9
    obtain rfl : k9 = 1 := by cases ek; rfl
    refine lw_of fun ad hs => ?_
    have Cx : pa_C G (lw_at x (K, S, N, O) ad) cL_law 7 RL 17 mc ms := lw_C C
    refine pr_istore (pc := 1429) Cx dL_law_1429 (by decide) ?_
    refine pr_aload_n (pc := 1431) Cx dL_law_1431 rfl ?_
    refine pr_arg (pc := 1432) Cx X hs (by omega) 1 (by decide) (by omega) rfl rfl dL_law_1432 dL_law_1433 dL_law_1435 dL_law_1436 dL_law_1437 ?_
    refine pr_eqi (v := A1) eA1.symm ?_
    refine pr_vR (pc := 1438) Cx (c_X4_liesN G _ (K, S, N, O) A1 (by simp [h217, sc_kn, h1])) wv_L_158 rfl rfl (Nat.le_of_ble_eq_true rfl) (by decide) (pl_5 _) (Nat.le_of_ble_eq_true rfl) (by omega) (by omega) dL_law_1438 ?_
    refine pr_istore (pc := 1441) Cx dL_law_1441 (by decide) ?_
    refine pr_aload_n (pc := 1443) Cx dL_law_1443 rfl ?_
    refine pr_vP (pc := 1444) Cx (c_X4_thrown G _ _) wv_L_89 rfl rfl (Nat.le_of_ble_eq_true rfl) (by decide) (pl_5 _) (Nat.le_of_ble_eq_true rfl) (by omega) (by omega) dL_law_1444 ?_
    refine pr_eqi (v := 1) (by simp [ms_thr, pa_us_self, h217, sc_kn, h1]) ?_
    refine pr_iload (pc := 1447) Cx dL_law_1447 rfl ?_
    refine pr_icmp_eq (pc := 1449) Cx 1454 dL_law_1449 (by decide) (fun _ => ?_) (fun q => absurd rfl q)
    refine pr_iload (pc := 1454) Cx dL_law_1454 rfl ?_
    refine pr_if_ne (pc := 1456) Cx 1471 dL_law_1456 (by decide) (fun _ => ?_) (fun q => absurd q (by decide))
    refine pr_goto (pc := 1471) Cx 1718 dL_law_1471 (by decide) ?_
    refine pr_lo (lo' := lw_lo i) (by simp [pa_lle]) ?_
    exact lw_to hs (kk K N _ T z _ c _ _ (lw_R_235 h) (by omega) (Nat.le_of_eq (sj_ph_us (by decide)).symm) (by omega) (by omega))
  · skip
    obtain ⟨s1, hs1, es1⟩ := sc_nn2 (k := 3) (by decide) h1
    subst es1
    refine lw_of fun ad hs => ?_
    have Cx : pa_C G (lw_at x (K, S, N, O) ad) cL_law 7 RL 17 mc ms := lw_C C
    refine pr_aload_n (pc := 1418) Cx dL_law_1418 rfl ?_
    refine pr_arg (pc := 1419) Cx X hs (by omega) 1 (by decide) (by omega) rfl rfl dL_law_1419 dL_law_1420 dL_law_1422 dL_law_1423 dL_law_1424 ?_
    refine pr_eqi (v := (nI s1)) eA1.symm ?_
    refine pr_aload_n (pc := 1425) Cx dL_law_1425 rfl ?_
    refine pr_callL (pc := 1426) (As := [pv_o 4 0, pv_i (nI s1), pv_o 9 0]) C hs (l_liesY G _ K S N O (nI s1) (P := fun v K' N' => v = S 212 s1 ∧ lw_R K' N' T z (pa_us S 235 0 0) c) (c_X3_liesY G _ K S S N O T T 0 z h.1 s1 (by omega)) (fun r h9 hp => ⟨_, K, N, hp.1, hp.2, rfl, h0⟩)) (fun r h9 hp9 => ⟨_, hp9.1⟩) wl_156 rfl rfl (Nat.le_of_ble_eq_true rfl) (by omega) (by omega) lw_lo_ok dL_law_1426 (fun k9 h9 hp9 => ?_)
    obtain ⟨ek, v9, K', N', rfl, rfl, hR⟩ := hp9
    obtain rfl : k9 = 0 := by cases ek; rfl
    refine lw_of fun ad hs => ?_
    have Cx : pa_C G (lw_at x (K', S, N', (pa_uo O (S 212 s1).toInt64)) ad) cL_law 7 RL 17 mc ms := lw_C C
    refine pr_istore (pc := 1429) Cx dL_law_1429 (by decide) ?_
    refine pr_aload_n (pc := 1431) Cx dL_law_1431 rfl ?_
    refine pr_arg (pc := 1432) Cx X hs (by omega) 1 (by decide) (by omega) rfl rfl dL_law_1432 dL_law_1433 dL_law_1435 dL_law_1436 dL_law_1437 ?_
    refine pr_eqi (v := (nI s1)) eA1.symm ?_
    refine pr_vR (pc := 1438) Cx (c_X4_liesY G _ (K', S, N', (pa_uo O (S 212 s1).toInt64)) s1 (by omega)) wv_L_158 rfl rfl (Nat.le_of_ble_eq_true rfl) (by decide) (pl_5 _) (Nat.le_of_ble_eq_true rfl) (by omega) (by omega) dL_law_1438 ?_
    refine pr_istore (pc := 1441) Cx dL_law_1441 (by decide) ?_
    refine pr_aload_n (pc := 1443) Cx dL_law_1443 rfl ?_
    refine pr_vP (pc := 1444) Cx (c_X4_thrown G _ _) wv_L_89 rfl rfl (Nat.le_of_ble_eq_true rfl) (by decide) (pl_5 _) (Nat.le_of_ble_eq_true rfl) (by omega) (by omega) dL_law_1444 ?_
    refine pr_eqi (v := 0) (by show pa_us S 235 0 0 235 0 = 0; exact pa_us_self _ _ _ _) ?_
    refine pr_iload (pc := 1447) Cx dL_law_1447 rfl ?_
    refine pr_icmp_eq (pc := 1449) Cx 1454 dL_law_1449 (by decide) (fun _ => ?_) (fun q => absurd rfl q)
    refine pr_iload (pc := 1454) Cx dL_law_1454 rfl ?_
    refine pr_if_ne (pc := 1456) Cx 1471 dL_law_1456 (by decide) (fun q => absurd rfl q) (fun _ => ?_)
    refine pr_aload_n (pc := 1459) Cx dL_law_1459 rfl ?_
    refine pr_iconst (pc := 1460) (v := 0) Cx dL_law_1460 (by decide) ?_
    refine pr_lald9 (pc := 1461) Cx rfl dL_law_1461 ?_
    refine pr_iload (pc := 1462) Cx dL_law_1462 rfl ?_
    refine pr_i2l (pc := 1464) Cx dL_law_1464 ?_
    refine pr_lcmp (pc := 1465) Cx dL_law_1465 ?_
    refine pr_if_eq (pc := 1466) Cx 1471 dL_law_1466 (by decide) (fun _ => ?_) (fun q => absurd (lw_cmp0 _) q)
    refine pr_goto (pc := 1471) Cx 1718 dL_law_1471 (by decide) ?_
    refine pr_lo (lo' := lw_lo i) (by simp [pa_lle]) ?_
    exact lw_to hs (kk K' N' _ T z (pa_us S 235 0 0) c _ _ hR (by omega) (Nat.le_of_eq (sj_ph_us (by decide)).symm) (by omega) (by omega))
set_option maxRecDepth 100000 in
set_option maxHeartbeats 4000000 in
theorem lb_owner {G : pa_G} {x : pa_X} {scr L mc ms i a b : Nat} {xs : Nat → Int32} {K : Nat → Nat → Nat → Int32} {N : Nat → Nat} {T : Nat} {z : sj_Z} {S : Nat → Nat → Int32} {c : Nat} {O : Nat → Int64} (hl9 : x.2.1.stackTraces = false) (C : pa_C G x cL_law 7 RL 17 mc ms) (X : lw_X G x scr L xs) (hL : L ≤ 3584) (hi : i + 7 ≤ L) (h : lw_R K N T z S c) (hc : c + 22 < 30000) (ha : a + 2000 ≤ mc) (hb : b + 900000 ≤ ms)
    (kk : ∀ (K' : Nat → Nat → Nat → Int32) (N' : Nat → Nat) (O' : Nat → Int64) (T' : Nat) (z' : sj_Z) (S' : Nat → Nat → Int32) (c' a' b' : Nat), lw_R K' N' T' z' S' c' → c' ≤ c + 20 → sj_ph S T ≤ sj_ph S' T' → a' ≤ a + 2 * (sj_ph S' T' - sj_ph S T) + 4 → b' ≤ b + 1520 * (sj_ph S' T' - sj_ph S T) + 1600 → lw_w G x scr 7 (K', S', N', O') a' b' 1718 (lw_lo i) []) : lw_w G x scr 7 (K, S, N, O) a b 1636 (lw_lo i) [] := by
  have hM := h.2.1.1
  have hJ := h.2.1.2.1
  have hT := hM.1.1
  have h217 : S 217 0 = nI T := hM.1.2.1
  have h0 := lw_R_235 (v := 0) h
  obtain ⟨A1, eA1⟩ : ∃ v, v = xs (i + 1) := ⟨_, rfl⟩
  rcases h1 : ms_in A1 0 7 with _ | _
  · -- badly told
    refine lw_of fun ad hs => ?_
    have Cx : pa_C G (lw_at x (K, S, N, O) ad) cL_law 7 RL 17 mc ms := lw_C C
    refine pr_aload_n (pc := 1636) Cx dL_law_1636 rfl ?_
    refine pr_arg (pc := 1637) Cx X hs (by omega) 1 (by decide) (by omega) rfl rfl dL_law_1637 dL_law_1638 dL_law_1640 dL_law_1641 dL_law_1642 ?_
    refine pr_eqi (v := A1) eA1.symm ?_
    refine pr_aload_n (pc := 1643) Cx dL_law_1643 rfl ?_
    refine pr_callL (pc := 1644) (As := [pv_o 4 0, pv_i A1, pv_o 9 0]) C hs (l_ownerX1 (al' := false) G _ K S N O A1 (c_X3_ownerX1 G _ K S S N O T T 0 z hl9 h.1 A1 h1)) (fun r h9 hp9 => ⟨_, hp9.1⟩) wl_173 rfl rfl (Nat.le_of_ble_eq_true rfl) (by omega) (by omega) lw_lo_ok dL_law_1644 (fun k9 h9 hp9 => ?_)
    obtain ⟨ek, rfl⟩ := hp9
    obtain rfl : k9 = 1 := by cases ek; rfl
    refine lw_of fun ad hs => ?_
    have Cx : pa_C G (lw_at x (K, S, N, O) ad) cL_law 7 RL 17 mc ms := lw_C C
    refine pr_istore (pc := 1647) Cx dL_law_1647 (by decide) ?_
    refine pr_aload_n (pc := 1649) Cx dL_law_1649 rfl ?_
    refine pr_arg (pc := 1650) Cx X hs (by omega) 1 (by decide) (by omega) rfl rfl dL_law_1650 dL_law_1651 dL_law_1653 dL_law_1654 dL_law_1655 ?_
    refine pr_eqi (v := A1) eA1.symm ?_
    refine pr_vR (pc := 1656) Cx (c_X4_ownerN G _ (K, S, N, O) A1 (by simp [h217, sc_kn, h1])) wv_L_175 rfl rfl (Nat.le_of_ble_eq_true rfl) (by decide) (pl_5 _) (Nat.le_of_ble_eq_true rfl) (by omega) (by omega) dL_law_1656 ?_
    refine pr_istore (pc := 1659) Cx dL_law_1659 (by decide) ?_
    refine pr_aload_n (pc := 1661) Cx dL_law_1661 rfl ?_
    refine pr_vP (pc := 1662) Cx (c_X4_thrown G _ _) wv_L_89 rfl rfl (Nat.le_of_ble_eq_true rfl) (by decide) (pl_5 _) (Nat.le_of_ble_eq_true rfl) (by omega) (by omega) dL_law_1662 ?_
    refine pr_eqi (v := 1) (by simp [ms_thr, pa_us_self, h217, sc_kn, h1]) ?_
    refine pr_iload (pc := 1665) Cx dL_law_1665 rfl ?_
    refine pr_icmp_eq (pc := 1667) Cx 1672 dL_law_1667 (by decide) (fun _ => ?_) (fun q => absurd rfl q)
    refine pr_iload (pc := 1672) Cx dL_law_1672 rfl ?_
    refine pr_if_ne (pc := 1674) Cx 1689 dL_law_1674 (by decide) (fun _ => ?_) (fun q => absurd q (by decide))
    refine pr_goto (pc := 1689) Cx 1718 dL_law_1689 (by decide) ?_
    refine pr_lo (lo' := lw_lo i) (by simp [pa_lle]) ?_
    exact lw_to hs (kk K N _ T z _ c _ _ (lw_R_235 h) (by omega) (Nat.le_of_eq (sj_ph_us (by decide)).symm) (by omega) (by omega))
  · skip
    obtain ⟨s1, hs1, es1⟩ := sc_nn2 (k := 7) (by decide) h1
    subst es1
    refine lw_of fun ad hs => ?_
    have Cx : pa_C G (lw_at x (K, S, N, O) ad) cL_law 7 RL 17 mc ms := lw_C C
    refine pr_aload_n (pc := 1636) Cx dL_law_1636 rfl ?_
    refine pr_arg (pc := 1637) Cx X hs (by omega) 1 (by decide) (by omega) rfl rfl dL_law_1637 dL_law_1638 dL_law_1640 dL_law_1641 dL_law_1642 ?_
    refine pr_eqi (v := (nI s1)) eA1.symm ?_
    refine pr_aload_n (pc := 1643) Cx dL_law_1643 rfl ?_
    refine pr_callL (pc := 1644) (As := [pv_o 4 0, pv_i (nI s1), pv_o 9 0]) C hs (l_ownerY G _ K S N O (nI s1) (P := fun v K' N' => v = S 213 s1 ∧ lw_R K' N' T z (pa_us S 235 0 0) c) (c_X3_ownerY G _ K S S N O T T 0 z h.1 s1 (by omega)) (fun r h9 hp => ⟨_, K, N, hp.1, hp.2, rfl, h0⟩)) (fun r h9 hp9 => ⟨_, hp9.1⟩) wl_173 rfl rfl (Nat.le_of_ble_eq_true rfl) (by omega) (by omega) lw_lo_ok dL_law_1644 (fun k9 h9 hp9 => ?_)
    obtain ⟨ek, v9, K', N', rfl, rfl, hR⟩ := hp9
    obtain rfl : k9 = 0 := by cases ek; rfl
    refine lw_of fun ad hs => ?_
    have Cx : pa_C G (lw_at x (K', S, N', (pa_uo O (S 213 s1).toInt64)) ad) cL_law 7 RL 17 mc ms := lw_C C
    refine pr_istore (pc := 1647) Cx dL_law_1647 (by decide) ?_
    refine pr_aload_n (pc := 1649) Cx dL_law_1649 rfl ?_
    refine pr_arg (pc := 1650) Cx X hs (by omega) 1 (by decide) (by omega) rfl rfl dL_law_1650 dL_law_1651 dL_law_1653 dL_law_1654 dL_law_1655 ?_
    refine pr_eqi (v := (nI s1)) eA1.symm ?_
    refine pr_vR (pc := 1656) Cx (c_X4_ownerY G _ (K', S, N', (pa_uo O (S 213 s1).toInt64)) s1 (by omega)) wv_L_175 rfl rfl (Nat.le_of_ble_eq_true rfl) (by decide) (pl_5 _) (Nat.le_of_ble_eq_true rfl) (by omega) (by omega) dL_law_1656 ?_
    refine pr_istore (pc := 1659) Cx dL_law_1659 (by decide) ?_
    refine pr_aload_n (pc := 1661) Cx dL_law_1661 rfl ?_
    refine pr_vP (pc := 1662) Cx (c_X4_thrown G _ _) wv_L_89 rfl rfl (Nat.le_of_ble_eq_true rfl) (by decide) (pl_5 _) (Nat.le_of_ble_eq_true rfl) (by omega) (by omega) dL_law_1662 ?_
    refine pr_eqi (v := 0) (by show pa_us S 235 0 0 235 0 = 0; exact pa_us_self _ _ _ _) ?_
    refine pr_iload (pc := 1665) Cx dL_law_1665 rfl ?_
    refine pr_icmp_eq (pc := 1667) Cx 1672 dL_law_1667 (by decide) (fun _ => ?_) (fun q => absurd rfl q)
    refine pr_iload (pc := 1672) Cx dL_law_1672 rfl ?_
    refine pr_if_ne (pc := 1674) Cx 1689 dL_law_1674 (by decide) (fun q => absurd rfl q) (fun _ => ?_)
    refine pr_aload_n (pc := 1677) Cx dL_law_1677 rfl ?_
    refine pr_iconst (pc := 1678) (v := 0) Cx dL_law_1678 (by decide) ?_
    refine pr_lald9 (pc := 1679) Cx rfl dL_law_1679 ?_
    refine pr_iload (pc := 1680) Cx dL_law_1680 rfl ?_
    refine pr_i2l (pc := 1682) Cx dL_law_1682 ?_
    refine pr_lcmp (pc := 1683) Cx dL_law_1683 ?_
    refine pr_if_eq (pc := 1684) Cx 1689 dL_law_1684 (by decide) (fun _ => ?_) (fun q => absurd (lw_cmp0 _) q)
    refine pr_goto (pc := 1689) Cx 1718 dL_law_1689 (by decide) ?_
    refine pr_lo (lo' := lw_lo i) (by simp [pa_lle]) ?_
    exact lw_to hs (kk K' N' _ T z (pa_us S 235 0 0) c _ _ hR (by omega) (Nat.le_of_eq (sj_ph_us (by decide)).symm) (by omega) (by omega))
