/-! THE LAW'S BLOCKS, second part -/
theorem wl_83 : pa_csw RL 83 mL_power hL_power 4 := ⟨pa_wi (by decide +kernel) rfl, pa_wi (by decide +kernel) rfl, pa_wi (by decide +kernel) rfl, pa_wi (by decide +kernel) rfl, by decide, by decide +kernel, by decide⟩
theorem wl_93 : pa_csw RL 93 mL_knows hL_knows 6 := ⟨pa_wi (by decide +kernel) rfl, pa_wi (by decide +kernel) rfl, pa_wi (by decide +kernel) rfl, pa_wi (by decide +kernel) rfl, by decide, by decide +kernel, by decide⟩
theorem wl_97 : pa_csw RL 97 mL_believe hL_believe 5 := ⟨pa_wi (by decide +kernel) rfl, pa_wi (by decide +kernel) rfl, pa_wi (by decide +kernel) rfl, pa_wi (by decide +kernel) rfl, by decide, by decide +kernel, by decide⟩
theorem wl_101 : pa_csw RL 101 mL_deafen hL_deafen 4 := ⟨pa_wi (by decide +kernel) rfl, pa_wi (by decide +kernel) rfl, pa_wi (by decide +kernel) rfl, pa_wi (by decide +kernel) rfl, by decide, by decide +kernel, by decide⟩
theorem wl_104 : pa_csw RL 104 mL_give hL_give 4 := ⟨pa_wi (by decide +kernel) rfl, pa_wi (by decide +kernel) rfl, pa_wi (by decide +kernel) rfl, pa_wi (by decide +kernel) rfl, by decide, by decide +kernel, by decide⟩
theorem wl_135 : pa_csw RL 135 mL_turn hL_turn 4 := ⟨pa_wi (by decide +kernel) rfl, pa_wi (by decide +kernel) rfl, pa_wi (by decide +kernel) rfl, pa_wi (by decide +kernel) rfl, by decide, by decide +kernel, by decide⟩
theorem wl_138 : pa_csw RL 138 mL_heard hL_heard 4 := ⟨pa_wi (by decide +kernel) rfl, pa_wi (by decide +kernel) rfl, pa_wi (by decide +kernel) rfl, pa_wi (by decide +kernel) rfl, by decide, by decide +kernel, by decide⟩
theorem wl_159 : pa_csw RL 159 mL_ground hL_ground 4 := ⟨pa_wi (by decide +kernel) rfl, pa_wi (by decide +kernel) rfl, pa_wi (by decide +kernel) rfl, pa_wi (by decide +kernel) rfl, by decide, by decide +kernel, by decide⟩
theorem lw_R_of {K K' : Nat → Nat → Nat → Int32} {N N' : Nat → Nat} {T c : Nat} {z : sj_Z} {S S' : Nat → Nat → Int32} (h : lw_R K N T z S c) (hs : sj_M K' N' T T z 0 S') (e : ∀ f, f ∈ 201 :: sc_Af → ∀ j, S' f j = S f j) : lw_R K' N' T z S' c :=
  ⟨hs, sc_A_of h.2.1 (fun f hf => e f (List.mem_cons_of_mem _ hf)), h.2.2.1, fun j hj => (h.2.2.2.1 j hj).trans (e 230 (by decide) j).symm, by rw [e 201 (by decide)]; exact h.2.2.2.2.1, fun p hp => (e 229 (by decide) p).trans (h.2.2.2.2.2 p hp)⟩
theorem sc_fr3 {v : Int32} : ms_in v (-1) 3 = (decide (v = -1) || ms_in v 0 3) := by
  have h : ∀ v : Int32, v.toInt = -1 ↔ v = -1 := fun v => ⟨fun h => Int32.toInt_inj.mp h, fun h => by rw [h]; rfl⟩
  unfold ms_in
  by_cases c : v = -1
  · subst c
    decide
  · have hc : v.toInt ≠ -1 := fun z => c ((h v).mp z)
    rw [decide_eq_false c, Bool.false_or]
    congr 1
    apply decide_eq_decide.mpr
    rw [Int32.le_iff_toInt_le, Int32.le_iff_toInt_le, show (-1 : Int32).toInt = -1 from rfl, show (0 : Int32).toInt = 0 from rfl]
    omega
theorem sc_fr3n {v : Int32} (h : ms_in v (-1) 3 = false) : v ≠ -1 ∧ ms_in v 0 3 = false := by
  rw [sc_fr3, Bool.or_eq_false_iff, decide_eq_false_iff_not] at h
  exact h
theorem sc_fr3y {v : Int32} (h : ms_in v (-1) 3 = true) : v = -1 ∨ ∃ k, k < 4 ∧ v = nI k := by
  rw [sc_fr3, Bool.or_eq_true, decide_eq_true_eq] at h
  rcases h with h | h
  · exact Or.inl h
  · obtain ⟨p, hp, e⟩ := sc_nn2 (k := 3) (by decide) h
    exact Or.inr ⟨p, by omega, e⟩
theorem sc_m20 {v : Int32} (h : ms_in v 1 20 = true) : ∃ m, 1 ≤ m ∧ m ≤ 20 ∧ v = nI m := by
  have h0 : ms_in v 0 (nI 20) = true := by
    unfold ms_in at h ⊢
    rw [Bool.and_eq_true, decide_eq_true_eq, decide_eq_true_eq] at h ⊢
    refine ⟨?_, h.2⟩
    have h1 := h.1
    rw [Int32.le_iff_toInt_le] at h1 ⊢
    rw [show (1 : Int32).toInt = 1 from rfl] at h1
    rw [show (0 : Int32).toInt = 0 from rfl]
    omega
  obtain ⟨p, hp, rfl⟩ := sc_nn2 (by decide) h0
  refine ⟨p, ?_, hp, rfl⟩
  rcases Nat.eq_zero_or_pos p with c | c
  · subst c
    exact absurd h (by decide)
  · exact c
theorem sc_act {T sp act of how set fr : Int32} (h : ms_told T sp act of how set fr = true) : ∃ a, a < 16 ∧ act = nI a := by
  have h1 : ms_in act 0 15 = true := by
    rw [← sc_told, Bool.and_eq_true, Bool.and_eq_true] at h
    have := h.2.2
    unfold sc_wtv at this
    rw [Bool.and_eq_true] at this
    exact this.1
  obtain ⟨p, hp, e⟩ := sc_nn2 (k := 15) (by decide) h1
  exact ⟨p, by omega, e⟩
theorem sc_canT {S : Nat → Nat → Int32} {T w a : Nat} {of how set : Int32} (h : ms_canSay S w a of how set = true) (hT : T ≤ 100) (h217 : S 217 0 = nI T) : T < 100 := by
  unfold ms_canSay at h
  simp only [Bool.and_eq_true, decide_eq_true_eq] at h
  have h2 := h.1.1.2
  rw [h217] at h2
  rcases Nat.lt_or_ge T 100 with c | c
  · exact c
  · have : T = 100 := by omega
    subst this
    exact absurd (by decide) h2
theorem lw_R_ref {K : Nat → Nat → Nat → Int32} {N : Nat → Nat} {T c : Nat} {z : sj_Z} {S : Nat → Nat → Int32} (h : lw_R K N T z S c) : ∀ i, i < 4 → z.2 i < 0 ∨ (z.2 i).toNatClampNeg < T := fun i hi => by
  have hM := h.2.1.1
  have hT := hM.1.1
  rw [h.2.2.2.1 i hi]
  rcases hM.2.2.1 i hi with e | ⟨t, ht, e⟩
  · left; rw [e]; decide
  · right; rw [e, show (nI t).toNatClampNeg = t from mn_nI (by omega)]; exact ht

set_option maxRecDepth 100000 in
set_option maxHeartbeats 4000000 in
theorem lb_power {G : pa_G} {x : pa_X} {scr L mc ms i a b : Nat} {xs : Nat → Int32} {K : Nat → Nat → Nat → Int32} {N : Nat → Nat} {T : Nat} {z : sj_Z} {S : Nat → Nat → Int32} {c : Nat} {O : Nat → Int64} (hl9 : x.2.1.stackTraces = false) (C : pa_C G x cL_law 7 RL 17 mc ms) (X : lw_X G x scr L xs) (hL : L ≤ 3584) (hi : i + 7 ≤ L) (h : lw_R K N T z S c) (hc : c + 22 < 30000) (ha : a + 2000 ≤ mc) (hb : b + 900000 ≤ ms)
    (kk : ∀ (K' : Nat → Nat → Nat → Int32) (N' : Nat → Nat) (O' : Nat → Int64) (T' : Nat) (z' : sj_Z) (S' : Nat → Nat → Int32) (c' a' b' : Nat), lw_R K' N' T' z' S' c' → c' ≤ c + 20 → sj_ph S T ≤ sj_ph S' T' → a' ≤ a + 2 * (sj_ph S' T' - sj_ph S T) + 4 → b' ≤ b + 1520 * (sj_ph S' T' - sj_ph S T) + 1600 → lw_w G x scr 7 (K', S', N', O') a' b' 1718 (lw_lo i) []) : lw_w G x scr 7 (K, S, N, O) a b 164 (lw_lo i) [] := by
  have hM := h.2.1.1
  have hJ := h.2.1.2.1
  have hT := hM.1.1
  have h217 : S 217 0 = nI T := hM.1.2.1
  have h0 := lw_R_235 (v := 0) h
  obtain ⟨A1, eA1⟩ : ∃ v, v = xs (i + 1) := ⟨_, rfl⟩
  obtain ⟨A2, eA2⟩ : ∃ v, v = xs (i + 2) := ⟨_, rfl⟩
  rcases h1 : ms_in A1 0 3 with _ | _
  · -- badly told
    refine lw_of fun ad hs => ?_
    have Cx : pa_C G (lw_at x (K, S, N, O) ad) cL_law 7 RL 17 mc ms := lw_C C
    refine pr_aload_n (pc := 164) Cx dL_law_164 rfl ?_
    refine pr_arg (pc := 165) Cx X hs (by omega) 1 (by decide) (by omega) rfl rfl dL_law_165 dL_law_166 dL_law_168 dL_law_169 dL_law_170 ?_
    refine pr_eqi (v := A1) eA1.symm ?_
    refine pr_arg (pc := 171) Cx X hs (by omega) 2 (by decide) (by omega) rfl rfl dL_law_171 dL_law_172 dL_law_174 dL_law_175 dL_law_176 ?_
    refine pr_eqi (v := A2) eA2.symm ?_
    refine pr_aload_n (pc := 177) Cx dL_law_177 rfl ?_
    refine pr_callL (pc := 178) (As := [pv_o 4 0, pv_i A1, pv_i A2, pv_o 9 0]) C hs (l_powerX1 (al' := false) G _ K S N O A1 A2 (c_X3_powerX1 G _ K S S N O T T 0 z hl9 h.1 A1 A2 h1)) (fun r h9 hp9 => ⟨_, hp9.1⟩) wl_83 rfl rfl (Nat.le_of_ble_eq_true rfl) (by omega) (by omega) lw_lo_ok dL_law_178 (fun k9 h9 hp9 => ?_)
    obtain ⟨ek, rfl⟩ := hp9
    obtain rfl : k9 = 1 := by cases ek; rfl
    refine lw_of fun ad hs => ?_
    have Cx : pa_C G (lw_at x (K, S, N, O) ad) cL_law 7 RL 17 mc ms := lw_C C
    refine pr_istore (pc := 181) Cx dL_law_181 (by decide) ?_
    refine pr_aload_n (pc := 183) Cx dL_law_183 rfl ?_
    refine pr_arg (pc := 184) Cx X hs (by omega) 1 (by decide) (by omega) rfl rfl dL_law_184 dL_law_185 dL_law_187 dL_law_188 dL_law_189 ?_
    refine pr_eqi (v := A1) eA1.symm ?_
    refine pr_arg (pc := 190) Cx X hs (by omega) 2 (by decide) (by omega) rfl rfl dL_law_190 dL_law_191 dL_law_193 dL_law_194 dL_law_195 ?_
    refine pr_eqi (v := A2) eA2.symm ?_
    refine pr_vR (pc := 196) Cx (c_X4_powerN G _ (K, S, N, O) A1 A2 (by simp [h217, sc_kn, h1])) wv_L_88 rfl rfl (Nat.le_of_ble_eq_true rfl) (by decide) (pl_5 _) (Nat.le_of_ble_eq_true rfl) (by omega) (by omega) dL_law_196 ?_
    refine pr_istore (pc := 199) Cx dL_law_199 (by decide) ?_
    refine pr_aload_n (pc := 201) Cx dL_law_201 rfl ?_
    refine pr_vP (pc := 202) Cx (c_X4_thrown G _ _) wv_L_89 rfl rfl (Nat.le_of_ble_eq_true rfl) (by decide) (pl_5 _) (Nat.le_of_ble_eq_true rfl) (by omega) (by omega) dL_law_202 ?_
    refine pr_eqi (v := 1) (by simp [ms_thr, pa_us_self, h217, sc_kn, h1]) ?_
    refine pr_iload (pc := 205) Cx dL_law_205 rfl ?_
    refine pr_icmp_eq (pc := 207) Cx 212 dL_law_207 (by decide) (fun _ => ?_) (fun q => absurd rfl q)
    refine pr_iload (pc := 212) Cx dL_law_212 rfl ?_
    refine pr_if_ne (pc := 214) Cx 229 dL_law_214 (by decide) (fun _ => ?_) (fun q => absurd q (by decide))
    refine pr_goto (pc := 229) Cx 1718 dL_law_229 (by decide) ?_
    refine pr_lo (lo' := lw_lo i) (by simp [pa_lle]) ?_
    exact lw_to hs (kk K N _ T z _ c _ _ (lw_R_235 h) (by omega) (Nat.le_of_eq (sj_ph_us (by decide)).symm) (by omega) (by omega))
  · skip
    obtain ⟨s1, hs1, es1⟩ := sc_nn2 (k := 3) (by decide) h1
    subst es1
    rcases h2 : ms_in A2 0 9 with _ | _
    · -- badly told
      refine lw_of fun ad hs => ?_
      have Cx : pa_C G (lw_at x (K, S, N, O) ad) cL_law 7 RL 17 mc ms := lw_C C
      refine pr_aload_n (pc := 164) Cx dL_law_164 rfl ?_
      refine pr_arg (pc := 165) Cx X hs (by omega) 1 (by decide) (by omega) rfl rfl dL_law_165 dL_law_166 dL_law_168 dL_law_169 dL_law_170 ?_
      refine pr_eqi (v := (nI s1)) eA1.symm ?_
      refine pr_arg (pc := 171) Cx X hs (by omega) 2 (by decide) (by omega) rfl rfl dL_law_171 dL_law_172 dL_law_174 dL_law_175 dL_law_176 ?_
      refine pr_eqi (v := A2) eA2.symm ?_
      refine pr_aload_n (pc := 177) Cx dL_law_177 rfl ?_
      refine pr_callL (pc := 178) (As := [pv_o 4 0, pv_i (nI s1), pv_i A2, pv_o 9 0]) C hs (l_powerX2 (al' := false) G _ K S N O (nI s1) A2 (c_X3_powerX2 G _ K S S N O T T 0 z hl9 h.1 s1 A2 (by omega) h2)) (fun r h9 hp9 => ⟨_, hp9.1⟩) wl_83 rfl rfl (Nat.le_of_ble_eq_true rfl) (by omega) (by omega) lw_lo_ok dL_law_178 (fun k9 h9 hp9 => ?_)
      obtain ⟨ek, rfl⟩ := hp9
      obtain rfl : k9 = 2 := by cases ek; rfl
      refine lw_of fun ad hs => ?_
      have Cx : pa_C G (lw_at x (K, S, N, O) ad) cL_law 7 RL 17 mc ms := lw_C C
      refine pr_istore (pc := 181) Cx dL_law_181 (by decide) ?_
      refine pr_aload_n (pc := 183) Cx dL_law_183 rfl ?_
      refine pr_arg (pc := 184) Cx X hs (by omega) 1 (by decide) (by omega) rfl rfl dL_law_184 dL_law_185 dL_law_187 dL_law_188 dL_law_189 ?_
      refine pr_eqi (v := (nI s1)) eA1.symm ?_
      refine pr_arg (pc := 190) Cx X hs (by omega) 2 (by decide) (by omega) rfl rfl dL_law_190 dL_law_191 dL_law_193 dL_law_194 dL_law_195 ?_
      refine pr_eqi (v := A2) eA2.symm ?_
      refine pr_vR (pc := 196) Cx (c_X4_powerN G _ (K, S, N, O) (nI s1) A2 (by simp [h217, sc_kn, h1, h2])) wv_L_88 rfl rfl (Nat.le_of_ble_eq_true rfl) (by decide) (pl_5 _) (Nat.le_of_ble_eq_true rfl) (by omega) (by omega) dL_law_196 ?_
      refine pr_istore (pc := 199) Cx dL_law_199 (by decide) ?_
      refine pr_aload_n (pc := 201) Cx dL_law_201 rfl ?_
      refine pr_vP (pc := 202) Cx (c_X4_thrown G _ _) wv_L_89 rfl rfl (Nat.le_of_ble_eq_true rfl) (by decide) (pl_5 _) (Nat.le_of_ble_eq_true rfl) (by omega) (by omega) dL_law_202 ?_
      refine pr_eqi (v := 2) (by simp [ms_thr, pa_us_self, h217, sc_kn, h1, h2]) ?_
      refine pr_iload (pc := 205) Cx dL_law_205 rfl ?_
      refine pr_icmp_eq (pc := 207) Cx 212 dL_law_207 (by decide) (fun _ => ?_) (fun q => absurd rfl q)
      refine pr_iload (pc := 212) Cx dL_law_212 rfl ?_
      refine pr_if_ne (pc := 214) Cx 229 dL_law_214 (by decide) (fun _ => ?_) (fun q => absurd q (by decide))
      refine pr_goto (pc := 229) Cx 1718 dL_law_229 (by decide) ?_
      refine pr_lo (lo' := lw_lo i) (by simp [pa_lle]) ?_
      exact lw_to hs (kk K N _ T z _ c _ _ (lw_R_235 h) (by omega) (Nat.le_of_eq (sj_ph_us (by decide)).symm) (by omega) (by omega))
    · skip
      obtain ⟨s2, hs2, es2⟩ := sc_nn2 (k := 9) (by decide) h2
      subst es2
      refine lw_of fun ad hs => ?_
      have Cx : pa_C G (lw_at x (K, S, N, O) ad) cL_law 7 RL 17 mc ms := lw_C C
      refine pr_aload_n (pc := 164) Cx dL_law_164 rfl ?_
      refine pr_arg (pc := 165) Cx X hs (by omega) 1 (by decide) (by omega) rfl rfl dL_law_165 dL_law_166 dL_law_168 dL_law_169 dL_law_170 ?_
      refine pr_eqi (v := (nI s1)) eA1.symm ?_
      refine pr_arg (pc := 171) Cx X hs (by omega) 2 (by decide) (by omega) rfl rfl dL_law_171 dL_law_172 dL_law_174 dL_law_175 dL_law_176 ?_
      refine pr_eqi (v := (nI s2)) eA2.symm ?_
      refine pr_aload_n (pc := 177) Cx dL_law_177 rfl ?_
      refine pr_callL (pc := 178) (As := [pv_o 4 0, pv_i (nI s1), pv_i (nI s2), pv_o 9 0]) C hs (l_powerY G _ K S N O (nI s1) (nI s2) (P := fun v K' N' => v = S 202 s1 ∧ lw_R K' N' T z (pa_us (pa_us S 235 0 0) 202 s1 (nI s2)) c) (c_X3_powerY G _ K S (pa_us S 235 0 0) N O T T 0 z h0.1 s1 (nI s2) (by omega) h2) (fun r h9 ⟨e1, K', N', e2, hs9⟩ => ⟨_, K', N', e1, e2, pa_us_ne (by decide), lw_R_us h0 hs9 (by decide) (by decide)⟩)) (fun r h9 hp9 => ⟨_, hp9.1⟩) wl_83 rfl rfl (Nat.le_of_ble_eq_true rfl) (by omega) (by omega) lw_lo_ok dL_law_178 (fun k9 h9 hp9 => ?_)
      obtain ⟨ek, v9, K', N', rfl, rfl, hR⟩ := hp9
      obtain rfl : k9 = 0 := by cases ek; rfl
      refine lw_of fun ad hs => ?_
      have Cx : pa_C G (lw_at x (K', S, N', (pa_uo O (S 202 s1).toInt64)) ad) cL_law 7 RL 17 mc ms := lw_C C
      refine pr_istore (pc := 181) Cx dL_law_181 (by decide) ?_
      refine pr_aload_n (pc := 183) Cx dL_law_183 rfl ?_
      refine pr_arg (pc := 184) Cx X hs (by omega) 1 (by decide) (by omega) rfl rfl dL_law_184 dL_law_185 dL_law_187 dL_law_188 dL_law_189 ?_
      refine pr_eqi (v := (nI s1)) eA1.symm ?_
      refine pr_arg (pc := 190) Cx X hs (by omega) 2 (by decide) (by omega) rfl rfl dL_law_190 dL_law_191 dL_law_193 dL_law_194 dL_law_195 ?_
      refine pr_eqi (v := (nI s2)) eA2.symm ?_
      refine pr_vR (pc := 196) Cx (c_X4_powerY G _ (K', S, N', (pa_uo O (S 202 s1).toInt64)) s1 s2 (by omega) (by omega)) wv_L_88 rfl rfl (Nat.le_of_ble_eq_true rfl) (by decide) (pl_5 _) (Nat.le_of_ble_eq_true rfl) (by omega) (by omega) dL_law_196 ?_
      refine pr_istore (pc := 199) Cx dL_law_199 (by decide) ?_
      refine pr_aload_n (pc := 201) Cx dL_law_201 rfl ?_
      refine pr_vP (pc := 202) Cx (c_X4_thrown G _ _) wv_L_89 rfl rfl (Nat.le_of_ble_eq_true rfl) (by decide) (pl_5 _) (Nat.le_of_ble_eq_true rfl) (by omega) (by omega) dL_law_202 ?_
      refine pr_eqi (v := 0) (by show pa_us (pa_us S 235 0 0) 202 s1 (nI s2) 235 0 = 0; rw [pa_us_ne (by decide), pa_us_self]) ?_
      refine pr_iload (pc := 205) Cx dL_law_205 rfl ?_
      refine pr_icmp_eq (pc := 207) Cx 212 dL_law_207 (by decide) (fun _ => ?_) (fun q => absurd rfl q)
      refine pr_iload (pc := 212) Cx dL_law_212 rfl ?_
      refine pr_if_ne (pc := 214) Cx 229 dL_law_214 (by decide) (fun q => absurd rfl q) (fun _ => ?_)
      refine pr_aload_n (pc := 217) Cx dL_law_217 rfl ?_
      refine pr_iconst (pc := 218) (v := 0) Cx dL_law_218 (by decide) ?_
      refine pr_lald9 (pc := 219) Cx rfl dL_law_219 ?_
      refine pr_iload (pc := 220) Cx dL_law_220 rfl ?_
      refine pr_i2l (pc := 222) Cx dL_law_222 ?_
      refine pr_lcmp (pc := 223) Cx dL_law_223 ?_
      refine pr_if_eq (pc := 224) Cx 229 dL_law_224 (by decide) (fun _ => ?_) (fun q => absurd (lw_cmp0 _) q)
      refine pr_goto (pc := 229) Cx 1718 dL_law_229 (by decide) ?_
      refine pr_lo (lo' := lw_lo i) (by simp [pa_lle]) ?_
      exact lw_to hs (kk K' N' _ T z (pa_us (pa_us S 235 0 0) 202 s1 (nI s2)) c _ _ hR (by omega) (Nat.le_of_eq ((sj_ph_us (by decide)).trans (sj_ph_us (by decide))).symm) (by omega) (by omega))
set_option maxRecDepth 100000 in
set_option maxHeartbeats 4000000 in
theorem lb_believe {G : pa_G} {x : pa_X} {scr L mc ms i a b : Nat} {xs : Nat → Int32} {K : Nat → Nat → Nat → Int32} {N : Nat → Nat} {T : Nat} {z : sj_Z} {S : Nat → Nat → Int32} {c : Nat} {O : Nat → Int64} (hl9 : x.2.1.stackTraces = false) (C : pa_C G x cL_law 7 RL 17 mc ms) (X : lw_X G x scr L xs) (hL : L ≤ 3584) (hi : i + 7 ≤ L) (h : lw_R K N T z S c) (hc : c + 22 < 30000) (ha : a + 2000 ≤ mc) (hb : b + 900000 ≤ ms)
    (kk : ∀ (K' : Nat → Nat → Nat → Int32) (N' : Nat → Nat) (O' : Nat → Int64) (T' : Nat) (z' : sj_Z) (S' : Nat → Nat → Int32) (c' a' b' : Nat), lw_R K' N' T' z' S' c' → c' ≤ c + 20 → sj_ph S T ≤ sj_ph S' T' → a' ≤ a + 2 * (sj_ph S' T' - sj_ph S T) + 4 → b' ≤ b + 1520 * (sj_ph S' T' - sj_ph S T) + 1600 → lw_w G x scr 7 (K', S', N', O') a' b' 1718 (lw_lo i) []) : lw_w G x scr 7 (K, S, N, O) a b 340 (lw_lo i) [] := by
  have hM := h.2.1.1
  have hJ := h.2.1.2.1
  have hT := hM.1.1
  have h217 : S 217 0 = nI T := hM.1.2.1
  have h0 := lw_R_235 (v := 0) h
  obtain ⟨A1, eA1⟩ : ∃ v, v = xs (i + 1) := ⟨_, rfl⟩
  obtain ⟨A2, eA2⟩ : ∃ v, v = xs (i + 2) := ⟨_, rfl⟩
  obtain ⟨A3, eA3⟩ : ∃ v, v = xs (i + 3) := ⟨_, rfl⟩
  rcases h1 : ms_in A1 0 3 with _ | _
  · -- badly told
    refine lw_of fun ad hs => ?_
    have Cx : pa_C G (lw_at x (K, S, N, O) ad) cL_law 7 RL 17 mc ms := lw_C C
    refine pr_aload_n (pc := 340) Cx dL_law_340 rfl ?_
    refine pr_arg (pc := 341) Cx X hs (by omega) 1 (by decide) (by omega) rfl rfl dL_law_341 dL_law_342 dL_law_344 dL_law_345 dL_law_346 ?_
    refine pr_eqi (v := A1) eA1.symm ?_
    refine pr_arg (pc := 347) Cx X hs (by omega) 2 (by decide) (by omega) rfl rfl dL_law_347 dL_law_348 dL_law_350 dL_law_351 dL_law_352 ?_
    refine pr_eqi (v := A2) eA2.symm ?_
    refine pr_arg (pc := 353) Cx X hs (by omega) 3 (by decide) (by omega) rfl rfl dL_law_353 dL_law_354 dL_law_356 dL_law_357 dL_law_358 ?_
    refine pr_eqi (v := A3) eA3.symm ?_
    refine pr_aload_n (pc := 359) Cx dL_law_359 rfl ?_
    refine pr_callL (pc := 360) (As := [pv_o 4 0, pv_i A1, pv_i A2, pv_i A3, pv_o 9 0]) C hs (l_believeX1 (al' := false) G _ K S N O A1 A2 A3 (c_X3_believeX1 G _ K S S N O T T 0 z hl9 h.1 A1 A2 A3 h1)) (fun r h9 hp9 => ⟨_, hp9.1⟩) wl_97 rfl rfl (Nat.le_of_ble_eq_true rfl) (by omega) (by omega) lw_lo_ok dL_law_360 (fun k9 h9 hp9 => ?_)
    obtain ⟨ek, rfl⟩ := hp9
    obtain rfl : k9 = 1 := by cases ek; rfl
    refine lw_of fun ad hs => ?_
    have Cx : pa_C G (lw_at x (K, S, N, O) ad) cL_law 7 RL 17 mc ms := lw_C C
    refine pr_istore (pc := 363) Cx dL_law_363 (by decide) ?_
    refine pr_aload_n (pc := 365) Cx dL_law_365 rfl ?_
    refine pr_arg (pc := 366) Cx X hs (by omega) 1 (by decide) (by omega) rfl rfl dL_law_366 dL_law_367 dL_law_369 dL_law_370 dL_law_371 ?_
    refine pr_eqi (v := A1) eA1.symm ?_
    refine pr_arg (pc := 372) Cx X hs (by omega) 2 (by decide) (by omega) rfl rfl dL_law_372 dL_law_373 dL_law_375 dL_law_376 dL_law_377 ?_
    refine pr_eqi (v := A2) eA2.symm ?_
    refine pr_arg (pc := 378) Cx X hs (by omega) 3 (by decide) (by omega) rfl rfl dL_law_378 dL_law_379 dL_law_381 dL_law_382 dL_law_383 ?_
    refine pr_eqi (v := A3) eA3.symm ?_
    refine pr_vR (pc := 384) Cx (c_X4_believeN G _ (K, S, N, O) A1 A2 A3 (by simp [h217, sc_kn, h1])) wv_L_100 rfl rfl (Nat.le_of_ble_eq_true rfl) (by decide) (pl_5 _) (Nat.le_of_ble_eq_true rfl) (by omega) (by omega) dL_law_384 ?_
    refine pr_istore (pc := 387) Cx dL_law_387 (by decide) ?_
    refine pr_aload_n (pc := 389) Cx dL_law_389 rfl ?_
    refine pr_vP (pc := 390) Cx (c_X4_thrown G _ _) wv_L_89 rfl rfl (Nat.le_of_ble_eq_true rfl) (by decide) (pl_5 _) (Nat.le_of_ble_eq_true rfl) (by omega) (by omega) dL_law_390 ?_
    refine pr_eqi (v := 1) (by simp [ms_thr, pa_us_self, h217, sc_kn, h1]) ?_
    refine pr_iload (pc := 393) Cx dL_law_393 rfl ?_
    refine pr_icmp_eq (pc := 395) Cx 400 dL_law_395 (by decide) (fun _ => ?_) (fun q => absurd rfl q)
    refine pr_iload (pc := 400) Cx dL_law_400 rfl ?_
    refine pr_if_ne (pc := 402) Cx 417 dL_law_402 (by decide) (fun _ => ?_) (fun q => absurd q (by decide))
    refine pr_goto (pc := 417) Cx 1718 dL_law_417 (by decide) ?_
    refine pr_lo (lo' := lw_lo i) (by simp [pa_lle]) ?_
    exact lw_to hs (kk K N _ T z _ c _ _ (lw_R_235 h) (by omega) (Nat.le_of_eq (sj_ph_us (by decide)).symm) (by omega) (by omega))
  · skip
    obtain ⟨s1, hs1, es1⟩ := sc_nn2 (k := 3) (by decide) h1
    subst es1
    rcases h2 : ms_in A2 0 9 with _ | _
    · -- badly told
      refine lw_of fun ad hs => ?_
      have Cx : pa_C G (lw_at x (K, S, N, O) ad) cL_law 7 RL 17 mc ms := lw_C C
      refine pr_aload_n (pc := 340) Cx dL_law_340 rfl ?_
      refine pr_arg (pc := 341) Cx X hs (by omega) 1 (by decide) (by omega) rfl rfl dL_law_341 dL_law_342 dL_law_344 dL_law_345 dL_law_346 ?_
      refine pr_eqi (v := (nI s1)) eA1.symm ?_
      refine pr_arg (pc := 347) Cx X hs (by omega) 2 (by decide) (by omega) rfl rfl dL_law_347 dL_law_348 dL_law_350 dL_law_351 dL_law_352 ?_
      refine pr_eqi (v := A2) eA2.symm ?_
      refine pr_arg (pc := 353) Cx X hs (by omega) 3 (by decide) (by omega) rfl rfl dL_law_353 dL_law_354 dL_law_356 dL_law_357 dL_law_358 ?_
      refine pr_eqi (v := A3) eA3.symm ?_
      refine pr_aload_n (pc := 359) Cx dL_law_359 rfl ?_
      refine pr_callL (pc := 360) (As := [pv_o 4 0, pv_i (nI s1), pv_i A2, pv_i A3, pv_o 9 0]) C hs (l_believeX1 (al' := false) G _ K S N O (nI s1) A2 A3 (c_X3_believeX2 G _ K S S N O T T 0 z hl9 h.1 s1 A2 A3 (by omega) h2)) (fun r h9 hp9 => ⟨_, hp9.1⟩) wl_97 rfl rfl (Nat.le_of_ble_eq_true rfl) (by omega) (by omega) lw_lo_ok dL_law_360 (fun k9 h9 hp9 => ?_)
      obtain ⟨ek, rfl⟩ := hp9
      obtain rfl : k9 = 1 := by cases ek; rfl
      refine lw_of fun ad hs => ?_
      have Cx : pa_C G (lw_at x (K, S, N, O) ad) cL_law 7 RL 17 mc ms := lw_C C
      refine pr_istore (pc := 363) Cx dL_law_363 (by decide) ?_
      refine pr_aload_n (pc := 365) Cx dL_law_365 rfl ?_
      refine pr_arg (pc := 366) Cx X hs (by omega) 1 (by decide) (by omega) rfl rfl dL_law_366 dL_law_367 dL_law_369 dL_law_370 dL_law_371 ?_
      refine pr_eqi (v := (nI s1)) eA1.symm ?_
      refine pr_arg (pc := 372) Cx X hs (by omega) 2 (by decide) (by omega) rfl rfl dL_law_372 dL_law_373 dL_law_375 dL_law_376 dL_law_377 ?_
      refine pr_eqi (v := A2) eA2.symm ?_
      refine pr_arg (pc := 378) Cx X hs (by omega) 3 (by decide) (by omega) rfl rfl dL_law_378 dL_law_379 dL_law_381 dL_law_382 dL_law_383 ?_
      refine pr_eqi (v := A3) eA3.symm ?_
      refine pr_vR (pc := 384) Cx (c_X4_believeN G _ (K, S, N, O) (nI s1) A2 A3 (by simp [h217, sc_kn, h1, h2])) wv_L_100 rfl rfl (Nat.le_of_ble_eq_true rfl) (by decide) (pl_5 _) (Nat.le_of_ble_eq_true rfl) (by omega) (by omega) dL_law_384 ?_
      refine pr_istore (pc := 387) Cx dL_law_387 (by decide) ?_
      refine pr_aload_n (pc := 389) Cx dL_law_389 rfl ?_
      refine pr_vP (pc := 390) Cx (c_X4_thrown G _ _) wv_L_89 rfl rfl (Nat.le_of_ble_eq_true rfl) (by decide) (pl_5 _) (Nat.le_of_ble_eq_true rfl) (by omega) (by omega) dL_law_390 ?_
      refine pr_eqi (v := 1) (by simp [ms_thr, pa_us_self, h217, sc_kn, h1, h2]) ?_
      refine pr_iload (pc := 393) Cx dL_law_393 rfl ?_
      refine pr_icmp_eq (pc := 395) Cx 400 dL_law_395 (by decide) (fun _ => ?_) (fun q => absurd rfl q)
      refine pr_iload (pc := 400) Cx dL_law_400 rfl ?_
      refine pr_if_ne (pc := 402) Cx 417 dL_law_402 (by decide) (fun _ => ?_) (fun q => absurd q (by decide))
      refine pr_goto (pc := 417) Cx 1718 dL_law_417 (by decide) ?_
      refine pr_lo (lo' := lw_lo i) (by simp [pa_lle]) ?_
      exact lw_to hs (kk K N _ T z _ c _ _ (lw_R_235 h) (by omega) (Nat.le_of_eq (sj_ph_us (by decide)).symm) (by omega) (by omega))
    · skip
      obtain ⟨s2, hs2, es2⟩ := sc_nn2 (k := 9) (by decide) h2
      subst es2
      rcases h3 : ms_in A3 0 2 with _ | _
      · -- badly told
        refine lw_of fun ad hs => ?_
        have Cx : pa_C G (lw_at x (K, S, N, O) ad) cL_law 7 RL 17 mc ms := lw_C C
        refine pr_aload_n (pc := 340) Cx dL_law_340 rfl ?_
        refine pr_arg (pc := 341) Cx X hs (by omega) 1 (by decide) (by omega) rfl rfl dL_law_341 dL_law_342 dL_law_344 dL_law_345 dL_law_346 ?_
        refine pr_eqi (v := (nI s1)) eA1.symm ?_
        refine pr_arg (pc := 347) Cx X hs (by omega) 2 (by decide) (by omega) rfl rfl dL_law_347 dL_law_348 dL_law_350 dL_law_351 dL_law_352 ?_
        refine pr_eqi (v := (nI s2)) eA2.symm ?_
        refine pr_arg (pc := 353) Cx X hs (by omega) 3 (by decide) (by omega) rfl rfl dL_law_353 dL_law_354 dL_law_356 dL_law_357 dL_law_358 ?_
        refine pr_eqi (v := A3) eA3.symm ?_
        refine pr_aload_n (pc := 359) Cx dL_law_359 rfl ?_
        refine pr_callL (pc := 360) (As := [pv_o 4 0, pv_i (nI s1), pv_i (nI s2), pv_i A3, pv_o 9 0]) C hs (l_believeX2 (al' := false) G _ K S N O (nI s1) (nI s2) A3 (c_X3_believeX3 G _ K S S N O T T 0 z hl9 h.1 s1 s2 A3 (by omega) (by omega) h3)) (fun r h9 hp9 => ⟨_, hp9.1⟩) wl_97 rfl rfl (Nat.le_of_ble_eq_true rfl) (by omega) (by omega) lw_lo_ok dL_law_360 (fun k9 h9 hp9 => ?_)
        obtain ⟨ek, rfl⟩ := hp9
        obtain rfl : k9 = 2 := by cases ek; rfl
        refine lw_of fun ad hs => ?_
        have Cx : pa_C G (lw_at x (K, S, N, O) ad) cL_law 7 RL 17 mc ms := lw_C C
        refine pr_istore (pc := 363) Cx dL_law_363 (by decide) ?_
        refine pr_aload_n (pc := 365) Cx dL_law_365 rfl ?_
        refine pr_arg (pc := 366) Cx X hs (by omega) 1 (by decide) (by omega) rfl rfl dL_law_366 dL_law_367 dL_law_369 dL_law_370 dL_law_371 ?_
        refine pr_eqi (v := (nI s1)) eA1.symm ?_
        refine pr_arg (pc := 372) Cx X hs (by omega) 2 (by decide) (by omega) rfl rfl dL_law_372 dL_law_373 dL_law_375 dL_law_376 dL_law_377 ?_
        refine pr_eqi (v := (nI s2)) eA2.symm ?_
        refine pr_arg (pc := 378) Cx X hs (by omega) 3 (by decide) (by omega) rfl rfl dL_law_378 dL_law_379 dL_law_381 dL_law_382 dL_law_383 ?_
        refine pr_eqi (v := A3) eA3.symm ?_
        refine pr_vR (pc := 384) Cx (c_X4_believeN G _ (K, S, N, O) (nI s1) (nI s2) A3 (by simp [h217, sc_kn, h1, h2, h3])) wv_L_100 rfl rfl (Nat.le_of_ble_eq_true rfl) (by decide) (pl_5 _) (Nat.le_of_ble_eq_true rfl) (by omega) (by omega) dL_law_384 ?_
        refine pr_istore (pc := 387) Cx dL_law_387 (by decide) ?_
        refine pr_aload_n (pc := 389) Cx dL_law_389 rfl ?_
        refine pr_vP (pc := 390) Cx (c_X4_thrown G _ _) wv_L_89 rfl rfl (Nat.le_of_ble_eq_true rfl) (by decide) (pl_5 _) (Nat.le_of_ble_eq_true rfl) (by omega) (by omega) dL_law_390 ?_
        refine pr_eqi (v := 2) (by simp [ms_thr, pa_us_self, h217, sc_kn, h1, h2, h3]) ?_
        refine pr_iload (pc := 393) Cx dL_law_393 rfl ?_
        refine pr_icmp_eq (pc := 395) Cx 400 dL_law_395 (by decide) (fun _ => ?_) (fun q => absurd rfl q)
        refine pr_iload (pc := 400) Cx dL_law_400 rfl ?_
        refine pr_if_ne (pc := 402) Cx 417 dL_law_402 (by decide) (fun _ => ?_) (fun q => absurd q (by decide))
        refine pr_goto (pc := 417) Cx 1718 dL_law_417 (by decide) ?_
        refine pr_lo (lo' := lw_lo i) (by simp [pa_lle]) ?_
        exact lw_to hs (kk K N _ T z _ c _ _ (lw_R_235 h) (by omega) (Nat.le_of_eq (sj_ph_us (by decide)).symm) (by omega) (by omega))
      · skip
        refine lw_of fun ad hs => ?_
        have Cx : pa_C G (lw_at x (K, S, N, O) ad) cL_law 7 RL 17 mc ms := lw_C C
        refine pr_aload_n (pc := 340) Cx dL_law_340 rfl ?_
        refine pr_arg (pc := 341) Cx X hs (by omega) 1 (by decide) (by omega) rfl rfl dL_law_341 dL_law_342 dL_law_344 dL_law_345 dL_law_346 ?_
        refine pr_eqi (v := (nI s1)) eA1.symm ?_
        refine pr_arg (pc := 347) Cx X hs (by omega) 2 (by decide) (by omega) rfl rfl dL_law_347 dL_law_348 dL_law_350 dL_law_351 dL_law_352 ?_
        refine pr_eqi (v := (nI s2)) eA2.symm ?_
        refine pr_arg (pc := 353) Cx X hs (by omega) 3 (by decide) (by omega) rfl rfl dL_law_353 dL_law_354 dL_law_356 dL_law_357 dL_law_358 ?_
        refine pr_eqi (v := A3) eA3.symm ?_
        refine pr_aload_n (pc := 359) Cx dL_law_359 rfl ?_
        refine pr_callL (pc := 360) (As := [pv_o 4 0, pv_i (nI s1), pv_i (nI s2), pv_i A3, pv_o 9 0]) C hs (l_believeY G _ K S N O (nI s1) (nI s2) A3 (P := fun v K' N' => v = S 207 (10 * s1 + s2) ∧ lw_R K' N' T z (pa_us (pa_us S 235 0 0) 207 (10 * s1 + s2) A3) c) (c_X3_believeY G _ K S (pa_us S 235 0 0) N O T T 0 z h0.1 s1 s2 A3 (by omega) (by omega) h3) (fun r h9 ⟨e1, K', N', e2, hs9⟩ => ⟨_, K', N', e1, e2, pa_us_ne (by decide), lw_R_us h0 hs9 (by decide) (by decide)⟩)) (fun r h9 hp9 => ⟨_, hp9.1⟩) wl_97 rfl rfl (Nat.le_of_ble_eq_true rfl) (by omega) (by omega) lw_lo_ok dL_law_360 (fun k9 h9 hp9 => ?_)
        obtain ⟨ek, v9, K', N', rfl, rfl, hR⟩ := hp9
        obtain rfl : k9 = 0 := by cases ek; rfl
        refine lw_of fun ad hs => ?_
        have Cx : pa_C G (lw_at x (K', S, N', (pa_uo O (S 207 (10 * s1 + s2)).toInt64)) ad) cL_law 7 RL 17 mc ms := lw_C C
        refine pr_istore (pc := 363) Cx dL_law_363 (by decide) ?_
        refine pr_aload_n (pc := 365) Cx dL_law_365 rfl ?_
        refine pr_arg (pc := 366) Cx X hs (by omega) 1 (by decide) (by omega) rfl rfl dL_law_366 dL_law_367 dL_law_369 dL_law_370 dL_law_371 ?_
        refine pr_eqi (v := (nI s1)) eA1.symm ?_
        refine pr_arg (pc := 372) Cx X hs (by omega) 2 (by decide) (by omega) rfl rfl dL_law_372 dL_law_373 dL_law_375 dL_law_376 dL_law_377 ?_
        refine pr_eqi (v := (nI s2)) eA2.symm ?_
        refine pr_arg (pc := 378) Cx X hs (by omega) 3 (by decide) (by omega) rfl rfl dL_law_378 dL_law_379 dL_law_381 dL_law_382 dL_law_383 ?_
        refine pr_eqi (v := A3) eA3.symm ?_
        refine pr_vR (pc := 384) Cx (c_X4_believeY G _ (K', S, N', (pa_uo O (S 207 (10 * s1 + s2)).toInt64)) s1 s2 A3 (by omega) (by omega) h3) wv_L_100 rfl rfl (Nat.le_of_ble_eq_true rfl) (by decide) (pl_5 _) (Nat.le_of_ble_eq_true rfl) (by omega) (by omega) dL_law_384 ?_
        refine pr_istore (pc := 387) Cx dL_law_387 (by decide) ?_
        refine pr_aload_n (pc := 389) Cx dL_law_389 rfl ?_
        refine pr_vP (pc := 390) Cx (c_X4_thrown G _ _) wv_L_89 rfl rfl (Nat.le_of_ble_eq_true rfl) (by decide) (pl_5 _) (Nat.le_of_ble_eq_true rfl) (by omega) (by omega) dL_law_390 ?_
        refine pr_eqi (v := 0) (by show pa_us (pa_us S 235 0 0) 207 (10 * s1 + s2) A3 235 0 = 0; rw [pa_us_ne (by decide), pa_us_self]) ?_
        refine pr_iload (pc := 393) Cx dL_law_393 rfl ?_
        refine pr_icmp_eq (pc := 395) Cx 400 dL_law_395 (by decide) (fun _ => ?_) (fun q => absurd rfl q)
        refine pr_iload (pc := 400) Cx dL_law_400 rfl ?_
        refine pr_if_ne (pc := 402) Cx 417 dL_law_402 (by decide) (fun q => absurd rfl q) (fun _ => ?_)
        refine pr_aload_n (pc := 405) Cx dL_law_405 rfl ?_
        refine pr_iconst (pc := 406) (v := 0) Cx dL_law_406 (by decide) ?_
        refine pr_lald9 (pc := 407) Cx rfl dL_law_407 ?_
        refine pr_iload (pc := 408) Cx dL_law_408 rfl ?_
        refine pr_i2l (pc := 410) Cx dL_law_410 ?_
        refine pr_lcmp (pc := 411) Cx dL_law_411 ?_
        refine pr_if_eq (pc := 412) Cx 417 dL_law_412 (by decide) (fun _ => ?_) (fun q => absurd (lw_cmp0 _) q)
        refine pr_goto (pc := 417) Cx 1718 dL_law_417 (by decide) ?_
        refine pr_lo (lo' := lw_lo i) (by simp [pa_lle]) ?_
        exact lw_to hs (kk K' N' _ T z (pa_us (pa_us S 235 0 0) 207 (10 * s1 + s2) A3) c _ _ hR (by omega) (Nat.le_of_eq ((sj_ph_us (by decide)).trans (sj_ph_us (by decide))).symm) (by omega) (by omega))
set_option maxRecDepth 100000 in
set_option maxHeartbeats 4000000 in
theorem lb_deafen {G : pa_G} {x : pa_X} {scr L mc ms i a b : Nat} {xs : Nat → Int32} {K : Nat → Nat → Nat → Int32} {N : Nat → Nat} {T : Nat} {z : sj_Z} {S : Nat → Nat → Int32} {c : Nat} {O : Nat → Int64} (hl9 : x.2.1.stackTraces = false) (C : pa_C G x cL_law 7 RL 17 mc ms) (X : lw_X G x scr L xs) (hL : L ≤ 3584) (hi : i + 7 ≤ L) (h : lw_R K N T z S c) (hc : c + 22 < 30000) (ha : a + 2000 ≤ mc) (hb : b + 900000 ≤ ms)
    (kk : ∀ (K' : Nat → Nat → Nat → Int32) (N' : Nat → Nat) (O' : Nat → Int64) (T' : Nat) (z' : sj_Z) (S' : Nat → Nat → Int32) (c' a' b' : Nat), lw_R K' N' T' z' S' c' → c' ≤ c + 20 → sj_ph S T ≤ sj_ph S' T' → a' ≤ a + 2 * (sj_ph S' T' - sj_ph S T) + 4 → b' ≤ b + 1520 * (sj_ph S' T' - sj_ph S T) + 1600 → lw_w G x scr 7 (K', S', N', O') a' b' 1718 (lw_lo i) []) : lw_w G x scr 7 (K, S, N, O) a b 420 (lw_lo i) [] := by
  have hM := h.2.1.1
  have hJ := h.2.1.2.1
  have hT := hM.1.1
  have h217 : S 217 0 = nI T := hM.1.2.1
  have h0 := lw_R_235 (v := 0) h
  obtain ⟨A1, eA1⟩ : ∃ v, v = xs (i + 1) := ⟨_, rfl⟩
  obtain ⟨A2, eA2⟩ : ∃ v, v = xs (i + 2) := ⟨_, rfl⟩
  rcases h1 : ms_in A1 0 3 with _ | _
  · -- badly told
    refine lw_of fun ad hs => ?_
    have Cx : pa_C G (lw_at x (K, S, N, O) ad) cL_law 7 RL 17 mc ms := lw_C C
    refine pr_aload_n (pc := 420) Cx dL_law_420 rfl ?_
    refine pr_arg (pc := 421) Cx X hs (by omega) 1 (by decide) (by omega) rfl rfl dL_law_421 dL_law_422 dL_law_424 dL_law_425 dL_law_426 ?_
    refine pr_eqi (v := A1) eA1.symm ?_
    refine pr_arg (pc := 427) Cx X hs (by omega) 2 (by decide) (by omega) rfl rfl dL_law_427 dL_law_428 dL_law_430 dL_law_431 dL_law_432 ?_
    refine pr_eqi (v := A2) eA2.symm ?_
    refine pr_aload_n (pc := 433) Cx dL_law_433 rfl ?_
    refine pr_callL (pc := 434) (As := [pv_o 4 0, pv_i A1, pv_i A2, pv_o 9 0]) C hs (l_deafenX1 (al' := false) G _ K S N O A1 A2 (c_X3_deafenX1 G _ K S S N O T T 0 z hl9 h.1 A1 A2 h1)) (fun r h9 hp9 => ⟨_, hp9.1⟩) wl_101 rfl rfl (Nat.le_of_ble_eq_true rfl) (by omega) (by omega) lw_lo_ok dL_law_434 (fun k9 h9 hp9 => ?_)
    obtain ⟨ek, rfl⟩ := hp9
    obtain rfl : k9 = 1 := by cases ek; rfl
    refine lw_of fun ad hs => ?_
    have Cx : pa_C G (lw_at x (K, S, N, O) ad) cL_law 7 RL 17 mc ms := lw_C C
    refine pr_istore (pc := 437) Cx dL_law_437 (by decide) ?_
    refine pr_aload_n (pc := 439) Cx dL_law_439 rfl ?_
    refine pr_arg (pc := 440) Cx X hs (by omega) 1 (by decide) (by omega) rfl rfl dL_law_440 dL_law_441 dL_law_443 dL_law_444 dL_law_445 ?_
    refine pr_eqi (v := A1) eA1.symm ?_
    refine pr_arg (pc := 446) Cx X hs (by omega) 2 (by decide) (by omega) rfl rfl dL_law_446 dL_law_447 dL_law_449 dL_law_450 dL_law_451 ?_
    refine pr_eqi (v := A2) eA2.symm ?_
    refine pr_vR (pc := 452) Cx (c_X4_deafenN G _ (K, S, N, O) A1 A2 (by simp [h217, sc_kn, h1])) wv_L_103 rfl rfl (Nat.le_of_ble_eq_true rfl) (by decide) (pl_5 _) (Nat.le_of_ble_eq_true rfl) (by omega) (by omega) dL_law_452 ?_
    refine pr_istore (pc := 455) Cx dL_law_455 (by decide) ?_
    refine pr_aload_n (pc := 457) Cx dL_law_457 rfl ?_
    refine pr_vP (pc := 458) Cx (c_X4_thrown G _ _) wv_L_89 rfl rfl (Nat.le_of_ble_eq_true rfl) (by decide) (pl_5 _) (Nat.le_of_ble_eq_true rfl) (by omega) (by omega) dL_law_458 ?_
    refine pr_eqi (v := 1) (by simp [ms_thr, pa_us_self, h217, sc_kn, h1]) ?_
    refine pr_iload (pc := 461) Cx dL_law_461 rfl ?_
    refine pr_icmp_eq (pc := 463) Cx 468 dL_law_463 (by decide) (fun _ => ?_) (fun q => absurd rfl q)
    refine pr_iload (pc := 468) Cx dL_law_468 rfl ?_
    refine pr_if_ne (pc := 470) Cx 485 dL_law_470 (by decide) (fun _ => ?_) (fun q => absurd q (by decide))
    refine pr_goto (pc := 485) Cx 1718 dL_law_485 (by decide) ?_
    refine pr_lo (lo' := lw_lo i) (by simp [pa_lle]) ?_
    exact lw_to hs (kk K N _ T z _ c _ _ (lw_R_235 h) (by omega) (Nat.le_of_eq (sj_ph_us (by decide)).symm) (by omega) (by omega))
  · skip
    obtain ⟨s1, hs1, es1⟩ := sc_nn2 (k := 3) (by decide) h1
    subst es1
    rcases h2 : ms_in A2 0 20 with _ | _
    · -- badly told
      refine lw_of fun ad hs => ?_
      have Cx : pa_C G (lw_at x (K, S, N, O) ad) cL_law 7 RL 17 mc ms := lw_C C
      refine pr_aload_n (pc := 420) Cx dL_law_420 rfl ?_
      refine pr_arg (pc := 421) Cx X hs (by omega) 1 (by decide) (by omega) rfl rfl dL_law_421 dL_law_422 dL_law_424 dL_law_425 dL_law_426 ?_
      refine pr_eqi (v := (nI s1)) eA1.symm ?_
      refine pr_arg (pc := 427) Cx X hs (by omega) 2 (by decide) (by omega) rfl rfl dL_law_427 dL_law_428 dL_law_430 dL_law_431 dL_law_432 ?_
      refine pr_eqi (v := A2) eA2.symm ?_
      refine pr_aload_n (pc := 433) Cx dL_law_433 rfl ?_
      refine pr_callL (pc := 434) (As := [pv_o 4 0, pv_i (nI s1), pv_i A2, pv_o 9 0]) C hs (l_deafenX2 (al' := false) G _ K S N O (nI s1) A2 (c_X3_deafenX2 G _ K S S N O T T 0 z hl9 h.1 s1 A2 (by omega) h2)) (fun r h9 hp9 => ⟨_, hp9.1⟩) wl_101 rfl rfl (Nat.le_of_ble_eq_true rfl) (by omega) (by omega) lw_lo_ok dL_law_434 (fun k9 h9 hp9 => ?_)
      obtain ⟨ek, rfl⟩ := hp9
      obtain rfl : k9 = 2 := by cases ek; rfl
      refine lw_of fun ad hs => ?_
      have Cx : pa_C G (lw_at x (K, S, N, O) ad) cL_law 7 RL 17 mc ms := lw_C C
      refine pr_istore (pc := 437) Cx dL_law_437 (by decide) ?_
      refine pr_aload_n (pc := 439) Cx dL_law_439 rfl ?_
      refine pr_arg (pc := 440) Cx X hs (by omega) 1 (by decide) (by omega) rfl rfl dL_law_440 dL_law_441 dL_law_443 dL_law_444 dL_law_445 ?_
      refine pr_eqi (v := (nI s1)) eA1.symm ?_
      refine pr_arg (pc := 446) Cx X hs (by omega) 2 (by decide) (by omega) rfl rfl dL_law_446 dL_law_447 dL_law_449 dL_law_450 dL_law_451 ?_
      refine pr_eqi (v := A2) eA2.symm ?_
      refine pr_vR (pc := 452) Cx (c_X4_deafenN G _ (K, S, N, O) (nI s1) A2 (by simp [h217, sc_kn, h1, h2])) wv_L_103 rfl rfl (Nat.le_of_ble_eq_true rfl) (by decide) (pl_5 _) (Nat.le_of_ble_eq_true rfl) (by omega) (by omega) dL_law_452 ?_
      refine pr_istore (pc := 455) Cx dL_law_455 (by decide) ?_
      refine pr_aload_n (pc := 457) Cx dL_law_457 rfl ?_
      refine pr_vP (pc := 458) Cx (c_X4_thrown G _ _) wv_L_89 rfl rfl (Nat.le_of_ble_eq_true rfl) (by decide) (pl_5 _) (Nat.le_of_ble_eq_true rfl) (by omega) (by omega) dL_law_458 ?_
      refine pr_eqi (v := 2) (by simp [ms_thr, pa_us_self, h217, sc_kn, h1, h2]) ?_
      refine pr_iload (pc := 461) Cx dL_law_461 rfl ?_
      refine pr_icmp_eq (pc := 463) Cx 468 dL_law_463 (by decide) (fun _ => ?_) (fun q => absurd rfl q)
      refine pr_iload (pc := 468) Cx dL_law_468 rfl ?_
      refine pr_if_ne (pc := 470) Cx 485 dL_law_470 (by decide) (fun _ => ?_) (fun q => absurd q (by decide))
      refine pr_goto (pc := 485) Cx 1718 dL_law_485 (by decide) ?_
      refine pr_lo (lo' := lw_lo i) (by simp [pa_lle]) ?_
      exact lw_to hs (kk K N _ T z _ c _ _ (lw_R_235 h) (by omega) (Nat.le_of_eq (sj_ph_us (by decide)).symm) (by omega) (by omega))
    · skip
      obtain ⟨s2, hs2, es2⟩ := sc_nn2 (k := 20) (by decide) h2
      subst es2
      have e200 : pa_us S 235 0 0 200 0 = S 200 0 := pa_us_ne (by decide)
      refine lw_of fun ad hs => ?_
      have Cx : pa_C G (lw_at x (K, S, N, O) ad) cL_law 7 RL 17 mc ms := lw_C C
      refine pr_aload_n (pc := 420) Cx dL_law_420 rfl ?_
      refine pr_arg (pc := 421) Cx X hs (by omega) 1 (by decide) (by omega) rfl rfl dL_law_421 dL_law_422 dL_law_424 dL_law_425 dL_law_426 ?_
      refine pr_eqi (v := (nI s1)) eA1.symm ?_
      refine pr_arg (pc := 427) Cx X hs (by omega) 2 (by decide) (by omega) rfl rfl dL_law_427 dL_law_428 dL_law_430 dL_law_431 dL_law_432 ?_
      refine pr_eqi (v := (nI s2)) eA2.symm ?_
      refine pr_aload_n (pc := 433) Cx dL_law_433 rfl ?_
      refine pr_callL (pc := 434) (As := [pv_o 4 0, pv_i (nI s1), pv_i (nI s2), pv_o 9 0]) C hs (l_deafenY G _ K S N O (nI s1) (nI s2) (P := fun v K' N' => v = S 200 0 + nI s2 ∧ lw_R K' N' T z (pa_us (pa_us S 235 0 0) 206 s1 (S 200 0 + nI s2)) c) (c_X3_deafenY G _ K S (pa_us S 235 0 0) N O T T 0 z h0.1 s1 (nI s2) (by omega) h2) (fun r h9 ⟨e1, K', N', e2, hs9⟩ => by rw [e200] at hs9; exact ⟨_, K', N', e1, e2, by rw [e200], lw_R_us h0 hs9 (by decide) (by decide)⟩)) (fun r h9 hp9 => ⟨_, hp9.1⟩) wl_101 rfl rfl (Nat.le_of_ble_eq_true rfl) (by omega) (by omega) lw_lo_ok dL_law_434 (fun k9 h9 hp9 => ?_)
      obtain ⟨ek, v9, K', N', rfl, rfl, hR⟩ := hp9
      obtain rfl : k9 = 0 := by cases ek; rfl
      refine lw_of fun ad hs => ?_
      have Cx : pa_C G (lw_at x (K', S, N', (pa_uo O (S 200 0 + nI s2).toInt64)) ad) cL_law 7 RL 17 mc ms := lw_C C
      refine pr_istore (pc := 437) Cx dL_law_437 (by decide) ?_
      refine pr_aload_n (pc := 439) Cx dL_law_439 rfl ?_
      refine pr_arg (pc := 440) Cx X hs (by omega) 1 (by decide) (by omega) rfl rfl dL_law_440 dL_law_441 dL_law_443 dL_law_444 dL_law_445 ?_
      refine pr_eqi (v := (nI s1)) eA1.symm ?_
      refine pr_arg (pc := 446) Cx X hs (by omega) 2 (by decide) (by omega) rfl rfl dL_law_446 dL_law_447 dL_law_449 dL_law_450 dL_law_451 ?_
      refine pr_eqi (v := (nI s2)) eA2.symm ?_
      refine pr_vR (pc := 452) Cx (c_X4_deafenY G _ (K', S, N', (pa_uo O (S 200 0 + nI s2).toInt64)) s1 s2 (by omega) (by omega)) wv_L_103 rfl rfl (Nat.le_of_ble_eq_true rfl) (by decide) (pl_5 _) (Nat.le_of_ble_eq_true rfl) (by omega) (by omega) dL_law_452 ?_
      refine pr_istore (pc := 455) Cx dL_law_455 (by decide) ?_
      refine pr_aload_n (pc := 457) Cx dL_law_457 rfl ?_
      refine pr_vP (pc := 458) Cx (c_X4_thrown G _ _) wv_L_89 rfl rfl (Nat.le_of_ble_eq_true rfl) (by decide) (pl_5 _) (Nat.le_of_ble_eq_true rfl) (by omega) (by omega) dL_law_458 ?_
      refine pr_eqi (v := 0) (by show pa_us (pa_us S 235 0 0) 206 s1 (S 200 0 + nI s2) 235 0 = 0; rw [pa_us_ne (by decide), pa_us_self]) ?_
      refine pr_iload (pc := 461) Cx dL_law_461 rfl ?_
      refine pr_icmp_eq (pc := 463) Cx 468 dL_law_463 (by decide) (fun _ => ?_) (fun q => absurd rfl q)
      refine pr_iload (pc := 468) Cx dL_law_468 rfl ?_
      refine pr_if_ne (pc := 470) Cx 485 dL_law_470 (by decide) (fun q => absurd rfl q) (fun _ => ?_)
      refine pr_aload_n (pc := 473) Cx dL_law_473 rfl ?_
      refine pr_iconst (pc := 474) (v := 0) Cx dL_law_474 (by decide) ?_
      refine pr_lald9 (pc := 475) Cx rfl dL_law_475 ?_
      refine pr_iload (pc := 476) Cx dL_law_476 rfl ?_
      refine pr_i2l (pc := 478) Cx dL_law_478 ?_
      refine pr_lcmp (pc := 479) Cx dL_law_479 ?_
      refine pr_if_eq (pc := 480) Cx 485 dL_law_480 (by decide) (fun _ => ?_) (fun q => absurd (lw_cmp0 _) q)
      refine pr_goto (pc := 485) Cx 1718 dL_law_485 (by decide) ?_
      refine pr_lo (lo' := lw_lo i) (by simp [pa_lle]) ?_
      exact lw_to hs (kk K' N' _ T z (pa_us (pa_us S 235 0 0) 206 s1 (S 200 0 + nI s2)) c _ _ hR (by omega) (Nat.le_of_eq ((sj_ph_us (by decide)).trans (sj_ph_us (by decide))).symm) (by omega) (by omega))
set_option maxRecDepth 100000 in
set_option maxHeartbeats 4000000 in
theorem lb_give {G : pa_G} {x : pa_X} {scr L mc ms i a b : Nat} {xs : Nat → Int32} {K : Nat → Nat → Nat → Int32} {N : Nat → Nat} {T : Nat} {z : sj_Z} {S : Nat → Nat → Int32} {c : Nat} {O : Nat → Int64} (hl9 : x.2.1.stackTraces = false) (C : pa_C G x cL_law 7 RL 17 mc ms) (X : lw_X G x scr L xs) (hL : L ≤ 3584) (hi : i + 7 ≤ L) (h : lw_R K N T z S c) (hc : c + 22 < 30000) (ha : a + 2000 ≤ mc) (hb : b + 900000 ≤ ms)
    (kk : ∀ (K' : Nat → Nat → Nat → Int32) (N' : Nat → Nat) (O' : Nat → Int64) (T' : Nat) (z' : sj_Z) (S' : Nat → Nat → Int32) (c' a' b' : Nat), lw_R K' N' T' z' S' c' → c' ≤ c + 20 → sj_ph S T ≤ sj_ph S' T' → a' ≤ a + 2 * (sj_ph S' T' - sj_ph S T) + 4 → b' ≤ b + 1520 * (sj_ph S' T' - sj_ph S T) + 1600 → lw_w G x scr 7 (K', S', N', O') a' b' 1718 (lw_lo i) []) : lw_w G x scr 7 (K, S, N, O) a b 488 (lw_lo i) [] := by
  have hM := h.2.1.1
  have hJ := h.2.1.2.1
  have hT := hM.1.1
  have h217 : S 217 0 = nI T := hM.1.2.1
  have h0 := lw_R_235 (v := 0) h
  obtain ⟨A1, eA1⟩ : ∃ v, v = xs (i + 1) := ⟨_, rfl⟩
  obtain ⟨A2, eA2⟩ : ∃ v, v = xs (i + 2) := ⟨_, rfl⟩
  rcases h1 : ms_in A1 0 7 with _ | _
  · -- badly told
    refine lw_of fun ad hs => ?_
    have Cx : pa_C G (lw_at x (K, S, N, O) ad) cL_law 7 RL 17 mc ms := lw_C C
    refine pr_aload_n (pc := 488) Cx dL_law_488 rfl ?_
    refine pr_arg (pc := 489) Cx X hs (by omega) 1 (by decide) (by omega) rfl rfl dL_law_489 dL_law_490 dL_law_492 dL_law_493 dL_law_494 ?_
    refine pr_eqi (v := A1) eA1.symm ?_
    refine pr_arg (pc := 495) Cx X hs (by omega) 2 (by decide) (by omega) rfl rfl dL_law_495 dL_law_496 dL_law_498 dL_law_499 dL_law_500 ?_
    refine pr_eqi (v := A2) eA2.symm ?_
    refine pr_aload_n (pc := 501) Cx dL_law_501 rfl ?_
    refine pr_callL (pc := 502) (As := [pv_o 4 0, pv_i A1, pv_i A2, pv_o 9 0]) C hs (l_giveX1 (al' := false) G _ K S N O A1 A2 (c_X3_giveX1 G _ K S S N O T T 0 z hl9 h.1 A1 A2 h1)) (fun r h9 hp9 => ⟨_, hp9.1⟩) wl_104 rfl rfl (Nat.le_of_ble_eq_true rfl) (by omega) (by omega) lw_lo_ok dL_law_502 (fun k9 h9 hp9 => ?_)
    obtain ⟨ek, rfl⟩ := hp9
    obtain rfl : k9 = 1 := by cases ek; rfl
    refine lw_of fun ad hs => ?_
    have Cx : pa_C G (lw_at x (K, S, N, O) ad) cL_law 7 RL 17 mc ms := lw_C C
    refine pr_istore (pc := 505) Cx dL_law_505 (by decide) ?_
    refine pr_aload_n (pc := 507) Cx dL_law_507 rfl ?_
    refine pr_arg (pc := 508) Cx X hs (by omega) 1 (by decide) (by omega) rfl rfl dL_law_508 dL_law_509 dL_law_511 dL_law_512 dL_law_513 ?_
    refine pr_eqi (v := A1) eA1.symm ?_
    refine pr_arg (pc := 514) Cx X hs (by omega) 2 (by decide) (by omega) rfl rfl dL_law_514 dL_law_515 dL_law_517 dL_law_518 dL_law_519 ?_
    refine pr_eqi (v := A2) eA2.symm ?_
    refine pr_vR (pc := 520) Cx (c_X4_giveN G _ (K, S, N, O) A1 A2 (by simp [h217, sc_kn, h1])) wv_L_106 rfl rfl (Nat.le_of_ble_eq_true rfl) (by decide) (pl_5 _) (Nat.le_of_ble_eq_true rfl) (by omega) (by omega) dL_law_520 ?_
    refine pr_istore (pc := 523) Cx dL_law_523 (by decide) ?_
    refine pr_aload_n (pc := 525) Cx dL_law_525 rfl ?_
    refine pr_vP (pc := 526) Cx (c_X4_thrown G _ _) wv_L_89 rfl rfl (Nat.le_of_ble_eq_true rfl) (by decide) (pl_5 _) (Nat.le_of_ble_eq_true rfl) (by omega) (by omega) dL_law_526 ?_
    refine pr_eqi (v := 1) (by simp [ms_thr, pa_us_self, h217, sc_kn, h1]) ?_
    refine pr_iload (pc := 529) Cx dL_law_529 rfl ?_
    refine pr_icmp_eq (pc := 531) Cx 536 dL_law_531 (by decide) (fun _ => ?_) (fun q => absurd rfl q)
    refine pr_iload (pc := 536) Cx dL_law_536 rfl ?_
    refine pr_if_ne (pc := 538) Cx 553 dL_law_538 (by decide) (fun _ => ?_) (fun q => absurd q (by decide))
    refine pr_goto (pc := 553) Cx 1718 dL_law_553 (by decide) ?_
    refine pr_lo (lo' := lw_lo i) (by simp [pa_lle]) ?_
    exact lw_to hs (kk K N _ T z _ c _ _ (lw_R_235 h) (by omega) (Nat.le_of_eq (sj_ph_us (by decide)).symm) (by omega) (by omega))
  · skip
    obtain ⟨s1, hs1, es1⟩ := sc_nn2 (k := 7) (by decide) h1
    subst es1
    rcases h2 : ms_in A2 (-1) 3 with _ | _
    · -- badly told
      refine lw_of fun ad hs => ?_
      have Cx : pa_C G (lw_at x (K, S, N, O) ad) cL_law 7 RL 17 mc ms := lw_C C
      refine pr_aload_n (pc := 488) Cx dL_law_488 rfl ?_
      refine pr_arg (pc := 489) Cx X hs (by omega) 1 (by decide) (by omega) rfl rfl dL_law_489 dL_law_490 dL_law_492 dL_law_493 dL_law_494 ?_
      refine pr_eqi (v := (nI s1)) eA1.symm ?_
      refine pr_arg (pc := 495) Cx X hs (by omega) 2 (by decide) (by omega) rfl rfl dL_law_495 dL_law_496 dL_law_498 dL_law_499 dL_law_500 ?_
      refine pr_eqi (v := A2) eA2.symm ?_
      refine pr_aload_n (pc := 501) Cx dL_law_501 rfl ?_
      refine pr_callL (pc := 502) (As := [pv_o 4 0, pv_i (nI s1), pv_i A2, pv_o 9 0]) C hs (l_giveX1 (al' := false) G _ K S N O (nI s1) A2 (c_X3_giveX2 G _ K S S N O T T 0 z hl9 h.1 s1 A2 (by omega) (sc_fr3n h2).1 (sc_fr3n h2).2)) (fun r h9 hp9 => ⟨_, hp9.1⟩) wl_104 rfl rfl (Nat.le_of_ble_eq_true rfl) (by omega) (by omega) lw_lo_ok dL_law_502 (fun k9 h9 hp9 => ?_)
      obtain ⟨ek, rfl⟩ := hp9
      obtain rfl : k9 = 1 := by cases ek; rfl
      refine lw_of fun ad hs => ?_
      have Cx : pa_C G (lw_at x (K, S, N, O) ad) cL_law 7 RL 17 mc ms := lw_C C
      refine pr_istore (pc := 505) Cx dL_law_505 (by decide) ?_
      refine pr_aload_n (pc := 507) Cx dL_law_507 rfl ?_
      refine pr_arg (pc := 508) Cx X hs (by omega) 1 (by decide) (by omega) rfl rfl dL_law_508 dL_law_509 dL_law_511 dL_law_512 dL_law_513 ?_
      refine pr_eqi (v := (nI s1)) eA1.symm ?_
      refine pr_arg (pc := 514) Cx X hs (by omega) 2 (by decide) (by omega) rfl rfl dL_law_514 dL_law_515 dL_law_517 dL_law_518 dL_law_519 ?_
      refine pr_eqi (v := A2) eA2.symm ?_
      refine pr_vR (pc := 520) Cx (c_X4_giveN G _ (K, S, N, O) (nI s1) A2 (by simp [h217, sc_kn, h1, h2])) wv_L_106 rfl rfl (Nat.le_of_ble_eq_true rfl) (by decide) (pl_5 _) (Nat.le_of_ble_eq_true rfl) (by omega) (by omega) dL_law_520 ?_
      refine pr_istore (pc := 523) Cx dL_law_523 (by decide) ?_
      refine pr_aload_n (pc := 525) Cx dL_law_525 rfl ?_
      refine pr_vP (pc := 526) Cx (c_X4_thrown G _ _) wv_L_89 rfl rfl (Nat.le_of_ble_eq_true rfl) (by decide) (pl_5 _) (Nat.le_of_ble_eq_true rfl) (by omega) (by omega) dL_law_526 ?_
      refine pr_eqi (v := 1) (by simp [ms_thr, pa_us_self, h217, sc_kn, h1, h2]) ?_
      refine pr_iload (pc := 529) Cx dL_law_529 rfl ?_
      refine pr_icmp_eq (pc := 531) Cx 536 dL_law_531 (by decide) (fun _ => ?_) (fun q => absurd rfl q)
      refine pr_iload (pc := 536) Cx dL_law_536 rfl ?_
      refine pr_if_ne (pc := 538) Cx 553 dL_law_538 (by decide) (fun _ => ?_) (fun q => absurd q (by decide))
      refine pr_goto (pc := 553) Cx 1718 dL_law_553 (by decide) ?_
      refine pr_lo (lo' := lw_lo i) (by simp [pa_lle]) ?_
      exact lw_to hs (kk K N _ T z _ c _ _ (lw_R_235 h) (by omega) (Nat.le_of_eq (sj_ph_us (by decide)).symm) (by omega) (by omega))
    · skip
      rcases sc_fr3y h2 with e2 | ⟨s2, hs2, e2⟩
      · subst e2
        refine lw_of fun ad hs => ?_
        have Cx : pa_C G (lw_at x (K, S, N, O) ad) cL_law 7 RL 17 mc ms := lw_C C
        refine pr_aload_n (pc := 488) Cx dL_law_488 rfl ?_
        refine pr_arg (pc := 489) Cx X hs (by omega) 1 (by decide) (by omega) rfl rfl dL_law_489 dL_law_490 dL_law_492 dL_law_493 dL_law_494 ?_
        refine pr_eqi (v := (nI s1)) eA1.symm ?_
        refine pr_arg (pc := 495) Cx X hs (by omega) 2 (by decide) (by omega) rfl rfl dL_law_495 dL_law_496 dL_law_498 dL_law_499 dL_law_500 ?_
        refine pr_eqi (v := (-1 : Int32)) eA2.symm ?_
        refine pr_aload_n (pc := 501) Cx dL_law_501 rfl ?_
        refine pr_callL (pc := 502) (As := [pv_o 4 0, pv_i (nI s1), pv_i (-1 : Int32), pv_o 9 0]) C hs (l_giveY G _ K S N O (nI s1) (-1 : Int32) (P := fun v K' N' => v = S 213 s1 ∧ lw_R K' N' T z (pa_us (pa_us S 235 0 0) 213 s1 (-1 : Int32)) c) (c_X3_giveYa G _ K S (pa_us S 235 0 0) N O T T 0 z h0.1 s1 (by omega)) (fun r h9 ⟨e1, K', N', e2, hs9⟩ => ⟨_, K', N', e1, e2, pa_us_ne (by decide), lw_R_us h0 hs9 (by decide) (by decide)⟩)) (fun r h9 hp9 => ⟨_, hp9.1⟩) wl_104 rfl rfl (Nat.le_of_ble_eq_true rfl) (by omega) (by omega) lw_lo_ok dL_law_502 (fun k9 h9 hp9 => ?_)
        obtain ⟨ek, v9, K', N', rfl, rfl, hR⟩ := hp9
        obtain rfl : k9 = 0 := by cases ek; rfl
        refine lw_of fun ad hs => ?_
        have Cx : pa_C G (lw_at x (K', S, N', (pa_uo O (S 213 s1).toInt64)) ad) cL_law 7 RL 17 mc ms := lw_C C
        refine pr_istore (pc := 505) Cx dL_law_505 (by decide) ?_
        refine pr_aload_n (pc := 507) Cx dL_law_507 rfl ?_
        refine pr_arg (pc := 508) Cx X hs (by omega) 1 (by decide) (by omega) rfl rfl dL_law_508 dL_law_509 dL_law_511 dL_law_512 dL_law_513 ?_
        refine pr_eqi (v := (nI s1)) eA1.symm ?_
        refine pr_arg (pc := 514) Cx X hs (by omega) 2 (by decide) (by omega) rfl rfl dL_law_514 dL_law_515 dL_law_517 dL_law_518 dL_law_519 ?_
        refine pr_eqi (v := (-1 : Int32)) eA2.symm ?_
        refine pr_vR (pc := 520) Cx (c_X4_giveY G _ (K', S, N', (pa_uo O (S 213 s1).toInt64)) s1 (-1 : Int32) (by omega) h2) wv_L_106 rfl rfl (Nat.le_of_ble_eq_true rfl) (by decide) (pl_5 _) (Nat.le_of_ble_eq_true rfl) (by omega) (by omega) dL_law_520 ?_
        refine pr_istore (pc := 523) Cx dL_law_523 (by decide) ?_
        refine pr_aload_n (pc := 525) Cx dL_law_525 rfl ?_
        refine pr_vP (pc := 526) Cx (c_X4_thrown G _ _) wv_L_89 rfl rfl (Nat.le_of_ble_eq_true rfl) (by decide) (pl_5 _) (Nat.le_of_ble_eq_true rfl) (by omega) (by omega) dL_law_526 ?_
        refine pr_eqi (v := 0) (by show pa_us (pa_us S 235 0 0) 213 s1 (-1 : Int32) 235 0 = 0; rw [pa_us_ne (by decide), pa_us_self]) ?_
        refine pr_iload (pc := 529) Cx dL_law_529 rfl ?_
        refine pr_icmp_eq (pc := 531) Cx 536 dL_law_531 (by decide) (fun _ => ?_) (fun q => absurd rfl q)
        refine pr_iload (pc := 536) Cx dL_law_536 rfl ?_
        refine pr_if_ne (pc := 538) Cx 553 dL_law_538 (by decide) (fun q => absurd rfl q) (fun _ => ?_)
        refine pr_aload_n (pc := 541) Cx dL_law_541 rfl ?_
        refine pr_iconst (pc := 542) (v := 0) Cx dL_law_542 (by decide) ?_
        refine pr_lald9 (pc := 543) Cx rfl dL_law_543 ?_
        refine pr_iload (pc := 544) Cx dL_law_544 rfl ?_
        refine pr_i2l (pc := 546) Cx dL_law_546 ?_
        refine pr_lcmp (pc := 547) Cx dL_law_547 ?_
        refine pr_if_eq (pc := 548) Cx 553 dL_law_548 (by decide) (fun _ => ?_) (fun q => absurd (lw_cmp0 _) q)
        refine pr_goto (pc := 553) Cx 1718 dL_law_553 (by decide) ?_
        refine pr_lo (lo' := lw_lo i) (by simp [pa_lle]) ?_
        exact lw_to hs (kk K' N' _ T z (pa_us (pa_us S 235 0 0) 213 s1 (-1 : Int32)) c _ _ hR (by omega) (Nat.le_of_eq ((sj_ph_us (by decide)).trans (sj_ph_us (by decide))).symm) (by omega) (by omega))
      · subst e2
        refine lw_of fun ad hs => ?_
        have Cx : pa_C G (lw_at x (K, S, N, O) ad) cL_law 7 RL 17 mc ms := lw_C C
        refine pr_aload_n (pc := 488) Cx dL_law_488 rfl ?_
        refine pr_arg (pc := 489) Cx X hs (by omega) 1 (by decide) (by omega) rfl rfl dL_law_489 dL_law_490 dL_law_492 dL_law_493 dL_law_494 ?_
        refine pr_eqi (v := (nI s1)) eA1.symm ?_
        refine pr_arg (pc := 495) Cx X hs (by omega) 2 (by decide) (by omega) rfl rfl dL_law_495 dL_law_496 dL_law_498 dL_law_499 dL_law_500 ?_
        refine pr_eqi (v := (nI s2)) eA2.symm ?_
        refine pr_aload_n (pc := 501) Cx dL_law_501 rfl ?_
        refine pr_callL (pc := 502) (As := [pv_o 4 0, pv_i (nI s1), pv_i (nI s2), pv_o 9 0]) C hs (l_giveY G _ K S N O (nI s1) (nI s2) (P := fun v K' N' => v = S 213 s1 ∧ lw_R K' N' T z (pa_us (pa_us S 235 0 0) 213 s1 (nI s2)) c) (c_X3_giveYb G _ K S (pa_us S 235 0 0) N O T T 0 z h0.1 s1 s2 (by omega) hs2) (fun r h9 ⟨e1, K', N', e2, hs9⟩ => ⟨_, K', N', e1, e2, pa_us_ne (by decide), lw_R_us h0 hs9 (by decide) (by decide)⟩)) (fun r h9 hp9 => ⟨_, hp9.1⟩) wl_104 rfl rfl (Nat.le_of_ble_eq_true rfl) (by omega) (by omega) lw_lo_ok dL_law_502 (fun k9 h9 hp9 => ?_)
        obtain ⟨ek, v9, K', N', rfl, rfl, hR⟩ := hp9
        obtain rfl : k9 = 0 := by cases ek; rfl
        refine lw_of fun ad hs => ?_
        have Cx : pa_C G (lw_at x (K', S, N', (pa_uo O (S 213 s1).toInt64)) ad) cL_law 7 RL 17 mc ms := lw_C C
        refine pr_istore (pc := 505) Cx dL_law_505 (by decide) ?_
        refine pr_aload_n (pc := 507) Cx dL_law_507 rfl ?_
        refine pr_arg (pc := 508) Cx X hs (by omega) 1 (by decide) (by omega) rfl rfl dL_law_508 dL_law_509 dL_law_511 dL_law_512 dL_law_513 ?_
        refine pr_eqi (v := (nI s1)) eA1.symm ?_
        refine pr_arg (pc := 514) Cx X hs (by omega) 2 (by decide) (by omega) rfl rfl dL_law_514 dL_law_515 dL_law_517 dL_law_518 dL_law_519 ?_
        refine pr_eqi (v := (nI s2)) eA2.symm ?_
        refine pr_vR (pc := 520) Cx (c_X4_giveY G _ (K', S, N', (pa_uo O (S 213 s1).toInt64)) s1 (nI s2) (by omega) h2) wv_L_106 rfl rfl (Nat.le_of_ble_eq_true rfl) (by decide) (pl_5 _) (Nat.le_of_ble_eq_true rfl) (by omega) (by omega) dL_law_520 ?_
        refine pr_istore (pc := 523) Cx dL_law_523 (by decide) ?_
        refine pr_aload_n (pc := 525) Cx dL_law_525 rfl ?_
        refine pr_vP (pc := 526) Cx (c_X4_thrown G _ _) wv_L_89 rfl rfl (Nat.le_of_ble_eq_true rfl) (by decide) (pl_5 _) (Nat.le_of_ble_eq_true rfl) (by omega) (by omega) dL_law_526 ?_
        refine pr_eqi (v := 0) (by show pa_us (pa_us S 235 0 0) 213 s1 (nI s2) 235 0 = 0; rw [pa_us_ne (by decide), pa_us_self]) ?_
        refine pr_iload (pc := 529) Cx dL_law_529 rfl ?_
        refine pr_icmp_eq (pc := 531) Cx 536 dL_law_531 (by decide) (fun _ => ?_) (fun q => absurd rfl q)
        refine pr_iload (pc := 536) Cx dL_law_536 rfl ?_
        refine pr_if_ne (pc := 538) Cx 553 dL_law_538 (by decide) (fun q => absurd rfl q) (fun _ => ?_)
        refine pr_aload_n (pc := 541) Cx dL_law_541 rfl ?_
        refine pr_iconst (pc := 542) (v := 0) Cx dL_law_542 (by decide) ?_
        refine pr_lald9 (pc := 543) Cx rfl dL_law_543 ?_
        refine pr_iload (pc := 544) Cx dL_law_544 rfl ?_
        refine pr_i2l (pc := 546) Cx dL_law_546 ?_
        refine pr_lcmp (pc := 547) Cx dL_law_547 ?_
        refine pr_if_eq (pc := 548) Cx 553 dL_law_548 (by decide) (fun _ => ?_) (fun q => absurd (lw_cmp0 _) q)
        refine pr_goto (pc := 553) Cx 1718 dL_law_553 (by decide) ?_
        refine pr_lo (lo' := lw_lo i) (by simp [pa_lle]) ?_
        exact lw_to hs (kk K' N' _ T z (pa_us (pa_us S 235 0 0) 213 s1 (nI s2)) c _ _ hR (by omega) (Nat.le_of_eq ((sj_ph_us (by decide)).trans (sj_ph_us (by decide))).symm) (by omega) (by omega))
set_option maxRecDepth 100000 in
set_option maxHeartbeats 4000000 in
theorem lb_knows {G : pa_G} {x : pa_X} {scr L mc ms i a b : Nat} {xs : Nat → Int32} {K : Nat → Nat → Nat → Int32} {N : Nat → Nat} {T : Nat} {z : sj_Z} {S : Nat → Nat → Int32} {c : Nat} {O : Nat → Int64} (hl9 : x.2.1.stackTraces = false) (C : pa_C G x cL_law 7 RL 17 mc ms) (X : lw_X G x scr L xs) (hL : L ≤ 3584) (hi : i + 7 ≤ L) (h : lw_R K N T z S c) (hc : c + 22 < 30000) (ha : a + 2000 ≤ mc) (hb : b + 900000 ≤ ms)
    (kk : ∀ (K' : Nat → Nat → Nat → Int32) (N' : Nat → Nat) (O' : Nat → Int64) (T' : Nat) (z' : sj_Z) (S' : Nat → Nat → Int32) (c' a' b' : Nat), lw_R K' N' T' z' S' c' → c' ≤ c + 20 → sj_ph S T ≤ sj_ph S' T' → a' ≤ a + 2 * (sj_ph S' T' - sj_ph S T) + 4 → b' ≤ b + 1520 * (sj_ph S' T' - sj_ph S T) + 1600 → lw_w G x scr 7 (K', S', N', O') a' b' 1718 (lw_lo i) []) : lw_w G x scr 7 (K, S, N, O) a b 232 (lw_lo i) [] := by
  have hM := h.2.1.1
  have hJ := h.2.1.2.1
  have hT := hM.1.1
  have h217 : S 217 0 = nI T := hM.1.2.1
  have h0 := lw_R_235 (v := 0) h
  obtain ⟨A1, eA1⟩ : ∃ v, v = xs (i + 1) := ⟨_, rfl⟩
  obtain ⟨A2, eA2⟩ : ∃ v, v = xs (i + 2) := ⟨_, rfl⟩
  obtain ⟨A3, eA3⟩ : ∃ v, v = xs (i + 3) := ⟨_, rfl⟩
  obtain ⟨A4, eA4⟩ : ∃ v, v = xs (i + 4) := ⟨_, rfl⟩
  by_cases hz4 : A4 = 0
  · skip
    rcases h1 : ms_in A1 0 3 with _ | _
    · -- badly told
      refine lw_of fun ad hs => ?_
      have Cx : pa_C G (lw_at x (K, S, N, O) ad) cL_law 7 RL 17 mc ms := lw_C C
      refine pr_aload_n (pc := 232) Cx dL_law_232 rfl ?_
      refine pr_arg (pc := 233) Cx X hs (by omega) 1 (by decide) (by omega) rfl rfl dL_law_233 dL_law_234 dL_law_236 dL_law_237 dL_law_238 ?_
      refine pr_eqi (v := A1) eA1.symm ?_
      refine pr_arg (pc := 239) Cx X hs (by omega) 2 (by decide) (by omega) rfl rfl dL_law_239 dL_law_240 dL_law_242 dL_law_243 dL_law_244 ?_
      refine pr_eqi (v := A2) eA2.symm ?_
      refine pr_arg (pc := 245) Cx X hs (by omega) 3 (by decide) (by omega) rfl rfl dL_law_245 dL_law_246 dL_law_248 dL_law_249 dL_law_250 ?_
      refine pr_eqi (v := A3) eA3.symm ?_
      refine pr_arg (pc := 251) Cx X hs (by omega) 4 (by decide) (by omega) rfl rfl dL_law_251 dL_law_252 dL_law_254 dL_law_255 dL_law_256 ?_
      refine pr_if_eq (pc := 257) Cx 264 dL_law_257 (by decide) (fun _ => ?_) (fun cc => absurd (eA4.symm.trans hz4) cc)
      refine pr_iconst (pc := 264) (v := 0) Cx dL_law_264 (by decide) ?_
      refine pr_aload_n (pc := 265) Cx dL_law_265 rfl ?_
      refine pr_callL (pc := 266) (As := [pv_o 4 0, pv_i A1, pv_i A2, pv_i A3, pv_i 0, pv_o 9 0]) C hs (l_knowsX1 (al' := false) G _ K S N O A1 A2 A3 0 (c_X3_knowsX1 G _ K S S N O T T 0 z hl9 h.1 A1 A2 A3 0 h1)) (fun r h9 hp9 => ⟨_, hp9.1⟩) wl_93 rfl rfl (Nat.le_of_ble_eq_true rfl) (by omega) (by omega) lw_lo_ok dL_law_266 (fun k9 h9 hp9 => ?_)
      obtain ⟨ek, rfl⟩ := hp9
      obtain rfl : k9 = 1 := by cases ek; rfl
      refine lw_of fun ad hs => ?_
      have Cx : pa_C G (lw_at x (K, S, N, O) ad) cL_law 7 RL 17 mc ms := lw_C C
      refine pr_istore (pc := 269) Cx dL_law_269 (by decide) ?_
      refine pr_aload_n (pc := 271) Cx dL_law_271 rfl ?_
      refine pr_arg (pc := 272) Cx X hs (by omega) 1 (by decide) (by omega) rfl rfl dL_law_272 dL_law_273 dL_law_275 dL_law_276 dL_law_277 ?_
      refine pr_eqi (v := A1) eA1.symm ?_
      refine pr_arg (pc := 278) Cx X hs (by omega) 2 (by decide) (by omega) rfl rfl dL_law_278 dL_law_279 dL_law_281 dL_law_282 dL_law_283 ?_
      refine pr_eqi (v := A2) eA2.symm ?_
      refine pr_arg (pc := 284) Cx X hs (by omega) 3 (by decide) (by omega) rfl rfl dL_law_284 dL_law_285 dL_law_287 dL_law_288 dL_law_289 ?_
      refine pr_eqi (v := A3) eA3.symm ?_
      refine pr_arg (pc := 290) Cx X hs (by omega) 4 (by decide) (by omega) rfl rfl dL_law_290 dL_law_291 dL_law_293 dL_law_294 dL_law_295 ?_
      refine pr_if_eq (pc := 296) Cx 303 dL_law_296 (by decide) (fun _ => ?_) (fun cc => absurd (eA4.symm.trans hz4) cc)
      refine pr_iconst (pc := 303) (v := 0) Cx dL_law_303 (by decide) ?_
      refine pr_vR (pc := 304) Cx (c_X4_knowsN G _ (K, S, N, O) A1 A2 A3 0 (by simp [h217, sc_kn, h1])) wv_L_96 rfl rfl (Nat.le_of_ble_eq_true rfl) (by decide) (pl_5 _) (Nat.le_of_ble_eq_true rfl) (by omega) (by omega) dL_law_304 ?_
      refine pr_istore (pc := 307) Cx dL_law_307 (by decide) ?_
      refine pr_aload_n (pc := 309) Cx dL_law_309 rfl ?_
      refine pr_vP (pc := 310) Cx (c_X4_thrown G _ _) wv_L_89 rfl rfl (Nat.le_of_ble_eq_true rfl) (by decide) (pl_5 _) (Nat.le_of_ble_eq_true rfl) (by omega) (by omega) dL_law_310 ?_
      refine pr_eqi (v := 1) (by simp [ms_thr, pa_us_self, h217, sc_kn, h1]) ?_
      refine pr_iload (pc := 313) Cx dL_law_313 rfl ?_
      refine pr_icmp_eq (pc := 315) Cx 320 dL_law_315 (by decide) (fun _ => ?_) (fun q => absurd rfl q)
      refine pr_iload (pc := 320) Cx dL_law_320 rfl ?_
      refine pr_if_ne (pc := 322) Cx 337 dL_law_322 (by decide) (fun _ => ?_) (fun q => absurd q (by decide))
      refine pr_goto (pc := 337) Cx 1718 dL_law_337 (by decide) ?_
      refine pr_lo (lo' := lw_lo i) (by simp [pa_lle]) ?_
      exact lw_to hs (kk K N _ T z _ c _ _ (lw_R_235 h) (by omega) (Nat.le_of_eq (sj_ph_us (by decide)).symm) (by omega) (by omega))
    · skip
      obtain ⟨s1, hs1, es1⟩ := sc_nn2 (k := 3) (by decide) h1
      subst es1
      rcases h2 : ms_in A2 1 7 with _ | _
      · -- badly told
        refine lw_of fun ad hs => ?_
        have Cx : pa_C G (lw_at x (K, S, N, O) ad) cL_law 7 RL 17 mc ms := lw_C C
        refine pr_aload_n (pc := 232) Cx dL_law_232 rfl ?_
        refine pr_arg (pc := 233) Cx X hs (by omega) 1 (by decide) (by omega) rfl rfl dL_law_233 dL_law_234 dL_law_236 dL_law_237 dL_law_238 ?_
        refine pr_eqi (v := (nI s1)) eA1.symm ?_
        refine pr_arg (pc := 239) Cx X hs (by omega) 2 (by decide) (by omega) rfl rfl dL_law_239 dL_law_240 dL_law_242 dL_law_243 dL_law_244 ?_
        refine pr_eqi (v := A2) eA2.symm ?_
        refine pr_arg (pc := 245) Cx X hs (by omega) 3 (by decide) (by omega) rfl rfl dL_law_245 dL_law_246 dL_law_248 dL_law_249 dL_law_250 ?_
        refine pr_eqi (v := A3) eA3.symm ?_
        refine pr_arg (pc := 251) Cx X hs (by omega) 4 (by decide) (by omega) rfl rfl dL_law_251 dL_law_252 dL_law_254 dL_law_255 dL_law_256 ?_
        refine pr_if_eq (pc := 257) Cx 264 dL_law_257 (by decide) (fun _ => ?_) (fun cc => absurd (eA4.symm.trans hz4) cc)
        refine pr_iconst (pc := 264) (v := 0) Cx dL_law_264 (by decide) ?_
        refine pr_aload_n (pc := 265) Cx dL_law_265 rfl ?_
        refine pr_callL (pc := 266) (As := [pv_o 4 0, pv_i (nI s1), pv_i A2, pv_i A3, pv_i 0, pv_o 9 0]) C hs (l_knowsX2 (al' := false) G _ K S N O (nI s1) A2 A3 0 (c_X3_knowsX2 G _ K S S N O T T 0 z hl9 h.1 s1 A2 A3 0 (by omega) h2)) (fun r h9 hp9 => ⟨_, hp9.1⟩) wl_93 rfl rfl (Nat.le_of_ble_eq_true rfl) (by omega) (by omega) lw_lo_ok dL_law_266 (fun k9 h9 hp9 => ?_)
        obtain ⟨ek, rfl⟩ := hp9
        obtain rfl : k9 = 2 := by cases ek; rfl
        refine lw_of fun ad hs => ?_
        have Cx : pa_C G (lw_at x (K, S, N, O) ad) cL_law 7 RL 17 mc ms := lw_C C
        refine pr_istore (pc := 269) Cx dL_law_269 (by decide) ?_
        refine pr_aload_n (pc := 271) Cx dL_law_271 rfl ?_
        refine pr_arg (pc := 272) Cx X hs (by omega) 1 (by decide) (by omega) rfl rfl dL_law_272 dL_law_273 dL_law_275 dL_law_276 dL_law_277 ?_
        refine pr_eqi (v := (nI s1)) eA1.symm ?_
        refine pr_arg (pc := 278) Cx X hs (by omega) 2 (by decide) (by omega) rfl rfl dL_law_278 dL_law_279 dL_law_281 dL_law_282 dL_law_283 ?_
        refine pr_eqi (v := A2) eA2.symm ?_
        refine pr_arg (pc := 284) Cx X hs (by omega) 3 (by decide) (by omega) rfl rfl dL_law_284 dL_law_285 dL_law_287 dL_law_288 dL_law_289 ?_
        refine pr_eqi (v := A3) eA3.symm ?_
        refine pr_arg (pc := 290) Cx X hs (by omega) 4 (by decide) (by omega) rfl rfl dL_law_290 dL_law_291 dL_law_293 dL_law_294 dL_law_295 ?_
        refine pr_if_eq (pc := 296) Cx 303 dL_law_296 (by decide) (fun _ => ?_) (fun cc => absurd (eA4.symm.trans hz4) cc)
        refine pr_iconst (pc := 303) (v := 0) Cx dL_law_303 (by decide) ?_
        refine pr_vR (pc := 304) Cx (c_X4_knowsN G _ (K, S, N, O) (nI s1) A2 A3 0 (by simp [h217, sc_kn, h1, h2])) wv_L_96 rfl rfl (Nat.le_of_ble_eq_true rfl) (by decide) (pl_5 _) (Nat.le_of_ble_eq_true rfl) (by omega) (by omega) dL_law_304 ?_
        refine pr_istore (pc := 307) Cx dL_law_307 (by decide) ?_
        refine pr_aload_n (pc := 309) Cx dL_law_309 rfl ?_
        refine pr_vP (pc := 310) Cx (c_X4_thrown G _ _) wv_L_89 rfl rfl (Nat.le_of_ble_eq_true rfl) (by decide) (pl_5 _) (Nat.le_of_ble_eq_true rfl) (by omega) (by omega) dL_law_310 ?_
        refine pr_eqi (v := 2) (by simp [ms_thr, pa_us_self, h217, sc_kn, h1, h2]) ?_
        refine pr_iload (pc := 313) Cx dL_law_313 rfl ?_
        refine pr_icmp_eq (pc := 315) Cx 320 dL_law_315 (by decide) (fun _ => ?_) (fun q => absurd rfl q)
        refine pr_iload (pc := 320) Cx dL_law_320 rfl ?_
        refine pr_if_ne (pc := 322) Cx 337 dL_law_322 (by decide) (fun _ => ?_) (fun q => absurd q (by decide))
        refine pr_goto (pc := 337) Cx 1718 dL_law_337 (by decide) ?_
        refine pr_lo (lo' := lw_lo i) (by simp [pa_lle]) ?_
        exact lw_to hs (kk K N _ T z _ c _ _ (lw_R_235 h) (by omega) (Nat.le_of_eq (sj_ph_us (by decide)).symm) (by omega) (by omega))
      · skip
        rcases h3 : ms_in A3 0 2 with _ | _
        · -- badly told
          refine lw_of fun ad hs => ?_
          have Cx : pa_C G (lw_at x (K, S, N, O) ad) cL_law 7 RL 17 mc ms := lw_C C
          refine pr_aload_n (pc := 232) Cx dL_law_232 rfl ?_
          refine pr_arg (pc := 233) Cx X hs (by omega) 1 (by decide) (by omega) rfl rfl dL_law_233 dL_law_234 dL_law_236 dL_law_237 dL_law_238 ?_
          refine pr_eqi (v := (nI s1)) eA1.symm ?_
          refine pr_arg (pc := 239) Cx X hs (by omega) 2 (by decide) (by omega) rfl rfl dL_law_239 dL_law_240 dL_law_242 dL_law_243 dL_law_244 ?_
          refine pr_eqi (v := A2) eA2.symm ?_
          refine pr_arg (pc := 245) Cx X hs (by omega) 3 (by decide) (by omega) rfl rfl dL_law_245 dL_law_246 dL_law_248 dL_law_249 dL_law_250 ?_
          refine pr_eqi (v := A3) eA3.symm ?_
          refine pr_arg (pc := 251) Cx X hs (by omega) 4 (by decide) (by omega) rfl rfl dL_law_251 dL_law_252 dL_law_254 dL_law_255 dL_law_256 ?_
          refine pr_if_eq (pc := 257) Cx 264 dL_law_257 (by decide) (fun _ => ?_) (fun cc => absurd (eA4.symm.trans hz4) cc)
          refine pr_iconst (pc := 264) (v := 0) Cx dL_law_264 (by decide) ?_
          refine pr_aload_n (pc := 265) Cx dL_law_265 rfl ?_
          refine pr_callL (pc := 266) (As := [pv_o 4 0, pv_i (nI s1), pv_i A2, pv_i A3, pv_i 0, pv_o 9 0]) C hs (l_knowsX2 (al' := false) G _ K S N O (nI s1) A2 A3 0 (c_X3_knowsX3 G _ K S S N O T T 0 z hl9 h.1 s1 A2 A3 0 (by omega) h2 h3)) (fun r h9 hp9 => ⟨_, hp9.1⟩) wl_93 rfl rfl (Nat.le_of_ble_eq_true rfl) (by omega) (by omega) lw_lo_ok dL_law_266 (fun k9 h9 hp9 => ?_)
          obtain ⟨ek, rfl⟩ := hp9
          obtain rfl : k9 = 2 := by cases ek; rfl
          refine lw_of fun ad hs => ?_
          have Cx : pa_C G (lw_at x (K, S, N, O) ad) cL_law 7 RL 17 mc ms := lw_C C
          refine pr_istore (pc := 269) Cx dL_law_269 (by decide) ?_
          refine pr_aload_n (pc := 271) Cx dL_law_271 rfl ?_
          refine pr_arg (pc := 272) Cx X hs (by omega) 1 (by decide) (by omega) rfl rfl dL_law_272 dL_law_273 dL_law_275 dL_law_276 dL_law_277 ?_
          refine pr_eqi (v := (nI s1)) eA1.symm ?_
          refine pr_arg (pc := 278) Cx X hs (by omega) 2 (by decide) (by omega) rfl rfl dL_law_278 dL_law_279 dL_law_281 dL_law_282 dL_law_283 ?_
          refine pr_eqi (v := A2) eA2.symm ?_
          refine pr_arg (pc := 284) Cx X hs (by omega) 3 (by decide) (by omega) rfl rfl dL_law_284 dL_law_285 dL_law_287 dL_law_288 dL_law_289 ?_
          refine pr_eqi (v := A3) eA3.symm ?_
          refine pr_arg (pc := 290) Cx X hs (by omega) 4 (by decide) (by omega) rfl rfl dL_law_290 dL_law_291 dL_law_293 dL_law_294 dL_law_295 ?_
          refine pr_if_eq (pc := 296) Cx 303 dL_law_296 (by decide) (fun _ => ?_) (fun cc => absurd (eA4.symm.trans hz4) cc)
          refine pr_iconst (pc := 303) (v := 0) Cx dL_law_303 (by decide) ?_
          refine pr_vR (pc := 304) Cx (c_X4_knowsN G _ (K, S, N, O) (nI s1) A2 A3 0 (by simp [h217, sc_kn, h1, h2, h3])) wv_L_96 rfl rfl (Nat.le_of_ble_eq_true rfl) (by decide) (pl_5 _) (Nat.le_of_ble_eq_true rfl) (by omega) (by omega) dL_law_304 ?_
          refine pr_istore (pc := 307) Cx dL_law_307 (by decide) ?_
          refine pr_aload_n (pc := 309) Cx dL_law_309 rfl ?_
          refine pr_vP (pc := 310) Cx (c_X4_thrown G _ _) wv_L_89 rfl rfl (Nat.le_of_ble_eq_true rfl) (by decide) (pl_5 _) (Nat.le_of_ble_eq_true rfl) (by omega) (by omega) dL_law_310 ?_
          refine pr_eqi (v := 2) (by simp [ms_thr, pa_us_self, h217, sc_kn, h1, h2, h3]) ?_
          refine pr_iload (pc := 313) Cx dL_law_313 rfl ?_
          refine pr_icmp_eq (pc := 315) Cx 320 dL_law_315 (by decide) (fun _ => ?_) (fun q => absurd rfl q)
          refine pr_iload (pc := 320) Cx dL_law_320 rfl ?_
          refine pr_if_ne (pc := 322) Cx 337 dL_law_322 (by decide) (fun _ => ?_) (fun q => absurd q (by decide))
          refine pr_goto (pc := 337) Cx 1718 dL_law_337 (by decide) ?_
          refine pr_lo (lo' := lw_lo i) (by simp [pa_lle]) ?_
          exact lw_to hs (kk K N _ T z _ c _ _ (lw_R_235 h) (by omega) (Nat.le_of_eq (sj_ph_us (by decide)).symm) (by omega) (by omega))
        · skip
          rcases h4 : ms_isIn A2 A3 with _ | _
          · -- badly told
            refine lw_of fun ad hs => ?_
            have Cx : pa_C G (lw_at x (K, S, N, O) ad) cL_law 7 RL 17 mc ms := lw_C C
            refine pr_aload_n (pc := 232) Cx dL_law_232 rfl ?_
            refine pr_arg (pc := 233) Cx X hs (by omega) 1 (by decide) (by omega) rfl rfl dL_law_233 dL_law_234 dL_law_236 dL_law_237 dL_law_238 ?_
            refine pr_eqi (v := (nI s1)) eA1.symm ?_
            refine pr_arg (pc := 239) Cx X hs (by omega) 2 (by decide) (by omega) rfl rfl dL_law_239 dL_law_240 dL_law_242 dL_law_243 dL_law_244 ?_
            refine pr_eqi (v := A2) eA2.symm ?_
            refine pr_arg (pc := 245) Cx X hs (by omega) 3 (by decide) (by omega) rfl rfl dL_law_245 dL_law_246 dL_law_248 dL_law_249 dL_law_250 ?_
            refine pr_eqi (v := A3) eA3.symm ?_
            refine pr_arg (pc := 251) Cx X hs (by omega) 4 (by decide) (by omega) rfl rfl dL_law_251 dL_law_252 dL_law_254 dL_law_255 dL_law_256 ?_
            refine pr_if_eq (pc := 257) Cx 264 dL_law_257 (by decide) (fun _ => ?_) (fun cc => absurd (eA4.symm.trans hz4) cc)
            refine pr_iconst (pc := 264) (v := 0) Cx dL_law_264 (by decide) ?_
            refine pr_aload_n (pc := 265) Cx dL_law_265 rfl ?_
            refine pr_callL (pc := 266) (As := [pv_o 4 0, pv_i (nI s1), pv_i A2, pv_i A3, pv_i 0, pv_o 9 0]) C hs (l_knowsX2 (al' := false) G _ K S N O (nI s1) A2 A3 0 (c_X3_knowsX4 G _ K S S N O T T 0 z hl9 h.1 s1 A2 A3 0 (by omega) h2 h3 h4)) (fun r h9 hp9 => ⟨_, hp9.1⟩) wl_93 rfl rfl (Nat.le_of_ble_eq_true rfl) (by omega) (by omega) lw_lo_ok dL_law_266 (fun k9 h9 hp9 => ?_)
            obtain ⟨ek, rfl⟩ := hp9
            obtain rfl : k9 = 2 := by cases ek; rfl
            refine lw_of fun ad hs => ?_
            have Cx : pa_C G (lw_at x (K, S, N, O) ad) cL_law 7 RL 17 mc ms := lw_C C
            refine pr_istore (pc := 269) Cx dL_law_269 (by decide) ?_
            refine pr_aload_n (pc := 271) Cx dL_law_271 rfl ?_
            refine pr_arg (pc := 272) Cx X hs (by omega) 1 (by decide) (by omega) rfl rfl dL_law_272 dL_law_273 dL_law_275 dL_law_276 dL_law_277 ?_
            refine pr_eqi (v := (nI s1)) eA1.symm ?_
            refine pr_arg (pc := 278) Cx X hs (by omega) 2 (by decide) (by omega) rfl rfl dL_law_278 dL_law_279 dL_law_281 dL_law_282 dL_law_283 ?_
            refine pr_eqi (v := A2) eA2.symm ?_
            refine pr_arg (pc := 284) Cx X hs (by omega) 3 (by decide) (by omega) rfl rfl dL_law_284 dL_law_285 dL_law_287 dL_law_288 dL_law_289 ?_
            refine pr_eqi (v := A3) eA3.symm ?_
            refine pr_arg (pc := 290) Cx X hs (by omega) 4 (by decide) (by omega) rfl rfl dL_law_290 dL_law_291 dL_law_293 dL_law_294 dL_law_295 ?_
            refine pr_if_eq (pc := 296) Cx 303 dL_law_296 (by decide) (fun _ => ?_) (fun cc => absurd (eA4.symm.trans hz4) cc)
            refine pr_iconst (pc := 303) (v := 0) Cx dL_law_303 (by decide) ?_
            refine pr_vR (pc := 304) Cx (c_X4_knowsN G _ (K, S, N, O) (nI s1) A2 A3 0 (by simp [h217, sc_kn, h1, h2, h3, h4])) wv_L_96 rfl rfl (Nat.le_of_ble_eq_true rfl) (by decide) (pl_5 _) (Nat.le_of_ble_eq_true rfl) (by omega) (by omega) dL_law_304 ?_
            refine pr_istore (pc := 307) Cx dL_law_307 (by decide) ?_
            refine pr_aload_n (pc := 309) Cx dL_law_309 rfl ?_
            refine pr_vP (pc := 310) Cx (c_X4_thrown G _ _) wv_L_89 rfl rfl (Nat.le_of_ble_eq_true rfl) (by decide) (pl_5 _) (Nat.le_of_ble_eq_true rfl) (by omega) (by omega) dL_law_310 ?_
            refine pr_eqi (v := 2) (by simp [ms_thr, pa_us_self, h217, sc_kn, h1, h2, h3, h4]) ?_
            refine pr_iload (pc := 313) Cx dL_law_313 rfl ?_
            refine pr_icmp_eq (pc := 315) Cx 320 dL_law_315 (by decide) (fun _ => ?_) (fun q => absurd rfl q)
            refine pr_iload (pc := 320) Cx dL_law_320 rfl ?_
            refine pr_if_ne (pc := 322) Cx 337 dL_law_322 (by decide) (fun _ => ?_) (fun q => absurd q (by decide))
            refine pr_goto (pc := 337) Cx 1718 dL_law_337 (by decide) ?_
            refine pr_lo (lo' := lw_lo i) (by simp [pa_lle]) ?_
            exact lw_to hs (kk K N _ T z _ c _ _ (lw_R_235 h) (by omega) (Nat.le_of_eq (sj_ph_us (by decide)).symm) (by omega) (by omega))
          · skip
            refine lw_of fun ad hs => ?_
            have Cx : pa_C G (lw_at x (K, S, N, O) ad) cL_law 7 RL 17 mc ms := lw_C C
            refine pr_aload_n (pc := 232) Cx dL_law_232 rfl ?_
            refine pr_arg (pc := 233) Cx X hs (by omega) 1 (by decide) (by omega) rfl rfl dL_law_233 dL_law_234 dL_law_236 dL_law_237 dL_law_238 ?_
            refine pr_eqi (v := (nI s1)) eA1.symm ?_
            refine pr_arg (pc := 239) Cx X hs (by omega) 2 (by decide) (by omega) rfl rfl dL_law_239 dL_law_240 dL_law_242 dL_law_243 dL_law_244 ?_
            refine pr_eqi (v := A2) eA2.symm ?_
            refine pr_arg (pc := 245) Cx X hs (by omega) 3 (by decide) (by omega) rfl rfl dL_law_245 dL_law_246 dL_law_248 dL_law_249 dL_law_250 ?_
            refine pr_eqi (v := A3) eA3.symm ?_
            refine pr_arg (pc := 251) Cx X hs (by omega) 4 (by decide) (by omega) rfl rfl dL_law_251 dL_law_252 dL_law_254 dL_law_255 dL_law_256 ?_
            refine pr_if_eq (pc := 257) Cx 264 dL_law_257 (by decide) (fun _ => ?_) (fun cc => absurd (eA4.symm.trans hz4) cc)
            refine pr_iconst (pc := 264) (v := 0) Cx dL_law_264 (by decide) ?_
            refine pr_aload_n (pc := 265) Cx dL_law_265 rfl ?_
            refine pr_callL (pc := 266) (As := [pv_o 4 0, pv_i (nI s1), pv_i A2, pv_i A3, pv_i 0, pv_o 9 0]) C hs (l_knowsY G _ K S N O (nI s1) A2 A3 0 (P := fun v K' N' => v = S 203 s1 ∧ lw_R K' N' T z (pa_us (pa_us (pa_us (pa_us S 235 0 0) 203 s1 A2) 204 s1 A3) 205 s1 0) c) (c_X3_knowsY G _ K S (pa_us S 235 0 0) N O T T 0 z h0.1 s1 A2 A3 0 (by omega) h2 h3 h4 (by decide)) (fun r h9 ⟨e1, K', N', e2, hs9⟩ => ⟨_, K', N', e1, e2, pa_us_ne (by decide), lw_R_of h0 hs9 (fun f hf j => by have e1 := (show ∀ f ∈ 201 :: sc_Af, f ≠ 203 ∧ f ≠ 204 ∧ f ≠ 205 by decide) f hf; rw [pa_us_ne e1.2.2, pa_us_ne e1.2.1, pa_us_ne e1.1])⟩)) (fun r h9 hp9 => ⟨_, hp9.1⟩) wl_93 rfl rfl (Nat.le_of_ble_eq_true rfl) (by omega) (by omega) lw_lo_ok dL_law_266 (fun k9 h9 hp9 => ?_)
            obtain ⟨ek, v9, K', N', rfl, rfl, hR⟩ := hp9
            obtain rfl : k9 = 0 := by cases ek; rfl
            refine lw_of fun ad hs => ?_
            have Cx : pa_C G (lw_at x (K', S, N', (pa_uo O (S 203 s1).toInt64)) ad) cL_law 7 RL 17 mc ms := lw_C C
            refine pr_istore (pc := 269) Cx dL_law_269 (by decide) ?_
            refine pr_aload_n (pc := 271) Cx dL_law_271 rfl ?_
            refine pr_arg (pc := 272) Cx X hs (by omega) 1 (by decide) (by omega) rfl rfl dL_law_272 dL_law_273 dL_law_275 dL_law_276 dL_law_277 ?_
            refine pr_eqi (v := (nI s1)) eA1.symm ?_
            refine pr_arg (pc := 278) Cx X hs (by omega) 2 (by decide) (by omega) rfl rfl dL_law_278 dL_law_279 dL_law_281 dL_law_282 dL_law_283 ?_
            refine pr_eqi (v := A2) eA2.symm ?_
            refine pr_arg (pc := 284) Cx X hs (by omega) 3 (by decide) (by omega) rfl rfl dL_law_284 dL_law_285 dL_law_287 dL_law_288 dL_law_289 ?_
            refine pr_eqi (v := A3) eA3.symm ?_
            refine pr_arg (pc := 290) Cx X hs (by omega) 4 (by decide) (by omega) rfl rfl dL_law_290 dL_law_291 dL_law_293 dL_law_294 dL_law_295 ?_
            refine pr_if_eq (pc := 296) Cx 303 dL_law_296 (by decide) (fun _ => ?_) (fun cc => absurd (eA4.symm.trans hz4) cc)
            refine pr_iconst (pc := 303) (v := 0) Cx dL_law_303 (by decide) ?_
            refine pr_vR (pc := 304) Cx (c_X4_knowsY G _ (K', S, N', (pa_uo O (S 203 s1).toInt64)) s1 A2 A3 0 (by omega) (by rw [sc_kn, h2, h3, h4]; rfl) (by decide)) wv_L_96 rfl rfl (Nat.le_of_ble_eq_true rfl) (by decide) (pl_5 _) (Nat.le_of_ble_eq_true rfl) (by omega) (by omega) dL_law_304 ?_
            refine pr_istore (pc := 307) Cx dL_law_307 (by decide) ?_
            refine pr_aload_n (pc := 309) Cx dL_law_309 rfl ?_
            refine pr_vP (pc := 310) Cx (c_X4_thrown G _ _) wv_L_89 rfl rfl (Nat.le_of_ble_eq_true rfl) (by decide) (pl_5 _) (Nat.le_of_ble_eq_true rfl) (by omega) (by omega) dL_law_310 ?_
            refine pr_eqi (v := 0) (by show (pa_us (pa_us (pa_us (pa_us S 235 0 0) 203 s1 A2) 204 s1 A3) 205 s1 0) 235 0 = 0; rw [pa_us_ne (by decide), pa_us_ne (by decide), pa_us_ne (by decide), pa_us_self]) ?_
            refine pr_iload (pc := 313) Cx dL_law_313 rfl ?_
            refine pr_icmp_eq (pc := 315) Cx 320 dL_law_315 (by decide) (fun _ => ?_) (fun q => absurd rfl q)
            refine pr_iload (pc := 320) Cx dL_law_320 rfl ?_
            refine pr_if_ne (pc := 322) Cx 337 dL_law_322 (by decide) (fun q => absurd rfl q) (fun _ => ?_)
            refine pr_aload_n (pc := 325) Cx dL_law_325 rfl ?_
            refine pr_iconst (pc := 326) (v := 0) Cx dL_law_326 (by decide) ?_
            refine pr_lald9 (pc := 327) Cx rfl dL_law_327 ?_
            refine pr_iload (pc := 328) Cx dL_law_328 rfl ?_
            refine pr_i2l (pc := 330) Cx dL_law_330 ?_
            refine pr_lcmp (pc := 331) Cx dL_law_331 ?_
            refine pr_if_eq (pc := 332) Cx 337 dL_law_332 (by decide) (fun _ => ?_) (fun q => absurd (lw_cmp0 _) q)
            refine pr_goto (pc := 337) Cx 1718 dL_law_337 (by decide) ?_
            refine pr_lo (lo' := lw_lo i) (by simp [pa_lle]) ?_
            exact lw_to hs (kk K' N' _ T z (pa_us (pa_us (pa_us (pa_us S 235 0 0) 203 s1 A2) 204 s1 A3) 205 s1 0) c _ _ hR (by omega) (Nat.le_of_eq (((sj_ph_us (by decide)).trans (sj_ph_us (by decide))).trans ((sj_ph_us (by decide)).trans (sj_ph_us (by decide)))).symm) (by omega) (by omega))
  · skip
    rcases h1 : ms_in A1 0 3 with _ | _
    · -- badly told
      refine lw_of fun ad hs => ?_
      have Cx : pa_C G (lw_at x (K, S, N, O) ad) cL_law 7 RL 17 mc ms := lw_C C
      refine pr_aload_n (pc := 232) Cx dL_law_232 rfl ?_
      refine pr_arg (pc := 233) Cx X hs (by omega) 1 (by decide) (by omega) rfl rfl dL_law_233 dL_law_234 dL_law_236 dL_law_237 dL_law_238 ?_
      refine pr_eqi (v := A1) eA1.symm ?_
      refine pr_arg (pc := 239) Cx X hs (by omega) 2 (by decide) (by omega) rfl rfl dL_law_239 dL_law_240 dL_law_242 dL_law_243 dL_law_244 ?_
      refine pr_eqi (v := A2) eA2.symm ?_
      refine pr_arg (pc := 245) Cx X hs (by omega) 3 (by decide) (by omega) rfl rfl dL_law_245 dL_law_246 dL_law_248 dL_law_249 dL_law_250 ?_
      refine pr_eqi (v := A3) eA3.symm ?_
      refine pr_arg (pc := 251) Cx X hs (by omega) 4 (by decide) (by omega) rfl rfl dL_law_251 dL_law_252 dL_law_254 dL_law_255 dL_law_256 ?_
      refine pr_if_eq (pc := 257) Cx 264 dL_law_257 (by decide) (fun cc => absurd (eA4.trans cc) hz4) (fun _ => ?_)
      refine pr_iconst (pc := 260) (v := 1) Cx dL_law_260 (by decide) ?_
      refine pr_goto (pc := 261) Cx 265 dL_law_261 (by decide) ?_
      refine pr_aload_n (pc := 265) Cx dL_law_265 rfl ?_
      refine pr_callL (pc := 266) (As := [pv_o 4 0, pv_i A1, pv_i A2, pv_i A3, pv_i 1, pv_o 9 0]) C hs (l_knowsX1 (al' := false) G _ K S N O A1 A2 A3 1 (c_X3_knowsX1 G _ K S S N O T T 0 z hl9 h.1 A1 A2 A3 1 h1)) (fun r h9 hp9 => ⟨_, hp9.1⟩) wl_93 rfl rfl (Nat.le_of_ble_eq_true rfl) (by omega) (by omega) lw_lo_ok dL_law_266 (fun k9 h9 hp9 => ?_)
      obtain ⟨ek, rfl⟩ := hp9
      obtain rfl : k9 = 1 := by cases ek; rfl
      refine lw_of fun ad hs => ?_
      have Cx : pa_C G (lw_at x (K, S, N, O) ad) cL_law 7 RL 17 mc ms := lw_C C
      refine pr_istore (pc := 269) Cx dL_law_269 (by decide) ?_
      refine pr_aload_n (pc := 271) Cx dL_law_271 rfl ?_
      refine pr_arg (pc := 272) Cx X hs (by omega) 1 (by decide) (by omega) rfl rfl dL_law_272 dL_law_273 dL_law_275 dL_law_276 dL_law_277 ?_
      refine pr_eqi (v := A1) eA1.symm ?_
      refine pr_arg (pc := 278) Cx X hs (by omega) 2 (by decide) (by omega) rfl rfl dL_law_278 dL_law_279 dL_law_281 dL_law_282 dL_law_283 ?_
      refine pr_eqi (v := A2) eA2.symm ?_
      refine pr_arg (pc := 284) Cx X hs (by omega) 3 (by decide) (by omega) rfl rfl dL_law_284 dL_law_285 dL_law_287 dL_law_288 dL_law_289 ?_
      refine pr_eqi (v := A3) eA3.symm ?_
      refine pr_arg (pc := 290) Cx X hs (by omega) 4 (by decide) (by omega) rfl rfl dL_law_290 dL_law_291 dL_law_293 dL_law_294 dL_law_295 ?_
      refine pr_if_eq (pc := 296) Cx 303 dL_law_296 (by decide) (fun cc => absurd (eA4.trans cc) hz4) (fun _ => ?_)
      refine pr_iconst (pc := 299) (v := 1) Cx dL_law_299 (by decide) ?_
      refine pr_goto (pc := 300) Cx 304 dL_law_300 (by decide) ?_
      refine pr_vR (pc := 304) Cx (c_X4_knowsN G _ (K, S, N, O) A1 A2 A3 1 (by simp [h217, sc_kn, h1])) wv_L_96 rfl rfl (Nat.le_of_ble_eq_true rfl) (by decide) (pl_5 _) (Nat.le_of_ble_eq_true rfl) (by omega) (by omega) dL_law_304 ?_
      refine pr_istore (pc := 307) Cx dL_law_307 (by decide) ?_
      refine pr_aload_n (pc := 309) Cx dL_law_309 rfl ?_
      refine pr_vP (pc := 310) Cx (c_X4_thrown G _ _) wv_L_89 rfl rfl (Nat.le_of_ble_eq_true rfl) (by decide) (pl_5 _) (Nat.le_of_ble_eq_true rfl) (by omega) (by omega) dL_law_310 ?_
      refine pr_eqi (v := 1) (by simp [ms_thr, pa_us_self, h217, sc_kn, h1]) ?_
      refine pr_iload (pc := 313) Cx dL_law_313 rfl ?_
      refine pr_icmp_eq (pc := 315) Cx 320 dL_law_315 (by decide) (fun _ => ?_) (fun q => absurd rfl q)
      refine pr_iload (pc := 320) Cx dL_law_320 rfl ?_
      refine pr_if_ne (pc := 322) Cx 337 dL_law_322 (by decide) (fun _ => ?_) (fun q => absurd q (by decide))
      refine pr_goto (pc := 337) Cx 1718 dL_law_337 (by decide) ?_
      refine pr_lo (lo' := lw_lo i) (by simp [pa_lle]) ?_
      exact lw_to hs (kk K N _ T z _ c _ _ (lw_R_235 h) (by omega) (Nat.le_of_eq (sj_ph_us (by decide)).symm) (by omega) (by omega))
    · skip
      obtain ⟨s1, hs1, es1⟩ := sc_nn2 (k := 3) (by decide) h1
      subst es1
      rcases h2 : ms_in A2 1 7 with _ | _
      · -- badly told
        refine lw_of fun ad hs => ?_
        have Cx : pa_C G (lw_at x (K, S, N, O) ad) cL_law 7 RL 17 mc ms := lw_C C
        refine pr_aload_n (pc := 232) Cx dL_law_232 rfl ?_
        refine pr_arg (pc := 233) Cx X hs (by omega) 1 (by decide) (by omega) rfl rfl dL_law_233 dL_law_234 dL_law_236 dL_law_237 dL_law_238 ?_
        refine pr_eqi (v := (nI s1)) eA1.symm ?_
        refine pr_arg (pc := 239) Cx X hs (by omega) 2 (by decide) (by omega) rfl rfl dL_law_239 dL_law_240 dL_law_242 dL_law_243 dL_law_244 ?_
        refine pr_eqi (v := A2) eA2.symm ?_
        refine pr_arg (pc := 245) Cx X hs (by omega) 3 (by decide) (by omega) rfl rfl dL_law_245 dL_law_246 dL_law_248 dL_law_249 dL_law_250 ?_
        refine pr_eqi (v := A3) eA3.symm ?_
        refine pr_arg (pc := 251) Cx X hs (by omega) 4 (by decide) (by omega) rfl rfl dL_law_251 dL_law_252 dL_law_254 dL_law_255 dL_law_256 ?_
        refine pr_if_eq (pc := 257) Cx 264 dL_law_257 (by decide) (fun cc => absurd (eA4.trans cc) hz4) (fun _ => ?_)
        refine pr_iconst (pc := 260) (v := 1) Cx dL_law_260 (by decide) ?_
        refine pr_goto (pc := 261) Cx 265 dL_law_261 (by decide) ?_
        refine pr_aload_n (pc := 265) Cx dL_law_265 rfl ?_
        refine pr_callL (pc := 266) (As := [pv_o 4 0, pv_i (nI s1), pv_i A2, pv_i A3, pv_i 1, pv_o 9 0]) C hs (l_knowsX2 (al' := false) G _ K S N O (nI s1) A2 A3 1 (c_X3_knowsX2 G _ K S S N O T T 0 z hl9 h.1 s1 A2 A3 1 (by omega) h2)) (fun r h9 hp9 => ⟨_, hp9.1⟩) wl_93 rfl rfl (Nat.le_of_ble_eq_true rfl) (by omega) (by omega) lw_lo_ok dL_law_266 (fun k9 h9 hp9 => ?_)
        obtain ⟨ek, rfl⟩ := hp9
        obtain rfl : k9 = 2 := by cases ek; rfl
        refine lw_of fun ad hs => ?_
        have Cx : pa_C G (lw_at x (K, S, N, O) ad) cL_law 7 RL 17 mc ms := lw_C C
        refine pr_istore (pc := 269) Cx dL_law_269 (by decide) ?_
        refine pr_aload_n (pc := 271) Cx dL_law_271 rfl ?_
        refine pr_arg (pc := 272) Cx X hs (by omega) 1 (by decide) (by omega) rfl rfl dL_law_272 dL_law_273 dL_law_275 dL_law_276 dL_law_277 ?_
        refine pr_eqi (v := (nI s1)) eA1.symm ?_
        refine pr_arg (pc := 278) Cx X hs (by omega) 2 (by decide) (by omega) rfl rfl dL_law_278 dL_law_279 dL_law_281 dL_law_282 dL_law_283 ?_
        refine pr_eqi (v := A2) eA2.symm ?_
        refine pr_arg (pc := 284) Cx X hs (by omega) 3 (by decide) (by omega) rfl rfl dL_law_284 dL_law_285 dL_law_287 dL_law_288 dL_law_289 ?_
        refine pr_eqi (v := A3) eA3.symm ?_
        refine pr_arg (pc := 290) Cx X hs (by omega) 4 (by decide) (by omega) rfl rfl dL_law_290 dL_law_291 dL_law_293 dL_law_294 dL_law_295 ?_
        refine pr_if_eq (pc := 296) Cx 303 dL_law_296 (by decide) (fun cc => absurd (eA4.trans cc) hz4) (fun _ => ?_)
        refine pr_iconst (pc := 299) (v := 1) Cx dL_law_299 (by decide) ?_
        refine pr_goto (pc := 300) Cx 304 dL_law_300 (by decide) ?_
        refine pr_vR (pc := 304) Cx (c_X4_knowsN G _ (K, S, N, O) (nI s1) A2 A3 1 (by simp [h217, sc_kn, h1, h2])) wv_L_96 rfl rfl (Nat.le_of_ble_eq_true rfl) (by decide) (pl_5 _) (Nat.le_of_ble_eq_true rfl) (by omega) (by omega) dL_law_304 ?_
        refine pr_istore (pc := 307) Cx dL_law_307 (by decide) ?_
        refine pr_aload_n (pc := 309) Cx dL_law_309 rfl ?_
        refine pr_vP (pc := 310) Cx (c_X4_thrown G _ _) wv_L_89 rfl rfl (Nat.le_of_ble_eq_true rfl) (by decide) (pl_5 _) (Nat.le_of_ble_eq_true rfl) (by omega) (by omega) dL_law_310 ?_
        refine pr_eqi (v := 2) (by simp [ms_thr, pa_us_self, h217, sc_kn, h1, h2]) ?_
        refine pr_iload (pc := 313) Cx dL_law_313 rfl ?_
        refine pr_icmp_eq (pc := 315) Cx 320 dL_law_315 (by decide) (fun _ => ?_) (fun q => absurd rfl q)
        refine pr_iload (pc := 320) Cx dL_law_320 rfl ?_
        refine pr_if_ne (pc := 322) Cx 337 dL_law_322 (by decide) (fun _ => ?_) (fun q => absurd q (by decide))
        refine pr_goto (pc := 337) Cx 1718 dL_law_337 (by decide) ?_
        refine pr_lo (lo' := lw_lo i) (by simp [pa_lle]) ?_
        exact lw_to hs (kk K N _ T z _ c _ _ (lw_R_235 h) (by omega) (Nat.le_of_eq (sj_ph_us (by decide)).symm) (by omega) (by omega))
      · skip
        rcases h3 : ms_in A3 0 2 with _ | _
        · -- badly told
          refine lw_of fun ad hs => ?_
          have Cx : pa_C G (lw_at x (K, S, N, O) ad) cL_law 7 RL 17 mc ms := lw_C C
          refine pr_aload_n (pc := 232) Cx dL_law_232 rfl ?_
          refine pr_arg (pc := 233) Cx X hs (by omega) 1 (by decide) (by omega) rfl rfl dL_law_233 dL_law_234 dL_law_236 dL_law_237 dL_law_238 ?_
          refine pr_eqi (v := (nI s1)) eA1.symm ?_
          refine pr_arg (pc := 239) Cx X hs (by omega) 2 (by decide) (by omega) rfl rfl dL_law_239 dL_law_240 dL_law_242 dL_law_243 dL_law_244 ?_
          refine pr_eqi (v := A2) eA2.symm ?_
          refine pr_arg (pc := 245) Cx X hs (by omega) 3 (by decide) (by omega) rfl rfl dL_law_245 dL_law_246 dL_law_248 dL_law_249 dL_law_250 ?_
          refine pr_eqi (v := A3) eA3.symm ?_
          refine pr_arg (pc := 251) Cx X hs (by omega) 4 (by decide) (by omega) rfl rfl dL_law_251 dL_law_252 dL_law_254 dL_law_255 dL_law_256 ?_
          refine pr_if_eq (pc := 257) Cx 264 dL_law_257 (by decide) (fun cc => absurd (eA4.trans cc) hz4) (fun _ => ?_)
          refine pr_iconst (pc := 260) (v := 1) Cx dL_law_260 (by decide) ?_
          refine pr_goto (pc := 261) Cx 265 dL_law_261 (by decide) ?_
          refine pr_aload_n (pc := 265) Cx dL_law_265 rfl ?_
          refine pr_callL (pc := 266) (As := [pv_o 4 0, pv_i (nI s1), pv_i A2, pv_i A3, pv_i 1, pv_o 9 0]) C hs (l_knowsX2 (al' := false) G _ K S N O (nI s1) A2 A3 1 (c_X3_knowsX3 G _ K S S N O T T 0 z hl9 h.1 s1 A2 A3 1 (by omega) h2 h3)) (fun r h9 hp9 => ⟨_, hp9.1⟩) wl_93 rfl rfl (Nat.le_of_ble_eq_true rfl) (by omega) (by omega) lw_lo_ok dL_law_266 (fun k9 h9 hp9 => ?_)
          obtain ⟨ek, rfl⟩ := hp9
          obtain rfl : k9 = 2 := by cases ek; rfl
          refine lw_of fun ad hs => ?_
          have Cx : pa_C G (lw_at x (K, S, N, O) ad) cL_law 7 RL 17 mc ms := lw_C C
          refine pr_istore (pc := 269) Cx dL_law_269 (by decide) ?_
          refine pr_aload_n (pc := 271) Cx dL_law_271 rfl ?_
          refine pr_arg (pc := 272) Cx X hs (by omega) 1 (by decide) (by omega) rfl rfl dL_law_272 dL_law_273 dL_law_275 dL_law_276 dL_law_277 ?_
          refine pr_eqi (v := (nI s1)) eA1.symm ?_
          refine pr_arg (pc := 278) Cx X hs (by omega) 2 (by decide) (by omega) rfl rfl dL_law_278 dL_law_279 dL_law_281 dL_law_282 dL_law_283 ?_
          refine pr_eqi (v := A2) eA2.symm ?_
          refine pr_arg (pc := 284) Cx X hs (by omega) 3 (by decide) (by omega) rfl rfl dL_law_284 dL_law_285 dL_law_287 dL_law_288 dL_law_289 ?_
          refine pr_eqi (v := A3) eA3.symm ?_
          refine pr_arg (pc := 290) Cx X hs (by omega) 4 (by decide) (by omega) rfl rfl dL_law_290 dL_law_291 dL_law_293 dL_law_294 dL_law_295 ?_
          refine pr_if_eq (pc := 296) Cx 303 dL_law_296 (by decide) (fun cc => absurd (eA4.trans cc) hz4) (fun _ => ?_)
          refine pr_iconst (pc := 299) (v := 1) Cx dL_law_299 (by decide) ?_
          refine pr_goto (pc := 300) Cx 304 dL_law_300 (by decide) ?_
          refine pr_vR (pc := 304) Cx (c_X4_knowsN G _ (K, S, N, O) (nI s1) A2 A3 1 (by simp [h217, sc_kn, h1, h2, h3])) wv_L_96 rfl rfl (Nat.le_of_ble_eq_true rfl) (by decide) (pl_5 _) (Nat.le_of_ble_eq_true rfl) (by omega) (by omega) dL_law_304 ?_
          refine pr_istore (pc := 307) Cx dL_law_307 (by decide) ?_
          refine pr_aload_n (pc := 309) Cx dL_law_309 rfl ?_
          refine pr_vP (pc := 310) Cx (c_X4_thrown G _ _) wv_L_89 rfl rfl (Nat.le_of_ble_eq_true rfl) (by decide) (pl_5 _) (Nat.le_of_ble_eq_true rfl) (by omega) (by omega) dL_law_310 ?_
          refine pr_eqi (v := 2) (by simp [ms_thr, pa_us_self, h217, sc_kn, h1, h2, h3]) ?_
          refine pr_iload (pc := 313) Cx dL_law_313 rfl ?_
          refine pr_icmp_eq (pc := 315) Cx 320 dL_law_315 (by decide) (fun _ => ?_) (fun q => absurd rfl q)
          refine pr_iload (pc := 320) Cx dL_law_320 rfl ?_
          refine pr_if_ne (pc := 322) Cx 337 dL_law_322 (by decide) (fun _ => ?_) (fun q => absurd q (by decide))
          refine pr_goto (pc := 337) Cx 1718 dL_law_337 (by decide) ?_
          refine pr_lo (lo' := lw_lo i) (by simp [pa_lle]) ?_
          exact lw_to hs (kk K N _ T z _ c _ _ (lw_R_235 h) (by omega) (Nat.le_of_eq (sj_ph_us (by decide)).symm) (by omega) (by omega))
        · skip
          rcases h4 : ms_isIn A2 A3 with _ | _
          · -- badly told
            refine lw_of fun ad hs => ?_
            have Cx : pa_C G (lw_at x (K, S, N, O) ad) cL_law 7 RL 17 mc ms := lw_C C
            refine pr_aload_n (pc := 232) Cx dL_law_232 rfl ?_
            refine pr_arg (pc := 233) Cx X hs (by omega) 1 (by decide) (by omega) rfl rfl dL_law_233 dL_law_234 dL_law_236 dL_law_237 dL_law_238 ?_
            refine pr_eqi (v := (nI s1)) eA1.symm ?_
            refine pr_arg (pc := 239) Cx X hs (by omega) 2 (by decide) (by omega) rfl rfl dL_law_239 dL_law_240 dL_law_242 dL_law_243 dL_law_244 ?_
            refine pr_eqi (v := A2) eA2.symm ?_
            refine pr_arg (pc := 245) Cx X hs (by omega) 3 (by decide) (by omega) rfl rfl dL_law_245 dL_law_246 dL_law_248 dL_law_249 dL_law_250 ?_
            refine pr_eqi (v := A3) eA3.symm ?_
            refine pr_arg (pc := 251) Cx X hs (by omega) 4 (by decide) (by omega) rfl rfl dL_law_251 dL_law_252 dL_law_254 dL_law_255 dL_law_256 ?_
            refine pr_if_eq (pc := 257) Cx 264 dL_law_257 (by decide) (fun cc => absurd (eA4.trans cc) hz4) (fun _ => ?_)
            refine pr_iconst (pc := 260) (v := 1) Cx dL_law_260 (by decide) ?_
            refine pr_goto (pc := 261) Cx 265 dL_law_261 (by decide) ?_
            refine pr_aload_n (pc := 265) Cx dL_law_265 rfl ?_
            refine pr_callL (pc := 266) (As := [pv_o 4 0, pv_i (nI s1), pv_i A2, pv_i A3, pv_i 1, pv_o 9 0]) C hs (l_knowsX2 (al' := false) G _ K S N O (nI s1) A2 A3 1 (c_X3_knowsX4 G _ K S S N O T T 0 z hl9 h.1 s1 A2 A3 1 (by omega) h2 h3 h4)) (fun r h9 hp9 => ⟨_, hp9.1⟩) wl_93 rfl rfl (Nat.le_of_ble_eq_true rfl) (by omega) (by omega) lw_lo_ok dL_law_266 (fun k9 h9 hp9 => ?_)
            obtain ⟨ek, rfl⟩ := hp9
            obtain rfl : k9 = 2 := by cases ek; rfl
            refine lw_of fun ad hs => ?_
            have Cx : pa_C G (lw_at x (K, S, N, O) ad) cL_law 7 RL 17 mc ms := lw_C C
            refine pr_istore (pc := 269) Cx dL_law_269 (by decide) ?_
            refine pr_aload_n (pc := 271) Cx dL_law_271 rfl ?_
            refine pr_arg (pc := 272) Cx X hs (by omega) 1 (by decide) (by omega) rfl rfl dL_law_272 dL_law_273 dL_law_275 dL_law_276 dL_law_277 ?_
            refine pr_eqi (v := (nI s1)) eA1.symm ?_
            refine pr_arg (pc := 278) Cx X hs (by omega) 2 (by decide) (by omega) rfl rfl dL_law_278 dL_law_279 dL_law_281 dL_law_282 dL_law_283 ?_
            refine pr_eqi (v := A2) eA2.symm ?_
            refine pr_arg (pc := 284) Cx X hs (by omega) 3 (by decide) (by omega) rfl rfl dL_law_284 dL_law_285 dL_law_287 dL_law_288 dL_law_289 ?_
            refine pr_eqi (v := A3) eA3.symm ?_
            refine pr_arg (pc := 290) Cx X hs (by omega) 4 (by decide) (by omega) rfl rfl dL_law_290 dL_law_291 dL_law_293 dL_law_294 dL_law_295 ?_
            refine pr_if_eq (pc := 296) Cx 303 dL_law_296 (by decide) (fun cc => absurd (eA4.trans cc) hz4) (fun _ => ?_)
            refine pr_iconst (pc := 299) (v := 1) Cx dL_law_299 (by decide) ?_
            refine pr_goto (pc := 300) Cx 304 dL_law_300 (by decide) ?_
            refine pr_vR (pc := 304) Cx (c_X4_knowsN G _ (K, S, N, O) (nI s1) A2 A3 1 (by simp [h217, sc_kn, h1, h2, h3, h4])) wv_L_96 rfl rfl (Nat.le_of_ble_eq_true rfl) (by decide) (pl_5 _) (Nat.le_of_ble_eq_true rfl) (by omega) (by omega) dL_law_304 ?_
            refine pr_istore (pc := 307) Cx dL_law_307 (by decide) ?_
            refine pr_aload_n (pc := 309) Cx dL_law_309 rfl ?_
            refine pr_vP (pc := 310) Cx (c_X4_thrown G _ _) wv_L_89 rfl rfl (Nat.le_of_ble_eq_true rfl) (by decide) (pl_5 _) (Nat.le_of_ble_eq_true rfl) (by omega) (by omega) dL_law_310 ?_
            refine pr_eqi (v := 2) (by simp [ms_thr, pa_us_self, h217, sc_kn, h1, h2, h3, h4]) ?_
            refine pr_iload (pc := 313) Cx dL_law_313 rfl ?_
            refine pr_icmp_eq (pc := 315) Cx 320 dL_law_315 (by decide) (fun _ => ?_) (fun q => absurd rfl q)
            refine pr_iload (pc := 320) Cx dL_law_320 rfl ?_
            refine pr_if_ne (pc := 322) Cx 337 dL_law_322 (by decide) (fun _ => ?_) (fun q => absurd q (by decide))
            refine pr_goto (pc := 337) Cx 1718 dL_law_337 (by decide) ?_
            refine pr_lo (lo' := lw_lo i) (by simp [pa_lle]) ?_
            exact lw_to hs (kk K N _ T z _ c _ _ (lw_R_235 h) (by omega) (Nat.le_of_eq (sj_ph_us (by decide)).symm) (by omega) (by omega))
          · skip
            refine lw_of fun ad hs => ?_
            have Cx : pa_C G (lw_at x (K, S, N, O) ad) cL_law 7 RL 17 mc ms := lw_C C
            refine pr_aload_n (pc := 232) Cx dL_law_232 rfl ?_
            refine pr_arg (pc := 233) Cx X hs (by omega) 1 (by decide) (by omega) rfl rfl dL_law_233 dL_law_234 dL_law_236 dL_law_237 dL_law_238 ?_
            refine pr_eqi (v := (nI s1)) eA1.symm ?_
            refine pr_arg (pc := 239) Cx X hs (by omega) 2 (by decide) (by omega) rfl rfl dL_law_239 dL_law_240 dL_law_242 dL_law_243 dL_law_244 ?_
            refine pr_eqi (v := A2) eA2.symm ?_
            refine pr_arg (pc := 245) Cx X hs (by omega) 3 (by decide) (by omega) rfl rfl dL_law_245 dL_law_246 dL_law_248 dL_law_249 dL_law_250 ?_
            refine pr_eqi (v := A3) eA3.symm ?_
            refine pr_arg (pc := 251) Cx X hs (by omega) 4 (by decide) (by omega) rfl rfl dL_law_251 dL_law_252 dL_law_254 dL_law_255 dL_law_256 ?_
            refine pr_if_eq (pc := 257) Cx 264 dL_law_257 (by decide) (fun cc => absurd (eA4.trans cc) hz4) (fun _ => ?_)
            refine pr_iconst (pc := 260) (v := 1) Cx dL_law_260 (by decide) ?_
            refine pr_goto (pc := 261) Cx 265 dL_law_261 (by decide) ?_
            refine pr_aload_n (pc := 265) Cx dL_law_265 rfl ?_
            refine pr_callL (pc := 266) (As := [pv_o 4 0, pv_i (nI s1), pv_i A2, pv_i A3, pv_i 1, pv_o 9 0]) C hs (l_knowsY G _ K S N O (nI s1) A2 A3 1 (P := fun v K' N' => v = S 203 s1 ∧ lw_R K' N' T z (pa_us (pa_us (pa_us (pa_us S 235 0 0) 203 s1 A2) 204 s1 A3) 205 s1 1) c) (c_X3_knowsY G _ K S (pa_us S 235 0 0) N O T T 0 z h0.1 s1 A2 A3 1 (by omega) h2 h3 h4 (by decide)) (fun r h9 ⟨e1, K', N', e2, hs9⟩ => ⟨_, K', N', e1, e2, pa_us_ne (by decide), lw_R_of h0 hs9 (fun f hf j => by have e1 := (show ∀ f ∈ 201 :: sc_Af, f ≠ 203 ∧ f ≠ 204 ∧ f ≠ 205 by decide) f hf; rw [pa_us_ne e1.2.2, pa_us_ne e1.2.1, pa_us_ne e1.1])⟩)) (fun r h9 hp9 => ⟨_, hp9.1⟩) wl_93 rfl rfl (Nat.le_of_ble_eq_true rfl) (by omega) (by omega) lw_lo_ok dL_law_266 (fun k9 h9 hp9 => ?_)
            obtain ⟨ek, v9, K', N', rfl, rfl, hR⟩ := hp9
            obtain rfl : k9 = 0 := by cases ek; rfl
            refine lw_of fun ad hs => ?_
            have Cx : pa_C G (lw_at x (K', S, N', (pa_uo O (S 203 s1).toInt64)) ad) cL_law 7 RL 17 mc ms := lw_C C
            refine pr_istore (pc := 269) Cx dL_law_269 (by decide) ?_
            refine pr_aload_n (pc := 271) Cx dL_law_271 rfl ?_
            refine pr_arg (pc := 272) Cx X hs (by omega) 1 (by decide) (by omega) rfl rfl dL_law_272 dL_law_273 dL_law_275 dL_law_276 dL_law_277 ?_
            refine pr_eqi (v := (nI s1)) eA1.symm ?_
            refine pr_arg (pc := 278) Cx X hs (by omega) 2 (by decide) (by omega) rfl rfl dL_law_278 dL_law_279 dL_law_281 dL_law_282 dL_law_283 ?_
            refine pr_eqi (v := A2) eA2.symm ?_
            refine pr_arg (pc := 284) Cx X hs (by omega) 3 (by decide) (by omega) rfl rfl dL_law_284 dL_law_285 dL_law_287 dL_law_288 dL_law_289 ?_
            refine pr_eqi (v := A3) eA3.symm ?_
            refine pr_arg (pc := 290) Cx X hs (by omega) 4 (by decide) (by omega) rfl rfl dL_law_290 dL_law_291 dL_law_293 dL_law_294 dL_law_295 ?_
            refine pr_if_eq (pc := 296) Cx 303 dL_law_296 (by decide) (fun cc => absurd (eA4.trans cc) hz4) (fun _ => ?_)
            refine pr_iconst (pc := 299) (v := 1) Cx dL_law_299 (by decide) ?_
            refine pr_goto (pc := 300) Cx 304 dL_law_300 (by decide) ?_
            refine pr_vR (pc := 304) Cx (c_X4_knowsY G _ (K', S, N', (pa_uo O (S 203 s1).toInt64)) s1 A2 A3 1 (by omega) (by rw [sc_kn, h2, h3, h4]; rfl) (by decide)) wv_L_96 rfl rfl (Nat.le_of_ble_eq_true rfl) (by decide) (pl_5 _) (Nat.le_of_ble_eq_true rfl) (by omega) (by omega) dL_law_304 ?_
            refine pr_istore (pc := 307) Cx dL_law_307 (by decide) ?_
            refine pr_aload_n (pc := 309) Cx dL_law_309 rfl ?_
            refine pr_vP (pc := 310) Cx (c_X4_thrown G _ _) wv_L_89 rfl rfl (Nat.le_of_ble_eq_true rfl) (by decide) (pl_5 _) (Nat.le_of_ble_eq_true rfl) (by omega) (by omega) dL_law_310 ?_
            refine pr_eqi (v := 0) (by show (pa_us (pa_us (pa_us (pa_us S 235 0 0) 203 s1 A2) 204 s1 A3) 205 s1 1) 235 0 = 0; rw [pa_us_ne (by decide), pa_us_ne (by decide), pa_us_ne (by decide), pa_us_self]) ?_
            refine pr_iload (pc := 313) Cx dL_law_313 rfl ?_
            refine pr_icmp_eq (pc := 315) Cx 320 dL_law_315 (by decide) (fun _ => ?_) (fun q => absurd rfl q)
            refine pr_iload (pc := 320) Cx dL_law_320 rfl ?_
            refine pr_if_ne (pc := 322) Cx 337 dL_law_322 (by decide) (fun q => absurd rfl q) (fun _ => ?_)
            refine pr_aload_n (pc := 325) Cx dL_law_325 rfl ?_
            refine pr_iconst (pc := 326) (v := 0) Cx dL_law_326 (by decide) ?_
            refine pr_lald9 (pc := 327) Cx rfl dL_law_327 ?_
            refine pr_iload (pc := 328) Cx dL_law_328 rfl ?_
            refine pr_i2l (pc := 330) Cx dL_law_330 ?_
            refine pr_lcmp (pc := 331) Cx dL_law_331 ?_
            refine pr_if_eq (pc := 332) Cx 337 dL_law_332 (by decide) (fun _ => ?_) (fun q => absurd (lw_cmp0 _) q)
            refine pr_goto (pc := 337) Cx 1718 dL_law_337 (by decide) ?_
            refine pr_lo (lo' := lw_lo i) (by simp [pa_lle]) ?_
            exact lw_to hs (kk K' N' _ T z (pa_us (pa_us (pa_us (pa_us S 235 0 0) 203 s1 A2) 204 s1 A3) 205 s1 1) c _ _ hR (by omega) (Nat.le_of_eq (((sj_ph_us (by decide)).trans (sj_ph_us (by decide))).trans ((sj_ph_us (by decide)).trans (sj_ph_us (by decide)))).symm) (by omega) (by omega))
set_option maxRecDepth 100000 in
set_option maxHeartbeats 4000000 in
theorem lb_turn {G : pa_G} {x : pa_X} {scr L mc ms i a b : Nat} {xs : Nat → Int32} {K : Nat → Nat → Nat → Int32} {N : Nat → Nat} {T : Nat} {z : sj_Z} {S : Nat → Nat → Int32} {c : Nat} {O : Nat → Int64} (hl9 : x.2.1.stackTraces = false) (C : pa_C G x cL_law 7 RL 17 mc ms) (X : lw_X G x scr L xs) (hL : L ≤ 3584) (hi : i + 7 ≤ L) (h : lw_R K N T z S c) (hc : c + 22 < 30000) (ha : a + 2000 ≤ mc) (hb : b + 900000 ≤ ms)
    (kk : ∀ (K' : Nat → Nat → Nat → Int32) (N' : Nat → Nat) (O' : Nat → Int64) (T' : Nat) (z' : sj_Z) (S' : Nat → Nat → Int32) (c' a' b' : Nat), lw_R K' N' T' z' S' c' → c' ≤ c + 20 → sj_ph S T ≤ sj_ph S' T' → a' ≤ a + 2 * (sj_ph S' T' - sj_ph S T) + 4 → b' ≤ b + 1520 * (sj_ph S' T' - sj_ph S T) + 1600 → lw_w G x scr 7 (K', S', N', O') a' b' 1718 (lw_lo i) []) : lw_w G x scr 7 (K, S, N, O) a b 935 (lw_lo i) [] := by
  have hM := h.2.1.1
  have hJ := h.2.1.2.1
  have hT := hM.1.1
  have h217 : S 217 0 = nI T := hM.1.2.1
  have h0 := lw_R_235 (v := 0) h
  obtain ⟨A1, eA1⟩ : ∃ v, v = xs (i + 1) := ⟨_, rfl⟩
  obtain ⟨A2, eA2⟩ : ∃ v, v = xs (i + 2) := ⟨_, rfl⟩
  rcases h1 : ms_in A1 0 (nI T - 1) with _ | _
  · -- badly told
    refine lw_of fun ad hs => ?_
    have Cx : pa_C G (lw_at x (K, S, N, O) ad) cL_law 7 RL 17 mc ms := lw_C C
    refine pr_aload_n (pc := 935) Cx dL_law_935 rfl ?_
    refine pr_arg (pc := 936) Cx X hs (by omega) 1 (by decide) (by omega) rfl rfl dL_law_936 dL_law_937 dL_law_939 dL_law_940 dL_law_941 ?_
    refine pr_eqi (v := A1) eA1.symm ?_
    refine pr_arg (pc := 942) Cx X hs (by omega) 2 (by decide) (by omega) rfl rfl dL_law_942 dL_law_943 dL_law_945 dL_law_946 dL_law_947 ?_
    refine pr_eqi (v := A2) eA2.symm ?_
    refine pr_aload_n (pc := 948) Cx dL_law_948 rfl ?_
    refine pr_callL (pc := 949) (As := [pv_o 4 0, pv_i A1, pv_i A2, pv_o 9 0]) C hs (l_turnX1 (al' := false) G _ K S N O A1 A2 (c_X3_turnX1 G _ K S S N O T T 0 z hl9 h.1 A1 A2 hT h1)) (fun r h9 hp9 => ⟨_, hp9.1⟩) wl_135 rfl rfl (Nat.le_of_ble_eq_true rfl) (by omega) (by omega) lw_lo_ok dL_law_949 (fun k9 h9 hp9 => ?_)
    obtain ⟨ek, rfl⟩ := hp9
    obtain rfl : k9 = 1 := by cases ek; rfl
    refine lw_of fun ad hs => ?_
    have Cx : pa_C G (lw_at x (K, S, N, O) ad) cL_law 7 RL 17 mc ms := lw_C C
    refine pr_istore (pc := 952) Cx dL_law_952 (by decide) ?_
    refine pr_aload_n (pc := 954) Cx dL_law_954 rfl ?_
    refine pr_arg (pc := 955) Cx X hs (by omega) 1 (by decide) (by omega) rfl rfl dL_law_955 dL_law_956 dL_law_958 dL_law_959 dL_law_960 ?_
    refine pr_eqi (v := A1) eA1.symm ?_
    refine pr_arg (pc := 961) Cx X hs (by omega) 2 (by decide) (by omega) rfl rfl dL_law_961 dL_law_962 dL_law_964 dL_law_965 dL_law_966 ?_
    refine pr_eqi (v := A2) eA2.symm ?_
    refine pr_vR (pc := 967) Cx (c_X4_turnN G _ (K, S, N, O) A1 A2 (by simp [h217, sc_kn, h1])) wv_L_137 rfl rfl (Nat.le_of_ble_eq_true rfl) (by decide) (pl_5 _) (Nat.le_of_ble_eq_true rfl) (by omega) (by omega) dL_law_967 ?_
    refine pr_istore (pc := 970) Cx dL_law_970 (by decide) ?_
    refine pr_aload_n (pc := 972) Cx dL_law_972 rfl ?_
    refine pr_vP (pc := 973) Cx (c_X4_thrown G _ _) wv_L_89 rfl rfl (Nat.le_of_ble_eq_true rfl) (by decide) (pl_5 _) (Nat.le_of_ble_eq_true rfl) (by omega) (by omega) dL_law_973 ?_
    refine pr_eqi (v := 1) (by simp [ms_thr, pa_us_self, h217, sc_kn, h1]) ?_
    refine pr_iload (pc := 976) Cx dL_law_976 rfl ?_
    refine pr_icmp_eq (pc := 978) Cx 983 dL_law_978 (by decide) (fun _ => ?_) (fun q => absurd rfl q)
    refine pr_iload (pc := 983) Cx dL_law_983 rfl ?_
    refine pr_if_ne (pc := 985) Cx 1000 dL_law_985 (by decide) (fun _ => ?_) (fun q => absurd q (by decide))
    refine pr_goto (pc := 1000) Cx 1718 dL_law_1000 (by decide) ?_
    refine pr_lo (lo' := lw_lo i) (by simp [pa_lle]) ?_
    exact lw_to hs (kk K N _ T z _ c _ _ (lw_R_235 h) (by omega) (Nat.le_of_eq (sj_ph_us (by decide)).symm) (by omega) (by omega))
  · skip
    obtain ⟨t1, ht1, et1⟩ := sc_inTk (t := 0) hT h1
    subst et1
    rcases h2 : ms_in A2 0 8 with _ | _
    · -- badly told
      refine lw_of fun ad hs => ?_
      have Cx : pa_C G (lw_at x (K, S, N, O) ad) cL_law 7 RL 17 mc ms := lw_C C
      refine pr_aload_n (pc := 935) Cx dL_law_935 rfl ?_
      refine pr_arg (pc := 936) Cx X hs (by omega) 1 (by decide) (by omega) rfl rfl dL_law_936 dL_law_937 dL_law_939 dL_law_940 dL_law_941 ?_
      refine pr_eqi (v := (nI t1)) eA1.symm ?_
      refine pr_arg (pc := 942) Cx X hs (by omega) 2 (by decide) (by omega) rfl rfl dL_law_942 dL_law_943 dL_law_945 dL_law_946 dL_law_947 ?_
      refine pr_eqi (v := A2) eA2.symm ?_
      refine pr_aload_n (pc := 948) Cx dL_law_948 rfl ?_
      refine pr_callL (pc := 949) (As := [pv_o 4 0, pv_i (nI t1), pv_i A2, pv_o 9 0]) C hs (l_turnX2 (al' := false) G _ K S N O (nI t1) A2 (c_X3_turnX2 G _ K S S N O T T 0 z hl9 h.1 t1 A2 hT ht1 h2)) (fun r h9 hp9 => ⟨_, hp9.1⟩) wl_135 rfl rfl (Nat.le_of_ble_eq_true rfl) (by omega) (by omega) lw_lo_ok dL_law_949 (fun k9 h9 hp9 => ?_)
      obtain ⟨ek, rfl⟩ := hp9
      obtain rfl : k9 = 2 := by cases ek; rfl
      refine lw_of fun ad hs => ?_
      have Cx : pa_C G (lw_at x (K, S, N, O) ad) cL_law 7 RL 17 mc ms := lw_C C
      refine pr_istore (pc := 952) Cx dL_law_952 (by decide) ?_
      refine pr_aload_n (pc := 954) Cx dL_law_954 rfl ?_
      refine pr_arg (pc := 955) Cx X hs (by omega) 1 (by decide) (by omega) rfl rfl dL_law_955 dL_law_956 dL_law_958 dL_law_959 dL_law_960 ?_
      refine pr_eqi (v := (nI t1)) eA1.symm ?_
      refine pr_arg (pc := 961) Cx X hs (by omega) 2 (by decide) (by omega) rfl rfl dL_law_961 dL_law_962 dL_law_964 dL_law_965 dL_law_966 ?_
      refine pr_eqi (v := A2) eA2.symm ?_
      refine pr_vR (pc := 967) Cx (c_X4_turnN G _ (K, S, N, O) (nI t1) A2 (by simp [h217, sc_kn, h1, h2])) wv_L_137 rfl rfl (Nat.le_of_ble_eq_true rfl) (by decide) (pl_5 _) (Nat.le_of_ble_eq_true rfl) (by omega) (by omega) dL_law_967 ?_
      refine pr_istore (pc := 970) Cx dL_law_970 (by decide) ?_
      refine pr_aload_n (pc := 972) Cx dL_law_972 rfl ?_
      refine pr_vP (pc := 973) Cx (c_X4_thrown G _ _) wv_L_89 rfl rfl (Nat.le_of_ble_eq_true rfl) (by decide) (pl_5 _) (Nat.le_of_ble_eq_true rfl) (by omega) (by omega) dL_law_973 ?_
      refine pr_eqi (v := 2) (by simp [ms_thr, pa_us_self, h217, sc_kn, h1, h2]) ?_
      refine pr_iload (pc := 976) Cx dL_law_976 rfl ?_
      refine pr_icmp_eq (pc := 978) Cx 983 dL_law_978 (by decide) (fun _ => ?_) (fun q => absurd rfl q)
      refine pr_iload (pc := 983) Cx dL_law_983 rfl ?_
      refine pr_if_ne (pc := 985) Cx 1000 dL_law_985 (by decide) (fun _ => ?_) (fun q => absurd q (by decide))
      refine pr_goto (pc := 1000) Cx 1718 dL_law_1000 (by decide) ?_
      refine pr_lo (lo' := lw_lo i) (by simp [pa_lle]) ?_
      exact lw_to hs (kk K N _ T z _ c _ _ (lw_R_235 h) (by omega) (Nat.le_of_eq (sj_ph_us (by decide)).symm) (by omega) (by omega))
    · skip
      obtain ⟨s2, hs2, es2⟩ := sc_nn2 (k := 8) (by decide) h2
      subst es2
      obtain ⟨wt, at9, hwt4, -, hwt, -⟩ := mw_S_t hM ht1
      refine lw_of fun ad hs => ?_
      have Cx : pa_C G (lw_at x (K, S, N, O) ad) cL_law 7 RL 17 mc ms := lw_C C
      refine pr_aload_n (pc := 935) Cx dL_law_935 rfl ?_
      refine pr_arg (pc := 936) Cx X hs (by omega) 1 (by decide) (by omega) rfl rfl dL_law_936 dL_law_937 dL_law_939 dL_law_940 dL_law_941 ?_
      refine pr_eqi (v := (nI t1)) eA1.symm ?_
      refine pr_arg (pc := 942) Cx X hs (by omega) 2 (by decide) (by omega) rfl rfl dL_law_942 dL_law_943 dL_law_945 dL_law_946 dL_law_947 ?_
      refine pr_eqi (v := (nI s2)) eA2.symm ?_
      refine pr_aload_n (pc := 948) Cx dL_law_948 rfl ?_
      refine pr_callL (pc := 949) (As := [pv_o 4 0, pv_i (nI t1), pv_i (nI s2), pv_o 9 0]) C hs (l_turnY G _ K S N O (nI t1) (nI s2) (P := fun v K' N' => v = ms_oft S t1 s2 ∧ lw_R K' N' T z (pa_us S 235 0 0) c) (c_X3_turnY G _ K S S N O T T 0 z h.1 t1 s2 wt hT ht1 (by omega) h.2.2.1 hwt hwt4) (fun r h9 hp => ⟨_, K, N, hp.1, hp.2, rfl, h0⟩)) (fun r h9 hp9 => ⟨_, hp9.1⟩) wl_135 rfl rfl (Nat.le_of_ble_eq_true rfl) (by omega) (by omega) lw_lo_ok dL_law_949 (fun k9 h9 hp9 => ?_)
      obtain ⟨ek, v9, K', N', rfl, rfl, hR⟩ := hp9
      obtain rfl : k9 = 0 := by cases ek; rfl
      refine lw_of fun ad hs => ?_
      have Cx : pa_C G (lw_at x (K', S, N', (pa_uo O (ms_oft S t1 s2).toInt64)) ad) cL_law 7 RL 17 mc ms := lw_C C
      refine pr_istore (pc := 952) Cx dL_law_952 (by decide) ?_
      refine pr_aload_n (pc := 954) Cx dL_law_954 rfl ?_
      refine pr_arg (pc := 955) Cx X hs (by omega) 1 (by decide) (by omega) rfl rfl dL_law_955 dL_law_956 dL_law_958 dL_law_959 dL_law_960 ?_
      refine pr_eqi (v := (nI t1)) eA1.symm ?_
      refine pr_arg (pc := 961) Cx X hs (by omega) 2 (by decide) (by omega) rfl rfl dL_law_961 dL_law_962 dL_law_964 dL_law_965 dL_law_966 ?_
      refine pr_eqi (v := (nI s2)) eA2.symm ?_
      refine pr_vR (pc := 967) Cx (c_X4_turnY G _ (K', S, N', (pa_uo O (ms_oft S t1 s2).toInt64)) T t1 s2 h217 hT ht1 (by omega)) wv_L_137 rfl rfl (Nat.le_of_ble_eq_true rfl) (by decide) (pl_5 _) (Nat.le_of_ble_eq_true rfl) (by omega) (by omega) dL_law_967 ?_
      refine pr_istore (pc := 970) Cx dL_law_970 (by decide) ?_
      refine pr_aload_n (pc := 972) Cx dL_law_972 rfl ?_
      refine pr_vP (pc := 973) Cx (c_X4_thrown G _ _) wv_L_89 rfl rfl (Nat.le_of_ble_eq_true rfl) (by decide) (pl_5 _) (Nat.le_of_ble_eq_true rfl) (by omega) (by omega) dL_law_973 ?_
      refine pr_eqi (v := 0) (by show pa_us S 235 0 0 235 0 = 0; exact pa_us_self _ _ _ _) ?_
      refine pr_iload (pc := 976) Cx dL_law_976 rfl ?_
      refine pr_icmp_eq (pc := 978) Cx 983 dL_law_978 (by decide) (fun _ => ?_) (fun q => absurd rfl q)
      refine pr_iload (pc := 983) Cx dL_law_983 rfl ?_
      refine pr_if_ne (pc := 985) Cx 1000 dL_law_985 (by decide) (fun q => absurd rfl q) (fun _ => ?_)
      refine pr_aload_n (pc := 988) Cx dL_law_988 rfl ?_
      refine pr_iconst (pc := 989) (v := 0) Cx dL_law_989 (by decide) ?_
      refine pr_lald9 (pc := 990) Cx rfl dL_law_990 ?_
      refine pr_iload (pc := 991) Cx dL_law_991 rfl ?_
      refine pr_i2l (pc := 993) Cx dL_law_993 ?_
      refine pr_lcmp (pc := 994) Cx dL_law_994 ?_
      refine pr_if_eq (pc := 995) Cx 1000 dL_law_995 (by decide) (fun _ => ?_) (fun q => absurd (lw_cmp0 _) q)
      refine pr_goto (pc := 1000) Cx 1718 dL_law_1000 (by decide) ?_
      refine pr_lo (lo' := lw_lo i) (by simp [pa_lle]) ?_
      exact lw_to hs (kk K' N' _ T z (pa_us S 235 0 0) c _ _ hR (by omega) (Nat.le_of_eq (sj_ph_us (by decide)).symm) (by omega) (by omega))
set_option maxRecDepth 100000 in
set_option maxHeartbeats 4000000 in
theorem lb_heard {G : pa_G} {x : pa_X} {scr L mc ms i a b : Nat} {xs : Nat → Int32} {K : Nat → Nat → Nat → Int32} {N : Nat → Nat} {T : Nat} {z : sj_Z} {S : Nat → Nat → Int32} {c : Nat} {O : Nat → Int64} (hl9 : x.2.1.stackTraces = false) (C : pa_C G x cL_law 7 RL 17 mc ms) (X : lw_X G x scr L xs) (hL : L ≤ 3584) (hi : i + 7 ≤ L) (h : lw_R K N T z S c) (hc : c + 22 < 30000) (ha : a + 2000 ≤ mc) (hb : b + 900000 ≤ ms)
    (kk : ∀ (K' : Nat → Nat → Nat → Int32) (N' : Nat → Nat) (O' : Nat → Int64) (T' : Nat) (z' : sj_Z) (S' : Nat → Nat → Int32) (c' a' b' : Nat), lw_R K' N' T' z' S' c' → c' ≤ c + 20 → sj_ph S T ≤ sj_ph S' T' → a' ≤ a + 2 * (sj_ph S' T' - sj_ph S T) + 4 → b' ≤ b + 1520 * (sj_ph S' T' - sj_ph S T) + 1600 → lw_w G x scr 7 (K', S', N', O') a' b' 1718 (lw_lo i) []) : lw_w G x scr 7 (K, S, N, O) a b 1003 (lw_lo i) [] := by
  have hM := h.2.1.1
  have hJ := h.2.1.2.1
  have hT := hM.1.1
  have h217 : S 217 0 = nI T := hM.1.2.1
  have h0 := lw_R_235 (v := 0) h
  obtain ⟨A1, eA1⟩ : ∃ v, v = xs (i + 1) := ⟨_, rfl⟩
  obtain ⟨A2, eA2⟩ : ∃ v, v = xs (i + 2) := ⟨_, rfl⟩
  rcases h1 : ms_in A1 0 (nI T - 1) with _ | _
  · -- badly told
    refine lw_of fun ad hs => ?_
    have Cx : pa_C G (lw_at x (K, S, N, O) ad) cL_law 7 RL 17 mc ms := lw_C C
    refine pr_aload_n (pc := 1003) Cx dL_law_1003 rfl ?_
    refine pr_arg (pc := 1004) Cx X hs (by omega) 1 (by decide) (by omega) rfl rfl dL_law_1004 dL_law_1005 dL_law_1007 dL_law_1008 dL_law_1009 ?_
    refine pr_eqi (v := A1) eA1.symm ?_
    refine pr_arg (pc := 1010) Cx X hs (by omega) 2 (by decide) (by omega) rfl rfl dL_law_1010 dL_law_1011 dL_law_1013 dL_law_1014 dL_law_1015 ?_
    refine pr_eqi (v := A2) eA2.symm ?_
    refine pr_aload_n (pc := 1016) Cx dL_law_1016 rfl ?_
    refine pr_callL (pc := 1017) (As := [pv_o 4 0, pv_i A1, pv_i A2, pv_o 9 0]) C hs (l_heardX1 (al' := false) G _ K S N O A1 A2 (c_X3_heardX1 G _ K S S N O T T 0 z hl9 h.1 A1 A2 hT h1)) (fun r h9 hp9 => ⟨_, hp9.1⟩) wl_138 rfl rfl (Nat.le_of_ble_eq_true rfl) (by omega) (by omega) lw_lo_ok dL_law_1017 (fun k9 h9 hp9 => ?_)
    obtain ⟨ek, rfl⟩ := hp9
    obtain rfl : k9 = 1 := by cases ek; rfl
    refine lw_of fun ad hs => ?_
    have Cx : pa_C G (lw_at x (K, S, N, O) ad) cL_law 7 RL 17 mc ms := lw_C C
    refine pr_istore (pc := 1020) Cx dL_law_1020 (by decide) ?_
    refine pr_aload_n (pc := 1022) Cx dL_law_1022 rfl ?_
    refine pr_arg (pc := 1023) Cx X hs (by omega) 1 (by decide) (by omega) rfl rfl dL_law_1023 dL_law_1024 dL_law_1026 dL_law_1027 dL_law_1028 ?_
    refine pr_eqi (v := A1) eA1.symm ?_
    refine pr_arg (pc := 1029) Cx X hs (by omega) 2 (by decide) (by omega) rfl rfl dL_law_1029 dL_law_1030 dL_law_1032 dL_law_1033 dL_law_1034 ?_
    refine pr_eqi (v := A2) eA2.symm ?_
    refine pr_vR (pc := 1035) Cx (c_X4_heardN G _ (K, S, N, O) A1 A2 (by simp [h217, sc_kn, h1])) wv_L_140 rfl rfl (Nat.le_of_ble_eq_true rfl) (by decide) (pl_5 _) (Nat.le_of_ble_eq_true rfl) (by omega) (by omega) dL_law_1035 ?_
    refine pr_istore (pc := 1038) Cx dL_law_1038 (by decide) ?_
    refine pr_aload_n (pc := 1040) Cx dL_law_1040 rfl ?_
    refine pr_vP (pc := 1041) Cx (c_X4_thrown G _ _) wv_L_89 rfl rfl (Nat.le_of_ble_eq_true rfl) (by decide) (pl_5 _) (Nat.le_of_ble_eq_true rfl) (by omega) (by omega) dL_law_1041 ?_
    refine pr_eqi (v := 1) (by simp [ms_thr, pa_us_self, h217, sc_kn, h1]) ?_
    refine pr_iload (pc := 1044) Cx dL_law_1044 rfl ?_
    refine pr_icmp_eq (pc := 1046) Cx 1051 dL_law_1046 (by decide) (fun _ => ?_) (fun q => absurd rfl q)
    refine pr_iload (pc := 1051) Cx dL_law_1051 rfl ?_
    refine pr_if_ne (pc := 1053) Cx 1068 dL_law_1053 (by decide) (fun _ => ?_) (fun q => absurd q (by decide))
    refine pr_goto (pc := 1068) Cx 1718 dL_law_1068 (by decide) ?_
    refine pr_lo (lo' := lw_lo i) (by simp [pa_lle]) ?_
    exact lw_to hs (kk K N _ T z _ c _ _ (lw_R_235 h) (by omega) (Nat.le_of_eq (sj_ph_us (by decide)).symm) (by omega) (by omega))
  · skip
    obtain ⟨t1, ht1, et1⟩ := sc_inTk (t := 0) hT h1
    subst et1
    rcases h2 : ms_in A2 0 3 with _ | _
    · -- badly told
      refine lw_of fun ad hs => ?_
      have Cx : pa_C G (lw_at x (K, S, N, O) ad) cL_law 7 RL 17 mc ms := lw_C C
      refine pr_aload_n (pc := 1003) Cx dL_law_1003 rfl ?_
      refine pr_arg (pc := 1004) Cx X hs (by omega) 1 (by decide) (by omega) rfl rfl dL_law_1004 dL_law_1005 dL_law_1007 dL_law_1008 dL_law_1009 ?_
      refine pr_eqi (v := (nI t1)) eA1.symm ?_
      refine pr_arg (pc := 1010) Cx X hs (by omega) 2 (by decide) (by omega) rfl rfl dL_law_1010 dL_law_1011 dL_law_1013 dL_law_1014 dL_law_1015 ?_
      refine pr_eqi (v := A2) eA2.symm ?_
      refine pr_aload_n (pc := 1016) Cx dL_law_1016 rfl ?_
      refine pr_callL (pc := 1017) (As := [pv_o 4 0, pv_i (nI t1), pv_i A2, pv_o 9 0]) C hs (l_heardX1 (al' := false) G _ K S N O (nI t1) A2 (c_X3_heardX2 G _ K S S N O T T 0 z hl9 h.1 t1 A2 hT ht1 h2)) (fun r h9 hp9 => ⟨_, hp9.1⟩) wl_138 rfl rfl (Nat.le_of_ble_eq_true rfl) (by omega) (by omega) lw_lo_ok dL_law_1017 (fun k9 h9 hp9 => ?_)
      obtain ⟨ek, rfl⟩ := hp9
      obtain rfl : k9 = 1 := by cases ek; rfl
      refine lw_of fun ad hs => ?_
      have Cx : pa_C G (lw_at x (K, S, N, O) ad) cL_law 7 RL 17 mc ms := lw_C C
      refine pr_istore (pc := 1020) Cx dL_law_1020 (by decide) ?_
      refine pr_aload_n (pc := 1022) Cx dL_law_1022 rfl ?_
      refine pr_arg (pc := 1023) Cx X hs (by omega) 1 (by decide) (by omega) rfl rfl dL_law_1023 dL_law_1024 dL_law_1026 dL_law_1027 dL_law_1028 ?_
      refine pr_eqi (v := (nI t1)) eA1.symm ?_
      refine pr_arg (pc := 1029) Cx X hs (by omega) 2 (by decide) (by omega) rfl rfl dL_law_1029 dL_law_1030 dL_law_1032 dL_law_1033 dL_law_1034 ?_
      refine pr_eqi (v := A2) eA2.symm ?_
      refine pr_vR (pc := 1035) Cx (c_X4_heardN G _ (K, S, N, O) (nI t1) A2 (by simp [h217, sc_kn, h1, h2])) wv_L_140 rfl rfl (Nat.le_of_ble_eq_true rfl) (by decide) (pl_5 _) (Nat.le_of_ble_eq_true rfl) (by omega) (by omega) dL_law_1035 ?_
      refine pr_istore (pc := 1038) Cx dL_law_1038 (by decide) ?_
      refine pr_aload_n (pc := 1040) Cx dL_law_1040 rfl ?_
      refine pr_vP (pc := 1041) Cx (c_X4_thrown G _ _) wv_L_89 rfl rfl (Nat.le_of_ble_eq_true rfl) (by decide) (pl_5 _) (Nat.le_of_ble_eq_true rfl) (by omega) (by omega) dL_law_1041 ?_
      refine pr_eqi (v := 1) (by simp [ms_thr, pa_us_self, h217, sc_kn, h1, h2]) ?_
      refine pr_iload (pc := 1044) Cx dL_law_1044 rfl ?_
      refine pr_icmp_eq (pc := 1046) Cx 1051 dL_law_1046 (by decide) (fun _ => ?_) (fun q => absurd rfl q)
      refine pr_iload (pc := 1051) Cx dL_law_1051 rfl ?_
      refine pr_if_ne (pc := 1053) Cx 1068 dL_law_1053 (by decide) (fun _ => ?_) (fun q => absurd q (by decide))
      refine pr_goto (pc := 1068) Cx 1718 dL_law_1068 (by decide) ?_
      refine pr_lo (lo' := lw_lo i) (by simp [pa_lle]) ?_
      exact lw_to hs (kk K N _ T z _ c _ _ (lw_R_235 h) (by omega) (Nat.le_of_eq (sj_ph_us (by decide)).symm) (by omega) (by omega))
    · skip
      obtain ⟨s2, hs2, es2⟩ := sc_nn2 (k := 3) (by decide) h2
      subst es2
      refine lw_of fun ad hs => ?_
      have Cx : pa_C G (lw_at x (K, S, N, O) ad) cL_law 7 RL 17 mc ms := lw_C C
      refine pr_aload_n (pc := 1003) Cx dL_law_1003 rfl ?_
      refine pr_arg (pc := 1004) Cx X hs (by omega) 1 (by decide) (by omega) rfl rfl dL_law_1004 dL_law_1005 dL_law_1007 dL_law_1008 dL_law_1009 ?_
      refine pr_eqi (v := (nI t1)) eA1.symm ?_
      refine pr_arg (pc := 1010) Cx X hs (by omega) 2 (by decide) (by omega) rfl rfl dL_law_1010 dL_law_1011 dL_law_1013 dL_law_1014 dL_law_1015 ?_
      refine pr_eqi (v := (nI s2)) eA2.symm ?_
      refine pr_aload_n (pc := 1016) Cx dL_law_1016 rfl ?_
      refine pr_callL (pc := 1017) (As := [pv_o 4 0, pv_i (nI t1), pv_i (nI s2), pv_o 9 0]) C hs (l_heardY G _ K S N O (nI t1) (nI s2) (P := fun v K' N' => v = S 228 (4 * t1 + s2) ∧ lw_R K' N' T z (pa_us S 235 0 0) c) (c_X3_heardY G _ K S S N O T T 0 z h.1 t1 s2 hT ht1 (by omega)) (fun r h9 hp => ⟨_, K, N, hp.1, hp.2, rfl, h0⟩)) (fun r h9 hp9 => ⟨_, hp9.1⟩) wl_138 rfl rfl (Nat.le_of_ble_eq_true rfl) (by omega) (by omega) lw_lo_ok dL_law_1017 (fun k9 h9 hp9 => ?_)
      obtain ⟨ek, v9, K', N', rfl, rfl, hR⟩ := hp9
      obtain rfl : k9 = 0 := by cases ek; rfl
      refine lw_of fun ad hs => ?_
      have Cx : pa_C G (lw_at x (K', S, N', (pa_uo O (S 228 (4 * t1 + s2)).toInt64)) ad) cL_law 7 RL 17 mc ms := lw_C C
      refine pr_istore (pc := 1020) Cx dL_law_1020 (by decide) ?_
      refine pr_aload_n (pc := 1022) Cx dL_law_1022 rfl ?_
      refine pr_arg (pc := 1023) Cx X hs (by omega) 1 (by decide) (by omega) rfl rfl dL_law_1023 dL_law_1024 dL_law_1026 dL_law_1027 dL_law_1028 ?_
      refine pr_eqi (v := (nI t1)) eA1.symm ?_
      refine pr_arg (pc := 1029) Cx X hs (by omega) 2 (by decide) (by omega) rfl rfl dL_law_1029 dL_law_1030 dL_law_1032 dL_law_1033 dL_law_1034 ?_
      refine pr_eqi (v := (nI s2)) eA2.symm ?_
      refine pr_vR (pc := 1035) Cx (c_X4_heardY G _ (K', S, N', (pa_uo O (S 228 (4 * t1 + s2)).toInt64)) T t1 s2 h217 hT ht1 (by omega)) wv_L_140 rfl rfl (Nat.le_of_ble_eq_true rfl) (by decide) (pl_5 _) (Nat.le_of_ble_eq_true rfl) (by omega) (by omega) dL_law_1035 ?_
      refine pr_istore (pc := 1038) Cx dL_law_1038 (by decide) ?_
      refine pr_aload_n (pc := 1040) Cx dL_law_1040 rfl ?_
      refine pr_vP (pc := 1041) Cx (c_X4_thrown G _ _) wv_L_89 rfl rfl (Nat.le_of_ble_eq_true rfl) (by decide) (pl_5 _) (Nat.le_of_ble_eq_true rfl) (by omega) (by omega) dL_law_1041 ?_
      refine pr_eqi (v := 0) (by show pa_us S 235 0 0 235 0 = 0; exact pa_us_self _ _ _ _) ?_
      refine pr_iload (pc := 1044) Cx dL_law_1044 rfl ?_
      refine pr_icmp_eq (pc := 1046) Cx 1051 dL_law_1046 (by decide) (fun _ => ?_) (fun q => absurd rfl q)
      refine pr_iload (pc := 1051) Cx dL_law_1051 rfl ?_
      refine pr_if_ne (pc := 1053) Cx 1068 dL_law_1053 (by decide) (fun q => absurd rfl q) (fun _ => ?_)
      refine pr_aload_n (pc := 1056) Cx dL_law_1056 rfl ?_
      refine pr_iconst (pc := 1057) (v := 0) Cx dL_law_1057 (by decide) ?_
      refine pr_lald9 (pc := 1058) Cx rfl dL_law_1058 ?_
      refine pr_iload (pc := 1059) Cx dL_law_1059 rfl ?_
      refine pr_i2l (pc := 1061) Cx dL_law_1061 ?_
      refine pr_lcmp (pc := 1062) Cx dL_law_1062 ?_
      refine pr_if_eq (pc := 1063) Cx 1068 dL_law_1063 (by decide) (fun _ => ?_) (fun q => absurd (lw_cmp0 _) q)
      refine pr_goto (pc := 1068) Cx 1718 dL_law_1068 (by decide) ?_
      refine pr_lo (lo' := lw_lo i) (by simp [pa_lle]) ?_
      exact lw_to hs (kk K' N' _ T z (pa_us S 235 0 0) c _ _ hR (by omega) (Nat.le_of_eq (sj_ph_us (by decide)).symm) (by omega) (by omega))
set_option maxRecDepth 100000 in
set_option maxHeartbeats 4000000 in
theorem lb_ground {G : pa_G} {x : pa_X} {scr L mc ms i a b : Nat} {xs : Nat → Int32} {K : Nat → Nat → Nat → Int32} {N : Nat → Nat} {T : Nat} {z : sj_Z} {S : Nat → Nat → Int32} {c : Nat} {O : Nat → Int64} (hl9 : x.2.1.stackTraces = false) (C : pa_C G x cL_law 7 RL 17 mc ms) (X : lw_X G x scr L xs) (hL : L ≤ 3584) (hi : i + 7 ≤ L) (h : lw_R K N T z S c) (hc : c + 22 < 30000) (ha : a + 2000 ≤ mc) (hb : b + 900000 ≤ ms)
    (kk : ∀ (K' : Nat → Nat → Nat → Int32) (N' : Nat → Nat) (O' : Nat → Int64) (T' : Nat) (z' : sj_Z) (S' : Nat → Nat → Int32) (c' a' b' : Nat), lw_R K' N' T' z' S' c' → c' ≤ c + 20 → sj_ph S T ≤ sj_ph S' T' → a' ≤ a + 2 * (sj_ph S' T' - sj_ph S T) + 4 → b' ≤ b + 1520 * (sj_ph S' T' - sj_ph S T) + 1600 → lw_w G x scr 7 (K', S', N', O') a' b' 1718 (lw_lo i) []) : lw_w G x scr 7 (K, S, N, O) a b 1474 (lw_lo i) [] := by
  have hM := h.2.1.1
  have hJ := h.2.1.2.1
  have hT := hM.1.1
  have h217 : S 217 0 = nI T := hM.1.2.1
  have h0 := lw_R_235 (v := 0) h
  obtain ⟨A1, eA1⟩ : ∃ v, v = xs (i + 1) := ⟨_, rfl⟩
  obtain ⟨A2, eA2⟩ : ∃ v, v = xs (i + 2) := ⟨_, rfl⟩
  rcases h1 : ms_in A2 0 9 with _ | _
  · -- badly told
    refine lw_of fun ad hs => ?_
    have Cx : pa_C G (lw_at x (K, S, N, O) ad) cL_law 7 RL 17 mc ms := lw_C C
    refine pr_aload_n (pc := 1474) Cx dL_law_1474 rfl ?_
    refine pr_arg (pc := 1475) Cx X hs (by omega) 1 (by decide) (by omega) rfl rfl dL_law_1475 dL_law_1476 dL_law_1478 dL_law_1479 dL_law_1480 ?_
    refine pr_eqi (v := A1) eA1.symm ?_
    refine pr_arg (pc := 1481) Cx X hs (by omega) 2 (by decide) (by omega) rfl rfl dL_law_1481 dL_law_1482 dL_law_1484 dL_law_1485 dL_law_1486 ?_
    refine pr_eqi (v := A2) eA2.symm ?_
    refine pr_aload_n (pc := 1487) Cx dL_law_1487 rfl ?_
    refine pr_callL (pc := 1488) (As := [pv_o 4 0, pv_i A1, pv_i A2, pv_o 9 0]) C hs (l_groundX1 (al' := false) G _ K S N O A1 A2 (c_X3_groundX1 G _ K S S N O T T 0 z hl9 h.1 A1 A2 h1)) (fun r h9 hp9 => ⟨_, hp9.1⟩) wl_159 rfl rfl (Nat.le_of_ble_eq_true rfl) (by omega) (by omega) lw_lo_ok dL_law_1488 (fun k9 h9 hp9 => ?_)
    obtain ⟨ek, rfl⟩ := hp9
    obtain rfl : k9 = 1 := by cases ek; rfl
    refine lw_of fun ad hs => ?_
    have Cx : pa_C G (lw_at x (K, S, N, O) ad) cL_law 7 RL 17 mc ms := lw_C C
    refine pr_istore (pc := 1491) Cx dL_law_1491 (by decide) ?_
    refine pr_aload_n (pc := 1493) Cx dL_law_1493 rfl ?_
    refine pr_arg (pc := 1494) Cx X hs (by omega) 1 (by decide) (by omega) rfl rfl dL_law_1494 dL_law_1495 dL_law_1497 dL_law_1498 dL_law_1499 ?_
    refine pr_eqi (v := A1) eA1.symm ?_
    refine pr_arg (pc := 1500) Cx X hs (by omega) 2 (by decide) (by omega) rfl rfl dL_law_1500 dL_law_1501 dL_law_1503 dL_law_1504 dL_law_1505 ?_
    refine pr_eqi (v := A2) eA2.symm ?_
    refine pr_vR (pc := 1506) Cx (c_X4_groundN G _ (K, S, N, O) A1 A2 (by simp [h217, sc_kn, h1])) wv_L_161 rfl rfl (Nat.le_of_ble_eq_true rfl) (by decide) (pl_5 _) (Nat.le_of_ble_eq_true rfl) (by omega) (by omega) dL_law_1506 ?_
    refine pr_istore (pc := 1509) Cx dL_law_1509 (by decide) ?_
    refine pr_aload_n (pc := 1511) Cx dL_law_1511 rfl ?_
    refine pr_vP (pc := 1512) Cx (c_X4_thrown G _ _) wv_L_89 rfl rfl (Nat.le_of_ble_eq_true rfl) (by decide) (pl_5 _) (Nat.le_of_ble_eq_true rfl) (by omega) (by omega) dL_law_1512 ?_
    refine pr_eqi (v := 1) (by simp [ms_thr, pa_us_self, h217, sc_kn, h1]) ?_
    refine pr_iload (pc := 1515) Cx dL_law_1515 rfl ?_
    refine pr_icmp_eq (pc := 1517) Cx 1522 dL_law_1517 (by decide) (fun _ => ?_) (fun q => absurd rfl q)
    refine pr_iload (pc := 1522) Cx dL_law_1522 rfl ?_
    refine pr_if_ne (pc := 1524) Cx 1539 dL_law_1524 (by decide) (fun _ => ?_) (fun q => absurd q (by decide))
    refine pr_goto (pc := 1539) Cx 1718 dL_law_1539 (by decide) ?_
    refine pr_lo (lo' := lw_lo i) (by simp [pa_lle]) ?_
    exact lw_to hs (kk K N _ T z _ c _ _ (lw_R_235 h) (by omega) (Nat.le_of_eq (sj_ph_us (by decide)).symm) (by omega) (by omega))
  · skip
    obtain ⟨s2, hs2, es2⟩ := sc_nn2 (k := 9) (by decide) h1
    subst es2
    rcases h2 : ms_in A1 1 15 with _ | _
    · -- badly told
      refine lw_of fun ad hs => ?_
      have Cx : pa_C G (lw_at x (K, S, N, O) ad) cL_law 7 RL 17 mc ms := lw_C C
      refine pr_aload_n (pc := 1474) Cx dL_law_1474 rfl ?_
      refine pr_arg (pc := 1475) Cx X hs (by omega) 1 (by decide) (by omega) rfl rfl dL_law_1475 dL_law_1476 dL_law_1478 dL_law_1479 dL_law_1480 ?_
      refine pr_eqi (v := A1) eA1.symm ?_
      refine pr_arg (pc := 1481) Cx X hs (by omega) 2 (by decide) (by omega) rfl rfl dL_law_1481 dL_law_1482 dL_law_1484 dL_law_1485 dL_law_1486 ?_
      refine pr_eqi (v := (nI s2)) eA2.symm ?_
      refine pr_aload_n (pc := 1487) Cx dL_law_1487 rfl ?_
      refine pr_callL (pc := 1488) (As := [pv_o 4 0, pv_i A1, pv_i (nI s2), pv_o 9 0]) C hs (l_groundX2 (al' := false) G _ K S N O A1 (nI s2) (c_X3_groundX2 G _ K S S N O T T 0 z hl9 h.1 s2 A1 (by omega) h2)) (fun r h9 hp9 => ⟨_, hp9.1⟩) wl_159 rfl rfl (Nat.le_of_ble_eq_true rfl) (by omega) (by omega) lw_lo_ok dL_law_1488 (fun k9 h9 hp9 => ?_)
      obtain ⟨ek, rfl⟩ := hp9
      obtain rfl : k9 = 2 := by cases ek; rfl
      refine lw_of fun ad hs => ?_
      have Cx : pa_C G (lw_at x (K, S, N, O) ad) cL_law 7 RL 17 mc ms := lw_C C
      refine pr_istore (pc := 1491) Cx dL_law_1491 (by decide) ?_
      refine pr_aload_n (pc := 1493) Cx dL_law_1493 rfl ?_
      refine pr_arg (pc := 1494) Cx X hs (by omega) 1 (by decide) (by omega) rfl rfl dL_law_1494 dL_law_1495 dL_law_1497 dL_law_1498 dL_law_1499 ?_
      refine pr_eqi (v := A1) eA1.symm ?_
      refine pr_arg (pc := 1500) Cx X hs (by omega) 2 (by decide) (by omega) rfl rfl dL_law_1500 dL_law_1501 dL_law_1503 dL_law_1504 dL_law_1505 ?_
      refine pr_eqi (v := (nI s2)) eA2.symm ?_
      refine pr_vR (pc := 1506) Cx (c_X4_groundN G _ (K, S, N, O) A1 (nI s2) (by simp [h217, sc_kn, h1, h2])) wv_L_161 rfl rfl (Nat.le_of_ble_eq_true rfl) (by decide) (pl_5 _) (Nat.le_of_ble_eq_true rfl) (by omega) (by omega) dL_law_1506 ?_
      refine pr_istore (pc := 1509) Cx dL_law_1509 (by decide) ?_
      refine pr_aload_n (pc := 1511) Cx dL_law_1511 rfl ?_
      refine pr_vP (pc := 1512) Cx (c_X4_thrown G _ _) wv_L_89 rfl rfl (Nat.le_of_ble_eq_true rfl) (by decide) (pl_5 _) (Nat.le_of_ble_eq_true rfl) (by omega) (by omega) dL_law_1512 ?_
      refine pr_eqi (v := 2) (by simp [ms_thr, pa_us_self, h217, sc_kn, h1, h2]) ?_
      refine pr_iload (pc := 1515) Cx dL_law_1515 rfl ?_
      refine pr_icmp_eq (pc := 1517) Cx 1522 dL_law_1517 (by decide) (fun _ => ?_) (fun q => absurd rfl q)
      refine pr_iload (pc := 1522) Cx dL_law_1522 rfl ?_
      refine pr_if_ne (pc := 1524) Cx 1539 dL_law_1524 (by decide) (fun _ => ?_) (fun q => absurd q (by decide))
      refine pr_goto (pc := 1539) Cx 1718 dL_law_1539 (by decide) ?_
      refine pr_lo (lo' := lw_lo i) (by simp [pa_lle]) ?_
      exact lw_to hs (kk K N _ T z _ c _ _ (lw_R_235 h) (by omega) (Nat.le_of_eq (sj_ph_us (by decide)).symm) (by omega) (by omega))
    · skip
      refine lw_of fun ad hs => ?_
      have Cx : pa_C G (lw_at x (K, S, N, O) ad) cL_law 7 RL 17 mc ms := lw_C C
      refine pr_aload_n (pc := 1474) Cx dL_law_1474 rfl ?_
      refine pr_arg (pc := 1475) Cx X hs (by omega) 1 (by decide) (by omega) rfl rfl dL_law_1475 dL_law_1476 dL_law_1478 dL_law_1479 dL_law_1480 ?_
      refine pr_eqi (v := A1) eA1.symm ?_
      refine pr_arg (pc := 1481) Cx X hs (by omega) 2 (by decide) (by omega) rfl rfl dL_law_1481 dL_law_1482 dL_law_1484 dL_law_1485 dL_law_1486 ?_
      refine pr_eqi (v := (nI s2)) eA2.symm ?_
      refine pr_aload_n (pc := 1487) Cx dL_law_1487 rfl ?_
      refine pr_callL (pc := 1488) (As := [pv_o 4 0, pv_i A1, pv_i (nI s2), pv_o 9 0]) C hs (l_groundY G _ K S N O A1 (nI s2) (P := fun v K' N' => v = ms_ground S A1 s2 ∧ lw_R K' N' T z (pa_us S 235 0 0) c) (c_X3_groundY G _ K S S N O T T 0 z h.1 s2 A1 (by omega) h2 hM) (fun r h9 hp => ⟨_, K, N, hp.1, hp.2, rfl, h0⟩)) (fun r h9 hp9 => ⟨_, hp9.1⟩) wl_159 rfl rfl (Nat.le_of_ble_eq_true rfl) (by omega) (by omega) lw_lo_ok dL_law_1488 (fun k9 h9 hp9 => ?_)
      obtain ⟨ek, v9, K', N', rfl, rfl, hR⟩ := hp9
      obtain rfl : k9 = 0 := by cases ek; rfl
      refine lw_of fun ad hs => ?_
      have Cx : pa_C G (lw_at x (K', S, N', (pa_uo O (ms_ground S A1 s2).toInt64)) ad) cL_law 7 RL 17 mc ms := lw_C C
      refine pr_istore (pc := 1491) Cx dL_law_1491 (by decide) ?_
      refine pr_aload_n (pc := 1493) Cx dL_law_1493 rfl ?_
      refine pr_arg (pc := 1494) Cx X hs (by omega) 1 (by decide) (by omega) rfl rfl dL_law_1494 dL_law_1495 dL_law_1497 dL_law_1498 dL_law_1499 ?_
      refine pr_eqi (v := A1) eA1.symm ?_
      refine pr_arg (pc := 1500) Cx X hs (by omega) 2 (by decide) (by omega) rfl rfl dL_law_1500 dL_law_1501 dL_law_1503 dL_law_1504 dL_law_1505 ?_
      refine pr_eqi (v := (nI s2)) eA2.symm ?_
      refine pr_vR (pc := 1506) Cx (c_X4_groundY G _ (K', S, N', (pa_uo O (ms_ground S A1 s2).toInt64)) T s2 A1 hM (by omega) h2) wv_L_161 rfl rfl (Nat.le_of_ble_eq_true rfl) (by decide) (pl_5 _) (Nat.le_of_ble_eq_true rfl) (by omega) (by omega) dL_law_1506 ?_
      refine pr_istore (pc := 1509) Cx dL_law_1509 (by decide) ?_
      refine pr_aload_n (pc := 1511) Cx dL_law_1511 rfl ?_
      refine pr_vP (pc := 1512) Cx (c_X4_thrown G _ _) wv_L_89 rfl rfl (Nat.le_of_ble_eq_true rfl) (by decide) (pl_5 _) (Nat.le_of_ble_eq_true rfl) (by omega) (by omega) dL_law_1512 ?_
      refine pr_eqi (v := 0) (by show pa_us S 235 0 0 235 0 = 0; exact pa_us_self _ _ _ _) ?_
      refine pr_iload (pc := 1515) Cx dL_law_1515 rfl ?_
      refine pr_icmp_eq (pc := 1517) Cx 1522 dL_law_1517 (by decide) (fun _ => ?_) (fun q => absurd rfl q)
      refine pr_iload (pc := 1522) Cx dL_law_1522 rfl ?_
      refine pr_if_ne (pc := 1524) Cx 1539 dL_law_1524 (by decide) (fun q => absurd rfl q) (fun _ => ?_)
      refine pr_aload_n (pc := 1527) Cx dL_law_1527 rfl ?_
      refine pr_iconst (pc := 1528) (v := 0) Cx dL_law_1528 (by decide) ?_
      refine pr_lald9 (pc := 1529) Cx rfl dL_law_1529 ?_
      refine pr_iload (pc := 1530) Cx dL_law_1530 rfl ?_
      refine pr_i2l (pc := 1532) Cx dL_law_1532 ?_
      refine pr_lcmp (pc := 1533) Cx dL_law_1533 ?_
      refine pr_if_eq (pc := 1534) Cx 1539 dL_law_1534 (by decide) (fun _ => ?_) (fun q => absurd (lw_cmp0 _) q)
      refine pr_goto (pc := 1539) Cx 1718 dL_law_1539 (by decide) ?_
      refine pr_lo (lo' := lw_lo i) (by simp [pa_lle]) ?_
      exact lw_to hs (kk K' N' _ T z (pa_us S 235 0 0) c _ _ hR (by omega) (Nat.le_of_eq (sj_ph_us (by decide)).symm) (by omega) (by omega))
