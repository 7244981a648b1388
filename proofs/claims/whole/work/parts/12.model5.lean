/-! THE REFERENCE, fifth part: hints that harden, silence, a tick -/
def ms_hds (S : Nat → Nat → Int32) (p : Nat) : Nat → Nat → Int32 :=
  if S 210 p ≠ 0 ∧ 5 ≤ S 200 0 - S 225 (mn (S 211 p)) then
    (if ms_isTaken (pa_us S 210 p 0) (mn (S 211 p)) then ms_com (pa_us S 210 p 0) (p / 10) (p % 10) (S 210 p) (nI (mn (S 211 p))) else pa_us S 210 p 0) else S
def ms_hard (S : Nat → Nat → Int32) : Nat → Nat → Int32 := pz_it ms_hds 40 S
theorem mw_S_H {S : Nat → Nat → Int32} {T p : Nat} (h : mw_S S T) (hn : S 210 p ≠ 0) : S 211 p = nI (mn (S 211 p)) ∧ mn (S 211 p) < T ∧ T ≤ 100 := by
  have hT := h.1.1
  obtain ⟨t, g1, g2⟩ := h.2.2.2.1 p hn
  obtain ⟨e1, e2⟩ := mn_lt g2 g1 (by omega)
  exact ⟨e1, e2, hT⟩
theorem mw_S_hds {S : Nat → Nat → Int32} {T p : Nat} (h : mw_S S T) : mw_S (ms_hds S p) T := by
  unfold ms_hds
  split
  · rename_i c
    split
    · exact mw_S_com (mw_S_hint0 h) (mw_S_H h c.1).2.1
    · exact mw_S_hint0 h
  · exact h
theorem mw_S_hard {S : Nat → Nat → Int32} {T : Nat} (h : mw_S S T) : mw_S (ms_hard S) T := pz_it_inv (I := fun S' => mw_S S' T) (fun s k z => mw_S_hds z) 40 S h
set_option maxRecDepth 100000 in
set_option maxHeartbeats 2000000 in
theorem c_X4_hardens (G : pa_G) (l : Launch) (h : pa_H) (T : Nat) (hM : mw_S h.2.1 T) : pa_ME G l mX4_hardens 4 [pv_o 5 0] h (h.1, ms_hard h.2.1, h.2.2) := by
  refine pa_go l (by decide) (by simp [pa_c1l, pa_c1]) (fun _ => rfl) fun x C E el ea => ?_
  subst el
  show pa_w G x 3 h 0 0 0 [some (pv_o 5 0), none, none] []
  refine pr_iconst (pc := 0) (v := 0) C dX4_hardens_0 (by decide) ?_
  refine pr_istore_n (pc := 1) C dX4_hardens_1 (by decide) ?_
  have lp2 : ∀ (n3 k1 : Nat) (S5 : Nat → Nat → Int32), k1 ≤ 40 → 40 < k1 + n3 → S5 = pz_it ms_hds k1 h.2.1 → mw_S S5 T → pa_w G x 3 (h.1, S5, h.2.2) 0 0 2 [some (pv_o 5 0), some (pv_i (nI k1)), none] [] := by
    intro n3
    induction n3 with
    | zero => intro k1 S5 h1 h2; exact absurd h2 (by omega)
    | succ n3 ih4 =>
      intro k1 S5 hk1_k1 hk2_k1 eS_k1 hx_k1
      refine pr_iload_n (pc := 2) C dX4_hardens_2 rfl ?_
      refine pr_bipush (pc := 3) (v := 40) C dX4_hardens_3 (by decide) ?_
      refine pr_icmp_geN (pc := 5) C 89 k1 40 dX4_hardens_5 (by decide) rfl rfl (by omega) (by omega) (fun c_5 => ?_) (fun c_5 => ?_)
      · obtain rfl : 40 = k1 := by omega
        exact pr_vret (pc := 89) C E (by omega) (by omega) ⟨rfl, by rw [eS_k1]; rfl⟩ dX4_hardens_89
      · refine pr_aload_n (pc := 8) C dX4_hardens_8 rfl ?_
        refine pr_geta (pc := 9) C 210 310 wf_X4_35 rfl rfl (by decide) (pl_5 _) dX4_hardens_9 ?_
        refine pr_iload_n (pc := 12) C dX4_hardens_12 rfl ?_
        refine pr_aldm (pc := 13) (n := 40) C 210 k1 rfl rfl rfl (pl_r5 (by decide)) rfl (by omega) (by decide) dX4_hardens_13 ?_
        refine pr_if_eq (pc := 14) C 83 dX4_hardens_14 (by decide) (fun c_14 => ?_) (fun c_14 => ?_)
        · refine pr_iincN (pc := 83) C dX4_hardens_83 rfl k1 1 rfl rfl (by decide) ?_
          refine pr_goto (pc := 86) C 2 dX4_hardens_86 (by decide) ?_
          exact ih4 (k1 + 1) S5 (by omega) (by omega) (by rw [pz_it_s, ← eS_k1]; simp [-Int32.not_le, -Int32.not_lt, pz_b, pz_lt, ms_hds, c_5, eq_true c_14]) hx_k1
        · obtain ⟨eN_k1, ltN_k1, hT_k1⟩ := mw_S_H hx_k1 c_14
          generalize et_k1 : mn (S5 211 k1) = t_k1 at eN_k1 ltN_k1
          refine pr_aload_n (pc := 17) C dX4_hardens_17 rfl ?_
          refine pr_getm (pc := 18) C 200 wf_X4_121 rfl (by decide) (pl_5 _) dX4_hardens_18 ?_
          refine pr_aload_n (pc := 21) C dX4_hardens_21 rfl ?_
          refine pr_geta (pc := 22) C 225 325 wf_X4_68 rfl rfl (by decide) (pl_5 _) dX4_hardens_22 ?_
          refine pr_aload_n (pc := 25) C dX4_hardens_25 rfl ?_
          refine pr_geta (pc := 26) C 211 311 wf_X4_38 rfl rfl (by decide) (pl_5 _) dX4_hardens_26 ?_
          refine pr_iload_n (pc := 29) C dX4_hardens_29 rfl ?_
          refine pr_aldm (pc := 30) (n := 40) C 211 k1 rfl rfl rfl (pl_r5 (by decide)) rfl (by omega) (by decide) dX4_hardens_30 ?_
          refine pr_eqi eN_k1 ?_
          refine pr_aldm (pc := 31) (n := 100) C 225 t_k1 rfl rfl rfl (pl_r5 (by decide)) rfl (by omega) (by decide) dX4_hardens_31 ?_
          refine pr_isub (pc := 32) C dX4_hardens_32 ?_
          refine pr_iconst (pc := 33) (v := 5) C dX4_hardens_33 (by decide) ?_
          refine pr_icmp_ltL (pc := 34) C 83 dX4_hardens_34 (by decide) (fun c_34 => ?_) (fun c_34 => ?_)
          · refine pr_iincN (pc := 83) C dX4_hardens_83 rfl k1 1 rfl rfl (by decide) ?_
            refine pr_goto (pc := 86) C 2 dX4_hardens_86 (by decide) ?_
            exact ih4 (k1 + 1) S5 (by omega) (by omega) (by rw [pz_it_s, ← eS_k1]; simp [-Int32.not_le, -Int32.not_lt, pz_b, pz_lt, ms_hds, c_5, eq_false c_14, et_k1, c_34]) hx_k1
          · refine pr_aload_n (pc := 37) C dX4_hardens_37 rfl ?_
            refine pr_geta (pc := 38) C 210 310 wf_X4_35 rfl rfl (by decide) (pl_5 _) dX4_hardens_38 ?_
            refine pr_iload_n (pc := 41) C dX4_hardens_41 rfl ?_
            refine pr_aldm (pc := 42) (n := 40) C 210 k1 rfl rfl rfl (pl_r5 (by decide)) rfl (by omega) (by decide) dX4_hardens_42 ?_
            refine pr_istore_n (pc := 43) C dX4_hardens_43 (by decide) ?_
            refine pr_aload_n (pc := 44) C dX4_hardens_44 rfl ?_
            refine pr_geta (pc := 45) C 210 310 wf_X4_35 rfl rfl (by decide) (pl_5 _) dX4_hardens_45 ?_
            refine pr_iload_n (pc := 48) C dX4_hardens_48 rfl ?_
            refine pr_iconst (pc := 49) (v := 0) C dX4_hardens_49 (by decide) ?_
            refine pr_astm (pc := 50) (n := 40) C 210 k1 rfl (by decide) rfl rfl (pl_r5 (by decide)) rfl (by omega) (by decide) dX4_hardens_50 ?_
            refine pr_aload_n (pc := 51) C dX4_hardens_51 rfl ?_
            refine pr_aload_n (pc := 52) C dX4_hardens_52 rfl ?_
            refine pr_geta (pc := 53) C 211 311 wf_X4_38 rfl rfl (by decide) (pl_5 _) dX4_hardens_53 ?_
            refine pr_iload_n (pc := 56) C dX4_hardens_56 rfl ?_
            refine pr_aldm (pc := 57) (n := 40) C 211 k1 rfl rfl rfl (pl_r5 (by decide)) rfl (by omega) (by decide) dX4_hardens_57 ?_
            refine pr_eqi (v := S5 211 k1) rfl ?_
            refine pr_eqi eN_k1 ?_
            refine pr_vP (pc := 58) C (c_X4_isTaken G _ (h.1, (pa_us S5 210 k1 (0 : Int32)), h.2.2) t_k1 (by first | assumption | omega)) wv_X4_228 rfl rfl (by decide) (by decide) (pl_5 _) (Nat.le_of_ble_eq_true rfl) (by omega) (by omega) dX4_hardens_58 ?_
            refine pr_ifb_eq (pc := 61) C 83 dX4_hardens_61 (by decide) (fun c_61 => ?_) (fun c_61 => ?_)
            · refine pr_iincN (pc := 83) C dX4_hardens_83 rfl k1 1 rfl rfl (by decide) ?_
              refine pr_goto (pc := 86) C 2 dX4_hardens_86 (by decide) ?_
              refine pr_lo (lo' := [some (pv_o 5 0), some (pv_i (nI (k1 + 1))), none]) (show pa_lle [some (pv_o 5 0), some (pv_i (nI (k1 + 1))), none] [some (pv_o 5 0), some (pv_i (nI (k1 + 1))), some (pv_i (S5 210 k1))] by simp [pa_lle]) ?_
              exact ih4 (k1 + 1) (pa_us S5 210 k1 (0 : Int32)) (by omega) (by omega) (by rw [pz_it_s, ← eS_k1]; simp [-Int32.not_le, -Int32.not_lt, pz_b, pz_lt, ms_hds, c_5, eq_false c_14, et_k1, c_34, c_61]) (mw_S_hint0 hx_k1)
            · refine pr_aload_n (pc := 64) C dX4_hardens_64 rfl ?_
              refine pr_iload_n (pc := 65) C dX4_hardens_65 rfl ?_
              refine pr_bipush (pc := 66) (v := 10) C dX4_hardens_66 (by decide) ?_
              refine pr_idivN (pc := 68) C dX4_hardens_68 k1 10 rfl rfl (by omega) (by omega) (by omega) ?_
              refine pr_iload_n (pc := 69) C dX4_hardens_69 rfl ?_
              refine pr_bipush (pc := 70) (v := 10) C dX4_hardens_70 (by decide) ?_
              refine pr_iremN (pc := 72) C dX4_hardens_72 k1 10 rfl rfl (by omega) (by omega) (by omega) ?_
              refine pr_iload_n (pc := 73) C dX4_hardens_73 rfl ?_
              refine pr_aload_n (pc := 74) C dX4_hardens_74 rfl ?_
              refine pr_geta (pc := 75) C 211 311 wf_X4_38 rfl rfl (by decide) (pl_5 _) dX4_hardens_75 ?_
              refine pr_iload_n (pc := 78) C dX4_hardens_78 rfl ?_
              refine pr_aldm (pc := 79) (n := 40) C 211 k1 rfl rfl rfl (pl_r5 (by decide)) rfl (by omega) (by decide) dX4_hardens_79 ?_
              refine pr_eqi (v := S5 211 k1) rfl ?_
              refine pr_eqi eN_k1 ?_
              refine pr_vE (pc := 80) C (c_X4_commits G _ (h.1, (pa_us S5 210 k1 (0 : Int32)), h.2.2) (k1 / 10) (k1 % 10) (S5 210 k1) (nI t_k1) (by first | assumption | omega) (by first | assumption | omega)) wv_X4_183 rfl rfl (by decide) (by decide) (pl_5 _) (Nat.le_of_ble_eq_true rfl) (by omega) (by omega) dX4_hardens_80 ?_
              refine pr_iincN (pc := 83) C dX4_hardens_83 rfl k1 1 rfl rfl (by decide) ?_
              refine pr_goto (pc := 86) C 2 dX4_hardens_86 (by decide) ?_
              refine pr_lo (lo' := [some (pv_o 5 0), some (pv_i (nI (k1 + 1))), none]) (show pa_lle [some (pv_o 5 0), some (pv_i (nI (k1 + 1))), none] [some (pv_o 5 0), some (pv_i (nI (k1 + 1))), some (pv_i (S5 210 k1))] by simp [pa_lle]) ?_
              exact ih4 (k1 + 1) (ms_com (pa_us S5 210 k1 (0 : Int32)) (k1 / 10) (k1 % 10) (S5 210 k1) (nI t_k1)) (by omega) (by omega) (by rw [pz_it_s, ← eS_k1]; simp [-Int32.not_le, -Int32.not_lt, pz_b, pz_lt, ms_hds, c_5, eq_false c_14, et_k1, c_34, c_61]) (mw_S_com (mw_S_hint0 hx_k1) ltN_k1)
  exact lp2 (40 + 1) 0 _ (by omega) (by omega) rfl hM

def ms_sip (S : Nat → Nat → Int32) (p : Nat) : Bool :=
  decide (3 ≤ S 228 p) && decide (S 200 0 - S 229 p = 6) && ms_isClaim S (p / 4) && decide (S 208 (10 * (p % 4) + mn (S 220 (p / 4))) = 0) && decide (S 208 (10 * mn (S 218 (p / 4)) + mn (S 220 (p / 4))) = S 221 (p / 4))
def ms_sis (S : Nat → Nat → Int32) (p : Nat) : Nat → Nat → Int32 := if ms_sip S p then ms_com S (p % 4) (mn (S 220 (p / 4))) (S 221 (p / 4)) (nI (p / 4)) else S
def ms_sil (S : Nat → Nat → Int32) (T : Nat) : Nat → Nat → Int32 := if S 201 0 = 0 then S else pz_it ms_sis (4 * T) S
theorem mw_S_claim {S : Nat → Nat → Int32} {T t : Nat} (h : mw_S S T) (ht : t < T) (c : ms_isClaim S t = true) : (S 218 t = nI (mn (S 218 t)) ∧ mn (S 218 t) < 4) ∧ S 220 t = nI (mn (S 220 t)) ∧ mn (S 220 t) < 10 := by
  obtain ⟨w, a, j1, j2, j3, j4, j5, j6, j7, j8, j9⟩ := mw_S_t h ht
  unfold ms_isClaim at c
  simp only [Bool.and_eq_true, Bool.or_eq_true, decide_eq_true_eq] at c
  obtain ⟨c1, c2⟩ := c
  refine ⟨mn_lt j3 j1 (by decide), ?_⟩
  rcases c2 with c2 | ⟨c2, -⟩
  · have : a = 0 := (nI_eq (by omega) (by decide)).mp (show nI a = nI 0 by rw [← j4]; exact c2)
    obtain ⟨y, y1, y2⟩ := j6 (by omega)
    exact mn_lt y2 y1 (by decide)
  · have : a = 2 := (nI_eq (by omega) (by decide)).mp (show nI a = nI 2 by rw [← j4]; exact c2)
    obtain ⟨y, y1, y2⟩ := j9 this c1
    exact mn_lt y2 y1 (by decide)
theorem mw_S_sis {S : Nat → Nat → Int32} {T p : Nat} (h : mw_S S T) (hp : p < 4 * T) : mw_S (ms_sis S p) T := by
  unfold ms_sis
  split
  · exact mw_S_com h (by omega)
  · exact h
theorem mw_S_sil {S : Nat → Nat → Int32} {T : Nat} (h : mw_S S T) : mw_S (ms_sil S T) T := by
  unfold ms_sil
  split
  · exact h
  · exact pz_it_lt (I := fun S' => mw_S S' T) _ S (fun s k hk z => mw_S_sis z hk) h
set_option maxRecDepth 100000 in
set_option maxHeartbeats 2000000 in
theorem c_X4_silence (G : pa_G) (l : Launch) (h : pa_H) (T : Nat) (hM : mw_S h.2.1 T) : pa_ME G l mX4_silence 4 [pv_o 5 0] h (h.1, ms_sil h.2.1 T, h.2.2) := by
  refine pa_go l (by decide) (by simp [pa_c1l, pa_c1]) (fun _ => rfl) fun x C E el ea => ?_
  subst el
  have hS := hM.1.2.1
  have hT := hM.1.1
  show pa_w G x 3 h 0 0 0 [some (pv_o 5 0), none, none] []
  by_cases hstr : h.2.1 201 0 = 0
  · -- not strict
    refine pr_iconst (pc := 0) (v := 0) C dX4_silence_0 (by decide) ?_
    refine pr_istore_n (pc := 1) C dX4_silence_1 (by decide) ?_
    refine pr_iload_n (pc := 2) C dX4_silence_2 rfl ?_
    refine pr_iconst (pc := 3) (v := 4) C dX4_silence_3 (by decide) ?_
    refine pr_aload_n (pc := 4) C dX4_silence_4 rfl ?_
    refine pr_getm (pc := 5) C 217 wf_X4_131 rfl (by decide) (pl_5 _) dX4_silence_5 ?_
    refine pr_eqi hS ?_
    refine pr_imulN (pc := 8) C dX4_silence_8 4 T rfl rfl ?_
    refine pr_icmp_geN (pc := 9) C 134 0 (4 * T) dX4_silence_9 (by decide) rfl rfl (by omega) (by omega) (fun c_9 => ?_) (fun c_9 => ?_)
    · exact pr_vret (pc := 134) C E (by omega) (by omega) ⟨rfl, by rw [ms_sil, if_pos hstr]⟩ dX4_silence_134
    · refine pr_aload_n (pc := 12) C dX4_silence_12 rfl ?_
      refine pr_getm (pc := 13) C 201 wf_X4_124 rfl (by decide) (pl_5 _) dX4_silence_13 ?_
      refine pr_eqi hstr ?_
      refine pr_if_eq (pc := 16) C 134 dX4_silence_16 (by decide) (fun _ => ?_) (fun c_16 => absurd c_16 (by decide))
      exact pr_vret (pc := 134) C E (by omega) (by omega) ⟨rfl, by rw [ms_sil, if_pos hstr]⟩ dX4_silence_134
  · -- strict
    refine pr_iconst (pc := 0) (v := 0) C dX4_silence_0 (by decide) ?_
    refine pr_istore_n (pc := 1) C dX4_silence_1 (by decide) ?_
    have lp2 : ∀ (n3 k1 : Nat) (S5 : Nat → Nat → Int32), k1 ≤ 4 * T → 4 * T < k1 + n3 → S5 = pz_it ms_sis k1 h.2.1 → (mw_S S5 T ∧ S5 201 0 = h.2.1 201 0) → pa_w G x 3 (h.1, S5, h.2.2) 0 0 2 [some (pv_o 5 0), some (pv_i (nI k1)), none] [] := by
      intro n3
      induction n3 with
      | zero => intro k1 S5 h1 h2; exact absurd h2 (by omega)
      | succ n3 ih4 =>
        intro k1 S5 hk1_k1 hk2_k1 eS_k1 hx_k1
        refine pr_iload_n (pc := 2) C dX4_silence_2 rfl ?_
        refine pr_iconst (pc := 3) (v := 4) C dX4_silence_3 (by decide) ?_
        refine pr_aload_n (pc := 4) C dX4_silence_4 rfl ?_
        refine pr_getm (pc := 5) C 217 wf_X4_131 rfl (by decide) (pl_5 _) dX4_silence_5 ?_
        refine pr_eqi hx_k1.1.1.2.1 ?_
        refine pr_imulN (pc := 8) C dX4_silence_8 4 T rfl rfl ?_
        refine pr_icmp_geN (pc := 9) C 134 k1 (4 * T) dX4_silence_9 (by decide) rfl rfl (by omega) (by omega) (fun c_9 => ?_) (fun c_9 => ?_)
        · obtain rfl : 4 * T = k1 := by omega
          exact pr_vret (pc := 134) C E (by omega) (by omega) ⟨rfl, by rw [eS_k1, ms_sil, if_neg hstr]⟩ dX4_silence_134
        · refine pr_aload_n (pc := 12) C dX4_silence_12 rfl ?_
          refine pr_getm (pc := 13) C 201 wf_X4_124 rfl (by decide) (pl_5 _) dX4_silence_13 ?_
          refine pr_if_eq (pc := 16) C 134 dX4_silence_16 (by decide) (fun c_16 => ?_) (fun c_16 => ?_)
          · exact absurd (hx_k1.2.symm.trans c_16) hstr
          · refine pr_iload_n (pc := 19) C dX4_silence_19 rfl ?_
            refine pr_iconst (pc := 20) (v := 4) C dX4_silence_20 (by decide) ?_
            refine pr_idivN (pc := 21) C dX4_silence_21 k1 4 rfl rfl (by omega) (by omega) (by omega) ?_
            refine pr_istore_n (pc := 22) C dX4_silence_22 (by decide) ?_
            refine pr_aload_n (pc := 23) C dX4_silence_23 rfl ?_
            refine pr_geta (pc := 24) C 228 328 wf_X4_77 rfl rfl (by decide) (pl_5 _) dX4_silence_24 ?_
            refine pr_iload_n (pc := 27) C dX4_silence_27 rfl ?_
            refine pr_aldm (pc := 28) (n := 400) C 228 k1 rfl rfl rfl (pl_r5 (by decide)) rfl (by omega) (by decide) dX4_silence_28 ?_
            refine pr_iconst (pc := 29) (v := 3) C dX4_silence_29 (by decide) ?_
            refine pr_icmp_ltL (pc := 30) C 128 dX4_silence_30 (by decide) (fun c_30 => ?_) (fun c_30 => ?_)
            · refine pr_iincN (pc := 128) C dX4_silence_128 rfl k1 1 rfl rfl (by decide) ?_
              refine pr_goto (pc := 131) C 2 dX4_silence_131 (by decide) ?_
              refine pr_lo (lo' := [some (pv_o 5 0), some (pv_i (nI (k1 + 1))), none]) (show pa_lle [some (pv_o 5 0), some (pv_i (nI (k1 + 1))), none] [some (pv_o 5 0), some (pv_i (nI (k1 + 1))), some (pv_i (nI (k1 / 4)))] by simp [pa_lle]) ?_
              exact ih4 (k1 + 1) S5 (by omega) (by omega) (by rw [pz_it_s, ← eS_k1]; simp [-Int32.not_le, -Int32.not_lt, pz_b, pz_lt, ms_sis, ms_sip, c_9, eq_false c_16, c_30]) hx_k1
            · refine pr_aload_n (pc := 33) C dX4_silence_33 rfl ?_
              refine pr_getm (pc := 34) C 200 wf_X4_121 rfl (by decide) (pl_5 _) dX4_silence_34 ?_
              refine pr_aload_n (pc := 37) C dX4_silence_37 rfl ?_
              refine pr_geta (pc := 38) C 229 329 wf_X4_80 rfl rfl (by decide) (pl_5 _) dX4_silence_38 ?_
              refine pr_iload_n (pc := 41) C dX4_silence_41 rfl ?_
              refine pr_aldm (pc := 42) (n := 400) C 229 k1 rfl rfl rfl (pl_r5 (by decide)) rfl (by omega) (by decide) dX4_silence_42 ?_
              refine pr_isub (pc := 43) C dX4_silence_43 ?_
              refine pr_bipush (pc := 44) (v := 6) C dX4_silence_44 (by decide) ?_
              refine pr_icmp_ne (pc := 46) C 128 dX4_silence_46 (by decide) (fun c_46 => ?_) (fun c_46 => ?_)
              · refine pr_iincN (pc := 128) C dX4_silence_128 rfl k1 1 rfl rfl (by decide) ?_
                refine pr_goto (pc := 131) C 2 dX4_silence_131 (by decide) ?_
                refine pr_lo (lo' := [some (pv_o 5 0), some (pv_i (nI (k1 + 1))), none]) (show pa_lle [some (pv_o 5 0), some (pv_i (nI (k1 + 1))), none] [some (pv_o 5 0), some (pv_i (nI (k1 + 1))), some (pv_i (nI (k1 / 4)))] by simp [pa_lle]) ?_
                exact ih4 (k1 + 1) S5 (by omega) (by omega) (by rw [pz_it_s, ← eS_k1]; simp [-Int32.not_le, -Int32.not_lt, pz_b, pz_lt, ms_sis, ms_sip, c_9, eq_false c_16, c_30, eq_false c_46]) hx_k1
              · refine pr_aload_n (pc := 49) C dX4_silence_49 rfl ?_
                refine pr_iload_n (pc := 50) C dX4_silence_50 rfl ?_
                refine pr_vP (pc := 51) C (c_X4_isClaim G _ (h.1, S5, h.2.2) (k1 / 4) (by first | assumption | omega)) wv_X4_151 rfl rfl (by decide) (by decide) (pl_5 _) (Nat.le_of_ble_eq_true rfl) (by omega) (by omega) dX4_silence_51 ?_
                refine pr_ifb_eq (pc := 54) C 128 dX4_silence_54 (by decide) (fun c_54 => ?_) (fun c_54 => ?_)
                · refine pr_iincN (pc := 128) C dX4_silence_128 rfl k1 1 rfl rfl (by decide) ?_
                  refine pr_goto (pc := 131) C 2 dX4_silence_131 (by decide) ?_
                  refine pr_lo (lo' := [some (pv_o 5 0), some (pv_i (nI (k1 + 1))), none]) (show pa_lle [some (pv_o 5 0), some (pv_i (nI (k1 + 1))), none] [some (pv_o 5 0), some (pv_i (nI (k1 + 1))), some (pv_i (nI (k1 / 4)))] by simp [pa_lle]) ?_
                  exact ih4 (k1 + 1) S5 (by omega) (by omega) (by rw [pz_it_s, ← eS_k1]; simp [-Int32.not_le, -Int32.not_lt, pz_b, pz_lt, ms_sis, ms_sip, c_9, eq_false c_16, c_30, eq_true c_46, c_54]) hx_k1
                · obtain ⟨⟨eW_k1, ltW_k1⟩, eA_k1, ltA_k1⟩ := mw_S_claim hx_k1.1 (t := k1 / 4) (by omega) c_54
                  generalize etw_k1 : mn (S5 218 (k1 / 4)) = w_k1 at eW_k1 ltW_k1
                  generalize eta_k1 : mn (S5 220 (k1 / 4)) = y_k1 at eA_k1 ltA_k1
                  refine pr_aload_n (pc := 57) C dX4_silence_57 rfl ?_
                  refine pr_geta (pc := 58) C 208 308 wf_X4_29 rfl rfl (by decide) (pl_5 _) dX4_silence_58 ?_
                  refine pr_bipush (pc := 61) (v := 10) C dX4_silence_61 (by decide) ?_
                  refine pr_iload_n (pc := 63) C dX4_silence_63 rfl ?_
                  refine pr_iconst (pc := 64) (v := 4) C dX4_silence_64 (by decide) ?_
                  refine pr_iremN (pc := 65) C dX4_silence_65 k1 4 rfl rfl (by omega) (by omega) (by omega) ?_
                  refine pr_imulN (pc := 66) C dX4_silence_66 10 (k1 % 4) rfl rfl ?_
                  refine pr_aload_n (pc := 67) C dX4_silence_67 rfl ?_
                  refine pr_geta (pc := 68) C 220 320 wf_X4_53 rfl rfl (by decide) (pl_5 _) dX4_silence_68 ?_
                  refine pr_iload_n (pc := 71) C dX4_silence_71 rfl ?_
                  refine pr_aldm (pc := 72) (n := 100) C 220 (k1 / 4) rfl rfl rfl (pl_r5 (by decide)) rfl (by omega) (by decide) dX4_silence_72 ?_
                  refine pr_eqi eA_k1 ?_
                  refine pr_iaddN (pc := 73) C dX4_silence_73 (10 * (k1 % 4)) y_k1 rfl rfl ?_
                  refine pr_aldm (pc := 74) (n := 40) C 208 ((10 * (k1 % 4)) + y_k1) rfl rfl rfl (pl_r5 (by decide)) rfl (by omega) (by decide) dX4_silence_74 ?_
                  refine pr_if_ne (pc := 75) C 128 dX4_silence_75 (by decide) (fun c_75 => ?_) (fun c_75 => ?_)
                  · refine pr_iincN (pc := 128) C dX4_silence_128 rfl k1 1 rfl rfl (by decide) ?_
                    refine pr_goto (pc := 131) C 2 dX4_silence_131 (by decide) ?_
                    refine pr_lo (lo' := [some (pv_o 5 0), some (pv_i (nI (k1 + 1))), none]) (show pa_lle [some (pv_o 5 0), some (pv_i (nI (k1 + 1))), none] [some (pv_o 5 0), some (pv_i (nI (k1 + 1))), some (pv_i (nI (k1 / 4)))] by simp [pa_lle]) ?_
                    exact ih4 (k1 + 1) S5 (by omega) (by omega) (by rw [pz_it_s, ← eS_k1]; simp [-Int32.not_le, -Int32.not_lt, pz_b, pz_lt, ms_sis, ms_sip, c_9, eq_false c_16, c_30, eq_true c_46, c_54, etw_k1, eta_k1, eq_false c_75]) hx_k1
                  · refine pr_aload_n (pc := 78) C dX4_silence_78 rfl ?_
                    refine pr_geta (pc := 79) C 208 308 wf_X4_29 rfl rfl (by decide) (pl_5 _) dX4_silence_79 ?_
                    refine pr_bipush (pc := 82) (v := 10) C dX4_silence_82 (by decide) ?_
                    refine pr_aload_n (pc := 84) C dX4_silence_84 rfl ?_
                    refine pr_geta (pc := 85) C 218 318 wf_X4_47 rfl rfl (by decide) (pl_5 _) dX4_silence_85 ?_
                    refine pr_iload_n (pc := 88) C dX4_silence_88 rfl ?_
                    refine pr_aldm (pc := 89) (n := 100) C 218 (k1 / 4) rfl rfl rfl (pl_r5 (by decide)) rfl (by omega) (by decide) dX4_silence_89 ?_
                    refine pr_eqi eW_k1 ?_
                    refine pr_imulN (pc := 90) C dX4_silence_90 10 w_k1 rfl rfl ?_
                    refine pr_aload_n (pc := 91) C dX4_silence_91 rfl ?_
                    refine pr_geta (pc := 92) C 220 320 wf_X4_53 rfl rfl (by decide) (pl_5 _) dX4_silence_92 ?_
                    refine pr_iload_n (pc := 95) C dX4_silence_95 rfl ?_
                    refine pr_aldm (pc := 96) (n := 100) C 220 (k1 / 4) rfl rfl rfl (pl_r5 (by decide)) rfl (by omega) (by decide) dX4_silence_96 ?_
                    refine pr_eqi eA_k1 ?_
                    refine pr_iaddN (pc := 97) C dX4_silence_97 (10 * w_k1) y_k1 rfl rfl ?_
                    refine pr_aldm (pc := 98) (n := 40) C 208 ((10 * w_k1) + y_k1) rfl rfl rfl (pl_r5 (by decide)) rfl (by omega) (by decide) dX4_silence_98 ?_
                    refine pr_aload_n (pc := 99) C dX4_silence_99 rfl ?_
                    refine pr_geta (pc := 100) C 221 321 wf_X4_56 rfl rfl (by decide) (pl_5 _) dX4_silence_100 ?_
                    refine pr_iload_n (pc := 103) C dX4_silence_103 rfl ?_
                    refine pr_aldm (pc := 104) (n := 100) C 221 (k1 / 4) rfl rfl rfl (pl_r5 (by decide)) rfl (by omega) (by decide) dX4_silence_104 ?_
                    refine pr_icmp_ne (pc := 105) C 128 dX4_silence_105 (by decide) (fun c_105 => ?_) (fun c_105 => ?_)
                    · refine pr_iincN (pc := 128) C dX4_silence_128 rfl k1 1 rfl rfl (by decide) ?_
                      refine pr_goto (pc := 131) C 2 dX4_silence_131 (by decide) ?_
                      refine pr_lo (lo' := [some (pv_o 5 0), some (pv_i (nI (k1 + 1))), none]) (show pa_lle [some (pv_o 5 0), some (pv_i (nI (k1 + 1))), none] [some (pv_o 5 0), some (pv_i (nI (k1 + 1))), some (pv_i (nI (k1 / 4)))] by simp [pa_lle]) ?_
                      exact ih4 (k1 + 1) S5 (by omega) (by omega) (by rw [pz_it_s, ← eS_k1]; simp [-Int32.not_le, -Int32.not_lt, pz_b, pz_lt, ms_sis, ms_sip, c_9, eq_false c_16, c_30, eq_true c_46, c_54, etw_k1, eta_k1, eq_true c_75, eq_false c_105]) hx_k1
                    · refine pr_aload_n (pc := 108) C dX4_silence_108 rfl ?_
                      refine pr_iload_n (pc := 109) C dX4_silence_109 rfl ?_
                      refine pr_iconst (pc := 110) (v := 4) C dX4_silence_110 (by decide) ?_
                      refine pr_iremN (pc := 111) C dX4_silence_111 k1 4 rfl rfl (by omega) (by omega) (by omega) ?_
                      refine pr_aload_n (pc := 112) C dX4_silence_112 rfl ?_
                      refine pr_geta (pc := 113) C 220 320 wf_X4_53 rfl rfl (by decide) (pl_5 _) dX4_silence_113 ?_
                      refine pr_iload_n (pc := 116) C dX4_silence_116 rfl ?_
                      refine pr_aldm (pc := 117) (n := 100) C 220 (k1 / 4) rfl rfl rfl (pl_r5 (by decide)) rfl (by omega) (by decide) dX4_silence_117 ?_
                      refine pr_eqi eA_k1 ?_
                      refine pr_aload_n (pc := 118) C dX4_silence_118 rfl ?_
                      refine pr_geta (pc := 119) C 221 321 wf_X4_56 rfl rfl (by decide) (pl_5 _) dX4_silence_119 ?_
                      refine pr_iload_n (pc := 122) C dX4_silence_122 rfl ?_
                      refine pr_aldm (pc := 123) (n := 100) C 221 (k1 / 4) rfl rfl rfl (pl_r5 (by decide)) rfl (by omega) (by decide) dX4_silence_123 ?_
                      refine pr_iload_n (pc := 124) C dX4_silence_124 rfl ?_
                      refine pr_vE (pc := 125) C (c_X4_commits G _ (h.1, S5, h.2.2) (k1 % 4) y_k1 (S5 221 (k1 / 4)) (nI (k1 / 4)) (by first | assumption | omega) (by first | assumption | omega)) wv_X4_183 rfl rfl (by decide) (by decide) (pl_5 _) (Nat.le_of_ble_eq_true rfl) (by omega) (by omega) dX4_silence_125 ?_
                      refine pr_iincN (pc := 128) C dX4_silence_128 rfl k1 1 rfl rfl (by decide) ?_
                      refine pr_goto (pc := 131) C 2 dX4_silence_131 (by decide) ?_
                      refine pr_lo (lo' := [some (pv_o 5 0), some (pv_i (nI (k1 + 1))), none]) (show pa_lle [some (pv_o 5 0), some (pv_i (nI (k1 + 1))), none] [some (pv_o 5 0), some (pv_i (nI (k1 + 1))), some (pv_i (nI (k1 / 4)))] by simp [pa_lle]) ?_
                      exact ih4 (k1 + 1) (ms_com S5 (k1 % 4) y_k1 (S5 221 (k1 / 4)) (nI (k1 / 4))) (by omega) (by omega) (by rw [pz_it_s, ← eS_k1]; simp [-Int32.not_le, -Int32.not_lt, pz_b, pz_lt, ms_sis, ms_sip, c_9, eq_false c_16, c_30, eq_true c_46, c_54, etw_k1, eta_k1, eq_true c_75, eq_true c_105]) ⟨mw_S_com hx_k1.1 (by omega), (ms_com_ne (by decide) (by decide) (by decide)).trans hx_k1.2⟩
    exact lp2 (4 * T + 1) 0 _ (by omega) (by omega) rfl ⟨hM, rfl⟩

