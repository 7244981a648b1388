/-! THE CLASS: what silence accepts -/
/-- the claim t of wt about xa is accepted by the silence of k -/
def sc_sil (S : Nat → Nat → Int32) (t k wt xa : Nat) : Bool := decide (3 ≤ S 228 (4 * t + k)) && decide (S 200 0 - S 229 (4 * t + k) = 6) && decide (S 208 (10 * k + xa) = 0) && decide (S 208 (10 * wt + xa) = S 221 t)
theorem sc_sip {S : Nat → Nat → Int32} {t k wt xa : Nat} (hk : k < 4) (hwt : S 218 t = nI wt) (hwt4 : wt < 4) (hxa : S 220 t = nI xa) (hxa10 : xa < 10) : ms_sip S (4 * t + k) = (ms_isClaim S t && sc_sil S t k wt xa) := by
  have e1 : (4 * t + k) / 4 = t := by omega
  have e2 : (4 * t + k) % 4 = k := by omega
  have e3 : mn (S 218 t) = wt := by rw [hwt]; exact nI_clamp (by omega)
  have e4 : mn (S 220 t) = xa := by rw [hxa]; exact nI_clamp (by omega)
  unfold ms_sip sc_sil
  rw [e1, e2, e3, e4]
  cases ms_isClaim S t <;> simp [Bool.and_assoc]
set_option maxRecDepth 100000 in
set_option maxHeartbeats 4000000 in
theorem c_X3_isAcceptedBySilence (G : pa_G) (l : Launch) (K : Nat → Nat → Nat → Int32) (Sm S : Nat → Nat → Int32) (N : Nat → Nat) (O : Nat → Int64) (T D e : Nat) (z : sj_Z) (hs : sj_M K N T D z e S) (t k wt xa : Nat) (ht : t < D) (hk : k < 4) (hwt : S 218 t = nI wt) (hwt4 : wt < 4) (hxa : S 220 t = nI xa) (hxa10 : xa < 10) (hg : mj_g S T) : pa_MP G l mX3_isAcceptedBySilence 4 [pv_o 4 0, pv_o 3 t, pv_o 1 k] (K, Sm, N, O) (pv_i (pz_b (sc_sil S t k wt xa))) := by
  refine pa_go l (by decide) (by simp [pa_c1l, pa_c1]) (fun _ => rfl) fun x C E el ea => ?_
  subst el
  show pa_w G x 4 (K, Sm, N, O) 0 0 0 [some (pv_o 4 0), some (pv_o 3 t), some (pv_o 1 k), none] []
  refine pr_aload_n (pc := 0) C dX3_isAcceptedBySilence_0 rfl ?_
  refine pr_geta (pc := 1) C 131 231 wf_X3_187 rfl rfl (by decide) (pl_3 (sj_n0 hs (by first | assumption | omega))) dX3_isAcceptedBySilence_1 ?_
  refine pr_aload_n (pc := 4) C dX3_isAcceptedBySilence_4 rfl ?_
  refine pr_geti (pc := 5) C 40 wf_X3_160 rfl (by decide) (pl_1 (by first | assumption | omega)) dX3_isAcceptedBySilence_5 ?_
  refine pr_eqi (v := nI k) (sj_r40 hs (by first | assumption | omega)) ?_
  refine pr_aldi (pc := 8) (n := 4) C 131 k rfl rfl rfl (pl_r3 (by decide) (sj_n0 hs (by first | assumption | omega))) rfl (by omega) (by decide) dX3_isAcceptedBySilence_8 ?_
  refine pr_eqi (v := S 228 (4 * t + k)) (sj_r131 hs (by first | assumption | omega) (by omega)) ?_
  refine pr_istore_n (pc := 9) C dX3_isAcceptedBySilence_9 (by decide) ?_
  refine pr_iload_n (pc := 10) C dX3_isAcceptedBySilence_10 rfl ?_
  refine pr_iconst (pc := 11) (v := 3) C dX3_isAcceptedBySilence_11 (by decide) ?_
  refine pr_icmp_eq (pc := 12) C 20 dX3_isAcceptedBySilence_12 (by decide) (fun c_12 => ?_) (fun c_12 => ?_)
  · refine pr_aload_n (pc := 20) C dX3_isAcceptedBySilence_20 rfl ?_
    refine pr_geti (pc := 21) C 166 wf_X3_76 rfl (by decide) (pl_4 _) dX3_isAcceptedBySilence_21 ?_
    refine pr_eqi (v := S 200 0) (sj_r166 hs) ?_
    refine pr_aload_n (pc := 24) C dX3_isAcceptedBySilence_24 rfl ?_
    refine pr_geta (pc := 25) C 132 232 wf_X3_383 rfl rfl (by decide) (pl_3 (sj_n0 hs (by first | assumption | omega))) dX3_isAcceptedBySilence_25 ?_
    refine pr_aload_n (pc := 28) C dX3_isAcceptedBySilence_28 rfl ?_
    refine pr_geti (pc := 29) C 40 wf_X3_160 rfl (by decide) (pl_1 (by first | assumption | omega)) dX3_isAcceptedBySilence_29 ?_
    refine pr_eqi (v := nI k) (sj_r40 hs (by first | assumption | omega)) ?_
    refine pr_aldi (pc := 32) (n := 4) C 132 k rfl rfl rfl (pl_r3 (by decide) (sj_n0 hs (by first | assumption | omega))) rfl (by omega) (by decide) dX3_isAcceptedBySilence_32 ?_
    refine pr_eqi (v := S 229 (4 * t + k)) (sj_r132 hs (by first | assumption | omega) (by omega)) ?_
    refine pr_isub (pc := 33) C dX3_isAcceptedBySilence_33 ?_
    refine pr_bipush (pc := 34) (v := 6) C dX3_isAcceptedBySilence_34 (by decide) ?_
    refine pr_icmp_ne (pc := 36) C 74 dX3_isAcceptedBySilence_36 (by decide) (fun c_36 => ?_) (fun c_36 => ?_)
    · refine pr_iconst (pc := 74) (v := 0) C dX3_isAcceptedBySilence_74 (by decide) ?_
      exact pr_iret (pc := 75) C E (Or.inr ⟨rfl, (by decide)⟩) (by omega) (by omega) ⟨(by simp [-Int32.not_le, -Int32.not_lt, pz_b, pz_lt, sc_sil, ← mj_g3 hg, eq_true c_12, eq_false c_36]), rfl⟩ dX3_isAcceptedBySilence_75
    · refine pr_aload_n (pc := 39) C dX3_isAcceptedBySilence_39 rfl ?_
      refine pr_geta (pc := 40) C 49 149 wf_X3_190 rfl rfl (by decide) (pl_1 (by first | assumption | omega)) dX3_isAcceptedBySilence_40 ?_
      refine pr_aload_n (pc := 43) C dX3_isAcceptedBySilence_43 rfl ?_
      refine pr_geti (pc := 44) C 126 wf_X3_164 rfl (by decide) (pl_3 (sj_n0 hs (by first | assumption | omega))) dX3_isAcceptedBySilence_44 ?_
      refine pr_eqi (v := S 220 t) (sj_r126 hs (by first | assumption | omega)) ?_
      refine pr_eqi hxa ?_
      refine pr_aldi (pc := 47) (n := 10) C 49 xa rfl rfl rfl (pl_r1 (by decide) (by first | assumption | omega)) rfl (by omega) (by decide) dX3_isAcceptedBySilence_47 ?_
      refine pr_eqi (v := S 208 (10 * k + xa)) (sj_r49 hs (by first | assumption | omega) (by omega)) ?_
      refine pr_if_ne (pc := 48) C 74 dX3_isAcceptedBySilence_48 (by decide) (fun c_48 => ?_) (fun c_48 => ?_)
      · refine pr_iconst (pc := 74) (v := 0) C dX3_isAcceptedBySilence_74 (by decide) ?_
        exact pr_iret (pc := 75) C E (Or.inr ⟨rfl, (by decide)⟩) (by omega) (by omega) ⟨(by simp [-Int32.not_le, -Int32.not_lt, pz_b, pz_lt, sc_sil, ← mj_g3 hg, eq_true c_12, eq_true c_36, eq_false c_48]), rfl⟩ dX3_isAcceptedBySilence_75
      · refine pr_aload_n (pc := 51) C dX3_isAcceptedBySilence_51 rfl ?_
        refine pr_gets (pc := 52) C 120 wf_X3_105 rfl rfl (pl_3 (sj_n0 hs (by first | assumption | omega))) wt ((sj_r120 hs (by first | assumption | omega)).trans hwt) (by first | assumption | omega) dX3_isAcceptedBySilence_52 ?_
        refine pr_geta (pc := 55) C 49 149 wf_X3_190 rfl rfl (by decide) (pl_1 (by first | assumption | omega)) dX3_isAcceptedBySilence_55 ?_
        refine pr_aload_n (pc := 58) C dX3_isAcceptedBySilence_58 rfl ?_
        refine pr_geti (pc := 59) C 126 wf_X3_164 rfl (by decide) (pl_3 (sj_n0 hs (by first | assumption | omega))) dX3_isAcceptedBySilence_59 ?_
        refine pr_eqi (v := S 220 t) (sj_r126 hs (by first | assumption | omega)) ?_
        refine pr_eqi hxa ?_
        refine pr_aldi (pc := 62) (n := 10) C 49 xa rfl rfl rfl (pl_r1 (by decide) (by first | assumption | omega)) rfl (by omega) (by decide) dX3_isAcceptedBySilence_62 ?_
        refine pr_eqi (v := S 208 (10 * wt + xa)) (sj_r49 hs (by first | assumption | omega) (by omega)) ?_
        refine pr_aload_n (pc := 63) C dX3_isAcceptedBySilence_63 rfl ?_
        refine pr_geti (pc := 64) C 127 wf_X3_167 rfl (by decide) (pl_3 (sj_n0 hs (by first | assumption | omega))) dX3_isAcceptedBySilence_64 ?_
        refine pr_eqi (v := S 221 t) (sj_r127 hs (by first | assumption | omega)) ?_
        refine pr_icmp_ne (pc := 67) C 74 dX3_isAcceptedBySilence_67 (by decide) (fun c_67 => ?_) (fun c_67 => ?_)
        · refine pr_iconst (pc := 74) (v := 0) C dX3_isAcceptedBySilence_74 (by decide) ?_
          exact pr_iret (pc := 75) C E (Or.inr ⟨rfl, (by decide)⟩) (by omega) (by omega) ⟨(by simp [-Int32.not_le, -Int32.not_lt, pz_b, pz_lt, sc_sil, ← mj_g3 hg, eq_true c_12, eq_true c_36, eq_true c_48, eq_false c_67]), rfl⟩ dX3_isAcceptedBySilence_75
        · refine pr_iconst (pc := 70) (v := 1) C dX3_isAcceptedBySilence_70 (by decide) ?_
          refine pr_goto (pc := 71) C 75 dX3_isAcceptedBySilence_71 (by decide) ?_
          exact pr_iret (pc := 75) C E (Or.inr ⟨rfl, (by decide)⟩) (by omega) (by omega) ⟨(by simp [-Int32.not_le, -Int32.not_lt, pz_b, pz_lt, sc_sil, ← mj_g3 hg, eq_true c_12, eq_true c_36, eq_true c_48, eq_true c_67]), rfl⟩ dX3_isAcceptedBySilence_75
  · refine pr_iload_n (pc := 15) C dX3_isAcceptedBySilence_15 rfl ?_
    refine pr_iconst (pc := 16) (v := 4) C dX3_isAcceptedBySilence_16 (by decide) ?_
    refine pr_icmp_ne (pc := 17) C 74 dX3_isAcceptedBySilence_17 (by decide) (fun c_17 => ?_) (fun c_17 => ?_)
    · refine pr_iconst (pc := 74) (v := 0) C dX3_isAcceptedBySilence_74 (by decide) ?_
      exact pr_iret (pc := 75) C E (Or.inr ⟨rfl, (by decide)⟩) (by omega) (by omega) ⟨(by simp [-Int32.not_le, -Int32.not_lt, pz_b, pz_lt, sc_sil, ← mj_g3 hg, eq_false c_12, eq_false c_17]), rfl⟩ dX3_isAcceptedBySilence_75
    · refine pr_aload_n (pc := 20) C dX3_isAcceptedBySilence_20 rfl ?_
      refine pr_geti (pc := 21) C 166 wf_X3_76 rfl (by decide) (pl_4 _) dX3_isAcceptedBySilence_21 ?_
      refine pr_eqi (v := S 200 0) (sj_r166 hs) ?_
      refine pr_aload_n (pc := 24) C dX3_isAcceptedBySilence_24 rfl ?_
      refine pr_geta (pc := 25) C 132 232 wf_X3_383 rfl rfl (by decide) (pl_3 (sj_n0 hs (by first | assumption | omega))) dX3_isAcceptedBySilence_25 ?_
      refine pr_aload_n (pc := 28) C dX3_isAcceptedBySilence_28 rfl ?_
      refine pr_geti (pc := 29) C 40 wf_X3_160 rfl (by decide) (pl_1 (by first | assumption | omega)) dX3_isAcceptedBySilence_29 ?_
      refine pr_eqi (v := nI k) (sj_r40 hs (by first | assumption | omega)) ?_
      refine pr_aldi (pc := 32) (n := 4) C 132 k rfl rfl rfl (pl_r3 (by decide) (sj_n0 hs (by first | assumption | omega))) rfl (by omega) (by decide) dX3_isAcceptedBySilence_32 ?_
      refine pr_eqi (v := S 229 (4 * t + k)) (sj_r132 hs (by first | assumption | omega) (by omega)) ?_
      refine pr_isub (pc := 33) C dX3_isAcceptedBySilence_33 ?_
      refine pr_bipush (pc := 34) (v := 6) C dX3_isAcceptedBySilence_34 (by decide) ?_
      refine pr_icmp_ne (pc := 36) C 74 dX3_isAcceptedBySilence_36 (by decide) (fun c_36 => ?_) (fun c_36 => ?_)
      · refine pr_iconst (pc := 74) (v := 0) C dX3_isAcceptedBySilence_74 (by decide) ?_
        exact pr_iret (pc := 75) C E (Or.inr ⟨rfl, (by decide)⟩) (by omega) (by omega) ⟨(by simp [-Int32.not_le, -Int32.not_lt, pz_b, pz_lt, sc_sil, ← mj_g3 hg, eq_false c_12, eq_true c_17, eq_false c_36]), rfl⟩ dX3_isAcceptedBySilence_75
      · refine pr_aload_n (pc := 39) C dX3_isAcceptedBySilence_39 rfl ?_
        refine pr_geta (pc := 40) C 49 149 wf_X3_190 rfl rfl (by decide) (pl_1 (by first | assumption | omega)) dX3_isAcceptedBySilence_40 ?_
        refine pr_aload_n (pc := 43) C dX3_isAcceptedBySilence_43 rfl ?_
        refine pr_geti (pc := 44) C 126 wf_X3_164 rfl (by decide) (pl_3 (sj_n0 hs (by first | assumption | omega))) dX3_isAcceptedBySilence_44 ?_
        refine pr_eqi (v := S 220 t) (sj_r126 hs (by first | assumption | omega)) ?_
        refine pr_eqi hxa ?_
        refine pr_aldi (pc := 47) (n := 10) C 49 xa rfl rfl rfl (pl_r1 (by decide) (by first | assumption | omega)) rfl (by omega) (by decide) dX3_isAcceptedBySilence_47 ?_
        refine pr_eqi (v := S 208 (10 * k + xa)) (sj_r49 hs (by first | assumption | omega) (by omega)) ?_
        refine pr_if_ne (pc := 48) C 74 dX3_isAcceptedBySilence_48 (by decide) (fun c_48 => ?_) (fun c_48 => ?_)
        · refine pr_iconst (pc := 74) (v := 0) C dX3_isAcceptedBySilence_74 (by decide) ?_
          exact pr_iret (pc := 75) C E (Or.inr ⟨rfl, (by decide)⟩) (by omega) (by omega) ⟨(by simp [-Int32.not_le, -Int32.not_lt, pz_b, pz_lt, sc_sil, ← mj_g3 hg, eq_false c_12, eq_true c_17, eq_true c_36, eq_false c_48]), rfl⟩ dX3_isAcceptedBySilence_75
        · refine pr_aload_n (pc := 51) C dX3_isAcceptedBySilence_51 rfl ?_
          refine pr_gets (pc := 52) C 120 wf_X3_105 rfl rfl (pl_3 (sj_n0 hs (by first | assumption | omega))) wt ((sj_r120 hs (by first | assumption | omega)).trans hwt) (by first | assumption | omega) dX3_isAcceptedBySilence_52 ?_
          refine pr_geta (pc := 55) C 49 149 wf_X3_190 rfl rfl (by decide) (pl_1 (by first | assumption | omega)) dX3_isAcceptedBySilence_55 ?_
          refine pr_aload_n (pc := 58) C dX3_isAcceptedBySilence_58 rfl ?_
          refine pr_geti (pc := 59) C 126 wf_X3_164 rfl (by decide) (pl_3 (sj_n0 hs (by first | assumption | omega))) dX3_isAcceptedBySilence_59 ?_
          refine pr_eqi (v := S 220 t) (sj_r126 hs (by first | assumption | omega)) ?_
          refine pr_eqi hxa ?_
          refine pr_aldi (pc := 62) (n := 10) C 49 xa rfl rfl rfl (pl_r1 (by decide) (by first | assumption | omega)) rfl (by omega) (by decide) dX3_isAcceptedBySilence_62 ?_
          refine pr_eqi (v := S 208 (10 * wt + xa)) (sj_r49 hs (by first | assumption | omega) (by omega)) ?_
          refine pr_aload_n (pc := 63) C dX3_isAcceptedBySilence_63 rfl ?_
          refine pr_geti (pc := 64) C 127 wf_X3_167 rfl (by decide) (pl_3 (sj_n0 hs (by first | assumption | omega))) dX3_isAcceptedBySilence_64 ?_
          refine pr_eqi (v := S 221 t) (sj_r127 hs (by first | assumption | omega)) ?_
          refine pr_icmp_ne (pc := 67) C 74 dX3_isAcceptedBySilence_67 (by decide) (fun c_67 => ?_) (fun c_67 => ?_)
          · refine pr_iconst (pc := 74) (v := 0) C dX3_isAcceptedBySilence_74 (by decide) ?_
            exact pr_iret (pc := 75) C E (Or.inr ⟨rfl, (by decide)⟩) (by omega) (by omega) ⟨(by simp [-Int32.not_le, -Int32.not_lt, pz_b, pz_lt, sc_sil, ← mj_g3 hg, eq_false c_12, eq_true c_17, eq_true c_36, eq_true c_48, eq_false c_67]), rfl⟩ dX3_isAcceptedBySilence_75
          · refine pr_iconst (pc := 70) (v := 1) C dX3_isAcceptedBySilence_70 (by decide) ?_
            refine pr_goto (pc := 71) C 75 dX3_isAcceptedBySilence_71 (by decide) ?_
            exact pr_iret (pc := 75) C E (Or.inr ⟨rfl, (by decide)⟩) (by omega) (by omega) ⟨(by simp [-Int32.not_le, -Int32.not_lt, pz_b, pz_lt, sc_sil, ← mj_g3 hg, eq_false c_12, eq_true c_17, eq_true c_36, eq_true c_48, eq_true c_67]), rfl⟩ dX3_isAcceptedBySilence_75

