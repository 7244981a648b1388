/-! THE CLASS: hints end, and harden -/
theorem pz_it10 {σ : Type} (f : σ → Nat → σ) : ∀ (n : Nat) (s : σ), pz_it (fun s t => pz_it (fun s j => f s (10 * t + j)) 10 s) n s = pz_it f (10 * n) s
  | 0, _ => rfl
  | n + 1, s => by
    rw [pz_it_s, pz_it10 f n s]
    rfl
def ms_ha2 (i : Nat) (S : Nat → Nat → Int32) (a : Nat) : Nat → Nat → Int32 := ms_hds S (10 * i + a)
def ms_ha1 (S : Nat → Nat → Int32) (i : Nat) : Nat → Nat → Int32 := pz_it (ms_ha2 i) 10 S
theorem ms_ha_all {S : Nat → Nat → Int32} : pz_it ms_ha1 4 S = ms_hard S := pz_it10 ms_hds 4 S
def sc_H (S0 S : Nat → Nat → Int32) (T : Nat) : Prop := mw_S S T ∧ mj S T ∧ sj_pt S0 T ≤ sj_pt S T
theorem sc_H_hds {S0 S : Nat → Nat → Int32} {T i a : Nat} (h : sc_H S0 S T) (hi : i < 4) (ha : a < 10) : sc_H S0 (ms_hds S (10 * i + a)) T := by
  obtain ⟨hM, hJ, hp⟩ := h
  refine ⟨mw_S_hds hM, ?_⟩
  unfold ms_hds
  split
  · rename_i c
    have q1 := sj_pt_hint (T := T) (show 10 * i + a < 40 by omega) c.1
    have hv := (hJ.2.2.2.1 _ (by omega) c.1).1
    split
    · rw [show (10 * i + a) / 10 = i by omega, show (10 * i + a) % 10 = a by omega]
      have q2 := sj_pt_com_le (S := pa_us S 210 (10 * i + a) 0) (T := T) (t := nI (mn (S 211 (10 * i + a)))) hi ha (show S 210 (10 * i + a) ≠ 0 from c.1)
      exact ⟨mj_com (mj_hint0 hJ) (Or.inr hv), by omega⟩
    · exact ⟨mj_hint0 hJ, by omega⟩
  · exact ⟨hJ, hp⟩
theorem sc_H_pt {S : Nat → Nat → Int32} {T : Nat} (hM : mw_S S T) (hJ : mj S T) {k : Nat} (hk : k ≤ 40) : sj_pt (pz_it ms_hds k S) T ≤ sj_pt (ms_hard S) T :=
  pz_it_mono (m := fun S' => sj_pt S' T) (I := fun S' => mw_S S' T ∧ mj S' T) (fun s k hk h => by
    have q := sc_H_hds (S0 := s) (S := s) (i := k / 10) (a := k % 10) ⟨h.1, h.2, Nat.le_refl _⟩ (by omega) (by omega)
    rw [show 10 * (k / 10) + k % 10 = k by omega] at q
    exact ⟨⟨q.1, q.2.1⟩, q.2.2⟩) ⟨hM, hJ⟩ (40 - k) k (by omega)
theorem ms_ha_at {S : Nat → Nat → Int32} {i k : Nat} : pz_it (ms_ha2 i) k (pz_it ms_ha1 i S) = pz_it ms_hds (10 * i + k) S := by
  rw [show pz_it ms_ha1 i S = pz_it ms_hds (10 * i) S from pz_it10 ms_hds i S]
  exact pz_it_add k
theorem sc_ht0 {S : Nat → Nat → Int32} {p t : Nat} (h : S 211 p = nI t) : pa_us (pa_us S 210 p 0) 211 p (nI t) = pa_us S 210 p 0 := by
  have e : nI t = pa_us S 210 p 0 211 p := by rw [pa_us_ne (by decide)]; exact h.symm
  rw [e, pa_us_same]
theorem ms_hds0 {S : Nat → Nat → Int32} {p : Nat} (h : S 210 p = 0) : S = ms_hds S p := (if_neg (fun q => q.1 h)).symm
theorem ms_hds1 {S : Nat → Nat → Int32} {p t : Nat} (ht : mn (S 211 p) = t) (h : ¬ 5 ≤ S 200 0 - S 225 t) : S = ms_hds S p := (if_neg (fun q => h (ht ▸ q.2))).symm
theorem ms_hds2 {S : Nat → Nat → Int32} {p t : Nat} (ht : mn (S 211 p) = t) (h0 : ¬ S 210 p = 0) (h : 5 ≤ S 200 0 - S 225 t) (hT : sc_some (pa_us S 210 p 0) t 4 = false) : pa_us S 210 p 0 = ms_hds S p := by
  subst ht
  unfold ms_hds
  rw [if_pos ⟨h0, h⟩, if_neg (by rw [show ms_isTaken (pa_us S 210 p 0) (mn (S 211 p)) = false from hT]; decide)]
theorem ms_hds3 {S : Nat → Nat → Int32} {i a p t : Nat} (hp : p = 10 * i + a) (ha : a < 10) (ht : mn (S 211 p) = t) (h0 : ¬ S 210 p = 0) (h : 5 ≤ S 200 0 - S 225 t) (hT : sc_some (pa_us S 210 p 0) t 4 = true) : ms_com (pa_us S 210 p 0) i a (S 210 p) (nI t) = ms_hds S p := by
  subst ht
  unfold ms_hds
  rw [if_pos ⟨h0, h⟩, if_pos (show ms_isTaken (pa_us S 210 p 0) (mn (S 211 p)) = true from hT), show p / 10 = i by omega, show p % 10 = a by omega]
set_option maxRecDepth 100000 in
set_option maxHeartbeats 4000000 in
theorem c_X3_endHints (G : pa_G) (l : Launch) (K : Nat → Nat → Nat → Int32) (Sm S : Nat → Nat → Int32) (N : Nat → Nat) (O : Nat → Int64) (T D e : Nat) (z : sj_Z) (hs : sj_M K N T D z e S) (hM : mw_S S T) (hJ : mj S T) : pa_M G l mX3_endHints 9 true [pv_o 4 0] (K, Sm, N, O) (2 * (sj_pt (ms_hard S) T - sj_pt S T)) (1520 * (sj_pt (ms_hard S) T - sj_pt S T)) (sj_post none Sm O T D z e (ms_hard S)) := by
  refine pa_go l (by decide) (by simp [pa_c1l, pa_c1]) (fun _ => rfl) fun x C E el ea => ?_
  subst el
  have hT := hM.1.1
  have hTD := sj_TD hs
  show pa_w G x 5 (K, Sm, N, O) 0 0 0 [some (pv_o 4 0), none, none, none, none] []
  refine pr_iconst (pc := 0) (v := 0) C dX3_endHints_0 (by decide) ?_
  refine pr_istore_n (pc := 1) C dX3_endHints_1 (by decide) ?_
  have lp2 : ∀ (n3 k1 : Nat) (S5 : Nat → Nat → Int32) (K : Nat → Nat → Nat → Int32) (N : Nat → Nat), k1 ≤ 4 → 4 < k1 + n3 → S5 = pz_it ms_ha1 k1 S → sc_H S S5 T → sj_M K N T D z e S5 → pa_w G x 5 (K, Sm, N, O) (2 * (sj_pt S5 T - sj_pt S T)) (1520 * (sj_pt S5 T - sj_pt S T)) 2 [some (pv_o 4 0), some (pv_i (nI k1)), none, none, none] [] := by
    intro n3
    induction n3 with
    | zero => intro k1 S5 K N h1 h2; exact absurd h2 (by omega)
    | succ n3 ih4 =>
      intro k1 S5 K N hk1_k1 hk2_k1 eS_k1 hx_k1 hs
      have hpo : sj_pt S5 T ≤ sj_pt (ms_hard S) T := by have q := sc_H_pt hM hJ (show 10 * k1 ≤ 40 by omega); rw [show S5 = pz_it ms_hds (10 * k1) S from eS_k1.trans (pz_it10 ms_hds k1 S)]; exact q
      refine pr_iload_n (pc := 2) C dX3_endHints_2 rfl ?_
      refine pr_iconst (pc := 3) (v := 4) C dX3_endHints_3 (by decide) ?_
      refine pr_icmp_geN (pc := 4) C 90 k1 4 dX3_endHints_4 (by decide) rfl rfl (by omega) (by omega) (fun c_4 => ?_) (fun c_4 => ?_)
      · obtain rfl : 4 = k1 := by omega
        exact pr_vret (pc := 90) C E (by rw [eS_k1.trans ms_ha_all]; exact Nat.le_refl _) (by rw [eS_k1.trans ms_ha_all]; exact Nat.le_refl _) ⟨rfl, K, N, rfl, sj_eq (eS_k1.trans ms_ha_all) hs⟩ dX3_endHints_90
      · refine pr_aload_n (pc := 7) C dX3_endHints_7 rfl ?_
        refine pr_geta (pc := 8) C 160 260 wf_X3_11 rfl rfl (by decide) (pl_4 _) dX3_endHints_8 ?_
        refine pr_iload_n (pc := 11) C dX3_endHints_11 rfl ?_
        refine pr_alds (pc := 12) (n := 4) C 160 k1 rfl rfl rfl (pl_r4 (by decide)) rfl (by omega) (by decide) dX3_endHints_12 ?_
        refine pr_astore_n (pc := 13) C dX3_endHints_13 (by decide) ?_
        refine pr_iconst (pc := 14) (v := 0) C dX3_endHints_14 (by decide) ?_
        refine pr_istore_n (pc := 15) C dX3_endHints_15 (by decide) ?_
        have lp7 : ∀ (n8 k6 : Nat) (S10 : Nat → Nat → Int32) (K : Nat → Nat → Nat → Int32) (N : Nat → Nat), k6 ≤ 10 → 10 < k6 + n8 → S10 = pz_it (ms_ha2 k1) k6 S5 → sc_H S S10 T → sj_M K N T D z e S10 → pa_w G x 5 (K, Sm, N, O) (2 * (sj_pt S10 T - sj_pt S T)) (1520 * (sj_pt S10 T - sj_pt S T)) 16 [some (pv_o 4 0), some (pv_i (nI k1)), some (pv_o 1 k1), some (pv_i (nI k6)), none] [] := by
          intro n8
          induction n8 with
          | zero => intro k6 S10 K N h1 h2; exact absurd h2 (by omega)
          | succ n8 ih9 =>
            intro k6 S10 K N hk1_k6 hk2_k6 eS_k6 hx_k6 hs
            have eS9 : S10 = pz_it ms_hds (10 * k1 + k6) S := eS_k6.trans (by rw [eS_k1]; exact ms_ha_at)
            have hpi : k1 < 4 → sj_pt S10 T ≤ sj_pt (ms_hard S) T := fun _ => by rw [eS9]; exact sc_H_pt hM hJ (by omega)
            refine pr_iload_n (pc := 16) C dX3_endHints_16 rfl ?_
            refine pr_bipush (pc := 17) (v := 10) C dX3_endHints_17 (by decide) ?_
            refine pr_icmp_geN (pc := 19) C 84 k6 10 dX3_endHints_19 (by decide) rfl rfl (by omega) (by omega) (fun c_19 => ?_) (fun c_19 => ?_)
            · obtain rfl : 10 = k6 := by omega
              refine pr_iincN (pc := 84) C dX3_endHints_84 rfl k1 1 rfl rfl (by decide) ?_
              refine pr_goto (pc := 87) C 2 dX3_endHints_87 (by decide) ?_
              refine pr_lo (lo' := [some (pv_o 4 0), some (pv_i (nI (k1 + 1))), none, none, none]) (show pa_lle [some (pv_o 4 0), some (pv_i (nI (k1 + 1))), none, none, none] [some (pv_o 4 0), some (pv_i (nI (k1 + 1))), some (pv_o 1 k1), some (pv_i (nI 10)), none] by simp [pa_lle]) ?_
              refine pr_widen (Nat.le_refl _) (Nat.le_refl _) ?_
              exact ih4 (k1 + 1) S10 K N (by omega) (by omega) (by rw [pz_it_s, ← eS_k1]; exact eS_k6) hx_k6 hs
            · have hk4 : k1 < 4 := by omega
              have hpi := hpi hk4
              have hk10 : k6 < 10 := by omega
              by_cases hh : S10 210 (10 * k1 + k6) = 0
              · -- none
                refine pr_aload_n (pc := 22) C dX3_endHints_22 rfl ?_
                refine pr_geta (pc := 23) C 51 151 wf_X3_209 rfl rfl (by decide) (pl_1 (by first | assumption | omega)) dX3_endHints_23 ?_
                refine pr_iload_n (pc := 26) C dX3_endHints_26 rfl ?_
                refine pr_aldt (pc := 27) (n := 10) C 51 k6 rfl rfl rfl (pl_r1 (by decide) (by first | assumption | omega)) rfl (by omega) (by decide) dX3_endHints_27 ?_
                refine pr_eqr (v := none) (by show pa_rc 3 (K 51 k1 k6) = none; rw [sj_r51 hs hk4 hk10, if_pos hh]; rfl) ?_
                refine pr_astore (pc := 28) C dX3_endHints_28 (by decide) ?_
                refine pr_aload (pc := 30) C dX3_endHints_30 rfl ?_
                refine pr_ifnull0 (pc := 32) C 78 dX3_endHints_32 (by decide) ?_
                refine pr_iincN (pc := 78) C dX3_endHints_78 rfl k6 1 rfl rfl (by decide) ?_
                refine pr_goto (pc := 81) C 16 dX3_endHints_81 (by decide) ?_
                refine pr_lo (lo' := [some (pv_o 4 0), some (pv_i (nI k1)), some (pv_o 1 k1), some (pv_i (nI (k6 + 1))), none]) (show pa_lle [some (pv_o 4 0), some (pv_i (nI k1)), some (pv_o 1 k1), some (pv_i (nI (k6 + 1))), none] [some (pv_o 4 0), some (pv_i (nI k1)), some (pv_o 1 k1), some (pv_i (nI (k6 + 1))), some (pv_r none)] by simp [pa_lle]) ?_
                refine pr_widen (Nat.le_refl _) (Nat.le_refl _) ?_
                exact ih9 (k6 + 1) S10 K N (by omega) (by omega) (by rw [pz_it_s, ← eS_k6]; exact (ms_hds0 (p := (10 * k1 + k6)) hh)) hx_k6 hs
              · -- one
                obtain ⟨eH, ltH, -⟩ := mw_S_H hx_k6.1 hh
                obtain ⟨hv12, hvt, -⟩ := hx_k6.2.1.2.2.2.1 _ (show (10 * k1 + k6) < 40 by omega) hh
                generalize htv : mn (S10 211 (10 * k1 + k6)) = tv at eH ltH hvt
                refine pr_aload_n (pc := 22) C dX3_endHints_22 rfl ?_
                refine pr_geta (pc := 23) C 51 151 wf_X3_209 rfl rfl (by decide) (pl_1 (by first | assumption | omega)) dX3_endHints_23 ?_
                refine pr_iload_n (pc := 26) C dX3_endHints_26 rfl ?_
                refine pr_aldt (pc := 27) (n := 10) C 51 k6 rfl rfl rfl (pl_r1 (by decide) (by first | assumption | omega)) rfl (by omega) (by decide) dX3_endHints_27 ?_
                refine pr_eqr (v := some (3, tv)) (by show pa_rc 3 (K 51 k1 k6) = some (3, tv); rw [sj_r51 hs hk4 hk10, if_neg hh, eH]; exact pa_rc_nI (by omega)) ?_
                refine pr_astore (pc := 28) C dX3_endHints_28 (by decide) ?_
                refine pr_aload (pc := 30) C dX3_endHints_30 rfl ?_
                refine pr_ifnull1 (pc := 32) C dX3_endHints_32 ?_
                refine pr_aload_n (pc := 35) C dX3_endHints_35 rfl ?_
                refine pr_geti (pc := 36) C 166 wf_X3_76 rfl (by decide) (pl_4 _) dX3_endHints_36 ?_
                refine pr_eqi (v := S10 200 0) (sj_r166 hs) ?_
                refine pr_aload (pc := 39) C dX3_endHints_39 rfl ?_
                refine pr_geti (pc := 41) C 129 wf_X3_179 rfl (by decide) (pl_3 (sj_n0 hs (by first | assumption | omega))) dX3_endHints_41 ?_
                refine pr_eqi (v := S10 225 tv) (sj_r129 hs (by first | assumption | omega)) ?_
                refine pr_isub (pc := 44) C dX3_endHints_44 ?_
                refine pr_iconst (pc := 45) (v := 5) C dX3_endHints_45 (by decide) ?_
                refine pr_icmp_ltL (pc := 46) C 78 dX3_endHints_46 (by decide) (fun c_46 => ?_) (fun c_46 => ?_)
                · refine pr_iincN (pc := 78) C dX3_endHints_78 rfl k6 1 rfl rfl (by decide) ?_
                  refine pr_goto (pc := 81) C 16 dX3_endHints_81 (by decide) ?_
                  refine pr_lo (lo' := [some (pv_o 4 0), some (pv_i (nI k1)), some (pv_o 1 k1), some (pv_i (nI (k6 + 1))), none]) (show pa_lle [some (pv_o 4 0), some (pv_i (nI k1)), some (pv_o 1 k1), some (pv_i (nI (k6 + 1))), none] [some (pv_o 4 0), some (pv_i (nI k1)), some (pv_o 1 k1), some (pv_i (nI (k6 + 1))), some (pv_o 3 tv)] by simp [pa_lle]) ?_
                  refine pr_widen (Nat.le_refl _) (Nat.le_refl _) ?_
                  exact ih9 (k6 + 1) S10 K N (by omega) (by omega) (by rw [pz_it_s, ← eS_k6]; exact (ms_hds1 (p := (10 * k1 + k6)) htv c_46)) hx_k6 hs
                · refine pr_aload_n (pc := 49) C dX3_endHints_49 rfl ?_
                  refine pr_geta (pc := 50) C 51 151 wf_X3_209 rfl rfl (by decide) (pl_1 (by first | assumption | omega)) dX3_endHints_50 ?_
                  refine pr_iload_n (pc := 53) C dX3_endHints_53 rfl ?_
                  refine pr_null (pc := 54) C dX3_endHints_54 ?_
                  refine pr_astt (pc := 55) (n := 10) C 51 k6 (-1) rfl (by decide) rfl rfl (pl_r1 (by decide) (by first | assumption | omega)) (by decide) (by intro z hz; cases hz) rfl (by omega) (by decide) dX3_endHints_55 ?_
                  refine pr_sim (sj_eq (sc_ht0 eH) (sj_hintM (t := tv) (v := 0) (e1 := e + 1) hs hk4 hk10 (if_pos rfl).symm (by rw [decide_eq_true hh]; have : (decide ((0 : Int32) ≠ 0)).toNat = 0 := rfl; have : true.toNat = 1 := rfl; omega))) ?_
                  intro K N hs
                  refine pr_aload (pc := 56) C dX3_endHints_56 rfl ?_
                  refine pr_iconst (pc := 58) (v := 4) C dX3_endHints_58 (by decide) ?_
                  refine pr_vP (pc := 59) C (c_X2_hasReachedSomebody G _ K Sm (pa_us S10 210 (10 * k1 + k6) 0) N O T D (e + 1) z hs tv (4 : Int32) (by first | assumption | omega)) wv_X3_297 rfl rfl (by decide) (by decide) (pl_3 (sj_n0 hs (by first | assumption | omega))) (Nat.le_of_ble_eq_true rfl) (by omega) (by omega) dX3_endHints_59 ?_
                  refine pr_ifb_eq (pc := 62) C 78 dX3_endHints_62 (by decide) (fun c_62 => ?_) (fun c_62 => ?_)
                  · refine pr_sim (sj_eqle rfl (Nat.le_succ _) hs) ?_
                    intro K N hs
                    refine pr_iincN (pc := 78) C dX3_endHints_78 rfl k6 1 rfl rfl (by decide) ?_
                    refine pr_goto (pc := 81) C 16 dX3_endHints_81 (by decide) ?_
                    refine pr_lo (lo' := [some (pv_o 4 0), some (pv_i (nI k1)), some (pv_o 1 k1), some (pv_i (nI (k6 + 1))), none]) (show pa_lle [some (pv_o 4 0), some (pv_i (nI k1)), some (pv_o 1 k1), some (pv_i (nI (k6 + 1))), none] [some (pv_o 4 0), some (pv_i (nI k1)), some (pv_o 1 k1), some (pv_i (nI (k6 + 1))), some (pv_o 3 tv)] by simp [pa_lle]) ?_
                    refine pr_widen (a' := 2 * (sj_pt (pa_us S10 210 (10 * k1 + k6) 0) T - sj_pt S T)) (b' := 1520 * (sj_pt (pa_us S10 210 (10 * k1 + k6) 0) T - sj_pt S T)) (by have q1 := sj_pt_hint (T := T) (show (10 * k1 + k6) < 40 by omega) hh; have q3 := hx_k6.2.2; omega) (by have q1 := sj_pt_hint (T := T) (show (10 * k1 + k6) < 40 by omega) hh; have q3 := hx_k6.2.2; omega) ?_
                    exact ih9 (k6 + 1) (pa_us S10 210 (10 * k1 + k6) 0) K N (by omega) (by omega) (by rw [pz_it_s, ← eS_k6]; exact (ms_hds2 htv hh c_46 c_62)) (by rw [(ms_hds2 htv hh c_46 c_62)]; exact sc_H_hds hx_k6 hk4 hk10) hs
                  · have hd1 : (decide (S10 210 (10 * k1 + k6) = 0)).toNat = 0 := by rw [decide_eq_false hh]; rfl
                    have hpl := hx_k6.2.2
                    have hpc := sj_pt_hint (T := T) (show (10 * k1 + k6) < 40 by omega) hh
                    have hpe := sj_pt_com_le (S := pa_us S10 210 (10 * k1 + k6) 0) (T := T) (t := nI tv) hk4 hk10 hh
                    have hpd : sj_pt (ms_com (pa_us S10 210 (10 * k1 + k6) 0) k1 k6 (S10 210 (10 * k1 + k6)) (nI tv)) T ≤ sj_pt (ms_hard S) T := by rw [(ms_hds3 (i := k1) (a := k6) rfl hk10 htv hh c_46 c_62), eS9]; exact sc_H_pt hM hJ (k := (10 * k1 + k6) + 1) (by omega)
                    refine pr_aload_n (pc := 65) C dX3_endHints_65 rfl ?_
                    refine pr_aload_n (pc := 66) C dX3_endHints_66 rfl ?_
                    refine pr_iload_n (pc := 67) C dX3_endHints_67 rfl ?_
                    refine pr_aload (pc := 68) C dX3_endHints_68 rfl ?_
                    refine pr_geti (pc := 70) C 127 wf_X3_167 rfl (by decide) (pl_3 (sj_n0 hs (by first | assumption | omega))) dX3_endHints_70 ?_
                    refine pr_eqi (v := S10 221 tv) ((sj_r127 hs (by first | assumption | omega)).trans rfl) ?_
                    refine pr_eqi hvt ?_
                    refine pr_aload (pc := 73) C dX3_endHints_73 rfl ?_
                    refine pr_vC0 (pc := 75) (rest := []) C (c_X3_commit G _ K Sm (pa_us S10 210 (10 * k1 + k6) 0) N O T D (e + 1) z hs k1 k6 tv e (S10 210 (10 * k1 + k6)) (mw_S_hint0 hx_k6.1) (mj_hint0 hx_k6.2.1).2.1 (mj_hint0 hx_k6.2.1).2.2.2.2.1 hk4 hk10 ltH (Or.inr hv12) (by omega)) wv_X3_340 rfl rfl (by decide) (by decide) (pl_4 _) (by decide) (by omega) (by omega) (fun z => absurd (ea.symm.trans z) (by decide)) (fun _ => ⟨trivial, ⟨⟨lr_kn (by decide), (pl_4 _)⟩, ⟨trivial, ⟨⟨lr_kn (by decide), (pl_1 (by first | assumption | omega))⟩, ⟨trivial, ⟨⟨lr_kn (by decide), (pl_3 (sj_n0 hs (by first | assumption | omega)))⟩, trivial⟩⟩⟩⟩⟩⟩) dX3_endHints_75 ?_
                    intro K N hs
                    refine pr_iincN (pc := 78) C dX3_endHints_78 rfl k6 1 rfl rfl (by decide) ?_
                    refine pr_goto (pc := 81) C 16 dX3_endHints_81 (by decide) ?_
                    refine pr_lo (lo' := [some (pv_o 4 0), some (pv_i (nI k1)), some (pv_o 1 k1), some (pv_i (nI (k6 + 1))), none]) (show pa_lle [some (pv_o 4 0), some (pv_i (nI k1)), some (pv_o 1 k1), some (pv_i (nI (k6 + 1))), none] [some (pv_o 4 0), some (pv_i (nI k1)), some (pv_o 1 k1), some (pv_i (nI (k6 + 1))), some (pv_o 3 tv)] by simp [pa_lle]) ?_
                    refine pr_widen (a' := 2 * (sj_pt (ms_com (pa_us S10 210 (10 * k1 + k6) 0) k1 k6 (S10 210 (10 * k1 + k6)) (nI tv)) T - sj_pt S T)) (b' := 1520 * (sj_pt (ms_com (pa_us S10 210 (10 * k1 + k6) 0) k1 k6 (S10 210 (10 * k1 + k6)) (nI tv)) T - sj_pt S T)) (by have q1 := sj_pt_hint (T := T) (show (10 * k1 + k6) < 40 by omega) hh; have q3 := hx_k6.2.2; have q2 := sj_pt_com_le (S := pa_us S10 210 (10 * k1 + k6) 0) (T := T) (t := nI tv) hk4 hk10 hh; omega) (by have q1 := sj_pt_hint (T := T) (show (10 * k1 + k6) < 40 by omega) hh; have q3 := hx_k6.2.2; have q2 := sj_pt_com_le (S := pa_us S10 210 (10 * k1 + k6) 0) (T := T) (t := nI tv) hk4 hk10 hh; omega) ?_
                    exact ih9 (k6 + 1) (ms_com (pa_us S10 210 (10 * k1 + k6) 0) k1 k6 (S10 210 (10 * k1 + k6)) (nI tv)) K N (by omega) (by omega) (by rw [pz_it_s, ← eS_k6]; exact (ms_hds3 (i := k1) (a := k6) rfl hk10 htv hh c_46 c_62)) (by rw [(ms_hds3 (i := k1) (a := k6) rfl hk10 htv hh c_46 c_62)]; exact sc_H_hds hx_k6 hk4 hk10) hs
        exact lp7 (10 + 1) 0 _ K N (by omega) (by omega) (pz_it_z _ _) hx_k1 hs
  refine pr_widen (a' := 2 * (sj_pt S T - sj_pt S T)) (b' := 1520 * (sj_pt S T - sj_pt S T)) (Nat.zero_le _) (Nat.zero_le _) ?_
  exact lp2 (4 + 1) 0 _ K N (by omega) (by omega) (pz_it_z _ _) ⟨hM, hJ, Nat.le_refl _⟩ hs

