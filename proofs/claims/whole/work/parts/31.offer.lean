/-! THE CLASS: an offer is opened -/
/-- an offer of w is made by t: what it puts in the place of, and what it answers, are open no more -/
def ms_ofc (t w : Nat) (S : Nat → Nat → Int32) (k : Nat) : Nat → Nat → Int32 :=
  if (S 218 k = nI w ∧ ms_lis (S 222 k) = ms_lis (S 222 t)) ∨ (ms_isIn (S 222 k) (nI w) = true ∧ ms_isIn (S 222 t) (S 218 k) = true) then pa_us S 227 k 0 else S
theorem ms_ofc_fr {t w n f j : Nat} {S : Nat → Nat → Int32} (hf : f ≠ 227) : pz_it (ms_ofc t w) n S f j = S f j :=
  pz_it_inv (f := ms_ofc t w) (I := fun S' => S' f j = S f j) (fun s k h => by
    unfold ms_ofc
    split
    · rw [pa_us_ne hf]; exact h
    · exact h) n S rfl
set_option maxRecDepth 100000 in
set_option maxHeartbeats 4000000 in
theorem c_X3_openOffer (G : pa_G) (l : Launch) (K : Nat → Nat → Nat → Int32) (Sm S : Nat → Nat → Int32) (N : Nat → Nat) (O : Nat → Int64) (T D e : Nat) (z : sj_Z) (hs : sj_M K N T D z e S) (t w : Nat) (hM : mw_S S T) (hJ : mj_T S T) (ht : t < T) (hw : S 218 t = nI w) (hw4 : w < 4) : pa_M G l mX3_openOffer 4 false [pv_o 4 0, pv_o 3 t] (K, Sm, N, O) 0 0 (sj_post none Sm O T D z e (pa_us (pz_it (ms_ofc t w) T S) 227 t 1)) := by
  refine pa_go l (by decide) (by simp [pa_c1l, pa_c1]) (fun _ => rfl) fun x C E el ea => ?_
  subst el
  have hT := hM.1.1
  have hTD := sj_TD hs
  show pa_w G x 5 (K, Sm, N, O) 0 0 0 [some (pv_o 4 0), some (pv_o 3 t), none, none, none] []
  refine pr_iconst (pc := 0) (v := 0) C dX3_openOffer_0 (by decide) ?_
  refine pr_istore_n (pc := 1) C dX3_openOffer_1 (by decide) ?_
  have lp2 : ∀ (n3 k1 : Nat) (S5 : Nat → Nat → Int32) (K : Nat → Nat → Nat → Int32) (N : Nat → Nat), k1 ≤ T → T < k1 + n3 → S5 = pz_it (ms_ofc t w) k1 S → sj_M K N T D z e S5 → pa_w G x 5 (K, Sm, N, O) 0 0 2 [some (pv_o 4 0), some (pv_o 3 t), some (pv_i (nI k1)), none, none] [] := by
    intro n3
    induction n3 with
    | zero => intro k1 S5 K N h1 h2; exact absurd h2 (by omega)
    | succ n3 ih4 =>
      intro k1 S5 K N hk1_k1 hk2_k1 eS_k1 hs
      refine pr_iload_n (pc := 2) C dX3_openOffer_2 rfl ?_
      refine pr_aload_n (pc := 3) C dX3_openOffer_3 rfl ?_
      refine pr_getl (pc := 4) C 162 0 wf_X3_22 rfl rfl rfl (pl_4 _) dX3_openOffer_4 ?_
      refine pr_vP (pc := 7) C (c_szT G _ K Sm S5 N O T D e z hs) wv_X3_147 rfl rfl (by decide) (by decide) (pl_0 (by decide)) (Nat.le_of_ble_eq_true rfl) (by omega) (by omega) dX3_openOffer_7 ?_
      refine pr_icmp_geN (pc := 10) C 92 k1 T dX3_openOffer_10 (by decide) rfl rfl (by omega) (by omega) (fun c_10 => ?_) (fun c_10 => ?_)
      · obtain rfl : T = k1 := by omega
        refine pr_aload_n (pc := 92) C dX3_openOffer_92 rfl ?_
        refine pr_iconst (pc := 93) (v := 1) C dX3_openOffer_93 (by decide) ?_
        refine pr_putb (pc := 94) C 130 wp_X3_182 rfl (by decide) rfl (by decide) (by decide) (pl_3 (sj_n0 hs (by first | assumption | omega))) dX3_openOffer_94 ?_
        refine pr_sim (sj_w130 hs) ?_
        intro K N hs
        exact pr_vret (pc := 97) C E (by omega) (by omega) ⟨rfl, K, N, rfl, sj_eq (by rw [eS_k1]) hs⟩ dX3_openOffer_97
      · have hkT : k1 < T := by omega
        obtain ⟨wk, ak, hck⟩ := sc_tw hM hJ hkT
        have hwk4 := hck.2.1
        have e218 : S5 218 k1 = nI wk := by rw [eS_k1]; exact (ms_ofc_fr (by decide)).trans hck.1
        have e218t : S5 218 t = nI w := by rw [eS_k1]; exact (ms_ofc_fr (by decide)).trans hw
        refine pr_aload_n (pc := 13) C dX3_openOffer_13 rfl ?_
        refine pr_getl (pc := 14) C 162 0 wf_X3_22 rfl rfl rfl (pl_4 _) dX3_openOffer_14 ?_
        refine pr_iload_n (pc := 17) C dX3_openOffer_17 rfl ?_
        refine pr_vP (pc := 18) C (c_gtT G _ K Sm S5 N O T D e z hs k1 (by first | assumption | omega)) wv_X3_197 rfl rfl (by decide) (by decide) (pl_0 (by decide)) (Nat.le_of_ble_eq_true rfl) (by omega) (by omega) dX3_openOffer_18 ?_
        refine pr_cast (pc := 21) C (k := 3) (r := (RX2, TX2, 13)) ⟨by decide, by decide⟩ rfl (pa_wi (by decide +kernel) rfl) (pl_3 (sj_n0 hs (by first | assumption | omega))) dX3_openOffer_21 ?_
        refine pr_astore_n (pc := 24) C dX3_openOffer_24 (by decide) ?_
        refine pr_aload_n (pc := 25) C dX3_openOffer_25 rfl ?_
        refine pr_gets (pc := 26) C 120 wf_X3_105 rfl rfl (pl_3 (sj_n0 hs (by first | assumption | omega))) wk ((sj_r120 hs (by first | assumption | omega)).trans e218) (by first | assumption | omega) dX3_openOffer_26 ?_
        refine pr_aload_n (pc := 29) C dX3_openOffer_29 rfl ?_
        refine pr_gets (pc := 30) C 120 wf_X3_105 rfl rfl (pl_3 (sj_n0 hs (by first | assumption | omega))) w ((sj_r120 hs (by first | assumption | omega)).trans e218t) (by first | assumption | omega) dX3_openOffer_30 ?_
        refine pr_acmp_ne (pc := 33) C 51 dX3_openOffer_33 (by decide) (pl_1 (by first | assumption | omega)) (pl_1 (by first | assumption | omega)) (fun c_33 => ?_) (fun c_33 => ?_)
        · simp only [Prod.mk.injEq, true_and, ne_eq] at c_33
          refine pr_iconst (pc := 51) (v := 0) C dX3_openOffer_51 (by decide) ?_
          refine pr_istore (pc := 52) C dX3_openOffer_52 (by decide) ?_
          refine pr_iload (pc := 54) C dX3_openOffer_54 rfl ?_
          refine pr_if_ne (pc := 56) C 81 dX3_openOffer_56 (by decide) (fun c_56 => absurd c_56 (by decide)) (fun _ => ?_)
          refine pr_aload_n (pc := 59) C dX3_openOffer_59 rfl ?_
          refine pr_aload_n (pc := 60) C dX3_openOffer_60 rfl ?_
          refine pr_gets (pc := 61) C 120 wf_X3_105 rfl rfl (pl_3 (sj_n0 hs (by first | assumption | omega))) w ((sj_r120 hs (by first | assumption | omega)).trans e218t) (by first | assumption | omega) dX3_openOffer_61 ?_
          refine pr_vP (pc := 64) C (c_X2_isTo G _ K Sm S5 N O T D e z hs k1 w (by first | assumption | omega) (by first | assumption | omega)) wv_X3_286 rfl rfl (by decide) (by decide) (pl_3 (sj_n0 hs (by first | assumption | omega))) (Nat.le_of_ble_eq_true rfl) (by omega) (by omega) dX3_openOffer_64 ?_
          refine pr_ifb_eq (pc := 67) C 86 dX3_openOffer_67 (by decide) (fun c_67 => ?_) (fun c_67 => ?_)
          · refine pr_iincN (pc := 86) C dX3_openOffer_86 rfl k1 1 rfl rfl (by decide) ?_
            refine pr_goto (pc := 89) C 2 dX3_openOffer_89 (by decide) ?_
            refine pr_lo (lo' := [some (pv_o 4 0), some (pv_o 3 t), some (pv_i (nI (k1 + 1))), none, none]) (show pa_lle [some (pv_o 4 0), some (pv_o 3 t), some (pv_i (nI (k1 + 1))), none, none] [some (pv_o 4 0), some (pv_o 3 t), some (pv_i (nI (k1 + 1))), some (pv_o 3 k1), some (pv_i (0 : Int32))] by simp [pa_lle]) ?_
            exact ih4 (k1 + 1) S5 K N (by omega) (by omega) (by rw [pz_it_s, ← eS_k1]; exact (if_neg (fun zz => by rw [e218] at zz; rcases zz with ⟨z1, z2⟩ | ⟨z1, z2⟩ <;> first | exact absurd ((nI_eq (by omega) (by omega)).mp z1) c_33 | exact absurd z2 c_44 | exact absurd (c_67.symm.trans z1) Bool.false_ne_true | exact absurd (c_78.symm.trans z2) Bool.false_ne_true)).symm) hs
          · refine pr_aload_n (pc := 70) C dX3_openOffer_70 rfl ?_
            refine pr_aload_n (pc := 71) C dX3_openOffer_71 rfl ?_
            refine pr_gets (pc := 72) C 120 wf_X3_105 rfl rfl (pl_3 (sj_n0 hs (by first | assumption | omega))) wk ((sj_r120 hs (by first | assumption | omega)).trans e218) (by first | assumption | omega) dX3_openOffer_72 ?_
            refine pr_vP (pc := 75) C (c_X2_isTo G _ K Sm S5 N O T D e z hs t wk (by first | assumption | omega) (by first | assumption | omega)) wv_X3_286 rfl rfl (by decide) (by decide) (pl_3 (sj_n0 hs (by first | assumption | omega))) (Nat.le_of_ble_eq_true rfl) (by omega) (by omega) dX3_openOffer_75 ?_
            refine pr_ifb_eq (pc := 78) C 86 dX3_openOffer_78 (by decide) (fun c_78 => ?_) (fun c_78 => ?_)
            · refine pr_iincN (pc := 86) C dX3_openOffer_86 rfl k1 1 rfl rfl (by decide) ?_
              refine pr_goto (pc := 89) C 2 dX3_openOffer_89 (by decide) ?_
              refine pr_lo (lo' := [some (pv_o 4 0), some (pv_o 3 t), some (pv_i (nI (k1 + 1))), none, none]) (show pa_lle [some (pv_o 4 0), some (pv_o 3 t), some (pv_i (nI (k1 + 1))), none, none] [some (pv_o 4 0), some (pv_o 3 t), some (pv_i (nI (k1 + 1))), some (pv_o 3 k1), some (pv_i (0 : Int32))] by simp [pa_lle]) ?_
              exact ih4 (k1 + 1) S5 K N (by omega) (by omega) (by rw [pz_it_s, ← eS_k1]; exact (if_neg (fun zz => by rw [e218] at zz; rcases zz with ⟨z1, z2⟩ | ⟨z1, z2⟩ <;> first | exact absurd ((nI_eq (by omega) (by omega)).mp z1) c_33 | exact absurd z2 c_44 | exact absurd (c_67.symm.trans z1) Bool.false_ne_true | exact absurd (c_78.symm.trans z2) Bool.false_ne_true)).symm) hs
            · refine pr_aload_n (pc := 81) C dX3_openOffer_81 rfl ?_
              refine pr_iconst (pc := 82) (v := 0) C dX3_openOffer_82 (by decide) ?_
              refine pr_putb (pc := 83) C 130 wp_X3_182 rfl (by decide) rfl (by decide) (by decide) (pl_3 (sj_n0 hs (by first | assumption | omega))) dX3_openOffer_83 ?_
              refine pr_sim (sj_w130 hs) ?_
              intro K N hs
              refine pr_iincN (pc := 86) C dX3_openOffer_86 rfl k1 1 rfl rfl (by decide) ?_
              refine pr_goto (pc := 89) C 2 dX3_openOffer_89 (by decide) ?_
              refine pr_lo (lo' := [some (pv_o 4 0), some (pv_o 3 t), some (pv_i (nI (k1 + 1))), none, none]) (show pa_lle [some (pv_o 4 0), some (pv_o 3 t), some (pv_i (nI (k1 + 1))), none, none] [some (pv_o 4 0), some (pv_o 3 t), some (pv_i (nI (k1 + 1))), some (pv_o 3 k1), some (pv_i (0 : Int32))] by simp [pa_lle]) ?_
              exact ih4 (k1 + 1) (pa_us S5 227 k1 (0 : Int32)) K N (by omega) (by omega) (by rw [pz_it_s, ← eS_k1]; exact (if_pos (Or.inr ⟨c_67, by rw [e218]; exact c_78⟩)).symm) hs
        · simp only [Prod.mk.injEq, true_and, ne_eq] at c_33
          refine pr_aload_n (pc := 36) C dX3_openOffer_36 rfl ?_
          refine pr_vP (pc := 37) C (c_X2_listener G _ K Sm S5 N O T D e z hs k1 (by first | assumption | omega)) wv_X3_224 rfl rfl (by decide) (by decide) (pl_3 (sj_n0 hs (by first | assumption | omega))) (Nat.le_of_ble_eq_true rfl) (by omega) (by omega) dX3_openOffer_37 ?_
          refine pr_aload_n (pc := 40) C dX3_openOffer_40 rfl ?_
          refine pr_vP (pc := 41) C (c_X2_listener G _ K Sm S5 N O T D e z hs t (by first | assumption | omega)) wv_X3_224 rfl rfl (by decide) (by decide) (pl_3 (sj_n0 hs (by first | assumption | omega))) (Nat.le_of_ble_eq_true rfl) (by omega) (by omega) dX3_openOffer_41 ?_
          refine pr_icmp_ne (pc := 44) C 51 dX3_openOffer_44 (by decide) (fun c_44 => ?_) (fun c_44 => ?_)
          · refine pr_iconst (pc := 51) (v := 0) C dX3_openOffer_51 (by decide) ?_
            refine pr_istore (pc := 52) C dX3_openOffer_52 (by decide) ?_
            refine pr_iload (pc := 54) C dX3_openOffer_54 rfl ?_
            refine pr_if_ne (pc := 56) C 81 dX3_openOffer_56 (by decide) (fun c_56 => absurd c_56 (by decide)) (fun _ => ?_)
            refine pr_aload_n (pc := 59) C dX3_openOffer_59 rfl ?_
            refine pr_aload_n (pc := 60) C dX3_openOffer_60 rfl ?_
            refine pr_gets (pc := 61) C 120 wf_X3_105 rfl rfl (pl_3 (sj_n0 hs (by first | assumption | omega))) w ((sj_r120 hs (by first | assumption | omega)).trans e218t) (by first | assumption | omega) dX3_openOffer_61 ?_
            refine pr_vP (pc := 64) C (c_X2_isTo G _ K Sm S5 N O T D e z hs k1 w (by first | assumption | omega) (by first | assumption | omega)) wv_X3_286 rfl rfl (by decide) (by decide) (pl_3 (sj_n0 hs (by first | assumption | omega))) (Nat.le_of_ble_eq_true rfl) (by omega) (by omega) dX3_openOffer_64 ?_
            refine pr_ifb_eq (pc := 67) C 86 dX3_openOffer_67 (by decide) (fun c_67 => ?_) (fun c_67 => ?_)
            · refine pr_iincN (pc := 86) C dX3_openOffer_86 rfl k1 1 rfl rfl (by decide) ?_
              refine pr_goto (pc := 89) C 2 dX3_openOffer_89 (by decide) ?_
              refine pr_lo (lo' := [some (pv_o 4 0), some (pv_o 3 t), some (pv_i (nI (k1 + 1))), none, none]) (show pa_lle [some (pv_o 4 0), some (pv_o 3 t), some (pv_i (nI (k1 + 1))), none, none] [some (pv_o 4 0), some (pv_o 3 t), some (pv_i (nI (k1 + 1))), some (pv_o 3 k1), some (pv_i (0 : Int32))] by simp [pa_lle]) ?_
              exact ih4 (k1 + 1) S5 K N (by omega) (by omega) (by rw [pz_it_s, ← eS_k1]; exact (if_neg (fun zz => by rw [e218] at zz; rcases zz with ⟨z1, z2⟩ | ⟨z1, z2⟩ <;> first | exact absurd ((nI_eq (by omega) (by omega)).mp z1) c_33 | exact absurd z2 c_44 | exact absurd (c_67.symm.trans z1) Bool.false_ne_true | exact absurd (c_78.symm.trans z2) Bool.false_ne_true)).symm) hs
            · refine pr_aload_n (pc := 70) C dX3_openOffer_70 rfl ?_
              refine pr_aload_n (pc := 71) C dX3_openOffer_71 rfl ?_
              refine pr_gets (pc := 72) C 120 wf_X3_105 rfl rfl (pl_3 (sj_n0 hs (by first | assumption | omega))) wk ((sj_r120 hs (by first | assumption | omega)).trans e218) (by first | assumption | omega) dX3_openOffer_72 ?_
              refine pr_vP (pc := 75) C (c_X2_isTo G _ K Sm S5 N O T D e z hs t wk (by first | assumption | omega) (by first | assumption | omega)) wv_X3_286 rfl rfl (by decide) (by decide) (pl_3 (sj_n0 hs (by first | assumption | omega))) (Nat.le_of_ble_eq_true rfl) (by omega) (by omega) dX3_openOffer_75 ?_
              refine pr_ifb_eq (pc := 78) C 86 dX3_openOffer_78 (by decide) (fun c_78 => ?_) (fun c_78 => ?_)
              · refine pr_iincN (pc := 86) C dX3_openOffer_86 rfl k1 1 rfl rfl (by decide) ?_
                refine pr_goto (pc := 89) C 2 dX3_openOffer_89 (by decide) ?_
                refine pr_lo (lo' := [some (pv_o 4 0), some (pv_o 3 t), some (pv_i (nI (k1 + 1))), none, none]) (show pa_lle [some (pv_o 4 0), some (pv_o 3 t), some (pv_i (nI (k1 + 1))), none, none] [some (pv_o 4 0), some (pv_o 3 t), some (pv_i (nI (k1 + 1))), some (pv_o 3 k1), some (pv_i (0 : Int32))] by simp [pa_lle]) ?_
                exact ih4 (k1 + 1) S5 K N (by omega) (by omega) (by rw [pz_it_s, ← eS_k1]; exact (if_neg (fun zz => by rw [e218] at zz; rcases zz with ⟨z1, z2⟩ | ⟨z1, z2⟩ <;> first | exact absurd ((nI_eq (by omega) (by omega)).mp z1) c_33 | exact absurd z2 c_44 | exact absurd (c_67.symm.trans z1) Bool.false_ne_true | exact absurd (c_78.symm.trans z2) Bool.false_ne_true)).symm) hs
              · refine pr_aload_n (pc := 81) C dX3_openOffer_81 rfl ?_
                refine pr_iconst (pc := 82) (v := 0) C dX3_openOffer_82 (by decide) ?_
                refine pr_putb (pc := 83) C 130 wp_X3_182 rfl (by decide) rfl (by decide) (by decide) (pl_3 (sj_n0 hs (by first | assumption | omega))) dX3_openOffer_83 ?_
                refine pr_sim (sj_w130 hs) ?_
                intro K N hs
                refine pr_iincN (pc := 86) C dX3_openOffer_86 rfl k1 1 rfl rfl (by decide) ?_
                refine pr_goto (pc := 89) C 2 dX3_openOffer_89 (by decide) ?_
                refine pr_lo (lo' := [some (pv_o 4 0), some (pv_o 3 t), some (pv_i (nI (k1 + 1))), none, none]) (show pa_lle [some (pv_o 4 0), some (pv_o 3 t), some (pv_i (nI (k1 + 1))), none, none] [some (pv_o 4 0), some (pv_o 3 t), some (pv_i (nI (k1 + 1))), some (pv_o 3 k1), some (pv_i (0 : Int32))] by simp [pa_lle]) ?_
                exact ih4 (k1 + 1) (pa_us S5 227 k1 (0 : Int32)) K N (by omega) (by omega) (by rw [pz_it_s, ← eS_k1]; exact (if_pos (Or.inr ⟨c_67, by rw [e218]; exact c_78⟩)).symm) hs
          · refine pr_iconst (pc := 47) (v := 1) C dX3_openOffer_47 (by decide) ?_
            refine pr_goto (pc := 48) C 52 dX3_openOffer_48 (by decide) ?_
            refine pr_istore (pc := 52) C dX3_openOffer_52 (by decide) ?_
            refine pr_iload (pc := 54) C dX3_openOffer_54 rfl ?_
            refine pr_if_ne (pc := 56) C 81 dX3_openOffer_56 (by decide) (fun _ => ?_) (fun c_56 => absurd c_56 (by decide))
            refine pr_aload_n (pc := 81) C dX3_openOffer_81 rfl ?_
            refine pr_iconst (pc := 82) (v := 0) C dX3_openOffer_82 (by decide) ?_
            refine pr_putb (pc := 83) C 130 wp_X3_182 rfl (by decide) rfl (by decide) (by decide) (pl_3 (sj_n0 hs (by first | assumption | omega))) dX3_openOffer_83 ?_
            refine pr_sim (sj_w130 hs) ?_
            intro K N hs
            refine pr_iincN (pc := 86) C dX3_openOffer_86 rfl k1 1 rfl rfl (by decide) ?_
            refine pr_goto (pc := 89) C 2 dX3_openOffer_89 (by decide) ?_
            refine pr_lo (lo' := [some (pv_o 4 0), some (pv_o 3 t), some (pv_i (nI (k1 + 1))), none, none]) (show pa_lle [some (pv_o 4 0), some (pv_o 3 t), some (pv_i (nI (k1 + 1))), none, none] [some (pv_o 4 0), some (pv_o 3 t), some (pv_i (nI (k1 + 1))), some (pv_o 3 k1), some (pv_i (1 : Int32))] by simp [pa_lle]) ?_
            exact ih4 (k1 + 1) (pa_us S5 227 k1 (0 : Int32)) K N (by omega) (by omega) (by rw [pz_it_s, ← eS_k1]; exact (if_pos (Or.inl ⟨by rw [e218, c_33], c_44⟩)).symm) hs
  exact lp2 (T + 1) 0 _ K N (by omega) (by omega) (pz_it_z _ _) hs

