/-! THE CLASS: what the acts do -/
set_option maxRecDepth 100000 in
set_option maxHeartbeats 4000000 in
theorem c_X3_deliver (G : pa_G) (l : Launch) (K : Nat → Nat → Nat → Int32) (Sm S : Nat → Nat → Int32) (N : Nat → Nat) (O : Nat → Int64) (T D e : Nat) (z : sj_Z) (hs : sj_M K N T D z e S) (t : Nat) (hJv : mj_v S) (ht : t < D) : pa_M G l mX3_deliver 4 false [pv_o 4 0, pv_o 3 t] (K, Sm, N, O) 0 0 (sj_post none Sm O T D z e (ms_dlv S t)) := by
  refine pa_go l (by decide) (by simp [pa_c1l, pa_c1]) (fun _ => rfl) fun x C E el ea => ?_
  subst el
  show pa_w G x 4 (K, Sm, N, O) 0 0 0 [some (pv_o 4 0), some (pv_o 3 t), none, none] []
  refine pr_iconst (pc := 0) (v := 0) C dX3_deliver_0 (by decide) ?_
  refine pr_istore_n (pc := 1) C dX3_deliver_1 (by decide) ?_
  have lp2 : ∀ (n3 k1 : Nat) (S5 : Nat → Nat → Int32) (K : Nat → Nat → Nat → Int32) (N : Nat → Nat), k1 ≤ 4 → 4 < k1 + n3 → S5 = pz_it (ms_dls t) k1 S → sj_M K N T D z e S5 → pa_w G x 4 (K, Sm, N, O) 0 0 2 [some (pv_o 4 0), some (pv_o 3 t), some (pv_i (nI k1)), none] [] := by
    intro n3
    induction n3 with
    | zero => intro k1 S5 K N h1 h2; exact absurd h2 (by omega)
    | succ n3 ih4 =>
      intro k1 S5 K N hk1_k1 hk2_k1 eS_k1 hs
      have hx : mj_v S5 := by rw [eS_k1]; exact pz_it_inv (f := ms_dls t) (fun s k => mj_v_dls) _ S hJv
      refine pr_iload_n (pc := 2) C dX3_deliver_2 rfl ?_
      refine pr_iconst (pc := 3) (v := 4) C dX3_deliver_3 (by decide) ?_
      refine pr_icmp_geN (pc := 4) C 85 k1 4 dX3_deliver_4 (by decide) rfl rfl (by omega) (by omega) (fun c_4 => ?_) (fun c_4 => ?_)
      · obtain rfl : 4 = k1 := by omega
        exact pr_vret (pc := 85) C E (by omega) (by omega) ⟨rfl, K, N, rfl, sj_eq eS_k1 hs⟩ dX3_deliver_85
      · refine pr_aload_n (pc := 7) C dX3_deliver_7 rfl ?_
        refine pr_geta (pc := 8) C 160 260 wf_X3_11 rfl rfl (by decide) (pl_4 _) dX3_deliver_8 ?_
        refine pr_iload_n (pc := 11) C dX3_deliver_11 rfl ?_
        refine pr_alds (pc := 12) (n := 4) C 160 k1 rfl rfl rfl (pl_r4 (by decide)) rfl (by omega) (by decide) dX3_deliver_12 ?_
        refine pr_astore_n (pc := 13) C dX3_deliver_13 (by decide) ?_
        refine pr_aload_n (pc := 14) C dX3_deliver_14 rfl ?_
        refine pr_aload_n (pc := 15) C dX3_deliver_15 rfl ?_
        refine pr_vP (pc := 16) C (c_X2_isTo G _ K Sm S5 N O T D e z hs t k1 (by first | assumption | omega) (by first | assumption | omega)) wv_X3_286 rfl rfl (by decide) (by decide) (pl_3 (sj_n0 hs (by first | assumption | omega))) (Nat.le_of_ble_eq_true rfl) (by omega) (by omega) dX3_deliver_16 ?_
        refine pr_ifb_eq (pc := 19) C 79 dX3_deliver_19 (by decide) (fun c_19 => ?_) (fun c_19 => ?_)
        · refine pr_iincN (pc := 79) C dX3_deliver_79 rfl k1 1 rfl rfl (by decide) ?_
          refine pr_goto (pc := 82) C 2 dX3_deliver_82 (by decide) ?_
          refine pr_lo (lo' := [some (pv_o 4 0), some (pv_o 3 t), some (pv_i (nI (k1 + 1))), none]) (show pa_lle [some (pv_o 4 0), some (pv_o 3 t), some (pv_i (nI (k1 + 1))), none] [some (pv_o 4 0), some (pv_o 3 t), some (pv_i (nI (k1 + 1))), some (pv_o 1 k1)] by simp [pa_lle]) ?_
          exact ih4 (k1 + 1) S5 K N (by omega) (by omega) (by rw [pz_it_s, ← eS_k1]; exact (if_neg (by rw [c_19]; simp)).symm) hs
        · refine pr_aload_n (pc := 22) C dX3_deliver_22 rfl ?_
          refine pr_geta (pc := 23) C 131 231 wf_X3_187 rfl rfl (by decide) (pl_3 (sj_n0 hs (by first | assumption | omega))) dX3_deliver_23 ?_
          refine pr_iload_n (pc := 26) C dX3_deliver_26 rfl ?_
          refine pr_aldi (pc := 27) (n := 4) C 131 k1 rfl rfl rfl (pl_r3 (by decide) (sj_n0 hs (by first | assumption | omega))) rfl (by omega) (by decide) dX3_deliver_27 ?_
          refine pr_eqi (v := S5 228 (4 * t + k1)) (sj_r131 hs (by first | assumption | omega) (by omega)) ?_
          refine pr_if_eq (pc := 28) C 41 dX3_deliver_28 (by decide) (fun c_28 => ?_) (fun c_28 => ?_)
          · refine pr_aload_n (pc := 41) C dX3_deliver_41 rfl ?_
            refine pr_geta (pc := 42) C 131 231 wf_X3_187 rfl rfl (by decide) (pl_3 (sj_n0 hs (by first | assumption | omega))) dX3_deliver_42 ?_
            refine pr_iload_n (pc := 45) C dX3_deliver_45 rfl ?_
            refine pr_aload_n (pc := 46) C dX3_deliver_46 rfl ?_
            refine pr_aload_n (pc := 47) C dX3_deliver_47 rfl ?_
            refine pr_aload_n (pc := 48) C dX3_deliver_48 rfl ?_
            refine pr_vP (pc := 49) C (c_X3_reachOf G _ K Sm S5 N O T D e z hs t k1 (by first | assumption | omega) (by first | assumption | omega)) wv_X3_379 rfl rfl (by decide) (by decide) (pl_4 _) (Nat.le_of_ble_eq_true rfl) (by omega) (by omega) dX3_deliver_49 ?_
            refine pr_asti (pc := 52) (n := 4) C 131 k1 rfl (by decide) rfl rfl (pl_r3 (by decide) (sj_n0 hs (by first | assumption | omega))) rfl (by omega) (by decide) dX3_deliver_52 ?_
            refine pr_sim (sj_w131 hs (by omega)) ?_
            intro K N hs
            refine pr_aload_n (pc := 53) C dX3_deliver_53 rfl ?_
            refine pr_geta (pc := 54) C 132 232 wf_X3_383 rfl rfl (by decide) (pl_3 (sj_n0 hs (by first | assumption | omega))) dX3_deliver_54 ?_
            refine pr_iload_n (pc := 57) C dX3_deliver_57 rfl ?_
            refine pr_aload_n (pc := 58) C dX3_deliver_58 rfl ?_
            refine pr_geti (pc := 59) C 166 wf_X3_76 rfl (by decide) (pl_4 _) dX3_deliver_59 ?_
            refine pr_eqi (v := S5 200 0) ((sj_r166 hs).trans rfl) ?_
            refine pr_aload_n (pc := 62) C dX3_deliver_62 rfl ?_
            refine pr_geta (pc := 63) C 131 231 wf_X3_187 rfl rfl (by decide) (pl_3 (sj_n0 hs (by first | assumption | omega))) dX3_deliver_63 ?_
            refine pr_iload_n (pc := 66) C dX3_deliver_66 rfl ?_
            refine pr_aldi (pc := 67) (n := 4) C 131 k1 rfl rfl rfl (pl_r3 (by decide) (sj_n0 hs (by first | assumption | omega))) rfl (by omega) (by decide) dX3_deliver_67 ?_
            refine pr_eqi (v := (ms_dlh S5 t k1)) ((sj_r131 hs (by first | assumption | omega) (by omega)).trans (pa_us_self _ _ _ _)) ?_
            refine pr_iconst (pc := 68) (v := 2) C dX3_deliver_68 (by decide) ?_
            refine pr_icmp_ne (pc := 69) C 76 dX3_deliver_69 (by decide) (fun c_69 => ?_) (fun c_69 => ?_)
            · refine pr_iconst (pc := 76) (v := 0) C dX3_deliver_76 (by decide) ?_
              refine pr_iadd (pc := 77) C dX3_deliver_77 ?_
              refine pr_asti (pc := 78) (n := 4) C 132 k1 rfl (by decide) rfl rfl (pl_r3 (by decide) (sj_n0 hs (by first | assumption | omega))) rfl (by omega) (by decide) dX3_deliver_78 ?_
              refine pr_sim (sj_w132 hs (by omega)) ?_
              intro K N hs
              refine pr_iincN (pc := 79) C dX3_deliver_79 rfl k1 1 rfl rfl (by decide) ?_
              refine pr_goto (pc := 82) C 2 dX3_deliver_82 (by decide) ?_
              refine pr_lo (lo' := [some (pv_o 4 0), some (pv_o 3 t), some (pv_i (nI (k1 + 1))), none]) (show pa_lle [some (pv_o 4 0), some (pv_o 3 t), some (pv_i (nI (k1 + 1))), none] [some (pv_o 4 0), some (pv_o 3 t), some (pv_i (nI (k1 + 1))), some (pv_o 1 k1)] by simp [pa_lle]) ?_
              exact ih4 (k1 + 1) (pa_us (pa_us S5 228 (4 * t + k1) (ms_dlh S5 t k1)) 229 (4 * t + k1) ((S5 200 0) + (0 : Int32))) K N (by omega) (by omega) (by rw [pz_it_s, ← eS_k1]; unfold ms_dls; rw [if_pos (by rw [c_19, Bool.true_and]; exact decide_eq_true (mj_v1 (Or.inl c_28))), if_neg c_69, Int32.add_zero]) hs
            · refine pr_iconst (pc := 72) (v := 2) C dX3_deliver_72 (by decide) ?_
              refine pr_goto (pc := 73) C 77 dX3_deliver_73 (by decide) ?_
              refine pr_iadd (pc := 77) C dX3_deliver_77 ?_
              refine pr_asti (pc := 78) (n := 4) C 132 k1 rfl (by decide) rfl rfl (pl_r3 (by decide) (sj_n0 hs (by first | assumption | omega))) rfl (by omega) (by decide) dX3_deliver_78 ?_
              refine pr_sim (sj_w132 hs (by omega)) ?_
              intro K N hs
              refine pr_iincN (pc := 79) C dX3_deliver_79 rfl k1 1 rfl rfl (by decide) ?_
              refine pr_goto (pc := 82) C 2 dX3_deliver_82 (by decide) ?_
              refine pr_lo (lo' := [some (pv_o 4 0), some (pv_o 3 t), some (pv_i (nI (k1 + 1))), none]) (show pa_lle [some (pv_o 4 0), some (pv_o 3 t), some (pv_i (nI (k1 + 1))), none] [some (pv_o 4 0), some (pv_o 3 t), some (pv_i (nI (k1 + 1))), some (pv_o 1 k1)] by simp [pa_lle]) ?_
              exact ih4 (k1 + 1) (pa_us (pa_us S5 228 (4 * t + k1) (ms_dlh S5 t k1)) 229 (4 * t + k1) ((S5 200 0) + (2 : Int32))) K N (by omega) (by omega) (by rw [pz_it_s, ← eS_k1]; unfold ms_dls; rw [if_pos (by rw [c_19, Bool.true_and]; exact decide_eq_true (mj_v1 (Or.inl c_28))), if_pos c_69]) hs
          · refine pr_aload_n (pc := 31) C dX3_deliver_31 rfl ?_
            refine pr_geta (pc := 32) C 131 231 wf_X3_187 rfl rfl (by decide) (pl_3 (sj_n0 hs (by first | assumption | omega))) dX3_deliver_32 ?_
            refine pr_iload_n (pc := 35) C dX3_deliver_35 rfl ?_
            refine pr_aldi (pc := 36) (n := 4) C 131 k1 rfl rfl rfl (pl_r3 (by decide) (sj_n0 hs (by first | assumption | omega))) rfl (by omega) (by decide) dX3_deliver_36 ?_
            refine pr_eqi (v := S5 228 (4 * t + k1)) (sj_r131 hs (by first | assumption | omega) (by omega)) ?_
            refine pr_iconst (pc := 37) (v := 1) C dX3_deliver_37 (by decide) ?_
            refine pr_icmp_ne (pc := 38) C 79 dX3_deliver_38 (by decide) (fun c_38 => ?_) (fun c_38 => ?_)
            · refine pr_iincN (pc := 79) C dX3_deliver_79 rfl k1 1 rfl rfl (by decide) ?_
              refine pr_goto (pc := 82) C 2 dX3_deliver_82 (by decide) ?_
              refine pr_lo (lo' := [some (pv_o 4 0), some (pv_o 3 t), some (pv_i (nI (k1 + 1))), none]) (show pa_lle [some (pv_o 4 0), some (pv_o 3 t), some (pv_i (nI (k1 + 1))), none] [some (pv_o 4 0), some (pv_o 3 t), some (pv_i (nI (k1 + 1))), some (pv_o 1 k1)] by simp [pa_lle]) ?_
              exact ih4 (k1 + 1) S5 K N (by omega) (by omega) (by rw [pz_it_s, ← eS_k1]; exact (if_neg (by rw [c_19, decide_eq_false (not_not_intro (mj_v2 hx c_28 c_38))]; decide)).symm) hs
            · refine pr_aload_n (pc := 41) C dX3_deliver_41 rfl ?_
              refine pr_geta (pc := 42) C 131 231 wf_X3_187 rfl rfl (by decide) (pl_3 (sj_n0 hs (by first | assumption | omega))) dX3_deliver_42 ?_
              refine pr_iload_n (pc := 45) C dX3_deliver_45 rfl ?_
              refine pr_aload_n (pc := 46) C dX3_deliver_46 rfl ?_
              refine pr_aload_n (pc := 47) C dX3_deliver_47 rfl ?_
              refine pr_aload_n (pc := 48) C dX3_deliver_48 rfl ?_
              refine pr_vP (pc := 49) C (c_X3_reachOf G _ K Sm S5 N O T D e z hs t k1 (by first | assumption | omega) (by first | assumption | omega)) wv_X3_379 rfl rfl (by decide) (by decide) (pl_4 _) (Nat.le_of_ble_eq_true rfl) (by omega) (by omega) dX3_deliver_49 ?_
              refine pr_asti (pc := 52) (n := 4) C 131 k1 rfl (by decide) rfl rfl (pl_r3 (by decide) (sj_n0 hs (by first | assumption | omega))) rfl (by omega) (by decide) dX3_deliver_52 ?_
              refine pr_sim (sj_w131 hs (by omega)) ?_
              intro K N hs
              refine pr_aload_n (pc := 53) C dX3_deliver_53 rfl ?_
              refine pr_geta (pc := 54) C 132 232 wf_X3_383 rfl rfl (by decide) (pl_3 (sj_n0 hs (by first | assumption | omega))) dX3_deliver_54 ?_
              refine pr_iload_n (pc := 57) C dX3_deliver_57 rfl ?_
              refine pr_aload_n (pc := 58) C dX3_deliver_58 rfl ?_
              refine pr_geti (pc := 59) C 166 wf_X3_76 rfl (by decide) (pl_4 _) dX3_deliver_59 ?_
              refine pr_eqi (v := S5 200 0) ((sj_r166 hs).trans rfl) ?_
              refine pr_aload_n (pc := 62) C dX3_deliver_62 rfl ?_
              refine pr_geta (pc := 63) C 131 231 wf_X3_187 rfl rfl (by decide) (pl_3 (sj_n0 hs (by first | assumption | omega))) dX3_deliver_63 ?_
              refine pr_iload_n (pc := 66) C dX3_deliver_66 rfl ?_
              refine pr_aldi (pc := 67) (n := 4) C 131 k1 rfl rfl rfl (pl_r3 (by decide) (sj_n0 hs (by first | assumption | omega))) rfl (by omega) (by decide) dX3_deliver_67 ?_
              refine pr_eqi (v := (ms_dlh S5 t k1)) ((sj_r131 hs (by first | assumption | omega) (by omega)).trans (pa_us_self _ _ _ _)) ?_
              refine pr_iconst (pc := 68) (v := 2) C dX3_deliver_68 (by decide) ?_
              refine pr_icmp_ne (pc := 69) C 76 dX3_deliver_69 (by decide) (fun c_69 => ?_) (fun c_69 => ?_)
              · refine pr_iconst (pc := 76) (v := 0) C dX3_deliver_76 (by decide) ?_
                refine pr_iadd (pc := 77) C dX3_deliver_77 ?_
                refine pr_asti (pc := 78) (n := 4) C 132 k1 rfl (by decide) rfl rfl (pl_r3 (by decide) (sj_n0 hs (by first | assumption | omega))) rfl (by omega) (by decide) dX3_deliver_78 ?_
                refine pr_sim (sj_w132 hs (by omega)) ?_
                intro K N hs
                refine pr_iincN (pc := 79) C dX3_deliver_79 rfl k1 1 rfl rfl (by decide) ?_
                refine pr_goto (pc := 82) C 2 dX3_deliver_82 (by decide) ?_
                refine pr_lo (lo' := [some (pv_o 4 0), some (pv_o 3 t), some (pv_i (nI (k1 + 1))), none]) (show pa_lle [some (pv_o 4 0), some (pv_o 3 t), some (pv_i (nI (k1 + 1))), none] [some (pv_o 4 0), some (pv_o 3 t), some (pv_i (nI (k1 + 1))), some (pv_o 1 k1)] by simp [pa_lle]) ?_
                exact ih4 (k1 + 1) (pa_us (pa_us S5 228 (4 * t + k1) (ms_dlh S5 t k1)) 229 (4 * t + k1) ((S5 200 0) + (0 : Int32))) K N (by omega) (by omega) (by rw [pz_it_s, ← eS_k1]; unfold ms_dls; rw [if_pos (by rw [c_19, Bool.true_and]; exact decide_eq_true (mj_v1 (Or.inr c_38))), if_neg c_69, Int32.add_zero]) hs
              · refine pr_iconst (pc := 72) (v := 2) C dX3_deliver_72 (by decide) ?_
                refine pr_goto (pc := 73) C 77 dX3_deliver_73 (by decide) ?_
                refine pr_iadd (pc := 77) C dX3_deliver_77 ?_
                refine pr_asti (pc := 78) (n := 4) C 132 k1 rfl (by decide) rfl rfl (pl_r3 (by decide) (sj_n0 hs (by first | assumption | omega))) rfl (by omega) (by decide) dX3_deliver_78 ?_
                refine pr_sim (sj_w132 hs (by omega)) ?_
                intro K N hs
                refine pr_iincN (pc := 79) C dX3_deliver_79 rfl k1 1 rfl rfl (by decide) ?_
                refine pr_goto (pc := 82) C 2 dX3_deliver_82 (by decide) ?_
                refine pr_lo (lo' := [some (pv_o 4 0), some (pv_o 3 t), some (pv_i (nI (k1 + 1))), none]) (show pa_lle [some (pv_o 4 0), some (pv_o 3 t), some (pv_i (nI (k1 + 1))), none] [some (pv_o 4 0), some (pv_o 3 t), some (pv_i (nI (k1 + 1))), some (pv_o 1 k1)] by simp [pa_lle]) ?_
                exact ih4 (k1 + 1) (pa_us (pa_us S5 228 (4 * t + k1) (ms_dlh S5 t k1)) 229 (4 * t + k1) ((S5 200 0) + (2 : Int32))) K N (by omega) (by omega) (by rw [pz_it_s, ← eS_k1]; unfold ms_dls; rw [if_pos (by rw [c_19, Bool.true_and]; exact decide_eq_true (mj_v1 (Or.inr c_38))), if_pos c_69]) hs
  exact lp2 (4 + 1) 0 _ K N (by omega) (by omega) (pz_it_z _ _) hs

section BITS
variable {K K' : Nat → Nat → Nat → Int32} {N N' : Nat → Nat} {T D e e1 : Nat} {z : sj_Z} {S S' : Nat → Nat → Int32}
theorem sj_R_52 (h : sj_R K N T D z e S) (eK : ∀ f ∈ [40, 125, 163, 47, 128, 51, 53, 80, 81, 82], K' f = K f) (eS : ∀ f ∈ [208, 210, 211, 224, 225, 230, 231, 232, 233], S' f = S f) (h52 : ∀ i j, i < 4 → j < 10 → ∃ b, b < 1024 ∧ K' 52 i j = nI b ∧ ∀ a, a < 10 → b.testBit a = decide (S' 234 (10 * (10 * i + j) + a) ≠ 0)) : sj_R K' N T D z e S' := by
  have hf : ∀ i a, sj_fs K' i a = sj_fs K i a := fun i a => by
    funext v n
    unfold sj_fs
    rw [eK 80 (by decide), eK 81 (by decide), eK 82 (by decide)]
  obtain ⟨h0, h1, h2, h3, h4, h5, h6, -, h8, h9, h10⟩ := h
  unfold sj_R sj_nz sj_nh sj_nd at *
  rw [eK 40 (by decide), eK 125 (by decide), eK 163 (by decide), eK 47 (by decide), eK 128 (by decide), eK 51 (by decide), eK 53 (by decide), eS 208 (by decide), eS 210 (by decide), eS 211 (by decide), eS 224 (by decide), eS 225 (by decide), eS 231 (by decide), eS 232 (by decide), eS 233 (by decide)]
  exact ⟨h0, h1, h2, h3, h4, h5, h6, h52, h8, fun i a hi ha => by rw [hf]; exact h9 i a hi ha, h10⟩
theorem sj_set : ∀ p, p < 10 → ∀ c, c < 10 → (2 ^ p).testBit c = decide (c = p) := by decide +kernel
theorem sj_orlt {b p : Nat} (hb : b < 1024) (hp : p < 10) : b ||| 2 ^ p < 1024 := by
  have h2 : 2 ^ p < 2 ^ 10 := Nat.pow_lt_pow_right (by decide) hp
  exact Nat.or_lt_two_pow (n := 10) hb h2
theorem sj_w53s (hs : sj_M K N T D z e S) {i j p : Nat} (hi : i < 4) (hj : j < 4) (hp : p < 10) : sj_M (pa_up K 53 i j (K 53 i j ||| ((1 : Int32) <<< (nI p &&& 31)))) N T D z e (pa_us S 233 (40 * i + 10 * j + p) 1) := by
  obtain ⟨b, b1, b2, b3⟩ := sj_r53 hs hi hj
  rw [b2, sj_or b b1 p hp]
  refine ⟨sj_P_of hs.1 (fun q hq o j => pa_up_ne ?_) (fun q hq j => pa_us_ne ?_), sj_R_53 hs.2 (fun f hf => funext fun o => funext fun j => pa_up_ne ?_) (fun f hf => funext fun j => pa_us_ne ?_) (fun i' j' hi' hj' => ?_)⟩
  · have : ∀ q ∈ sj_T, q.1 ≠ 53 := by decide
    exact this q hq
  · have : ∀ q ∈ sj_T, q.2.1 ≠ 233 := by decide
    exact this q hq
  · have : ∀ f ∈ [40, 125, 163, 47, 128, 51, 52, 80, 81, 82], f ≠ 53 := by decide
    exact this f hf
  · have : ∀ f ∈ [208, 210, 211, 224, 225, 230, 231, 232, 234], f ≠ 233 := by decide
    exact this f hf
  · by_cases c : i' = i ∧ j' = j
    · obtain ⟨rfl, rfl⟩ := c
      refine ⟨b ||| 2 ^ p, sj_orlt b1 hp, pa_up_self _ _ _ _ _, fun c hc => ?_⟩
      rw [Nat.testBit_or, sj_set p hp c hc, b3 c hc]
      by_cases d : c = p
      · subst d
        rw [pa_us_self]
        simp
      · rw [pa_us_nj (by omega)]
        simp [d]
    · obtain ⟨b', c1, c2, c3⟩ := sj_r53 hs hi' hj'
      refine ⟨b', c1, ?_, fun c' hc' => ?_⟩
      · rw [← c2]
        unfold pa_up
        exact if_neg (fun z => c z.2)
      · rw [c3 c' hc', pa_us_nj (by omega)]
theorem sj_w52s (hs : sj_M K N T D z e S) {i j p : Nat} (hi : i < 4) (hj : j < 10) (hp : p < 10) : sj_M (pa_up K 52 i j (K 52 i j ||| ((1 : Int32) <<< (nI p &&& 31)))) N T D z e (pa_us S 234 (10 * (10 * i + j) + p) 1) := by
  obtain ⟨b, b1, b2, b3⟩ := sj_r52 hs hi hj
  rw [b2, sj_or b b1 p hp]
  refine ⟨sj_P_of hs.1 (fun q hq o j => pa_up_ne ?_) (fun q hq j => pa_us_ne ?_), sj_R_52 hs.2 (fun f hf => funext fun o => funext fun j => pa_up_ne ?_) (fun f hf => funext fun j => pa_us_ne ?_) (fun i' j' hi' hj' => ?_)⟩
  · have : ∀ q ∈ sj_T, q.1 ≠ 52 := by decide
    exact this q hq
  · have : ∀ q ∈ sj_T, q.2.1 ≠ 234 := by decide
    exact this q hq
  · have : ∀ f ∈ [40, 125, 163, 47, 128, 51, 53, 80, 81, 82], f ≠ 52 := by decide
    exact this f hf
  · have : ∀ f ∈ [208, 210, 211, 224, 225, 230, 231, 232, 233], f ≠ 234 := by decide
    exact this f hf
  · by_cases c : i' = i ∧ j' = j
    · obtain ⟨rfl, rfl⟩ := c
      refine ⟨b ||| 2 ^ p, sj_orlt b1 hp, pa_up_self _ _ _ _ _, fun c hc => ?_⟩
      rw [Nat.testBit_or, sj_set p hp c hc, b3 c hc]
      by_cases d : c = p
      · subst d
        rw [pa_us_self]
        simp
      · rw [pa_us_nj (by omega)]
        simp [d]
    · obtain ⟨b', c1, c2, c3⟩ := sj_r52 hs hi' hj'
      refine ⟨b', c1, ?_, fun c' hc' => ?_⟩
      · rw [← c2]
        unfold pa_up
        exact if_neg (fun z => c z.2)
      · rw [c3 c' hc', pa_us_nj (by omega)]
/-- the last question goes -/
theorem sj_popM (hs : sj_M K N T D z e S) {Q q0 : Nat} (hw : mw_Q S Q q0) (h0 : 0 < Q) : sj_M (lr_Kr K 1) (lr_N N 1 (Q - 1) (N 6)) T D z e (pa_us S 231 0 (nI (Q - 1))) := by
  have hNQ := sj_NQ hs hw
  obtain ⟨hP, ⟨n0, n2, nT, n8, n9, n14, nq, nq6, n25, n36, n47, b5, b6, b7⟩, a40, a125, a163, a47, a128, a51, a52, a53, ast, aphi⟩ := hs
  have eK : ∀ f, f ≠ 0 → ∀ o j, lr_Kr K 1 f o j = K f o j := fun f hf o j => pa_up_ne hf
  have eS : ∀ f, f ≠ 231 → ∀ j, pa_us S 231 0 (nI (Q - 1)) f j = S f j := fun f hf j => pa_us_ne hf
  have eN : ∀ k, k ≠ 3 → k ≠ 6 → lr_N N 1 (Q - 1) (N 6) k = N k := fun k h3 h6 => lr_No h3 h6
  have e3 : lr_N N 1 (Q - 1) (N 6) 3 = Q - 1 := lr_N2 (l := 1) (by decide)
  have e6 : lr_N N 1 (Q - 1) (N 6) 6 = N 6 := lr_N5 (l := 1)
  have hf : ∀ i a, sj_fs (lr_Kr K 1) i a = sj_fs K i a := fun i a => by
    funext v n
    unfold sj_fs
    rw [eK 80 (by decide), eK 81 (by decide), eK 82 (by decide)]
  refine ⟨sj_P_of hP (fun q hq o j => eK q.1 ?_ o j) (fun q hq j => eS q.2.1 ?_ j), ⟨by rw [eN 0 (by decide) (by decide)]; exact n0, by rw [eN 2 (by decide) (by decide)]; exact n2, nT, by rw [eN 8 (by decide) (by decide)]; exact n8, by rw [eN 9 (by decide) (by decide)]; exact n9, by rw [eN 1 (by decide) (by decide), eN 4 (by decide) (by decide)]; exact n14, by rw [e3, pa_us_self], by omega, by rw [eN 2 (by decide) (by decide), eN 5 (by decide) (by decide)]; exact n25, by omega, by rw [eN 4 (by decide) (by decide), eN 7 (by decide) (by decide)]; exact n47, by rw [eN 5 (by decide) (by decide)]; exact b5, by omega, by rw [eN 7 (by decide) (by decide)]; exact b7⟩, a40, a125, fun j hj => ?_, ?_, ?_, ?_, ?_, ?_, ?_, ?_⟩
  · have : ∀ q ∈ sj_T, q.1 ≠ 0 := by decide
    exact this q hq
  · have : ∀ q ∈ sj_T, q.2.1 ≠ 231 := by decide
    exact this q hq
  · rw [e3] at hj
    rw [eK 163 (by decide), eS 232 (by decide)]
    exact a163 j (by omega)
  · intro i hi
    rw [eK 47 (by decide)]
    exact a47 i hi
  · intro t ht
    rw [eK 128 (by decide), eS 224 (by decide)]
    exact a128 t ht
  · intro i j hi hj
    rw [eK 51 (by decide), eS 210 (by decide), eS 211 (by decide)]
    exact a51 i j hi hj
  · intro i j hi hj
    obtain ⟨b, c1, c2, c3⟩ := a52 i j hi hj
    exact ⟨b, c1, c2, fun r hr => by rw [eS 234 (by decide)]; exact c3 r hr⟩
  · intro i j hi hj
    obtain ⟨b, c1, c2, c3⟩ := a53 i j hi hj
    exact ⟨b, c1, c2, fun r hr => by rw [eS 233 (by decide)]; exact c3 r hr⟩
  · intro i j hi hj
    rw [eN 1 (by decide) (by decide), hf, eS 208 (by decide)]
    exact ast i j hi hj
  · unfold sj_nz sj_nh sj_nd at aphi ⊢
    rw [eN 1 (by decide) (by decide), show pa_us S 231 0 (nI (Q - 1)) 208 = S 208 from funext (eS 208 (by decide)), show pa_us S 231 0 (nI (Q - 1)) 210 = S 210 from funext (eS 210 (by decide)), show pa_us S 231 0 (nI (Q - 1)) 225 = S 225 from funext (eS 225 (by decide))]
    exact aphi
end BITS
theorem mj_q_com {S : Nat → Nat → Int32} {w p : Nat} {v t : Int32} : mj_q (ms_com S w p v t) := fun k hk hne => by
  unfold ms_com at hne ⊢
  generalize pa_us (pa_us S 208 (10 * w + p) v) 209 (10 * w + p) (if v = 0 then -1 else t) = S' at hne ⊢
  have e1 : ms_eq S' 233 k = pz_b (ms_qok S' k) := (ms_eq_at 160 k).trans (if_pos hk)
  rw [e1] at hne
  have hq := pz_bn.mp hne
  unfold ms_qok at hq
  rw [Bool.and_eq_true, Bool.and_eq_true, decide_eq_true_eq, decide_eq_true_eq, decide_eq_true_eq] at hq
  rw [ms_eq_ne (by decide), ms_eq_ne (by decide)]
  exact ⟨hq.1.2, hq.2⟩
theorem mj_q_says {S : Nat → Nat → Int32} {w p t : Nat} {v : Int32} : mj_q (ms_says S t w p v) := mj_q_of mj_q_com (fun j => pa_us_ne (by decide)) (fun j => pa_us_ne (by decide))
theorem ms_com_b {S : Nat → Nat → Int32} {w p k : Nat} {v t : Int32} (hk : k < 160) : ms_com S w p v t 233 k = 0 ∨ ms_com S w p v t 233 k = 1 := by
  have e1 : ∀ S', ms_eq S' 233 k = pz_b (ms_qok S' k) := fun S' => (ms_eq_at 160 k).trans (if_pos hk)
  show ms_eq _ 233 k = 0 ∨ ms_eq _ 233 k = 1
  rw [e1]
  exact pz_b01 _
set_option maxRecDepth 100000 in
set_option maxHeartbeats 4000000 in
theorem c_X3_closeTopQuestion0 (G : pa_G) (l : Launch) (K : Nat → Nat → Nat → Int32) (Sm S : Nat → Nat → Int32) (N : Nat → Nat) (O : Nat → Int64) (T D e : Nat) (z : sj_Z) (hs : sj_M K N T D z e S) (Q q0 : Nat) (hw : mw_Q S Q q0) (h0 : Q = 0) : pa_M G l mX3_closeTopQuestion 4 true [pv_o 4 0] (K, Sm, N, O) 0 0 (sj_post none Sm O T D z e S) := by
  refine pa_go l (by decide) (by simp [pa_c1l, pa_c1]) (fun _ => rfl) fun x C E el ea => ?_
  subst el
  show pa_w G x 1 (K, Sm, N, O) 0 0 0 [some (pv_o 4 0)] []
  refine pr_aload_n (pc := 0) C dX3_closeTopQuestion_0 rfl ?_
  refine pr_getl (pc := 1) C 163 1 wf_X3_26 rfl rfl rfl (pl_4 _) dX3_closeTopQuestion_1 ?_
  refine pr_vP (pc := 4) C (c_emQ G _ K Sm S N O T D e z hs Q q0 hw) wv_X3_256 rfl rfl (by decide) (by decide) (pl_0 (by decide)) (Nat.le_of_ble_eq_true rfl) (by omega) (by omega) dX3_closeTopQuestion_4 ?_
  refine pr_ifb_ne (pc := 7) C 27 dX3_closeTopQuestion_7 (by decide) (fun c_7 => ?_) (fun c_7 => ?_)
  · exact pr_vret (pc := 27) C E (by omega) (by omega) ⟨rfl, K, N, rfl, hs⟩ dX3_closeTopQuestion_27
  · exact absurd c_7 (by simp [h0])

set_option maxRecDepth 100000 in
set_option maxHeartbeats 4000000 in
theorem c_X3_closeTopQuestion1 (G : pa_G) (l : Launch) (K : Nat → Nat → Nat → Int32) (Sm S : Nat → Nat → Int32) (N : Nat → Nat) (O : Nat → Int64) (T D e : Nat) (z : sj_Z) (hs : sj_M K N T D z e S) (Q q0 : Nat) (hM : mw_L S T) (hw : mw_Q S Q q0) (h0 : 0 < Q) : pa_M G l mX3_closeTopQuestion 4 true [pv_o 4 0] (K, Sm, N, O) 0 0 (sj_post none Sm O T D z e (pa_us S 231 0 (nI (Q - 1)))) := by
  refine pa_go l (by decide) (by simp [pa_c1l, pa_c1]) (fun _ => rfl) fun x C E el ea => ?_
  subst el
  have hQ6 := hw.2.1
  show pa_w G x 1 (K, Sm, N, O) 0 0 0 [some (pv_o 4 0)] []
  refine pr_aload_n (pc := 0) C dX3_closeTopQuestion_0 rfl ?_
  refine pr_getl (pc := 1) C 163 1 wf_X3_26 rfl rfl rfl (pl_4 _) dX3_closeTopQuestion_1 ?_
  refine pr_vP (pc := 4) C (c_emQ G _ K Sm S N O T D e z hs Q q0 hw) wv_X3_256 rfl rfl (by decide) (by decide) (pl_0 (by decide)) (Nat.le_of_ble_eq_true rfl) (by omega) (by omega) dX3_closeTopQuestion_4 ?_
  refine pr_ifb_ne (pc := 7) C 27 dX3_closeTopQuestion_7 (by decide) (fun c_7 => ?_) (fun c_7 => ?_)
  · exact absurd c_7 (by simp; omega)
  · refine pr_aload_n (pc := 10) C dX3_closeTopQuestion_10 rfl ?_
    refine pr_getl (pc := 11) C 163 1 wf_X3_26 rfl rfl rfl (pl_4 _) dX3_closeTopQuestion_11 ?_
    refine pr_aload_n (pc := 14) C dX3_closeTopQuestion_14 rfl ?_
    refine pr_getl (pc := 15) C 163 1 wf_X3_26 rfl rfl rfl (pl_4 _) dX3_closeTopQuestion_15 ?_
    refine pr_vP (pc := 18) C (c_szQ G _ K Sm S N O T D e z hs) wv_X3_147 rfl rfl (by decide) (by decide) (pl_0 (by decide)) (Nat.le_of_ble_eq_true rfl) (by omega) (by omega) dX3_closeTopQuestion_18 ?_
    refine pr_eqi hw.1 ?_
    refine pr_iconst (pc := 21) (v := 1) C dX3_closeTopQuestion_21 (by decide) ?_
    refine pr_isubN (pc := 22) C dX3_closeTopQuestion_22 Q 1 rfl rfl (by omega) ?_
    have hNQ := sj_NQ hs hw
    have h6 := sj_c6 hs
    have hrm := c_lrem G x.2.1 (K, Sm, N, O) 1 (by decide) (show 0 < N 3 by omega) (show N 3 ≤ N 6 from h6.1) (show N 6 < 60000 by omega) (sj_els hs hM (fun _ => rfl) 1 (N 3 - 1) (by decide) (show N 3 - 1 < N 3 by omega))
    rw [show ((K, Sm, N, O) : pa_H).2.2.1 (2 + 1) = Q from hNQ] at hrm
    refine pr_callV0 (pc := 23) (mc' := 0) (ms' := 0) (al' := true) (y := mJx4a65c_remove_915e3) (rest := []) (As := [pv_i (nI (Q - 1))]) C hrm wv_X3_357 rfl (by decide) (by decide) (pl_0 (by decide)) (by decide) (by omega) (by omega) (fun zz => absurd (ea.symm.trans zz) (by decide)) (fun _ => ⟨trivial, ⟨⟨lr_kn (by decide), (pl_4 _)⟩, trivial⟩⟩) dX3_closeTopQuestion_23 (fun r h9 hp9 => ?_)
    obtain ⟨rfl, rfl⟩ := hp9
    refine pr_sim (sj_popM hs hw h0) ?_
    intro K N hs
    refine pr_pop (pc := 26) C dX3_closeTopQuestion_26 trivial ?_
    exact pr_vret (pc := 27) C E (by omega) (by omega) ⟨rfl, K, N, rfl, hs⟩ dX3_closeTopQuestion_27

def ms_hov (g v : Int32) (S : Nat → Nat → Int32) (k : Nat) : Nat → Nat → Int32 := if ms_isIn g (nI k) = true then pa_us S 213 k v else S
set_option maxRecDepth 100000 in
set_option maxHeartbeats 4000000 in
theorem c_X3_handOver (G : pa_G) (l : Launch) (K : Nat → Nat → Nat → Int32) (Sm S : Nat → Nat → Int32) (N : Nat → Nat) (O : Nat → Int64) (T D e : Nat) (z : sj_Z) (hs : sj_M K N T D z e S) (g v : Int32) : pa_M G l mX3_handOver 2 false [pv_o 4 0, pv_i g, pv_i v] (K, Sm, N, O) 0 0 (sj_post none Sm O T D z e (pz_it (ms_hov g v) 8 S)) := by
  refine pa_go l (by decide) (by simp [pa_c1l, pa_c1]) (fun _ => rfl) fun x C E el ea => ?_
  subst el
  show pa_w G x 4 (K, Sm, N, O) 0 0 0 [some (pv_o 4 0), some (pv_i g), some (pv_i v), none] []
  refine pr_iconst (pc := 0) (v := 0) C dX3_handOver_0 (by decide) ?_
  refine pr_istore_n (pc := 1) C dX3_handOver_1 (by decide) ?_
  have lp2 : ∀ (n3 k1 : Nat) (S5 : Nat → Nat → Int32) (K : Nat → Nat → Nat → Int32) (N : Nat → Nat), k1 ≤ 8 → 8 < k1 + n3 → S5 = pz_it (ms_hov g v) k1 S → sj_M K N T D z e S5 → pa_w G x 4 (K, Sm, N, O) 0 0 2 [some (pv_o 4 0), some (pv_i g), some (pv_i v), some (pv_i (nI k1))] [] := by
    intro n3
    induction n3 with
    | zero => intro k1 S5 K N h1 h2; exact absurd h2 (by omega)
    | succ n3 ih4 =>
      intro k1 S5 K N hk1_k1 hk2_k1 eS_k1 hs
      refine pr_iload_n (pc := 2) C dX3_handOver_2 rfl ?_
      refine pr_bipush (pc := 3) (v := 8) C dX3_handOver_3 (by decide) ?_
      refine pr_icmp_geN (pc := 5) C 29 k1 8 dX3_handOver_5 (by decide) rfl rfl (by omega) (by omega) (fun c_5 => ?_) (fun c_5 => ?_)
      · obtain rfl : 8 = k1 := by omega
        exact pr_vret (pc := 29) C E (by omega) (by omega) ⟨rfl, K, N, rfl, sj_eq eS_k1 hs⟩ dX3_handOver_29
      · refine pr_iload_n (pc := 8) C dX3_handOver_8 rfl ?_
        refine pr_iload_n (pc := 9) C dX3_handOver_9 rfl ?_
        refine pr_sP (pc := 10) C (c_X3_isIn G _ (K, Sm, N, O) g (nI k1)) ws_X3_49 rfl rfl (by decide) (Nat.le_of_ble_eq_true rfl) (by omega) (by omega) dX3_handOver_10 ?_
        refine pr_ifb_eq (pc := 13) C 23 dX3_handOver_13 (by decide) (fun c_13 => ?_) (fun c_13 => ?_)
        · refine pr_iincN (pc := 23) C dX3_handOver_23 rfl k1 1 rfl rfl (by decide) ?_
          refine pr_goto (pc := 26) C 2 dX3_handOver_26 (by decide) ?_
          exact ih4 (k1 + 1) S5 K N (by omega) (by omega) (by rw [pz_it_s, ← eS_k1]; exact (if_neg (by rw [c_13]; decide)).symm) hs
        · refine pr_aload_n (pc := 16) C dX3_handOver_16 rfl ?_
          refine pr_geta (pc := 17) C 161 261 wf_X3_15 rfl rfl (by decide) (pl_4 _) dX3_handOver_17 ?_
          refine pr_iload_n (pc := 20) C dX3_handOver_20 rfl ?_
          refine pr_iload_n (pc := 21) C dX3_handOver_21 rfl ?_
          refine pr_asti (pc := 22) (n := 8) C 161 k1 rfl (by decide) rfl rfl (pl_r4 (by decide)) rfl (by omega) (by decide) dX3_handOver_22 ?_
          refine pr_sim (sj_w161 hs (by omega)) ?_
          intro K N hs
          refine pr_iincN (pc := 23) C dX3_handOver_23 rfl k1 1 rfl rfl (by decide) ?_
          refine pr_goto (pc := 26) C 2 dX3_handOver_26 (by decide) ?_
          exact ih4 (k1 + 1) (pa_us S5 213 k1 v) K N (by omega) (by omega) (by rw [pz_it_s, ← eS_k1]; exact (if_pos c_13).symm) hs
  exact lp2 (8 + 1) 0 _ K N (by omega) (by omega) (pz_it_z _ _) hs

