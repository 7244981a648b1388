/-! THE CLASS: within a tick: offers that are overdue; what comes late -/
theorem sc_ops0 {S : Nat → Nat → Int32} {k : Nat} (h : S 227 k = 0) : S = ms_ops S k := by
  have e : pz_b (decide (S 227 k ≠ 0) && decide (S 200 0 - S 225 k ≤ S 223 k)) = S 227 k := by rw [h]; rfl
  unfold ms_ops
  rw [e, pa_us_same]
theorem sc_ops1 {S : Nat → Nat → Int32} {k : Nat} (h : S 227 k = 1) (c : S 200 0 - S 225 k ≤ S 223 k) : S = ms_ops S k := by
  have e : pz_b (decide (S 227 k ≠ 0) && decide (S 200 0 - S 225 k ≤ S 223 k)) = S 227 k := by rw [h, decide_eq_true c]; rfl
  unfold ms_ops
  rw [e, pa_us_same]
theorem sc_ops2 {S : Nat → Nat → Int32} {k : Nat} (c : ¬ S 200 0 - S 225 k ≤ S 223 k) : pa_us S 227 k 0 = ms_ops S k := by
  have e : pz_b (decide (S 227 k ≠ 0) && decide (S 200 0 - S 225 k ≤ S 223 k)) = 0 := by rw [decide_eq_false c, Bool.and_false]; rfl
  unfold ms_ops
  rw [e]
theorem sc_opsv {S : Nat → Nat → Int32} (h : ∀ k, S 227 k = 0 ∨ S 227 k = 1) (n : Nat) : ∀ k, pz_it ms_ops n S 227 k = 0 ∨ pz_it ms_ops n S 227 k = 1 :=
  pz_it_inv (f := ms_ops) (I := fun S' => ∀ k, S' 227 k = 0 ∨ S' 227 k = 1) (fun s k h j => by
    unfold ms_ops
    by_cases c : j = k
    · rw [c, pa_us_self]; exact pz_b01 _
    · rw [pa_us_nj c]; exact h j) n S h
set_option maxRecDepth 100000 in
set_option maxHeartbeats 4000000 in
theorem c_X3_closeOverdueOffers (G : pa_G) (l : Launch) (K : Nat → Nat → Nat → Int32) (Sm S : Nat → Nat → Int32) (N : Nat → Nat) (O : Nat → Int64) (T D e : Nat) (z : sj_Z) (hs : sj_M K N T D z e S) (hJo : ∀ k, S 227 k = 0 ∨ S 227 k = 1) (hT : T ≤ 100) : pa_M G l mX3_closeOverdueOffers 4 false [pv_o 4 0] (K, Sm, N, O) 0 0 (sj_post none Sm O T D z e (ms_opn S T)) := by
  refine pa_go l (by decide) (by simp [pa_c1l, pa_c1]) (fun _ => rfl) fun x C E el ea => ?_
  subst el
  have hTD := sj_TD hs
  show pa_w G x 3 (K, Sm, N, O) 0 0 0 [some (pv_o 4 0), none, none] []
  refine pr_iconst (pc := 0) (v := 0) C dX3_closeOverdueOffers_0 (by decide) ?_
  refine pr_istore_n (pc := 1) C dX3_closeOverdueOffers_1 (by decide) ?_
  have lp2 : ∀ (n3 k1 : Nat) (S5 : Nat → Nat → Int32) (K : Nat → Nat → Nat → Int32) (N : Nat → Nat), k1 ≤ T → T < k1 + n3 → S5 = pz_it ms_ops k1 S → sj_M K N T D z e S5 → pa_w G x 3 (K, Sm, N, O) 0 0 2 [some (pv_o 4 0), some (pv_i (nI k1)), none] [] := by
    intro n3
    induction n3 with
    | zero => intro k1 S5 K N h1 h2; exact absurd h2 (by omega)
    | succ n3 ih4 =>
      intro k1 S5 K N hk1_k1 hk2_k1 eS_k1 hs
      have ho := sc_opsv hJo k1 k1
      rw [← eS_k1] at ho
      refine pr_iload_n (pc := 2) C dX3_closeOverdueOffers_2 rfl ?_
      refine pr_aload_n (pc := 3) C dX3_closeOverdueOffers_3 rfl ?_
      refine pr_getl (pc := 4) C 162 0 wf_X3_22 rfl rfl rfl (pl_4 _) dX3_closeOverdueOffers_4 ?_
      refine pr_vP (pc := 7) C (c_szT G _ K Sm S5 N O T D e z hs) wv_X3_147 rfl rfl (by decide) (by decide) (pl_0 (by decide)) (Nat.le_of_ble_eq_true rfl) (by omega) (by omega) dX3_closeOverdueOffers_7 ?_
      refine pr_icmp_geN (pc := 10) C 59 k1 T dX3_closeOverdueOffers_10 (by decide) rfl rfl (by omega) (by omega) (fun c_10 => ?_) (fun c_10 => ?_)
      · obtain rfl : T = k1 := by omega
        exact pr_vret (pc := 59) C E (by omega) (by omega) ⟨rfl, K, N, rfl, sj_eq eS_k1 hs⟩ dX3_closeOverdueOffers_59
      · refine pr_aload_n (pc := 13) C dX3_closeOverdueOffers_13 rfl ?_
        refine pr_getl (pc := 14) C 162 0 wf_X3_22 rfl rfl rfl (pl_4 _) dX3_closeOverdueOffers_14 ?_
        refine pr_iload_n (pc := 17) C dX3_closeOverdueOffers_17 rfl ?_
        refine pr_vP (pc := 18) C (c_gtT G _ K Sm S5 N O T D e z hs k1 (by first | assumption | omega)) wv_X3_197 rfl rfl (by decide) (by decide) (pl_0 (by decide)) (Nat.le_of_ble_eq_true rfl) (by omega) (by omega) dX3_closeOverdueOffers_18 ?_
        refine pr_cast (pc := 21) C (k := 3) (r := (RX2, TX2, 13)) ⟨by decide, by decide⟩ rfl (pa_wi (by decide +kernel) rfl) (pl_3 (sj_n0 hs (by first | assumption | omega))) dX3_closeOverdueOffers_21 ?_
        refine pr_astore_n (pc := 24) C dX3_closeOverdueOffers_24 (by decide) ?_
        refine pr_aload_n (pc := 25) C dX3_closeOverdueOffers_25 rfl ?_
        refine pr_geti (pc := 26) C 130 wf_X3_182 rfl (by decide) (pl_3 (sj_n0 hs (by first | assumption | omega))) dX3_closeOverdueOffers_26 ?_
        refine pr_eqi (v := S5 227 k1) (sj_r130 hs (by first | assumption | omega)) ?_
        refine pr_if_eq (pc := 29) C 53 dX3_closeOverdueOffers_29 (by decide) (fun c_29 => ?_) (fun c_29 => ?_)
        · refine pr_iincN (pc := 53) C dX3_closeOverdueOffers_53 rfl k1 1 rfl rfl (by decide) ?_
          refine pr_goto (pc := 56) C 2 dX3_closeOverdueOffers_56 (by decide) ?_
          refine pr_lo (lo' := [some (pv_o 4 0), some (pv_i (nI (k1 + 1))), none]) (show pa_lle [some (pv_o 4 0), some (pv_i (nI (k1 + 1))), none] [some (pv_o 4 0), some (pv_i (nI (k1 + 1))), some (pv_o 3 k1)] by simp [pa_lle]) ?_
          exact ih4 (k1 + 1) S5 K N (by omega) (by omega) (by rw [pz_it_s, ← eS_k1]; exact sc_ops0 c_29) hs
        · refine pr_aload_n (pc := 32) C dX3_closeOverdueOffers_32 rfl ?_
          refine pr_geti (pc := 33) C 166 wf_X3_76 rfl (by decide) (pl_4 _) dX3_closeOverdueOffers_33 ?_
          refine pr_eqi (v := S5 200 0) (sj_r166 hs) ?_
          refine pr_aload_n (pc := 36) C dX3_closeOverdueOffers_36 rfl ?_
          refine pr_geti (pc := 37) C 129 wf_X3_179 rfl (by decide) (pl_3 (sj_n0 hs (by first | assumption | omega))) dX3_closeOverdueOffers_37 ?_
          refine pr_eqi (v := S5 225 k1) (sj_r129 hs (by first | assumption | omega)) ?_
          refine pr_isub (pc := 40) C dX3_closeOverdueOffers_40 ?_
          refine pr_aload_n (pc := 41) C dX3_closeOverdueOffers_41 rfl ?_
          refine pr_geti (pc := 42) C 123 wf_X3_173 rfl (by decide) (pl_3 (sj_n0 hs (by first | assumption | omega))) dX3_closeOverdueOffers_42 ?_
          refine pr_eqi (v := S5 223 k1) (sj_r123 hs (by first | assumption | omega)) ?_
          refine pr_icmp_le (pc := 45) C 53 dX3_closeOverdueOffers_45 (by decide) (fun c_45 => ?_) (fun c_45 => ?_)
          · refine pr_iincN (pc := 53) C dX3_closeOverdueOffers_53 rfl k1 1 rfl rfl (by decide) ?_
            refine pr_goto (pc := 56) C 2 dX3_closeOverdueOffers_56 (by decide) ?_
            refine pr_lo (lo' := [some (pv_o 4 0), some (pv_i (nI (k1 + 1))), none]) (show pa_lle [some (pv_o 4 0), some (pv_i (nI (k1 + 1))), none] [some (pv_o 4 0), some (pv_i (nI (k1 + 1))), some (pv_o 3 k1)] by simp [pa_lle]) ?_
            exact ih4 (k1 + 1) S5 K N (by omega) (by omega) (by rw [pz_it_s, ← eS_k1]; exact sc_ops1 (ho.resolve_left c_29) c_45) hs
          · refine pr_aload_n (pc := 48) C dX3_closeOverdueOffers_48 rfl ?_
            refine pr_iconst (pc := 49) (v := 0) C dX3_closeOverdueOffers_49 (by decide) ?_
            refine pr_putb (pc := 50) C 130 wp_X3_182 rfl (by decide) rfl (by decide) (by decide) (pl_3 (sj_n0 hs (by first | assumption | omega))) dX3_closeOverdueOffers_50 ?_
            refine pr_sim (sj_w130 hs) ?_
            intro K N hs
            refine pr_iincN (pc := 53) C dX3_closeOverdueOffers_53 rfl k1 1 rfl rfl (by decide) ?_
            refine pr_goto (pc := 56) C 2 dX3_closeOverdueOffers_56 (by decide) ?_
            refine pr_lo (lo' := [some (pv_o 4 0), some (pv_i (nI (k1 + 1))), none]) (show pa_lle [some (pv_o 4 0), some (pv_i (nI (k1 + 1))), none] [some (pv_o 4 0), some (pv_i (nI (k1 + 1))), some (pv_o 3 k1)] by simp [pa_lle]) ?_
            exact ih4 (k1 + 1) (pa_us S5 227 k1 (0 : Int32)) K N (by omega) (by omega) (by rw [pz_it_s, ← eS_k1]; exact sc_ops2 c_45) hs
  exact lp2 (T + 1) 0 _ K N (by omega) (by omega) (pz_it_z _ _) hs

theorem pz_it4 {σ : Type} (f : σ → Nat → σ) : ∀ (n : Nat) (s : σ), pz_it (fun s t => pz_it (fun s j => f s (4 * t + j)) 4 s) n s = pz_it f (4 * n) s
  | 0, _ => rfl
  | n + 1, s => by
    rw [pz_it_s, pz_it4 f n s]
    rfl
def ms_cl2 (t : Nat) (S : Nat → Nat → Int32) (j : Nat) : Nat → Nat → Int32 := ms_cls S (4 * t + j)
def ms_cl1 (S : Nat → Nat → Int32) (t : Nat) : Nat → Nat → Int32 := pz_it (ms_cl2 t) 4 S
theorem ms_cl_all {S : Nat → Nat → Int32} {T : Nat} : pz_it ms_cl1 T S = ms_comes S T := pz_it4 ms_cls T S
/-- what comes late comes now, or later -/
def mj_l0 (S : Nat → Nat → Int32) : Prop := ∀ p, S 228 p = 2 → S 200 0 ≤ S 229 p
theorem mj_l0_cls {S : Nat → Nat → Int32} {p : Nat} (h : mj_l0 S) : mj_l0 (ms_cls S p) := fun q hq => by
  unfold ms_cls at hq ⊢
  by_cases c : S 228 p = 2 ∧ S 229 p ≤ S 200 0
  · rw [if_pos c] at hq ⊢
    have e : ∀ v, pa_us (pa_us S 228 p v) 229 p (S 200 0) 200 0 = S 200 0 := fun v => by rw [pa_us_ne (by decide), pa_us_ne (by decide)]
    rw [e]
    by_cases cq : q = p
    · rw [cq, pa_us_self]
      exact Int32.le_refl _
    · rw [pa_us_ne (by decide), pa_us_nj cq] at hq
      rw [pa_us_nj cq, pa_us_ne (by decide)]
      exact h q hq
  · rw [if_neg c] at hq ⊢
    exact h q hq
theorem mj_l0_cl2 {S : Nat → Nat → Int32} {t : Nat} (h : mj_l0 S) (n : Nat) : mj_l0 (pz_it (ms_cl2 t) n S) := pz_it_inv (f := ms_cl2 t) (I := mj_l0) (fun s k h => mj_l0_cls h) n S h
theorem mj_l0_cl1 {S : Nat → Nat → Int32} (h : mj_l0 S) (n : Nat) : mj_l0 (pz_it ms_cl1 n S) := pz_it_inv (f := ms_cl1) (I := mj_l0) (fun s k h => mj_l0_cl2 h 4) n S h
theorem sc_cl0 {S : Nat → Nat → Int32} {t j : Nat} (h : mj_l0 S) (c : S 228 (4 * t + j) = 2 → ¬ S 229 (4 * t + j) = S 200 0) : S = ms_cl2 t S j := by
  unfold ms_cl2 ms_cls
  rw [if_neg (fun q => c q.1 (Int32.le_antisymm q.2 (h _ q.1)))]
theorem sc_cl1 {S : Nat → Nat → Int32} {t j : Nat} {v : Int32} (hj : j < 4) (c : S 228 (4 * t + j) = 2) (c2 : S 229 (4 * t + j) = S 200 0) (hv : v = if ms_deaf S j then 1 else 3) : pa_us S 228 (4 * t + j) v = ms_cl2 t S j := by
  unfold ms_cl2 ms_cls
  rw [if_pos ⟨c, by rw [c2]; exact Int32.le_refl _⟩, show (4 * t + j) % 4 = j by omega, ← hv]
  have e : S 200 0 = pa_us S 228 (4 * t + j) v 229 (4 * t + j) := by rw [pa_us_ne (by decide)]; exact c2.symm
  rw [e, pa_us_same]
set_option maxRecDepth 100000 in
set_option maxHeartbeats 4000000 in
theorem c_X3_hearWhatComesLate (G : pa_G) (l : Launch) (K : Nat → Nat → Nat → Int32) (Sm S : Nat → Nat → Int32) (N : Nat → Nat) (O : Nat → Int64) (T D e : Nat) (z : sj_Z) (hs : sj_M K N T D z e S) (hJl : mj_l0 S) (hT : T ≤ 100) : pa_M G l mX3_hearWhatComesLate 5 false [pv_o 4 0] (K, Sm, N, O) 0 0 (sj_post none Sm O T D z e (ms_comes S T)) := by
  refine pa_go l (by decide) (by simp [pa_c1l, pa_c1]) (fun _ => rfl) fun x C E el ea => ?_
  subst el
  have hTD := sj_TD hs
  show pa_w G x 4 (K, Sm, N, O) 0 0 0 [some (pv_o 4 0), none, none, none] []
  refine pr_iconst (pc := 0) (v := 0) C dX3_hearWhatComesLate_0 (by decide) ?_
  refine pr_istore_n (pc := 1) C dX3_hearWhatComesLate_1 (by decide) ?_
  have lp2 : ∀ (n3 k1 : Nat) (S5 : Nat → Nat → Int32) (K : Nat → Nat → Nat → Int32) (N : Nat → Nat), k1 ≤ T → T < k1 + n3 → S5 = pz_it ms_cl1 k1 S → sj_M K N T D z e S5 → pa_w G x 4 (K, Sm, N, O) 0 0 2 [some (pv_o 4 0), some (pv_i (nI k1)), none, none] [] := by
    intro n3
    induction n3 with
    | zero => intro k1 S5 K N h1 h2; exact absurd h2 (by omega)
    | succ n3 ih4 =>
      intro k1 S5 K N hk1_k1 hk2_k1 eS_k1 hs
      have hl_k1 : mj_l0 S5 := by rw [eS_k1]; exact mj_l0_cl1 hJl k1
      refine pr_iload_n (pc := 2) C dX3_hearWhatComesLate_2 rfl ?_
      refine pr_aload_n (pc := 3) C dX3_hearWhatComesLate_3 rfl ?_
      refine pr_getl (pc := 4) C 162 0 wf_X3_22 rfl rfl rfl (pl_4 _) dX3_hearWhatComesLate_4 ?_
      refine pr_vP (pc := 7) C (c_szT G _ K Sm S5 N O T D e z hs) wv_X3_147 rfl rfl (by decide) (by decide) (pl_0 (by decide)) (Nat.le_of_ble_eq_true rfl) (by omega) (by omega) dX3_hearWhatComesLate_7 ?_
      refine pr_icmp_geN (pc := 10) C 94 k1 T dX3_hearWhatComesLate_10 (by decide) rfl rfl (by omega) (by omega) (fun c_10 => ?_) (fun c_10 => ?_)
      · obtain rfl : T = k1 := by omega
        exact pr_vret (pc := 94) C E (by omega) (by omega) ⟨rfl, K, N, rfl, sj_eq (eS_k1.trans ms_cl_all) hs⟩ dX3_hearWhatComesLate_94
      · refine pr_aload_n (pc := 13) C dX3_hearWhatComesLate_13 rfl ?_
        refine pr_getl (pc := 14) C 162 0 wf_X3_22 rfl rfl rfl (pl_4 _) dX3_hearWhatComesLate_14 ?_
        refine pr_iload_n (pc := 17) C dX3_hearWhatComesLate_17 rfl ?_
        refine pr_vP (pc := 18) C (c_gtT G _ K Sm S5 N O T D e z hs k1 (by first | assumption | omega)) wv_X3_197 rfl rfl (by decide) (by decide) (pl_0 (by decide)) (Nat.le_of_ble_eq_true rfl) (by omega) (by omega) dX3_hearWhatComesLate_18 ?_
        refine pr_cast (pc := 21) C (k := 3) (r := (RX2, TX2, 13)) ⟨by decide, by decide⟩ rfl (pa_wi (by decide +kernel) rfl) (pl_3 (sj_n0 hs (by first | assumption | omega))) dX3_hearWhatComesLate_21 ?_
        refine pr_astore_n (pc := 24) C dX3_hearWhatComesLate_24 (by decide) ?_
        have hkT : k1 < T := by omega
        refine pr_iconst (pc := 25) (v := 0) C dX3_hearWhatComesLate_25 (by decide) ?_
        refine pr_istore_n (pc := 26) C dX3_hearWhatComesLate_26 (by decide) ?_
        have lp7 : ∀ (n8 k6 : Nat) (S10 : Nat → Nat → Int32) (K : Nat → Nat → Nat → Int32) (N : Nat → Nat), k6 ≤ 4 → 4 < k6 + n8 → S10 = pz_it (ms_cl2 k1) k6 S5 → sj_M K N T D z e S10 → pa_w G x 4 (K, Sm, N, O) 0 0 27 [some (pv_o 4 0), some (pv_i (nI k1)), some (pv_o 3 k1), some (pv_i (nI k6))] [] := by
          intro n8
          induction n8 with
          | zero => intro k6 S10 K N h1 h2; exact absurd h2 (by omega)
          | succ n8 ih9 =>
            intro k6 S10 K N hk1_k6 hk2_k6 eS_k6 hs
            have hl : mj_l0 S10 := by rw [eS_k6]; exact mj_l0_cl2 hl_k1 k6
            refine pr_iload_n (pc := 27) C dX3_hearWhatComesLate_27 rfl ?_
            refine pr_iconst (pc := 28) (v := 4) C dX3_hearWhatComesLate_28 (by decide) ?_
            refine pr_icmp_geN (pc := 29) C 88 k6 4 dX3_hearWhatComesLate_29 (by decide) rfl rfl (by omega) (by omega) (fun c_29 => ?_) (fun c_29 => ?_)
            · obtain rfl : 4 = k6 := by omega
              refine pr_iincN (pc := 88) C dX3_hearWhatComesLate_88 rfl k1 1 rfl rfl (by decide) ?_
              refine pr_goto (pc := 91) C 2 dX3_hearWhatComesLate_91 (by decide) ?_
              refine pr_lo (lo' := [some (pv_o 4 0), some (pv_i (nI (k1 + 1))), none, none]) (show pa_lle [some (pv_o 4 0), some (pv_i (nI (k1 + 1))), none, none] [some (pv_o 4 0), some (pv_i (nI (k1 + 1))), some (pv_o 3 k1), some (pv_i (nI 4))] by simp [pa_lle]) ?_
              exact ih4 (k1 + 1) S10 K N (by omega) (by omega) (by rw [pz_it_s, ← eS_k1]; exact eS_k6) hs
            · refine pr_aload_n (pc := 32) C dX3_hearWhatComesLate_32 rfl ?_
              refine pr_geta (pc := 33) C 131 231 wf_X3_187 rfl rfl (by decide) (pl_3 (sj_n0 hs (by first | assumption | omega))) dX3_hearWhatComesLate_33 ?_
              refine pr_iload_n (pc := 36) C dX3_hearWhatComesLate_36 rfl ?_
              refine pr_aldi (pc := 37) (n := 4) C 131 k6 rfl rfl rfl (pl_r3 (by decide) (sj_n0 hs (by first | assumption | omega))) rfl (by omega) (by decide) dX3_hearWhatComesLate_37 ?_
              refine pr_eqi (v := S10 228 (4 * k1 + k6)) (sj_r131 hs (by first | assumption | omega) (by omega)) ?_
              refine pr_iconst (pc := 38) (v := 2) C dX3_hearWhatComesLate_38 (by decide) ?_
              refine pr_icmp_ne (pc := 39) C 82 dX3_hearWhatComesLate_39 (by decide) (fun c_39 => ?_) (fun c_39 => ?_)
              · refine pr_iincN (pc := 82) C dX3_hearWhatComesLate_82 rfl k6 1 rfl rfl (by decide) ?_
                refine pr_goto (pc := 85) C 27 dX3_hearWhatComesLate_85 (by decide) ?_
                exact ih9 (k6 + 1) S10 K N (by omega) (by omega) (by rw [pz_it_s, ← eS_k6]; exact sc_cl0 hl (fun q => absurd q c_39)) hs
              · refine pr_aload_n (pc := 42) C dX3_hearWhatComesLate_42 rfl ?_
                refine pr_geta (pc := 43) C 132 232 wf_X3_383 rfl rfl (by decide) (pl_3 (sj_n0 hs (by first | assumption | omega))) dX3_hearWhatComesLate_43 ?_
                refine pr_iload_n (pc := 46) C dX3_hearWhatComesLate_46 rfl ?_
                refine pr_aldi (pc := 47) (n := 4) C 132 k6 rfl rfl rfl (pl_r3 (by decide) (sj_n0 hs (by first | assumption | omega))) rfl (by omega) (by decide) dX3_hearWhatComesLate_47 ?_
                refine pr_eqi (v := S10 229 (4 * k1 + k6)) (sj_r132 hs (by first | assumption | omega) (by omega)) ?_
                refine pr_aload_n (pc := 48) C dX3_hearWhatComesLate_48 rfl ?_
                refine pr_geti (pc := 49) C 166 wf_X3_76 rfl (by decide) (pl_4 _) dX3_hearWhatComesLate_49 ?_
                refine pr_eqi (v := S10 200 0) (sj_r166 hs) ?_
                refine pr_icmp_ne (pc := 52) C 82 dX3_hearWhatComesLate_52 (by decide) (fun c_52 => ?_) (fun c_52 => ?_)
                · refine pr_iincN (pc := 82) C dX3_hearWhatComesLate_82 rfl k6 1 rfl rfl (by decide) ?_
                  refine pr_goto (pc := 85) C 27 dX3_hearWhatComesLate_85 (by decide) ?_
                  exact ih9 (k6 + 1) S10 K N (by omega) (by omega) (by rw [pz_it_s, ← eS_k6]; exact sc_cl0 hl (fun _ => c_52)) hs
                · refine pr_aload_n (pc := 55) C dX3_hearWhatComesLate_55 rfl ?_
                  refine pr_geta (pc := 56) C 131 231 wf_X3_187 rfl rfl (by decide) (pl_3 (sj_n0 hs (by first | assumption | omega))) dX3_hearWhatComesLate_56 ?_
                  refine pr_iload_n (pc := 59) C dX3_hearWhatComesLate_59 rfl ?_
                  refine pr_aload_n (pc := 60) C dX3_hearWhatComesLate_60 rfl ?_
                  refine pr_geta (pc := 61) C 160 260 wf_X3_11 rfl rfl (by decide) (pl_4 _) dX3_hearWhatComesLate_61 ?_
                  refine pr_iload_n (pc := 64) C dX3_hearWhatComesLate_64 rfl ?_
                  refine pr_alds (pc := 65) (n := 4) C 160 k6 rfl rfl rfl (pl_r4 (by decide)) rfl (by omega) (by decide) dX3_hearWhatComesLate_65 ?_
                  refine pr_aload_n (pc := 66) C dX3_hearWhatComesLate_66 rfl ?_
                  refine pr_geti (pc := 67) C 166 wf_X3_76 rfl (by decide) (pl_4 _) dX3_hearWhatComesLate_67 ?_
                  refine pr_eqi (v := S10 200 0) (sj_r166 hs) ?_
                  refine pr_vP (pc := 70) C (c_X0_isDeafAt G _ K Sm S10 N O T D e z hs k6 (S10 200 0) (by first | assumption | omega)) wv_X3_386 rfl rfl (by decide) (by decide) (pl_1 (by first | assumption | omega)) (Nat.le_of_ble_eq_true rfl) (by omega) (by omega) dX3_hearWhatComesLate_70 ?_
                  refine pr_ifb_eq (pc := 73) C 80 dX3_hearWhatComesLate_73 (by decide) (fun c_73 => ?_) (fun c_73 => ?_)
                  · refine pr_iconst (pc := 80) (v := 3) C dX3_hearWhatComesLate_80 (by decide) ?_
                    refine pr_asti (pc := 81) (n := 4) C 131 k6 rfl (by decide) rfl rfl (pl_r3 (by decide) (sj_n0 hs (by first | assumption | omega))) rfl (by omega) (by decide) dX3_hearWhatComesLate_81 ?_
                    refine pr_sim (sj_w131 hs (by omega)) ?_
                    intro K N hs
                    refine pr_iincN (pc := 82) C dX3_hearWhatComesLate_82 rfl k6 1 rfl rfl (by decide) ?_
                    refine pr_goto (pc := 85) C 27 dX3_hearWhatComesLate_85 (by decide) ?_
                    exact ih9 (k6 + 1) (pa_us S10 228 (4 * k1 + k6) (3 : Int32)) K N (by omega) (by omega) (by rw [pz_it_s, ← eS_k6]; exact sc_cl1 (by omega) c_39 c_52 (by rw [show ms_deaf S10 k6 = _ from c_73]; rfl)) hs
                  · refine pr_iconst (pc := 76) (v := 1) C dX3_hearWhatComesLate_76 (by decide) ?_
                    refine pr_goto (pc := 77) C 81 dX3_hearWhatComesLate_77 (by decide) ?_
                    refine pr_asti (pc := 81) (n := 4) C 131 k6 rfl (by decide) rfl rfl (pl_r3 (by decide) (sj_n0 hs (by first | assumption | omega))) rfl (by omega) (by decide) dX3_hearWhatComesLate_81 ?_
                    refine pr_sim (sj_w131 hs (by omega)) ?_
                    intro K N hs
                    refine pr_iincN (pc := 82) C dX3_hearWhatComesLate_82 rfl k6 1 rfl rfl (by decide) ?_
                    refine pr_goto (pc := 85) C 27 dX3_hearWhatComesLate_85 (by decide) ?_
                    exact ih9 (k6 + 1) (pa_us S10 228 (4 * k1 + k6) (1 : Int32)) K N (by omega) (by omega) (by rw [pz_it_s, ← eS_k6]; exact sc_cl1 (by omega) c_39 c_52 (by rw [show ms_deaf S10 k6 = _ from c_73]; rfl)) hs
        exact lp7 (4 + 1) 0 _ K N (by omega) (by omega) (pz_it_z _ _) hs
  exact lp2 (T + 1) 0 _ K N (by omega) (by omega) (pz_it_z _ _) hs

