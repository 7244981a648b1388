/-! THE CLASS: silence is counted -/
/-- what holds while silence is counted -/
def sc_J (S0 S : Nat → Nat → Int32) (T : Nat) : Prop := mw_S S T ∧ mj S T ∧ sj_pt S0 T ≤ sj_pt S T ∧ ∀ f, f ≠ 208 → f ≠ 209 → f ≠ 233 → ∀ j, S f j = S0 f j
theorem sc_J_com {S0 S : Nat → Nat → Int32} {T t w p : Nat} {v : Int32} (h : sc_J S0 S T) (ht : t < T) (hw : w < 4) (hp : p < 10) (hv : v = 1 ∨ v = 2) : sc_J S0 (ms_com S w p v (nI t)) T :=
  ⟨mw_S_com h.1 ht, mj_com h.2.1 (Or.inr hv), Nat.le_trans h.2.2.1 (sj_pt_com_le hw hp (by rcases hv with rfl | rfl <;> decide)), fun f h1 h2 h3 j => (ms_com_ne h1 h2 h3).trans (h.2.2.2 f h1 h2 h3 j)⟩
def ms_si2 (t : Nat) (S : Nat → Nat → Int32) (j : Nat) : Nat → Nat → Int32 := ms_sis S (4 * t + j)
def ms_si1 (S : Nat → Nat → Int32) (t : Nat) : Nat → Nat → Int32 := pz_it (ms_si2 t) 4 S
theorem ms_si_all {S : Nat → Nat → Int32} {T : Nat} : pz_it ms_si1 T S = pz_it ms_sis (4 * T) S := pz_it4 ms_sis T S
theorem ms_si1_no {S : Nat → Nat → Int32} {t : Nat} (h : ms_isClaim S t = false) : S = ms_si1 S t := by
  refine (pz_it_lt (f := ms_si2 t) (I := fun S' => S' = S) 4 S (fun s k hk e => ?_) rfl).symm
  subst e
  unfold ms_si2 ms_sis
  rw [if_neg]
  unfold ms_sip
  rw [show (4 * t + k) / 4 = t by omega, h]
  simp
theorem sc_clv {S : Nat → Nat → Int32} {T t : Nat} (hJ : mj_T S T) (ht : t < T) (c : ms_isClaim S t = true) : S 221 t = 1 ∨ S 221 t = 2 := by
  obtain ⟨h1, h2, -⟩ := hJ.1 t ht
  unfold ms_isClaim at c
  simp only [Bool.and_eq_true, Bool.or_eq_true, decide_eq_true_eq] at c
  rcases c.2 with c2 | ⟨c2, c3⟩
  · exact h1 (Or.inl c2)
  · rcases h2 c2 with q | q
    · rw [q] at c3
      exact absurd c3 (by decide)
    · exact q
theorem ms_claim_of {S S0 : Nat → Nat → Int32} {t : Nat} (e : ∀ f, f ≠ 208 → f ≠ 209 → f ≠ 233 → ∀ j, S f j = S0 f j) : ms_isClaim S t = ms_isClaim S0 t := by
  unfold ms_isClaim
  rw [e 224 (by decide) (by decide) (by decide), e 219 (by decide) (by decide) (by decide), e 221 (by decide) (by decide) (by decide)]
theorem pz_it_mono {σ : Type} {f : σ → Nat → σ} {I : σ → Prop} {m : σ → Nat} {n : Nat} {s : σ} (hs : ∀ s k, k < n → I s → I (f s k) ∧ m s ≤ m (f s k)) (h0 : I s) : ∀ d k, k + d = n → m (pz_it f k s) ≤ m (pz_it f n s) := by
  have hI : ∀ k, k ≤ n → I (pz_it f k s) := by
    intro k
    induction k with
    | zero => intro _; exact h0
    | succ k ih => intro hk; exact (hs _ k (by omega) (ih (by omega))).1
  intro d
  induction d with
  | zero => intro k hk; rw [show k = n by omega]; exact Nat.le_refl _
  | succ d ih =>
    intro k hk
    exact Nat.le_trans (hs _ k (by omega) (hI k (by omega))).2 (ih (k + 1) (by omega))
theorem pz_it_add {σ : Type} {f : σ → Nat → σ} {c : Nat} {s : σ} : ∀ n, pz_it (fun s j => f s (c + j)) n (pz_it f c s) = pz_it f (c + n) s
  | 0 => rfl
  | n + 1 => by
    rw [pz_it_s, pz_it_add n]
    rfl
theorem sc_J_sis {S0 S : Nat → Nat → Int32} {T p : Nat} (hp : p < 4 * T) (h : sc_J S0 S T) : sc_J S0 (ms_sis S p) T ∧ sj_pt S T ≤ sj_pt (ms_sis S p) T := by
  unfold ms_sis
  split
  · rename_i c
    have c1 : ms_isClaim S (p / 4) = true := by
      unfold ms_sip at c
      simp only [Bool.and_eq_true] at c
      simp [c]
    have ht : p / 4 < T := by omega
    obtain ⟨-, hx, hx10⟩ := mw_S_claim h.1 ht c1
    have hv := sc_clv h.2.1.1 ht c1
    exact ⟨sc_J_com h ht (by omega) hx10 hv, sj_pt_com_le (by omega) hx10 (by rcases hv with q | q <;> rw [q] <;> decide)⟩
  · exact ⟨h, Nat.le_refl _⟩
theorem sc_J_pt {S : Nat → Nat → Int32} {T : Nat} (hM : mw_S S T) (hJ : mj S T) {k : Nat} (hk : k ≤ 4 * T) : sj_pt (pz_it ms_sis k S) T ≤ sj_pt (pz_it ms_sis (4 * T) S) T :=
  pz_it_mono (m := fun S' => sj_pt S' T) (I := fun S' => sc_J S S' T) (fun s k hk h => sc_J_sis hk h) ⟨hM, hJ, Nat.le_refl _, fun _ _ _ _ _ => rfl⟩ (4 * T - k) k (by omega)
theorem ms_si_at {S : Nat → Nat → Int32} {t k : Nat} : pz_it (ms_si2 t) k (pz_it ms_si1 t S) = pz_it ms_sis (4 * t + k) S := by
  rw [show pz_it ms_si1 t S = pz_it ms_sis (4 * t) S from pz_it4 ms_sis t S]
  exact pz_it_add k
set_option maxRecDepth 100000 in
set_option maxHeartbeats 4000000 in
theorem c_X3_countSilence (G : pa_G) (l : Launch) (K : Nat → Nat → Nat → Int32) (Sm S : Nat → Nat → Int32) (N : Nat → Nat) (O : Nat → Int64) (T D e : Nat) (z : sj_Z) (hs : sj_M K N T D z e S) (hM : mw_S S T) (hJ : mj S T) : pa_M G l mX3_countSilence 9 true [pv_o 4 0] (K, Sm, N, O) (2 * (sj_pt (pz_it ms_sis (4 * T) S) T - sj_pt S T)) (1520 * (sj_pt (pz_it ms_sis (4 * T) S) T - sj_pt S T)) (sj_post none Sm O T D z e (pz_it ms_sis (4 * T) S)) := by
  refine pa_go l (by decide) (by simp [pa_c1l, pa_c1]) (fun _ => rfl) fun x C E el ea => ?_
  subst el
  have hT := hM.1.1
  have hTD := sj_TD hs
  show pa_w G x 4 (K, Sm, N, O) 0 0 0 [some (pv_o 4 0), none, none, none] []
  refine pr_iconst (pc := 0) (v := 0) C dX3_countSilence_0 (by decide) ?_
  refine pr_istore_n (pc := 1) C dX3_countSilence_1 (by decide) ?_
  have lp2 : ∀ (n3 k1 : Nat) (S5 : Nat → Nat → Int32) (K : Nat → Nat → Nat → Int32) (N : Nat → Nat), k1 ≤ T → T < k1 + n3 → S5 = pz_it ms_si1 k1 S → sc_J S S5 T → sj_M K N T D z e S5 → pa_w G x 4 (K, Sm, N, O) (2 * (sj_pt S5 T - sj_pt S T)) (1520 * (sj_pt S5 T - sj_pt S T)) 2 [some (pv_o 4 0), some (pv_i (nI k1)), none, none] [] := by
    intro n3
    induction n3 with
    | zero => intro k1 S5 K N h1 h2; exact absurd h2 (by omega)
    | succ n3 ih4 =>
      intro k1 S5 K N hk1_k1 hk2_k1 eS_k1 hx_k1 hs
      have hpo : sj_pt S5 T ≤ sj_pt (pz_it ms_sis (4 * T) S) T := by have q := sc_J_pt hM hJ (show 4 * k1 ≤ 4 * T by omega); rw [show S5 = pz_it ms_sis (4 * k1) S from eS_k1.trans (pz_it4 ms_sis k1 S)]; exact q
      refine pr_iload_n (pc := 2) C dX3_countSilence_2 rfl ?_
      refine pr_aload_n (pc := 3) C dX3_countSilence_3 rfl ?_
      refine pr_getl (pc := 4) C 162 0 wf_X3_22 rfl rfl rfl (pl_4 _) dX3_countSilence_4 ?_
      refine pr_vP (pc := 7) C (c_szT G _ K Sm S5 N O T D e z hs) wv_X3_147 rfl rfl (by decide) (by decide) (pl_0 (by decide)) (Nat.le_of_ble_eq_true rfl) (by omega) (by omega) dX3_countSilence_7 ?_
      refine pr_icmp_geN (pc := 10) C 84 k1 T dX3_countSilence_10 (by decide) rfl rfl (by omega) (by omega) (fun c_10 => ?_) (fun c_10 => ?_)
      · obtain rfl : T = k1 := by omega
        exact pr_vret (pc := 84) C E (by rw [eS_k1.trans ms_si_all]; exact Nat.le_refl _) (by rw [eS_k1.trans ms_si_all]; exact Nat.le_refl _) ⟨rfl, K, N, rfl, sj_eq (eS_k1.trans ms_si_all) hs⟩ dX3_countSilence_84
      · refine pr_aload_n (pc := 13) C dX3_countSilence_13 rfl ?_
        refine pr_getl (pc := 14) C 162 0 wf_X3_22 rfl rfl rfl (pl_4 _) dX3_countSilence_14 ?_
        refine pr_iload_n (pc := 17) C dX3_countSilence_17 rfl ?_
        refine pr_vP (pc := 18) C (c_gtT G _ K Sm S5 N O T D e z hs k1 (by first | assumption | omega)) wv_X3_197 rfl rfl (by decide) (by decide) (pl_0 (by decide)) (Nat.le_of_ble_eq_true rfl) (by omega) (by omega) dX3_countSilence_18 ?_
        refine pr_cast (pc := 21) C (k := 3) (r := (RX2, TX2, 13)) ⟨by decide, by decide⟩ rfl (pa_wi (by decide +kernel) rfl) (pl_3 (sj_n0 hs (by first | assumption | omega))) dX3_countSilence_21 ?_
        refine pr_astore_n (pc := 24) C dX3_countSilence_24 (by decide) ?_
        refine pr_aload_n (pc := 25) C dX3_countSilence_25 rfl ?_
        refine pr_vP (pc := 26) C (c_X2_isClaim G _ K Sm S5 N O T D e z hs k1 (by first | assumption | omega) ((hx_k1.2.1.1.1 _ (by omega)).2.1)) wv_X3_300 rfl rfl (by decide) (by decide) (pl_3 (sj_n0 hs (by first | assumption | omega))) (Nat.le_of_ble_eq_true rfl) (by omega) (by omega) dX3_countSilence_26 ?_
        refine pr_ifb_eq (pc := 29) C 78 dX3_countSilence_29 (by decide) (fun c_29 => ?_) (fun c_29 => ?_)
        · refine pr_iincN (pc := 78) C dX3_countSilence_78 rfl k1 1 rfl rfl (by decide) ?_
          refine pr_goto (pc := 81) C 2 dX3_countSilence_81 (by decide) ?_
          refine pr_lo (lo' := [some (pv_o 4 0), some (pv_i (nI (k1 + 1))), none, none]) (show pa_lle [some (pv_o 4 0), some (pv_i (nI (k1 + 1))), none, none] [some (pv_o 4 0), some (pv_i (nI (k1 + 1))), some (pv_o 3 k1), none] by simp [pa_lle]) ?_
          refine pr_widen (Nat.le_refl _) (Nat.le_refl _) ?_
          exact ih4 (k1 + 1) S5 K N (by omega) (by omega) (by rw [pz_it_s, ← eS_k1]; exact ms_si1_no c_29) hx_k1 hs
        · have hkT : k1 < T := by omega
          obtain ⟨⟨hwt, hwt4⟩, hxa, hxa10⟩ := mw_S_claim hx_k1.1 hkT c_29
          have hv9 := sc_clv hx_k1.2.1.1 hkT c_29
          generalize hwt9 : mn (S5 218 k1) = wt at hwt hwt4
          generalize hxa9 : mn (S5 220 k1) = xa at hxa hxa10
          refine pr_iconst (pc := 32) (v := 0) C dX3_countSilence_32 (by decide) ?_
          refine pr_istore_n (pc := 33) C dX3_countSilence_33 (by decide) ?_
          have lp7 : ∀ (n8 k6 : Nat) (S10 : Nat → Nat → Int32) (K : Nat → Nat → Nat → Int32) (N : Nat → Nat), k6 ≤ 4 → 4 < k6 + n8 → S10 = pz_it (ms_si2 k1) k6 S5 → sc_J S S10 T → sj_M K N T D z e S10 → pa_w G x 4 (K, Sm, N, O) (2 * (sj_pt S10 T - sj_pt S T)) (1520 * (sj_pt S10 T - sj_pt S T)) 34 [some (pv_o 4 0), some (pv_i (nI k1)), some (pv_o 3 k1), some (pv_i (nI k6))] [] := by
            intro n8
            induction n8 with
            | zero => intro k6 S10 K N h1 h2; exact absurd h2 (by omega)
            | succ n8 ih9 =>
              intro k6 S10 K N hk1_k6 hk2_k6 eS_k6 hx_k6 hs
              have eS9 : S10 = pz_it ms_sis (4 * k1 + k6) S := eS_k6.trans (by rw [eS_k1]; exact ms_si_at)
              have hpi : sj_pt S10 T ≤ sj_pt (pz_it ms_sis (4 * T) S) T := by rw [eS9]; exact sc_J_pt hM hJ (by omega)
              have hwt2 : S10 218 k1 = nI wt := ((hx_k6.2.2.2 218 (by decide) (by decide) (by decide) _).trans (hx_k1.2.2.2 218 (by decide) (by decide) (by decide) _).symm).trans hwt
              have hxa2 : S10 220 k1 = nI xa := ((hx_k6.2.2.2 220 (by decide) (by decide) (by decide) _).trans (hx_k1.2.2.2 220 (by decide) (by decide) (by decide) _).symm).trans hxa
              have hv2 : S10 221 k1 = 1 ∨ S10 221 k1 = 2 := by rw [((hx_k6.2.2.2 221 (by decide) (by decide) (by decide) _).trans (hx_k1.2.2.2 221 (by decide) (by decide) (by decide) _).symm)]; exact hv9
              have hcl2 : ms_isClaim S10 k1 = true := (ms_claim_of (fun f h1 h2 h3 j => (hx_k6.2.2.2 f h1 h2 h3 j).trans (hx_k1.2.2.2 f h1 h2 h3 j).symm)).trans c_29
              refine pr_iload_n (pc := 34) C dX3_countSilence_34 rfl ?_
              refine pr_iconst (pc := 35) (v := 4) C dX3_countSilence_35 (by decide) ?_
              refine pr_icmp_geN (pc := 36) C 78 k6 4 dX3_countSilence_36 (by decide) rfl rfl (by omega) (by omega) (fun c_36 => ?_) (fun c_36 => ?_)
              · obtain rfl : 4 = k6 := by omega
                refine pr_iincN (pc := 78) C dX3_countSilence_78 rfl k1 1 rfl rfl (by decide) ?_
                refine pr_goto (pc := 81) C 2 dX3_countSilence_81 (by decide) ?_
                refine pr_lo (lo' := [some (pv_o 4 0), some (pv_i (nI (k1 + 1))), none, none]) (show pa_lle [some (pv_o 4 0), some (pv_i (nI (k1 + 1))), none, none] [some (pv_o 4 0), some (pv_i (nI (k1 + 1))), some (pv_o 3 k1), some (pv_i (nI 4))] by simp [pa_lle]) ?_
                refine pr_widen (Nat.le_refl _) (Nat.le_refl _) ?_
                exact ih4 (k1 + 1) S10 K N (by omega) (by omega) (by rw [pz_it_s, ← eS_k1]; exact eS_k6) hx_k6 hs
              · refine pr_aload_n (pc := 39) C dX3_countSilence_39 rfl ?_
                refine pr_aload_n (pc := 40) C dX3_countSilence_40 rfl ?_
                refine pr_aload_n (pc := 41) C dX3_countSilence_41 rfl ?_
                refine pr_geta (pc := 42) C 160 260 wf_X3_11 rfl rfl (by decide) (pl_4 _) dX3_countSilence_42 ?_
                refine pr_iload_n (pc := 45) C dX3_countSilence_45 rfl ?_
                refine pr_alds (pc := 46) (n := 4) C 160 k6 rfl rfl rfl (pl_r4 (by decide)) rfl (by omega) (by decide) dX3_countSilence_46 ?_
                refine pr_vP (pc := 47) C (c_X3_isAcceptedBySilence G _ K Sm S10 N O T D e z hs k1 k6 wt xa (by omega) (by omega) hwt2 hwt4 hxa2 hxa10 hx_k6.2.1.2.2.2.2.2) wv_X3_392 rfl rfl (by decide) (by decide) (pl_4 _) (Nat.le_of_ble_eq_true rfl) (by omega) (by omega) dX3_countSilence_47 ?_
                refine pr_ifb_eq (pc := 50) C 72 dX3_countSilence_50 (by decide) (fun c_50 => ?_) (fun c_50 => ?_)
                · refine pr_iincN (pc := 72) C dX3_countSilence_72 rfl k6 1 rfl rfl (by decide) ?_
                  refine pr_goto (pc := 75) C 34 dX3_countSilence_75 (by decide) ?_
                  refine pr_widen (Nat.le_refl _) (Nat.le_refl _) ?_
                  exact ih9 (k6 + 1) S10 K N (by omega) (by omega) (by rw [pz_it_s, ← eS_k6]; exact (if_neg (by rw [(sc_sip (by omega) hwt2 hwt4 hxa2 hxa10), c_50, Bool.and_false]; decide)).symm) hx_k6 hs
                · have hz0 : S10 208 (10 * k6 + xa) = 0 := by have q := c_50; unfold sc_sil at q; simp only [Bool.and_eq_true, decide_eq_true_eq] at q; exact q.1.2
                  have hd0 : (decide (S10 208 (10 * k6 + xa) = 0)).toNat = 1 := by rw [hz0]; rfl
                  have hd1 : (decide (S10 221 k1 = 0)).toNat = 0 := by rw [decide_eq_false (show ¬ S10 221 k1 = 0 by rcases hv2 with q | q <;> rw [q] <;> decide)]; rfl
                  have hpl := hx_k6.2.2.1
                  have eC : ms_com S10 k6 xa (S10 221 k1) (nI k1) = ms_sis S10 (4 * k1 + k6) := (by unfold ms_sis; rw [if_pos (by rw [(sc_sip (by omega) hwt2 hwt4 hxa2 hxa10), hcl2, c_50]; rfl), show (4 * k1 + k6) % 4 = k6 by omega, show (4 * k1 + k6) / 4 = k1 by omega, hxa2, show mn (nI xa) = xa from nI_clamp (by omega)])
                  have hpc := sj_pt_com (T := T) (t := nI k1) (show k6 < 4 by omega) hxa10 hz0 (show S10 221 k1 ≠ 0 by rcases hv2 with q | q <;> rw [q] <;> decide)
                  have hpd : sj_pt (ms_com S10 k6 xa (S10 221 k1) (nI k1)) T ≤ sj_pt (pz_it ms_sis (4 * T) S) T := by rw [eC, eS9]; exact sc_J_pt hM hJ (k := 4 * k1 + k6 + 1) (by omega)
                  refine pr_aload_n (pc := 53) C dX3_countSilence_53 rfl ?_
                  refine pr_aload_n (pc := 54) C dX3_countSilence_54 rfl ?_
                  refine pr_geta (pc := 55) C 160 260 wf_X3_11 rfl rfl (by decide) (pl_4 _) dX3_countSilence_55 ?_
                  refine pr_iload_n (pc := 58) C dX3_countSilence_58 rfl ?_
                  refine pr_alds (pc := 59) (n := 4) C 160 k6 rfl rfl rfl (pl_r4 (by decide)) rfl (by omega) (by decide) dX3_countSilence_59 ?_
                  refine pr_aload_n (pc := 60) C dX3_countSilence_60 rfl ?_
                  refine pr_geti (pc := 61) C 126 wf_X3_164 rfl (by decide) (pl_3 (sj_n0 hs (by first | assumption | omega))) dX3_countSilence_61 ?_
                  refine pr_eqi (v := S10 220 k1) (sj_r126 hs (by first | assumption | omega)) ?_
                  refine pr_eqi hxa2 ?_
                  refine pr_aload_n (pc := 64) C dX3_countSilence_64 rfl ?_
                  refine pr_geti (pc := 65) C 127 wf_X3_167 rfl (by decide) (pl_3 (sj_n0 hs (by first | assumption | omega))) dX3_countSilence_65 ?_
                  refine pr_eqi (v := S10 221 k1) (sj_r127 hs (by first | assumption | omega)) ?_
                  refine pr_aload_n (pc := 68) C dX3_countSilence_68 rfl ?_
                  refine pr_vC0 (pc := 69) (rest := []) C (c_X3_commit G _ K Sm S10 N O T D e z hs k6 xa k1 e (S10 221 k1) hx_k6.1 hx_k6.2.1.2.1 hx_k6.2.1.2.2.2.2.1 (by omega) hxa10 hkT (Or.inr hv2) (by omega)) wv_X3_340 rfl rfl (by decide) (by decide) (pl_4 _) (by decide) (by omega) (by omega) (fun z => absurd (ea.symm.trans z) (by decide)) (fun _ => ⟨trivial, ⟨⟨lr_kn (by decide), (pl_4 _)⟩, ⟨trivial, ⟨⟨lr_kn (by decide), (pl_3 (sj_n0 hs (by first | assumption | omega)))⟩, ⟨trivial, trivial⟩⟩⟩⟩⟩) dX3_countSilence_69 ?_
                  intro K N hs
                  refine pr_iincN (pc := 72) C dX3_countSilence_72 rfl k6 1 rfl rfl (by decide) ?_
                  refine pr_goto (pc := 75) C 34 dX3_countSilence_75 (by decide) ?_
                  refine pr_widen (a' := 2 * (sj_pt (ms_com S10 k6 xa (S10 221 k1) (nI k1)) T - sj_pt S T)) (b' := 1520 * (sj_pt (ms_com S10 k6 xa (S10 221 k1) (nI k1)) T - sj_pt S T)) (by omega) (by omega) ?_
                  exact ih9 (k6 + 1) (ms_com S10 k6 xa (S10 221 k1) (nI k1)) K N (by omega) (by omega) (by rw [pz_it_s, ← eS_k6]; unfold ms_si2 ms_sis; rw [if_pos (by rw [(sc_sip (by omega) hwt2 hwt4 hxa2 hxa10), hcl2, c_50]; rfl), show (4 * k1 + k6) % 4 = k6 by omega, show (4 * k1 + k6) / 4 = k1 by omega, hxa2, show mn (nI xa) = xa from nI_clamp (by omega)]) (sc_J_com hx_k6 hkT (by omega) hxa10 hv2) hs
          exact lp7 (4 + 1) 0 _ K N (by omega) (by omega) (pz_it_z _ _) hx_k1 hs
  refine pr_widen (a' := 2 * (sj_pt S T - sj_pt S T)) (b' := 1520 * (sj_pt S T - sj_pt S T)) (Nat.zero_le _) (Nat.zero_le _) ?_
  exact lp2 (T + 1) 0 _ K N (by omega) (by omega) (pz_it_z _ _) ⟨hM, hJ, Nat.le_refl _, fun _ _ _ _ _ => rfl⟩ hs

