/-! THE CLASS: who has the floor; what is still said is lost -/
/-- what the class holds for said, beside the rows: what is said since the last tick is SAID; else nothing, or what isn't SAID any more -/
def sc_Y (z : sj_Z) (S : Nat → Nat → Int32) (T : Nat) : Prop := ∀ i, i < 4 → (S 230 i ≠ -1 → z.2 i = S 230 i ∧ S 224 (mn (S 230 i)) = 0 ∧ S 218 (mn (S 230 i)) = nI i) ∧ (S 230 i = -1 → z.2 i = -1 ∨ ∃ t, t < T ∧ z.2 i = nI t ∧ S 224 t ≠ 0)
def sc_fi (S : Nat → Nat → Int32) : Int32 := if S 200 0 ≤ S 216 0 then S 215 0 else -1
theorem sc_fi_h {S : Nat → Nat → Int32} : ms_holder S = sc_fi S := by
  unfold ms_holder sc_fi
  by_cases c1 : S 215 0 = -1
  · rw [if_neg (fun q => q.1 c1), c1]
    split <;> rfl
  · by_cases c2 : S 200 0 ≤ S 216 0
    · rw [if_pos ⟨c1, c2⟩, if_pos c2]
    · rw [if_neg (fun q => c2 q.2), if_neg c2]
def sc_cs (S : Nat → Nat → Int32) (b : Int32) (k : Nat) : Int32 := if S 230 k ≠ -1 ∧ (b = -1 ∨ ¬ S 202 k ≤ S 202 (mn b)) then nI k else b
def sc_cb (S : Nat → Nat → Int32) (k : Nat) : Int32 := pz_it (sc_cs S) k (-1)
theorem sc_cb_s {S : Nat → Nat → Int32} {k : Nat} : sc_cb S (k + 1) = sc_cs S (sc_cb S k) k := rfl
theorem sc_cb_r {S : Nat → Nat → Int32} : ∀ k, k ≤ 4 → sc_cb S k = -1 ∨ ∃ m, m < k ∧ sc_cb S k = nI m ∧ S 230 m ≠ -1
  | 0, _ => Or.inl rfl
  | k + 1, hk => by
    have ih := sc_cb_r (S := S) k (by omega)
    rw [sc_cb_s]
    unfold sc_cs
    split
    · rename_i c
      exact Or.inr ⟨k, by omega, rfl, c.1⟩
    · rcases ih with e | ⟨m, g1, g2, g3⟩
      · exact Or.inl e
      · exact Or.inr ⟨m, by omega, g2, g3⟩
/-- the one with the right has said something -/
theorem sc_best1 {S : Nat → Nat → Int32} {k : Nat} (hk : k < 4) (h1 : S 230 k ≠ -1) (h2 : nI k = sc_fi S) : ms_best S = nI k := by
  have e0 : ms_b0 S = nI k := by
    unfold ms_b0
    rw [sc_fi_h, ← h2, if_pos]
    exact ⟨nI_nm (by omega), by rw [show mn (nI k) = k from nI_clamp (by omega)]; exact h1⟩
  have e1 : ms_bk S 0 = nI k := e0
  have := ms_bk_stay (S := S) (k := 0) (by rw [e1]; exact nI_nm (by omega)) (by rw [e1, sc_fi_h, h2]) 4
  rw [e1] at this
  exact this
/-- nobody with the right has said anything -/
theorem sc_best2 {S : Nat → Nat → Int32} {T : Nat} (hM : mw_S S T) (hn : ∀ j, j < 4 → S 230 j ≠ -1 → nI j ≠ sc_fi S) : ms_best S = sc_cb S 4 := by
  have e0 : ms_b0 S = -1 := by
    unfold ms_b0
    rw [if_neg]
    rintro ⟨h1, h2⟩
    rcases ms_holder_r hM with e | ⟨r, g1, g2⟩
    · exact h1 e
    · rw [g2, show mn (nI r) = r from nI_clamp (by omega)] at h2
      exact hn r g1 h2 (g2.symm.trans sc_fi_h)
  have key : ∀ k, k ≤ 4 → ms_bk S k = sc_cb S k := by
    intro k
    induction k with
    | zero => intro _; exact e0
    | succ k ih =>
      intro hk
      have e := ih (by omega)
      rw [ms_bk_s, sc_cb_s, e]
      unfold ms_bst sc_cs
      rw [if_neg]
      rintro ⟨h1, h2⟩
      rcases sc_cb_r (S := S) k (by omega) with q | ⟨m, g1, g2, g3⟩
      · exact h1 q
      · exact hn m (by omega) g3 (g2.symm.trans (h2.trans sc_fi_h))
  exact key 4 (by omega)
/-- a speaker's turn -/
def sc_ct (S : Nat → Nat → Int32) (b : Int32) : Option pa_Nm := if b = -1 then none else some (3, mn (S 230 (mn b)))
theorem sc_ct1 {S : Nat → Nat → Int32} {m tm : Nat} (hm : m < 4) (e : S 230 m = nI tm) (ht : tm < 100) : sc_ct S (nI m) = some (3, tm) := by
  unfold sc_ct
  rw [if_neg (nI_nm (by omega)), show mn (nI m) = m from nI_clamp (by omega), e, show mn (nI tm) = tm from nI_clamp (by omega)]
theorem sc_ct0 {S : Nat → Nat → Int32} : sc_ct S (-1) = none := if_pos rfl
theorem sc_cs0 {S : Nat → Nat → Int32} {b : Int32} {k : Nat} (h : S 230 k = -1) : sc_cs S b k = b := if_neg (fun q => q.1 h)
theorem sc_cs1 {S : Nat → Nat → Int32} {k : Nat} (h : S 230 k ≠ -1) : sc_cs S (-1) k = nI k := if_pos ⟨h, Or.inl rfl⟩
theorem sc_cs2 {S : Nat → Nat → Int32} {k m : Nat} (hm : m < 4) (h : S 230 k ≠ -1) (c : ¬ S 202 k ≤ S 202 m) : sc_cs S (nI m) k = nI k := if_pos ⟨h, Or.inr (by rw [show mn (nI m) = m from nI_clamp (by omega)]; exact c)⟩
theorem sc_cs3 {S : Nat → Nat → Int32} {k m : Nat} (hm : m < 4) (c : S 202 k ≤ S 202 m) : sc_cs S (nI m) k = nI m := if_neg (fun q => by
  rcases q.2 with e | e
  · exact nI_nm (by omega) e
  · rw [show mn (nI m) = m from nI_clamp (by omega)] at e
    exact e c)
theorem pz_nx0 {p : Nat → Prop} {k : Nat} (h : ∀ j, j < k → p j) (hk : p k) : ∀ j, j < k + 1 → p j := fun j hj => by
  rcases Nat.lt_or_ge j k with q | q
  · exact h j q
  · rw [show j = k by omega]; exact hk
theorem sj_st0 {K : Nat → Nat → Nat → Int32} {N : Nat → Nat} {T D e : Nat} {z : sj_Z} {S : Nat → Nat → Int32} (h : sj_M K N T D z e S) (hz : z.1 = false) {i : Nat} (hi : i < D) : K 128 i 0 = S 224 i := by
  rcases sj_r128 h hi with q | ⟨q, -⟩
  · exact q
  · rw [hz] at q; cases q
theorem pr_los {G : pa_G} {x : pa_X} {nL : Nat} {h : pa_H} {a b pc : Nat} {lo lo' : List (Option pa_V)} {st : List pa_V} (e : lo = lo') (k : pa_w G x nL h a b pc lo' st) : pa_w G x nL h a b pc lo st := e ▸ k
set_option maxRecDepth 100000 in
set_option maxHeartbeats 4000000 in
theorem c_X3_turnWithFloor (G : pa_G) (l : Launch) (K : Nat → Nat → Nat → Int32) (Sm S : Nat → Nat → Int32) (N : Nat → Nat) (O : Nat → Int64) (T D e : Nat) (z : sj_Z) (hs : sj_M K N T D z e S) (hM : mw_S S T) (hz : z.1 = false) (hY : sc_Y z S T) : pa_MP G l mX3_turnWithFloor 3 [pv_o 4 0] (K, Sm, N, O) (pv_r (sc_ct S (ms_best S))) := by
  refine pa_go l (by decide) (by simp [pa_c1l, pa_c1]) (fun _ => rfl) fun x C E el ea => ?_
  subst el
  have hT := hM.1.1
  have hTD := sj_TD hs
  show pa_w G x 5 (K, Sm, N, O) 0 0 0 [some (pv_o 4 0), none, none, none, none] []
  refine pr_aload_n (pc := 0) C dX3_turnWithFloor_0 rfl ?_
  refine pr_vP (pc := 1) C (c_X3_next G _ K Sm S N O T D e z hs) wv_X3_306 rfl rfl (by decide) (by decide) (pl_4 _) (Nat.le_of_ble_eq_true rfl) (by omega) (by omega) dX3_turnWithFloor_1 ?_
  refine pr_istore_n (pc := 4) C dX3_turnWithFloor_4 (by decide) ?_
  refine pr_null (pc := 5) C dX3_turnWithFloor_5 ?_
  refine pr_astore_n (pc := 6) C dX3_turnWithFloor_6 (by decide) ?_
  refine pr_los (lo' := [some (pv_o 4 0), some (pv_i (sc_fi S)), some (pv_r (sc_ct S (sc_cb S 0))), none, none]) (by rw [show sc_ct S (sc_cb S 0) = none from sc_ct0]; rfl) ?_
  refine pr_iconst (pc := 7) (v := 0) C dX3_turnWithFloor_7 (by decide) ?_
  refine pr_istore_n (pc := 8) C dX3_turnWithFloor_8 (by decide) ?_
  have lp2 : ∀ (n3 k1 : Nat), k1 ≤ 4 → 4 < k1 + n3 → (∀ j, j < k1 → (fun j => S 230 j ≠ -1 → nI j ≠ sc_fi S) j) → pa_w G x 5 (K, Sm, N, O) 0 0 9 [some (pv_o 4 0), some (pv_i (sc_fi S)), some (pv_r (sc_ct S (sc_cb S k1))), some (pv_i (nI k1)), none] [] := by
    intro n3
    induction n3 with
    | zero => intro k1 h1 h2; exact absurd h2 (by omega)
    | succ n3 ih4 =>
      intro k1 hk1_k1 hk2_k1 hx_k1
      refine pr_iload_n (pc := 9) C dX3_turnWithFloor_9 rfl ?_
      refine pr_iconst (pc := 10) (v := 4) C dX3_turnWithFloor_10 (by decide) ?_
      refine pr_icmp_geN (pc := 11) C 77 k1 4 dX3_turnWithFloor_11 (by decide) rfl rfl (by omega) (by omega) (fun c_11 => ?_) (fun c_11 => ?_)
      · obtain rfl : 4 = k1 := by omega
        refine pr_aload_n (pc := 77) C dX3_turnWithFloor_77 rfl ?_
        exact pr_aret (pc := 78) C E (by omega) (by omega) ⟨by rw [sc_best2 hM hx_k1], rfl⟩ dX3_turnWithFloor_78
      · have hk4 : k1 < 4 := by omega
        by_cases hsay : S 230 k1 = -1
        · -- it has said nothing
          rcases (hY k1 hk4).2 hsay with hg | ⟨tv, ltT, hg, h0⟩
          · -- null
            refine pr_aload_n (pc := 14) C dX3_turnWithFloor_14 rfl ?_
            refine pr_geta (pc := 15) C 160 260 wf_X3_11 rfl rfl (by decide) (pl_4 _) dX3_turnWithFloor_15 ?_
            refine pr_iload_n (pc := 18) C dX3_turnWithFloor_18 rfl ?_
            refine pr_alds (pc := 19) (n := 4) C 160 k1 rfl rfl rfl (pl_r4 (by decide)) rfl (by omega) (by decide) dX3_turnWithFloor_19 ?_
            refine pr_gett (pc := 20) C 47 wf_X3_111 rfl rfl (pl_1 (by first | assumption | omega)) dX3_turnWithFloor_20 ?_
            refine pr_eqr (v := none) (by show pa_rc 3 (K 47 k1 0) = none; rw [sj_r47 hs hk4, hg]; rfl) ?_
            refine pr_astore (pc := 23) C dX3_turnWithFloor_23 (by decide) ?_
            refine pr_aload (pc := 25) C dX3_turnWithFloor_25 rfl ?_
            refine pr_ifnull0 (pc := 27) C 71 dX3_turnWithFloor_27 (by decide) ?_
            refine pr_los (lo' := [some (pv_o 4 0), some (pv_i (sc_fi S)), some (pv_r (sc_ct S (sc_cb S (k1 + 1)))), some (pv_i (nI k1)), some (pv_r none)]) (by rw [← (show sc_ct S (sc_cb S k1) = sc_ct S (sc_cb S (k1 + 1)) by rw [sc_cb_s, sc_cs0 hsay])]; rfl) ?_
            refine pr_iincN (pc := 71) C dX3_turnWithFloor_71 rfl k1 1 rfl rfl (by decide) ?_
            refine pr_goto (pc := 74) C 9 dX3_turnWithFloor_74 (by decide) ?_
            refine pr_lo (lo' := [some (pv_o 4 0), some (pv_i (sc_fi S)), some (pv_r (sc_ct S (sc_cb S (k1 + 1)))), some (pv_i (nI (k1 + 1))), none]) (show pa_lle [some (pv_o 4 0), some (pv_i (sc_fi S)), some (pv_r (sc_ct S (sc_cb S (k1 + 1)))), some (pv_i (nI (k1 + 1))), none] [some (pv_o 4 0), some (pv_i (sc_fi S)), some (pv_r (sc_ct S (sc_cb S (k1 + 1)))), some (pv_i (nI (k1 + 1))), some (pv_r none)] by simp [pa_lle]) ?_
            exact ih4 (k1 + 1) (by omega) (by omega) (pz_nx0 (p := (fun j => S 230 j ≠ -1 → nI j ≠ sc_fi S)) hx_k1 (fun q => absurd hsay q))
          · -- done with
            have h128 : K 128 tv 0 = S 224 tv := sj_st0 hs hz (by omega)
            refine pr_aload_n (pc := 14) C dX3_turnWithFloor_14 rfl ?_
            refine pr_geta (pc := 15) C 160 260 wf_X3_11 rfl rfl (by decide) (pl_4 _) dX3_turnWithFloor_15 ?_
            refine pr_iload_n (pc := 18) C dX3_turnWithFloor_18 rfl ?_
            refine pr_alds (pc := 19) (n := 4) C 160 k1 rfl rfl rfl (pl_r4 (by decide)) rfl (by omega) (by decide) dX3_turnWithFloor_19 ?_
            refine pr_gett (pc := 20) C 47 wf_X3_111 rfl rfl (pl_1 (by first | assumption | omega)) dX3_turnWithFloor_20 ?_
            refine pr_eqr (v := some (3, tv)) (by show pa_rc 3 (K 47 k1 0) = some (3, tv); rw [sj_r47 hs hk4, hg]; exact pa_rc_nI (by omega)) ?_
            refine pr_astore (pc := 23) C dX3_turnWithFloor_23 (by decide) ?_
            refine pr_aload (pc := 25) C dX3_turnWithFloor_25 rfl ?_
            refine pr_ifnull1 (pc := 27) C dX3_turnWithFloor_27 ?_
            refine pr_aload (pc := 30) C dX3_turnWithFloor_30 rfl ?_
            refine pr_geti (pc := 32) C 128 wf_X3_176 rfl (by decide) (pl_3 (sj_n0 hs (by first | assumption | omega))) dX3_turnWithFloor_32 ?_
            refine pr_eqi (v := S 224 tv) h128 ?_
            refine pr_if_ne (pc := 35) C 71 dX3_turnWithFloor_35 (by decide) (fun c_35 => ?_) (fun c_35 => absurd c_35 h0)
            refine pr_los (lo' := [some (pv_o 4 0), some (pv_i (sc_fi S)), some (pv_r (sc_ct S (sc_cb S (k1 + 1)))), some (pv_i (nI k1)), some (pv_o 3 tv)]) (by rw [← (show sc_ct S (sc_cb S k1) = sc_ct S (sc_cb S (k1 + 1)) by rw [sc_cb_s, sc_cs0 hsay])]; rfl) ?_
            refine pr_iincN (pc := 71) C dX3_turnWithFloor_71 rfl k1 1 rfl rfl (by decide) ?_
            refine pr_goto (pc := 74) C 9 dX3_turnWithFloor_74 (by decide) ?_
            refine pr_lo (lo' := [some (pv_o 4 0), some (pv_i (sc_fi S)), some (pv_r (sc_ct S (sc_cb S (k1 + 1)))), some (pv_i (nI (k1 + 1))), none]) (show pa_lle [some (pv_o 4 0), some (pv_i (sc_fi S)), some (pv_r (sc_ct S (sc_cb S (k1 + 1)))), some (pv_i (nI (k1 + 1))), none] [some (pv_o 4 0), some (pv_i (sc_fi S)), some (pv_r (sc_ct S (sc_cb S (k1 + 1)))), some (pv_i (nI (k1 + 1))), some (pv_o 3 tv)] by simp [pa_lle]) ?_
            exact ih4 (k1 + 1) (by omega) (by omega) (pz_nx0 (p := (fun j => S 230 j ≠ -1 → nI j ≠ sc_fi S)) hx_k1 (fun q => absurd hsay q))
        · -- it has said tv
          obtain ⟨eN, ltT, -⟩ := mw_S_N hM hk4 hsay
          obtain ⟨hg, h0, hwv⟩ := (hY k1 hk4).1 hsay
          generalize htv : mn (S 230 k1) = tv at eN ltT h0 hwv
          rw [eN] at hg
          have h128 : K 128 tv 0 = S 224 tv := sj_st0 hs hz (by omega)
          refine pr_aload_n (pc := 14) C dX3_turnWithFloor_14 rfl ?_
          refine pr_geta (pc := 15) C 160 260 wf_X3_11 rfl rfl (by decide) (pl_4 _) dX3_turnWithFloor_15 ?_
          refine pr_iload_n (pc := 18) C dX3_turnWithFloor_18 rfl ?_
          refine pr_alds (pc := 19) (n := 4) C 160 k1 rfl rfl rfl (pl_r4 (by decide)) rfl (by omega) (by decide) dX3_turnWithFloor_19 ?_
          refine pr_gett (pc := 20) C 47 wf_X3_111 rfl rfl (pl_1 (by first | assumption | omega)) dX3_turnWithFloor_20 ?_
          refine pr_eqr (v := some (3, tv)) (by show pa_rc 3 (K 47 k1 0) = some (3, tv); rw [sj_r47 hs hk4, hg]; exact pa_rc_nI (by omega)) ?_
          refine pr_astore (pc := 23) C dX3_turnWithFloor_23 (by decide) ?_
          refine pr_aload (pc := 25) C dX3_turnWithFloor_25 rfl ?_
          refine pr_ifnull1 (pc := 27) C dX3_turnWithFloor_27 ?_
          refine pr_aload (pc := 30) C dX3_turnWithFloor_30 rfl ?_
          refine pr_geti (pc := 32) C 128 wf_X3_176 rfl (by decide) (pl_3 (sj_n0 hs (by first | assumption | omega))) dX3_turnWithFloor_32 ?_
          refine pr_eqi (v := (0 : Int32)) (h128.trans h0) ?_
          refine pr_if_ne (pc := 35) C 71 dX3_turnWithFloor_35 (by decide) (fun c_35 => absurd c_35 (by decide)) (fun _ => ?_)
          refine pr_iload_n (pc := 38) C dX3_turnWithFloor_38 rfl ?_
          refine pr_iload_n (pc := 39) C dX3_turnWithFloor_39 rfl ?_
          refine pr_icmp_ne (pc := 40) C 46 dX3_turnWithFloor_40 (by decide) (fun c_40 => ?_) (fun c_40 => ?_)
          · refine pr_aload_n (pc := 46) C dX3_turnWithFloor_46 rfl ?_
            rcases sc_cb_r (S := S) k1 (by omega) with eb | ⟨m, ltm, eb, hbm⟩
            · -- none
              refine pr_eqr (v := none) (by rw [eb]; exact sc_ct0) ?_
              refine pr_ifnull0 (pc := 47) C 68 dX3_turnWithFloor_47 (by decide) ?_
              refine pr_aload (pc := 68) C dX3_turnWithFloor_68 rfl ?_
              refine pr_astore_n (pc := 70) C dX3_turnWithFloor_70 (by decide) ?_
              refine pr_los (lo' := [some (pv_o 4 0), some (pv_i (sc_fi S)), some (pv_r (sc_ct S (sc_cb S (k1 + 1)))), some (pv_i (nI k1)), some (pv_o 3 tv)]) (by rw [← (show some (3, tv) = sc_ct S (sc_cb S (k1 + 1)) by rw [sc_cb_s, eb, sc_cs1 hsay]; exact (sc_ct1 hk4 eN (by omega)).symm)]; rfl) ?_
              refine pr_iincN (pc := 71) C dX3_turnWithFloor_71 rfl k1 1 rfl rfl (by decide) ?_
              refine pr_goto (pc := 74) C 9 dX3_turnWithFloor_74 (by decide) ?_
              refine pr_lo (lo' := [some (pv_o 4 0), some (pv_i (sc_fi S)), some (pv_r (sc_ct S (sc_cb S (k1 + 1)))), some (pv_i (nI (k1 + 1))), none]) (show pa_lle [some (pv_o 4 0), some (pv_i (sc_fi S)), some (pv_r (sc_ct S (sc_cb S (k1 + 1)))), some (pv_i (nI (k1 + 1))), none] [some (pv_o 4 0), some (pv_i (sc_fi S)), some (pv_r (sc_ct S (sc_cb S (k1 + 1)))), some (pv_i (nI (k1 + 1))), some (pv_o 3 tv)] by simp [pa_lle]) ?_
              exact ih4 (k1 + 1) (by omega) (by omega) (pz_nx0 (p := (fun j => S 230 j ≠ -1 → nI j ≠ sc_fi S)) hx_k1 (fun _ => c_40))
            · -- m
              obtain ⟨eNm, ltTm, -⟩ := mw_S_N hM (show m < 4 by omega) hbm
              obtain ⟨hgm, -, hwm⟩ := (hY m (by omega)).1 hbm
              generalize htm : mn (S 230 m) = tm at eNm ltTm hwm
              have ebt : sc_ct S (sc_cb S k1) = some (3, tm) := by rw [eb]; exact sc_ct1 (by omega) eNm (by omega)
              refine pr_eqr (v := some (3, tm)) ebt ?_
              refine pr_ifnull1 (pc := 47) C dX3_turnWithFloor_47 ?_
              refine pr_aload (pc := 50) C dX3_turnWithFloor_50 rfl ?_
              refine pr_gets (pc := 52) C 120 wf_X3_105 rfl rfl (pl_3 (sj_n0 hs (by first | assumption | omega))) k1 ((sj_r120 hs (by first | assumption | omega)).trans hwv) (by first | assumption | omega) dX3_turnWithFloor_52 ?_
              refine pr_geti (pc := 55) C 41 wf_X3_46 rfl (by decide) (pl_1 (by first | assumption | omega)) dX3_turnWithFloor_55 ?_
              refine pr_eqi (v := S 202 k1) (sj_r41 hs (by first | assumption | omega)) ?_
              refine pr_aload_n (pc := 58) C dX3_turnWithFloor_58 rfl ?_
              refine pr_eqr (v := some (3, tm)) ebt ?_
              refine pr_gets (pc := 59) C 120 wf_X3_105 rfl rfl (pl_3 (sj_n0 hs (by first | assumption | omega))) m ((sj_r120 hs (by first | assumption | omega)).trans hwm) (by first | assumption | omega) dX3_turnWithFloor_59 ?_
              refine pr_geti (pc := 62) C 41 wf_X3_46 rfl (by decide) (pl_1 (by first | assumption | omega)) dX3_turnWithFloor_62 ?_
              refine pr_eqi (v := S 202 m) (sj_r41 hs (by first | assumption | omega)) ?_
              refine pr_icmp_le (pc := 65) C 71 dX3_turnWithFloor_65 (by decide) (fun c_65 => ?_) (fun c_65 => ?_)
              · refine pr_los (lo' := [some (pv_o 4 0), some (pv_i (sc_fi S)), some (pv_r (sc_ct S (sc_cb S (k1 + 1)))), some (pv_i (nI k1)), some (pv_o 3 tv)]) (by rw [← (show sc_ct S (sc_cb S k1) = sc_ct S (sc_cb S (k1 + 1)) by rw [sc_cb_s, eb, sc_cs3 (by omega) c_65])]; rfl) ?_
                refine pr_iincN (pc := 71) C dX3_turnWithFloor_71 rfl k1 1 rfl rfl (by decide) ?_
                refine pr_goto (pc := 74) C 9 dX3_turnWithFloor_74 (by decide) ?_
                refine pr_lo (lo' := [some (pv_o 4 0), some (pv_i (sc_fi S)), some (pv_r (sc_ct S (sc_cb S (k1 + 1)))), some (pv_i (nI (k1 + 1))), none]) (show pa_lle [some (pv_o 4 0), some (pv_i (sc_fi S)), some (pv_r (sc_ct S (sc_cb S (k1 + 1)))), some (pv_i (nI (k1 + 1))), none] [some (pv_o 4 0), some (pv_i (sc_fi S)), some (pv_r (sc_ct S (sc_cb S (k1 + 1)))), some (pv_i (nI (k1 + 1))), some (pv_o 3 tv)] by simp [pa_lle]) ?_
                exact ih4 (k1 + 1) (by omega) (by omega) (pz_nx0 (p := (fun j => S 230 j ≠ -1 → nI j ≠ sc_fi S)) hx_k1 (fun _ => c_40))
              · refine pr_aload (pc := 68) C dX3_turnWithFloor_68 rfl ?_
                refine pr_astore_n (pc := 70) C dX3_turnWithFloor_70 (by decide) ?_
                refine pr_los (lo' := [some (pv_o 4 0), some (pv_i (sc_fi S)), some (pv_r (sc_ct S (sc_cb S (k1 + 1)))), some (pv_i (nI k1)), some (pv_o 3 tv)]) (by rw [← (show some (3, tv) = sc_ct S (sc_cb S (k1 + 1)) by rw [sc_cb_s, eb, sc_cs2 (by omega) hsay c_65]; exact (sc_ct1 hk4 eN (by omega)).symm)]; rfl) ?_
                refine pr_iincN (pc := 71) C dX3_turnWithFloor_71 rfl k1 1 rfl rfl (by decide) ?_
                refine pr_goto (pc := 74) C 9 dX3_turnWithFloor_74 (by decide) ?_
                refine pr_lo (lo' := [some (pv_o 4 0), some (pv_i (sc_fi S)), some (pv_r (sc_ct S (sc_cb S (k1 + 1)))), some (pv_i (nI (k1 + 1))), none]) (show pa_lle [some (pv_o 4 0), some (pv_i (sc_fi S)), some (pv_r (sc_ct S (sc_cb S (k1 + 1)))), some (pv_i (nI (k1 + 1))), none] [some (pv_o 4 0), some (pv_i (sc_fi S)), some (pv_r (sc_ct S (sc_cb S (k1 + 1)))), some (pv_i (nI (k1 + 1))), some (pv_o 3 tv)] by simp [pa_lle]) ?_
                exact ih4 (k1 + 1) (by omega) (by omega) (pz_nx0 (p := (fun j => S 230 j ≠ -1 → nI j ≠ sc_fi S)) hx_k1 (fun _ => c_40))
          · refine pr_aload (pc := 43) C dX3_turnWithFloor_43 rfl ?_
            exact pr_aret (pc := 45) C E (by omega) (by omega) ⟨by rw [sc_best1 hk4 hsay c_40, sc_ct1 hk4 eN (by omega)], rfl⟩ dX3_turnWithFloor_45
  exact lp2 (4 + 1) 0 (by omega) (by omega) (fun j hj => absurd hj (by omega))

section LOSE
variable {K : Nat → Nat → Nat → Int32} {N : Nat → Nat} {T D e : Nat} {z z' : sj_Z} {S : Nat → Nat → Int32}
theorem sj_zeq (h : z = z') (hs : sj_M K N T D z e S) : sj_M K N T D z' e S := h ▸ hs
/-- what a speaker says is written -/
theorem sj_w47 (hs : sj_M K N T D z e S) {i : Nat} {v : Int32} (h0 : ∀ t, t < D → z.2 i = nI t → K 128 t 0 = S 224 t) : sj_M (pa_up K 47 i 0 v) N T D (z.1, fun j => if j = i then v else z.2 j) e S := by
  have eK : ∀ f, f ≠ 47 → ∀ o j, pa_up K 47 i 0 v f o j = K f o j := fun f h1 o j => pa_up_ne h1
  obtain ⟨hP, hN, a40, a125, a163, a47, a128, a51, a52, a53, ast, aphi⟩ := hs
  have hf : ∀ j c, sj_fs (pa_up K 47 i 0 v) j c = sj_fs K j c := fun j c => by
    funext v n
    unfold sj_fs
    rw [eK 80 (by decide), eK 81 (by decide), eK 82 (by decide)]
  refine ⟨sj_P_of hP (fun q hq o j => eK q.1 ?_ o j) (fun q hq j => rfl), hN, ?_, ?_, fun j hj => ?_, ?_, ?_, ?_, ?_, ?_, ?_, aphi⟩
  · have : ∀ q ∈ sj_T, q.1 ≠ 47 := by decide
    exact this q hq
  · exact fun i hi => (eK 40 (by decide) i 0).trans (a40 i hi)
  · exact fun i hi => (eK 125 (by decide) i 0).trans (a125 i hi)
  · rw [eK 163 (by decide)]
    exact a163 j hj
  · intro j hj
    rw [pa_up_at0]
    by_cases c : j = i
    · rw [if_pos c]
      exact (if_pos c).symm
    · rw [if_neg c]
      exact (a47 j hj).trans (if_neg c).symm
  · intro t ht
    rw [eK 128 (by decide)]
    rcases a128 t ht with q | ⟨q1, ⟨j, q2, q3⟩, q4, q5⟩
    · exact Or.inl q
    · by_cases c : j = i
      · subst c
        exact Or.inl (h0 t ht q3)
      · exact Or.inr ⟨q1, ⟨j, q2, (if_neg c).trans q3⟩, q4, q5⟩
  · intro i j hi hj
    rw [eK 51 (by decide)]
    exact a51 i j hi hj
  · intro i j hi hj
    rw [eK 52 (by decide)]
    exact a52 i j hi hj
  · intro i j hi hj
    rw [eK 53 (by decide)]
    exact a53 i j hi hj
  · intro i j hi hj
    rw [hf]
    exact ast i j hi hj
/-- a turn that counts as lost is written so -/
theorem sj_w128l (hs : sj_M K N T D z e S) {t : Nat} (h : S 224 t = 2) : sj_M (pa_up K 128 t 0 2) N T D z e S ∧ pa_up K 128 t 0 2 128 t 0 = S 224 t := by
  refine ⟨?_, by rw [pa_up_self, h]⟩
  have := sj_w128 hs (t := t) (v := 2) (by decide)
  rw [← h, pa_us_same, h] at this
  exact this
/-- the first k have nothing said any more -/
def sc_zk (z : sj_Z) (k : Nat) : sj_Z := (z.1, fun j => if j < k then -1 else z.2 j)
theorem sc_zk0 : z = sc_zk z 0 := by
  unfold sc_zk
  simp
theorem sc_zks {k : Nat} : ((sc_zk z k).1, fun j => if j = k then -1 else (sc_zk z k).2 j) = sc_zk z (k + 1) := by
  unfold sc_zk
  simp only [Prod.mk.injEq, true_and]
  funext j
  by_cases c : j = k
  · rw [if_pos c, if_pos (by omega)]
  · rw [if_neg c]
    by_cases c2 : j < k
    · rw [if_pos c2, if_pos (by omega)]
    · rw [if_neg c2, if_neg (by omega)]
def sc_zf : sj_Z := (false, fun _ => -1)
theorem sc_zend (hs : sj_M K N T D (sc_zk z 4) e S) (hD : D ≤ 900) : sj_M K N T D sc_zf e S := by
  obtain ⟨hP, hN, a40, a125, a163, a47, a128, a51, a52, a53, ast, aphi⟩ := hs
  refine ⟨hP, hN, a40, a125, a163, fun i hi => (a47 i hi).trans (if_pos hi), fun t ht => ?_, a51, a52, a53, ast, aphi⟩
  rcases a128 t ht with q | ⟨q1, ⟨j, q2, q3⟩, q4, q5⟩
  · exact Or.inl q
  · exact absurd (((if_pos q2).symm.trans q3).symm) (nI_nm (by omega))
def sc_id (S : Nat → Nat → Int32) (_ : Nat) : Nat → Nat → Int32 := S
theorem sc_id_it {S : Nat → Nat → Int32} : ∀ n, pz_it sc_id n S = S
  | 0 => rfl
  | n + 1 => sc_id_it n
end LOSE
set_option maxRecDepth 100000 in
set_option maxHeartbeats 4000000 in
theorem c_X3_loseWhatIsStillSaid (G : pa_G) (l : Launch) (K : Nat → Nat → Nat → Int32) (Sm S : Nat → Nat → Int32) (N : Nat → Nat) (O : Nat → Int64) (T D e : Nat) (z : sj_Z) (hs : sj_M K N T D z e S) (hT : T ≤ 100) (hD : D ≤ 900) (hg0 : ∀ i, i < 4 → z.2 i = -1 ∨ ∃ t, t < T ∧ z.2 i = nI t ∧ S 224 t ≠ 0) : pa_M G l mX3_loseWhatIsStillSaid 1 false [pv_o 4 0] (K, Sm, N, O) 0 0 (sj_post none Sm O T D sc_zf e S) := by
  refine pa_go l (by decide) (by simp [pa_c1l, pa_c1]) (fun _ => rfl) fun x C E el ea => ?_
  subst el
  have hTD := sj_TD hs
  show pa_w G x 3 (K, Sm, N, O) 0 0 0 [some (pv_o 4 0), none, none] []
  refine pr_iconst (pc := 0) (v := 0) C dX3_loseWhatIsStillSaid_0 (by decide) ?_
  refine pr_sim (sj_zeq sc_zk0 hs) ?_
  intro K N hs
  refine pr_istore_n (pc := 1) C dX3_loseWhatIsStillSaid_1 (by decide) ?_
  have lp2 : ∀ (n3 k1 : Nat) (S5 : Nat → Nat → Int32) (K : Nat → Nat → Nat → Int32) (N : Nat → Nat), k1 ≤ 4 → 4 < k1 + n3 → S5 = pz_it sc_id k1 S → sj_M K N T D (sc_zk z k1) e S5 → pa_w G x 3 (K, Sm, N, O) 0 0 2 [some (pv_o 4 0), some (pv_i (nI k1)), none] [] := by
    intro n3
    induction n3 with
    | zero => intro k1 S5 K N h1 h2; exact absurd h2 (by omega)
    | succ n3 ih4 =>
      intro k1 S5 K N hk1_k1 hk2_k1 eS_k1 hs
      have eS0 : S5 = S := eS_k1.trans (sc_id_it _)
      refine pr_iload_n (pc := 2) C dX3_loseWhatIsStillSaid_2 rfl ?_
      refine pr_iconst (pc := 3) (v := 4) C dX3_loseWhatIsStillSaid_3 (by decide) ?_
      refine pr_icmp_geN (pc := 4) C 49 k1 4 dX3_loseWhatIsStillSaid_4 (by decide) rfl rfl (by omega) (by omega) (fun c_4 => ?_) (fun c_4 => ?_)
      · obtain rfl : 4 = k1 := by omega
        exact pr_vret (pc := 49) C E (by omega) (by omega) ⟨rfl, K, N, rfl, sj_eq (eS_k1.trans (sc_id_it _)) (sc_zend hs hD)⟩ dX3_loseWhatIsStillSaid_49
      · have hk4 : k1 < 4 := by omega
        have hg := hg0 k1 hk4
        rw [← eS0] at hg
        have ez : (sc_zk z k1).2 k1 = z.2 k1 := if_neg (by omega)
        rcases hg with hg | ⟨tv, ltT, hg, h0⟩
        · -- null
          refine pr_aload_n (pc := 7) C dX3_loseWhatIsStillSaid_7 rfl ?_
          refine pr_geta (pc := 8) C 160 260 wf_X3_11 rfl rfl (by decide) (pl_4 _) dX3_loseWhatIsStillSaid_8 ?_
          refine pr_iload_n (pc := 11) C dX3_loseWhatIsStillSaid_11 rfl ?_
          refine pr_alds (pc := 12) (n := 4) C 160 k1 rfl rfl rfl (pl_r4 (by decide)) rfl (by omega) (by decide) dX3_loseWhatIsStillSaid_12 ?_
          refine pr_gett (pc := 13) C 47 wf_X3_111 rfl rfl (pl_1 (by first | assumption | omega)) dX3_loseWhatIsStillSaid_13 ?_
          refine pr_eqr (v := none) (by show pa_rc 3 (K 47 k1 0) = none; rw [sj_r47 hs hk4, ez, hg]; rfl) ?_
          refine pr_astore_n (pc := 16) C dX3_loseWhatIsStillSaid_16 (by decide) ?_
          refine pr_aload_n (pc := 17) C dX3_loseWhatIsStillSaid_17 rfl ?_
          refine pr_ifnull0 (pc := 18) C 33 dX3_loseWhatIsStillSaid_18 (by decide) ?_
          have hz9 := sj_zeq sc_zks (sj_w47 (i := k1) (v := -1) hs (fun t ht q => absurd (hg.symm.trans (ez.symm.trans q)).symm (nI_nm (by omega))))
          refine pr_aload_n (pc := 33) C dX3_loseWhatIsStillSaid_33 rfl ?_
          refine pr_geta (pc := 34) C 160 260 wf_X3_11 rfl rfl (by decide) (pl_4 _) dX3_loseWhatIsStillSaid_34 ?_
          refine pr_iload_n (pc := 37) C dX3_loseWhatIsStillSaid_37 rfl ?_
          refine pr_alds (pc := 38) (n := 4) C 160 k1 rfl rfl rfl (pl_r4 (by decide)) rfl (by omega) (by decide) dX3_loseWhatIsStillSaid_38 ?_
          refine pr_null (pc := 39) C dX3_loseWhatIsStillSaid_39 ?_
          refine pr_putt (pc := 40) C 47 (-1) wp_X3_111 rfl (by decide) rfl (by decide) (by decide) (pl_1 (by first | assumption | omega)) dX3_loseWhatIsStillSaid_40 ?_
          refine pr_sim hz9 ?_
          intro K N hs
          refine pr_iincN (pc := 43) C dX3_loseWhatIsStillSaid_43 rfl k1 1 rfl rfl (by decide) ?_
          refine pr_goto (pc := 46) C 2 dX3_loseWhatIsStillSaid_46 (by decide) ?_
          refine pr_lo (lo' := [some (pv_o 4 0), some (pv_i (nI (k1 + 1))), none]) (show pa_lle [some (pv_o 4 0), some (pv_i (nI (k1 + 1))), none] [some (pv_o 4 0), some (pv_i (nI (k1 + 1))), some (pv_r none)] by simp [pa_lle]) ?_
          exact ih4 (k1 + 1) S5 K N (by omega) (by omega) (by rw [pz_it_s, ← eS_k1]; rfl) hs
        · -- a turn
          refine pr_aload_n (pc := 7) C dX3_loseWhatIsStillSaid_7 rfl ?_
          refine pr_geta (pc := 8) C 160 260 wf_X3_11 rfl rfl (by decide) (pl_4 _) dX3_loseWhatIsStillSaid_8 ?_
          refine pr_iload_n (pc := 11) C dX3_loseWhatIsStillSaid_11 rfl ?_
          refine pr_alds (pc := 12) (n := 4) C 160 k1 rfl rfl rfl (pl_r4 (by decide)) rfl (by omega) (by decide) dX3_loseWhatIsStillSaid_12 ?_
          refine pr_gett (pc := 13) C 47 wf_X3_111 rfl rfl (pl_1 (by first | assumption | omega)) dX3_loseWhatIsStillSaid_13 ?_
          refine pr_eqr (v := some (3, tv)) (by show pa_rc 3 (K 47 k1 0) = some (3, tv); rw [sj_r47 hs hk4, ez, hg]; exact pa_rc_nI (by omega)) ?_
          refine pr_astore_n (pc := 16) C dX3_loseWhatIsStillSaid_16 (by decide) ?_
          refine pr_aload_n (pc := 17) C dX3_loseWhatIsStillSaid_17 rfl ?_
          refine pr_ifnull1 (pc := 18) C dX3_loseWhatIsStillSaid_18 ?_
          refine pr_aload_n (pc := 21) C dX3_loseWhatIsStillSaid_21 rfl ?_
          refine pr_geti (pc := 22) C 128 wf_X3_176 rfl (by decide) (pl_3 (sj_n0 hs (by first | assumption | omega))) dX3_loseWhatIsStillSaid_22 ?_
          refine pr_if_ne (pc := 25) C 33 dX3_loseWhatIsStillSaid_25 (by decide) (fun c_25 => ?_) (fun c_25 => ?_)
          · have hz9 := sj_zeq sc_zks (sj_w47 (i := k1) (v := -1) hs (fun t ht q => by have e9 : tv = t := (nI_eq (by omega) (by omega)).mp (hg.symm.trans (ez.symm.trans q)); subst e9; exact (sj_r128 hs ht).resolve_right (fun r => c_25 r.2.2.1)))
            refine pr_aload_n (pc := 33) C dX3_loseWhatIsStillSaid_33 rfl ?_
            refine pr_geta (pc := 34) C 160 260 wf_X3_11 rfl rfl (by decide) (pl_4 _) dX3_loseWhatIsStillSaid_34 ?_
            refine pr_iload_n (pc := 37) C dX3_loseWhatIsStillSaid_37 rfl ?_
            refine pr_alds (pc := 38) (n := 4) C 160 k1 rfl rfl rfl (pl_r4 (by decide)) rfl (by omega) (by decide) dX3_loseWhatIsStillSaid_38 ?_
            refine pr_null (pc := 39) C dX3_loseWhatIsStillSaid_39 ?_
            refine pr_putt (pc := 40) C 47 (-1) wp_X3_111 rfl (by decide) rfl (by decide) (by decide) (pl_1 (by first | assumption | omega)) dX3_loseWhatIsStillSaid_40 ?_
            refine pr_sim hz9 ?_
            intro K N hs
            refine pr_iincN (pc := 43) C dX3_loseWhatIsStillSaid_43 rfl k1 1 rfl rfl (by decide) ?_
            refine pr_goto (pc := 46) C 2 dX3_loseWhatIsStillSaid_46 (by decide) ?_
            refine pr_lo (lo' := [some (pv_o 4 0), some (pv_i (nI (k1 + 1))), none]) (show pa_lle [some (pv_o 4 0), some (pv_i (nI (k1 + 1))), none] [some (pv_o 4 0), some (pv_i (nI (k1 + 1))), some (pv_o 3 tv)] by simp [pa_lle]) ?_
            exact ih4 (k1 + 1) S5 K N (by omega) (by omega) (by rw [pz_it_s, ← eS_k1]; rfl) hs
          · refine pr_aload_n (pc := 28) C dX3_loseWhatIsStillSaid_28 rfl ?_
            refine pr_iconst (pc := 29) (v := 2) C dX3_loseWhatIsStillSaid_29 (by decide) ?_
            refine pr_puti (pc := 30) C 128 wp_X3_176 rfl (by decide) rfl (by decide) (pl_3 (sj_n0 hs (by first | assumption | omega))) dX3_loseWhatIsStillSaid_30 ?_
            have h2 := ((sj_r128 hs (by omega : tv < D)).resolve_left (fun q => h0 (q.symm.trans c_25))).2.2.2
            obtain ⟨hs9, h128⟩ := sj_w128l hs h2
            clear hs
            have hs := hs9
            clear hs9
            have hz9 := sj_zeq sc_zks (sj_w47 (i := k1) (v := -1) hs (fun t ht q => by have e9 : tv = t := (nI_eq (by omega) (by omega)).mp (hg.symm.trans (ez.symm.trans q)); subst e9; exact h128))
            refine pr_aload_n (pc := 33) C dX3_loseWhatIsStillSaid_33 rfl ?_
            refine pr_geta (pc := 34) C 160 260 wf_X3_11 rfl rfl (by decide) (pl_4 _) dX3_loseWhatIsStillSaid_34 ?_
            refine pr_iload_n (pc := 37) C dX3_loseWhatIsStillSaid_37 rfl ?_
            refine pr_alds (pc := 38) (n := 4) C 160 k1 rfl rfl rfl (pl_r4 (by decide)) rfl (by omega) (by decide) dX3_loseWhatIsStillSaid_38 ?_
            refine pr_null (pc := 39) C dX3_loseWhatIsStillSaid_39 ?_
            refine pr_putt (pc := 40) C 47 (-1) wp_X3_111 rfl (by decide) rfl (by decide) (by decide) (pl_1 (by first | assumption | omega)) dX3_loseWhatIsStillSaid_40 ?_
            refine pr_sim hz9 ?_
            intro K N hs
            refine pr_iincN (pc := 43) C dX3_loseWhatIsStillSaid_43 rfl k1 1 rfl rfl (by decide) ?_
            refine pr_goto (pc := 46) C 2 dX3_loseWhatIsStillSaid_46 (by decide) ?_
            refine pr_lo (lo' := [some (pv_o 4 0), some (pv_i (nI (k1 + 1))), none]) (show pa_lle [some (pv_o 4 0), some (pv_i (nI (k1 + 1))), none] [some (pv_o 4 0), some (pv_i (nI (k1 + 1))), some (pv_o 3 tv)] by simp [pa_lle]) ?_
            exact ih4 (k1 + 1) S5 K N (by omega) (by omega) (by rw [pz_it_s, ← eS_k1]; rfl) hs
  exact lp2 (4 + 1) 0 _ K N (by omega) (by omega) (pz_it_z _ _) hs

