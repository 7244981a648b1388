/-! A DRAFT MADE, SAID OR DROPPED -/
section DRS
variable {K : Nat → Nat → Nat → Int32} {N : Nat → Nat} {T D e sp : Nat} {z : sj_Z} {S S' : Nat → Nat → Int32} {act of how set fr : Int32}
/-- S' is S but for what is told of the turn T -/
def sd_B (S S' : Nat → Nat → Int32) (T : Nat) : Prop := (∀ f j, f ∉ [218, 219, 220, 221, 222, 223, 225, 226] → S' f j = S f j) ∧ ∀ f u, u ≠ T → S' f u = S f u
theorem sd_B_dr : sd_B S (sc_dr S T sp act of how set fr) T := ⟨fun _ _ h => sc_dr_ne h, fun _ _ h => sc_dr_nj h⟩
theorem mw_S_B (h : mw_S S T) (hB : sd_B S S' T) : mw_S S' T := by
  obtain ⟨⟨h1, h2, h3⟩, ⟨Q, q1, q2, q3, q4⟩, h5, h6, h7, h8⟩ := h
  obtain ⟨A, B⟩ := hB
  refine ⟨⟨h1, by rw [A 217 0 (by decide)]; exact h2, fun t ht => mw_t_of (h3 t ht) (B _ t (by omega)) (B _ t (by omega)) (B _ t (by omega)) (B _ t (by omega)) (B _ t (by omega)) (B _ t (by omega))⟩, ⟨Q, q1, by rw [A 231 0 (by decide)]; exact q2, fun j => by rw [A 232 j (by decide)]; exact q3 j, fun j hj => ?_⟩, ?_, ?_, ?_, ?_⟩
  · obtain ⟨q, k1, k2, k3⟩ := q4 j hj
    exact ⟨q, k1, by rw [A 232 j (by decide)]; exact k2, by rw [B 219 q (by omega)]; exact k3⟩
  · intro k hk
    rw [A 230 k (by decide)]
    exact h5 k hk
  · intro p hp
    rw [A 210 p (by decide)] at hp
    rw [A 211 p (by decide)]
    exact h6 p hp
  · intro p hp
    rw [A 208 p (by decide)] at hp
    rw [A 209 p (by decide)]
    exact h7 p hp
  · unfold mw_r at h8 ⊢
    rw [A 215 0 (by decide)]
    exact h8
theorem mj_B (hM : mw_S S T) (h : mj S T) (hB : sd_B S S' T) : mj S' T := by
  obtain ⟨h1, h2, h3, h4, h5, h6⟩ := h
  obtain ⟨A, B⟩ := hB
  have hT := hM.1.1
  refine ⟨⟨fun t ht => mj_t_of (h1.1 t ht) (fun f _ => B f t (by omega)), fun t ht => by rw [A 224 t (by decide)]; exact h1.2 t ht⟩, mj_s_of h2 (fun j => A 208 j (by decide)) (fun j => A 209 j (by decide)), fun t => ?_, fun p hp h0 => ?_, mj_q_of h5 (fun j => A 208 j (by decide)) (fun j => A 233 j (by decide)), mj_g_of h6 (fun j => A 228 j (by decide))⟩
  · rw [A 227 t (by decide)]
    rcases h3 t with c | ⟨c1, c2, c3, c4⟩
    · exact Or.inl c
    · exact Or.inr ⟨c1, c2, by rw [B 219 t (by omega)]; exact c3, by rw [A 224 t (by decide)]; exact c4⟩
  · rw [A 210 p (by decide)] at h0 ⊢
    obtain ⟨t, ht, et⟩ := hM.2.2.2.1 p h0
    have em : mn (S 211 p) = t := by rw [et]; exact mn_nI (by omega)
    have := h4 p hp h0
    rw [em] at this
    rw [A 211 p (by decide), em, B 221 t (by omega), B 219 t (by omega)]
    exact this
theorem ms_canSay_B {a w : Nat} (hM : mw_S S T) (hB : sd_B S S' T) (hw4 : w < 4) (hof : (4 ≤ a ∧ a ≤ 8) ∨ 14 ≤ a → ∃ u, u < T ∧ of = nI u) : ms_canSay S' w a of how set = ms_canSay S w a of how set := by
  obtain ⟨A, B⟩ := hB
  have hT := hM.1.1
  have hQ := mw_S_Q hM
  obtain ⟨Q, q1, q2, -, q4⟩ := hM.2.1
  have em : mn (S 231 0) = Q := by rw [q2]; exact mn_nI (by omega)
  have a201 := fun j => A 201 j (by decide)
  have a208 := fun j => A 208 j (by decide)
  have a210 := fun j => A 210 j (by decide)
  have a213 := fun j => A 213 j (by decide)
  have a217 := fun j => A 217 j (by decide)
  have a224 := fun j => A 224 j (by decide)
  have a227 := fun j => A 227 j (by decide)
  have a228 := fun j => A 228 j (by decide)
  have a230 := fun j => A 230 j (by decide)
  have a231 := fun j => A 231 j (by decide)
  have a232 := fun j => A 232 j (by decide)
  have a233 := fun j => A 233 j (by decide)
  have haq : ms_aq S' = ms_aq S := by
    unfold ms_aq
    rw [a231, a232]
  have hq : 0 < Q → ms_aq S ≠ T := fun h0 => by
    obtain ⟨q, k1, k2, -⟩ := q4 (Q - 1) (by omega)
    unfold ms_aq
    rw [show (S 231 0).toNatClampNeg = Q from em, k2, show (nI q).toNatClampNeg = q from mn_nI (by omega)]
    omega
  have htop : ms_top S' = ms_top S := by
    unfold ms_top
    rw [a231, haq, show (S 231 0).toNatClampNeg = Q from em]
    by_cases c : Q = 0
    · rw [if_pos c, if_pos c]
    · rw [if_neg c, if_neg c, B 222 _ (hq (by omega))]
  have hcl : ∀ u, u ≠ T → ms_isClaim S' u = ms_isClaim S u := fun u hu => by
    unfold ms_isClaim
    rw [a224, B 219 u hu, B 221 u hu]
  have hmi : ∀ u, ms_isMissed S' u = ms_isMissed S u := fun u => by
    unfold ms_isMissed
    simp only [a228]
  have how9 : ∀ x y, ms_owns S' x y = ms_owns S x y := fun x y => by
    unfold ms_owns
    simp only [a213]
  have hasin : ∀ x, ms_asIn S' w x = ms_asIn S w x := fun x => by
    unfold ms_asIn ms_qr
    simp only [a233]
  have h3 : (decide (0 < S 231 0) && decide (S' 218 (ms_aq S) = nI w)) = (decide (0 < S 231 0) && decide (S 218 (ms_aq S) = nI w)) := by
    by_cases c : Q = 0
    · have : decide (0 < S 231 0) = false := by rw [q2, c]; decide
      rw [this, Bool.false_and, Bool.false_and]
    · rw [B 218 _ (hq (by omega))]
  have hposs : ms_poss S' w a of how set = ms_poss S w a of how set := by
    unfold ms_poss
    by_cases hu : of.toNatClampNeg = T
    · have hna : ∀ u, u < T → of ≠ nI u := fun u hu9 z => by
        rw [z, show (nI u).toNatClampNeg = u from mn_nI (by omega)] at hu
        omega
      have h48 : ¬ (4 ≤ a ∧ a ≤ 8) := fun z => by obtain ⟨u, k1, k2⟩ := hof (Or.inl z); exact hna u k1 k2
      have h14 : ¬ 14 ≤ a := fun z => by obtain ⟨u, k1, k2⟩ := hof (Or.inr z); exact hna u k1 k2
      simp only [if_neg (show ¬ a = 4 by omega), if_neg (show ¬ a = 5 by omega), if_neg (show ¬ a = 6 by omega), if_neg (show ¬ (a = 7 ∨ a = 8) by omega), if_neg (show ¬ (a = 14 ∨ a = 15) by omega), htop, haq, a231, a208, a210, how9, h3]
    · simp only [hcl _ hu, hmi, B 218 _ hu, B 219 _ hu, B 222 _ hu, a224, a227, a228, htop, haq, a231, a208, a210, how9, h3]
  have hperm : ms_perm S' w a of = ms_perm S w a of := by
    unfold ms_perm
    rw [a201, htop]
    have hfn : ms_asIn S' w = ms_asIn S w := funext hasin
    rw [hfn]
    by_cases c : ms_top S = nI w
    · rw [if_pos c, if_pos c, haq, B 220 _ (hq (by have := ms_top_pos hQ hw4 c; rwa [em] at this))]
    · rw [if_neg c, if_neg c]
  unfold ms_canSay
  rw [hposs, hperm, a230, a217]
/-- no reference of the class is to the draft -/
theorem sc_refs (hs : sj_M K N T T z e S) (hM : mw_S S T) (hJ : mj S T) (hz : ∀ i, i < 4 → z.2 i < 0 ∨ (z.2 i).toNatClampNeg < T) : ∀ f i j, (f = 47 ∧ j = 0) ∨ f = 50 ∨ f = 51 → i < 4 → pn_nK K f i j < 0 ∨ (pn_nK K f i j).toNatClampNeg < N 0 := by
  intro f i j hf hi
  have hT := hM.1.1
  have e0 : N 0 = T := hs.2.1.1
  rw [e0]
  by_cases c : (f = 50 ∨ f = 51) ∧ 10 ≤ j
  · left
    rw [show pn_nK K f i j = -1 from if_pos c]
    decide
  · rw [show pn_nK K f i j = K f i j from if_neg c]
    have hc : ∀ t, t < T → (nI t).toNatClampNeg < T := fun t ht => by rw [show (nI t).toNatClampNeg = t from mn_nI (by omega)]; exact ht
    rcases hf with ⟨rfl, rfl⟩ | rfl | rfl
    · rw [hs.2.2.2.2.2.1 i hi]
      exact hz i hi
    · have hj : j < 10 := by omega
      rw [sj_r50 hs hi hj]
      by_cases c0 : S 208 (10 * i + j) = 0
      · left
        rw [(hJ.2.1 (10 * i + j) (by omega)).2 c0]
        decide
      · obtain ⟨t, ht, et⟩ := hM.2.2.2.2.1 _ c0
        right
        rw [et]
        exact hc t ht
    · have hj : j < 10 := by omega
      rw [hs.2.2.2.2.2.2.2.1 i j hi hj]
      by_cases c0 : S 210 (10 * i + j) = 0
      · left
        rw [if_pos c0]
        decide
      · obtain ⟨t, ht, et⟩ := hM.2.2.2.1 _ c0
        right
        rw [if_neg c0, et]
        exact hc t ht
theorem sc_m15 (h : ms_in set 1 15 = true) : ∃ m, m < 16 ∧ set = nI m := by
  have h0 : ms_in set 0 (nI 15) = true := by
    unfold ms_in at h ⊢
    rw [Bool.and_eq_true, decide_eq_true_eq, decide_eq_true_eq] at h ⊢
    refine ⟨?_, h.2⟩
    have h1 := h.1
    rw [Int32.le_iff_toInt_le] at h1 ⊢
    rw [show (1 : Int32).toInt = 1 from rfl] at h1
    rw [show (0 : Int32).toInt = 0 from rfl]
    omega
  obtain ⟨p, hp, e⟩ := sc_nn2 (by decide) h0
  exact ⟨p, by omega, e⟩
/-- what a draft leaves -/
def sc_dpost (G : pa_G) (h00 : pa_H) (Sm : Nat → Nat → Int32) (O : Nat → Int64) (T : Nat) (z : sj_Z) (e : Nat) (S : Nat → Nat → Int32) : Option pa_V → pa_H → Prop := fun r h' => r = some (pv_o 3 T) ∧ ∃ K' N', h' = (K', Sm, N', O) ∧ sj_M K' N' T (T + 1) z e S ∧ K' 125 T 0 = nI T ∧ ∀ ad H, pa_R G ad (K', Sm, pa_un N' 0 T, O) H → pa_R G ad h00 H
end DRS
theorem c_X3_isWellToldD (G : pa_G) (l : Launch) (K : Nat → Nat → Nat → Int32) (Sm S : Nat → Nat → Int32) (N : Nat → Nat) (O : Nat → Int64) (T e sp : Nat) (z : sj_Z) (v of how set fr : Int32) (hs : sj_M K N T (T + 1) z e (sc_dr S T sp v of how set fr)) (m : Nat) (hT : T ≤ 100) (hm : m < 16) (hto : set = nI m) : pa_MP G l mX3_isWellTold 5 [pv_o 4 0, pv_o 3 T] (K, Sm, N, O) (pv_i (pz_b (sc_wtv (nI T) v of how set fr))) := by
  have hv := sc_dr_v (S := S) (T := T) (sp := sp) (act := v) (of := of) (how := how) (set := set) (fr := fr)
  have h := c_X3_isWellTold G l K Sm _ N O T (T + 1) e z hs T m hT (by omega) hm (hv.2.2.2.2.1.trans hto)
  rw [hv.2.1, hv.2.2.1, hv.2.2.2.1, hv.2.2.2.2.1, hv.2.2.2.2.2.1] at h
  exact h
section SIMB
variable {G : pa_G} {x : pa_X} {nL a b pc : Nat} {lo : List (Option pa_V)} {st : List pa_V} {T D e : Nat} {z : sj_Z} {Sm S : Nat → Nat → Int32} {O : Nat → Int64} {K : Nat → Nat → Nat → Int32} {N : Nat → Nat}
theorem pr_simB {h00 : pa_H} (hs : sj_M K N T D z e S) (hb : ∀ ad H, pa_R G ad (K, Sm, pa_un N 0 T, O) H → pa_R G ad h00 H) (k : ∀ (K : Nat → Nat → Nat → Int32) (N : Nat → Nat), sj_M K N T D z e S → (∀ ad H, pa_R G ad (K, Sm, pa_un N 0 T, O) H → pa_R G ad h00 H) → pa_w G x nL (K, Sm, N, O) a b pc lo st) : pa_w G x nL (K, Sm, N, O) a b pc lo st := k K N hs hb
end SIMB
set_option maxRecDepth 100000 in
set_option maxHeartbeats 4000000 in
theorem c_X3_draftY (G : pa_G) (l : Launch) (K : Nat → Nat → Nat → Int32) (Sm S : Nat → Nat → Int32) (N : Nat → Nat) (O : Nat → Int64) (T e : Nat) (z : sj_Z) (hs : sj_M K N T T z e S) (hM : mw_S S T) (hJ : mj S T) (h229 : ∀ p, 4 * T ≤ p → S 229 p = 0) (hz : ∀ i, i < 4 → z.2 i < 0 ∨ (z.2 i).toNatClampNeg < T) (sp : Nat) (v of how set fr : Int32) (hs4 : sp < 4) (ht : ms_told (nI T) (nI sp) v of how set fr = true) : pa_M G l mX3_draft 6 true [pv_o 4 0, pv_i (nI sp), pv_i v, pv_i of, pv_i how, pv_i set, pv_i fr] (K, Sm, N, O) 3 21 (sc_dpost G (K, Sm, N, O) Sm O T z e (sc_dr S T sp v of how set fr)) := by
  refine pa_go2 l (by decide) (by simp [pa_c1l, pa_c1]) (fun _ => rfl) fun x C E el ea eh => ?_
  subst el
  have hT := hM.1.1
  have ht9 := ht
  rw [← sc_told, Bool.and_eq_true, Bool.and_eq_true, Bool.not_eq_true'] at ht9
  obtain ⟨hb1, hb2, hb3⟩ := ht9
  obtain ⟨m, hm, hto⟩ := sc_m15 hb1
  show pa_w G x 8 (K, Sm, N, O) 0 0 0 [some (pv_o 4 0), some (pv_i (nI sp)), some (pv_i v), some (pv_i of), some (pv_i how), some (pv_i set), some (pv_i fr), none] []
  refine pr_iload_n (pc := 0) C dX3_draft_0 rfl ?_
  refine pr_sE (pc := 1) C (c_X3_needSpeakerY G _ (K, Sm, N, O) sp (by first | assumption | omega)) ws_X3_39 rfl rfl (by decide) (Nat.le_of_ble_eq_true rfl) (by omega) (by omega) dX3_draft_1 ?_
  have hT0 : N 0 = T := hs.2.1.1
  have hN8 : N 8 = 0 := hs.2.1.2.2.2.1
  have href := sc_refs hs hM hJ hz
  refine pr_norm ?_
  refine pr_newT (pc := 4) C ea hN8 trivial ⟨⟨lr_kn (by decide), (pl_4 _)⟩, trivial, trivial, trivial, trivial, trivial, trivial, trivial⟩ (by omega) (by omega) dX3_draft_4 ?_
  refine pr_dup (pc := 7) C dX3_draft_7 trivial ?_
  refine pr_aload_n (pc := 8) C dX3_draft_8 rfl ?_
  refine pr_geta (pc := 9) C 160 260 wf_X3_11 rfl rfl (by decide) (pl_4 _) dX3_draft_9 ?_
  refine pr_iload_n (pc := 12) C dX3_draft_12 rfl ?_
  refine pr_alds (pc := 13) (n := 4) C 160 sp rfl rfl rfl (pl_r4 (by decide)) rfl (by omega) (by decide) dX3_draft_13 ?_
  refine pr_iload_n (pc := 14) C dX3_draft_14 rfl ?_
  refine pr_iload_n (pc := 15) C dX3_draft_15 rfl ?_
  refine pr_iload (pc := 16) C dX3_draft_16 rfl ?_
  refine pr_iload (pc := 18) C dX3_draft_18 rfl ?_
  refine pr_iload (pc := 20) C dX3_draft_20 rfl ?_
  refine pr_initT (pc := 22) (k := sp) (rest := []) C ea (by rw [eh]; exact hN8) hN8 hs4 (sj_els (hK := fun j => pn_nK_ne (by decide)) hs (mw_L_of hM)) href trivial ⟨⟨lr_kn (by decide), (pl_4 _)⟩, trivial, trivial, trivial, trivial, trivial, trivial, trivial⟩ (by decide) (by decide) dX3_draft_22 (by omega) (by omega) ?_
  have hback : ∀ ad H, pa_R G ad (pn_tK (pn_nK K) T sp v of how set fr, Sm, pa_un (pa_un N 0 (T + 1)) 0 T, O) H → pa_R G ad (K, Sm, N, O) H := fun ad H q => by
    rw [pn_un0 hT0, ← hT0] at q
    exact pn_nB (pn_back2 q)
  rw [hT0]
  have h4 : ∀ j, j < 4 → S 228 (4 * T + j) = 0 := fun j hj => hJ.2.2.2.2.2.2 _ (by omega)
  have h227 : S 227 T = 0 := (hJ.2.2.1 T).elim id (fun q => absurd q.2.1 (by omega))
  have hs1 := sj_dr (act := v) (of := of) (how := how) (set := set) (fr := fr) (sj_nK hs) hs4 (hJ.1.2 T (Nat.le_refl _)) h227 h4 (fun j hj => h229 _ (by omega))
  refine pr_simB hs1 hback ?_
  intro K N hs hbk
  show pa_w G x 8 (K, Sm, N, O) (0 + 1 + 2) (0 + 13 + 8) 25 [some (pv_o 4 0), some (pv_i (nI sp)), some (pv_i v), some (pv_i of), some (pv_i how), some (pv_i set), some (pv_i fr), none] [pv_o 3 T]
  refine pr_astore (pc := 25) C dX3_draft_25 (by decide) ?_
  refine pr_iload (pc := 27) C dX3_draft_27 rfl ?_
  refine pr_iconst (pc := 29) (v := 1) C dX3_draft_29 (by decide) ?_
  refine pr_bipush (pc := 30) (v := 15) C dX3_draft_30 (by decide) ?_
  refine pr_sP (pc := 32) C (c_X3_isWithin G _ (K, Sm, N, O) set (1 : Int32) (15 : Int32)) ws_X3_251 rfl rfl (by decide) (Nat.le_of_ble_eq_true rfl) (by omega) (by omega) dX3_draft_32 ?_
  refine pr_ifb_eq (pc := 35) C 56 dX3_draft_35 (by decide) (fun c_35 => ?_) (fun c_35 => ?_)
  · exact absurd c_35 (by rw [hb1]; decide)
  · refine pr_iload (pc := 38) C dX3_draft_38 rfl ?_
    refine pr_iload_n (pc := 40) C dX3_draft_40 rfl ?_
    refine pr_sP (pc := 41) C (c_X3_isIn G _ (K, Sm, N, O) set (nI sp)) ws_X3_49 rfl rfl (by decide) (Nat.le_of_ble_eq_true rfl) (by omega) (by omega) dX3_draft_41 ?_
    refine pr_ifb_ne (pc := 44) C 56 dX3_draft_44 (by decide) (fun c_44 => ?_) (fun c_44 => ?_)
    · exact absurd c_44 (by rw [hb2]; decide)
    · refine pr_aload_n (pc := 47) C dX3_draft_47 rfl ?_
      refine pr_aload (pc := 48) C dX3_draft_48 rfl ?_
      refine pr_vP (pc := 50) C (c_X3_isWellToldD G _ K Sm S N O T e sp z v of how set fr hs m hT hm hto) wv_X3_263 rfl rfl (by decide) (by decide) (pl_4 _) (Nat.le_of_ble_eq_true rfl) (by omega) (by omega) dX3_draft_50 ?_
      refine pr_ifb_ne (pc := 53) C 67 dX3_draft_53 (by decide) (fun c_53 => ?_) (fun c_53 => ?_)
      · refine pr_aload (pc := 67) C dX3_draft_67 rfl ?_
        refine pr_aload_n (pc := 69) C dX3_draft_69 rfl ?_
        refine pr_getl (pc := 70) C 162 0 wf_X3_22 rfl rfl rfl (pl_4 _) dX3_draft_70 ?_
        refine pr_vP (pc := 73) C (c_szT G _ K Sm (sc_dr S T sp v of how set fr) N O T (T + 1) e z hs) wv_X3_147 rfl rfl (by decide) (by decide) (pl_0 (by decide)) (Nat.le_of_ble_eq_true rfl) (by omega) (by omega) dX3_draft_73 ?_
        refine pr_puti (pc := 76) C 125 wp_X3_115 rfl (by decide) rfl (by decide) (pl_3 (sj_n0 hs (Nat.lt_succ_self T))) dX3_draft_76 ?_
        refine pr_aload (pc := 79) C dX3_draft_79 rfl ?_
        exact pr_aret (pc := 81) C E (by omega) (by omega) ⟨rfl, _, N, rfl, sj_w125d hs (Nat.le_refl T), pa_up_self _ _ _ _ _, fun ad H q => hbk ad H (pn_up125 q)⟩ dX3_draft_81
      · exact absurd c_53 (by rw [hb3]; decide)

set_option maxRecDepth 100000 in
set_option maxHeartbeats 4000000 in
theorem c_X3_draftX2 (G : pa_G) (l : Launch) (K : Nat → Nat → Nat → Int32) (Sm S : Nat → Nat → Int32) (N : Nat → Nat) (O : Nat → Int64) (T e : Nat) (z : sj_Z) (hl9 : l.stackTraces = false) (hs : sj_M K N T T z e S) (hM : mw_S S T) (hJ : mj S T) (h229 : ∀ p, 4 * T ≤ p → S 229 p = 0) (hz : ∀ i, i < 4 → z.2 i < 0 ∨ (z.2 i).toNatClampNeg < T) (sp : Nat) (v of how set fr : Int32) (hs4 : sp < 4) (hn : ms_told (nI T) (nI sp) v of how set fr = false) : pa_MT G l mX3_draft 7 [pv_o 4 0, pv_i (nI sp), pv_i v, pv_i of, pv_i how, pv_i set, pv_i fr] (K, Sm, N, O) 4 27 px_A := by
  refine pa_goX l hl9 (by decide) (by simp [pa_c1l, pa_c1]) (fun _ => rfl) fun x C E EX el e0 ea => ?_
  subst el
  have hT := hM.1.1
  show pa_w G x 8 (K, Sm, N, O) 0 0 0 [some (pv_o 4 0), some (pv_i (nI sp)), some (pv_i v), some (pv_i of), some (pv_i how), some (pv_i set), some (pv_i fr), none] []
  refine pr_iload_n (pc := 0) C dX3_draft_0 rfl ?_
  refine pr_sE (pc := 1) C (c_X3_needSpeakerY G _ (K, Sm, N, O) sp (by first | assumption | omega)) ws_X3_39 rfl rfl (by decide) (Nat.le_of_ble_eq_true rfl) (by omega) (by omega) dX3_draft_1 ?_
  have hT0 : N 0 = T := hs.2.1.1
  have hN8 : N 8 = 0 := hs.2.1.2.2.2.1
  have href := sc_refs hs hM hJ hz
  refine pr_norm ?_
  refine pr_newT (pc := 4) C ea hN8 trivial ⟨⟨lr_kn (by decide), (pl_4 _)⟩, trivial, trivial, trivial, trivial, trivial, trivial, trivial⟩ (by omega) (by omega) dX3_draft_4 ?_
  refine pr_dup (pc := 7) C dX3_draft_7 trivial ?_
  refine pr_aload_n (pc := 8) C dX3_draft_8 rfl ?_
  refine pr_geta (pc := 9) C 160 260 wf_X3_11 rfl rfl (by decide) (pl_4 _) dX3_draft_9 ?_
  refine pr_iload_n (pc := 12) C dX3_draft_12 rfl ?_
  refine pr_alds (pc := 13) (n := 4) C 160 sp rfl rfl rfl (pl_r4 (by decide)) rfl (by omega) (by decide) dX3_draft_13 ?_
  refine pr_iload_n (pc := 14) C dX3_draft_14 rfl ?_
  refine pr_iload_n (pc := 15) C dX3_draft_15 rfl ?_
  refine pr_iload (pc := 16) C dX3_draft_16 rfl ?_
  refine pr_iload (pc := 18) C dX3_draft_18 rfl ?_
  refine pr_iload (pc := 20) C dX3_draft_20 rfl ?_
  refine pr_initT (pc := 22) (k := sp) (rest := []) C ea (by have e9 := e0; unfold pa_h0 at e9; rw [e9]; exact hN8) hN8 hs4 (sj_els (hK := fun j => pn_nK_ne (by decide)) hs (mw_L_of hM)) href trivial ⟨⟨lr_kn (by decide), (pl_4 _)⟩, trivial, trivial, trivial, trivial, trivial, trivial, trivial⟩ (by decide) (by decide) dX3_draft_22 (by omega) (by omega) ?_
  have hback : ∀ ad H, pa_R G ad (pn_tK (pn_nK K) T sp v of how set fr, Sm, pa_un (pa_un N 0 (T + 1)) 0 T, O) H → pa_R G ad (K, Sm, N, O) H := fun ad H q => by
    rw [pn_un0 hT0, ← hT0] at q
    exact pn_nB (pn_back2 q)
  rw [hT0]
  have h4 : ∀ j, j < 4 → S 228 (4 * T + j) = 0 := fun j hj => hJ.2.2.2.2.2.2 _ (by omega)
  have h227 : S 227 T = 0 := (hJ.2.2.1 T).elim id (fun q => absurd q.2.1 (by omega))
  have hs1 := sj_dr (act := v) (of := of) (how := how) (set := set) (fr := fr) (sj_nK hs) hs4 (hJ.1.2 T (Nat.le_refl _)) h227 h4 (fun j hj => h229 _ (by omega))
  refine pr_simB hs1 hback ?_
  intro K N hs hbk
  show pa_w G x 8 (K, Sm, N, O) (0 + 1 + 2) (0 + 13 + 8) 25 [some (pv_o 4 0), some (pv_i (nI sp)), some (pv_i v), some (pv_i of), some (pv_i how), some (pv_i set), some (pv_i fr), none] [pv_o 3 T]
  refine pr_astore (pc := 25) C dX3_draft_25 (by decide) ?_
  refine pr_iload (pc := 27) C dX3_draft_27 rfl ?_
  refine pr_iconst (pc := 29) (v := 1) C dX3_draft_29 (by decide) ?_
  refine pr_bipush (pc := 30) (v := 15) C dX3_draft_30 (by decide) ?_
  refine pr_sP (pc := 32) C (c_X3_isWithin G _ (K, Sm, N, O) set (1 : Int32) (15 : Int32)) ws_X3_251 rfl rfl (by decide) (Nat.le_of_ble_eq_true rfl) (by omega) (by omega) dX3_draft_32 ?_
  refine pr_ifb_eq (pc := 35) C 56 dX3_draft_35 (by decide) (fun c_35 => ?_) (fun c_35 => ?_)
  · exact pr_throwW (pc := 56) (text := "an argument is not as told of the act") C EX pa_tsIAE (by decide) rfl (fun ad H q => e0 ▸ hbk ad H (pn_low (by rw [hs.2.1.1]; omega) q).2) (by decide) (by decide) (by omega) (by omega) (by omega) (by omega) dX3_draft_56 dX3_draft_59 dX3_draft_60 dX3_draft_63 dX3_draft_66
  · refine pr_iload (pc := 38) C dX3_draft_38 rfl ?_
    refine pr_iload_n (pc := 40) C dX3_draft_40 rfl ?_
    refine pr_sP (pc := 41) C (c_X3_isIn G _ (K, Sm, N, O) set (nI sp)) ws_X3_49 rfl rfl (by decide) (Nat.le_of_ble_eq_true rfl) (by omega) (by omega) dX3_draft_41 ?_
    refine pr_ifb_ne (pc := 44) C 56 dX3_draft_44 (by decide) (fun c_44 => ?_) (fun c_44 => ?_)
    · exact pr_throwW (pc := 56) (text := "an argument is not as told of the act") C EX pa_tsIAE (by decide) rfl (fun ad H q => e0 ▸ hbk ad H (pn_low (by rw [hs.2.1.1]; omega) q).2) (by decide) (by decide) (by omega) (by omega) (by omega) (by omega) dX3_draft_56 dX3_draft_59 dX3_draft_60 dX3_draft_63 dX3_draft_66
    · refine pr_aload_n (pc := 47) C dX3_draft_47 rfl ?_
      refine pr_aload (pc := 48) C dX3_draft_48 rfl ?_
      obtain ⟨m, hm, hto⟩ := sc_m15 c_35
      refine pr_vP (pc := 50) C (c_X3_isWellToldD G _ K Sm S N O T e sp z v of how set fr hs m hT hm hto) wv_X3_263 rfl rfl (by decide) (by decide) (pl_4 _) (Nat.le_of_ble_eq_true rfl) (by omega) (by omega) dX3_draft_50 ?_
      refine pr_ifb_ne (pc := 53) C 67 dX3_draft_53 (by decide) (fun c_53 => ?_) (fun c_53 => ?_)
      · exact absurd hn (by rw [← sc_told, c_35, c_44, c_53]; decide)
      · exact pr_throwW (pc := 56) (text := "an argument is not as told of the act") C EX pa_tsIAE (by decide) rfl (fun ad H q => e0 ▸ hbk ad H (pn_low (by rw [hs.2.1.1]; omega) q).2) (by decide) (by decide) (by omega) (by omega) (by omega) (by omega) dX3_draft_56 dX3_draft_59 dX3_draft_60 dX3_draft_63 dX3_draft_66

set_option maxRecDepth 100000 in
set_option maxHeartbeats 4000000 in
theorem c_X3_draftX1 (G : pa_G) (l : Launch) (K : Nat → Nat → Nat → Int32) (Sm S : Nat → Nat → Int32) (N : Nat → Nat) (O : Nat → Int64) (T e : Nat) (z : sj_Z) (hl9 : l.stackTraces = false) (hs : sj_M K N T T z e S) (hM : mw_S S T) (hJ : mj S T) (h229 : ∀ p, 4 * T ≤ p → S 229 p = 0) (hz : ∀ i, i < 4 → z.2 i < 0 ∨ (z.2 i).toNatClampNeg < T) (w v of how set fr : Int32) (hn : ms_in w 0 3 = false) : pa_MT G l mX3_draft 7 [pv_o 4 0, pv_i w, pv_i v, pv_i of, pv_i how, pv_i set, pv_i fr] (K, Sm, N, O) 1 6 px_I := by
  refine pa_goX l hl9 (by decide) (by simp [pa_c1l, pa_c1]) (fun _ => rfl) fun x C E EX el e0 ea => ?_
  subst el
  have hT := hM.1.1
  show pa_w G x 8 (K, Sm, N, O) 0 0 0 [some (pv_o 4 0), some (pv_i w), some (pv_i v), some (pv_i of), some (pv_i how), some (pv_i set), some (pv_i fr), none] []
  refine pr_iload_n (pc := 0) C dX3_draft_0 rfl ?_
  exact pr_sX (pc := 1) C EX (c_X3_needSpeakerX G _ hl9 (K, Sm, N, O) w hn) (fun _ z => z) ws_X3_39 rfl rfl (by decide) (by decide) (by omega) (by omega) (by omega) (by omega) (pa_bk e0) dX3_draft_1

