/-! THE CLASS: an offer is accepted -/
theorem ms_hov_213 {g v : Int32} {k : Nat} {S : Nat → Nat → Int32} : ∀ n, pz_it (ms_hov g v) n S 213 k = if k < n ∧ ms_isIn g (nI k) = true then v else S 213 k
  | 0 => by rw [if_neg (fun z => Nat.not_lt_zero k z.1)]; rfl
  | n + 1 => by
    have ih := ms_hov_213 (g := g) (v := v) (k := k) (S := S) n
    rw [pz_it_s]
    by_cases c : ms_isIn g (nI n) = true
    · have e : ms_hov g v (pz_it (ms_hov g v) n S) n = pa_us (pz_it (ms_hov g v) n S) 213 n v := if_pos c
      rw [e]
      by_cases ck : k = n
      · rw [ck, pa_us_self, if_pos ⟨Nat.lt_succ_self n, c⟩]
      · rw [pa_us_nj ck, ih]
        by_cases h : k < n ∧ ms_isIn g (nI k) = true
        · rw [if_pos h, if_pos ⟨by omega, h.2⟩]
        · rw [if_neg h, if_neg (fun z => h ⟨by omega, z.2⟩)]
    · have e : ms_hov g v (pz_it (ms_hov g v) n S) n = pz_it (ms_hov g v) n S := if_neg c
      rw [e, ih]
      by_cases h : k < n ∧ ms_isIn g (nI k) = true
      · rw [if_pos h, if_pos ⟨by omega, h.2⟩]
      · rw [if_neg h, if_neg (fun z => h ⟨by
          have : k ≠ n := fun q => c (q ▸ z.2)
          omega, z.2⟩)]
theorem ms_ows_fr9 {w wu u f j : Nat} {S : Nat → Nat → Int32} (hf : f ≠ 213) : ∀ n, pz_it (ms_ows w wu u) n S f j = S f j
  | 0 => rfl
  | n + 1 => by
    rw [pz_it_s]
    unfold ms_ows
    rw [pa_us_ne hf]
    exact ms_ows_fr9 hf n
theorem ms_ows_213 {w wu u k : Nat} {S : Nat → Nat → Int32} : ∀ n, pz_it (ms_ows w wu u) n S 213 k = if k < n then (if ms_isIn (S 220 u) (nI k) = true then nI w else if ms_isIn (S 221 u) (nI k) = true then nI wu else S 213 k) else S 213 k
  | 0 => by rw [if_neg (Nat.not_lt_zero k)]; rfl
  | n + 1 => by
    have ih := ms_ows_213 (w := w) (wu := wu) (u := u) (k := k) (S := S) n
    have hdef : ∀ X : Nat → Nat → Int32, ms_ows w wu u X n = pa_us X 213 n (if ms_isIn (X 220 u) (nI n) = true then nI w else if ms_isIn (X 221 u) (nI n) = true then nI wu else X 213 n) := fun X => rfl
    have e := hdef (pz_it (ms_ows w wu u) n S)
    rw [ms_ows_ne (f := 220) (by decide), ms_ows_ne (f := 221) (by decide)] at e
    rw [pz_it_s, e]
    by_cases ck : k = n
    · rw [ck] at ih ⊢
      rw [pa_us_self, ih, if_neg (Nat.lt_irrefl n), if_pos (Nat.lt_succ_self n)]
    · rw [pa_us_nj ck, ih]
      by_cases h : k < n
      · rw [if_pos h, if_pos (show k < n + 1 by omega)]
      · rw [if_neg h, if_neg (show ¬ k < n + 1 by omega)]
theorem ms_owns_of {S S' : Nat → Nat → Int32} {v g : Int32} (h : ∀ k, S' 213 k = S 213 k) : ms_owns S' v g = ms_owns S v g := by
  unfold ms_owns
  exact pz_all_cong (fun k _ => by rw [h])
abbrev sc_A2 (S : Nat → Nat → Int32) (t u : Nat) : Nat → Nat → Int32 := pa_us (pa_us S 227 u 0) 221 t 0
theorem sc_both {S : Nat → Nat → Int32} {t u w wu : Nat} (hut : u ≠ t) (hl : ms_lis (S 222 u) = nI w) : (ms_owns (sc_A2 S t u) (nI wu) (sc_A2 S t u 220 u) && ms_owns (sc_A2 S t u) (ms_lis (sc_A2 S t u 222 u)) (sc_A2 S t u 221 u)) = ms_ocan (pa_us S 227 u 0) w u wu := by
  have h213 : ∀ k, sc_A2 S t u 213 k = S 213 k := fun k => by unfold sc_A2; rw [pa_us_ne (by decide), pa_us_ne (by decide)]
  have h213' : ∀ k, pa_us S 227 u 0 213 k = S 213 k := fun k => pa_us_ne (by decide)
  have e1 : sc_A2 S t u 220 u = S 220 u := by unfold sc_A2; rw [pa_us_ne (by decide), pa_us_ne (by decide)]
  have e2 : sc_A2 S t u 222 u = S 222 u := by unfold sc_A2; rw [pa_us_ne (by decide), pa_us_ne (by decide)]
  have e3 : sc_A2 S t u 221 u = S 221 u := by unfold sc_A2; rw [pa_us_nj hut, pa_us_ne (by decide)]
  rw [e1, e2, e3, hl, ms_owns_of h213, ms_owns_of h213]
  unfold ms_ocan
  rw [ms_owns_of h213', ms_owns_of h213', pa_us_ne (by decide), pa_us_ne (by decide)]
theorem ms_owns_k {S : Nat → Nat → Int32} {v g : Int32} {k : Nat} (h : ms_owns S v g = true) (hk : k < 8) (hi : ms_isIn g (nI k) = true) : S 213 k = v := by
  have := pz_all_iff.mp h k hk
  rw [hi] at this
  simpa using this
abbrev sc_B2 (S : Nat → Nat → Int32) (t u w wu : Nat) : Nat → Nat → Int32 := pz_it (ms_hov (S 221 u) (nI wu)) 8 (pz_it (ms_hov (S 220 u) (nI w)) 8 (pa_us (sc_A2 S t u) 221 t 1))
theorem sc_acc1 {S : Nat → Nat → Int32} {t u w wu : Nat} (hw : w < 4) (hwu : wu < 4) (hne : w ≠ wu) (hc : ms_ocan (pa_us S 227 u 0) w u wu = true) : pa_us (sc_B2 S t u w wu) 214 0 (sc_B2 S t u w wu 214 0 + 1) = ms_doO S t w 14 u wu := by
  unfold ms_doO
  rw [if_neg (by decide), if_pos rfl, if_pos hc]
  have hB : ∀ f j, f ≠ 213 → sc_B2 S t u w wu f j = pa_us (sc_A2 S t u) 221 t 1 f j := fun f j hf => (ms_hov_fr hf 8).trans (ms_hov_fr hf 8)
  have h214 : sc_B2 S t u w wu 214 0 = S 214 0 := by rw [hB 214 0 (by decide)]; unfold sc_A2; rw [pa_us_ne (by decide), pa_us_ne (by decide), pa_us_ne (by decide)]
  rw [h214]
  funext f j
  by_cases c4 : f = 214 ∧ j = 0
  · rw [c4.1, c4.2, pa_us_self, pa_us_self]
  have hn : ∀ (S' : Nat → Nat → Int32) v, pa_us S' 214 0 v f j = S' f j := fun S' v => if_neg c4
  rw [hn, hn]
  by_cases c3 : f = 213
  · subst c3
    rw [pa_us_ne (by decide)]
    show pz_it (ms_hov (S 221 u) (nI wu)) 8 (pz_it (ms_hov (S 220 u) (nI w)) 8 (pa_us (sc_A2 S t u) 221 t 1)) 213 j = _
    unfold sc_A2
    rw [ms_hov_213 8, ms_hov_213 8, ms_ows_213 8, pa_us_ne (by decide), pa_us_ne (by decide), pa_us_ne (by decide), pa_us_ne (by decide), pa_us_ne (by decide)]
    unfold ms_ocan at hc
    rw [Bool.and_eq_true] at hc
    by_cases hj : j < 8
    · rw [if_pos hj]
      by_cases i0 : ms_isIn (S 220 u) (nI j) = true
      · rw [if_pos i0]
        by_cases i1 : ms_isIn (S 221 u) (nI j) = true
        · exfalso
          have q1 := ms_owns_k hc.1 hj (by rw [pa_us_ne (by decide)]; exact i0)
          have q2 := ms_owns_k hc.2 hj (by rw [pa_us_ne (by decide)]; exact i1)
          exact hne ((nI_eq (by omega) (by omega)).mp (q2.symm.trans q1))
        · rw [if_neg (fun z => i1 z.2), if_pos ⟨hj, i0⟩]
      · rw [if_neg i0]
        by_cases i1 : ms_isIn (S 221 u) (nI j) = true
        · rw [if_pos ⟨hj, i1⟩, if_pos i1]
        · rw [if_neg (fun z => i1 z.2), if_neg (fun z => i0 z.2), if_neg i1]
    · rw [if_neg (fun z => hj z.1), if_neg (fun z => hj z.1), if_neg hj]
  · rw [hB f j c3]
    unfold sc_A2
    by_cases c1 : f = 221 ∧ j = t
    · rw [c1.1, c1.2, pa_us_self, pa_us_self]
    · have hm : ∀ (S' : Nat → Nat → Int32) v, pa_us S' 221 t v f j = S' f j := fun S' v => if_neg c1
      rw [hm, hm, hm, ms_ows_fr9 c3 8]
theorem sc_acc0 {S : Nat → Nat → Int32} {t u w wu : Nat} (hc : ms_ocan (pa_us S 227 u 0) w u wu = false) : sc_A2 S t u = ms_doO S t w 14 u wu := by
  unfold ms_doO
  rw [if_neg (by decide), if_pos rfl, if_neg (by rw [hc]; decide), Int32.add_zero]
  have : S 214 0 = pa_us (pa_us S 227 u 0) 221 t 0 214 0 := by rw [pa_us_ne (by decide), pa_us_ne (by decide)]
  rw [this, pa_us_same]
set_option maxRecDepth 100000 in
set_option maxHeartbeats 4000000 in
theorem c_X3_acceptOffer (G : pa_G) (l : Launch) (K : Nat → Nat → Nat → Int32) (Sm S : Nat → Nat → Int32) (N : Nat → Nat) (O : Nat → Int64) (T D e : Nat) (z : sj_Z) (hs : sj_M K N T D z e S) (t u w wu : Nat) (ht : t < D) (hu : u < D) (hut : u ≠ t) (hw4 : w < 4) (hwu : S 218 u = nI wu) (hwu4 : wu < 4) (hne : w ≠ wu) (hl : ms_lis (S 222 u) = nI w) : pa_M G l mX3_acceptOffer 4 false [pv_o 4 0, pv_o 3 t, pv_o 3 u] (K, Sm, N, O) 0 0 (sj_post none Sm O T D z e (ms_doO S t w 14 u wu)) := by
  refine pa_go l (by decide) (by simp [pa_c1l, pa_c1]) (fun _ => rfl) fun x C E el ea => ?_
  subst el
  show pa_w G x 3 (K, Sm, N, O) 0 0 0 [some (pv_o 4 0), some (pv_o 3 t), some (pv_o 3 u)] []
  refine pr_aload_n (pc := 0) C dX3_acceptOffer_0 rfl ?_
  refine pr_iconst (pc := 1) (v := 0) C dX3_acceptOffer_1 (by decide) ?_
  refine pr_putb (pc := 2) C 130 wp_X3_182 rfl (by decide) rfl (by decide) (by decide) (pl_3 (sj_n0 hs (by first | assumption | omega))) dX3_acceptOffer_2 ?_
  refine pr_sim (sj_w130 hs) ?_
  intro K N hs
  refine pr_aload_n (pc := 5) C dX3_acceptOffer_5 rfl ?_
  refine pr_iconst (pc := 6) (v := 0) C dX3_acceptOffer_6 (by decide) ?_
  refine pr_puti (pc := 7) C 127 wp_X3_167 rfl (by decide) rfl (by decide) (pl_3 (sj_n0 hs (by first | assumption | omega))) dX3_acceptOffer_7 ?_
  refine pr_sim (sj_w127 hs) ?_
  intro K N hs
  refine pr_aload_n (pc := 10) C dX3_acceptOffer_10 rfl ?_
  refine pr_aload_n (pc := 11) C dX3_acceptOffer_11 rfl ?_
  refine pr_vP (pc := 12) C (c_X3_bothOwn G _ K Sm (pa_us (pa_us S 227 u (0 : Int32)) 221 t (0 : Int32)) N O T D e z hs u wu (by first | assumption | omega) hwu (by first | assumption | omega)) wv_X3_290 rfl rfl (by decide) (by decide) (pl_4 _) (Nat.le_of_ble_eq_true rfl) (by omega) (by omega) dX3_acceptOffer_12 ?_
  refine pr_ifb_eq (pc := 15) C 60 dX3_acceptOffer_15 (by decide) (fun c_15 => ?_) (fun c_15 => ?_)
  · exact pr_vret (pc := 60) C E (by omega) (by omega) ⟨rfl, K, N, rfl, sj_eq (sc_acc0 ((sc_both hut hl).symm.trans c_15)) hs⟩ dX3_acceptOffer_60
  · refine pr_aload_n (pc := 18) C dX3_acceptOffer_18 rfl ?_
    refine pr_iconst (pc := 19) (v := 1) C dX3_acceptOffer_19 (by decide) ?_
    refine pr_puti (pc := 20) C 127 wp_X3_167 rfl (by decide) rfl (by decide) (pl_3 (sj_n0 hs (by first | assumption | omega))) dX3_acceptOffer_20 ?_
    refine pr_sim (sj_w127 hs) ?_
    intro K N hs
    refine pr_aload_n (pc := 23) C dX3_acceptOffer_23 rfl ?_
    refine pr_aload_n (pc := 24) C dX3_acceptOffer_24 rfl ?_
    refine pr_geti (pc := 25) C 126 wf_X3_164 rfl (by decide) (pl_3 (sj_n0 hs (by first | assumption | omega))) dX3_acceptOffer_25 ?_
    refine pr_eqi (v := S 220 u) ((sj_r126 hs (by first | assumption | omega)).trans rfl) ?_
    refine pr_aload_n (pc := 28) C dX3_acceptOffer_28 rfl ?_
    refine pr_vP (pc := 29) C (c_X2_listener G _ K Sm (pa_us (pa_us (pa_us S 227 u (0 : Int32)) 221 t (0 : Int32)) 221 t (1 : Int32)) N O T D e z hs u (by first | assumption | omega)) wv_X3_224 rfl rfl (by decide) (by decide) (pl_3 (sj_n0 hs (by first | assumption | omega))) (Nat.le_of_ble_eq_true rfl) (by omega) (by omega) dX3_acceptOffer_29 ?_
    refine pr_eqi hl ?_
    refine pr_vC0 (pc := 32) (rest := []) C (c_X3_handOver G _ K Sm (pa_us (pa_us (pa_us S 227 u (0 : Int32)) 221 t (0 : Int32)) 221 t (1 : Int32)) N O T D e z hs (S 220 u) (nI w)) wv_X3_375 rfl rfl (by decide) (by decide) (pl_4 _) (by decide) (by omega) (by omega) (fun _ => rfl) (fun z => by cases z) dX3_acceptOffer_32 ?_
    intro K N hs
    have hwu2 : (pz_it (ms_hov (S 220 u) (nI w)) 8 (pa_us (pa_us (pa_us S 227 u (0 : Int32)) 221 t (0 : Int32)) 221 t (1 : Int32))) 218 u = nI wu := (ms_hov_fr (by decide) 8).trans hwu
    have e221 : (pz_it (ms_hov (S 220 u) (nI w)) 8 (pa_us (pa_us (pa_us S 227 u (0 : Int32)) 221 t (0 : Int32)) 221 t (1 : Int32))) 221 u = S 221 u := (ms_hov_fr (by decide) 8).trans ((pa_us_nj hut).trans ((pa_us_nj hut).trans (pa_us_ne (by decide))))
    refine pr_aload_n (pc := 35) C dX3_acceptOffer_35 rfl ?_
    refine pr_aload_n (pc := 36) C dX3_acceptOffer_36 rfl ?_
    refine pr_geti (pc := 37) C 127 wf_X3_167 rfl (by decide) (pl_3 (sj_n0 hs (by first | assumption | omega))) dX3_acceptOffer_37 ?_
    refine pr_eqi (v := (pz_it (ms_hov (S 220 u) (nI w)) 8 (pa_us (pa_us (pa_us S 227 u (0 : Int32)) 221 t (0 : Int32)) 221 t (1 : Int32))) 221 u) (sj_r127 hs (by first | assumption | omega)) ?_
    refine pr_eqi e221 ?_
    refine pr_aload_n (pc := 40) C dX3_acceptOffer_40 rfl ?_
    refine pr_gets (pc := 41) C 120 wf_X3_105 rfl rfl (pl_3 (sj_n0 hs (by first | assumption | omega))) wu ((sj_r120 hs (by first | assumption | omega)).trans hwu2) (by first | assumption | omega) dX3_acceptOffer_41 ?_
    refine pr_geti (pc := 44) C 40 wf_X3_160 rfl (by decide) (pl_1 (by first | assumption | omega)) dX3_acceptOffer_44 ?_
    refine pr_eqi (v := nI wu) (sj_r40 hs (by first | assumption | omega)) ?_
    refine pr_vC0 (pc := 47) (rest := []) C (c_X3_handOver G _ K Sm (pz_it (ms_hov (S 220 u) (nI w)) 8 (pa_us (pa_us (pa_us S 227 u (0 : Int32)) 221 t (0 : Int32)) 221 t (1 : Int32))) N O T D e z hs (S 221 u) (nI wu)) wv_X3_375 rfl rfl (by decide) (by decide) (pl_4 _) (by decide) (by omega) (by omega) (fun _ => rfl) (fun z => by cases z) dX3_acceptOffer_47 ?_
    intro K N hs
    refine pr_aload_n (pc := 50) C dX3_acceptOffer_50 rfl ?_
    refine pr_dup (pc := 51) C dX3_acceptOffer_51 trivial ?_
    refine pr_geti (pc := 52) C 169 wf_X3_238 rfl (by decide) (pl_4 _) dX3_acceptOffer_52 ?_
    refine pr_eqi (v := (pz_it (ms_hov (S 221 u) (nI wu)) 8 (pz_it (ms_hov (S 220 u) (nI w)) 8 (pa_us (pa_us (pa_us S 227 u (0 : Int32)) 221 t (0 : Int32)) 221 t (1 : Int32)))) 214 0) (sj_r169 hs) ?_
    refine pr_iconst (pc := 55) (v := 1) C dX3_acceptOffer_55 (by decide) ?_
    refine pr_iadd (pc := 56) C dX3_acceptOffer_56 ?_
    refine pr_puti (pc := 57) C 169 wp_X3_238 rfl (by decide) rfl (by decide) (pl_4 _) dX3_acceptOffer_57 ?_
    refine pr_sim (sj_w169 hs) ?_
    intro K N hs
    exact pr_vret (pc := 60) C E (by omega) (by omega) ⟨rfl, K, N, rfl, sj_eq (sc_acc1 hw4 hwu4 hne ((sc_both hut hl).symm.trans c_15)) hs⟩ dX3_acceptOffer_60

