/-! THE CLASS: a turn is performed -/
section PUSH
variable {K K' : Nat → Nat → Nat → Int32} {N N' : Nat → Nat} {T D e e1 : Nat} {z : sj_Z} {S S' : Nat → Nat → Int32}
/-- one more question -/
theorem sj_pushM (hs : sj_M K N T D z e S) {Q q0 t : Nat} (hw : mw_Q S Q q0) (h6 : Q < 6) : sj_M (lr_K K 1 Q (nI t)) (lr_N N 1 (Q + 1) (lr_nc Q (N 6))) T D z e (pa_us (pa_us S 232 Q (nI t)) 231 0 (nI (Q + 1))) := by
  have hNQ := sj_NQ hs hw
  obtain ⟨hP, ⟨n0, n2, nT, n8, n9, n14, nq, nq6, n25, n36, n47, b5, b6, b7⟩, a40, a125, a163, a47, a128, a51, a52, a53, ast, aphi⟩ := hs
  have eK : ∀ f, 40 ≤ f → f ≠ 163 → ∀ o j, lr_K K 1 Q (nI t) f o j = K f o j := fun f h1 h2 o j => lr_K40 h1 h2
  have eS : ∀ f, f ≠ 231 → f ≠ 232 → ∀ j, pa_us (pa_us S 232 Q (nI t)) 231 0 (nI (Q + 1)) f j = S f j := fun f hf h2 j => by rw [pa_us_ne hf, pa_us_ne h2]
  have eN : ∀ k, k ≠ 3 → k ≠ 6 → lr_N N 1 (Q + 1) (lr_nc Q (N 6)) k = N k := fun k h3 h6 => lr_No h3 h6
  have e3 : lr_N N 1 (Q + 1) (lr_nc Q (N 6)) 3 = Q + 1 := lr_N2 (l := 1) (by decide)
  have e6 : lr_N N 1 (Q + 1) (lr_nc Q (N 6)) 6 = lr_nc Q (N 6) := lr_N5 (l := 1)
  have hcap := lr_cap_le (n := Q) (b := 6) (by omega)
  have hgt := lr_cap_gt Q
  have hnc : Q + 1 ≤ lr_nc Q (N 6) ∧ lr_nc Q (N 6) < 1000 := by
    unfold lr_nc
    by_cases c : Q = N 6
    · rw [if_pos c]
      omega
    · rw [if_neg c]
      omega
  have hf : ∀ i a, sj_fs (lr_K K 1 Q (nI t)) i a = sj_fs K i a := fun i a => by
    funext v n
    unfold sj_fs
    rw [eK 80 (by decide) (by decide), eK 81 (by decide) (by decide), eK 82 (by decide) (by decide)]
  refine ⟨sj_P_of hP (fun q hq o j => eK q.1 ?_ ?_ o j) (fun q hq j => eS q.2.1 ?_ ?_ j), ⟨by rw [eN 0 (by decide) (by decide)]; exact n0, by rw [eN 2 (by decide) (by decide)]; exact n2, nT, by rw [eN 8 (by decide) (by decide)]; exact n8, by rw [eN 9 (by decide) (by decide)]; exact n9, by rw [eN 1 (by decide) (by decide), eN 4 (by decide) (by decide)]; exact n14, by rw [e3, pa_us_self], by omega, by rw [eN 2 (by decide) (by decide), eN 5 (by decide) (by decide)]; exact n25, by omega, by rw [eN 4 (by decide) (by decide), eN 7 (by decide) (by decide)]; exact n47, by rw [eN 5 (by decide) (by decide)]; exact b5, by omega, by rw [eN 7 (by decide) (by decide)]; exact b7⟩, ?_, ?_, fun j hj => ?_, ?_, ?_, ?_, ?_, ?_, ?_, ?_⟩
  · have : ∀ q ∈ sj_T, 40 ≤ q.1 := by decide
    exact this q hq
  · have : ∀ q ∈ sj_T, q.1 ≠ 163 := by decide
    exact this q hq
  · have : ∀ q ∈ sj_T, q.2.1 ≠ 231 := by decide
    exact this q hq
  · have : ∀ q ∈ sj_T, q.2.1 ≠ 232 := by decide
    exact this q hq
  · exact fun i hi => (eK 40 (by decide) (by decide) i 0).trans (a40 i hi)
  · exact fun i hi => (eK 125 (by decide) (by decide) i 0).trans (a125 i hi)
  · rw [e3] at hj
    rw [lr_K163, pa_us_ne (by decide)]
    by_cases c : j = Q
    · rw [if_pos ⟨rfl, c⟩, c, pa_us_self]
    · rw [if_neg (fun q => c q.2), pa_us_nj c]
      exact a163 j (by omega)
  · intro i hi
    rw [eK 47 (by decide) (by decide)]
    exact a47 i hi
  · intro t ht
    rw [eK 128 (by decide) (by decide), eS 224 (by decide) (by decide)]
    exact a128 t ht
  · intro i j hi hj
    rw [eK 51 (by decide) (by decide), eS 210 (by decide) (by decide), eS 211 (by decide) (by decide)]
    exact a51 i j hi hj
  · intro i j hi hj
    obtain ⟨b, c1, c2, c3⟩ := a52 i j hi hj
    exact ⟨b, c1, (eK 52 (by decide) (by decide) i j).trans c2, fun r hr => by rw [eS 234 (by decide) (by decide)]; exact c3 r hr⟩
  · intro i j hi hj
    obtain ⟨b, c1, c2, c3⟩ := a53 i j hi hj
    exact ⟨b, c1, (eK 53 (by decide) (by decide) i j).trans c2, fun r hr => by rw [eS 233 (by decide) (by decide)]; exact c3 r hr⟩
  · intro i j hi hj
    rw [eN 1 (by decide) (by decide), hf, eS 208 (by decide) (by decide)]
    exact ast i j hi hj
  · unfold sj_nz sj_nh sj_nd at aphi ⊢
    rw [eN 1 (by decide) (by decide), show pa_us (pa_us S 232 Q (nI t)) 231 0 (nI (Q + 1)) 208 = S 208 from funext (eS 208 (by decide) (by decide)), show pa_us (pa_us S 232 Q (nI t)) 231 0 (nI (Q + 1)) 210 = S 210 from funext (eS 210 (by decide) (by decide)), show pa_us (pa_us S 232 Q (nI t)) 231 0 (nI (Q + 1)) 225 = S 225 from funext (eS 225 (by decide) (by decide))]
    exact aphi
/-- a hint is given, or taken back -/
theorem sj_hintM (hs : sj_M K N T D z e S) {i p t : Nat} {v cd : Int32} (hi : i < 4) (hp : p < 10) (hcd : cd = if v = 0 then -1 else nI t) (he : e1 + (decide (v ≠ 0)).toNat ≤ e + (decide (S 210 (10 * i + p) ≠ 0)).toNat) : sj_M (pa_up K 51 i p cd) N T D z e1 (pa_us (pa_us S 210 (10 * i + p) v) 211 (10 * i + p) (nI t)) := by
  have eK : ∀ f, f ≠ 51 → ∀ o j, pa_up K 51 i p cd f o j = K f o j := fun f h1 o j => pa_up_ne h1
  have eS : ∀ f, f ≠ 210 → f ≠ 211 → ∀ j, pa_us (pa_us S 210 (10 * i + p) v) 211 (10 * i + p) (nI t) f j = S f j := fun f hf h2 j => by rw [pa_us_ne h2, pa_us_ne hf]
  obtain ⟨hP, hN, a40, a125, a163, a47, a128, a51, a52, a53, ast, aphi⟩ := hs
  have hf : ∀ j c, sj_fs (pa_up K 51 i p cd) j c = sj_fs K j c := fun j c => by
    funext v n
    unfold sj_fs
    rw [eK 80 (by decide), eK 81 (by decide), eK 82 (by decide)]
  refine ⟨sj_P_of hP (fun q hq o j => eK q.1 ?_ o j) (fun q hq j => eS q.2.1 ?_ ?_ j), ?_, ?_, ?_, fun j hj => ?_, ?_, ?_, ?_, ?_, ?_, ?_, ?_⟩
  · have : ∀ q ∈ sj_T, q.1 ≠ 51 := by decide
    exact this q hq
  · have : ∀ q ∈ sj_T, q.2.1 ≠ 210 := by decide
    exact this q hq
  · have : ∀ q ∈ sj_T, q.2.1 ≠ 211 := by decide
    exact this q hq
  · rw [eS 231 (by decide) (by decide)]
    exact hN
  · exact fun i hi => (eK 40 (by decide) i 0).trans (a40 i hi)
  · exact fun i hi => (eK 125 (by decide) i 0).trans (a125 i hi)
  · rw [eK 163 (by decide), eS 232 (by decide) (by decide)]
    exact a163 j hj
  · intro i hi
    rw [eK 47 (by decide)]
    exact a47 i hi
  · intro t ht
    rw [eK 128 (by decide), eS 224 (by decide) (by decide)]
    exact a128 t ht
  · intro o j ho hj
    by_cases c : o = i ∧ j = p
    · rw [c.1, c.2, pa_up_self, pa_us_self, pa_us_ne (by decide), pa_us_self, hcd]
    · have hne : 10 * o + j ≠ 10 * i + p := fun q => c (by omega)
      have q210 : pa_us (pa_us S 210 (10 * i + p) v) 211 (10 * i + p) (nI t) 210 (10 * o + j) = S 210 (10 * o + j) := (pa_us_ne (by decide)).trans (pa_us_nj hne)
      have q211 : pa_us (pa_us S 210 (10 * i + p) v) 211 (10 * i + p) (nI t) 211 (10 * o + j) = S 211 (10 * o + j) := (pa_us_nj hne).trans (pa_us_ne (by decide))
      rw [q210, q211, pa_up_at, if_neg c]
      exact a51 o j ho hj
  · intro i j hi hj
    obtain ⟨b, c1, c2, c3⟩ := a52 i j hi hj
    exact ⟨b, c1, (eK 52 (by decide) i j).trans c2, fun r hr => by rw [eS 234 (by decide) (by decide)]; exact c3 r hr⟩
  · intro i j hi hj
    obtain ⟨b, c1, c2, c3⟩ := a53 i j hi hj
    exact ⟨b, c1, (eK 53 (by decide) i j).trans c2, fun r hr => by rw [eS 233 (by decide) (by decide)]; exact c3 r hr⟩
  · intro i j hi hj
    rw [hf, eS 208 (by decide) (by decide)]
    exact ast i j hi hj
  · unfold sj_nz sj_nh sj_nd at aphi ⊢
    have h1 := sj_c_up (p := fun k => decide (pa_us (pa_us S 210 (10 * i + p) v) 211 (10 * i + p) (nI t) 210 k ≠ 0)) (q := fun k => decide (S 210 k ≠ 0)) (i := 10 * i + p) (n := 40) (by omega) (fun k hk hne => by rw [pa_us_ne (by decide), pa_us_nj hne])
    rw [show pa_us (pa_us S 210 (10 * i + p) v) 211 (10 * i + p) (nI t) 210 (10 * i + p) = v by rw [pa_us_ne (by decide), pa_us_self]] at h1
    rw [show pa_us (pa_us S 210 (10 * i + p) v) 211 (10 * i + p) (nI t) 208 = S 208 from funext (eS 208 (by decide) (by decide)), show pa_us (pa_us S 210 (10 * i + p) v) 211 (10 * i + p) (nI t) 225 = S 225 from funext (eS 225 (by decide) (by decide))]
    omega
end PUSH
set_option maxRecDepth 100000 in
set_option maxHeartbeats 4000000 in
theorem c_X3_perform0a (G : pa_G) (l : Launch) (K : Nat → Nat → Nat → Int32) (Sm S : Nat → Nat → Int32) (N : Nat → Nat) (O : Nat → Int64) (T D e : Nat) (z : sj_Z) (hs : sj_M K N T D z e S) (t w xa e1 Q q0 y : Nat) (hM : mw_S S T) (hJs : mj_s S) (hJq : mj_q S) (ht : t < T) (hw : S 218 t = nI w) (hw4 : w < 4) (ha : S 219 t = nI 0) (hxa : S 220 t = nI xa) (hxa10 : xa < 10) (hv : S 221 t = 1 ∨ S 221 t = 2) (he : e1 + 1 ≤ e + (decide (S 208 (10 * w + xa) = 0)).toNat) (hqq : sc_q S T Q q0) (hQ0 : Q = 0) : pa_M G l mX3_perform 12 true [pv_o 4 0, pv_o 3 t] (K, Sm, N, O) 2 1520 (sj_post none Sm O T D z e1 (ms_doQ S t w 0 Q q0 xa y)) := by
  refine pa_go l (by decide) (by simp [pa_c1l, pa_c1]) (fun _ => rfl) fun x C E el ea => ?_
  subst el
  have hT := hM.1.1
  have hTD := sj_TD hs
  show pa_w G x 2 (K, Sm, N, O) 0 0 0 [some (pv_o 4 0), some (pv_o 3 t)] []
  refine pr_aload_n (pc := 0) C dX3_perform_0 rfl ?_
  refine pr_geti (pc := 1) C 121 wf_X3_161 rfl (by decide) (pl_3 (sj_n0 hs (by first | assumption | omega))) dX3_perform_1 ?_
  refine pr_eqi (v := S 219 t) (sj_r121 hs (by first | assumption | omega)) ?_
  refine pr_eqi ha ?_
  refine pr_tableIn (pc := 4) C 76 dX3_perform_4 (by decide) (by decide) (off := 72) (by decide) (by decide) ?_
  refine pr_aload_n (pc := 76) C dX3_perform_76 rfl ?_
  refine pr_aload_n (pc := 77) C dX3_perform_77 rfl ?_
  refine pr_vC0 (pc := 78) (rest := []) C (c_X3_assertAtom0 G _ K Sm S N O T D e z hs t w xa e1 Q q0 hM hJs hJq ht hw hw4 hxa hxa10 hv he hqq hQ0) wv_X3_325 rfl rfl (by decide) (by decide) (pl_4 _) (by decide) (by omega) (by omega) (fun z => absurd (ea.symm.trans z) (by decide)) (fun _ => ⟨trivial, ⟨⟨lr_kn (by decide), (pl_4 _)⟩, ⟨⟨lr_kn (by decide), (pl_3 (sj_n0 hs (by first | assumption | omega)))⟩, trivial⟩⟩⟩) dX3_perform_78 ?_
  intro K N hs
  refine pr_goto (pc := 81) C 205 dX3_perform_81 (by decide) ?_
  exact pr_vret (pc := 205) C E (by omega) (by omega) ⟨rfl, K, N, rfl, sj_eq (sc_as0 ((ms_says_ne (by decide) (by decide) (by decide) (by decide)).trans hqq.1.1) (by rw [sc_top0 (sc_q_of (S' := ms_says S t w xa (S 221 t)) hqq (fun f hf j => ms_says_ne (fun q => by subst q; revert hf; decide) (fun q => by subst q; revert hf; decide) (fun q => by subst q; revert hf; decide) (fun q => by subst q; revert hf; decide))) hQ0 hw4, Bool.false_and])) hs⟩ dX3_perform_205

set_option maxRecDepth 100000 in
set_option maxHeartbeats 4000000 in
theorem c_X3_perform0b (G : pa_G) (l : Launch) (K : Nat → Nat → Nat → Int32) (Sm S : Nat → Nat → Int32) (N : Nat → Nat) (O : Nat → Int64) (T D e : Nat) (z : sj_Z) (hs : sj_M K N T D z e S) (t w xa e1 Q q0 y : Nat) (hM : mw_S S T) (hJs : mj_s S) (hJq : mj_q S) (ht : t < T) (hw : S 218 t = nI w) (hw4 : w < 4) (ha : S 219 t = nI 0) (hxa : S 220 t = nI xa) (hxa10 : xa < 10) (hv : S 221 t = 1 ∨ S 221 t = 2) (he : e1 + 1 ≤ e + (decide (S 208 (10 * w + xa) = 0)).toNat) (hqq : sc_q S T Q q0) (hQ0 : 0 < Q) : pa_M G l mX3_perform 12 true [pv_o 4 0, pv_o 3 t] (K, Sm, N, O) 2 1520 (sj_post none Sm O T D z e1 (ms_doQ S t w 0 Q q0 xa y)) := by
  refine pa_go l (by decide) (by simp [pa_c1l, pa_c1]) (fun _ => rfl) fun x C E el ea => ?_
  subst el
  have hT := hM.1.1
  have hTD := sj_TD hs
  show pa_w G x 2 (K, Sm, N, O) 0 0 0 [some (pv_o 4 0), some (pv_o 3 t)] []
  refine pr_aload_n (pc := 0) C dX3_perform_0 rfl ?_
  refine pr_geti (pc := 1) C 121 wf_X3_161 rfl (by decide) (pl_3 (sj_n0 hs (by first | assumption | omega))) dX3_perform_1 ?_
  refine pr_eqi (v := S 219 t) (sj_r121 hs (by first | assumption | omega)) ?_
  refine pr_eqi ha ?_
  refine pr_tableIn (pc := 4) C 76 dX3_perform_4 (by decide) (by decide) (off := 72) (by decide) (by decide) ?_
  refine pr_aload_n (pc := 76) C dX3_perform_76 rfl ?_
  refine pr_aload_n (pc := 77) C dX3_perform_77 rfl ?_
  refine pr_vC0 (pc := 78) (rest := []) C (c_X3_assertAtom1 G _ K Sm S N O T D e z hs t w xa e1 Q q0 hM hJs hJq ht hw hw4 hxa hxa10 hv he hqq hQ0) wv_X3_325 rfl rfl (by decide) (by decide) (pl_4 _) (by decide) (by omega) (by omega) (fun z => absurd (ea.symm.trans z) (by decide)) (fun _ => ⟨trivial, ⟨⟨lr_kn (by decide), (pl_4 _)⟩, ⟨⟨lr_kn (by decide), (pl_3 (sj_n0 hs (by first | assumption | omega)))⟩, trivial⟩⟩⟩) dX3_perform_78 ?_
  intro K N hs
  refine pr_goto (pc := 81) C 205 dX3_perform_81 (by decide) ?_
  exact pr_vret (pc := 205) C E (by omega) (by omega) ⟨rfl, K, N, rfl, sj_eq (by rw [← (show ms_says S t w xa (S 221 t) 222 q0 = S 222 q0 from (ms_says_ne (by decide) (by decide) (by decide) (by decide))), ← sc_top (sc_q_of (S' := ms_says S t w xa (S 221 t)) hqq (fun f hf j => ms_says_ne (fun q => by subst q; revert hf; decide) (fun q => by subst q; revert hf; decide) (fun q => by subst q; revert hf; decide) (fun q => by subst q; revert hf; decide))) hQ0 hw4]; rfl) hs⟩ dX3_perform_205

set_option maxRecDepth 100000 in
set_option maxHeartbeats 4000000 in
theorem c_X3_perform1 (G : pa_G) (l : Launch) (K : Nat → Nat → Nat → Int32) (Sm S : Nat → Nat → Int32) (N : Nat → Nat) (O : Nat → Int64) (T D e : Nat) (z : sj_Z) (hs : sj_M K N T D z e S) (t w Q q0 : Nat) (hM : mw_S S T) (hJs : mj_s S) (hJq : mj_q S) (ht : t < T) (hw : S 218 t = nI w) (hw4 : w < 4) (ha : S 219 t = nI 1) (hqq : sc_q S T Q q0) (h6 : Q < 6) (hl : ms_lis (S 222 t) = ms_one (S 222 t)) : pa_M G l mX3_perform 12 true [pv_o 4 0, pv_o 3 t] (K, Sm, N, O) 2 1520 (sj_post none Sm O T D z e (ms_doQ S t w 1 Q q0 0 0)) := by
  refine pa_go l (by decide) (by simp [pa_c1l, pa_c1]) (fun _ => rfl) fun x C E el ea => ?_
  subst el
  have hT := hM.1.1
  have hTD := sj_TD hs
  show pa_w G x 2 (K, Sm, N, O) 0 0 0 [some (pv_o 4 0), some (pv_o 3 t)] []
  refine pr_aload_n (pc := 0) C dX3_perform_0 rfl ?_
  refine pr_geti (pc := 1) C 121 wf_X3_161 rfl (by decide) (pl_3 (sj_n0 hs (by first | assumption | omega))) dX3_perform_1 ?_
  refine pr_eqi (v := S 219 t) (sj_r121 hs (by first | assumption | omega)) ?_
  refine pr_eqi ha ?_
  refine pr_tableIn (pc := 4) C 84 dX3_perform_4 (by decide) (by decide) (off := 80) (by decide) (by decide) ?_
  refine pr_aload_n (pc := 84) C dX3_perform_84 rfl ?_
  refine pr_getl (pc := 85) C 163 1 wf_X3_26 rfl rfl rfl (pl_4 _) dX3_perform_85 ?_
  refine pr_aload_n (pc := 88) C dX3_perform_88 rfl ?_
  have hNQ := sj_NQ hs hqq.1
  have hc6 := sj_c6 hs
  have hcap := lr_cap_le (n := N 6) (b := 999) (by omega)
  have had := c_ladd G x.2.1 (K, Sm, N, O) 1 (3, t) (nI t) (by decide) (show N 3 ≤ N 6 from hc6.1) (show N 6 < 60000 by omega) (fun j hj => sj_els hs (mw_L_of hM) (fun _ => rfl) 1 j (by decide) hj) (pl_3 (sj_n0 hs (by omega))) ⟨fun zz => absurd zz (by decide), fun _ => by rw [nI_clamp (by omega)], fun zz => absurd zz (by decide)⟩
  rw [show ((K, Sm, N, O) : pa_H).2.2.1 (2 + 1) = Q from hNQ] at had
  refine pr_callV0 (pc := 89) (mc' := 1) (ms' := lr_cap (N 6)) (y := mJx4a65c_add_9ea2d) (rest := []) (As := [pv_r (some (3, t))]) C had wv_X3_101 rfl (by decide) (by decide) (pl_0 (by decide)) (by decide) (by omega) (by omega) (fun zz => absurd (ea.symm.trans zz) (by decide)) (fun _ => ⟨trivial, ⟨⟨lr_kn (by decide), (pl_4 _)⟩, ⟨⟨lr_kn (by decide), (pl_3 (sj_n0 hs (by first | assumption | omega)))⟩, trivial⟩⟩⟩) dX3_perform_89 (fun r h9 hp9 => ?_)
  obtain ⟨rfl, rfl⟩ := hp9
  refine pr_sim (sj_pushM (t := t) hs hqq.1 h6) ?_
  intro K N hs
  refine pr_pop (pc := 92) C dX3_perform_92 trivial ?_
  refine pr_aload_n (pc := 93) C dX3_perform_93 rfl ?_
  refine pr_aload_n (pc := 94) C dX3_perform_94 rfl ?_
  refine pr_vP (pc := 95) C (c_X2_listener G _ K Sm (pa_us (pa_us S 232 Q (nI t)) 231 0 (nI (Q + 1))) N O T D e z hs t (by first | assumption | omega)) wv_X3_224 rfl rfl (by decide) (by decide) (pl_3 (sj_n0 hs (by first | assumption | omega))) (Nat.le_of_ble_eq_true rfl) (by omega) (by omega) dX3_perform_95 ?_
  refine pr_eqi hl ?_
  refine pr_vC0 (pc := 98) (rest := []) C (c_X3_entitle G _ K Sm (pa_us (pa_us S 232 Q (nI t)) 231 0 (nI (Q + 1))) N O T D e z hs (ms_one (S 222 t))) wv_X3_328 rfl rfl (by decide) (by decide) (pl_4 _) (by decide) (by omega) (by omega) (fun _ => rfl) (fun z => by cases z) dX3_perform_98 ?_
  intro K N hs
  refine pr_goto (pc := 101) C 205 dX3_perform_101 (by decide) ?_
  exact pr_vret (pc := 205) C E (by omega) (by omega) ⟨rfl, K, N, rfl, hs⟩ dX3_perform_205

set_option maxRecDepth 100000 in
set_option maxHeartbeats 4000000 in
theorem c_X3_perform2a (G : pa_G) (l : Launch) (K : Nat → Nat → Nat → Int32) (Sm S : Nat → Nat → Int32) (N : Nat → Nat) (O : Nat → Int64) (T D e : Nat) (z : sj_Z) (hs : sj_M K N T D z e S) (t w y Q q0 : Nat) (hM : mw_L S T) (hJs : mj_s S) (hJq : mj_q S) (ht : t < T) (hw : S 218 t = nI w) (hw4 : w < 4) (ha : S 219 t = nI 2) (hv : S 221 t = 0) (hqq : sc_q S T Q q0) (hQ0 : 0 < Q) (hy : S 220 q0 = nI y) : pa_M G l mX3_perform 12 true [pv_o 4 0, pv_o 3 t] (K, Sm, N, O) 2 1520 (sj_post none Sm O T D z e (ms_doQ S t w 2 Q q0 0 y)) := by
  refine pa_go l (by decide) (by simp [pa_c1l, pa_c1]) (fun _ => rfl) fun x C E el ea => ?_
  subst el
  have hT := hM.1
  have hTD := sj_TD hs
  show pa_w G x 2 (K, Sm, N, O) 0 0 0 [some (pv_o 4 0), some (pv_o 3 t)] []
  refine pr_aload_n (pc := 0) C dX3_perform_0 rfl ?_
  refine pr_geti (pc := 1) C 121 wf_X3_161 rfl (by decide) (pl_3 (sj_n0 hs (by first | assumption | omega))) dX3_perform_1 ?_
  refine pr_eqi (v := S 219 t) (sj_r121 hs (by first | assumption | omega)) ?_
  refine pr_eqi ha ?_
  refine pr_tableIn (pc := 4) C 104 dX3_perform_4 (by decide) (by decide) (off := 100) (by decide) (by decide) ?_
  refine pr_aload_n (pc := 104) C dX3_perform_104 rfl ?_
  refine pr_aload_n (pc := 105) C dX3_perform_105 rfl ?_
  refine pr_vC0 (pc := 106) (rest := []) C (c_X3_answerTopQuestion1 G _ K Sm S N O T D e z hs t y Q q0 hM ht hv hqq hQ0 hy) wv_X3_331 rfl rfl (by decide) (by decide) (pl_4 _) (by decide) (by omega) (by omega) (fun z => absurd (ea.symm.trans z) (by decide)) (fun _ => ⟨trivial, ⟨⟨lr_kn (by decide), (pl_4 _)⟩, ⟨⟨lr_kn (by decide), (pl_3 (sj_n0 hs (by first | assumption | omega)))⟩, trivial⟩⟩⟩) dX3_perform_106 ?_
  intro K N hs
  refine pr_goto (pc := 109) C 205 dX3_perform_109 (by decide) ?_
  exact pr_vret (pc := 205) C E (by omega) (by omega) ⟨rfl, K, N, rfl, sj_eq (by unfold ms_doQ; rw [if_neg (by decide), if_neg (by decide), if_pos rfl, if_neg (by rw [hv]; decide)]) hs⟩ dX3_perform_205

set_option maxRecDepth 100000 in
set_option maxHeartbeats 4000000 in
theorem c_X3_perform2b (G : pa_G) (l : Launch) (K : Nat → Nat → Nat → Int32) (Sm S : Nat → Nat → Int32) (N : Nat → Nat) (O : Nat → Int64) (T D e : Nat) (z : sj_Z) (hs : sj_M K N T D z e S) (t w y e1 Q q0 : Nat) (hM : mw_L S T) (hJs : mj_s S) (hJq : mj_q S) (ht : t < T) (hw : S 218 t = nI w) (hw4 : w < 4) (ha : S 219 t = nI 2) (hv : S 221 t = 1 ∨ S 221 t = 2) (hqq : sc_q S T Q q0) (hQ0 : 0 < Q) (hy : S 220 q0 = nI y) (hy10 : y < 10) (hM2 : mw_S (pa_us (pa_us S 231 0 (nI (Q - 1))) 220 t (nI y)) T) (he : e1 + 1 ≤ e + (decide (S 208 (10 * w + y) = 0)).toNat) : pa_M G l mX3_perform 12 true [pv_o 4 0, pv_o 3 t] (K, Sm, N, O) 2 1520 (sj_post none Sm O T D z e1 (ms_doQ S t w 2 Q q0 0 y)) := by
  refine pa_go l (by decide) (by simp [pa_c1l, pa_c1]) (fun _ => rfl) fun x C E el ea => ?_
  subst el
  have hT := hM.1
  have hTD := sj_TD hs
  show pa_w G x 2 (K, Sm, N, O) 0 0 0 [some (pv_o 4 0), some (pv_o 3 t)] []
  refine pr_aload_n (pc := 0) C dX3_perform_0 rfl ?_
  refine pr_geti (pc := 1) C 121 wf_X3_161 rfl (by decide) (pl_3 (sj_n0 hs (by first | assumption | omega))) dX3_perform_1 ?_
  refine pr_eqi (v := S 219 t) (sj_r121 hs (by first | assumption | omega)) ?_
  refine pr_eqi ha ?_
  refine pr_tableIn (pc := 4) C 104 dX3_perform_4 (by decide) (by decide) (off := 100) (by decide) (by decide) ?_
  refine pr_aload_n (pc := 104) C dX3_perform_104 rfl ?_
  refine pr_aload_n (pc := 105) C dX3_perform_105 rfl ?_
  refine pr_vC0 (pc := 106) (rest := []) C (c_X3_answerTopQuestion2 G _ K Sm S N O T D e z hs t w y e1 Q q0 hM hJs hJq ht hw hw4 hv hqq hQ0 hy hy10 hM2 he) wv_X3_331 rfl rfl (by decide) (by decide) (pl_4 _) (by decide) (by omega) (by omega) (fun z => absurd (ea.symm.trans z) (by decide)) (fun _ => ⟨trivial, ⟨⟨lr_kn (by decide), (pl_4 _)⟩, ⟨⟨lr_kn (by decide), (pl_3 (sj_n0 hs (by first | assumption | omega)))⟩, trivial⟩⟩⟩) dX3_perform_106 ?_
  intro K N hs
  refine pr_goto (pc := 109) C 205 dX3_perform_109 (by decide) ?_
  exact pr_vret (pc := 205) C E (by omega) (by omega) ⟨rfl, K, N, rfl, sj_eq (by unfold ms_doQ; rw [if_neg (by decide), if_neg (by decide), if_pos rfl, if_pos (by rcases hv with q | q <;> rw [q] <;> decide)]) hs⟩ dX3_perform_205

set_option maxRecDepth 100000 in
set_option maxHeartbeats 4000000 in
theorem c_X3_perform3 (G : pa_G) (l : Launch) (K : Nat → Nat → Nat → Int32) (Sm S : Nat → Nat → Int32) (N : Nat → Nat) (O : Nat → Int64) (T D e : Nat) (z : sj_Z) (hs : sj_M K N T D z e S) (t w Q q0 : Nat) (hM : mw_S S T) (hJs : mj_s S) (hJq : mj_q S) (ht : t < T) (hw : S 218 t = nI w) (hw4 : w < 4) (ha : S 219 t = nI 3) (hqq : sc_q S T Q q0) (hQ0 : 0 < Q) : pa_M G l mX3_perform 12 true [pv_o 4 0, pv_o 3 t] (K, Sm, N, O) 2 1520 (sj_post none Sm O T D z e (ms_doQ S t w 3 Q q0 0 0)) := by
  refine pa_go l (by decide) (by simp [pa_c1l, pa_c1]) (fun _ => rfl) fun x C E el ea => ?_
  subst el
  have hT := hM.1.1
  have hTD := sj_TD hs
  show pa_w G x 2 (K, Sm, N, O) 0 0 0 [some (pv_o 4 0), some (pv_o 3 t)] []
  refine pr_aload_n (pc := 0) C dX3_perform_0 rfl ?_
  refine pr_geti (pc := 1) C 121 wf_X3_161 rfl (by decide) (pl_3 (sj_n0 hs (by first | assumption | omega))) dX3_perform_1 ?_
  refine pr_eqi (v := S 219 t) (sj_r121 hs (by first | assumption | omega)) ?_
  refine pr_eqi ha ?_
  refine pr_tableIn (pc := 4) C 112 dX3_perform_4 (by decide) (by decide) (off := 108) (by decide) (by decide) ?_
  refine pr_aload_n (pc := 112) C dX3_perform_112 rfl ?_
  refine pr_vC0 (pc := 113) (rest := []) C (c_X3_closeTopQuestion1 G _ K Sm S N O T D e z hs Q q0 (mw_L_of hM) hqq.1 hQ0) wv_X3_334 rfl rfl (by decide) (by decide) (pl_4 _) (by decide) (by omega) (by omega) (fun z => absurd (ea.symm.trans z) (by decide)) (fun _ => ⟨trivial, ⟨⟨lr_kn (by decide), (pl_4 _)⟩, ⟨⟨lr_kn (by decide), (pl_3 (sj_n0 hs (by first | assumption | omega)))⟩, trivial⟩⟩⟩) dX3_perform_113 ?_
  intro K N hs
  refine pr_goto (pc := 116) C 205 dX3_perform_116 (by decide) ?_
  exact pr_vret (pc := 205) C E (by omega) (by omega) ⟨rfl, K, N, rfl, hs⟩ dX3_perform_205

set_option maxRecDepth 100000 in
set_option maxHeartbeats 4000000 in
theorem c_X3_perform9 (G : pa_G) (l : Launch) (K : Nat → Nat → Nat → Int32) (Sm S : Nat → Nat → Int32) (N : Nat → Nat) (O : Nat → Int64) (T D e : Nat) (z : sj_Z) (hs : sj_M K N T D z e S) (t w xa v e1 : Nat) (hM : mw_S S T) (hJs : mj_s S) (hJq : mj_q S) (ht : t < T) (hw : S 218 t = nI w) (hw4 : w < 4) (ha : S 219 t = nI 9) (hxa : S 220 t = nI xa) (hxa10 : xa < 10) (hv : S 221 t = nI v) (hv10 : v < 10) (he : e1 + 1 ≤ e + (decide (S 208 (10 * w + v) = 0)).toNat) : pa_M G l mX3_perform 12 true [pv_o 4 0, pv_o 3 t] (K, Sm, N, O) 2 1520 (sj_post none Sm O T D z e1 (ms_doA S t w 9 xa v)) := by
  refine pa_go l (by decide) (by simp [pa_c1l, pa_c1]) (fun _ => rfl) fun x C E el ea => ?_
  subst el
  have hT := hM.1.1
  have hTD := sj_TD hs
  show pa_w G x 2 (K, Sm, N, O) 0 0 0 [some (pv_o 4 0), some (pv_o 3 t)] []
  refine pr_aload_n (pc := 0) C dX3_perform_0 rfl ?_
  refine pr_geti (pc := 1) C 121 wf_X3_161 rfl (by decide) (pl_3 (sj_n0 hs (by first | assumption | omega))) dX3_perform_1 ?_
  refine pr_eqi (v := S 219 t) (sj_r121 hs (by first | assumption | omega)) ?_
  refine pr_eqi ha ?_
  refine pr_tableIn (pc := 4) C 119 dX3_perform_4 (by decide) (by decide) (off := 115) (by decide) (by decide) ?_
  refine pr_aload_n (pc := 119) C dX3_perform_119 rfl ?_
  refine pr_aload_n (pc := 120) C dX3_perform_120 rfl ?_
  refine pr_vC0 (pc := 121) (rest := []) C (c_X3_giveReason G _ K Sm S N O T D e z hs t w xa v e1 hM hJs hJq ht hw hw4 hxa hxa10 hv hv10 he) wv_X3_337 rfl rfl (by decide) (by decide) (pl_4 _) (by decide) (by omega) (by omega) (fun z => absurd (ea.symm.trans z) (by decide)) (fun _ => ⟨trivial, ⟨⟨lr_kn (by decide), (pl_4 _)⟩, ⟨⟨lr_kn (by decide), (pl_3 (sj_n0 hs (by first | assumption | omega)))⟩, trivial⟩⟩⟩) dX3_perform_121 ?_
  intro K N hs
  refine pr_goto (pc := 124) C 205 dX3_perform_124 (by decide) ?_
  exact pr_vret (pc := 205) C E (by omega) (by omega) ⟨rfl, K, N, rfl, hs⟩ dX3_perform_205

set_option maxRecDepth 100000 in
set_option maxHeartbeats 4000000 in
theorem c_X3_perform10 (G : pa_G) (l : Launch) (K : Nat → Nat → Nat → Int32) (Sm S : Nat → Nat → Int32) (N : Nat → Nat) (O : Nat → Int64) (T D e : Nat) (z : sj_Z) (hs : sj_M K N T D z e S) (t w xa e1 : Nat) (hM : mw_S S T) (hJs : mj_s S) (hJq : mj_q S) (ht : t < T) (hw : S 218 t = nI w) (hw4 : w < 4) (ha : S 219 t = nI 10) (hxa : S 220 t = nI xa) (hxa10 : xa < 10) (he : e1 + 2 ≤ e + (decide (S 208 (10 * w + xa) = 0)).toNat) : pa_M G l mX3_perform 12 true [pv_o 4 0, pv_o 3 t] (K, Sm, N, O) 2 1520 (sj_post none Sm O T D z e1 (ms_doA S t w 10 xa 0)) := by
  refine pa_go l (by decide) (by simp [pa_c1l, pa_c1]) (fun _ => rfl) fun x C E el ea => ?_
  subst el
  have hT := hM.1.1
  have hTD := sj_TD hs
  show pa_w G x 2 (K, Sm, N, O) 0 0 0 [some (pv_o 4 0), some (pv_o 3 t)] []
  refine pr_aload_n (pc := 0) C dX3_perform_0 rfl ?_
  refine pr_geti (pc := 1) C 121 wf_X3_161 rfl (by decide) (pl_3 (sj_n0 hs (by first | assumption | omega))) dX3_perform_1 ?_
  refine pr_eqi (v := S 219 t) (sj_r121 hs (by first | assumption | omega)) ?_
  refine pr_eqi ha ?_
  refine pr_tableIn (pc := 4) C 127 dX3_perform_4 (by decide) (by decide) (off := 123) (by decide) (by decide) ?_
  refine pr_aload_n (pc := 127) C dX3_perform_127 rfl ?_
  refine pr_aload_n (pc := 128) C dX3_perform_128 rfl ?_
  refine pr_gets (pc := 129) C 120 wf_X3_105 rfl rfl (pl_3 (sj_n0 hs (by first | assumption | omega))) w ((sj_r120 hs (by first | assumption | omega)).trans hw) (by first | assumption | omega) dX3_perform_129 ?_
  refine pr_aload_n (pc := 132) C dX3_perform_132 rfl ?_
  refine pr_geti (pc := 133) C 126 wf_X3_164 rfl (by decide) (pl_3 (sj_n0 hs (by first | assumption | omega))) dX3_perform_133 ?_
  refine pr_eqi (v := S 220 t) (sj_r126 hs (by first | assumption | omega)) ?_
  refine pr_eqi hxa ?_
  refine pr_iconst (pc := 136) (v := 0) C dX3_perform_136 (by decide) ?_
  refine pr_aload_n (pc := 137) C dX3_perform_137 rfl ?_
  refine pr_vC0 (pc := 138) (rest := []) C (c_X3_commit G _ K Sm S N O T D e z hs w xa t e1 (0 : Int32) hM hJs hJq hw4 hxa10 ht (Or.inl rfl) (by simpa using he)) wv_X3_340 rfl rfl (by decide) (by decide) (pl_4 _) (by decide) (by omega) (by omega) (fun z => absurd (ea.symm.trans z) (by decide)) (fun _ => ⟨trivial, ⟨⟨lr_kn (by decide), (pl_4 _)⟩, ⟨⟨lr_kn (by decide), (pl_3 (sj_n0 hs (by first | assumption | omega)))⟩, trivial⟩⟩⟩) dX3_perform_138 ?_
  intro K N hs
  refine pr_goto (pc := 141) C 205 dX3_perform_141 (by decide) ?_
  exact pr_vret (pc := 205) C E (by omega) (by omega) ⟨rfl, K, N, rfl, hs⟩ dX3_perform_205

set_option maxRecDepth 100000 in
set_option maxHeartbeats 4000000 in
theorem c_X3_perform11 (G : pa_G) (l : Launch) (K : Nat → Nat → Nat → Int32) (Sm S : Nat → Nat → Int32) (N : Nat → Nat) (O : Nat → Int64) (T D e : Nat) (z : sj_Z) (hs : sj_M K N T D z e S) (t w xa e1 : Nat) (hM : mw_S S T) (hJs : mj_s S) (hJq : mj_q S) (ht : t < T) (hw : S 218 t = nI w) (hw4 : w < 4) (ha : S 219 t = nI 11) (hxa : S 220 t = nI xa) (hxa10 : xa < 10) (hv0 : ¬ S 221 t = 0) (he : e1 + (decide (S 221 t ≠ 0)).toNat ≤ e + (decide (S 210 (10 * w + xa) ≠ 0)).toNat) : pa_M G l mX3_perform 12 true [pv_o 4 0, pv_o 3 t] (K, Sm, N, O) 2 1520 (sj_post none Sm O T D z e1 (ms_doA S t w 11 xa 0)) := by
  refine pa_go l (by decide) (by simp [pa_c1l, pa_c1]) (fun _ => rfl) fun x C E el ea => ?_
  subst el
  have hT := hM.1.1
  have hTD := sj_TD hs
  show pa_w G x 2 (K, Sm, N, O) 0 0 0 [some (pv_o 4 0), some (pv_o 3 t)] []
  refine pr_aload_n (pc := 0) C dX3_perform_0 rfl ?_
  refine pr_geti (pc := 1) C 121 wf_X3_161 rfl (by decide) (pl_3 (sj_n0 hs (by first | assumption | omega))) dX3_perform_1 ?_
  refine pr_eqi (v := S 219 t) (sj_r121 hs (by first | assumption | omega)) ?_
  refine pr_eqi ha ?_
  refine pr_tableIn (pc := 4) C 144 dX3_perform_4 (by decide) (by decide) (off := 140) (by decide) (by decide) ?_
  refine pr_aload_n (pc := 144) C dX3_perform_144 rfl ?_
  refine pr_gets (pc := 145) C 120 wf_X3_105 rfl rfl (pl_3 (sj_n0 hs (by first | assumption | omega))) w ((sj_r120 hs (by first | assumption | omega)).trans hw) (by first | assumption | omega) dX3_perform_145 ?_
  refine pr_geta (pc := 148) C 51 151 wf_X3_209 rfl rfl (by decide) (pl_1 (by first | assumption | omega)) dX3_perform_148 ?_
  refine pr_aload_n (pc := 151) C dX3_perform_151 rfl ?_
  refine pr_geti (pc := 152) C 126 wf_X3_164 rfl (by decide) (pl_3 (sj_n0 hs (by first | assumption | omega))) dX3_perform_152 ?_
  refine pr_eqi (v := S 220 t) (sj_r126 hs (by first | assumption | omega)) ?_
  refine pr_eqi hxa ?_
  refine pr_aload_n (pc := 155) C dX3_perform_155 rfl ?_
  refine pr_astt (pc := 156) (n := 10) C 51 xa (nI t) rfl (by decide) rfl rfl (pl_r1 (by decide) (by first | assumption | omega)) (pa_rc_nI (by first | assumption | omega)) (by intro z hz; cases hz; exact ⟨rfl, (pl_3 (sj_n0 hs (by first | assumption | omega)))⟩) rfl (by omega) (by decide) dX3_perform_156 ?_
  refine pr_sim (sj_hintM (t := t) (v := S 221 t) hs hw4 hxa10 (if_neg hv0).symm he) ?_
  intro K N hs
  refine pr_goto (pc := 157) C 205 dX3_perform_157 (by decide) ?_
  exact pr_vret (pc := 205) C E (by omega) (by omega) ⟨rfl, K, N, rfl, hs⟩ dX3_perform_205

set_option maxRecDepth 100000 in
set_option maxHeartbeats 4000000 in
theorem c_X3_perform12 (G : pa_G) (l : Launch) (K : Nat → Nat → Nat → Int32) (Sm S : Nat → Nat → Int32) (N : Nat → Nat) (O : Nat → Int64) (T D e : Nat) (z : sj_Z) (hs : sj_M K N T D z e S) (t w xa e1 : Nat) (hM : mw_S S T) (hJs : mj_s S) (hJq : mj_q S) (ht : t < T) (hw : S 218 t = nI w) (hw4 : w < 4) (ha : S 219 t = nI 12) (hxa : S 220 t = nI xa) (hxa10 : xa < 10) (he : e1 + (decide ((0 : Int32) ≠ 0)).toNat ≤ e + (decide (S 210 (10 * w + xa) ≠ 0)).toNat) : pa_M G l mX3_perform 12 true [pv_o 4 0, pv_o 3 t] (K, Sm, N, O) 2 1520 (sj_post none Sm O T D z e1 (ms_doA S t w 12 xa 0)) := by
  refine pa_go l (by decide) (by simp [pa_c1l, pa_c1]) (fun _ => rfl) fun x C E el ea => ?_
  subst el
  have hT := hM.1.1
  have hTD := sj_TD hs
  show pa_w G x 2 (K, Sm, N, O) 0 0 0 [some (pv_o 4 0), some (pv_o 3 t)] []
  refine pr_aload_n (pc := 0) C dX3_perform_0 rfl ?_
  refine pr_geti (pc := 1) C 121 wf_X3_161 rfl (by decide) (pl_3 (sj_n0 hs (by first | assumption | omega))) dX3_perform_1 ?_
  refine pr_eqi (v := S 219 t) (sj_r121 hs (by first | assumption | omega)) ?_
  refine pr_eqi ha ?_
  refine pr_tableIn (pc := 4) C 160 dX3_perform_4 (by decide) (by decide) (off := 156) (by decide) (by decide) ?_
  refine pr_aload_n (pc := 160) C dX3_perform_160 rfl ?_
  refine pr_gets (pc := 161) C 120 wf_X3_105 rfl rfl (pl_3 (sj_n0 hs (by first | assumption | omega))) w ((sj_r120 hs (by first | assumption | omega)).trans hw) (by first | assumption | omega) dX3_perform_161 ?_
  refine pr_geta (pc := 164) C 51 151 wf_X3_209 rfl rfl (by decide) (pl_1 (by first | assumption | omega)) dX3_perform_164 ?_
  refine pr_aload_n (pc := 167) C dX3_perform_167 rfl ?_
  refine pr_geti (pc := 168) C 126 wf_X3_164 rfl (by decide) (pl_3 (sj_n0 hs (by first | assumption | omega))) dX3_perform_168 ?_
  refine pr_eqi (v := S 220 t) (sj_r126 hs (by first | assumption | omega)) ?_
  refine pr_eqi hxa ?_
  refine pr_null (pc := 171) C dX3_perform_171 ?_
  refine pr_astt (pc := 172) (n := 10) C 51 xa (-1) rfl (by decide) rfl rfl (pl_r1 (by decide) (by first | assumption | omega)) (by decide) (by intro z hz; cases hz) rfl (by omega) (by decide) dX3_perform_172 ?_
  refine pr_sim (sj_hintM (t := t) (v := 0) hs hw4 hxa10 (if_pos rfl).symm he) ?_
  intro K N hs
  refine pr_goto (pc := 173) C 205 dX3_perform_173 (by decide) ?_
  exact pr_vret (pc := 205) C E (by omega) (by omega) ⟨rfl, K, N, rfl, hs⟩ dX3_perform_205

set_option maxRecDepth 100000 in
set_option maxHeartbeats 4000000 in
theorem c_X3_perform13 (G : pa_G) (l : Launch) (K : Nat → Nat → Nat → Int32) (Sm S : Nat → Nat → Int32) (N : Nat → Nat) (O : Nat → Int64) (T D e : Nat) (z : sj_Z) (hs : sj_M K N T D z e S) (t w : Nat) (hM : mw_S S T) (hJs : mj_s S) (hJq : mj_q S) (ht : t < T) (hw : S 218 t = nI w) (hw4 : w < 4) (ha : S 219 t = nI 13) (hJ : mj_T S T) : pa_M G l mX3_perform 12 true [pv_o 4 0, pv_o 3 t] (K, Sm, N, O) 2 1520 (sj_post none Sm O T D z e (ms_right (pa_us (pz_it (ms_ofc t w) T S) 227 t 1) (ms_lis (S 222 t)))) := by
  refine pa_go l (by decide) (by simp [pa_c1l, pa_c1]) (fun _ => rfl) fun x C E el ea => ?_
  subst el
  have hT := hM.1.1
  have hTD := sj_TD hs
  show pa_w G x 2 (K, Sm, N, O) 0 0 0 [some (pv_o 4 0), some (pv_o 3 t)] []
  refine pr_aload_n (pc := 0) C dX3_perform_0 rfl ?_
  refine pr_geti (pc := 1) C 121 wf_X3_161 rfl (by decide) (pl_3 (sj_n0 hs (by first | assumption | omega))) dX3_perform_1 ?_
  refine pr_eqi (v := S 219 t) (sj_r121 hs (by first | assumption | omega)) ?_
  refine pr_eqi ha ?_
  refine pr_tableIn (pc := 4) C 176 dX3_perform_4 (by decide) (by decide) (off := 172) (by decide) (by decide) ?_
  refine pr_aload_n (pc := 176) C dX3_perform_176 rfl ?_
  refine pr_aload_n (pc := 177) C dX3_perform_177 rfl ?_
  refine pr_vC0 (pc := 178) (rest := []) C (c_X3_openOffer G _ K Sm S N O T D e z hs t w hM hJ ht hw hw4) wv_X3_344 rfl rfl (by decide) (by decide) (pl_4 _) (by decide) (by omega) (by omega) (fun _ => rfl) (fun z => by cases z) dX3_perform_178 ?_
  intro K N hs
  have e222 : (pa_us (pz_it (ms_ofc t w) T S) 227 t 1) 222 t = S 222 t := (pa_us_ne (by decide)).trans (ms_ofc_fr (by decide))
  refine pr_aload_n (pc := 181) C dX3_perform_181 rfl ?_
  refine pr_aload_n (pc := 182) C dX3_perform_182 rfl ?_
  refine pr_vP (pc := 183) C (c_X2_listener G _ K Sm (pa_us (pz_it (ms_ofc t w) T S) 227 t 1) N O T D e z hs t (by first | assumption | omega)) wv_X3_224 rfl rfl (by decide) (by decide) (pl_3 (sj_n0 hs (by first | assumption | omega))) (Nat.le_of_ble_eq_true rfl) (by omega) (by omega) dX3_perform_183 ?_
  refine pr_eqi (by rw [e222]) ?_
  refine pr_vC0 (pc := 186) (rest := []) C (c_X3_entitle G _ K Sm (pa_us (pz_it (ms_ofc t w) T S) 227 t 1) N O T D e z hs (ms_lis (S 222 t))) wv_X3_328 rfl rfl (by decide) (by decide) (pl_4 _) (by decide) (by omega) (by omega) (fun _ => rfl) (fun z => by cases z) dX3_perform_186 ?_
  intro K N hs
  refine pr_goto (pc := 189) C 205 dX3_perform_189 (by decide) ?_
  exact pr_vret (pc := 205) C E (by omega) (by omega) ⟨rfl, K, N, rfl, hs⟩ dX3_perform_205

