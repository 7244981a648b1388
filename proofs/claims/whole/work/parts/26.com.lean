/-! THE CLASS: a speaker commits itself; what reaches; who is entitled -/
theorem pz_it_cg {σ : Type} {f g : σ → Nat → σ} : ∀ {n : Nat} {s : σ}, (∀ k, k < n → ∀ v, f v k = g v k) → pz_it f n s = pz_it g n s
  | 0, _, _ => rfl
  | n + 1, s, h => by rw [pz_it_s, pz_it_s, pz_it_cg (fun k hk => h k (by omega)), h n (by omega)]
section STEP
variable {K K' : Nat → Nat → Nat → Int32} {N N' : Nat → Nat} {T D e e1 : Nat} {z : sj_Z} {S S' : Nat → Nat → Int32}
theorem sj_T49 : ∀ q ∈ sj_T, q = (49, 208, 10, 0, 10) ∨ q = (50, 209, 10, 0, 10) ∨ ((q.1 ≠ 0 ∧ q.1 ≠ 49 ∧ q.1 ≠ 50 ∧ q.1 ≠ 80 ∧ q.1 ≠ 81 ∧ q.1 ≠ 82) ∧ q.2.1 ≠ 208 ∧ q.2.1 ≠ 209) := by decide
/-- a stand is taken, a step noted -/
theorem sj_step (hs : sj_M K N T D z e1 S) {w p : Nat} (hw : w < 4) (hp : p < 10) {v tb : Int32}
    (hK : ∀ f, f ≠ 0 → f ≠ 49 → f ≠ 50 → f ≠ 80 → f ≠ 81 → f ≠ 82 → ∀ o j, K' f o j = K f o j) (h49 : ∀ o j, K' 49 o j = if o = w ∧ j = p then v else K 49 o j) (h50 : ∀ o j, K' 50 o j = if o = w ∧ j = p then tb else K 50 o j)
    (h80 : ∀ i, K' 80 i 0 = if i = N 1 then nI w else K 80 i 0) (h81 : ∀ i, K' 81 i 0 = if i = N 1 then nI p else K 81 i 0) (h82 : ∀ i, K' 82 i 0 = if i = N 1 then v else K 82 i 0)
    (hN0 : ∀ k, k ≠ 1 → k ≠ 4 → k ≠ 7 → N' k = N k) (hN1 : N' 1 = N 1 + 1) (hN4 : N' 4 = N 4 + 1) (hN7 : N 4 + 1 ≤ N' 7 ∧ N' 7 < 1000) (he : e + 1 + (decide (v = 0)).toNat ≤ e1 + (decide (S 208 (10 * w + p) = 0)).toNat) :
    sj_M K' N' T D z e (pa_us (pa_us S 208 (10 * w + p) v) 209 (10 * w + p) tb) := by
  obtain ⟨hP, ⟨n0, n2, nT, n8, n9, n14, nq, nq6, n25, n36, n47, b5, b6, b7⟩, a40, a125, a163, a47, a128, a51, a52, a53, ast, aphi⟩ := hs
  have eS : ∀ f, f ≠ 208 → f ≠ 209 → (pa_us (pa_us S 208 (10 * w + p) v) 209 (10 * w + p) tb) f = S f := fun f h1 h2 => funext fun j => by rw [pa_us_ne h2, pa_us_ne h1]
  have e208 : ∀ k, (pa_us (pa_us S 208 (10 * w + p) v) 209 (10 * w + p) tb) 208 k = if k = 10 * w + p then v else S 208 k := fun k => by
    rw [pa_us_ne (by decide)]
    unfold pa_us
    by_cases c : k = 10 * w + p
    · rw [if_pos ⟨rfl, c⟩, if_pos c]
    · rw [if_neg (fun z => c z.2), if_neg c]
  refine ⟨fun q hq o j ho hj => ?_, ⟨by rw [hN0 0 (by decide) (by decide) (by decide)]; exact n0, by rw [hN0 2 (by decide) (by decide) (by decide)]; exact n2, nT, by rw [hN0 8 (by decide) (by decide) (by decide)]; exact n8, by rw [hN0 9 (by decide) (by decide) (by decide)]; exact n9, by omega, by rw [eS 231 (by decide) (by decide), hN0 3 (by decide) (by decide) (by decide)]; exact nq, by rw [hN0 3 (by decide) (by decide) (by decide)]; exact nq6, by rw [hN0 2 (by decide) (by decide) (by decide), hN0 5 (by decide) (by decide) (by decide)]; exact n25, by rw [hN0 3 (by decide) (by decide) (by decide), hN0 6 (by decide) (by decide) (by decide)]; exact n36, by omega, by rw [hN0 5 (by decide) (by decide) (by decide)]; exact b5, by rw [hN0 6 (by decide) (by decide) (by decide)]; exact b6, hN7.2⟩, ?_, ?_, ?_, ?_, ?_, ?_, ?_, ?_, ?_, ?_⟩
  · rcases sj_T49 q hq with rfl | rfl | ⟨⟨g0, g1, g2, g3, g4, g5⟩, g6, g7⟩
    · have hj : j < 10 := hj
      have h1 := hP (49, 208, 10, 0, 10) hq o j ho hj
      show K' 49 o j = (pa_us (pa_us S 208 (10 * w + p) v) 209 (10 * w + p) tb) 208 (10 * o + j)
      rw [h49, e208]
      by_cases c : o = w ∧ j = p
      · rw [if_pos c, if_pos (by omega)]
      · rw [if_neg c, if_neg (fun z => c (by omega))]
        exact h1
    · have hj : j < 10 := hj
      have h1 := hP (50, 209, 10, 0, 10) hq o j ho hj
      show K' 50 o j = (pa_us (pa_us S 208 (10 * w + p) v) 209 (10 * w + p) tb) 209 (10 * o + j)
      rw [h50]
      by_cases c : o = w ∧ j = p
      · rw [if_pos c, show 10 * o + j = 10 * w + p by omega, pa_us_self]
      · rw [if_neg c, pa_us_nj (fun z => c (by omega)), pa_us_ne (by decide)]
        exact h1
    · rw [hK q.1 g0 g1 g2 g3 g4 g5, eS q.2.1 g6 g7]
      exact hP q hq o j ho hj
  · exact fun i hi => (hK 40 (by decide) (by decide) (by decide) (by decide) (by decide) (by decide) i 0).trans (a40 i hi)
  · exact fun i hi => (hK 125 (by decide) (by decide) (by decide) (by decide) (by decide) (by decide) i 0).trans (a125 i hi)
  · intro j hj
    rw [hN0 3 (by decide) (by decide) (by decide)] at hj
    rw [hK 163 (by decide) (by decide) (by decide) (by decide) (by decide) (by decide), eS 232 (by decide) (by decide)]
    exact a163 j hj
  · intro i hi
    rw [hK 47 (by decide) (by decide) (by decide) (by decide) (by decide) (by decide)]
    exact a47 i hi
  · intro t ht
    rw [hK 128 (by decide) (by decide) (by decide) (by decide) (by decide) (by decide), eS 224 (by decide) (by decide)]
    exact a128 t ht
  · intro i j hi hj
    rw [hK 51 (by decide) (by decide) (by decide) (by decide) (by decide) (by decide), eS 210 (by decide) (by decide), eS 211 (by decide) (by decide)]
    exact a51 i j hi hj
  · intro i j hi hj
    rw [hK 52 (by decide) (by decide) (by decide) (by decide) (by decide) (by decide), eS 234 (by decide) (by decide)]
    exact a52 i j hi hj
  · intro i j hi hj
    rw [hK 53 (by decide) (by decide) (by decide) (by decide) (by decide) (by decide), eS 233 (by decide) (by decide)]
    exact a53 i j hi hj
  · intro i j hi hj
    rw [hN1, pz_it_s, pz_it_cg (g := sj_fs K i j) (fun k hk u => by have hk' : ¬ k = N 1 := (by omega); unfold sj_fs; rw [h80 k, h81 k, h82 k, if_neg hk', if_neg hk', if_neg hk']), ast i j hi hj, e208]
    unfold sj_fs
    rw [h80, h81, h82, if_pos rfl, if_pos rfl, if_pos rfl]
    by_cases c : w = i ∧ p = j
    · rw [if_pos ⟨by rw [c.1], by rw [c.2]⟩, if_pos (by omega)]
    · rw [if_neg (fun y => c ⟨(nI_eq (by omega) (by omega)).mp y.1, (nI_eq (by omega) (by omega)).mp y.2⟩), if_neg (fun y => c (by omega))]
  · unfold sj_nz sj_nh sj_nd at aphi ⊢
    rw [eS 210 (by decide) (by decide), eS 225 (by decide) (by decide), hN1]
    have h1 := sj_c_up (p := fun k => decide ((pa_us (pa_us S 208 (10 * w + p) v) 209 (10 * w + p) tb) 208 k = 0)) (q := fun k => decide (S 208 k = 0)) (i := 10 * w + p) (n := 40) (by omega) (fun k hk hne => by rw [e208, if_neg hne])
    rw [e208, if_pos rfl] at h1
    omega
theorem sj_R_53 (h : sj_R K N T D z e S) (eK : ∀ f ∈ [40, 125, 163, 47, 128, 51, 52, 80, 81, 82], K' f = K f) (eS : ∀ f ∈ [208, 210, 211, 224, 225, 230, 231, 232, 234], S' f = S f) (h53 : ∀ i j, i < 4 → j < 4 → ∃ b, b < 1024 ∧ K' 53 i j = nI b ∧ ∀ a, a < 10 → b.testBit a = decide (S' 233 (40 * i + 10 * j + a) ≠ 0)) : sj_R K' N T D z e S' := by
  have hf : ∀ i a, sj_fs K' i a = sj_fs K i a := fun i a => by
    funext v n
    unfold sj_fs
    rw [eK 80 (by decide), eK 81 (by decide), eK 82 (by decide)]
  obtain ⟨h0, h1, h2, h3, h4, h5, h6, h7, -, h9, h10⟩ := h
  unfold sj_R sj_nz sj_nh sj_nd at *
  rw [eK 40 (by decide), eK 125 (by decide), eK 163 (by decide), eK 47 (by decide), eK 128 (by decide), eK 51 (by decide), eK 52 (by decide), eS 208 (by decide), eS 210 (by decide), eS 211 (by decide), eS 224 (by decide), eS 225 (by decide), eS 231 (by decide), eS 232 (by decide), eS 234 (by decide)]
  exact ⟨h0, h1, h2, h3, h4, h5, h6, h7, h53, fun i a hi ha => by rw [hf]; exact h9 i a hi ha, h10⟩
/-- the reference's quarrels count by being there alone -/
theorem sj_M_233 (h : sj_M K N T D z e S) (eS : ∀ f j, f ≠ 233 → S' f j = S f j) (e3 : ∀ k, k < 160 → (S' 233 k ≠ 0 ↔ S 233 k ≠ 0)) : sj_M K N T D z e S' := by
  have eF : ∀ f, f ≠ 233 → S' f = S f := fun f hf => funext fun j => eS f j hf
  refine ⟨sj_P_of h.1 (fun q hq o j => rfl) (fun q hq j => eS _ _ ?_), sj_R_53 h.2 (fun _ _ => rfl) (fun f hf => eF f ?_) (fun i j hi hj => ?_)⟩
  · have : ∀ q ∈ sj_T, q.2.1 ≠ 233 := by decide
    exact this q hq
  · have : ∀ f ∈ [208, 210, 211, 224, 225, 230, 231, 232, 234], f ≠ 233 := by decide
    exact this f hf
  · obtain ⟨b, b1, b2, b3⟩ := sj_r53 h hi hj
    refine ⟨b, b1, b2, fun c hc => ?_⟩
    rw [b3 c hc]
    exact decide_eq_decide.mpr (e3 _ (by omega)).symm
theorem sj_mask : ∀ p, p < 10 → ∀ c, c < 10 → (1023 ^^^ 2 ^ p).testBit c = !decide (c = p) := by decide +kernel
theorem sj_w53 (hs : sj_M K N T D z e S) {i j p : Nat} (hi : i < 4) (hj : j < 4) (hp : p < 10) : sj_M (pa_up K 53 i j (K 53 i j &&& (((1 : Int32) <<< (nI p &&& 31)) ^^^ -1))) N T D z e (pa_us S 233 (40 * i + 10 * j + p) 0) := by
  obtain ⟨b, b1, b2, b3⟩ := sj_r53 hs hi hj
  rw [b2, sj_clr b b1 p hp]
  refine ⟨sj_P_of hs.1 (fun q hq o j => pa_up_ne ?_) (fun q hq j => pa_us_ne ?_), sj_R_53 hs.2 (fun f hf => funext fun o => funext fun j => pa_up_ne ?_) (fun f hf => funext fun j => pa_us_ne ?_) (fun i' j' hi' hj' => ?_)⟩
  · have : ∀ q ∈ sj_T, q.1 ≠ 53 := by decide
    exact this q hq
  · have : ∀ q ∈ sj_T, q.2.1 ≠ 233 := by decide
    exact this q hq
  · have : ∀ f ∈ [40, 125, 163, 47, 128, 51, 52, 80, 81, 82], f ≠ 53 := by decide
    exact this f hf
  · have : ∀ f ∈ [208, 210, 211, 224, 225, 230, 231, 232, 234], f ≠ 233 := by decide
    exact this f hf
  · by_cases c : i' = i ∧ j' = j
    · obtain ⟨rfl, rfl⟩ := c
      refine ⟨b &&& (1023 ^^^ 2 ^ p), Nat.lt_of_le_of_lt Nat.and_le_left b1, pa_up_self _ _ _ _ _, fun c hc => ?_⟩
      rw [Nat.testBit_and, sj_mask p hp c hc, b3 c hc]
      by_cases d : c = p
      · subst d
        rw [pa_us_self]
        simp
      · rw [pa_us_nj (by omega)]
        simp [d]
    · obtain ⟨b', c1, c2, c3⟩ := sj_r53 hs hi' hj'
      refine ⟨b', c1, ?_, fun c' hc' => ?_⟩
      · rw [← c2]
        unfold pa_up
        exact if_neg (fun z => c z.2)
      · rw [c3 c' hc', pa_us_nj (by omega)]
end STEP
/-- the quarrels over p that are settled end -/
def ms_es2 (p i : Nat) (S : Nat → Nat → Int32) (j : Nat) : Nat → Nat → Int32 :=
  if S 208 (10 * i + p) = 0 ∨ S 208 (10 * j + p) = 0 ∨ S 208 (10 * i + p) = S 208 (10 * j + p) then pa_us S 233 (40 * i + 10 * j + p) 0 else S
def ms_es1 (p : Nat) (S : Nat → Nat → Int32) (i : Nat) : Nat → Nat → Int32 := pz_it (ms_es2 p i) 4 S
def ms_es (p : Nat) (S : Nat → Nat → Int32) : Nat → Nat → Int32 := pz_it (ms_es1 p) 4 S
theorem ms_es2_ne {p i n f j : Nat} {S : Nat → Nat → Int32} (hf : f ≠ 233) : pz_it (ms_es2 p i) n S f j = S f j :=
  pz_it_inv (f := ms_es2 p i) (I := fun S' => S' f j = S f j) (fun s k h => by
    unfold ms_es2
    split
    · rw [pa_us_ne hf]; exact h
    · exact h) n S rfl
theorem ms_es1_ne {p n f j : Nat} {S : Nat → Nat → Int32} (hf : f ≠ 233) : pz_it (ms_es1 p) n S f j = S f j :=
  pz_it_inv (f := ms_es1 p) (I := fun S' => S' f j = S f j) (fun s k h => (ms_es2_ne hf).trans h) n S rfl

theorem pa_go2 {G : pa_G} {h : pa_H} {d mc ms : Nat} (l : Launch) {y : pa_Y} {al : Bool} {av : List pa_V} {post : Option pa_V → pa_H → Prop} (hy : plainName y.1.cls = true) (hc' : pa_c1l av) (hl' : ∀ ad, Nat.ble (lg_sl (av.map (pa_tr ad))).length y.2.2.1 = true)
    (body : ∀ x : pa_X, pa_C G x y.2.1 y.2.2.1 y.1.cls d mc ms → pa_E G x mc ms y.2.2.2 post → x.2.1 = l → x.2.2.2.2.2.2.2.2.2.2.2.2.2 = al → x.2.2.2.2.2.2.2.2.2.2.2.1 = h → pa_w G x y.2.2.1 h 0 0 0 (av.map some ++ List.replicate (y.2.2.1 - av.length) none) []) : pa_M G l y d al av h mc ms post := by
  have hc := pa_c1l_in hc'
  have hl : ∀ ad, (lg_sl (av.map (pa_tr ad))).length ≤ y.2.2.1 := fun ad => Nat.le_of_ble_eq_true (hl' ad)
  intro ad
  refine Met.ofW (cc := y.2.1) (maxL := y.2.2.1) (ret := y.2.2.2) (ws' := pa_wl) hy rfl ?_
  intro p e s m args below meth c s₁ B hml hv
  obtain ⟨rfl, hR, hU, hZ⟩ := hv
  have hts : ∀ w ∈ pa_wl, w.before (av.map (pa_tr ad)).toArray s = true := fun w hw => atoms_spec (ws := pa_ws y) B.pre w (List.mem_cons_of_mem _ hw)
  have hLo := pa_Lo_entry (ad := ad) av y.2.2.1 hc (hl ad)
  have hLo2 : pa_Lo ad ((lg_sl (av.map (pa_tr ad)) ++ List.replicate (y.2.2.1 - (lg_sl (av.map (pa_tr ad))).length) Slot.unset).toArray) y.2.2.1 (av.map some ++ List.replicate (y.2.2.1 - av.length) none) := by
    refine ⟨hLo.1, hLo.2.1, fun j v hv => hLo.2.2 j v ?_⟩
    by_cases hj : j < (av.map some).length
    · rwa [List.getElem?_append_left hj] at hv
    · rw [List.getElem?_append_right (by omega)] at hv
      have := List.mem_of_getElem? hv
      rw [List.mem_replicate] at this
      cases this.2
  rw [lg_entry_eq]
  exact body (p, l, e, (headSpec (pa_ws y) (pa_rm d mc ms)).room, s, m, (av.map (pa_tr ad)).toArray, below, meth, c, MQ below (pa_Q G al h ad post) (av.map (pa_tr ad)).toArray s mc ms (pa_A G), h, ad, al)
    ⟨B.exec, B.bytes, hml, findClass_of_methodNamed B.named, hts, hU, Nat.le_refl _, Nat.le_refl _, Nat.le_refl _, Nat.le_refl _, B.notSynchronized, hZ⟩ ⟨B.returns, hR.2.2.2.2.2, fun t z => z⟩ rfl rfl rfl ad s.heap [] _ hR (pa_an_rf al h ad) va_S.rf hLo2
theorem sj_N9 {K : Nat → Nat → Nat → Int32} {N : Nat → Nat} {T D e : Nat} {z : sj_Z} {S : Nat → Nat → Int32} (hs : sj_M K N T D z e S) : N 9 = 0 := hs.2.1.2.2.2.2.1
/-- as much as the lists need -/
def mw_L (S : Nat → Nat → Int32) (T : Nat) : Prop := T ≤ 100 ∧ mw_qs S T
theorem mw_L_of {S : Nat → Nat → Int32} {T : Nat} (h : mw_S S T) : mw_L S T := ⟨h.1.1, h.2.1⟩
/-- what the lists hold is there -/
theorem sj_els {K K' : Nat → Nat → Nat → Int32} {N : Nat → Nat} {T D e : Nat} {z : sj_Z} {S : Nat → Nat → Int32} {S9 : Nat → Nat → Int32} {O : Nat → Int64} (hs : sj_M K N T D z e S) (hM : mw_L S T) (hK : ∀ j, K' 163 0 j = K 163 0 j) : ∀ l j, l < 3 → j < N (2 + l) → pa_lv N (pa_le (K', S9, N, O) l j) := by
  intro l j hl hj
  have h0 := hs.2.1.1
  have hTD := sj_TD hs
  have h2 := sj_n2 hs
  have h14 := sj_N14 hs
  rcases (show l = 0 ∨ l = 1 ∨ l = 2 by omega) with rfl | rfl | rfl
  · exact pl_3 (show j < N 0 by have : j < N 2 := hj; omega)
  · have hj3 : j < N 3 := hj
    obtain ⟨Q, hQ6, hQ, -, hq⟩ := hM.2
    have hNQ : N 3 = Q := (nI_eq (by have := sj_Q6 hs; omega) (by omega)).mp ((sj_Q hs).symm.trans hQ)
    obtain ⟨q, q1, q2, -⟩ := hq j (by omega)
    show pa_lv N (3, (K' 163 0 j).toNatClampNeg)
    have hT := hM.1
    rw [hK, sj_r163 hs hj3, q2, nI_clamp (by omega)]
    exact pl_3 (by omega)
  · exact pl_2 (show j < N 1 by have : j < N 4 := hj; omega)
set_option maxRecDepth 100000 in
set_option maxHeartbeats 4000000 in
theorem c_X3_endSettledQuarrels (G : pa_G) (l : Launch) (K : Nat → Nat → Nat → Int32) (Sm S : Nat → Nat → Int32) (N : Nat → Nat) (O : Nat → Int64) (T D e : Nat) (z : sj_Z) (hs : sj_M K N T D z e S) (p : Nat) (hp : p < 10) : pa_M G l mX3_endSettledQuarrels 6 false [pv_o 4 0, pv_i (nI p)] (K, Sm, N, O) 0 0 (sj_post none Sm O T D z e (ms_es p S)) := by
  refine pa_go l (by decide) (by simp [pa_c1l, pa_c1]) (fun _ => rfl) fun x C E el ea => ?_
  subst el
  show pa_w G x 6 (K, Sm, N, O) 0 0 0 [some (pv_o 4 0), some (pv_i (nI p)), none, none, none, none] []
  refine pr_iconst (pc := 0) (v := 0) C dX3_endSettledQuarrels_0 (by decide) ?_
  refine pr_istore_n (pc := 1) C dX3_endSettledQuarrels_1 (by decide) ?_
  have lp2 : ∀ (n3 k1 : Nat) (S5 : Nat → Nat → Int32) (K : Nat → Nat → Nat → Int32) (N : Nat → Nat), k1 ≤ 4 → 4 < k1 + n3 → S5 = pz_it (ms_es1 p) k1 S → sj_M K N T D z e S5 → pa_w G x 6 (K, Sm, N, O) 0 0 2 [some (pv_o 4 0), some (pv_i (nI p)), some (pv_i (nI k1)), none, none, none] [] := by
    intro n3
    induction n3 with
    | zero => intro k1 S5 K N h1 h2; exact absurd h2 (by omega)
    | succ n3 ih4 =>
      intro k1 S5 K N hk1_k1 hk2_k1 eS_k1 hs
      refine pr_iload_n (pc := 2) C dX3_endSettledQuarrels_2 rfl ?_
      refine pr_iconst (pc := 3) (v := 4) C dX3_endSettledQuarrels_3 (by decide) ?_
      refine pr_icmp_geN (pc := 4) C 89 k1 4 dX3_endSettledQuarrels_4 (by decide) rfl rfl (by omega) (by omega) (fun c_4 => ?_) (fun c_4 => ?_)
      · obtain rfl : 4 = k1 := by omega
        exact pr_vret (pc := 89) C E (by omega) (by omega) ⟨rfl, K, N, rfl, sj_eq eS_k1 hs⟩ dX3_endSettledQuarrels_89
      · refine pr_aload_n (pc := 7) C dX3_endSettledQuarrels_7 rfl ?_
        refine pr_geta (pc := 8) C 160 260 wf_X3_11 rfl rfl (by decide) (pl_4 _) dX3_endSettledQuarrels_8 ?_
        refine pr_iload_n (pc := 11) C dX3_endSettledQuarrels_11 rfl ?_
        refine pr_alds (pc := 12) (n := 4) C 160 k1 rfl rfl rfl (pl_r4 (by decide)) rfl (by omega) (by decide) dX3_endSettledQuarrels_12 ?_
        refine pr_geta (pc := 13) C 49 149 wf_X3_190 rfl rfl (by decide) (pl_1 (by first | assumption | omega)) dX3_endSettledQuarrels_13 ?_
        refine pr_iload_n (pc := 16) C dX3_endSettledQuarrels_16 rfl ?_
        refine pr_aldi (pc := 17) (n := 10) C 49 p rfl rfl rfl (pl_r1 (by decide) (by first | assumption | omega)) rfl (by omega) (by decide) dX3_endSettledQuarrels_17 ?_
        refine pr_eqi (v := S5 208 (10 * k1 + p)) (sj_r49 hs (by first | assumption | omega) (by omega)) ?_
        refine pr_istore_n (pc := 18) C dX3_endSettledQuarrels_18 (by decide) ?_
        refine pr_iconst (pc := 19) (v := 0) C dX3_endSettledQuarrels_19 (by decide) ?_
        refine pr_istore (pc := 20) C dX3_endSettledQuarrels_20 (by decide) ?_
        have lp7 : ∀ (n8 k6 : Nat) (S10 : Nat → Nat → Int32) (K : Nat → Nat → Nat → Int32) (N : Nat → Nat), k6 ≤ 4 → 4 < k6 + n8 → S10 = pz_it (ms_es2 p k1) k6 S5 → sj_M K N T D z e S10 → pa_w G x 6 (K, Sm, N, O) 0 0 22 [some (pv_o 4 0), some (pv_i (nI p)), some (pv_i (nI k1)), some (pv_i (S5 208 (10 * k1 + p))), some (pv_i (nI k6)), none] [] := by
          intro n8
          induction n8 with
          | zero => intro k6 S10 K N h1 h2; exact absurd h2 (by omega)
          | succ n8 ih9 =>
            intro k6 S10 K N hk1_k6 hk2_k6 eS_k6 hs
            have e3 : S10 208 (10 * k1 + p) = S5 208 (10 * k1 + p) := by rw [eS_k6]; exact ms_es2_ne (by decide)
            refine pr_iload (pc := 22) C dX3_endSettledQuarrels_22 rfl ?_
            refine pr_iconst (pc := 24) (v := 4) C dX3_endSettledQuarrels_24 (by decide) ?_
            refine pr_icmp_geN (pc := 25) C 83 k6 4 dX3_endSettledQuarrels_25 (by decide) rfl rfl (by omega) (by omega) (fun c_25 => ?_) (fun c_25 => ?_)
            · obtain rfl : 4 = k6 := by omega
              refine pr_iincN (pc := 83) C dX3_endSettledQuarrels_83 rfl k1 1 rfl rfl (by decide) ?_
              refine pr_goto (pc := 86) C 2 dX3_endSettledQuarrels_86 (by decide) ?_
              refine pr_lo (lo' := [some (pv_o 4 0), some (pv_i (nI p)), some (pv_i (nI (k1 + 1))), none, none, none]) (show pa_lle [some (pv_o 4 0), some (pv_i (nI p)), some (pv_i (nI (k1 + 1))), none, none, none] [some (pv_o 4 0), some (pv_i (nI p)), some (pv_i (nI (k1 + 1))), some (pv_i (S5 208 (10 * k1 + p))), some (pv_i (nI 4)), none] by simp [pa_lle]) ?_
              exact ih4 (k1 + 1) S10 K N (by omega) (by omega) (by rw [pz_it_s, ← eS_k1]; exact eS_k6) hs
            · refine pr_aload_n (pc := 28) C dX3_endSettledQuarrels_28 rfl ?_
              refine pr_geta (pc := 29) C 160 260 wf_X3_11 rfl rfl (by decide) (pl_4 _) dX3_endSettledQuarrels_29 ?_
              refine pr_iload (pc := 32) C dX3_endSettledQuarrels_32 rfl ?_
              refine pr_alds (pc := 34) (n := 4) C 160 k6 rfl rfl rfl (pl_r4 (by decide)) rfl (by omega) (by decide) dX3_endSettledQuarrels_34 ?_
              refine pr_geta (pc := 35) C 49 149 wf_X3_190 rfl rfl (by decide) (pl_1 (by first | assumption | omega)) dX3_endSettledQuarrels_35 ?_
              refine pr_iload_n (pc := 38) C dX3_endSettledQuarrels_38 rfl ?_
              refine pr_aldi (pc := 39) (n := 10) C 49 p rfl rfl rfl (pl_r1 (by decide) (by first | assumption | omega)) rfl (by omega) (by decide) dX3_endSettledQuarrels_39 ?_
              refine pr_eqi (v := S10 208 (10 * k6 + p)) (sj_r49 hs (by first | assumption | omega) (by omega)) ?_
              refine pr_istore (pc := 40) C dX3_endSettledQuarrels_40 (by decide) ?_
              refine pr_iload_n (pc := 42) C dX3_endSettledQuarrels_42 rfl ?_
              refine pr_if_eq (pc := 43) C 57 dX3_endSettledQuarrels_43 (by decide) (fun c_43 => ?_) (fun c_43 => ?_)
              · refine pr_aload_n (pc := 57) C dX3_endSettledQuarrels_57 rfl ?_
                refine pr_geta (pc := 58) C 160 260 wf_X3_11 rfl rfl (by decide) (pl_4 _) dX3_endSettledQuarrels_58 ?_
                refine pr_iload_n (pc := 61) C dX3_endSettledQuarrels_61 rfl ?_
                refine pr_alds (pc := 62) (n := 4) C 160 k1 rfl rfl rfl (pl_r4 (by decide)) rfl (by omega) (by decide) dX3_endSettledQuarrels_62 ?_
                refine pr_geta (pc := 63) C 53 153 wf_X3_229 rfl rfl (by decide) (pl_1 (by first | assumption | omega)) dX3_endSettledQuarrels_63 ?_
                refine pr_iload (pc := 66) C dX3_endSettledQuarrels_66 rfl ?_
                refine pr_dup2 (pc := 68) C dX3_endSettledQuarrels_68 trivial trivial ?_
                refine pr_aldi (pc := 69) (n := 4) C 53 k6 rfl rfl rfl (pl_r1 (by decide) (by first | assumption | omega)) rfl (by omega) (by decide) dX3_endSettledQuarrels_69 ?_
                refine pr_iconst (pc := 70) (v := 1) C dX3_endSettledQuarrels_70 (by decide) ?_
                refine pr_iload_n (pc := 71) C dX3_endSettledQuarrels_71 rfl ?_
                refine pr_ishl (pc := 72) C dX3_endSettledQuarrels_72 ?_
                refine pr_iconst (pc := 73) (v := -1) C dX3_endSettledQuarrels_73 (by decide) ?_
                refine pr_ixor (pc := 74) C dX3_endSettledQuarrels_74 ?_
                refine pr_iand (pc := 75) C dX3_endSettledQuarrels_75 ?_
                refine pr_asti (pc := 76) (n := 4) C 53 k6 rfl (by decide) rfl rfl (pl_r1 (by decide) (by first | assumption | omega)) rfl (by omega) (by decide) dX3_endSettledQuarrels_76 ?_
                refine pr_sim (sj_w53 hs (by omega) (by omega) hp) ?_
                intro K N hs
                refine pr_iincN (pc := 77) C dX3_endSettledQuarrels_77 rfl k6 1 rfl rfl (by decide) ?_
                refine pr_goto (pc := 80) C 22 dX3_endSettledQuarrels_80 (by decide) ?_
                refine pr_lo (lo' := [some (pv_o 4 0), some (pv_i (nI p)), some (pv_i (nI k1)), some (pv_i (S5 208 (10 * k1 + p))), some (pv_i (nI (k6 + 1))), none]) (show pa_lle [some (pv_o 4 0), some (pv_i (nI p)), some (pv_i (nI k1)), some (pv_i (S5 208 (10 * k1 + p))), some (pv_i (nI (k6 + 1))), none] [some (pv_o 4 0), some (pv_i (nI p)), some (pv_i (nI k1)), some (pv_i (S5 208 (10 * k1 + p))), some (pv_i (nI (k6 + 1))), some (pv_i (S10 208 (10 * k6 + p)))] by simp [pa_lle]) ?_
                exact ih9 (k6 + 1) (pa_us S10 233 (40 * k1 + 10 * k6 + p) (0 : Int32)) K N (by omega) (by omega) (by rw [pz_it_s, ← eS_k6]; exact (if_pos (by rw [e3]; simp [-Int32.not_le, -Int32.not_lt, c_4, c_25, eq_true c_43])).symm) hs
              · refine pr_iload (pc := 46) C dX3_endSettledQuarrels_46 rfl ?_
                refine pr_if_eq (pc := 48) C 57 dX3_endSettledQuarrels_48 (by decide) (fun c_48 => ?_) (fun c_48 => ?_)
                · refine pr_aload_n (pc := 57) C dX3_endSettledQuarrels_57 rfl ?_
                  refine pr_geta (pc := 58) C 160 260 wf_X3_11 rfl rfl (by decide) (pl_4 _) dX3_endSettledQuarrels_58 ?_
                  refine pr_iload_n (pc := 61) C dX3_endSettledQuarrels_61 rfl ?_
                  refine pr_alds (pc := 62) (n := 4) C 160 k1 rfl rfl rfl (pl_r4 (by decide)) rfl (by omega) (by decide) dX3_endSettledQuarrels_62 ?_
                  refine pr_geta (pc := 63) C 53 153 wf_X3_229 rfl rfl (by decide) (pl_1 (by first | assumption | omega)) dX3_endSettledQuarrels_63 ?_
                  refine pr_iload (pc := 66) C dX3_endSettledQuarrels_66 rfl ?_
                  refine pr_dup2 (pc := 68) C dX3_endSettledQuarrels_68 trivial trivial ?_
                  refine pr_aldi (pc := 69) (n := 4) C 53 k6 rfl rfl rfl (pl_r1 (by decide) (by first | assumption | omega)) rfl (by omega) (by decide) dX3_endSettledQuarrels_69 ?_
                  refine pr_iconst (pc := 70) (v := 1) C dX3_endSettledQuarrels_70 (by decide) ?_
                  refine pr_iload_n (pc := 71) C dX3_endSettledQuarrels_71 rfl ?_
                  refine pr_ishl (pc := 72) C dX3_endSettledQuarrels_72 ?_
                  refine pr_iconst (pc := 73) (v := -1) C dX3_endSettledQuarrels_73 (by decide) ?_
                  refine pr_ixor (pc := 74) C dX3_endSettledQuarrels_74 ?_
                  refine pr_iand (pc := 75) C dX3_endSettledQuarrels_75 ?_
                  refine pr_asti (pc := 76) (n := 4) C 53 k6 rfl (by decide) rfl rfl (pl_r1 (by decide) (by first | assumption | omega)) rfl (by omega) (by decide) dX3_endSettledQuarrels_76 ?_
                  refine pr_sim (sj_w53 hs (by omega) (by omega) hp) ?_
                  intro K N hs
                  refine pr_iincN (pc := 77) C dX3_endSettledQuarrels_77 rfl k6 1 rfl rfl (by decide) ?_
                  refine pr_goto (pc := 80) C 22 dX3_endSettledQuarrels_80 (by decide) ?_
                  refine pr_lo (lo' := [some (pv_o 4 0), some (pv_i (nI p)), some (pv_i (nI k1)), some (pv_i (S5 208 (10 * k1 + p))), some (pv_i (nI (k6 + 1))), none]) (show pa_lle [some (pv_o 4 0), some (pv_i (nI p)), some (pv_i (nI k1)), some (pv_i (S5 208 (10 * k1 + p))), some (pv_i (nI (k6 + 1))), none] [some (pv_o 4 0), some (pv_i (nI p)), some (pv_i (nI k1)), some (pv_i (S5 208 (10 * k1 + p))), some (pv_i (nI (k6 + 1))), some (pv_i (S10 208 (10 * k6 + p)))] by simp [pa_lle]) ?_
                  exact ih9 (k6 + 1) (pa_us S10 233 (40 * k1 + 10 * k6 + p) (0 : Int32)) K N (by omega) (by omega) (by rw [pz_it_s, ← eS_k6]; exact (if_pos (by rw [e3]; simp [-Int32.not_le, -Int32.not_lt, c_4, c_25, eq_false c_43, eq_true c_48])).symm) hs
                · refine pr_iload_n (pc := 51) C dX3_endSettledQuarrels_51 rfl ?_
                  refine pr_iload (pc := 52) C dX3_endSettledQuarrels_52 rfl ?_
                  refine pr_icmp_ne (pc := 54) C 77 dX3_endSettledQuarrels_54 (by decide) (fun c_54 => ?_) (fun c_54 => ?_)
                  · refine pr_iincN (pc := 77) C dX3_endSettledQuarrels_77 rfl k6 1 rfl rfl (by decide) ?_
                    refine pr_goto (pc := 80) C 22 dX3_endSettledQuarrels_80 (by decide) ?_
                    refine pr_lo (lo' := [some (pv_o 4 0), some (pv_i (nI p)), some (pv_i (nI k1)), some (pv_i (S5 208 (10 * k1 + p))), some (pv_i (nI (k6 + 1))), none]) (show pa_lle [some (pv_o 4 0), some (pv_i (nI p)), some (pv_i (nI k1)), some (pv_i (S5 208 (10 * k1 + p))), some (pv_i (nI (k6 + 1))), none] [some (pv_o 4 0), some (pv_i (nI p)), some (pv_i (nI k1)), some (pv_i (S5 208 (10 * k1 + p))), some (pv_i (nI (k6 + 1))), some (pv_i (S10 208 (10 * k6 + p)))] by simp [pa_lle]) ?_
                    exact ih9 (k6 + 1) S10 K N (by omega) (by omega) (by rw [pz_it_s, ← eS_k6]; exact (if_neg (by rw [e3]; simp [-Int32.not_le, -Int32.not_lt, c_4, c_25, eq_false c_43, eq_false c_48, eq_false c_54])).symm) hs
                  · refine pr_aload_n (pc := 57) C dX3_endSettledQuarrels_57 rfl ?_
                    refine pr_geta (pc := 58) C 160 260 wf_X3_11 rfl rfl (by decide) (pl_4 _) dX3_endSettledQuarrels_58 ?_
                    refine pr_iload_n (pc := 61) C dX3_endSettledQuarrels_61 rfl ?_
                    refine pr_alds (pc := 62) (n := 4) C 160 k1 rfl rfl rfl (pl_r4 (by decide)) rfl (by omega) (by decide) dX3_endSettledQuarrels_62 ?_
                    refine pr_geta (pc := 63) C 53 153 wf_X3_229 rfl rfl (by decide) (pl_1 (by first | assumption | omega)) dX3_endSettledQuarrels_63 ?_
                    refine pr_iload (pc := 66) C dX3_endSettledQuarrels_66 rfl ?_
                    refine pr_dup2 (pc := 68) C dX3_endSettledQuarrels_68 trivial trivial ?_
                    refine pr_aldi (pc := 69) (n := 4) C 53 k6 rfl rfl rfl (pl_r1 (by decide) (by first | assumption | omega)) rfl (by omega) (by decide) dX3_endSettledQuarrels_69 ?_
                    refine pr_iconst (pc := 70) (v := 1) C dX3_endSettledQuarrels_70 (by decide) ?_
                    refine pr_iload_n (pc := 71) C dX3_endSettledQuarrels_71 rfl ?_
                    refine pr_ishl (pc := 72) C dX3_endSettledQuarrels_72 ?_
                    refine pr_iconst (pc := 73) (v := -1) C dX3_endSettledQuarrels_73 (by decide) ?_
                    refine pr_ixor (pc := 74) C dX3_endSettledQuarrels_74 ?_
                    refine pr_iand (pc := 75) C dX3_endSettledQuarrels_75 ?_
                    refine pr_asti (pc := 76) (n := 4) C 53 k6 rfl (by decide) rfl rfl (pl_r1 (by decide) (by first | assumption | omega)) rfl (by omega) (by decide) dX3_endSettledQuarrels_76 ?_
                    refine pr_sim (sj_w53 hs (by omega) (by omega) hp) ?_
                    intro K N hs
                    refine pr_iincN (pc := 77) C dX3_endSettledQuarrels_77 rfl k6 1 rfl rfl (by decide) ?_
                    refine pr_goto (pc := 80) C 22 dX3_endSettledQuarrels_80 (by decide) ?_
                    refine pr_lo (lo' := [some (pv_o 4 0), some (pv_i (nI p)), some (pv_i (nI k1)), some (pv_i (S5 208 (10 * k1 + p))), some (pv_i (nI (k6 + 1))), none]) (show pa_lle [some (pv_o 4 0), some (pv_i (nI p)), some (pv_i (nI k1)), some (pv_i (S5 208 (10 * k1 + p))), some (pv_i (nI (k6 + 1))), none] [some (pv_o 4 0), some (pv_i (nI p)), some (pv_i (nI k1)), some (pv_i (S5 208 (10 * k1 + p))), some (pv_i (nI (k6 + 1))), some (pv_i (S10 208 (10 * k6 + p)))] by simp [pa_lle]) ?_
                    exact ih9 (k6 + 1) (pa_us S10 233 (40 * k1 + 10 * k6 + p) (0 : Int32)) K N (by omega) (by omega) (by rw [pz_it_s, ← eS_k6]; exact (if_pos (by rw [e3]; simp [-Int32.not_le, -Int32.not_lt, c_4, c_25, eq_false c_43, eq_false c_48, eq_true c_54])).symm) hs
        exact lp7 (4 + 1) 0 _ K N (by omega) (by omega) (pz_it_z _ _) hs
  exact lp2 (4 + 1) 0 _ K N (by omega) (by omega) (pz_it_z _ _) hs

theorem ms_es1_d (p : Nat) (S : Nat → Nat → Int32) (i : Nat) : ms_es1 p S i = pz_it (ms_es2 p i) 4 S := rfl
def ms_cn (S : Nat → Nat → Int32) (p i j : Nat) : Prop := S 208 (10 * i + p) = 0 ∨ S 208 (10 * j + p) = 0 ∨ S 208 (10 * i + p) = S 208 (10 * j + p)
theorem ms_es2_at {p i : Nat} {S : Nat → Nat → Int32} {k : Nat} : ∀ n, ((∃ j, j < n ∧ k = 40 * i + 10 * j + p ∧ ms_cn S p i j) → pz_it (ms_es2 p i) n S 233 k = 0) ∧ ((¬ ∃ j, j < n ∧ k = 40 * i + 10 * j + p ∧ ms_cn S p i j) → pz_it (ms_es2 p i) n S 233 k = S 233 k)
  | 0 => ⟨fun ⟨j, h, _⟩ => absurd h (Nat.not_lt_zero j), fun _ => rfl⟩
  | n + 1 => by
    obtain ⟨h1, h2⟩ := ms_es2_at (p := p) (i := i) (S := S) (k := k) n
    rw [pz_it_s]
    by_cases c : ms_cn S p i n
    · have e : ms_es2 p i (pz_it (ms_es2 p i) n S) n = pa_us (pz_it (ms_es2 p i) n S) 233 (40 * i + 10 * n + p) 0 := if_pos (by rw [ms_es2_ne (by decide), ms_es2_ne (by decide)]; exact c)
      rw [e]
      by_cases ck : k = 40 * i + 10 * n + p
      · rw [ck, pa_us_self]
        exact ⟨fun _ => rfl, fun z => absurd ⟨n, by omega, rfl, c⟩ z⟩
      · rw [pa_us_nj ck]
        exact ⟨fun ⟨j, hj, e1, e2⟩ => h1 ⟨j, by have : j ≠ n := fun z => ck (z ▸ e1); omega, e1, e2⟩, fun z => h2 (fun ⟨j, hj, q⟩ => z ⟨j, by omega, q⟩)⟩
    · have e : ms_es2 p i (pz_it (ms_es2 p i) n S) n = pz_it (ms_es2 p i) n S := if_neg (by rw [ms_es2_ne (by decide), ms_es2_ne (by decide)]; exact c)
      rw [e]
      exact ⟨fun ⟨j, hj, e1, e2⟩ => h1 ⟨j, by have : j ≠ n := fun z => c (z ▸ e2); omega, e1, e2⟩, fun z => h2 (fun ⟨j, hj, q⟩ => z ⟨j, by omega, q⟩)⟩
theorem ms_es1_at {p : Nat} {S : Nat → Nat → Int32} {k : Nat} : ∀ n, ((∃ i j, i < n ∧ j < 4 ∧ k = 40 * i + 10 * j + p ∧ ms_cn S p i j) → pz_it (ms_es1 p) n S 233 k = 0) ∧ ((¬ ∃ i j, i < n ∧ j < 4 ∧ k = 40 * i + 10 * j + p ∧ ms_cn S p i j) → pz_it (ms_es1 p) n S 233 k = S 233 k)
  | 0 => ⟨fun ⟨i, _, h, _⟩ => absurd h (Nat.not_lt_zero i), fun _ => rfl⟩
  | n + 1 => by
    obtain ⟨h1, h2⟩ := ms_es1_at (p := p) (S := S) (k := k) n
    rw [pz_it_s, ms_es1_d]
    have ec : ∀ j, ms_cn (pz_it (ms_es1 p) n S) p n j ↔ ms_cn S p n j := fun j => by
      unfold ms_cn
      rw [ms_es1_ne (by decide), ms_es1_ne (by decide)]
    obtain ⟨a1, a2⟩ := ms_es2_at (p := p) (i := n) (S := pz_it (ms_es1 p) n S) (k := k) 4
    by_cases q : ∃ j, j < 4 ∧ k = 40 * n + 10 * j + p ∧ ms_cn (pz_it (ms_es1 p) n S) p n j
    · rw [a1 q]
      obtain ⟨j, j1, j2, j3⟩ := q
      exact ⟨fun _ => rfl, fun z => absurd ⟨n, j, by omega, j1, j2, (ec j).mp j3⟩ z⟩
    · rw [a2 q]
      exact ⟨fun ⟨i, j, b1, b2, b3, b4⟩ => h1 ⟨i, j, by have : i ≠ n := fun z => q ⟨j, b2, z ▸ b3, (ec j).mpr (z ▸ b4)⟩; omega, b2, b3, b4⟩, fun z => h2 (fun ⟨i, j, b1, b2⟩ => z ⟨i, j, by omega, b2⟩)⟩
theorem ms_eq_at {S : Nat → Nat → Int32} : ∀ n, ∀ k, pz_it ms_eqs n S 233 k = if k < n then pz_b (ms_qok S k) else S 233 k
  | 0, k => by rw [if_neg (Nat.not_lt_zero k)]; rfl
  | n + 1, k => by
    have hn : ∀ f j, f ≠ 233 → pz_it ms_eqs n S f j = S f j := fun f j hf => pz_it_inv (f := ms_eqs) (I := fun S' => S' f j = S f j) (fun s k h => by unfold ms_eqs; rw [pa_us_ne hf, h]) n S rfl
    have hq : ms_qok (pz_it ms_eqs n S) n = ms_qok S n := by
      unfold ms_qok
      rw [hn 208 _ (by decide), hn 208 _ (by decide), ms_eq_at n n, if_neg (Nat.lt_irrefl n)]
    rw [pz_it_s]
    show pa_us (pz_it ms_eqs n S) 233 n (pz_b (ms_qok (pz_it ms_eqs n S) n)) 233 k = _
    rw [hq]
    by_cases c : k = n
    · rw [c, pa_us_self, if_pos (Nat.lt_succ_self n)]
    · rw [pa_us_nj c, ms_eq_at n k]
      by_cases c2 : k < n
      · rw [if_pos c2, if_pos (by omega)]
      · rw [if_neg c2, if_neg (by omega)]
/-- behind a stand over p: the quarrels over p are looked at; the others stand as they did -/
theorem ms_es_com {S0 : Nat → Nat → Int32} {w p : Nat} {v tb : Int32} (hw : w < 4) (hp : p < 10) (hv : v = 0 ∨ v = 1 ∨ v = 2) (hq : mj_q S0) (hst : mj_s S0) : ∀ k, k < 160 → (ms_es p (pa_us (pa_us S0 208 (10 * w + p) v) 209 (10 * w + p) tb) 233 k ≠ 0 ↔ ms_eq (pa_us (pa_us S0 208 (10 * w + p) v) 209 (10 * w + p) tb) 233 k ≠ 0) := by
  intro k hk
  have h233 : ∀ j, (pa_us (pa_us S0 208 (10 * w + p) v) 209 (10 * w + p) tb) 233 j = S0 233 j := fun j => by rw [pa_us_ne (by decide), pa_us_ne (by decide)]
  have h208 : ∀ j, j < 40 → (pa_us (pa_us S0 208 (10 * w + p) v) 209 (10 * w + p) tb) 208 j = 0 ∨ (pa_us (pa_us S0 208 (10 * w + p) v) 209 (10 * w + p) tb) 208 j = 1 ∨ (pa_us (pa_us S0 208 (10 * w + p) v) 209 (10 * w + p) tb) 208 j = 2 := fun j hj => by
    rw [pa_us_ne (by decide)]
    by_cases c : j = 10 * w + p
    · rw [c, pa_us_self]
      exact hv
    · rw [pa_us_nj c]
      exact (hst j hj).1
  have h208n : ∀ j, j ≠ 10 * w + p → (pa_us (pa_us S0 208 (10 * w + p) v) 209 (10 * w + p) tb) 208 j = S0 208 j := fun j hj => by rw [pa_us_ne (by decide), pa_us_nj hj]
  have hqk := hq k hk
  generalize pa_us (pa_us S0 208 (10 * w + p) v) 209 (10 * w + p) tb = S at h233 h208 h208n ⊢
  have e1 : ms_eq S 233 k = pz_b (ms_qok S k) := (ms_eq_at 160 k).trans (if_pos hk)
  obtain ⟨a1, a2⟩ := ms_es1_at (p := p) (S := S) (k := k) 4
  have eb : pz_b (ms_qok S k) ≠ 0 ↔ ms_qok S k = true := pz_bn
  rw [e1, eb]
  show pz_it (ms_es1 p) 4 S 233 k ≠ 0 ↔ _
  unfold ms_qok
  rw [Bool.and_eq_true, Bool.and_eq_true, decide_eq_true_eq, decide_eq_true_eq, decide_eq_true_eq]
  by_cases ca : k % 10 = p
  · have hx := h208 (10 * (k / 40) + k % 10) (by omega)
    have hy := h208 (10 * (k / 10 % 4) + k % 10) (by omega)
    have hcn : ms_cn S p (k / 40) (k / 10 % 4) ↔ (S 208 (10 * (k / 40) + k % 10) = 0 ∨ S 208 (10 * (k / 10 % 4) + k % 10) = 0 ∨ S 208 (10 * (k / 40) + k % 10) = S 208 (10 * (k / 10 % 4) + k % 10)) := by
      unfold ms_cn
      rw [ca]
    generalize S 208 (10 * (k / 40) + k % 10) = x at *
    generalize S 208 (10 * (k / 10 % 4) + k % 10) = y at *
    by_cases c : x = 0 ∨ y = 0 ∨ x = y
    · rw [a1 ⟨k / 40, k / 10 % 4, by omega, by omega, by omega, hcn.mpr c⟩]
      constructor
      · exact fun z => absurd rfl z
      · rintro ⟨⟨z1, z2⟩, z3⟩
        exfalso
        rcases hx with rfl | rfl | rfl <;> rcases hy with rfl | rfl | rfl <;> revert c z2 z3 <;> decide
    · rw [a2 (fun ⟨i, j, b1, b2, b3, b4⟩ => c (hcn.mp (by rw [show k / 40 = i by omega, show k / 10 % 4 = j by omega]; exact b4)))]
      constructor
      · intro z
        refine ⟨⟨z, fun q => c (Or.inl q)⟩, ?_⟩
        rcases hx with rfl | rfl | rfl <;> rcases hy with rfl | rfl | rfl <;> revert c <;> decide
      · exact fun z => z.1.1
  · rw [a2 (fun ⟨i, j, b1, b2, b3, b4⟩ => ca (by omega)), h208n _ (by omega), h208n _ (by omega)]
    constructor
    · intro z
      have z' : S0 233 k ≠ 0 := by rwa [h233] at z
      exact ⟨⟨z, (hqk z').1⟩, (hqk z').2⟩
    · exact fun z => z.1.1
theorem ms_es_ne {p f j : Nat} {S : Nat → Nat → Int32} (hf : f ≠ 233) : ms_es p S f j = S f j := ms_es1_ne hf
theorem sj_com {K : Nat → Nat → Nat → Int32} {N : Nat → Nat} {T D e : Nat} {z : sj_Z} {S0 : Nat → Nat → Int32} {w p t : Nat} {v tb : Int32} (htb : tb = if v = 0 then -1 else nI t) (hw : w < 4) (hp : p < 10) (hv : v = 0 ∨ v = 1 ∨ v = 2) (hq : mj_q S0) (hst : mj_s S0)
    (h : sj_M K N T D z e (ms_es p (pa_us (pa_us S0 208 (10 * w + p) v) 209 (10 * w + p) tb))) : sj_M K N T D z e (ms_com S0 w p v (nI t)) := by
  subst htb
  refine sj_M_233 h (fun f j hf => ?_) (fun k hk => (ms_es_com hw hp hv hq hst k hk).symm)
  rw [ms_es_ne hf]
  exact ms_eq_ne hf
theorem pa_up_at {K : Nat → Nat → Nat → Int32} {f o j p q : Nat} {v : Int32} : pa_up K f o j v f p q = if p = o ∧ q = j then v else K f p q := by
  unfold pa_up
  by_cases c : p = o ∧ q = j
  · rw [if_pos ⟨rfl, c⟩, if_pos c]
  · rw [if_neg (fun z => c z.2), if_neg c]
theorem pa_up_at0 {K : Nat → Nat → Nat → Int32} {f o p : Nat} {v : Int32} : pa_up K f o 0 v f p 0 = if p = o then v else K f p 0 := by
  rw [pa_up_at]
  by_cases c : p = o
  · rw [if_pos ⟨c, rfl⟩, if_pos c]
  · rw [if_neg (fun z => c z.1), if_neg c]
theorem sj_commitM {K : Nat → Nat → Nat → Int32} {N : Nat → Nat} {T D e e1 : Nat} {z : sj_Z} {S : Nat → Nat → Int32} (hs : sj_M K N T D z e S) {w p : Nat} (hw : w < 4) (hp : p < 10) (hT : T ≤ 100) {v tb cd : Int32} (he : e1 + 1 + (decide (v = 0)).toNat ≤ e + (decide (S 208 (10 * w + p) = 0)).toNat) :
    sj_M (lr_K (pa_up (pa_up (pa_up (pa_up (pa_up K 49 w p v) 50 w p tb) 80 (N 1) 0 (nI w)) 81 (N 1) 0 (nI p)) 82 (N 1) 0 v) 2 (N 4) cd) (lr_N (pa_un N 1 (N 1 + 1)) 2 (N 4 + 1) (lr_nc (N 4) (N 7))) T D z e1 (pa_us (pa_us S 208 (10 * w + p) v) 209 (10 * w + p) tb) := by
  have h7 := sj_c7 hs
  have h14 := sj_N14 hs
  have hphi := sj_phi hs
  have hnd : sj_nd S T ≤ T := sj_c_le _ T
  have hcap := lr_cap_le (n := N 4) (b := 340) (by omega)
  have hgt := lr_cap_gt (N 4)
  have h12 : ¬ (2 : Nat) = 1 := by decide
  refine sj_step hs hw hp (fun f g0 g1 g2 g3 g4 g5 o j => ?_) (fun o j => ?_) (fun o j => ?_) (fun i => ?_) (fun i => ?_) (fun i => ?_) (fun k k1 k4 k7 => ?_) ?_ ?_ ?_ he
  · unfold lr_K
    rw [pa_up_ne g0, if_neg h12, pa_up_ne g5, pa_up_ne g4, pa_up_ne g3, pa_up_ne g2, pa_up_ne g1]
  · unfold lr_K
    rw [pa_up_ne (by decide), if_neg h12, pa_up_ne (by decide), pa_up_ne (by decide), pa_up_ne (by decide), pa_up_ne (by decide), pa_up_at]
  · unfold lr_K
    rw [pa_up_ne (by decide), if_neg h12, pa_up_ne (by decide), pa_up_ne (by decide), pa_up_ne (by decide), pa_up_at, pa_up_ne (by decide)]
  · unfold lr_K
    rw [pa_up_ne (by decide), if_neg h12, pa_up_ne (by decide), pa_up_ne (by decide), pa_up_at0, pa_up_ne (by decide), pa_up_ne (by decide)]
  · unfold lr_K
    rw [pa_up_ne (by decide), if_neg h12, pa_up_ne (by decide), pa_up_at0, pa_up_ne (by decide), pa_up_ne (by decide), pa_up_ne (by decide)]
  · unfold lr_K
    rw [pa_up_ne (by decide), if_neg h12, pa_up_at0, pa_up_ne (by decide), pa_up_ne (by decide), pa_up_ne (by decide), pa_up_ne (by decide)]
  · rw [lr_No (by omega) (by omega)]
    exact if_neg k1
  · rw [lr_No (by decide) (by decide)]
    exact if_pos rfl
  · exact lr_N2 (l := 2) (by decide)
  · have e7 : lr_N (pa_un N 1 (N 1 + 1)) 2 (N 4 + 1) (lr_nc (N 4) (N 7)) 7 = lr_nc (N 4) (N 7) := lr_N5 (l := 2)
    rw [e7]
    unfold lr_nc
    by_cases c : N 4 = N 7
    · rw [if_pos c]
      omega
    · rw [if_neg c]
      omega
set_option maxRecDepth 100000 in
set_option maxHeartbeats 4000000 in
theorem c_X3_commit (G : pa_G) (l : Launch) (K : Nat → Nat → Nat → Int32) (Sm S : Nat → Nat → Int32) (N : Nat → Nat) (O : Nat → Int64) (T D e : Nat) (z : sj_Z) (hs : sj_M K N T D z e S) (w p t e1 : Nat) (v : Int32) (hM : mw_S S T) (hJs : mj_s S) (hJq : mj_q S) (hw : w < 4) (hp : p < 10) (ht : t < T) (hv : v = 0 ∨ v = 1 ∨ v = 2) (he : e1 + 1 + (decide (v = 0)).toNat ≤ e + (decide (S 208 (10 * w + p) = 0)).toNat) : pa_M G l mX3_commit 8 true [pv_o 4 0, pv_o 1 w, pv_i (nI p), pv_i v, pv_o 3 t] (K, Sm, N, O) 2 1520 (sj_post none Sm O T D z e1 (ms_com S w p v (nI t))) := by
  refine pa_go2 l (by decide) (by simp [pa_c1l, pa_c1]) (fun _ => rfl) fun x C E el ea eh => ?_
  subst el
  have hT := hM.1.1
  have hTD := sj_TD hs
  show pa_w G x 5 (K, Sm, N, O) 0 0 0 [some (pv_o 4 0), some (pv_o 1 w), some (pv_i (nI p)), some (pv_i v), some (pv_o 3 t)] []
  refine pr_aload_n (pc := 0) C dX3_commit_0 rfl ?_
  refine pr_geta (pc := 1) C 49 149 wf_X3_190 rfl rfl (by decide) (pl_1 (by first | assumption | omega)) dX3_commit_1 ?_
  refine pr_iload_n (pc := 4) C dX3_commit_4 rfl ?_
  refine pr_iload_n (pc := 5) C dX3_commit_5 rfl ?_
  refine pr_asti (pc := 6) (n := 10) C 49 p rfl (by decide) rfl rfl (pl_r1 (by decide) (by first | assumption | omega)) rfl (by omega) (by decide) dX3_commit_6 ?_
  refine pr_aload_n (pc := 7) C dX3_commit_7 rfl ?_
  refine pr_geta (pc := 8) C 50 150 wf_X3_193 rfl rfl (by decide) (pl_1 (by first | assumption | omega)) dX3_commit_8 ?_
  refine pr_iload_n (pc := 11) C dX3_commit_11 rfl ?_
  refine pr_iload_n (pc := 12) C dX3_commit_12 rfl ?_
  refine pr_if_ne (pc := 13) C 20 dX3_commit_13 (by decide) (fun c_13 => ?_) (fun c_13 => ?_)
  · refine pr_aload (pc := 20) C dX3_commit_20 rfl ?_
    refine pr_astt (pc := 22) (n := 10) C 50 p (nI t) rfl (by decide) rfl rfl (pl_r1 (by decide) (by first | assumption | omega)) (pa_rc_nI (by first | assumption | omega)) (by intro z hz; cases hz; exact ⟨rfl, (pl_3 (sj_n0 hs (by first | assumption | omega)))⟩) rfl (by omega) (by decide) dX3_commit_22 ?_
    refine pr_aload_n (pc := 23) C dX3_commit_23 rfl ?_
    refine pr_getl (pc := 24) C 164 2 wf_X3_29 rfl rfl rfl (pl_4 _) dX3_commit_24 ?_
    refine pr_newS (pc := 27) C ea (sj_N9 hs) ⟨⟨lr_kn (by decide), (pl_0 (by decide))⟩, trivial⟩ ⟨⟨lr_kn (by decide), (pl_4 _)⟩, ⟨⟨lr_kn (by decide), (pl_1 (by first | assumption | omega))⟩, ⟨trivial, ⟨trivial, ⟨⟨lr_kn (by decide), (pl_3 (sj_n0 hs (by first | assumption | omega)))⟩, trivial⟩⟩⟩⟩⟩ (by omega) (by omega) dX3_commit_27 ?_
    refine pr_dup (pc := 30) C dX3_commit_30 trivial ?_
    refine pr_aload_n (pc := 31) C dX3_commit_31 rfl ?_
    refine pr_geti (pc := 32) C 40 wf_X3_160 rfl (by decide) (pl_1 (by first | assumption | omega)) dX3_commit_32 ?_
    refine pr_eqi (v := nI w) ((pa_up_ne (f := 50) (o := w) (j := p) (v := (nI t)) (by decide)).trans ((pa_up_ne (f := 49) (o := w) (j := p) (v := v) (by decide)).trans (sj_r40 hs hw))) ?_
    refine pr_iload_n (pc := 35) C dX3_commit_35 rfl ?_
    refine pr_iload_n (pc := 36) C dX3_commit_36 rfl ?_
    refine pr_initS (pc := 37) (rest := [pv_o 0 2]) C ea (by rw [eh]; exact sj_N9 hs) (sj_N9 hs) (sj_els (hK := fun j => show pa_up (pa_up K 49 w p v) 50 w p (nI t) 163 0 j = K 163 0 j from (pa_up_ne (by decide)).trans (pa_up_ne (by decide))) hs (mw_L_of hM)) ⟨⟨lr_kn (by decide), (pl_0 (by decide))⟩, trivial⟩ ⟨⟨lr_kn (by decide), (pl_4 _)⟩, ⟨⟨lr_kn (by decide), (pl_1 (by first | assumption | omega))⟩, ⟨trivial, ⟨trivial, ⟨⟨lr_kn (by decide), (pl_3 (sj_n0 hs (by first | assumption | omega)))⟩, trivial⟩⟩⟩⟩⟩ (by decide) (by decide) dX3_commit_37 (by omega) (by omega) ?_
    have hlvn : ∀ nm, pa_lv N nm → pa_lv (pa_un N 1 (N 1 + 1)) nm := fun nm hn => (pn_lv1 (fun zz => by subst zz; have : N 1 < N 1 := hn; omega)).mpr hn
    have h7 := sj_c7 hs
    have h14 := sj_N14 hs
    have hcap := lr_cap_le (n := N 7) (b := 999) (by omega)
    refine pr_callV0 (pc := 40) (mc' := 1) (ms' := lr_cap (N 7)) (y := mJx4a65c_add_9ea2d) (rest := []) (As := [pv_r (some (2, N 1))]) C (c_ladd G _ _ 2 (2, N 1) 0 (by decide) h7.1 (by show N 7 < 60000; omega) (fun j hj => hlvn _ ?_) (show N 1 < pa_un N 1 (N 1 + 1) 1 from Nat.lt_succ_self _) ⟨fun z => absurd z (by decide), fun z => absurd z (by decide), fun _ => by rw [h14]; rfl⟩) wv_X3_101 rfl (by decide) (by decide) (pl_0 (by decide)) (by decide) (by omega) (by show 0 + 3 + lr_cap (N 7) ≤ 1520; omega) (fun zz => absurd (ea.symm.trans zz) (by decide)) (fun _ => ⟨trivial, ?_⟩) dX3_commit_40 (fun r h9 hp9 => ?_)
    · exact pl_2 (show j < N 1 by have : j < N 4 := hj; omega)
    · exact ⟨⟨lr_kn (by decide), hlvn _ (pl_4 _)⟩, ⟨lr_kn (by decide), hlvn _ (pl_1 hw)⟩, trivial, trivial, ⟨lr_kn (by decide), hlvn _ (pl_3 (sj_n0 hs (by omega)))⟩, trivial⟩
    obtain ⟨rfl, rfl⟩ := hp9
    refine pr_sim (sj_commitM (v := v) (tb := (nI t)) (cd := 0) hs hw hp hM.1.1 he) ?_
    intro K N hs
    refine pr_pop (pc := 43) C dX3_commit_43 trivial ?_
    refine pr_aload_n (pc := 44) C dX3_commit_44 rfl ?_
    refine pr_iload_n (pc := 45) C dX3_commit_45 rfl ?_
    refine pr_vC0 (pc := 46) (rest := []) C (c_X3_endSettledQuarrels G _ K Sm _ N O T D e1 z hs p hp) wv_X3_365 rfl rfl (by decide) (by decide) (pl_4 _) (by decide) (by omega) (by omega) (fun _ => rfl) (fun z => by cases z) dX3_commit_46 ?_
    intro K N hs
    exact pr_vret (pc := 49) C E (by omega) (by omega) ⟨rfl, K, N, rfl, sj_com (show (nI t) = _ from (if_neg c_13).symm) hw hp hv hJq hJs hs⟩ dX3_commit_49
  · refine pr_null (pc := 16) C dX3_commit_16 ?_
    refine pr_goto (pc := 17) C 22 dX3_commit_17 (by decide) ?_
    refine pr_astt (pc := 22) (n := 10) C 50 p (-1) rfl (by decide) rfl rfl (pl_r1 (by decide) (by first | assumption | omega)) (by decide) (by intro z hz; cases hz) rfl (by omega) (by decide) dX3_commit_22 ?_
    refine pr_aload_n (pc := 23) C dX3_commit_23 rfl ?_
    refine pr_getl (pc := 24) C 164 2 wf_X3_29 rfl rfl rfl (pl_4 _) dX3_commit_24 ?_
    refine pr_newS (pc := 27) C ea (sj_N9 hs) ⟨⟨lr_kn (by decide), (pl_0 (by decide))⟩, trivial⟩ ⟨⟨lr_kn (by decide), (pl_4 _)⟩, ⟨⟨lr_kn (by decide), (pl_1 (by first | assumption | omega))⟩, ⟨trivial, ⟨trivial, ⟨⟨lr_kn (by decide), (pl_3 (sj_n0 hs (by first | assumption | omega)))⟩, trivial⟩⟩⟩⟩⟩ (by omega) (by omega) dX3_commit_27 ?_
    refine pr_dup (pc := 30) C dX3_commit_30 trivial ?_
    refine pr_aload_n (pc := 31) C dX3_commit_31 rfl ?_
    refine pr_geti (pc := 32) C 40 wf_X3_160 rfl (by decide) (pl_1 (by first | assumption | omega)) dX3_commit_32 ?_
    refine pr_eqi (v := nI w) ((pa_up_ne (f := 50) (o := w) (j := p) (v := (-1)) (by decide)).trans ((pa_up_ne (f := 49) (o := w) (j := p) (v := v) (by decide)).trans (sj_r40 hs hw))) ?_
    refine pr_iload_n (pc := 35) C dX3_commit_35 rfl ?_
    refine pr_iload_n (pc := 36) C dX3_commit_36 rfl ?_
    refine pr_initS (pc := 37) (rest := [pv_o 0 2]) C ea (by rw [eh]; exact sj_N9 hs) (sj_N9 hs) (sj_els (hK := fun j => show pa_up (pa_up K 49 w p v) 50 w p (-1) 163 0 j = K 163 0 j from (pa_up_ne (by decide)).trans (pa_up_ne (by decide))) hs (mw_L_of hM)) ⟨⟨lr_kn (by decide), (pl_0 (by decide))⟩, trivial⟩ ⟨⟨lr_kn (by decide), (pl_4 _)⟩, ⟨⟨lr_kn (by decide), (pl_1 (by first | assumption | omega))⟩, ⟨trivial, ⟨trivial, ⟨⟨lr_kn (by decide), (pl_3 (sj_n0 hs (by first | assumption | omega)))⟩, trivial⟩⟩⟩⟩⟩ (by decide) (by decide) dX3_commit_37 (by omega) (by omega) ?_
    have hlvn : ∀ nm, pa_lv N nm → pa_lv (pa_un N 1 (N 1 + 1)) nm := fun nm hn => (pn_lv1 (fun zz => by subst zz; have : N 1 < N 1 := hn; omega)).mpr hn
    have h7 := sj_c7 hs
    have h14 := sj_N14 hs
    have hcap := lr_cap_le (n := N 7) (b := 999) (by omega)
    refine pr_callV0 (pc := 40) (mc' := 1) (ms' := lr_cap (N 7)) (y := mJx4a65c_add_9ea2d) (rest := []) (As := [pv_r (some (2, N 1))]) C (c_ladd G _ _ 2 (2, N 1) 0 (by decide) h7.1 (by show N 7 < 60000; omega) (fun j hj => hlvn _ ?_) (show N 1 < pa_un N 1 (N 1 + 1) 1 from Nat.lt_succ_self _) ⟨fun z => absurd z (by decide), fun z => absurd z (by decide), fun _ => by rw [h14]; rfl⟩) wv_X3_101 rfl (by decide) (by decide) (pl_0 (by decide)) (by decide) (by omega) (by show 0 + 3 + lr_cap (N 7) ≤ 1520; omega) (fun zz => absurd (ea.symm.trans zz) (by decide)) (fun _ => ⟨trivial, ?_⟩) dX3_commit_40 (fun r h9 hp9 => ?_)
    · exact pl_2 (show j < N 1 by have : j < N 4 := hj; omega)
    · exact ⟨⟨lr_kn (by decide), hlvn _ (pl_4 _)⟩, ⟨lr_kn (by decide), hlvn _ (pl_1 hw)⟩, trivial, trivial, ⟨lr_kn (by decide), hlvn _ (pl_3 (sj_n0 hs (by omega)))⟩, trivial⟩
    obtain ⟨rfl, rfl⟩ := hp9
    refine pr_sim (sj_commitM (v := v) (tb := (-1)) (cd := 0) hs hw hp hM.1.1 he) ?_
    intro K N hs
    refine pr_pop (pc := 43) C dX3_commit_43 trivial ?_
    refine pr_aload_n (pc := 44) C dX3_commit_44 rfl ?_
    refine pr_iload_n (pc := 45) C dX3_commit_45 rfl ?_
    refine pr_vC0 (pc := 46) (rest := []) C (c_X3_endSettledQuarrels G _ K Sm _ N O T D e1 z hs p hp) wv_X3_365 rfl rfl (by decide) (by decide) (pl_4 _) (by decide) (by omega) (by omega) (fun _ => rfl) (fun z => by cases z) dX3_commit_46 ?_
    intro K N hs
    exact pr_vret (pc := 49) C E (by omega) (by omega) ⟨rfl, K, N, rfl, sj_com (show (-1) = _ from (if_pos c_13).symm) hw hp hv hJq hJs hs⟩ dX3_commit_49

theorem pa_us_same {S : Nat → Nat → Int32} {f j : Nat} : pa_us S f j (S f j) = S := by
  funext g q
  unfold pa_us
  by_cases c : g = f ∧ q = j
  · rw [if_pos c, c.1, c.2]
  · rw [if_neg c]
theorem ms_com_212 {S : Nat → Nat → Int32} {w p q : Nat} {v t y : Int32} : ms_com (pa_us S 212 q y) w p v t = pa_us (ms_com S w p v t) 212 q y := by
  funext f j
  by_cases c3 : f = 233
  · subst c3
    rw [pa_us_ne (by decide)]
    unfold ms_com
    generalize (if v = 0 then -1 else t) = tb
    have e : ∀ f j, f ≠ 212 → pa_us (pa_us (pa_us S 212 q y) 208 (10 * w + p) v) 209 (10 * w + p) tb f j = pa_us (pa_us S 208 (10 * w + p) v) 209 (10 * w + p) tb f j := fun f j hf => by
      have h0 : pa_us S 212 q y f j = S f j := pa_us_ne hf
      show (if f = 209 ∧ j = 10 * w + p then tb else if f = 208 ∧ j = 10 * w + p then v else pa_us S 212 q y f j) = _
      rw [h0]
      rfl
    have eq : ms_qok (pa_us (pa_us (pa_us S 212 q y) 208 (10 * w + p) v) 209 (10 * w + p) tb) j = ms_qok (pa_us (pa_us S 208 (10 * w + p) v) 209 (10 * w + p) tb) j := by
      unfold ms_qok
      rw [e 233 _ (by decide), e 208 _ (by decide), e 208 _ (by decide)]
    refine (ms_eq_at 160 j).trans (Eq.trans ?_ (ms_eq_at 160 j).symm)
    rw [eq, e 233 _ (by decide)]
  · have e1 : ∀ S, ms_com S w p v t f j = pa_us (pa_us S 208 (10 * w + p) v) 209 (10 * w + p) (if v = 0 then -1 else t) f j := fun S => ms_eq_ne c3
    rw [e1]
    by_cases c : f = 212 ∧ j = q
    · rw [c.1, c.2, pa_us_self, pa_us_ne (by decide), pa_us_ne (by decide), pa_us_self]
    · have e2 : ∀ S : Nat → Nat → Int32, pa_us S 212 q y f j = S f j := fun S => if_neg c
      rw [e2, e1]
      unfold pa_us
      rw [if_neg c]
theorem ms_says_of {S : Nat → Nat → Int32} {t w p : Nat} {v : Int32} : ms_com (pa_us S 212 w (S 212 w + pz_b (decide (S 207 (10 * w + p) = ms_contrary v)))) w p v (nI t) = ms_says S t w p v := ms_com_212
theorem mj_s_of {S S' : Nat → Nat → Int32} (h : mj_s S) (e1 : ∀ j, S' 208 j = S 208 j) (e2 : ∀ j, S' 209 j = S 209 j) : mj_s S' := fun p hp => by rw [e1, e2]; exact h p hp
theorem mj_q_of {S S' : Nat → Nat → Int32} (h : mj_q S) (e1 : ∀ j, S' 208 j = S 208 j) (e2 : ∀ j, S' 233 j = S 233 j) : mj_q S' := fun k hk => by rw [e1, e1, e2]; exact h k hk
set_option maxRecDepth 100000 in
set_option maxHeartbeats 4000000 in
theorem c_X3_commitOwn (G : pa_G) (l : Launch) (K : Nat → Nat → Nat → Int32) (Sm S : Nat → Nat → Int32) (N : Nat → Nat) (O : Nat → Int64) (T D e : Nat) (z : sj_Z) (hs : sj_M K N T D z e S) (t w p e1 : Nat) (v : Int32) (hM : mw_S S T) (hJs : mj_s S) (hJq : mj_q S) (ht : t < T) (hw : S 218 t = nI w) (hw4 : w < 4) (hp : p < 10) (hv : v = 1 ∨ v = 2) (he : e1 + 1 ≤ e + (decide (S 208 (10 * w + p) = 0)).toNat) : pa_M G l mX3_commitOwn 9 true [pv_o 4 0, pv_o 3 t, pv_i (nI p), pv_i v] (K, Sm, N, O) 2 1520 (sj_post none Sm O T D z e1 (ms_says S t w p v)) := by
  refine pa_go l (by decide) (by simp [pa_c1l, pa_c1]) (fun _ => rfl) fun x C E el ea => ?_
  subst el
  have hT := hM.1.1
  have hTD := sj_TD hs
  have hcv : ms_contrary v = 3 - v := by rcases hv with rfl | rfl <;> decide
  have hv0 : (decide (v = 0)).toNat = 0 := by rcases hv with rfl | rfl <;> decide
  show pa_w G x 4 (K, Sm, N, O) 0 0 0 [some (pv_o 4 0), some (pv_o 3 t), some (pv_i (nI p)), some (pv_i v)] []
  refine pr_aload_n (pc := 0) C dX3_commitOwn_0 rfl ?_
  refine pr_gets (pc := 1) C 120 wf_X3_105 rfl rfl (pl_3 (sj_n0 hs (by first | assumption | omega))) w ((sj_r120 hs (by first | assumption | omega)).trans hw) (by first | assumption | omega) dX3_commitOwn_1 ?_
  refine pr_geta (pc := 4) C 48 148 wf_X3_73 rfl rfl (by decide) (pl_1 (by first | assumption | omega)) dX3_commitOwn_4 ?_
  refine pr_iload_n (pc := 7) C dX3_commitOwn_7 rfl ?_
  refine pr_aldi (pc := 8) (n := 10) C 48 p rfl rfl rfl (pl_r1 (by decide) (by first | assumption | omega)) rfl (by omega) (by decide) dX3_commitOwn_8 ?_
  refine pr_eqi (v := S 207 (10 * w + p)) (sj_r48 hs (by first | assumption | omega) (by omega)) ?_
  refine pr_iload_n (pc := 9) C dX3_commitOwn_9 rfl ?_
  refine pr_sP (pc := 10) C (c_X3_contrary G _ (K, Sm, N, O) v) ws_X3_360 rfl rfl (by decide) (Nat.le_of_ble_eq_true rfl) (by omega) (by omega) dX3_commitOwn_10 ?_
  have j29_1 : ∀ (K : Nat → Nat → Nat → Int32) (N : Nat → Nat), sj_M K N T D z e (pa_us S 212 w (S 212 w + pz_b (decide (S 207 (10 * w + p) = ms_contrary v)))) → pa_w G x 4 (K, Sm, N, O) 0 0 29 [some (pv_o 4 0), some (pv_o 3 t), some (pv_i (nI p)), some (pv_i v)] [] := by
    intro K N hs
    refine pr_aload_n (pc := 29) C dX3_commitOwn_29 rfl ?_
    refine pr_aload_n (pc := 30) C dX3_commitOwn_30 rfl ?_
    refine pr_gets (pc := 31) C 120 wf_X3_105 rfl rfl (pl_3 (sj_n0 hs (by first | assumption | omega))) w ((sj_r120 hs (by first | assumption | omega)).trans hw) (by first | assumption | omega) dX3_commitOwn_31 ?_
    refine pr_iload_n (pc := 34) C dX3_commitOwn_34 rfl ?_
    refine pr_iload_n (pc := 35) C dX3_commitOwn_35 rfl ?_
    refine pr_aload_n (pc := 36) C dX3_commitOwn_36 rfl ?_
    refine pr_vC0 (pc := 37) (rest := []) C (c_X3_commit G _ K Sm (pa_us S 212 w (S 212 w + pz_b (decide (S 207 (10 * w + p) = ms_contrary v)))) N O T D e z hs w p t e1 v (mw_S_us hM (by decide)) (mj_s_of hJs (fun j => pa_us_ne (by decide)) (fun j => pa_us_ne (by decide))) (mj_q_of hJq (fun j => pa_us_ne (by decide)) (fun j => pa_us_ne (by decide))) hw4 hp ht (Or.inr hv) (by rw [pa_us_ne (by decide), hv0]; exact he)) wv_X3_340 rfl rfl (by decide) (by decide) (pl_4 _) (by decide) (by omega) (by omega) (fun z => absurd (ea.symm.trans z) (by decide)) (fun _ => ⟨trivial, ⟨⟨lr_kn (by decide), (pl_4 _)⟩, ⟨⟨lr_kn (by decide), (pl_3 (sj_n0 hs (by first | assumption | omega)))⟩, ⟨trivial, ⟨trivial, trivial⟩⟩⟩⟩⟩) dX3_commitOwn_37 ?_
    intro K N hs
    exact pr_vret (pc := 40) C E (by omega) (by omega) ⟨rfl, K, N, rfl, sj_eq ms_says_of hs⟩ dX3_commitOwn_40
  refine pr_icmp_ne (pc := 13) C 29 dX3_commitOwn_13 (by decide) (fun c_13 => ?_) (fun c_13 => ?_)
  · exact j29_1 K N (sj_eq (by rw [hcv, decide_eq_false c_13, pz_bf, Int32.add_zero, pa_us_same]) hs)
  · refine pr_aload_n (pc := 16) C dX3_commitOwn_16 rfl ?_
    refine pr_gets (pc := 17) C 120 wf_X3_105 rfl rfl (pl_3 (sj_n0 hs (by first | assumption | omega))) w ((sj_r120 hs (by first | assumption | omega)).trans hw) (by first | assumption | omega) dX3_commitOwn_17 ?_
    refine pr_dup (pc := 20) C dX3_commitOwn_20 trivial ?_
    refine pr_geti (pc := 21) C 46 wf_X3_215 rfl (by decide) (pl_1 (by first | assumption | omega)) dX3_commitOwn_21 ?_
    refine pr_eqi (v := S 212 w) (sj_r46 hs (by first | assumption | omega)) ?_
    refine pr_iconst (pc := 24) (v := 1) C dX3_commitOwn_24 (by decide) ?_
    refine pr_iadd (pc := 25) C dX3_commitOwn_25 ?_
    refine pr_puti (pc := 26) C 46 wp_X3_215 rfl (by decide) rfl (by decide) (pl_1 (by first | assumption | omega)) dX3_commitOwn_26 ?_
    refine pr_sim (sj_w46 hs) ?_
    intro K N hs
    exact j29_1 K N (sj_eq (by rw [hcv, decide_eq_true c_13, pz_bt]) hs)

set_option maxRecDepth 100000 in
set_option maxHeartbeats 4000000 in
theorem c_X3_entitle (G : pa_G) (l : Launch) (K : Nat → Nat → Nat → Int32) (Sm S : Nat → Nat → Int32) (N : Nat → Nat) (O : Nat → Int64) (T D e : Nat) (z : sj_Z) (hs : sj_M K N T D z e S) (v : Int32) : pa_M G l mX3_entitle 2 false [pv_o 4 0, pv_i v] (K, Sm, N, O) 0 0 (sj_post none Sm O T D z e (ms_right S v)) := by
  refine pa_go l (by decide) (by simp [pa_c1l, pa_c1]) (fun _ => rfl) fun x C E el ea => ?_
  subst el
  show pa_w G x 2 (K, Sm, N, O) 0 0 0 [some (pv_o 4 0), some (pv_i v)] []
  refine pr_aload_n (pc := 0) C dX3_entitle_0 rfl ?_
  refine pr_iload_n (pc := 1) C dX3_entitle_1 rfl ?_
  refine pr_puti (pc := 2) C 167 wp_X3_32 rfl (by decide) rfl (by decide) (pl_4 _) dX3_entitle_2 ?_
  refine pr_sim (sj_w167 hs) ?_
  intro K N hs
  refine pr_aload_n (pc := 5) C dX3_entitle_5 rfl ?_
  refine pr_aload_n (pc := 6) C dX3_entitle_6 rfl ?_
  refine pr_geti (pc := 7) C 166 wf_X3_76 rfl (by decide) (pl_4 _) dX3_entitle_7 ?_
  refine pr_eqi (v := S 200 0) ((sj_r166 hs).trans rfl) ?_
  refine pr_iconst (pc := 10) (v := 2) C dX3_entitle_10 (by decide) ?_
  refine pr_iadd (pc := 11) C dX3_entitle_11 ?_
  refine pr_puti (pc := 12) C 168 wp_X3_144 rfl (by decide) rfl (by decide) (pl_4 _) dX3_entitle_12 ?_
  refine pr_sim (sj_w168 hs) ?_
  intro K N hs
  exact pr_vret (pc := 15) C E (by omega) (by omega) ⟨rfl, K, N, rfl, (sj_eq (by simp [-Int32.not_le, -Int32.not_lt, pz_b, pz_lt, ms_right]) hs)⟩ dX3_entitle_15

set_option maxRecDepth 100000 in
set_option maxHeartbeats 4000000 in
theorem c_X3_next (G : pa_G) (l : Launch) (K : Nat → Nat → Nat → Int32) (Sm S : Nat → Nat → Int32) (N : Nat → Nat) (O : Nat → Int64) (T D e : Nat) (z : sj_Z) (hs : sj_M K N T D z e S)  : pa_MP G l mX3_next 1 [pv_o 4 0] (K, Sm, N, O) (pv_i (if S 200 0 ≤ S 216 0 then S 215 0 else -1)) := by
  refine pa_go l (by decide) (by simp [pa_c1l, pa_c1]) (fun _ => rfl) fun x C E el ea => ?_
  subst el
  show pa_w G x 1 (K, Sm, N, O) 0 0 0 [some (pv_o 4 0)] []
  refine pr_aload_n (pc := 0) C dX3_next_0 rfl ?_
  refine pr_geti (pc := 1) C 166 wf_X3_76 rfl (by decide) (pl_4 _) dX3_next_1 ?_
  refine pr_eqi (v := S 200 0) (sj_r166 hs) ?_
  refine pr_aload_n (pc := 4) C dX3_next_4 rfl ?_
  refine pr_geti (pc := 5) C 168 wf_X3_144 rfl (by decide) (pl_4 _) dX3_next_5 ?_
  refine pr_eqi (v := S 216 0) (sj_r168 hs) ?_
  have j19_1 : pa_w G x 1 (K, Sm, N, O) 0 0 19 [some (pv_o 4 0)] [pv_i (if S 200 0 ≤ S 216 0 then S 215 0 else -1)] := by
    exact pr_iret (pc := 19) C E (Or.inl rfl) (by omega) (by omega) ⟨rfl, rfl⟩ dX3_next_19
  refine pr_icmp_gtL (pc := 8) C 18 dX3_next_8 (by decide) (fun c_8 => ?_) (fun c_8 => ?_)
  · refine pr_iconst (pc := 18) (v := -1) C dX3_next_18 (by decide) ?_
    exact pr_eqi (show (-1 : Int32) = (if S 200 0 ≤ S 216 0 then S 215 0 else -1) from (by simp [-Int32.not_le, -Int32.not_lt, pz_b, pz_lt, c_8])) j19_1
  · refine pr_aload_n (pc := 11) C dX3_next_11 rfl ?_
    refine pr_geti (pc := 12) C 167 wf_X3_32 rfl (by decide) (pl_4 _) dX3_next_12 ?_
    refine pr_eqi (v := S 215 0) (sj_r167 hs) ?_
    refine pr_goto (pc := 15) C 19 dX3_next_15 (by decide) ?_
    exact pr_eqi (show (S 215 0) = (if S 200 0 ≤ S 216 0 then S 215 0 else -1) from (by simp [-Int32.not_le, -Int32.not_lt, pz_b, pz_lt, c_8])) j19_1

def mj_v (S : Nat → Nat → Int32) : Prop := ∀ p, S 228 p = 0 ∨ S 228 p = 1 ∨ S 228 p = 2 ∨ S 228 p = 3 ∨ S 228 p = 4
theorem mj_v1 {S : Nat → Nat → Int32} {p : Nat} (h : S 228 p = 0 ∨ S 228 p = 1) : ¬ 2 ≤ S 228 p := by
  rcases h with e | e <;> rw [e] <;> decide
theorem mj_v2 {S : Nat → Nat → Int32} {p : Nat} (h : mj_v S) (h0 : ¬ S 228 p = 0) (h1 : ¬ S 228 p = 1) : 2 ≤ S 228 p := by
  rcases h p with e | e | e | e | e
  · exact absurd e h0
  · exact absurd e h1
  · rw [e]; decide
  · rw [e]; decide
  · rw [e]; decide
theorem ms_dlh_v (S : Nat → Nat → Int32) (t k : Nat) : ms_dlh S t k = 1 ∨ ms_dlh S t k = 2 ∨ ms_dlh S t k = 3 := by
  unfold ms_dlh
  split
  · exact Or.inl rfl
  · split
    · exact Or.inr (Or.inr rfl)
    · split
      · exact Or.inr (Or.inl rfl)
      · exact Or.inl rfl
theorem mj_v_dls {S : Nat → Nat → Int32} {t k : Nat} (h : mj_v S) : mj_v (ms_dls t S k) := fun p => by
  unfold ms_dls
  split
  · rw [pa_us_ne (by decide)]
    by_cases c : p = 4 * t + k
    · rw [c, pa_us_self]
      rcases ms_dlh_v S t k with e | e | e <;> rw [e] <;> decide
    · rw [pa_us_nj c]
      exact h p
  · exact h p
theorem mj_v_dlv {S : Nat → Nat → Int32} {t : Nat} (h : mj_v S) : mj_v (ms_dlv S t) := pz_it_inv (f := ms_dls t) (fun s k => mj_v_dls) 4 S h
