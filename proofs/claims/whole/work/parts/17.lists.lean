/-! LISTS over the abstract heap: size, isEmpty, get, add, remove of the last -/
theorem lr_met {ι : Type} {l : Launch} {y : MethodName} {ws : List Cond} {rm : Room} {Pc' : Array Value → State → Prop} {Qc' : Array Value → State → Outcome → State → Prop} {mc ms : Nat} {free : Addr → Prop} {ok : ι → Prop} {Pc : ι → Array Value → State → Prop} {Qc : ι → Array Value → State → Outcome → State → Prop} {fr : ι → Addr → Prop}
    (hM : ∀ i, ok i → Met l y ws rm (Pc i) (Qc i) mc ms (fr i)) (hp : ∀ a s, Pc' a s → ∃ i, ok i ∧ Pc i a s ∧ (∀ o t, Qc i a s o t → Qc' a s o t) ∧ ∀ q, fr i q → free q) : Met l y ws rm Pc' Qc' mc ms free := by
  intro p e ha hc hk s m args below hf happ hP _
  obtain ⟨i, oi, h1, h2, h3⟩ := hp args s hP
  obtain ⟨n, o, g1, g2, g3, g4, L, g5, g6⟩ := hM i oi p e ha hc hk s m args below hf happ h1 trivial
  exact ⟨n, o, g1, g2, g3, h2 _ _ g4, L, g5, fun q hq => h3 _ (g6 q hq)⟩
theorem pa_ce_l (G : pa_G) (ad : pa_Nm → Nat) (h : pa_H) (l : Nat) : pa_ce G ad h (0, l) = .inr (0, [.int (h.1 0 l 0), if h.2.2.1 (5 + l) = 0 then .ref G.2.2.2 else .ref (ad (8, l)), .int (nI (h.2.2.1 (2 + l)))]) := if_pos rfl
theorem pa_ce_8 (G : pa_G) (ad : pa_Nm → Nat) (h : pa_H) (l : Nat) : pa_ce G ad h (8, l) = lr_E G (fun j => if j < h.2.2.1 (2 + l) then some (ad (pa_le h l j)) else none) (h.2.2.1 (5 + l)) := by
  unfold pa_ce
  dsimp only
  rw [if_neg (by decide), if_neg (by decide), if_neg (by decide), if_neg (by decide), if_pos rfl]
theorem pl_8 {N : Nat → Nat} {l : Nat} (h : l < 3) (h2 : N (5 + l) ≠ 0) : pa_lv N (8, l) := by
  unfold pa_lv
  dsimp only
  rw [if_neg (by decide), if_neg (by decide), if_neg (by decide), if_neg (by decide), if_pos rfl]
  exact ⟨h, h2⟩
section LROWS
variable {G : pa_G} {x : pa_X} {cc : ByteArray} {nL : Nat} {own : String} {d mc ms : Nat} {h : pa_H} {a b pc : Nat} {lo : List (Option pa_V)} {st : List pa_V}
theorem pr_lsize (C : pa_C G x cc nL RJx4a65c d mc ms) {l : Nat} (hl : l < 3) (dg : decode cc pc = .ok (.getfield 48, 3)) (kk : pa_w G x nL h a b (pc + 3) lo (pv_i (nI (h.2.2.1 (2 + l))) :: st)) : pa_w G x nL h a b pc lo (pv_o 0 l :: st) := by
  obtain ⟨p, l9, e, R, s, m, args, below, meth, c, Q, h0, ad0, al⟩ := x
  intro ad H locs ls q1 q2 q3 q4
  obtain ⟨hx, hb, -, hown, hts, hU, -⟩ := C
  have h1 := q1.1 (0, l) (pl_0 hl)
  rw [pa_ce_l] at h1
  exact va_get (ref := "java/util/ArrayList") hx hb (C := RJx4a65c) (T := TJx4a65c) (N := 3) hts in_J hown hU.1 (pa_P1 h1) 0 rfl rfl 2 (by decide) (hts _ (lr_w (w := .fieldLink RJx4a65c 48 "java/util/ArrayList" "size" "I") (by decide +kernel) rfl)) (fun _ z => z) rfl dg (kk ad H locs ls q1 q2 q3 q4)
theorem pr_ldata (C : pa_C G x cc nL RJx4a65c d mc ms) {l : Nat} (hl : l < 3) (h0 : h.2.2.1 (5 + l) ≠ 0) (dg : decode cc pc = .ok (.getfield 9, 3)) (kk : pa_w G x nL h a b (pc + 3) lo (pv_o 8 l :: st)) : pa_w G x nL h a b pc lo (pv_o 0 l :: st) := by
  obtain ⟨p, l9, e, R, s, m, args, below, meth, c, Q, h9, ad0, al⟩ := x
  intro ad H locs ls q1 q2 q3 q4
  obtain ⟨hx, hb, -, hown, hts, hU, -⟩ := C
  have h1 := q1.1 (0, l) (pl_0 hl)
  rw [pa_ce_l, if_neg h0] at h1
  exact va_get (ref := "java/util/ArrayList") hx hb (C := RJx4a65c) (T := TJx4a65c) (N := 3) hts in_J hown hU.1 (pa_P1 h1) 0 rfl rfl 1 (by decide) (hts _ (lr_w (w := .fieldLink RJx4a65c 9 "java/util/ArrayList" "elementData" "[Ljava/lang/Object;") (by decide +kernel) rfl)) (fun _ z => z) rfl dg (kk ad H locs ls q1 q2 q3 q4)
theorem pr_lald (C : pa_C G x cc nL own d mc ms) {l j : Nat} {i : Int32} (hl : l < 3) (hj : j < h.2.2.1 (2 + l)) (hc : h.2.2.1 (2 + l) ≤ h.2.2.1 (5 + l)) (hc9 : h.2.2.1 (5 + l) < 60000) (hi : i = nI j) (dg : decode cc pc = .ok (.aaload, 1)) (kk : pa_w G x nL h a b (pc + 1) lo (pv_r (some (pa_le h l j)) :: st)) : pa_w G x nL h a b pc lo (pv_i i :: pv_o 8 l :: st) := by
  obtain ⟨p, l9, e, R, s, m, args, below, meth, c, Q, h9, ad0, al⟩ := x
  intro ad H locs ls q1 q2 q3 q4
  have h1 := q1.1 (8, l) (pl_8 hl (by omega))
  rw [pa_ce_8] at h1
  have k2 := kk ad H locs ls q1 q2 q3 q4
  have hj9 : (nI j).toNatClampNeg = j := nI_clamp (by omega)
  subst hi
  refine va_aldq C.1 C.2.1 C.2.2.2.2.2.1.1 (pa_P1 h1) 0 4 rfl rfl (vp_in_nI (by omega) (by omega)) dg ?_
  rw [hj9, if_pos hj]
  exact k2
/-- a cast that holds: to the class of the kind k -/
theorem pr_cast (C : pa_C G x cc nL own d mc ms) {ix k i : Nat} {r : vw_C} (hk : 1 ≤ k ∧ k < 6) (hr : vwCl[k]? = some r) (hw : Cond.classLink own ix r.1 ∈ pa_wl) (hl : pa_lv h.2.2.1 (k, i)) (dg : decode cc pc = .ok (.checkcast ix, 3)) (kk : pa_w G x nL h a b (pc + 3) lo (pv_o k i :: st)) : pa_w G x nL h a b pc lo (pv_o k i :: st) := by
  obtain ⟨p, l9, e, R, s, m, args, below, meth, c, Q, h9, ad0, al⟩ := x
  intro ad H locs ls q1 q2 q3 q4
  obtain ⟨hx, hb, -, hown, hts, hU, -⟩ := C
  have h1 := q1.1 (k, i) hl
  rw [pa_ce_ob G ad h i hk.1 hk.2] at h1
  exact va_castS hx hb hown (hts _ hw) (hU.1.1 k r hr).2 (va_recv hU.1 (pa_P1 h1) hr (q0 := 0) rfl) dg (kk ad H locs ls q1 q2 q3 q4)
end LROWS
set_option maxRecDepth 100000 in
theorem c_size (G : pa_G) (l : Launch) (h : pa_H) (lst : Nat) (hl : lst < 3) : pa_MP G l mJx4a65c_size_8abf5 1 [pv_o 0 lst] h (pv_i (nI (h.2.2.1 (2 + lst)))) := by
  refine pa_go l (by decide) (by simp [pa_c1l, pa_c1]) (fun _ => rfl) fun x C E el ea => ?_
  subst el
  show pa_w G x 1 h 0 0 0 [some (pv_o 0 lst)] []
  refine pr_aload_n (pc := 0) C dJx4a65c_size_8abf5_0 rfl ?_
  refine pr_lsize (pc := 1) C hl dJx4a65c_size_8abf5_1 ?_
  exact pr_iret (pc := 4) C E (Or.inl rfl) (by omega) (by omega) ⟨rfl, rfl⟩ dJx4a65c_size_8abf5_4
set_option maxRecDepth 100000 in
theorem c_isEmpty (G : pa_G) (l : Launch) (h : pa_H) (lst : Nat) (hl : lst < 3) (hN : h.2.2.1 (2 + lst) < 60000) : pa_MP G l mJx4a65c_isEmpty_aae02 1 [pv_o 0 lst] h (pv_i (pz_b (decide (h.2.2.1 (2 + lst) = 0)))) := by
  refine pa_go l (by decide) (by simp [pa_c1l, pa_c1]) (fun _ => rfl) fun x C E el ea => ?_
  subst el
  show pa_w G x 1 h 0 0 0 [some (pv_o 0 lst)] []
  refine pr_aload_n (pc := 0) C dJx4a65c_isEmpty_aae02_0 rfl ?_
  refine pr_lsize (pc := 1) C hl dJx4a65c_isEmpty_aae02_1 ?_
  refine pr_if_neN (pc := 4) C 11 (h.2.2.1 (2 + lst)) dJx4a65c_isEmpty_aae02_4 (by decide) rfl (by omega) (fun c4 => ?_) (fun c4 => ?_)
  · refine pr_iconst (pc := 11) (v := 0) C dJx4a65c_isEmpty_aae02_11 (by decide) ?_
    exact pr_iret (pc := 12) C E (Or.inr ⟨rfl, by decide⟩) (by omega) (by omega) ⟨by simp [pz_b, c4], rfl⟩ dJx4a65c_isEmpty_aae02_12
  · refine pr_iconst (pc := 7) (v := 1) C dJx4a65c_isEmpty_aae02_7 (by decide) ?_
    refine pr_goto (pc := 8) C 12 dJx4a65c_isEmpty_aae02_8 (by decide) ?_
    exact pr_iret (pc := 12) C E (Or.inr ⟨rfl, by decide⟩) (by omega) (by omega) ⟨by simp [pz_b, c4], rfl⟩ dJx4a65c_isEmpty_aae02_12
set_option maxRecDepth 100000 in
theorem c_chk3 (G : pa_G) (l : Launch) (h : pa_H) (i n : Nat) (hi : i < n) (hn : n < 60000) : pa_MP G l mJ3_checkIndex_8e157 1 [pv_i (nI i), pv_i (nI n), pv_r none] h (pv_i (nI i)) := by
  refine pa_go l (by decide) (by simp [pa_c1l, pa_c1]) (fun _ => rfl) fun x C E el ea => ?_
  subst el
  show pa_w G x 3 h 0 0 0 [some (pv_i (nI i)), some (pv_i (nI n)), some (pv_r none)] []
  refine pr_iload_n (pc := 0) C dJ3_checkIndex_8e157_0 rfl ?_
  refine pr_if_ltN (pc := 1) C 9 i dJ3_checkIndex_8e157_1 (by decide) rfl (by omega) (fun c4 => absurd c4 (by omega)) (fun _ => ?_)
  refine pr_iload_n (pc := 4) C dJ3_checkIndex_8e157_4 rfl ?_
  refine pr_iload_n (pc := 5) C dJ3_checkIndex_8e157_5 rfl ?_
  refine pr_icmp_ltN (pc := 6) C 16 i n dJ3_checkIndex_8e157_6 (by decide) rfl rfl (by omega) (by omega) (fun _ => ?_) (fun c4 => absurd c4 (by omega))
  refine pr_iload_n (pc := 16) C dJ3_checkIndex_8e157_16 rfl ?_
  exact pr_iret (pc := 17) C E (Or.inl rfl) (by omega) (by omega) ⟨rfl, rfl⟩ dJ3_checkIndex_8e157_17
set_option maxRecDepth 100000 in
theorem c_chk2 (G : pa_G) (l : Launch) (h : pa_H) (i n : Nat) (hi : i < n) (hn : n < 60000) : pa_MP G l mJ15_checkIndex_7cf53 2 [pv_i (nI i), pv_i (nI n)] h (pv_i (nI i)) := by
  refine pa_go l (by decide) (by simp [pa_c1l, pa_c1]) (fun _ => rfl) fun x C E el ea => ?_
  subst el
  show pa_w G x 2 h 0 0 0 [some (pv_i (nI i)), some (pv_i (nI n))] []
  refine pr_iload_n (pc := 0) C dJ15_checkIndex_7cf53_0 rfl ?_
  refine pr_iload_n (pc := 1) C dJ15_checkIndex_7cf53_1 rfl ?_
  refine pr_null (pc := 2) C dJ15_checkIndex_7cf53_2 ?_
  refine pr_sP (pc := 3) C (c_chk3 G _ h i n hi hn) ws_J15_105 rfl rfl (by decide) (Nat.le_of_ble_eq_true rfl) (by omega) (by omega) dJ15_checkIndex_7cf53_3 ?_
  exact pr_iret (pc := 6) C E (Or.inl rfl) (by omega) (by omega) ⟨rfl, rfl⟩ dJ15_checkIndex_7cf53_6
set_option maxRecDepth 100000 in
theorem c_eldat (G : pa_G) (l : Launch) (h : pa_H) (lst j : Nat) (hl : lst < 3) (hj : j < h.2.2.1 (2 + lst)) (hc : h.2.2.1 (2 + lst) ≤ h.2.2.1 (5 + lst)) (hc9 : h.2.2.1 (5 + lst) < 60000) : pa_MP G l mJx4a65c_elementData_915e3 1 [pv_o 0 lst, pv_i (nI j)] h (pv_r (some (pa_le h lst j))) := by
  refine pa_go l (by decide) (by simp [pa_c1l, pa_c1]) (fun _ => rfl) fun x C E el ea => ?_
  subst el
  show pa_w G x 2 h 0 0 0 [some (pv_o 0 lst), some (pv_i (nI j))] []
  refine pr_aload_n (pc := 0) C dJx4a65c_elementData_915e3_0 rfl ?_
  refine pr_ldata (pc := 1) C hl (by omega) dJx4a65c_elementData_915e3_1 ?_
  refine pr_iload_n (pc := 4) C dJx4a65c_elementData_915e3_4 rfl ?_
  refine pr_lald (pc := 5) C hl hj hc hc9 rfl dJx4a65c_elementData_915e3_5 ?_
  exact pr_aret (pc := 6) C E (by omega) (by omega) ⟨rfl, rfl⟩ dJx4a65c_elementData_915e3_6
set_option maxRecDepth 100000 in
theorem c_get (G : pa_G) (l : Launch) (h : pa_H) (lst j : Nat) (hl : lst < 3) (hj : j < h.2.2.1 (2 + lst)) (hc : h.2.2.1 (2 + lst) ≤ h.2.2.1 (5 + lst)) (hc9 : h.2.2.1 (5 + lst) < 60000) : pa_MP G l mJx4a65c_get_915e3 3 [pv_o 0 lst, pv_i (nI j)] h (pv_r (some (pa_le h lst j))) := by
  refine pa_go l (by decide) (by simp [pa_c1l, pa_c1]) (fun _ => rfl) fun x C E el ea => ?_
  subst el
  show pa_w G x 2 h 0 0 0 [some (pv_o 0 lst), some (pv_i (nI j))] []
  refine pr_iload_n (pc := 0) C dJx4a65c_get_915e3_0 rfl ?_
  refine pr_aload_n (pc := 1) C dJx4a65c_get_915e3_1 rfl ?_
  refine pr_lsize (pc := 2) C hl dJx4a65c_get_915e3_2 ?_
  refine pr_sP (pc := 5) C (c_chk2 G _ h j _ hj (by omega)) ws_Jx4a65c_118 rfl rfl (by decide) (Nat.le_of_ble_eq_true rfl) (by omega) (by omega) dJx4a65c_get_915e3_5 ?_
  refine pr_pop (pc := 8) C dJx4a65c_get_915e3_8 trivial ?_
  refine pr_aload_n (pc := 9) C dJx4a65c_get_915e3_9 rfl ?_
  refine pr_iload_n (pc := 10) C dJx4a65c_get_915e3_10 rfl ?_
  refine pr_vP (pc := 11) C (c_eldat G _ h lst j hl hj hc hc9) wv_Jx4a65c_123 rfl rfl (by decide) (by decide) (pl_0 hl) (Nat.le_of_ble_eq_true rfl) (by omega) (by omega) dJx4a65c_get_915e3_11 ?_
  exact pr_aret (pc := 14) C E (by omega) (by omega) ⟨rfl, rfl⟩ dJx4a65c_get_915e3_14
-- the abstract heap behind a change of a list
theorem lr_kn {k o : Nat} (h : k ≠ 8) : ((k, o) : pa_Nm).1 ≠ 8 := h
/-- what a change of the lists leaves of a cell -/
theorem lr_ce {G : pa_G} {ad ad' : pa_Nm → Nat} {h h' : pa_H} (hK : ∀ f o j, 40 ≤ f → f ≠ 163 → h'.1 f o j = h.1 f o j) (hS : h'.2.1 = h.2.1) (hO : h'.2.2.2 = h.2.2.2) (had : ∀ n : pa_Nm, n.1 ≠ 8 → ad' n = ad n) {z : pa_Nm} (h0 : z.1 ≠ 0) (h8 : z.1 ≠ 8) (hz : z.1 < 10 ∨ 140 ≤ z.1) : pa_ce G ad' h' z = pa_ce G ad h z := by
  obtain ⟨k, o⟩ := z
  dsimp only at h0 h8 hz
  have hrc : ∀ v : Int32, (pa_rc 3 v).map ad' = (pa_rc 3 v).map ad := fun v => by
    unfold pa_rc
    split
    · rfl
    · simp only [Option.map_some]
      rw [had _ (lr_kn (by decide))]
  have hfv : ∀ g, 40 ≤ g → pa_fv ad' h' g o = pa_fv ad h g o := fun g hg => by
    by_cases c : g = 163
    · subst c
      unfold pa_fv
      rw [if_neg (by decide), if_neg (by decide), if_neg (by decide), if_pos (by decide), if_neg (by decide), if_neg (by decide), if_neg (by decide), if_pos (by decide), had _ (by decide)]
    · unfold pa_fv
      simp only [hK g o _ hg c, hS, hrc]
      rw [had (1, (h.1 g o 0).toNatClampNeg) (lr_kn (by decide)), had (0, g - 162) (lr_kn (by decide)), had (100 + g, o) (by show 100 + g ≠ 8; omega)]
  unfold pa_ce
  dsimp only
  rw [if_neg h0, if_neg h0]
  by_cases c1 : k < 6
  · rw [if_pos c1, if_pos c1]
    have : pa_fs ad' h' k o (pa_nf k) = pa_fs ad h k o (pa_nf k) := by
      unfold pa_fs
      exact List.map_congr_left fun q _ => hfv _ (by omega)
    rw [this]
  rw [if_neg c1, if_neg c1]
  by_cases c2 : k = 6
  · rw [if_pos c2, if_pos c2]
  rw [if_neg c2, if_neg c2]
  by_cases c3 : k = 7
  · rw [if_pos c3, if_pos c3]
  rw [if_neg c3, if_neg c3, if_neg h8, if_neg h8]
  by_cases c5 : k = 9
  · rw [if_pos c5, if_pos c5, hO]
  rw [if_neg c5, if_neg c5]
  have : pa_av ad' h' (k - 100) o = pa_av ad h (k - 100) o := by
    by_cases c : k - 100 = 163
    · rw [c]
      unfold pa_av
      rw [if_neg (by decide), if_neg (by decide), if_neg (by decide), if_neg (by decide), if_neg (by decide), if_neg (by decide), hS]
    · have hK2 : h'.1 (k - 100) o = h.1 (k - 100) o := funext fun j => hK _ _ _ (by omega) c
      unfold pa_av
      rw [hK2, hS]
      simp only [hrc]
      have e1 : (fun j => some (ad' (1, j))) = (fun j => some (ad (1, j))) := funext fun j => by rw [had _ (lr_kn (by decide))]
      rw [e1]
  rw [this]
theorem lr_row {N : Nat → Nat} {z : pa_Nm} (h : pa_lv N z) : z.1 < 10 ∨ 140 ≤ z.1 := by
  obtain ⟨k, o⟩ := z
  by_cases c : k < 10
  · exact Or.inl c
  · right
    unfold pa_lv at h
    dsimp only at h ⊢
    rw [if_neg (by omega), if_neg (by omega), if_neg (by omega), if_neg (by omega), if_neg (by omega), if_neg (by omega)] at h
    by_cases c2 : 40 ≤ k - 100
    · omega
    · refine absurd ?_ h.1
      unfold pa_ln
      rw [show k - 100 - 40 = 0 by omega]
      rfl
/-- the sizes behind an adding to the list l -/
abbrev lr_N (N : Nat → Nat) (l n cap : Nat) : Nat → Nat := pa_un (pa_un N (2 + l) n) (5 + l) cap
theorem lr_N2 {N : Nat → Nat} {l n cap : Nat} (hl : l < 3) : lr_N N l n cap (2 + l) = n := by
  unfold lr_N pa_un
  rw [if_neg (by omega), if_pos rfl]
theorem lr_N5 {N : Nat → Nat} {l n cap : Nat} : lr_N N l n cap (5 + l) = cap := by
  unfold lr_N pa_un
  rw [if_pos rfl]
theorem lr_No {N : Nat → Nat} {l n cap k : Nat} (h1 : k ≠ 2 + l) (h2 : k ≠ 5 + l) : lr_N N l n cap k = N k := by
  unfold lr_N pa_un
  rw [if_neg h2, if_neg h1]
theorem lr_lvN {N : Nat → Nat} {l n cap : Nat} (hl : l < 3) {z : pa_Nm} (hz : z ≠ (8, l)) : pa_lv (lr_N N l n cap) z ↔ pa_lv N z := by
  obtain ⟨k, o⟩ := z
  have e0 : lr_N N l n cap 0 = N 0 := lr_No (by omega) (by omega)
  have e1 : lr_N N l n cap 1 = N 1 := lr_No (by omega) (by omega)
  have e8 : lr_N N l n cap 8 = N 8 := lr_No (by omega) (by omega)
  have e9 : lr_N N l n cap 9 = N 9 := lr_No (by omega) (by omega)
  have hlo : ∀ k i, pa_lo (lr_N N l n cap) k i ↔ pa_lo N k i := fun k i => by
    unfold pa_lo
    rw [e0, e1]
  unfold pa_lv
  dsimp only
  by_cases c0 : k = 0
  · rw [if_pos c0, if_pos c0]
  rw [if_neg c0, if_neg c0]
  by_cases c1 : k < 6
  · rw [if_pos c1, if_pos c1]
    exact hlo _ _
  rw [if_neg c1, if_neg c1]
  by_cases c2 : k = 6
  · rw [if_pos c2, if_pos c2, e8]
  rw [if_neg c2, if_neg c2]
  by_cases c3 : k = 7
  · rw [if_pos c3, if_pos c3, e9]
  rw [if_neg c3, if_neg c3]
  by_cases c4 : k = 8
  · rw [if_pos c4, if_pos c4]
    by_cases c6 : o < 3
    · have : o ≠ l := fun q => hz (by rw [c4, q])
      rw [lr_No (by omega) (by omega)]
    · exact ⟨fun q => absurd q.1 c6, fun q => absurd q.1 c6⟩
  rw [if_neg c4, if_neg c4]
  by_cases c5 : k = 9
  · rw [if_pos c5, if_pos c5]
  rw [if_neg c5, if_neg c5, hlo]
/-- the heap of names behind a change of the list l's two cells: its row lies at q now -/
theorem lr_R {G : pa_G} {ad : pa_Nm → Nat} {h h' : pa_H} {H H1 : Heap} {l n cap q : Nat} (hl : l < 3) (hR : pa_R G ad h H) (hcap : cap ≠ 0) (hN : h'.2.2.1 = lr_N h.2.2.1 l n cap) (hK : ∀ f o j, 40 ≤ f → f ≠ 163 → h'.1 f o j = h.1 f o j) (hK0 : ∀ l2, l2 ≠ l → h'.1 0 l2 0 = h.1 0 l2 0) (hle : ∀ l2, l2 < 3 → l2 ≠ l → ∀ j, pa_le h' l2 j = pa_le h l2 j) (hS : h'.2.1 = h.2.1) (hO : h'.2.2.2 = h.2.2.2)
    (hq : H.size ≤ q ∨ (h.2.2.1 (5 + l) ≠ 0 ∧ q = ad (8, l))) (hsz : H.size ≤ H1.size) (hkeep : ∀ z : Nat, z < H.size → z ≠ ad (0, l) → ¬ (z = ad (8, l) ∧ h.2.2.1 (5 + l) ≠ 0) → H1[z]? = H[z]?)
    (e1 : va_at G.1 vwCl (ad (0, l), .inr (0, [.int (h'.1 0 l 0), .ref q, .int (nI n)])) H1) (e2 : ∀ ad' : pa_Nm → Nat, (∀ z : pa_Nm, z.1 ≠ 8 → ad' z = ad z) → va_at G.1 vwCl (q, lr_E G (fun j => if j < n then some (ad' (pa_le h' l j)) else none) cap) H1) :
    ∃ ad' : pa_Nm → Nat, pa_R G ad' h' H1 ∧ pa_an true h ad h' ad' := by
  obtain ⟨r1, r2, r3, r4, r5, r6⟩ := hR
  have had : ∀ z : pa_Nm, z ≠ (8, l) → (fun z : pa_Nm => if z = (8, l) then q else ad z) z = ad z := fun z hz => if_neg hz
  have ha8 : (fun z : pa_Nm => if z = (8, l) then q else ad z) (8, l) = q := if_pos rfl
  generalize (fun z : pa_Nm => if z = (8, l) then q else ad z) = ad' at had ha8
  have had8 : ∀ z : pa_Nm, z.1 ≠ 8 → ad' z = ad z := fun z hz => had z (fun e => hz (by rw [e]))
  have hlv : ∀ {z : pa_Nm}, z ≠ (8, l) → pa_lv h'.2.2.1 z → pa_lv h.2.2.1 z := fun hz hv => by
    rw [hN] at hv
    exact (lr_lvN hl hz).mp hv
  have hbig : ∀ {z : pa_Nm}, pa_lv h.2.2.1 z → ad z < H.size := fun hv => (r1 _ hv).lt
  refine ⟨ad', ⟨fun z hz => ?_, fun z1 z2 hz1 hz2 e => ?_, fun z hz => ?_, ?_, r5, by omega⟩, ⟨fun z h8 hz => had8 z h8, fun z => (by cases z), fun z hz => ?_⟩⟩
  · by_cases c8 : z = (8, l)
    · rw [c8, ha8, pa_ce_8, hN, lr_N2 hl, lr_N5]
      exact e2 ad' had8
    · have hz0 := hlv c8 hz
      rw [had z c8]
      by_cases c0 : z = (0, l)
      · rw [c0, pa_ce_l, hN, lr_N2 hl, lr_N5, if_neg hcap, ha8]
        exact e1
      · have hne : ad z ≠ ad (0, l) := fun e => c0 (r2 _ _ hz0 (pl_0 hl) e)
        have hk := hkeep (ad z) (hbig hz0) hne (fun e => c8 (r2 _ _ hz0 (pl_8 hl e.2) e.1))
        have hold := (r1 z hz0).kept hk
        obtain ⟨k, o⟩ := z
        by_cases k0 : k = 0
        · subst k0
          have ho : o < 3 := by
            have := hz0
            unfold pa_lv at this
            dsimp only at this
            rwa [if_pos rfl] at this
          have hol : o ≠ l := fun e => c0 (by rw [e])
          rw [pa_ce_l] at hold ⊢
          rw [hK0 o hol, hN, lr_No (by omega) (by omega), lr_No (by omega) (by omega), had (8, o) (fun e => hol (Prod.mk.inj e).2)]
          exact hold
        · by_cases k8 : k = 8
          · subst k8
            have ho : o < 3 := by
              have := hz0
              unfold pa_lv at this
              dsimp only at this
              rw [if_neg (by decide), if_neg (by decide), if_neg (by decide), if_neg (by decide), if_pos rfl] at this
              exact this.1
            have hol : o ≠ l := fun e => c8 (by rw [e])
            rw [pa_ce_8] at hold ⊢
            rw [hN, lr_No (by omega) (by omega), lr_No (by omega) (by omega)]
            have e9 : (fun j => if j < h.2.2.1 (2 + o) then some (ad' (pa_le h' o j)) else none) = (fun j => if j < h.2.2.1 (2 + o) then some (ad (pa_le h o j)) else none) := funext fun j => by
              have h9 : (pa_le h o j).1 ≠ 8 := by
                unfold pa_le
                split
                · exact lr_kn (by decide)
                · split <;> exact lr_kn (by decide)
              rw [hle o ho hol j, had8 _ h9]
            rw [e9]
            exact hold
          · rw [lr_ce hK hS hO had8 k0 k8 (lr_row hz0)]
            exact hold
  · by_cases c1 : z1 = (8, l)
    · by_cases c2 : z2 = (8, l)
      · rw [c1, c2]
      · have hv2 := hlv c2 hz2
        rw [c1, ha8, had z2 c2] at e
        rcases hq with hq | ⟨h5, hq⟩
        · have := hbig hv2
          omega
        · rw [hq] at e
          exact absurd (r2 _ _ (pl_8 hl h5) hv2 e).symm c2
    · have hv1 := hlv c1 hz1
      by_cases c2 : z2 = (8, l)
      · rw [c2, ha8, had z1 c1] at e
        rcases hq with hq | ⟨h5, hq⟩
        · have := hbig hv1
          omega
        · rw [hq] at e
          exact absurd (r2 _ _ hv1 (pl_8 hl h5) e) c1
      · rw [had z1 c1, had z2 c2] at e
        exact r2 _ _ hv1 (hlv c2 hz2) e
  · by_cases c8 : z = (8, l)
    · rw [c8, ha8]
      rcases hq with hq | ⟨h5, hq⟩
      · omega
      · rw [hq]
        exact r3 _ (pl_8 hl h5)
    · rw [had z c8]
      exact r3 _ (hlv c8 hz)
  · have hk := hkeep G.2.2.2 (Nat.lt_of_lt_of_le r5 r6) (fun e => by have := r3 _ (pl_0 (N := h.2.2.1) hl); omega) (fun e => by have := r3 _ (pl_8 hl e.2); have := e.1; omega)
    rw [hk]
    exact r4
  · rw [hN]
    by_cases c8 : z = (8, l)
    · rw [c8]
      exact pl_8 hl (by rw [lr_N5]; exact hcap)
    · exact (lr_lvN hl c8).mpr hz
