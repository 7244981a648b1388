/-! THE CLASS: its tests of numbers, of turns and of speakers -/
set_option maxRecDepth 100000 in
theorem c_X3_isIn (G : pa_G) (l : Launch) (h : pa_H) (s k : Int32)  : pa_MP G l mX3_isIn 1 [pv_i s, pv_i k] h (pv_i (pz_b (ms_isIn s k))) := by
  refine pa_go l (by decide) (by simp [pa_c1l, pa_c1]) (fun _ => rfl) fun x C E el ea => ?_
  subst el
  show pa_w G x 2 h 0 0 0 [some (pv_i s), some (pv_i k)] []
  refine pr_iload_n (pc := 0) C dX3_isIn_0 rfl ?_
  refine pr_iload_n (pc := 1) C dX3_isIn_1 rfl ?_
  refine pr_ishr (pc := 2) C dX3_isIn_2 ?_
  refine pr_iconst (pc := 3) (v := 1) C dX3_isIn_3 (by decide) ?_
  refine pr_iand (pc := 4) C dX3_isIn_4 ?_
  refine pr_iconst (pc := 5) (v := 1) C dX3_isIn_5 (by decide) ?_
  refine pr_icmp_ne (pc := 6) C 13 dX3_isIn_6 (by decide) (fun c_6 => ?_) (fun c_6 => ?_)
  · refine pr_iconst (pc := 13) (v := 0) C dX3_isIn_13 (by decide) ?_
    exact pr_iret (pc := 14) C E (Or.inr ⟨rfl, (by decide)⟩) (by omega) (by omega) ⟨(by simp [-Int32.not_le, -Int32.not_lt, pz_b, pz_lt, ms_isIn, eq_false c_6]), rfl⟩ dX3_isIn_14
  · refine pr_iconst (pc := 9) (v := 1) C dX3_isIn_9 (by decide) ?_
    refine pr_goto (pc := 10) C 14 dX3_isIn_10 (by decide) ?_
    exact pr_iret (pc := 14) C E (Or.inr ⟨rfl, (by decide)⟩) (by omega) (by omega) ⟨(by simp [-Int32.not_le, -Int32.not_lt, pz_b, pz_lt, ms_isIn, eq_true c_6]), rfl⟩ dX3_isIn_14

set_option maxRecDepth 100000 in
theorem c_X3_isWithin (G : pa_G) (l : Launch) (h : pa_H) (v lo9 hi : Int32)  : pa_MP G l mX3_isWithin 1 [pv_i v, pv_i lo9, pv_i hi] h (pv_i (pz_b (ms_in v lo9 hi))) := by
  refine pa_go l (by decide) (by simp [pa_c1l, pa_c1]) (fun _ => rfl) fun x C E el ea => ?_
  subst el
  show pa_w G x 3 h 0 0 0 [some (pv_i v), some (pv_i lo9), some (pv_i hi)] []
  refine pr_iload_n (pc := 0) C dX3_isWithin_0 rfl ?_
  refine pr_iload_n (pc := 1) C dX3_isWithin_1 rfl ?_
  refine pr_icmp_ltL (pc := 2) C 14 dX3_isWithin_2 (by decide) (fun c_2 => ?_) (fun c_2 => ?_)
  · refine pr_iconst (pc := 14) (v := 0) C dX3_isWithin_14 (by decide) ?_
    exact pr_iret (pc := 15) C E (Or.inr ⟨rfl, (by decide)⟩) (by omega) (by omega) ⟨(by simp [-Int32.not_le, -Int32.not_lt, pz_b, pz_lt, ms_in, c_2]), rfl⟩ dX3_isWithin_15
  · refine pr_iload_n (pc := 5) C dX3_isWithin_5 rfl ?_
    refine pr_iload_n (pc := 6) C dX3_isWithin_6 rfl ?_
    refine pr_icmp_gtL (pc := 7) C 14 dX3_isWithin_7 (by decide) (fun c_7 => ?_) (fun c_7 => ?_)
    · refine pr_iconst (pc := 14) (v := 0) C dX3_isWithin_14 (by decide) ?_
      exact pr_iret (pc := 15) C E (Or.inr ⟨rfl, (by decide)⟩) (by omega) (by omega) ⟨(by simp [-Int32.not_le, -Int32.not_lt, pz_b, pz_lt, ms_in, c_2, c_7]), rfl⟩ dX3_isWithin_15
    · refine pr_iconst (pc := 10) (v := 1) C dX3_isWithin_10 (by decide) ?_
      refine pr_goto (pc := 11) C 15 dX3_isWithin_11 (by decide) ?_
      exact pr_iret (pc := 15) C E (Or.inr ⟨rfl, (by decide)⟩) (by omega) (by omega) ⟨(by simp [-Int32.not_le, -Int32.not_lt, pz_b, pz_lt, ms_in, c_2, c_7]), rfl⟩ dX3_isWithin_15

set_option maxRecDepth 100000 in
theorem c_X3_isAtom (G : pa_G) (l : Launch) (h : pa_H) (v : Int32)  : pa_MP G l mX3_isAtom 2 [pv_i v] h (pv_i (pz_b (ms_in v 0 9))) := by
  refine pa_go l (by decide) (by simp [pa_c1l, pa_c1]) (fun _ => rfl) fun x C E el ea => ?_
  subst el
  show pa_w G x 1 h 0 0 0 [some (pv_i v)] []
  refine pr_iload_n (pc := 0) C dX3_isAtom_0 rfl ?_
  refine pr_iconst (pc := 1) (v := 0) C dX3_isAtom_1 (by decide) ?_
  refine pr_bipush (pc := 2) (v := 9) C dX3_isAtom_2 (by decide) ?_
  refine pr_sP (pc := 4) C (c_X3_isWithin G _ h v (0 : Int32) (9 : Int32)) ws_X3_251 rfl rfl (by decide) (Nat.le_of_ble_eq_true rfl) (by omega) (by omega) dX3_isAtom_4 ?_
  exact pr_iret (pc := 7) C E (Or.inr ⟨rfl, (pz_b01 _)⟩) (by omega) (by omega) ⟨rfl, rfl⟩ dX3_isAtom_7

set_option maxRecDepth 100000 in
theorem c_X3_isAtomOrNone (G : pa_G) (l : Launch) (h : pa_H) (v : Int32)  : pa_MP G l mX3_isAtomOrNone 3 [pv_i v] h (pv_i (pz_b (decide (v = -1) || ms_in v 0 9))) := by
  refine pa_go l (by decide) (by simp [pa_c1l, pa_c1]) (fun _ => rfl) fun x C E el ea => ?_
  subst el
  show pa_w G x 1 h 0 0 0 [some (pv_i v)] []
  refine pr_iload_n (pc := 0) C dX3_isAtomOrNone_0 rfl ?_
  refine pr_iconst (pc := 1) (v := -1) C dX3_isAtomOrNone_1 (by decide) ?_
  refine pr_icmp_eq (pc := 2) C 12 dX3_isAtomOrNone_2 (by decide) (fun c_2 => ?_) (fun c_2 => ?_)
  · refine pr_iconst (pc := 12) (v := 1) C dX3_isAtomOrNone_12 (by decide) ?_
    refine pr_goto (pc := 13) C 17 dX3_isAtomOrNone_13 (by decide) ?_
    exact pr_iret (pc := 17) C E (Or.inr ⟨rfl, (by decide)⟩) (by omega) (by omega) ⟨(by simp [-Int32.not_le, -Int32.not_lt, pz_b, pz_lt, eq_true c_2]), rfl⟩ dX3_isAtomOrNone_17
  · refine pr_iload_n (pc := 5) C dX3_isAtomOrNone_5 rfl ?_
    refine pr_sP (pc := 6) C (c_X3_isAtom G _ h v) ws_X3_243 rfl rfl (by decide) (Nat.le_of_ble_eq_true rfl) (by omega) (by omega) dX3_isAtomOrNone_6 ?_
    refine pr_ifb_eq (pc := 9) C 16 dX3_isAtomOrNone_9 (by decide) (fun c_9 => ?_) (fun c_9 => ?_)
    · refine pr_iconst (pc := 16) (v := 0) C dX3_isAtomOrNone_16 (by decide) ?_
      exact pr_iret (pc := 17) C E (Or.inr ⟨rfl, (by decide)⟩) (by omega) (by omega) ⟨(by simp [-Int32.not_le, -Int32.not_lt, pz_b, pz_lt, eq_false c_2, c_9]), rfl⟩ dX3_isAtomOrNone_17
    · refine pr_iconst (pc := 12) (v := 1) C dX3_isAtomOrNone_12 (by decide) ?_
      refine pr_goto (pc := 13) C 17 dX3_isAtomOrNone_13 (by decide) ?_
      exact pr_iret (pc := 17) C E (Or.inr ⟨rfl, (by decide)⟩) (by omega) (by omega) ⟨(by simp [-Int32.not_le, -Int32.not_lt, pz_b, pz_lt, eq_false c_2, c_9]), rfl⟩ dX3_isAtomOrNone_17

set_option maxRecDepth 100000 in
theorem c_X3_contrary (G : pa_G) (l : Launch) (h : pa_H) (v : Int32)  : pa_MP G l mX3_contrary 1 [pv_i v] h (pv_i (3 - v)) := by
  refine pa_go l (by decide) (by simp [pa_c1l, pa_c1]) (fun _ => rfl) fun x C E el ea => ?_
  subst el
  show pa_w G x 1 h 0 0 0 [some (pv_i v)] []
  refine pr_iconst (pc := 0) (v := 3) C dX3_contrary_0 (by decide) ?_
  refine pr_iload_n (pc := 1) C dX3_contrary_1 rfl ?_
  refine pr_isub (pc := 2) C dX3_contrary_2 ?_
  exact pr_iret (pc := 3) C E (Or.inl rfl) (by omega) (by omega) ⟨rfl, rfl⟩ dX3_contrary_3

set_option maxRecDepth 100000 in
set_option maxHeartbeats 4000000 in
theorem c_X2_isTo (G : pa_G) (l : Launch) (K : Nat → Nat → Nat → Int32) (Sm S : Nat → Nat → Int32) (N : Nat → Nat) (O : Nat → Int64) (T D e : Nat) (z : sj_Z) (hs : sj_M K N T D z e S) (t k : Nat) (ht : t < D) (hk : k < 4) : pa_MP G l mX2_isTo 2 [pv_o 3 t, pv_o 1 k] (K, Sm, N, O) (pv_i (pz_b (ms_isIn (S 222 t) (nI k)))) := by
  refine pa_go l (by decide) (by simp [pa_c1l, pa_c1]) (fun _ => rfl) fun x C E el ea => ?_
  subst el
  show pa_w G x 2 (K, Sm, N, O) 0 0 0 [some (pv_o 3 t), some (pv_o 1 k)] []
  refine pr_aload_n (pc := 0) C dX2_isTo_0 rfl ?_
  refine pr_geti (pc := 1) C 122 wf_X2_38 rfl (by decide) (pl_3 (sj_n0 hs (by first | assumption | omega))) dX2_isTo_1 ?_
  refine pr_eqi (v := S 222 t) (sj_r122 hs (by first | assumption | omega)) ?_
  refine pr_aload_n (pc := 4) C dX2_isTo_4 rfl ?_
  refine pr_geti (pc := 5) C 40 wf_X2_52 rfl (by decide) (pl_1 (by first | assumption | omega)) dX2_isTo_5 ?_
  refine pr_eqi (v := nI k) (sj_r40 hs (by first | assumption | omega)) ?_
  refine pr_nP (pc := 8) C (c_X3_isIn G _ (K, Sm, N, O) (S 222 t) (nI k)) wn_X2_55 rfl rfl (by decide) (Nat.le_of_ble_eq_true rfl) (by omega) (by omega) dX2_isTo_8 ?_
  exact pr_iret (pc := 11) C E (Or.inr ⟨rfl, (pz_b01 _)⟩) (by omega) (by omega) ⟨rfl, rfl⟩ dX2_isTo_11

/-- the first one to whom it is -/
def ms_lis (set : Int32) : Int32 := if ms_isIn set (nI 0) then nI 0 else if ms_isIn set (nI 1) then nI 1 else if ms_isIn set (nI 2) then nI 2 else if ms_isIn set (nI 3) then nI 3 else -1
theorem ms_lis_one {m : Nat} (h : m = 1 ∨ m = 2 ∨ m = 4 ∨ m = 8) : ms_lis (nI m) = ms_one (nI m) := by rcases h with rfl | rfl | rfl | rfl <;> decide
theorem ms_lis_at {set : Int32} {k : Nat} (hk : k < 4) (hn : ∀ j, j < k → ms_isIn set (nI j) = false) (hy : ms_isIn set (nI k) = true) : nI k = ms_lis set := by
  unfold ms_lis
  rcases (show k = 0 ∨ k = 1 ∨ k = 2 ∨ k = 3 by omega) with rfl | rfl | rfl | rfl
  · rw [if_pos hy]
  · rw [hn 0 (by omega), if_neg (by decide), if_pos hy]
  · rw [hn 0 (by omega), if_neg (by decide), hn 1 (by omega), if_neg (by decide), if_pos hy]
  · rw [hn 0 (by omega), if_neg (by decide), hn 1 (by omega), if_neg (by decide), hn 2 (by omega), if_neg (by decide), if_pos hy]
theorem ms_lis_no {set : Int32} (hn : ∀ j, j < 4 → ms_isIn set (nI j) = false) : (-1 : Int32) = ms_lis set := by
  unfold ms_lis
  rw [hn 0 (by omega), if_neg (by decide), hn 1 (by omega), if_neg (by decide), hn 2 (by omega), if_neg (by decide), hn 3 (by omega), if_neg (by decide)]
theorem pz_nx {p : Nat → Bool} {v : Bool} {k : Nat} (h : ∀ j, j < k → p j = v) (hk : p k = v) : ∀ j, j < k + 1 → p j = v := fun j hj => by
  rcases Nat.lt_or_ge j k with q | q
  · exact h j q
  · rw [show j = k by omega]; exact hk
set_option maxRecDepth 100000 in
set_option maxHeartbeats 4000000 in
theorem c_X2_listener (G : pa_G) (l : Launch) (K : Nat → Nat → Nat → Int32) (Sm S : Nat → Nat → Int32) (N : Nat → Nat) (O : Nat → Int64) (T D e : Nat) (z : sj_Z) (hs : sj_M K N T D z e S) (t : Nat) (ht : t < D) : pa_MP G l mX2_listener 2 [pv_o 3 t] (K, Sm, N, O) (pv_i (ms_lis (S 222 t))) := by
  refine pa_go l (by decide) (by simp [pa_c1l, pa_c1]) (fun _ => rfl) fun x C E el ea => ?_
  subst el
  show pa_w G x 2 (K, Sm, N, O) 0 0 0 [some (pv_o 3 t), none] []
  refine pr_iconst (pc := 0) (v := 0) C dX2_listener_0 (by decide) ?_
  refine pr_istore_n (pc := 1) C dX2_listener_1 (by decide) ?_
  have lp2 : ∀ (n3 k1 : Nat), k1 ≤ 4 → 4 < k1 + n3 → (∀ j, j < k1 → ms_isIn (S 222 t) (nI j) = false) → pa_w G x 2 (K, Sm, N, O) 0 0 2 [some (pv_o 3 t), some (pv_i (nI k1))] [] := by
    intro n3
    induction n3 with
    | zero => intro k1 h1 h2; exact absurd h2 (by omega)
    | succ n3 ih4 =>
      intro k1 hk1_k1 hk2_k1 hx_k1
      refine pr_iload_n (pc := 2) C dX2_listener_2 rfl ?_
      refine pr_iconst (pc := 3) (v := 4) C dX2_listener_3 (by decide) ?_
      refine pr_icmp_geN (pc := 4) C 26 k1 4 dX2_listener_4 (by decide) rfl rfl (by omega) (by omega) (fun c_4 => ?_) (fun c_4 => ?_)
      · obtain rfl : 4 = k1 := by omega
        refine pr_iconst (pc := 26) (v := -1) C dX2_listener_26 (by decide) ?_
        exact pr_iret (pc := 27) C E (Or.inl rfl) (by omega) (by omega) ⟨by rw [← ms_lis_no hx_k1], rfl⟩ dX2_listener_27
      · refine pr_aload_n (pc := 7) C dX2_listener_7 rfl ?_
        refine pr_geti (pc := 8) C 122 wf_X2_38 rfl (by decide) (pl_3 (sj_n0 hs (by first | assumption | omega))) dX2_listener_8 ?_
        refine pr_eqi (v := S 222 t) (sj_r122 hs (by first | assumption | omega)) ?_
        refine pr_iload_n (pc := 11) C dX2_listener_11 rfl ?_
        refine pr_nP (pc := 12) C (c_X3_isIn G _ (K, Sm, N, O) (S 222 t) (nI k1)) wn_X2_55 rfl rfl (by decide) (Nat.le_of_ble_eq_true rfl) (by omega) (by omega) dX2_listener_12 ?_
        refine pr_ifb_eq (pc := 15) C 20 dX2_listener_15 (by decide) (fun c_15 => ?_) (fun c_15 => ?_)
        · refine pr_iincN (pc := 20) C dX2_listener_20 rfl k1 1 rfl rfl (by decide) ?_
          refine pr_goto (pc := 23) C 2 dX2_listener_23 (by decide) ?_
          exact ih4 (k1 + 1) (by omega) (by omega) (pz_nx (p := (fun j => ms_isIn (S 222 t) (nI j))) hx_k1 c_15)
        · refine pr_iload_n (pc := 18) C dX2_listener_18 rfl ?_
          exact pr_iret (pc := 19) C E (Or.inl rfl) (by omega) (by omega) ⟨by rw [ms_lis_at (by omega) hx_k1 c_15], rfl⟩ dX2_listener_19
  exact lp2 (4 + 1) 0 (by omega) (by omega) (fun j hj => absurd hj (by omega))

def sc_tk (S : Nat → Nat → Int32) (t : Nat) : Bool := (decide (S 219 t = 0) || decide (S 219 t = 1)) && ms_in (S 223 t) 0 9
set_option maxRecDepth 100000 in
set_option maxHeartbeats 4000000 in
theorem c_X2_takesForGiven (G : pa_G) (l : Launch) (K : Nat → Nat → Nat → Int32) (Sm S : Nat → Nat → Int32) (N : Nat → Nat) (O : Nat → Int64) (T D e : Nat) (z : sj_Z) (hs : sj_M K N T D z e S) (t : Nat) (ht : t < D) : pa_MP G l mX2_takesForGiven 3 [pv_o 3 t] (K, Sm, N, O) (pv_i (pz_b (sc_tk S t))) := by
  refine pa_go l (by decide) (by simp [pa_c1l, pa_c1]) (fun _ => rfl) fun x C E el ea => ?_
  subst el
  show pa_w G x 1 (K, Sm, N, O) 0 0 0 [some (pv_o 3 t)] []
  refine pr_aload_n (pc := 0) C dX2_takesForGiven_0 rfl ?_
  refine pr_geti (pc := 1) C 121 wf_X2_29 rfl (by decide) (pl_3 (sj_n0 hs (by first | assumption | omega))) dX2_takesForGiven_1 ?_
  refine pr_eqi (v := S 219 t) (sj_r121 hs (by first | assumption | omega)) ?_
  refine pr_if_eq (pc := 4) C 15 dX2_takesForGiven_4 (by decide) (fun c_4 => ?_) (fun c_4 => ?_)
  · refine pr_aload_n (pc := 15) C dX2_takesForGiven_15 rfl ?_
    refine pr_geti (pc := 16) C 123 wf_X2_41 rfl (by decide) (pl_3 (sj_n0 hs (by first | assumption | omega))) dX2_takesForGiven_16 ?_
    refine pr_eqi (v := S 223 t) (sj_r123 hs (by first | assumption | omega)) ?_
    refine pr_nP (pc := 19) C (c_X3_isAtom G _ (K, Sm, N, O) (S 223 t)) wn_X2_65 rfl rfl (by decide) (Nat.le_of_ble_eq_true rfl) (by omega) (by omega) dX2_takesForGiven_19 ?_
    refine pr_ifb_eq (pc := 22) C 29 dX2_takesForGiven_22 (by decide) (fun c_22 => ?_) (fun c_22 => ?_)
    · refine pr_iconst (pc := 29) (v := 0) C dX2_takesForGiven_29 (by decide) ?_
      exact pr_iret (pc := 30) C E (Or.inr ⟨rfl, (by decide)⟩) (by omega) (by omega) ⟨(by simp [-Int32.not_le, -Int32.not_lt, pz_b, pz_lt, sc_tk, eq_true c_4, c_22]), rfl⟩ dX2_takesForGiven_30
    · refine pr_iconst (pc := 25) (v := 1) C dX2_takesForGiven_25 (by decide) ?_
      refine pr_goto (pc := 26) C 30 dX2_takesForGiven_26 (by decide) ?_
      exact pr_iret (pc := 30) C E (Or.inr ⟨rfl, (by decide)⟩) (by omega) (by omega) ⟨(by simp [-Int32.not_le, -Int32.not_lt, pz_b, pz_lt, sc_tk, eq_true c_4, c_22]), rfl⟩ dX2_takesForGiven_30
  · refine pr_aload_n (pc := 7) C dX2_takesForGiven_7 rfl ?_
    refine pr_geti (pc := 8) C 121 wf_X2_29 rfl (by decide) (pl_3 (sj_n0 hs (by first | assumption | omega))) dX2_takesForGiven_8 ?_
    refine pr_eqi (v := S 219 t) (sj_r121 hs (by first | assumption | omega)) ?_
    refine pr_iconst (pc := 11) (v := 1) C dX2_takesForGiven_11 (by decide) ?_
    refine pr_icmp_ne (pc := 12) C 29 dX2_takesForGiven_12 (by decide) (fun c_12 => ?_) (fun c_12 => ?_)
    · refine pr_iconst (pc := 29) (v := 0) C dX2_takesForGiven_29 (by decide) ?_
      exact pr_iret (pc := 30) C E (Or.inr ⟨rfl, (by decide)⟩) (by omega) (by omega) ⟨(by simp [-Int32.not_le, -Int32.not_lt, pz_b, pz_lt, sc_tk, eq_false c_4, eq_false c_12]), rfl⟩ dX2_takesForGiven_30
    · refine pr_aload_n (pc := 15) C dX2_takesForGiven_15 rfl ?_
      refine pr_geti (pc := 16) C 123 wf_X2_41 rfl (by decide) (pl_3 (sj_n0 hs (by first | assumption | omega))) dX2_takesForGiven_16 ?_
      refine pr_eqi (v := S 223 t) (sj_r123 hs (by first | assumption | omega)) ?_
      refine pr_nP (pc := 19) C (c_X3_isAtom G _ (K, Sm, N, O) (S 223 t)) wn_X2_65 rfl rfl (by decide) (Nat.le_of_ble_eq_true rfl) (by omega) (by omega) dX2_takesForGiven_19 ?_
      refine pr_ifb_eq (pc := 22) C 29 dX2_takesForGiven_22 (by decide) (fun c_22 => ?_) (fun c_22 => ?_)
      · refine pr_iconst (pc := 29) (v := 0) C dX2_takesForGiven_29 (by decide) ?_
        exact pr_iret (pc := 30) C E (Or.inr ⟨rfl, (by decide)⟩) (by omega) (by omega) ⟨(by simp [-Int32.not_le, -Int32.not_lt, pz_b, pz_lt, sc_tk, eq_false c_4, eq_true c_12, c_22]), rfl⟩ dX2_takesForGiven_30
      · refine pr_iconst (pc := 25) (v := 1) C dX2_takesForGiven_25 (by decide) ?_
        refine pr_goto (pc := 26) C 30 dX2_takesForGiven_26 (by decide) ?_
        exact pr_iret (pc := 30) C E (Or.inr ⟨rfl, (by decide)⟩) (by omega) (by omega) ⟨(by simp [-Int32.not_le, -Int32.not_lt, pz_b, pz_lt, sc_tk, eq_false c_4, eq_true c_12, c_22]), rfl⟩ dX2_takesForGiven_30

theorem sc_v0 {S : Nat → Nat → Int32} {t : Nat} (hv : S 219 t = 2 → S 221 t = 0 ∨ S 221 t = 1 ∨ S 221 t = 2) (h : S 219 t = 2) : (S 221 t = 0) = (S 221 t ≤ 0) := by
  apply propext
  rcases hv h with e | e | e <;> rw [e] <;> decide
set_option maxRecDepth 100000 in
set_option maxHeartbeats 4000000 in
theorem c_X2_isClaim (G : pa_G) (l : Launch) (K : Nat → Nat → Nat → Int32) (Sm S : Nat → Nat → Int32) (N : Nat → Nat) (O : Nat → Int64) (T D e : Nat) (z : sj_Z) (hs : sj_M K N T D z e S) (t : Nat) (ht : t < D) (hv : S 219 t = 2 → S 221 t = 0 ∨ S 221 t = 1 ∨ S 221 t = 2) : pa_MP G l mX2_isClaim 1 [pv_o 3 t] (K, Sm, N, O) (pv_i (pz_b (ms_isClaim S t))) := by
  refine pa_go l (by decide) (by simp [pa_c1l, pa_c1]) (fun _ => rfl) fun x C E el ea => ?_
  subst el
  show pa_w G x 1 (K, Sm, N, O) 0 0 0 [some (pv_o 3 t)] []
  refine pr_aload_n (pc := 0) C dX2_isClaim_0 rfl ?_
  refine pr_geti (pc := 1) C 128 wf_X2_9 rfl (by decide) (pl_3 (sj_n0 hs (by first | assumption | omega))) dX2_isClaim_1 ?_
  refine pr_iconst (pc := 4) (v := 1) C dX2_isClaim_4 (by decide) ?_
  refine pr_icmp_ne (pc := 5) C 34 dX2_isClaim_5 (by decide) (fun c_5 => ?_) (fun c_5 => ?_)
  · refine pr_iconst (pc := 34) (v := 0) C dX2_isClaim_34 (by decide) ?_
    exact pr_iret (pc := 35) C E (Or.inr ⟨rfl, (by decide)⟩) (by omega) (by omega) ⟨(by simp [-Int32.not_le, -Int32.not_lt, pz_b, pz_lt, ms_isClaim, ← sj_st1 hs ht, eq_false c_5]), rfl⟩ dX2_isClaim_35
  · refine pr_aload_n (pc := 8) C dX2_isClaim_8 rfl ?_
    refine pr_geti (pc := 9) C 121 wf_X2_29 rfl (by decide) (pl_3 (sj_n0 hs (by first | assumption | omega))) dX2_isClaim_9 ?_
    refine pr_eqi (v := S 219 t) (sj_r121 hs (by first | assumption | omega)) ?_
    refine pr_if_eq (pc := 12) C 30 dX2_isClaim_12 (by decide) (fun c_12 => ?_) (fun c_12 => ?_)
    · refine pr_iconst (pc := 30) (v := 1) C dX2_isClaim_30 (by decide) ?_
      refine pr_goto (pc := 31) C 35 dX2_isClaim_31 (by decide) ?_
      exact pr_iret (pc := 35) C E (Or.inr ⟨rfl, (by decide)⟩) (by omega) (by omega) ⟨(by simp [-Int32.not_le, -Int32.not_lt, pz_b, pz_lt, ms_isClaim, ← sj_st1 hs ht, eq_true c_5, eq_true c_12]), rfl⟩ dX2_isClaim_35
    · refine pr_aload_n (pc := 15) C dX2_isClaim_15 rfl ?_
      refine pr_geti (pc := 16) C 121 wf_X2_29 rfl (by decide) (pl_3 (sj_n0 hs (by first | assumption | omega))) dX2_isClaim_16 ?_
      refine pr_eqi (v := S 219 t) (sj_r121 hs (by first | assumption | omega)) ?_
      refine pr_iconst (pc := 19) (v := 2) C dX2_isClaim_19 (by decide) ?_
      refine pr_icmp_ne (pc := 20) C 34 dX2_isClaim_20 (by decide) (fun c_20 => ?_) (fun c_20 => ?_)
      · refine pr_iconst (pc := 34) (v := 0) C dX2_isClaim_34 (by decide) ?_
        exact pr_iret (pc := 35) C E (Or.inr ⟨rfl, (by decide)⟩) (by omega) (by omega) ⟨(by simp [-Int32.not_le, -Int32.not_lt, pz_b, pz_lt, ms_isClaim, ← sj_st1 hs ht, eq_true c_5, eq_false c_12, eq_false c_20]), rfl⟩ dX2_isClaim_35
      · refine pr_aload_n (pc := 23) C dX2_isClaim_23 rfl ?_
        refine pr_geti (pc := 24) C 127 wf_X2_35 rfl (by decide) (pl_3 (sj_n0 hs (by first | assumption | omega))) dX2_isClaim_24 ?_
        refine pr_eqi (v := S 221 t) (sj_r127 hs (by first | assumption | omega)) ?_
        refine pr_if_eq (pc := 27) C 34 dX2_isClaim_27 (by decide) (fun c_27 => ?_) (fun c_27 => ?_)
        · refine pr_iconst (pc := 34) (v := 0) C dX2_isClaim_34 (by decide) ?_
          exact pr_iret (pc := 35) C E (Or.inr ⟨rfl, (by decide)⟩) (by omega) (by omega) ⟨(by have q27 := (sc_v0 hv c_20).mp c_27; simp [-Int32.not_le, -Int32.not_lt, pz_b, pz_lt, ms_isClaim, ← sj_st1 hs ht, q27, eq_true c_5, eq_false c_12, eq_true c_20, eq_true c_27]), rfl⟩ dX2_isClaim_35
        · refine pr_iconst (pc := 30) (v := 1) C dX2_isClaim_30 (by decide) ?_
          refine pr_goto (pc := 31) C 35 dX2_isClaim_31 (by decide) ?_
          exact pr_iret (pc := 35) C E (Or.inr ⟨rfl, (by decide)⟩) (by omega) (by omega) ⟨(by have q27 := mt (sc_v0 hv c_20).mpr c_27; simp [-Int32.not_le, -Int32.not_lt, pz_b, pz_lt, ms_isClaim, ← sj_st1 hs ht, q27, eq_true c_5, eq_false c_12, eq_true c_20, eq_false c_27]), rfl⟩ dX2_isClaim_35

def sc_some (S : Nat → Nat → Int32) (t : Nat) (how : Int32) : Bool := pz_any (fun k => decide (S 228 (4 * t + k) = how)) 4
theorem pz_any_at {p : Nat → Bool} {k m : Nat} (hk : k < m) (h : p k = true) : pz_any p m = true := pz_any_iff.mpr ⟨k, hk, h⟩
theorem pz_any_no {p : Nat → Bool} {m : Nat} (h : ∀ j, j < m → p j = false) : pz_any p m = false := by
  cases e : pz_any p m
  · rfl
  · obtain ⟨k, h1, h2⟩ := pz_any_iff.mp e
    rw [h k h1] at h2
    cases h2
theorem pz_all_at {p : Nat → Bool} {k m : Nat} (hk : k < m) (h : p k = false) : pz_all p m = false := by
  cases e : pz_all p m
  · rfl
  · rw [pz_all_iff.mp e k hk] at h
    cases h
set_option maxRecDepth 100000 in
set_option maxHeartbeats 4000000 in
theorem c_X2_hasReachedSomebody (G : pa_G) (l : Launch) (K : Nat → Nat → Nat → Int32) (Sm S : Nat → Nat → Int32) (N : Nat → Nat) (O : Nat → Int64) (T D e : Nat) (z : sj_Z) (hs : sj_M K N T D z e S) (t : Nat) (how : Int32) (ht : t < D) : pa_MP G l mX2_hasReachedSomebody 1 [pv_o 3 t, pv_i how] (K, Sm, N, O) (pv_i (pz_b (sc_some S t how))) := by
  refine pa_go l (by decide) (by simp [pa_c1l, pa_c1]) (fun _ => rfl) fun x C E el ea => ?_
  subst el
  show pa_w G x 3 (K, Sm, N, O) 0 0 0 [some (pv_o 3 t), some (pv_i how), none] []
  refine pr_iconst (pc := 0) (v := 0) C dX2_hasReachedSomebody_0 (by decide) ?_
  refine pr_istore_n (pc := 1) C dX2_hasReachedSomebody_1 (by decide) ?_
  have lp2 : ∀ (n3 k1 : Nat), k1 ≤ 4 → 4 < k1 + n3 → (∀ j, j < k1 → (fun k => decide (S 228 (4 * t + k) = how)) j = false) → pa_w G x 3 (K, Sm, N, O) 0 0 2 [some (pv_o 3 t), some (pv_i how), some (pv_i (nI k1))] [] := by
    intro n3
    induction n3 with
    | zero => intro k1 h1 h2; exact absurd h2 (by omega)
    | succ n3 ih4 =>
      intro k1 hk1_k1 hk2_k1 hx_k1
      refine pr_iload_n (pc := 2) C dX2_hasReachedSomebody_2 rfl ?_
      refine pr_iconst (pc := 3) (v := 4) C dX2_hasReachedSomebody_3 (by decide) ?_
      refine pr_icmp_geN (pc := 4) C 25 k1 4 dX2_hasReachedSomebody_4 (by decide) rfl rfl (by omega) (by omega) (fun c_4 => ?_) (fun c_4 => ?_)
      · obtain rfl : 4 = k1 := by omega
        refine pr_iconst (pc := 25) (v := 0) C dX2_hasReachedSomebody_25 (by decide) ?_
        exact pr_iret (pc := 26) C E (Or.inr ⟨rfl, (by decide)⟩) (by omega) (by omega) ⟨by rw [show sc_some S t how = false from pz_any_no hx_k1]; rfl, rfl⟩ dX2_hasReachedSomebody_26
      · refine pr_aload_n (pc := 7) C dX2_hasReachedSomebody_7 rfl ?_
        refine pr_geta (pc := 8) C 131 231 wf_X2_18 rfl rfl (by decide) (pl_3 (sj_n0 hs (by first | assumption | omega))) dX2_hasReachedSomebody_8 ?_
        refine pr_iload_n (pc := 11) C dX2_hasReachedSomebody_11 rfl ?_
        refine pr_aldi (pc := 12) (n := 4) C 131 k1 rfl rfl rfl (pl_r3 (by decide) (sj_n0 hs (by first | assumption | omega))) rfl (by omega) (by decide) dX2_hasReachedSomebody_12 ?_
        refine pr_eqi (v := S 228 (4 * t + k1)) (sj_r131 hs (by first | assumption | omega) (by omega)) ?_
        refine pr_iload_n (pc := 13) C dX2_hasReachedSomebody_13 rfl ?_
        refine pr_icmp_ne (pc := 14) C 19 dX2_hasReachedSomebody_14 (by decide) (fun c_14 => ?_) (fun c_14 => ?_)
        · refine pr_iincN (pc := 19) C dX2_hasReachedSomebody_19 rfl k1 1 rfl rfl (by decide) ?_
          refine pr_goto (pc := 22) C 2 dX2_hasReachedSomebody_22 (by decide) ?_
          exact ih4 (k1 + 1) (by omega) (by omega) (pz_nx (p := (fun k => decide (S 228 (4 * t + k) = how))) hx_k1 (decide_eq_false c_14))
        · refine pr_iconst (pc := 17) (v := 1) C dX2_hasReachedSomebody_17 (by decide) ?_
          exact pr_iret (pc := 18) C E (Or.inr ⟨rfl, (by decide)⟩) (by omega) (by omega) ⟨by rw [show sc_some S t how = true from pz_any_at (k := k1) (by omega) (decide_eq_true c_14)]; rfl, rfl⟩ dX2_hasReachedSomebody_18
  exact lp2 (4 + 1) 0 (by omega) (by omega) (fun j hj => absurd hj (by omega))

set_option maxRecDepth 100000 in
set_option maxHeartbeats 4000000 in
theorem c_X0_isDeafAt (G : pa_G) (l : Launch) (K : Nat → Nat → Nat → Int32) (Sm S : Nat → Nat → Int32) (N : Nat → Nat) (O : Nat → Int64) (T D e : Nat) (z : sj_Z) (hs : sj_M K N T D z e S) (k : Nat) (c : Int32) (hk : k < 4) : pa_MP G l mX0_isDeafAt 1 [pv_o 1 k, pv_i c] (K, Sm, N, O) (pv_i (pz_b (decide (c < S 206 k)))) := by
  refine pa_go l (by decide) (by simp [pa_c1l, pa_c1]) (fun _ => rfl) fun x C E el ea => ?_
  subst el
  show pa_w G x 2 (K, Sm, N, O) 0 0 0 [some (pv_o 1 k), some (pv_i c)] []
  refine pr_iload_n (pc := 0) C dX0_isDeafAt_0 rfl ?_
  refine pr_aload_n (pc := 1) C dX0_isDeafAt_1 rfl ?_
  refine pr_geti (pc := 2) C 45 wf_X0_40 rfl (by decide) (pl_1 (by first | assumption | omega)) dX0_isDeafAt_2 ?_
  refine pr_eqi (v := S 206 k) (sj_r45 hs (by first | assumption | omega)) ?_
  refine pr_icmp_ge (pc := 5) C 12 dX0_isDeafAt_5 (by decide) (fun c_5 => ?_) (fun c_5 => ?_)
  · refine pr_iconst (pc := 12) (v := 0) C dX0_isDeafAt_12 (by decide) ?_
    exact pr_iret (pc := 13) C E (Or.inr ⟨rfl, (by decide)⟩) (by omega) (by omega) ⟨(by simp [-Int32.not_le, -Int32.not_lt, pz_b, pz_lt, c_5]), rfl⟩ dX0_isDeafAt_13
  · refine pr_iconst (pc := 8) (v := 1) C dX0_isDeafAt_8 (by decide) ?_
    refine pr_goto (pc := 9) C 13 dX0_isDeafAt_9 (by decide) ?_
    exact pr_iret (pc := 13) C E (Or.inr ⟨rfl, (by decide)⟩) (by omega) (by omega) ⟨(by simp [-Int32.not_le, -Int32.not_lt, pz_b, pz_lt, c_5]), rfl⟩ dX0_isDeafAt_13

def sc_or (b : Nat → Nat) : Nat → Nat | 0 => 0 | k + 1 => sc_or b k ||| b k
set_option maxRecDepth 100000 in
set_option maxHeartbeats 4000000 in
theorem c_X0_disputedAtoms (G : pa_G) (l : Launch) (K : Nat → Nat → Nat → Int32) (Sm S : Nat → Nat → Int32) (N : Nat → Nat) (O : Nat → Int64) (T D e : Nat) (z : sj_Z) (hs : sj_M K N T D z e S) (k : Nat) (b : Nat → Nat) (hk : k < 4) (hb : ∀ j, j < 4 → K 53 k j = nI (b j)) : pa_MP G l mX0_disputedAtoms 1 [pv_o 1 k] (K, Sm, N, O) (pv_i (nI (sc_or b 4))) := by
  refine pa_go l (by decide) (by simp [pa_c1l, pa_c1]) (fun _ => rfl) fun x C E el ea => ?_
  subst el
  show pa_w G x 3 (K, Sm, N, O) 0 0 0 [some (pv_o 1 k), none, none] []
  refine pr_iconst (pc := 0) (v := 0) C dX0_disputedAtoms_0 (by decide) ?_
  refine pr_istore_n (pc := 1) C dX0_disputedAtoms_1 (by decide) ?_
  refine pr_iconst (pc := 2) (v := 0) C dX0_disputedAtoms_2 (by decide) ?_
  refine pr_istore_n (pc := 3) C dX0_disputedAtoms_3 (by decide) ?_
  have lp2 : ∀ (n3 k1 : Nat), k1 ≤ 4 → 4 < k1 + n3 → pa_w G x 3 (K, Sm, N, O) 0 0 4 [some (pv_o 1 k), some (pv_i (nI (sc_or b k1))), some (pv_i (nI k1))] [] := by
    intro n3
    induction n3 with
    | zero => intro k1 h1 h2; exact absurd h2 (by omega)
    | succ n3 ih4 =>
      intro k1 hk1_k1 hk2_k1
      refine pr_iload_n (pc := 4) C dX0_disputedAtoms_4 rfl ?_
      refine pr_iconst (pc := 5) (v := 4) C dX0_disputedAtoms_5 (by decide) ?_
      refine pr_icmp_geN (pc := 6) C 24 k1 4 dX0_disputedAtoms_6 (by decide) rfl rfl (by omega) (by omega) (fun c_6 => ?_) (fun c_6 => ?_)
      · obtain rfl : 4 = k1 := by omega
        refine pr_iload_n (pc := 24) C dX0_disputedAtoms_24 rfl ?_
        exact pr_iret (pc := 25) C E (Or.inl rfl) (by omega) (by omega) ⟨rfl, rfl⟩ dX0_disputedAtoms_25
      · refine pr_iload_n (pc := 9) C dX0_disputedAtoms_9 rfl ?_
        refine pr_aload_n (pc := 10) C dX0_disputedAtoms_10 rfl ?_
        refine pr_geta (pc := 11) C 53 153 wf_X0_34 rfl rfl (by decide) (pl_1 (by first | assumption | omega)) dX0_disputedAtoms_11 ?_
        refine pr_iload_n (pc := 14) C dX0_disputedAtoms_14 rfl ?_
        refine pr_aldi (pc := 15) (n := 4) C 53 k1 rfl rfl rfl (pl_r1 (by decide) (by first | assumption | omega)) rfl (by omega) (by decide) dX0_disputedAtoms_15 ?_
        refine pr_eqi (v := nI (b k1)) (hb k1 (by omega)) ?_
        refine pr_ior (pc := 16) C dX0_disputedAtoms_16 ?_
        refine pr_eqi (v := nI (sc_or b (k1 + 1))) (sj_orN _ _) ?_
        refine pr_istore_n (pc := 17) C dX0_disputedAtoms_17 (by decide) ?_
        refine pr_iincN (pc := 18) C dX0_disputedAtoms_18 rfl k1 1 rfl rfl (by decide) ?_
        refine pr_goto (pc := 21) C 4 dX0_disputedAtoms_21 (by decide) ?_
        exact ih4 (k1 + 1) (by omega) (by omega)
  exact lp2 (4 + 1) 0 (by omega) (by omega)

