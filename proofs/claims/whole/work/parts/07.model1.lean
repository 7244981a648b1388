/-! THE REFERENCE: its functions as functions of its rows (200 + place: claim/src/reference.java, by the order of its fields) -/
def ms_in (v lo hi : Int32) : Bool := decide (lo ≤ v) && decide (v ≤ hi)
def ms_isIn (set k : Int32) : Bool := decide (((set >>> (k &&& 31)) &&& 1) = 1)
def ms_contrary (v : Int32) : Int32 := if v = 1 then 2 else if v = 2 then 1 else -1
def ms_one (set : Int32) : Int32 := if set = 1 then 0 else if set = 2 then 1 else if set = 4 then 2 else if set = 8 then 3 else -1
def ms_thr (a b c : Bool) : Int32 := if a = false then 1 else if b = false then 2 else if c = false then 3 else 0
def ms_ofTurn (v : Int32) : Bool := ms_in v 4 8 || decide (v = 14) || decide (v = 15)
def ms_ofAtom (v : Int32) : Bool := decide (v = 0) || decide (v = 1) || ms_in v 9 12
set_option maxRecDepth 100000 in
set_option maxHeartbeats 2000000 in
theorem c_X4_in (G : pa_G) (l : Launch) (h : pa_H) (v lo9 hi : Int32) : pa_MP G l mX4_in 1 [pv_i v, pv_i lo9, pv_i hi] h (pv_i (pz_b (ms_in v lo9 hi))) := by
  refine pa_go l (by decide) (by simp [pa_c1l, pa_c1]) (fun _ => rfl) fun x C E el ea => ?_
  subst el
  show pa_w G x 3 h 0 0 0 [some (pv_i v), some (pv_i lo9), some (pv_i hi)] []
  refine pr_iload_n (pc := 0) C dX4_in_0 rfl ?_
  refine pr_iload_n (pc := 1) C dX4_in_1 rfl ?_
  refine pr_icmp_ltL (pc := 2) C 14 dX4_in_2 (by decide) (fun c_2 => ?_) (fun c_2 => ?_)
  · refine pr_iconst (pc := 14) (v := 0) C dX4_in_14 (by decide) ?_
    exact pr_iret (pc := 15) C E (Or.inr ⟨rfl, (by decide)⟩) (by omega) (by omega) ⟨(by simp [-Int32.not_le, -Int32.not_lt, pz_b, pz_lt, ms_in, c_2]), rfl⟩ dX4_in_15
  · refine pr_iload_n (pc := 5) C dX4_in_5 rfl ?_
    refine pr_iload_n (pc := 6) C dX4_in_6 rfl ?_
    refine pr_icmp_gtL (pc := 7) C 14 dX4_in_7 (by decide) (fun c_7 => ?_) (fun c_7 => ?_)
    · refine pr_iconst (pc := 14) (v := 0) C dX4_in_14 (by decide) ?_
      exact pr_iret (pc := 15) C E (Or.inr ⟨rfl, (by decide)⟩) (by omega) (by omega) ⟨(by simp [-Int32.not_le, -Int32.not_lt, pz_b, pz_lt, ms_in, c_2, c_7]), rfl⟩ dX4_in_15
    · refine pr_iconst (pc := 10) (v := 1) C dX4_in_10 (by decide) ?_
      refine pr_goto (pc := 11) C 15 dX4_in_11 (by decide) ?_
      exact pr_iret (pc := 15) C E (Or.inr ⟨rfl, (by decide)⟩) (by omega) (by omega) ⟨(by simp [-Int32.not_le, -Int32.not_lt, pz_b, pz_lt, ms_in, c_2, c_7]), rfl⟩ dX4_in_15

set_option maxRecDepth 100000 in
set_option maxHeartbeats 2000000 in
theorem c_X4_isIn (G : pa_G) (l : Launch) (h : pa_H) (s k : Int32) : pa_MP G l mX4_isIn 1 [pv_i s, pv_i k] h (pv_i (pz_b (ms_isIn s k))) := by
  refine pa_go l (by decide) (by simp [pa_c1l, pa_c1]) (fun _ => rfl) fun x C E el ea => ?_
  subst el
  show pa_w G x 2 h 0 0 0 [some (pv_i s), some (pv_i k)] []
  refine pr_iload_n (pc := 0) C dX4_isIn_0 rfl ?_
  refine pr_iload_n (pc := 1) C dX4_isIn_1 rfl ?_
  refine pr_ishr (pc := 2) C dX4_isIn_2 ?_
  refine pr_iconst (pc := 3) (v := 1) C dX4_isIn_3 (by decide) ?_
  refine pr_iand (pc := 4) C dX4_isIn_4 ?_
  refine pr_iconst (pc := 5) (v := 1) C dX4_isIn_5 (by decide) ?_
  refine pr_icmp_ne (pc := 6) C 13 dX4_isIn_6 (by decide) (fun c_6 => ?_) (fun c_6 => ?_)
  · refine pr_iconst (pc := 13) (v := 0) C dX4_isIn_13 (by decide) ?_
    exact pr_iret (pc := 14) C E (Or.inr ⟨rfl, (by decide)⟩) (by omega) (by omega) ⟨(by simp [-Int32.not_le, -Int32.not_lt, pz_b, pz_lt, ms_isIn, eq_false c_6]), rfl⟩ dX4_isIn_14
  · refine pr_iconst (pc := 9) (v := 1) C dX4_isIn_9 (by decide) ?_
    refine pr_goto (pc := 10) C 14 dX4_isIn_10 (by decide) ?_
    exact pr_iret (pc := 14) C E (Or.inr ⟨rfl, (by decide)⟩) (by omega) (by omega) ⟨(by simp [-Int32.not_le, -Int32.not_lt, pz_b, pz_lt, ms_isIn, eq_true c_6]), rfl⟩ dX4_isIn_14

set_option maxRecDepth 100000 in
set_option maxHeartbeats 2000000 in
theorem c_X4_contrary (G : pa_G) (l : Launch) (h : pa_H) (v : Int32) : pa_MP G l mX4_contrary 1 [pv_i v] h (pv_i (ms_contrary v)) := by
  refine pa_go l (by decide) (by simp [pa_c1l, pa_c1]) (fun _ => rfl) fun x C E el ea => ?_
  subst el
  show pa_w G x 1 h 0 0 0 [some (pv_i v)] []
  refine pr_iload_n (pc := 0) C dX4_contrary_0 rfl ?_
  refine pr_iconst (pc := 1) (v := 1) C dX4_contrary_1 (by decide) ?_
  refine pr_icmp_ne (pc := 2) C 9 dX4_contrary_2 (by decide) (fun c_2 => ?_) (fun c_2 => ?_)
  · refine pr_iload_n (pc := 9) C dX4_contrary_9 rfl ?_
    refine pr_iconst (pc := 10) (v := 2) C dX4_contrary_10 (by decide) ?_
    refine pr_icmp_ne (pc := 11) C 18 dX4_contrary_11 (by decide) (fun c_11 => ?_) (fun c_11 => ?_)
    · refine pr_iconst (pc := 18) (v := -1) C dX4_contrary_18 (by decide) ?_
      exact pr_iret (pc := 19) C E (Or.inl rfl) (by omega) (by omega) ⟨(by simp [-Int32.not_le, -Int32.not_lt, pz_b, pz_lt, ms_contrary, eq_false c_2, eq_false c_11]), rfl⟩ dX4_contrary_19
    · refine pr_iconst (pc := 14) (v := 1) C dX4_contrary_14 (by decide) ?_
      refine pr_goto (pc := 15) C 19 dX4_contrary_15 (by decide) ?_
      exact pr_iret (pc := 19) C E (Or.inl rfl) (by omega) (by omega) ⟨(by simp [-Int32.not_le, -Int32.not_lt, pz_b, pz_lt, ms_contrary, eq_false c_2, eq_true c_11]), rfl⟩ dX4_contrary_19
  · refine pr_iconst (pc := 5) (v := 2) C dX4_contrary_5 (by decide) ?_
    refine pr_goto (pc := 6) C 19 dX4_contrary_6 (by decide) ?_
    exact pr_iret (pc := 19) C E (Or.inl rfl) (by omega) (by omega) ⟨(by simp [-Int32.not_le, -Int32.not_lt, pz_b, pz_lt, ms_contrary, eq_true c_2]), rfl⟩ dX4_contrary_19

set_option maxRecDepth 100000 in
set_option maxHeartbeats 2000000 in
theorem c_X4_one (G : pa_G) (l : Launch) (h : pa_H) (s : Int32) : pa_MP G l mX4_one 1 [pv_i s] h (pv_i (ms_one s)) := by
  refine pa_go l (by decide) (by simp [pa_c1l, pa_c1]) (fun _ => rfl) fun x C E el ea => ?_
  subst el
  show pa_w G x 1 h 0 0 0 [some (pv_i s)] []
  refine pr_iload_n (pc := 0) C dX4_one_0 rfl ?_
  refine pr_iconst (pc := 1) (v := 1) C dX4_one_1 (by decide) ?_
  refine pr_icmp_ne (pc := 2) C 9 dX4_one_2 (by decide) (fun c_2 => ?_) (fun c_2 => ?_)
  · refine pr_iload_n (pc := 9) C dX4_one_9 rfl ?_
    refine pr_iconst (pc := 10) (v := 2) C dX4_one_10 (by decide) ?_
    refine pr_icmp_ne (pc := 11) C 18 dX4_one_11 (by decide) (fun c_11 => ?_) (fun c_11 => ?_)
    · refine pr_iload_n (pc := 18) C dX4_one_18 rfl ?_
      refine pr_iconst (pc := 19) (v := 4) C dX4_one_19 (by decide) ?_
      refine pr_icmp_ne (pc := 20) C 27 dX4_one_20 (by decide) (fun c_20 => ?_) (fun c_20 => ?_)
      · refine pr_iload_n (pc := 27) C dX4_one_27 rfl ?_
        refine pr_bipush (pc := 28) (v := 8) C dX4_one_28 (by decide) ?_
        refine pr_icmp_ne (pc := 30) C 37 dX4_one_30 (by decide) (fun c_30 => ?_) (fun c_30 => ?_)
        · refine pr_iconst (pc := 37) (v := -1) C dX4_one_37 (by decide) ?_
          exact pr_iret (pc := 38) C E (Or.inl rfl) (by omega) (by omega) ⟨(by simp [-Int32.not_le, -Int32.not_lt, pz_b, pz_lt, ms_one, eq_false c_2, eq_false c_11, eq_false c_20, eq_false c_30]), rfl⟩ dX4_one_38
        · refine pr_iconst (pc := 33) (v := 3) C dX4_one_33 (by decide) ?_
          refine pr_goto (pc := 34) C 38 dX4_one_34 (by decide) ?_
          exact pr_iret (pc := 38) C E (Or.inl rfl) (by omega) (by omega) ⟨(by simp [-Int32.not_le, -Int32.not_lt, pz_b, pz_lt, ms_one, eq_false c_2, eq_false c_11, eq_false c_20, eq_true c_30]), rfl⟩ dX4_one_38
      · refine pr_iconst (pc := 23) (v := 2) C dX4_one_23 (by decide) ?_
        refine pr_goto (pc := 24) C 38 dX4_one_24 (by decide) ?_
        exact pr_iret (pc := 38) C E (Or.inl rfl) (by omega) (by omega) ⟨(by simp [-Int32.not_le, -Int32.not_lt, pz_b, pz_lt, ms_one, eq_false c_2, eq_false c_11, eq_true c_20]), rfl⟩ dX4_one_38
    · refine pr_iconst (pc := 14) (v := 1) C dX4_one_14 (by decide) ?_
      refine pr_goto (pc := 15) C 38 dX4_one_15 (by decide) ?_
      exact pr_iret (pc := 38) C E (Or.inl rfl) (by omega) (by omega) ⟨(by simp [-Int32.not_le, -Int32.not_lt, pz_b, pz_lt, ms_one, eq_false c_2, eq_true c_11]), rfl⟩ dX4_one_38
  · refine pr_iconst (pc := 5) (v := 0) C dX4_one_5 (by decide) ?_
    refine pr_goto (pc := 6) C 38 dX4_one_6 (by decide) ?_
    exact pr_iret (pc := 38) C E (Or.inl rfl) (by omega) (by omega) ⟨(by simp [-Int32.not_le, -Int32.not_lt, pz_b, pz_lt, ms_one, eq_true c_2]), rfl⟩ dX4_one_38

set_option maxRecDepth 100000 in
set_option maxHeartbeats 2000000 in
theorem c_X4_isSpeaker (G : pa_G) (l : Launch) (h : pa_H) (v : Int32) : pa_MP G l mX4_isSpeaker 2 [pv_i v] h (pv_i (pz_b (ms_in v 0 3))) := by
  refine pa_go l (by decide) (by simp [pa_c1l, pa_c1]) (fun _ => rfl) fun x C E el ea => ?_
  subst el
  show pa_w G x 1 h 0 0 0 [some (pv_i v)] []
  refine pr_iload_n (pc := 0) C dX4_isSpeaker_0 rfl ?_
  refine pr_iconst (pc := 1) (v := 0) C dX4_isSpeaker_1 (by decide) ?_
  refine pr_iconst (pc := 2) (v := 3) C dX4_isSpeaker_2 (by decide) ?_
  refine pr_sP (pc := 3) C (c_X4_in G _ h v (0 : Int32) (3 : Int32)) ws_X4_102 rfl rfl (by decide) (Nat.le_of_ble_eq_true rfl) (by omega) (by omega) dX4_isSpeaker_3 ?_
  exact pr_iret (pc := 6) C E (Or.inr ⟨rfl, (pz_b01 _)⟩) (by omega) (by omega) ⟨rfl, rfl⟩ dX4_isSpeaker_6

set_option maxRecDepth 100000 in
set_option maxHeartbeats 2000000 in
theorem c_X4_isAtom (G : pa_G) (l : Launch) (h : pa_H) (v : Int32) : pa_MP G l mX4_isAtom 2 [pv_i v] h (pv_i (pz_b (ms_in v 0 9))) := by
  refine pa_go l (by decide) (by simp [pa_c1l, pa_c1]) (fun _ => rfl) fun x C E el ea => ?_
  subst el
  show pa_w G x 1 h 0 0 0 [some (pv_i v)] []
  refine pr_iload_n (pc := 0) C dX4_isAtom_0 rfl ?_
  refine pr_iconst (pc := 1) (v := 0) C dX4_isAtom_1 (by decide) ?_
  refine pr_bipush (pc := 2) (v := 9) C dX4_isAtom_2 (by decide) ?_
  refine pr_sP (pc := 4) C (c_X4_in G _ h v (0 : Int32) (9 : Int32)) ws_X4_102 rfl rfl (by decide) (Nat.le_of_ble_eq_true rfl) (by omega) (by omega) dX4_isAtom_4 ?_
  exact pr_iret (pc := 7) C E (Or.inr ⟨rfl, (pz_b01 _)⟩) (by omega) (by omega) ⟨rfl, rfl⟩ dX4_isAtom_7

set_option maxRecDepth 100000 in
set_option maxHeartbeats 2000000 in
theorem c_X4_isOfTurn (G : pa_G) (l : Launch) (h : pa_H) (v : Int32) : pa_MP G l mX4_isOfTurn 2 [pv_i v] h (pv_i (pz_b (ms_ofTurn v))) := by
  refine pa_go l (by decide) (by simp [pa_c1l, pa_c1]) (fun _ => rfl) fun x C E el ea => ?_
  subst el
  show pa_w G x 1 h 0 0 0 [some (pv_i v)] []
  refine pr_iload_n (pc := 0) C dX4_isOfTurn_0 rfl ?_
  refine pr_iconst (pc := 1) (v := 4) C dX4_isOfTurn_1 (by decide) ?_
  refine pr_bipush (pc := 2) (v := 8) C dX4_isOfTurn_2 (by decide) ?_
  refine pr_sP (pc := 4) C (c_X4_in G _ h v (4 : Int32) (8 : Int32)) ws_X4_102 rfl rfl (by decide) (Nat.le_of_ble_eq_true rfl) (by omega) (by omega) dX4_isOfTurn_4 ?_
  refine pr_ifb_ne (pc := 7) C 22 dX4_isOfTurn_7 (by decide) (fun c_7 => ?_) (fun c_7 => ?_)
  · refine pr_iconst (pc := 22) (v := 1) C dX4_isOfTurn_22 (by decide) ?_
    refine pr_goto (pc := 23) C 27 dX4_isOfTurn_23 (by decide) ?_
    exact pr_iret (pc := 27) C E (Or.inr ⟨rfl, (by decide)⟩) (by omega) (by omega) ⟨(by simp [-Int32.not_le, -Int32.not_lt, pz_b, pz_lt, ms_ofTurn, c_7]), rfl⟩ dX4_isOfTurn_27
  · refine pr_iload_n (pc := 10) C dX4_isOfTurn_10 rfl ?_
    refine pr_bipush (pc := 11) (v := 14) C dX4_isOfTurn_11 (by decide) ?_
    refine pr_icmp_eq (pc := 13) C 22 dX4_isOfTurn_13 (by decide) (fun c_13 => ?_) (fun c_13 => ?_)
    · refine pr_iconst (pc := 22) (v := 1) C dX4_isOfTurn_22 (by decide) ?_
      refine pr_goto (pc := 23) C 27 dX4_isOfTurn_23 (by decide) ?_
      exact pr_iret (pc := 27) C E (Or.inr ⟨rfl, (by decide)⟩) (by omega) (by omega) ⟨(by simp [-Int32.not_le, -Int32.not_lt, pz_b, pz_lt, ms_ofTurn, c_7, eq_true c_13]), rfl⟩ dX4_isOfTurn_27
    · refine pr_iload_n (pc := 16) C dX4_isOfTurn_16 rfl ?_
      refine pr_bipush (pc := 17) (v := 15) C dX4_isOfTurn_17 (by decide) ?_
      refine pr_icmp_ne (pc := 19) C 26 dX4_isOfTurn_19 (by decide) (fun c_19 => ?_) (fun c_19 => ?_)
      · refine pr_iconst (pc := 26) (v := 0) C dX4_isOfTurn_26 (by decide) ?_
        exact pr_iret (pc := 27) C E (Or.inr ⟨rfl, (by decide)⟩) (by omega) (by omega) ⟨(by simp [-Int32.not_le, -Int32.not_lt, pz_b, pz_lt, ms_ofTurn, c_7, eq_false c_13, eq_false c_19]), rfl⟩ dX4_isOfTurn_27
      · refine pr_iconst (pc := 22) (v := 1) C dX4_isOfTurn_22 (by decide) ?_
        refine pr_goto (pc := 23) C 27 dX4_isOfTurn_23 (by decide) ?_
        exact pr_iret (pc := 27) C E (Or.inr ⟨rfl, (by decide)⟩) (by omega) (by omega) ⟨(by simp [-Int32.not_le, -Int32.not_lt, pz_b, pz_lt, ms_ofTurn, c_7, eq_false c_13, eq_true c_19]), rfl⟩ dX4_isOfTurn_27

set_option maxRecDepth 100000 in
set_option maxHeartbeats 2000000 in
theorem c_X4_isOfAtom (G : pa_G) (l : Launch) (h : pa_H) (v : Int32) : pa_MP G l mX4_isOfAtom 2 [pv_i v] h (pv_i (pz_b (ms_ofAtom v))) := by
  refine pa_go l (by decide) (by simp [pa_c1l, pa_c1]) (fun _ => rfl) fun x C E el ea => ?_
  subst el
  show pa_w G x 1 h 0 0 0 [some (pv_i v)] []
  refine pr_iload_n (pc := 0) C dX4_isOfAtom_0 rfl ?_
  refine pr_if_eq (pc := 1) C 20 dX4_isOfAtom_1 (by decide) (fun c_1 => ?_) (fun c_1 => ?_)
  · refine pr_iconst (pc := 20) (v := 1) C dX4_isOfAtom_20 (by decide) ?_
    refine pr_goto (pc := 21) C 25 dX4_isOfAtom_21 (by decide) ?_
    exact pr_iret (pc := 25) C E (Or.inr ⟨rfl, (by decide)⟩) (by omega) (by omega) ⟨(by simp [-Int32.not_le, -Int32.not_lt, pz_b, pz_lt, ms_ofAtom, eq_true c_1]), rfl⟩ dX4_isOfAtom_25
  · refine pr_iload_n (pc := 4) C dX4_isOfAtom_4 rfl ?_
    refine pr_iconst (pc := 5) (v := 1) C dX4_isOfAtom_5 (by decide) ?_
    refine pr_icmp_eq (pc := 6) C 20 dX4_isOfAtom_6 (by decide) (fun c_6 => ?_) (fun c_6 => ?_)
    · refine pr_iconst (pc := 20) (v := 1) C dX4_isOfAtom_20 (by decide) ?_
      refine pr_goto (pc := 21) C 25 dX4_isOfAtom_21 (by decide) ?_
      exact pr_iret (pc := 25) C E (Or.inr ⟨rfl, (by decide)⟩) (by omega) (by omega) ⟨(by simp [-Int32.not_le, -Int32.not_lt, pz_b, pz_lt, ms_ofAtom, eq_false c_1, eq_true c_6]), rfl⟩ dX4_isOfAtom_25
    · refine pr_iload_n (pc := 9) C dX4_isOfAtom_9 rfl ?_
      refine pr_bipush (pc := 10) (v := 9) C dX4_isOfAtom_10 (by decide) ?_
      refine pr_bipush (pc := 12) (v := 12) C dX4_isOfAtom_12 (by decide) ?_
      refine pr_sP (pc := 14) C (c_X4_in G _ h v (9 : Int32) (12 : Int32)) ws_X4_102 rfl rfl (by decide) (Nat.le_of_ble_eq_true rfl) (by omega) (by omega) dX4_isOfAtom_14 ?_
      refine pr_ifb_eq (pc := 17) C 24 dX4_isOfAtom_17 (by decide) (fun c_17 => ?_) (fun c_17 => ?_)
      · refine pr_iconst (pc := 24) (v := 0) C dX4_isOfAtom_24 (by decide) ?_
        exact pr_iret (pc := 25) C E (Or.inr ⟨rfl, (by decide)⟩) (by omega) (by omega) ⟨(by simp [-Int32.not_le, -Int32.not_lt, pz_b, pz_lt, ms_ofAtom, eq_false c_1, eq_false c_6, c_17]), rfl⟩ dX4_isOfAtom_25
      · refine pr_iconst (pc := 20) (v := 1) C dX4_isOfAtom_20 (by decide) ?_
        refine pr_goto (pc := 21) C 25 dX4_isOfAtom_21 (by decide) ?_
        exact pr_iret (pc := 25) C E (Or.inr ⟨rfl, (by decide)⟩) (by omega) (by omega) ⟨(by simp [-Int32.not_le, -Int32.not_lt, pz_b, pz_lt, ms_ofAtom, eq_false c_1, eq_false c_6, c_17]), rfl⟩ dX4_isOfAtom_25

set_option maxRecDepth 100000 in
set_option maxHeartbeats 2000000 in
theorem c_X4_goes (G : pa_G) (l : Launch) (h : pa_H) (p q r : Bool) : pa_MR G l mX4_goes 1 [pv_o 5 0, pv_i (pz_b (p)), pv_i (pz_b (q)), pv_i (pz_b (r))] h (h.1, pa_us h.2.1 235 0 (ms_thr p q r), h.2.2) (pv_i (pz_b (p && q && r))) := by
  refine pa_go l (by decide) (by simp [pa_c1l, pa_c1]) (fun _ => rfl) fun x C E el ea => ?_
  subst el
  show pa_w G x 4 h 0 0 0 [some (pv_o 5 0), some (pv_i (pz_b (p))), some (pv_i (pz_b (q))), some (pv_i (pz_b (r)))] []
  refine pr_aload_n (pc := 0) C dX4_goes_0 rfl ?_
  refine pr_iload_n (pc := 1) C dX4_goes_1 rfl ?_
  refine pr_ifb_ne (pc := 2) C 9 dX4_goes_2 (by decide) (fun c_2 => ?_) (fun c_2 => ?_)
  · refine pr_iload_n (pc := 9) C dX4_goes_9 rfl ?_
    refine pr_ifb_ne (pc := 10) C 17 dX4_goes_10 (by decide) (fun c_10 => ?_) (fun c_10 => ?_)
    · refine pr_iload_n (pc := 17) C dX4_goes_17 rfl ?_
      refine pr_ifb_ne (pc := 18) C 25 dX4_goes_18 (by decide) (fun c_18 => ?_) (fun c_18 => ?_)
      · refine pr_iconst (pc := 25) (v := 0) C dX4_goes_25 (by decide) ?_
        refine pr_putm (pc := 26) C 235 wp_X4_99 rfl (by decide) rfl (pl_5 _) dX4_goes_26 ?_
        refine pr_aload_n (pc := 29) C dX4_goes_29 rfl ?_
        refine pr_getm (pc := 30) C 235 wf_X4_99 rfl (by decide) (pl_5 _) dX4_goes_30 ?_
        refine pr_eqi (v := (0 : Int32)) rfl ?_
        refine pr_if_ne (pc := 33) C 40 dX4_goes_33 (by decide) (fun c_33 => absurd c_33 (by decide)) (fun _ => ?_)
        refine pr_iconst (pc := 36) (v := 1) C dX4_goes_36 (by decide) ?_
        refine pr_goto (pc := 37) C 41 dX4_goes_37 (by decide) ?_
        exact pr_iret (pc := 41) C E (Or.inr ⟨rfl, (by decide)⟩) (by omega) (by omega) ⟨(by simp [-Int32.not_le, -Int32.not_lt, pz_b, pz_lt, c_2, c_10, c_18]), (by simp [-Int32.not_le, -Int32.not_lt, pz_b, pz_lt, ms_thr, c_2, c_10, c_18])⟩ dX4_goes_41
      · refine pr_iconst (pc := 21) (v := 3) C dX4_goes_21 (by decide) ?_
        refine pr_goto (pc := 22) C 26 dX4_goes_22 (by decide) ?_
        refine pr_putm (pc := 26) C 235 wp_X4_99 rfl (by decide) rfl (pl_5 _) dX4_goes_26 ?_
        refine pr_aload_n (pc := 29) C dX4_goes_29 rfl ?_
        refine pr_getm (pc := 30) C 235 wf_X4_99 rfl (by decide) (pl_5 _) dX4_goes_30 ?_
        refine pr_eqi (v := (3 : Int32)) rfl ?_
        refine pr_if_ne (pc := 33) C 40 dX4_goes_33 (by decide) (fun _ => ?_) (fun c_33 => absurd c_33 (by decide))
        refine pr_iconst (pc := 40) (v := 0) C dX4_goes_40 (by decide) ?_
        exact pr_iret (pc := 41) C E (Or.inr ⟨rfl, (by decide)⟩) (by omega) (by omega) ⟨(by simp [-Int32.not_le, -Int32.not_lt, pz_b, pz_lt, c_2, c_10, c_18]), (by simp [-Int32.not_le, -Int32.not_lt, pz_b, pz_lt, ms_thr, c_2, c_10, c_18])⟩ dX4_goes_41
    · refine pr_iconst (pc := 13) (v := 2) C dX4_goes_13 (by decide) ?_
      refine pr_goto (pc := 14) C 26 dX4_goes_14 (by decide) ?_
      refine pr_putm (pc := 26) C 235 wp_X4_99 rfl (by decide) rfl (pl_5 _) dX4_goes_26 ?_
      refine pr_aload_n (pc := 29) C dX4_goes_29 rfl ?_
      refine pr_getm (pc := 30) C 235 wf_X4_99 rfl (by decide) (pl_5 _) dX4_goes_30 ?_
      refine pr_eqi (v := (2 : Int32)) rfl ?_
      refine pr_if_ne (pc := 33) C 40 dX4_goes_33 (by decide) (fun _ => ?_) (fun c_33 => absurd c_33 (by decide))
      refine pr_iconst (pc := 40) (v := 0) C dX4_goes_40 (by decide) ?_
      exact pr_iret (pc := 41) C E (Or.inr ⟨rfl, (by decide)⟩) (by omega) (by omega) ⟨(by simp [-Int32.not_le, -Int32.not_lt, pz_b, pz_lt, c_2, c_10]), (by simp [-Int32.not_le, -Int32.not_lt, pz_b, pz_lt, ms_thr, c_2, c_10])⟩ dX4_goes_41
  · refine pr_iconst (pc := 5) (v := 1) C dX4_goes_5 (by decide) ?_
    refine pr_goto (pc := 6) C 26 dX4_goes_6 (by decide) ?_
    refine pr_putm (pc := 26) C 235 wp_X4_99 rfl (by decide) rfl (pl_5 _) dX4_goes_26 ?_
    refine pr_aload_n (pc := 29) C dX4_goes_29 rfl ?_
    refine pr_getm (pc := 30) C 235 wf_X4_99 rfl (by decide) (pl_5 _) dX4_goes_30 ?_
    refine pr_eqi (v := (1 : Int32)) rfl ?_
    refine pr_if_ne (pc := 33) C 40 dX4_goes_33 (by decide) (fun _ => ?_) (fun c_33 => absurd c_33 (by decide))
    refine pr_iconst (pc := 40) (v := 0) C dX4_goes_40 (by decide) ?_
    exact pr_iret (pc := 41) C E (Or.inr ⟨rfl, (by decide)⟩) (by omega) (by omega) ⟨(by simp [-Int32.not_le, -Int32.not_lt, pz_b, pz_lt, c_2]), (by simp [-Int32.not_le, -Int32.not_lt, pz_b, pz_lt, ms_thr, c_2])⟩ dX4_goes_41

def ms_owns (S : Nat → Nat → Int32) (sp set : Int32) : Bool := pz_all (fun k => !ms_isIn set (nI k) || decide (S 213 k = sp)) 8
set_option maxRecDepth 100000 in
set_option maxHeartbeats 2000000 in
theorem c_X4_owns (G : pa_G) (l : Launch) (h : pa_H) (sp set : Int32) : pa_MP G l mX4_owns 2 [pv_o 5 0, pv_i sp, pv_i set] h (pv_i (pz_b (ms_owns h.2.1 sp set))) := by
  refine pa_go l (by decide) (by simp [pa_c1l, pa_c1]) (fun _ => rfl) fun x C E el ea => ?_
  subst el
  show pa_w G x 5 h 0 0 0 [some (pv_o 5 0), some (pv_i sp), some (pv_i set), none, none] []
  refine pr_iconst (pc := 0) (v := 1) C dX4_owns_0 (by decide) ?_
  refine pr_istore_n (pc := 1) C dX4_owns_1 (by decide) ?_
  refine pr_iconst (pc := 2) (v := 0) C dX4_owns_2 (by decide) ?_
  refine pr_istore (pc := 3) C dX4_owns_3 (by decide) ?_
  have lp2 : ∀ (n3 k1 : Nat), k1 ≤ 8 → 8 < k1 + n3 → pa_w G x 5 h 0 0 5 [some (pv_o 5 0), some (pv_i sp), some (pv_i set), some (pv_i (pz_b (pz_all (fun k => !ms_isIn set (nI k) || decide (h.2.1 213 k = sp)) k1))), some (pv_i (nI k1))] [] := by
    intro n3
    induction n3 with
    | zero => intro k1 h1 h2; exact absurd h2 (by omega)
    | succ n3 ih4 =>
      intro k1 hk1_k1 hk2_k1
      refine pr_iload (pc := 5) C dX4_owns_5 rfl ?_
      refine pr_bipush (pc := 7) (v := 8) C dX4_owns_7 (by decide) ?_
      refine pr_icmp_geN (pc := 9) C 48 k1 8 dX4_owns_9 (by decide) rfl rfl (by omega) (by omega) (fun c_9 => ?_) (fun c_9 => ?_)
      · obtain rfl : 8 = k1 := by omega
        refine pr_iload_n (pc := 48) C dX4_owns_48 rfl ?_
        exact pr_iret (pc := 49) C E (Or.inr ⟨rfl, (pz_b01 _)⟩) (by omega) (by omega) ⟨rfl, rfl⟩ dX4_owns_49
      · have j41_5 : pa_w G x 5 h 0 0 41 [some (pv_o 5 0), some (pv_i sp), some (pv_i set), some (pv_i (pz_b (pz_all (fun k => !ms_isIn set (nI k) || decide (h.2.1 213 k = sp)) k1))), some (pv_i (nI k1))] [pv_i (pz_b (pz_all (fun k => !ms_isIn set (nI k) || decide (h.2.1 213 k = sp)) (k1 + 1)))] := by
          refine pr_istore_n (pc := 41) C dX4_owns_41 (by decide) ?_
          refine pr_iincN (pc := 42) C dX4_owns_42 rfl k1 1 rfl rfl (by decide) ?_
          refine pr_goto (pc := 45) C 5 dX4_owns_45 (by decide) ?_
          exact ih4 (k1 + 1) (by omega) (by omega)
        refine pr_iload_n (pc := 12) C dX4_owns_12 rfl ?_
        refine pr_ifb_eq (pc := 13) C 40 dX4_owns_13 (by decide) (fun c_13 => ?_) (fun c_13 => ?_)
        · refine pr_iconst (pc := 40) (v := 0) C dX4_owns_40 (by decide) ?_
          exact pr_eqi (show (0 : Int32) = (pz_b (pz_all (fun k => !ms_isIn set (nI k) || decide (h.2.1 213 k = sp)) (k1 + 1))) from (by simp [-Int32.not_le, -Int32.not_lt, pz_b, pz_lt, pz_all, c_9, c_13])) j41_5
        · refine pr_iload_n (pc := 16) C dX4_owns_16 rfl ?_
          refine pr_iload (pc := 17) C dX4_owns_17 rfl ?_
          refine pr_sP (pc := 19) C (c_X4_isIn G _ h set (nI k1)) ws_X4_114 rfl rfl (by decide) (Nat.le_of_ble_eq_true rfl) (by omega) (by omega) dX4_owns_19 ?_
          refine pr_ifb_eq (pc := 22) C 36 dX4_owns_22 (by decide) (fun c_22 => ?_) (fun c_22 => ?_)
          · refine pr_iconst (pc := 36) (v := 1) C dX4_owns_36 (by decide) ?_
            refine pr_goto (pc := 37) C 41 dX4_owns_37 (by decide) ?_
            exact pr_eqi (show (1 : Int32) = (pz_b (pz_all (fun k => !ms_isIn set (nI k) || decide (h.2.1 213 k = sp)) (k1 + 1))) from (by simp [-Int32.not_le, -Int32.not_lt, pz_b, pz_lt, pz_all, c_9, c_13, c_22])) j41_5
          · refine pr_aload_n (pc := 25) C dX4_owns_25 rfl ?_
            refine pr_geta (pc := 26) C 213 313 wf_X4_44 rfl rfl (by decide) (pl_5 _) dX4_owns_26 ?_
            refine pr_iload (pc := 29) C dX4_owns_29 rfl ?_
            refine pr_aldm (pc := 31) (n := 8) C 213 k1 rfl rfl rfl (pl_r5 (by decide)) rfl (by omega) (by decide) dX4_owns_31 ?_
            refine pr_iload_n (pc := 32) C dX4_owns_32 rfl ?_
            refine pr_icmp_ne (pc := 33) C 40 dX4_owns_33 (by decide) (fun c_33 => ?_) (fun c_33 => ?_)
            · refine pr_iconst (pc := 40) (v := 0) C dX4_owns_40 (by decide) ?_
              exact pr_eqi (show (0 : Int32) = (pz_b (pz_all (fun k => !ms_isIn set (nI k) || decide (h.2.1 213 k = sp)) (k1 + 1))) from (by simp [-Int32.not_le, -Int32.not_lt, pz_b, pz_lt, pz_all, c_9, c_13, c_22, eq_false c_33])) j41_5
            · refine pr_iconst (pc := 36) (v := 1) C dX4_owns_36 (by decide) ?_
              refine pr_goto (pc := 37) C 41 dX4_owns_37 (by decide) ?_
              exact pr_eqi (show (1 : Int32) = (pz_b (pz_all (fun k => !ms_isIn set (nI k) || decide (h.2.1 213 k = sp)) (k1 + 1))) from (by simp [-Int32.not_le, -Int32.not_lt, pz_b, pz_lt, pz_all, c_9, c_13, c_22, eq_true c_33])) j41_5
  exact lp2 (8 + 1) 0 (by omega) (by omega)

def ms_isMissed (S : Nat → Nat → Int32) (t : Nat) : Bool := pz_any (fun k => decide (S 228 (4 * t + k) = 1)) 4
set_option maxRecDepth 100000 in
set_option maxHeartbeats 2000000 in
theorem c_X4_isMissed (G : pa_G) (l : Launch) (h : pa_H) (t : Nat) (ht : t < 100) : pa_MP G l mX4_isMissed 1 [pv_o 5 0, pv_i (nI t)] h (pv_i (pz_b (ms_isMissed h.2.1 t))) := by
  refine pa_go l (by decide) (by simp [pa_c1l, pa_c1]) (fun _ => rfl) fun x C E el ea => ?_
  subst el
  show pa_w G x 4 h 0 0 0 [some (pv_o 5 0), some (pv_i (nI t)), none, none] []
  refine pr_iconst (pc := 0) (v := 0) C dX4_isMissed_0 (by decide) ?_
  refine pr_istore_n (pc := 1) C dX4_isMissed_1 (by decide) ?_
  refine pr_iconst (pc := 2) (v := 0) C dX4_isMissed_2 (by decide) ?_
  refine pr_istore_n (pc := 3) C dX4_isMissed_3 (by decide) ?_
  have lp2 : ∀ (n3 k1 : Nat), k1 ≤ 4 → 4 < k1 + n3 → pa_w G x 4 h 0 0 4 [some (pv_o 5 0), some (pv_i (nI t)), some (pv_i (pz_b (pz_any (fun k => decide (h.2.1 228 (4 * t + k) = 1)) k1))), some (pv_i (nI k1))] [] := by
    intro n3
    induction n3 with
    | zero => intro k1 h1 h2; exact absurd h2 (by omega)
    | succ n3 ih4 =>
      intro k1 hk1_k1 hk2_k1
      refine pr_iload_n (pc := 4) C dX4_isMissed_4 rfl ?_
      refine pr_iconst (pc := 5) (v := 4) C dX4_isMissed_5 (by decide) ?_
      refine pr_icmp_geN (pc := 6) C 39 k1 4 dX4_isMissed_6 (by decide) rfl rfl (by omega) (by omega) (fun c_6 => ?_) (fun c_6 => ?_)
      · obtain rfl : 4 = k1 := by omega
        refine pr_iload_n (pc := 39) C dX4_isMissed_39 rfl ?_
        exact pr_iret (pc := 40) C E (Or.inr ⟨rfl, (pz_b01 _)⟩) (by omega) (by omega) ⟨rfl, rfl⟩ dX4_isMissed_40
      · have j32_5 : pa_w G x 4 h 0 0 32 [some (pv_o 5 0), some (pv_i (nI t)), some (pv_i (pz_b (pz_any (fun k => decide (h.2.1 228 (4 * t + k) = 1)) k1))), some (pv_i (nI k1))] [pv_i (pz_b (pz_any (fun k => decide (h.2.1 228 (4 * t + k) = 1)) (k1 + 1)))] := by
          refine pr_istore_n (pc := 32) C dX4_isMissed_32 (by decide) ?_
          refine pr_iincN (pc := 33) C dX4_isMissed_33 rfl k1 1 rfl rfl (by decide) ?_
          refine pr_goto (pc := 36) C 4 dX4_isMissed_36 (by decide) ?_
          exact ih4 (k1 + 1) (by omega) (by omega)
        refine pr_iload_n (pc := 9) C dX4_isMissed_9 rfl ?_
        refine pr_ifb_ne (pc := 10) C 27 dX4_isMissed_10 (by decide) (fun c_10 => ?_) (fun c_10 => ?_)
        · refine pr_iconst (pc := 27) (v := 1) C dX4_isMissed_27 (by decide) ?_
          refine pr_goto (pc := 28) C 32 dX4_isMissed_28 (by decide) ?_
          exact pr_eqi (show (1 : Int32) = (pz_b (pz_any (fun k => decide (h.2.1 228 (4 * t + k) = 1)) (k1 + 1))) from (by simp [-Int32.not_le, -Int32.not_lt, pz_b, pz_lt, pz_any, c_6, c_10])) j32_5
        · refine pr_aload_n (pc := 13) C dX4_isMissed_13 rfl ?_
          refine pr_geta (pc := 14) C 228 328 wf_X4_77 rfl rfl (by decide) (pl_5 _) dX4_isMissed_14 ?_
          refine pr_iconst (pc := 17) (v := 4) C dX4_isMissed_17 (by decide) ?_
          refine pr_iload_n (pc := 18) C dX4_isMissed_18 rfl ?_
          refine pr_imulN (pc := 19) C dX4_isMissed_19 4 t rfl rfl ?_
          refine pr_iload_n (pc := 20) C dX4_isMissed_20 rfl ?_
          refine pr_iaddN (pc := 21) C dX4_isMissed_21 (4 * t) k1 rfl rfl ?_
          refine pr_aldm (pc := 22) (n := 400) C 228 ((4 * t) + k1) rfl rfl rfl (pl_r5 (by decide)) rfl (by omega) (by decide) dX4_isMissed_22 ?_
          refine pr_iconst (pc := 23) (v := 1) C dX4_isMissed_23 (by decide) ?_
          refine pr_icmp_ne (pc := 24) C 31 dX4_isMissed_24 (by decide) (fun c_24 => ?_) (fun c_24 => ?_)
          · refine pr_iconst (pc := 31) (v := 0) C dX4_isMissed_31 (by decide) ?_
            exact pr_eqi (show (0 : Int32) = (pz_b (pz_any (fun k => decide (h.2.1 228 (4 * t + k) = 1)) (k1 + 1))) from (by simp [-Int32.not_le, -Int32.not_lt, pz_b, pz_lt, pz_any, c_6, c_10, eq_false c_24])) j32_5
          · refine pr_iconst (pc := 27) (v := 1) C dX4_isMissed_27 (by decide) ?_
            refine pr_goto (pc := 28) C 32 dX4_isMissed_28 (by decide) ?_
            exact pr_eqi (show (1 : Int32) = (pz_b (pz_any (fun k => decide (h.2.1 228 (4 * t + k) = 1)) (k1 + 1))) from (by simp [-Int32.not_le, -Int32.not_lt, pz_b, pz_lt, pz_any, c_6, c_10, eq_true c_24])) j32_5
  exact lp2 (4 + 1) 0 (by omega) (by omega)

def ms_isTaken (S : Nat → Nat → Int32) (t : Nat) : Bool := pz_any (fun k => decide (S 228 (4 * t + k) = 4)) 4
set_option maxRecDepth 100000 in
set_option maxHeartbeats 2000000 in
theorem c_X4_isTaken (G : pa_G) (l : Launch) (h : pa_H) (t : Nat) (ht : t < 100) : pa_MP G l mX4_isTaken 1 [pv_o 5 0, pv_i (nI t)] h (pv_i (pz_b (ms_isTaken h.2.1 t))) := by
  refine pa_go l (by decide) (by simp [pa_c1l, pa_c1]) (fun _ => rfl) fun x C E el ea => ?_
  subst el
  show pa_w G x 4 h 0 0 0 [some (pv_o 5 0), some (pv_i (nI t)), none, none] []
  refine pr_iconst (pc := 0) (v := 0) C dX4_isTaken_0 (by decide) ?_
  refine pr_istore_n (pc := 1) C dX4_isTaken_1 (by decide) ?_
  refine pr_iconst (pc := 2) (v := 0) C dX4_isTaken_2 (by decide) ?_
  refine pr_istore_n (pc := 3) C dX4_isTaken_3 (by decide) ?_
  have lp2 : ∀ (n3 k1 : Nat), k1 ≤ 4 → 4 < k1 + n3 → pa_w G x 4 h 0 0 4 [some (pv_o 5 0), some (pv_i (nI t)), some (pv_i (pz_b (pz_any (fun k => decide (h.2.1 228 (4 * t + k) = 4)) k1))), some (pv_i (nI k1))] [] := by
    intro n3
    induction n3 with
    | zero => intro k1 h1 h2; exact absurd h2 (by omega)
    | succ n3 ih4 =>
      intro k1 hk1_k1 hk2_k1
      refine pr_iload_n (pc := 4) C dX4_isTaken_4 rfl ?_
      refine pr_iconst (pc := 5) (v := 4) C dX4_isTaken_5 (by decide) ?_
      refine pr_icmp_geN (pc := 6) C 39 k1 4 dX4_isTaken_6 (by decide) rfl rfl (by omega) (by omega) (fun c_6 => ?_) (fun c_6 => ?_)
      · obtain rfl : 4 = k1 := by omega
        refine pr_iload_n (pc := 39) C dX4_isTaken_39 rfl ?_
        exact pr_iret (pc := 40) C E (Or.inr ⟨rfl, (pz_b01 _)⟩) (by omega) (by omega) ⟨rfl, rfl⟩ dX4_isTaken_40
      · have j32_5 : pa_w G x 4 h 0 0 32 [some (pv_o 5 0), some (pv_i (nI t)), some (pv_i (pz_b (pz_any (fun k => decide (h.2.1 228 (4 * t + k) = 4)) k1))), some (pv_i (nI k1))] [pv_i (pz_b (pz_any (fun k => decide (h.2.1 228 (4 * t + k) = 4)) (k1 + 1)))] := by
          refine pr_istore_n (pc := 32) C dX4_isTaken_32 (by decide) ?_
          refine pr_iincN (pc := 33) C dX4_isTaken_33 rfl k1 1 rfl rfl (by decide) ?_
          refine pr_goto (pc := 36) C 4 dX4_isTaken_36 (by decide) ?_
          exact ih4 (k1 + 1) (by omega) (by omega)
        refine pr_iload_n (pc := 9) C dX4_isTaken_9 rfl ?_
        refine pr_ifb_ne (pc := 10) C 27 dX4_isTaken_10 (by decide) (fun c_10 => ?_) (fun c_10 => ?_)
        · refine pr_iconst (pc := 27) (v := 1) C dX4_isTaken_27 (by decide) ?_
          refine pr_goto (pc := 28) C 32 dX4_isTaken_28 (by decide) ?_
          exact pr_eqi (show (1 : Int32) = (pz_b (pz_any (fun k => decide (h.2.1 228 (4 * t + k) = 4)) (k1 + 1))) from (by simp [-Int32.not_le, -Int32.not_lt, pz_b, pz_lt, pz_any, c_6, c_10])) j32_5
        · refine pr_aload_n (pc := 13) C dX4_isTaken_13 rfl ?_
          refine pr_geta (pc := 14) C 228 328 wf_X4_77 rfl rfl (by decide) (pl_5 _) dX4_isTaken_14 ?_
          refine pr_iconst (pc := 17) (v := 4) C dX4_isTaken_17 (by decide) ?_
          refine pr_iload_n (pc := 18) C dX4_isTaken_18 rfl ?_
          refine pr_imulN (pc := 19) C dX4_isTaken_19 4 t rfl rfl ?_
          refine pr_iload_n (pc := 20) C dX4_isTaken_20 rfl ?_
          refine pr_iaddN (pc := 21) C dX4_isTaken_21 (4 * t) k1 rfl rfl ?_
          refine pr_aldm (pc := 22) (n := 400) C 228 ((4 * t) + k1) rfl rfl rfl (pl_r5 (by decide)) rfl (by omega) (by decide) dX4_isTaken_22 ?_
          refine pr_iconst (pc := 23) (v := 4) C dX4_isTaken_23 (by decide) ?_
          refine pr_icmp_ne (pc := 24) C 31 dX4_isTaken_24 (by decide) (fun c_24 => ?_) (fun c_24 => ?_)
          · refine pr_iconst (pc := 31) (v := 0) C dX4_isTaken_31 (by decide) ?_
            exact pr_eqi (show (0 : Int32) = (pz_b (pz_any (fun k => decide (h.2.1 228 (4 * t + k) = 4)) (k1 + 1))) from (by simp [-Int32.not_le, -Int32.not_lt, pz_b, pz_lt, pz_any, c_6, c_10, eq_false c_24])) j32_5
          · refine pr_iconst (pc := 27) (v := 1) C dX4_isTaken_27 (by decide) ?_
            refine pr_goto (pc := 28) C 32 dX4_isTaken_28 (by decide) ?_
            exact pr_eqi (show (1 : Int32) = (pz_b (pz_any (fun k => decide (h.2.1 228 (4 * t + k) = 4)) (k1 + 1))) from (by simp [-Int32.not_le, -Int32.not_lt, pz_b, pz_lt, pz_any, c_6, c_10, eq_true c_24])) j32_5
  exact lp2 (4 + 1) 0 (by omega) (by omega)

def ms_isClaim (S : Nat → Nat → Int32) (t : Nat) : Bool := decide (S 224 t = 1) && (decide (S 219 t = 0) || (decide (S 219 t = 2) && decide (0 < S 221 t)))
set_option maxRecDepth 100000 in
set_option maxHeartbeats 2000000 in
theorem c_X4_isClaim (G : pa_G) (l : Launch) (h : pa_H) (t : Nat) (ht : t < 100) : pa_MP G l mX4_isClaim 1 [pv_o 5 0, pv_i (nI t)] h (pv_i (pz_b (ms_isClaim h.2.1 t))) := by
  refine pa_go l (by decide) (by simp [pa_c1l, pa_c1]) (fun _ => rfl) fun x C E el ea => ?_
  subst el
  show pa_w G x 2 h 0 0 0 [some (pv_o 5 0), some (pv_i (nI t))] []
  refine pr_aload_n (pc := 0) C dX4_isClaim_0 rfl ?_
  refine pr_geta (pc := 1) C 224 324 wf_X4_65 rfl rfl (by decide) (pl_5 _) dX4_isClaim_1 ?_
  refine pr_iload_n (pc := 4) C dX4_isClaim_4 rfl ?_
  refine pr_aldm (pc := 5) (n := 100) C 224 t rfl rfl rfl (pl_r5 (by decide)) rfl (by omega) (by decide) dX4_isClaim_5 ?_
  refine pr_iconst (pc := 6) (v := 1) C dX4_isClaim_6 (by decide) ?_
  refine pr_icmp_ne (pc := 7) C 42 dX4_isClaim_7 (by decide) (fun c_7 => ?_) (fun c_7 => ?_)
  · refine pr_iconst (pc := 42) (v := 0) C dX4_isClaim_42 (by decide) ?_
    exact pr_iret (pc := 43) C E (Or.inr ⟨rfl, (by decide)⟩) (by omega) (by omega) ⟨(by simp [-Int32.not_le, -Int32.not_lt, pz_b, pz_lt, ms_isClaim, eq_false c_7]), rfl⟩ dX4_isClaim_43
  · refine pr_aload_n (pc := 10) C dX4_isClaim_10 rfl ?_
    refine pr_geta (pc := 11) C 219 319 wf_X4_50 rfl rfl (by decide) (pl_5 _) dX4_isClaim_11 ?_
    refine pr_iload_n (pc := 14) C dX4_isClaim_14 rfl ?_
    refine pr_aldm (pc := 15) (n := 100) C 219 t rfl rfl rfl (pl_r5 (by decide)) rfl (by omega) (by decide) dX4_isClaim_15 ?_
    refine pr_if_eq (pc := 16) C 38 dX4_isClaim_16 (by decide) (fun c_16 => ?_) (fun c_16 => ?_)
    · refine pr_iconst (pc := 38) (v := 1) C dX4_isClaim_38 (by decide) ?_
      refine pr_goto (pc := 39) C 43 dX4_isClaim_39 (by decide) ?_
      exact pr_iret (pc := 43) C E (Or.inr ⟨rfl, (by decide)⟩) (by omega) (by omega) ⟨(by simp [-Int32.not_le, -Int32.not_lt, pz_b, pz_lt, ms_isClaim, eq_true c_7, eq_true c_16]), rfl⟩ dX4_isClaim_43
    · refine pr_aload_n (pc := 19) C dX4_isClaim_19 rfl ?_
      refine pr_geta (pc := 20) C 219 319 wf_X4_50 rfl rfl (by decide) (pl_5 _) dX4_isClaim_20 ?_
      refine pr_iload_n (pc := 23) C dX4_isClaim_23 rfl ?_
      refine pr_aldm (pc := 24) (n := 100) C 219 t rfl rfl rfl (pl_r5 (by decide)) rfl (by omega) (by decide) dX4_isClaim_24 ?_
      refine pr_iconst (pc := 25) (v := 2) C dX4_isClaim_25 (by decide) ?_
      refine pr_icmp_ne (pc := 26) C 42 dX4_isClaim_26 (by decide) (fun c_26 => ?_) (fun c_26 => ?_)
      · refine pr_iconst (pc := 42) (v := 0) C dX4_isClaim_42 (by decide) ?_
        exact pr_iret (pc := 43) C E (Or.inr ⟨rfl, (by decide)⟩) (by omega) (by omega) ⟨(by simp [-Int32.not_le, -Int32.not_lt, pz_b, pz_lt, ms_isClaim, eq_true c_7, eq_false c_16, eq_false c_26]), rfl⟩ dX4_isClaim_43
      · refine pr_aload_n (pc := 29) C dX4_isClaim_29 rfl ?_
        refine pr_geta (pc := 30) C 221 321 wf_X4_56 rfl rfl (by decide) (pl_5 _) dX4_isClaim_30 ?_
        refine pr_iload_n (pc := 33) C dX4_isClaim_33 rfl ?_
        refine pr_aldm (pc := 34) (n := 100) C 221 t rfl rfl rfl (pl_r5 (by decide)) rfl (by omega) (by decide) dX4_isClaim_34 ?_
        refine pr_if_le (pc := 35) C 42 dX4_isClaim_35 (by decide) (fun c_35 => ?_) (fun c_35 => ?_)
        · refine pr_iconst (pc := 42) (v := 0) C dX4_isClaim_42 (by decide) ?_
          exact pr_iret (pc := 43) C E (Or.inr ⟨rfl, (by decide)⟩) (by omega) (by omega) ⟨(by simp [-Int32.not_le, -Int32.not_lt, pz_b, pz_lt, ms_isClaim, eq_true c_7, eq_false c_16, eq_true c_26, c_35]), rfl⟩ dX4_isClaim_43
        · refine pr_iconst (pc := 38) (v := 1) C dX4_isClaim_38 (by decide) ?_
          refine pr_goto (pc := 39) C 43 dX4_isClaim_39 (by decide) ?_
          exact pr_iret (pc := 43) C E (Or.inr ⟨rfl, (by decide)⟩) (by omega) (by omega) ⟨(by simp [-Int32.not_le, -Int32.not_lt, pz_b, pz_lt, ms_isClaim, eq_true c_7, eq_false c_16, eq_true c_26, c_35]), rfl⟩ dX4_isClaim_43

/-- the turn of the top question -/
def ms_aq (S : Nat → Nat → Int32) : Nat := (S 232 ((S 231 0).toNatClampNeg - 1)).toNatClampNeg
def ms_top (S : Nat → Nat → Int32) : Int32 := if (S 231 0).toNatClampNeg = 0 then -1 else ms_one (S 222 (ms_aq S))
/-- Q questions are open, the top one is the turn q0 -/
def mw_Q (S : Nat → Nat → Int32) (Q q0 : Nat) : Prop := S 231 0 = nI Q ∧ Q ≤ 6 ∧ q0 < 100 ∧ (0 < Q → S 232 (Q - 1) = nI q0)
theorem mw_Q_aq {S : Nat → Nat → Int32} {Q q0 : Nat} (w : mw_Q S Q q0) (h : 0 < Q) : ms_aq S = q0 := by
  unfold ms_aq
  rw [w.1, nI_clamp (by have := w.2.1; omega), w.2.2.2 h, nI_clamp (by have := w.2.2.1; omega)]
theorem mw_Q_top {S : Nat → Nat → Int32} {Q q0 : Nat} (w : mw_Q S Q q0) : ms_top S = if Q = 0 then -1 else ms_one (S 222 q0) := by
  unfold ms_top
  rw [w.1, nI_clamp (by have := w.2.1; omega)]
  by_cases c : Q = 0
  · rw [if_pos c, if_pos c]
  · rw [if_neg c, if_neg c, mw_Q_aq w (by omega)]
set_option maxRecDepth 100000 in
set_option maxHeartbeats 2000000 in
theorem c_X4_topAsked (G : pa_G) (l : Launch) (h : pa_H) (Q q0 : Nat) (hw : mw_Q h.2.1 Q q0) : pa_MP G l mX4_topAsked 2 [pv_o 5 0] h (pv_i (ms_top h.2.1)) := by
  refine pa_go l (by decide) (by simp [pa_c1l, pa_c1]) (fun _ => rfl) fun x C E el ea => ?_
  subst el
  obtain ⟨-, hQ6, hq100, -⟩ := id hw
  show pa_w G x 1 h 0 0 0 [some (pv_o 5 0)] []
  refine pr_aload_n (pc := 0) C dX4_topAsked_0 rfl ?_
  refine pr_getm (pc := 1) C 231 wf_X4_141 rfl (by decide) (pl_5 _) dX4_topAsked_1 ?_
  refine pr_eqi hw.1 ?_
  refine pr_if_neN (pc := 4) C 11 Q dX4_topAsked_4 (by decide) rfl (by omega) (fun c_4 => ?_) (fun c_4 => ?_)
  · refine pr_aload_n (pc := 11) C dX4_topAsked_11 rfl ?_
    refine pr_geta (pc := 12) C 222 322 wf_X4_59 rfl rfl (by decide) (pl_5 _) dX4_topAsked_12 ?_
    refine pr_aload_n (pc := 15) C dX4_topAsked_15 rfl ?_
    refine pr_geta (pc := 16) C 232 332 wf_X4_86 rfl rfl (by decide) (pl_5 _) dX4_topAsked_16 ?_
    refine pr_aload_n (pc := 19) C dX4_topAsked_19 rfl ?_
    refine pr_getm (pc := 20) C 231 wf_X4_141 rfl (by decide) (pl_5 _) dX4_topAsked_20 ?_
    refine pr_eqi hw.1 ?_
    refine pr_iconst (pc := 23) (v := 1) C dX4_topAsked_23 (by decide) ?_
    refine pr_isubN (pc := 24) C dX4_topAsked_24 Q 1 rfl rfl (by omega) ?_
    refine pr_aldm (pc := 25) (n := 6) C 232 (Q - 1) rfl rfl rfl (pl_r5 (by decide)) rfl (by omega) (by decide) dX4_topAsked_25 ?_
    refine pr_eqi (hw.2.2.2 (by omega)) ?_
    refine pr_aldm (pc := 26) (n := 100) C 222 q0 rfl rfl rfl (pl_r5 (by decide)) rfl (by omega) (by decide) dX4_topAsked_26 ?_
    refine pr_sP (pc := 27) C (c_X4_one G _ h (h.2.1 222 q0)) ws_X4_137 rfl rfl (by decide) (Nat.le_of_ble_eq_true rfl) (by omega) (by omega) dX4_topAsked_27 ?_
    exact pr_iret (pc := 30) C E (Or.inl rfl) (by omega) (by omega) ⟨by rw [mw_Q_top hw, if_neg (by omega)], rfl⟩ dX4_topAsked_30
  · refine pr_iconst (pc := 7) (v := -1) C dX4_topAsked_7 (by decide) ?_
    refine pr_goto (pc := 8) C 30 dX4_topAsked_8 (by decide) ?_
    exact pr_iret (pc := 30) C E (Or.inl rfl) (by omega) (by omega) ⟨by rw [mw_Q_top hw, if_pos (by omega)], rfl⟩ dX4_topAsked_30

def ms_qr (S : Nat → Nat → Int32) (sp a k : Nat) : Bool := decide (S 233 (40 * sp + 10 * k + a) ≠ 0)
def ms_asIn (S : Nat → Nat → Int32) (sp a : Nat) : Bool := pz_any (ms_qr S sp a) 4
set_option maxRecDepth 100000 in
set_option maxHeartbeats 2000000 in
theorem c_X4_assertsIn (G : pa_G) (l : Launch) (h : pa_H) (sp at9 : Nat) (hs : sp < 4) (ha : at9 < 10) : pa_MP G l mX4_assertsIn 1 [pv_o 5 0, pv_i (nI sp), pv_i (nI at9)] h (pv_i (pz_b (ms_asIn h.2.1 sp at9))) := by
  refine pa_go l (by decide) (by simp [pa_c1l, pa_c1]) (fun _ => rfl) fun x C E el ea => ?_
  subst el
  show pa_w G x 5 h 0 0 0 [some (pv_o 5 0), some (pv_i (nI sp)), some (pv_i (nI at9)), none, none] []
  refine pr_iconst (pc := 0) (v := 0) C dX4_assertsIn_0 (by decide) ?_
  refine pr_istore_n (pc := 1) C dX4_assertsIn_1 (by decide) ?_
  refine pr_iconst (pc := 2) (v := 0) C dX4_assertsIn_2 (by decide) ?_
  refine pr_istore (pc := 3) C dX4_assertsIn_3 (by decide) ?_
  have lp2 : ∀ (n3 k1 : Nat), k1 ≤ 4 → 4 < k1 + n3 → pa_w G x 5 h 0 0 5 [some (pv_o 5 0), some (pv_i (nI sp)), some (pv_i (nI at9)), some (pv_i (pz_b (pz_any (ms_qr h.2.1 sp at9) k1))), some (pv_i (nI k1))] [] := by
    intro n3
    induction n3 with
    | zero => intro k1 h1 h2; exact absurd h2 (by omega)
    | succ n3 ih4 =>
      intro k1 hk1_k1 hk2_k1
      refine pr_iload (pc := 5) C dX4_assertsIn_5 rfl ?_
      refine pr_iconst (pc := 7) (v := 4) C dX4_assertsIn_7 (by decide) ?_
      refine pr_icmp_geN (pc := 8) C 47 k1 4 dX4_assertsIn_8 (by decide) rfl rfl (by omega) (by omega) (fun c_8 => ?_) (fun c_8 => ?_)
      · obtain rfl : 4 = k1 := by omega
        refine pr_iload_n (pc := 47) C dX4_assertsIn_47 rfl ?_
        exact pr_iret (pc := 48) C E (Or.inr ⟨rfl, (pz_b01 _)⟩) (by omega) (by omega) ⟨rfl, rfl⟩ dX4_assertsIn_48
      · have j40_5 : pa_w G x 5 h 0 0 40 [some (pv_o 5 0), some (pv_i (nI sp)), some (pv_i (nI at9)), some (pv_i (pz_b (pz_any (ms_qr h.2.1 sp at9) k1))), some (pv_i (nI k1))] [pv_i (pz_b (pz_any (ms_qr h.2.1 sp at9) (k1 + 1)))] := by
          refine pr_istore_n (pc := 40) C dX4_assertsIn_40 (by decide) ?_
          refine pr_iincN (pc := 41) C dX4_assertsIn_41 rfl k1 1 rfl rfl (by decide) ?_
          refine pr_goto (pc := 44) C 5 dX4_assertsIn_44 (by decide) ?_
          exact ih4 (k1 + 1) (by omega) (by omega)
        refine pr_iload_n (pc := 11) C dX4_assertsIn_11 rfl ?_
        refine pr_ifb_ne (pc := 12) C 35 dX4_assertsIn_12 (by decide) (fun c_12 => ?_) (fun c_12 => ?_)
        · refine pr_iconst (pc := 35) (v := 1) C dX4_assertsIn_35 (by decide) ?_
          refine pr_goto (pc := 36) C 40 dX4_assertsIn_36 (by decide) ?_
          exact pr_eqi (show (1 : Int32) = (pz_b (pz_any (ms_qr h.2.1 sp at9) (k1 + 1))) from (by simp [-Int32.not_le, -Int32.not_lt, pz_b, pz_lt, pz_any, ms_qr, c_8, c_12])) j40_5
        · refine pr_aload_n (pc := 15) C dX4_assertsIn_15 rfl ?_
          refine pr_geta (pc := 16) C 233 333 wf_X4_89 rfl rfl (by decide) (pl_5 _) dX4_assertsIn_16 ?_
          refine pr_bipush (pc := 19) (v := 40) C dX4_assertsIn_19 (by decide) ?_
          refine pr_iload_n (pc := 21) C dX4_assertsIn_21 rfl ?_
          refine pr_imulN (pc := 22) C dX4_assertsIn_22 40 sp rfl rfl ?_
          refine pr_bipush (pc := 23) (v := 10) C dX4_assertsIn_23 (by decide) ?_
          refine pr_iload (pc := 25) C dX4_assertsIn_25 rfl ?_
          refine pr_imulN (pc := 27) C dX4_assertsIn_27 10 k1 rfl rfl ?_
          refine pr_iaddN (pc := 28) C dX4_assertsIn_28 (40 * sp) (10 * k1) rfl rfl ?_
          refine pr_iload_n (pc := 29) C dX4_assertsIn_29 rfl ?_
          refine pr_iaddN (pc := 30) C dX4_assertsIn_30 ((40 * sp) + (10 * k1)) at9 rfl rfl ?_
          refine pr_aldb (pc := 31) (n := 160) C 233 (((40 * sp) + (10 * k1)) + at9) rfl rfl rfl (pl_r5 (by decide)) rfl (by omega) (by decide) dX4_assertsIn_31 ?_
          refine pr_if_eq (pc := 32) C 39 dX4_assertsIn_32 (by decide) (fun c_32 => ?_) (fun c_32 => ?_)
          · refine pr_iconst (pc := 39) (v := 0) C dX4_assertsIn_39 (by decide) ?_
            exact pr_eqi (show (0 : Int32) = (pz_b (pz_any (ms_qr h.2.1 sp at9) (k1 + 1))) from (by simp [-Int32.not_le, -Int32.not_lt, pz_b, pz_lt, pz_any, ms_qr, c_8, c_12, eq_true c_32])) j40_5
          · refine pr_iconst (pc := 35) (v := 1) C dX4_assertsIn_35 (by decide) ?_
            refine pr_goto (pc := 36) C 40 dX4_assertsIn_36 (by decide) ?_
            exact pr_eqi (show (1 : Int32) = (pz_b (pz_any (ms_qr h.2.1 sp at9) (k1 + 1))) from (by simp [-Int32.not_le, -Int32.not_lt, pz_b, pz_lt, pz_any, ms_qr, c_8, c_12, eq_false c_32])) j40_5
  exact lp2 (4 + 1) 0 (by omega) (by omega)

def ms_deaf (S : Nat → Nat → Int32) (k : Nat) : Bool := decide (S 200 0 < S 206 k)
set_option maxRecDepth 100000 in
set_option maxHeartbeats 2000000 in
theorem c_X4_isDeaf (G : pa_G) (l : Launch) (h : pa_H) (k : Nat) (hk : k < 4) : pa_MP G l mX4_isDeaf 1 [pv_o 5 0, pv_i (nI k)] h (pv_i (pz_b (ms_deaf h.2.1 k))) := by
  refine pa_go l (by decide) (by simp [pa_c1l, pa_c1]) (fun _ => rfl) fun x C E el ea => ?_
  subst el
  show pa_w G x 2 h 0 0 0 [some (pv_o 5 0), some (pv_i (nI k))] []
  refine pr_aload_n (pc := 0) C dX4_isDeaf_0 rfl ?_
  refine pr_getm (pc := 1) C 200 wf_X4_121 rfl (by decide) (pl_5 _) dX4_isDeaf_1 ?_
  refine pr_aload_n (pc := 4) C dX4_isDeaf_4 rfl ?_
  refine pr_geta (pc := 5) C 206 306 wf_X4_23 rfl rfl (by decide) (pl_5 _) dX4_isDeaf_5 ?_
  refine pr_iload_n (pc := 8) C dX4_isDeaf_8 rfl ?_
  refine pr_aldm (pc := 9) (n := 4) C 206 k rfl rfl rfl (pl_r5 (by decide)) rfl (by omega) (by decide) dX4_isDeaf_9 ?_
  refine pr_icmp_ge (pc := 10) C 17 dX4_isDeaf_10 (by decide) (fun c_10 => ?_) (fun c_10 => ?_)
  · refine pr_iconst (pc := 17) (v := 0) C dX4_isDeaf_17 (by decide) ?_
    exact pr_iret (pc := 18) C E (Or.inr ⟨rfl, (by decide)⟩) (by omega) (by omega) ⟨(by simp [-Int32.not_le, -Int32.not_lt, pz_b, pz_lt, ms_deaf, c_10]), rfl⟩ dX4_isDeaf_18
  · refine pr_iconst (pc := 13) (v := 1) C dX4_isDeaf_13 (by decide) ?_
    refine pr_goto (pc := 14) C 18 dX4_isDeaf_14 (by decide) ?_
    exact pr_iret (pc := 18) C E (Or.inr ⟨rfl, (by decide)⟩) (by omega) (by omega) ⟨(by simp [-Int32.not_le, -Int32.not_lt, pz_b, pz_lt, ms_deaf, c_10]), rfl⟩ dX4_isDeaf_18

def ms_hip (S : Nat → Nat → Int32) (t hr k : Nat) : Bool := decide (k ≠ hr) && ms_isIn (S 222 t) (nI k) && decide (S 205 k ≠ 0) && !ms_deaf S k && ms_isIn (S 203 k) (S 226 t) && decide (S 203 k &&& S 203 hr ≠ 0)
def ms_hasI (S : Nat → Nat → Int32) (t hr : Nat) : Bool := pz_any (ms_hip S t hr) 4
set_option maxRecDepth 100000 in
set_option maxHeartbeats 2000000 in
theorem c_X4_hasInterpreter (G : pa_G) (l : Launch) (h : pa_H) (t hr : Nat) (ht : t < 100) (hh : hr < 4) : pa_MP G l mX4_hasInterpreter 2 [pv_o 5 0, pv_i (nI t), pv_i (nI hr)] h (pv_i (pz_b (ms_hasI h.2.1 t hr))) := by
  refine pa_go l (by decide) (by simp [pa_c1l, pa_c1]) (fun _ => rfl) fun x C E el ea => ?_
  subst el
  show pa_w G x 5 h 0 0 0 [some (pv_o 5 0), some (pv_i (nI t)), some (pv_i (nI hr)), none, none] []
  refine pr_iconst (pc := 0) (v := 0) C dX4_hasInterpreter_0 (by decide) ?_
  refine pr_istore_n (pc := 1) C dX4_hasInterpreter_1 (by decide) ?_
  refine pr_iconst (pc := 2) (v := 0) C dX4_hasInterpreter_2 (by decide) ?_
  refine pr_istore (pc := 3) C dX4_hasInterpreter_3 (by decide) ?_
  have lp2 : ∀ (n3 k1 : Nat), k1 ≤ 4 → 4 < k1 + n3 → pa_w G x 5 h 0 0 5 [some (pv_o 5 0), some (pv_i (nI t)), some (pv_i (nI hr)), some (pv_i (pz_b (pz_any (ms_hip h.2.1 t hr) k1))), some (pv_i (nI k1))] [] := by
    intro n3
    induction n3 with
    | zero => intro k1 h1 h2; exact absurd h2 (by omega)
    | succ n3 ih4 =>
      intro k1 hk1_k1 hk2_k1
      refine pr_iload (pc := 5) C dX4_hasInterpreter_5 rfl ?_
      refine pr_iconst (pc := 7) (v := 4) C dX4_hasInterpreter_7 (by decide) ?_
      refine pr_icmp_geN (pc := 8) C 102 k1 4 dX4_hasInterpreter_8 (by decide) rfl rfl (by omega) (by omega) (fun c_8 => ?_) (fun c_8 => ?_)
      · obtain rfl : 4 = k1 := by omega
        refine pr_iload_n (pc := 102) C dX4_hasInterpreter_102 rfl ?_
        exact pr_iret (pc := 103) C E (Or.inr ⟨rfl, (pz_b01 _)⟩) (by omega) (by omega) ⟨rfl, rfl⟩ dX4_hasInterpreter_103
      · have j95_5 : pa_w G x 5 h 0 0 95 [some (pv_o 5 0), some (pv_i (nI t)), some (pv_i (nI hr)), some (pv_i (pz_b (pz_any (ms_hip h.2.1 t hr) k1))), some (pv_i (nI k1))] [pv_i (pz_b (pz_any (ms_hip h.2.1 t hr) (k1 + 1)))] := by
          refine pr_istore_n (pc := 95) C dX4_hasInterpreter_95 (by decide) ?_
          refine pr_iincN (pc := 96) C dX4_hasInterpreter_96 rfl k1 1 rfl rfl (by decide) ?_
          refine pr_goto (pc := 99) C 5 dX4_hasInterpreter_99 (by decide) ?_
          exact ih4 (k1 + 1) (by omega) (by omega)
        refine pr_iload_n (pc := 11) C dX4_hasInterpreter_11 rfl ?_
        refine pr_ifb_ne (pc := 12) C 90 dX4_hasInterpreter_12 (by decide) (fun c_12 => ?_) (fun c_12 => ?_)
        · refine pr_iconst (pc := 90) (v := 1) C dX4_hasInterpreter_90 (by decide) ?_
          refine pr_goto (pc := 91) C 95 dX4_hasInterpreter_91 (by decide) ?_
          exact pr_eqi (show (1 : Int32) = (pz_b (pz_any (ms_hip h.2.1 t hr) (k1 + 1))) from (by simp [-Int32.not_le, -Int32.not_lt, pz_b, pz_lt, pz_any, ms_hip, c_8, c_12])) j95_5
        · refine pr_iload (pc := 15) C dX4_hasInterpreter_15 rfl ?_
          refine pr_iload_n (pc := 17) C dX4_hasInterpreter_17 rfl ?_
          refine pr_icmp_eqN (pc := 18) C 94 k1 hr dX4_hasInterpreter_18 (by decide) rfl rfl (by omega) (by omega) (fun c_18 => ?_) (fun c_18 => ?_)
          · refine pr_iconst (pc := 94) (v := 0) C dX4_hasInterpreter_94 (by decide) ?_
            exact pr_eqi (show (0 : Int32) = (pz_b (pz_any (ms_hip h.2.1 t hr) (k1 + 1))) from (by simp [-Int32.not_le, -Int32.not_lt, pz_b, pz_lt, pz_any, ms_hip, c_8, c_12, eq_true c_18])) j95_5
          · refine pr_aload_n (pc := 21) C dX4_hasInterpreter_21 rfl ?_
            refine pr_geta (pc := 22) C 222 322 wf_X4_59 rfl rfl (by decide) (pl_5 _) dX4_hasInterpreter_22 ?_
            refine pr_iload_n (pc := 25) C dX4_hasInterpreter_25 rfl ?_
            refine pr_aldm (pc := 26) (n := 100) C 222 t rfl rfl rfl (pl_r5 (by decide)) rfl (by omega) (by decide) dX4_hasInterpreter_26 ?_
            refine pr_iload (pc := 27) C dX4_hasInterpreter_27 rfl ?_
            refine pr_sP (pc := 29) C (c_X4_isIn G _ h (h.2.1 222 t) (nI k1)) ws_X4_114 rfl rfl (by decide) (Nat.le_of_ble_eq_true rfl) (by omega) (by omega) dX4_hasInterpreter_29 ?_
            refine pr_ifb_eq (pc := 32) C 94 dX4_hasInterpreter_32 (by decide) (fun c_32 => ?_) (fun c_32 => ?_)
            · refine pr_iconst (pc := 94) (v := 0) C dX4_hasInterpreter_94 (by decide) ?_
              exact pr_eqi (show (0 : Int32) = (pz_b (pz_any (ms_hip h.2.1 t hr) (k1 + 1))) from (by simp [-Int32.not_le, -Int32.not_lt, pz_b, pz_lt, pz_any, ms_hip, c_8, c_12, eq_false c_18, c_32])) j95_5
            · refine pr_aload_n (pc := 35) C dX4_hasInterpreter_35 rfl ?_
              refine pr_geta (pc := 36) C 205 305 wf_X4_19 rfl rfl (by decide) (pl_5 _) dX4_hasInterpreter_36 ?_
              refine pr_iload (pc := 39) C dX4_hasInterpreter_39 rfl ?_
              refine pr_aldb (pc := 41) (n := 4) C 205 k1 rfl rfl rfl (pl_r5 (by decide)) rfl (by omega) (by decide) dX4_hasInterpreter_41 ?_
              refine pr_if_eq (pc := 42) C 94 dX4_hasInterpreter_42 (by decide) (fun c_42 => ?_) (fun c_42 => ?_)
              · refine pr_iconst (pc := 94) (v := 0) C dX4_hasInterpreter_94 (by decide) ?_
                exact pr_eqi (show (0 : Int32) = (pz_b (pz_any (ms_hip h.2.1 t hr) (k1 + 1))) from (by simp [-Int32.not_le, -Int32.not_lt, pz_b, pz_lt, pz_any, ms_hip, c_8, c_12, eq_false c_18, c_32, eq_true c_42])) j95_5
              · refine pr_aload_n (pc := 45) C dX4_hasInterpreter_45 rfl ?_
                refine pr_iload (pc := 46) C dX4_hasInterpreter_46 rfl ?_
                refine pr_vP (pc := 48) C (c_X4_isDeaf G _ h k1 (by first | assumption | omega)) wv_X4_174 rfl rfl (by decide) (by decide) (pl_5 _) (Nat.le_of_ble_eq_true rfl) (by omega) (by omega) dX4_hasInterpreter_48 ?_
                refine pr_ifb_ne (pc := 51) C 94 dX4_hasInterpreter_51 (by decide) (fun c_51 => ?_) (fun c_51 => ?_)
                · refine pr_iconst (pc := 94) (v := 0) C dX4_hasInterpreter_94 (by decide) ?_
                  exact pr_eqi (show (0 : Int32) = (pz_b (pz_any (ms_hip h.2.1 t hr) (k1 + 1))) from (by simp [-Int32.not_le, -Int32.not_lt, pz_b, pz_lt, pz_any, ms_hip, c_8, c_12, eq_false c_18, c_32, eq_false c_42, c_51])) j95_5
                · refine pr_aload_n (pc := 54) C dX4_hasInterpreter_54 rfl ?_
                  refine pr_geta (pc := 55) C 203 303 wf_X4_13 rfl rfl (by decide) (pl_5 _) dX4_hasInterpreter_55 ?_
                  refine pr_iload (pc := 58) C dX4_hasInterpreter_58 rfl ?_
                  refine pr_aldm (pc := 60) (n := 4) C 203 k1 rfl rfl rfl (pl_r5 (by decide)) rfl (by omega) (by decide) dX4_hasInterpreter_60 ?_
                  refine pr_aload_n (pc := 61) C dX4_hasInterpreter_61 rfl ?_
                  refine pr_geta (pc := 62) C 226 326 wf_X4_71 rfl rfl (by decide) (pl_5 _) dX4_hasInterpreter_62 ?_
                  refine pr_iload_n (pc := 65) C dX4_hasInterpreter_65 rfl ?_
                  refine pr_aldm (pc := 66) (n := 100) C 226 t rfl rfl rfl (pl_r5 (by decide)) rfl (by omega) (by decide) dX4_hasInterpreter_66 ?_
                  refine pr_sP (pc := 67) C (c_X4_isIn G _ h (h.2.1 203 k1) (h.2.1 226 t)) ws_X4_114 rfl rfl (by decide) (Nat.le_of_ble_eq_true rfl) (by omega) (by omega) dX4_hasInterpreter_67 ?_
                  refine pr_ifb_eq (pc := 70) C 94 dX4_hasInterpreter_70 (by decide) (fun c_70 => ?_) (fun c_70 => ?_)
                  · refine pr_iconst (pc := 94) (v := 0) C dX4_hasInterpreter_94 (by decide) ?_
                    exact pr_eqi (show (0 : Int32) = (pz_b (pz_any (ms_hip h.2.1 t hr) (k1 + 1))) from (by simp [-Int32.not_le, -Int32.not_lt, pz_b, pz_lt, pz_any, ms_hip, c_8, c_12, eq_false c_18, c_32, eq_false c_42, c_51, c_70])) j95_5
                  · refine pr_aload_n (pc := 73) C dX4_hasInterpreter_73 rfl ?_
                    refine pr_geta (pc := 74) C 203 303 wf_X4_13 rfl rfl (by decide) (pl_5 _) dX4_hasInterpreter_74 ?_
                    refine pr_iload (pc := 77) C dX4_hasInterpreter_77 rfl ?_
                    refine pr_aldm (pc := 79) (n := 4) C 203 k1 rfl rfl rfl (pl_r5 (by decide)) rfl (by omega) (by decide) dX4_hasInterpreter_79 ?_
                    refine pr_aload_n (pc := 80) C dX4_hasInterpreter_80 rfl ?_
                    refine pr_geta (pc := 81) C 203 303 wf_X4_13 rfl rfl (by decide) (pl_5 _) dX4_hasInterpreter_81 ?_
                    refine pr_iload_n (pc := 84) C dX4_hasInterpreter_84 rfl ?_
                    refine pr_aldm (pc := 85) (n := 4) C 203 hr rfl rfl rfl (pl_r5 (by decide)) rfl (by omega) (by decide) dX4_hasInterpreter_85 ?_
                    refine pr_iand (pc := 86) C dX4_hasInterpreter_86 ?_
                    refine pr_if_eq (pc := 87) C 94 dX4_hasInterpreter_87 (by decide) (fun c_87 => ?_) (fun c_87 => ?_)
                    · refine pr_iconst (pc := 94) (v := 0) C dX4_hasInterpreter_94 (by decide) ?_
                      exact pr_eqi (show (0 : Int32) = (pz_b (pz_any (ms_hip h.2.1 t hr) (k1 + 1))) from (by simp [-Int32.not_le, -Int32.not_lt, pz_b, pz_lt, pz_any, ms_hip, c_8, c_12, eq_false c_18, c_32, eq_false c_42, c_51, c_70, eq_true c_87])) j95_5
                    · refine pr_iconst (pc := 90) (v := 1) C dX4_hasInterpreter_90 (by decide) ?_
                      refine pr_goto (pc := 91) C 95 dX4_hasInterpreter_91 (by decide) ?_
                      exact pr_eqi (show (1 : Int32) = (pz_b (pz_any (ms_hip h.2.1 t hr) (k1 + 1))) from (by simp [-Int32.not_le, -Int32.not_lt, pz_b, pz_lt, pz_any, ms_hip, c_8, c_12, eq_false c_18, c_32, eq_false c_42, c_51, c_70, eq_false c_87])) j95_5
  exact lp2 (4 + 1) 0 (by omega) (by omega)

def ms_told1 (sp its set : Int32) : Bool := ms_in its 0 15 && ms_in set 1 15 && !ms_isIn set sp
def ms_told2 (T sp its of set : Int32) : Bool := ms_told1 sp its set && (!ms_ofTurn its || ms_in of 0 (T - 1)) && (!ms_ofAtom its || ms_in of 0 9)
def ms_told3 (T sp its of how set : Int32) : Bool := ms_told2 T sp its of set && ((decide (its ≠ 0) && decide (its ≠ 11)) || ms_in how 1 2) && (decide (its ≠ 2) || ms_in how 0 2) && (decide (its ≠ 9) || (ms_in how 0 9 && decide (how ≠ of)))
def ms_told4 (T sp its of how set fr : Int32) : Bool := ms_told3 T sp its of how set && (decide (1 < its) || ms_in fr (-1) 9) && ((decide (its ≠ 1) && decide (its ≠ 13)) || decide (ms_one set ≠ -1))
def ms_told (T sp its of how set fr : Int32) : Bool := ms_told4 T sp its of how set fr && (decide (its ≠ 13) || (ms_in of 0 255 && ms_in how 0 255 && decide (0 < of + how) && ms_in fr 1 20))
set_option maxRecDepth 100000 in
set_option maxHeartbeats 2000000 in
theorem c_X4_isTold (G : pa_G) (l : Launch) (h : pa_H) (sp its of how set fr : Int32) : pa_MP G l mX4_isTold 3 [pv_o 5 0, pv_i sp, pv_i its, pv_i of, pv_i how, pv_i set, pv_i fr] h (pv_i (pz_b (ms_told (h.2.1 217 0) sp its of how set fr))) := by
  refine pa_go l (by decide) (by simp [pa_c1l, pa_c1]) (fun _ => rfl) fun x C E el ea => ?_
  subst el
  show pa_w G x 8 h 0 0 0 [some (pv_o 5 0), some (pv_i sp), some (pv_i its), some (pv_i of), some (pv_i how), some (pv_i set), some (pv_i fr), none] []
  have j35_1 : pa_w G x 8 h 0 0 35 [some (pv_o 5 0), some (pv_i sp), some (pv_i its), some (pv_i of), some (pv_i how), some (pv_i set), some (pv_i fr), none] [pv_i (pz_b (ms_told1 sp its set))] := by
    refine pr_istore (pc := 35) C dX4_isTold_35 (by decide) ?_
    have j82_2 : pa_w G x 8 h 0 0 82 [some (pv_o 5 0), some (pv_i sp), some (pv_i its), some (pv_i of), some (pv_i how), some (pv_i set), some (pv_i fr), some (pv_i (pz_b (ms_told1 sp its set)))] [pv_i (pz_b (ms_told2 (h.2.1 217 0) sp its of set))] := by
      refine pr_istore (pc := 82) C dX4_isTold_82 (by decide) ?_
      have j149_3 : pa_w G x 8 h 0 0 149 [some (pv_o 5 0), some (pv_i sp), some (pv_i its), some (pv_i of), some (pv_i how), some (pv_i set), some (pv_i fr), some (pv_i (pz_b (ms_told2 (h.2.1 217 0) sp its of set)))] [pv_i (pz_b (ms_told3 (h.2.1 217 0) sp its of how set))] := by
        refine pr_istore (pc := 149) C dX4_isTold_149 (by decide) ?_
        have j197_4 : pa_w G x 8 h 0 0 197 [some (pv_o 5 0), some (pv_i sp), some (pv_i its), some (pv_i of), some (pv_i how), some (pv_i set), some (pv_i fr), some (pv_i (pz_b (ms_told3 (h.2.1 217 0) sp its of how set)))] [pv_i (pz_b (ms_told4 (h.2.1 217 0) sp its of how set fr))] := by
          refine pr_istore (pc := 197) C dX4_isTold_197 (by decide) ?_
          have j256_5 : pa_w G x 8 h 0 0 256 [some (pv_o 5 0), some (pv_i sp), some (pv_i its), some (pv_i of), some (pv_i how), some (pv_i set), some (pv_i fr), some (pv_i (pz_b (ms_told4 (h.2.1 217 0) sp its of how set fr)))] [pv_i (pz_b (ms_told (h.2.1 217 0) sp its of how set fr))] := by
            exact pr_iret (pc := 256) C E (Or.inr ⟨rfl, (pz_b01 _)⟩) (by omega) (by omega) ⟨rfl, rfl⟩ dX4_isTold_256
          refine pr_iload (pc := 199) C dX4_isTold_199 rfl ?_
          refine pr_ifb_eq (pc := 201) C 255 dX4_isTold_201 (by decide) (fun c_201 => ?_) (fun c_201 => ?_)
          · refine pr_iconst (pc := 255) (v := 0) C dX4_isTold_255 (by decide) ?_
            exact pr_eqi (show (0 : Int32) = (pz_b (ms_told (h.2.1 217 0) sp its of how set fr)) from (by simp [-Int32.not_le, -Int32.not_lt, pz_b, pz_lt, ms_told, c_201])) j256_5
          · refine pr_iload_n (pc := 204) C dX4_isTold_204 rfl ?_
            refine pr_bipush (pc := 205) (v := 13) C dX4_isTold_205 (by decide) ?_
            refine pr_icmp_ne (pc := 207) C 251 dX4_isTold_207 (by decide) (fun c_207 => ?_) (fun c_207 => ?_)
            · refine pr_iconst (pc := 251) (v := 1) C dX4_isTold_251 (by decide) ?_
              refine pr_goto (pc := 252) C 256 dX4_isTold_252 (by decide) ?_
              exact pr_eqi (show (1 : Int32) = (pz_b (ms_told (h.2.1 217 0) sp its of how set fr)) from (by simp [-Int32.not_le, -Int32.not_lt, pz_b, pz_lt, ms_told, c_201, eq_false c_207])) j256_5
            · refine pr_iload_n (pc := 210) C dX4_isTold_210 rfl ?_
              refine pr_iconst (pc := 211) (v := 0) C dX4_isTold_211 (by decide) ?_
              refine pr_sipush (pc := 212) (v := 255) C dX4_isTold_212 (by decide) ?_
              refine pr_sP (pc := 215) C (c_X4_in G _ h of (0 : Int32) (255 : Int32)) ws_X4_102 rfl rfl (by decide) (Nat.le_of_ble_eq_true rfl) (by omega) (by omega) dX4_isTold_215 ?_
              refine pr_ifb_eq (pc := 218) C 255 dX4_isTold_218 (by decide) (fun c_218 => ?_) (fun c_218 => ?_)
              · refine pr_iconst (pc := 255) (v := 0) C dX4_isTold_255 (by decide) ?_
                exact pr_eqi (show (0 : Int32) = (pz_b (ms_told (h.2.1 217 0) sp its of how set fr)) from (by simp [-Int32.not_le, -Int32.not_lt, pz_b, pz_lt, ms_told, c_201, eq_true c_207, c_218])) j256_5
              · refine pr_iload (pc := 221) C dX4_isTold_221 rfl ?_
                refine pr_iconst (pc := 223) (v := 0) C dX4_isTold_223 (by decide) ?_
                refine pr_sipush (pc := 224) (v := 255) C dX4_isTold_224 (by decide) ?_
                refine pr_sP (pc := 227) C (c_X4_in G _ h how (0 : Int32) (255 : Int32)) ws_X4_102 rfl rfl (by decide) (Nat.le_of_ble_eq_true rfl) (by omega) (by omega) dX4_isTold_227 ?_
                refine pr_ifb_eq (pc := 230) C 255 dX4_isTold_230 (by decide) (fun c_230 => ?_) (fun c_230 => ?_)
                · refine pr_iconst (pc := 255) (v := 0) C dX4_isTold_255 (by decide) ?_
                  exact pr_eqi (show (0 : Int32) = (pz_b (ms_told (h.2.1 217 0) sp its of how set fr)) from (by simp [-Int32.not_le, -Int32.not_lt, pz_b, pz_lt, ms_told, c_201, eq_true c_207, c_218, c_230])) j256_5
                · refine pr_iload_n (pc := 233) C dX4_isTold_233 rfl ?_
                  refine pr_iload (pc := 234) C dX4_isTold_234 rfl ?_
                  refine pr_iadd (pc := 236) C dX4_isTold_236 ?_
                  refine pr_if_le (pc := 237) C 255 dX4_isTold_237 (by decide) (fun c_237 => ?_) (fun c_237 => ?_)
                  · refine pr_iconst (pc := 255) (v := 0) C dX4_isTold_255 (by decide) ?_
                    exact pr_eqi (show (0 : Int32) = (pz_b (ms_told (h.2.1 217 0) sp its of how set fr)) from (by simp [-Int32.not_le, -Int32.not_lt, pz_b, pz_lt, ms_told, c_201, eq_true c_207, c_218, c_230, c_237])) j256_5
                  · refine pr_iload (pc := 240) C dX4_isTold_240 rfl ?_
                    refine pr_iconst (pc := 242) (v := 1) C dX4_isTold_242 (by decide) ?_
                    refine pr_bipush (pc := 243) (v := 20) C dX4_isTold_243 (by decide) ?_
                    refine pr_sP (pc := 245) C (c_X4_in G _ h fr (1 : Int32) (20 : Int32)) ws_X4_102 rfl rfl (by decide) (Nat.le_of_ble_eq_true rfl) (by omega) (by omega) dX4_isTold_245 ?_
                    refine pr_ifb_eq (pc := 248) C 255 dX4_isTold_248 (by decide) (fun c_248 => ?_) (fun c_248 => ?_)
                    · refine pr_iconst (pc := 255) (v := 0) C dX4_isTold_255 (by decide) ?_
                      exact pr_eqi (show (0 : Int32) = (pz_b (ms_told (h.2.1 217 0) sp its of how set fr)) from (by simp [-Int32.not_le, -Int32.not_lt, pz_b, pz_lt, ms_told, c_201, eq_true c_207, c_218, c_230, c_237, c_248])) j256_5
                    · refine pr_iconst (pc := 251) (v := 1) C dX4_isTold_251 (by decide) ?_
                      refine pr_goto (pc := 252) C 256 dX4_isTold_252 (by decide) ?_
                      exact pr_eqi (show (1 : Int32) = (pz_b (ms_told (h.2.1 217 0) sp its of how set fr)) from (by simp [-Int32.not_le, -Int32.not_lt, pz_b, pz_lt, ms_told, c_201, eq_true c_207, c_218, c_230, c_237, c_248])) j256_5
        refine pr_iload (pc := 151) C dX4_isTold_151 rfl ?_
        refine pr_ifb_eq (pc := 153) C 196 dX4_isTold_153 (by decide) (fun c_153 => ?_) (fun c_153 => ?_)
        · refine pr_iconst (pc := 196) (v := 0) C dX4_isTold_196 (by decide) ?_
          exact pr_eqi (show (0 : Int32) = (pz_b (ms_told4 (h.2.1 217 0) sp its of how set fr)) from (by simp [-Int32.not_le, -Int32.not_lt, pz_b, pz_lt, ms_told4, c_153])) j197_4
        · refine pr_iload_n (pc := 156) C dX4_isTold_156 rfl ?_
          refine pr_iconst (pc := 157) (v := 1) C dX4_isTold_157 (by decide) ?_
          refine pr_icmp_gtL (pc := 158) C 172 dX4_isTold_158 (by decide) (fun c_158 => ?_) (fun c_158 => ?_)
          · refine pr_iload_n (pc := 172) C dX4_isTold_172 rfl ?_
            refine pr_iconst (pc := 173) (v := 1) C dX4_isTold_173 (by decide) ?_
            refine pr_icmp_eq (pc := 174) C 183 dX4_isTold_174 (by decide) (fun c_174 => ?_) (fun c_174 => ?_)
            · refine pr_iload (pc := 183) C dX4_isTold_183 rfl ?_
              refine pr_sP (pc := 185) C (c_X4_one G _ h set) ws_X4_137 rfl rfl (by decide) (Nat.le_of_ble_eq_true rfl) (by omega) (by omega) dX4_isTold_185 ?_
              refine pr_iconst (pc := 188) (v := -1) C dX4_isTold_188 (by decide) ?_
              refine pr_icmp_eq (pc := 189) C 196 dX4_isTold_189 (by decide) (fun c_189 => ?_) (fun c_189 => ?_)
              · refine pr_iconst (pc := 196) (v := 0) C dX4_isTold_196 (by decide) ?_
                exact pr_eqi (show (0 : Int32) = (pz_b (ms_told4 (h.2.1 217 0) sp its of how set fr)) from (by simp [-Int32.not_le, -Int32.not_lt, pz_b, pz_lt, ms_told4, c_153, c_158, eq_true c_174, eq_true c_189])) j197_4
              · refine pr_iconst (pc := 192) (v := 1) C dX4_isTold_192 (by decide) ?_
                refine pr_goto (pc := 193) C 197 dX4_isTold_193 (by decide) ?_
                exact pr_eqi (show (1 : Int32) = (pz_b (ms_told4 (h.2.1 217 0) sp its of how set fr)) from (by simp [-Int32.not_le, -Int32.not_lt, pz_b, pz_lt, ms_told4, c_153, c_158, eq_true c_174, eq_false c_189])) j197_4
            · refine pr_iload_n (pc := 177) C dX4_isTold_177 rfl ?_
              refine pr_bipush (pc := 178) (v := 13) C dX4_isTold_178 (by decide) ?_
              refine pr_icmp_ne (pc := 180) C 192 dX4_isTold_180 (by decide) (fun c_180 => ?_) (fun c_180 => ?_)
              · refine pr_iconst (pc := 192) (v := 1) C dX4_isTold_192 (by decide) ?_
                refine pr_goto (pc := 193) C 197 dX4_isTold_193 (by decide) ?_
                exact pr_eqi (show (1 : Int32) = (pz_b (ms_told4 (h.2.1 217 0) sp its of how set fr)) from (by simp [-Int32.not_le, -Int32.not_lt, pz_b, pz_lt, ms_told4, c_153, c_158, eq_false c_174, eq_false c_180])) j197_4
              · refine pr_iload (pc := 183) C dX4_isTold_183 rfl ?_
                refine pr_sP (pc := 185) C (c_X4_one G _ h set) ws_X4_137 rfl rfl (by decide) (Nat.le_of_ble_eq_true rfl) (by omega) (by omega) dX4_isTold_185 ?_
                refine pr_iconst (pc := 188) (v := -1) C dX4_isTold_188 (by decide) ?_
                refine pr_icmp_eq (pc := 189) C 196 dX4_isTold_189 (by decide) (fun c_189 => ?_) (fun c_189 => ?_)
                · refine pr_iconst (pc := 196) (v := 0) C dX4_isTold_196 (by decide) ?_
                  exact pr_eqi (show (0 : Int32) = (pz_b (ms_told4 (h.2.1 217 0) sp its of how set fr)) from (by simp [-Int32.not_le, -Int32.not_lt, pz_b, pz_lt, ms_told4, c_153, c_158, eq_false c_174, eq_true c_180, eq_true c_189])) j197_4
                · refine pr_iconst (pc := 192) (v := 1) C dX4_isTold_192 (by decide) ?_
                  refine pr_goto (pc := 193) C 197 dX4_isTold_193 (by decide) ?_
                  exact pr_eqi (show (1 : Int32) = (pz_b (ms_told4 (h.2.1 217 0) sp its of how set fr)) from (by simp [-Int32.not_le, -Int32.not_lt, pz_b, pz_lt, ms_told4, c_153, c_158, eq_false c_174, eq_true c_180, eq_false c_189])) j197_4
          · refine pr_iload (pc := 161) C dX4_isTold_161 rfl ?_
            refine pr_iconst (pc := 163) (v := -1) C dX4_isTold_163 (by decide) ?_
            refine pr_bipush (pc := 164) (v := 9) C dX4_isTold_164 (by decide) ?_
            refine pr_sP (pc := 166) C (c_X4_in G _ h fr (-1 : Int32) (9 : Int32)) ws_X4_102 rfl rfl (by decide) (Nat.le_of_ble_eq_true rfl) (by omega) (by omega) dX4_isTold_166 ?_
            refine pr_ifb_eq (pc := 169) C 196 dX4_isTold_169 (by decide) (fun c_169 => ?_) (fun c_169 => ?_)
            · refine pr_iconst (pc := 196) (v := 0) C dX4_isTold_196 (by decide) ?_
              exact pr_eqi (show (0 : Int32) = (pz_b (ms_told4 (h.2.1 217 0) sp its of how set fr)) from (by simp [-Int32.not_le, -Int32.not_lt, pz_b, pz_lt, ms_told4, c_153, c_158, c_169])) j197_4
            · refine pr_iload_n (pc := 172) C dX4_isTold_172 rfl ?_
              refine pr_iconst (pc := 173) (v := 1) C dX4_isTold_173 (by decide) ?_
              refine pr_icmp_eq (pc := 174) C 183 dX4_isTold_174 (by decide) (fun c_174 => ?_) (fun c_174 => ?_)
              · refine pr_iload (pc := 183) C dX4_isTold_183 rfl ?_
                refine pr_sP (pc := 185) C (c_X4_one G _ h set) ws_X4_137 rfl rfl (by decide) (Nat.le_of_ble_eq_true rfl) (by omega) (by omega) dX4_isTold_185 ?_
                refine pr_iconst (pc := 188) (v := -1) C dX4_isTold_188 (by decide) ?_
                refine pr_icmp_eq (pc := 189) C 196 dX4_isTold_189 (by decide) (fun c_189 => ?_) (fun c_189 => ?_)
                · refine pr_iconst (pc := 196) (v := 0) C dX4_isTold_196 (by decide) ?_
                  exact pr_eqi (show (0 : Int32) = (pz_b (ms_told4 (h.2.1 217 0) sp its of how set fr)) from (by simp [-Int32.not_le, -Int32.not_lt, pz_b, pz_lt, ms_told4, c_153, c_158, c_169, eq_true c_174, eq_true c_189])) j197_4
                · refine pr_iconst (pc := 192) (v := 1) C dX4_isTold_192 (by decide) ?_
                  refine pr_goto (pc := 193) C 197 dX4_isTold_193 (by decide) ?_
                  exact pr_eqi (show (1 : Int32) = (pz_b (ms_told4 (h.2.1 217 0) sp its of how set fr)) from (by simp [-Int32.not_le, -Int32.not_lt, pz_b, pz_lt, ms_told4, c_153, c_158, c_169, eq_true c_174, eq_false c_189])) j197_4
              · refine pr_iload_n (pc := 177) C dX4_isTold_177 rfl ?_
                refine pr_bipush (pc := 178) (v := 13) C dX4_isTold_178 (by decide) ?_
                refine pr_icmp_ne (pc := 180) C 192 dX4_isTold_180 (by decide) (fun c_180 => ?_) (fun c_180 => ?_)
                · refine pr_iconst (pc := 192) (v := 1) C dX4_isTold_192 (by decide) ?_
                  refine pr_goto (pc := 193) C 197 dX4_isTold_193 (by decide) ?_
                  exact pr_eqi (show (1 : Int32) = (pz_b (ms_told4 (h.2.1 217 0) sp its of how set fr)) from (by simp [-Int32.not_le, -Int32.not_lt, pz_b, pz_lt, ms_told4, c_153, c_158, c_169, eq_false c_174, eq_false c_180])) j197_4
                · refine pr_iload (pc := 183) C dX4_isTold_183 rfl ?_
                  refine pr_sP (pc := 185) C (c_X4_one G _ h set) ws_X4_137 rfl rfl (by decide) (Nat.le_of_ble_eq_true rfl) (by omega) (by omega) dX4_isTold_185 ?_
                  refine pr_iconst (pc := 188) (v := -1) C dX4_isTold_188 (by decide) ?_
                  refine pr_icmp_eq (pc := 189) C 196 dX4_isTold_189 (by decide) (fun c_189 => ?_) (fun c_189 => ?_)
                  · refine pr_iconst (pc := 196) (v := 0) C dX4_isTold_196 (by decide) ?_
                    exact pr_eqi (show (0 : Int32) = (pz_b (ms_told4 (h.2.1 217 0) sp its of how set fr)) from (by simp [-Int32.not_le, -Int32.not_lt, pz_b, pz_lt, ms_told4, c_153, c_158, c_169, eq_false c_174, eq_true c_180, eq_true c_189])) j197_4
                  · refine pr_iconst (pc := 192) (v := 1) C dX4_isTold_192 (by decide) ?_
                    refine pr_goto (pc := 193) C 197 dX4_isTold_193 (by decide) ?_
                    exact pr_eqi (show (1 : Int32) = (pz_b (ms_told4 (h.2.1 217 0) sp its of how set fr)) from (by simp [-Int32.not_le, -Int32.not_lt, pz_b, pz_lt, ms_told4, c_153, c_158, c_169, eq_false c_174, eq_true c_180, eq_false c_189])) j197_4
      refine pr_iload (pc := 84) C dX4_isTold_84 rfl ?_
      refine pr_ifb_eq (pc := 86) C 148 dX4_isTold_86 (by decide) (fun c_86 => ?_) (fun c_86 => ?_)
      · refine pr_iconst (pc := 148) (v := 0) C dX4_isTold_148 (by decide) ?_
        exact pr_eqi (show (0 : Int32) = (pz_b (ms_told3 (h.2.1 217 0) sp its of how set)) from (by simp [-Int32.not_le, -Int32.not_lt, pz_b, pz_lt, ms_told3, c_86])) j149_3
      · refine pr_iload_n (pc := 89) C dX4_isTold_89 rfl ?_
        refine pr_if_eq (pc := 90) C 99 dX4_isTold_90 (by decide) (fun c_90 => ?_) (fun c_90 => ?_)
        · refine pr_iload (pc := 99) C dX4_isTold_99 rfl ?_
          refine pr_iconst (pc := 101) (v := 1) C dX4_isTold_101 (by decide) ?_
          refine pr_iconst (pc := 102) (v := 2) C dX4_isTold_102 (by decide) ?_
          refine pr_sP (pc := 103) C (c_X4_in G _ h how (1 : Int32) (2 : Int32)) ws_X4_102 rfl rfl (by decide) (Nat.le_of_ble_eq_true rfl) (by omega) (by omega) dX4_isTold_103 ?_
          refine pr_ifb_eq (pc := 106) C 148 dX4_isTold_106 (by decide) (fun c_106 => ?_) (fun c_106 => ?_)
          · refine pr_iconst (pc := 148) (v := 0) C dX4_isTold_148 (by decide) ?_
            exact pr_eqi (show (0 : Int32) = (pz_b (ms_told3 (h.2.1 217 0) sp its of how set)) from (by simp [-Int32.not_le, -Int32.not_lt, pz_b, pz_lt, ms_told3, c_86, eq_true c_90, c_106])) j149_3
          · refine pr_iload_n (pc := 109) C dX4_isTold_109 rfl ?_
            refine pr_iconst (pc := 110) (v := 2) C dX4_isTold_110 (by decide) ?_
            refine pr_icmp_ne (pc := 111) C 124 dX4_isTold_111 (by decide) (fun c_111 => ?_) (fun c_111 => ?_)
            · refine pr_iload_n (pc := 124) C dX4_isTold_124 rfl ?_
              refine pr_bipush (pc := 125) (v := 9) C dX4_isTold_125 (by decide) ?_
              refine pr_icmp_ne (pc := 127) C 144 dX4_isTold_127 (by decide) (fun c_127 => ?_) (fun c_127 => ?_)
              · refine pr_iconst (pc := 144) (v := 1) C dX4_isTold_144 (by decide) ?_
                refine pr_goto (pc := 145) C 149 dX4_isTold_145 (by decide) ?_
                exact pr_eqi (show (1 : Int32) = (pz_b (ms_told3 (h.2.1 217 0) sp its of how set)) from (by simp [-Int32.not_le, -Int32.not_lt, pz_b, pz_lt, ms_told3, c_86, eq_true c_90, c_106, eq_false c_111, eq_false c_127])) j149_3
              · refine pr_iload (pc := 130) C dX4_isTold_130 rfl ?_
                refine pr_sP (pc := 132) C (c_X4_isAtom G _ h how) ws_X4_118 rfl rfl (by decide) (Nat.le_of_ble_eq_true rfl) (by omega) (by omega) dX4_isTold_132 ?_
                refine pr_ifb_eq (pc := 135) C 148 dX4_isTold_135 (by decide) (fun c_135 => ?_) (fun c_135 => ?_)
                · refine pr_iconst (pc := 148) (v := 0) C dX4_isTold_148 (by decide) ?_
                  exact pr_eqi (show (0 : Int32) = (pz_b (ms_told3 (h.2.1 217 0) sp its of how set)) from (by simp [-Int32.not_le, -Int32.not_lt, pz_b, pz_lt, ms_told3, c_86, eq_true c_90, c_106, eq_false c_111, eq_true c_127, c_135])) j149_3
                · refine pr_iload (pc := 138) C dX4_isTold_138 rfl ?_
                  refine pr_iload_n (pc := 140) C dX4_isTold_140 rfl ?_
                  refine pr_icmp_eq (pc := 141) C 148 dX4_isTold_141 (by decide) (fun c_141 => ?_) (fun c_141 => ?_)
                  · refine pr_iconst (pc := 148) (v := 0) C dX4_isTold_148 (by decide) ?_
                    exact pr_eqi (show (0 : Int32) = (pz_b (ms_told3 (h.2.1 217 0) sp its of how set)) from (by simp [-Int32.not_le, -Int32.not_lt, pz_b, pz_lt, ms_told3, c_86, eq_true c_90, c_106, eq_false c_111, eq_true c_127, c_135, eq_true c_141])) j149_3
                  · refine pr_iconst (pc := 144) (v := 1) C dX4_isTold_144 (by decide) ?_
                    refine pr_goto (pc := 145) C 149 dX4_isTold_145 (by decide) ?_
                    exact pr_eqi (show (1 : Int32) = (pz_b (ms_told3 (h.2.1 217 0) sp its of how set)) from (by simp [-Int32.not_le, -Int32.not_lt, pz_b, pz_lt, ms_told3, c_86, eq_true c_90, c_106, eq_false c_111, eq_true c_127, c_135, eq_false c_141])) j149_3
            · refine pr_iload (pc := 114) C dX4_isTold_114 rfl ?_
              refine pr_iconst (pc := 116) (v := 0) C dX4_isTold_116 (by decide) ?_
              refine pr_iconst (pc := 117) (v := 2) C dX4_isTold_117 (by decide) ?_
              refine pr_sP (pc := 118) C (c_X4_in G _ h how (0 : Int32) (2 : Int32)) ws_X4_102 rfl rfl (by decide) (Nat.le_of_ble_eq_true rfl) (by omega) (by omega) dX4_isTold_118 ?_
              refine pr_ifb_eq (pc := 121) C 148 dX4_isTold_121 (by decide) (fun c_121 => ?_) (fun c_121 => ?_)
              · refine pr_iconst (pc := 148) (v := 0) C dX4_isTold_148 (by decide) ?_
                exact pr_eqi (show (0 : Int32) = (pz_b (ms_told3 (h.2.1 217 0) sp its of how set)) from (by simp [-Int32.not_le, -Int32.not_lt, pz_b, pz_lt, ms_told3, c_86, eq_true c_90, c_106, eq_true c_111, c_121])) j149_3
              · refine pr_iload_n (pc := 124) C dX4_isTold_124 rfl ?_
                refine pr_bipush (pc := 125) (v := 9) C dX4_isTold_125 (by decide) ?_
                refine pr_icmp_ne (pc := 127) C 144 dX4_isTold_127 (by decide) (fun c_127 => ?_) (fun c_127 => ?_)
                · refine pr_iconst (pc := 144) (v := 1) C dX4_isTold_144 (by decide) ?_
                  refine pr_goto (pc := 145) C 149 dX4_isTold_145 (by decide) ?_
                  exact pr_eqi (show (1 : Int32) = (pz_b (ms_told3 (h.2.1 217 0) sp its of how set)) from (by simp [-Int32.not_le, -Int32.not_lt, pz_b, pz_lt, ms_told3, c_86, eq_true c_90, c_106, eq_true c_111, c_121, eq_false c_127])) j149_3
                · refine pr_iload (pc := 130) C dX4_isTold_130 rfl ?_
                  refine pr_sP (pc := 132) C (c_X4_isAtom G _ h how) ws_X4_118 rfl rfl (by decide) (Nat.le_of_ble_eq_true rfl) (by omega) (by omega) dX4_isTold_132 ?_
                  refine pr_ifb_eq (pc := 135) C 148 dX4_isTold_135 (by decide) (fun c_135 => ?_) (fun c_135 => ?_)
                  · refine pr_iconst (pc := 148) (v := 0) C dX4_isTold_148 (by decide) ?_
                    exact pr_eqi (show (0 : Int32) = (pz_b (ms_told3 (h.2.1 217 0) sp its of how set)) from (by simp [-Int32.not_le, -Int32.not_lt, pz_b, pz_lt, ms_told3, c_86, eq_true c_90, c_106, eq_true c_111, c_121, eq_true c_127, c_135])) j149_3
                  · refine pr_iload (pc := 138) C dX4_isTold_138 rfl ?_
                    refine pr_iload_n (pc := 140) C dX4_isTold_140 rfl ?_
                    refine pr_icmp_eq (pc := 141) C 148 dX4_isTold_141 (by decide) (fun c_141 => ?_) (fun c_141 => ?_)
                    · refine pr_iconst (pc := 148) (v := 0) C dX4_isTold_148 (by decide) ?_
                      exact pr_eqi (show (0 : Int32) = (pz_b (ms_told3 (h.2.1 217 0) sp its of how set)) from (by simp [-Int32.not_le, -Int32.not_lt, pz_b, pz_lt, ms_told3, c_86, eq_true c_90, c_106, eq_true c_111, c_121, eq_true c_127, c_135, eq_true c_141])) j149_3
                    · refine pr_iconst (pc := 144) (v := 1) C dX4_isTold_144 (by decide) ?_
                      refine pr_goto (pc := 145) C 149 dX4_isTold_145 (by decide) ?_
                      exact pr_eqi (show (1 : Int32) = (pz_b (ms_told3 (h.2.1 217 0) sp its of how set)) from (by simp [-Int32.not_le, -Int32.not_lt, pz_b, pz_lt, ms_told3, c_86, eq_true c_90, c_106, eq_true c_111, c_121, eq_true c_127, c_135, eq_false c_141])) j149_3
        · refine pr_iload_n (pc := 93) C dX4_isTold_93 rfl ?_
          refine pr_bipush (pc := 94) (v := 11) C dX4_isTold_94 (by decide) ?_
          refine pr_icmp_ne (pc := 96) C 109 dX4_isTold_96 (by decide) (fun c_96 => ?_) (fun c_96 => ?_)
          · refine pr_iload_n (pc := 109) C dX4_isTold_109 rfl ?_
            refine pr_iconst (pc := 110) (v := 2) C dX4_isTold_110 (by decide) ?_
            refine pr_icmp_ne (pc := 111) C 124 dX4_isTold_111 (by decide) (fun c_111 => ?_) (fun c_111 => ?_)
            · refine pr_iload_n (pc := 124) C dX4_isTold_124 rfl ?_
              refine pr_bipush (pc := 125) (v := 9) C dX4_isTold_125 (by decide) ?_
              refine pr_icmp_ne (pc := 127) C 144 dX4_isTold_127 (by decide) (fun c_127 => ?_) (fun c_127 => ?_)
              · refine pr_iconst (pc := 144) (v := 1) C dX4_isTold_144 (by decide) ?_
                refine pr_goto (pc := 145) C 149 dX4_isTold_145 (by decide) ?_
                exact pr_eqi (show (1 : Int32) = (pz_b (ms_told3 (h.2.1 217 0) sp its of how set)) from (by simp [-Int32.not_le, -Int32.not_lt, pz_b, pz_lt, ms_told3, c_86, eq_false c_90, eq_false c_96, eq_false c_111, eq_false c_127])) j149_3
              · refine pr_iload (pc := 130) C dX4_isTold_130 rfl ?_
                refine pr_sP (pc := 132) C (c_X4_isAtom G _ h how) ws_X4_118 rfl rfl (by decide) (Nat.le_of_ble_eq_true rfl) (by omega) (by omega) dX4_isTold_132 ?_
                refine pr_ifb_eq (pc := 135) C 148 dX4_isTold_135 (by decide) (fun c_135 => ?_) (fun c_135 => ?_)
                · refine pr_iconst (pc := 148) (v := 0) C dX4_isTold_148 (by decide) ?_
                  exact pr_eqi (show (0 : Int32) = (pz_b (ms_told3 (h.2.1 217 0) sp its of how set)) from (by simp [-Int32.not_le, -Int32.not_lt, pz_b, pz_lt, ms_told3, c_86, eq_false c_90, eq_false c_96, eq_false c_111, eq_true c_127, c_135])) j149_3
                · refine pr_iload (pc := 138) C dX4_isTold_138 rfl ?_
                  refine pr_iload_n (pc := 140) C dX4_isTold_140 rfl ?_
                  refine pr_icmp_eq (pc := 141) C 148 dX4_isTold_141 (by decide) (fun c_141 => ?_) (fun c_141 => ?_)
                  · refine pr_iconst (pc := 148) (v := 0) C dX4_isTold_148 (by decide) ?_
                    exact pr_eqi (show (0 : Int32) = (pz_b (ms_told3 (h.2.1 217 0) sp its of how set)) from (by simp [-Int32.not_le, -Int32.not_lt, pz_b, pz_lt, ms_told3, c_86, eq_false c_90, eq_false c_96, eq_false c_111, eq_true c_127, c_135, eq_true c_141])) j149_3
                  · refine pr_iconst (pc := 144) (v := 1) C dX4_isTold_144 (by decide) ?_
                    refine pr_goto (pc := 145) C 149 dX4_isTold_145 (by decide) ?_
                    exact pr_eqi (show (1 : Int32) = (pz_b (ms_told3 (h.2.1 217 0) sp its of how set)) from (by simp [-Int32.not_le, -Int32.not_lt, pz_b, pz_lt, ms_told3, c_86, eq_false c_90, eq_false c_96, eq_false c_111, eq_true c_127, c_135, eq_false c_141])) j149_3
            · refine pr_iload (pc := 114) C dX4_isTold_114 rfl ?_
              refine pr_iconst (pc := 116) (v := 0) C dX4_isTold_116 (by decide) ?_
              refine pr_iconst (pc := 117) (v := 2) C dX4_isTold_117 (by decide) ?_
              refine pr_sP (pc := 118) C (c_X4_in G _ h how (0 : Int32) (2 : Int32)) ws_X4_102 rfl rfl (by decide) (Nat.le_of_ble_eq_true rfl) (by omega) (by omega) dX4_isTold_118 ?_
              refine pr_ifb_eq (pc := 121) C 148 dX4_isTold_121 (by decide) (fun c_121 => ?_) (fun c_121 => ?_)
              · refine pr_iconst (pc := 148) (v := 0) C dX4_isTold_148 (by decide) ?_
                exact pr_eqi (show (0 : Int32) = (pz_b (ms_told3 (h.2.1 217 0) sp its of how set)) from (by simp [-Int32.not_le, -Int32.not_lt, pz_b, pz_lt, ms_told3, c_86, eq_false c_90, eq_false c_96, eq_true c_111, c_121])) j149_3
              · refine pr_iload_n (pc := 124) C dX4_isTold_124 rfl ?_
                refine pr_bipush (pc := 125) (v := 9) C dX4_isTold_125 (by decide) ?_
                refine pr_icmp_ne (pc := 127) C 144 dX4_isTold_127 (by decide) (fun c_127 => ?_) (fun c_127 => ?_)
                · refine pr_iconst (pc := 144) (v := 1) C dX4_isTold_144 (by decide) ?_
                  refine pr_goto (pc := 145) C 149 dX4_isTold_145 (by decide) ?_
                  exact pr_eqi (show (1 : Int32) = (pz_b (ms_told3 (h.2.1 217 0) sp its of how set)) from (by simp [-Int32.not_le, -Int32.not_lt, pz_b, pz_lt, ms_told3, c_86, eq_false c_90, eq_false c_96, eq_true c_111, c_121, eq_false c_127])) j149_3
                · refine pr_iload (pc := 130) C dX4_isTold_130 rfl ?_
                  refine pr_sP (pc := 132) C (c_X4_isAtom G _ h how) ws_X4_118 rfl rfl (by decide) (Nat.le_of_ble_eq_true rfl) (by omega) (by omega) dX4_isTold_132 ?_
                  refine pr_ifb_eq (pc := 135) C 148 dX4_isTold_135 (by decide) (fun c_135 => ?_) (fun c_135 => ?_)
                  · refine pr_iconst (pc := 148) (v := 0) C dX4_isTold_148 (by decide) ?_
                    exact pr_eqi (show (0 : Int32) = (pz_b (ms_told3 (h.2.1 217 0) sp its of how set)) from (by simp [-Int32.not_le, -Int32.not_lt, pz_b, pz_lt, ms_told3, c_86, eq_false c_90, eq_false c_96, eq_true c_111, c_121, eq_true c_127, c_135])) j149_3
                  · refine pr_iload (pc := 138) C dX4_isTold_138 rfl ?_
                    refine pr_iload_n (pc := 140) C dX4_isTold_140 rfl ?_
                    refine pr_icmp_eq (pc := 141) C 148 dX4_isTold_141 (by decide) (fun c_141 => ?_) (fun c_141 => ?_)
                    · refine pr_iconst (pc := 148) (v := 0) C dX4_isTold_148 (by decide) ?_
                      exact pr_eqi (show (0 : Int32) = (pz_b (ms_told3 (h.2.1 217 0) sp its of how set)) from (by simp [-Int32.not_le, -Int32.not_lt, pz_b, pz_lt, ms_told3, c_86, eq_false c_90, eq_false c_96, eq_true c_111, c_121, eq_true c_127, c_135, eq_true c_141])) j149_3
                    · refine pr_iconst (pc := 144) (v := 1) C dX4_isTold_144 (by decide) ?_
                      refine pr_goto (pc := 145) C 149 dX4_isTold_145 (by decide) ?_
                      exact pr_eqi (show (1 : Int32) = (pz_b (ms_told3 (h.2.1 217 0) sp its of how set)) from (by simp [-Int32.not_le, -Int32.not_lt, pz_b, pz_lt, ms_told3, c_86, eq_false c_90, eq_false c_96, eq_true c_111, c_121, eq_true c_127, c_135, eq_false c_141])) j149_3
          · refine pr_iload (pc := 99) C dX4_isTold_99 rfl ?_
            refine pr_iconst (pc := 101) (v := 1) C dX4_isTold_101 (by decide) ?_
            refine pr_iconst (pc := 102) (v := 2) C dX4_isTold_102 (by decide) ?_
            refine pr_sP (pc := 103) C (c_X4_in G _ h how (1 : Int32) (2 : Int32)) ws_X4_102 rfl rfl (by decide) (Nat.le_of_ble_eq_true rfl) (by omega) (by omega) dX4_isTold_103 ?_
            refine pr_ifb_eq (pc := 106) C 148 dX4_isTold_106 (by decide) (fun c_106 => ?_) (fun c_106 => ?_)
            · refine pr_iconst (pc := 148) (v := 0) C dX4_isTold_148 (by decide) ?_
              exact pr_eqi (show (0 : Int32) = (pz_b (ms_told3 (h.2.1 217 0) sp its of how set)) from (by simp [-Int32.not_le, -Int32.not_lt, pz_b, pz_lt, ms_told3, c_86, eq_false c_90, eq_true c_96, c_106])) j149_3
            · refine pr_iload_n (pc := 109) C dX4_isTold_109 rfl ?_
              refine pr_iconst (pc := 110) (v := 2) C dX4_isTold_110 (by decide) ?_
              refine pr_icmp_ne (pc := 111) C 124 dX4_isTold_111 (by decide) (fun c_111 => ?_) (fun c_111 => ?_)
              · refine pr_iload_n (pc := 124) C dX4_isTold_124 rfl ?_
                refine pr_bipush (pc := 125) (v := 9) C dX4_isTold_125 (by decide) ?_
                refine pr_icmp_ne (pc := 127) C 144 dX4_isTold_127 (by decide) (fun c_127 => ?_) (fun c_127 => ?_)
                · refine pr_iconst (pc := 144) (v := 1) C dX4_isTold_144 (by decide) ?_
                  refine pr_goto (pc := 145) C 149 dX4_isTold_145 (by decide) ?_
                  exact pr_eqi (show (1 : Int32) = (pz_b (ms_told3 (h.2.1 217 0) sp its of how set)) from (by simp [-Int32.not_le, -Int32.not_lt, pz_b, pz_lt, ms_told3, c_86, eq_false c_90, eq_true c_96, c_106, eq_false c_111, eq_false c_127])) j149_3
                · refine pr_iload (pc := 130) C dX4_isTold_130 rfl ?_
                  refine pr_sP (pc := 132) C (c_X4_isAtom G _ h how) ws_X4_118 rfl rfl (by decide) (Nat.le_of_ble_eq_true rfl) (by omega) (by omega) dX4_isTold_132 ?_
                  refine pr_ifb_eq (pc := 135) C 148 dX4_isTold_135 (by decide) (fun c_135 => ?_) (fun c_135 => ?_)
                  · refine pr_iconst (pc := 148) (v := 0) C dX4_isTold_148 (by decide) ?_
                    exact pr_eqi (show (0 : Int32) = (pz_b (ms_told3 (h.2.1 217 0) sp its of how set)) from (by simp [-Int32.not_le, -Int32.not_lt, pz_b, pz_lt, ms_told3, c_86, eq_false c_90, eq_true c_96, c_106, eq_false c_111, eq_true c_127, c_135])) j149_3
                  · refine pr_iload (pc := 138) C dX4_isTold_138 rfl ?_
                    refine pr_iload_n (pc := 140) C dX4_isTold_140 rfl ?_
                    refine pr_icmp_eq (pc := 141) C 148 dX4_isTold_141 (by decide) (fun c_141 => ?_) (fun c_141 => ?_)
                    · refine pr_iconst (pc := 148) (v := 0) C dX4_isTold_148 (by decide) ?_
                      exact pr_eqi (show (0 : Int32) = (pz_b (ms_told3 (h.2.1 217 0) sp its of how set)) from (by simp [-Int32.not_le, -Int32.not_lt, pz_b, pz_lt, ms_told3, c_86, eq_false c_90, eq_true c_96, c_106, eq_false c_111, eq_true c_127, c_135, eq_true c_141])) j149_3
                    · refine pr_iconst (pc := 144) (v := 1) C dX4_isTold_144 (by decide) ?_
                      refine pr_goto (pc := 145) C 149 dX4_isTold_145 (by decide) ?_
                      exact pr_eqi (show (1 : Int32) = (pz_b (ms_told3 (h.2.1 217 0) sp its of how set)) from (by simp [-Int32.not_le, -Int32.not_lt, pz_b, pz_lt, ms_told3, c_86, eq_false c_90, eq_true c_96, c_106, eq_false c_111, eq_true c_127, c_135, eq_false c_141])) j149_3
              · refine pr_iload (pc := 114) C dX4_isTold_114 rfl ?_
                refine pr_iconst (pc := 116) (v := 0) C dX4_isTold_116 (by decide) ?_
                refine pr_iconst (pc := 117) (v := 2) C dX4_isTold_117 (by decide) ?_
                refine pr_sP (pc := 118) C (c_X4_in G _ h how (0 : Int32) (2 : Int32)) ws_X4_102 rfl rfl (by decide) (Nat.le_of_ble_eq_true rfl) (by omega) (by omega) dX4_isTold_118 ?_
                refine pr_ifb_eq (pc := 121) C 148 dX4_isTold_121 (by decide) (fun c_121 => ?_) (fun c_121 => ?_)
                · refine pr_iconst (pc := 148) (v := 0) C dX4_isTold_148 (by decide) ?_
                  exact pr_eqi (show (0 : Int32) = (pz_b (ms_told3 (h.2.1 217 0) sp its of how set)) from (by simp [-Int32.not_le, -Int32.not_lt, pz_b, pz_lt, ms_told3, c_86, eq_false c_90, eq_true c_96, c_106, eq_true c_111, c_121])) j149_3
                · refine pr_iload_n (pc := 124) C dX4_isTold_124 rfl ?_
                  refine pr_bipush (pc := 125) (v := 9) C dX4_isTold_125 (by decide) ?_
                  refine pr_icmp_ne (pc := 127) C 144 dX4_isTold_127 (by decide) (fun c_127 => ?_) (fun c_127 => ?_)
                  · refine pr_iconst (pc := 144) (v := 1) C dX4_isTold_144 (by decide) ?_
                    refine pr_goto (pc := 145) C 149 dX4_isTold_145 (by decide) ?_
                    exact pr_eqi (show (1 : Int32) = (pz_b (ms_told3 (h.2.1 217 0) sp its of how set)) from (by simp [-Int32.not_le, -Int32.not_lt, pz_b, pz_lt, ms_told3, c_86, eq_false c_90, eq_true c_96, c_106, eq_true c_111, c_121, eq_false c_127])) j149_3
                  · refine pr_iload (pc := 130) C dX4_isTold_130 rfl ?_
                    refine pr_sP (pc := 132) C (c_X4_isAtom G _ h how) ws_X4_118 rfl rfl (by decide) (Nat.le_of_ble_eq_true rfl) (by omega) (by omega) dX4_isTold_132 ?_
                    refine pr_ifb_eq (pc := 135) C 148 dX4_isTold_135 (by decide) (fun c_135 => ?_) (fun c_135 => ?_)
                    · refine pr_iconst (pc := 148) (v := 0) C dX4_isTold_148 (by decide) ?_
                      exact pr_eqi (show (0 : Int32) = (pz_b (ms_told3 (h.2.1 217 0) sp its of how set)) from (by simp [-Int32.not_le, -Int32.not_lt, pz_b, pz_lt, ms_told3, c_86, eq_false c_90, eq_true c_96, c_106, eq_true c_111, c_121, eq_true c_127, c_135])) j149_3
                    · refine pr_iload (pc := 138) C dX4_isTold_138 rfl ?_
                      refine pr_iload_n (pc := 140) C dX4_isTold_140 rfl ?_
                      refine pr_icmp_eq (pc := 141) C 148 dX4_isTold_141 (by decide) (fun c_141 => ?_) (fun c_141 => ?_)
                      · refine pr_iconst (pc := 148) (v := 0) C dX4_isTold_148 (by decide) ?_
                        exact pr_eqi (show (0 : Int32) = (pz_b (ms_told3 (h.2.1 217 0) sp its of how set)) from (by simp [-Int32.not_le, -Int32.not_lt, pz_b, pz_lt, ms_told3, c_86, eq_false c_90, eq_true c_96, c_106, eq_true c_111, c_121, eq_true c_127, c_135, eq_true c_141])) j149_3
                      · refine pr_iconst (pc := 144) (v := 1) C dX4_isTold_144 (by decide) ?_
                        refine pr_goto (pc := 145) C 149 dX4_isTold_145 (by decide) ?_
                        exact pr_eqi (show (1 : Int32) = (pz_b (ms_told3 (h.2.1 217 0) sp its of how set)) from (by simp [-Int32.not_le, -Int32.not_lt, pz_b, pz_lt, ms_told3, c_86, eq_false c_90, eq_true c_96, c_106, eq_true c_111, c_121, eq_true c_127, c_135, eq_false c_141])) j149_3
    refine pr_iload (pc := 37) C dX4_isTold_37 rfl ?_
    refine pr_ifb_eq (pc := 39) C 81 dX4_isTold_39 (by decide) (fun c_39 => ?_) (fun c_39 => ?_)
    · refine pr_iconst (pc := 81) (v := 0) C dX4_isTold_81 (by decide) ?_
      exact pr_eqi (show (0 : Int32) = (pz_b (ms_told2 (h.2.1 217 0) sp its of set)) from (by simp [-Int32.not_le, -Int32.not_lt, pz_b, pz_lt, ms_told2, c_39])) j82_2
    · refine pr_iload_n (pc := 42) C dX4_isTold_42 rfl ?_
      refine pr_sP (pc := 43) C (c_X4_isOfTurn G _ h its) ws_X4_128 rfl rfl (by decide) (Nat.le_of_ble_eq_true rfl) (by omega) (by omega) dX4_isTold_43 ?_
      refine pr_ifb_eq (pc := 46) C 63 dX4_isTold_46 (by decide) (fun c_46 => ?_) (fun c_46 => ?_)
      · refine pr_iload_n (pc := 63) C dX4_isTold_63 rfl ?_
        refine pr_sP (pc := 64) C (c_X4_isOfAtom G _ h its) ws_X4_134 rfl rfl (by decide) (Nat.le_of_ble_eq_true rfl) (by omega) (by omega) dX4_isTold_64 ?_
        refine pr_ifb_eq (pc := 67) C 77 dX4_isTold_67 (by decide) (fun c_67 => ?_) (fun c_67 => ?_)
        · refine pr_iconst (pc := 77) (v := 1) C dX4_isTold_77 (by decide) ?_
          refine pr_goto (pc := 78) C 82 dX4_isTold_78 (by decide) ?_
          exact pr_eqi (show (1 : Int32) = (pz_b (ms_told2 (h.2.1 217 0) sp its of set)) from (by simp [-Int32.not_le, -Int32.not_lt, pz_b, pz_lt, ms_told2, c_39, c_46, c_67])) j82_2
        · refine pr_iload_n (pc := 70) C dX4_isTold_70 rfl ?_
          refine pr_sP (pc := 71) C (c_X4_isAtom G _ h of) ws_X4_118 rfl rfl (by decide) (Nat.le_of_ble_eq_true rfl) (by omega) (by omega) dX4_isTold_71 ?_
          refine pr_ifb_eq (pc := 74) C 81 dX4_isTold_74 (by decide) (fun c_74 => ?_) (fun c_74 => ?_)
          · refine pr_iconst (pc := 81) (v := 0) C dX4_isTold_81 (by decide) ?_
            exact pr_eqi (show (0 : Int32) = (pz_b (ms_told2 (h.2.1 217 0) sp its of set)) from (by simp [-Int32.not_le, -Int32.not_lt, pz_b, pz_lt, ms_told2, c_39, c_46, c_67, c_74])) j82_2
          · refine pr_iconst (pc := 77) (v := 1) C dX4_isTold_77 (by decide) ?_
            refine pr_goto (pc := 78) C 82 dX4_isTold_78 (by decide) ?_
            exact pr_eqi (show (1 : Int32) = (pz_b (ms_told2 (h.2.1 217 0) sp its of set)) from (by simp [-Int32.not_le, -Int32.not_lt, pz_b, pz_lt, ms_told2, c_39, c_46, c_67, c_74])) j82_2
      · refine pr_iload_n (pc := 49) C dX4_isTold_49 rfl ?_
        refine pr_iconst (pc := 50) (v := 0) C dX4_isTold_50 (by decide) ?_
        refine pr_aload_n (pc := 51) C dX4_isTold_51 rfl ?_
        refine pr_getm (pc := 52) C 217 wf_X4_131 rfl (by decide) (pl_5 _) dX4_isTold_52 ?_
        refine pr_iconst (pc := 55) (v := 1) C dX4_isTold_55 (by decide) ?_
        refine pr_isub (pc := 56) C dX4_isTold_56 ?_
        refine pr_sP (pc := 57) C (c_X4_in G _ h of (0 : Int32) ((h.2.1 217 0) - (1 : Int32))) ws_X4_102 rfl rfl (by decide) (Nat.le_of_ble_eq_true rfl) (by omega) (by omega) dX4_isTold_57 ?_
        refine pr_ifb_eq (pc := 60) C 81 dX4_isTold_60 (by decide) (fun c_60 => ?_) (fun c_60 => ?_)
        · refine pr_iconst (pc := 81) (v := 0) C dX4_isTold_81 (by decide) ?_
          exact pr_eqi (show (0 : Int32) = (pz_b (ms_told2 (h.2.1 217 0) sp its of set)) from (by simp [-Int32.not_le, -Int32.not_lt, pz_b, pz_lt, ms_told2, c_39, c_46, c_60])) j82_2
        · refine pr_iload_n (pc := 63) C dX4_isTold_63 rfl ?_
          refine pr_sP (pc := 64) C (c_X4_isOfAtom G _ h its) ws_X4_134 rfl rfl (by decide) (Nat.le_of_ble_eq_true rfl) (by omega) (by omega) dX4_isTold_64 ?_
          refine pr_ifb_eq (pc := 67) C 77 dX4_isTold_67 (by decide) (fun c_67 => ?_) (fun c_67 => ?_)
          · refine pr_iconst (pc := 77) (v := 1) C dX4_isTold_77 (by decide) ?_
            refine pr_goto (pc := 78) C 82 dX4_isTold_78 (by decide) ?_
            exact pr_eqi (show (1 : Int32) = (pz_b (ms_told2 (h.2.1 217 0) sp its of set)) from (by simp [-Int32.not_le, -Int32.not_lt, pz_b, pz_lt, ms_told2, c_39, c_46, c_60, c_67])) j82_2
          · refine pr_iload_n (pc := 70) C dX4_isTold_70 rfl ?_
            refine pr_sP (pc := 71) C (c_X4_isAtom G _ h of) ws_X4_118 rfl rfl (by decide) (Nat.le_of_ble_eq_true rfl) (by omega) (by omega) dX4_isTold_71 ?_
            refine pr_ifb_eq (pc := 74) C 81 dX4_isTold_74 (by decide) (fun c_74 => ?_) (fun c_74 => ?_)
            · refine pr_iconst (pc := 81) (v := 0) C dX4_isTold_81 (by decide) ?_
              exact pr_eqi (show (0 : Int32) = (pz_b (ms_told2 (h.2.1 217 0) sp its of set)) from (by simp [-Int32.not_le, -Int32.not_lt, pz_b, pz_lt, ms_told2, c_39, c_46, c_60, c_67, c_74])) j82_2
            · refine pr_iconst (pc := 77) (v := 1) C dX4_isTold_77 (by decide) ?_
              refine pr_goto (pc := 78) C 82 dX4_isTold_78 (by decide) ?_
              exact pr_eqi (show (1 : Int32) = (pz_b (ms_told2 (h.2.1 217 0) sp its of set)) from (by simp [-Int32.not_le, -Int32.not_lt, pz_b, pz_lt, ms_told2, c_39, c_46, c_60, c_67, c_74])) j82_2
  refine pr_iload_n (pc := 0) C dX4_isTold_0 rfl ?_
  refine pr_iconst (pc := 1) (v := 0) C dX4_isTold_1 (by decide) ?_
  refine pr_bipush (pc := 2) (v := 15) C dX4_isTold_2 (by decide) ?_
  refine pr_sP (pc := 4) C (c_X4_in G _ h its (0 : Int32) (15 : Int32)) ws_X4_102 rfl rfl (by decide) (Nat.le_of_ble_eq_true rfl) (by omega) (by omega) dX4_isTold_4 ?_
  refine pr_ifb_eq (pc := 7) C 34 dX4_isTold_7 (by decide) (fun c_7 => ?_) (fun c_7 => ?_)
  · refine pr_iconst (pc := 34) (v := 0) C dX4_isTold_34 (by decide) ?_
    exact pr_eqi (show (0 : Int32) = (pz_b (ms_told1 sp its set)) from (by simp [-Int32.not_le, -Int32.not_lt, pz_b, pz_lt, ms_told1, c_7])) j35_1
  · refine pr_iload (pc := 10) C dX4_isTold_10 rfl ?_
    refine pr_iconst (pc := 12) (v := 1) C dX4_isTold_12 (by decide) ?_
    refine pr_bipush (pc := 13) (v := 15) C dX4_isTold_13 (by decide) ?_
    refine pr_sP (pc := 15) C (c_X4_in G _ h set (1 : Int32) (15 : Int32)) ws_X4_102 rfl rfl (by decide) (Nat.le_of_ble_eq_true rfl) (by omega) (by omega) dX4_isTold_15 ?_
    refine pr_ifb_eq (pc := 18) C 34 dX4_isTold_18 (by decide) (fun c_18 => ?_) (fun c_18 => ?_)
    · refine pr_iconst (pc := 34) (v := 0) C dX4_isTold_34 (by decide) ?_
      exact pr_eqi (show (0 : Int32) = (pz_b (ms_told1 sp its set)) from (by simp [-Int32.not_le, -Int32.not_lt, pz_b, pz_lt, ms_told1, c_7, c_18])) j35_1
    · refine pr_iload (pc := 21) C dX4_isTold_21 rfl ?_
      refine pr_iload_n (pc := 23) C dX4_isTold_23 rfl ?_
      refine pr_sP (pc := 24) C (c_X4_isIn G _ h set sp) ws_X4_114 rfl rfl (by decide) (Nat.le_of_ble_eq_true rfl) (by omega) (by omega) dX4_isTold_24 ?_
      refine pr_ifb_ne (pc := 27) C 34 dX4_isTold_27 (by decide) (fun c_27 => ?_) (fun c_27 => ?_)
      · refine pr_iconst (pc := 34) (v := 0) C dX4_isTold_34 (by decide) ?_
        exact pr_eqi (show (0 : Int32) = (pz_b (ms_told1 sp its set)) from (by simp [-Int32.not_le, -Int32.not_lt, pz_b, pz_lt, ms_told1, c_7, c_18, c_27])) j35_1
      · refine pr_iconst (pc := 30) (v := 1) C dX4_isTold_30 (by decide) ?_
        refine pr_goto (pc := 31) C 35 dX4_isTold_31 (by decide) ?_
        exact pr_eqi (show (1 : Int32) = (pz_b (ms_told1 sp its set)) from (by simp [-Int32.not_le, -Int32.not_lt, pz_b, pz_lt, ms_told1, c_7, c_18, c_27])) j35_1

theorem pq_lt6 {Q : Nat} (h : Q ≤ 6) : (6 : Int32) ≤ nI Q ↔ 6 ≤ Q := nI_leI (a := 6) (b := Q) (by decide) (by omega)
theorem pq_lt0 {Q : Nat} (h : Q ≤ 6) : nI Q ≤ (0 : Int32) ↔ Q = 0 := (nI_leI (a := Q) (b := 0) (by omega) (by decide)).trans (by omega)
theorem pz_cl {u : Nat} (h : u < 1000) : (nI u).toNatClampNeg = u := nI_clamp (by omega)
def ms_poss (S : Nat → Nat → Int32) (sp a : Nat) (of how set : Int32) : Bool :=
  if a = 1 then decide (S 231 0 < 6) else
  if a = 2 then decide (ms_top S = nI sp) else
  if a = 3 then decide (0 < S 231 0) && decide (S 218 (ms_aq S) = nI sp) else
  if a = 4 then decide (S 224 of.toNatClampNeg = 1) && decide (S 228 (4 * of.toNatClampNeg + sp) = 3) else
  if a = 5 then decide (S 224 of.toNatClampNeg = 1) && decide (S 228 (4 * of.toNatClampNeg + sp) = 1) else
  if a = 6 then decide (S 224 of.toNatClampNeg = 1) && decide (S 218 of.toNatClampNeg = nI sp) && ms_isMissed S of.toNatClampNeg else
  if a = 7 ∨ a = 8 then ms_isClaim S of.toNatClampNeg && decide (3 ≤ S 228 (4 * of.toNatClampNeg + sp)) else
  if a = 9 ∨ a = 10 then decide (S 208 (10 * sp + of.toNatClampNeg) ≠ 0) else
  if a = 12 then decide (S 210 (10 * sp + of.toNatClampNeg) ≠ 0) else
  if a = 13 then ms_owns S (nI sp) of && ms_owns S (ms_one set) how else
  if a = 14 ∨ a = 15 then decide (S 219 of.toNatClampNeg = 13) && ms_isIn (S 222 of.toNatClampNeg) (nI sp) && decide (S 227 of.toNatClampNeg ≠ 0) && decide (3 ≤ S 228 (4 * of.toNatClampNeg + sp)) else true
/-- what an act is about: a turn, an atom -/
def mw_of (a : Nat) (of : Int32) : Prop := ((4 ≤ a ∧ a ≤ 8) ∨ 14 ≤ a → ∃ u, u < 100 ∧ of = nI u) ∧ (9 ≤ a ∧ a ≤ 12 ∨ a ≤ 1 → ∃ u, u < 10 ∧ of = nI u)
set_option maxRecDepth 100000 in
set_option maxHeartbeats 2000000 in
theorem c_X4_isPossible (G : pa_G) (l : Launch) (h : pa_H) (sp av Q q0 : Nat) (of how set : Int32) (hs : sp < 4) (ha : av < 16) (hof : mw_of av of) (hw : mw_Q h.2.1 Q q0) : pa_MP G l mX4_isPossible 3 [pv_o 5 0, pv_i (nI sp), pv_i (nI av), pv_i of, pv_i how, pv_i set] h (pv_i (pz_b (ms_poss h.2.1 sp av of how set))) := by
  refine pa_go l (by decide) (by simp [pa_c1l, pa_c1]) (fun _ => rfl) fun x C E el ea => ?_
  subst el
  obtain ⟨-, hQ6, hq100, -⟩ := id hw
  show pa_w G x 6 h 0 0 0 [some (pv_o 5 0), some (pv_i (nI sp)), some (pv_i (nI av)), some (pv_i of), some (pv_i how), some (pv_i set)] []
  refine pr_iload_n (pc := 0) C dX4_isPossible_0 rfl ?_
  obtain rfl | rfl | rfl | rfl | rfl | rfl | rfl | rfl | rfl | rfl | rfl | rfl | rfl | rfl | rfl | rfl : av = 0 ∨ av = 1 ∨ av = 2 ∨ av = 3 ∨ av = 4 ∨ av = 5 ∨ av = 6 ∨ av = 7 ∨ av = 8 ∨ av = 9 ∨ av = 10 ∨ av = 11 ∨ av = 12 ∨ av = 13 ∨ av = 14 ∨ av = 15 := by omega
  · -- 0
    refine pr_tableOut (pc := 1) C 382 dX4_isPossible_1 (by decide) (by decide) ?_
    refine pr_iconst (pc := 382) (v := 1) C dX4_isPossible_382 (by decide) ?_
    exact pr_iret (pc := 383) C E (Or.inr ⟨rfl, (by decide)⟩) (by omega) (by omega) ⟨rfl, rfl⟩ dX4_isPossible_383
  · -- 1
    refine pr_tableIn (pc := 1) C 76 dX4_isPossible_1 (by decide) (by decide) (off := 75) (by decide) (by decide) ?_
    refine pr_aload_n (pc := 76) C dX4_isPossible_76 rfl ?_
    refine pr_getm (pc := 77) C 231 wf_X4_141 rfl (by decide) (pl_5 _) dX4_isPossible_77 ?_
    refine pr_eqi hw.1 ?_
    refine pr_bipush (pc := 80) (v := 6) C dX4_isPossible_80 (by decide) ?_
    refine pr_icmp_geN (pc := 82) C 89 Q 6 dX4_isPossible_82 (by decide) rfl rfl (by omega) (by omega) (fun c_82 => ?_) (fun c_82 => ?_)
    · refine pr_iconst (pc := 89) (v := 0) C dX4_isPossible_89 (by decide) ?_
      exact pr_iret (pc := 90) C E (Or.inr ⟨rfl, (by decide)⟩) (by omega) (by omega) ⟨(by simp [-Int32.not_le, -Int32.not_lt, pz_b, pz_lt, ms_poss, hw.1, pq_lt6 hQ6, c_82]), rfl⟩ dX4_isPossible_90
    · refine pr_iconst (pc := 85) (v := 1) C dX4_isPossible_85 (by decide) ?_
      refine pr_goto (pc := 86) C 90 dX4_isPossible_86 (by decide) ?_
      exact pr_iret (pc := 90) C E (Or.inr ⟨rfl, (by decide)⟩) (by omega) (by omega) ⟨(by simp [-Int32.not_le, -Int32.not_lt, pz_b, pz_lt, ms_poss, hw.1, pq_lt6 hQ6, c_82]), rfl⟩ dX4_isPossible_90
  · -- 2
    refine pr_tableIn (pc := 1) C 91 dX4_isPossible_1 (by decide) (by decide) (off := 90) (by decide) (by decide) ?_
    refine pr_aload_n (pc := 91) C dX4_isPossible_91 rfl ?_
    refine pr_vP (pc := 92) C (c_X4_topAsked G _ h Q q0 hw) wv_X4_144 rfl rfl (by decide) (by decide) (pl_5 _) (Nat.le_of_ble_eq_true rfl) (by omega) (by omega) dX4_isPossible_92 ?_
    refine pr_iload_n (pc := 95) C dX4_isPossible_95 rfl ?_
    refine pr_icmp_ne (pc := 96) C 103 dX4_isPossible_96 (by decide) (fun c_96 => ?_) (fun c_96 => ?_)
    · refine pr_iconst (pc := 103) (v := 0) C dX4_isPossible_103 (by decide) ?_
      exact pr_iret (pc := 104) C E (Or.inr ⟨rfl, (by decide)⟩) (by omega) (by omega) ⟨(by simp [-Int32.not_le, -Int32.not_lt, pz_b, pz_lt, ms_poss, eq_false c_96]), rfl⟩ dX4_isPossible_104
    · refine pr_iconst (pc := 99) (v := 1) C dX4_isPossible_99 (by decide) ?_
      refine pr_goto (pc := 100) C 104 dX4_isPossible_100 (by decide) ?_
      exact pr_iret (pc := 104) C E (Or.inr ⟨rfl, (by decide)⟩) (by omega) (by omega) ⟨(by simp [-Int32.not_le, -Int32.not_lt, pz_b, pz_lt, ms_poss, eq_true c_96]), rfl⟩ dX4_isPossible_104
  · -- 3
    refine pr_tableIn (pc := 1) C 105 dX4_isPossible_1 (by decide) (by decide) (off := 104) (by decide) (by decide) ?_
    refine pr_aload_n (pc := 105) C dX4_isPossible_105 rfl ?_
    refine pr_getm (pc := 106) C 231 wf_X4_141 rfl (by decide) (pl_5 _) dX4_isPossible_106 ?_
    refine pr_eqi hw.1 ?_
    refine pr_if_leN (pc := 109) C 136 Q dX4_isPossible_109 (by decide) rfl (by omega) (fun c_109 => ?_) (fun c_109 => ?_)
    · refine pr_iconst (pc := 136) (v := 0) C dX4_isPossible_136 (by decide) ?_
      exact pr_iret (pc := 137) C E (Or.inr ⟨rfl, (by decide)⟩) (by omega) (by omega) ⟨(by simp [-Int32.not_le, -Int32.not_lt, pz_b, pz_lt, ms_poss, hw.1, pq_lt0 hQ6, show Q = 0 by omega, show (nI 0 ≤ (0 : Int32)) by decide, c_109]), rfl⟩ dX4_isPossible_137
    · refine pr_aload_n (pc := 112) C dX4_isPossible_112 rfl ?_
      refine pr_geta (pc := 113) C 218 318 wf_X4_47 rfl rfl (by decide) (pl_5 _) dX4_isPossible_113 ?_
      refine pr_aload_n (pc := 116) C dX4_isPossible_116 rfl ?_
      refine pr_geta (pc := 117) C 232 332 wf_X4_86 rfl rfl (by decide) (pl_5 _) dX4_isPossible_117 ?_
      refine pr_aload_n (pc := 120) C dX4_isPossible_120 rfl ?_
      refine pr_getm (pc := 121) C 231 wf_X4_141 rfl (by decide) (pl_5 _) dX4_isPossible_121 ?_
      refine pr_eqi hw.1 ?_
      refine pr_iconst (pc := 124) (v := 1) C dX4_isPossible_124 (by decide) ?_
      refine pr_isubN (pc := 125) C dX4_isPossible_125 Q 1 rfl rfl (by omega) ?_
      refine pr_aldm (pc := 126) (n := 6) C 232 (Q - 1) rfl rfl rfl (pl_r5 (by decide)) rfl (by omega) (by decide) dX4_isPossible_126 ?_
      refine pr_eqi (hw.2.2.2 (by omega)) ?_
      refine pr_aldm (pc := 127) (n := 100) C 218 q0 rfl rfl rfl (pl_r5 (by decide)) rfl (by omega) (by decide) dX4_isPossible_127 ?_
      refine pr_iload_n (pc := 128) C dX4_isPossible_128 rfl ?_
      refine pr_icmp_ne (pc := 129) C 136 dX4_isPossible_129 (by decide) (fun c_129 => ?_) (fun c_129 => ?_)
      · refine pr_iconst (pc := 136) (v := 0) C dX4_isPossible_136 (by decide) ?_
        exact pr_iret (pc := 137) C E (Or.inr ⟨rfl, (by decide)⟩) (by omega) (by omega) ⟨(by simp [-Int32.not_le, -Int32.not_lt, pz_b, pz_lt, ms_poss, hw.1, pq_lt0 hQ6, show ¬ Q = 0 by omega, mw_Q_aq hw (by omega), c_109, eq_false c_129]), rfl⟩ dX4_isPossible_137
      · refine pr_iconst (pc := 132) (v := 1) C dX4_isPossible_132 (by decide) ?_
        refine pr_goto (pc := 133) C 137 dX4_isPossible_133 (by decide) ?_
        exact pr_iret (pc := 137) C E (Or.inr ⟨rfl, (by decide)⟩) (by omega) (by omega) ⟨(by simp [-Int32.not_le, -Int32.not_lt, pz_b, pz_lt, ms_poss, hw.1, pq_lt0 hQ6, show ¬ Q = 0 by omega, mw_Q_aq hw (by omega), c_109, eq_true c_129]), rfl⟩ dX4_isPossible_137
  · -- 4
    obtain ⟨u, hu, rfl⟩ := hof.1 (Or.inl ⟨by decide, by decide⟩)
    refine pr_tableIn (pc := 1) C 138 dX4_isPossible_1 (by decide) (by decide) (off := 137) (by decide) (by decide) ?_
    refine pr_aload_n (pc := 138) C dX4_isPossible_138 rfl ?_
    refine pr_geta (pc := 139) C 224 324 wf_X4_65 rfl rfl (by decide) (pl_5 _) dX4_isPossible_139 ?_
    refine pr_iload_n (pc := 142) C dX4_isPossible_142 rfl ?_
    refine pr_aldm (pc := 143) (n := 100) C 224 u rfl rfl rfl (pl_r5 (by decide)) rfl (by omega) (by decide) dX4_isPossible_143 ?_
    refine pr_iconst (pc := 144) (v := 1) C dX4_isPossible_144 (by decide) ?_
    refine pr_icmp_ne (pc := 145) C 166 dX4_isPossible_145 (by decide) (fun c_145 => ?_) (fun c_145 => ?_)
    · refine pr_iconst (pc := 166) (v := 0) C dX4_isPossible_166 (by decide) ?_
      exact pr_iret (pc := 167) C E (Or.inr ⟨rfl, (by decide)⟩) (by omega) (by omega) ⟨(by simp [-Int32.not_le, -Int32.not_lt, pz_b, pz_lt, ms_poss, pz_cl (show u < 1000 by omega), eq_false c_145]), rfl⟩ dX4_isPossible_167
    · refine pr_aload_n (pc := 148) C dX4_isPossible_148 rfl ?_
      refine pr_geta (pc := 149) C 228 328 wf_X4_77 rfl rfl (by decide) (pl_5 _) dX4_isPossible_149 ?_
      refine pr_iconst (pc := 152) (v := 4) C dX4_isPossible_152 (by decide) ?_
      refine pr_iload_n (pc := 153) C dX4_isPossible_153 rfl ?_
      refine pr_imulN (pc := 154) C dX4_isPossible_154 4 u rfl rfl ?_
      refine pr_iload_n (pc := 155) C dX4_isPossible_155 rfl ?_
      refine pr_iaddN (pc := 156) C dX4_isPossible_156 (4 * u) sp rfl rfl ?_
      refine pr_aldm (pc := 157) (n := 400) C 228 ((4 * u) + sp) rfl rfl rfl (pl_r5 (by decide)) rfl (by omega) (by decide) dX4_isPossible_157 ?_
      refine pr_iconst (pc := 158) (v := 3) C dX4_isPossible_158 (by decide) ?_
      refine pr_icmp_ne (pc := 159) C 166 dX4_isPossible_159 (by decide) (fun c_159 => ?_) (fun c_159 => ?_)
      · refine pr_iconst (pc := 166) (v := 0) C dX4_isPossible_166 (by decide) ?_
        exact pr_iret (pc := 167) C E (Or.inr ⟨rfl, (by decide)⟩) (by omega) (by omega) ⟨(by simp [-Int32.not_le, -Int32.not_lt, pz_b, pz_lt, ms_poss, pz_cl (show u < 1000 by omega), eq_true c_145, eq_false c_159]), rfl⟩ dX4_isPossible_167
      · refine pr_iconst (pc := 162) (v := 1) C dX4_isPossible_162 (by decide) ?_
        refine pr_goto (pc := 163) C 167 dX4_isPossible_163 (by decide) ?_
        exact pr_iret (pc := 167) C E (Or.inr ⟨rfl, (by decide)⟩) (by omega) (by omega) ⟨(by simp [-Int32.not_le, -Int32.not_lt, pz_b, pz_lt, ms_poss, pz_cl (show u < 1000 by omega), eq_true c_145, eq_true c_159]), rfl⟩ dX4_isPossible_167
  · -- 5
    obtain ⟨u, hu, rfl⟩ := hof.1 (Or.inl ⟨by decide, by decide⟩)
    refine pr_tableIn (pc := 1) C 168 dX4_isPossible_1 (by decide) (by decide) (off := 167) (by decide) (by decide) ?_
    refine pr_aload_n (pc := 168) C dX4_isPossible_168 rfl ?_
    refine pr_geta (pc := 169) C 224 324 wf_X4_65 rfl rfl (by decide) (pl_5 _) dX4_isPossible_169 ?_
    refine pr_iload_n (pc := 172) C dX4_isPossible_172 rfl ?_
    refine pr_aldm (pc := 173) (n := 100) C 224 u rfl rfl rfl (pl_r5 (by decide)) rfl (by omega) (by decide) dX4_isPossible_173 ?_
    refine pr_iconst (pc := 174) (v := 1) C dX4_isPossible_174 (by decide) ?_
    refine pr_icmp_ne (pc := 175) C 196 dX4_isPossible_175 (by decide) (fun c_175 => ?_) (fun c_175 => ?_)
    · refine pr_iconst (pc := 196) (v := 0) C dX4_isPossible_196 (by decide) ?_
      exact pr_iret (pc := 197) C E (Or.inr ⟨rfl, (by decide)⟩) (by omega) (by omega) ⟨(by simp [-Int32.not_le, -Int32.not_lt, pz_b, pz_lt, ms_poss, pz_cl (show u < 1000 by omega), eq_false c_175]), rfl⟩ dX4_isPossible_197
    · refine pr_aload_n (pc := 178) C dX4_isPossible_178 rfl ?_
      refine pr_geta (pc := 179) C 228 328 wf_X4_77 rfl rfl (by decide) (pl_5 _) dX4_isPossible_179 ?_
      refine pr_iconst (pc := 182) (v := 4) C dX4_isPossible_182 (by decide) ?_
      refine pr_iload_n (pc := 183) C dX4_isPossible_183 rfl ?_
      refine pr_imulN (pc := 184) C dX4_isPossible_184 4 u rfl rfl ?_
      refine pr_iload_n (pc := 185) C dX4_isPossible_185 rfl ?_
      refine pr_iaddN (pc := 186) C dX4_isPossible_186 (4 * u) sp rfl rfl ?_
      refine pr_aldm (pc := 187) (n := 400) C 228 ((4 * u) + sp) rfl rfl rfl (pl_r5 (by decide)) rfl (by omega) (by decide) dX4_isPossible_187 ?_
      refine pr_iconst (pc := 188) (v := 1) C dX4_isPossible_188 (by decide) ?_
      refine pr_icmp_ne (pc := 189) C 196 dX4_isPossible_189 (by decide) (fun c_189 => ?_) (fun c_189 => ?_)
      · refine pr_iconst (pc := 196) (v := 0) C dX4_isPossible_196 (by decide) ?_
        exact pr_iret (pc := 197) C E (Or.inr ⟨rfl, (by decide)⟩) (by omega) (by omega) ⟨(by simp [-Int32.not_le, -Int32.not_lt, pz_b, pz_lt, ms_poss, pz_cl (show u < 1000 by omega), eq_true c_175, eq_false c_189]), rfl⟩ dX4_isPossible_197
      · refine pr_iconst (pc := 192) (v := 1) C dX4_isPossible_192 (by decide) ?_
        refine pr_goto (pc := 193) C 197 dX4_isPossible_193 (by decide) ?_
        exact pr_iret (pc := 197) C E (Or.inr ⟨rfl, (by decide)⟩) (by omega) (by omega) ⟨(by simp [-Int32.not_le, -Int32.not_lt, pz_b, pz_lt, ms_poss, pz_cl (show u < 1000 by omega), eq_true c_175, eq_true c_189]), rfl⟩ dX4_isPossible_197
  · -- 6
    obtain ⟨u, hu, rfl⟩ := hof.1 (Or.inl ⟨by decide, by decide⟩)
    refine pr_tableIn (pc := 1) C 198 dX4_isPossible_1 (by decide) (by decide) (off := 197) (by decide) (by decide) ?_
    refine pr_aload_n (pc := 198) C dX4_isPossible_198 rfl ?_
    refine pr_geta (pc := 199) C 224 324 wf_X4_65 rfl rfl (by decide) (pl_5 _) dX4_isPossible_199 ?_
    refine pr_iload_n (pc := 202) C dX4_isPossible_202 rfl ?_
    refine pr_aldm (pc := 203) (n := 100) C 224 u rfl rfl rfl (pl_r5 (by decide)) rfl (by omega) (by decide) dX4_isPossible_203 ?_
    refine pr_iconst (pc := 204) (v := 1) C dX4_isPossible_204 (by decide) ?_
    refine pr_icmp_ne (pc := 205) C 230 dX4_isPossible_205 (by decide) (fun c_205 => ?_) (fun c_205 => ?_)
    · refine pr_iconst (pc := 230) (v := 0) C dX4_isPossible_230 (by decide) ?_
      exact pr_iret (pc := 231) C E (Or.inr ⟨rfl, (by decide)⟩) (by omega) (by omega) ⟨(by simp [-Int32.not_le, -Int32.not_lt, pz_b, pz_lt, ms_poss, pz_cl (show u < 1000 by omega), eq_false c_205]), rfl⟩ dX4_isPossible_231
    · refine pr_aload_n (pc := 208) C dX4_isPossible_208 rfl ?_
      refine pr_geta (pc := 209) C 218 318 wf_X4_47 rfl rfl (by decide) (pl_5 _) dX4_isPossible_209 ?_
      refine pr_iload_n (pc := 212) C dX4_isPossible_212 rfl ?_
      refine pr_aldm (pc := 213) (n := 100) C 218 u rfl rfl rfl (pl_r5 (by decide)) rfl (by omega) (by decide) dX4_isPossible_213 ?_
      refine pr_iload_n (pc := 214) C dX4_isPossible_214 rfl ?_
      refine pr_icmp_ne (pc := 215) C 230 dX4_isPossible_215 (by decide) (fun c_215 => ?_) (fun c_215 => ?_)
      · refine pr_iconst (pc := 230) (v := 0) C dX4_isPossible_230 (by decide) ?_
        exact pr_iret (pc := 231) C E (Or.inr ⟨rfl, (by decide)⟩) (by omega) (by omega) ⟨(by simp [-Int32.not_le, -Int32.not_lt, pz_b, pz_lt, ms_poss, pz_cl (show u < 1000 by omega), eq_true c_205, eq_false c_215]), rfl⟩ dX4_isPossible_231
      · refine pr_aload_n (pc := 218) C dX4_isPossible_218 rfl ?_
        refine pr_iload_n (pc := 219) C dX4_isPossible_219 rfl ?_
        refine pr_vP (pc := 220) C (c_X4_isMissed G _ h u (by first | assumption | omega)) wv_X4_148 rfl rfl (by decide) (by decide) (pl_5 _) (Nat.le_of_ble_eq_true rfl) (by omega) (by omega) dX4_isPossible_220 ?_
        refine pr_ifb_eq (pc := 223) C 230 dX4_isPossible_223 (by decide) (fun c_223 => ?_) (fun c_223 => ?_)
        · refine pr_iconst (pc := 230) (v := 0) C dX4_isPossible_230 (by decide) ?_
          exact pr_iret (pc := 231) C E (Or.inr ⟨rfl, (by decide)⟩) (by omega) (by omega) ⟨(by simp [-Int32.not_le, -Int32.not_lt, pz_b, pz_lt, ms_poss, pz_cl (show u < 1000 by omega), eq_true c_205, eq_true c_215, c_223]), rfl⟩ dX4_isPossible_231
        · refine pr_iconst (pc := 226) (v := 1) C dX4_isPossible_226 (by decide) ?_
          refine pr_goto (pc := 227) C 231 dX4_isPossible_227 (by decide) ?_
          exact pr_iret (pc := 231) C E (Or.inr ⟨rfl, (by decide)⟩) (by omega) (by omega) ⟨(by simp [-Int32.not_le, -Int32.not_lt, pz_b, pz_lt, ms_poss, pz_cl (show u < 1000 by omega), eq_true c_205, eq_true c_215, c_223]), rfl⟩ dX4_isPossible_231
  · -- 7
    obtain ⟨u, hu, rfl⟩ := hof.1 (Or.inl ⟨by decide, by decide⟩)
    refine pr_tableIn (pc := 1) C 232 dX4_isPossible_1 (by decide) (by decide) (off := 231) (by decide) (by decide) ?_
    refine pr_aload_n (pc := 232) C dX4_isPossible_232 rfl ?_
    refine pr_iload_n (pc := 233) C dX4_isPossible_233 rfl ?_
    refine pr_vP (pc := 234) C (c_X4_isClaim G _ h u (by first | assumption | omega)) wv_X4_151 rfl rfl (by decide) (by decide) (pl_5 _) (Nat.le_of_ble_eq_true rfl) (by omega) (by omega) dX4_isPossible_234 ?_
    refine pr_ifb_eq (pc := 237) C 258 dX4_isPossible_237 (by decide) (fun c_237 => ?_) (fun c_237 => ?_)
    · refine pr_iconst (pc := 258) (v := 0) C dX4_isPossible_258 (by decide) ?_
      exact pr_iret (pc := 259) C E (Or.inr ⟨rfl, (by decide)⟩) (by omega) (by omega) ⟨(by simp [-Int32.not_le, -Int32.not_lt, pz_b, pz_lt, ms_poss, pz_cl (show u < 1000 by omega), c_237]), rfl⟩ dX4_isPossible_259
    · refine pr_aload_n (pc := 240) C dX4_isPossible_240 rfl ?_
      refine pr_geta (pc := 241) C 228 328 wf_X4_77 rfl rfl (by decide) (pl_5 _) dX4_isPossible_241 ?_
      refine pr_iconst (pc := 244) (v := 4) C dX4_isPossible_244 (by decide) ?_
      refine pr_iload_n (pc := 245) C dX4_isPossible_245 rfl ?_
      refine pr_imulN (pc := 246) C dX4_isPossible_246 4 u rfl rfl ?_
      refine pr_iload_n (pc := 247) C dX4_isPossible_247 rfl ?_
      refine pr_iaddN (pc := 248) C dX4_isPossible_248 (4 * u) sp rfl rfl ?_
      refine pr_aldm (pc := 249) (n := 400) C 228 ((4 * u) + sp) rfl rfl rfl (pl_r5 (by decide)) rfl (by omega) (by decide) dX4_isPossible_249 ?_
      refine pr_iconst (pc := 250) (v := 3) C dX4_isPossible_250 (by decide) ?_
      refine pr_icmp_ltL (pc := 251) C 258 dX4_isPossible_251 (by decide) (fun c_251 => ?_) (fun c_251 => ?_)
      · refine pr_iconst (pc := 258) (v := 0) C dX4_isPossible_258 (by decide) ?_
        exact pr_iret (pc := 259) C E (Or.inr ⟨rfl, (by decide)⟩) (by omega) (by omega) ⟨(by simp [-Int32.not_le, -Int32.not_lt, pz_b, pz_lt, ms_poss, pz_cl (show u < 1000 by omega), c_237, c_251]), rfl⟩ dX4_isPossible_259
      · refine pr_iconst (pc := 254) (v := 1) C dX4_isPossible_254 (by decide) ?_
        refine pr_goto (pc := 255) C 259 dX4_isPossible_255 (by decide) ?_
        exact pr_iret (pc := 259) C E (Or.inr ⟨rfl, (by decide)⟩) (by omega) (by omega) ⟨(by simp [-Int32.not_le, -Int32.not_lt, pz_b, pz_lt, ms_poss, pz_cl (show u < 1000 by omega), c_237, c_251]), rfl⟩ dX4_isPossible_259
  · -- 8
    obtain ⟨u, hu, rfl⟩ := hof.1 (Or.inl ⟨by decide, by decide⟩)
    refine pr_tableIn (pc := 1) C 232 dX4_isPossible_1 (by decide) (by decide) (off := 231) (by decide) (by decide) ?_
    refine pr_aload_n (pc := 232) C dX4_isPossible_232 rfl ?_
    refine pr_iload_n (pc := 233) C dX4_isPossible_233 rfl ?_
    refine pr_vP (pc := 234) C (c_X4_isClaim G _ h u (by first | assumption | omega)) wv_X4_151 rfl rfl (by decide) (by decide) (pl_5 _) (Nat.le_of_ble_eq_true rfl) (by omega) (by omega) dX4_isPossible_234 ?_
    refine pr_ifb_eq (pc := 237) C 258 dX4_isPossible_237 (by decide) (fun c_237 => ?_) (fun c_237 => ?_)
    · refine pr_iconst (pc := 258) (v := 0) C dX4_isPossible_258 (by decide) ?_
      exact pr_iret (pc := 259) C E (Or.inr ⟨rfl, (by decide)⟩) (by omega) (by omega) ⟨(by simp [-Int32.not_le, -Int32.not_lt, pz_b, pz_lt, ms_poss, pz_cl (show u < 1000 by omega), c_237]), rfl⟩ dX4_isPossible_259
    · refine pr_aload_n (pc := 240) C dX4_isPossible_240 rfl ?_
      refine pr_geta (pc := 241) C 228 328 wf_X4_77 rfl rfl (by decide) (pl_5 _) dX4_isPossible_241 ?_
      refine pr_iconst (pc := 244) (v := 4) C dX4_isPossible_244 (by decide) ?_
      refine pr_iload_n (pc := 245) C dX4_isPossible_245 rfl ?_
      refine pr_imulN (pc := 246) C dX4_isPossible_246 4 u rfl rfl ?_
      refine pr_iload_n (pc := 247) C dX4_isPossible_247 rfl ?_
      refine pr_iaddN (pc := 248) C dX4_isPossible_248 (4 * u) sp rfl rfl ?_
      refine pr_aldm (pc := 249) (n := 400) C 228 ((4 * u) + sp) rfl rfl rfl (pl_r5 (by decide)) rfl (by omega) (by decide) dX4_isPossible_249 ?_
      refine pr_iconst (pc := 250) (v := 3) C dX4_isPossible_250 (by decide) ?_
      refine pr_icmp_ltL (pc := 251) C 258 dX4_isPossible_251 (by decide) (fun c_251 => ?_) (fun c_251 => ?_)
      · refine pr_iconst (pc := 258) (v := 0) C dX4_isPossible_258 (by decide) ?_
        exact pr_iret (pc := 259) C E (Or.inr ⟨rfl, (by decide)⟩) (by omega) (by omega) ⟨(by simp [-Int32.not_le, -Int32.not_lt, pz_b, pz_lt, ms_poss, pz_cl (show u < 1000 by omega), c_237, c_251]), rfl⟩ dX4_isPossible_259
      · refine pr_iconst (pc := 254) (v := 1) C dX4_isPossible_254 (by decide) ?_
        refine pr_goto (pc := 255) C 259 dX4_isPossible_255 (by decide) ?_
        exact pr_iret (pc := 259) C E (Or.inr ⟨rfl, (by decide)⟩) (by omega) (by omega) ⟨(by simp [-Int32.not_le, -Int32.not_lt, pz_b, pz_lt, ms_poss, pz_cl (show u < 1000 by omega), c_237, c_251]), rfl⟩ dX4_isPossible_259
  · -- 9
    obtain ⟨u, hu, rfl⟩ := hof.2 (Or.inl ⟨by decide, by decide⟩)
    refine pr_tableIn (pc := 1) C 260 dX4_isPossible_1 (by decide) (by decide) (off := 259) (by decide) (by decide) ?_
    refine pr_aload_n (pc := 260) C dX4_isPossible_260 rfl ?_
    refine pr_geta (pc := 261) C 208 308 wf_X4_29 rfl rfl (by decide) (pl_5 _) dX4_isPossible_261 ?_
    refine pr_bipush (pc := 264) (v := 10) C dX4_isPossible_264 (by decide) ?_
    refine pr_iload_n (pc := 266) C dX4_isPossible_266 rfl ?_
    refine pr_imulN (pc := 267) C dX4_isPossible_267 10 sp rfl rfl ?_
    refine pr_iload_n (pc := 268) C dX4_isPossible_268 rfl ?_
    refine pr_iaddN (pc := 269) C dX4_isPossible_269 (10 * sp) u rfl rfl ?_
    refine pr_aldm (pc := 270) (n := 40) C 208 ((10 * sp) + u) rfl rfl rfl (pl_r5 (by decide)) rfl (by omega) (by decide) dX4_isPossible_270 ?_
    refine pr_if_eq (pc := 271) C 278 dX4_isPossible_271 (by decide) (fun c_271 => ?_) (fun c_271 => ?_)
    · refine pr_iconst (pc := 278) (v := 0) C dX4_isPossible_278 (by decide) ?_
      exact pr_iret (pc := 279) C E (Or.inr ⟨rfl, (by decide)⟩) (by omega) (by omega) ⟨(by simp [-Int32.not_le, -Int32.not_lt, pz_b, pz_lt, ms_poss, pz_cl (show u < 1000 by omega), eq_true c_271]), rfl⟩ dX4_isPossible_279
    · refine pr_iconst (pc := 274) (v := 1) C dX4_isPossible_274 (by decide) ?_
      refine pr_goto (pc := 275) C 279 dX4_isPossible_275 (by decide) ?_
      exact pr_iret (pc := 279) C E (Or.inr ⟨rfl, (by decide)⟩) (by omega) (by omega) ⟨(by simp [-Int32.not_le, -Int32.not_lt, pz_b, pz_lt, ms_poss, pz_cl (show u < 1000 by omega), eq_false c_271]), rfl⟩ dX4_isPossible_279
  · -- 10
    obtain ⟨u, hu, rfl⟩ := hof.2 (Or.inl ⟨by decide, by decide⟩)
    refine pr_tableIn (pc := 1) C 260 dX4_isPossible_1 (by decide) (by decide) (off := 259) (by decide) (by decide) ?_
    refine pr_aload_n (pc := 260) C dX4_isPossible_260 rfl ?_
    refine pr_geta (pc := 261) C 208 308 wf_X4_29 rfl rfl (by decide) (pl_5 _) dX4_isPossible_261 ?_
    refine pr_bipush (pc := 264) (v := 10) C dX4_isPossible_264 (by decide) ?_
    refine pr_iload_n (pc := 266) C dX4_isPossible_266 rfl ?_
    refine pr_imulN (pc := 267) C dX4_isPossible_267 10 sp rfl rfl ?_
    refine pr_iload_n (pc := 268) C dX4_isPossible_268 rfl ?_
    refine pr_iaddN (pc := 269) C dX4_isPossible_269 (10 * sp) u rfl rfl ?_
    refine pr_aldm (pc := 270) (n := 40) C 208 ((10 * sp) + u) rfl rfl rfl (pl_r5 (by decide)) rfl (by omega) (by decide) dX4_isPossible_270 ?_
    refine pr_if_eq (pc := 271) C 278 dX4_isPossible_271 (by decide) (fun c_271 => ?_) (fun c_271 => ?_)
    · refine pr_iconst (pc := 278) (v := 0) C dX4_isPossible_278 (by decide) ?_
      exact pr_iret (pc := 279) C E (Or.inr ⟨rfl, (by decide)⟩) (by omega) (by omega) ⟨(by simp [-Int32.not_le, -Int32.not_lt, pz_b, pz_lt, ms_poss, pz_cl (show u < 1000 by omega), eq_true c_271]), rfl⟩ dX4_isPossible_279
    · refine pr_iconst (pc := 274) (v := 1) C dX4_isPossible_274 (by decide) ?_
      refine pr_goto (pc := 275) C 279 dX4_isPossible_275 (by decide) ?_
      exact pr_iret (pc := 279) C E (Or.inr ⟨rfl, (by decide)⟩) (by omega) (by omega) ⟨(by simp [-Int32.not_le, -Int32.not_lt, pz_b, pz_lt, ms_poss, pz_cl (show u < 1000 by omega), eq_false c_271]), rfl⟩ dX4_isPossible_279
  · -- 11
    refine pr_tableIn (pc := 1) C 382 dX4_isPossible_1 (by decide) (by decide) (off := 381) (by decide) (by decide) ?_
    refine pr_iconst (pc := 382) (v := 1) C dX4_isPossible_382 (by decide) ?_
    exact pr_iret (pc := 383) C E (Or.inr ⟨rfl, (by decide)⟩) (by omega) (by omega) ⟨rfl, rfl⟩ dX4_isPossible_383
  · -- 12
    obtain ⟨u, hu, rfl⟩ := hof.2 (Or.inl ⟨by decide, by decide⟩)
    refine pr_tableIn (pc := 1) C 280 dX4_isPossible_1 (by decide) (by decide) (off := 279) (by decide) (by decide) ?_
    refine pr_aload_n (pc := 280) C dX4_isPossible_280 rfl ?_
    refine pr_geta (pc := 281) C 210 310 wf_X4_35 rfl rfl (by decide) (pl_5 _) dX4_isPossible_281 ?_
    refine pr_bipush (pc := 284) (v := 10) C dX4_isPossible_284 (by decide) ?_
    refine pr_iload_n (pc := 286) C dX4_isPossible_286 rfl ?_
    refine pr_imulN (pc := 287) C dX4_isPossible_287 10 sp rfl rfl ?_
    refine pr_iload_n (pc := 288) C dX4_isPossible_288 rfl ?_
    refine pr_iaddN (pc := 289) C dX4_isPossible_289 (10 * sp) u rfl rfl ?_
    refine pr_aldm (pc := 290) (n := 40) C 210 ((10 * sp) + u) rfl rfl rfl (pl_r5 (by decide)) rfl (by omega) (by decide) dX4_isPossible_290 ?_
    refine pr_if_eq (pc := 291) C 298 dX4_isPossible_291 (by decide) (fun c_291 => ?_) (fun c_291 => ?_)
    · refine pr_iconst (pc := 298) (v := 0) C dX4_isPossible_298 (by decide) ?_
      exact pr_iret (pc := 299) C E (Or.inr ⟨rfl, (by decide)⟩) (by omega) (by omega) ⟨(by simp [-Int32.not_le, -Int32.not_lt, pz_b, pz_lt, ms_poss, pz_cl (show u < 1000 by omega), eq_true c_291]), rfl⟩ dX4_isPossible_299
    · refine pr_iconst (pc := 294) (v := 1) C dX4_isPossible_294 (by decide) ?_
      refine pr_goto (pc := 295) C 299 dX4_isPossible_295 (by decide) ?_
      exact pr_iret (pc := 299) C E (Or.inr ⟨rfl, (by decide)⟩) (by omega) (by omega) ⟨(by simp [-Int32.not_le, -Int32.not_lt, pz_b, pz_lt, ms_poss, pz_cl (show u < 1000 by omega), eq_false c_291]), rfl⟩ dX4_isPossible_299
  · -- 13
    refine pr_tableIn (pc := 1) C 300 dX4_isPossible_1 (by decide) (by decide) (off := 299) (by decide) (by decide) ?_
    refine pr_aload_n (pc := 300) C dX4_isPossible_300 rfl ?_
    refine pr_iload_n (pc := 301) C dX4_isPossible_301 rfl ?_
    refine pr_iload_n (pc := 302) C dX4_isPossible_302 rfl ?_
    refine pr_vP (pc := 303) C (c_X4_owns G _ h (nI sp) of) wv_X4_154 rfl rfl (by decide) (by decide) (pl_5 _) (Nat.le_of_ble_eq_true rfl) (by omega) (by omega) dX4_isPossible_303 ?_
    refine pr_ifb_eq (pc := 306) C 327 dX4_isPossible_306 (by decide) (fun c_306 => ?_) (fun c_306 => ?_)
    · refine pr_iconst (pc := 327) (v := 0) C dX4_isPossible_327 (by decide) ?_
      exact pr_iret (pc := 328) C E (Or.inr ⟨rfl, (by decide)⟩) (by omega) (by omega) ⟨(by simp [-Int32.not_le, -Int32.not_lt, pz_b, pz_lt, ms_poss, c_306]), rfl⟩ dX4_isPossible_328
    · refine pr_aload_n (pc := 309) C dX4_isPossible_309 rfl ?_
      refine pr_iload (pc := 310) C dX4_isPossible_310 rfl ?_
      refine pr_sP (pc := 312) C (c_X4_one G _ h set) ws_X4_137 rfl rfl (by decide) (Nat.le_of_ble_eq_true rfl) (by omega) (by omega) dX4_isPossible_312 ?_
      refine pr_iload (pc := 315) C dX4_isPossible_315 rfl ?_
      refine pr_vP (pc := 317) C (c_X4_owns G _ h (ms_one set) how) wv_X4_154 rfl rfl (by decide) (by decide) (pl_5 _) (Nat.le_of_ble_eq_true rfl) (by omega) (by omega) dX4_isPossible_317 ?_
      refine pr_ifb_eq (pc := 320) C 327 dX4_isPossible_320 (by decide) (fun c_320 => ?_) (fun c_320 => ?_)
      · refine pr_iconst (pc := 327) (v := 0) C dX4_isPossible_327 (by decide) ?_
        exact pr_iret (pc := 328) C E (Or.inr ⟨rfl, (by decide)⟩) (by omega) (by omega) ⟨(by simp [-Int32.not_le, -Int32.not_lt, pz_b, pz_lt, ms_poss, c_306, c_320]), rfl⟩ dX4_isPossible_328
      · refine pr_iconst (pc := 323) (v := 1) C dX4_isPossible_323 (by decide) ?_
        refine pr_goto (pc := 324) C 328 dX4_isPossible_324 (by decide) ?_
        exact pr_iret (pc := 328) C E (Or.inr ⟨rfl, (by decide)⟩) (by omega) (by omega) ⟨(by simp [-Int32.not_le, -Int32.not_lt, pz_b, pz_lt, ms_poss, c_306, c_320]), rfl⟩ dX4_isPossible_328
  · -- 14
    obtain ⟨u, hu, rfl⟩ := hof.1 (Or.inr (by decide))
    refine pr_tableIn (pc := 1) C 329 dX4_isPossible_1 (by decide) (by decide) (off := 328) (by decide) (by decide) ?_
    refine pr_aload_n (pc := 329) C dX4_isPossible_329 rfl ?_
    refine pr_geta (pc := 330) C 219 319 wf_X4_50 rfl rfl (by decide) (pl_5 _) dX4_isPossible_330 ?_
    refine pr_iload_n (pc := 333) C dX4_isPossible_333 rfl ?_
    refine pr_aldm (pc := 334) (n := 100) C 219 u rfl rfl rfl (pl_r5 (by decide)) rfl (by omega) (by decide) dX4_isPossible_334 ?_
    refine pr_bipush (pc := 335) (v := 13) C dX4_isPossible_335 (by decide) ?_
    refine pr_icmp_ne (pc := 337) C 380 dX4_isPossible_337 (by decide) (fun c_337 => ?_) (fun c_337 => ?_)
    · refine pr_iconst (pc := 380) (v := 0) C dX4_isPossible_380 (by decide) ?_
      exact pr_iret (pc := 381) C E (Or.inr ⟨rfl, (by decide)⟩) (by omega) (by omega) ⟨(by simp [-Int32.not_le, -Int32.not_lt, pz_b, pz_lt, ms_poss, pz_cl (show u < 1000 by omega), eq_false c_337]), rfl⟩ dX4_isPossible_381
    · refine pr_aload_n (pc := 340) C dX4_isPossible_340 rfl ?_
      refine pr_geta (pc := 341) C 222 322 wf_X4_59 rfl rfl (by decide) (pl_5 _) dX4_isPossible_341 ?_
      refine pr_iload_n (pc := 344) C dX4_isPossible_344 rfl ?_
      refine pr_aldm (pc := 345) (n := 100) C 222 u rfl rfl rfl (pl_r5 (by decide)) rfl (by omega) (by decide) dX4_isPossible_345 ?_
      refine pr_iload_n (pc := 346) C dX4_isPossible_346 rfl ?_
      refine pr_sP (pc := 347) C (c_X4_isIn G _ h (h.2.1 222 u) (nI sp)) ws_X4_114 rfl rfl (by decide) (Nat.le_of_ble_eq_true rfl) (by omega) (by omega) dX4_isPossible_347 ?_
      refine pr_ifb_eq (pc := 350) C 380 dX4_isPossible_350 (by decide) (fun c_350 => ?_) (fun c_350 => ?_)
      · refine pr_iconst (pc := 380) (v := 0) C dX4_isPossible_380 (by decide) ?_
        exact pr_iret (pc := 381) C E (Or.inr ⟨rfl, (by decide)⟩) (by omega) (by omega) ⟨(by simp [-Int32.not_le, -Int32.not_lt, pz_b, pz_lt, ms_poss, pz_cl (show u < 1000 by omega), eq_true c_337, c_350]), rfl⟩ dX4_isPossible_381
      · refine pr_aload_n (pc := 353) C dX4_isPossible_353 rfl ?_
        refine pr_geta (pc := 354) C 227 327 wf_X4_74 rfl rfl (by decide) (pl_5 _) dX4_isPossible_354 ?_
        refine pr_iload_n (pc := 357) C dX4_isPossible_357 rfl ?_
        refine pr_aldb (pc := 358) (n := 100) C 227 u rfl rfl rfl (pl_r5 (by decide)) rfl (by omega) (by decide) dX4_isPossible_358 ?_
        refine pr_if_eq (pc := 359) C 380 dX4_isPossible_359 (by decide) (fun c_359 => ?_) (fun c_359 => ?_)
        · refine pr_iconst (pc := 380) (v := 0) C dX4_isPossible_380 (by decide) ?_
          exact pr_iret (pc := 381) C E (Or.inr ⟨rfl, (by decide)⟩) (by omega) (by omega) ⟨(by simp [-Int32.not_le, -Int32.not_lt, pz_b, pz_lt, ms_poss, pz_cl (show u < 1000 by omega), eq_true c_337, c_350, eq_true c_359]), rfl⟩ dX4_isPossible_381
        · refine pr_aload_n (pc := 362) C dX4_isPossible_362 rfl ?_
          refine pr_geta (pc := 363) C 228 328 wf_X4_77 rfl rfl (by decide) (pl_5 _) dX4_isPossible_363 ?_
          refine pr_iconst (pc := 366) (v := 4) C dX4_isPossible_366 (by decide) ?_
          refine pr_iload_n (pc := 367) C dX4_isPossible_367 rfl ?_
          refine pr_imulN (pc := 368) C dX4_isPossible_368 4 u rfl rfl ?_
          refine pr_iload_n (pc := 369) C dX4_isPossible_369 rfl ?_
          refine pr_iaddN (pc := 370) C dX4_isPossible_370 (4 * u) sp rfl rfl ?_
          refine pr_aldm (pc := 371) (n := 400) C 228 ((4 * u) + sp) rfl rfl rfl (pl_r5 (by decide)) rfl (by omega) (by decide) dX4_isPossible_371 ?_
          refine pr_iconst (pc := 372) (v := 3) C dX4_isPossible_372 (by decide) ?_
          refine pr_icmp_ltL (pc := 373) C 380 dX4_isPossible_373 (by decide) (fun c_373 => ?_) (fun c_373 => ?_)
          · refine pr_iconst (pc := 380) (v := 0) C dX4_isPossible_380 (by decide) ?_
            exact pr_iret (pc := 381) C E (Or.inr ⟨rfl, (by decide)⟩) (by omega) (by omega) ⟨(by simp [-Int32.not_le, -Int32.not_lt, pz_b, pz_lt, ms_poss, pz_cl (show u < 1000 by omega), eq_true c_337, c_350, eq_false c_359, c_373]), rfl⟩ dX4_isPossible_381
          · refine pr_iconst (pc := 376) (v := 1) C dX4_isPossible_376 (by decide) ?_
            refine pr_goto (pc := 377) C 381 dX4_isPossible_377 (by decide) ?_
            exact pr_iret (pc := 381) C E (Or.inr ⟨rfl, (by decide)⟩) (by omega) (by omega) ⟨(by simp [-Int32.not_le, -Int32.not_lt, pz_b, pz_lt, ms_poss, pz_cl (show u < 1000 by omega), eq_true c_337, c_350, eq_false c_359, c_373]), rfl⟩ dX4_isPossible_381
  · -- 15
    obtain ⟨u, hu, rfl⟩ := hof.1 (Or.inr (by decide))
    refine pr_tableIn (pc := 1) C 329 dX4_isPossible_1 (by decide) (by decide) (off := 328) (by decide) (by decide) ?_
    refine pr_aload_n (pc := 329) C dX4_isPossible_329 rfl ?_
    refine pr_geta (pc := 330) C 219 319 wf_X4_50 rfl rfl (by decide) (pl_5 _) dX4_isPossible_330 ?_
    refine pr_iload_n (pc := 333) C dX4_isPossible_333 rfl ?_
    refine pr_aldm (pc := 334) (n := 100) C 219 u rfl rfl rfl (pl_r5 (by decide)) rfl (by omega) (by decide) dX4_isPossible_334 ?_
    refine pr_bipush (pc := 335) (v := 13) C dX4_isPossible_335 (by decide) ?_
    refine pr_icmp_ne (pc := 337) C 380 dX4_isPossible_337 (by decide) (fun c_337 => ?_) (fun c_337 => ?_)
    · refine pr_iconst (pc := 380) (v := 0) C dX4_isPossible_380 (by decide) ?_
      exact pr_iret (pc := 381) C E (Or.inr ⟨rfl, (by decide)⟩) (by omega) (by omega) ⟨(by simp [-Int32.not_le, -Int32.not_lt, pz_b, pz_lt, ms_poss, pz_cl (show u < 1000 by omega), eq_false c_337]), rfl⟩ dX4_isPossible_381
    · refine pr_aload_n (pc := 340) C dX4_isPossible_340 rfl ?_
      refine pr_geta (pc := 341) C 222 322 wf_X4_59 rfl rfl (by decide) (pl_5 _) dX4_isPossible_341 ?_
      refine pr_iload_n (pc := 344) C dX4_isPossible_344 rfl ?_
      refine pr_aldm (pc := 345) (n := 100) C 222 u rfl rfl rfl (pl_r5 (by decide)) rfl (by omega) (by decide) dX4_isPossible_345 ?_
      refine pr_iload_n (pc := 346) C dX4_isPossible_346 rfl ?_
      refine pr_sP (pc := 347) C (c_X4_isIn G _ h (h.2.1 222 u) (nI sp)) ws_X4_114 rfl rfl (by decide) (Nat.le_of_ble_eq_true rfl) (by omega) (by omega) dX4_isPossible_347 ?_
      refine pr_ifb_eq (pc := 350) C 380 dX4_isPossible_350 (by decide) (fun c_350 => ?_) (fun c_350 => ?_)
      · refine pr_iconst (pc := 380) (v := 0) C dX4_isPossible_380 (by decide) ?_
        exact pr_iret (pc := 381) C E (Or.inr ⟨rfl, (by decide)⟩) (by omega) (by omega) ⟨(by simp [-Int32.not_le, -Int32.not_lt, pz_b, pz_lt, ms_poss, pz_cl (show u < 1000 by omega), eq_true c_337, c_350]), rfl⟩ dX4_isPossible_381
      · refine pr_aload_n (pc := 353) C dX4_isPossible_353 rfl ?_
        refine pr_geta (pc := 354) C 227 327 wf_X4_74 rfl rfl (by decide) (pl_5 _) dX4_isPossible_354 ?_
        refine pr_iload_n (pc := 357) C dX4_isPossible_357 rfl ?_
        refine pr_aldb (pc := 358) (n := 100) C 227 u rfl rfl rfl (pl_r5 (by decide)) rfl (by omega) (by decide) dX4_isPossible_358 ?_
        refine pr_if_eq (pc := 359) C 380 dX4_isPossible_359 (by decide) (fun c_359 => ?_) (fun c_359 => ?_)
        · refine pr_iconst (pc := 380) (v := 0) C dX4_isPossible_380 (by decide) ?_
          exact pr_iret (pc := 381) C E (Or.inr ⟨rfl, (by decide)⟩) (by omega) (by omega) ⟨(by simp [-Int32.not_le, -Int32.not_lt, pz_b, pz_lt, ms_poss, pz_cl (show u < 1000 by omega), eq_true c_337, c_350, eq_true c_359]), rfl⟩ dX4_isPossible_381
        · refine pr_aload_n (pc := 362) C dX4_isPossible_362 rfl ?_
          refine pr_geta (pc := 363) C 228 328 wf_X4_77 rfl rfl (by decide) (pl_5 _) dX4_isPossible_363 ?_
          refine pr_iconst (pc := 366) (v := 4) C dX4_isPossible_366 (by decide) ?_
          refine pr_iload_n (pc := 367) C dX4_isPossible_367 rfl ?_
          refine pr_imulN (pc := 368) C dX4_isPossible_368 4 u rfl rfl ?_
          refine pr_iload_n (pc := 369) C dX4_isPossible_369 rfl ?_
          refine pr_iaddN (pc := 370) C dX4_isPossible_370 (4 * u) sp rfl rfl ?_
          refine pr_aldm (pc := 371) (n := 400) C 228 ((4 * u) + sp) rfl rfl rfl (pl_r5 (by decide)) rfl (by omega) (by decide) dX4_isPossible_371 ?_
          refine pr_iconst (pc := 372) (v := 3) C dX4_isPossible_372 (by decide) ?_
          refine pr_icmp_ltL (pc := 373) C 380 dX4_isPossible_373 (by decide) (fun c_373 => ?_) (fun c_373 => ?_)
          · refine pr_iconst (pc := 380) (v := 0) C dX4_isPossible_380 (by decide) ?_
            exact pr_iret (pc := 381) C E (Or.inr ⟨rfl, (by decide)⟩) (by omega) (by omega) ⟨(by simp [-Int32.not_le, -Int32.not_lt, pz_b, pz_lt, ms_poss, pz_cl (show u < 1000 by omega), eq_true c_337, c_350, eq_false c_359, c_373]), rfl⟩ dX4_isPossible_381
          · refine pr_iconst (pc := 376) (v := 1) C dX4_isPossible_376 (by decide) ?_
            refine pr_goto (pc := 377) C 381 dX4_isPossible_377 (by decide) ?_
            exact pr_iret (pc := 381) C E (Or.inr ⟨rfl, (by decide)⟩) (by omega) (by omega) ⟨(by simp [-Int32.not_le, -Int32.not_lt, pz_b, pz_lt, ms_poss, pz_cl (show u < 1000 by omega), eq_true c_337, c_350, eq_false c_359, c_373]), rfl⟩ dX4_isPossible_381

