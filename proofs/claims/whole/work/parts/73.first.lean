/-! THE FIRST HEAP -/
def st_K : Nat → Nat → Nat → Int32 := fun f o j => if f = 40 then nI o else if f = 42 then 1 else if f = 47 then -1 else if f = 50 then -1 else if f = 51 then -1 else if f = 167 then -1 else if f = 161 then ct_f 8 (-1) 0 j else 0
def st_S : Nat → Nat → Int32 := fun f => if f = 203 then ct_f 4 1 0 else if f = 209 then ct_f 40 (-1) 0 else if f = 213 then ct_f 8 (-1) 0 else if f = 230 then ct_f 4 (-1) 0 else if f = 215 then (fun _ => -1) else fun _ => 0
abbrev st_h : pa_H := (st_K, st_S, fun _ => 0, fun _ => 0)
def st_ad (scr q1 q2 q3 : Nat) (u1 u2 : Nat → Nat) (n : pa_Nm) : Nat := if n.1 = 0 then u1 (3 + n.2) else if n.1 = 1 then u1 (6 + 7 * n.2) else if n.1 = 4 then q1 else if n.1 = 5 then q2 else if n.1 = 9 then q3 else if n.1 = 10 then scr else if n.1 < 200 then u1 (7 + 7 * n.2 + (n.1 - 148)) else if n.1 < 300 then u1 (n.1 - 259) else if n.1 < 314 then u2 (n.1 - 301) else if n.1 < 331 then u2 (n.1 - 305) else u2 (n.1 - 306)
def st_nm : List pa_Nm := [(4, 0), (260, 0), (261, 0), (0, 0), (0, 1), (0, 2), (1, 0), (148, 0), (149, 0), (150, 0), (151, 0), (152, 0), (153, 0), (1, 1), (148, 1), (149, 1), (150, 1), (151, 1), (152, 1), (153, 1), (1, 2), (148, 2), (149, 2), (150, 2), (151, 2), (152, 2), (153, 2), (1, 3), (148, 3), (149, 3), (150, 3), (151, 3), (152, 3), (153, 3), (5, 0), (302, 0), (303, 0), (304, 0), (305, 0), (306, 0), (307, 0), (308, 0), (309, 0), (310, 0), (311, 0), (312, 0), (313, 0), (318, 0), (319, 0), (320, 0), (321, 0), (322, 0), (323, 0), (324, 0), (325, 0), (326, 0), (327, 0), (328, 0), (329, 0), (330, 0), (332, 0), (333, 0), (334, 0), (9, 0)]
def st_rows : List Nat := [48, 49, 50, 51, 52, 53, 131, 132, 160, 161, 202, 203, 204, 205, 206, 207, 208, 209, 210, 211, 212, 213, 218, 219, 220, 221, 222, 223, 224, 225, 226, 227, 228, 229, 230, 232, 233, 234]
theorem st_gd (l : List Nat) (k : Nat) (h : l.length ≤ k) : l.getD k 0 = 0 := by
  simp [List.getD, List.getElem?_eq_none h]
set_option maxRecDepth 100000 in
theorem st_ln {f : Nat} (h : pa_ln f ≠ 0) : f ∈ st_rows := by
  have h1 : ∀ f, f < 240 → pa_ln f ≠ 0 → f ∈ st_rows := by decide +kernel
  refine h1 f ?_ h
  by_cases c : f < 240
  · exact c
  · exact absurd (show pa_ln f = 0 from st_gd _ _ (by show 200 ≤ f - 40; omega)) h
theorem st_live {n : pa_Nm} (h : pa_lv (fun _ => 0) n) : n ∈ st_nm := by
  obtain ⟨k, i⟩ := n
  unfold pa_lv at h
  dsimp only at h
  by_cases c0 : k = 0
  · subst c0
    rw [if_pos rfl] at h
    rcases (show i = 0 ∨ i = 1 ∨ i = 2 by omega) with rfl | rfl | rfl <;> decide
  rw [if_neg c0] at h
  by_cases c6 : k < 6
  · rw [if_pos c6] at h
    unfold pa_lo at h
    rcases (show k = 1 ∨ k = 2 ∨ k = 3 ∨ k = 4 ∨ k = 5 by omega) with rfl | rfl | rfl | rfl | rfl
    · have h : i < 4 := h
      rcases (show i = 0 ∨ i = 1 ∨ i = 2 ∨ i = 3 by omega) with rfl | rfl | rfl | rfl <;> decide
    · exact absurd (show i < 0 from h) (Nat.not_lt_zero i)
    · exact absurd (show i < 0 from h) (Nat.not_lt_zero i)
    · have h : i = 0 := h
      subst h
      decide
    · have h : i = 0 := h
      subst h
      decide
  rw [if_neg c6] at h
  by_cases c7 : k = 6
  · rw [if_pos c7] at h
    exact absurd h.2 (by decide)
  rw [if_neg c7] at h
  by_cases c8 : k = 7
  · rw [if_pos c8] at h
    exact absurd h.2 (by decide)
  rw [if_neg c8] at h
  by_cases c9 : k = 8
  · rw [if_pos c9] at h
    exact absurd rfl h.2
  rw [if_neg c9] at h
  by_cases c10 : k = 9
  · rw [if_pos c10] at h
    subst c10
    subst h
    decide
  rw [if_neg c10] at h
  obtain ⟨f, rfl⟩ : ∃ f, k = 100 + f := ⟨k - 100, by omega⟩
  rw [Nat.add_sub_cancel_left] at h
  obtain ⟨h1, -, h3⟩ := h
  have h2 := st_ln h1
  simp only [st_rows, List.mem_cons, List.not_mem_nil, or_false] at h2
  rcases h2 with rfl | rfl | rfl | rfl | rfl | rfl | rfl | rfl | rfl | rfl | rfl | rfl | rfl | rfl | rfl | rfl | rfl | rfl | rfl | rfl | rfl | rfl | rfl | rfl | rfl | rfl | rfl | rfl | rfl | rfl | rfl | rfl | rfl | rfl | rfl | rfl | rfl | rfl
  · have h3 : i < 4 := h3
    rcases (show i = 0 ∨ i = 1 ∨ i = 2 ∨ i = 3 by omega) with rfl | rfl | rfl | rfl <;> decide
  · have h3 : i < 4 := h3
    rcases (show i = 0 ∨ i = 1 ∨ i = 2 ∨ i = 3 by omega) with rfl | rfl | rfl | rfl <;> decide
  · have h3 : i < 4 := h3
    rcases (show i = 0 ∨ i = 1 ∨ i = 2 ∨ i = 3 by omega) with rfl | rfl | rfl | rfl <;> decide
  · have h3 : i < 4 := h3
    rcases (show i = 0 ∨ i = 1 ∨ i = 2 ∨ i = 3 by omega) with rfl | rfl | rfl | rfl <;> decide
  · have h3 : i < 4 := h3
    rcases (show i = 0 ∨ i = 1 ∨ i = 2 ∨ i = 3 by omega) with rfl | rfl | rfl | rfl <;> decide
  · have h3 : i < 4 := h3
    rcases (show i = 0 ∨ i = 1 ∨ i = 2 ∨ i = 3 by omega) with rfl | rfl | rfl | rfl <;> decide
  · exact absurd (show i < 0 from h3) (Nat.not_lt_zero i)
  · exact absurd (show i < 0 from h3) (Nat.not_lt_zero i)
  · have h3 : i = 0 := h3
    subst h3
    decide
  · have h3 : i = 0 := h3
    subst h3
    decide
  · have h3 : i = 0 := h3
    subst h3
    decide
  · have h3 : i = 0 := h3
    subst h3
    decide
  · have h3 : i = 0 := h3
    subst h3
    decide
  · have h3 : i = 0 := h3
    subst h3
    decide
  · have h3 : i = 0 := h3
    subst h3
    decide
  · have h3 : i = 0 := h3
    subst h3
    decide
  · have h3 : i = 0 := h3
    subst h3
    decide
  · have h3 : i = 0 := h3
    subst h3
    decide
  · have h3 : i = 0 := h3
    subst h3
    decide
  · have h3 : i = 0 := h3
    subst h3
    decide
  · have h3 : i = 0 := h3
    subst h3
    decide
  · have h3 : i = 0 := h3
    subst h3
    decide
  · have h3 : i = 0 := h3
    subst h3
    decide
  · have h3 : i = 0 := h3
    subst h3
    decide
  · have h3 : i = 0 := h3
    subst h3
    decide
  · have h3 : i = 0 := h3
    subst h3
    decide
  · have h3 : i = 0 := h3
    subst h3
    decide
  · have h3 : i = 0 := h3
    subst h3
    decide
  · have h3 : i = 0 := h3
    subst h3
    decide
  · have h3 : i = 0 := h3
    subst h3
    decide
  · have h3 : i = 0 := h3
    subst h3
    decide
  · have h3 : i = 0 := h3
    subst h3
    decide
  · have h3 : i = 0 := h3
    subst h3
    decide
  · have h3 : i = 0 := h3
    subst h3
    decide
  · have h3 : i = 0 := h3
    subst h3
    decide
  · have h3 : i = 0 := h3
    subst h3
    decide
  · have h3 : i = 0 := h3
    subst h3
    decide
  · have h3 : i = 0 := h3
    subst h3
    decide
theorem st_rc : pa_rc 3 (-1) = none := by decide
theorem st_ix : ∀ n ∈ st_nm, ∃ k, k < 64 ∧ st_nm[k]? = some n := fun n hn => by
  obtain ⟨k, hk⟩ := List.getElem?_of_mem hn
  exact ⟨k, (List.getElem?_eq_some_iff.mp hk).1, hk⟩
set_option maxRecDepth 100000 in
set_option maxHeartbeats 8000000 in
theorem st_pl (G : pa_G) (scr q1 q2 q3 : Nat) (u1 u2 : Nat → Nat) : (st_W G q1 q2 q3 u1 u2).map Prod.fst = st_nm.map (st_ad scr q1 q2 q3 u1 u2) := rfl
theorem st_pk {G : pa_G} {scr q1 q2 q3 : Nat} {u1 u2 : Nat → Nat} {k : Nat} {n : pa_Nm} (h : st_nm[k]? = some n) : ∃ z, (st_W G q1 q2 q3 u1 u2)[k]? = some z ∧ z.1 = st_ad scr q1 q2 q3 u1 u2 n := by
  have e : ((st_W G q1 q2 q3 u1 u2).map Prod.fst)[k]? = some (st_ad scr q1 q2 q3 u1 u2 n) := by
    rw [st_pl G scr, List.getElem?_map, h]
    rfl
  rw [List.getElem?_map] at e
  cases hz : (st_W G q1 q2 q3 u1 u2)[k]? with
  | none => rw [hz] at e; cases e
  | some z => rw [hz] at e; exact ⟨z, rfl, Option.some.inj e⟩
theorem st_spk {G : pa_G} {scr q1 q2 q3 : Nat} {u1 u2 : Nat → Nat} : vp_cell (G.2.1 3) (4, pa_rw (fun j => if j = 3 then some (u1 27) else (fun j => if j = 2 then some (u1 20) else (fun j => if j = 1 then some (u1 13) else (fun j => if j = 0 then some (u1 6) else (fun _ => none) j) j) j) j)) = vp_cell (G.2.1 3) (4, pa_rw (fun j => some (st_ad scr q1 q2 q3 u1 u2 (1, j)))) := by
  rw [vp_cell_q, vp_cell_q]
  refine pn_arr fun j hj => ?_
  rcases (show j = 0 ∨ j = 1 ∨ j = 2 ∨ j = 3 by omega) with rfl | rfl | rfl | rfl <;> rfl
theorem st_noT {ad : pa_Nm → Nat} : pa_rw (fun _ => none) = pa_rw (fun _ => (pa_rc 3 (-1)).map ad) := by rw [st_rc]; rfl
set_option maxRecDepth 100000 in
set_option maxHeartbeats 40000000 in
theorem st_at {G : pa_G} {scr q1 q2 q3 : Nat} {u1 u2 : Nat → Nat} {H : Heap} (hP : va_P G.1 vwCl (st_W G q1 q2 q3 u1 u2) H) : ∀ n ∈ st_nm, va_at G.1 vwCl (st_ad scr q1 q2 q3 u1 u2 n, pa_ce G (st_ad scr q1 q2 q3 u1 u2) st_h n) H := by
  intro n hn
  simp only [st_nm, List.mem_cons, List.not_mem_nil, or_false] at hn
  rcases hn with rfl | rfl | rfl | rfl | rfl | rfl | rfl | rfl | rfl | rfl | rfl | rfl | rfl | rfl | rfl | rfl | rfl | rfl | rfl | rfl | rfl | rfl | rfl | rfl | rfl | rfl | rfl | rfl | rfl | rfl | rfl | rfl | rfl | rfl | rfl | rfl | rfl | rfl | rfl | rfl | rfl | rfl | rfl | rfl | rfl | rfl | rfl | rfl | rfl | rfl | rfl | rfl | rfl | rfl | rfl | rfl | rfl | rfl | rfl | rfl | rfl | rfl | rfl | rfl
  · exact hP 0 _ rfl
  · exact (show H[u1 1]? = some (vp_cell (G.2.1 3) (4, pa_rw (fun j => some (st_ad scr q1 q2 q3 u1 u2 (1, j))))) from (show H[u1 1]? = some _ from hP 1 _ rfl).trans (congrArg some st_spk))
  · exact hP 2 _ rfl
  · exact hP 3 _ rfl
  · exact hP 4 _ rfl
  · exact hP 5 _ rfl
  · have h := hP 6 _ rfl
    have e : pa_ce G (st_ad scr q1 q2 q3 u1 u2) st_h (1, 0) = .inr (1, [.int 0, .int 0, .int 1, .int 0, .int 0, .int 0, .int 0, va_rf ((pa_rc 3 (-1)).map (st_ad scr q1 q2 q3 u1 u2)), .ref (u1 7), .ref (u1 8), .ref (u1 9), .ref (u1 10), .ref (u1 11), .ref (u1 12)]) := rfl
    rw [e, st_rc]
    exact h
  · exact hP 7 _ rfl
  · exact hP 8 _ rfl
  · exact (show H[u1 9]? = some (vp_cell (G.2.1 2) (10, pa_rw (fun _ => (pa_rc 3 (-1)).map (st_ad scr q1 q2 q3 u1 u2)))) from (by rw [← st_noT]; exact hP 9 _ rfl))
  · exact (show H[u1 10]? = some (vp_cell (G.2.1 2) (10, pa_rw (fun _ => (pa_rc 3 (-1)).map (st_ad scr q1 q2 q3 u1 u2)))) from (by rw [← st_noT]; exact hP 10 _ rfl))
  · exact hP 11 _ rfl
  · exact hP 12 _ rfl
  · have h := hP 13 _ rfl
    have e : pa_ce G (st_ad scr q1 q2 q3 u1 u2) st_h (1, 1) = .inr (1, [.int 1, .int 0, .int 1, .int 0, .int 0, .int 0, .int 0, va_rf ((pa_rc 3 (-1)).map (st_ad scr q1 q2 q3 u1 u2)), .ref (u1 14), .ref (u1 15), .ref (u1 16), .ref (u1 17), .ref (u1 18), .ref (u1 19)]) := rfl
    rw [e, st_rc]
    exact h
  · exact hP 14 _ rfl
  · exact hP 15 _ rfl
  · exact (show H[u1 16]? = some (vp_cell (G.2.1 2) (10, pa_rw (fun _ => (pa_rc 3 (-1)).map (st_ad scr q1 q2 q3 u1 u2)))) from (by rw [← st_noT]; exact hP 16 _ rfl))
  · exact (show H[u1 17]? = some (vp_cell (G.2.1 2) (10, pa_rw (fun _ => (pa_rc 3 (-1)).map (st_ad scr q1 q2 q3 u1 u2)))) from (by rw [← st_noT]; exact hP 17 _ rfl))
  · exact hP 18 _ rfl
  · exact hP 19 _ rfl
  · have h := hP 20 _ rfl
    have e : pa_ce G (st_ad scr q1 q2 q3 u1 u2) st_h (1, 2) = .inr (1, [.int 2, .int 0, .int 1, .int 0, .int 0, .int 0, .int 0, va_rf ((pa_rc 3 (-1)).map (st_ad scr q1 q2 q3 u1 u2)), .ref (u1 21), .ref (u1 22), .ref (u1 23), .ref (u1 24), .ref (u1 25), .ref (u1 26)]) := rfl
    rw [e, st_rc]
    exact h
  · exact hP 21 _ rfl
  · exact hP 22 _ rfl
  · exact (show H[u1 23]? = some (vp_cell (G.2.1 2) (10, pa_rw (fun _ => (pa_rc 3 (-1)).map (st_ad scr q1 q2 q3 u1 u2)))) from (by rw [← st_noT]; exact hP 23 _ rfl))
  · exact (show H[u1 24]? = some (vp_cell (G.2.1 2) (10, pa_rw (fun _ => (pa_rc 3 (-1)).map (st_ad scr q1 q2 q3 u1 u2)))) from (by rw [← st_noT]; exact hP 24 _ rfl))
  · exact hP 25 _ rfl
  · exact hP 26 _ rfl
  · have h := hP 27 _ rfl
    have e : pa_ce G (st_ad scr q1 q2 q3 u1 u2) st_h (1, 3) = .inr (1, [.int 3, .int 0, .int 1, .int 0, .int 0, .int 0, .int 0, va_rf ((pa_rc 3 (-1)).map (st_ad scr q1 q2 q3 u1 u2)), .ref (u1 28), .ref (u1 29), .ref (u1 30), .ref (u1 31), .ref (u1 32), .ref (u1 33)]) := rfl
    rw [e, st_rc]
    exact h
  · exact hP 28 _ rfl
  · exact hP 29 _ rfl
  · exact (show H[u1 30]? = some (vp_cell (G.2.1 2) (10, pa_rw (fun _ => (pa_rc 3 (-1)).map (st_ad scr q1 q2 q3 u1 u2)))) from (by rw [← st_noT]; exact hP 30 _ rfl))
  · exact (show H[u1 31]? = some (vp_cell (G.2.1 2) (10, pa_rw (fun _ => (pa_rc 3 (-1)).map (st_ad scr q1 q2 q3 u1 u2)))) from (by rw [← st_noT]; exact hP 31 _ rfl))
  · exact hP 32 _ rfl
  · exact hP 33 _ rfl
  · exact hP 34 _ rfl
  · exact hP 35 _ rfl
  · exact hP 36 _ rfl
  · exact hP 37 _ rfl
  · exact hP 38 _ rfl
  · exact hP 39 _ rfl
  · exact hP 40 _ rfl
  · exact hP 41 _ rfl
  · exact hP 42 _ rfl
  · exact hP 43 _ rfl
  · exact hP 44 _ rfl
  · exact hP 45 _ rfl
  · exact hP 46 _ rfl
  · exact hP 47 _ rfl
  · exact hP 48 _ rfl
  · exact hP 49 _ rfl
  · exact hP 50 _ rfl
  · exact hP 51 _ rfl
  · exact hP 52 _ rfl
  · exact hP 53 _ rfl
  · exact hP 54 _ rfl
  · exact hP 55 _ rfl
  · exact hP 56 _ rfl
  · exact hP 57 _ rfl
  · exact hP 58 _ rfl
  · exact hP 59 _ rfl
  · exact hP 60 _ rfl
  · exact hP 61 _ rfl
  · exact hP 62 _ rfl
  · exact hP 63 _ rfl
theorem st_R {G : pa_G} {scr q1 q2 q3 : Nat} {u1 u2 : Nat → Nat} {H : Heap} (hP : va_P G.1 vwCl (st_W G q1 q2 q3 u1 u2) H) (hD : va_D (pa_A G) (st_W G q1 q2 q3 u1 u2)) (hE : pa_E0 G H[G.2.2.2]?) (hlt : G.2.2.2 < G.2.2.1) (hz : G.2.2.1 ≤ H.size) : pa_R G (st_ad scr q1 q2 q3 u1 u2) st_h H := by
  refine ⟨fun n hn => st_at hP n (st_live hn), fun n n2 hn hn2 e => ?_, fun n hn => ?_, hE, hlt, hz⟩
  · obtain ⟨k, -, hk⟩ := st_ix n (st_live hn)
    obtain ⟨k2, -, hk2⟩ := st_ix n2 (st_live hn2)
    obtain ⟨z, z1, z2⟩ := st_pk (G := G) (scr := scr) (q1 := q1) (q2 := q2) (q3 := q3) (u1 := u1) (u2 := u2) hk
    obtain ⟨y, y1, y2⟩ := st_pk (G := G) (scr := scr) (q1 := q1) (q2 := q2) (q3 := q3) (u1 := u1) (u2 := u2) hk2
    have ek := hD.1 k k2 z y z1 y1 (by rw [z2, y2, e])
    subst ek
    exact Option.some.inj (hk.symm.trans hk2)
  · obtain ⟨k, -, hk⟩ := st_ix n (st_live hn)
    obtain ⟨z, z1, z2⟩ := st_pk (G := G) (scr := scr) (q1 := q1) (q2 := q2) (q3 := q3) (u1 := u1) (u2 := u2) hk
    rw [← z2]
    exact hD.2 k z z1
/-! THE STATES AT THE START -/
theorem st_P : sj_P st_K 0 st_S := by
  intro q hq o j ho hj
  simp only [sj_T, List.mem_cons, List.not_mem_nil, or_false] at hq
  rcases hq with rfl | rfl | rfl | rfl | rfl | rfl | rfl | rfl | rfl | rfl | rfl | rfl | rfl | rfl | rfl | rfl | rfl | rfl | rfl | rfl | rfl | rfl | rfl | rfl | rfl | rfl
  · rfl
  · have ho : o < 4 := ho
    have hj : j < 1 := hj
    show (1 : Int32) = ct_f 4 1 0 (1 * o + j)
    exact (if_pos (by omega)).symm
  · rfl
  · rfl
  · rfl
  · rfl
  · rfl
  · rfl
  · have ho : o < 4 := ho
    have hj : j < 10 := hj
    show (-1 : Int32) = ct_f 40 (-1) 0 (10 * o + j)
    exact (if_pos (by omega)).symm
  · exact absurd (show o < 0 from ho) (Nat.not_lt_zero o)
  · exact absurd (show o < 0 from ho) (Nat.not_lt_zero o)
  · exact absurd (show o < 0 from ho) (Nat.not_lt_zero o)
  · exact absurd (show o < 0 from ho) (Nat.not_lt_zero o)
  · exact absurd (show o < 0 from ho) (Nat.not_lt_zero o)
  · exact absurd (show o < 0 from ho) (Nat.not_lt_zero o)
  · exact absurd (show o < 0 from ho) (Nat.not_lt_zero o)
  · exact absurd (show o < 0 from ho) (Nat.not_lt_zero o)
  · exact absurd (show o < 0 from ho) (Nat.not_lt_zero o)
  · exact absurd (show o < 0 from ho) (Nat.not_lt_zero o)
  · exact absurd (show o < 0 from ho) (Nat.not_lt_zero o)
  · have ho : o < 1 := ho
    have hj : j < 8 := hj
    show ct_f 8 (-1) 0 j = ct_f 8 (-1) 0 (8 * o + j)
    rw [show 8 * o + j = j by omega]
  · rfl
  · rfl
  · rfl
  · rfl
  · rfl
theorem st_S0 {f j : Nat} (h : f ∉ [203, 209, 213, 230, 215]) : st_S f j = 0 := by
  unfold st_S
  simp only [List.mem_cons, List.not_mem_nil, or_false, not_or] at h
  obtain ⟨h1, h2, h3, h4, h5⟩ := h
  rw [if_neg h1, if_neg h2, if_neg h3, if_neg h4, if_neg h5]
theorem st_M : sj_M st_K (fun _ => 0) 0 0 sc_zf 0 st_S := by
  refine ⟨st_P, ⟨rfl, rfl, Nat.le_refl _, rfl, rfl, rfl, rfl, Nat.zero_le _, Nat.le_refl _, Nat.le_refl _, Nat.le_refl _, by decide, by decide, by decide⟩, fun i _ => rfl, fun t ht => absurd ht (Nat.not_lt_zero t), fun j hj => absurd hj (Nat.not_lt_zero j), fun i _ => rfl, fun t ht => absurd ht (Nat.not_lt_zero t), fun i a _ _ => ?_, fun i a _ _ => ⟨0, by decide, rfl, fun r _ => ?_⟩, fun i j _ _ => ⟨0, by decide, rfl, fun a _ => ?_⟩, fun i a _ _ => rfl, ?_⟩
  · rw [if_pos (show st_S 210 _ = 0 from rfl)]
    rfl
  · rw [Nat.zero_testBit]
    exact (decide_eq_false (fun z => z rfl)).symm
  · rw [Nat.zero_testBit]
    exact (decide_eq_false (fun z => z rfl)).symm
  · have h1 : sj_nz st_S ≤ 40 := sj_c_le _ _
    have h2 : sj_nh st_S = 0 := by decide
    show 0 + sj_nz st_S + sj_nh st_S + 0 ≤ 40 + 3 * sj_nd st_S 0
    omega
theorem st_A : sc_A st_S 0 0 := by
  refine ⟨⟨⟨by decide, rfl, fun t ht => absurd ht (Nat.not_lt_zero t)⟩, ⟨0, by decide, rfl, fun j => ⟨0, by decide, rfl⟩, fun j hj => absurd hj (Nat.not_lt_zero j)⟩, fun k hk => Or.inl ?_, fun p hp => absurd rfl hp, fun p hp => absurd rfl hp, Or.inl rfl⟩, ⟨⟨fun t ht => absurd ht (Nat.not_lt_zero t), fun t _ => rfl⟩, fun p hp => ⟨Or.inl rfl, fun _ => ?_⟩, fun t => Or.inl rfl, fun p _ hp => absurd rfl hp, fun k _ hk => absurd rfl hk, fun p => Or.inl rfl, fun p _ => rfl⟩, fun p hp => absurd (show (0 : Int32) = 2 from hp) (by decide), fun k hk hk2 => absurd ?_ hk2, rfl, by decide⟩
  · show ct_f 4 (-1) 0 k = -1
    exact if_pos hk
  · show ct_f 40 (-1) 0 p = -1
    exact if_pos hp
  · show ct_f 4 (-1) 0 k = -1
    exact if_pos hk
theorem st_lw : lw_R st_K (fun _ => 0) 0 sc_zf st_S 0 :=
  ⟨st_M, st_A, rfl, fun j hj => (show (-1 : Int32) = ct_f 4 (-1) 0 j from (if_pos hj).symm), Or.inl rfl, fun p _ => rfl⟩
