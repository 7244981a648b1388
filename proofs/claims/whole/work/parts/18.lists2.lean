/-! LISTS over the abstract heap: adding, removing the last -/
/-- the class's ints behind an adding: how often the list was changed; the open questions' numbers -/
abbrev lr_K (K : Nat → Nat → Nat → Int32) (lst n : Nat) (cd : Int32) : Nat → Nat → Nat → Int32 := pa_up (if lst = 1 then pa_up K 163 0 n cd else K) 0 lst 0 (K 0 lst 0 + 1)
theorem lr_K40 {K : Nat → Nat → Nat → Int32} {lst n : Nat} {cd : Int32} {f o j : Nat} (h1 : 40 ≤ f) (h2 : f ≠ 163) : lr_K K lst n cd f o j = K f o j := by
  unfold lr_K
  rw [pa_up_ne (by omega)]
  split
  · exact pa_up_ne h2
  · rfl
theorem lr_K0 {K : Nat → Nat → Nat → Int32} {lst n : Nat} {cd : Int32} {l2 : Nat} (h : l2 ≠ lst) : lr_K K lst n cd 0 l2 0 = K 0 l2 0 := by
  unfold lr_K pa_up
  rw [if_neg (fun z => h z.2.1)]
  split
  · show pa_up K 163 0 n cd 0 l2 0 = K 0 l2 0
    exact pa_up_ne (by decide)
  · rfl
theorem lr_nc0 {n cap : Nat} (h : n ≤ cap) : lr_nc n cap ≠ 0 := by
  by_cases c : n = cap
  · rw [lr_nc, if_pos c]
    have := lr_cap_gt n
    omega
  · rw [lr_nc, if_neg c]
    omega
theorem lr_K163 {K : Nat → Nat → Nat → Int32} {lst n : Nat} {cd : Int32} {j : Nat} : lr_K K lst n cd 163 0 j = if lst = 1 ∧ j = n then cd else K 163 0 j := by
  unfold lr_K
  rw [pa_up_ne (by decide)]
  by_cases c : lst = 1
  · rw [if_pos c]
    unfold pa_up
    by_cases c2 : j = n
    · rw [if_pos ⟨rfl, rfl, c2⟩, if_pos ⟨c, c2⟩]
    · rw [if_neg (fun z => c2 z.2.2), if_neg (fun z => c2 z.2)]
  · rw [if_neg c, if_neg (fun z => c z.1)]
theorem lr_anyN {G : pa_G} {ad : pa_Nm → Nat} {h : pa_H} {s : State} {H : Heap} {nm : pa_Nm} (hU : pa_U G s) (hR : pa_R G ad h H) (hl : pa_lv h.2.2.1 nm) (hk : nm.1 = 2 ∨ nm.1 = 3) : va_Any "java/lang/Object" s H (ad nm) := by
  obtain ⟨k, i⟩ := nm
  have h1 := hR.1 (k, i) hl
  have key : ∀ (C : String), (C, "java/lang/Object") ∈ pa_cas → ∀ comp c0 : ClassId, s.vm.findClass "java/lang/Object" = some comp → s.vm.findClass C = some c0 → s.vm.assignable c0 comp = true := fun C hC comp c0 g1 g2 => by
    obtain ⟨c9, t9, f1, f2, f3⟩ := Cond.castable_spec (va_Nw.use (A := #[]) rfl (hU.2.2.2.2.2.2.1 _ hC))
    cases f1.symm.trans g2
    cases f2.symm.trans g1
    exact f3
  rcases hk with hk | hk
  · dsimp only at hk
    subst hk
    rw [pa_ce_ob G ad h i (by decide) (by decide)] at h1
    exact va_rAny hU.1 (pa_P1 h1) (q0 := 0) rfl (r := (RX1, TX1, 3)) rfl (key "ParleyRoom$Step" (by decide))
  · dsimp only at hk
    subst hk
    rw [pa_ce_ob G ad h i (by decide) (by decide)] at h1
    exact va_rAny hU.1 (pa_P1 h1) (q0 := 0) rfl (r := (RX2, TX2, 13)) rfl (key "ParleyRoom$Turn" (by decide))
/-- where the list's row lies -/
abbrev lr_dr (G : pa_G) (ad : pa_Nm → Nat) (N : Nat → Nat) (l : Nat) : Nat := if N (5 + l) = 0 then G.2.2.2 else ad (8, l)
abbrev lr_f (ad : pa_Nm → Nat) (h : pa_H) (l : Nat) : Nat → Option Nat := fun j => if j < h.2.2.1 (2 + l) then some (ad (pa_le h l j)) else none
theorem lr_cells {G : pa_G} {ad : pa_Nm → Nat} {h : pa_H} {H : Heap} {l : Nat} (hR : pa_R G ad h H) (hl : l < 3) (c : h.2.2.1 (5 + l) ≠ 0) :
    va_P G.1 vwCl [(ad (0, l), lr_L (h.1 0 l 0) (lr_dr G ad h.2.2.1 l) (h.2.2.1 (2 + l))), (lr_dr G ad h.2.2.1 l, lr_E G (lr_f ad h l) (h.2.2.1 (5 + l)))] H := by
  have h1 := hR.1 (0, l) (pl_0 hl)
  rw [pa_ce_l, if_neg c] at h1
  unfold lr_dr
  rw [if_neg c]
  refine lr_p2 h1 ?_
  have h2 := hR.1 (8, l) (pl_8 hl c)
  rw [pa_ce_8] at h2
  exact h2
theorem lr_cellsw {G : pa_G} {ad : pa_Nm → Nat} {h : pa_H} {H : Heap} {l : Nat} (hR : pa_R G ad h H) (hl : l < 3) :
    va_at G.1 vwCl (ad (0, l), lr_L (h.1 0 l 0) (lr_dr G ad h.2.2.1 l) (h.2.2.1 (2 + l))) H ∧ lr_Ro G (lr_dr G ad h.2.2.1 l) (lr_f ad h l) (h.2.2.1 (5 + l)) H := by
  have h1 := hR.1 (0, l) (pl_0 hl)
  rw [pa_ce_l] at h1
  by_cases c : h.2.2.1 (5 + l) = 0
  · rw [if_pos c] at h1
    unfold lr_dr
    rw [if_pos c]
    exact ⟨h1, fun z => absurd c z, fun _ => hR.2.2.2.1⟩
  · rw [if_neg c] at h1
    unfold lr_dr
    rw [if_neg c]
    have h2 := hR.1 (8, l) (pl_8 hl c)
    rw [pa_ce_8] at h2
    exact ⟨h1, fun _ => h2, fun z => absurd z c⟩
theorem pa_le_k (h : pa_H) (l j : Nat) : (pa_le h l j).1 = 2 ∨ (pa_le h l j).1 = 3 := by
  unfold pa_le
  split
  · exact Or.inr rfl
  · split
    · exact Or.inr rfl
    · exact Or.inl rfl
set_option maxRecDepth 100000 in
set_option maxHeartbeats 2000000 in
theorem c_ladd (G : pa_G) (l : Launch) (h : pa_H) (lst : Nat) (nm : pa_Nm) (cd : Int32) (hl : lst < 3) (hc : h.2.2.1 (2 + lst) ≤ h.2.2.1 (5 + lst)) (hc9 : h.2.2.1 (5 + lst) < 60000) (hel : ∀ j, j < h.2.2.1 (2 + lst) → pa_lv h.2.2.1 (pa_le h lst j)) (hlv : pa_lv h.2.2.1 nm)
    (hnm : (lst = 0 → nm = (3, h.2.2.1 2)) ∧ (lst = 1 → nm = (3, cd.toNatClampNeg)) ∧ (lst = 2 → nm = (2, h.2.2.1 4))) :
    pa_M G l mJx4a65c_add_9ea2d 7 true [pv_o 0 lst, pv_r (some nm)] h 1 (lr_cap (h.2.2.1 (5 + lst))) (fun r h' => r = some (pv_i 1) ∧ h' = (lr_K h.1 lst (h.2.2.1 (2 + lst)) cd, h.2.1, lr_N h.2.2.1 lst (h.2.2.1 (2 + lst) + 1) (lr_nc (h.2.2.1 (2 + lst)) (h.2.2.1 (5 + lst))), h.2.2.2)) := by
  intro ad
  have hnk : nm.1 = 2 ∨ nm.1 = 3 := by
    obtain ⟨e1, e2, e3⟩ := hnm
    rcases (show lst = 0 ∨ lst = 1 ∨ lst = 2 by omega) with c | c | c
    · rw [e1 c]; exact Or.inr rfl
    · rw [e2 c]; exact Or.inr rfl
    · rw [e3 c]; exact Or.inl rfl
  refine lr_met (ι := State) (ok := fun U => pa_R G ad h U.heap ∧ pa_U G U ∧ pa_Zs G U U.heap) (fun U hU => lr_add G l U.heap.size (ad (0, lst)) (lr_dr G ad h.2.2.1 lst) (h.2.2.1 (2 + lst)) (h.2.2.1 (5 + lst)) (ad nm) (h.1 0 lst 0) (lr_f ad h lst) hc hc9 (hU.1.2.2.1 _ (pl_0 hl)) (fun c => if_pos c) (fun c => ?_) hU.1.2.2.2.2.2 hU.1.2.2.2.2.1 ?_ ?_ ?_ ?_) (fun a s hP => ?_)
  · unfold lr_dr
    rw [if_neg c]
    exact hU.1.2.2.1 _ (pl_8 hl c)
  · unfold lr_dr
    split
    · have := hU.1.2.2.1 _ (pl_0 (N := h.2.2.1) hl)
      have := hU.1.2.2.2.2.1
      omega
    · rename_i c
      exact fun e => absurd (hU.1.2.1 _ _ (pl_0 hl) (pl_8 hl c) e) (by intro z; cases z)
  · exact fun e => by
      have := hU.1.2.1 _ _ hlv (pl_0 hl) e
      rw [this] at hnk
      rcases hnk with c | c <;> cases c
  · unfold lr_dr
    split
    · have := hU.1.2.2.1 _ hlv
      have := hU.1.2.2.2.2.1
      omega
    · rename_i c
      exact fun e => by
        have := hU.1.2.1 _ _ hlv (pl_8 hl c) e
        rw [this] at hnk
        rcases hnk with c | c <;> cases c
  · rintro ⟨j, hj, hj2⟩
    unfold lr_f at hj2
    split at hj2
    · rename_i c
      have := hU.1.2.1 _ _ (hel j c) (pl_0 hl) (Option.some.inj hj2)
      have h9 := pa_le_k h lst j
      rw [this] at h9
      rcases h9 with c | c <;> cases c
    · cases hj2
  · obtain ⟨rfl, hR, hU, hZ⟩ := hP
    refine ⟨s, ⟨hR, hU, hZ⟩, ⟨rfl, rfl, lr_cellsw hR hl, fun y hy => ?_, hU, hZ⟩, fun o t hq => ?_, fun q hq => ?_⟩
    · rcases hy with ⟨j, hj, hj2⟩ | hy
      · unfold lr_f at hj2
        split at hj2
        · rename_i c
          rw [← Option.some.inj hj2]
          exact lr_anyN hU hR (hel j c) (pa_le_k h lst j)
        · cases hj2
      · rw [hy]
        exact lr_anyN hU hR hlv hnk
    · obtain ⟨⟨r, u, rfl, rfl, q1, q2, q3, q4, q5⟩, hz, hk⟩ := hq
      have hcap0 := lr_nc0 hc
      have hle9 : ∀ j, j ≠ h.2.2.1 (2 + lst) ∨ lst ≠ 1 → pa_le (lr_K h.1 lst (h.2.2.1 (2 + lst)) cd, h.2.1, lr_N h.2.2.1 lst (h.2.2.1 (2 + lst) + 1) (lr_nc (h.2.2.1 (2 + lst)) (h.2.2.1 (5 + lst))), h.2.2.2) lst j = pa_le h lst j := fun j hj => by
        unfold pa_le
        dsimp only
        by_cases c0 : lst = 0
        · rw [if_pos c0, if_pos c0]
        rw [if_neg c0, if_neg c0]
        by_cases c1 : lst = 1
        · rw [if_pos c1, if_pos c1, lr_K163, if_neg (fun z => hj.elim (fun q => q z.2) (fun q => q z.1))]
        · rw [if_neg c1, if_neg c1]
      obtain ⟨ad', g1, g2⟩ := lr_R (h' := (lr_K h.1 lst (h.2.2.1 (2 + lst)) cd, h.2.1, lr_N h.2.2.1 lst (h.2.2.1 (2 + lst) + 1) (lr_nc (h.2.2.1 (2 + lst)) (h.2.2.1 (5 + lst))), h.2.2.2)) (H1 := t.heap) (q := u.1) hl hR hcap0 rfl (fun f o j h1 h2 => lr_K40 h1 h2) (fun l2 h2 => lr_K0 h2)
        (fun l2 h3 h2 j => by
          unfold pa_le
          dsimp only
          by_cases c0 : l2 = 0
          · rw [if_pos c0, if_pos c0]
          rw [if_neg c0, if_neg c0]
          by_cases c1 : l2 = 1
          · rw [if_pos c1, if_pos c1, lr_K163, if_neg (fun z => h2 (by rw [c1, z.1]))]
          · rw [if_neg c1, if_neg c1]) rfl rfl
        (by
          rcases q1 with ⟨q1, q1n⟩ | q1
          · right
            have c : h.2.2.1 (5 + lst) ≠ 0 := by omega
            refine ⟨c, ?_⟩
            rw [q1]
            exact if_neg c
          · exact Or.inl q1) hz (fun z h1 h2 h3 => hk z h1 (fun q => by
            rcases q with q | ⟨q, qc⟩ | q
            · exact h2 q
            · refine h3 ⟨?_, qc⟩
              rw [q]
              exact if_neg qc
            · omega))
        (by
          have e : lr_K h.1 lst (h.2.2.1 (2 + lst)) cd 0 lst 0 = h.1 0 lst 0 + 1 := pa_up_self _ _ _ _ _
          show va_at G.1 vwCl (ad (0, lst), .inr (0, [.int (lr_K h.1 lst (h.2.2.1 (2 + lst)) cd 0 lst 0), .ref u.1, .int (nI (h.2.2.1 (2 + lst) + 1))])) t.heap
          rw [e]
          exact q2 0 _ rfl)
        (fun ad' had => by
          have e9 : u.2 = fun j => if j < h.2.2.1 (2 + lst) + 1 then some (ad' (pa_le (lr_K h.1 lst (h.2.2.1 (2 + lst)) cd, h.2.1, lr_N h.2.2.1 lst (h.2.2.1 (2 + lst) + 1) (lr_nc (h.2.2.1 (2 + lst)) (h.2.2.1 (5 + lst))), h.2.2.2) lst j)) else none := by
            funext j
            rcases Nat.lt_trichotomy j (h.2.2.1 (2 + lst)) with c | c | c
            · rw [q3 j c, if_pos (by omega), hle9 j (Or.inl (by omega)), had _ (by rcases pa_le_k h lst j with z | z <;> rw [z] <;> decide)]
              exact if_pos c
            · rw [c, q4, if_pos (by omega)]
              have e8 : pa_le (lr_K h.1 lst (h.2.2.1 (2 + lst)) cd, h.2.1, lr_N h.2.2.1 lst (h.2.2.1 (2 + lst) + 1) (lr_nc (h.2.2.1 (2 + lst)) (h.2.2.1 (5 + lst))), h.2.2.2) lst (h.2.2.1 (2 + lst)) = nm := by
                obtain ⟨n1, n2, n3⟩ := hnm
                unfold pa_le
                dsimp only
                rcases (show lst = 0 ∨ lst = 1 ∨ lst = 2 by omega) with c | c | c
                · rw [if_pos c, n1 c, c]
                · rw [if_neg (by omega), if_pos c, n2 c, lr_K163, if_pos ⟨c, rfl⟩]
                · rw [if_neg (by omega), if_neg (by omega), n3 c, c]
              rw [e8, had _ (by rcases hnk with z | z <;> rw [z] <;> decide)]
            · rw [q5 j c, if_neg (show ¬ j < h.2.2.1 (2 + lst) + 1 by omega)]
              split
              · rfl
              · exact if_neg (by omega)
          rw [← e9]
          exact q2 1 _ rfl)
      refine ⟨⟨some (pv_i 1), _, ad', rfl, ⟨rfl, rfl⟩, g1, g2⟩, hz, fun q h1 h2 => hk q h1 (fun z => h2 ?_)⟩
      rcases z with z | ⟨z, zc⟩ | z
      · rw [z]; exact hR.2.2.1 _ (pl_0 hl)
      · rw [z]
        unfold lr_dr
        rw [if_neg zc]
        exact hR.2.2.1 _ (pl_8 hl zc)
      · omega
    · rcases hq with z | ⟨z, zc⟩ | z
      · rw [z]; exact hR.2.2.1 _ (pl_0 hl)
      · rw [z]
        unfold lr_dr
        rw [if_neg zc]
        exact hR.2.2.1 _ (pl_8 hl zc)
      · exact Nat.le_trans hR.2.2.2.2.2 z
