/-! THE ABSTRACT HEAP: objects by names (kind, number), their ints by (field, owner, place); what of it is on the machine's heap; the walk of a method over it. -/
-- values: an int, a long, or a reference to a named cell
abbrev pa_Nm : Type := Nat × Nat
abbrev pa_V : Type := Int32 ⊕ (Int64 ⊕ Option (Nat × Nat))
abbrev pv_i (x : Int32) : pa_V := Sum.inl x
abbrev pv_l (x : Int64) : pa_V := Sum.inr (Sum.inl x)
abbrev pv_r (r : Option (Nat × Nat)) : pa_V := Sum.inr (Sum.inr r)
abbrev pv_o (k i : Nat) : pa_V := Sum.inr (Sum.inr (some (k, i)))
def pa_tr (ad : pa_Nm → Nat) : pa_V → Value
  | .inl x => .int x
  | .inr (.inl x) => .long x
  | .inr (.inr none) => .null
  | .inr (.inr (some n)) => .ref (ad n)
theorem pa_tr_i (ad : pa_Nm → Nat) (x : Int32) : pa_tr ad (pv_i x) = .int x := rfl
theorem pa_tr_l (ad : pa_Nm → Nat) (x : Int64) : pa_tr ad (pv_l x) = .long x := rfl
theorem pa_tr_o (ad : pa_Nm → Nat) (n : pa_Nm) : pa_tr ad (pv_r (some n)) = .ref (ad n) := rfl
theorem pa_tr_n (ad : pa_Nm → Nat) : pa_tr ad (pv_r none) = .null := rfl
theorem pa_tr_r (ad : pa_Nm → Nat) (r : Option pa_Nm) : pa_tr ad (pv_r r) = va_rf (r.map ad) := by cases r <;> rfl
/-- the class's ints, the reference's ints, sizes, the law's row of answers -/
abbrev pa_H : Type := (Nat → Nat → Nat → Int32) × ((Nat → Nat → Int32) × ((Nat → Nat) × (Nat → Int64)))
def pa_up (K : Nat → Nat → Nat → Int32) (f o j : Nat) (v : Int32) : Nat → Nat → Nat → Int32 := fun g p q => if g = f ∧ p = o ∧ q = j then v else K g p q
def pa_us (S : Nat → Nat → Int32) (f j : Nat) (v : Int32) : Nat → Nat → Int32 := fun g q => if g = f ∧ q = j then v else S g q
def pa_un (N : Nat → Nat) (k v : Nat) : Nat → Nat := fun j => if j = k then v else N j
/-- a reference's code: below 0 none, else a number of the kind k -/
def pa_rc (k : Nat) (x : Int32) : Option pa_Nm := if x < 0 then none else some (k, x.toNatClampNeg)
/-- the kinds of fields: 0 int, 8 boolean, 2 a Turn or null, 3 a Speaker, 6 a list, 10 int of the reference, 11 boolean of it; rows: 1 ints, 4 Turns, 5 Speakers, 12 ints of the reference, 13 booleans of it -/
def pa_ty (f : Nat) : Nat := [
  0, 0, 0, 0, 8, 0, 0, 2, 1, 1, 4, 4, 1, 1, 99, 99, 99, 99, 99, 99, 99, 99, 99, 99, 99, 99, 99, 99, 99, 99, 99, 99, 99, 99, 99, 99, 99, 99, 99, 99,
  0, 0, 0, 99, 99, 99, 99, 99, 99, 99, 99, 99, 99, 99, 99, 99, 99, 99, 99, 99, 99, 99, 99, 99, 99, 99, 99, 99, 99, 99, 99, 99, 99, 99, 99, 99, 99, 99, 99, 99,
  3, 0, 0, 0, 0, 0, 0, 0, 0, 0, 8, 1, 1, 99, 99, 99, 99, 99, 99, 99, 99, 99, 99, 99, 99, 99, 99, 99, 99, 99, 99, 99, 99, 99, 99, 99, 99, 99, 99, 99,
  5, 1, 6, 6, 6, 8, 0, 0, 0, 0, 99, 99, 99, 99, 99, 99, 99, 99, 99, 99, 99, 99, 99, 99, 99, 99, 99, 99, 99, 99, 99, 99, 99, 99, 99, 99, 99, 99, 99, 99,
  10, 11, 12, 12, 12, 13, 12, 12, 12, 12, 12, 12, 12, 12, 10, 10, 10, 10, 12, 12, 12, 12, 12, 12, 12, 12, 12, 13, 12, 12, 12, 10, 12, 13, 13, 10, 99, 99, 99, 99].getD (f - 40) 99
/-- how long the rows are -/
def pa_ln (f : Nat) : Nat := [
  0, 0, 0, 0, 0, 0, 0, 0, 10, 10, 10, 10, 10, 4, 0, 0, 0, 0, 0, 0, 0, 0, 0, 0, 0, 0, 0, 0, 0, 0, 0, 0, 0, 0, 0, 0, 0, 0, 0, 0,
  0, 0, 0, 0, 0, 0, 0, 0, 0, 0, 0, 0, 0, 0, 0, 0, 0, 0, 0, 0, 0, 0, 0, 0, 0, 0, 0, 0, 0, 0, 0, 0, 0, 0, 0, 0, 0, 0, 0, 0,
  0, 0, 0, 0, 0, 0, 0, 0, 0, 0, 0, 4, 4, 0, 0, 0, 0, 0, 0, 0, 0, 0, 0, 0, 0, 0, 0, 0, 0, 0, 0, 0, 0, 0, 0, 0, 0, 0, 0, 0,
  4, 8, 0, 0, 0, 0, 0, 0, 0, 0, 0, 0, 0, 0, 0, 0, 0, 0, 0, 0, 0, 0, 0, 0, 0, 0, 0, 0, 0, 0, 0, 0, 0, 0, 0, 0, 0, 0, 0, 0,
  0, 0, 4, 4, 4, 4, 4, 40, 40, 40, 40, 40, 4, 8, 0, 0, 0, 0, 100, 100, 100, 100, 100, 100, 100, 100, 100, 100, 400, 400, 4, 0, 6, 160, 400, 0, 0, 0, 0, 0].getD (f - 40) 0
/-- the class tables' numbers, the array classes, where the made cells begin, the empty row that all new lists share -/
abbrev pa_G : Type := va_G × ((Nat → ClassId) × (Nat × Nat))
def pa_tys (G : pa_G) : List (ClassId × FieldType) := [(G.2.1 0, .int), (G.2.1 1, .boolean), (G.2.1 2, .object "ParleyRoom$Turn"), (G.2.1 3, .object "ParleyRoom$Speaker"), (G.2.1 4, .object "java/lang/Object"), (G.2.1 5, .long)]
abbrev pa_rw (f : Nat → Option Nat) : (Nat → Int32) ⊕ (Nat → Int64) ⊕ (Nat → UInt32) ⊕ (Nat → UInt64) ⊕ (Nat → Option Nat) := .inr (.inr (.inr (.inr f)))
/-- what a field of the object i holds -/
def pa_fv (ad : pa_Nm → Nat) (h : pa_H) (f i : Nat) : Value :=
  if pa_ty f = 0 ∨ pa_ty f = 8 then .int (h.1 f i 0) else
  if pa_ty f = 2 then va_rf ((pa_rc 3 (h.1 f i 0)).map ad) else
  if pa_ty f = 3 then .ref (ad (1, (h.1 f i 0).toNatClampNeg)) else
  if pa_ty f = 6 then .ref (ad (0, f - 162)) else
  if pa_ty f = 10 ∨ pa_ty f = 11 then .int (h.2.1 f 0) else .ref (ad (100 + f, i))
/-- what a row holds -/
def pa_av (ad : pa_Nm → Nat) (h : pa_H) (f i : Nat) : (Nat → Int32) ⊕ (Nat → Int64) ⊕ (Nat → UInt32) ⊕ (Nat → UInt64) ⊕ (Nat → Option Nat) :=
  if pa_ty f = 1 then .inl (h.1 f i) else
  if pa_ty f = 4 then pa_rw (fun j => (pa_rc 3 (h.1 f i j)).map ad) else
  if pa_ty f = 5 then pa_rw (fun j => some (ad (1, j))) else .inl (h.2.1 f)
def pa_ac (f : Nat) : Nat := if pa_ty f = 4 then 2 else if pa_ty f = 5 then 3 else if pa_ty f = 13 then 1 else 0
/-- the element of a list -/
def pa_le (h : pa_H) (l j : Nat) : pa_Nm := if l = 0 then (3, j) else if l = 1 then (3, (h.1 163 0 j).toNatClampNeg) else (2, j)
def pa_fs (ad : pa_Nm → Nat) (h : pa_H) (k i n : Nat) : List Value := (List.range n).map (fun j => pa_fv ad h (40 * k + j) i)
def pa_nf (k : Nat) : Nat := [3, 14, 3, 13, 10, 36].getD k 0
/-- the cell of a name -/
def pa_ce (G : pa_G) (ad : pa_Nm → Nat) (h : pa_H) (n : pa_Nm) : va_E :=
  if n.1 = 0 then .inr (0, [.int (h.1 0 n.2 0), if h.2.2.1 (5 + n.2) = 0 then .ref G.2.2.2 else .ref (ad (8, n.2)), .int (nI (h.2.2.1 (2 + n.2)))]) else
  if n.1 < 6 then .inr (n.1, pa_fs ad h n.1 n.2 (pa_nf n.1)) else
  if n.1 = 6 then .inr (3, [.null, .int 0, .int 0, .int 0, .int 0, .int 0, .int 0, .int 0, .int 0, .int 0, .int 0, .null, .null]) else
  if n.1 = 7 then .inr (2, [.int 0, .int 0, .int 0]) else
  if n.1 = 8 then .inl (G.2.1 4, h.2.2.1 (5 + n.2), pa_rw (fun j => if j < h.2.2.1 (2 + n.2) then some (ad (pa_le h n.2 j)) else none)) else
  if n.1 = 9 then .inl (G.2.1 5, 1, .inr (.inl h.2.2.2)) else
  .inl (G.2.1 (pa_ac (n.1 - 100)), pa_ln (n.1 - 100), pa_av ad h (n.1 - 100) n.2)
/-- the names in use -/
def pa_lo (N : Nat → Nat) (k i : Nat) : Prop :=
  if k = 1 then i < 4 else if k = 2 then i < N 1 else if k = 3 then i < N 0 else if k = 4 ∨ k = 5 then i = 0 else False
def pa_lv (N : Nat → Nat) (n : pa_Nm) : Prop :=
  if n.1 = 0 then n.2 < 3 else
  if n.1 < 6 then pa_lo N n.1 n.2 else
  if n.1 = 6 then n.2 = 0 ∧ N 8 = 1 else
  if n.1 = 7 then n.2 = 0 ∧ N 9 = 1 else
  if n.1 = 8 then n.2 < 3 ∧ N (5 + n.2) ≠ 0 else
  if n.1 = 9 then n.2 = 0 else
  pa_ln (n.1 - 100) ≠ 0 ∧ 100 ≤ n.1 ∧ pa_lo N ((n.1 - 100) / 40) n.2
/-- the empty row that all new lists share: of its cell no more is said than that it is an array of objects with no places -/
def pa_E0 (G : pa_G) (o : Option Cell) : Prop := ∃ ce : Cell, o = some ce ∧ ce.cls = G.2.1 4 ∧ ce.slots.size = 0 ∧ ce.vm ≠ .unknown ∧ ∀ k, ce.vm ≠ .statics k
/-- the machine's heap holds the abstract one -/
def pa_R (G : pa_G) (ad : pa_Nm → Nat) (h : pa_H) (H : Heap) : Prop :=
  (∀ n, pa_lv h.2.2.1 n → va_at G.1 vwCl (ad n, pa_ce G ad h n) H) ∧ (∀ n m, pa_lv h.2.2.1 n → pa_lv h.2.2.1 m → ad n = ad m → n = m) ∧ (∀ n, pa_lv h.2.2.1 n → G.2.2.1 ≤ ad n) ∧
  pa_E0 G H[G.2.2.2]? ∧ G.2.2.2 < G.2.2.1 ∧ G.2.2.1 ≤ H.size
def pa_A (G : pa_G) : Nat → Prop := fun q => G.2.2.1 ≤ q
/-- two namings agree on the names in use (but the lists' data rows, which growing replaces) -/
def pa_ag (h : pa_H) (ad ad' : pa_Nm → Nat) : Prop := ∀ n, n.1 ≠ 8 → pa_lv h.2.2.1 n → ad' n = ad n
theorem pa_ag_rf (h : pa_H) (ad : pa_Nm → Nat) : pa_ag h ad ad := fun _ _ _ => rfl
-- the locals
def pa_c1 : pa_V → Prop | .inr (.inl _) => False | _ => True
def pa_Lo (ad : pa_Nm → Nat) (ls : Array Slot) (nL : Nat) (lo : List (Option pa_V)) : Prop :=
  ls.size = nL ∧ lv_wf ls ∧ ∀ (j : Nat) (v : pa_V), lo[j]? = some (some v) → ls[j]? = some (.val (pa_tr ad v)) ∧ pa_c1 v
theorem pa_c1_cat {ad : pa_Nm → Nat} : ∀ {v : pa_V}, pa_c1 v → (pa_tr ad v).category = 1
  | .inl _, _ => rfl
  | .inr (.inl _), h => h.elim
  | .inr (.inr none), _ => rfl
  | .inr (.inr (some _)), _ => rfl
theorem pa_Lo_set {ad : pa_Nm → Nat} {ls : Array Slot} {nL : Nat} {lo : List (Option pa_V)} {i : Nat} {v : pa_V} (h : pa_Lo ad ls nL lo) (hi : i < nL) (hc : pa_c1 v) :
    ∃ ls', storeLocals ls i (pa_tr ad v) = some ls' ∧ pa_Lo ad ls' nL (lo.set i (some v)) := by
  obtain ⟨h1, h2, h3⟩ := h
  have hcat := pa_c1_cat (ad := ad) hc
  obtain ⟨ls', e', g1, g2, g3⟩ := lv_store1 (l := []) ⟨h1, h2, fun q hq => by cases hq⟩ hi hcat
  refine ⟨ls', e', g1, g2, fun j w hw => ?_⟩
  by_cases hj : j = i
  · subst hj
    rw [List.getElem?_set] at hw
    simp only [if_true] at hw
    split at hw
    · cases hw
      exact ⟨g3 _ List.mem_cons_self, hc⟩
    · cases hw
  · rw [List.getElem?_set_ne (fun q => hj q.symm)] at hw
    obtain ⟨k1, k2⟩ := h3 j w hw
    have hcw := pa_c1_cat (ad := ad) k2
    obtain ⟨ls2, e2, -, -, f3⟩ := lv_store1 (l := [(j, pa_tr ad w)]) ⟨h1, h2, fun q hq => by rw [List.mem_singleton.mp hq]; exact k1⟩ hi hcat
    cases e'.symm.trans e2
    refine ⟨f3 (j, pa_tr ad w) (List.mem_cons_of_mem _ ?_), k2⟩
    simp [hj, hcw]
theorem pa_Lo_entry {ad : pa_Nm → Nat} : ∀ (av : List pa_V) (nL : Nat), (∀ v ∈ av, pa_c1 v) → (lg_sl (av.map (pa_tr ad))).length ≤ nL →
    pa_Lo ad ((lg_sl (av.map (pa_tr ad)) ++ List.replicate (nL - (lg_sl (av.map (pa_tr ad))).length) Slot.unset).toArray) nL (av.map some) := by
  intro av nL hc hl
  obtain ⟨h1, h2, h3⟩ := lv_entry (av.map (pa_tr ad)) hl
  refine ⟨h1, h2, fun j v hv => ?_⟩
  have key : ∀ (vs : List pa_V), (∀ v ∈ vs, pa_c1 v) → ∀ (b j : Nat) (v : pa_V), (vs.map some)[j]? = some (some v) → (b + j, pa_tr ad v) ∈ lv_args b (vs.map (pa_tr ad)) ∧ pa_c1 v := by
    intro vs
    induction vs with
    | nil => intro _ b j v h; simp at h
    | cons w vs ih =>
      intro hv b j v h
      cases j with
      | zero =>
        simp at h
        subst h
        exact ⟨by simp [lv_args], hv _ List.mem_cons_self⟩
      | succ j =>
        have hw : (pa_tr ad w).category = 1 := pa_c1_cat (hv _ List.mem_cons_self)
        obtain ⟨a1, a2⟩ := ih (fun x hx => hv x (List.mem_cons_of_mem _ hx)) (b + 1) j v (by simpa using h)
        refine ⟨?_, a2⟩
        simp only [List.map_cons, lv_args, hw]
        rw [show b + (j + 1) = b + 1 + j by omega]
        exact List.mem_cons_of_mem _ a1
  obtain ⟨a1, a2⟩ := key av hc 0 j v hv
  rw [Nat.zero_add] at a1
  exact ⟨h3 _ a1, a2⟩
-- the heap predicate under writes
theorem pa_ce_up {G : pa_G} {ad : pa_Nm → Nat} {h : pa_H} {f i j : Nat} {v : Int32} {n : pa_Nm} (hf : 40 ≤ f) (h0 : pa_ty f = 0 ∨ pa_ty f = 8 ∨ pa_ty f = 2 ∨ pa_ty f = 3) (hn : n ≠ (f / 40, i)) (h163 : f ≠ 163) :
    pa_ce G ad (pa_up h.1 f i j v, h.2) n = pa_ce G ad h n := by
  obtain ⟨k, o⟩ := n
  have hfv : ∀ g, g < 240 → 40 * k ≤ g → g < 40 * k + 40 → pa_fv ad (pa_up h.1 f i j v, h.2) g o = pa_fv ad h g o := by
    intro g _ g1 g2
    have : ¬ (g = f ∧ o = i) := fun q => hn (by
      have : k = f / 40 := by omega
      rw [this, q.2])
    unfold pa_fv
    have e0 : ∀ q, (pa_up h.1 f i j v) g o q = h.1 g o q := fun q => by
      unfold pa_up
      rw [if_neg (fun z => this ⟨z.1, z.2.1⟩)]
    simp only [e0]
  have hfs : ∀ n, n ≤ 40 → k < 6 → pa_fs ad (pa_up h.1 f i j v, h.2) k o n = pa_fs ad h k o n := by
    intro n hn9 hk6
    unfold pa_fs
    refine List.map_congr_left fun x hx => ?_
    have hx9 := List.mem_range.mp hx
    exact hfv _ (by omega) (by omega) (by omega)
  have hnf : k < 6 → pa_nf k ≤ 40 := fun hk => by
    rcases (show k = 0 ∨ k = 1 ∨ k = 2 ∨ k = 3 ∨ k = 4 ∨ k = 5 by omega) with rfl | rfl | rfl | rfl | rfl | rfl <;> decide
  unfold pa_ce
  dsimp only
  by_cases c0 : k = 0
  · subst c0
    simp only [if_true]
    have e0 : (pa_up h.1 f i j v) 0 o 0 = h.1 0 o 0 := by
      unfold pa_up
      rw [if_neg (fun z => by omega)]
    rw [e0]
  rw [if_neg c0, if_neg c0]
  by_cases c1 : k < 6
  · rw [if_pos c1, if_pos c1, hfs _ (hnf c1) c1]
  rw [if_neg c1, if_neg c1]
  by_cases c2 : k = 6
  · rw [if_pos c2, if_pos c2]
  rw [if_neg c2, if_neg c2]
  by_cases c3 : k = 7
  · rw [if_pos c3, if_pos c3]
  rw [if_neg c3, if_neg c3]
  by_cases c4 : k = 8
  · rw [if_pos c4, if_pos c4]
    have : ∀ l q, pa_le (pa_up h.1 f i j v, h.2) l q = pa_le h l q := fun l q => by
      unfold pa_le
      have e0 : (pa_up h.1 f i j v) 163 0 q = h.1 163 0 q := by
        unfold pa_up
        rw [if_neg (fun z => h163 z.1.symm)]
      dsimp only
      rw [e0]
    simp only [this]
  rw [if_neg c4, if_neg c4]
  by_cases c5 : k = 9
  · rw [if_pos c5, if_pos c5]
  rw [if_neg c5, if_neg c5]
  have : pa_av ad (pa_up h.1 f i j v, h.2) (k - 100) o = pa_av ad h (k - 100) o := by
    by_cases cf : k - 100 = f
    · unfold pa_av
      rw [cf]
      have q1 : pa_ty f ≠ 1 := by omega
      have q4 : pa_ty f ≠ 4 := by omega
      have q5 : pa_ty f ≠ 5 := by omega
      simp only [if_neg q1, if_neg q4, if_neg q5]
    · unfold pa_av
      have e0 : ∀ q, (pa_up h.1 f i j v) (k - 100) o q = h.1 (k - 100) o q := fun q => by
        unfold pa_up
        rw [if_neg (fun z => cf z.1)]
      have e1 : (pa_up h.1 f i j v) (k - 100) o = h.1 (k - 100) o := funext e0
      dsimp only
      simp only [e0, e1]
  rw [this]
/-- a row of the class is written -/
theorem pa_ce_ur {G : pa_G} {ad : pa_Nm → Nat} {h : pa_H} {f i j : Nat} {v : Int32} {n : pa_Nm} (hf : 40 ≤ f) (h0 : pa_ty f = 1 ∨ pa_ty f = 4) (hn : n ≠ (100 + f, i)) (hk : n.1 < 10 ∨ 100 ≤ n.1) (h163 : f ≠ 163) :
    pa_ce G ad (pa_up h.1 f i j v, h.2) n = pa_ce G ad h n := by
  obtain ⟨k, o⟩ := n
  dsimp only at hk
  have hfv : ∀ g, pa_fv ad (pa_up h.1 f i j v, h.2) g o = pa_fv ad h g o := by
    intro g
    by_cases cf : g = f
    · unfold pa_fv
      rw [cf]
      have z1 : ¬ (pa_ty f = 0 ∨ pa_ty f = 8) := by omega
      have z2 : ¬ pa_ty f = 2 := by omega
      have z3 : ¬ pa_ty f = 3 := by omega
      have z4 : ¬ pa_ty f = 6 := by omega
      have z5 : ¬ (pa_ty f = 10 ∨ pa_ty f = 11) := by omega
      simp only [if_neg z1, if_neg z2, if_neg z3, if_neg z4, if_neg z5]
    · unfold pa_fv
      have e0 : ∀ q, (pa_up h.1 f i j v) g o q = h.1 g o q := fun q => by
        unfold pa_up
        rw [if_neg (fun z => cf z.1)]
      simp only [e0]
  have hfs : ∀ n, pa_fs ad (pa_up h.1 f i j v, h.2) k o n = pa_fs ad h k o n := by
    intro n
    unfold pa_fs
    exact List.map_congr_left fun x hx => hfv _
  unfold pa_ce
  dsimp only
  by_cases c0 : k = 0
  · subst c0
    simp only [if_true]
    have e0 : (pa_up h.1 f i j v) 0 o 0 = h.1 0 o 0 := by
      unfold pa_up
      rw [if_neg (fun z => by omega)]
    rw [e0]
  rw [if_neg c0, if_neg c0]
  by_cases c1 : k < 6
  · rw [if_pos c1, if_pos c1, hfs]
  rw [if_neg c1, if_neg c1]
  by_cases c2 : k = 6
  · rw [if_pos c2, if_pos c2]
  rw [if_neg c2, if_neg c2]
  by_cases c3 : k = 7
  · rw [if_pos c3, if_pos c3]
  rw [if_neg c3, if_neg c3]
  by_cases c4 : k = 8
  · rw [if_pos c4, if_pos c4]
    have : ∀ l q, pa_le (pa_up h.1 f i j v, h.2) l q = pa_le h l q := fun l q => by
      unfold pa_le
      have e0 : (pa_up h.1 f i j v) 163 0 q = h.1 163 0 q := by
        unfold pa_up
        rw [if_neg (fun z => h163 z.1.symm)]
      dsimp only
      rw [e0]
    simp only [this]
  rw [if_neg c4, if_neg c4]
  by_cases c5 : k = 9
  · rw [if_pos c5, if_pos c5]
  rw [if_neg c5, if_neg c5]
  have : pa_av ad (pa_up h.1 f i j v, h.2) (k - 100) o = pa_av ad h (k - 100) o := by
    have cz : ¬ (k - 100 = f ∧ o = i) := fun z => hn (by
      have : k = 100 + f := by omega
      rw [this, z.2])
    unfold pa_av
    have e0 : ∀ q, (pa_up h.1 f i j v) (k - 100) o q = h.1 (k - 100) o q := fun q => by
      unfold pa_up
      rw [if_neg (fun z => cz ⟨z.1, z.2.1⟩)]
    have e1 : (pa_up h.1 f i j v) (k - 100) o = h.1 (k - 100) o := funext e0
    dsimp only
    simp only [e0, e1]
  rw [this]
/-- an int of the reference is written -/
theorem pa_ce_us {G : pa_G} {ad : pa_Nm → Nat} {h : pa_H} {f j : Nat} {v : Int32} {n : pa_Nm} (hf : 200 ≤ f ∧ f < 240) (hn : n ≠ (5, 0) ∨ pa_ty f = 12 ∨ pa_ty f = 13) (hl : pa_lv h.2.2.1 n) (h0 : pa_ty f = 10 ∨ pa_ty f = 11 ∨ n ≠ (100 + f, 0)) :
    pa_ce G ad (h.1, pa_us h.2.1 f j v, h.2.2) n = pa_ce G ad h n := by
  obtain ⟨k, o⟩ := n
  have hfv : ∀ g, g < 240 → (pa_ty f = 12 ∨ pa_ty f = 13 ∨ g < 200) → pa_fv ad (h.1, pa_us h.2.1 f j v, h.2.2) g o = pa_fv ad h g o := by
    intro g _ hg
    unfold pa_fv
    by_cases cf : g = f
    · rw [cf]
      have q : ¬ (pa_ty f = 10 ∨ pa_ty f = 11) := by omega
      rw [if_neg q, if_neg q]
    · have e0 : ∀ q, (pa_us h.2.1 f j v) g q = h.2.1 g q := fun q => by
        unfold pa_us
        rw [if_neg (fun z => cf z.1)]
      simp only [e0]
  have hnf : k < 6 → pa_nf k ≤ 40 := fun hk => by
    rcases (show k = 0 ∨ k = 1 ∨ k = 2 ∨ k = 3 ∨ k = 4 ∨ k = 5 by omega) with rfl | rfl | rfl | rfl | rfl | rfl <;> decide
  unfold pa_ce
  dsimp only
  by_cases c0 : k = 0
  · rw [if_pos c0, if_pos c0]
  rw [if_neg c0, if_neg c0]
  by_cases c1 : k < 6
  · rw [if_pos c1, if_pos c1]
    have : pa_fs ad (h.1, pa_us h.2.1 f j v, h.2.2) k o (pa_nf k) = pa_fs ad h k o (pa_nf k) := by
      unfold pa_fs
      refine List.map_congr_left fun x hx => ?_
      have hx9 := List.mem_range.mp hx
      have hb := hnf c1
      refine hfv _ (by omega) ?_
      rcases hn with hn | hn | hn
      · right; right
        have : k ≠ 5 := fun q => by
          subst q
          have ho : o = 0 := by simpa [pa_lv, pa_lo] using hl
          exact hn (by rw [ho])
        omega
      · exact Or.inl hn
      · exact Or.inr (Or.inl hn)
    rw [this]
  rw [if_neg c1, if_neg c1]
  by_cases c2 : k = 6
  · rw [if_pos c2, if_pos c2]
  rw [if_neg c2, if_neg c2]
  by_cases c3 : k = 7
  · rw [if_pos c3, if_pos c3]
  rw [if_neg c3, if_neg c3]
  by_cases c4 : k = 8
  · rw [if_pos c4, if_pos c4]
    rfl
  rw [if_neg c4, if_neg c4]
  by_cases c5 : k = 9
  · rw [if_pos c5, if_pos c5]
  rw [if_neg c5, if_neg c5]
  have hl9 : pa_ln (k - 100) ≠ 0 ∧ 100 ≤ k ∧ pa_lo h.2.2.1 ((k - 100) / 40) o := by
    have := hl
    unfold pa_lv at this
    dsimp only at this
    rwa [if_neg c0, if_neg c1, if_neg c2, if_neg c3, if_neg c4, if_neg c5] at this
  have : pa_av ad (h.1, pa_us h.2.1 f j v, h.2.2) (k - 100) o = pa_av ad h (k - 100) o := by
    by_cases cf : k - 100 = f
    · exfalso
      have hd : (k - 100) / 40 = 5 := by omega
      have ho : o = 0 := by
        have := hl9.2.2
        rw [hd] at this
        simpa [pa_lo] using this
      rcases h0 with h0 | h0 | h0
      · have : ∀ x, x < 240 → pa_ty x = 10 → pa_ln x = 0 := by decide +kernel
        exact hl9.1 (by rw [cf]; exact this f hf.2 h0)
      · have : ∀ x, x < 240 → pa_ty x = 11 → pa_ln x = 0 := by decide +kernel
        exact hl9.1 (by rw [cf]; exact this f hf.2 h0)
      · exact h0 (by rw [ho, ← cf]; congr 1; omega)
    · unfold pa_av
      have e0 : (pa_us h.2.1 f j v) (k - 100) = h.2.1 (k - 100) := funext fun q => by
        unfold pa_us
        rw [if_neg (fun z => cf z.1)]
      dsimp only
      simp only [e0]
  rw [this]
/-- where one cell is written, and the others stay -/
theorem pa_R_set {G : pa_G} {ad : pa_Nm → Nat} {h h' : pa_H} {H H1 : Heap} {n : pa_Nm} (hR : pa_R G ad h H) (hN : h'.2.2.1 = h.2.2.1) (hn : pa_lv h.2.2.1 n) (hce : ∀ m, m ≠ n → pa_lv h.2.2.1 m → pa_ce G ad h' m = pa_ce G ad h m)
    (e1 : va_at G.1 vwCl (ad n, pa_ce G ad h' n) H1) (z : H1.size = H.size) (oq : ∀ q : Nat, q ≠ ad n → H1[q]? = H[q]?) : pa_R G ad h' H1 := by
  obtain ⟨r1, r2, r3, r4, r5, r6⟩ := hR
  rw [pa_R, hN]
  refine ⟨fun m hm => ?_, r2, r3, ?_, r5, by omega⟩
  · by_cases c : m = n
    · rw [c]
      exact e1
    · rw [hce m c hm]
      exact (r1 m hm).kept (oq _ (fun q => c (r2 m n hm hn q)))
  · rw [oq _ (fun q => by have := r3 n hn; omega)]
    exact r4
