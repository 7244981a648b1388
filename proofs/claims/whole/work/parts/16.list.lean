/-! LISTS: ArrayList's own methods over their cells (the list's, its row's), then as contracts over the abstract heap -/
theorem in_J : ∀ w ∈ u_ws RJx4a65c TJx4a65c 3, w ∈ pa_wl := by decide +kernel
abbrev lr_E (G : pa_G) (f : Nat → Option Nat) (n : Nat) : va_E := .inl (G.2.1 4, n, pa_rw f)
abbrev lr_L (m : Int32) (dr n : Nat) : va_E := .inr (0, [.int m, .ref dr, .int (nI n)])
/-- how long the row is behind a growing from n -/
def lr_cap (n : Nat) : Nat := if n = 0 then 10 else n + (if 1 < n / 2 then n / 2 else 1)
theorem pa_U.call {G : pa_G} {U : State} {g : JFrame} {mk : MethodId} {a : Array Value} (h : pa_U G U) : pa_U G (U.calling g mk a) :=
  ⟨va_K.moved (u := U) (U := U.calling g mk a) (Vm.Alike.refl U.vm) h.1, va_Nw.same (u := U) rfl rfl h.2.1, va_Nw.same (u := U) rfl rfl h.2.2.1, pa_U2.same (u := U) rfl h.2.2.2⟩
theorem lr_anyM {E : String} {u U : State} {H : Heap} {y : Nat} (hvm : u.vm.Alike U.vm) (h : va_Any E u H y) : va_Any E U H y := by
  obtain ⟨cell, h1, h2, ⟨kC, h3⟩, h4⟩ := h
  obtain ⟨k', hk', -⟩ := hvm.2.2 _ _ h3
  exact ⟨cell, h1, h2, ⟨k', hk'⟩, fun comp hc => by rw [hvm.assignable]; exact h4 comp (by rw [← hvm.findClass]; exact hc)⟩
theorem lr_anyK {E : String} {s : State} {H H1 : Heap} {y : Nat} (h : va_Any E s H y) (e : H1[y]? = H[y]?) : va_Any E s H1 y := by
  obtain ⟨cell, h1, h2⟩ := h
  exact ⟨cell, by rw [e]; exact h1, h2⟩
theorem lr_anyL {E : String} {s : State} {H : Heap} {y : Nat} (h : va_Any E s H y) : y < H.size := by
  obtain ⟨cell, h1, -⟩ := h
  exact (Array.getElem?_eq_some_iff.mp h1).1
def lr_B (G : pa_G) (sz : Nat) (cs : va_W) (el : Nat → Prop) (U : State) : Prop := U.heap.size = sz ∧ va_P G.1 vwCl cs U.heap ∧ (∀ y, el y → va_Any "java/lang/Object" U U.heap y) ∧ pa_U G U ∧ pa_Zs G U U.heap
theorem lr_bl {G : pa_G} {sz : Nat} {cs : va_W} {el : Nat → Prop} {As : List Value} : FrameBlind (va_Pc As (lr_B G sz cs el)) := fun a U g mk q =>
  ⟨q.1, q.2.1, q.2.2.1, fun y hy => lr_anyM (u := U) (U := U.calling g mk a) (Vm.Alike.refl U.vm) (q.2.2.2.1 y hy), pa_U.call q.2.2.2.2.1, pa_Zs.moved (u := U) (U := U.calling g mk a) (Vm.Alike.refl U.vm) q.2.2.2.2.2⟩
theorem lr_pre {G : pa_G} {s U : State} {H : Heap} {locs : List Loc} {cs : va_W} {el : Nat → Prop} {As : List Value} (hU : pa_U G s) (hZ : pa_Zs G s s.heap) (q3 : va_S (pa_A G) s.heap H locs) (hP : va_P G.1 vwCl cs H) (hel : ∀ y, el y → va_Any "java/lang/Object" s H y) (hU9 : U.heap = H) (hW : s.WarmedH U.vm) : va_Pc As (lr_B G H.size cs el) As.toArray U :=
  ⟨rfl, by rw [hU9], by rw [hU9]; exact hP, fun y hy => by rw [hU9]; exact lr_anyM hW.alike (hel y hy), hU.warm hW, hZ.at q3 hU9 hW⟩
theorem lr_p2 {D : va_G} {cl : List vw_C} {q1 q2 : Nat × va_E} {H : Heap} (h1 : va_at D cl q1 H) (h2 : va_at D cl q2 H) : va_P D cl [q1, q2] H := fun k z hk => by
  match k, hk with
  | 0, hk => cases hk; exact h1
  | 1, hk => cases hk; exact h2
theorem lr_p3 {D : va_G} {cl : List vw_C} {q1 q2 q3 : Nat × va_E} {H : Heap} (h1 : va_at D cl q1 H) (h2 : va_at D cl q2 H) (h3 : va_at D cl q3 H) : va_P D cl [q1, q2, q3] H := fun k z hk => by
  match k, hk with
  | 0, hk => cases hk; exact h1
  | 1, hk => cases hk; exact h2
  | 2, hk => cases hk; exact h3
theorem lr_d1 {A : Nat → Prop} {q1 : Nat × va_E} (a1 : A q1.1) : va_D A [q1] := ⟨fun i j p q hi hj _ => by
  have := (List.getElem?_eq_some_iff.mp hi).1
  have := (List.getElem?_eq_some_iff.mp hj).1
  simp at *
  omega, fun k q hk => by
  match k, hk with
  | 0, hk => cases hk; exact a1⟩
theorem lr_d2 {A : Nat → Prop} {q1 q2 : Nat × va_E} (a1 : A q1.1) (a2 : A q2.1) (h : q1.1 ≠ q2.1) : va_D A [q1, q2] := ⟨fun i j p q hi hj e => by
  match i, hi, j, hj with
  | 0, hi, 0, hj => rfl
  | 1, hi, 1, hj => rfl
  | 0, hi, 1, hj => cases hi; cases hj; exact absurd e h
  | 1, hi, 0, hj => cases hi; cases hj; exact absurd e.symm h, fun k q hk => by
  match k, hk with
  | 0, hk => cases hk; exact a1
  | 1, hk => cases hk; exact a2⟩
theorem lr_d3 {A : Nat → Prop} {q1 q2 q3 : Nat × va_E} (a1 : A q1.1) (a2 : A q2.1) (a3 : A q3.1) (h : q1.1 ≠ q2.1) (h13 : q1.1 ≠ q3.1) (h23 : q2.1 ≠ q3.1) : va_D A [q1, q2, q3] := ⟨fun i j p q hi hj e => by
  match i, hi, j, hj with
  | 0, hi, 0, hj => rfl
  | 1, hi, 1, hj => rfl
  | 2, hi, 2, hj => rfl
  | 0, hi, 1, hj => cases hi; cases hj; exact absurd e h
  | 1, hi, 0, hj => cases hi; cases hj; exact absurd e.symm h
  | 0, hi, 2, hj => cases hi; cases hj; exact absurd e h13
  | 2, hi, 0, hj => cases hi; cases hj; exact absurd e.symm h13
  | 1, hi, 2, hj => cases hi; cases hj; exact absurd e h23
  | 2, hi, 1, hj => cases hi; cases hj; exact absurd e.symm h23, fun k q hk => by
  match k, hk with
  | 0, hk => cases hk; exact a1
  | 1, hk => cases hk; exact a2
  | 2, hk => cases hk; exact a3⟩
theorem lr_S {A A' : Nat → Prop} {H0 H : Heap} {locs : List Loc} (h : va_S A H0 H locs) (hA : ∀ q, A q → A' q) : va_S A' H0 H locs := ⟨h.1, fun q h1 h2 => h.2.1 q h1 (fun z => h2 (hA q z)), fun q hq => hA _ (h.2.2 q hq)⟩
/-- a raw method from its entry -/
theorem lr_start (l : Launch) {y : pa_Y} {av : List Value} {B : State → Prop} {Qc : Array Value → State → Outcome → State → Prop} {d mc ms : Nat} {free : Nat → Prop} (hy : plainName y.1.cls = true) (hl : Nat.ble (lg_sl av).length y.2.2.1 = true)
    (body : ∀ (p : Program) (e : Env) (s : State) (m : MethodId) (below : List Frame) (meth : Method) (c : Code) (ls : Array Slot), p.tables.exec = Jvm.exec → c.code = y.2.1 → c.maxLocals = y.2.2.1 → s.vm.findClass y.1.cls = some m.cls → (∀ w ∈ pa_wl, w.before av.toArray s = true) → meth.sig.returnType = y.2.2.2 → meth.locks = false → B s → lv_has ls y.2.2.1 (lv_args 0 av) →
      W p l e (pa_rm d mc ms) s m av.toArray below meth c s.heap [] 0 0 (MQ below Qc av.toArray s mc ms free) (F0 m 0 ls [])) : Met l y.1 (pa_ws y) (pa_rm d mc ms) (va_Pc av B) Qc mc ms free := by
  refine Met.ofW (cc := y.2.1) (maxL := y.2.2.1) (ret := y.2.2.2) (ws' := pa_wl) hy rfl ?_
  intro p e s m args below meth c s₁ B hml hv
  obtain ⟨rfl, hB⟩ := hv
  have hts : ∀ w ∈ pa_wl, w.before av.toArray s = true := fun w hw => atoms_spec (ws := pa_ws y) B.pre w (List.mem_cons_of_mem _ hw)
  have hle := lv_entry av (n := y.2.2.1) (Nat.le_of_ble_eq_true hl)
  rw [lg_entry_eq]
  exact body p e s m below meth c _ B.exec B.bytes hml (findClass_of_methodNamed B.named) hts B.returns B.notSynchronized hB hle
abbrev lr_w {w : Cond} (h : w ∈ lw_tbl) (g : goodWord w = true) : w ∈ pa_wl := pa_wi h g
/-- the row of the new length: its content -/
abbrev lr_cp (f : Nat → Option Nat) (n : Nat) : Nat → Option Nat := fun j => if j < n then f j else none
abbrev lr_el (f : Nat → Option Nat) (n : Nat) : Nat → Prop := fun y => ∃ j, j < n ∧ f j = some y
abbrev lr_ONE : Type := Unit
set_option maxRecDepth 100000 in
set_option maxHeartbeats 2000000 in
theorem lr_copy6 (G : pa_G) (l : Launch) (sz dr n n2 mi : Nat) (f : Nat → Option Nat) (hn : n ≤ n2) (hn2 : n2 < 100000) : Met l yJ7_copyOf_6403c (pa_ws mJ7_copyOf_6403c) (pa_rm 2 1 n2)
    (va_Pc [.ref dr, .int (nI n2), .ref mi] (fun U => va_Mi "[Ljava/lang/Object;" mi U ∧ lr_B G sz [(dr, lr_E G f n)] (lr_el f n) U))
    (va_Qr (fun _ : lr_ONE => True) (fun _ q t => sz ≤ q ∧ va_P G.1 vwCl [(dr, lr_E G f n), (q, lr_E G (lr_cp f n) n2)] t.heap) (fun z => z = dr ∨ sz ≤ z)) 1 n2 (fun z => z = dr ∨ sz ≤ z) := by
  refine lr_start (y := mJ7_copyOf_6403c) l (by decide) rfl fun p e s m below meth c ls hx hb hml hown hts hr hlk hB hl => ?_
  obtain ⟨hMi, hsz, hP, hel, hU, hZ⟩ := hB
  have hl : lv_has ls 4 [(0, .ref dr), (1, .int (nI n2)), (2, .ref mi)] := hl
  have hD : va_D (fun z => z = dr ∨ sz ≤ z) [(dr, lr_E G f n)] := lr_d1 (Or.inl rfl)
  have hS : va_S (fun z => z = dr ∨ sz ≤ z) s.heap s.heap [] := va_S.rf
  have hA : ∀ q : Nat, s.heap.size ≤ q → (q = dr ∨ sz ≤ q) := fun q h => Or.inr (by omega)
  have hlt : dr < s.heap.size := (hP 0 _ rfl).lt
  refine lv_aload_n hx hb dJ7_copyOf_6403c_0 rfl (lv_at hl 2 rfl) ?_
  refine va_ldcM hx hb hown (hts (.classLink RJ7 110 "[Ljava/lang/Object;") (lr_w (by decide +kernel) rfl)) hMi dJ7_copyOf_6403c_1 ?_
  refine lv_acmp_ne (rx := some mi) (ry := some mi) (tgt := 13) hx hb dJ7_copyOf_6403c_3 (by decide) (fun z => absurd rfl z) (fun _ => ?_)
  refine lv_iload_n hx hb dJ7_copyOf_6403c_6 rfl (lv_at hl 1 rfl) ?_
  refine va_newq (N' := n2) hx hb hown (hts (.classLink RJ7 2 "java/lang/Object") (lr_w (by decide +kernel) rfl)) (hU.2.2.2.2.2.2.2.2 "java/lang/Object" (by decide)) hU.1 hP hD hS hA (nI_pos (by omega)) (nI_clamp (by omega)) (by omega) (Nat.le_refl _) (by show 0 + n2 ≤ n2; omega) dJ7_copyOf_6403c_7 (fun q cA H1 hK1 hP1 hD1 hS1 => ?_)
  have ecA : cA = G.2.1 4 := by
    have e1 := va_nmO (nm := "[Ljava/lang/Object;") (hK1.2 6 _ rfl).2 (by decide)
    have e2 := va_nmO (nm := "[Ljava/lang/Object;") (hU.1.2 4 _ rfl).2 (by decide)
    exact Option.some.inj (e1.symm.trans e2)
  subst ecA
  have hP1 : va_P G.1 vwCl [(dr, lr_E G f n), (q, lr_E G (fun _ => none) n2)] H1 := hP1
  have hD1 : va_D (fun z => z = dr ∨ sz ≤ z) [(dr, lr_E G f n), (q, lr_E G (fun _ => none) n2)] := hD1
  have hqd : q ≠ dr := fun z => absurd (hD1.1 0 1 _ _ rfl rfl z.symm) (by decide)
  have hqs : sz ≤ q := (hD1.2 1 _ rfl).resolve_left hqd
  refine lv_goto (tgt := 24) hx hb dJ7_copyOf_6403c_10 (by decide) ?_
  refine lv_astore_n hx hb dJ7_copyOf_6403c_24 rfl hl (by decide) rfl (fun ls hl => ?_)
  have hl : lv_has ls 4 [(3, .ref q), (0, .ref dr), (1, .int (nI n2)), (2, .ref mi)] := hl
  refine lv_aload_n hx hb dJ7_copyOf_6403c_25 rfl (lv_at hl 1 rfl) ?_
  refine lv_iconst (v := 0) hx hb dJ7_copyOf_6403c_26 (by decide) ?_
  refine lv_aload_n hx hb dJ7_copyOf_6403c_27 rfl (lv_at hl 0 rfl) ?_
  refine lv_iconst (v := 0) hx hb dJ7_copyOf_6403c_28 (by decide) ?_
  refine lv_aload_n hx hb dJ7_copyOf_6403c_29 rfl (lv_at hl 1 rfl) ?_
  refine va_alen (v := nI n) hx hb hU.1 hP1 0 4 rfl rfl rfl dJ7_copyOf_6403c_30 ?_
  refine lv_iload_n hx hb dJ7_copyOf_6403c_31 rfl (lv_at hl 2 rfl) ?_
  refine va_mmin hx hb (by rw [hml]; exact hl.1.symm) hown (hts (.methodLink RJ7 304 Lib.Math.min.name) (lr_w (by decide +kernel) rfl)) (hts (.static Lib.Math.min.name) (lr_w (by decide +kernel) rfl)) (hts (.initialized "java/lang/Math") (lr_w (by decide +kernel) rfl)) (hts (.code Lib.Math.min.name Lib.Math.min.code 2 (some .int)) (lr_w (by decide +kernel) rfl)) (by show 1 ≤ 2; omega) (Nat.le_of_ble_eq_true rfl) (Nat.le_refl _) (by show 0 + n2 ≤ n2; omega) dJ7_copyOf_6403c_32 ?_
  have emin : (if nI n2 < nI n then nI n2 else nI n) = nI n := if_neg (nI_nlt hn (by omega))
  rw [emin]
  have ecl : (nI n).toNatClampNeg = n := nI_clamp (by omega)
  have e0 : (0 : Int32).toNatClampNeg = 0 := by decide
  refine va_copyM hx hb (by rw [hml]; exact hl.1.symm) hown (hts (.methodLink RJ7 150 arraycopyName) (lr_w (by decide +kernel) rfl)) (hts (.native arraycopyName) (lr_w (by decide +kernel) rfl)) (hts (.static arraycopyName) (lr_w (by decide +kernel) rfl)) (hts (.initialized "java/lang/System") (lr_w (by decide +kernel) rfl))
    hU.1 hP1 hD1 hS1 0 1 4 4 rfl rfl rfl rfl (by decide) (by decide) (nI_pos (by omega)) (by rw [e0, ecl]; omega) (by rw [e0, ecl]; omega) (fun i hi y hy => ?_) (by show 1 ≤ 2; omega) (Nat.le_of_ble_eq_true rfl) dJ7_copyOf_6403c_35 (fun H2 locs2 hP2 hD2 hS2 => ?_)
  · rw [e0, Nat.zero_add] at hy
    rw [ecl] at hi
    have ha := hel y ⟨i, hi, hy⟩
    have hyl := lr_anyL ha
    by_cases hyd : y = dr
    · have h1 := hP1 0 _ rfl
      have h2 := hP 0 _ rfl
      refine lr_anyK ha ?_
      rw [hyd]
      exact h1.trans h2.symm
    · exact lr_anyK ha (hS1.2.1 y hyl (fun z => z.elim hyd (fun z => by omega)))
  have hP2 : va_P G.1 vwCl [(dr, lr_E G f n), (q, lr_E G (va_cpy f (fun _ => none) (0 : Int32).toNatClampNeg (0 : Int32).toNatClampNeg (nI n).toNatClampNeg) n2)] H2 := hP2
  have ecp : va_cpy f (fun _ => none) (0 : Int32).toNatClampNeg (0 : Int32).toNatClampNeg (nI n).toNatClampNeg = lr_cp f n := by
    rw [e0, ecl]
    funext j
    unfold va_cpy lr_cp
    by_cases c : j < n
    · rw [if_pos ⟨Nat.zero_le _, by omega⟩, if_pos c]
      congr 1
      omega
    · rw [if_neg (fun z => c (by omega)), if_neg c]
  rw [ecp] at hP2
  refine lv_aload_n hx hb dJ7_copyOf_6403c_38 rfl (lv_at hl 0 rfl) ?_
  exact W.widen (Nat.le_refl _) (by show 0 + n2 ≤ n2; omega) (W.aret hx hb hr (Or.inr ⟨_, rfl⟩) (Or.inr ⟨_, rfl⟩) (fun t ht hW => ⟨⟨(), q, rfl, trivial, hqs, by rw [ht]; exact hP2⟩, hS2.F ht⟩) hS2.2.2 dJ7_copyOf_6403c_39)
set_option maxRecDepth 100000 in
set_option maxHeartbeats 2000000 in
theorem lr_copy1 (G : pa_G) (l : Launch) (sz dr n n2 : Nat) (f : Nat → Option Nat) (hn : n ≤ n2) (hn2 : n2 < 100000) (hd : G.2.2.1 ≤ dr) (hz : G.2.2.1 ≤ sz) : Met l yJ7_copyOf_1904c (pa_ws mJ7_copyOf_1904c) (pa_rm 3 1 n2)
    (va_Pc [.ref dr, .int (nI n2)] (lr_B G sz [(dr, lr_E G f n)] (lr_el f n)))
    (va_Qr (fun _ : lr_ONE => True) (fun _ q t => sz ≤ q ∧ va_P G.1 vwCl [(dr, lr_E G f n), (q, lr_E G (lr_cp f n) n2)] t.heap) (fun z => z = dr ∨ sz ≤ z)) 1 n2 (fun z => z = dr ∨ sz ≤ z) := by
  refine lr_start (y := mJ7_copyOf_1904c) l (by decide) rfl fun p e s m below meth c ls hx hb hml hown hts hr hlk hB hl => ?_
  obtain ⟨hsz, hP, hel, hU, hZ⟩ := hB
  have hl : lv_has ls 2 [(0, .ref dr), (1, .int (nI n2))] := hl
  have hS : va_S (fun z => z = dr ∨ sz ≤ z) s.heap s.heap [] := va_S.rf
  obtain ⟨mi, hMi⟩ := hU.2.2.2.1
  refine lv_aload_n hx hb dJ7_copyOf_1904c_0 rfl (lv_at hl 0 rfl) ?_
  refine lv_iload_n hx hb dJ7_copyOf_1904c_1 rfl (lv_at hl 1 rfl) ?_
  refine lv_aload_n hx hb dJ7_copyOf_1904c_2 rfl (lv_at hl 0 rfl) ?_
  refine va_getC (C := "[Ljava/lang/Object;") hx hb (by rw [hml]; exact hl.1.symm) hown (hts (.methodLink RJ7 86 ⟨"java/lang/Object", "getClass", "()Ljava/lang/Class;"⟩) (lr_w (by decide +kernel) rfl)) (va_Dc.use hU.2.2.2.2.1.1)
    (hts (.selects "[Ljava/lang/Object;" ⟨"java/lang/Object", "getClass", "()Ljava/lang/Class;"⟩ ⟨"java/lang/Object", "getClass", "()Ljava/lang/Class;"⟩) (lr_w (by decide +kernel) rfl)) (hts (.instanceMethod ⟨"java/lang/Object", "getClass", "()Ljava/lang/Class;"⟩) (lr_w (by decide +kernel) rfl)) (hts (.native ⟨"java/lang/Object", "getClass", "()Ljava/lang/Class;"⟩) (lr_w (by decide +kernel) rfl)) hMi
    ⟨_, hP 0 _ rfl, rfl, va_nmO (nm := "[Ljava/lang/Object;") (hU.1.2 4 _ rfl).2 (by decide)⟩ (by show 1 ≤ 3; omega) (Nat.le_of_ble_eq_true rfl) dJ7_copyOf_1904c_3 ?_
  have cs : pa_cs RJ7 300 mJ7_copyOf_6403c 3 := ws_J7_300
  refine va_callr (va_runS (As := [.ref dr, .int (nI n2), .ref mi]) (rest := []) ⟨hx, hb, hml, hown, hts⟩ (lr_copy6 G l sz dr n n2 mi f hn hn2) ⟨pa_cb (d' := 2) (d := 3) hts (Nat.le_refl _) (Nat.le_refl _) (by omega) cs.1 cs.2.2.1 cs.2.2.2.1 cs.2.2.2.2.1 cs.2.2.2.2.2.1 cs.2.2.2.2.2.2, hts _ cs.2.1⟩
    ⟨fun a U g mk q => ⟨q.1, va_Mi.moved (u := U) (U := U.calling g mk a) (Vm.Alike.refl U.vm) q.2.1, (lr_bl (As := [.ref dr, .int (nI n2), .ref mi]) a U g mk ⟨q.1, q.2.2⟩).2⟩, fun U hU9 hW => ⟨rfl, va_Mi.moved hW.alike hMi, ?_⟩⟩ rfl rfl hl.1 rfl (lv_room (Nat.le_of_ble_eq_true rfl)) dJ7_copyOf_1904c_6 ⟨Nat.le_refl _, by show 0 + n2 ≤ n2; omega⟩) hS (fun q _ z => z) (fun q z => z) (fun _ q t H1 locs1 ht halk _ hq hsz1 hk hS1 => ?_)
  · have := lr_pre (As := [.ref dr, .int (nI n2), .ref mi]) hU hZ va_S.rf hP hel hU9 hW
    rw [hsz] at this
    exact this.2
  refine W.widen (Nat.le_refl _) (by show 0 + n2 ≤ n2; omega) (W.aret hx hb hr (Or.inr ⟨_, rfl⟩) (Or.inr ⟨_, rfl⟩) (fun t2 ht2 hW => ⟨⟨(), q, rfl, trivial, hq.1, ?_⟩, hS1.F ht2⟩) hS1.2.2 dJ7_copyOf_1904c_9)
  rw [ht2, ← ht]
  exact hq.2
set_option maxRecDepth 100000 in
set_option maxHeartbeats 2000000 in
theorem lr_newLength (l : Launch) (n : Nat) (h0 : 0 < n) (hn : n < 60000) : Met l yJ8_newLength_cabcc (pa_ws mJ8_newLength_cabcc) (pa_rm 1 0 0)
    (va_Pc [.int (nI n), .int (nI 1), .int (nI (n / 2))] (fun _ => True)) (va_Qi (fun r (_ : lr_ONE) => r = nI (lr_cap n)) (fun _ _ => True) (fun _ => False)) 0 0 (fun _ => False) := by
  refine lr_start (y := mJ8_newLength_cabcc) l (by decide) rfl fun p e s m below meth c ls hx hb hml hown hts hr hlk hB hl => ?_
  have hl : lv_has ls 4 [(0, .int (nI n)), (1, .int (nI 1)), (2, .int (nI (n / 2)))] := hl
  have hS : va_S (fun _ => False) s.heap s.heap [] := va_S.rf
  refine lv_iload_n hx hb dJ8_newLength_cabcc_0 rfl (lv_at hl 0 rfl) ?_
  refine lv_iload_n hx hb dJ8_newLength_cabcc_1 rfl (lv_at hl 1 rfl) ?_
  refine lv_iload_n hx hb dJ8_newLength_cabcc_2 rfl (lv_at hl 2 rfl) ?_
  refine va_mmax hx hb (by rw [hml]; exact hl.1.symm) hown (hts (.methodLink RJ8 194 Lib.Math.max.name) (lr_w (by decide +kernel) rfl)) (hts (.static Lib.Math.max.name) (lr_w (by decide +kernel) rfl)) (hts (.initialized "java/lang/Math") (lr_w (by decide +kernel) rfl)) (hts (.code Lib.Math.max.name Lib.Math.max.code 2 (some .int)) (lr_w (by decide +kernel) rfl)) (by show 1 ≤ 1; omega) (Nat.le_of_ble_eq_true rfl) (Nat.le_refl _) (Nat.le_refl _) dJ8_newLength_cabcc_3 ?_
  have emx : nI n + (if nI 1 < nI (n / 2) then nI (n / 2) else nI 1) = nI (lr_cap n) := by
    unfold lr_cap
    rw [if_neg (show ¬ n = 0 by omega)]
    by_cases c9 : 1 < n / 2
    · rw [if_pos (nI_lt c9 (by omega)), if_pos c9, nI_add]
    · rw [if_neg (nI_nlt (by omega) (by omega)), if_neg c9, nI_add]
  have hcap : lr_cap n ≤ n + n / 2 + 1 := by
    unfold lr_cap
    rw [if_neg (show ¬ n = 0 by omega)]
    split <;> omega
  have hcap2 : n < lr_cap n := by
    unfold lr_cap
    rw [if_neg (show ¬ n = 0 by omega)]
    split <;> omega
  refine lv_iadd hx hb dJ8_newLength_cabcc_6 ?_
  rw [emx]
  refine lv_istore_n hx hb dJ8_newLength_cabcc_7 rfl hl (by decide) rfl (fun ls hl => ?_)
  have hl : lv_has ls 4 [(3, .int (nI (lr_cap n))), (0, .int (nI n)), (1, .int (nI 1)), (2, .int (nI (n / 2)))] := hl
  refine lv_iconst (v := 0) hx hb dJ8_newLength_cabcc_8 (by decide) ?_
  refine lv_iload_n hx hb dJ8_newLength_cabcc_9 rfl (lv_at hl 0 rfl) ?_
  refine lv_icmp_ge (tgt := 21) hx hb dJ8_newLength_cabcc_10 (by decide) (fun z => absurd z (nI_ge (a := 0) (b := lr_cap n) (by omega) (by omega))) (fun _ => ?_)
  refine lv_iload_n hx hb dJ8_newLength_cabcc_13 rfl (lv_at hl 0 rfl) ?_
  refine lv_ldc (v := 2147483639) hx hb hown (hts (.constant RJ8 200 (2147483639)) (lr_w (by decide +kernel) rfl)) dJ8_newLength_cabcc_14 ?_
  refine lv_icmp_gt (tgt := 21) hx hb dJ8_newLength_cabcc_16 (by decide) (fun z => absurd z (nI_nlt (a := 2147483639) (b := lr_cap n) (by omega) (by decide))) (fun _ => ?_)
  refine lv_iload_n hx hb dJ8_newLength_cabcc_19 rfl (lv_at hl 0 rfl) ?_
  exact W.iret hx hb hr (fun t ht hW => ⟨⟨nI (lr_cap n), (), rfl, rfl, trivial⟩, hS.F ht⟩) hS.2.2 dJ8_newLength_cabcc_20
theorem lr_cap_le {n b : Nat} (h : n ≤ b) : lr_cap n ≤ 10 + b + b / 2 := by
  unfold lr_cap
  split
  · omega
  · split <;> omega
theorem lr_cap_gt (n : Nat) : n < lr_cap n := by
  unfold lr_cap
  split
  · omega
  · split <;> omega
abbrev lr_A (a dr n sz : Nat) : Nat → Prop := fun z => z = a ∨ (z = dr ∧ n ≠ 0) ∨ sz ≤ z
/-- a list's row: the shared empty one where there are no places -/
def lr_Ro (G : pa_G) (dr : Nat) (f : Nat → Option Nat) (n : Nat) (H : Heap) : Prop := (n ≠ 0 → va_at G.1 vwCl (dr, lr_E G f n) H) ∧ (n = 0 → pa_E0 G H[dr]?)
theorem lr_Ro.kept {G : pa_G} {dr n : Nat} {f : Nat → Option Nat} {H H1 : Heap} (h : lr_Ro G dr f n H) (e : H1[dr]? = H[dr]?) : lr_Ro G dr f n H1 := ⟨fun z => (h.1 z).kept e, fun z => by rw [e]; exact h.2 z⟩
theorem lr_Ro.lt {G : pa_G} {dr n : Nat} {f : Nat → Option Nat} {H : Heap} (h : lr_Ro G dr f n H) : dr < H.size := by
  by_cases z : n = 0
  · obtain ⟨ce, e, -⟩ := h.2 z
    exact (Array.getElem?_eq_some_iff.mp e).1
  · exact (h.1 z).lt
/-- what a method finds: the list, its row (which may be the empty one) -/
def lr_Bw (G : pa_G) (sz : Nat) (q : Nat × va_E) (dr : Nat) (f : Nat → Option Nat) (n : Nat) (el : Nat → Prop) (U : State) : Prop := U.heap.size = sz ∧ (va_at G.1 vwCl q U.heap ∧ lr_Ro G dr f n U.heap) ∧ (∀ y, el y → va_Any "java/lang/Object" U U.heap y) ∧ pa_U G U ∧ pa_Zs G U U.heap
theorem lr_blw {G : pa_G} {sz dr n : Nat} {q : Nat × va_E} {f : Nat → Option Nat} {el : Nat → Prop} {As : List Value} : FrameBlind (va_Pc As (lr_Bw G sz q dr f n el)) := fun a U g mk q =>
  ⟨q.1, q.2.1, q.2.2.1, fun y hy => lr_anyM (u := U) (U := U.calling g mk a) (Vm.Alike.refl U.vm) (q.2.2.2.1 y hy), pa_U.call q.2.2.2.2.1, pa_Zs.moved (u := U) (U := U.calling g mk a) (Vm.Alike.refl U.vm) q.2.2.2.2.2⟩
theorem lr_prew {G : pa_G} {s U : State} {H : Heap} {locs : List Loc} {q : Nat × va_E} {dr n : Nat} {f : Nat → Option Nat} {el : Nat → Prop} {As : List Value} (hU : pa_U G s) (hZ : pa_Zs G s s.heap) (q3 : va_S (pa_A G) s.heap H locs) (hP : va_at G.1 vwCl q H) (hRo : lr_Ro G dr f n H) (hel : ∀ y, el y → va_Any "java/lang/Object" s H y) (hU9 : U.heap = H) (hW : s.WarmedH U.vm) : va_Pc As (lr_Bw G H.size q dr f n el) As.toArray U :=
  ⟨rfl, by rw [hU9], by rw [hU9]; exact ⟨hP, hRo⟩, fun y hy => by rw [hU9]; exact lr_anyM hW.alike (hel y hy), hU.warm hW, hZ.at q3 hU9 hW⟩
theorem lr_alenw {p : Program} {l : Launch} {e : Env} {R : Room} {s : State} {m : MethodId} {args : Array Value} {below : List Frame} {meth : Method} {c : Code} {H : Heap} {locs : List Loc} {cells slots pc : Nat} {Q : State → Prop} {ls : Array Slot} {rest : List Value} {cc : ByteArray} {G : pa_G} {dr n : Nat} {f : Nat → Option Nat} (hexec : p.tables.exec = Jvm.exec) (hb : c.code = cc) (hK : va_K G.1 vwCl (pa_tys G) s) (h : lr_Ro G dr f n H) (hdg : decode cc pc = .ok (.arraylength, 1))
    (kk : W p l e R s m args below meth c H locs cells slots Q (F0 m (pc + 1) ls (.int (nI n) :: rest))) : W p l e R s m args below meth c H locs cells slots Q (F0 m pc ls (.ref dr :: rest)) := by
  by_cases z : n = 0
  · obtain ⟨ce, e1, e2, e3, e4, e5⟩ := h.2 z
    obtain ⟨-, k, hk, comp, hc⟩ := (hK.2 4 _ rfl).1 0 (fun _ => .null)
    have hk2 : s.vm.classes[ce.cls]? = some k := by rw [e2]; exact hk
    have en : ce.slots.size.toInt32 = nI n := by rw [e3, z]; rfl
    exact W.alen (n := nI n) hexec hb e1 ⟨e5, k, hk2, comp, hc⟩ en rfl rfl hdg kk
  · exact va_alen (v := nI n) hexec hb hK (pa_P1 (h.1 z)) 0 4 rfl rfl rfl hdg kk
set_option maxRecDepth 100000 in
set_option maxHeartbeats 2000000 in
theorem lr_grow1 (G : pa_G) (l : Launch) (sz a dr n : Nat) (m : Int32) (f : Nat → Option Nat) (hn : n < 60000) (ha : G.2.2.1 ≤ a) (hd : n = 0 → dr = G.2.2.2) (hd2 : n ≠ 0 → G.2.2.1 ≤ dr) (hz : G.2.2.1 ≤ sz) (hb9 : G.2.2.2 < G.2.2.1) (had : a ≠ dr) : Met l yJx4a65c_grow_92f84 (pa_ws mJx4a65c_grow_92f84) (pa_rm 4 1 (lr_cap n))
    (va_Pc [.ref a, .int (nI (n + 1))] (lr_Bw G sz (a, lr_L m dr n) dr f n (lr_el f n)))
    (va_Qr (fun _ : lr_ONE => True) (fun _ q t => sz ≤ q ∧ va_P G.1 vwCl [(a, lr_L m q n), (q, lr_E G (lr_cp f n) (lr_cap n))] t.heap) (lr_A a dr n sz)) 1 (lr_cap n) (lr_A a dr n sz) := by
  refine lr_start (y := mJx4a65c_grow_92f84) l (by decide) rfl fun p e s mm below meth c ls hx hb hml hown hts hr hlk hB hl => ?_
  obtain ⟨hsz, ⟨hPa9, hRo⟩, hel, hU, hZ⟩ := hB
  have hP := pa_P1 hPa9
  have hl : lv_has ls 4 [(0, .ref a), (1, .int (nI (n + 1)))] := hl
  have hS : va_S (lr_A a dr n sz) s.heap s.heap [] := va_S.rf
  have hAs : ∀ q : Nat, s.heap.size ≤ q → lr_A a dr n sz q := fun q h => Or.inr (Or.inr (by omega))
  have hAG : ∀ q, lr_A a dr n sz q → pa_A G q := fun q h => by
    rcases h with h | ⟨h, h0⟩ | h
    · rw [h]; exact ha
    · rw [h]; exact hd2 h0
    · exact Nat.le_trans hz h
  have hlta : a < s.heap.size := (hP 0 _ rfl).lt
  have hltd : dr < s.heap.size := hRo.lt
  have getd : ∀ {pc : Nat} {st : List Value} {ls9 : Array Slot} {cells slots : Nat} {Q : State → Prop}, decode c.code pc = .ok (.getfield 9, 3) → W p l e (pa_rm 4 1 (lr_cap n)) s mm ([.ref a, .int (nI (n + 1))] : List Value).toArray below meth c s.heap [] cells slots Q (F0 mm (pc + 3) ls9 (.ref dr :: st)) → W p l e (pa_rm 4 1 (lr_cap n)) s mm ([.ref a, .int (nI (n + 1))] : List Value).toArray below meth c s.heap [] cells slots Q (F0 mm pc ls9 (.ref a :: st)) := fun dg k =>
    va_get (ref := "java/util/ArrayList") (ci := 0) (v := .ref dr) (C := RJx4a65c) (T := TJx4a65c) (N := 3) hx rfl hts in_J hown hU.1 hP 0 rfl rfl 1 (by decide) (hts _ (lr_w (w := .fieldLink RJx4a65c 9 "java/util/ArrayList" "elementData" "[Ljava/lang/Object;") (by decide +kernel) rfl)) (fun _ z => z) rfl dg k
  have hcb : c.code = cJx4a65c_grow_92f84 := hb
  refine lv_aload_n hx hb dJx4a65c_grow_92f84_0 rfl (lv_at hl 0 rfl) ?_
  refine getd (by rw [hcb]; exact dJx4a65c_grow_92f84_1) ?_
  refine lr_alenw hx hb hU.1 hRo dJx4a65c_grow_92f84_4 ?_
  refine lv_istore_n hx hb dJx4a65c_grow_92f84_5 rfl hl (by decide) rfl (fun ls hl => ?_)
  have hl : lv_has ls 4 [(2, .int (nI n)), (0, .ref a), (1, .int (nI (n + 1)))] := hl
  refine lv_iload_n hx hb dJx4a65c_grow_92f84_6 rfl (lv_at hl 0 rfl) ?_
  -- behind the new row: it is put
  have fin : ∀ (q pc : Nat) (H1 : Heap) (locs1 : List Loc) (ls : Array Slot), decode c.code pc = .ok (.dup_x1, 1) → decode c.code (pc + 1) = .ok (.putfield 9, 3) → decode c.code (pc + 4) = .ok (.areturn, 1) → sz ≤ q → q < H1.size → va_P G.1 vwCl [(a, lr_L m dr n), (q, lr_E G (lr_cp f n) (lr_cap n))] H1 → va_S (lr_A a dr n sz) s.heap H1 locs1 →
      W p l e (pa_rm 4 1 (lr_cap n)) s mm ([.ref a, .int (nI (n + 1))] : List Value).toArray below meth c H1 locs1 1 (lr_cap n) (MQ below (va_Qr (fun _ : lr_ONE => True) (fun _ q t => sz ≤ q ∧ va_P G.1 vwCl [(a, lr_L m q n), (q, lr_E G (lr_cp f n) (lr_cap n))] t.heap) (lr_A a dr n sz)) ([.ref a, .int (nI (n + 1))] : List Value).toArray s 1 (lr_cap n) (lr_A a dr n sz)) (F0 mm pc ls [.ref q, .ref a]) := by
    intro q pc H1 locs1 ls d1 d2 d3 hq hql hP1 hS1
    have hD1 : va_D (lr_A a dr n sz) [(a, lr_L m dr n), (q, lr_E G (lr_cp f n) (lr_cap n))] := lr_d2 (Or.inl rfl) (Or.inr (Or.inr hq)) (fun z => by have : a = q := z; omega)
    refine lv_dup_x1 hx rfl d1 rfl rfl ?_
    refine va_put (ref := "java/util/ArrayList") (ci := 0) (v := .ref q) (ty := .array (.object "java/lang/Object")) (C := RJx4a65c) (T := TJx4a65c) (N := 3) hx rfl hts in_J tyJx4a65c tyJx4a65c_ok nmJx4a65c hown hU.1 hP1 hD1 hS1 0 rfl rfl 1 (by decide) (hts _ (lr_w (w := .fieldLink RJx4a65c 9 "java/util/ArrayList" "elementData" "[Ljava/lang/Object;") (by decide +kernel) rfl)) (fun _ z => z) rfl (by decide +kernel) rfl rfl (Nat.le_of_ble_eq_true rfl) d2 (fun H2 locs2 hP2 hD2 hS2 => ?_)
    have hP2 : va_P G.1 vwCl [(a, lr_L m q n), (q, lr_E G (lr_cp f n) (lr_cap n))] H2 := hP2
    exact W.aret hx rfl hr (Or.inr ⟨_, rfl⟩) (Or.inr ⟨_, rfl⟩) (fun t ht hW => ⟨⟨(), q, rfl, trivial, hq, by rw [ht]; exact hP2⟩, hS2.F ht⟩) hS2.2.2 d3
  refine lv_if_gt (tgt := 20) hx hb dJx4a65c_grow_92f84_7 (by decide) (fun hpos => ?_) (fun hnp => ?_)
  · have h0 : 0 < n := by
      rcases Nat.eq_zero_or_pos n with z | z
      · rw [z] at hpos; exact absurd hpos (by decide)
      · exact z
    refine lv_iload_n hx hb dJx4a65c_grow_92f84_20 rfl (lv_at hl 0 rfl) ?_
    refine lv_iload_n hx hb dJx4a65c_grow_92f84_21 rfl (lv_at hl 2 rfl) ?_
    refine lv_iload_n hx hb dJx4a65c_grow_92f84_22 rfl (lv_at hl 0 rfl) ?_
    refine lv_isub hx hb dJx4a65c_grow_92f84_23 ?_
    have ed : nI (n + 1) - nI n = nI 1 := by
      have k := pk_sub (a := n + 1) (b := n) (by omega)
      rw [Nat.add_sub_cancel_left] at k
      exact k
    rw [ed]
    refine lv_iload_n hx hb dJx4a65c_grow_92f84_24 rfl (lv_at hl 0 rfl) ?_
    refine lv_iconst (v := 1) hx hb dJx4a65c_grow_92f84_25 (by decide) ?_
    refine lv_ishr hx hb dJx4a65c_grow_92f84_26 ?_
    have es : nI n >>> ((1 : Int32) &&& 31) = nI (n / 2) := by
      have k := pk_shrN (n := n) (by omega) ((1 : Int32) &&& 31) 1 (by decide)
      rw [Nat.pow_one] at k
      exact k
    rw [es]
    have cs : pa_cs RJx4a65c 73 mJ8_newLength_cabcc 3 := ws_Jx4a65c_73
    refine va_calli (va_runS (As := [.int (nI n), .int (nI 1), .int (nI (n / 2))]) (rest := []) ⟨hx, hb, hml, hown, hts⟩ (lr_newLength l n h0 hn) ⟨pa_cb (d' := 1) (d := 4) hts (Nat.le_refl _) (Nat.le_refl _) (by omega) cs.1 cs.2.2.1 cs.2.2.2.1 cs.2.2.2.2.1 cs.2.2.2.2.2.1 cs.2.2.2.2.2.2, hts _ cs.2.1⟩
      ⟨fun a U g mk q => ⟨q.1, trivial⟩, fun U hU9 hW => ⟨rfl, trivial⟩⟩ rfl rfl hl.1 rfl (lv_room (Nat.le_of_ble_eq_true rfl)) dJx4a65c_grow_92f84_27 ⟨Nat.zero_le _, Nat.zero_le _⟩) hS (fun q _ z => z.elim) (fun q z => z.elim) (fun r _ t H1 locs1 ht halk hr9 _ hsz1 hk hS1 => ?_)
    subst hr9
    have hH1 : ∀ q : Nat, q < s.heap.size → H1[q]? = s.heap[q]? := fun q hq => hk q hq (fun z => z)
    have hP1 : va_P G.1 vwCl [(a, lr_L m dr n), (dr, lr_E G f n)] H1 := lr_p2 ((hP 0 _ rfl).kept (hH1 a hlta)) ((hRo.1 (by omega)).kept (hH1 dr hltd))
    refine lv_istore_n hx hb dJx4a65c_grow_92f84_30 rfl hl (by decide) rfl (fun ls hl => ?_)
    have hl : lv_has ls 4 [(3, .int (nI (lr_cap n))), (2, .int (nI n)), (0, .ref a), (1, .int (nI (n + 1)))] := hl
    refine lv_aload_n hx hb dJx4a65c_grow_92f84_31 rfl (lv_at hl 2 rfl) ?_
    refine lv_aload_n hx hb dJx4a65c_grow_92f84_32 rfl (lv_at hl 2 rfl) ?_
    refine va_get (ref := "java/util/ArrayList") (ci := 0) (v := .ref dr) (C := RJx4a65c) (T := TJx4a65c) (N := 3) hx hb hts in_J hown hU.1 hP1 0 rfl rfl 1 (by decide) (hts _ (lr_w (w := .fieldLink RJx4a65c 9 "java/util/ArrayList" "elementData" "[Ljava/lang/Object;") (by decide +kernel) rfl)) (fun _ z => z) rfl dJx4a65c_grow_92f84_33 ?_
    refine lv_iload_n hx hb dJx4a65c_grow_92f84_36 rfl (lv_at hl 0 rfl) ?_
    have cs : pa_cs RJx4a65c 66 mJ7_copyOf_1904c 2 := ws_Jx4a65c_66
    have hS1G : va_S (pa_A G) s.heap H1 locs1 := lr_S hS1 hAG
    refine va_callr (va_runS (As := [.ref dr, .int (nI (lr_cap n))]) (rest := [.ref a]) ⟨hx, hb, hml, hown, hts⟩ (lr_copy1 G l H1.size dr n (lr_cap n) f (Nat.le_of_lt (lr_cap_gt n)) (by have := lr_cap_le (n := n) (b := 60000) (by omega); omega) (hd2 (by omega)) (by omega)) ⟨pa_cb (d' := 3) (d := 4) hts (Nat.le_refl _) (Nat.le_refl _) (by omega) cs.1 cs.2.2.1 cs.2.2.2.1 cs.2.2.2.2.1 cs.2.2.2.2.2.1 cs.2.2.2.2.2.2, hts _ cs.2.1⟩
      ⟨lr_bl, fun U hU9 hW => lr_pre hU hZ hS1G (pa_P1 (hP1 1 _ rfl)) (fun y hy => lr_anyK (hel y hy) (hH1 y (lr_anyL (hel y hy)))) hU9 hW⟩ rfl rfl hl.1 rfl (lv_room (Nat.le_of_ble_eq_true rfl)) dJx4a65c_grow_92f84_37 ⟨Nat.le_refl _, by show 0 + 0 + lr_cap n ≤ lr_cap n; omega⟩) hS1 (fun q _ z => z.elim (fun z => Or.inr (Or.inl ⟨z, by omega⟩)) (fun z => Or.inr (Or.inr (by omega)))) (fun q z => z.elim (fun z => Or.inr (Or.inl ⟨z, by omega⟩)) (fun z => Or.inr (Or.inr (by omega)))) (fun _ q t2 H2 locs2 ht2 halk2 _ hq hsz2 hk2 hS2 => ?_)
    refine W.widen (k := 1) (n := lr_cap n) (Nat.le_refl _) (by show 0 + 0 + lr_cap n ≤ lr_cap n; omega) (fin q 40 H2 locs2 ls (by rw [hcb]; exact dJx4a65c_grow_92f84_40) (by rw [hcb]; exact dJx4a65c_grow_92f84_41) (by rw [hcb]; exact dJx4a65c_grow_92f84_44) (by omega) ?_ ?_ hS2)
    · have := (hq.2 1 _ rfl).lt
      rw [ht2] at this
      exact this
    · refine lr_p2 ((hP1 0 _ rfl).kept (hk2 a (by omega) (fun z => z.elim had (fun z => by omega)))) ?_
      have := hq.2 1 _ rfl
      rw [ht2] at this
      exact this
  · have h0 : n = 0 := by
      rcases Nat.eq_zero_or_pos n with z | z
      · exact z
      · exact absurd (nI_lt (a := 0) (b := n) z (by omega)) hnp
    subst h0
    have hdr := hd rfl
    refine lv_aload_n hx hb dJx4a65c_grow_92f84_10 rfl (lv_at hl 1 rfl) ?_
    refine getd (by rw [hcb]; exact dJx4a65c_grow_92f84_11) ?_
    refine va_gets hx hb hZ.1 va_S.rf hown (hts (.fieldLink RJx4a65c 39 "java/util/ArrayList" "DEFAULTCAPACITY_EMPTY_ELEMENTDATA" "[Ljava/lang/Object;") (lr_w (by decide +kernel) rfl)) (fun _ z => z) dJx4a65c_grow_92f84_14 ?_
    refine lv_acmp_eq (rx := some dr) (ry := some G.2.2.2) (tgt := 45) hx hb dJx4a65c_grow_92f84_17 (by decide) (fun _ => ?_) (fun z => absurd (by rw [hdr]) z)
    refine lv_aload_n hx hb dJx4a65c_grow_92f84_45 rfl (lv_at hl 1 rfl) ?_
    refine lv_bipush (v := 10) hx hb dJx4a65c_grow_92f84_46 (by decide) ?_
    refine lv_iload_n hx hb dJx4a65c_grow_92f84_48 rfl (lv_at hl 2 rfl) ?_
    refine va_mmax hx hb (by rw [hml]; exact hl.1.symm) hown (hts (.methodLink RJx4a65c 79 Lib.Math.max.name) (lr_w (by decide +kernel) rfl)) (hts (.static Lib.Math.max.name) (lr_w (by decide +kernel) rfl)) (hts (.initialized "java/lang/Math") (lr_w (by decide +kernel) rfl)) (hts (.code Lib.Math.max.name Lib.Math.max.code 2 (some .int)) (lr_w (by decide +kernel) rfl)) (by show 1 ≤ 4; omega) (Nat.le_of_ble_eq_true rfl) (Nat.zero_le _) (Nat.zero_le _) dJx4a65c_grow_92f84_49 ?_
    have emx : (if (10 : Int32) < nI (0 + 1) then nI (0 + 1) else 10) = nI 10 := by decide
    rw [emx]
    refine va_newq (N' := 10) (ws := []) hx hb hown (hts (.classLink RJx4a65c 7 "java/lang/Object") (lr_w (by decide +kernel) rfl)) (hU.2.2.2.2.2.2.2.2 "java/lang/Object" (by decide)) hU.1 (fun k q h => (by cases h)) ⟨fun i j p q h => (by cases h), fun k q h => (by cases h)⟩ (va_S.rf (A := fun z => s.heap.size ≤ z)) (fun q h => h) (by decide) (by decide) (by omega) (Nat.le_refl _) (Nat.le_refl _) dJx4a65c_grow_92f84_52 (fun q cA H1 hK1 hP1 hD1 hS1 => ?_)
    have ecA : cA = G.2.1 4 := by
      have e1 := va_nmO (nm := "[Ljava/lang/Object;") (hK1.2 6 _ rfl).2 (by decide)
      have e2 := va_nmO (nm := "[Ljava/lang/Object;") (hU.1.2 4 _ rfl).2 (by decide)
      exact Option.some.inj (e1.symm.trans e2)
    subst ecA
    have hq : s.heap.size ≤ q := hD1.2 0 _ rfl
    refine fin q 55 H1 [] ls (by rw [hcb]; exact dJx4a65c_grow_92f84_55) (by rw [hcb]; exact dJx4a65c_grow_92f84_56) (by rw [hcb]; exact dJx4a65c_grow_92f84_59) (by omega) (hP1 0 _ rfl).lt ?_ (lr_S hS1 (fun q h => Or.inr (Or.inr (by omega))))
    refine lr_p2 ((hP 0 _ rfl).kept (hS1.2.1 a hlta (fun z => by have : s.heap.size ≤ a := z; omega))) ?_
    have h1 := hP1 0 _ rfl
    have ecp : lr_cp f 0 = fun _ => none := funext fun j => if_neg (by omega)
    rw [ecp]
    exact h1
set_option maxRecDepth 100000 in
set_option maxHeartbeats 2000000 in
theorem lr_grow0 (G : pa_G) (l : Launch) (sz a dr n : Nat) (m : Int32) (f : Nat → Option Nat) (hn : n < 60000) (ha : G.2.2.1 ≤ a) (hd : n = 0 → dr = G.2.2.2) (hd2 : n ≠ 0 → G.2.2.1 ≤ dr) (hz : G.2.2.1 ≤ sz) (hb9 : G.2.2.2 < G.2.2.1) (had : a ≠ dr) : Met l yJx4a65c_grow_d5877 (pa_ws mJx4a65c_grow_d5877) (pa_rm 5 1 (lr_cap n))
    (va_Pc [.ref a] (lr_Bw G sz (a, lr_L m dr n) dr f n (lr_el f n)))
    (va_Qr (fun _ : lr_ONE => True) (fun _ q t => sz ≤ q ∧ va_P G.1 vwCl [(a, lr_L m q n), (q, lr_E G (lr_cp f n) (lr_cap n))] t.heap) (lr_A a dr n sz)) 1 (lr_cap n) (lr_A a dr n sz) := by
  refine lr_start (y := mJx4a65c_grow_d5877) l (by decide) rfl fun p e s mm below meth c ls hx hb hml hown hts hr hlk hB hl => ?_
  obtain ⟨hsz, ⟨hPa9, hRo⟩, hel, hU, hZ⟩ := hB
  have hP := pa_P1 hPa9
  have hl : lv_has ls 1 [(0, .ref a)] := hl
  have hS : va_S (lr_A a dr n sz) s.heap s.heap [] := va_S.rf
  refine lv_aload_n hx hb dJx4a65c_grow_d5877_0 rfl (lv_at hl 0 rfl) ?_
  refine lv_aload_n hx hb dJx4a65c_grow_d5877_1 rfl (lv_at hl 0 rfl) ?_
  refine va_get (ref := "java/util/ArrayList") (ci := 0) (v := .int (nI n)) (C := RJx4a65c) (T := TJx4a65c) (N := 3) hx hb hts in_J hown hU.1 hP 0 rfl rfl 2 (by decide) (hts _ (lr_w (w := .fieldLink RJx4a65c 48 "java/util/ArrayList" "size" "I") (by decide +kernel) rfl)) (fun _ z => z) rfl dJx4a65c_grow_d5877_2 ?_
  refine lv_iconst (v := 1) hx hb dJx4a65c_grow_d5877_5 (by decide) ?_
  refine lv_iadd hx hb dJx4a65c_grow_d5877_6 ?_
  rw [nI_1]
  have cs : pa_cv RJx4a65c 69 mJx4a65c_grow_92f84 0 1 := wv_Jx4a65c_69
  refine va_callr (va_runV (b := a) (As := [.int (nI (n + 1))]) (rest := []) ⟨hx, hb, hml, hown, hts⟩ (lr_grow1 G l sz a dr n m f hn ha hd hd2 hz hb9 had) ⟨pa_cb (d' := 4) (d := 5) hts (Nat.le_refl _) (Nat.le_refl _) (by omega) cs.1 cs.2.2.2.1 cs.2.2.2.2.1 cs.2.2.2.2.2.1 cs.2.2.2.2.2.2.1 cs.2.2.2.2.2.2.2.1, hts _ cs.2.1, hts _ cs.2.2.1⟩
    ⟨lr_blw, va_recv hU.1 hP (ci := 0) (q0 := 0) rfl rfl, fun U hU9 hW => ?_⟩ rfl rfl hl.1 rfl (lv_room (Nat.le_of_ble_eq_true rfl)) dJx4a65c_grow_d5877_7 ⟨Nat.le_refl _, by show 0 + lr_cap n ≤ lr_cap n; omega⟩) hS (fun q _ z => z) (fun q z => z) (fun _ q t H1 locs1 ht halk _ hq hsz1 hk hS1 => ?_)
  · have := lr_prew (As := [.ref a, .int (nI (n + 1))]) hU hZ va_S.rf (hP 0 _ rfl) hRo hel hU9 hW
    rw [hsz] at this
    exact this
  refine W.widen (Nat.le_refl _) (by show 0 + lr_cap n ≤ lr_cap n; omega) (W.aret hx hb hr (Or.inr ⟨_, rfl⟩) (Or.inr ⟨_, rfl⟩) (fun t2 ht2 hW => ⟨⟨(), q, rfl, trivial, hq.1, ?_⟩, hS1.F ht2⟩) hS1.2.2 dJx4a65c_grow_d5877_10)
  rw [ht2, ← ht]
  exact hq.2
/-- the row behind an adding: how long it is, which it is -/
abbrev lr_nc (n cap : Nat) : Nat := if n = cap then lr_cap n else cap
set_option maxRecDepth 100000 in
set_option maxHeartbeats 4000000 in
theorem lr_add3 (G : pa_G) (l : Launch) (sz a dr n cap y : Nat) (m : Int32) (f : Nat → Option Nat) (hn : n ≤ cap) (hcap : cap < 60000) (ha : G.2.2.1 ≤ a) (hd : cap = 0 → dr = G.2.2.2) (hd2 : cap ≠ 0 → G.2.2.1 ≤ dr) (hz : G.2.2.1 ≤ sz) (hb9 : G.2.2.2 < G.2.2.1) (had : a ≠ dr) (hya : y ≠ a) (hyd : y ≠ dr) : Met l yJx4a65c_add_72be8 (pa_ws mJx4a65c_add_72be8) (pa_rm 6 1 (lr_cap cap))
    (va_Pc [.ref a, .ref y, .ref dr, .int (nI n)] (lr_Bw G sz (a, lr_L m dr n) dr f cap (fun z => lr_el f cap z ∨ z = y)))
    (va_Qv (fun _ : Nat × (Nat → Option Nat) => True) (fun u t => (u.1 = dr ∧ n ≠ cap ∨ sz ≤ u.1) ∧ va_P G.1 vwCl [(a, lr_L m u.1 (n + 1)), (u.1, lr_E G u.2 (lr_nc n cap))] t.heap ∧ (∀ j, j < n → u.2 j = f j) ∧ u.2 n = some y ∧ (∀ j, n < j → u.2 j = if n = cap then none else f j)) (lr_A a dr cap sz)) 1 (lr_cap cap) (lr_A a dr cap sz) := by
  refine lr_start (y := mJx4a65c_add_72be8) l (by decide) rfl fun p e s mm below meth c ls hx hb hml hown hts hr hlk hB hl => ?_
  obtain ⟨hsz, ⟨hPa9, hRo⟩, hel, hU, hZ⟩ := hB
  have hP := pa_P1 hPa9
  have hl : lv_has ls 4 [(0, .ref a), (1, .ref y), (2, .ref dr), (3, .int (nI n))] := hl
  have hS : va_S (lr_A a dr cap sz) s.heap s.heap [] := va_S.rf
  have hAs : ∀ q : Nat, s.heap.size ≤ q → lr_A a dr cap sz q := fun q h => Or.inr (Or.inr (by omega))
  have hlta : a < s.heap.size := (hP 0 _ rfl).lt
  have hltd : dr < s.heap.size := hRo.lt
  have hany : va_Any "java/lang/Object" s s.heap y := hel y (Or.inr rfl)
  have hlty : y < s.heap.size := lr_anyL hany
  -- behind the growing: the element is put
  have fin : ∀ (q k : Nat) (g : Nat → Option Nat) (H1 : Heap) (locs1 : List Loc) (ls : Array Slot) (x1 x2 : Nat), x1 ≤ 1 → x2 ≤ lr_cap cap → (q = dr ∧ n ≠ cap ∨ sz ≤ q) → n < k → k < 100000 → k = lr_nc n cap → (∀ j, j < n → g j = f j) → (∀ j, n < j → g j = if n = cap then none else f j) → va_Any "java/lang/Object" s H1 y → va_P G.1 vwCl [(a, lr_L m q n), (q, lr_E G g k)] H1 → va_S (lr_A a dr cap sz) s.heap H1 locs1 → lv_has ls 4 [(2, .ref q), (0, .ref a), (1, .ref y), (3, .int (nI n))] →
      W p l e (pa_rm 6 1 (lr_cap cap)) s mm ([.ref a, .ref y, .ref dr, .int (nI n)] : List Value).toArray below meth c H1 locs1 x1 x2 (MQ below (va_Qv (fun _ : Nat × (Nat → Option Nat) => True) (fun u t => (u.1 = dr ∧ n ≠ cap ∨ sz ≤ u.1) ∧ va_P G.1 vwCl [(a, lr_L m u.1 (n + 1)), (u.1, lr_E G u.2 (lr_nc n cap))] t.heap ∧ (∀ j, j < n → u.2 j = f j) ∧ u.2 n = some y ∧ (∀ j, n < j → u.2 j = if n = cap then none else f j)) (lr_A a dr cap sz)) ([.ref a, .ref y, .ref dr, .int (nI n)] : List Value).toArray s 1 (lr_cap cap) (lr_A a dr cap sz)) (F0 mm 11 ls []) := by
    intro q k g H1 locs1 ls x1 x2 hx1 hx2 hq hnk hk hkk hg hg2 hany1 hP1 hS1 hl
    have hqa : a ≠ q := fun z => by
      rcases hq with h | h
      · exact had (z.trans h.1)
      · omega
    have hD1 : va_D (lr_A a dr cap sz) [(a, lr_L m q n), (q, lr_E G g k)] := lr_d2 (Or.inl rfl) (by
      rcases hq with ⟨h, h2⟩ | h
      · exact Or.inr (Or.inl ⟨h, by omega⟩)
      · exact Or.inr (Or.inr h)) hqa
    refine lv_aload_n hx hb dJx4a65c_add_72be8_11 rfl (lv_at hl 0 rfl) ?_
    refine lv_iload_n hx hb dJx4a65c_add_72be8_12 rfl (lv_at hl 3 rfl) ?_
    refine lv_aload_n hx hb dJx4a65c_add_72be8_13 rfl (lv_at hl 2 rfl) ?_
    have ecl : (nI n).toNatClampNeg = n := nI_clamp (by omega)
    refine va_astqM hx hb hU.1 hP1 hD1 hS1 1 4 rfl rfl hany1 (vp_in_nI hnk (by omega)) dJx4a65c_add_72be8_14 (fun H2 locs2 hP2 hD2 hS2 => ?_)
    rw [ecl] at hP2 hD2
    have hP2 : va_P G.1 vwCl [(a, lr_L m q n), (q, lr_E G (va_up g n (some y)) k)] H2 := hP2
    have hD2 : va_D (lr_A a dr cap sz) [(a, lr_L m q n), (q, lr_E G (va_up g n (some y)) k)] := hD2
    refine lv_aload_n hx hb dJx4a65c_add_72be8_15 rfl (lv_at hl 1 rfl) ?_
    refine lv_iload_n hx hb dJx4a65c_add_72be8_16 rfl (lv_at hl 3 rfl) ?_
    refine lv_iconst (v := 1) hx hb dJx4a65c_add_72be8_17 (by decide) ?_
    refine lv_iadd hx hb dJx4a65c_add_72be8_18 ?_
    rw [nI_1]
    refine va_put (ref := "java/util/ArrayList") (ci := 0) (v := .int (nI (n + 1))) (ty := .int) (C := RJx4a65c) (T := TJx4a65c) (N := 3) hx hb hts in_J tyJx4a65c tyJx4a65c_ok nmJx4a65c hown hU.1 hP2 hD2 hS2 0 rfl rfl 2 (by decide) (hts _ (lr_w (w := .fieldLink RJx4a65c 48 "java/util/ArrayList" "size" "I") (by decide +kernel) rfl)) (fun _ z => z) rfl (by decide +kernel) rfl rfl (Nat.le_of_ble_eq_true rfl) dJx4a65c_add_72be8_19 (fun H3 locs3 hP3 hD3 hS3 => ?_)
    have hP3 : va_P G.1 vwCl [(a, lr_L m q (n + 1)), (q, lr_E G (va_up g n (some y)) k)] H3 := hP3
    refine W.widen hx1 hx2 (W.vret hx hb hr (fun t ht hW => ⟨⟨(q, va_up g n (some y)), rfl, trivial, hq, by rw [ht, ← hkk]; exact hP3, fun j hj => ?_, ?_, fun j hj => ?_⟩, hS3.F ht⟩) hS3.2.2 dJx4a65c_add_72be8_22)
    · show va_up g n (some y) j = f j
      unfold va_up
      rw [if_neg (by omega)]
      exact hg j hj
    · show va_up g n (some y) n = some y
      unfold va_up
      rw [if_pos rfl]
    · show va_up g n (some y) j = _
      unfold va_up
      rw [if_neg (by omega)]
      exact hg2 j hj
  refine lv_iload_n hx hb dJx4a65c_add_72be8_0 rfl (lv_at hl 3 rfl) ?_
  refine lv_aload_n hx hb dJx4a65c_add_72be8_1 rfl (lv_at hl 2 rfl) ?_
  refine lr_alenw hx hb hU.1 hRo dJx4a65c_add_72be8_2 ?_
  refine lv_icmp_ne (tgt := 11) hx hb dJx4a65c_add_72be8_3 (by decide) (fun hne => ?_) (fun heq => ?_)
  · have hne : n ≠ cap := fun z => hne (by rw [z])
    exact fin dr cap f s.heap [] ls 0 0 (by omega) (Nat.zero_le _) (Or.inl ⟨rfl, hne⟩) (by omega) (by omega) (by rw [lr_nc, if_neg hne]) (fun _ _ => rfl) (fun _ _ => by rw [if_neg hne]) hany (lr_p2 (hP 0 _ rfl) (hRo.1 (by omega))) hS (lv_sub hl [2, 0, 1, 3] rfl)
  · have heq : n = cap := by
      by_cases z : n = cap
      · exact z
      · first | exact absurd ((nI_eq (a := n) (b := cap) (by omega) (by omega)).mp heq) z | exact absurd (fun e => z ((nI_eq (a := n) (b := cap) (by omega) (by omega)).mp e)) heq
    subst heq
    refine lv_aload_n hx hb dJx4a65c_add_72be8_6 rfl (lv_at hl 0 rfl) ?_
    have cs : pa_cv RJx4a65c 129 mJx4a65c_grow_d5877 0 0 := wv_Jx4a65c_129
    refine va_callr (va_runV (b := a) (As := []) (rest := []) ⟨hx, hb, hml, hown, hts⟩ (lr_grow0 G l sz a dr n m f hcap ha hd hd2 hz hb9 had) ⟨pa_cb (d' := 5) (d := 6) hts (Nat.le_refl _) (Nat.le_refl _) (by omega) cs.1 cs.2.2.2.1 cs.2.2.2.2.1 cs.2.2.2.2.2.1 cs.2.2.2.2.2.2.1 cs.2.2.2.2.2.2.2.1, hts _ cs.2.1, hts _ cs.2.2.1⟩
      ⟨lr_blw, va_recv hU.1 hP (ci := 0) (q0 := 0) rfl rfl, fun U hU9 hW => ?_⟩ rfl rfl hl.1 rfl (lv_room (Nat.le_of_ble_eq_true rfl)) dJx4a65c_add_72be8_7 ⟨Nat.le_refl _, by show 0 + lr_cap n ≤ lr_cap n; omega⟩) hS (fun q _ z => z) (fun q z => z) (fun _ q t H1 locs1 ht halk _ hq hsz1 hk hS1 => ?_)
    · have := lr_prew (As := [.ref a]) hU hZ va_S.rf (hP 0 _ rfl) hRo (fun z hz9 => hel z (Or.inl hz9)) hU9 hW
      rw [hsz] at this
      exact this
    refine lv_astore_n hx hb dJx4a65c_add_72be8_10 rfl hl (by decide) rfl (fun ls hl => ?_)
    have hl : lv_has ls 4 [(2, .ref q), (0, .ref a), (1, .ref y), (3, .int (nI n))] := hl
    have hq2 := hq.2
    rw [ht] at hq2
    refine fin q (lr_cap n) (lr_cp f n) H1 locs1 ls (0 + 1) (0 + lr_cap n) (by omega) (by omega) (Or.inr hq.1) (lr_cap_gt n) (by have := lr_cap_le (n := n) (b := 60000) (by omega); omega) (by rw [lr_nc, if_pos rfl]) (fun j hj => if_pos hj) (fun j hj => by rw [if_pos rfl]; exact if_neg (by omega)) ?_ hq2 hS1 hl
    refine lr_anyK hany (hk y hlty (fun z => ?_))
    rcases z with z | ⟨z, -⟩ | z
    · exact hya z
    · exact hyd z
    · omega
set_option maxRecDepth 100000 in
set_option maxHeartbeats 4000000 in
theorem lr_add (G : pa_G) (l : Launch) (sz a dr n cap y : Nat) (m : Int32) (f : Nat → Option Nat) (hn : n ≤ cap) (hcap : cap < 60000) (ha : G.2.2.1 ≤ a) (hd : cap = 0 → dr = G.2.2.2) (hd2 : cap ≠ 0 → G.2.2.1 ≤ dr) (hz : G.2.2.1 ≤ sz) (hb9 : G.2.2.2 < G.2.2.1) (had : a ≠ dr) (hya : y ≠ a) (hyd : y ≠ dr) (hfa : ¬ lr_el f cap a) : Met l yJx4a65c_add_9ea2d (pa_ws mJx4a65c_add_9ea2d) (pa_rm 7 1 (lr_cap cap))
    (va_Pc [.ref a, .ref y] (lr_Bw G sz (a, lr_L m dr n) dr f cap (fun z => lr_el f cap z ∨ z = y)))
    (va_Qi (fun r (_ : Nat × (Nat → Option Nat)) => r = 1) (fun u t => (u.1 = dr ∧ n ≠ cap ∨ sz ≤ u.1) ∧ va_P G.1 vwCl [(a, lr_L (m + 1) u.1 (n + 1)), (u.1, lr_E G u.2 (lr_nc n cap))] t.heap ∧ (∀ j, j < n → u.2 j = f j) ∧ u.2 n = some y ∧ (∀ j, n < j → u.2 j = if n = cap then none else f j)) (lr_A a dr cap sz)) 1 (lr_cap cap) (lr_A a dr cap sz) := by
  refine lr_start (y := mJx4a65c_add_9ea2d) l (by decide) rfl fun p e s mm below meth c ls hx hb hml hown hts hr hlk hB hl => ?_
  obtain ⟨hsz, ⟨hPa9, hRo⟩, hel, hU, hZ⟩ := hB
  have hP := pa_P1 hPa9
  have hl : lv_has ls 2 [(0, .ref a), (1, .ref y)] := hl
  have hAG : ∀ q, lr_A a dr cap sz q → pa_A G q := fun q h => by
    rcases h with h | ⟨h, h0⟩ | h
    · rw [h]; exact ha
    · rw [h]; exact hd2 h0
    · exact Nat.le_trans hz h
  have hlta : a < s.heap.size := (hP 0 _ rfl).lt
  have hltd : dr < s.heap.size := hRo.lt
  have had2 : dr ≠ a := fun z => had z.symm
  have hS : va_S (fun z => z = a) s.heap s.heap [] := va_S.rf
  have hPa : va_P G.1 vwCl [(a, lr_L m dr n)] s.heap := pa_P1 (hP 0 _ rfl)
  have hDa : va_D (fun z => z = a) [(a, lr_L m dr n)] := lr_d1 rfl
  have hsame : (Cond.sameField "java/util/ArrayList" "java/util/AbstractList" "modCount" "I").before ([.ref a, .ref y] : List Value).toArray s = true := hts _ (lr_w (by decide +kernel) rfl)
  refine lv_aload_n hx hb dJx4a65c_add_9ea2d_0 rfl (lv_at hl 0 rfl) ?_
  refine lv_dup hx hb dJx4a65c_add_9ea2d_1 rfl ?_
  refine va_get (ref := "java/util/ArrayList") (ci := 0) (v := .int m) (C := RJx4a65c) (T := TJx4a65c) (N := 3) hx hb hts in_J hown hU.1 hPa 0 rfl rfl 0 (by decide) (hts _ (lr_w (w := .fieldLink RJx4a65c 63 "java/util/ArrayList" "modCount" "I") (by decide +kernel) rfl)) (fun x9 h9 => u_same hsame x9 h9) rfl dJx4a65c_add_9ea2d_2 ?_
  refine lv_iconst (v := 1) hx hb dJx4a65c_add_9ea2d_5 (by decide) ?_
  refine lv_iadd hx hb dJx4a65c_add_9ea2d_6 ?_
  refine va_put (ref := "java/util/ArrayList") (ci := 0) (v := .int (m + 1)) (ty := .int) (C := RJx4a65c) (T := TJx4a65c) (N := 3) hx hb hts in_J tyJx4a65c tyJx4a65c_ok nmJx4a65c hown hU.1 hPa hDa hS 0 rfl rfl 0 (by decide) (hts _ (lr_w (w := .fieldLink RJx4a65c 63 "java/util/ArrayList" "modCount" "I") (by decide +kernel) rfl)) (fun x9 h9 => u_same hsame x9 h9) rfl (by decide +kernel) rfl rfl (Nat.le_of_ble_eq_true rfl) dJx4a65c_add_9ea2d_7 (fun H1 locs1 hP1 hD1 hS1 => ?_)
  have hz1 : H1.size = s.heap.size ∨ s.heap.size ≤ H1.size := Or.inr hS1.1
  have hRo1 : lr_Ro G dr f cap H1 := hRo.kept (hS1.2.1 dr hltd had2)
  have hP2 : va_P G.1 vwCl [(a, lr_L (m + 1) dr n)] H1 := pa_P1 (hP1 0 _ rfl)
  have hel1 : ∀ z, lr_el f cap z ∨ z = y → va_Any "java/lang/Object" s H1 z := fun z hz9 => by
    refine lr_anyK (hel z hz9) (hS1.2.1 z (lr_anyL (hel z hz9)) (fun q => ?_))
    have q : z = a := q
    subst q
    rcases hz9 with q2 | q2
    · exact hfa q2
    · exact hya q2.symm
  refine lv_aload_n hx hb dJx4a65c_add_9ea2d_10 rfl (lv_at hl 0 rfl) ?_
  refine lv_aload_n hx hb dJx4a65c_add_9ea2d_11 rfl (lv_at hl 1 rfl) ?_
  refine lv_aload_n hx hb dJx4a65c_add_9ea2d_12 rfl (lv_at hl 0 rfl) ?_
  refine va_get (ref := "java/util/ArrayList") (ci := 0) (v := .ref dr) (C := RJx4a65c) (T := TJx4a65c) (N := 3) hx hb hts in_J hown hU.1 hP2 0 rfl rfl 1 (by decide) (hts _ (lr_w (w := .fieldLink RJx4a65c 9 "java/util/ArrayList" "elementData" "[Ljava/lang/Object;") (by decide +kernel) rfl)) (fun _ z => z) rfl dJx4a65c_add_9ea2d_13 ?_
  refine lv_aload_n hx hb dJx4a65c_add_9ea2d_16 rfl (lv_at hl 0 rfl) ?_
  refine va_get (ref := "java/util/ArrayList") (ci := 0) (v := .int (nI n)) (C := RJx4a65c) (T := TJx4a65c) (N := 3) hx hb hts in_J hown hU.1 hP2 0 rfl rfl 2 (by decide) (hts _ (lr_w (w := .fieldLink RJx4a65c 48 "java/util/ArrayList" "size" "I") (by decide +kernel) rfl)) (fun _ z => z) rfl dJx4a65c_add_9ea2d_17 ?_
  have cs : pa_cv RJx4a65c 131 mJx4a65c_add_72be8 0 3 := wv_Jx4a65c_131
  have hS1A : va_S (lr_A a dr cap sz) s.heap H1 locs1 := lr_S hS1 (fun q h => Or.inl h)
  refine va_callv (va_runV (b := a) (As := [.ref y, .ref dr, .int (nI n)]) (rest := []) ⟨hx, hb, hml, hown, hts⟩ (lr_add3 G l H1.size a dr n cap y (m + 1) f hn hcap ha hd hd2 (by have := hS1.1; omega) hb9 had hya hyd) ⟨pa_cb (d' := 6) (d := 7) hts (Nat.le_refl _) (Nat.le_refl _) (by omega) cs.1 cs.2.2.2.1 cs.2.2.2.2.1 cs.2.2.2.2.2.1 cs.2.2.2.2.2.2.1 cs.2.2.2.2.2.2.2.1, hts _ cs.2.1, hts _ cs.2.2.1⟩
    ⟨lr_blw, va_recv hU.1 hP2 (ci := 0) (q0 := 0) rfl rfl, fun U hU9 hW => lr_prew hU hZ (lr_S hS1A hAG) (hP2 0 _ rfl) hRo1 hel1 hU9 hW⟩ rfl rfl hl.1 rfl (lv_room (Nat.le_of_ble_eq_true rfl)) dJx4a65c_add_9ea2d_20 ⟨Nat.le_refl _, by show 0 + lr_cap cap ≤ lr_cap cap; omega⟩) hS1A (fun q hq z => ?_) (fun q z => ?_) (fun u t H2 locs2 ht halk _ hq hsz1 hk hS2 => ?_)
  · rcases z with z | z | z
    · exact Or.inl z
    · exact Or.inr (Or.inl z)
    · omega
  · rcases z with z | z | z
    · exact Or.inl z
    · exact Or.inr (Or.inl z)
    · exact Or.inr (Or.inr (by have := hS1.1; omega))
  obtain ⟨q1, q2, q3, q4, q5⟩ := hq
  rw [ht] at q2
  refine lv_iconst (v := 1) hx hb dJx4a65c_add_9ea2d_23 (by decide) ?_
  refine W.widen (Nat.le_refl _) (by show 0 + lr_cap cap ≤ lr_cap cap; omega) (W.zret hx hb hr rfl (fun t2 ht2 hW => ⟨⟨1, u, rfl, rfl, q1.imp id (fun z => by have := hS1.1; omega), by rw [ht2]; exact q2, q3, q4, q5⟩, hS2.F ht2⟩) hS2.2.2 dJx4a65c_add_9ea2d_24)
