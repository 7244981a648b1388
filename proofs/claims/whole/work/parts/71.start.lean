/-! THE CLAIM OUT OF ONE WALK OF THE LAW'S BODY. Your part is whole_start (and what it stands on); all else here is the same for every law, but numbers. -/
def R_law : String := "ParleyRoomLaw"
def lw_P (b : Addr) (xs : List Int32) (args : Array Value) (s : State) : Prop := args = #[.ref b] ∧ s.IntsAt b xs ∧ xs.length ≤ 3584 ∧ (Jvm.Cond.and given_1 narrow_1).before args s = true
def lw_Q (_ : Array Value) (s : State) (o : Outcome) (t : State) : Prop := o = .returned (some (.int 1)) ∧ Framed s o t [] 601024 7293034
def lw_Z (below : List Frame) (a : Array Value) (s : State) : State → Prop := fun t => ∃ o, t.status = .running ∧ Ended t below o ∧ lw_Q a s o t
/-- the law's own end, with 1 on the stack, nothing written that was there before, its room as the claim has it -/
theorem lw_ret {p : Program} {l : Launch} {e : Env} {s : State} {m : MethodId} {below : List Frame} {meth : Method} {c : Code} {b : Nat} (hx : p.tables.exec = Jvm.exec) (hb : c.code = code) (hr : meth.sig.returnType = ret) (hlocks : meth.locks = false) {pc : Nat} {H : Heap} {ls : Array Slot} (hdg : decode code pc = .ok (.ireturn, 1)) : W p l e room_1 s m #[Value.ref b] below meth c H [] 601024 7293034 (lw_Z below #[Value.ref b] s) (F0 m pc ls [.int 1]) := by
  intro T hT X
  obtain ⟨fs, hret, hrun, hended, hW, hframe⟩ := X.leave (v := some (.int 1)) (hlocks := hlocks) (fun h => by rw [hr] at h; cases h)
  have hmeth' : T.vm.method? m = some meth := X.method'
  refine ⟨T.setFrames fs, ?_, .returned (some (.int 1)), hrun, hended, rfl, ⟨_, rfl⟩, hW, hframe⟩
  jvm_step X.here [X.here.top, hx, hb, hdg, hmeth', hr, ret, narrow_b1]
  (try refine ⟨rfl, ?_⟩); (try refine ⟨rfl, ?_⟩)
  first | (intro acts; rw [hret _ acts rfl rfl rfl]) | rw [hret _ _ rfl rfl rfl]
  exact Steps.refl _
/-- what holds at the law's entry: the machine, the code, the tables' words (any of lw_tbl by 'hts w (by decide +kernel)'), the script of L ints xs at the cell b, what the Statement gives of the start (any of its parts by flat_of_before) -/
def lw_At (p : Program) (s : State) (m : MethodId) (meth : Method) (c : Code) (b L : Nat) (xs : Nat → Int32) : Prop :=
  p.tables.exec = Jvm.exec ∧ c.code = code ∧ meth.sig.returnType = ret ∧ c.maxLocals = 7 ∧ s.vm.findClass R_law = some m.cls ∧ (∀ w ∈ lw_tbl, w.before #[Value.ref b] s = true) ∧ va_X b L xs s s.heap ∧ b < s.heap.size ∧ meth.locks = false ∧ (Jvm.Cond.and given_1 narrow_1).before #[Value.ref b] s = true
/-! WHAT THE STATEMENT GIVES OF THE START -/
theorem st_prim {ty : FieldType} {args : Array Value} {s : State} (h : (Cond.arrayClass ty).before args s = true) : ∃ cA, ArrOfT s cA ty ∧ s.vm.findClass ("[" ++ ty.toString) = some cA := by
  obtain ⟨c, k, comp, h1, h2, h3⟩ := Cond.arrayClass_spec h
  exact ⟨c, fun n z => ⟨fun k h => (by cases h), k, h2, comp, h3⟩, h1⟩
theorem st_obj {C : String} {args : Array Value} {s : State} (h : (Cond.arrayOver (.object C)).before args s = true) : ∃ cA, ArrOfT s cA (.object C) ∧ va_RA s cA (.object C) := by
  obtain ⟨comp, c, k, h1, h2, h3, h4, h5⟩ := Cond.arrayOver_spec h
  exact ⟨c, fun n z => ⟨fun k h => (by cases h), k, h3, comp, h4⟩, k, comp, h3, h4, h1, h5⟩
theorem st_arrOf {t : Term} {ty : FieldType} {args : Array Value} {s : State} {a : Addr} {cell : Cell} (h : (Cond.arrayOf t ty).before args s = true) (ht : t.eval args s none [] s = some (.ref a)) (hc : s.heap[a]? = some cell) : cell.vm ≠ .unknown ∧ (∀ j, cell.vm ≠ .statics j) ∧ s.arrayAt? a = some cell := by
  simp only [Cond.before, Cond.holds, Cond.value] at h
  cases hk : s.knowsType ty with
  | false => simp [hk] at h
  | true =>
    cases hcl : s.vm.classes[cell.cls]? with
    | none => simp [hk, ht, hc, hcl] at h
    | some k =>
      simp only [hk, ht, hc, hcl, Bool.not_true, Bool.false_eq_true, if_false, Option.bind_eq_bind, Option.bind_some, Option.pure_def, beq_iff_eq, Option.some.injEq, Bool.and_eq_true, Bool.not_eq_true', decide_eq_true_eq] at h
      obtain ⟨⟨hst, hknown⟩, hk9⟩ := h
      obtain ⟨comp, hkind⟩ : ∃ comp, k.kind = .array comp ty := by
        cases hkind : k.kind <;> simp [hkind] at hk9
        exact ⟨_, by rw [hk9]⟩
      exact ⟨hknown, (fun j hj => by rw [hj] at hst; cases hst), by simp [State.arrayAt?, hc, hcl, hknown, hst, hkind]⟩
theorem st_len0 {t : Term} {args : Array Value} {s : State} {a : Addr} {cell : Cell} (ht : t.eval args s none [] s = some (.ref a)) (harr : s.arrayAt? a = some cell) (h : (Cond.eq (.length t) (.int 0)).before args s = true) : cell.slots.size = 0 := by
  by_cases p : cell.slots.size < 2 ^ 31
  · have hv : (Term.length t).eval args s none [] s = some (.int cell.slots.size.toInt32) := by simp [Term.eval, ht, harr, p]
    simp only [Cond.before, Cond.holds, Cond.value, hv] at h
    have e : cell.slots.size.toInt32 = 0 := by simpa [Term.eval] using h
    have e2 : nI cell.slots.size = nI 0 := e
    exact (nI_eq p (by decide)).mp e2
  · simp [Cond.before, Cond.holds, Cond.value, Term.eval, ht, harr, p] at h
theorem st_str {own tx : String} {k : Nat} {A : Array Value} {s : State} (h1 : (Cond.stringRef own k tx).before A s = true) (h2 : (Cond.exactly (.string own k) "java/lang/String").before A s = true) : ∃ a, vk_R own k tx a s := by
  obtain ⟨a, c, cell, kk, e1, -⟩ := Cond.exactly_spec h2
  exact ⟨a, vk_R.of (A := A) h1 e1⟩
set_option maxRecDepth 100000 in
set_option maxHeartbeats 8000000 in
/-- the class tables' numbers and the shared empty row, as the start has them -/
theorem st_env {p : Program} {s : State} {m : MethodId} {meth : Method} {c : Code} {b L : Nat} {xs : Nat → Int32} (C0 : lw_At p s m meth c b L xs) :
    ∃ G : pa_G, G.2.2.1 = s.heap.size ∧ pa_E0 G s.heap[G.2.2.2]? ∧ G.2.2.2 < G.2.2.1 ∧ (∀ w ∈ pa_wl, w.before #[Value.ref b] s = true) ∧ pa_U G s ∧ pa_Zs G s s.heap := by
  obtain ⟨hx, hb, hr, hml, hown, hts, hX, hbl, hlocks, hgv⟩ := id C0
  have hs := flat_of_before _ hgv
  have htw : ∀ w ∈ pa_wl, w.before #[Value.ref b] s = true := fun w hw => hts w (List.mem_filter.mp hw).1
  obtain ⟨c0, i0, k0⟩ := u_known (C := RJx4a65c) (T := TJx4a65c) (N := 3) (n := 3) htw in_J (hts (.instantiable RJx4a65c 3) (by decide +kernel))
  obtain ⟨c1, i1, k1⟩ := u_known (C := RX0) (T := TX0) (N := 14) (n := 14) htw in_X0 (hts (.instantiable RX0 14) (by decide +kernel))
  obtain ⟨c2, i2, k2⟩ := u_known (C := RX1) (T := TX1) (N := 3) (n := 3) htw in_X1 (hts (.instantiable RX1 3) (by decide +kernel))
  obtain ⟨c3, i3, k3⟩ := u_known (C := RX2) (T := TX2) (N := 13) (n := 13) htw in_X2 (hts (.instantiable RX2 13) (by decide +kernel))
  obtain ⟨c4, i4, k4⟩ := u_known (C := RX3) (T := TX3) (N := 10) (n := 10) htw in_X3 (hts (.instantiable RX3 10) (by decide +kernel))
  obtain ⟨c5, i5, k5⟩ := u_known (C := RX4) (T := TX4) (N := 36) (n := 36) htw in_X4 (hts (.instantiable RX4 36) (by decide +kernel))
  obtain ⟨dC, dI, hKc⟩ : ∃ (dC : Nat → ClassId) (dI : Nat → Nat → Nat), ∀ (k : Nat) (q : vw_C), vwCl[k]? = some q → u_Kn s q.1 q.2.1 q.2.2 (dC k) (dI k) := by
    refine ⟨fun k => [c0, c1, c2, c3, c4, c5].getD k c0, fun k => [i0, i1, i2, i3, i4, i5].getD k i0, ?_⟩
    intro k q hq
    match k, hq with
    | 0, hq => cases hq; exact k0
    | 1, hq => cases hq; exact k1
    | 2, hq => cases hq; exact k2
    | 3, hq => cases hq; exact k3
    | 4, hq => cases hq; exact k4
    | 5, hq => cases hq; exact k5
    | k + 6, hq => simp [vwCl] at hq
  obtain ⟨a0, o0, f0⟩ := st_prim (ty := .int) (hts (.arrayClass .int) (by decide +kernel))
  obtain ⟨a1, o1, f1⟩ := st_prim (ty := .boolean) (hts (.arrayClass .boolean) (by decide +kernel))
  obtain ⟨a2, o2, f2⟩ := st_obj (C := "ParleyRoom$Turn") (hts (.arrayOver (.object "ParleyRoom$Turn")) (by decide +kernel))
  obtain ⟨a3, o3, f3⟩ := st_obj (C := "ParleyRoom$Speaker") (hts (.arrayOver (.object "ParleyRoom$Speaker")) (by decide +kernel))
  obtain ⟨a4, o4, f4⟩ := st_obj (C := "java/lang/Object") (hts (.arrayOver (.object "java/lang/Object")) (by decide +kernel))
  obtain ⟨a5, o5, f5⟩ := st_prim (ty := .long) (hts (.arrayClass .long) (by decide +kernel))
  have hex : (Cond.exactly (.static "java/util/ArrayList" "DEFAULTCAPACITY_EMPTY_ELEMENTDATA" "[Ljava/lang/Object;") "[Ljava/lang/Object;").before #[Value.ref b] s = true := hs _ (by decide +kernel)
  have hao : (Cond.arrayOf (.static "java/util/ArrayList" "DEFAULTCAPACITY_EMPTY_ELEMENTDATA" "[Ljava/lang/Object;") (.object "java/lang/Object")).before #[Value.ref b] s = true := hs _ (by decide +kernel)
  have hl0 : (Cond.eq (.length (.static "java/util/ArrayList" "DEFAULTCAPACITY_EMPTY_ELEMENTDATA" "[Ljava/lang/Object;")) (.int 0)).before #[Value.ref b] s = true := hs _ (by decide +kernel)
  obtain ⟨ea, cc, cell, kk, e1, e2, e3, -, -, e5, -⟩ := Cond.exactly_spec hex
  obtain ⟨g1, g2, g3⟩ := st_arrOf hao e1 e3
  have g4 := st_len0 e1 g3 hl0
  have elt : ea < s.heap.size := (Array.getElem?_eq_some_iff.mp e3).1
  have ecc : cc = a4 := Option.some.inj (e2.symm.trans (va_nmO (nm := "[Ljava/lang/Object;") f4 (by decide)))
  subst ecc
  have hA : ∀ a : Nat, a < s.heap.size → ¬ s.heap.size ≤ a := fun a h => Nat.not_le.mpr h
  refine ⟨((dC, dI), (fun k => [a0, a1, a2, a3, cc, a5].getD k a0, (s.heap.size, ea))), rfl, ⟨cell, e3, e5, g4, g1, g2⟩, elt, htw, ⟨⟨hKc, ?_⟩, ?_, ?_, ?_⟩, ?_, ?_, ?_⟩
  · intro k q hq
    match k, hq with
    | 0, hq => cases hq; exact ⟨o0, f0⟩
    | 1, hq => cases hq; exact ⟨o1, f1⟩
    | 2, hq => cases hq; exact ⟨o2, f2⟩
    | 3, hq => cases hq; exact ⟨o3, f3⟩
    | 4, hq => cases hq; exact ⟨o4, f4⟩
    | 5, hq => cases hq; exact ⟨o5, f5⟩
    | k + 6, hq => simp [pa_tys] at hq
  · exact va_any rfl (hts (.methodLinkNest RX2 55 yX3_isIn RX3) (by decide +kernel))
  · exact va_any rfl (hts (.methodLinkNest RX2 65 yX3_isAtom RX3) (by decide +kernel))
  · refine ⟨va_Mi.of (hs (.isRef (.mirror "[Ljava/lang/Object;")) (by decide +kernel)), ⟨va_Dc.of (hts (.declares ⟨"java/lang/Object", "getClass", "()Ljava/lang/Class;"⟩) (by decide +kernel)), ?_⟩, ?_, ?_, ?_, ?_⟩
    · intro y hy
      simp only [pa_decs, List.mem_cons, List.not_mem_nil, or_false] at hy
      rcases hy with rfl | rfl | rfl
      · exact pa_Dy.of (hts (.declares ⟨"java/lang/RuntimeException", "<init>", "(Ljava/lang/String;)V"⟩) (by decide +kernel))
      · exact pa_Dy.of (hts (.declares ⟨"java/lang/Exception", "<init>", "(Ljava/lang/String;)V"⟩) (by decide +kernel))
      · exact pa_Dy.of (hts (.declares ⟨"java/lang/Throwable", "<init>", "(Ljava/lang/String;)V"⟩) (by decide +kernel))
    · intro q hq
      simp only [pa_strs, List.mem_cons, List.not_mem_nil, or_false] at hq
      rcases hq with rfl | rfl | rfl | rfl | rfl | rfl | rfl | rfl | rfl | rfl | rfl
      · exact st_str (own := RX3) (k := 157) (tx := "no such turn") (hts (.stringRef RX3 157 "no such turn") (by decide +kernel)) (hs (.exactly (.string RX3 157) "java/lang/String") (by decide +kernel))
      · exact st_str (own := RX3) (k := 185) (tx := "what is 0 to 8") (hts (.stringRef RX3 185 "what is 0 to 8") (by decide +kernel)) (hs (.exactly (.string RX3 185) "java/lang/String") (by decide +kernel))
      · exact st_str (own := RX3) (k := 222) (tx := "no such question") (hts (.stringRef RX3 222 "no such question") (by decide +kernel)) (hs (.exactly (.string RX3 222) "java/lang/String") (by decide +kernel))
      · exact st_str (own := RX3) (k := 227) (tx := "what is 0 to 3") (hts (.stringRef RX3 227 "what is 0 to 3") (by decide +kernel)) (hs (.exactly (.string RX3 227) "java/lang/String") (by decide +kernel))
      · exact st_str (own := RX3) (k := 241) (tx := "no such speaker") (hts (.stringRef RX3 241 "no such speaker") (by decide +kernel)) (hs (.exactly (.string RX3 241) "java/lang/String") (by decide +kernel))
      · exact st_str (own := RX3) (k := 247) (tx := "no such atom") (hts (.stringRef RX3 247 "no such atom") (by decide +kernel)) (hs (.exactly (.string RX3 247) "java/lang/String") (by decide +kernel))
      · exact st_str (own := RX3) (k := 249) (tx := "no such good") (hts (.stringRef RX3 249 "no such good") (by decide +kernel)) (hs (.exactly (.string RX3 249) "java/lang/String") (by decide +kernel))
      · exact st_str (own := RX3) (k := 254) (tx := "an argument is out of its range") (hts (.stringRef RX3 254 "an argument is out of its range") (by decide +kernel)) (hs (.exactly (.string RX3 254) "java/lang/String") (by decide +kernel))
      · exact st_str (own := RX3) (k := 266) (tx := "an argument is not as told of the act") (hts (.stringRef RX3 266 "an argument is not as told of the act") (by decide +kernel)) (hs (.exactly (.string RX3 266) "java/lang/String") (by decide +kernel))
      · exact st_str (own := RX3) (k := 55) (tx := "it speaks a language that it does not know") (hts (.stringRef RX3 55 "it speaks a language that it does not know") (by decide +kernel)) (hs (.exactly (.string RX3 55) "java/lang/String") (by decide +kernel))
      · exact st_str (own := RX3) (k := 98) (tx := "this turn can not be said now") (hts (.stringRef RX3 98 "this turn can not be said now") (by decide +kernel)) (hs (.exactly (.string RX3 98) "java/lang/String") (by decide +kernel))
    · intro q hq
      simp only [pa_cas, List.mem_cons, List.not_mem_nil, or_false] at hq
      rcases hq with rfl | rfl | rfl | rfl | rfl
      · exact va_any rfl (hts (.castable "ParleyRoom$Turn" "java/lang/Object") (by decide +kernel))
      · exact va_any rfl (hts (.castable "ParleyRoom$Step" "java/lang/Object") (by decide +kernel))
      · exact va_any rfl (hts (.castable "java/lang/IndexOutOfBoundsException" "java/lang/IndexOutOfBoundsException") (by decide +kernel))
      · exact va_any rfl (hts (.castable "java/lang/IllegalArgumentException" "java/lang/IllegalArgumentException") (by decide +kernel))
      · exact va_any rfl (hts (.castable "java/lang/IllegalStateException" "java/lang/IllegalStateException") (by decide +kernel))
    · intro q hq
      simp only [pa_ncs, List.mem_cons, List.not_mem_nil, or_false] at hq
      rcases hq with rfl | rfl | rfl
      · exact va_Nc.of (hs (.not (.castable "java/lang/IllegalArgumentException" "java/lang/IndexOutOfBoundsException")) (by decide +kernel))
      · exact va_Nc.of (hs (.not (.castable "java/lang/IllegalStateException" "java/lang/IndexOutOfBoundsException")) (by decide +kernel))
      · exact va_Nc.of (hs (.not (.castable "java/lang/IllegalStateException" "java/lang/IllegalArgumentException")) (by decide +kernel))
    · intro q hq
      simp only [pa_aos, List.mem_cons, List.not_mem_nil, or_false] at hq
      rcases hq with rfl | rfl | rfl
      · exact va_AO.of (hts (.arrayOver (.object "java/lang/Object")) (by decide +kernel))
      · exact va_AO.of (hts (.arrayOver (.object "ParleyRoom$Turn")) (by decide +kernel))
      · exact va_AO.of (hts (.arrayOver (.object "ParleyRoom$Speaker")) (by decide +kernel))
  · exact va_Zof (hts (.laysStatic "java/util/ArrayList" "DEFAULTCAPACITY_EMPTY_ELEMENTDATA" "[Ljava/lang/Object;") (by decide +kernel)) (hts (.initialized "java/util/ArrayList") (by decide +kernel)) e1 hA
  · exact vx_Zqof (hts (.laysStatic Bundle.tN "UNASSIGNED_STACK" Bundle.steD) (by decide +kernel)) (hts (.initialized Bundle.tN) (by decide +kernel)) (hs (.isRef (.static Bundle.tN "UNASSIGNED_STACK" Bundle.steD)) (by decide +kernel)) hA
  · exact vx_Zqof (hts (.laysStatic Bundle.tN "SUPPRESSED_SENTINEL" Bundle.listD) (by decide +kernel)) (hts (.initialized Bundle.tN) (by decide +kernel)) (hs (.isRef (.static Bundle.tN "SUPPRESSED_SENTINEL" Bundle.listD)) (by decide +kernel)) hA
theorem st_notrace {l : Launch} (h : l.flags = flags0) : l.stackTraces = false := by
  unfold Launch.stackTraces
  rw [h]
  decide +kernel
