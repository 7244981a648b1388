/-! THE WALK over the abstract heap: a method's contract, and a row an instruction. -/
def pa_wl : List Cond := lw_tbl.filter goodWord
theorem pa_wi {w : Cond} (h : w ∈ lw_tbl) (g : goodWord w = true) : w ∈ pa_wl := List.mem_filter.mpr ⟨h, g⟩
theorem pa_wg {w : Cond} (h : w ∈ pa_wl) : goodWord w = true := (List.mem_filter.mp h).2
/-- a method: its name, its code, its locals, what it answers -/
abbrev pa_Y : Type := MethodName × (ByteArray × (Nat × Option FieldType))
def pa_ws (y : pa_Y) : List Cond := Cond.code y.1 y.2.1 y.2.2.1 y.2.2.2 :: pa_wl
def pa_rm (d mc ms : Nat) : Room := { frames := d, cells := mc, slots := ms, locals := 30 * d }
/-- the texts that the class throws with, by their entries -/
def pa_strs : List (Nat × String) := [(157, "no such turn"), (185, "what is 0 to 8"), (222, "no such question"), (227, "what is 0 to 3"), (241, "no such speaker"), (247, "no such atom"), (249, "no such good"), (254, "an argument is out of its range"), (266, "an argument is not as told of the act"), (55, "it speaks a language that it does not know"), (98, "this turn can not be said now")]
/-- classes that may be taken for others, and that may not -/
def pa_cas : List (String × String) := [("ParleyRoom$Turn", "java/lang/Object"), ("ParleyRoom$Step", "java/lang/Object"), ("java/lang/IndexOutOfBoundsException", "java/lang/IndexOutOfBoundsException"), ("java/lang/IllegalArgumentException", "java/lang/IllegalArgumentException"), ("java/lang/IllegalStateException", "java/lang/IllegalStateException")]
def pa_ncs : List (String × String) := [("java/lang/IllegalArgumentException", "java/lang/IndexOutOfBoundsException"), ("java/lang/IllegalStateException", "java/lang/IndexOutOfBoundsException"), ("java/lang/IllegalStateException", "java/lang/IllegalArgumentException")]
def pa_aos : List String := ["java/lang/Object", "ParleyRoom$Turn", "ParleyRoom$Speaker"]
/-- constructors that a throw goes through -/
def pa_decs : List MethodName := [⟨"java/lang/RuntimeException", "<init>", "(Ljava/lang/String;)V"⟩, ⟨"java/lang/Exception", "<init>", "(Ljava/lang/String;)V"⟩, ⟨"java/lang/Throwable", "<init>", "(Ljava/lang/String;)V"⟩]
def pa_Dy (y : MethodName) (U : State) : Prop := (Cond.declares y).before #[] U = true
theorem pa_Dy.use {y : MethodName} {A : Array Value} {U : State} (h : pa_Dy y U) : (Cond.declares y).before A U = true := va_any rfl h
theorem pa_Dy.of {y : MethodName} {A : Array Value} {U : State} (h : (Cond.declares y).before A U = true) : pa_Dy y U := va_any rfl h
theorem pa_Dy.moved {y : MethodName} {u U : State} (hvm : u.vm.Alike U.vm) (h : pa_Dy y u) : pa_Dy y U := by
  have h1 : (Cond.declares y).before #[] (u.setVm U.vm) = true := by
    rw [Cond.declares_setVm hvm]
    exact h
  have e := Cond.onTables_vm (A := #[]) (A' := #[]) (U := u) (U' := U) U.vm (Cond.declares y) rfl
  have hU : U.setVm U.vm = U := rfl
  rw [hU] at e
  unfold pa_Dy
  rw [← e]
  exact h1
/-- what the tables say beside the good words: the lists' class object, the texts, casts, arrays of classes -/
def pa_U2 (U : State) : Prop := (∃ mi, va_Mi "[Ljava/lang/Object;" mi U) ∧ (va_Dc U ∧ ∀ y ∈ pa_decs, pa_Dy y U) ∧ (∀ q ∈ pa_strs, ∃ a, vk_R RX3 q.1 q.2 a U) ∧ (∀ q ∈ pa_cas, va_Nw (.castable q.1 q.2) U) ∧ (∀ q ∈ pa_ncs, va_Nc q.1 q.2 U) ∧ ∀ q ∈ pa_aos, va_AO q U
theorem pa_U2.warm {s U : State} (h : pa_U2 s) (hW : s.WarmedH U.vm) : pa_U2 U := by
  obtain ⟨⟨mi, h4⟩, h5, h6, h7, h8, h9⟩ := h
  refine ⟨⟨mi, va_Mi.moved hW.alike h4⟩, ⟨va_Dc.moved hW.alike h5.1, fun y hy => pa_Dy.moved hW.alike (h5.2 y hy)⟩, fun q hq => ?_, fun q hq => va_Nw.warmC hW (h7 q hq), fun q hq => va_Nc.moved hW.alike (h8 q hq), fun q hq => va_AO.moved hW.alike (h9 q hq)⟩
  obtain ⟨a, z⟩ := h6 q hq
  exact ⟨a, vk_R.warm hW z⟩
theorem pa_U2.same {u U : State} (hv : U.vm = u.vm) (h : pa_U2 u) : pa_U2 U := by
  obtain ⟨⟨mi, h4⟩, h5, h6, h7, h8, h9⟩ := h
  have ha : u.vm.Alike U.vm := hv ▸ Vm.Alike.refl u.vm
  refine ⟨⟨mi, va_Mi.moved ha h4⟩, ⟨va_Dc.moved ha h5.1, fun y hy => pa_Dy.moved ha (h5.2 y hy)⟩, fun q hq => ?_, fun q hq => va_Nw.same (u := u) rfl hv.symm (h7 q hq), fun q hq => va_Nc.moved ha (h8 q hq), fun q hq => va_AO.moved ha (h9 q hq)⟩
  obtain ⟨a, z⟩ := h6 q hq
  exact ⟨a, vk_R.same hv z⟩
/-- what is the same in every call: the tables, the nest mates' links -/
def pa_U (G : pa_G) (U : State) : Prop := va_K G.1 vwCl (pa_tys G) U ∧ va_Nw (.methodLinkNest RX2 55 yX3_isIn RX3) U ∧ va_Nw (.methodLinkNest RX2 65 yX3_isAtom RX3) U ∧ pa_U2 U
theorem pa_U.warm {G : pa_G} {s U : State} (h : pa_U G s) (hW : s.WarmedH U.vm) : pa_U G U := ⟨va_K.moved hW.alike h.1, va_Nw.warmM hW h.2.1, va_Nw.warmM hW h.2.2.1, h.2.2.2.warm hW⟩
/-- the JDK's statics: the lists' empty row, what a throwable is made with -/
def pa_Zs (G : pa_G) (U : State) (H : Heap) : Prop := va_Z "java/util/ArrayList" "DEFAULTCAPACITY_EMPTY_ELEMENTDATA" "[Ljava/lang/Object;" (.ref G.2.2.2) (pa_A G) U H ∧ vx_Zq Bundle.tN "UNASSIGNED_STACK" Bundle.steD (pa_A G) U H ∧ vx_Zq Bundle.tN "SUPPRESSED_SENTINEL" Bundle.listD (pa_A G) U H
theorem pa_Zs.moved {G : pa_G} {u U : State} {H : Heap} (hvm : u.vm.Alike U.vm) (h : pa_Zs G u H) : pa_Zs G U H := ⟨va_Z.moved hvm h.1, vx_Zq.moved hvm h.2.1, vx_Zq.moved hvm h.2.2⟩
theorem pa_Zs.at {G : pa_G} {s U : State} {H : Heap} {locs : List Loc} (h : pa_Zs G s s.heap) (q : va_S (pa_A G) s.heap H locs) (hU : U.heap = H) (hW : s.WarmedH U.vm) : pa_Zs G U U.heap := by
  rw [hU]
  exact pa_Zs.moved hW.alike ⟨va_Z.kept h.1 q.2.1, vx_Zq.kept h.2.1 q.2.1, vx_Zq.kept h.2.2 q.2.1⟩
def pa_P (G : pa_G) (av : List pa_V) (h : pa_H) (ad : pa_Nm → Nat) : Array Value → State → Prop := fun v U => v = (av.map (pa_tr ad)).toArray ∧ pa_R G ad h U.heap ∧ pa_U G U ∧ pa_Zs G U U.heap
theorem pa_P_bl {G : pa_G} {av : List pa_V} {h : pa_H} {ad : pa_Nm → Nat} : FrameBlind (pa_P G av h ad) := by
  intro a U g mk q
  obtain ⟨q1, q2, ⟨h1, h2, h3, h4⟩, q4⟩ := q
  exact ⟨q1, q2, ⟨va_K.moved (u := U) (U := U.calling g mk a) (Vm.Alike.refl U.vm) h1, va_Nw.same (u := U) rfl rfl h2, va_Nw.same (u := U) rfl rfl h3, pa_U2.same (u := U) rfl h4⟩, pa_Zs.moved (u := U) (U := U.calling g mk a) (Vm.Alike.refl U.vm) q4⟩
/-- the names of the start are in use still, and mean the same cells; al = false: there are no others -/
def pa_an (al : Bool) (h0 : pa_H) (ad0 : pa_Nm → Nat) (h : pa_H) (ad : pa_Nm → Nat) : Prop := pa_ag h0 ad0 ad ∧ (al = false → ad = ad0) ∧ ∀ n, pa_lv h0.2.2.1 n → pa_lv h.2.2.1 n
theorem pa_an_rf (al : Bool) (h : pa_H) (ad : pa_Nm → Nat) : pa_an al h ad h ad := ⟨fun _ _ _ => rfl, fun _ => rfl, fun _ z => z⟩
theorem pa_an_tr {al al' : Bool} {h0 h h' : pa_H} {ad0 ad ad' : pa_Nm → Nat} (q : pa_an al h0 ad0 h ad) (r : pa_an al' h ad h' ad') (hal : al = false → al' = false) : pa_an al h0 ad0 h' ad' :=
  ⟨fun n h8 hn => (r.1 n h8 (q.2.2 n hn)).trans (q.1 n h8 hn), fun z => (r.2.1 (hal z)).trans (q.2.1 z), fun n hn => r.2.2 n (q.2.2 n hn)⟩
/-- the end: al = true: new names may have come; al = false: the names are the same -/
def pa_Q (G : pa_G) (al : Bool) (h : pa_H) (ad : pa_Nm → Nat) (post : Option pa_V → pa_H → Prop) : Array Value → State → Outcome → State → Prop := fun _ st oc t =>
  (∃ (r : Option pa_V) (h' : pa_H) (ad' : pa_Nm → Nat), oc = .returned (r.map (pa_tr ad')) ∧ post r h' ∧ pa_R G ad' h' t.heap ∧ pa_an al h ad h' ad') ∧ va_F (pa_A G) st t
/-- A CONTRACT: with these arguments, over this heap, the method returns, and 'post answer heap' -/
def pa_M (G : pa_G) (l : Launch) (y : pa_Y) (d : Nat) (al : Bool) (av : List pa_V) (h : pa_H) (mc ms : Nat) (post : Option pa_V → pa_H → Prop) : Prop :=
  ∀ ad : pa_Nm → Nat, Met l y.1 (pa_ws y) (pa_rm d mc ms) (pa_P G av h ad) (pa_Q G al h ad post) mc ms (pa_A G)
/-- .. or throws E, the heap as it was -/
def pa_XC (G : pa_G) (h : pa_H) (ad : pa_Nm → Nat) (px : String → Prop) : String → State → State → Prop := fun E st t =>
  px E ∧ (∃ ad' : pa_Nm → Nat, pa_R G ad' h t.heap ∧ pa_an true h ad h ad') ∧ va_F (pa_A G) st t
def pa_MX (G : pa_G) (l : Launch) (y : pa_Y) (d : Nat) (al : Bool) (av : List pa_V) (h : pa_H) (mc ms : Nat) (post : Option pa_V → pa_H → Prop) (px : String → Prop) : Prop :=
  ∀ ad : pa_Nm → Nat, vx_Met l y.1 (pa_ws y) (pa_rm d mc ms) (pa_P G av h ad) (pa_Q G al h ad post) (pa_XC G h ad px) mc ms (pa_A G)
/-- the walk's own things: the machine, the frame, the aim; the start's heap and naming -/
abbrev pa_X : Type := Program × Launch × Env × Room × State × MethodId × Array Value × List Frame × Method × Code × (State → Prop) × pa_H × (pa_Nm → Nat) × Bool
/-- at pc, over the abstract heap h, with these locals and this stack, the walk comes to its aim -/
def pa_w (G : pa_G) (x : pa_X) (nL : Nat) (h : pa_H) (a b pc : Nat) (lo : List (Option pa_V)) (st : List pa_V) : Prop :=
  match x with
  | (p, l, e, R, s, m, args, below, meth, c, Q, h0, ad0, al) => ∀ (ad : pa_Nm → Nat) (H : Heap) (locs : List Loc) (ls : Array Slot), pa_R G ad h H → pa_an al h0 ad0 h ad → va_S (pa_A G) s.heap H locs → pa_Lo ad ls nL lo →
      W p l e R s m args below meth c H locs a b Q (F0 m pc ls (st.map (pa_tr ad)))
/-- what holds during a walk of the code cc of the class own, in a room of d frames -/
def pa_C (G : pa_G) (x : pa_X) (cc : ByteArray) (nL : Nat) (own : String) (d mc ms : Nat) : Prop :=
  match x with
  | (p, _, _, R, s, m, args, _, meth, c, _, _, _, _) => p.tables.exec = Jvm.exec ∧ c.code = cc ∧ c.maxLocals = nL ∧ s.vm.findClass own = some m.cls ∧ (∀ w ∈ pa_wl, w.before args s = true) ∧ pa_U G s ∧ (pa_rm d mc ms).frames ≤ R.frames ∧ (pa_rm d mc ms).locals ≤ R.locals ∧ mc ≤ R.cells ∧ ms ≤ R.slots ∧ meth.locks = false ∧ pa_Zs G s s.heap
section WALK
variable {G : pa_G} {x : pa_X} {cc : ByteArray} {nL : Nat} {own : String} {d mc ms : Nat} {h : pa_H} {a b pc : Nat} {lo : List (Option pa_V)} {st : List pa_V}
theorem pr_iconst (C : pa_C G x cc nL own d mc ms) {n : Int} {v : Int32} (dg : decode cc pc = .ok (.iconst n, 1)) (hv : Int32.ofInt n = v) (k : pa_w G x nL h a b (pc + 1) lo (pv_i v :: st)) : pa_w G x nL h a b pc lo st := by
  obtain ⟨p, l, e, R, s, m, args, below, meth, c, Q, h0, ad0, al⟩ := x
  exact fun ad H locs ls q1 q2 q3 q4 => lv_iconst C.1 C.2.1 dg hv (k ad H locs ls q1 q2 q3 q4)
theorem pr_bipush (C : pa_C G x cc nL own d mc ms) {n : Int} {v : Int32} (dg : decode cc pc = .ok (.bipush n, 2)) (hv : (Int8.ofInt n).toInt32 = v) (k : pa_w G x nL h a b (pc + 2) lo (pv_i v :: st)) : pa_w G x nL h a b pc lo st := by
  obtain ⟨p, l, e, R, s, m, args, below, meth, c, Q, h0, ad0, al⟩ := x
  exact fun ad H locs ls q1 q2 q3 q4 => lv_bipush C.1 C.2.1 dg hv (k ad H locs ls q1 q2 q3 q4)
theorem pr_sipush (C : pa_C G x cc nL own d mc ms) {n : Int} {v : Int32} (dg : decode cc pc = .ok (.sipush n, 3)) (hv : (Int16.ofInt n).toInt32 = v) (k : pa_w G x nL h a b (pc + 3) lo (pv_i v :: st)) : pa_w G x nL h a b pc lo st := by
  obtain ⟨p, l, e, R, s, m, args, below, meth, c, Q, h0, ad0, al⟩ := x
  exact fun ad H locs ls q1 q2 q3 q4 => lv_sipush C.1 C.2.1 dg hv (k ad H locs ls q1 q2 q3 q4)
theorem pr_iload_n (C : pa_C G x cc nL own d mc ms) {k : Fin 4} {v : Int32} (dg : decode cc pc = .ok (.iload_n k, 1)) (hl : lo[(k : Nat)]? = some (some (pv_i v))) (kk : pa_w G x nL h a b (pc + 1) lo (pv_i v :: st)) : pa_w G x nL h a b pc lo st := by
  obtain ⟨p, l, e, R, s, m, args, below, meth, c, Q, h0, ad0, al⟩ := x
  exact fun ad H locs ls q1 q2 q3 q4 => lv_iload_n C.1 C.2.1 dg rfl (q4.2.2 _ _ hl).1 (kk ad H locs ls q1 q2 q3 q4)
theorem pr_iload (C : pa_C G x cc nL own d mc ms) {k : Nat} {v : Int32} (dg : decode cc pc = .ok (.iload k, 2)) (hl : lo[k]? = some (some (pv_i v))) (kk : pa_w G x nL h a b (pc + 2) lo (pv_i v :: st)) : pa_w G x nL h a b pc lo st := by
  obtain ⟨p, l, e, R, s, m, args, below, meth, c, Q, h0, ad0, al⟩ := x
  exact fun ad H locs ls q1 q2 q3 q4 => lv_iload C.1 C.2.1 dg (q4.2.2 _ _ hl).1 (kk ad H locs ls q1 q2 q3 q4)
theorem pr_aload_n0 {p : Program} {l : Launch} {e : Env} {R : Room} {s : State} {m : MethodId} {args : Array Value} {below : List Frame} {meth : Method} {c : Code} {H : Heap} {locs : List Loc} {cells slots : Nat} {Q : State → Prop} {ls : Array Slot} {rest : List Value} (hexec : p.tables.exec = Jvm.exec) (hb : c.code = cc) {k : Fin 4} (hdg : decode cc pc = .ok (.aload_n k, 1)) (hl : ls[(k : Nat)]? = some (.val .null))
    (kk : W p l e R s m args below meth c H locs cells slots Q (F0 m (pc + 1) ls (.null :: rest))) : W p l e R s m args below meth c H locs cells slots Q (F0 m pc ls rest) := by
  intro T hT X
  obtain ⟨t, a, b⟩ := kk T hT X
  refine ⟨t, ?_, b⟩
  jvm_step X.here [X.here.top, hexec, hb, hdg, hl, Value.isRef]
  exact a
theorem pr_aload0 {p : Program} {l : Launch} {e : Env} {R : Room} {s : State} {m : MethodId} {args : Array Value} {below : List Frame} {meth : Method} {c : Code} {H : Heap} {locs : List Loc} {cells slots : Nat} {Q : State → Prop} {ls : Array Slot} {rest : List Value} (hexec : p.tables.exec = Jvm.exec) (hb : c.code = cc) {k : Nat} (hdg : decode cc pc = .ok (.aload k, 2)) (hl : ls[k]? = some (.val .null))
    (kk : W p l e R s m args below meth c H locs cells slots Q (F0 m (pc + 2) ls (.null :: rest))) : W p l e R s m args below meth c H locs cells slots Q (F0 m pc ls rest) := by
  intro T hT X
  obtain ⟨t, a, b⟩ := kk T hT X
  refine ⟨t, ?_, b⟩
  jvm_step X.here [X.here.top, hexec, hb, hdg, hl, Value.isRef]
  exact a
theorem pr_aload_n (C : pa_C G x cc nL own d mc ms) {k : Fin 4} {v : Option pa_Nm} (dg : decode cc pc = .ok (.aload_n k, 1)) (hl : lo[(k : Nat)]? = some (some (pv_r v))) (kk : pa_w G x nL h a b (pc + 1) lo (pv_r v :: st)) : pa_w G x nL h a b pc lo st := by
  obtain ⟨p, l, e, R, s, m, args, below, meth, c, Q, h0, ad0, al⟩ := x
  intro ad H locs ls q1 q2 q3 q4
  have h1 := (q4.2.2 _ _ hl).1
  have h2 := kk ad H locs ls q1 q2 q3 q4
  cases v with
  | none => exact pr_aload_n0 C.1 C.2.1 dg h1 h2
  | some n => exact lv_aload_n C.1 C.2.1 dg rfl h1 h2
theorem pr_aload (C : pa_C G x cc nL own d mc ms) {k : Nat} {v : Option pa_Nm} (dg : decode cc pc = .ok (.aload k, 2)) (hl : lo[k]? = some (some (pv_r v))) (kk : pa_w G x nL h a b (pc + 2) lo (pv_r v :: st)) : pa_w G x nL h a b pc lo st := by
  obtain ⟨p, l, e, R, s, m, args, below, meth, c, Q, h0, ad0, al⟩ := x
  intro ad H locs ls q1 q2 q3 q4
  have h1 := (q4.2.2 _ _ hl).1
  have h2 := kk ad H locs ls q1 q2 q3 q4
  cases v with
  | none => exact pr_aload0 C.1 C.2.1 dg h1 h2
  | some n => exact lv_aload C.1 C.2.1 dg h1 h2
theorem pr_istore_n (C : pa_C G x cc nL own d mc ms) {k : Fin 4} {v : Int32} (dg : decode cc pc = .ok (.istore_n k, 1)) (hn : (k : Nat) < nL) (kk : pa_w G x nL h a b (pc + 1) (lo.set k (some (pv_i v))) st) : pa_w G x nL h a b pc lo (pv_i v :: st) := by
  obtain ⟨p, l, e, R, s, m, args, below, meth, c, Q, h0, ad0, al⟩ := x
  intro ad H locs ls q1 q2 q3 q4
  obtain ⟨ls', e', h'⟩ := pa_Lo_set (v := pv_i v) q4 hn trivial
  intro T hT X
  obtain ⟨t, a1, b1⟩ := kk ad H locs ls' q1 q2 q3 h' T hT X
  refine ⟨t, ?_, b1⟩
  have e2 : storeLocals ls k (.int v) = some ls' := e'
  have hexec := C.1
  have hb := C.2.1
  show Steps p.tables e below (T.setTop (F0 m pc ls (.int v :: st.map (pa_tr ad)))) t
  jvm_step X.here [X.here.top, ↓top_set X.here.top, hexec, hb, dg, e2]
  exact a1
theorem pr_istore (C : pa_C G x cc nL own d mc ms) {k : Nat} {v : Int32} (dg : decode cc pc = .ok (.istore k, 2)) (hn : k < nL) (kk : pa_w G x nL h a b (pc + 2) (lo.set k (some (pv_i v))) st) : pa_w G x nL h a b pc lo (pv_i v :: st) := by
  obtain ⟨p, l, e, R, s, m, args, below, meth, c, Q, h0, ad0, al⟩ := x
  intro ad H locs ls q1 q2 q3 q4
  obtain ⟨ls', e', h'⟩ := pa_Lo_set (v := pv_i v) q4 hn trivial
  intro T hT X
  obtain ⟨t, a1, b1⟩ := kk ad H locs ls' q1 q2 q3 h' T hT X
  refine ⟨t, ?_, b1⟩
  have e2 : storeLocals ls k (.int v) = some ls' := e'
  have hexec := C.1
  have hb := C.2.1
  show Steps p.tables e below (T.setTop (F0 m pc ls (.int v :: st.map (pa_tr ad)))) t
  jvm_step X.here [X.here.top, ↓top_set X.here.top, hexec, hb, dg, e2]
  exact a1
theorem pr_astore_n (C : pa_C G x cc nL own d mc ms) {k : Fin 4} {v : Option pa_Nm} (dg : decode cc pc = .ok (.astore_n k, 1)) (hn : (k : Nat) < nL) (kk : pa_w G x nL h a b (pc + 1) (lo.set k (some (pv_r v))) st) : pa_w G x nL h a b pc lo (pv_r v :: st) := by
  obtain ⟨p, l, e, R, s, m, args, below, meth, c, Q, h0, ad0, al⟩ := x
  intro ad H locs ls q1 q2 q3 q4
  obtain ⟨ls', e', h'⟩ := pa_Lo_set (v := pv_r v) q4 hn trivial
  intro T hT X
  obtain ⟨t, a1, b1⟩ := kk ad H locs ls' q1 q2 q3 h' T hT X
  refine ⟨t, ?_, b1⟩
  have hexec := C.1
  have hb := C.2.1
  cases v with
  | none =>
    have e2 : storeLocals ls k .null = some ls' := e'
    show Steps p.tables e below (T.setTop (F0 m pc ls (.null :: st.map (pa_tr ad)))) t
    jvm_step X.here [X.here.top, ↓top_set X.here.top, hexec, hb, dg, e2, Value.isRef]
    exact a1
  | some n =>
    have e2 : storeLocals ls k (.ref (ad n)) = some ls' := e'
    show Steps p.tables e below (T.setTop (F0 m pc ls (.ref (ad n) :: st.map (pa_tr ad)))) t
    jvm_step X.here [X.here.top, ↓top_set X.here.top, hexec, hb, dg, e2, Value.isRef]
    exact a1
theorem pr_astore (C : pa_C G x cc nL own d mc ms) {k : Nat} {v : Option pa_Nm} (dg : decode cc pc = .ok (.astore k, 2)) (hn : k < nL) (kk : pa_w G x nL h a b (pc + 2) (lo.set k (some (pv_r v))) st) : pa_w G x nL h a b pc lo (pv_r v :: st) := by
  obtain ⟨p, l, e, R, s, m, args, below, meth, c, Q, h0, ad0, al⟩ := x
  intro ad H locs ls q1 q2 q3 q4
  obtain ⟨ls', e', h'⟩ := pa_Lo_set (v := pv_r v) q4 hn trivial
  intro T hT X
  obtain ⟨t, a1, b1⟩ := kk ad H locs ls' q1 q2 q3 h' T hT X
  refine ⟨t, ?_, b1⟩
  have hexec := C.1
  have hb := C.2.1
  cases v with
  | none =>
    have e2 : storeLocals ls k .null = some ls' := e'
    show Steps p.tables e below (T.setTop (F0 m pc ls (.null :: st.map (pa_tr ad)))) t
    jvm_step X.here [X.here.top, ↓top_set X.here.top, hexec, hb, dg, e2, Value.isRef]
    exact a1
  | some n =>
    have e2 : storeLocals ls k (.ref (ad n)) = some ls' := e'
    show Steps p.tables e below (T.setTop (F0 m pc ls (.ref (ad n) :: st.map (pa_tr ad)))) t
    jvm_step X.here [X.here.top, ↓top_set X.here.top, hexec, hb, dg, e2, Value.isRef]
    exact a1
theorem pr_iinc (C : pa_C G x cc nL own d mc ms) {k : Nat} {n : Int} {v w z : Int32} (dg : decode cc pc = .ok (.iinc k n, 3)) (hl : lo[k]? = some (some (pv_i v))) (hz : Int32.ofInt n = z) (hv : v + z = w) (hn : k < nL) (kk : pa_w G x nL h a b (pc + 3) (lo.set k (some (pv_i w))) st) : pa_w G x nL h a b pc lo st := by
  obtain ⟨p, l, e, R, s, m, args, below, meth, c, Q, h0, ad0, al⟩ := x
  intro ad H locs ls q1 q2 q3 q4
  obtain ⟨ls', e', h'⟩ := pa_Lo_set (v := pv_i w) q4 hn trivial
  intro T hT X
  obtain ⟨t, a1, b1⟩ := kk ad H locs ls' q1 q2 q3 h' T hT X
  refine ⟨t, ?_, b1⟩
  have hg : ls[k]? = some (.val (.int v)) := (q4.2.2 _ _ hl).1
  subst hz
  subst hv
  have e2 : storeLocals ls k (.int (v + Int32.ofInt n)) = some ls' := e'
  have hexec := C.1
  have hb := C.2.1
  jvm_step X.here [X.here.top, ↓top_set X.here.top, hexec, hb, dg, hg, e2]
  exact a1
theorem pr_iadd (C : pa_C G x cc nL own d mc ms) {u v : Int32} (dg : decode cc pc = .ok (.iadd, 1)) (k : pa_w G x nL h a b (pc + 1) lo (pv_i (u + v) :: st)) : pa_w G x nL h a b pc lo (pv_i v :: pv_i u :: st) := by
  obtain ⟨p, l, e, R, s, m, args, below, meth, c, Q, h0, ad0, al⟩ := x
  exact fun ad H locs ls q1 q2 q3 q4 => lv_iadd C.1 C.2.1 dg (k ad H locs ls q1 q2 q3 q4)
theorem pr_isub (C : pa_C G x cc nL own d mc ms) {u v : Int32} (dg : decode cc pc = .ok (.isub, 1)) (k : pa_w G x nL h a b (pc + 1) lo (pv_i (u - v) :: st)) : pa_w G x nL h a b pc lo (pv_i v :: pv_i u :: st) := by
  obtain ⟨p, l, e, R, s, m, args, below, meth, c, Q, h0, ad0, al⟩ := x
  exact fun ad H locs ls q1 q2 q3 q4 => lv_isub C.1 C.2.1 dg (k ad H locs ls q1 q2 q3 q4)
theorem pr_imul (C : pa_C G x cc nL own d mc ms) {u v : Int32} (dg : decode cc pc = .ok (.imul, 1)) (k : pa_w G x nL h a b (pc + 1) lo (pv_i (u * v) :: st)) : pa_w G x nL h a b pc lo (pv_i v :: pv_i u :: st) := by
  obtain ⟨p, l, e, R, s, m, args, below, meth, c, Q, h0, ad0, al⟩ := x
  exact fun ad H locs ls q1 q2 q3 q4 => lv_imul C.1 C.2.1 dg (k ad H locs ls q1 q2 q3 q4)
theorem pr_iand (C : pa_C G x cc nL own d mc ms) {u v : Int32} (dg : decode cc pc = .ok (.iand, 1)) (k : pa_w G x nL h a b (pc + 1) lo (pv_i (u &&& v) :: st)) : pa_w G x nL h a b pc lo (pv_i v :: pv_i u :: st) := by
  obtain ⟨p, l, e, R, s, m, args, below, meth, c, Q, h0, ad0, al⟩ := x
  exact fun ad H locs ls q1 q2 q3 q4 => lv_iand C.1 C.2.1 dg (k ad H locs ls q1 q2 q3 q4)
theorem pr_ior (C : pa_C G x cc nL own d mc ms) {u v : Int32} (dg : decode cc pc = .ok (.ior, 1)) (k : pa_w G x nL h a b (pc + 1) lo (pv_i (u ||| v) :: st)) : pa_w G x nL h a b pc lo (pv_i v :: pv_i u :: st) := by
  obtain ⟨p, l, e, R, s, m, args, below, meth, c, Q, h0, ad0, al⟩ := x
  exact fun ad H locs ls q1 q2 q3 q4 => lv_ior C.1 C.2.1 dg (k ad H locs ls q1 q2 q3 q4)
theorem pr_ixor (C : pa_C G x cc nL own d mc ms) {u v : Int32} (dg : decode cc pc = .ok (.ixor, 1)) (k : pa_w G x nL h a b (pc + 1) lo (pv_i (u ^^^ v) :: st)) : pa_w G x nL h a b pc lo (pv_i v :: pv_i u :: st) := by
  obtain ⟨p, l, e, R, s, m, args, below, meth, c, Q, h0, ad0, al⟩ := x
  exact fun ad H locs ls q1 q2 q3 q4 => lv_ixor C.1 C.2.1 dg (k ad H locs ls q1 q2 q3 q4)
theorem pr_ishl (C : pa_C G x cc nL own d mc ms) {u v : Int32} (dg : decode cc pc = .ok (.ishl, 1)) (k : pa_w G x nL h a b (pc + 1) lo (pv_i (u <<< (v &&& 31)) :: st)) : pa_w G x nL h a b pc lo (pv_i v :: pv_i u :: st) := by
  obtain ⟨p, l, e, R, s, m, args, below, meth, c, Q, h0, ad0, al⟩ := x
  exact fun ad H locs ls q1 q2 q3 q4 => lv_ishl C.1 C.2.1 dg (k ad H locs ls q1 q2 q3 q4)
theorem pr_ishr (C : pa_C G x cc nL own d mc ms) {u v : Int32} (dg : decode cc pc = .ok (.ishr, 1)) (k : pa_w G x nL h a b (pc + 1) lo (pv_i (u >>> (v &&& 31)) :: st)) : pa_w G x nL h a b pc lo (pv_i v :: pv_i u :: st) := by
  obtain ⟨p, l, e, R, s, m, args, below, meth, c, Q, h0, ad0, al⟩ := x
  exact fun ad H locs ls q1 q2 q3 q4 => lv_ishr C.1 C.2.1 dg (k ad H locs ls q1 q2 q3 q4)
theorem pr_idiv (C : pa_C G x cc nL own d mc ms) {u v : Int32} (dg : decode cc pc = .ok (.idiv, 1)) (hne : ¬ v = 0) (k : pa_w G x nL h a b (pc + 1) lo (pv_i (u / v) :: st)) : pa_w G x nL h a b pc lo (pv_i v :: pv_i u :: st) := by
  obtain ⟨p, l, e, R, s, m, args, below, meth, c, Q, h0, ad0, al⟩ := x
  exact fun ad H locs ls q1 q2 q3 q4 => lv_idiv C.1 C.2.1 dg hne (k ad H locs ls q1 q2 q3 q4)
theorem pr_irem (C : pa_C G x cc nL own d mc ms) {u v : Int32} (dg : decode cc pc = .ok (.irem, 1)) (hne : ¬ v = 0) (k : pa_w G x nL h a b (pc + 1) lo (pv_i (u - u / v * v) :: st)) : pa_w G x nL h a b pc lo (pv_i v :: pv_i u :: st) := by
  obtain ⟨p, l, e, R, s, m, args, below, meth, c, Q, h0, ad0, al⟩ := x
  exact fun ad H locs ls q1 q2 q3 q4 => lv_irem C.1 C.2.1 dg hne (k ad H locs ls q1 q2 q3 q4)
theorem pr_if_eq (C : pa_C G x cc nL own d mc ms) {u : Int32} {off : Int} (tgt : Nat) (dg : decode cc pc = .ok (.ifCond .eq off, 3)) (ht : (pc : Int) + off = (tgt : Int)) (kt : u = 0 → pa_w G x nL h a b tgt lo st) (kf : ¬ (u = 0) → pa_w G x nL h a b (pc + 3) lo st) : pa_w G x nL h a b pc lo (pv_i u :: st) := by
  obtain ⟨p, l, e, R, s, m, args, below, meth, c, Q, h0, ad0, al⟩ := x
  exact fun ad H locs ls q1 q2 q3 q4 => lv_if_eq C.1 C.2.1 dg ht (fun z => kt z ad H locs ls q1 q2 q3 q4) (fun z => kf z ad H locs ls q1 q2 q3 q4)
theorem pr_icmp_eq (C : pa_C G x cc nL own d mc ms) {u v : Int32} {off : Int} (tgt : Nat) (dg : decode cc pc = .ok (.if_icmp .eq off, 3)) (ht : (pc : Int) + off = (tgt : Int)) (kt : u = v → pa_w G x nL h a b tgt lo st) (kf : ¬ (u = v) → pa_w G x nL h a b (pc + 3) lo st) : pa_w G x nL h a b pc lo (pv_i v :: pv_i u :: st) := by
  obtain ⟨p, l, e, R, s, m, args, below, meth, c, Q, h0, ad0, al⟩ := x
  exact fun ad H locs ls q1 q2 q3 q4 => lv_icmp_eq C.1 C.2.1 dg ht (fun z => kt z ad H locs ls q1 q2 q3 q4) (fun z => kf z ad H locs ls q1 q2 q3 q4)
theorem pr_if_ne (C : pa_C G x cc nL own d mc ms) {u : Int32} {off : Int} (tgt : Nat) (dg : decode cc pc = .ok (.ifCond .ne off, 3)) (ht : (pc : Int) + off = (tgt : Int)) (kt : u ≠ 0 → pa_w G x nL h a b tgt lo st) (kf : u = 0 → pa_w G x nL h a b (pc + 3) lo st) : pa_w G x nL h a b pc lo (pv_i u :: st) := by
  obtain ⟨p, l, e, R, s, m, args, below, meth, c, Q, h0, ad0, al⟩ := x
  exact fun ad H locs ls q1 q2 q3 q4 => lv_if_ne C.1 C.2.1 dg ht (fun z => kt z ad H locs ls q1 q2 q3 q4) (fun z => kf z ad H locs ls q1 q2 q3 q4)
theorem pr_icmp_ne (C : pa_C G x cc nL own d mc ms) {u v : Int32} {off : Int} (tgt : Nat) (dg : decode cc pc = .ok (.if_icmp .ne off, 3)) (ht : (pc : Int) + off = (tgt : Int)) (kt : u ≠ v → pa_w G x nL h a b tgt lo st) (kf : u = v → pa_w G x nL h a b (pc + 3) lo st) : pa_w G x nL h a b pc lo (pv_i v :: pv_i u :: st) := by
  obtain ⟨p, l, e, R, s, m, args, below, meth, c, Q, h0, ad0, al⟩ := x
  exact fun ad H locs ls q1 q2 q3 q4 => lv_icmp_ne C.1 C.2.1 dg ht (fun z => kt z ad H locs ls q1 q2 q3 q4) (fun z => kf z ad H locs ls q1 q2 q3 q4)
theorem pr_if_lt (C : pa_C G x cc nL own d mc ms) {u : Int32} {off : Int} (tgt : Nat) (dg : decode cc pc = .ok (.ifCond .lt off, 3)) (ht : (pc : Int) + off = (tgt : Int)) (kt : u < 0 → pa_w G x nL h a b tgt lo st) (kf : ¬ (u < 0) → pa_w G x nL h a b (pc + 3) lo st) : pa_w G x nL h a b pc lo (pv_i u :: st) := by
  obtain ⟨p, l, e, R, s, m, args, below, meth, c, Q, h0, ad0, al⟩ := x
  exact fun ad H locs ls q1 q2 q3 q4 => lv_if_lt C.1 C.2.1 dg ht (fun z => kt z ad H locs ls q1 q2 q3 q4) (fun z => kf z ad H locs ls q1 q2 q3 q4)
theorem pr_icmp_lt (C : pa_C G x cc nL own d mc ms) {u v : Int32} {off : Int} (tgt : Nat) (dg : decode cc pc = .ok (.if_icmp .lt off, 3)) (ht : (pc : Int) + off = (tgt : Int)) (kt : u < v → pa_w G x nL h a b tgt lo st) (kf : ¬ (u < v) → pa_w G x nL h a b (pc + 3) lo st) : pa_w G x nL h a b pc lo (pv_i v :: pv_i u :: st) := by
  obtain ⟨p, l, e, R, s, m, args, below, meth, c, Q, h0, ad0, al⟩ := x
  exact fun ad H locs ls q1 q2 q3 q4 => lv_icmp_lt C.1 C.2.1 dg ht (fun z => kt z ad H locs ls q1 q2 q3 q4) (fun z => kf z ad H locs ls q1 q2 q3 q4)
theorem pr_if_ge (C : pa_C G x cc nL own d mc ms) {u : Int32} {off : Int} (tgt : Nat) (dg : decode cc pc = .ok (.ifCond .ge off, 3)) (ht : (pc : Int) + off = (tgt : Int)) (kt : 0 ≤ u → pa_w G x nL h a b tgt lo st) (kf : ¬ (0 ≤ u) → pa_w G x nL h a b (pc + 3) lo st) : pa_w G x nL h a b pc lo (pv_i u :: st) := by
  obtain ⟨p, l, e, R, s, m, args, below, meth, c, Q, h0, ad0, al⟩ := x
  exact fun ad H locs ls q1 q2 q3 q4 => lv_if_ge C.1 C.2.1 dg ht (fun z => kt z ad H locs ls q1 q2 q3 q4) (fun z => kf z ad H locs ls q1 q2 q3 q4)
theorem pr_icmp_ge (C : pa_C G x cc nL own d mc ms) {u v : Int32} {off : Int} (tgt : Nat) (dg : decode cc pc = .ok (.if_icmp .ge off, 3)) (ht : (pc : Int) + off = (tgt : Int)) (kt : v ≤ u → pa_w G x nL h a b tgt lo st) (kf : ¬ (v ≤ u) → pa_w G x nL h a b (pc + 3) lo st) : pa_w G x nL h a b pc lo (pv_i v :: pv_i u :: st) := by
  obtain ⟨p, l, e, R, s, m, args, below, meth, c, Q, h0, ad0, al⟩ := x
  exact fun ad H locs ls q1 q2 q3 q4 => lv_icmp_ge C.1 C.2.1 dg ht (fun z => kt z ad H locs ls q1 q2 q3 q4) (fun z => kf z ad H locs ls q1 q2 q3 q4)
theorem pr_if_gt (C : pa_C G x cc nL own d mc ms) {u : Int32} {off : Int} (tgt : Nat) (dg : decode cc pc = .ok (.ifCond .gt off, 3)) (ht : (pc : Int) + off = (tgt : Int)) (kt : 0 < u → pa_w G x nL h a b tgt lo st) (kf : ¬ (0 < u) → pa_w G x nL h a b (pc + 3) lo st) : pa_w G x nL h a b pc lo (pv_i u :: st) := by
  obtain ⟨p, l, e, R, s, m, args, below, meth, c, Q, h0, ad0, al⟩ := x
  exact fun ad H locs ls q1 q2 q3 q4 => lv_if_gt C.1 C.2.1 dg ht (fun z => kt z ad H locs ls q1 q2 q3 q4) (fun z => kf z ad H locs ls q1 q2 q3 q4)
theorem pr_icmp_gt (C : pa_C G x cc nL own d mc ms) {u v : Int32} {off : Int} (tgt : Nat) (dg : decode cc pc = .ok (.if_icmp .gt off, 3)) (ht : (pc : Int) + off = (tgt : Int)) (kt : v < u → pa_w G x nL h a b tgt lo st) (kf : ¬ (v < u) → pa_w G x nL h a b (pc + 3) lo st) : pa_w G x nL h a b pc lo (pv_i v :: pv_i u :: st) := by
  obtain ⟨p, l, e, R, s, m, args, below, meth, c, Q, h0, ad0, al⟩ := x
  exact fun ad H locs ls q1 q2 q3 q4 => lv_icmp_gt C.1 C.2.1 dg ht (fun z => kt z ad H locs ls q1 q2 q3 q4) (fun z => kf z ad H locs ls q1 q2 q3 q4)
theorem pr_if_le (C : pa_C G x cc nL own d mc ms) {u : Int32} {off : Int} (tgt : Nat) (dg : decode cc pc = .ok (.ifCond .le off, 3)) (ht : (pc : Int) + off = (tgt : Int)) (kt : u ≤ 0 → pa_w G x nL h a b tgt lo st) (kf : ¬ (u ≤ 0) → pa_w G x nL h a b (pc + 3) lo st) : pa_w G x nL h a b pc lo (pv_i u :: st) := by
  obtain ⟨p, l, e, R, s, m, args, below, meth, c, Q, h0, ad0, al⟩ := x
  exact fun ad H locs ls q1 q2 q3 q4 => lv_if_le C.1 C.2.1 dg ht (fun z => kt z ad H locs ls q1 q2 q3 q4) (fun z => kf z ad H locs ls q1 q2 q3 q4)
theorem pr_icmp_le (C : pa_C G x cc nL own d mc ms) {u v : Int32} {off : Int} (tgt : Nat) (dg : decode cc pc = .ok (.if_icmp .le off, 3)) (ht : (pc : Int) + off = (tgt : Int)) (kt : u ≤ v → pa_w G x nL h a b tgt lo st) (kf : ¬ (u ≤ v) → pa_w G x nL h a b (pc + 3) lo st) : pa_w G x nL h a b pc lo (pv_i v :: pv_i u :: st) := by
  obtain ⟨p, l, e, R, s, m, args, below, meth, c, Q, h0, ad0, al⟩ := x
  exact fun ad H locs ls q1 q2 q3 q4 => lv_icmp_le C.1 C.2.1 dg ht (fun z => kt z ad H locs ls q1 q2 q3 q4) (fun z => kf z ad H locs ls q1 q2 q3 q4)
theorem pr_goto (C : pa_C G x cc nL own d mc ms) {off : Int} (tgt : Nat) (dg : decode cc pc = .ok (.goto off, 3)) (ht : (pc : Int) + off = (tgt : Int)) (k : pa_w G x nL h a b tgt lo st) : pa_w G x nL h a b pc lo st := by
  obtain ⟨p, l, e, R, s, m, args, below, meth, c, Q, h0, ad0, al⟩ := x
  exact fun ad H locs ls q1 q2 q3 q4 => lv_goto C.1 C.2.1 dg ht (k ad H locs ls q1 q2 q3 q4)
theorem pr_dup (C : pa_C G x cc nL own d mc ms) {v : pa_V} (dg : decode cc pc = .ok (.dup, 1)) (hv : pa_c1 v) (k : pa_w G x nL h a b (pc + 1) lo (v :: v :: st)) : pa_w G x nL h a b pc lo (v :: st) := by
  obtain ⟨p, l, e, R, s, m, args, below, meth, c, Q, h0, ad0, al⟩ := x
  exact fun ad H locs ls q1 q2 q3 q4 => lv_dup C.1 C.2.1 dg (pa_c1_cat hv) (k ad H locs ls q1 q2 q3 q4)
theorem pr_dup2 (C : pa_C G x cc nL own d mc ms) {v w : pa_V} (dg : decode cc pc = .ok (.dup2, 1)) (hv : pa_c1 v) (hw : pa_c1 w) (k : pa_w G x nL h a b (pc + 1) lo (v :: w :: v :: w :: st)) : pa_w G x nL h a b pc lo (v :: w :: st) := by
  obtain ⟨p, l, e, R, s, m, args, below, meth, c, Q, h0, ad0, al⟩ := x
  exact fun ad H locs ls q1 q2 q3 q4 => lv_dup2_11 C.1 C.2.1 dg (pa_c1_cat hv) (pa_c1_cat hw) (k ad H locs ls q1 q2 q3 q4)
theorem pr_pop (C : pa_C G x cc nL own d mc ms) {v : pa_V} (dg : decode cc pc = .ok (.pop, 1)) (hv : pa_c1 v) (k : pa_w G x nL h a b (pc + 1) lo st) : pa_w G x nL h a b pc lo (v :: st) := by
  obtain ⟨p, l, e, R, s, m, args, below, meth, c, Q, h0, ad0, al⟩ := x
  exact fun ad H locs ls q1 q2 q3 q4 => lv_pop C.1 C.2.1 dg (pa_c1_cat hv) (k ad H locs ls q1 q2 q3 q4)
theorem pr_null (C : pa_C G x cc nL own d mc ms) (dg : decode cc pc = .ok (.aconst_null, 1)) (k : pa_w G x nL h a b (pc + 1) lo (pv_r none :: st)) : pa_w G x nL h a b pc lo st := by
  obtain ⟨p, l, e, R, s, m, args, below, meth, c, Q, h0, ad0, al⟩ := x
  exact fun ad H locs ls q1 q2 q3 q4 => lv_null C.1 C.2.1 dg (k ad H locs ls q1 q2 q3 q4)
theorem pr_ldc (C : pa_C G x cc nL own d mc ms) {ix : Nat} {v : Int32} (dg : decode cc pc = .ok (.ldc ix, 2)) (hw : Jvm.Cond.constant own ix v ∈ pa_wl) (k : pa_w G x nL h a b (pc + 2) lo (pv_i v :: st)) : pa_w G x nL h a b pc lo st := by
  obtain ⟨p, l, e, R, s, m, args, below, meth, c, Q, h0, ad0, al⟩ := x
  exact fun ad H locs ls q1 q2 q3 q4 => lv_ldc C.1 C.2.1 C.2.2.2.1 (C.2.2.2.2.1 _ hw) dg (k ad H locs ls q1 q2 q3 q4)
theorem pr_ifnull (C : pa_C G x cc nL own d mc ms) {r : Option pa_Nm} {off : Int} (tgt : Nat) (dg : decode cc pc = .ok (.ifnull off, 3)) (ht : (pc : Int) + off = (tgt : Int)) (kt : r = none → pa_w G x nL h a b tgt lo st) (kf : ∀ n, r = some n → pa_w G x nL h a b (pc + 3) lo st) : pa_w G x nL h a b pc lo (pv_r r :: st) := by
  obtain ⟨p, l, e, R, s, m, args, below, meth, c, Q, h0, ad0, al⟩ := x
  intro ad H locs ls q1 q2 q3 q4
  cases r with
  | none => exact lv_ifnullN C.1 C.2.1 dg ht (kt rfl ad H locs ls q1 q2 q3 q4)
  | some n => exact lv_ifnull C.1 C.2.1 dg (kf n rfl ad H locs ls q1 q2 q3 q4)
theorem pr_ifnonnull (C : pa_C G x cc nL own d mc ms) {r : Option pa_Nm} {off : Int} (tgt : Nat) (dg : decode cc pc = .ok (.ifnonnull off, 3)) (ht : (pc : Int) + off = (tgt : Int)) (kt : ∀ n, r = some n → pa_w G x nL h a b tgt lo st) (kf : r = none → pa_w G x nL h a b (pc + 3) lo st) : pa_w G x nL h a b pc lo (pv_r r :: st) := by
  obtain ⟨p, l, e, R, s, m, args, below, meth, c, Q, h0, ad0, al⟩ := x
  intro ad H locs ls q1 q2 q3 q4
  cases r with
  | none => exact lv_ifnonnullN C.1 C.2.1 dg (kf rfl ad H locs ls q1 q2 q3 q4)
  | some n => exact lv_ifnonnull C.1 C.2.1 dg ht (kt n rfl ad H locs ls q1 q2 q3 q4)
/-- two names in use: the same cell or two -/
theorem pr_acmp_eq (C : pa_C G x cc nL own d mc ms) {n1 n2 : pa_Nm} {off : Int} (tgt : Nat) (dg : decode cc pc = .ok (.if_acmp .eq off, 3)) (ht : (pc : Int) + off = (tgt : Int)) (l1 : pa_lv h.2.2.1 n1) (l2 : pa_lv h.2.2.1 n2) (kt : n1 = n2 → pa_w G x nL h a b tgt lo st) (kf : n1 ≠ n2 → pa_w G x nL h a b (pc + 3) lo st) : pa_w G x nL h a b pc lo (pv_r (some n2) :: pv_r (some n1) :: st) := by
  obtain ⟨p, l, e, R, s, m, args, below, meth, c, Q, h0, ad0, al⟩ := x
  intro ad H locs ls q1 q2 q3 q4
  exact lv_acmp_eq (rx := some (ad n1)) (ry := some (ad n2)) C.1 C.2.1 dg ht (fun z => kt (q1.2.1 n1 n2 l1 l2 (Option.some.inj z)) ad H locs ls q1 q2 q3 q4) (fun z => kf (fun e => z (by rw [e])) ad H locs ls q1 q2 q3 q4)
theorem pr_acmp_ne (C : pa_C G x cc nL own d mc ms) {n1 n2 : pa_Nm} {off : Int} (tgt : Nat) (dg : decode cc pc = .ok (.if_acmp .ne off, 3)) (ht : (pc : Int) + off = (tgt : Int)) (l1 : pa_lv h.2.2.1 n1) (l2 : pa_lv h.2.2.1 n2) (kt : n1 ≠ n2 → pa_w G x nL h a b tgt lo st) (kf : n1 = n2 → pa_w G x nL h a b (pc + 3) lo st) : pa_w G x nL h a b pc lo (pv_r (some n2) :: pv_r (some n1) :: st) := by
  obtain ⟨p, l, e, R, s, m, args, below, meth, c, Q, h0, ad0, al⟩ := x
  intro ad H locs ls q1 q2 q3 q4
  exact lv_acmp_ne (rx := some (ad n1)) (ry := some (ad n2)) C.1 C.2.1 dg ht (fun z => kt (fun e => z (by rw [e])) ad H locs ls q1 q2 q3 q4) (fun z => kf (q1.2.1 n1 n2 l1 l2 (Option.some.inj z)) ad H locs ls q1 q2 q3 q4)
theorem pr_tableIn (C : pa_C G x cc nL own d mc ms) {v : Int32} {dflt lo9 hi : Int} {offs : Array Int} {len : Nat} {off : Int} (tgt : Nat) (dg : decode cc pc = .ok (.tableswitch dflt lo9 hi offs, len)) (h1 : ¬ v.toInt < lo9) (h2 : ¬ hi < v.toInt) (ho : offs[(v.toInt - lo9).toNat]? = some off) (ht : (pc : Int) + off = (tgt : Int)) (k : pa_w G x nL h a b tgt lo st) : pa_w G x nL h a b pc lo (pv_i v :: st) := by
  obtain ⟨p, l, e, R, s, m, args, below, meth, c, Q, h0, ad0, al⟩ := x
  exact fun ad H locs ls q1 q2 q3 q4 => lv_tableIn C.1 C.2.1 dg h1 h2 ho ht (k ad H locs ls q1 q2 q3 q4)
theorem pr_tableOut (C : pa_C G x cc nL own d mc ms) {v : Int32} {dflt lo9 hi : Int} {offs : Array Int} {len : Nat} (tgt : Nat) (dg : decode cc pc = .ok (.tableswitch dflt lo9 hi offs, len)) (h1 : v.toInt < lo9 ∨ hi < v.toInt) (ht : (pc : Int) + dflt = (tgt : Int)) (k : pa_w G x nL h a b tgt lo st) : pa_w G x nL h a b pc lo (pv_i v :: st) := by
  obtain ⟨p, l, e, R, s, m, args, below, meth, c, Q, h0, ad0, al⟩ := x
  exact fun ad H locs ls q1 q2 q3 q4 => lv_tableOut C.1 C.2.1 dg h1 ht (k ad H locs ls q1 q2 q3 q4)
-- cells of names
theorem pa_P1 {D : va_G} {cl : List vw_C} {q : Nat × va_E} {H : Heap} (h : va_at D cl q H) : va_P D cl [q] H := fun k z hk => by
  have hz : k < 1 := (List.getElem?_eq_some_iff.mp hk).1
  rw [show k = 0 by omega] at hk
  cases hk
  exact h
theorem pa_ce_ar (G : pa_G) (ad : pa_Nm → Nat) (h : pa_H) (f o : Nat) : pa_ce G ad h (100 + f, o) = .inl (G.2.1 (pa_ac f), pa_ln f, pa_av ad h f o) := by
  unfold pa_ce
  dsimp only
  rw [if_neg (by omega), if_neg (by omega), if_neg (by omega), if_neg (by omega), if_neg (by omega), if_neg (by omega), show 100 + f - 100 = f by omega]
theorem pa_ce_ob (G : pa_G) (ad : pa_Nm → Nat) (h : pa_H) {k : Nat} (o : Nat) (h1 : 1 ≤ k) (h2 : k < 6) : pa_ce G ad h (k, o) = .inr (k, pa_fs ad h k o (pa_nf k)) := by
  unfold pa_ce
  dsimp only
  rw [if_neg (by omega), if_pos h2]
theorem pa_fs_get (ad : pa_Nm → Nat) (h : pa_H) (k o n j : Nat) (hj : j < n) : (pa_fs ad h k o n)[j]? = some (pa_fv ad h (40 * k + j) o) := by
  unfold pa_fs
  rw [List.getElem?_map, List.getElem?_range hj]
  rfl
theorem pa_fs_len (ad : pa_Nm → Nat) (h : pa_H) (k o n : Nat) : (pa_fs ad h k o n).length = n := by
  unfold pa_fs
  rw [List.length_map, List.length_range]
/-- a field that the class own names by its entry ix: the field j of the kind k -/
def pa_fd (own : String) (ix k j : Nat) : Prop := 1 ≤ k ∧ k < 6 ∧ ∃ (q : vw_C) (ty0 : Nat → FieldType), vwCl[k]? = some q ∧ j < q.2.2 ∧ q.2.2 = pa_nf k ∧ (∀ w ∈ u_ws q.1 q.2.1 q.2.2, w ∈ pa_wl) ∧ Cond.fieldLink own ix (q.2.1 j).1 (q.2.1 j).2.1 (q.2.1 j).2.2.1 ∈ pa_wl ∧
  (∀ k, k < q.2.2 → parseFieldDescriptor (q.2.1 k).2.2.1 = some (ty0 k)) ∧ (∀ a, a < q.2.2 → ∀ b, b < q.2.2 → a ≠ b → (q.2.1 a).2.1 ≠ (q.2.1 b).2.1)
theorem pr_getf (C : pa_C G x cc nL own d mc ms) {ix k j i : Nat} (F : pa_fd own ix k j) (hl : pa_lv h.2.2.1 (k, i)) {v : pa_V} (hv : ∀ ad, pa_fv ad h (40 * k + j) i = pa_tr ad v) (dg : decode cc pc = .ok (.getfield ix, 3)) (kk : pa_w G x nL h a b (pc + 3) lo (v :: st)) : pa_w G x nL h a b pc lo (pv_o k i :: st) := by
  obtain ⟨p, l, e, R, s, m, args, below, meth, c, Q, h0, ad0, al⟩ := x
  intro ad H locs ls q1 q2 q3 q4
  obtain ⟨f1, f2, ⟨Cn, T, Nn⟩, ty0, f3, f4, f5, f6, f7, -⟩ := F
  obtain ⟨hx, hb, -, hown, hts, hU, -⟩ := C
  dsimp only at f4 f5 f6 f7
  have h1 := q1.1 (k, i) hl
  rw [pa_ce_ob G ad h i f1 f2] at h1
  exact va_get hx hb (ref := (T j).1) (C := Cn) (T := T) (N := Nn) hts f6 hown hU.1 (pa_P1 h1) 0 rfl f3 j f4 (hts _ f7) (fun _ z => z) (v := pa_tr ad v) (by rw [pa_fs_get ad h k i _ j (by omega), hv ad]) dg (kk ad H locs ls q1 q2 q3 q4)
theorem pr_geti (C : pa_C G x cc nL own d mc ms) (f : Nat) {ix k j i : Nat} (F : pa_fd own ix k j) (hf : 40 * k + j = f) (hty : pa_ty f = 0 ∨ pa_ty f = 8) (hl : pa_lv h.2.2.1 (k, i)) (dg : decode cc pc = .ok (.getfield ix, 3)) (kk : pa_w G x nL h a b (pc + 3) lo (pv_i (h.1 f i 0) :: st)) : pa_w G x nL h a b pc lo (pv_o k i :: st) :=
  pr_getf C F hl (fun ad => by rw [hf, pa_fv, if_pos hty]; rfl) dg kk
theorem pr_gett (C : pa_C G x cc nL own d mc ms) (f : Nat) {ix k j i : Nat} (F : pa_fd own ix k j) (hf : 40 * k + j = f) (hty : pa_ty f = 2) (hl : pa_lv h.2.2.1 (k, i)) (dg : decode cc pc = .ok (.getfield ix, 3)) (kk : pa_w G x nL h a b (pc + 3) lo (pv_r (pa_rc 3 (h.1 f i 0)) :: st)) : pa_w G x nL h a b pc lo (pv_o k i :: st) :=
  pr_getf C F hl (fun ad => by rw [hf, pa_fv, if_neg (by omega), if_pos hty, pa_tr_r]) dg kk
theorem pr_gets (C : pa_C G x cc nL own d mc ms) (f : Nat) {ix k j i : Nat} (F : pa_fd own ix k j) (hf : 40 * k + j = f) (hty : pa_ty f = 3) (hl : pa_lv h.2.2.1 (k, i)) (w : Nat) (hw : h.1 f i 0 = nI w) (hw4 : w < 4) (dg : decode cc pc = .ok (.getfield ix, 3)) (kk : pa_w G x nL h a b (pc + 3) lo (pv_o 1 w :: st)) : pa_w G x nL h a b pc lo (pv_o k i :: st) :=
  pr_getf C F hl (fun ad => by rw [hf, pa_fv, if_neg (by omega), if_neg (by omega), if_pos hty, hw, nI_clamp (by omega)]; rfl) dg kk
theorem pr_getl (C : pa_C G x cc nL own d mc ms) (f l9 : Nat) {ix k j i : Nat} (F : pa_fd own ix k j) (hf : 40 * k + j = f) (hty : pa_ty f = 6) (hl9 : f - 162 = l9) (hl : pa_lv h.2.2.1 (k, i)) (dg : decode cc pc = .ok (.getfield ix, 3)) (kk : pa_w G x nL h a b (pc + 3) lo (pv_o 0 l9 :: st)) : pa_w G x nL h a b pc lo (pv_o k i :: st) :=
  pr_getf C F hl (fun ad => by rw [hf, pa_fv, if_neg (by omega), if_neg (by omega), if_neg (by omega), if_pos hty, hl9]; rfl) dg kk
theorem pr_getm (C : pa_C G x cc nL own d mc ms) (f : Nat) {ix k j i : Nat} (F : pa_fd own ix k j) (hf : 40 * k + j = f) (hty : pa_ty f = 10 ∨ pa_ty f = 11) (hl : pa_lv h.2.2.1 (k, i)) (dg : decode cc pc = .ok (.getfield ix, 3)) (kk : pa_w G x nL h a b (pc + 3) lo (pv_i (h.2.1 f 0) :: st)) : pa_w G x nL h a b pc lo (pv_o k i :: st) :=
  pr_getf C F hl (fun ad => by rw [hf, pa_fv, if_neg (by omega), if_neg (by omega), if_neg (by omega), if_neg (by omega), if_pos hty]; rfl) dg kk
theorem pr_geta (C : pa_C G x cc nL own d mc ms) (f g : Nat) {ix k j i : Nat} (F : pa_fd own ix k j) (hf : 40 * k + j = f) (hg : 100 + f = g) (hty : pa_ty f = 1 ∨ pa_ty f = 4 ∨ pa_ty f = 5 ∨ pa_ty f = 12 ∨ pa_ty f = 13) (hl : pa_lv h.2.2.1 (k, i)) (dg : decode cc pc = .ok (.getfield ix, 3)) (kk : pa_w G x nL h a b (pc + 3) lo (pv_o g i :: st)) : pa_w G x nL h a b pc lo (pv_o k i :: st) :=
  pr_getf C F hl (fun ad => by rw [hf, pa_fv, if_neg (by omega), if_neg (by omega), if_neg (by omega), if_neg (by omega), if_neg (by omega), hg]; rfl) dg kk
-- rows are read
theorem pr_aldi (C : pa_C G x cc nL own d mc ms) (f : Nat) {g o n : Nat} {i : Int32} (j : Nat) (hg : 100 + f = g) (hty : pa_ty f = 1) (hn : pa_ln f = n) (hl : pa_lv h.2.2.1 (g, o)) (hi : i = nI j) (hj : j < n) (hn9 : n < 1000) (dg : decode cc pc = .ok (.iaload, 1)) (kk : pa_w G x nL h a b (pc + 1) lo (pv_i (h.1 f o j) :: st)) : pa_w G x nL h a b pc lo (pv_i i :: pv_o g o :: st) := by
  obtain ⟨p, l, e, R, s, m, args, below, meth, c, Q, h0, ad0, al⟩ := x
  intro ad H locs ls q1 q2 q3 q4
  have h1 := q1.1 (g, o) hl
  rw [← hg, pa_ce_ar, show pa_ac f = 0 by simp [pa_ac, hty], hn, show pa_av ad h f o = .inl (h.1 f o) by simp [pa_av, hty], hg] at h1
  have k2 := kk ad H locs ls q1 q2 q3 q4
  have hj9 : (nI j).toNatClampNeg = j := nI_clamp (by omega)
  subst hi
  refine va_iald C.1 C.2.1 C.2.2.2.2.2.1.1 (pa_P1 h1) 0 0 rfl rfl (vp_in_nI hj (by omega)) dg ?_
  rw [hj9]
  exact k2
theorem pr_aldm (C : pa_C G x cc nL own d mc ms) (f : Nat) {g o n : Nat} {i : Int32} (j : Nat) (hg : 100 + f = g) (hty : pa_ty f = 12) (hn : pa_ln f = n) (hl : pa_lv h.2.2.1 (g, o)) (hi : i = nI j) (hj : j < n) (hn9 : n < 1000) (dg : decode cc pc = .ok (.iaload, 1)) (kk : pa_w G x nL h a b (pc + 1) lo (pv_i (h.2.1 f j) :: st)) : pa_w G x nL h a b pc lo (pv_i i :: pv_o g o :: st) := by
  obtain ⟨p, l, e, R, s, m, args, below, meth, c, Q, h0, ad0, al⟩ := x
  intro ad H locs ls q1 q2 q3 q4
  have h1 := q1.1 (g, o) hl
  rw [← hg, pa_ce_ar, show pa_ac f = 0 by simp [pa_ac, hty], hn, show pa_av ad h f o = .inl (h.2.1 f) by simp [pa_av, hty], hg] at h1
  have k2 := kk ad H locs ls q1 q2 q3 q4
  have hj9 : (nI j).toNatClampNeg = j := nI_clamp (by omega)
  subst hi
  refine va_iald C.1 C.2.1 C.2.2.2.2.2.1.1 (pa_P1 h1) 0 0 rfl rfl (vp_in_nI hj (by omega)) dg ?_
  rw [hj9]
  exact k2
theorem pr_aldb (C : pa_C G x cc nL own d mc ms) (f : Nat) {g o n : Nat} {i : Int32} (j : Nat) (hg : 100 + f = g) (hty : pa_ty f = 13) (hn : pa_ln f = n) (hl : pa_lv h.2.2.1 (g, o)) (hi : i = nI j) (hj : j < n) (hn9 : n < 1000) (dg : decode cc pc = .ok (.baload, 1)) (kk : pa_w G x nL h a b (pc + 1) lo (pv_i (h.2.1 f j) :: st)) : pa_w G x nL h a b pc lo (pv_i i :: pv_o g o :: st) := by
  obtain ⟨p, l, e, R, s, m, args, below, meth, c, Q, h0, ad0, al⟩ := x
  intro ad H locs ls q1 q2 q3 q4
  have h1 := q1.1 (g, o) hl
  rw [← hg, pa_ce_ar, show pa_ac f = 1 by simp [pa_ac, hty], hn, show pa_av ad h f o = .inl (h.2.1 f) by simp [pa_av, hty], hg] at h1
  have k2 := kk ad H locs ls q1 q2 q3 q4
  have hj9 : (nI j).toNatClampNeg = j := nI_clamp (by omega)
  subst hi
  refine va_zald C.1 C.2.1 C.2.2.2.2.2.1.1 (pa_P1 h1) 0 1 rfl rfl (vp_in_nI hj (by omega)) dg ?_
  rw [hj9]
  exact k2
theorem pr_aldt (C : pa_C G x cc nL own d mc ms) (f : Nat) {g o n : Nat} {i : Int32} (j : Nat) (hg : 100 + f = g) (hty : pa_ty f = 4) (hn : pa_ln f = n) (hl : pa_lv h.2.2.1 (g, o)) (hi : i = nI j) (hj : j < n) (hn9 : n < 1000) (dg : decode cc pc = .ok (.aaload, 1)) (kk : pa_w G x nL h a b (pc + 1) lo (pv_r (pa_rc 3 (h.1 f o j)) :: st)) : pa_w G x nL h a b pc lo (pv_i i :: pv_o g o :: st) := by
  obtain ⟨p, l, e, R, s, m, args, below, meth, c, Q, h0, ad0, al⟩ := x
  intro ad H locs ls q1 q2 q3 q4
  have h1 := q1.1 (g, o) hl
  rw [← hg, pa_ce_ar, show pa_ac f = 2 by simp [pa_ac, hty], hn, show pa_av ad h f o = pa_rw (fun j => (pa_rc 3 (h.1 f o j)).map ad) by simp [pa_av, hty], hg] at h1
  have k2 := kk ad H locs ls q1 q2 q3 q4
  have hj9 : (nI j).toNatClampNeg = j := nI_clamp (by omega)
  subst hi
  refine va_aldq C.1 C.2.1 C.2.2.2.2.2.1.1 (pa_P1 h1) 0 2 rfl rfl (vp_in_nI hj (by omega)) dg ?_
  rw [hj9, ← pa_tr_r]
  exact k2
theorem pr_alds (C : pa_C G x cc nL own d mc ms) (f : Nat) {g o n : Nat} {i : Int32} (j : Nat) (hg : 100 + f = g) (hty : pa_ty f = 5) (hn : pa_ln f = n) (hl : pa_lv h.2.2.1 (g, o)) (hi : i = nI j) (hj : j < n) (hn9 : n < 1000) (dg : decode cc pc = .ok (.aaload, 1)) (kk : pa_w G x nL h a b (pc + 1) lo (pv_o 1 j :: st)) : pa_w G x nL h a b pc lo (pv_i i :: pv_o g o :: st) := by
  obtain ⟨p, l, e, R, s, m, args, below, meth, c, Q, h0, ad0, al⟩ := x
  intro ad H locs ls q1 q2 q3 q4
  have h1 := q1.1 (g, o) hl
  rw [← hg, pa_ce_ar, show pa_ac f = 3 by simp [pa_ac, hty], hn, show pa_av ad h f o = pa_rw (fun j => some (ad (1, j))) by simp [pa_av, hty], hg] at h1
  have k2 := kk ad H locs ls q1 q2 q3 q4
  have hj9 : (nI j).toNatClampNeg = j := nI_clamp (by omega)
  subst hi
  refine va_aldq C.1 C.2.1 C.2.2.2.2.2.1.1 (pa_P1 h1) 0 3 rfl rfl (vp_in_nI hj (by omega)) dg ?_
  rw [hj9]
  exact k2
-- fields are written
/-- .. and the field isn't final; it takes the value v -/
def pa_fp (own : String) (ix k j : Nat) (ty : FieldType) : Prop := 1 ≤ k ∧ k < 6 ∧ ∃ (q : vw_C) (ty0 : Nat → FieldType), vwCl[k]? = some q ∧ j < q.2.2 ∧ q.2.2 = pa_nf k ∧ (∀ w ∈ u_ws q.1 q.2.1 q.2.2, w ∈ pa_wl) ∧ Cond.fieldLink own ix (q.2.1 j).1 (q.2.1 j).2.1 (q.2.1 j).2.2.1 ∈ pa_wl ∧
  (∀ k, k < q.2.2 → parseFieldDescriptor (q.2.1 k).2.2.1 = some (ty0 k)) ∧ (∀ a, a < q.2.2 → ∀ b, b < q.2.2 → a ≠ b → (q.2.1 a).2.1 ≠ (q.2.1 b).2.1) ∧ (q.2.1 j).2.2.2 = false ∧ parseFieldDescriptor (q.2.1 j).2.2.1 = some ty
theorem pr_putf (C : pa_C G x cc nL own d mc ms) {ix k j i : Nat} {ty : FieldType} (F : pa_fp own ix k j ty) (hl : pa_lv h.2.2.1 (k, i)) {v : pa_V} {h' : pa_H} (hN : h'.2.2.1 = h.2.2.1) (hce : ∀ (ad : pa_Nm → Nat) (m : pa_Nm), m ≠ (k, i) → pa_lv h.2.2.1 m → pa_ce G ad h' m = pa_ce G ad h m)
    (hfs : ∀ (ad : pa_Nm → Nat) (q : Nat), q < pa_nf k → pa_fv ad h' (40 * k + q) i = if q = j then pa_tr ad v else pa_fv ad h (40 * k + q) i) (hnr : ∀ ad, narrow ty (pa_tr ad v) = pa_tr ad v) (hft : ∀ ad, fits ty (pa_tr ad v) = true)
    (dg : decode cc pc = .ok (.putfield ix, 3)) (kk : pa_w G x nL h' a b (pc + 3) lo st) : pa_w G x nL h a b pc lo (v :: pv_o k i :: st) := by
  obtain ⟨p, l, e, R, s, m, args, below, meth, c, Q, h0, ad0, al⟩ := x
  intro ad H locs ls q1 q2 q3 q4
  obtain ⟨f1, f2, ⟨Cn, T, Nn⟩, ty0, f3, f4, f5, f6, f7, f8, f9, f10, f11⟩ := F
  obtain ⟨hx, hb, -, hown, hts, hU, -⟩ := C
  dsimp only at f4 f5 f6 f7 f8 f9 f10 f11
  have h1 := q1.1 (k, i) hl
  rw [pa_ce_ob G ad h i f1 f2] at h1
  have hap := va_apart (own := own) hts f6 ty0 f8 f9 hU.1 f3
  obtain ⟨r, g1, cell, e1, e2, e3, e4⟩ := h1
  have hr : r = (Cn, T, Nn) := Option.some.inj (g1.symm.trans f3)
  subst hr
  obtain ⟨hS, hfc, kC, hkC, hkind⟩ := hU.1.1 k _ f3
  obtain ⟨cf, kf, fi, fd, hi, hsl⟩ := hS j f4
  have hlay := hts _ (f6 _ (u_in_lay f4))
  unfold u_lay at hlay
  rw [if_neg (by rw [f10]; decide)] at hlay
  have hst := (u_facts hfc hkC (u_lays hts f6 f4) hi).1
  have h6 := u_store hfc hkC hkind hlay hi f11 (hnr ad) (hft ad)
  refine W.putK hx hb (f := fd) ⟨hown, hts _ f7, ⟨_, _, _, hi⟩, hst⟩ (by rw [e2]; exact h6) e1 e3 (by rw [hsl]; exact k2_hasslot (e4 j f4)) rfl rfl dg fun H' z1 z2 z3 => ?_
  rw [hsl] at z1
  refine kk ad H' _ ls (pa_R_set q1 hN hl (hce ad) ?_ z2 z3) (by unfold pa_an at q2 ⊢; rw [hN]; exact q2) (q3.put z2 z3 (q1.2.2.1 _ hl)) q4
  rw [pa_ce_ob G ad h' i f1 f2]
  refine ⟨(Cn, T, Nn), f3, t_OB.to (V := updV (vp_V (pa_fs ad h k i (pa_nf k))) j (pa_tr ad v)) ⟨_, z1, e2, e3, t_set e4 hap f4 (pa_tr ad v)⟩ (fun q hq => ?_)⟩
  have hq9 : q < pa_nf k := by
    have : q < Nn := hq
    omega
  unfold vp_V updV
  rw [List.getD_eq_getElem?_getD, pa_fs_get ad h' k i _ q hq9, Option.getD_some, hfs ad q hq9]
  by_cases hqj : q = j
  · rw [if_pos hqj, if_pos hqj]
  · rw [if_neg hqj, if_neg hqj]
    show (pa_fs ad h k i (pa_nf k)).getD q .null = _
    rw [List.getD_eq_getElem?_getD, pa_fs_get ad h k i _ q hq9, Option.getD_some]
theorem pa_fv_up {ad : pa_Nm → Nat} {h : pa_H} {f g i : Nat} {v : Int32} (hg : g ≠ f) : pa_fv ad (pa_up h.1 f i 0 v, h.2) g i = pa_fv ad h g i := by
  unfold pa_fv
  have e0 : (pa_up h.1 f i 0 v) g i 0 = h.1 g i 0 := by
    unfold pa_up
    rw [if_neg (fun z => hg z.1)]
  simp only [e0]
theorem pa_up_self (K : Nat → Nat → Nat → Int32) (f o j : Nat) (v : Int32) : pa_up K f o j v f o j = v := by
  unfold pa_up
  rw [if_pos ⟨rfl, rfl, rfl⟩]
theorem pa_us_self (S : Nat → Nat → Int32) (f j : Nat) (v : Int32) : pa_us S f j v f j = v := by
  unfold pa_us
  rw [if_pos ⟨rfl, rfl⟩]
theorem pr_puti (C : pa_C G x cc nL own d mc ms) (f : Nat) {ix k j i : Nat} {v : Int32} (F : pa_fp own ix k j .int) (hf : 40 * k + j = f) (hj : j < 40) (hty : pa_ty f = 0) (h163 : f ≠ 163) (hl : pa_lv h.2.2.1 (k, i)) (dg : decode cc pc = .ok (.putfield ix, 3)) (kk : pa_w G x nL (pa_up h.1 f i 0 v, h.2) a b (pc + 3) lo st) : pa_w G x nL h a b pc lo (pv_i v :: pv_o k i :: st) := by
  have f1 := F.1
  have f2 := F.2.1
  refine pr_putf (h' := (pa_up h.1 f i 0 v, h.2)) C F hl rfl (fun ad m hm _ => pa_ce_up (by omega) (Or.inl hty) (by rw [show f / 40 = k by omega]; exact hm) h163) (fun ad q hq => ?_) (fun ad => rfl) (fun ad => rfl) dg kk
  by_cases hqj : q = j
  · rw [if_pos hqj, hqj, hf, pa_fv, if_pos (Or.inl hty)]
    dsimp only
    rw [pa_up_self]
    rfl
  · rw [if_neg hqj, pa_fv_up (by omega)]
theorem pr_putb (C : pa_C G x cc nL own d mc ms) (f : Nat) {ix k j i : Nat} {v : Int32} (F : pa_fp own ix k j .boolean) (hf : 40 * k + j = f) (hj : j < 40) (hty : pa_ty f = 8) (h163 : f ≠ 163) (hv : v = 0 ∨ v = 1) (hl : pa_lv h.2.2.1 (k, i)) (dg : decode cc pc = .ok (.putfield ix, 3)) (kk : pa_w G x nL (pa_up h.1 f i 0 v, h.2) a b (pc + 3) lo st) : pa_w G x nL h a b pc lo (pv_i v :: pv_o k i :: st) := by
  have f1 := F.1
  have f2 := F.2.1
  refine pr_putf (h' := (pa_up h.1 f i 0 v, h.2)) C F hl rfl (fun ad m hm _ => pa_ce_up (by omega) (Or.inr (Or.inl hty)) (by rw [show f / 40 = k by omega]; exact hm) h163) (fun ad q hq => ?_) (fun ad => by rcases hv with rfl | rfl <;> rfl) (fun ad => by rcases hv with rfl | rfl <;> rfl) dg kk
  by_cases hqj : q = j
  · rw [if_pos hqj, hqj, hf, pa_fv, if_pos (Or.inr hty)]
    dsimp only
    rw [pa_up_self]
    rfl
  · rw [if_neg hqj, pa_fv_up (by omega)]
/-- a Turn or null into a field, by its code -/
theorem pr_putt (C : pa_C G x cc nL own d mc ms) (f : Nat) {ix k j i : Nat} {r : Option pa_Nm} (w : Int32) (F : pa_fp own ix k j (.object "ParleyRoom$Turn")) (hf : 40 * k + j = f) (hj : j < 40) (hty : pa_ty f = 2) (h163 : f ≠ 163) (hw : pa_rc 3 w = r) (hl : pa_lv h.2.2.1 (k, i)) (dg : decode cc pc = .ok (.putfield ix, 3)) (kk : pa_w G x nL (pa_up h.1 f i 0 w, h.2) a b (pc + 3) lo st) : pa_w G x nL h a b pc lo (pv_r r :: pv_o k i :: st) := by
  have f1 := F.1
  have f2 := F.2.1
  refine pr_putf (h' := (pa_up h.1 f i 0 w, h.2)) C F hl rfl (fun ad m hm _ => pa_ce_up (by omega) (Or.inr (Or.inr (Or.inl hty))) (by rw [show f / 40 = k by omega]; exact hm) h163) (fun ad q hq => ?_) (fun ad => by cases r <;> rfl) (fun ad => by cases r <;> rfl) dg kk
  by_cases hqj : q = j
  · rw [if_pos hqj, hqj, hf, pa_fv, if_neg (by omega), if_pos hty]
    dsimp only
    rw [pa_up_self, hw, pa_tr_r]
  · rw [if_neg hqj, pa_fv_up (by omega)]
theorem pr_putm0 (C : pa_C G x cc nL own d mc ms) (f : Nat) {ix j : Nat} {v : Int32} {ty : FieldType} (F : pa_fp own ix 5 j ty) (hf : 200 + j = f) (hj : j < 40) (hty : pa_ty f = 10 ∨ pa_ty f = 11) (hl : pa_lv h.2.2.1 (5, 0)) (hnr : narrow ty (.int v) = .int v) (hft : fits ty (.int v) = true) (dg : decode cc pc = .ok (.putfield ix, 3)) (kk : pa_w G x nL (h.1, pa_us h.2.1 f 0 v, h.2.2) a b (pc + 3) lo st) : pa_w G x nL h a b pc lo (pv_i v :: pv_o 5 0 :: st) := by
  refine pr_putf (h' := (h.1, pa_us h.2.1 f 0 v, h.2.2)) C F hl rfl (fun ad m hm hm2 => pa_ce_us ⟨by omega, by omega⟩ (Or.inl hm) hm2 (by omega)) (fun ad q hq => ?_) (fun ad => hnr) (fun ad => hft) dg kk
  by_cases hqj : q = j
  · rw [if_pos hqj, hqj, hf, pa_fv, if_neg (by omega), if_neg (by omega), if_neg (by omega), if_neg (by omega), if_pos hty]
    dsimp only
    rw [pa_us_self]
    rfl
  · rw [if_neg hqj]
    unfold pa_fv
    have e0 : (pa_us h.2.1 f 0 v) (40 * 5 + q) 0 = h.2.1 (40 * 5 + q) 0 := by
      unfold pa_us
      rw [if_neg (fun z => by omega)]
    simp only [e0]
theorem pr_putm (C : pa_C G x cc nL own d mc ms) (f : Nat) {ix j : Nat} {v : Int32} (F : pa_fp own ix 5 j .int) (hf : 200 + j = f) (hj : j < 40) (hty : pa_ty f = 10) (hl : pa_lv h.2.2.1 (5, 0)) (dg : decode cc pc = .ok (.putfield ix, 3)) (kk : pa_w G x nL (h.1, pa_us h.2.1 f 0 v, h.2.2) a b (pc + 3) lo st) : pa_w G x nL h a b pc lo (pv_i v :: pv_o 5 0 :: st) :=
  pr_putm0 C f F hf hj (Or.inl hty) hl rfl rfl dg kk
theorem pr_putn (C : pa_C G x cc nL own d mc ms) (f : Nat) {ix j : Nat} {v : Int32} (F : pa_fp own ix 5 j .boolean) (hf : 200 + j = f) (hj : j < 40) (hty : pa_ty f = 11) (hv : v = 0 ∨ v = 1) (hl : pa_lv h.2.2.1 (5, 0)) (dg : decode cc pc = .ok (.putfield ix, 3)) (kk : pa_w G x nL (h.1, pa_us h.2.1 f 0 v, h.2.2) a b (pc + 3) lo st) : pa_w G x nL h a b pc lo (pv_i v :: pv_o 5 0 :: st) :=
  pr_putm0 C f F hf hj (Or.inr hty) hl (by rcases hv with rfl | rfl <;> rfl) (by rcases hv with rfl | rfl <;> rfl) dg kk
-- rows are written
theorem pa_lv_row {N : Nat → Nat} {n : pa_Nm} (h : pa_lv N n) : n.1 < 10 ∨ 100 ≤ n.1 := by
  unfold pa_lv at h
  by_cases c0 : n.1 < 10
  · exact Or.inl c0
  · rw [if_neg (by omega), if_neg (by omega), if_neg (by omega), if_neg (by omega), if_neg (by omega), if_neg (by omega)] at h
    exact Or.inr h.2.1
theorem pr_asti (C : pa_C G x cc nL own d mc ms) (f : Nat) {g o n : Nat} {i v : Int32} (j : Nat) (hg : 100 + f = g) (hf : 40 ≤ f) (hty : pa_ty f = 1) (hn : pa_ln f = n) (hl : pa_lv h.2.2.1 (g, o)) (hi : i = nI j) (hj : j < n) (hn9 : n < 1000) (dg : decode cc pc = .ok (.iastore, 1)) (kk : pa_w G x nL (pa_up h.1 f o j v, h.2) a b (pc + 1) lo st) : pa_w G x nL h a b pc lo (pv_i v :: pv_i i :: pv_o g o :: st) := by
  obtain ⟨p, l, e, R, s, m, args, below, meth, c, Q, h0, ad0, al⟩ := x
  intro ad H locs ls q1 q2 q3 q4
  have h1 := q1.1 (g, o) hl
  have hf163 : f ≠ 163 := fun q => by rw [q] at hty; revert hty; decide
  rw [← hg, pa_ce_ar, show pa_ac f = 0 by simp [pa_ac, hty], hn, show pa_av ad h f o = .inl (h.1 f o) by simp [pa_av, hty], hg] at h1
  have hj9 : (nI j).toNatClampNeg = j := nI_clamp (by omega)
  have hin := vp_in_nI hj (show n < 2 ^ 31 by omega)
  subst hi
  refine W.iast C.1 C.2.1 h1 ((C.2.2.2.2.2.1.1.2 0 _ rfl).1 n (fun j => .int (h.1 f o j))) (fun q => by cases q) (by show ¬ (nI j < 0 ∨ (arrV _ _ _).slots.size ≤ _); rw [arrV_size]; exact hin) rfl rfl dg fun H1 e1 z oq => ?_
  refine kk ad H1 _ ls (pa_R_set q1 rfl hl (fun m hm hm2 => pa_ce_ur hf (Or.inl hty) (by rw [hg]; exact hm) (pa_lv_row hm2) hf163) ?_ z oq) q2 (q3.put z oq (q1.2.2.1 _ hl)) q4
  rw [← hg, pa_ce_ar, show pa_ac f = 0 by simp [pa_ac, hty], hn, show pa_av ad (pa_up h.1 f o j v, h.2) f o = .inl (pa_up h.1 f o j v f o) by simp [pa_av, hty], hg]
  show H1[ad (g, o)]? = some (vp_cell (G.2.1 0) (n, .inl (pa_up h.1 f o j v f o)))
  have e2 : H1[ad (g, o)]? = some ((vp_cell (G.2.1 0) (n, .inl (h.1 f o))).setSlot (nI j).toNatClampNeg (.int v)) := e1
  rw [e2, vp_cell_i, vp_cell_i, arrV_store, hj9]
  congr 2
  funext q
  by_cases hq : q = j
  · subst hq
    simp [updV, pa_up_self]
  · simp [updV, pa_up, hq]
theorem pr_astm (C : pa_C G x cc nL own d mc ms) (f : Nat) {g n : Nat} {i v : Int32} (j : Nat) (hg : 100 + f = g) (hf : 200 ≤ f ∧ f < 240) (hty : pa_ty f = 12) (hn : pa_ln f = n) (hl : pa_lv h.2.2.1 (g, 0)) (hi : i = nI j) (hj : j < n) (hn9 : n < 1000) (dg : decode cc pc = .ok (.iastore, 1)) (kk : pa_w G x nL (h.1, pa_us h.2.1 f j v, h.2.2) a b (pc + 1) lo st) : pa_w G x nL h a b pc lo (pv_i v :: pv_i i :: pv_o g 0 :: st) := by
  obtain ⟨p, l, e, R, s, m, args, below, meth, c, Q, h0, ad0, al⟩ := x
  intro ad H locs ls q1 q2 q3 q4
  have h1 := q1.1 (g, 0) hl
  rw [← hg, pa_ce_ar, show pa_ac f = 0 by simp [pa_ac, hty], hn, show pa_av ad h f 0 = .inl (h.2.1 f) by simp [pa_av, hty], hg] at h1
  have hj9 : (nI j).toNatClampNeg = j := nI_clamp (by omega)
  have hin := vp_in_nI hj (show n < 2 ^ 31 by omega)
  subst hi
  refine W.iast C.1 C.2.1 h1 ((C.2.2.2.2.2.1.1.2 0 _ rfl).1 n (fun j => .int (h.2.1 f j))) (fun q => by cases q) (by show ¬ (nI j < 0 ∨ (arrV _ _ _).slots.size ≤ _); rw [arrV_size]; exact hin) rfl rfl dg fun H1 e1 z oq => ?_
  refine kk ad H1 _ ls (pa_R_set q1 rfl hl (fun m hm hm2 => pa_ce_us hf (Or.inr (Or.inl hty)) hm2 (Or.inr (Or.inr (by rw [hg]; exact hm)))) ?_ z oq) q2 (q3.put z oq (q1.2.2.1 _ hl)) q4
  rw [← hg, pa_ce_ar, show pa_ac f = 0 by simp [pa_ac, hty], hn, show pa_av ad (h.1, pa_us h.2.1 f j v, h.2.2) f 0 = .inl (pa_us h.2.1 f j v f) by simp [pa_av, hty], hg]
  show H1[ad (g, 0)]? = some (vp_cell (G.2.1 0) (n, .inl (pa_us h.2.1 f j v f)))
  have e2 : H1[ad (g, 0)]? = some ((vp_cell (G.2.1 0) (n, .inl (h.2.1 f))).setSlot (nI j).toNatClampNeg (.int v)) := e1
  rw [e2, vp_cell_i, vp_cell_i, arrV_store, hj9]
  congr 2
  funext q
  by_cases hq : q = j
  · subst hq
    simp [updV, pa_us_self]
  · simp [updV, pa_us, hq]
theorem pr_astb (C : pa_C G x cc nL own d mc ms) (f : Nat) {g n : Nat} {i v : Int32} (j : Nat) (hg : 100 + f = g) (hf : 200 ≤ f ∧ f < 240) (hty : pa_ty f = 13) (hn : pa_ln f = n) (hl : pa_lv h.2.2.1 (g, 0)) (hv : v = 0 ∨ v = 1) (hi : i = nI j) (hj : j < n) (hn9 : n < 1000) (dg : decode cc pc = .ok (.bastore, 1)) (kk : pa_w G x nL (h.1, pa_us h.2.1 f j v, h.2.2) a b (pc + 1) lo st) : pa_w G x nL h a b pc lo (pv_i v :: pv_i i :: pv_o g 0 :: st) := by
  obtain ⟨p, l, e, R, s, m, args, below, meth, c, Q, h0, ad0, al⟩ := x
  intro ad H locs ls q1 q2 q3 q4
  have h1 := q1.1 (g, 0) hl
  rw [← hg, pa_ce_ar, show pa_ac f = 1 by simp [pa_ac, hty], hn, show pa_av ad h f 0 = .inl (h.2.1 f) by simp [pa_av, hty], hg] at h1
  have hj9 : (nI j).toNatClampNeg = j := nI_clamp (by omega)
  have hv9 : narrow .boolean (.int v) = .int v := by rcases hv with rfl | rfl <;> rfl
  have hin := vp_in_nI hj (show n < 2 ^ 31 by omega)
  subst hi
  refine W.zast C.1 C.2.1 h1 ((C.2.2.2.2.2.1.1.2 1 _ rfl).1 n (fun j => .int (h.2.1 f j))) (fun q => by cases q) (by show ¬ (nI j < 0 ∨ (arrV _ _ _).slots.size ≤ _); rw [arrV_size]; exact hin) rfl rfl dg fun H1 e1 z oq => ?_
  refine kk ad H1 _ ls (pa_R_set q1 rfl hl (fun m hm hm2 => pa_ce_us hf (Or.inr (Or.inr hty)) hm2 (Or.inr (Or.inr (by rw [hg]; exact hm)))) ?_ z oq) q2 (q3.put z oq (q1.2.2.1 _ hl)) q4
  rw [← hg, pa_ce_ar, show pa_ac f = 1 by simp [pa_ac, hty], hn, show pa_av ad (h.1, pa_us h.2.1 f j v, h.2.2) f 0 = .inl (pa_us h.2.1 f j v f) by simp [pa_av, hty], hg]
  show H1[ad (g, 0)]? = some (vp_cell (G.2.1 1) (n, .inl (pa_us h.2.1 f j v f)))
  have e2 : H1[ad (g, 0)]? = some ((vp_cell (G.2.1 1) (n, .inl (h.2.1 f))).setSlot (nI j).toNatClampNeg (narrow .boolean (.int v))) := e1
  rw [e2, vp_cell_i, vp_cell_i, arrV_store, hj9, hv9]
  congr 2
  funext q
  by_cases hq : q = j
  · subst hq
    simp [updV, pa_us_self]
  · simp [updV, pa_us, hq]
/-- a Turn or null into a row, by its code -/
theorem pr_astt (C : pa_C G x cc nL own d mc ms) (f : Nat) {g o n : Nat} {i : Int32} {r : Option pa_Nm} (j : Nat) (w : Int32) (hg : 100 + f = g) (hf : 40 ≤ f) (hty : pa_ty f = 4) (hn : pa_ln f = n) (hl : pa_lv h.2.2.1 (g, o)) (hw : pa_rc 3 w = r) (hr : ∀ z, r = some z → z.1 = 3 ∧ pa_lv h.2.2.1 z) (hi : i = nI j) (hj : j < n) (hn9 : n < 1000) (dg : decode cc pc = .ok (.aastore, 1)) (kk : pa_w G x nL (pa_up h.1 f o j w, h.2) a b (pc + 1) lo st) : pa_w G x nL h a b pc lo (pv_r r :: pv_i i :: pv_o g o :: st) := by
  obtain ⟨p, l, e, R, s, m, args, below, meth, c, Q, h0, ad0, al⟩ := x
  intro ad H locs ls q1 q2 q3 q4
  have h1 := q1.1 (g, o) hl
  have hf163 : f ≠ 163 := fun q => by rw [q] at hty; revert hty; decide
  rw [← hg, pa_ce_ar, show pa_ac f = 2 by simp [pa_ac, hty], hn, show pa_av ad h f o = pa_rw (fun j => (pa_rc 3 (h.1 f o j)).map ad) by simp [pa_av, hty], hg] at h1
  have hj9 : (nI j).toNatClampNeg = j := nI_clamp (by omega)
  have hin := vp_in_nI hj (show n < 2 ^ 31 by omega)
  subst hi
  have hfin : ∀ (H1 : Heap) (locs1 : List Loc), H1[ad (g, o)]? = some ((vp_cell (G.2.1 2) (n, pa_rw (fun j => (pa_rc 3 (h.1 f o j)).map ad))).setSlot j (pa_tr ad (pv_r r))) → H1.size = H.size → (∀ q : Nat, q ≠ ad (g, o) → H1[q]? = H[q]?) → va_S (pa_A G) s.heap H1 locs1 → W p l e R s m args below meth c H1 locs1 a b Q (F0 m (pc + 1) ls (st.map (pa_tr ad))) := by
    intro H1 locs1 e1 z oq hS
    refine kk ad H1 _ ls (pa_R_set q1 rfl hl (fun m hm hm2 => pa_ce_ur hf (Or.inr hty) (by rw [hg]; exact hm) (pa_lv_row hm2) hf163) ?_ z oq) q2 hS q4
    rw [← hg, pa_ce_ar, show pa_ac f = 2 by simp [pa_ac, hty], hn, show pa_av ad (pa_up h.1 f o j w, h.2) f o = pa_rw (fun q => (pa_rc 3 (pa_up h.1 f o j w f o q)).map ad) by simp [pa_av, hty], hg]
    show H1[ad (g, o)]? = some (vp_cell _ _)
    rw [e1, vp_cell_q, vp_cell_q, arrV_store]
    congr 2
    funext q
    by_cases hq : q = j
    · subst hq
      simp [updV, pa_up_self, hw, pa_tr_r]
    · simp [updV, pa_up, hq]
  cases r with
  | none =>
    refine va_WaastN (C := "ParleyRoom$Turn") C.1 C.2.1 h1 ((C.2.2.2.2.2.1.1.2 2 _ rfl).1 n (fun j => va_rf ((pa_rc 3 (h.1 f o j)).map ad))) (fun q => by cases q) (by show ¬ (nI j < 0 ∨ (arrV _ _ _).slots.size ≤ _); rw [arrV_size]; exact hin) rfl rfl dg fun H1 e1 z oq => ?_
    rw [hj9] at e1
    exact hfin H1 _ e1 z oq (q3.put z oq (q1.2.2.1 _ hl))
  | some t =>
    obtain ⟨t1, t2⟩ := t
    obtain ⟨ht1, htl⟩ := hr _ rfl
    dsimp only at ht1
    subst ht1
    have hv := q1.1 (3, t2) htl
    rw [pa_ce_ob G ad h t2 (by decide) (by decide)] at hv
    obtain ⟨r', hr', cellV, g1, g2, g3, -⟩ := hv
    have hK := C.2.2.2.2.2.1.1
    have hcls := (hK.1 3 _ rfl).2
    obtain ⟨kA, comp, k1, k2, k3, -⟩ := (hK.2 2 _ rfl).2
    have hcomp : comp = G.1.1 3 := Option.some.inj (k3.symm.trans hcls.1)
    subst hcomp
    obtain ⟨kC, hkC, -⟩ := id hcls.2
    refine W.aast C.1 C.2.1 h1 (fun q h => by cases h) (fun h => by cases h) k1 k2 rfl hkC ⟨fun q => hin (Or.inl q), by show _ < (arrV _ _ _).slots.size; rw [arrV_size, hj9]; exact hj⟩ g1 (fun q h => by rw [g3] at h; cases h) (by rw [g2]; exact hkC) (by rw [g2]; exact va_assign hcls) rfl rfl dg fun H1 e1 z oq => ?_
    rw [hj9] at e1
    exact hfin H1 _ e1 z oq (q3.put z oq (q1.2.2.1 _ hl))
-- the ends
/-- the aim of a walk: the end of a method whose contract is (al, mc, ms, post) -/
def pa_E (G : pa_G) (x : pa_X) (mc ms : Nat) (ret : Option FieldType) (post : Option pa_V → pa_H → Prop) : Prop :=
  match x with
  | (_, _, _, _, s, _, args, below, meth, _, Q, h0, ad0, al) => meth.sig.returnType = ret ∧ G.2.2.1 ≤ s.heap.size ∧ (∀ t, MQ below (pa_Q G al h0 ad0 post) args s mc ms (pa_A G) t → Q t)
theorem pa_mono {p : Program} {l : Launch} {e : Env} {R : Room} {s : State} {m : MethodId} {args : Array Value} {below : List Frame} {meth : Method} {c : Code} {H : Heap} {locs : List Loc} {cells slots : Nat} {Q Q' : State → Prop} {g : JFrame} (hq : ∀ t, Q t → Q' t) (k : W p l e R s m args below meth c H locs cells slots Q g) : W p l e R s m args below meth c H locs cells slots Q' g := fun T hT X => by
  obtain ⟨t, a, b⟩ := k T hT X
  exact ⟨t, a, hq t b⟩
theorem pr_iret (C : pa_C G x cc nL own d mc ms) {mc' ms' : Nat} {ret : Option FieldType} {post : Option pa_V → pa_H → Prop} (E : pa_E G x mc' ms' ret post) {v : Int32} (hr : ret = some .int ∨ (ret = some .boolean ∧ (v = 0 ∨ v = 1))) (ha : a ≤ mc') (hb : b ≤ ms') (hp : post (some (pv_i v)) h) (dg : decode cc pc = .ok (.ireturn, 1)) : pa_w G x nL h a b pc lo [pv_i v] := by
  obtain ⟨p, l, e, R, s, m, args, below, meth, c, Q, h0, ad0, al⟩ := x
  intro ad H locs ls q1 q2 q3 q4
  obtain ⟨e1, e2, e3⟩ := E
  have hlk : meth.locks = false := C.2.2.2.2.2.2.2.2.2.2.1
  refine pa_mono e3 (W.widen ha hb ?_)
  have key : ∀ t : State, t.heap = H → s.WarmedH t.vm → pa_Q G al h0 ad0 post args s (.returned (some (.int v))) t := fun t ht _ => ⟨⟨some (pv_i v), h, ad, rfl, hp, by rw [ht]; exact q1, q2⟩, q3.F ht⟩
  rcases hr with hr | ⟨hr, hv⟩
  · exact W.iret C.1 C.2.1 (e1.trans hr) key q3.2.2 dg
  · exact W.zret C.1 C.2.1 (e1.trans hr) (by rcases hv with rfl | rfl <;> rfl) key q3.2.2 dg
theorem pr_vret (C : pa_C G x cc nL own d mc ms) {mc' ms' : Nat} {post : Option pa_V → pa_H → Prop} (E : pa_E G x mc' ms' none post) (ha : a ≤ mc') (hb : b ≤ ms') (hp : post none h) (dg : decode cc pc = .ok (.return_, 1)) : pa_w G x nL h a b pc lo [] := by
  obtain ⟨p, l, e, R, s, m, args, below, meth, c, Q, h0, ad0, al⟩ := x
  intro ad H locs ls q1 q2 q3 q4
  obtain ⟨e1, e2, e3⟩ := E
  have hlk : meth.locks = false := C.2.2.2.2.2.2.2.2.2.2.1
  refine pa_mono e3 (W.widen ha hb ?_)
  have key : ∀ t : State, t.heap = H → s.WarmedH t.vm → pa_Q G al h0 ad0 post args s (.returned none) t := fun t ht _ => ⟨⟨none, h, ad, rfl, hp, by rw [ht]; exact q1, q2⟩, q3.F ht⟩
  exact W.vret C.1 C.2.1 e1 key q3.2.2 dg
theorem pr_aret (C : pa_C G x cc nL own d mc ms) {mc' ms' : Nat} {n9 : String} {post : Option pa_V → pa_H → Prop} (E : pa_E G x mc' ms' (some (.object n9)) post) {r : Option pa_Nm} (ha : a ≤ mc') (hb : b ≤ ms') (hp : post (some (pv_r r)) h) (dg : decode cc pc = .ok (.areturn, 1)) : pa_w G x nL h a b pc lo [pv_r r] := by
  obtain ⟨p, l, e, R, s, m, args, below, meth, c, Q, h0, ad0, al⟩ := x
  intro ad H locs ls q1 q2 q3 q4
  obtain ⟨e1, e2, e3⟩ := E
  have hlk : meth.locks = false := C.2.2.2.2.2.2.2.2.2.2.1
  refine pa_mono e3 (W.widen ha hb ?_)
  have key : ∀ t : State, t.heap = H → s.WarmedH t.vm → pa_Q G al h0 ad0 post args s (.returned (some (pa_tr ad (pv_r r)))) t := fun t ht _ => ⟨⟨some (pv_r r), h, ad, rfl, hp, by rw [ht]; exact q1, q2⟩, q3.F ht⟩
  exact W.aret C.1 C.2.1 e1 (Or.inl ⟨n9, rfl⟩) (by cases r with | none => exact Or.inl rfl | some n => exact Or.inr ⟨_, rfl⟩) key q3.2.2 dg
-- calls
/-- what the tables say of the call by the entry ix of the class own: of the method y of an object of the kind k, with n arguments -/
def pa_cv (own : String) (ix : Nat) (y : pa_Y) (k n : Nat) : Prop := Cond.methodLink own ix y.1 ∈ pa_wl ∧ Cond.instanceMethod y.1 ∈ pa_wl ∧ Cond.selects y.1.cls y.1 y.1 ∈ pa_wl ∧ Cond.initialized y.1.cls ∈ pa_wl ∧ Cond.code y.1 y.2.1 y.2.2.1 y.2.2.2 ∈ pa_wl ∧
  (y.1.cls ≠ "java/lang/invoke/MethodHandle" ∧ y.1.cls ≠ "java/lang/invoke/VarHandle") ∧ (parseMethodDescriptor y.1.desc).map (fun d => d.parameters.length) = some n ∧ y.2.2.1 ≤ 11 ∧ ∃ q : vw_C, vwCl[k]? = some q ∧ q.1 = y.1.cls
def pa_cs (own : String) (ix : Nat) (y : pa_Y) (n : Nat) : Prop := Cond.methodLink own ix y.1 ∈ pa_wl ∧ Cond.static y.1 ∈ pa_wl ∧ Cond.initialized y.1.cls ∈ pa_wl ∧ Cond.code y.1 y.2.1 y.2.2.1 y.2.2.2 ∈ pa_wl ∧
  (y.1.cls ≠ "java/lang/invoke/MethodHandle" ∧ y.1.cls ≠ "java/lang/invoke/VarHandle") ∧ (parseMethodDescriptor y.1.desc).map (fun d => d.parameters.length) = some n ∧ y.2.2.1 ≤ 11
/-- .. of a nest mate's private static method -/
def pa_cn (own : String) (ix : Nat) (y : pa_Y) (n : Nat) : Prop := ((own = RX2 ∧ ix = 55 ∧ y.1 = yX3_isIn) ∨ (own = RX2 ∧ ix = 65 ∧ y.1 = yX3_isAtom)) ∧ Cond.static y.1 ∈ pa_wl ∧ Cond.initialized y.1.cls ∈ pa_wl ∧ Cond.code y.1 y.2.1 y.2.2.1 y.2.2.2 ∈ pa_wl ∧
  (y.1.cls ≠ "java/lang/invoke/MethodHandle" ∧ y.1.cls ≠ "java/lang/invoke/VarHandle") ∧ (parseMethodDescriptor y.1.desc).map (fun d => d.parameters.length) = some n ∧ y.2.2.1 ≤ 11
theorem pa_ws_all {args : Array Value} {s : State} {y : pa_Y} (hc : Cond.code y.1 y.2.1 y.2.2.1 y.2.2.2 ∈ pa_wl) (h : ∀ w ∈ pa_wl, w.before args s = true) : ∀ w ∈ pa_ws y, ∀ (a' : Array Value) (U : State), s.WarmedH U.vm → w.before a' U = true := by
  intro w hw a' U hW
  rcases List.mem_cons.mp hw with e | hw
  · rw [e]
    exact word_at hW (good_of_word (pa_wg hc)) (h _ hc)
  · exact word_at hW (good_of_word (pa_wg hw)) (h w hw)
theorem pa_cb {R : Room} {s : State} {args : Array Value} {own : String} {ix n d' d mc ms : Nat} {y : pa_Y} (hts : ∀ w ∈ pa_wl, w.before args s = true) (hf : d ≤ R.frames) (hlo : 30 * d ≤ R.locals) (hd : d' + 1 ≤ d) (h1 : Cond.methodLink own ix y.1 ∈ pa_wl) (h4 : Cond.initialized y.1.cls ∈ pa_wl) (h5 : Cond.code y.1 y.2.1 y.2.2.1 y.2.2.2 ∈ pa_wl) (h6 : y.1.cls ≠ "java/lang/invoke/MethodHandle" ∧ y.1.cls ≠ "java/lang/invoke/VarHandle") (h7 : (parseMethodDescriptor y.1.desc).map (fun d => d.parameters.length) = some n) (h8 : y.2.2.1 ≤ 11) :
    CallB R s args own ix y.1 y.2.1 y.2.2.1 y.2.2.2 (pa_ws y) (pa_rm d' mc ms) mc ms n := by
  refine ⟨rfl, rfl, by show d' + 1 ≤ R.frames; omega, by show 8 + (y.2.2.1 + 11) + 30 * d' ≤ R.locals; omega, pa_ws_all h5 hts, List.mem_cons_self, hts _ h5, hts _ h4, h6, fun sig h => ?_, hts _ h1⟩
  rw [h] at h7
  exact (Option.some.inj h7).symm
theorem pa_room {m : MethodId} {ls : Array Slot} {st0 : List Value} (ad : pa_Nm → Nat) (rest : List pa_V) (h : rest.length ≤ 4) : 2 * (F0 m pc ls st0).monitorRoom + ((rest.map (pa_tr ad)).map fun v => v.category).sum ≤ 8 := by
  refine lv_room ?_
  have key : ∀ (l : List pa_V), ((l.map (pa_tr ad)).map fun v => v.category).sum ≤ 2 * l.length := by
    intro l
    induction l with
    | nil => simp
    | cons v l ih =>
      have hv : (pa_tr ad v).category ≤ 2 := by rcases lv_cat (pa_tr ad v) with h | h <;> omega
      simp only [List.map_cons, List.sum_cons, List.length_cons]
      omega
  have := key rest
  omega
/-- behind a call: what the callee promised -/
theorem pa_back {p : Program} {l : Launch} {e : Env} {R : Room} {s : State} {m : MethodId} {args : Array Value} {below : List Frame} {meth : Method} {c : Code} {Q : State → Prop} {h0 : pa_H} {ad0 : pa_Nm → Nat} {al al' : Bool} {ad : pa_Nm → Nat} {H : Heap} {locs : List Loc} {ls : Array Slot} {st0 : List Value} {rest : List pa_V} {av : Array Value} {mc' ms' : Nat} {post : Option pa_V → pa_H → Prop}
    (hr : va_Run p l e R s m args below meth c H locs a b mc' ms' (F0 m pc ls st0) (rest.map (pa_tr ad)) (pa_Q G al' h ad post av) (pa_A G))
    (q2 : pa_an al h0 ad0 h ad) (q3 : va_S (pa_A G) s.heap H locs) (hal : al = false → al' = false)
    (kk : ∀ (r : Option pa_V) (h' : pa_H) (ad' : pa_Nm → Nat) (H1 : Heap) (locs1 : List Loc), post r h' → pa_an al' h ad h' ad' → pa_R G ad' h' H1 → pa_an al h0 ad0 h' ad' → va_S (pa_A G) s.heap H1 locs1 → W p l e R s m args below meth c H1 locs1 (a + mc') (b + ms') Q (F0 m (pc + 3) ls ((r.map (pa_tr ad')).toList ++ rest.map (pa_tr ad)))) : W p l e R s m args below meth c H locs a b Q (F0 m pc ls st0) := by
  intro T hT X
  obtain ⟨v, st₀, t, T', L, g0, X', hL, e1, e2, ⟨⟨r, h', ad', hoc, hp, hR, han⟩, hF⟩, hst⟩ := hr T hT X
  cases hoc
  obtain ⟨k1, k2, k3⟩ := vx_keep g0 e1 q3 (fun _ _ z => z) (fun _ z => z) hL hF
  obtain ⟨t2, a1, b1⟩ := kk r h' ad' T'.heap (locs ++ L) hp han (by rw [e1]; exact hR) (pa_an_tr q2 han hal) k3 T' rfl X'
  exact ⟨t2, hst t2 a1, b1⟩
/-- values that name cells in use -/
def pa_ok (N : Nat → Nat) : pa_V → Prop
  | .inr (.inr (some n)) => n.1 ≠ 8 ∧ pa_lv N n
  | _ => True
theorem pa_ok_tr {h : pa_H} {ad ad' : pa_Nm → Nat} (hag : pa_ag h ad ad') : ∀ {v : pa_V}, pa_ok h.2.2.1 v → pa_tr ad' v = pa_tr ad v
  | .inl _, _ => rfl
  | .inr (.inl _), _ => rfl
  | .inr (.inr none), _ => rfl
  | .inr (.inr (some n)), h => congrArg Value.ref (hag n h.1 h.2)
def pa_okl (N : Nat → Nat) : List pa_V → Prop
  | [] => True
  | v :: l => pa_ok N v ∧ pa_okl N l
def pa_oko (N : Nat → Nat) : List (Option pa_V) → Prop
  | [] => True
  | none :: l => pa_oko N l
  | some v :: l => pa_ok N v ∧ pa_oko N l
theorem pa_okl_tr {h : pa_H} {ad ad' : pa_Nm → Nat} (hag : pa_ag h ad ad') : ∀ {l : List pa_V}, pa_okl h.2.2.1 l → l.map (pa_tr ad') = l.map (pa_tr ad)
  | [], _ => rfl
  | v :: l, hh => by rw [List.map_cons, List.map_cons, pa_ok_tr hag hh.1, pa_okl_tr hag hh.2]
theorem pa_oko_at {N : Nat → Nat} : ∀ {l : List (Option pa_V)}, pa_oko N l → ∀ {j : Nat} {v : pa_V}, l[j]? = some (some v) → pa_ok N v
  | [], _, j, v, h => by simp at h
  | none :: l, hh, j, v, h => by
    cases j with
    | zero => simp at h
    | succ j => exact pa_oko_at (l := l) hh (by simpa using h)
  | some w :: l, hh, j, v, h => by
    cases j with
    | zero =>
      simp at h
      rw [← h]
      exact hh.1
    | succ j => exact pa_oko_at (l := l) hh.2 (by simpa using h)
theorem pa_Lo_ok {h : pa_H} {ad ad' : pa_Nm → Nat} {ls : Array Slot} (hag : pa_ag h ad ad') (ho : pa_oko h.2.2.1 lo) (q : pa_Lo ad ls nL lo) : pa_Lo ad' ls nL lo :=
  ⟨q.1, q.2.1, fun j v hv => by rw [pa_ok_tr hag (pa_oko_at ho hv)]; exact q.2.2 j v hv⟩
theorem pa_preV {k i n : Nat} {y : pa_Y} {As : List pa_V} {s : State} {H : Heap} {locs : List Loc} {ad : pa_Nm → Nat} {ix : Nat} (hU : pa_U G s) (hZ : pa_Zs G s s.heap) (q3 : va_S (pa_A G) s.heap H locs) (hk : k < 6) (cs : pa_cv own ix y k n) (hl : pa_lv h.2.2.1 (k, i)) (q1 : pa_R G ad h H) : PreV s H y.1.cls (ad (k, i)) (pa_P G (pv_o k i :: As) h ad) (As.map (pa_tr ad)) := by
  obtain ⟨-, -, -, -, -, -, -, -, q, g1, g2⟩ := cs
  refine ⟨pa_P_bl, ?_, fun U hU9 hW => ⟨rfl, by rw [hU9]; exact q1, hU.warm hW, hZ.at q3 hU9 hW⟩⟩
  have h1 := q1.1 (k, i) hl
  have h2 : ∃ fs, pa_ce G ad h (k, i) = .inr (k, fs) := by
    unfold pa_ce
    dsimp only
    by_cases c0 : k = 0
    · rw [if_pos c0, c0]
      exact ⟨_, rfl⟩
    · rw [if_neg c0, if_pos hk]
      exact ⟨_, rfl⟩
  obtain ⟨fs, h2⟩ := h2
  rw [h2] at h1
  have := va_recv hU.1 (pa_P1 h1) g1 (q0 := 0) rfl
  rw [g2] at this
  exact this
theorem pr_callV0 (C : pa_C G x cc nL own d mc ms) {y : pa_Y} {d' k i ix n mc' ms' : Nat} {al' : Bool} {As rest : List pa_V} {post : Option pa_V → pa_H → Prop} (hM : pa_M G x.2.1 y d' al' (pv_o k i :: As) h mc' ms' post) (cs : pa_cv own ix y k n) (hn : As.length = n) (hd : d' + 1 ≤ d) (hk : k < 6) (hl : pa_lv h.2.2.1 (k, i)) (hr : rest.length ≤ 4) (ha : a + mc' ≤ mc) (hb : b + ms' ≤ ms)
    (hal : x.2.2.2.2.2.2.2.2.2.2.2.2.2 = false → al' = false) (hok : al' = true → pa_okl h.2.2.1 rest ∧ pa_oko h.2.2.1 lo) (dg : decode cc pc = .ok (.invokevirtual ix, 3)) (kk : ∀ (r : Option pa_V) (h' : pa_H), post r h' → pa_w G x nL h' (a + mc') (b + ms') (pc + 3) lo (r.toList ++ rest)) : pa_w G x nL h a b pc lo (As.reverse ++ pv_o k i :: rest) := by
  obtain ⟨p, l, e, R, s, m, args, below, meth, c, Q, h0, ad0, al⟩ := x
  intro ad H locs ls q1 q2 q3 q4
  obtain ⟨hx, hb9, hml, hown, hts, hU, hf, hlo, hc9, hs9, -, hZ⟩ := C
  have cw : CallW R s args own y.1.cls ix y.1 y.2.1 y.2.2.1 y.2.2.2 (pa_ws y) (pa_rm d' mc' ms') mc' ms' n := ⟨pa_cb hts hf hlo hd cs.1 cs.2.2.2.1 cs.2.2.2.2.1 cs.2.2.2.2.2.1 cs.2.2.2.2.2.2.1 cs.2.2.2.2.2.2.2.1, hts _ cs.2.1, hts _ cs.2.2.1⟩
  refine pa_back (rest := rest) (va_runV (b := ad (k, i)) (As := As.map (pa_tr ad)) (rest := rest.map (pa_tr ad)) ⟨hx, hb9, hml, hown, hts⟩ (hM ad) cw (pa_preV hU hZ q3 hk cs hl q1) rfl (by rw [List.length_map]; exact hn) q4.1 ?_ (pa_room ad rest hr) dg ⟨by omega, by omega⟩) q2 q3 hal fun r h' ad' H1 locs1 hp han hR hq2 hq3 => ?_
  · show (As.reverse ++ pv_o k i :: rest).map (pa_tr ad) = _
    rw [List.map_append, List.map_reverse]
    rfl
  · have k2 := kk r h' hp ad' H1 locs1 ls hR hq2 hq3
    cases hal9 : al' with
    | false =>
      have e9 : ad' = ad := han.2.1 hal9
      subst e9
      have k3 := k2 q4
      rw [List.map_append] at k3
      cases r <;> exact k3
    | true =>
      obtain ⟨o1, o2⟩ := hok hal9
      have k3 := k2 (pa_Lo_ok han.1 o2 q4)
      rw [List.map_append, pa_okl_tr han.1 o1] at k3
      cases r <;> exact k3
theorem pr_callS0 (C : pa_C G x cc nL own d mc ms) {y : pa_Y} {d' ix n mc' ms' : Nat} {al' : Bool} {As rest : List pa_V} {post : Option pa_V → pa_H → Prop} (hM : pa_M G x.2.1 y d' al' As h mc' ms' post) (cs : pa_cs own ix y n) (hn : As.length = n) (hd : d' + 1 ≤ d) (hr : rest.length ≤ 4) (ha : a + mc' ≤ mc) (hb : b + ms' ≤ ms)
    (hal : x.2.2.2.2.2.2.2.2.2.2.2.2.2 = false → al' = false) (hok : al' = true → pa_okl h.2.2.1 rest ∧ pa_oko h.2.2.1 lo) (dg : decode cc pc = .ok (.invokestatic ix, 3)) (kk : ∀ (r : Option pa_V) (h' : pa_H), post r h' → pa_w G x nL h' (a + mc') (b + ms') (pc + 3) lo (r.toList ++ rest)) : pa_w G x nL h a b pc lo (As.reverse ++ rest) := by
  obtain ⟨p, l, e, R, s, m, args, below, meth, c, Q, h0, ad0, al⟩ := x
  intro ad H locs ls q1 q2 q3 q4
  obtain ⟨hx, hb9, hml, hown, hts, hU, hf, hlo, hc9, hs9, -, hZ⟩ := C
  have cw : CallB R s args own ix y.1 y.2.1 y.2.2.1 y.2.2.2 (pa_ws y) (pa_rm d' mc' ms') mc' ms' n ∧ (Cond.static y.1).before args s = true := ⟨pa_cb hts hf hlo hd cs.1 cs.2.2.1 cs.2.2.2.1 cs.2.2.2.2.1 cs.2.2.2.2.2.1 cs.2.2.2.2.2.2, hts _ cs.2.1⟩
  refine pa_back (rest := rest) (va_runS (As := As.map (pa_tr ad)) (rest := rest.map (pa_tr ad)) ⟨hx, hb9, hml, hown, hts⟩ (hM ad) cw ⟨pa_P_bl, fun U hU9 hW => ⟨rfl, by rw [hU9]; exact q1, hU.warm hW, hZ.at q3 hU9 hW⟩⟩ rfl (by rw [List.length_map]; exact hn) q4.1 ?_ (pa_room ad rest hr) dg ⟨by omega, by omega⟩) q2 q3 hal fun r h' ad' H1 locs1 hp han hR hq2 hq3 => ?_
  · show (As.reverse ++ rest).map (pa_tr ad) = _
    rw [List.map_append, List.map_reverse]
  · have k2 := kk r h' hp ad' H1 locs1 ls hR hq2 hq3
    cases hal9 : al' with
    | false =>
      have e9 : ad' = ad := han.2.1 hal9
      subst e9
      have k3 := k2 q4
      rw [List.map_append] at k3
      cases r <;> exact k3
    | true =>
      obtain ⟨o1, o2⟩ := hok hal9
      have k3 := k2 (pa_Lo_ok han.1 o2 q4)
      rw [List.map_append, pa_okl_tr han.1 o1] at k3
      cases r <;> exact k3
theorem pr_callN0 (C : pa_C G x cc nL own d mc ms) {y : pa_Y} {d' ix n mc' ms' : Nat} {As rest : List pa_V} {post : Option pa_V → pa_H → Prop} (hM : pa_M G x.2.1 y d' false As h mc' ms' post) (cs : pa_cn own ix y n) (hn : As.length = n) (hd : d' + 1 ≤ d) (hr : rest.length ≤ 4) (ha : a + mc' ≤ mc) (hb : b + ms' ≤ ms)
    (dg : decode cc pc = .ok (.invokestatic ix, 3)) (kk : ∀ (r : Option pa_V) (h' : pa_H), post r h' → pa_w G x nL h' (a + mc') (b + ms') (pc + 3) lo (r.toList ++ rest)) : pa_w G x nL h a b pc lo (As.reverse ++ rest) := by
  obtain ⟨p, l, e, R, s, m, args, below, meth, c, Q, h0, ad0, al⟩ := x
  intro ad H locs ls q1 q2 q3 q4
  obtain ⟨hx, hb9, hml, hown, hts, hU, hf, hlo, hc9, hs9, -, hZ⟩ := C
  obtain ⟨c1, c2, c3, c4, c5, c6, c7⟩ := cs
  have hlk : (Cond.methodLinkNest own ix y.1 RX3).before args s = true := by
    rcases c1 with ⟨e1, e2, e3⟩ | ⟨e1, e2, e3⟩
    · rw [e1, e2, e3]; exact va_Nw.use rfl hU.2.1
    · rw [e1, e2, e3]; exact va_Nw.use rfl hU.2.2.1
  have cw : va_CN R s args own ix y.1 RX3 y.2.1 y.2.2.1 y.2.2.2 (pa_ws y) (pa_rm d' mc' ms') mc' ms' n ∧ (Cond.static y.1).before args s = true ∧ True := by
    refine ⟨⟨⟨rfl, rfl, ?_, ?_, pa_ws_all c4 hts, List.mem_cons_self⟩, hts _ c4, hts _ c3, c5, fun sig h => ?_, hlk⟩, hts _ c2, trivial⟩
    · have : d ≤ R.frames := hf
      show d' + 1 ≤ R.frames
      omega
    · have : 30 * d ≤ R.locals := hlo
      show 8 + (y.2.2.1 + 11) + 30 * d' ≤ R.locals
      omega
    · rw [h] at c6
      exact (Option.some.inj c6).symm
  refine pa_back (rest := rest) (va_runSN (As := As.map (pa_tr ad)) (rest := rest.map (pa_tr ad)) ⟨hx, hb9, hml, hown, hts⟩ (hM ad) cw ⟨pa_P_bl, fun U hU9 hW => ⟨rfl, by rw [hU9]; exact q1, hU.warm hW, hZ.at q3 hU9 hW⟩⟩ rfl (by rw [List.length_map]; exact hn) q4.1 ?_ (pa_room ad rest hr) dg ⟨by omega, by omega⟩) q2 q3 (fun _ => rfl) fun r h' ad' H1 locs1 hp han hR hq2 hq3 => ?_
  · show (As.reverse ++ rest).map (pa_tr ad) = _
    rw [List.map_append, List.map_reverse]
  · have e9 : ad' = ad := han.2.1 rfl
    subst e9
    have k3 := kk r h' hp ad' H1 locs1 ls hR hq2 hq3 q4
    rw [List.map_append] at k3
    cases r <;> exact k3
-- a method from its entry
theorem pa_start (l : Launch) {y : pa_Y} {al : Bool} {av : List pa_V} {post : Option pa_V → pa_H → Prop} (hy : plainName y.1.cls = true) (hc : ∀ v ∈ av, pa_c1 v) (hl : ∀ ad, (lg_sl (av.map (pa_tr ad))).length ≤ y.2.2.1)
    (body : ∀ x : pa_X, pa_C G x y.2.1 y.2.2.1 y.1.cls d mc ms → pa_E G x mc ms y.2.2.2 post → x.2.1 = l → x.2.2.2.2.2.2.2.2.2.2.2.2.2 = al → pa_w G x y.2.2.1 h 0 0 0 (av.map some ++ List.replicate (y.2.2.1 - av.length) none) []) : pa_M G l y d al av h mc ms post := by
  intro ad
  refine Met.ofW (cc := y.2.1) (maxL := y.2.2.1) (ret := y.2.2.2) (ws' := pa_wl) hy rfl ?_
  intro p e s m args below meth c s₁ B hml hv
  obtain ⟨rfl, hR, hU, hZ⟩ := hv
  have hts : ∀ w ∈ pa_wl, w.before (av.map (pa_tr ad)).toArray s = true := fun w hw => atoms_spec (ws := pa_ws y) B.pre w (List.mem_cons_of_mem _ hw)
  have hLo := pa_Lo_entry (ad := ad) av y.2.2.1 hc (hl ad)
  have hLo2 : pa_Lo ad ((lg_sl (av.map (pa_tr ad)) ++ List.replicate (y.2.2.1 - (lg_sl (av.map (pa_tr ad))).length) Slot.unset).toArray) y.2.2.1 (av.map some ++ List.replicate (y.2.2.1 - av.length) none) := by
    refine ⟨hLo.1, hLo.2.1, fun j v hv => hLo.2.2 j v ?_⟩
    by_cases hj : j < (av.map some).length
    · rwa [List.getElem?_append_left hj] at hv
    · rw [List.getElem?_append_right (by omega)] at hv
      have := List.mem_of_getElem? hv
      rw [List.mem_replicate] at this
      cases this.2
  rw [lg_entry_eq]
  exact body (p, l, e, (headSpec (pa_ws y) (pa_rm d mc ms)).room, s, m, (av.map (pa_tr ad)).toArray, below, meth, c, MQ below (pa_Q G al h ad post) (av.map (pa_tr ad)).toArray s mc ms (pa_A G), h, ad, al)
    ⟨B.exec, B.bytes, hml, findClass_of_methodNamed B.named, hts, hU, Nat.le_refl _, Nat.le_refl _, Nat.le_refl _, Nat.le_refl _, B.notSynchronized, hZ⟩ ⟨B.returns, hR.2.2.2.2.2, fun t z => z⟩ rfl rfl ad s.heap [] _ hR (pa_an_rf al h ad) va_S.rf hLo2
end WALK
