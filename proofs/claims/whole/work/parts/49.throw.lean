/-! METHODS THAT THROW: their ends; what the need-methods throw -/
/-- the aim of a walk that may end in a throw of a class that px tells -/
def pa_EX (G : pa_G) (x : pa_X) (mc ms : Nat) (post : Option pa_V → pa_H → Prop) (px : String → Prop) : Prop :=
  match x with
  | (_, l, _, _, s, _, args, below, _, c, Q, h0, ad0, al) => l.stackTraces = false ∧ G.2.2.1 ≤ s.heap.size ∧ (∀ z ∈ c.exceptionTable.toList, False) ∧ ∀ t, vx_MQ below (pa_Q G al h0 ad0 post) (pa_XC G h0 ad0 px) args s mc ms (pa_A G) t → Q t
/-- the start's heap -/
def pa_h0 (x : pa_X) : pa_H := x.2.2.2.2.2.2.2.2.2.2.2.1
section STARTX
variable {G : pa_G} {h : pa_H} {d mc ms : Nat}
theorem pa_startX (l : Launch) (hl9 : l.stackTraces = false) {y : pa_Y} {al : Bool} {av : List pa_V} {post : Option pa_V → pa_H → Prop} {px : String → Prop} (hy : plainName y.1.cls = true) (hc : ∀ v ∈ av, pa_c1 v) (hl : ∀ ad, (lg_sl (av.map (pa_tr ad))).length ≤ y.2.2.1)
    (body : ∀ x : pa_X, pa_C G x y.2.1 y.2.2.1 y.1.cls d mc ms → pa_E G x mc ms y.2.2.2 post → pa_EX G x mc ms post px → x.2.1 = l → pa_h0 x = h → x.2.2.2.2.2.2.2.2.2.2.2.2.2 = al → pa_w G x y.2.2.1 h 0 0 0 (av.map some ++ List.replicate (y.2.2.1 - av.length) none) []) : pa_MX G l y d al av h mc ms post px := by
  intro ad
  refine vx_ofW (cc := y.2.1) (maxL := y.2.2.1) (ret := y.2.2.2) (ws' := pa_wl) hy rfl ?_
  intro p e s m args below meth c s₁ B hml htab hv
  obtain ⟨rfl, hR, hU, hZ⟩ := hv
  have hts : ∀ w ∈ pa_wl, w.before (av.map (pa_tr ad)).toArray s = true := fun w hw => atoms_spec (ws := pa_ws y) B.pre w (List.mem_cons_of_mem _ hw)
  have hLo := pa_Lo_entry (ad := ad) av y.2.2.1 hc (hl ad)
  have hLo2 : pa_Lo ad ((lg_sl (av.map (pa_tr ad)) ++ List.replicate (y.2.2.1 - (lg_sl (av.map (pa_tr ad))).length) Slot.unset).toArray) y.2.2.1 (av.map some ++ List.replicate (y.2.2.1 - av.length) none) := by
    refine ⟨hLo.1, hLo.2.1, fun j v hv => hLo.2.2 j v ?_⟩
    by_cases hj : j < (av.map some).length
    · rwa [List.getElem?_append_left hj] at hv
    · rw [List.getElem?_append_right (by omega)] at hv
      have := List.mem_of_getElem? hv
      rw [List.mem_replicate] at this
      cases this.2
  rw [lg_entry_eq]
  exact body (p, l, e, (headSpec (pa_ws y) (pa_rm d mc ms)).room, s, m, (av.map (pa_tr ad)).toArray, below, meth, c, vx_MQ below (pa_Q G al h ad post) (pa_XC G h ad px) (av.map (pa_tr ad)).toArray s mc ms (pa_A G), h, ad, al)
    ⟨B.exec, B.bytes, hml, findClass_of_methodNamed B.named, hts, hU, Nat.le_refl _, Nat.le_refl _, Nat.le_refl _, Nat.le_refl _, B.notSynchronized, hZ⟩ ⟨B.returns, hR.2.2.2.2.2, fun t ⟨o, z1, z2, z3, z4⟩ => ⟨o, z1, z2, Or.inl ⟨z3, z4⟩⟩⟩ ⟨hl9, hR.2.2.2.2.2, htab, fun t z => z⟩ rfl rfl rfl ad s.heap [] _ hR (pa_an_rf al h ad) va_S.rf hLo2
theorem pa_goX (l : Launch) (hl9 : l.stackTraces = false) {y : pa_Y} {al : Bool} {av : List pa_V} {post : Option pa_V → pa_H → Prop} {px : String → Prop} (hy : plainName y.1.cls = true) (hc : pa_c1l av) (hl : ∀ ad, Nat.ble (lg_sl (av.map (pa_tr ad))).length y.2.2.1 = true)
    (body : ∀ x : pa_X, pa_C G x y.2.1 y.2.2.1 y.1.cls d mc ms → pa_E G x mc ms y.2.2.2 post → pa_EX G x mc ms post px → x.2.1 = l → pa_h0 x = h → x.2.2.2.2.2.2.2.2.2.2.2.2.2 = al → pa_w G x y.2.2.1 h 0 0 0 (av.map some ++ List.replicate (y.2.2.1 - av.length) none) []) : pa_MX G l y d al av h mc ms post px :=
  pa_startX l hl9 hy (pa_c1l_in hc) (fun ad => Nat.le_of_ble_eq_true (hl ad)) body
end STARTX
theorem pa_R_keep {G : pa_G} {ad : pa_Nm → Nat} {h : pa_H} {H H1 : Heap} (hR : pa_R G ad h H) (hs : H.size ≤ H1.size) (hk : ∀ q, q < H.size → H1[q]? = H[q]?) : pa_R G ad h H1 :=
  ⟨fun n hn => (hR.1 n hn).kept (hk _ (hR.1 n hn).lt), hR.2.1, hR.2.2.1, (by rw [hk _ (Nat.lt_of_lt_of_le hR.2.2.2.2.1 hR.2.2.2.2.2)]; exact hR.2.2.2.1), hR.2.2.2.2.1, Nat.le_trans hR.2.2.2.2.2 hs⟩
def pa_tB (cls : String) : List Cond := [Cond.castable cls cls, Cond.declares ⟨"java/lang/RuntimeException", "<init>", "(Ljava/lang/String;)V"⟩, Cond.declares ⟨"java/lang/Exception", "<init>", "(Ljava/lang/String;)V"⟩, Cond.declares ⟨"java/lang/Throwable", "<init>", "(Ljava/lang/String;)V"⟩]
theorem pa_tB_at {G : pa_G} {args : Array Value} {s : State} {cls : String} (hU : pa_U G s) (h : (cls, cls) ∈ pa_cas) : ∀ w ∈ pa_tB cls, w.before args s = true := by
  have D := hU.2.2.2.2.1.2
  exact vx_c (va_Nw.use rfl (hU.2.2.2.2.2.2.1 _ h)) (vx_c (D _ (by decide)).use (vx_c (D _ (by decide)).use (vx_c (D _ (by decide)).use vx_n)))
/-- what a throw site asks of the tables: class RX3's entries ik (the exception's class), ic (its constructor) -/
def pa_ts (ik ic : Nat) (cls : String) : Prop := Bundle.fit cls = true ∧ Cond.classLink RX3 ik cls ∈ pa_wl ∧ Cond.initialized cls ∈ pa_wl ∧ (∀ w ∈ (vx_atS RX3 ic cls ["java/lang/RuntimeException", "java/lang/Exception"]).filter goodWord, w ∈ pa_wl) ∧ (∀ w ∈ (vx_atS RX3 ic cls ["java/lang/RuntimeException", "java/lang/Exception"]).filter (fun w => !goodWord w), w ∈ pa_tB cls) ∧ (cls, cls) ∈ pa_cas ∧
  ∀ w ∈ Cond.classLink RX3 ik cls :: Cond.initialized cls :: vx_atS RX3 ic cls ["java/lang/RuntimeException", "java/lang/Exception"], vx_ot w = true
theorem pa_tsIOOBE : pa_ts 155 159 "java/lang/IndexOutOfBoundsException" := ⟨by decide +kernel, pa_wi (by decide +kernel) rfl, pa_wi (by decide +kernel) rfl, by decide +kernel, by decide +kernel, by decide +kernel, by decide +kernel⟩
theorem pa_tsIAE : pa_ts 53 57 "java/lang/IllegalArgumentException" := ⟨by decide +kernel, pa_wi (by decide +kernel) rfl, pa_wi (by decide +kernel) rfl, by decide +kernel, by decide +kernel, by decide +kernel, by decide +kernel⟩
section THROW
variable {G : pa_G} {x : pa_X} {cc : ByteArray} {nL : Nat} {own : String} {d mc ms : Nat} {h : pa_H} {a b pc : Nat} {lo : List (Option pa_V)}
theorem pa_XC_of {G : pa_G} {px : String → Prop} {E : String} {al : Bool} {h0 h : pa_H} {ad0 ad : pa_Nm → Nat} {s t : State} {H : Heap} {locs : List Loc} (hp : px E) (hback : ∀ ad H, pa_R G ad h H → pa_R G ad h0 H) (q1 : pa_R G ad h H) (q2 : pa_an al h0 ad0 h ad) (q3 : va_S (pa_A G) s.heap H locs) (hs : H.size ≤ t.heap.size) (hk : ∀ q, q < H.size → t.heap[q]? = H[q]?) : pa_XC G h0 ad0 px E s t :=
  ⟨hp, ⟨ad, pa_R_keep (hback _ _ q1) hs hk, q2.1, (fun z => by cases z), fun _ z => z⟩, Nat.le_trans q3.1 hs, fun q z1 z2 => (hk q (Nat.lt_of_lt_of_le z1 q3.1)).trans (q3.2.1 q z1 z2)⟩
theorem pr_throw {st : List pa_V} {mc' ms' ik is ic : Nat} {cls text : String} {post : Option pa_V → pa_H → Prop} {px : String → Prop} (C : pa_C G x cc nL RX3 d mc ms) (EX : pa_EX G x mc' ms' post px) (hts9 : pa_ts ik ic cls) (htx : (is, text) ∈ pa_strs) (hp : px cls) (hback : ∀ ad H, pa_R G ad h H → pa_R G ad (pa_h0 x) H) (hr : st.length ≤ 4) (hd : 6 ≤ d) (ha : a + 1 ≤ mc) (hb : b + 6 ≤ ms) (ha' : a + 1 ≤ mc') (hb' : b + 6 ≤ ms')
    (d0 : decode cc pc = .ok (.new ik, 3)) (d3 : decode cc (pc + 3) = .ok (.dup, 1)) (d4 : decode cc (pc + 4) = .ok (.ldc is, 2)) (d6 : decode cc (pc + 6) = .ok (.invokespecial ic, 3)) (d9 : decode cc (pc + 9) = .ok (.athrow, 1)) : pa_w G x nL h a b pc lo st := by
  obtain ⟨p, l, e, R, s, m, args, below, meth, c, Q, h0, ad0, al⟩ := x
  intro ad H locs ls q1 q2 q3 q4
  obtain ⟨hx, hb9, hml, hown, hts, hU, hf, hlo9, hc9, hs9, hlk, hZ⟩ := C
  obtain ⟨e1, e2, e3, e4⟩ := EX
  obtain ⟨t1, t2, t3, t4, t5, t6, t7⟩ := hts9
  obtain ⟨sa, hsa⟩ := hU.2.2.2.2.2.1 _ htx
  have hf6 : 6 ≤ R.frames := Nat.le_trans hd hf
  have hl6 : 30 * d ≤ R.locals := hlo9
  have hroom := pa_room (m := m) (pc := pc) (ls := ls) (st0 := st.map (pa_tr ad)) ad st hr
  refine pa_mono e4 ?_
  refine vx_throwS (names := ["java/lang/RuntimeException", "java/lang/Exception"]) (A := pa_A G) hx hb9 e1 hown t1 (by decide +kernel) (hts _ t2) (hts _ t3) hsa (vx_hat (B := pa_tB cls) (fun w hw => hts _ (t4 w hw)) t5 (pa_tB_at hU t6)) t7 hZ.2.1 hZ.2.2 q3 (q4.1.trans hml.symm) d0 d3 d4 d6 d9 (fun z hz => (e3 z hz).elim) (by show 2 + 3 < R.frames; omega) (by show _ + (13 * (2 + 1) + 43) ≤ R.locals; omega) (by omega) (by omega) hlk
    (fun t _ hs hk => pa_XC_of hp hback q1 q2 q3 hs hk) q3.2.2 ha' hb'
theorem pr_throwW {st : List pa_V} {mc' ms' ik is ic : Nat} {cls text : String} {post : Option pa_V → pa_H → Prop} {px : String → Prop} (C : pa_C G x cc nL RX3 d mc ms) (EX : pa_EX G x mc' ms' post px) (hts9 : pa_ts ik ic cls) (htx : (is, text) ∈ pa_strs) (hp : px cls) (hback : ∀ ad H, pa_R G ad h H → pa_R G ad (pa_h0 x) H) (hr : st.length ≤ 4) (hd : 6 ≤ d) (ha : a + 1 ≤ mc) (hb : b + 6 ≤ ms) (ha' : a + 1 ≤ mc') (hb' : b + 6 ≤ ms')
    (d0 : decode cc pc = .ok (.new ik, 3)) (d3 : decode cc (pc + 3) = .ok (.dup, 1)) (d4 : decode cc (pc + 4) = .ok (.ldc_w is, 3)) (d6 : decode cc (pc + 7) = .ok (.invokespecial ic, 3)) (d9 : decode cc (pc + 10) = .ok (.athrow, 1)) : pa_w G x nL h a b pc lo st := by
  obtain ⟨p, l, e, R, s, m, args, below, meth, c, Q, h0, ad0, al⟩ := x
  intro ad H locs ls q1 q2 q3 q4
  obtain ⟨hx, hb9, hml, hown, hts, hU, hf, hlo9, hc9, hs9, hlk, hZ⟩ := C
  obtain ⟨e1, e2, e3, e4⟩ := EX
  obtain ⟨t1, t2, t3, t4, t5, t6, t7⟩ := hts9
  obtain ⟨sa, hsa⟩ := hU.2.2.2.2.2.1 _ htx
  have hf6 : 6 ≤ R.frames := Nat.le_trans hd hf
  have hl6 : 30 * d ≤ R.locals := hlo9
  have hroom := pa_room (m := m) (pc := pc) (ls := ls) (st0 := st.map (pa_tr ad)) ad st hr
  refine pa_mono e4 ?_
  refine vx_throwSW (names := ["java/lang/RuntimeException", "java/lang/Exception"]) (A := pa_A G) hx hb9 e1 hown t1 (by decide +kernel) (hts _ t2) (hts _ t3) hsa (vx_hat (B := pa_tB cls) (fun w hw => hts _ (t4 w hw)) t5 (pa_tB_at hU t6)) t7 hZ.2.1 hZ.2.2 q3 (q4.1.trans hml.symm) d0 d3 d4 d6 d9 (fun z hz => (e3 z hz).elim) (by show 2 + 3 < R.frames; omega) (by show _ + (13 * (2 + 1) + 43) ≤ R.locals; omega) (by omega) (by omega) hlk
    (fun t _ hs hk => pa_XC_of hp hback q1 q2 q3 hs hk) q3.2.2 ha' hb'
/-- behind a call that has thrown: out of this method too -/
theorem pa_outX {p : Program} {l : Launch} {e : Env} {R : Room} {s : State} {m : MethodId} {args : Array Value} {below : List Frame} {meth : Method} {c : Code} {h0 : pa_H} {ad0 : pa_Nm → Nat} {al al' : Bool} {ad : pa_Nm → Nat} {H : Heap} {locs : List Loc} {ls : Array Slot} {st0 : List Value} {rest : List Value} {av : Array Value} {mc' ms' : Nat} {px px' : String → Prop} {post : Option pa_V → pa_H → Prop}
    (hr : vx_Run p l e R s m args below meth c H locs a b mc' ms' (F0 m pc ls st0) rest (pa_Q G al' h ad (fun _ _ => False) av) (pa_XC G h ad px') (pa_A G))
    (q2 : pa_an al h0 ad0 h ad) (q3 : va_S (pa_A G) s.heap H locs) (hlk : meth.locks = false) (e3 : ∀ z ∈ c.exceptionTable.toList, False) (hpx : ∀ E, px' E → px E) (hback : ∀ ad H, pa_R G ad h H → pa_R G ad h0 H) (ha : a + mc' ≤ mc) (hb : b + ms' ≤ ms) :
    W p l e R s m args below meth c H locs a b (vx_MQ below (pa_Q G al h0 ad0 post) (pa_XC G h0 ad0 px) args s mc ms (pa_A G)) (F0 m pc ls st0) := by
  intro T hT X
  rcases hr T hT X with ⟨v, st₀, t, T', L, g0, X', hL, e1, e2, ⟨⟨r, h', ad', hoc, hp, hR, han⟩, hF⟩, hst⟩ | ⟨q, st₀, t, T', L, E, ce, g0, X', hL, e1, e2, ⟨hp, ⟨ad', hR, han⟩, hF⟩, hce, hcv, hcl, hst⟩
  · exact hp.elim
  · obtain ⟨k1, k2, k3⟩ := vx_keep g0 e1 q3 (fun _ _ z => z) (fun _ z => z) hL hF
    have hxc : ∀ t9 : State, t9.heap = T'.heap → s.vm.Alike t9.vm → pa_XC G h0 ad0 px E s t9 := fun t9 h9 _ =>
      ⟨hpx E hp, ⟨ad', by rw [h9, e1]; exact hback _ _ hR, fun n h8 hn => (han.1 n h8 (q2.2.2 n hn)).trans (q2.1 n h8 hn), (fun z => by cases z), fun _ z => z⟩, by rw [h9]; exact k3.1, fun q z1 z2 => by rw [h9]; exact k3.2.1 q z1 z2⟩
    obtain ⟨t2, a1, b1⟩ := vx_out (pc := pc) (rest := rest) (ls := ls) (q := q) (E := E) (ce := ce) (Qc := pa_Q G al h0 ad0 post) (fun z hz => (e3 z hz).elim) hlk (by rw [e1]; exact hce) hcv hcl hxc k3.2.2 ha hb T' rfl X'
    exact ⟨t2, hst.trans a1, b1⟩
theorem pr_sX {y : pa_Y} {d' ix n mc' ms' mc9 ms9 : Nat} {al' : Bool} {As rest st : List pa_V} {post : Option pa_V → pa_H → Prop} {px px' : String → Prop} (C : pa_C G x cc nL own d mc ms) (EX : pa_EX G x mc9 ms9 post px) (hM : pa_MX G x.2.1 y d' al' As h mc' ms' (fun _ _ => False) px') (hpx : ∀ E, px' E → px E) (cs : pa_cs own ix y n) (hst : st = As.reverse ++ rest) (hn : As.length = n) (hd : d' + 1 ≤ d) (hr : rest.length ≤ 4) (ha : a + mc' ≤ mc) (hb : b + ms' ≤ ms) (ha9 : a + mc' ≤ mc9) (hb9 : b + ms' ≤ ms9) (hback : ∀ ad H, pa_R G ad h H → pa_R G ad (pa_h0 x) H) (dg : decode cc pc = .ok (.invokestatic ix, 3)) : pa_w G x nL h a b pc lo st := by
  rw [hst]
  obtain ⟨p, l, e, R, s, m, args, below, meth, c, Q, h0, ad0, al⟩ := x
  intro ad H locs ls q1 q2 q3 q4
  obtain ⟨hx, hb8, hml, hown, hts, hU, hf, hlo, hc9, hs9, hlk, hZ⟩ := C
  obtain ⟨e1, e2, e3, e4⟩ := EX
  have cw : CallB R s args own ix y.1 y.2.1 y.2.2.1 y.2.2.2 (pa_ws y) (pa_rm d' mc' ms') mc' ms' n ∧ (Cond.static y.1).before args s = true := ⟨pa_cb hts hf hlo hd cs.1 cs.2.2.1 cs.2.2.2.1 cs.2.2.2.2.1 cs.2.2.2.2.2.1 cs.2.2.2.2.2.2, hts _ cs.2.1⟩
  refine pa_mono e4 ?_
  refine pa_outX (h := h) (al' := al') (px' := px') (vx_runS (As := As.map (pa_tr ad)) (rest := rest.map (pa_tr ad)) ⟨hx, hb8, hml, hown, hts⟩ (hM ad) cw ⟨pa_P_bl, fun U hU9 hW => ⟨rfl, by rw [hU9]; exact q1, hU.warm hW, hZ.at q3 hU9 hW⟩⟩ rfl (by rw [List.length_map]; exact hn) q4.1 ?_ (pa_room ad rest hr) dg ⟨by omega, by omega⟩) q2 q3 hlk e3 hpx hback ha9 hb9
  show (As.reverse ++ rest).map (pa_tr ad) = _
  rw [List.map_append, List.map_reverse]
theorem pr_vX {y : pa_Y} {d' k i ix n mc' ms' mc9 ms9 : Nat} {al' : Bool} {As rest st : List pa_V} {post : Option pa_V → pa_H → Prop} {px px' : String → Prop} (C : pa_C G x cc nL own d mc ms) (EX : pa_EX G x mc9 ms9 post px) (hM : pa_MX G x.2.1 y d' al' (pv_o k i :: As) h mc' ms' (fun _ _ => False) px') (hpx : ∀ E, px' E → px E) (cs : pa_cv own ix y k n) (hst : st = As.reverse ++ pv_o k i :: rest) (hn : As.length = n) (hd : d' + 1 ≤ d) (hk : k < 6) (hl : pa_lv h.2.2.1 (k, i)) (hr : rest.length ≤ 4) (ha : a + mc' ≤ mc) (hb : b + ms' ≤ ms) (ha9 : a + mc' ≤ mc9) (hb9 : b + ms' ≤ ms9) (hback : ∀ ad H, pa_R G ad h H → pa_R G ad (pa_h0 x) H) (dg : decode cc pc = .ok (.invokevirtual ix, 3)) : pa_w G x nL h a b pc lo st := by
  rw [hst]
  obtain ⟨p, l, e, R, s, m, args, below, meth, c, Q, h0, ad0, al⟩ := x
  intro ad H locs ls q1 q2 q3 q4
  obtain ⟨hx, hb8, hml, hown, hts, hU, hf, hlo, hc9, hs9, hlk, hZ⟩ := C
  obtain ⟨e1, e2, e3, e4⟩ := EX
  have cw : CallW R s args own y.1.cls ix y.1 y.2.1 y.2.2.1 y.2.2.2 (pa_ws y) (pa_rm d' mc' ms') mc' ms' n := ⟨pa_cb hts hf hlo hd cs.1 cs.2.2.2.1 cs.2.2.2.2.1 cs.2.2.2.2.2.1 cs.2.2.2.2.2.2.1 cs.2.2.2.2.2.2.2.1, hts _ cs.2.1, hts _ cs.2.2.1⟩
  refine pa_mono e4 ?_
  refine pa_outX (h := h) (al' := al') (px' := px') (vx_runV (b := ad (k, i)) (As := As.map (pa_tr ad)) (rest := rest.map (pa_tr ad)) ⟨hx, hb8, hml, hown, hts⟩ (hM ad) cw (pa_preV hU hZ q3 hk cs hl q1) rfl (by rw [List.length_map]; exact hn) q4.1 ?_ (pa_room ad rest hr) dg ⟨by omega, by omega⟩) q2 q3 hlk e3 hpx hback ha9 hb9
  show (As.reverse ++ pv_o k i :: rest).map (pa_tr ad) = _
  rw [List.map_append, List.map_reverse]
  rfl
end THROW
abbrev px_I : String → Prop := fun E => E = "java/lang/IndexOutOfBoundsException"
abbrev px_A : String → Prop := fun E => E = "java/lang/IllegalArgumentException"
abbrev px_S : String → Prop := fun E => E = "java/lang/IllegalStateException"
/-- throws a class that px tells, always -/
abbrev pa_MT (G : pa_G) (l : Launch) (y : pa_Y) (d : Nat) (av : List pa_V) (h : pa_H) (mc ms : Nat) (px : String → Prop) : Prop := pa_MX G l y d true av h mc ms (fun _ _ => False) px
theorem pa_bk {G : pa_G} {x : pa_X} {h : pa_H} (e : pa_h0 x = h) : ∀ ad H, pa_R G ad h H → pa_R G ad (pa_h0 x) H := fun ad H q => e ▸ q
set_option maxRecDepth 100000 in
theorem c_X3_needRangeX (G : pa_G) (l : Launch) (hl9 : l.stackTraces = false) (h : pa_H) (v lo9 hi : Int32) (hv : ms_in v lo9 hi = false) : pa_MT G l mX3_needRange 6 [pv_i v, pv_i lo9, pv_i hi] h 1 6 px_A := by
  refine pa_goX l hl9 (by decide) (by simp [pa_c1l, pa_c1]) (fun _ => rfl) fun x C E EX el e0 ea => ?_
  subst el
  show pa_w G x 3 h 0 0 0 [some (pv_i v), some (pv_i lo9), some (pv_i hi)] []
  refine pr_iload_n (pc := 0) C dX3_needRange_0 rfl ?_
  refine pr_iload_n (pc := 1) C dX3_needRange_1 rfl ?_
  refine pr_iload_n (pc := 2) C dX3_needRange_2 rfl ?_
  refine pr_sP (pc := 3) C (c_X3_isWithin G _ h v lo9 hi) ws_X3_251 rfl rfl (by decide) (Nat.le_of_ble_eq_true rfl) (by omega) (by omega) dX3_needRange_3 ?_
  refine pr_ifb_ne (pc := 6) C 19 dX3_needRange_6 (by decide) (fun c_6 => absurd c_6 (by rw [hv]; decide)) (fun c_6 => ?_)
  exact pr_throw (pc := 9) (text := "an argument is out of its range") C EX pa_tsIAE (by decide) rfl (pa_bk e0) (by decide) (by decide) (by decide) (by decide) (by decide) (by decide) dX3_needRange_9 dX3_needRange_12 dX3_needRange_13 dX3_needRange_15 dX3_needRange_18
set_option maxRecDepth 100000 in
theorem c_X3_needAtomX (G : pa_G) (l : Launch) (hl9 : l.stackTraces = false) (h : pa_H) (v : Int32) (hv : ms_in v 0 9 = false) : pa_MT G l mX3_needAtom 6 [pv_i v] h 1 6 px_I := by
  refine pa_goX l hl9 (by decide) (by simp [pa_c1l, pa_c1]) (fun _ => rfl) fun x C E EX el e0 ea => ?_
  subst el
  show pa_w G x 1 h 0 0 0 [some (pv_i v)] []
  refine pr_iload_n (pc := 0) C dX3_needAtom_0 rfl ?_
  refine pr_sP (pc := 1) C (c_X3_isAtom G _ h v) ws_X3_243 rfl rfl (by decide) (Nat.le_of_ble_eq_true rfl) (by omega) (by omega) dX3_needAtom_1 ?_
  refine pr_ifb_ne (pc := 4) C 17 dX3_needAtom_4 (by decide) (fun c_6 => absurd c_6 (by rw [hv]; decide)) (fun c_6 => ?_)
  exact pr_throw (pc := 7) (text := "no such atom") C EX pa_tsIOOBE (by decide) rfl (pa_bk e0) (by decide) (by decide) (by decide) (by decide) (by decide) (by decide) dX3_needAtom_7 dX3_needAtom_10 dX3_needAtom_11 dX3_needAtom_13 dX3_needAtom_16
set_option maxRecDepth 100000 in
theorem c_X3_needSpeakerX (G : pa_G) (l : Launch) (hl9 : l.stackTraces = false) (h : pa_H) (v : Int32) (hv : ms_in v 0 3 = false) : pa_MT G l mX3_needSpeaker 6 [pv_i v] h 1 6 px_I := by
  refine pa_goX l hl9 (by decide) (by simp [pa_c1l, pa_c1]) (fun _ => rfl) fun x C E EX el e0 ea => ?_
  subst el
  have hthrow : ∀ lo, pa_w G x 1 h 0 0 9 lo [] := fun lo => pr_throw (pc := 9) (text := "no such speaker") C EX pa_tsIOOBE (by decide) rfl (pa_bk e0) (by decide) (by decide) (by decide) (by decide) (by decide) (by decide) dX3_needSpeaker_9 dX3_needSpeaker_12 dX3_needSpeaker_13 dX3_needSpeaker_15 dX3_needSpeaker_18
  show pa_w G x 1 h 0 0 0 [some (pv_i v)] []
  refine pr_iload_n (pc := 0) C dX3_needSpeaker_0 rfl ?_
  refine pr_if_lt (pc := 1) C 9 dX3_needSpeaker_1 (by decide) (fun _ => hthrow _) (fun c_1 => ?_)
  refine pr_iload_n (pc := 4) C dX3_needSpeaker_4 rfl ?_
  refine pr_iconst (pc := 5) (v := 4) C dX3_needSpeaker_5 (by decide) ?_
  refine pr_icmp_lt (pc := 6) C 19 dX3_needSpeaker_6 (by decide) (fun c_6 => absurd hv ?_) (fun _ => hthrow _)
  unfold ms_in
  rw [decide_eq_true (Int32.not_lt.mp c_1), decide_eq_true (show v ≤ 3 by rw [Int32.le_iff_toInt_le]; rw [Int32.lt_iff_toInt_lt] at c_6; have e3 : (3 : Int32).toInt = 3 := rfl; have e4 : (4 : Int32).toInt = 4 := rfl; omega)]
  decide
set_option maxRecDepth 100000 in
theorem c_X3_needGoodX (G : pa_G) (l : Launch) (hl9 : l.stackTraces = false) (h : pa_H) (v : Int32) (hv : ms_in v 0 7 = false) : pa_MT G l mX3_needGood 6 [pv_i v] h 1 6 px_I := by
  refine pa_goX l hl9 (by decide) (by simp [pa_c1l, pa_c1]) (fun _ => rfl) fun x C E EX el e0 ea => ?_
  subst el
  have hthrow : ∀ lo, pa_w G x 1 h 0 0 10 lo [] := fun lo => pr_throw (pc := 10) (text := "no such good") C EX pa_tsIOOBE (by decide) rfl (pa_bk e0) (by decide) (by decide) (by decide) (by decide) (by decide) (by decide) dX3_needGood_10 dX3_needGood_13 dX3_needGood_14 dX3_needGood_16 dX3_needGood_19
  show pa_w G x 1 h 0 0 0 [some (pv_i v)] []
  refine pr_iload_n (pc := 0) C dX3_needGood_0 rfl ?_
  refine pr_if_lt (pc := 1) C 10 dX3_needGood_1 (by decide) (fun _ => hthrow _) (fun c_1 => ?_)
  refine pr_iload_n (pc := 4) C dX3_needGood_4 rfl ?_
  refine pr_bipush (pc := 5) (v := 8) C dX3_needGood_5 (by decide) ?_
  refine pr_icmp_lt (pc := 7) C 20 dX3_needGood_7 (by decide) (fun c_6 => absurd hv ?_) (fun _ => hthrow _)
  unfold ms_in
  rw [decide_eq_true (Int32.not_lt.mp c_1), decide_eq_true (show v ≤ 7 by rw [Int32.le_iff_toInt_le]; rw [Int32.lt_iff_toInt_lt] at c_6; have e3 : (7 : Int32).toInt = 7 := rfl; have e4 : (8 : Int32).toInt = 8 := rfl; omega)]
  decide
