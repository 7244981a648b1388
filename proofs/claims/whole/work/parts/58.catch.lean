/-! THE LAW'S OWN METHODS: bodies with handlers; the law's long row -/
/-- the words of a body with handlers -/
def pa_lws (y : pa_Y) (hh : List (Nat × Nat × Nat × Nat)) : List Cond := Cond.codeWith y.1 y.2.1 y.2.2.1 y.2.2.2 hh :: pa_wl
def pa_LM (G : pa_G) (l : Launch) (y : pa_Y) (hh : List (Nat × Nat × Nat × Nat)) (d : Nat) (al : Bool) (av : List pa_V) (h : pa_H) (mc ms : Nat) (post : Option pa_V → pa_H → Prop) : Prop :=
  ∀ ad : pa_Nm → Nat, Met l y.1 (pa_lws y hh) (pa_rm d mc ms) (pa_P G av h ad) (pa_Q G al h ad post) mc ms (pa_A G)
def pa_XT (x : pa_X) (hh : List (Nat × Nat × Nat × Nat)) : Prop :=
  match x with
  | (_, _, _, _, _, _, _, _, _, c, _, _, _, _) => c.exceptionTable.toList = tableOf hh
theorem pa_goL {G : pa_G} {h : pa_H} {d mc ms : Nat} (l : Launch) {y : pa_Y} {hh : List (Nat × Nat × Nat × Nat)} {al : Bool} {av : List pa_V} {post : Option pa_V → pa_H → Prop} (hy : plainName y.1.cls = true) (hc' : pa_c1l av) (hl' : ∀ ad, Nat.ble (lg_sl (av.map (pa_tr ad))).length y.2.2.1 = true)
    (body : ∀ x : pa_X, pa_C G x y.2.1 y.2.2.1 y.1.cls d mc ms → pa_E G x mc ms y.2.2.2 post → pa_XT x hh → x.2.1 = l → pa_h0 x = h → x.2.2.2.2.2.2.2.2.2.2.2.2.2 = al → pa_w G x y.2.2.1 h 0 0 0 (av.map some ++ List.replicate (y.2.2.1 - av.length) none) []) : pa_LM G l y hh d al av h mc ms post := by
  have hc := pa_c1l_in hc'
  have hl : ∀ ad, (lg_sl (av.map (pa_tr ad))).length ≤ y.2.2.1 := fun ad => Nat.le_of_ble_eq_true (hl' ad)
  intro ad
  refine va_MetW (cc := y.2.1) (maxL := y.2.2.1) (ret := y.2.2.2) (hh := hh) (ws' := pa_wl) hy rfl ?_
  intro p e s m args below meth c s₁ B hml hv
  obtain ⟨rfl, hR, hU, hZ⟩ := hv
  have hts : ∀ w ∈ pa_wl, w.before (av.map (pa_tr ad)).toArray s = true := fun w hw => atoms_spec (ws := pa_lws y hh) B.pre w (List.mem_cons_of_mem _ hw)
  have hcw : (Cond.codeWith y.1 y.2.1 y.2.2.1 y.2.2.2 hh).before (av.map (pa_tr ad)).toArray s = true := atoms_spec (ws := pa_lws y hh) B.pre _ List.mem_cons_self
  have hLo := pa_Lo_entry (ad := ad) av y.2.2.1 hc (hl ad)
  have hLo2 : pa_Lo ad ((lg_sl (av.map (pa_tr ad)) ++ List.replicate (y.2.2.1 - (lg_sl (av.map (pa_tr ad))).length) Slot.unset).toArray) y.2.2.1 (av.map some ++ List.replicate (y.2.2.1 - av.length) none) := by
    refine ⟨hLo.1, hLo.2.1, fun j v hv => hLo.2.2 j v ?_⟩
    by_cases hj : j < (av.map some).length
    · rwa [List.getElem?_append_left hj] at hv
    · rw [List.getElem?_append_right (by omega)] at hv
      have := List.mem_of_getElem? hv
      rw [List.mem_replicate] at this
      cases this.2
  rw [lg_entry_eq]
  exact body (p, l, e, (headSpec (pa_lws y hh) (pa_rm d mc ms)).room, s, m, (av.map (pa_tr ad)).toArray, below, meth, c, MQ below (pa_Q G al h ad post) (av.map (pa_tr ad)).toArray s mc ms (pa_A G), h, ad, al)
    ⟨B.exec, B.bytes, hml, findClass_of_methodNamed B.named, hts, hU, Nat.le_refl _, Nat.le_refl _, Nat.le_refl _, Nat.le_refl _, B.notSynchronized, hZ⟩ ⟨B.returns, hR.2.2.2.2.2, fun t z => z⟩ (vx_table (x := y.1) B hcw) rfl rfl rfl ad s.heap [] _ hR (pa_an_rf al h ad) va_S.rf hLo2
section CATCH
variable {G : pa_G} {x : pa_X} {cc : ByteArray} {nL : Nat} {own : String} {d mc ms : Nat} {h : pa_H} {a b pc : Nat} {lo : List (Option pa_V)}
/-- a call that throws, caught here: the handler answers j -/
theorem pr_catch {y : pa_Y} {d' k i ix n mc1 ms1 mc' ms' : Nat} {al' : Bool} {As rest st : List pa_V} {hh : List (Nat × Nat × Nat × Nat)} {cls : String} {px : String → Prop} {post : Option pa_V → pa_H → Prop} (C : pa_C G x cc nL own d mc ms) (E : pa_E G x mc' ms' (some .int) post) (XT : pa_XT x hh) (hal : x.2.2.2.2.2.2.2.2.2.2.2.2.2 = true)
    (hM : pa_MX G x.2.1 y d' al' (pv_o k i :: As) h mc1 ms1 (fun _ _ => False) px) (hpx : ∀ E, px E → E = cls) (cs : pa_cv own ix y k n) (hst : st = As.reverse ++ pv_o k i :: rest) (hn : As.length = n) (hd : d' + 1 ≤ d) (hk : k < 6) (hl : pa_lv h.2.2.1 (k, i)) (hr : rest.length ≤ 4) (ha : a + mc1 ≤ mc) (hb : b + ms1 ≤ ms) (ha9 : a + mc1 ≤ mc') (hb9 : b + ms1 ≤ ms')
    (pre suf : List (Nat × Nat × Nat × Nat)) {q1 q2 hpc ct : Nat} (hsplit : hh = pre ++ (q1, q2, hpc, ct) :: suf) (hpass : ∀ z ∈ pre, z.2.2.2 ≠ 0 ∧ ∃ nm : String, Cond.classLink own z.2.2.2 nm ∈ pa_wl ∧ (cls, nm) ∈ pa_ncs) (hcov : q1 ≤ pc ∧ pc < q2) (hct : ct ≠ 0) (hlink : Cond.classLink own ct cls ∈ pa_wl) (hcas : (cls, cls) ∈ pa_cas)
    {j : Int32} {kL w : Nat} (hkL : kL < nL) (hstore : decode cc hpc = .ok (.astore kL, w) ∧ w = 2 ∨ ∃ f : Fin 4, (f : Nat) = kL ∧ decode cc hpc = .ok (.astore_n f, w) ∧ w = 1) {nj : Int} (hj : Int32.ofInt nj = j) (d1 : decode cc (hpc + w) = .ok (.iconst nj, 1)) (d2 : decode cc (hpc + w + 1) = .ok (.ireturn, 1)) (hp9 : post (some (pv_i j)) h) (dg : decode cc pc = .ok (.invokevirtual ix, 3)) : pa_w G x nL h a b pc lo st := by
  rw [hst]
  obtain ⟨p, l, e, R, s, m, args, below, meth, c, Q, h0, ad0, al⟩ := x
  intro ad H locs ls q1' q2' q3 q4
  obtain ⟨hx, hb8, hml, hown, hts, hU, hf, hlo, hc9, hs9, hlk, hZ⟩ := C
  obtain ⟨e1, e2, e3⟩ := E
  have hal : al = true := hal
  have XT : c.exceptionTable.toList = tableOf hh := XT
  have cw : CallW R s args own y.1.cls ix y.1 y.2.1 y.2.2.1 y.2.2.2 (pa_ws y) (pa_rm d' mc1 ms1) mc1 ms1 n := ⟨pa_cb hts hf hlo hd cs.1 cs.2.2.2.1 cs.2.2.2.2.1 cs.2.2.2.2.2.1 cs.2.2.2.2.2.2.1 cs.2.2.2.2.2.2.2.1, hts _ cs.2.1, hts _ cs.2.2.1⟩
  have hstk : (As.reverse ++ pv_o k i :: rest).map (pa_tr ad) = (As.map (pa_tr ad)).reverse ++ .ref (ad (k, i)) :: rest.map (pa_tr ad) := by
    rw [List.map_append, List.map_reverse]
    rfl
  have hrun := vx_runV (p := p) (l := l) (e := e) (R := R) (s := s) (below := below) (meth := meth) (H := H) (locs := locs) (cells := a) (slots := b) (g := F0 m pc ls ((As.reverse ++ pv_o k i :: rest).map (pa_tr ad))) (b := ad (k, i)) (As := As.map (pa_tr ad)) (rest := rest.map (pa_tr ad)) ⟨hx, hb8, hml, hown, hts⟩ (hM ad) cw (pa_preV hU hZ q3 hk cs hl q1') rfl (by rw [List.length_map]; exact hn) q4.1 hstk (pa_room ad rest hr) dg ⟨by omega, by omega⟩
  intro T hT X
  rcases hrun T hT X with ⟨v, st₀, t, T', L, g0, X', hL, ea1, ea2, ⟨⟨r, h', ad', hoc, hp, hR, han⟩, hF⟩, hst9⟩ | ⟨q, st₀, t, T', L, E9, ce, g0, X', hL, ea1, ea2, ⟨hp, ⟨ad', hR, han⟩, hF⟩, hce, hcv, hcl, hst9⟩
  · exact hp.elim
  · obtain ⟨k1, k2, k3⟩ := vx_keep g0 ea1 q3 (fun _ _ z => z) (fun _ z => z) hL hF
    obtain rfl := hpx E9 hp
    rw [← ea1] at hR hce
    have key : ∀ t : State, t.heap = T'.heap → s.WarmedH t.vm → pa_Q G al h0 ad0 post args s (.returned (some (.int j))) t := fun t ht _ =>
      ⟨⟨some (pv_i j), h, ad', rfl, hp9, by rw [ht]; exact hR, ⟨fun n h8 hn => (han.1 n h8 (q2'.2.2 n hn)).trans (q2'.1 n h8 hn), fun z => (by rw [hal] at z; cases z), q2'.2.2⟩⟩, k3.F ht⟩
    have hend : ∀ ls' : Array Slot, W p l e R s m args below meth c T'.heap (locs ++ L) (a + mc1) (b + ms1) Q (F0 m (hpc + w) ls' []) := fun ls' =>
      lv_iconst hx hb8 d1 hj (pa_mono e3 (W.widen ha9 hb9 (W.iret hx hb8 e1 key k3.2.2 d2)))
    have hhas : lv_has ls nL [] := ⟨q4.1, q4.2.1, fun q hq => by cases hq⟩
    have hhand : W p l e R s m args below meth c T'.heap (locs ++ L) (a + mc1) (b + ms1) Q (F0 m hpc ls [.ref q]) := by
      rcases hstore with ⟨ds, hw⟩ | ⟨f, hfk, ds, hw⟩
      · subst hw
        exact lv_astore hx hb8 ds hhas hkL rfl (fun ls' _ => hend ls')
      · subst hw
        exact lv_astore_n hx hb8 ds hfk hhas hkL rfl (fun ls' _ => hend ls')
    have hWx := vx_catch (p := p) (l := l) (e := e) (R := R) (s := s) (m := m) (args := args) (below := below) (meth := meth) (c := c) (H := T'.heap) (locs := locs ++ L) (cells := a + mc1) (slots := b + ms1) (Q := Q) (pc := pc) (ls := ls) (rest := rest.map (pa_tr ad)) (ce := ce) (q := q) hown (tableOf pre) ⟨q1, q2, hpc, ct⟩ (tableOf suf) (by rw [XT, hsplit]; unfold tableOf; rw [List.map_append]; rfl)
      (fun z hz => by
        obtain ⟨z0, hz0, rfl⟩ := List.mem_map.mp hz
        obtain ⟨g1, nm, g2, g3⟩ := hpass z0 hz0
        exact Or.inr ⟨g1, nm, hts _ g2, hU.2.2.2.2.2.2.2.1 _ g3⟩) (by show (decide (q1 ≤ pc) && decide (pc < q2)) = true; rw [decide_eq_true hcov.1, decide_eq_true hcov.2]; rfl) hct (hts _ hlink) (va_Nw.use rfl (hU.2.2.2.2.2.2.1 _ hcas)) hce hcv hcl hhand
    obtain ⟨t2, a1, b1⟩ := hWx T' rfl X'
    exact ⟨t2, hst9.trans a1, b1⟩
end CATCH
section LROW
variable {G : pa_G} {x : pa_X} {cc : ByteArray} {nL : Nat} {own : String} {d mc ms : Nat} {K : Nat → Nat → Nat → Int32} {S : Nat → Nat → Int32} {N : Nat → Nat} {O : Nat → Int64} {h : pa_H} {a b pc : Nat} {lo : List (Option pa_V)} {st : List pa_V}
def pa_uo (O : Nat → Int64) (v : Int64) : Nat → Int64 := fun q => if q = 0 then v else O q
theorem pr_i2l (C : pa_C G x cc nL own d mc ms) {v : Int32} (dg : decode cc pc = .ok (.i2l, 1)) (kk : pa_w G x nL h a b (pc + 1) lo (pv_l v.toInt64 :: st)) : pa_w G x nL h a b pc lo (pv_i v :: st) := by
  obtain ⟨p, l, e, R, s, m, args, below, meth, c, Q, h0, ad0, al⟩ := x
  exact fun ad H locs ls q1 q2 q3 q4 => lv_i2l C.1 C.2.1 dg rfl (kk ad H locs ls q1 q2 q3 q4)
theorem pr_lconst (C : pa_C G x cc nL own d mc ms) {n : Fin 2} {v : Int64} (dg : decode cc pc = .ok (.lconst n, 1)) (hv : Int64.ofNat (n : Nat) = v) (kk : pa_w G x nL h a b (pc + 1) lo (pv_l v :: st)) : pa_w G x nL h a b pc lo st := by
  obtain ⟨p, l, e, R, s, m, args, below, meth, c, Q, h0, ad0, al⟩ := x
  exact fun ad H locs ls q1 q2 q3 q4 => lv_lconst C.1 C.2.1 dg hv (kk ad H locs ls q1 q2 q3 q4)
theorem pr_lcmp (C : pa_C G x cc nL own d mc ms) {u v : Int64} (dg : decode cc pc = .ok (.lcmp, 1)) (kk : pa_w G x nL h a b (pc + 1) lo (pv_i (lg_cmp u v) :: st)) : pa_w G x nL h a b pc lo (pv_l v :: pv_l u :: st) := by
  obtain ⟨p, l, e, R, s, m, args, below, meth, c, Q, h0, ad0, al⟩ := x
  exact fun ad H locs ls q1 q2 q3 q4 => W.lcmp C.1 C.2.1 dg (kk ad H locs ls q1 q2 q3 q4)
theorem pa_lv9 {N : Nat → Nat} : pa_lv N (9, 0) := rfl
theorem pa_ce_9 (G : pa_G) (ad : pa_Nm → Nat) (h : pa_H) : pa_ce G ad h (9, 0) = .inl (G.2.1 5, 1, .inr (.inl h.2.2.2)) := by
  unfold pa_ce
  rw [if_neg (by decide), if_neg (by decide), if_neg (by decide), if_neg (by decide), if_neg (by decide), if_pos rfl]
theorem pa_ce_O {G : pa_G} {ad : pa_Nm → Nat} {O' : Nat → Int64} {n : pa_Nm} (hn : n.1 ≠ 9) : pa_ce G ad (K, S, N, O') n = pa_ce G ad (K, S, N, O) n := by
  unfold pa_ce pa_fs pa_fv pa_le pa_av
  dsimp only
  rw [if_neg hn, if_neg hn]
theorem pr_lald9 (C : pa_C G x cc nL own d mc ms) {i : Int32} (hi : i = 0) (dg : decode cc pc = .ok (.laload, 1)) (kk : pa_w G x nL (K, S, N, O) a b (pc + 1) lo (pv_l (O 0) :: st)) : pa_w G x nL (K, S, N, O) a b pc lo (pv_i i :: pv_o 9 0 :: st) := by
  obtain ⟨p, l, e, R, s, m, args, below, meth, c, Q, h0, ad0, al⟩ := x
  intro ad H locs ls q1 q2 q3 q4
  have h1 := q1.1 (9, 0) pa_lv9
  rw [pa_ce_9] at h1
  subst hi
  have hin : vp_in (0 : Int32) 1 := (vp_in_nI (show 0 < 1 by decide) (show 1 < 2 ^ 31 by decide) : vp_in (nI 0) 1)
  refine W.lald C.1 C.2.1 (cell := vp_cell (G.2.1 5) (1, .inr (.inl O))) h1 ((C.2.2.2.2.2.1.1.2 5 _ rfl).1 1 (fun j => .long (O j))) (fun q => by cases q) (by show ¬ ((0 : Int32) < 0 ∨ (arrV _ _ _).slots.size ≤ _); rw [arrV_size]; exact hin) (by rw [show (0 : Int32).toNatClampNeg = 0 by decide]; exact arrV_read (G.2.1 5) (N := 1) (j := 0) (fun j => .long (O j)) (by decide)) rfl rfl dg (kk ad H locs ls q1 q2 q3 q4)
theorem pr_last9 (C : pa_C G x cc nL own d mc ms) {i : Int32} {v : Int64} (hi : i = 0) (dg : decode cc pc = .ok (.lastore, 1)) (kk : pa_w G x nL (K, S, N, pa_uo O v) a b (pc + 1) lo st) : pa_w G x nL (K, S, N, O) a b pc lo (pv_l v :: pv_i i :: pv_o 9 0 :: st) := by
  obtain ⟨p, l, e, R, s, m, args, below, meth, c, Q, h0, ad0, al⟩ := x
  intro ad H locs ls q1 q2 q3 q4
  have h1 := q1.1 (9, 0) pa_lv9
  rw [pa_ce_9] at h1
  subst hi
  have hin : vp_in (0 : Int32) 1 := (vp_in_nI (show 0 < 1 by decide) (show 1 < 2 ^ 31 by decide) : vp_in (nI 0) 1)
  refine W.last C.1 C.2.1 (cell := vp_cell (G.2.1 5) (1, .inr (.inl O))) h1 ((C.2.2.2.2.2.1.1.2 5 _ rfl).1 1 (fun j => .long (O j))) (fun q => by cases q) (by show ¬ ((0 : Int32) < 0 ∨ (arrV _ _ _).slots.size ≤ _); rw [arrV_size]; exact hin) rfl rfl dg fun H1 e1 z oq => ?_
  refine kk ad H1 _ ls (pa_R_set (h' := (K, S, N, pa_uo O v)) q1 rfl (n := (9, 0)) pa_lv9 (fun m hm hm2 => pa_ce_O (fun q => hm (by
    obtain ⟨k, i⟩ := m
    dsimp only at q
    subst q
    have : i = 0 := hm2
    rw [this]))) ?_ z oq) q2 (q3.put z oq (q1.2.2.1 _ pa_lv9)) q4
  rw [pa_ce_9]
  show H1[ad (9, 0)]? = some (vp_cell (G.2.1 5) (1, .inr (.inl (pa_uo O v))))
  have e2 : H1[ad (9, 0)]? = some ((vp_cell (G.2.1 5) (1, .inr (.inl O))).setSlot (0 : Int32).toNatClampNeg (.long v)) := e1
  rw [e2, vp_cell_l, vp_cell_l, arrV_store, show (0 : Int32).toNatClampNeg = 0 by decide]
  congr 2
  funext q
  unfold updV pa_uo
  by_cases hq : q = 0
  · rw [if_pos hq, if_pos hq]
  · rw [if_neg hq, if_neg hq]
end LROW
