/-! THE LAW'S WALK: rows over a naming that may change, the script under the name (10, 0) -/
def lw_at (x : pa_X) (h : pa_H) (ad : pa_Nm → Nat) : pa_X :=
  match x with
  | (p, l, e, R, s, m, args, below, meth, c, Q, _, _, _) => (p, l, e, R, s, m, args, below, meth, c, Q, h, ad, false)
/-- from here the law comes to its end, however the names are given -/
def lw_w (G : pa_G) (x : pa_X) (scr nL : Nat) (h : pa_H) (a b pc : Nat) (lo : List (Option pa_V)) (st : List pa_V) : Prop :=
  match x with
  | (p, l, e, R, s, m, args, below, meth, c, Q, _, _, _) => ∀ (ad : pa_Nm → Nat) (H : Heap) (locs : List Loc) (ls : Array Slot), pa_R G ad h H → va_S (pa_A G) s.heap H locs → pa_Lo ad ls nL lo → ad (10, 0) = scr →
      W p l e R s m args below meth c H locs a b Q (F0 m pc ls (st.map (pa_tr ad)))
/-- the script, and that it is no cell of ours -/
def lw_X (G : pa_G) (x : pa_X) (scr L : Nat) (xs : Nat → Int32) : Prop :=
  match x with
  | (_, _, _, _, s, _, _, _, _, _, _, _, _, _) => va_X scr L xs s s.heap ∧ scr < s.heap.size ∧ scr < G.2.2.1
section LAWR
variable {G : pa_G} {x : pa_X} {cc : ByteArray} {nL : Nat} {own : String} {d mc ms scr L : Nat} {xs : Nat → Int32} {h h0 : pa_H} {ad0 : pa_Nm → Nat} {a b pc : Nat} {lo : List (Option pa_V)} {st : List pa_V}
theorem lw_C (C : pa_C G x cc nL own d mc ms) : pa_C G (lw_at x h0 ad0) cc nL own d mc ms := C
theorem lw_of (k : ∀ ad, ad (10, 0) = scr → pa_w G (lw_at x h ad) nL h a b pc lo st) : lw_w G x scr nL h a b pc lo st := by
  obtain ⟨p, l, e, R, s, m, args, below, meth, c, Q, h1, ad1, al⟩ := x
  intro ad H locs ls q1 q3 q4 hs
  exact k ad hs ad H locs ls q1 (pa_an_rf false h ad) q3 q4
theorem lw_to (hs : ad0 (10, 0) = scr) (k : lw_w G x scr nL h a b pc lo st) : pa_w G (lw_at x h0 ad0) nL h a b pc lo st := by
  obtain ⟨p, l, e, R, s, m, args, below, meth, c, Q, h1, ad1, al⟩ := x
  intro ad H locs ls q1 q2 q3 q4
  exact k ad H locs ls q1 q3 q4 (by rw [q2.2.1 rfl]; exact hs)
theorem lw_widen {a2 b2 : Nat} (h2 : a ≤ a2 ∧ b ≤ b2) (k : lw_w G x scr nL h a2 b2 pc lo st) : lw_w G x scr nL h a b pc lo st := by
  obtain ⟨p, l, e, R, s, m, args, below, meth, c, Q, h1, ad1, al⟩ := x
  exact fun ad H locs ls q1 q3 q4 hs => W.widen h2.1 h2.2 (k ad H locs ls q1 q3 q4 hs)
theorem lw_lv10 {N : Nat → Nat} {i : Nat} : ¬ pa_lv N (10, i) := fun z => by
  have h : (100 : Nat) ≤ 10 := z.2.1
  omega
theorem lw_R10 {ad ad' : pa_Nm → Nat} {H : Heap} (hR : pa_R G ad h H) (had : ∀ n, ¬ n = (10, 0) → ad' n = ad n) : pa_R G ad' h H := by
  have hno : ∀ n, pa_lv h.2.2.1 n → ¬ n = (10, 0) := fun n hn z => by
    subst z
    exact lw_lv10 hn
  refine ⟨fun n hn => ?_, fun n m hn hm e => ?_, fun n hn => ?_, hR.2.2.2⟩
  · obtain ⟨g1, g2, g3, g4⟩ := pn_lvf hn
    have e := pn_ce (G := G) (Fr := fun n => n = (10, 0)) (ad := ad) (ad' := ad') (h := h) (h' := h) (z := n) (fun o => pn_k (by decide)) (fun o => pn_k (by decide)) (fun o => pn_k (by decide)) (pn_k (by decide)) (fun f i _ => pn_k (by omega)) had (fun _ _ _ _ => rfl) rfl rfl (fun k _ _ => rfl) (hno n hn) (fun f hf _ => pn_k (by have := (g4 f hf).2.1; omega)) (fun f j _ _ w hw => by rw [(pn_rc hw).1]; exact pn_k (by decide)) (fun j _ _ z => by
      rcases pa_le_k h n.2 j with w | w <;> rw [z] at w <;> cases w) g1 g2 g3
    rw [e, had n (hno n hn)]
    exact hR.1 n hn
  · rw [had n (hno n hn), had m (hno m hm)] at e
    exact hR.2.1 n m hn hm e
  · rw [had n (hno n hn)]
    exact hR.2.2.1 n hn
/-- what the tables say of the law's own method y, by its entry ix -/
def pa_csw (own : String) (ix : Nat) (y : pa_Y) (hh : List (Nat × Nat × Nat × Nat)) (n : Nat) : Prop := Cond.methodLink own ix y.1 ∈ pa_wl ∧ Cond.static y.1 ∈ pa_wl ∧ Cond.initialized y.1.cls ∈ pa_wl ∧ Cond.codeWith y.1 y.2.1 y.2.2.1 y.2.2.2 hh ∈ pa_wl ∧
  (y.1.cls ≠ "java/lang/invoke/MethodHandle" ∧ y.1.cls ≠ "java/lang/invoke/VarHandle") ∧ (parseMethodDescriptor y.1.desc).map (fun d => d.parameters.length) = some n ∧ y.2.2.1 ≤ 11
theorem pr_callL {y : pa_Y} {hh : List (Nat × Nat × Nat × Nat)} {d' ix n mc' ms' : Nat} {al' : Bool} {As : List pa_V} {post : Option pa_V → pa_H → Prop} (C : pa_C G x cc nL own d mc ms) (hs : ad0 (10, 0) = scr) (hM : pa_LM G x.2.1 y hh d' al' As h mc' ms' post) (hpr : ∀ r h', post r h' → ∃ k, r = some (pv_i k)) (cs : pa_csw own ix y hh n) (hst : st = As.reverse) (hn : As.length = n) (hd : d' + 1 ≤ d) (ha : a + mc' ≤ mc) (hb : b + ms' ≤ ms)
    (hlo : ∀ (j : Nat) (v : pa_V), lo[j]? = some (some v) → pa_ok h.2.2.1 v ∨ v = pv_o 10 0) (dg : decode cc pc = .ok (.invokestatic ix, 3)) (kk : ∀ (k : Int32) (h' : pa_H), post (some (pv_i k)) h' → lw_w G x scr nL h' (a + mc') (b + ms') (pc + 3) lo [pv_i k]) : pa_w G (lw_at x h0 ad0) nL h a b pc lo st := by
  rw [hst]
  obtain ⟨p, l, e, R, s, m, args, below, meth, c, Q, h1, ad1, al⟩ := x
  intro ad H locs ls q1 q2 q3 q4
  obtain ⟨hx, hb9, hml, hown, hts, hU, hf, hlo9, hc9, hs9, -, hZ⟩ := C
  obtain ⟨w1, w2, w3, w4, w5, w6, w7⟩ := cs
  have hf' : d ≤ R.frames := hf
  have hlo' : 30 * d ≤ R.locals := hlo9
  have hall : ∀ w ∈ pa_lws y hh, ∀ (a' : Array Value) (U : State), s.WarmedH U.vm → w.before a' U = true := by
    intro w hw a' U hW
    rcases List.mem_cons.mp hw with e | hw
    · rw [e]
      exact word_at hW (good_of_word (pa_wg w4)) (hts _ w4)
    · exact word_at hW (good_of_word (pa_wg hw)) (hts w hw)
  have cw : vx_CSW R s args own ix y.1 y.2.1 y.2.2.1 y.2.2.2 hh (pa_lws y hh) (pa_rm d' mc' ms') mc' ms' n :=
    ⟨⟨rfl, rfl, by show d' + 1 ≤ R.frames; omega, by show 8 + (y.2.2.1 + 11) + 30 * d' ≤ R.locals; omega, hall, List.mem_cons_self⟩, hts _ w4, hts _ w3, w5, fun sig h => by rw [h] at w6; exact (Option.some.inj w6).symm, hts _ w1, hts _ w2⟩
  have hrun := vx_runSW (p := p) (l := l) (e := e) (R := R) (s := s) (below := below) (meth := meth) (H := H) (locs := locs) (cells := a) (slots := b) (g := F0 m pc ls (As.reverse.map (pa_tr ad))) (As := As.map (pa_tr ad)) (rest := []) ⟨hx, hb9, hml, hown, hts⟩ (hM ad) cw ⟨pa_P_bl, fun U hU9 hW => ⟨rfl, by rw [hU9]; exact q1, hU.warm hW, hZ.at q3 hU9 hW⟩⟩ rfl (by rw [List.length_map]; exact hn) q4.1 (by rw [List.map_reverse, List.append_nil]) (pa_room ad [] (by decide)) dg ⟨by omega, by omega⟩
  have ead : ad (10, 0) = scr := by rw [q2.2.1 rfl]; exact hs
  intro T hT X
  obtain ⟨v9, st₀, t, T', L9, g0, X', hL, e1, e2, ⟨⟨r, h', ad', hoc, hp, hR, han⟩, hF⟩, hst9⟩ := hrun T hT X
  obtain ⟨k1, k2, k3⟩ := vx_keep g0 e1 q3 (fun _ _ z => z) (fun _ z => z) hL hF
  rw [← e1] at hR
  obtain ⟨ad2, had10, had⟩ : ∃ ad2 : pa_Nm → Nat, ad2 (10, 0) = scr ∧ ∀ n, ¬ n = (10, 0) → ad2 n = ad' n := ⟨fun n => if n = (10, 0) then scr else ad' n, if_pos rfl, fun n hn => if_neg hn⟩
  have hLo : pa_Lo ad2 ls nL lo := ⟨q4.1, q4.2.1, fun j v hv => by
    obtain ⟨a1, a2⟩ := q4.2.2 j v hv
    refine ⟨?_, a2⟩
    rw [a1]
    congr 2
    rcases hlo j v hv with ok | rfl
    · match v, ok with
      | .inl _, _ => rfl
      | .inr (.inl _), _ => rfl
      | .inr (.inr none), _ => rfl
      | .inr (.inr (some n)), ok =>
        have ok : n.1 ≠ 8 ∧ pa_lv h.2.2.1 n := ok
        show Value.ref (ad n) = Value.ref (ad2 n)
        rw [had n (fun z => by subst z; exact lw_lv10 ok.2), han.1 n ok.1 ok.2]
    · show Value.ref (ad (10, 0)) = Value.ref (ad2 (10, 0))
      rw [ead, had10]⟩
  obtain ⟨k, rfl⟩ := hpr r h' hp
  obtain ⟨t2, a1, b1⟩ := kk k h' hp ad2 T'.heap (locs ++ L9) ls (lw_R10 hR had) k3 hLo had10 T' rfl X'
  have hv : v9 = some (.int k) := by
    cases hoc
    rfl
  subst hv
  exact ⟨t2, hst9 t2 a1, b1⟩
theorem pr_slen (C : pa_C G (lw_at x h0 ad0) cc nL own d mc ms) (X : lw_X G x scr L xs) (hs : ad0 (10, 0) = scr) (dg : decode cc pc = .ok (.arraylength, 1)) (kk : pa_w G (lw_at x h0 ad0) nL h a b (pc + 1) lo (pv_i (nI L) :: st)) : pa_w G (lw_at x h0 ad0) nL h a b pc lo (pv_o 10 0 :: st) := by
  obtain ⟨p, l, e, R, s, m, args, below, meth, c, Q, h1, ad1, al⟩ := x
  intro ad H locs ls q1 q2 q3 q4
  have ead : ad (10, 0) = scr := by rw [q2.2.1 rfl]; exact hs
  have k := kk ad H locs ls q1 q2 q3 q4
  have k2 := va_slen (rest := st.map (pa_tr ad)) C.1 C.2.1 X.1 X.2.1 (fun z => absurd X.2.2 (Nat.not_lt.mpr z)) q3 dg k
  rw [List.map_cons, show pa_tr ad (pv_o 10 0) = .ref scr from congrArg Value.ref ead]
  exact k2
theorem pr_sld (C : pa_C G (lw_at x h0 ad0) cc nL own d mc ms) (X : lw_X G x scr L xs) (hs : ad0 (10, 0) = scr) {i : Nat} (hi : i < L) (hL : L < 100000) (dg : decode cc pc = .ok (.iaload, 1)) (kk : pa_w G (lw_at x h0 ad0) nL h a b (pc + 1) lo (pv_i (xs i) :: st)) : pa_w G (lw_at x h0 ad0) nL h a b pc lo (pv_i (nI i) :: pv_o 10 0 :: st) := by
  obtain ⟨p, l, e, R, s, m, args, below, meth, c, Q, h1, ad1, al⟩ := x
  intro ad H locs ls q1 q2 q3 q4
  have ead : ad (10, 0) = scr := by rw [q2.2.1 rfl]; exact hs
  have k := kk ad H locs ls q1 q2 q3 q4
  have hcl : (nI i).toNatClampNeg = i := nI_clamp (by omega)
  have k2 := va_sld (i := nI i) (rest := st.map (pa_tr ad)) C.1 C.2.1 X.1 X.2.1 (fun z => absurd X.2.2 (Nat.not_lt.mpr z)) q3 (vp_in_nI hi (by omega)) dg (by rw [hcl]; exact k)
  rw [List.map_cons, List.map_cons, show pa_tr ad (pv_o 10 0) = .ref scr from congrArg Value.ref ead]
  exact k2
/-- an argument from the script -/
theorem pr_arg (C : pa_C G (lw_at x h0 ad0) cc nL own d mc ms) (X : lw_X G x scr L xs) (hs : ad0 (10, 0) = scr) (hL : L < 100000) {i : Nat} (k : Nat) (hk : k < 6) (hik : i + k < L) (l0 : lo[0]? = some (some (pv_o 10 0))) (l4 : lo[4]? = some (some (pv_i (nI i)))) (d0 : decode cc pc = .ok (.aload_n 0, 1)) (d1 : decode cc (pc + 1) = .ok (.iload 4, 2)) (d2 : decode cc (pc + 3) = .ok (.iconst (k : Int), 1)) (d3 : decode cc (pc + 4) = .ok (.iadd, 1)) (d4 : decode cc (pc + 5) = .ok (.iaload, 1))
    (kk : pa_w G (lw_at x h0 ad0) nL h a b (pc + 6) lo (pv_i (xs (i + k)) :: st)) : pa_w G (lw_at x h0 ad0) nL h a b pc lo st := by
  refine pr_aload_n C d0 l0 ?_
  refine pr_iload C d1 l4 ?_
  refine pr_iconst C d2 (show Int32.ofInt (k : Int) = nI k by rcases (show k = 0 ∨ k = 1 ∨ k = 2 ∨ k = 3 ∨ k = 4 ∨ k = 5 by omega) with rfl | rfl | rfl | rfl | rfl | rfl <;> rfl) ?_
  refine pr_iaddN C d3 i k rfl rfl ?_
  exact pr_sld C X hs hik hL d4 kk
theorem pr_arg6 (C : pa_C G (lw_at x h0 ad0) cc nL own d mc ms) (X : lw_X G x scr L xs) (hs : ad0 (10, 0) = scr) (hL : L < 100000) {i : Nat} (hik : i + 6 < L) (l0 : lo[0]? = some (some (pv_o 10 0))) (l4 : lo[4]? = some (some (pv_i (nI i)))) (d0 : decode cc pc = .ok (.aload_n 0, 1)) (d1 : decode cc (pc + 1) = .ok (.iload 4, 2)) (d2 : decode cc (pc + 3) = .ok (.bipush 6, 2)) (d3 : decode cc (pc + 5) = .ok (.iadd, 1)) (d4 : decode cc (pc + 6) = .ok (.iaload, 1))
    (kk : pa_w G (lw_at x h0 ad0) nL h a b (pc + 7) lo (pv_i (xs (i + 6)) :: st)) : pa_w G (lw_at x h0 ad0) nL h a b pc lo st := by
  refine pr_aload_n C d0 l0 ?_
  refine pr_iload C d1 l4 ?_
  refine pr_bipush C d2 (show (Int8.ofInt 6).toInt32 = nI 6 by decide) ?_
  refine pr_iaddN C d3 i 6 rfl rfl ?_
  exact pr_sld C X hs hik hL d4 kk
end LAWR
