/-! A NEW STEP, A NEW TURN: their constructors; the names of what was made -/
theorem lr_startI (l : Launch) {y : pa_Y} {av : List Value} {B : State → Prop} {Qc : Array Value → State → Outcome → State → Prop} {d mc ms : Nat} {free : Nat → Prop} (hy : plainName y.1.cls = true) (hl : Nat.ble (lg_sl av).length y.2.2.1 = true)
    (body : ∀ (p : Program) (e : Env) (s : State) (m : MethodId) (below : List Frame) (meth : Method) (c : Code) (ls : Array Slot), p.tables.exec = Jvm.exec → c.code = y.2.1 → c.maxLocals = y.2.2.1 → s.vm.findClass y.1.cls = some m.cls → (∀ w ∈ pa_wl, w.before av.toArray s = true) → meth.sig.returnType = y.2.2.2 → meth.locks = false → meth.name = y.1.name → B s → lv_has ls y.2.2.1 (lv_args 0 av) →
      W p l e (pa_rm d mc ms) s m av.toArray below meth c s.heap [] 0 0 (MQ below Qc av.toArray s mc ms free) (F0 m 0 ls [])) : Met l y.1 (pa_ws y) (pa_rm d mc ms) (va_Pc av B) Qc mc ms free := by
  refine Met.ofW (cc := y.2.1) (maxL := y.2.2.1) (ret := y.2.2.2) (ws' := pa_wl) hy rfl ?_
  intro p e s m args below meth c s₁ B hml hv
  obtain ⟨rfl, hB⟩ := hv
  have hts : ∀ w ∈ pa_wl, w.before av.toArray s = true := fun w hw => atoms_spec (ws := pa_ws y) B.pre w (List.mem_cons_of_mem _ hw)
  have hle := lv_entry av (n := y.2.2.1) (Nat.le_of_ble_eq_true hl)
  rw [lg_entry_eq]
  exact body p e s m below meth c _ B.exec B.bytes hml (findClass_of_methodNamed B.named) hts B.returns B.notSynchronized (name_of_methodNamed B.named B.method).1 hB hle
set_option maxRecDepth 100000 in
set_option maxHeartbeats 2000000 in
theorem lr_stepInit (G : pa_G) (l : Launch) (sz q : Nat) (w x v : Int32) : Met l yX1_init (pa_ws mX1_init) (pa_rm 2 0 0) (va_Pc [.ref q, .int w, .int x, .int v] (lr_B G sz [(q, .inr (2, [.int 0, .int 0, .int 0]))] (fun _ => False)))
    (va_Qv (fun _ : lr_ONE => True) (fun _ t => va_P G.1 vwCl [(q, .inr (2, [.int w, .int x, .int v]))] t.heap) (fun z => z = q)) 0 0 (fun z => z = q) := by
  refine lr_startI (y := mX1_init) l (by decide) rfl fun p e s mm below meth c ls hx hb hml hown hts hr hlk hin hB hl => ?_
  obtain ⟨hsz, hP, hel, hU, hZ⟩ := hB
  have hl : lv_has ls 4 [(0, .ref q), (1, .int w), (2, .int x), (3, .int v)] := hl
  have hS : va_S (fun z => z = q) s.heap s.heap [] := va_S.rf
  have hD : va_D (fun z => z = q) [(q, .inr (2, [.int 0, .int 0, .int 0]))] := lr_d1 rfl
  refine lv_aload_n hx hb dX1_init_0 rfl (lv_at hl 0 rfl) ?_
  refine W.objInit hx hb hown (hts (.methodLink RX1 1 objectInit) (lr_w (by decide +kernel) rfl)) (hts (.instanceMethod objectInit) (lr_w (by decide +kernel) rfl)) (hts (.code objectInit ⟨#[0xb1]⟩ 1 none) (lr_w (by decide +kernel) rfl)) rfl (by rw [hml]; exact hl.1) rfl dX1_init_1 (Nat.le_of_ble_eq_true rfl) (Nat.le_of_ble_eq_true rfl) ?_
  refine lv_aload_n hx hb dX1_init_4 rfl (lv_at hl 0 rfl) ?_
  refine lv_iload_n hx hb dX1_init_5 rfl (lv_at hl 1 rfl) ?_
  refine va_putF (ref := RX1) (ci := 2) (v := .int w) (ty := .int) (C := RX1) (T := TX1) (N := 3) hx hb hts in_X1 tyX1 tyX1_ok nmX1 hown hU.1 hP hD hS 0 rfl rfl 0 (by decide) (hts _ (lr_w (w := .fieldLink RX1 7 RX1 "speaker" "I") (by decide +kernel) rfl)) (fun _ z => z) rfl hin rfl rfl rfl rfl (Nat.le_of_ble_eq_true rfl) dX1_init_6 (fun H1 locs1 hP hD hS => ?_)
  refine lv_aload_n hx hb dX1_init_9 rfl (lv_at hl 0 rfl) ?_
  refine lv_iload_n hx hb dX1_init_10 rfl (lv_at hl 2 rfl) ?_
  refine va_putF (ref := RX1) (ci := 2) (v := .int x) (ty := .int) (C := RX1) (T := TX1) (N := 3) hx hb hts in_X1 tyX1 tyX1_ok nmX1 hown hU.1 hP hD hS 0 rfl rfl 1 (by decide) (hts _ (lr_w (w := .fieldLink RX1 13 RX1 "atom" "I") (by decide +kernel) rfl)) (fun _ z => z) rfl hin rfl rfl rfl rfl (Nat.le_of_ble_eq_true rfl) dX1_init_11 (fun H1 locs1 hP hD hS => ?_)
  refine lv_aload_n hx hb dX1_init_14 rfl (lv_at hl 0 rfl) ?_
  refine lv_iload_n hx hb dX1_init_15 rfl (lv_at hl 3 rfl) ?_
  refine va_putF (ref := RX1) (ci := 2) (v := .int v) (ty := .int) (C := RX1) (T := TX1) (N := 3) hx hb hts in_X1 tyX1 tyX1_ok nmX1 hown hU.1 hP hD hS 0 rfl rfl 2 (by decide) (hts _ (lr_w (w := .fieldLink RX1 16 RX1 "value" "I") (by decide +kernel) rfl)) (fun _ z => z) rfl hin rfl rfl rfl rfl (Nat.le_of_ble_eq_true rfl) dX1_init_16 (fun H1 locs1 hP hD hS => ?_)
  exact W.vret hx hb hr (fun t ht hW => ⟨⟨(), rfl, trivial, (by subst ht; exact hP)⟩, hS.F ht⟩) hS.2.2 dX1_init_19
/-- cells of old names behind the making of new ones: Fr the new names -/
theorem pn_ce {G : pa_G} {ad ad' : pa_Nm → Nat} {h h' : pa_H} {Fr : pa_Nm → Prop} (hF0 : ∀ o, ¬ Fr (0, o)) (hF1 : ∀ o, ¬ Fr (1, o)) (hF8 : ∀ o, ¬ Fr (8, o)) (hF4 : ¬ Fr (4, 0)) (hFr : ∀ f i, ¬ Fr (f / 40, i) → ¬ Fr (100 + f, i)) (had : ∀ n, ¬ Fr n → ad' n = ad n)
    (hK : ∀ f i j, ¬ Fr (f / 40, i) → h'.1 f i j = h.1 f i j) (hS : h'.2.1 = h.2.1) (hO : h'.2.2.2 = h.2.2.2) (hN : ∀ k, 2 ≤ k → k < 8 → h'.2.2.1 k = h.2.2.1 k) {z : pa_Nm} (hz : ¬ Fr z) (hz2 : ∀ f, z.1 = 100 + f → 40 ≤ f → ¬ Fr (f / 40, z.2))
    (href : ∀ f j, (pa_ty f = 2 ∧ j = 0) ∨ pa_ty f = 4 → (z.1 < 6 ∧ f / 40 = z.1 ∨ z.1 = 100 + f) → ∀ n, pa_rc 3 (h.1 f z.2 j) = some n → ¬ Fr n)
    (hel : ∀ j, z.1 = 8 → j < h.2.2.1 (2 + z.2) → ¬ Fr (pa_le h z.2 j)) (h8 : z.1 = 8 → z.2 < 3) (h00 : z.1 = 0 → z.2 < 3) (hz40 : z.1 < 10 ∨ 140 ≤ z.1) : pa_ce G ad' h' z = pa_ce G ad h z := by
  obtain ⟨k, o⟩ := z
  dsimp only at hz2 href hel h8 h00 hz40
  have hmap : ∀ v : Int32, (∀ n, pa_rc 3 v = some n → ¬ Fr n) → (pa_rc 3 v).map ad' = (pa_rc 3 v).map ad := fun v hv => by
    cases e : pa_rc 3 v with
    | none => rfl
    | some n => rw [Option.map_some, Option.map_some, had n (hv n e)]
  by_cases c0 : k = 0
  · subst c0
    have := h00 rfl
    rw [pa_ce_l, pa_ce_l, hK 0 o 0 (hF0 o), hN (5 + o) (by omega) (by omega), hN (2 + o) (by omega) (by omega), had (8, o) (hF8 o)]
  by_cases c1 : k < 6
  · rw [pa_ce_ob G ad' h' o (by omega) c1, pa_ce_ob G ad h o (by omega) c1]
    have : pa_fs ad' h' k o (pa_nf k) = pa_fs ad h k o (pa_nf k) := by
      unfold pa_fs
      refine List.map_congr_left fun q hq => ?_
      have hq9 := List.mem_range.mp hq
      have hnf : pa_nf k ≤ 40 := by
        rcases (show k = 1 ∨ k = 2 ∨ k = 3 ∨ k = 4 ∨ k = 5 by omega) with rfl | rfl | rfl | rfl | rfl <;> decide
      have hd : (40 * k + q) / 40 = k := by omega
      have hK2 : ∀ j, h'.1 (40 * k + q) o j = h.1 (40 * k + q) o j := fun j => hK _ _ _ (by rw [hd]; exact hz)
      unfold pa_fv
      rw [hK2, hS]
      by_cases t0 : pa_ty (40 * k + q) = 0 ∨ pa_ty (40 * k + q) = 8
      · rw [if_pos t0, if_pos t0]
      rw [if_neg t0, if_neg t0]
      by_cases t2 : pa_ty (40 * k + q) = 2
      · rw [if_pos t2, if_pos t2, hmap _ (href _ 0 (Or.inl ⟨t2, rfl⟩) (Or.inl ⟨c1, hd⟩))]
      rw [if_neg t2, if_neg t2]
      by_cases t3 : pa_ty (40 * k + q) = 3
      · rw [if_pos t3, if_pos t3, had _ (hF1 _)]
      rw [if_neg t3, if_neg t3]
      by_cases t6 : pa_ty (40 * k + q) = 6
      · rw [if_pos t6, if_pos t6, had _ (hF0 _)]
      rw [if_neg t6, if_neg t6]
      by_cases t10 : pa_ty (40 * k + q) = 10 ∨ pa_ty (40 * k + q) = 11
      · rw [if_pos t10, if_pos t10]
      · rw [if_neg t10, if_neg t10, had _ (hFr _ _ (by rw [hd]; exact hz))]
    rw [this]
  unfold pa_ce
  dsimp only
  rw [if_neg c0, if_neg c0, if_neg c1, if_neg c1]
  by_cases c2 : k = 6
  · rw [if_pos c2, if_pos c2]
  rw [if_neg c2, if_neg c2]
  by_cases c3 : k = 7
  · rw [if_pos c3, if_pos c3]
  rw [if_neg c3, if_neg c3]
  by_cases c4 : k = 8
  · have ho := h8 c4
    rw [if_pos c4, if_pos c4, hN (5 + o) (by omega) (by omega), hN (2 + o) (by omega) (by omega)]
    have hle : ∀ j, pa_le h' o j = pa_le h o j := fun j => by
      unfold pa_le
      rw [hK 163 0 j hF4]
    have e9 : (fun j => if j < h.2.2.1 (2 + o) then some (ad' (pa_le h' o j)) else none) = (fun j => if j < h.2.2.1 (2 + o) then some (ad (pa_le h o j)) else none) := funext fun j => by
      by_cases c : j < h.2.2.1 (2 + o)
      · rw [if_pos c, if_pos c, hle, had _ (hel j c4 c)]
      · rw [if_neg c, if_neg c]
    rw [e9]
  rw [if_neg c4, if_neg c4]
  by_cases c5 : k = 9
  · rw [if_pos c5, if_pos c5, hO]
  rw [if_neg c5, if_neg c5]
  have hk : 40 ≤ k - 100 := by omega
  have hf := hz2 (k - 100) (by omega) hk
  have : pa_av ad' h' (k - 100) o = pa_av ad h (k - 100) o := by
    have hK2 : h'.1 (k - 100) o = h.1 (k - 100) o := funext fun j => hK _ _ _ hf
    unfold pa_av
    rw [hK2, hS]
    by_cases t1 : pa_ty (k - 100) = 1
    · rw [if_pos t1, if_pos t1]
    rw [if_neg t1, if_neg t1]
    by_cases t4 : pa_ty (k - 100) = 4
    · rw [if_pos t4, if_pos t4]
      have e1 : (fun j => (pa_rc 3 (h.1 (k - 100) o j)).map ad') = (fun j => (pa_rc 3 (h.1 (k - 100) o j)).map ad) := funext fun j => hmap _ (href _ j (Or.inr t4) (Or.inr (by omega)))
      rw [e1]
    rw [if_neg t4, if_neg t4]
    by_cases t5 : pa_ty (k - 100) = 5
    · rw [if_pos t5, if_pos t5]
      have e1 : (fun j => some (ad' (1, j))) = (fun j => some (ad (1, j))) := funext fun j => by rw [had _ (hF1 j)]
      rw [e1]
    rw [if_neg t5, if_neg t5]
  rw [this]
theorem pn_k {k i k' i' : Nat} (h : k ≠ k') : ¬ ((k, i) : pa_Nm) = (k', i') := fun z => h (congrArg Prod.fst z)
theorem pn_rc {v : Int32} {n : pa_Nm} (h : pa_rc 3 v = some n) : n = (3, v.toNatClampNeg) ∧ ¬ v < 0 := by
  unfold pa_rc at h
  by_cases c : v < 0
  · rw [if_pos c] at h
    cases h
  · rw [if_neg c] at h
    cases h
    exact ⟨rfl, c⟩
theorem pn_lvf {N : Nat → Nat} {z : pa_Nm} (h : pa_lv N z) : (z.1 = 8 → z.2 < 3) ∧ (z.1 = 0 → z.2 < 3) ∧ (z.1 < 10 ∨ 140 ≤ z.1) ∧ ∀ f, z.1 = 100 + f → 1 ≤ f / 40 ∧ f / 40 ≤ 5 ∧ pa_lo N (f / 40) z.2 := by
  obtain ⟨k, i⟩ := z
  dsimp only
  have h' : 10 ≤ k → 100 ≤ k ∧ pa_lo N ((k - 100) / 40) i := fun hk => by
    unfold pa_lv at h
    dsimp only at h
    rw [if_neg (by omega), if_neg (by omega), if_neg (by omega), if_neg (by omega), if_neg (by omega), if_neg (by omega)] at h
    exact h.2
  have lo : ∀ q, pa_lo N q i → 1 ≤ q ∧ q ≤ 5 := fun q hq => by
    unfold pa_lo at hq
    by_cases c1 : q = 1
    · omega
    by_cases c2 : q = 2
    · omega
    by_cases c3 : q = 3
    · omega
    by_cases c4 : q = 4 ∨ q = 5
    · omega
    rw [if_neg c1, if_neg c2, if_neg c3, if_neg c4] at hq
    exact hq.elim
  refine ⟨fun e => ?_, fun e => ?_, ?_, fun f e => ?_⟩
  · subst e
    exact (show i < 3 ∧ N (5 + i) ≠ 0 from h).1
  · subst e
    exact h
  · by_cases c : k < 10
    · exact Or.inl c
    · have := h' (by omega)
      have := lo _ this.2
      omega
  · subst e
    have := h' (by omega)
    rw [Nat.add_sub_cancel_left] at this
    have l2 := lo _ this.2
    exact ⟨l2.1, l2.2, this.2⟩
theorem pn_lv9 {N : Nat → Nat} {v : Nat} {n : pa_Nm} (hn : n.1 ≠ 7) : pa_lv (pa_un N 9 v) n ↔ pa_lv N n := by
  obtain ⟨k, i⟩ := n
  have e0 : pa_un N 9 v 0 = N 0 := if_neg (by decide)
  have e1 : pa_un N 9 v 1 = N 1 := if_neg (by decide)
  have e8 : pa_un N 9 v 8 = N 8 := if_neg (by decide)
  have e5 : i < 3 → pa_un N 9 v (5 + i) = N (5 + i) := fun h => if_neg (by omega)
  have el : pa_lo (pa_un N 9 v) = pa_lo N := funext fun k => funext fun i => by
    unfold pa_lo
    rw [e0, e1]
  unfold pa_lv
  dsimp only at hn ⊢
  rw [if_neg hn, if_neg hn, el, e8]
  by_cases c : i < 3
  · rw [e5 c]
  · by_cases c8 : k = 8
    · subst c8
      constructor
      · exact fun z => absurd z.1 c
      · exact fun z => absurd z.1 c
    · rw [if_neg c8, if_neg c8]
theorem pn_lv1 {N : Nat → Nat} {n : pa_Nm} (hn : n ≠ (2, N 1)) : pa_lv (pa_un N 1 (N 1 + 1)) n ↔ pa_lv N n := by
  obtain ⟨k, i⟩ := n
  have e0 : pa_un N 1 (N 1 + 1) 0 = N 0 := if_neg (by decide)
  have e1 : pa_un N 1 (N 1 + 1) 1 = N 1 + 1 := if_pos rfl
  have e8 : pa_un N 1 (N 1 + 1) 8 = N 8 := if_neg (by decide)
  have e9 : pa_un N 1 (N 1 + 1) 9 = N 9 := if_neg (by decide)
  have e5 : pa_un N 1 (N 1 + 1) (5 + i) = N (5 + i) := if_neg (by omega)
  have el : ∀ q, q ≠ 2 → (pa_lo (pa_un N 1 (N 1 + 1)) q i ↔ pa_lo N q i) := fun q hq => by
    unfold pa_lo
    rw [e0, if_neg hq, if_neg hq]
  unfold pa_lv
  dsimp only
  rw [e8, e9, e5]
  by_cases c2 : k = 2
  · subst c2
    have : i ≠ N 1 := fun z => hn (by rw [z])
    show (i < pa_un N 1 (N 1 + 1) 1) ↔ i < N 1
    rw [e1]
    omega
  by_cases c0 : k = 0
  · rw [if_pos c0, if_pos c0]
  rw [if_neg c0, if_neg c0]
  by_cases c1 : k < 6
  · rw [if_pos c1, if_pos c1]
    exact el k c2
  rw [if_neg c1, if_neg c1]
  by_cases c6 : k = 6
  · rw [if_pos c6, if_pos c6]
  rw [if_neg c6, if_neg c6]
  by_cases c7 : k = 7
  · rw [if_pos c7, if_pos c7]
  rw [if_neg c7, if_neg c7]
  by_cases c8 : k = 8
  · rw [if_pos c8, if_pos c8]
  rw [if_neg c8, if_neg c8]
  by_cases c9 : k = 9
  · rw [if_pos c9, if_pos c9]
  rw [if_neg c9, if_neg c9]
  by_cases cf : (k - 100) / 40 = 2
  · have hz : pa_ln (k - 100) = 0 := by
      have hh : ∀ q, q < 40 → pa_ln (80 + q) = 0 := by decide +kernel
      have := hh (k - 100 - 80) (by omega)
      rwa [show 80 + (k - 100 - 80) = k - 100 by omega] at this
    constructor
    · exact fun z => absurd hz z.1
    · exact fun z => absurd hz z.1
  · exact and_congr Iff.rfl (and_congr Iff.rfl (el _ cf))
/-- the heap behind the making of new names -/
theorem pn_R {G : pa_G} {ad ad' : pa_Nm → Nat} {h h' : pa_H} {H H1 : Heap} {Fr : pa_Nm → Prop} (hR : pa_R G ad h H) (had : ∀ n, ¬ Fr n → ad' n = ad n)
    (hold : ∀ n, pa_lv h'.2.2.1 n → ¬ Fr n → pa_lv h.2.2.1 n ∧ pa_ce G ad' h' n = pa_ce G ad h n ∧ H1[ad n]? = H[ad n]?)
    (hnew : ∀ n, pa_lv h'.2.2.1 n → Fr n → va_at G.1 vwCl (ad' n, pa_ce G ad' h' n) H1 ∧ G.2.2.1 ≤ ad' n)
    (hinj : ∀ n m, pa_lv h'.2.2.1 n → pa_lv h'.2.2.1 m → Fr n → ad' n = ad' m → n = m)
    (hz : H1[G.2.2.2]? = H[G.2.2.2]?) (hsz : H.size ≤ H1.size) : pa_R G ad' h' H1 := by
  refine ⟨fun n hn => ?_, fun n m hn hm e => ?_, fun n hn => ?_, (by rw [hz]; exact hR.2.2.2.1), hR.2.2.2.2.1, Nat.le_trans hR.2.2.2.2.2 hsz⟩
  · by_cases c : Fr n
    · exact (hnew n hn c).1
    · obtain ⟨a1, a2, a3⟩ := hold n hn c
      rw [had n c, a2]
      exact (hR.1 n a1).kept a3
  · by_cases c : Fr n
    · exact hinj n m hn hm c e
    · by_cases c2 : Fr m
      · exact (hinj m n hm hn c2 e.symm).symm
      · rw [had n c, had m c2] at e
        exact hR.2.1 n m (hold n hn c).1 (hold m hm c2).1 e
  · by_cases c : Fr n
    · exact (hnew n hn c).2
    · rw [had n c]
      exact hR.2.2.1 n (hold n hn c).1
theorem pa_ce_7 (G : pa_G) (ad : pa_Nm → Nat) (h : pa_H) : pa_ce G ad h (7, 0) = .inr (2, [.int 0, .int 0, .int 0]) := by
  unfold pa_ce
  rw [if_neg (by decide), if_neg (by decide), if_neg (by decide), if_pos rfl]
section NEWS
variable {G : pa_G} {x : pa_X} {cc : ByteArray} {nL : Nat} {d mc ms : Nat} {K : Nat → Nat → Nat → Int32} {S : Nat → Nat → Int32} {N : Nat → Nat} {O : Nat → Int64} {a b pc : Nat} {lo : List (Option pa_V)}
theorem pr_newS {st : List pa_V} (C : pa_C G x cc nL RX3 d mc ms) (hal : x.2.2.2.2.2.2.2.2.2.2.2.2.2 = true) (hN9 : N 9 = 0) (hst : pa_okl N st) (hlo : pa_oko N lo) (ha : a + 1 ≤ mc) (hb : b + 3 ≤ ms) (dg : decode cc pc = .ok (.new 201, 3))
    (kk : pa_w G x nL (K, S, pa_un N 9 1, O) (a + 1) (b + 3) (pc + 3) lo (pv_o 7 0 :: st)) : pa_w G x nL (K, S, N, O) a b pc lo st := by
  obtain ⟨p, l, e, R, s, m, args, below, meth, c, Q, h0, ad0, al⟩ := x
  intro ad H locs ls q1 q2 q3 q4
  obtain ⟨hx, hb9, hml, hown, hts, hU, hf, hlo9, hc9, hs9, -, hZ⟩ := C
  have hal : al = true := hal
  have hKn := hU.1.1 2 (RX1, TX1, 3) rfl
  refine W.newcK hx hb9 hown (hts _ (pa_wi (w := .classLink RX3 201 RX1) (by decide +kernel) rfl)) (hts _ (pa_wi (w := .instantiable RX1 3) (by decide +kernel) rfl)) (hts _ (pa_wi (w := .initialized RX1) (by decide +kernel) rfl)) rfl dg (by omega) (by omega) hKn.2.1 rfl fun H1 kC hkC e1 z1 o1 => ?_
  obtain ⟨ad', had7, had⟩ : ∃ ad' : pa_Nm → Nat, ad' (7, 0) = H.size ∧ ∀ n, ¬ n = (7, 0) → ad' n = ad n := ⟨fun n => if n = (7, 0) then H.size else ad n, if_pos rfl, fun n hn => if_neg hn⟩
  have hlt : ∀ n, pa_lv N n → ad n < H.size := fun n hn => (q1.1 n hn).lt
  have hno : ∀ n, pa_lv N n → ¬ n = (7, 0) := fun n hn z => by
    subst z
    have : (0 : Nat) = 0 ∧ N 9 = 1 := hn
    omega
  have hl7 : ∀ n, pa_lv (pa_un N 9 1) n → ¬ n = (7, 0) → pa_lv N n := fun n hn hz => by
    by_cases c7 : n.1 = 7
    · obtain ⟨k, i⟩ := n
      dsimp only at c7
      subst c7
      have : i = 0 ∧ pa_un N 9 1 9 = 1 := hn
      exact absurd (by rw [this.1]) hz
    · exact (pn_lv9 c7).mp hn
  have hag : pa_ag (K, S, N, O) ad ad' := fun n _ hn => had n (hno n hn)
  have hR : pa_R G ad' (K, S, pa_un N 9 1, O) H1 := by
    refine pn_R (Fr := fun n => n = (7, 0)) q1 had (fun n hn hz => ?_) (fun n hn hz => ?_) (fun n m hn hm hz e => ?_) (o1 _ (by have := q1.2.2.2.2; omega)) (by omega)
    · have hn0 := hl7 n hn hz
      obtain ⟨g1, g2, g3, g4⟩ := pn_lvf hn0
      refine ⟨hn0, pn_ce (Fr := fun n => n = (7, 0)) (h' := (K, S, pa_un N 9 1, O)) (h := (K, S, N, O)) (fun o => pn_k (by decide)) (fun o => pn_k (by decide)) (fun o => pn_k (by decide)) (pn_k (by decide)) (fun f i _ => pn_k (by omega)) had (fun _ _ _ _ => rfl) rfl rfl (fun k h1 h2 => if_neg (by omega)) hz (fun f hf h4 => pn_k (by have := g4 f hf; omega)) (fun f j _ _ w hw => ?_) (fun j _ _ => ?_) g1 g2 g3, o1 _ (hlt n hn0)⟩
      · rw [(pn_rc hw).1]
        exact pn_k (by decide)
      · exact fun z => by
          have := pa_le_k (K, S, N, O) n.2 j
          rw [z] at this
          rcases this with w | w <;> cases w
    · subst hz
      rw [had7, pa_ce_7]
      exact ⟨⟨(RX1, TX1, 3), rfl, (u_born tyX1 hts in_X1 hKn hkC e1 tyX1_ok).to (fun j hj => by
        rcases (show j = 0 ∨ j = 1 ∨ j = 2 by omega) with rfl | rfl | rfl <;> rfl)⟩, q1.2.2.2.2.2⟩
    · subst hz
      by_cases c : m = (7, 0)
      · exact c.symm
      · rw [had7, had m c] at e
        have := hlt m (hl7 m hm c)
        omega
  have k2 := kk ad' H1 locs ls hR ⟨fun n h8 hn => (had n (hno n (q2.2.2 n hn))).trans (q2.1 n h8 hn), fun z => (by rw [hal] at z; cases z), fun n hn => (pn_lv9 (fun z => hno n (q2.2.2 n hn) (by
    obtain ⟨k, i⟩ := n
    dsimp only at z
    subst z
    have : i = 0 ∧ N 9 = 1 := q2.2.2 _ hn
    omega))).mpr (q2.2.2 n hn)⟩ ⟨Nat.le_trans q3.1 (by omega), fun q h1 h2 => (o1 q (Nat.lt_of_lt_of_le h1 q3.1)).trans (q3.2.1 q h1 h2), q3.2.2⟩ (pa_Lo_ok hag hlo q4)
  rw [List.map_cons, pa_okl_tr hag hst] at k2
  have e7 : pa_tr ad' (pv_o 7 0) = .ref H.size := congrArg Value.ref had7
  rw [e7] at k2
  exact k2
theorem pr_initS {rest : List pa_V} {w y v : Int32} (C : pa_C G x cc nL RX3 d mc ms) (hal : x.2.2.2.2.2.2.2.2.2.2.2.2.2 = true) (hh0 : x.2.2.2.2.2.2.2.2.2.2.2.1.2.2.1 9 = 0) (hN9 : N 9 = 0) (hel : ∀ l j, l < 3 → j < N (2 + l) → pa_lv N (pa_le (K, S, N, O) l j)) (hst : pa_okl N rest) (hlo : pa_oko N lo) (hd : 3 ≤ d) (hr : rest.length ≤ 3) (dg : decode cc pc = .ok (.invokespecial 363, 3))
    (ha : a ≤ mc) (hb : b ≤ ms) (kk : pa_w G x nL (pa_up (pa_up (pa_up K 80 (N 1) 0 w) 81 (N 1) 0 y) 82 (N 1) 0 v, S, pa_un N 1 (N 1 + 1), O) a b (pc + 3) lo (pv_o 2 (N 1) :: rest)) : pa_w G x nL (K, S, pa_un N 9 1, O) a b pc lo (pv_i v :: pv_i y :: pv_i w :: pv_o 7 0 :: pv_o 7 0 :: rest) := by
  obtain ⟨p, l, e, R, s, m, args, below, meth, c, Q, h0, ad0, al⟩ := x
  intro ad H locs ls q1 q2 q3 q4
  obtain ⟨hx, hb9, hml, hown, hts, hU, hf, hlo9, hc9, hs9, -, hZ⟩ := C
  have hal : al = true := hal
  have hh0 : h0.2.2.1 9 = 0 := hh0
  have hl70 : pa_lv (pa_un N 9 1) (7, 0) := ⟨rfl, rfl⟩
  have h7 := q1.1 (7, 0) hl70
  rw [pa_ce_7] at h7
  have cw : CallB R s args RX3 363 mX1_init.1 mX1_init.2.1 mX1_init.2.2.1 mX1_init.2.2.2 (pa_ws mX1_init) (pa_rm 2 0 0) 0 0 3 := pa_cb (y := mX1_init) hts hf hlo9 hd (pa_wi (by decide +kernel) rfl) (pa_wi (by decide +kernel) rfl) (pa_wi (by decide +kernel) rfl) (by decide) (by decide +kernel) (by decide)
  have hrun := va_runI (e := e) (p := p) (l := l) (R := R) (s := s) (below := below) (meth := meth) (locs := locs) (cells := a) (slots := b) (g := F0 m pc ls (.int v :: .int y :: .int w :: .ref (ad (7, 0)) :: .ref (ad (7, 0)) :: rest.map (pa_tr ad))) (b := ad (7, 0)) (As := [.int w, .int y, .int v]) (rest := .ref (ad (7, 0)) :: rest.map (pa_tr ad)) ⟨hx, hb9, hml, hown, hts⟩ (lr_stepInit G l H.size (ad (7, 0)) w y v) ⟨cw, rfl, hts _ (pa_wi (w := .instanceMethod yX1_init) (by decide +kernel) rfl)⟩ ⟨lr_bl, fun U hU9 hW => lr_pre hU hZ q3 (pa_P1 h7) (fun _ z => z.elim) hU9 hW⟩ rfl rfl q4.1 rfl (pa_room ad (pv_o 7 0 :: rest) (by show rest.length + 1 ≤ 4; omega)) dg ⟨by omega, by omega⟩
  obtain ⟨ad', had2, had⟩ : ∃ ad' : pa_Nm → Nat, ad' (2, N 1) = ad (7, 0) ∧ ∀ n, ¬ n = (2, N 1) → ad' n = ad n := ⟨fun n => if n = (2, N 1) then ad (7, 0) else ad n, if_pos rfl, fun n hn => if_neg hn⟩
  have hno : ∀ n, pa_lv N n → ¬ n = (2, N 1) := fun n hn z => by
    subst z
    have : N 1 < N 1 := hn
    omega
  have hno7 : ∀ n, pa_lv N n → n.1 ≠ 7 := fun n hn z => by
    obtain ⟨k, i⟩ := n
    dsimp only at z
    subst z
    have : i = 0 ∧ N 9 = 1 := hn
    omega
  have hag : pa_ag (K, S, N, O) ad ad' := fun n _ hn => had n (hno n hn)
  have hin : ∀ n, pa_lv N n → ad n ≠ ad (7, 0) := fun n hn z => hno7 n hn (by rw [q1.2.1 n (7, 0) ((pn_lv9 (hno7 n hn)).mpr hn) hl70 z])
  have hlt : ∀ n, pa_lv N n → ad n < H.size := fun n hn => (q1.1 n ((pn_lv9 (hno7 n hn)).mpr hn)).lt
  intro T hT X
  obtain ⟨v9, st₀, t, T', L, g0, X', hL, e1, e2, ⟨⟨_, hoc, -, hP⟩, hF⟩, hst9⟩ := hrun T hT X
  cases v9 with
  | some _ => cases hoc
  | none =>
  obtain ⟨k1, k2, k3⟩ := vx_keep g0 e1 q3 (A0 := pa_A G) (fun q _ z => by rw [show q = ad (7, 0) from z]; exact q1.2.2.1 _ hl70) (fun q z => by rw [show q = ad (7, 0) from z]; exact q1.2.2.1 _ hl70) hL hF
  rw [← e1] at hP
  have hR : pa_R G ad' (pa_up (pa_up (pa_up K 80 (N 1) 0 w) 81 (N 1) 0 y) 82 (N 1) 0 v, S, pa_un N 1 (N 1 + 1), O) T'.heap := by
    refine pn_R (Fr := fun n => n = (2, N 1)) q1 had (fun n hn hz => ?_) (fun n hn hz => ?_) (fun n m' hn hm hz e9 => ?_) (k2 _ (by have := q1.2.2.2.2; omega) (fun z => by have z : G.2.2.2 = ad (7, 0) := z; have := q1.2.2.1 _ hl70; have := q1.2.2.2.2.1; omega)) k1
    · have hn0 : pa_lv N n := (pn_lv1 hz).mp hn
      obtain ⟨g1, g2, g3, g4⟩ := pn_lvf hn0
      refine ⟨(pn_lv9 (hno7 n hn0)).mpr hn0, pn_ce (Fr := fun n => n = (2, N 1)) (h' := (pa_up (pa_up (pa_up K 80 (N 1) 0 w) 81 (N 1) 0 y) 82 (N 1) 0 v, S, pa_un N 1 (N 1 + 1), O)) (h := (K, S, pa_un N 9 1, O)) (fun o => pn_k (by decide)) (fun o => pn_k (by decide)) (fun o => pn_k (by decide)) (pn_k (by decide)) (fun f i _ => pn_k (by omega)) had (fun f i j hf => ?_) rfl rfl (fun k h1 h2 => (if_neg (by omega)).trans (if_neg (by omega)).symm) hz (fun f hf h4 z => ?_) (fun f j _ _ w hw => ?_) (fun j h8 hj => ?_) g1 g2 g3, k2 _ (hlt n hn0) (hin n hn0)⟩
      · have hfi : ∀ f', f' / 40 = 2 → ¬ (f = f' ∧ i = N 1 ∧ j = 0) := fun f' hf' z => hf (by rw [z.1, z.2.1, hf'])
        show pa_up (pa_up (pa_up K 80 (N 1) 0 w) 81 (N 1) 0 y) 82 (N 1) 0 v f i j = K f i j
        unfold pa_up
        rw [if_neg (hfi 82 rfl), if_neg (hfi 81 rfl), if_neg (hfi 80 rfl)]
      · have g9 := (g4 f hf).2.2
        have z2 : f / 40 = 2 := congrArg Prod.fst z
        have z3 : n.2 = N 1 := congrArg Prod.snd z
        rw [z2, z3] at g9
        have : N 1 < N 1 := g9
        omega
      · rw [(pn_rc hw).1]
        exact pn_k (by decide)
      · exact hno _ (hel n.2 j (g1 h8) (by have hj' : j < pa_un N 9 1 (2 + n.2) := hj; have := g1 h8; rwa [show pa_un N 9 1 (2 + n.2) = N (2 + n.2) from if_neg (by omega)] at hj'))
    · subst hz
      rw [had2]
      refine ⟨?_, q1.2.2.1 _ hl70⟩
      have hc : pa_ce G ad' (pa_up (pa_up (pa_up K 80 (N 1) 0 w) 81 (N 1) 0 y) 82 (N 1) 0 v, S, pa_un N 1 (N 1 + 1), O) (2, N 1) = .inr (2, [.int w, .int y, .int v]) := by
        rw [pa_ce_ob G ad' _ (N 1) (by decide) (by decide)]
        have f0 : pa_up (pa_up (pa_up K 80 (N 1) 0 w) 81 (N 1) 0 y) 82 (N 1) 0 v 80 (N 1) 0 = w := by
          rw [pa_up_ne (by decide), pa_up_ne (by decide)]
          exact if_pos ⟨rfl, rfl, rfl⟩
        have f1 : pa_up (pa_up (pa_up K 80 (N 1) 0 w) 81 (N 1) 0 y) 82 (N 1) 0 v 81 (N 1) 0 = y := by
          rw [pa_up_ne (by decide)]
          exact if_pos ⟨rfl, rfl, rfl⟩
        have f2 : pa_up (pa_up (pa_up K 80 (N 1) 0 w) 81 (N 1) 0 y) 82 (N 1) 0 v 82 (N 1) 0 = v := if_pos ⟨rfl, rfl, rfl⟩
        show Sum.inr (2, [Value.int ((pa_up (pa_up (pa_up K 80 (N 1) 0 w) 81 (N 1) 0 y) 82 (N 1) 0 v) 80 (N 1) 0), Value.int ((pa_up (pa_up (pa_up K 80 (N 1) 0 w) 81 (N 1) 0 y) 82 (N 1) 0 v) 81 (N 1) 0), Value.int ((pa_up (pa_up (pa_up K 80 (N 1) 0 w) 81 (N 1) 0 y) 82 (N 1) 0 v) 82 (N 1) 0)]) = _
        rw [f0, f1, f2]
      rw [hc]
      exact hP 0 _ rfl
    · subst hz
      by_cases c9 : m' = (2, N 1)
      · exact c9.symm
      · rw [had2, had m' c9] at e9
        exact absurd e9.symm (hin m' ((pn_lv1 c9).mp hm))
  have han : ∀ n, pa_lv h0.2.2.1 n → pa_lv N n := fun n hn => (pn_lv9 (fun z => by
    obtain ⟨k, i⟩ := n
    dsimp only at z
    subst z
    have : i = 0 ∧ h0.2.2.1 9 = 1 := hn
    omega)).mp (q2.2.2 n hn)
  have k9 := kk ad' T'.heap (locs ++ L) ls hR ⟨fun n h8 hn => (had n (hno n (han n hn))).trans (q2.1 n h8 hn), fun z => (by rw [hal] at z; cases z), fun n hn => (pn_lv1 (hno n (han n hn))).mpr (han n hn)⟩ k3 (pa_Lo_ok hag hlo q4)
  rw [List.map_cons, pa_okl_tr hag hst] at k9
  have e7 : pa_tr ad' (pv_o 2 (N 1)) = .ref (ad (7, 0)) := congrArg Value.ref had2
  rw [e7] at k9
  obtain ⟨t2, a1, b1⟩ := k9 T' rfl X'
  exact ⟨t2, hst9 t2 a1, b1⟩
end NEWS
