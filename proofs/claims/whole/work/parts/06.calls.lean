/-! shorter forms of contracts and calls; booleans and small loops as functions -/
def pz_b (b : Bool) : Int32 := if b then 1 else 0
theorem pz_b0 {b : Bool} : pz_b b = 0 ↔ b = false := by cases b <;> decide
theorem pz_b1 {b : Bool} : pz_b b = 1 ↔ b = true := by cases b <;> decide
theorem pz_bn {b : Bool} : ¬ pz_b b = 0 ↔ b = true := by cases b <;> decide
theorem pz_b01 (b : Bool) : pz_b b = 0 ∨ pz_b b = 1 := by cases b <;> decide
theorem pz_bt : pz_b true = 1 := rfl
theorem pz_bf : pz_b false = 0 := rfl
def pz_all (p : Nat → Bool) : Nat → Bool | 0 => true | n + 1 => pz_all p n && p n
def pz_any (p : Nat → Bool) : Nat → Bool | 0 => false | n + 1 => pz_any p n || p n
theorem pz_all_iff {p : Nat → Bool} : ∀ {n : Nat}, pz_all p n = true ↔ ∀ k, k < n → p k = true
  | 0 => ⟨fun _ k h => absurd h (Nat.not_lt_zero k), fun _ => rfl⟩
  | n + 1 => by
    rw [pz_all, Bool.and_eq_true, pz_all_iff]
    exact ⟨fun h k hk => by
      rcases Nat.lt_or_ge k n with q | q
      · exact h.1 k q
      · rw [show k = n by omega]; exact h.2, fun h => ⟨fun k hk => h k (by omega), h n (by omega)⟩⟩
theorem pz_any_iff {p : Nat → Bool} : ∀ {n : Nat}, pz_any p n = true ↔ ∃ k, k < n ∧ p k = true
  | 0 => ⟨fun h => (by cases h), fun ⟨k, h, _⟩ => absurd h (Nat.not_lt_zero k)⟩
  | n + 1 => by
    rw [pz_any, Bool.or_eq_true, pz_any_iff]
    constructor
    · rintro (⟨k, h1, h2⟩ | h)
      · exact ⟨k, by omega, h2⟩
      · exact ⟨n, by omega, h⟩
    · rintro ⟨k, h1, h2⟩
      rcases Nat.lt_or_ge k n with q | q
      · exact Or.inl ⟨k, q, h2⟩
      · rw [show n = k by omega]; exact Or.inr h2
theorem pz_all_cong {p q : Nat → Bool} : ∀ {n : Nat}, (∀ k, k < n → p k = q k) → pz_all p n = pz_all q n
  | 0, _ => rfl
  | n + 1, h => by rw [pz_all, pz_all, pz_all_cong (fun k hk => h k (by omega)), h n (by omega)]
theorem pz_any_cong {p q : Nat → Bool} : ∀ {n : Nat}, (∀ k, k < n → p k = q k) → pz_any p n = pz_any q n
  | 0, _ => rfl
  | n + 1, h => by rw [pz_any, pz_any, pz_any_cong (fun k hk => h k (by omega)), h n (by omega)]
/-- answers v, changes nothing -/
abbrev pa_MP (G : pa_G) (l : Launch) (y : pa_Y) (d : Nat) (av : List pa_V) (h : pa_H) (v : pa_V) : Prop := pa_M G l y d false av h 0 0 (fun r h' => r = some v ∧ h' = h)
/-- answers nothing, the heap is h' then -/
abbrev pa_ME (G : pa_G) (l : Launch) (y : pa_Y) (d : Nat) (av : List pa_V) (h h1 : pa_H) : Prop := pa_M G l y d false av h 0 0 (fun r h' => r = none ∧ h' = h1)
/-- answers v, the heap is h' then -/
abbrev pa_MR (G : pa_G) (l : Launch) (y : pa_Y) (d : Nat) (av : List pa_V) (h h1 : pa_H) (v : pa_V) : Prop := pa_M G l y d false av h 0 0 (fun r h' => r = some v ∧ h' = h1)
section CALLS
variable {G : pa_G} {x : pa_X} {cc : ByteArray} {nL : Nat} {own : String} {d mc ms : Nat} {h : pa_H} {a b pc : Nat} {lo : List (Option pa_V)}
theorem pr_vP (C : pa_C G x cc nL own d mc ms) {y : pa_Y} {d' k i ix n : Nat} {As rest st : List pa_V} {v : pa_V} (hM : pa_MP G x.2.1 y d' (pv_o k i :: As) h v) (cs : pa_cv own ix y k n) (hst : st = As.reverse ++ pv_o k i :: rest) (hn : As.length = n) (hd : d' + 1 ≤ d) (hk : k < 6) (hl : pa_lv h.2.2.1 (k, i)) (hr : rest.length ≤ 4) (ha : a ≤ mc) (hb : b ≤ ms) (dg : decode cc pc = .ok (.invokevirtual ix, 3)) (kk : pa_w G x nL h a b (pc + 3) lo (v :: rest)) : pa_w G x nL h a b pc lo st := by
  rw [hst]
  refine pr_callV0 C hM cs hn hd hk hl hr ha hb (fun _ => rfl) (fun z => by cases z) dg fun r h' hp => ?_
  obtain ⟨rfl, rfl⟩ := hp
  exact kk
theorem pr_vE (C : pa_C G x cc nL own d mc ms) {y : pa_Y} {d' k i ix n : Nat} {As rest st : List pa_V} {h1 : pa_H} (hM : pa_ME G x.2.1 y d' (pv_o k i :: As) h h1) (cs : pa_cv own ix y k n) (hst : st = As.reverse ++ pv_o k i :: rest) (hn : As.length = n) (hd : d' + 1 ≤ d) (hk : k < 6) (hl : pa_lv h.2.2.1 (k, i)) (hr : rest.length ≤ 4) (ha : a ≤ mc) (hb : b ≤ ms) (dg : decode cc pc = .ok (.invokevirtual ix, 3)) (kk : pa_w G x nL h1 a b (pc + 3) lo rest) : pa_w G x nL h a b pc lo st := by
  rw [hst]
  refine pr_callV0 C hM cs hn hd hk hl hr ha hb (fun _ => rfl) (fun z => by cases z) dg fun r h' hp => ?_
  obtain ⟨rfl, rfl⟩ := hp
  exact kk
theorem pr_vR (C : pa_C G x cc nL own d mc ms) {y : pa_Y} {d' k i ix n : Nat} {As rest st : List pa_V} {v : pa_V} {h1 : pa_H} (hM : pa_MR G x.2.1 y d' (pv_o k i :: As) h h1 v) (cs : pa_cv own ix y k n) (hst : st = As.reverse ++ pv_o k i :: rest) (hn : As.length = n) (hd : d' + 1 ≤ d) (hk : k < 6) (hl : pa_lv h.2.2.1 (k, i)) (hr : rest.length ≤ 4) (ha : a ≤ mc) (hb : b ≤ ms) (dg : decode cc pc = .ok (.invokevirtual ix, 3)) (kk : pa_w G x nL h1 a b (pc + 3) lo (v :: rest)) : pa_w G x nL h a b pc lo st := by
  rw [hst]
  refine pr_callV0 C hM cs hn hd hk hl hr ha hb (fun _ => rfl) (fun z => by cases z) dg fun r h' hp => ?_
  obtain ⟨rfl, rfl⟩ := hp
  exact kk
theorem pr_sP (C : pa_C G x cc nL own d mc ms) {y : pa_Y} {d' ix n : Nat} {As rest st : List pa_V} {v : pa_V} (hM : pa_MP G x.2.1 y d' As h v) (cs : pa_cs own ix y n) (hst : st = As.reverse ++ rest) (hn : As.length = n) (hd : d' + 1 ≤ d) (hr : rest.length ≤ 4) (ha : a ≤ mc) (hb : b ≤ ms) (dg : decode cc pc = .ok (.invokestatic ix, 3)) (kk : pa_w G x nL h a b (pc + 3) lo (v :: rest)) : pa_w G x nL h a b pc lo st := by
  rw [hst]
  refine pr_callS0 C hM cs hn hd hr ha hb (fun _ => rfl) (fun z => by cases z) dg fun r h' hp => ?_
  obtain ⟨rfl, rfl⟩ := hp
  exact kk
theorem pr_nP (C : pa_C G x cc nL own d mc ms) {y : pa_Y} {d' ix n : Nat} {As rest st : List pa_V} {v : pa_V} (hM : pa_MP G x.2.1 y d' As h v) (cs : pa_cn own ix y n) (hst : st = As.reverse ++ rest) (hn : As.length = n) (hd : d' + 1 ≤ d) (hr : rest.length ≤ 4) (ha : a ≤ mc) (hb : b ≤ ms) (dg : decode cc pc = .ok (.invokestatic ix, 3)) (kk : pa_w G x nL h a b (pc + 3) lo (v :: rest)) : pa_w G x nL h a b pc lo st := by
  rw [hst]
  refine pr_callN0 C hM cs hn hd hr ha hb dg fun r h' hp => ?_
  obtain ⟨rfl, rfl⟩ := hp
  exact kk
end CALLS
/-- the live names of the model and of the room -/
theorem pl_5 (N : Nat → Nat) : pa_lv N (5, 0) := by simp [pa_lv, pa_lo]
theorem pl_4 (N : Nat → Nat) : pa_lv N (4, 0) := by simp [pa_lv, pa_lo]
theorem pl_1 {N : Nat → Nat} {i : Nat} (h : i < 4) : pa_lv N (1, i) := by simp [pa_lv, pa_lo, h]
theorem pl_3 {N : Nat → Nat} {i : Nat} (h : i < N 0) : pa_lv N (3, i) := by simp [pa_lv, pa_lo, h]
theorem pl_2 {N : Nat → Nat} {i : Nat} (h : i < N 1) : pa_lv N (2, i) := by simp [pa_lv, pa_lo, h]
theorem pl_0 {N : Nat → Nat} {i : Nat} (h : i < 3) : pa_lv N (0, i) := by simp [pa_lv, h]
theorem pl_r {N : Nat → Nat} {f o k : Nat} (h1 : pa_ln f ≠ 0) (h2 : f / 40 = k) (h3 : pa_lo N k o) : pa_lv N (100 + f, o) := by
  unfold pa_lv
  dsimp only
  rw [if_neg (by omega), if_neg (by omega), if_neg (by omega), if_neg (by omega), if_neg (by omega), if_neg (by omega), show 100 + f - 100 = f by omega]
  exact ⟨h1, by omega, by rw [h2]; exact h3⟩
theorem pl_r5 {N : Nat → Nat} {g : Nat} (h : pa_ln (g - 100) ≠ 0 ∧ (g - 100) / 40 = 5 ∧ 100 ≤ g) : pa_lv N (g, 0) := by
  have := pl_r (N := N) (f := g - 100) (o := 0) h.1 h.2.1 (by simp [pa_lo])
  rwa [show 100 + (g - 100) = g by omega] at this
theorem pl_r4 {N : Nat → Nat} {g : Nat} (h : pa_ln (g - 100) ≠ 0 ∧ (g - 100) / 40 = 4 ∧ 100 ≤ g) : pa_lv N (g, 0) := by
  have := pl_r (N := N) (f := g - 100) (o := 0) h.1 h.2.1 (by simp [pa_lo])
  rwa [show 100 + (g - 100) = g by omega] at this
theorem pl_r1 {N : Nat → Nat} {g i : Nat} (h : pa_ln (g - 100) ≠ 0 ∧ (g - 100) / 40 = 1 ∧ 100 ≤ g) (hi : i < 4) : pa_lv N (g, i) := by
  have := pl_r (N := N) (f := g - 100) (o := i) h.1 h.2.1 (by simp [pa_lo, hi])
  rwa [show 100 + (g - 100) = g by omega] at this
theorem pl_r3 {N : Nat → Nat} {g i : Nat} (h : pa_ln (g - 100) ≠ 0 ∧ (g - 100) / 40 = 3 ∧ 100 ≤ g) (hi : i < N 0) : pa_lv N (g, i) := by
  have := pl_r (N := N) (f := g - 100) (o := i) h.1 h.2.1 (by simp [pa_lo, hi])
  rwa [show 100 + (g - 100) = g by omega] at this
-- the entry, for written arguments
def pa_c1l : List pa_V → Prop | [] => True | v :: l => pa_c1 v ∧ pa_c1l l
theorem pa_c1l_in : ∀ {l : List pa_V}, pa_c1l l → ∀ v ∈ l, pa_c1 v
  | [], _, v, h => by cases h
  | w :: l, hh, v, h => by
    rcases List.mem_cons.mp h with e | h
    · rw [e]; exact hh.1
    · exact pa_c1l_in hh.2 v h
section GO
variable {G : pa_G} {x : pa_X} {cc : ByteArray} {nL : Nat} {own : String} {d mc ms : Nat} {h : pa_H} {a b pc : Nat} {lo : List (Option pa_V)} {st : List pa_V}
theorem pa_go (l : Launch) {y : pa_Y} {al : Bool} {av : List pa_V} {post : Option pa_V → pa_H → Prop} (hy : plainName y.1.cls = true) (hc : pa_c1l av) (hl : ∀ ad, Nat.ble (lg_sl (av.map (pa_tr ad))).length y.2.2.1 = true)
    (body : ∀ x : pa_X, pa_C G x y.2.1 y.2.2.1 y.1.cls d mc ms → pa_E G x mc ms y.2.2.2 post → x.2.1 = l → x.2.2.2.2.2.2.2.2.2.2.2.2.2 = al → pa_w G x y.2.2.1 h 0 0 0 (av.map some ++ List.replicate (y.2.2.1 - av.length) none) []) : pa_M G l y d al av h mc ms post :=
  pa_start l hy (pa_c1l_in hc) (fun ad => Nat.le_of_ble_eq_true (hl ad)) body
theorem pr_eqi {u v : Int32} (e : u = v) (k : pa_w G x nL h a b pc lo (pv_i v :: st)) : pa_w G x nL h a b pc lo (pv_i u :: st) := e ▸ k
theorem pr_eqr {u v : Option pa_Nm} (e : u = v) (k : pa_w G x nL h a b pc lo (pv_r v :: st)) : pa_w G x nL h a b pc lo (pv_r u :: st) := e ▸ k
theorem pa_rc_nI {k t : Nat} (h : t < 1000) : pa_rc k (nI t) = some (k, t) := by
  unfold pa_rc
  rw [if_neg (nI_pos (by omega)), nI_clamp (by omega)]
theorem pr_iaddN (C : pa_C G x cc nL own d mc ms) {u v : Int32} (dg : decode cc pc = .ok (.iadd, 1)) (p q : Nat) (hu : u = nI p) (hv : v = nI q) (k : pa_w G x nL h a b (pc + 1) lo (pv_i (nI (p + q)) :: st)) : pa_w G x nL h a b pc lo (pv_i v :: pv_i u :: st) :=
  pr_iadd C dg (by rw [hu, hv, nI_add]; exact k)
theorem pr_imulN (C : pa_C G x cc nL own d mc ms) {u v : Int32} (dg : decode cc pc = .ok (.imul, 1)) (p q : Nat) (hu : u = nI p) (hv : v = nI q) (k : pa_w G x nL h a b (pc + 1) lo (pv_i (nI (p * q)) :: st)) : pa_w G x nL h a b pc lo (pv_i v :: pv_i u :: st) :=
  pr_imul C dg (by rw [hu, hv, pk_mul]; exact k)
theorem pr_isubN (C : pa_C G x cc nL own d mc ms) {u v : Int32} (dg : decode cc pc = .ok (.isub, 1)) (p q : Nat) (hu : u = nI p) (hv : v = nI q) (hq : q ≤ p) (k : pa_w G x nL h a b (pc + 1) lo (pv_i (nI (p - q)) :: st)) : pa_w G x nL h a b pc lo (pv_i v :: pv_i u :: st) :=
  pr_isub C dg (by rw [hu, hv, pk_sub hq]; exact k)
theorem pr_idivN (C : pa_C G x cc nL own d mc ms) {u v : Int32} (dg : decode cc pc = .ok (.idiv, 1)) (p q : Nat) (hu : u = nI p) (hv : v = nI q) (h0 : 0 < q) (h1 : p < 2 ^ 31) (h2 : q < 2 ^ 31) (k : pa_w G x nL h a b (pc + 1) lo (pv_i (nI (p / q)) :: st)) : pa_w G x nL h a b pc lo (pv_i v :: pv_i u :: st) :=
  pr_idiv C dg (by rw [hv]; exact nI_ne0 h0 h2) (by rw [hu, hv, pk_div h1 h0 h2]; exact k)
theorem pr_iremN (C : pa_C G x cc nL own d mc ms) {u v : Int32} (dg : decode cc pc = .ok (.irem, 1)) (p q : Nat) (hu : u = nI p) (hv : v = nI q) (h0 : 0 < q) (h1 : p < 2 ^ 31) (h2 : q < 2 ^ 31) (k : pa_w G x nL h a b (pc + 1) lo (pv_i (nI (p % q)) :: st)) : pa_w G x nL h a b pc lo (pv_i v :: pv_i u :: st) :=
  pr_irem C dg (by rw [hv]; exact nI_ne0 h0 h2) (by rw [hu, hv, pk_rem h1 h0 h2]; exact k)
theorem pr_iincN (C : pa_C G x cc nL own d mc ms) {k : Nat} {n : Int} {v : Int32} (dg : decode cc pc = .ok (.iinc k n, 3)) (hl : lo[k]? = some (some (pv_i v))) (p q : Nat) (hz : Int32.ofInt n = nI q) (hv : v = nI p) (hn : k < nL) (kk : pa_w G x nL h a b (pc + 3) (lo.set k (some (pv_i (nI (p + q))))) st) : pa_w G x nL h a b pc lo st :=
  pr_iinc C dg hl hz (by rw [hv, nI_add]) hn kk
theorem pr_ifb_eq (C : pa_C G x cc nL own d mc ms) {e : Bool} {off : Int} (tgt : Nat) (dg : decode cc pc = .ok (.ifCond .eq off, 3)) (ht : (pc : Int) + off = (tgt : Int)) (kt : e = false → pa_w G x nL h a b tgt lo st) (kf : e = true → pa_w G x nL h a b (pc + 3) lo st) : pa_w G x nL h a b pc lo (pv_i (pz_b e) :: st) :=
  pr_if_eq C tgt dg ht (fun z => kt (pz_b0.mp z)) (fun z => kf (pz_bn.mp z))
theorem pr_ifb_ne (C : pa_C G x cc nL own d mc ms) {e : Bool} {off : Int} (tgt : Nat) (dg : decode cc pc = .ok (.ifCond .ne off, 3)) (ht : (pc : Int) + off = (tgt : Int)) (kt : e = true → pa_w G x nL h a b tgt lo st) (kf : e = false → pa_w G x nL h a b (pc + 3) lo st) : pa_w G x nL h a b pc lo (pv_i (pz_b e) :: st) :=
  pr_if_ne C tgt dg ht (fun z => kt (pz_bn.mp z)) (fun z => kf (pz_b0.mp z))
theorem pr_ifnull0 (C : pa_C G x cc nL own d mc ms) {off : Int} (tgt : Nat) (dg : decode cc pc = .ok (.ifnull off, 3)) (ht : (pc : Int) + off = (tgt : Int)) (k : pa_w G x nL h a b tgt lo st) : pa_w G x nL h a b pc lo (pv_r none :: st) := pr_ifnull C tgt dg ht (fun _ => k) (fun n z => by cases z)
theorem pr_ifnonnull0 (C : pa_C G x cc nL own d mc ms) {off : Int} (dg : decode cc pc = .ok (.ifnonnull off, 3)) (k : pa_w G x nL h a b (pc + 3) lo st) : pa_w G x nL h a b pc lo (pv_r none :: st) := by
  by_cases ht : 0 ≤ (pc : Int) + off
  · exact pr_ifnonnull C ((pc : Int) + off).toNat dg (by omega) (fun n z => by cases z) (fun _ => k)
  · obtain ⟨p, l, e, R, s, m, args, below, meth, c, Q, h0, ad0, al⟩ := x
    intro ad H locs ls q1 q2 q3 q4
    exact lv_ifnonnullN C.1 C.2.1 dg (k ad H locs ls q1 q2 q3 q4)
theorem pr_ifnonnull1 (C : pa_C G x cc nL own d mc ms) {n : pa_Nm} {off : Int} (tgt : Nat) (dg : decode cc pc = .ok (.ifnonnull off, 3)) (ht : (pc : Int) + off = (tgt : Int)) (k : pa_w G x nL h a b tgt lo st) : pa_w G x nL h a b pc lo (pv_r (some n) :: st) := pr_ifnonnull C tgt dg ht (fun _ _ => k) (fun z => by cases z)
theorem pr_ifnull1 (C : pa_C G x cc nL own d mc ms) {n : pa_Nm} {off : Int} (dg : decode cc pc = .ok (.ifnull off, 3)) (k : pa_w G x nL h a b (pc + 3) lo st) : pa_w G x nL h a b pc lo (pv_r (some n) :: st) := by
  obtain ⟨p, l, e, R, s, m, args, below, meth, c, Q, h0, ad0, al⟩ := x
  intro ad H locs ls q1 q2 q3 q4
  exact lv_ifnull C.1 C.2.1 dg (k ad H locs ls q1 q2 q3 q4)
theorem pr_icmp_eqN (C : pa_C G x cc nL own d mc ms) {u v : Int32} {off : Int} (tgt p q : Nat) (dg : decode cc pc = .ok (.if_icmp .eq off, 3)) (ht : (pc : Int) + off = (tgt : Int)) (hu : u = nI p) (hv : v = nI q) (hp9 : p < 2 ^ 31) (hq9 : q < 2 ^ 31) (kt : p = q → pa_w G x nL h a b tgt lo st) (kf : p ≠ q → pa_w G x nL h a b (pc + 3) lo st) : pa_w G x nL h a b pc lo (pv_i v :: pv_i u :: st) :=
  pr_icmp_eq C tgt dg ht (fun z => kt ((nI_eq hp9 hq9).mp (by rw [← hu, ← hv]; exact z))) (fun z => kf (fun e => z (by rw [hu, hv, e])))
theorem pr_if_eqN (C : pa_C G x cc nL own d mc ms) {u : Int32} {off : Int} (tgt p : Nat) (dg : decode cc pc = .ok (.ifCond .eq off, 3)) (ht : (pc : Int) + off = (tgt : Int)) (hu : u = nI p) (hp9 : p < 2 ^ 31) (kt : p = 0 → pa_w G x nL h a b tgt lo st) (kf : p ≠ 0 → pa_w G x nL h a b (pc + 3) lo st) : pa_w G x nL h a b pc lo (pv_i u :: st) :=
  pr_if_eq C tgt dg ht (fun z => kt ((nI_eq (a := p) (b := 0) hp9 (by decide)).mp (show nI p = nI 0 by rw [← hu]; exact z))) (fun z => kf (fun e => z (by rw [hu, e]; rfl)))
theorem pr_icmp_neN (C : pa_C G x cc nL own d mc ms) {u v : Int32} {off : Int} (tgt p q : Nat) (dg : decode cc pc = .ok (.if_icmp .ne off, 3)) (ht : (pc : Int) + off = (tgt : Int)) (hu : u = nI p) (hv : v = nI q) (hp9 : p < 2 ^ 31) (hq9 : q < 2 ^ 31) (kt : p ≠ q → pa_w G x nL h a b tgt lo st) (kf : p = q → pa_w G x nL h a b (pc + 3) lo st) : pa_w G x nL h a b pc lo (pv_i v :: pv_i u :: st) :=
  pr_icmp_ne C tgt dg ht (fun z => kt (fun e => z (by rw [hu, hv, e]))) (fun z => kf ((nI_eq hp9 hq9).mp (by rw [← hu, ← hv]; exact z)))
theorem pr_if_neN (C : pa_C G x cc nL own d mc ms) {u : Int32} {off : Int} (tgt p : Nat) (dg : decode cc pc = .ok (.ifCond .ne off, 3)) (ht : (pc : Int) + off = (tgt : Int)) (hu : u = nI p) (hp9 : p < 2 ^ 31) (kt : p ≠ 0 → pa_w G x nL h a b tgt lo st) (kf : p = 0 → pa_w G x nL h a b (pc + 3) lo st) : pa_w G x nL h a b pc lo (pv_i u :: st) :=
  pr_if_ne C tgt dg ht (fun z => kt (fun e => z (by rw [hu, e]; rfl))) (fun z => kf ((nI_eq (a := p) (b := 0) hp9 (by decide)).mp (show nI p = nI 0 by rw [← hu]; exact z)))
theorem pr_icmp_ltN (C : pa_C G x cc nL own d mc ms) {u v : Int32} {off : Int} (tgt p q : Nat) (dg : decode cc pc = .ok (.if_icmp .lt off, 3)) (ht : (pc : Int) + off = (tgt : Int)) (hu : u = nI p) (hv : v = nI q) (hp9 : p < 2 ^ 31) (hq9 : q < 2 ^ 31) (kt : p < q → pa_w G x nL h a b tgt lo st) (kf : q ≤ p → pa_w G x nL h a b (pc + 3) lo st) : pa_w G x nL h a b pc lo (pv_i v :: pv_i u :: st) :=
  pr_icmp_lt C tgt dg ht (fun z => kt ((nI_ltI hp9 hq9).mp (by rw [← hu, ← hv]; exact z))) (fun z => kf (by have := mt (nI_ltI hp9 hq9).mpr (by rw [← hu, ← hv]; exact z); omega))
theorem pr_if_ltN (C : pa_C G x cc nL own d mc ms) {u : Int32} {off : Int} (tgt p : Nat) (dg : decode cc pc = .ok (.ifCond .lt off, 3)) (ht : (pc : Int) + off = (tgt : Int)) (hu : u = nI p) (hp9 : p < 2 ^ 31) (kt : p < 0 → pa_w G x nL h a b tgt lo st) (kf : 0 ≤ p → pa_w G x nL h a b (pc + 3) lo st) : pa_w G x nL h a b pc lo (pv_i u :: st) :=
  pr_if_lt C tgt dg ht (fun z => kt ((nI_ltI (a := p) (b := 0) hp9 (by decide)).mp (show nI p < nI 0 by rw [← hu]; exact z))) (fun z => kf (by have := mt (nI_ltI (a := p) (b := 0) hp9 (by decide)).mpr (show ¬ nI p < nI 0 by rw [← hu]; exact z); omega))
theorem pr_icmp_geN (C : pa_C G x cc nL own d mc ms) {u v : Int32} {off : Int} (tgt p q : Nat) (dg : decode cc pc = .ok (.if_icmp .ge off, 3)) (ht : (pc : Int) + off = (tgt : Int)) (hu : u = nI p) (hv : v = nI q) (hp9 : p < 2 ^ 31) (hq9 : q < 2 ^ 31) (kt : q ≤ p → pa_w G x nL h a b tgt lo st) (kf : p < q → pa_w G x nL h a b (pc + 3) lo st) : pa_w G x nL h a b pc lo (pv_i v :: pv_i u :: st) :=
  pr_icmp_ge C tgt dg ht (fun z => kt ((nI_leI hq9 hp9).mp (by rw [← hu, ← hv]; exact z))) (fun z => kf (by have := mt (nI_leI hq9 hp9).mpr (by rw [← hu, ← hv]; exact z); omega))
theorem pr_if_geN (C : pa_C G x cc nL own d mc ms) {u : Int32} {off : Int} (tgt p : Nat) (dg : decode cc pc = .ok (.ifCond .ge off, 3)) (ht : (pc : Int) + off = (tgt : Int)) (hu : u = nI p) (hp9 : p < 2 ^ 31) (kt : 0 ≤ p → pa_w G x nL h a b tgt lo st) (kf : p < 0 → pa_w G x nL h a b (pc + 3) lo st) : pa_w G x nL h a b pc lo (pv_i u :: st) :=
  pr_if_ge C tgt dg ht (fun z => kt ((nI_leI (a := 0) (b := p) (by decide) hp9).mp (show nI 0 ≤ nI p by rw [← hu]; exact z))) (fun z => kf (by have := mt (nI_leI (a := 0) (b := p) (by decide) hp9).mpr (show ¬ nI 0 ≤ nI p by rw [← hu]; exact z); omega))
theorem pr_icmp_gtN (C : pa_C G x cc nL own d mc ms) {u v : Int32} {off : Int} (tgt p q : Nat) (dg : decode cc pc = .ok (.if_icmp .gt off, 3)) (ht : (pc : Int) + off = (tgt : Int)) (hu : u = nI p) (hv : v = nI q) (hp9 : p < 2 ^ 31) (hq9 : q < 2 ^ 31) (kt : q < p → pa_w G x nL h a b tgt lo st) (kf : p ≤ q → pa_w G x nL h a b (pc + 3) lo st) : pa_w G x nL h a b pc lo (pv_i v :: pv_i u :: st) :=
  pr_icmp_gt C tgt dg ht (fun z => kt ((nI_ltI hq9 hp9).mp (by rw [← hu, ← hv]; exact z))) (fun z => kf (by have := mt (nI_ltI hq9 hp9).mpr (by rw [← hu, ← hv]; exact z); omega))
theorem pr_if_gtN (C : pa_C G x cc nL own d mc ms) {u : Int32} {off : Int} (tgt p : Nat) (dg : decode cc pc = .ok (.ifCond .gt off, 3)) (ht : (pc : Int) + off = (tgt : Int)) (hu : u = nI p) (hp9 : p < 2 ^ 31) (kt : 0 < p → pa_w G x nL h a b tgt lo st) (kf : p ≤ 0 → pa_w G x nL h a b (pc + 3) lo st) : pa_w G x nL h a b pc lo (pv_i u :: st) :=
  pr_if_gt C tgt dg ht (fun z => kt ((nI_ltI (a := 0) (b := p) (by decide) hp9).mp (show nI 0 < nI p by rw [← hu]; exact z))) (fun z => kf (by have := mt (nI_ltI (a := 0) (b := p) (by decide) hp9).mpr (show ¬ nI 0 < nI p by rw [← hu]; exact z); omega))
theorem pr_icmp_leN (C : pa_C G x cc nL own d mc ms) {u v : Int32} {off : Int} (tgt p q : Nat) (dg : decode cc pc = .ok (.if_icmp .le off, 3)) (ht : (pc : Int) + off = (tgt : Int)) (hu : u = nI p) (hv : v = nI q) (hp9 : p < 2 ^ 31) (hq9 : q < 2 ^ 31) (kt : p ≤ q → pa_w G x nL h a b tgt lo st) (kf : q < p → pa_w G x nL h a b (pc + 3) lo st) : pa_w G x nL h a b pc lo (pv_i v :: pv_i u :: st) :=
  pr_icmp_le C tgt dg ht (fun z => kt ((nI_leI hp9 hq9).mp (by rw [← hu, ← hv]; exact z))) (fun z => kf (by have := mt (nI_leI hp9 hq9).mpr (by rw [← hu, ← hv]; exact z); omega))
theorem pr_if_leN (C : pa_C G x cc nL own d mc ms) {u : Int32} {off : Int} (tgt p : Nat) (dg : decode cc pc = .ok (.ifCond .le off, 3)) (ht : (pc : Int) + off = (tgt : Int)) (hu : u = nI p) (hp9 : p < 2 ^ 31) (kt : p ≤ 0 → pa_w G x nL h a b tgt lo st) (kf : 0 < p → pa_w G x nL h a b (pc + 3) lo st) : pa_w G x nL h a b pc lo (pv_i u :: st) :=
  pr_if_le C tgt dg ht (fun z => kt ((nI_leI (a := p) (b := 0) hp9 (by decide)).mp (show nI p ≤ nI 0 by rw [← hu]; exact z))) (fun z => kf (by have := mt (nI_leI (a := p) (b := 0) hp9 (by decide)).mpr (show ¬ nI p ≤ nI 0 by rw [← hu]; exact z); omega))
end GO
-- comparisons, all told by ≤
theorem pz_lt (u v : Int32) : (u < v) = ¬ (v ≤ u) := propext Int32.not_le.symm
section CMP
variable {G : pa_G} {x : pa_X} {cc : ByteArray} {nL : Nat} {own : String} {d mc ms : Nat} {h : pa_H} {a b pc : Nat} {lo : List (Option pa_V)} {st : List pa_V}
theorem pr_icmp_ltL (C : pa_C G x cc nL own d mc ms) {u v : Int32} {off : Int} (tgt : Nat) (dg : decode cc pc = .ok (.if_icmp .lt off, 3)) (ht : (pc : Int) + off = (tgt : Int)) (kt : ¬ v ≤ u → pa_w G x nL h a b tgt lo st) (kf : v ≤ u → pa_w G x nL h a b (pc + 3) lo st) : pa_w G x nL h a b pc lo (pv_i v :: pv_i u :: st) := pr_icmp_lt C tgt dg ht (fun z => kt (Int32.not_le.mpr z)) (fun z => kf (Int32.not_lt.mp z))
theorem pr_icmp_gtL (C : pa_C G x cc nL own d mc ms) {u v : Int32} {off : Int} (tgt : Nat) (dg : decode cc pc = .ok (.if_icmp .gt off, 3)) (ht : (pc : Int) + off = (tgt : Int)) (kt : ¬ u ≤ v → pa_w G x nL h a b tgt lo st) (kf : u ≤ v → pa_w G x nL h a b (pc + 3) lo st) : pa_w G x nL h a b pc lo (pv_i v :: pv_i u :: st) := pr_icmp_gt C tgt dg ht (fun z => kt (Int32.not_le.mpr z)) (fun z => kf (Int32.not_lt.mp z))
theorem pr_if_ltL (C : pa_C G x cc nL own d mc ms) {u : Int32} {off : Int} (tgt : Nat) (dg : decode cc pc = .ok (.ifCond .lt off, 3)) (ht : (pc : Int) + off = (tgt : Int)) (kt : ¬ 0 ≤ u → pa_w G x nL h a b tgt lo st) (kf : 0 ≤ u → pa_w G x nL h a b (pc + 3) lo st) : pa_w G x nL h a b pc lo (pv_i u :: st) := pr_if_lt C tgt dg ht (fun z => kt (Int32.not_le.mpr z)) (fun z => kf (Int32.not_lt.mp z))
theorem pr_if_gtL (C : pa_C G x cc nL own d mc ms) {u : Int32} {off : Int} (tgt : Nat) (dg : decode cc pc = .ok (.ifCond .gt off, 3)) (ht : (pc : Int) + off = (tgt : Int)) (kt : ¬ u ≤ 0 → pa_w G x nL h a b tgt lo st) (kf : u ≤ 0 → pa_w G x nL h a b (pc + 3) lo st) : pa_w G x nL h a b pc lo (pv_i u :: st) := pr_if_gt C tgt dg ht (fun z => kt (Int32.not_le.mpr z)) (fun z => kf (Int32.not_lt.mp z))
end CMP
/-- n turns of a loop that changes a state -/
def pz_it {σ : Type} (f : σ → Nat → σ) : Nat → σ → σ | 0, s => s | n + 1, s => f (pz_it f n s) n
theorem pz_it_s {σ : Type} (f : σ → Nat → σ) (n : Nat) (s : σ) : pz_it f (n + 1) s = f (pz_it f n s) n := rfl
theorem pz_it_inv {σ : Type} {f : σ → Nat → σ} {I : σ → Prop} (hs : ∀ s k, I s → I (f s k)) : ∀ (n : Nat) (s : σ), I s → I (pz_it f n s)
  | 0, _, h => h
  | n + 1, s, h => hs _ _ (pz_it_inv hs n s h)
theorem pa_us_ne {S : Nat → Nat → Int32} {f j g q : Nat} {v : Int32} (h : g ≠ f) : pa_us S f j v g q = S g q := if_neg (fun z => h z.1)
theorem pa_us_nj {S : Nat → Nat → Int32} {f j g q : Nat} {v : Int32} (h : q ≠ j) : pa_us S f j v g q = S g q := if_neg (fun z => h z.2)
theorem pa_up_ne {K : Nat → Nat → Nat → Int32} {f o j g p q : Nat} {v : Int32} (h : g ≠ f) : pa_up K f o j v g p q = K g p q := if_neg (fun z => h z.1)
section PRS
variable {G : pa_G} {x : pa_X} {nL : Nat} {a b pc : Nat} {lo : List (Option pa_V)} {st : List pa_V}
theorem pr_h {h h1 : pa_H} (e : h = h1) (k : pa_w G x nL h1 a b pc lo st) : pa_w G x nL h a b pc lo st := e ▸ k
end PRS
/-- fewer locals are known -/
def pa_lle : List (Option pa_V) → List (Option pa_V) → Prop
  | [], _ => True
  | none :: l, _ :: m => pa_lle l m
  | some v :: l, some w :: m => v = w ∧ pa_lle l m
  | _, _ => False
theorem pa_lle_at : ∀ {l m : List (Option pa_V)}, pa_lle l m → ∀ {j : Nat} {v : pa_V}, l[j]? = some (some v) → m[j]? = some (some v)
  | [], _, _, j, v, h => by simp at h
  | none :: l, [], q, j, v, h => q.elim
  | none :: l, _ :: m, q, j, v, h => by
    cases j with
    | zero => simp at h
    | succ j => simpa using pa_lle_at (l := l) (m := m) q (by simpa using h)
  | some w :: l, [], q, j, v, h => q.elim
  | some w :: l, none :: m, q, j, v, h => q.elim
  | some w :: l, some z :: m, q, j, v, h => by
    cases j with
    | zero =>
      simp at h
      rw [← h, q.1]
      rfl
    | succ j => simpa using pa_lle_at (l := l) (m := m) q.2 (by simpa using h)
theorem pr_lo {G : pa_G} {x : pa_X} {nL : Nat} {h : pa_H} {a b pc : Nat} {lo lo' : List (Option pa_V)} {st : List pa_V} (e : pa_lle lo' lo) (k : pa_w G x nL h a b pc lo' st) : pa_w G x nL h a b pc lo st := by
  obtain ⟨p, l, e9, R, s, m, args, below, meth, c, Q, h0, ad0, al⟩ := x
  exact fun ad H locs ls q1 q2 q3 q4 => k ad H locs ls q1 q2 q3 ⟨q4.1, q4.2.1, fun j v hv => q4.2.2 j v (pa_lle_at e hv)⟩
