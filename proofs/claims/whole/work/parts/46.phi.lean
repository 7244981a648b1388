/-! WHAT A TURN THAT IS CARRIED OUT leaves as it was; the potential that pays for it -/
theorem ms_does_ne {S : Nat → Nat → Int32} {t w a u wu x9 v Q q0 y f j : Nat} (hf : f ∉ [231, 232, 215, 216, 220, 208, 209, 233, 212, 227, 213, 221, 214, 228, 229, 234, 210, 211]) : ms_does S t w a u wu x9 v Q q0 y f j = S f j := by
  have h : ∀ q, q ∈ [231, 232, 215, 216, 220, 208, 209, 233, 212, 227, 213, 221, 214, 228, 229, 234, 210, 211] → f ≠ q := fun q hq e => hf (e ▸ hq)
  have h231 := h 231 (by decide)
  have h232 := h 232 (by decide)
  have h215 := h 215 (by decide)
  have h216 := h 216 (by decide)
  have h220 := h 220 (by decide)
  have h208 := h 208 (by decide)
  have h209 := h 209 (by decide)
  have h233 := h 233 (by decide)
  have h212 := h 212 (by decide)
  have h227 := h 227 (by decide)
  have h213 := h 213 (by decide)
  have h221 := h 221 (by decide)
  have h214 := h 214 (by decide)
  have h228 := h 228 (by decide)
  have h229 := h 229 (by decide)
  have h234 := h 234 (by decide)
  have h210 := h 210 (by decide)
  have h211 := h 211 (by decide)
  unfold ms_does
  split
  · unfold ms_doQ
    split
    · rw [ms_right_ne h215 h216, pa_us_ne h231, pa_us_ne h232]
    split
    · rw [pa_us_ne h231]
    split
    · split
      · rw [ms_says_ne h208 h209 h233 h212, pa_us_ne h220, pa_us_ne h231]
      · rw [pa_us_ne h220, pa_us_ne h231]
    · rw [pa_us_ne h231, ms_says_ne h208 h209 h233 h212]
  split
  · unfold ms_doO
    split
    · rw [ms_right_ne h215 h216, pa_us_ne h227, ms_ofs_ne h227]
    split
    · split
      · rw [pa_us_ne h214, pa_us_ne h221, ms_ows_ne h213, pa_us_ne h227]
      · rw [pa_us_ne h214, pa_us_ne h221, pa_us_ne h227]
    · rw [pa_us_ne h227]
  split
  · unfold ms_doT
    split
    · rw [pa_us_ne h228]
    split
    · rw [ms_right_ne h215 h216]
    split
    · rw [ms_dlv_ne h228 h229]
    split
    · rw [ms_says_ne h208 h209 h233 h212]
    · rw [ms_right_ne h215 h216, pa_us_ne h233, ms_says_ne h208 h209 h233 h212]
  · unfold ms_doA
    split
    · rw [ms_qxs_fr h233, pa_us_ne h234, ms_says_ne h208 h209 h233 h212]
    split
    · rw [ms_com_ne h208 h209 h233]
    · rw [pa_us_ne h211, pa_us_ne h210]
theorem ms_carry_ne {S : Nat → Nat → Int32} {t f j : Nat} (hf : f ∉ [231, 232, 215, 216, 220, 208, 209, 233, 212, 227, 213, 221, 214, 228, 229, 234, 210, 211, 224, 225]) : ms_carry S t f j = S f j := by
  have h : ∀ q, q ∈ [231, 232, 215, 216, 220, 208, 209, 233, 212, 227, 213, 221, 214, 228, 229, 234, 210, 211, 224, 225] → f ≠ q := fun q hq e => hf (e ▸ hq)
  unfold ms_carry ms_carN
  split
  · exact pa_us_ne (h 224 (by decide))
  split
  · rw [pa_us_ne (h 224 (by decide)), ms_pre_ne (h 228 (by decide)) (h 229 (by decide)) (h 225 (by decide)) (h 215 (by decide))]
  · rw [ms_does_ne (fun q => hf (by revert q; simp only [List.mem_cons, List.not_mem_nil, or_false]; omega)), pa_us_ne (h 224 (by decide)), ms_tk_ne (h 208 (by decide)) (h 209 (by decide)) (h 233 (by decide)) (h 212 (by decide)), ms_pre_ne (h 228 (by decide)) (h 229 (by decide)) (h 225 (by decide)) (h 215 (by decide))]
theorem ms_carry_224 {S : Nat → Nat → Int32} {t k : Nat} : (k ≠ t → ms_carry S t 224 k = S 224 k) ∧ ms_carry S t 224 t ≠ 0 := by
  unfold ms_carry ms_carN
  split
  · exact ⟨fun h => pa_us_nj h, by rw [pa_us_self]; decide⟩
  split
  · exact ⟨fun h => by rw [pa_us_nj h, ms_pre_n (by decide)], by rw [pa_us_self]; decide⟩
  · refine ⟨fun h => ?_, ?_⟩
    · rw [ms_does_ne (by decide), pa_us_nj h, ms_tk_ne (by decide) (by decide) (by decide) (by decide), ms_pre_n (by decide)]
    · rw [ms_does_ne (by decide), pa_us_self]
      decide
theorem ms_carry_227a {S : Nat → Nat → Int32} {t k : Nat} (ha : S 219 t = 4) : ms_carry S t 227 k = S 227 k := by
  have e : mn (S 219 t) = 4 := by rw [ha]; decide
  unfold ms_carry ms_carN
  rw [e]
  split
  · exact pa_us_ne (by decide)
  split
  · rw [pa_us_ne (by decide), ms_pre_n (by decide)]
  · rw [ms_does_T (by decide) (by decide), ← ms_doT_4, pa_us_ne (by decide), pa_us_ne (by decide), ms_tk_ne (by decide) (by decide) (by decide) (by decide), ms_pre_n (by decide)]
-- what comes late
theorem mj_l_dlv {S : Nat → Nat → Int32} {t c : Nat} (h : mj_l S) (hc : S 200 0 = nI c) (hc9 : c < 30000) : mj_l (ms_dlv S t) := by
  have key : ∀ n, (pz_it (ms_dls t) n S 200 0 = S 200 0) ∧ mj_l (pz_it (ms_dls t) n S) := by
    intro n
    induction n with
    | zero => exact ⟨rfl, h⟩
    | succ n ih =>
      rw [pz_it_s]
      obtain ⟨i1, i2⟩ := ih
      generalize pz_it (ms_dls t) n S = S' at i1 i2 ⊢
      unfold ms_dls
      split
      · refine ⟨by rw [pa_us_ne (by decide), pa_us_ne (by decide)]; exact i1, fun p hp => ?_⟩
        rw [pa_us_ne (by decide), pa_us_ne (by decide)]
        by_cases c1 : p = 4 * t + n
        · subst c1
          rw [pa_us_ne (by decide), pa_us_self] at hp
          rw [pa_us_self, if_pos hp, i1, hc, show (2 : Int32) = nI 2 from rfl, nI_add]
          exact (nI_ltI (by omega) (by omega)).mpr (by omega)
        · rw [pa_us_ne (by decide), pa_us_nj c1] at hp
          rw [pa_us_nj c1, pa_us_ne (by decide)]
          exact i2 p hp
      · exact ⟨i1, i2⟩
  exact (key 4).2
theorem mj_l_of {S S' : Nat → Nat → Int32} (h : mj_l S) (e : ∀ f, f ∈ [200, 228, 229] → ∀ j, S' f j = S f j) : mj_l S' := fun p hp => by
  rw [e 228 (by decide)] at hp
  rw [e 200 (by decide), e 229 (by decide)]
  exact h p hp
theorem mj_l_does {S : Nat → Nat → Int32} {t w a u wu x9 v Q q0 y c : Nat} (h : mj_l S) (hc : S 200 0 = nI c) (hc9 : c < 30000) : mj_l (ms_does S t w a u wu x9 v Q q0 y) := by
  have us : ∀ {S' : Nat → Nat → Int32} {f j : Nat} {v : Int32}, mj_l S' → f ∉ [200, 228, 229] → mj_l (pa_us S' f j v) := fun h hf => mj_l_of h fun g hg q => pa_us_ne (fun z => hf (z ▸ hg))
  have says : ∀ {S' : Nat → Nat → Int32} {t w p : Nat} {v : Int32}, mj_l S' → mj_l (ms_says S' t w p v) := fun h => mj_l_of h fun g hg q => ms_says_ne (by intro z; subst z; revert hg; decide) (by intro z; subst z; revert hg; decide) (by intro z; subst z; revert hg; decide) (by intro z; subst z; revert hg; decide)
  have rt : ∀ {S' : Nat → Nat → Int32} {v : Int32}, mj_l S' → mj_l (ms_right S' v) := fun h => us (us h (by decide)) (by decide)
  unfold ms_does
  split
  · unfold ms_doQ
    split
    · exact rt (us (us h (by decide)) (by decide))
    split
    · exact us h (by decide)
    split
    · split
      · exact says (us (us h (by decide)) (by decide))
      · exact us (us h (by decide)) (by decide)
    · exact us (says h) (by decide)
  split
  · unfold ms_doO
    split
    · exact rt (us (mj_l_of h fun g hg q => ms_ofs_ne (by intro z; subst z; revert hg; decide)) (by decide))
    split
    · split
      · exact us (us (mj_l_of (us h (by decide)) fun g hg q => ms_ows_ne (by intro z; subst z; revert hg; decide)) (by decide)) (by decide)
      · exact us (us (us h (by decide)) (by decide)) (by decide)
    · exact us h (by decide)
  split
  · unfold ms_doT
    split
    · intro p hp
      by_cases c1 : p = 4 * u + w
      · rw [c1, pa_us_self] at hp
        exact absurd hp (by decide)
      · rw [pa_us_nj c1] at hp
        rw [pa_us_ne (by decide), pa_us_ne (by decide)]
        exact h p hp
    split
    · exact rt h
    split
    · exact mj_l_dlv h hc hc9
    split
    · exact says h
    · exact rt (us (says h) (by decide))
  · unfold ms_doA
    split
    · exact mj_l_of (us (says h) (by decide) : mj_l (pa_us (ms_says S t w v 1) 234 (10 * (10 * w + u) + v) 1)) fun g hg q => ms_qxs_fr (by intro z; subst z; revert hg; decide)
    split
    · exact mj_l_of h fun g hg q => ms_com_ne (by intro z; subst z; revert hg; decide) (by intro z; subst z; revert hg; decide) (by intro z; subst z; revert hg; decide)
    · exact us (us h (by decide)) (by decide)
theorem mj_l_carry {S : Nat → Nat → Int32} {t c : Nat} (h : mj_l S) (hc : S 200 0 = nI c) (hc9 : c < 30000) : mj_l (ms_carry S t) := by
  have us : ∀ {S' : Nat → Nat → Int32} {f j : Nat} {v : Int32}, mj_l S' → f ∉ [200, 228, 229] → mj_l (pa_us S' f j v) := fun h hf => mj_l_of h fun g hg q => pa_us_ne (fun z => hf (z ▸ hg))
  have pre : ∀ a, mj_l (ms_pre S t a) := fun a => by
    unfold ms_pre
    exact us (us (mj_l_dlv h hc hc9) (by decide)) (by decide)
  unfold ms_carry ms_carN
  split
  · exact us h (by decide)
  split
  · exact us (pre _) (by decide)
  · refine mj_l_does (us (mj_l_of (pre _) fun g hg q => ms_tk_ne (by intro z; subst z; revert hg; decide) (by intro z; subst z; revert hg; decide) (by intro z; subst z; revert hg; decide) (by intro z; subst z; revert hg; decide)) (by decide)) ?_ hc9
    rw [pa_us_ne (by decide), ms_tk_ne (by decide) (by decide) (by decide) (by decide), ms_pre_n (by decide)]
    exact hc
-- the potential
theorem sj_pt_cong {S S' : Nat → Nat → Int32} {T : Nat} (e : ∀ f, f ∈ [208, 210, 225] → ∀ j, S' f j = S f j) : sj_pt S' T = sj_pt S T := by
  unfold sj_pt sj_nd sj_nz sj_nh
  rw [show S' 208 = S 208 from funext (e 208 (by decide)), show S' 210 = S 210 from funext (e 210 (by decide)), show S' 225 = S 225 from funext (e 225 (by decide))]
theorem sj_pt_us {S : Nat → Nat → Int32} {T f j : Nat} {v : Int32} (hf : f ∉ [208, 210, 225]) : sj_pt (pa_us S f j v) T = sj_pt S T := sj_pt_cong fun g hg q => pa_us_ne (fun z => hf (z ▸ hg))
theorem sj_pt_says {S : Nat → Nat → Int32} {T t w p : Nat} {v : Int32} (hw : w < 4) (hp : p < 10) (hv : v ≠ 0) : sj_pt S T ≤ sj_pt (ms_says S t w p v) T := by
  unfold ms_says
  rw [sj_pt_us (by decide)]
  exact sj_pt_com_le hw hp hv
theorem sj_pt_com1 {S : Nat → Nat → Int32} {T w p : Nat} {v t : Int32} (hw : w < 4) (hp : p < 10) : sj_pt S T ≤ sj_pt (ms_com S w p v t) T + 1 := by
  have e210 : ms_com S w p v t 210 = S 210 := funext fun j => ms_com_ne (by decide) (by decide) (by decide)
  have e225 : ms_com S w p v t 225 = S 225 := funext fun j => ms_com_ne (by decide) (by decide) (by decide)
  have h1 := sj_c_up (p := fun k => decide (ms_com S w p v t 208 k = 0)) (q := fun k => decide (S 208 k = 0)) (i := 10 * w + p) (n := 40) (by omega) (fun k hk hne => by rw [ms_com_208, if_neg hne])
  have h3 := Bool.toNat_le (decide (ms_com S w p v t 208 (10 * w + p) = 0))
  have b2 := sj_nz_le S
  have b3 := sj_nz_le (ms_com S w p v t)
  unfold sj_pt sj_nh sj_nd
  rw [e210, e225]
  unfold sj_nz at b2 b3 ⊢
  omega
theorem sj_pt_hint1 {S : Nat → Nat → Int32} {T p : Nat} {v tt : Int32} (hp : p < 40) : sj_pt S T ≤ sj_pt (pa_us (pa_us S 210 p v) 211 p tt) T + 1 := by
  rw [sj_pt_us (by decide)]
  have e208 : pa_us S 210 p v 208 = S 208 := funext fun j => pa_us_ne (by decide)
  have e225 : pa_us S 210 p v 225 = S 225 := funext fun j => pa_us_ne (by decide)
  have h1 := sj_c_up (p := fun k => decide (pa_us S 210 p v 210 k ≠ 0)) (q := fun k => decide (S 210 k ≠ 0)) (i := p) (n := 40) hp (fun k hk hne => by rw [pa_us_nj hne])
  have h3 := Bool.toNat_le (decide (pa_us S 210 p v 210 p ≠ 0))
  have b1 := sj_nh_le (pa_us S 210 p v)
  have b2 := sj_nh_le S
  unfold sj_pt sj_nz sj_nd
  rw [e208, e225]
  unfold sj_nh at b1 b2 ⊢
  omega
theorem sj_pt_does {S : Nat → Nat → Int32} {T t w a u wu x9 v Q q0 y : Nat} (ha16 : a < 16) (hw : w < 4) (hu : a ≤ 1 ∨ (9 ≤ a ∧ a ≤ 12) → u < 10) (hv : a = 0 → S 221 t ≠ 0) (hy : a = 2 → y < 10) (hv9 : a = 9 → v < 10)
    (hcl : a = 7 ∨ a = 8 → x9 < 10 ∧ (S 221 u = 1 ∨ S 221 u = 2)) : sj_pt S T ≤ sj_pt (ms_does S t w a u wu x9 v Q q0 y) T + 1 := by
  unfold ms_does
  split
  · unfold ms_doQ
    split
    · unfold ms_right
      rw [sj_pt_us (by decide), sj_pt_us (by decide), sj_pt_us (by decide), sj_pt_us (by decide)]
      omega
    split
    · rw [sj_pt_us (by decide)]
      omega
    split
    · split
      · rename_i e2 hv0
        have := sj_pt_says (S := pa_us (pa_us S 231 0 (nI (Q - 1))) 220 t (nI y)) (T := T) (t := t) (v := S 221 t) hw (hy e2) (fun q => hv0 (by rw [q]; decide))
        rw [sj_pt_us (by decide), sj_pt_us (by decide)] at this
        omega
      · rw [sj_pt_us (by decide), sj_pt_us (by decide)]
        omega
    · rename_i n1 n3 n2
      rw [sj_pt_us (by decide)]
      have := sj_pt_says (S := S) (T := T) (t := t) (v := S 221 t) hw (hu (by omega)) (hv (by omega))
      omega
  split
  · unfold ms_doO
    split
    · unfold ms_right
      rw [sj_pt_us (by decide), sj_pt_us (by decide), sj_pt_us (by decide), sj_pt_cong (S := S) (fun g hg q => ms_ofs_ne (by intro z; subst z; revert hg; decide))]
      omega
    split
    · split
      · rw [sj_pt_us (by decide), sj_pt_us (by decide), sj_pt_cong (S := pa_us S 227 u 0) (fun g hg q => ms_ows_ne (by intro z; subst z; revert hg; decide)), sj_pt_us (by decide)]
        omega
      · rw [sj_pt_us (by decide), sj_pt_us (by decide), sj_pt_us (by decide)]
        omega
    · rw [sj_pt_us (by decide)]
      omega
  split
  · unfold ms_doT
    split
    · rw [sj_pt_us (by decide)]
      omega
    split
    · unfold ms_right
      rw [sj_pt_us (by decide), sj_pt_us (by decide)]
      omega
    split
    · rw [sj_pt_cong (S := S) (fun g hg q => ms_dlv_ne (by intro z; subst z; revert hg; decide) (by intro z; subst z; revert hg; decide))]
      omega
    split
    · obtain ⟨h1, h2⟩ := hcl (by omega)
      have := sj_pt_says (S := S) (T := T) (t := t) (v := S 221 u) hw h1 (by rcases h2 with q | q <;> rw [q] <;> decide)
      omega
    · obtain ⟨h1, h2⟩ := hcl (by omega)
      have := sj_pt_says (S := S) (T := T) (t := t) (v := ms_contrary (S 221 u)) hw h1 (by rcases h2 with q | q <;> rw [q] <;> decide)
      unfold ms_right
      rw [sj_pt_us (by decide), sj_pt_us (by decide), sj_pt_us (by decide)]
      omega
  · unfold ms_doA
    split
    · rename_i e9
      have := sj_pt_says (S := S) (T := T) (t := t) (v := 1) hw (hv9 e9) (by decide)
      rw [sj_pt_cong (S := pa_us (ms_says S t w v 1) 234 (10 * (10 * w + u) + v) 1) (fun g hg q => ms_qxs_fr (by intro z; subst z; revert hg; decide)), sj_pt_us (by decide)]
      omega
    split
    · exact sj_pt_com1 hw (hu (by omega))
    · exact sj_pt_hint1 (by have := hu (by omega); omega)
theorem sj_pt_pre {S : Nat → Nat → Int32} {T t a : Nat} (ht : t < T) (h0 : S 225 t = -1) (hc : S 200 0 ≠ -1) : sj_pt (ms_pre S t a) T = sj_pt S T + 3 := by
  unfold ms_pre
  rw [sj_pt_us (by decide)]
  have e208 : pa_us (ms_dlv S t) 225 t (S 200 0) 208 = S 208 := funext fun j => (pa_us_ne (by decide)).trans (ms_dlv_ne (by decide) (by decide))
  have e210 : pa_us (ms_dlv S t) 225 t (S 200 0) 210 = S 210 := funext fun j => (pa_us_ne (by decide)).trans (ms_dlv_ne (by decide) (by decide))
  have h1 := sj_c_up (p := fun k => decide (pa_us (ms_dlv S t) 225 t (S 200 0) 225 k ≠ -1)) (q := fun k => decide (S 225 k ≠ -1)) (i := t) (n := T) ht (fun k hk hne => by rw [pa_us_nj hne, ms_dlv_ne (by decide) (by decide)])
  have h2 : (decide (S 225 t ≠ -1)).toNat = 0 := by rw [h0]; rfl
  have h3 : (decide (pa_us (ms_dlv S t) 225 t (S 200 0) 225 t ≠ -1)).toNat = 1 := by rw [pa_us_self, decide_eq_true hc]; rfl
  rw [h2, h3] at h1
  unfold sj_pt sj_nz sj_nh
  rw [e208, e210]
  unfold sj_nd
  omega
def sj_ns (S : Nat → Nat → Int32) (T : Nat) : Nat := sj_c (fun t => decide (S 224 t ≠ 0)) T
/-- what pays: two for each turn that isn't SAID any more, and the potential -/
def sj_ph (S : Nat → Nat → Int32) (T : Nat) : Nat := 2 * sj_ns S T + sj_pt S T
theorem sj_ph_cong {S S' : Nat → Nat → Int32} {T : Nat} (e : ∀ f, f ∈ [208, 210, 224, 225] → ∀ j, S' f j = S f j) : sj_ph S' T = sj_ph S T := by
  unfold sj_ph sj_ns
  rw [show S' 224 = S 224 from funext (e 224 (by decide)), sj_pt_cong (S := S) (fun f hf => e f (by revert hf; simp only [List.mem_cons, List.not_mem_nil, or_false]; omega))]
theorem sj_ph_us {S : Nat → Nat → Int32} {T f j : Nat} {v : Int32} (hf : f ∉ [208, 210, 224, 225]) : sj_ph (pa_us S f j v) T = sj_ph S T := sj_ph_cong fun g hg q => pa_us_ne (fun z => hf (z ▸ hg))
theorem sj_ns_same {S S' : Nat → Nat → Int32} {T : Nat} (e : ∀ j, S' 224 j = S 224 j) : sj_ns S' T = sj_ns S T := by
  unfold sj_ns
  rw [show S' 224 = S 224 from funext e]
theorem sj_ph_pt {S S' : Nat → Nat → Int32} {T : Nat} (e : ∀ j, S' 224 j = S 224 j) (h : sj_pt S T ≤ sj_pt S' T) : sj_ph S T ≤ sj_ph S' T := by
  unfold sj_ph
  rw [sj_ns_same e]
  omega
theorem sj_ns_up {S S' : Nat → Nat → Int32} {T t : Nat} (ht : t < T) (h0 : S 224 t = 0) (h1 : S' 224 t ≠ 0) (e : ∀ j, j ≠ t → S' 224 j = S 224 j) : sj_ns S' T = sj_ns S T + 1 := by
  have h := sj_c_up (p := fun k => decide (S' 224 k ≠ 0)) (q := fun k => decide (S 224 k ≠ 0)) (i := t) (n := T) ht (fun k hk hne => by rw [e k hne])
  have h2 : (decide (S 224 t ≠ 0)).toNat = 0 := by rw [h0]; rfl
  have h3 : (decide (S' 224 t ≠ 0)).toNat = 1 := by rw [decide_eq_true h1]; rfl
  rw [h2, h3] at h
  unfold sj_ns
  omega
theorem sj_ph_carry {S : Nat → Nat → Int32} {T t : Nat} (hM : mw_S S T) (h : mj S T) (ht : t < T) (h0 : S 224 t = 0) (hc : S 200 0 ≠ -1) : sj_ph S T + 2 ≤ sj_ph (ms_carry S t) T := by
  have hns := sj_ns_up ht h0 (ms_carry_224 (S := S) (t := t) (k := t)).2 (fun j hj => (ms_carry_224 (S := S) (t := t) (k := j)).1 hj)
  have h225 : S 225 t = -1 := (h.1.1 t ht).2.2.2 h0
  suffices hpt : sj_pt S T ≤ sj_pt (ms_carry S t) T by
    unfold sj_ph
    omega
  have hT := hM.1.1
  have hcar := mw_car_of hM ht
  have hu5 : (4 ≤ mn (S 219 t) ∧ mn (S 219 t) ≤ 8) ∨ 14 ≤ mn (S 219 t) → mn (S 220 t) < T := fun q => by
    obtain ⟨w', a', k1, k2, k3, k4, k5, -⟩ := mw_S_t hM ht
    have e' : mn (S 219 t) = a' := by rw [k4]; exact nI_clamp (by omega)
    rw [e'] at q
    obtain ⟨u, g1, g2⟩ := k5 q
    rw [g2, show mn (nI u) = u from nI_clamp (by omega)]
    omega
  have hv0 : mn (S 219 t) = 0 → S 221 t ≠ 0 := fun q => by
    obtain ⟨w', a', k1, k2, k3, k4, -⟩ := mw_S_t hM ht
    have e' : mn (S 219 t) = a' := by rw [k4]; exact nI_clamp (by omega)
    rw [e'] at q
    have := (h.1.1 t ht).1 (Or.inl (by rw [k4, q]; rfl))
    rcases this with q | q <;> rw [q] <;> decide
  unfold ms_carry
  generalize mn (S 218 t) = w at hcar ⊢
  generalize mn (S 219 t) = a at hcar hu5 hv0 ⊢
  generalize mn (S 220 t) = u at hcar hu5 ⊢
  generalize mn (S 218 u) = wu at hcar ⊢
  generalize mn (S 220 u) = x9 at hcar ⊢
  generalize mn (S 221 t) = v at hcar ⊢
  generalize mn (S 223 t) = g at hcar ⊢
  generalize mn (S 231 0) = Q at hcar ⊢
  generalize ms_aq S = q0 at hcar ⊢
  generalize mn (S 220 q0) = y at hcar ⊢
  obtain ⟨c1, c2, c3, c4, c5, c6, c7, c8, c9, c10, c11, c12, c13⟩ := hcar
  unfold ms_carN
  split
  · rw [sj_pt_us (by decide)]
    exact Nat.le_refl _
  rename_i hP
  have hp : ms_poss S w a (S 220 t) (S 221 t) (S 222 t) = true := ((Bool.and_eq_true _ _).mp (eq_true_of_ne_false hP)).1
  have h3 := sj_pt_pre (a := a) ht h225 hc
  split
  · rw [sj_pt_us (by decide)]
    omega
  · have htk : sj_pt (ms_pre S t a) T ≤ sj_pt (ms_s2 S t w a g) T := by
      unfold ms_s2
      rw [sj_pt_us (by decide)]
      unfold ms_tk
      split
      · rename_i q
        have q2 := q.1
        unfold ms_tkb at q2
        simp only [Bool.and_eq_true, decide_eq_true_eq, ms_pre_n (show (223 : Nat) ≠ 228 ∧ (223 : Nat) ≠ 229 ∧ (223 : Nat) ≠ 225 ∧ (223 : Nat) ≠ 215 by decide)] at q2
        exact sj_pt_says c3 (c12 q2.1 q2.2).2 (by decide)
      · exact Nat.le_refl _
    show sj_pt S T ≤ sj_pt (ms_does (ms_s2 S t w a g) t w a u wu x9 v Q q0 y) T
    have := sj_pt_does (S := ms_s2 S t w a g) (T := T) (t := t) (w := w) (a := a) (u := u) (wu := wu) (x9 := x9) (v := v) (Q := Q) (q0 := q0) (y := y) c5 c3 (fun q => (c9 q).2) (fun q => by rw [ms_s2_ne 221 (by decide)]; exact hv0 q) (fun q => (c13 (by subst q; exact ms_poss_ans c7 c3 hp)).2) (fun q => (c11 q).2) (fun q => by
      obtain ⟨e1, e2, -, -⟩ := c8 (by omega)
      rw [e1] at hp
      have hcl := ms_poss_claim q e2 hp
      exact ⟨(c10 q hcl).2, by rw [ms_s2_ne 221 (by decide) u]; exact sc_clv h.1 (hu5 (by omega)) hcl⟩)
    omega
