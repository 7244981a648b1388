/-! THE CLASS: what a tick may cost: the potential that every Step raises; what must hold of the rows while stands are taken -/
theorem pr_widen {G : pa_G} {x : pa_X} {nL : Nat} {h : pa_H} {a b a' b' pc : Nat} {lo : List (Option pa_V)} {st : List pa_V} (h1 : a ≤ a') (h2 : b ≤ b') (k : pa_w G x nL h a' b' pc lo st) : pa_w G x nL h a b pc lo st := by
  obtain ⟨p, l, e, R, s, m, args, below, meth, c, Q, h0, ad0, al⟩ := x
  exact fun ad H locs ls q1 q2 q3 q4 => W.widen h1 h2 (k ad H locs ls q1 q2 q3 q4)
/-- the potential -/
def sj_pt (S : Nat → Nat → Int32) (T : Nat) : Nat := 3 * sj_nd S T + (40 - sj_nz S) + (40 - sj_nh S)
theorem sj_nz_le (S : Nat → Nat → Int32) : sj_nz S ≤ 40 := sj_c_le _ 40
theorem sj_nh_le (S : Nat → Nat → Int32) : sj_nh S ≤ 40 := sj_c_le _ 40
/-- a stand is taken where none was -/
theorem sj_pt_com {S : Nat → Nat → Int32} {T w p : Nat} {v t : Int32} (hw : w < 4) (hp : p < 10) (h0 : S 208 (10 * w + p) = 0) (hv : v ≠ 0) : sj_pt (ms_com S w p v t) T = sj_pt S T + 1 := by
  have e210 : ms_com S w p v t 210 = S 210 := funext fun j => ms_com_ne (by decide) (by decide) (by decide)
  have e225 : ms_com S w p v t 225 = S 225 := funext fun j => ms_com_ne (by decide) (by decide) (by decide)
  have h1 := sj_c_up (p := fun k => decide (ms_com S w p v t 208 k = 0)) (q := fun k => decide (S 208 k = 0)) (i := 10 * w + p) (n := 40) (by omega) (fun k hk hne => by rw [ms_com_208, if_neg hne])
  have h2 : (decide (S 208 (10 * w + p) = 0)).toNat = 1 := by rw [h0]; rfl
  have h3 : (decide (ms_com S w p v t 208 (10 * w + p) = 0)).toNat = 0 := by rw [ms_com_208, if_pos rfl, decide_eq_false hv]; rfl
  rw [h2, h3] at h1
  have b1 := sj_nz_le (ms_com S w p v t)
  have b2 := sj_nz_le S
  unfold sj_pt sj_nh sj_nd
  rw [e210, e225]
  unfold sj_nz at b1 b2 ⊢
  omega
/-- a hint goes -/
theorem sj_pt_hint {S : Nat → Nat → Int32} {T p : Nat} (hp : p < 40) (h0 : S 210 p ≠ 0) : sj_pt (pa_us S 210 p 0) T = sj_pt S T + 1 := by
  have e208 : pa_us S 210 p 0 208 = S 208 := funext fun j => pa_us_ne (by decide)
  have e225 : pa_us S 210 p 0 225 = S 225 := funext fun j => pa_us_ne (by decide)
  have h1 := sj_c_up (p := fun k => decide (pa_us S 210 p 0 210 k ≠ 0)) (q := fun k => decide (S 210 k ≠ 0)) (i := p) (n := 40) hp (fun k hk hne => by rw [pa_us_nj hne])
  have h2 : (decide (S 210 p ≠ 0)).toNat = 1 := by rw [decide_eq_true h0]; rfl
  have h3 : (decide (pa_us S 210 p 0 210 p ≠ 0)).toNat = 0 := by rw [pa_us_self]; rfl
  rw [h2, h3] at h1
  have b1 := sj_nh_le (pa_us S 210 p 0)
  have b2 := sj_nh_le S
  unfold sj_pt sj_nz sj_nd
  rw [e208, e225]
  unfold sj_nh at b1 b2 ⊢
  omega
/-- a stand taken never lowers it, but for taking back -/
theorem sj_pt_com_le {S : Nat → Nat → Int32} {T w p : Nat} {v t : Int32} (hw : w < 4) (hp : p < 10) (hv : v ≠ 0) : sj_pt S T ≤ sj_pt (ms_com S w p v t) T := by
  have e210 : ms_com S w p v t 210 = S 210 := funext fun j => ms_com_ne (by decide) (by decide) (by decide)
  have e225 : ms_com S w p v t 225 = S 225 := funext fun j => ms_com_ne (by decide) (by decide) (by decide)
  have h1 := sj_c_up (p := fun k => decide (ms_com S w p v t 208 k = 0)) (q := fun k => decide (S 208 k = 0)) (i := 10 * w + p) (n := 40) (by omega) (fun k hk hne => by rw [ms_com_208, if_neg hne])
  have h3 : (decide (ms_com S w p v t 208 (10 * w + p) = 0)).toNat = 0 := by rw [ms_com_208, if_pos rfl, decide_eq_false hv]; rfl
  rw [h3] at h1
  have b2 := sj_nz_le S
  unfold sj_pt sj_nh sj_nd
  rw [e210, e225]
  unfold sj_nz at b2 ⊢
  omega
theorem mj_s_com {S : Nat → Nat → Int32} {w p t : Nat} {v : Int32} (h : mj_s S) (hv : v = 0 ∨ v = 1 ∨ v = 2) : mj_s (ms_com S w p v (nI t)) := fun q hq => by
  rw [ms_com_208, ms_com_209]
  by_cases c : q = 10 * w + p
  · rw [if_pos c, if_pos c]
    exact ⟨hv, fun z => if_pos z⟩
  · rw [if_neg c, if_neg c]
    exact h q hq
theorem mj_s_says {S : Nat → Nat → Int32} {w p t : Nat} {v : Int32} (h : mj_s S) (hv : v = 0 ∨ v = 1 ∨ v = 2) : mj_s (ms_says S t w p v) := mj_s_of (mj_s_com h hv) (fun j => pa_us_ne (by decide)) (fun j => pa_us_ne (by decide))
theorem mj_t_of {S S' : Nat → Nat → Int32} {t : Nat} (h : mj_t S t) (e : ∀ f, f ∈ [218, 219, 221, 222, 224, 225] → S' f t = S f t) : mj_t S' t := by
  unfold mj_t at h ⊢
  rw [e 218 (by decide), e 219 (by decide), e 221 (by decide), e 222 (by decide), e 224 (by decide), e 225 (by decide)]
  exact h
theorem mj_T_of {S S' : Nat → Nat → Int32} {T : Nat} (h : mj_T S T) (e : ∀ f, f ∈ [218, 219, 221, 222, 224, 225] → ∀ t, S' f t = S f t) : mj_T S' T :=
  ⟨fun t ht => mj_t_of (h.1 t ht) (fun f hf => e f hf t), fun t ht => (e 224 (by decide) t).trans (h.2 t ht)⟩
theorem mj_g_of {S S' : Nat → Nat → Int32} {T : Nat} (h : mj_g S T) (e : ∀ p, S' 228 p = S 228 p) : mj_g S' T := ⟨fun p => by rw [e]; exact h.1 p, fun p hp => (e p).trans (h.2 p hp)⟩
theorem mj_o_of {S S' : Nat → Nat → Int32} {T : Nat} (h : mj_o S T) (e : ∀ f, f ∈ [227, 219, 224] → ∀ t, S' f t = S f t) : mj_o S' T := fun t => by
  rw [e 227 (by decide), e 219 (by decide), e 224 (by decide)]
  exact h t
theorem mj_h_of {S S' : Nat → Nat → Int32} (h : mj_h S) (e : ∀ f, f ∈ [210, 211, 221, 219] → ∀ t, S' f t = S f t) : mj_h S' := fun p hp h0 => by
  rw [e 210 (by decide)] at h0 ⊢
  rw [e 211 (by decide), e 221 (by decide), e 219 (by decide)]
  exact h p hp h0
/-- all of it, behind a stand -/
theorem mj_com {S : Nat → Nat → Int32} {T w p t : Nat} {v : Int32} (h : mj S T) (hv : v = 0 ∨ v = 1 ∨ v = 2) : mj (ms_com S w p v (nI t)) T := by
  have e : ∀ f, f ≠ 208 → f ≠ 209 → f ≠ 233 → ∀ j, ms_com S w p v (nI t) f j = S f j := fun f h1 h2 h3 j => ms_com_ne h1 h2 h3
  refine ⟨mj_T_of h.1 (fun f hf j => e f ?_ ?_ ?_ j), mj_s_com h.2.1 hv, mj_o_of h.2.2.1 (fun f hf j => e f ?_ ?_ ?_ j), mj_h_of h.2.2.2.1 (fun f hf j => e f ?_ ?_ ?_ j), mj_q_com, mj_g_of h.2.2.2.2.2 (e 228 (by decide) (by decide) (by decide))⟩ <;> (intro z; subst z; revert hf; decide)
theorem mj_says {S : Nat → Nat → Int32} {T w p t : Nat} {v : Int32} (h : mj S T) (hv : v = 0 ∨ v = 1 ∨ v = 2) : mj (ms_says S t w p v) T := by
  have e : ∀ f, f ≠ 208 → f ≠ 209 → f ≠ 233 → f ≠ 212 → ∀ j, ms_says S t w p v f j = S f j := fun f h1 h2 h3 h4 j => ms_says_ne h1 h2 h3 h4
  refine ⟨mj_T_of h.1 (fun f hf j => e f ?_ ?_ ?_ ?_ j), mj_s_says h.2.1 hv, mj_o_of h.2.2.1 (fun f hf j => e f ?_ ?_ ?_ ?_ j), mj_h_of h.2.2.2.1 (fun f hf j => e f ?_ ?_ ?_ ?_ j), mj_q_says, mj_g_of h.2.2.2.2.2 (e 228 (by decide) (by decide) (by decide) (by decide))⟩ <;> (intro z; subst z; revert hf; decide)
/-- a hint goes: all else stands -/
theorem mj_hint0 {S : Nat → Nat → Int32} {T p : Nat} (h : mj S T) : mj (pa_us S 210 p 0) T := by
  have e : ∀ f, f ≠ 210 → ∀ j, pa_us S 210 p 0 f j = S f j := fun f h1 j => pa_us_ne h1
  refine ⟨mj_T_of h.1 (fun f hf j => e f ?_ j), mj_s_of h.2.1 (e 208 (by decide)) (e 209 (by decide)), mj_o_of h.2.2.1 (fun f hf j => e f ?_ j), fun q hq h0 => ?_, mj_q_of h.2.2.2.2.1 (e 208 (by decide)) (e 233 (by decide)), mj_g_of h.2.2.2.2.2 (e 228 (by decide))⟩
  · intro z; subst z; revert hf; decide
  · intro z; subst z; revert hf; decide
  · by_cases c : q = p
    · rw [c, pa_us_self] at h0
      exact absurd rfl h0
    · rw [pa_us_nj c] at h0 ⊢
      rw [e 211 (by decide), e 221 (by decide), e 219 (by decide)]
      exact h.2.2.2.1 q hq h0
