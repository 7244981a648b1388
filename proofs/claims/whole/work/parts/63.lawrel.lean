/-! WHAT HOLDS BETWEEN THE LAW'S CALLS -/
theorem s9_floor {S : Nat → Nat → Int32} {T c p : Nat} (hA : sc_A S T c) (hp : 4 * T ≤ p) : ms_floor S 229 p = S 229 p := by
  have hT := hA.1.1.1
  unfold ms_floor
  by_cases hb : ms_best S = -1
  · rw [if_pos hb, ms_lose_ne (by decide) (by decide)]
  · obtain ⟨m, t, h1, h2, h3, h4, h5, -⟩ := sc_fl hA hb
    rw [if_neg hb, h2, show mn (nI m) = m from mn_nI (by omega), h4, show mn (nI t) = t from mn_nI (by omega), s9_carry (mw_S_lose hA.1) h5 hp, ms_lose_ne (by decide) (by decide)]
theorem ms_ack_201 {S : Nat → Nat → Int32} {k : Nat} : ms_ack S k 201 0 = S 201 0 := by
  unfold ms_ack
  split
  · rw [pa_us_ne (by decide), ms_carry_ne (by decide)]
  · rfl
theorem ms_floor_201 {S : Nat → Nat → Int32} : ms_floor S 201 0 = S 201 0 := by
  unfold ms_floor
  split
  · rw [ms_lose_ne (by decide) (by decide)]
  · rw [ms_carry_ne (by decide), ms_lose_ne (by decide) (by decide)]
theorem s9_tick1 {S : Nat → Nat → Int32} {T c k p : Nat} (hA : sc_A S T c) (hp : 4 * T ≤ p) : ms_tick1 T S k 229 p = S 229 p ∧ ms_tick1 T S k 201 0 = S 201 0 := by
  have h1 : sc_A (ms_acks S) T c := sc_A_acks hA 4 (by omega)
  unfold ms_tick1
  refine ⟨?_, ?_⟩
  · rw [ms_sil_ne (by decide) (by decide) (by decide), ms_opn_ne (by decide), ms_hard_ne (by decide) (by decide) (by decide) (by decide), s9_comes hp]
    unfold ms_clk
    rw [pa_us_ne (by decide), s9_floor h1 hp, s9_acks hA.1 hp]
  · rw [ms_sil_ne (by decide) (by decide) (by decide), ms_opn_ne (by decide), ms_hard_ne (by decide) (by decide) (by decide) (by decide), ms_comes_ne (by decide) (by decide)]
    unfold ms_clk
    rw [pa_us_ne (by decide), ms_floor_201]
    exact pz_it_inv (f := ms_ack) (I := fun S' => S' 201 0 = S 201 0) (fun s k h => by rw [ms_ack_201]; exact h) 4 S rfl
theorem s9_ticks {z : sj_Z} {S : Nat → Nat → Int32} {T c m : Nat} (h : sc_I z S T c 0) (hc : c + m + 1 < 30000) : ∀ k, k ≤ m → (∀ p, 4 * T ≤ p → pz_it (ms_tick1 T) k S 229 p = S 229 p) ∧ pz_it (ms_tick1 T) k S 201 0 = S 201 0
  | 0, _ => ⟨fun _ _ => rfl, rfl⟩
  | k + 1, hk => by
    have ih := s9_ticks h hc k (by omega)
    have hA := (sc_I_ticks h hc k (by omega)).1
    rw [pz_it_s]
    exact ⟨fun p hp => (s9_tick1 hA hp).1.trans (ih.1 p hp), (s9_tick1 (p := 4 * T) hA (Nat.le_refl _)).2.trans ih.2⟩
/-- the class's state stands for the rows S: T turns, c ticks have gone by -/
def lw_R (K : Nat → Nat → Nat → Int32) (N : Nat → Nat) (T : Nat) (z : sj_Z) (S : Nat → Nat → Int32) (c : Nat) : Prop :=
  sj_M K N T T z 0 S ∧ sc_A S T c ∧ z.1 = false ∧ (∀ j, j < 4 → z.2 j = S 230 j) ∧ (S 201 0 = 0 ∨ S 201 0 = 1) ∧ ∀ p, 4 * T ≤ p → S 229 p = 0
section REL
variable {K K' : Nat → Nat → Nat → Int32} {N N' : Nat → Nat} {T c m : Nat} {z : sj_Z} {S : Nat → Nat → Int32} {f j : Nat} {v : Int32}
theorem lw_R_235 (h : lw_R K N T z S c) : lw_R K N T z (pa_us S 235 0 v) c :=
  ⟨sj_M_235 h.1 (fun f j hf => pa_us_ne hf), sc_A_us h.2.1 (by decide), h.2.2.1, fun j hj => (h.2.2.2.1 j hj).trans (pa_us_ne (by decide)).symm, by rw [pa_us_ne (by decide)]; exact h.2.2.2.2.1, fun p hp => (pa_us_ne (by decide)).trans (h.2.2.2.2.2 p hp)⟩
theorem lw_R_us (h : lw_R K N T z S c) (hs : sj_M K' N' T T z 0 (pa_us S f j v)) (hf : f ∉ sc_Af) (h201 : f ≠ 201) : lw_R K' N' T z (pa_us S f j v) c := by
  have h230 : 230 ≠ f := fun e => hf (by rw [← e]; decide)
  have h229 : 229 ≠ f := fun e => hf (by rw [← e]; decide)
  exact ⟨hs, sc_A_us h.2.1 hf, h.2.2.1, fun j hj => (h.2.2.2.1 j hj).trans (pa_us_ne h230).symm, by rw [pa_us_ne (fun e => h201 e.symm)]; exact h.2.2.2.2.1, fun p hp => (pa_us_ne h229).trans (h.2.2.2.2.2 p hp)⟩
theorem lw_R_201 (h : lw_R K N T z S c) (hs : sj_M K' N' T T z 0 (pa_us S 201 0 v)) (hv : v = 0 ∨ v = 1) : lw_R K' N' T z (pa_us S 201 0 v) c :=
  ⟨hs, sc_A_us h.2.1 (by decide), h.2.2.1, fun j hj => (h.2.2.2.1 j hj).trans (pa_us_ne (by decide)).symm, by rw [pa_us_self]; exact hv, fun p hp => (pa_us_ne (by decide)).trans (h.2.2.2.2.2 p hp)⟩
theorem lw_R_I (h : lw_R K N T z S c) : sc_I z S T c 0 := ⟨h.2.1, h.2.2.2.1, h.2.2.1⟩
theorem lw_R_tick (h : lw_R K N T z S c) (hm : 1 ≤ m) (hc : c + m + 1 < 30000) (hs : sj_M K' N' T T sc_zf 0 (ms_ticks T m S)) : lw_R K' N' T sc_zf (ms_ticks T m S) (c + m) ∧ sj_ph S T ≤ sj_ph (ms_ticks T m S) T := by
  have hI := sc_I_ticks (lw_R_I h) hc m (Nat.le_refl m)
  have h9 := s9_ticks (lw_R_I h) hc m (Nat.le_refl m)
  have hz : sc_zt z m = sc_zf := by
    obtain ⟨k, rfl⟩ : ∃ k, m = k + 1 := ⟨m - 1, by omega⟩
    rfl
  have hI2 := hI.2
  rw [hz] at hI2
  exact ⟨⟨hs, hI.1, hI2.2, hI2.1, by rw [show ms_ticks T m S 201 0 = S 201 0 from h9.2]; exact h.2.2.2.2.1, fun p hp => (h9.1 p hp).trans (h.2.2.2.2.2 p hp)⟩, sc_I_ph (lw_R_I h) hc m 0 (Nat.zero_add m)⟩
theorem lw_R_say {sp a : Nat} {of how set fr : Int32} (h : lw_R K N T z S c) (hT1 : T < 100) (hsp : sp < 4) (ha : a < 16) (ht : ms_told (nI T) (nI sp) (nI a) of how set fr = true) (hs : sj_M K' N' (T + 1) (T + 1) (z.1, fun i => if i = sp then nI T else z.2 i) 0 (ms_say S T sp a of how set fr)) :
    lw_R K' N' (T + 1) (z.1, fun i => if i = sp then nI T else z.2 i) (ms_say S T sp a of how set fr) c ∧ sj_ph S T ≤ sj_ph (ms_say S T sp a of how set fr) (T + 1) := by
  obtain ⟨v1, v2, v3, v4, v5, v6, v7, v8, v9, v10⟩ := ms_say_V (S := S) (T := T) (sp := sp) (a := a) (of := of) (how := how) (set := set) (fr := fr)
  have hJ := h.2.1.2.1
  refine ⟨⟨hs, sc_A_say h.2.1 hT1 hsp ha ht, h.2.2.1, fun j hj => ?_, ?_, fun p hp => ?_⟩, ?_⟩
  · dsimp only
    by_cases e : j = sp
    · subst e
      rw [if_pos rfl, v9]
    · rw [if_neg e, v10 j e]
      exact h.2.2.2.1 j hj
  · rw [ms_say_A (by decide) (by decide) (by decide)]
    exact h.2.2.2.2.1
  · rw [ms_say_A (by decide) (by decide) (by decide)]
    exact h.2.2.2.2.2 p (by omega)
  · have e208 : ms_say S T sp a of how set fr 208 = S 208 := funext fun j => ms_say_A (by decide) (by decide) (by decide)
    have e210 : ms_say S T sp a of how set fr 210 = S 210 := funext fun j => ms_say_A (by decide) (by decide) (by decide)
    have e224 : ms_say S T sp a of how set fr 224 = S 224 := funext fun j => ms_say_A (by decide) (by decide) (by decide)
    have e225 : sj_nd S T ≤ sj_nd (ms_say S T sp a of how set fr) (T + 1) := by
      have e : sj_nd (ms_say S T sp a of how set fr) T = sj_nd S T := sj_c_cong fun k hk => by rw [ms_say_B (by omega) (by decide) (by decide)]
      unfold sj_nd at e ⊢
      rw [sj_c, e]
      omega
    unfold sj_ph sj_ns sj_pt sj_nz sj_nh
    rw [e208, e210, e224]
    have e9 : sj_c (fun t => decide (S 224 t ≠ 0)) T ≤ sj_c (fun t => decide (S 224 t ≠ 0)) (T + 1) := Nat.le_add_right _ _
    omega
theorem sj_ph_580 (hT : T ≤ 100) : sj_ph S T ≤ 580 := by
  have h1 : sj_ns S T ≤ T := sj_c_le _ T
  have h2 : sj_nd S T ≤ T := sj_c_le _ T
  unfold sj_ph sj_pt
  omega
theorem ms_canSay_235 {w a : Nat} {of how set : Int32} : ms_canSay (pa_us S 235 0 v) w a of how set = ms_canSay S w a of how set := by
  have e : ∀ f, f ≠ 235 → (pa_us S 235 0 v) f = S f := fun f hf => funext fun j => pa_us_ne hf
  unfold ms_canSay ms_poss ms_perm ms_top ms_aq ms_isMissed ms_isClaim ms_owns ms_asIn ms_qr
  simp only [e 201 (by decide), e 208 (by decide), e 210 (by decide), e 213 (by decide), e 217 (by decide), e 218 (by decide), e 219 (by decide), e 220 (by decide), e 221 (by decide), e 222 (by decide), e 224 (by decide), e 227 (by decide), e 228 (by decide), e 230 (by decide), e 231 (by decide), e 232 (by decide), e 233 (by decide)]
theorem sc_kn {set one : Int32} : ms_kn set one = (ms_in set 1 7 && ms_in one 0 2 && ms_isIn set one) := by
  unfold ms_kn
  first | rfl | (cases ms_in set 1 7 <;> cases ms_in one 0 2 <;> cases ms_isIn set one <;> rfl)
end REL
