/-! THE REFERENCE, fourth part: the steps of a tick -/
def ms_holder (S : Nat → Nat → Int32) : Int32 := if S 215 0 ≠ -1 ∧ S 200 0 ≤ S 216 0 then S 215 0 else -1
theorem ms_holder_r {S : Nat → Nat → Int32} {T : Nat} (h : mw_S S T) : ms_holder S = -1 ∨ ∃ r, r < 4 ∧ ms_holder S = nI r := by
  unfold ms_holder
  split
  · exact h.2.2.2.2.2
  · exact Or.inl rfl
set_option maxRecDepth 100000 in
set_option maxHeartbeats 2000000 in
theorem c_X4_holder (G : pa_G) (l : Launch) (h : pa_H)  : pa_MP G l mX4_holder 1 [pv_o 5 0] h (pv_i (ms_holder h.2.1)) := by
  refine pa_go l (by decide) (by simp [pa_c1l, pa_c1]) (fun _ => rfl) fun x C E el ea => ?_
  subst el
  show pa_w G x 1 h 0 0 0 [some (pv_o 5 0)] []
  have j27_1 : pa_w G x 1 h 0 0 27 [some (pv_o 5 0)] [pv_i (ms_holder h.2.1)] := by
    exact pr_iret (pc := 27) C E (Or.inl rfl) (by omega) (by omega) ⟨rfl, rfl⟩ dX4_holder_27
  refine pr_aload_n (pc := 0) C dX4_holder_0 rfl ?_
  refine pr_getm (pc := 1) C 215 wf_X4_95 rfl (by decide) (pl_5 _) dX4_holder_1 ?_
  refine pr_iconst (pc := 4) (v := -1) C dX4_holder_4 (by decide) ?_
  refine pr_icmp_eq (pc := 5) C 26 dX4_holder_5 (by decide) (fun c_5 => ?_) (fun c_5 => ?_)
  · refine pr_iconst (pc := 26) (v := -1) C dX4_holder_26 (by decide) ?_
    exact pr_eqi (show (-1 : Int32) = (ms_holder h.2.1) from (by simp [-Int32.not_le, -Int32.not_lt, pz_b, pz_lt, ms_holder, eq_true c_5])) j27_1
  · refine pr_aload_n (pc := 8) C dX4_holder_8 rfl ?_
    refine pr_getm (pc := 9) C 200 wf_X4_121 rfl (by decide) (pl_5 _) dX4_holder_9 ?_
    refine pr_aload_n (pc := 12) C dX4_holder_12 rfl ?_
    refine pr_getm (pc := 13) C 216 wf_X4_190 rfl (by decide) (pl_5 _) dX4_holder_13 ?_
    refine pr_icmp_gtL (pc := 16) C 26 dX4_holder_16 (by decide) (fun c_16 => ?_) (fun c_16 => ?_)
    · refine pr_iconst (pc := 26) (v := -1) C dX4_holder_26 (by decide) ?_
      exact pr_eqi (show (-1 : Int32) = (ms_holder h.2.1) from (by simp [-Int32.not_le, -Int32.not_lt, pz_b, pz_lt, ms_holder, eq_false c_5, c_16])) j27_1
    · refine pr_aload_n (pc := 19) C dX4_holder_19 rfl ?_
      refine pr_getm (pc := 20) C 215 wf_X4_95 rfl (by decide) (pl_5 _) dX4_holder_20 ?_
      refine pr_goto (pc := 23) C 27 dX4_holder_23 (by decide) ?_
      exact pr_eqi (show (h.2.1 215 0) = (ms_holder h.2.1) from (by simp [-Int32.not_le, -Int32.not_lt, pz_b, pz_lt, ms_holder, eq_false c_5, c_16])) j27_1

def ms_cls (S : Nat → Nat → Int32) (p : Nat) : Nat → Nat → Int32 :=
  if S 228 p = 2 ∧ S 229 p ≤ S 200 0 then pa_us (pa_us S 228 p (if ms_deaf S (p % 4) then 1 else 3)) 229 p (S 200 0) else S
def ms_comes (S : Nat → Nat → Int32) (T : Nat) : Nat → Nat → Int32 := pz_it ms_cls (4 * T) S
theorem ms_cls_ne {S : Nat → Nat → Int32} {p f j : Nat} (h1 : f ≠ 228) (h2 : f ≠ 229) : ms_cls S p f j = S f j := by
  unfold ms_cls
  split
  · rw [pa_us_ne h2, pa_us_ne h1]
  · rfl
theorem ms_comes_ne {S : Nat → Nat → Int32} {T f j : Nat} (h1 : f ≠ 228) (h2 : f ≠ 229) : ms_comes S T f j = S f j :=
  pz_it_inv (f := ms_cls) (I := fun S' => S' f j = S f j) (fun s k h => (ms_cls_ne h1 h2).trans h) _ S rfl
set_option maxRecDepth 100000 in
set_option maxHeartbeats 2000000 in
theorem c_X4_comesLate (G : pa_G) (l : Launch) (h : pa_H) (T : Nat) (hT : T ≤ 100) (hS : h.2.1 217 0 = nI T) : pa_ME G l mX4_comesLate 2 [pv_o 5 0] h (h.1, ms_comes h.2.1 T, h.2.2) := by
  refine pa_go l (by decide) (by simp [pa_c1l, pa_c1]) (fun _ => rfl) fun x C E el ea => ?_
  subst el
  show pa_w G x 2 h 0 0 0 [some (pv_o 5 0), none] []
  refine pr_iconst (pc := 0) (v := 0) C dX4_comesLate_0 (by decide) ?_
  refine pr_istore_n (pc := 1) C dX4_comesLate_1 (by decide) ?_
  have lp2 : ∀ (n3 k1 : Nat) (S5 : Nat → Nat → Int32), k1 ≤ 4 * T → 4 * T < k1 + n3 → S5 = pz_it ms_cls k1 h.2.1 → S5 217 0 = nI T → pa_w G x 2 (h.1, S5, h.2.2) 0 0 2 [some (pv_o 5 0), some (pv_i (nI k1))] [] := by
    intro n3
    induction n3 with
    | zero => intro k1 S5 h1 h2; exact absurd h2 (by omega)
    | succ n3 ih4 =>
      intro k1 S5 hk1_k1 hk2_k1 eS_k1 hx_k1
      refine pr_iload_n (pc := 2) C dX4_comesLate_2 rfl ?_
      refine pr_iconst (pc := 3) (v := 4) C dX4_comesLate_3 (by decide) ?_
      refine pr_aload_n (pc := 4) C dX4_comesLate_4 rfl ?_
      refine pr_getm (pc := 5) C 217 wf_X4_131 rfl (by decide) (pl_5 _) dX4_comesLate_5 ?_
      refine pr_eqi hx_k1 ?_
      refine pr_imulN (pc := 8) C dX4_comesLate_8 4 T rfl rfl ?_
      refine pr_icmp_geN (pc := 9) C 72 k1 (4 * T) dX4_comesLate_9 (by decide) rfl rfl (by omega) (by omega) (fun c_9 => ?_) (fun c_9 => ?_)
      · obtain rfl : 4 * T = k1 := by omega
        exact pr_vret (pc := 72) C E (by omega) (by omega) ⟨rfl, by rw [eS_k1]; rfl⟩ dX4_comesLate_72
      · refine pr_aload_n (pc := 12) C dX4_comesLate_12 rfl ?_
        refine pr_geta (pc := 13) C 228 328 wf_X4_77 rfl rfl (by decide) (pl_5 _) dX4_comesLate_13 ?_
        refine pr_iload_n (pc := 16) C dX4_comesLate_16 rfl ?_
        refine pr_aldm (pc := 17) (n := 400) C 228 k1 rfl rfl rfl (pl_r5 (by decide)) rfl (by omega) (by decide) dX4_comesLate_17 ?_
        refine pr_iconst (pc := 18) (v := 2) C dX4_comesLate_18 (by decide) ?_
        refine pr_icmp_ne (pc := 19) C 66 dX4_comesLate_19 (by decide) (fun c_19 => ?_) (fun c_19 => ?_)
        · refine pr_iincN (pc := 66) C dX4_comesLate_66 rfl k1 1 rfl rfl (by decide) ?_
          refine pr_goto (pc := 69) C 2 dX4_comesLate_69 (by decide) ?_
          exact ih4 (k1 + 1) S5 (by omega) (by omega) (by rw [pz_it_s, ← eS_k1]; simp [-Int32.not_le, -Int32.not_lt, pz_b, pz_lt, ms_cls, c_9, eq_false c_19]) hx_k1
        · refine pr_aload_n (pc := 22) C dX4_comesLate_22 rfl ?_
          refine pr_geta (pc := 23) C 229 329 wf_X4_80 rfl rfl (by decide) (pl_5 _) dX4_comesLate_23 ?_
          refine pr_iload_n (pc := 26) C dX4_comesLate_26 rfl ?_
          refine pr_aldm (pc := 27) (n := 400) C 229 k1 rfl rfl rfl (pl_r5 (by decide)) rfl (by omega) (by decide) dX4_comesLate_27 ?_
          refine pr_aload_n (pc := 28) C dX4_comesLate_28 rfl ?_
          refine pr_getm (pc := 29) C 200 wf_X4_121 rfl (by decide) (pl_5 _) dX4_comesLate_29 ?_
          refine pr_icmp_gtL (pc := 32) C 66 dX4_comesLate_32 (by decide) (fun c_32 => ?_) (fun c_32 => ?_)
          · refine pr_iincN (pc := 66) C dX4_comesLate_66 rfl k1 1 rfl rfl (by decide) ?_
            refine pr_goto (pc := 69) C 2 dX4_comesLate_69 (by decide) ?_
            exact ih4 (k1 + 1) S5 (by omega) (by omega) (by rw [pz_it_s, ← eS_k1]; simp [-Int32.not_le, -Int32.not_lt, pz_b, pz_lt, ms_cls, c_9, eq_true c_19, c_32]) hx_k1
          · refine pr_aload_n (pc := 35) C dX4_comesLate_35 rfl ?_
            refine pr_geta (pc := 36) C 228 328 wf_X4_77 rfl rfl (by decide) (pl_5 _) dX4_comesLate_36 ?_
            refine pr_iload_n (pc := 39) C dX4_comesLate_39 rfl ?_
            refine pr_aload_n (pc := 40) C dX4_comesLate_40 rfl ?_
            refine pr_iload_n (pc := 41) C dX4_comesLate_41 rfl ?_
            refine pr_iconst (pc := 42) (v := 4) C dX4_comesLate_42 (by decide) ?_
            refine pr_iremN (pc := 43) C dX4_comesLate_43 k1 4 rfl rfl (by omega) (by omega) (by omega) ?_
            refine pr_vP (pc := 44) C (c_X4_isDeaf G _ (h.1, S5, h.2.2) (k1 % 4) (by first | assumption | omega)) wv_X4_174 rfl rfl (by decide) (by decide) (pl_5 _) (Nat.le_of_ble_eq_true rfl) (by omega) (by omega) dX4_comesLate_44 ?_
            have j55_6 : pa_w G x 2 (h.1, S5, h.2.2) 0 0 55 [some (pv_o 5 0), some (pv_i (nI k1))] [pv_i (if ms_deaf S5 (k1 % 4) then 1 else 3), pv_i (nI k1), pv_o 328 0] := by
              refine pr_astm (pc := 55) (n := 400) C 228 k1 rfl (by decide) rfl rfl (pl_r5 (by decide)) rfl (by omega) (by decide) dX4_comesLate_55 ?_
              refine pr_aload_n (pc := 56) C dX4_comesLate_56 rfl ?_
              refine pr_geta (pc := 57) C 229 329 wf_X4_80 rfl rfl (by decide) (pl_5 _) dX4_comesLate_57 ?_
              refine pr_iload_n (pc := 60) C dX4_comesLate_60 rfl ?_
              refine pr_aload_n (pc := 61) C dX4_comesLate_61 rfl ?_
              refine pr_getm (pc := 62) C 200 wf_X4_121 rfl (by decide) (pl_5 _) dX4_comesLate_62 ?_
              refine pr_eqi (v := S5 200 0) rfl ?_
              refine pr_astm (pc := 65) (n := 400) C 229 k1 rfl (by decide) rfl rfl (pl_r5 (by decide)) rfl (by omega) (by decide) dX4_comesLate_65 ?_
              refine pr_iincN (pc := 66) C dX4_comesLate_66 rfl k1 1 rfl rfl (by decide) ?_
              refine pr_goto (pc := 69) C 2 dX4_comesLate_69 (by decide) ?_
              exact ih4 (k1 + 1) (pa_us (pa_us S5 228 k1 (if ms_deaf S5 (k1 % 4) then 1 else 3)) 229 k1 (S5 200 0)) (by omega) (by omega) (by rw [pz_it_s, ← eS_k1]; simp [-Int32.not_le, -Int32.not_lt, pz_b, pz_lt, ms_cls, c_9, eq_true c_19, c_32]) hx_k1
            refine pr_ifb_eq (pc := 47) C 54 dX4_comesLate_47 (by decide) (fun c_47 => ?_) (fun c_47 => ?_)
            · refine pr_iconst (pc := 54) (v := 3) C dX4_comesLate_54 (by decide) ?_
              exact pr_eqi (show (3 : Int32) = (if ms_deaf S5 (k1 % 4) then 1 else 3) from (by simp [-Int32.not_le, -Int32.not_lt, pz_b, pz_lt, c_9, eq_true c_19, c_32, c_47])) j55_6
            · refine pr_iconst (pc := 50) (v := 1) C dX4_comesLate_50 (by decide) ?_
              refine pr_goto (pc := 51) C 55 dX4_comesLate_51 (by decide) ?_
              exact pr_eqi (show (1 : Int32) = (if ms_deaf S5 (k1 % 4) then 1 else 3) from (by simp [-Int32.not_le, -Int32.not_lt, pz_b, pz_lt, c_9, eq_true c_19, c_32, c_47])) j55_6
  exact lp2 (4 * T + 1) 0 _ (by omega) (by omega) rfl hS

def ms_ack (S : Nat → Nat → Int32) (k : Nat) : Nat → Nat → Int32 := if S 230 k ≠ -1 ∧ S 219 (mn (S 230 k)) = 4 then pa_us (ms_carry S (mn (S 230 k))) 230 k (-1) else S
def ms_acks (S : Nat → Nat → Int32) : Nat → Nat → Int32 := pz_it ms_ack 4 S
theorem mw_S_N {S : Nat → Nat → Int32} {T k : Nat} (h : mw_S S T) (hk : k < 4) (hn : S 230 k ≠ -1) : S 230 k = nI (mn (S 230 k)) ∧ mn (S 230 k) < T ∧ T ≤ 100 := by
  have hT := h.1.1
  rcases h.2.2.1 k hk with e | ⟨t, g1, g2⟩
  · exact absurd e hn
  · obtain ⟨e1, e2⟩ := mn_lt g2 g1 (by omega)
    exact ⟨e1, e2, hT⟩
theorem mw_S_ack {S : Nat → Nat → Int32} {T k : Nat} (h : mw_S S T) (hk : k < 4) : mw_S (ms_ack S k) T := by
  unfold ms_ack
  split
  · rename_i c
    exact mw_S_now (mw_S_carry h (mw_S_N h hk c.1).2.1)
  · exact h
theorem pz_it_lt {σ : Type} {f : σ → Nat → σ} {I : σ → Prop} : ∀ (n : Nat) (s : σ), (∀ s k, k < n → I s → I (f s k)) → I s → I (pz_it f n s)
  | 0, _, _, h => h
  | n + 1, s, hs, h => hs _ _ (by omega) (pz_it_lt n s (fun s k hk => hs s k (by omega)) h)
theorem mw_S_acks {S : Nat → Nat → Int32} {T : Nat} (h : mw_S S T) : mw_S (ms_acks S) T := pz_it_lt (I := fun S' => mw_S S' T) 4 S (fun s k hk z => mw_S_ack z hk) h
theorem ms_ack_y {S : Nat → Nat → Int32} {k t : Nat} (e : S 230 k = nI t) (ht : t < 100) (h1 : S 230 k ≠ -1) (h2 : S 219 t = 4) : ms_ack S k = pa_us (ms_carry S t) 230 k (-1) := by
  have : mn (S 230 k) = t := by rw [e]; exact mn_nI (by omega)
  unfold ms_ack
  rw [this, if_pos ⟨h1, h2⟩]
theorem ms_ack_n {S : Nat → Nat → Int32} {k t : Nat} (e : S 230 k = nI t) (ht : t < 100) (h2 : S 219 t ≠ 4) : ms_ack S k = S := by
  have : mn (S 230 k) = t := by rw [e]; exact mn_nI (by omega)
  unfold ms_ack
  rw [this, if_neg (fun z => h2 z.2)]
theorem ms_ack_0 {S : Nat → Nat → Int32} {k : Nat} (e : S 230 k = -1) : ms_ack S k = S := by
  unfold ms_ack
  rw [if_neg (fun z => z.1 e)]
set_option maxRecDepth 100000 in
set_option maxHeartbeats 2000000 in
theorem c_X4_acks (G : pa_G) (l : Launch) (h : pa_H) (T : Nat) (hM : mw_S h.2.1 T) : pa_ME G l mX4_acks 7 [pv_o 5 0] h (h.1, ms_acks h.2.1, h.2.2) := by
  refine pa_go l (by decide) (by simp [pa_c1l, pa_c1]) (fun _ => rfl) fun x C E el ea => ?_
  subst el
  show pa_w G x 2 h 0 0 0 [some (pv_o 5 0), none] []
  refine pr_iconst (pc := 0) (v := 0) C dX4_acks_0 (by decide) ?_
  refine pr_istore_n (pc := 1) C dX4_acks_1 (by decide) ?_
  have lp2 : ∀ (n3 k1 : Nat) (S5 : Nat → Nat → Int32), k1 ≤ 4 → 4 < k1 + n3 → S5 = pz_it ms_ack k1 h.2.1 → mw_S S5 T → pa_w G x 2 (h.1, S5, h.2.2) 0 0 2 [some (pv_o 5 0), some (pv_i (nI k1))] [] := by
    intro n3
    induction n3 with
    | zero => intro k1 S5 h1 h2; exact absurd h2 (by omega)
    | succ n3 ih4 =>
      intro k1 S5 hk1_k1 hk2_k1 eS_k1 hx_k1
      refine pr_iload_n (pc := 2) C dX4_acks_2 rfl ?_
      refine pr_iconst (pc := 3) (v := 4) C dX4_acks_3 (by decide) ?_
      refine pr_icmp_geN (pc := 4) C 55 k1 4 dX4_acks_4 (by decide) rfl rfl (by omega) (by omega) (fun c_4 => ?_) (fun c_4 => ?_)
      · obtain rfl : 4 = k1 := by omega
        exact pr_vret (pc := 55) C E (by omega) (by omega) ⟨rfl, by rw [eS_k1]; rfl⟩ dX4_acks_55
      · refine pr_aload_n (pc := 7) C dX4_acks_7 rfl ?_
        refine pr_geta (pc := 8) C 230 330 wf_X4_83 rfl rfl (by decide) (pl_5 _) dX4_acks_8 ?_
        refine pr_iload_n (pc := 11) C dX4_acks_11 rfl ?_
        refine pr_aldm (pc := 12) (n := 4) C 230 k1 rfl rfl rfl (pl_r5 (by decide)) rfl (by omega) (by decide) dX4_acks_12 ?_
        refine pr_iconst (pc := 13) (v := -1) C dX4_acks_13 (by decide) ?_
        refine pr_icmp_eq (pc := 14) C 49 dX4_acks_14 (by decide) (fun c_14 => ?_) (fun c_14 => ?_)
        · refine pr_iincN (pc := 49) C dX4_acks_49 rfl k1 1 rfl rfl (by decide) ?_
          refine pr_goto (pc := 52) C 2 dX4_acks_52 (by decide) ?_
          exact ih4 (k1 + 1) S5 (by omega) (by omega) (by rw [pz_it_s, ← eS_k1, ms_ack_0 c_14]) hx_k1
        · obtain ⟨eN_k1, ltN_k1, hT100⟩ := mw_S_N hx_k1 (by omega) c_14
          generalize et : mn (S5 230 k1) = t at eN_k1 ltN_k1
          refine pr_aload_n (pc := 17) C dX4_acks_17 rfl ?_
          refine pr_geta (pc := 18) C 219 319 wf_X4_50 rfl rfl (by decide) (pl_5 _) dX4_acks_18 ?_
          refine pr_aload_n (pc := 21) C dX4_acks_21 rfl ?_
          refine pr_geta (pc := 22) C 230 330 wf_X4_83 rfl rfl (by decide) (pl_5 _) dX4_acks_22 ?_
          refine pr_iload_n (pc := 25) C dX4_acks_25 rfl ?_
          refine pr_aldm (pc := 26) (n := 4) C 230 k1 rfl rfl rfl (pl_r5 (by decide)) rfl (by omega) (by decide) dX4_acks_26 ?_
          refine pr_eqi eN_k1 ?_
          refine pr_aldm (pc := 27) (n := 100) C 219 t rfl rfl rfl (pl_r5 (by decide)) rfl (by omega) (by decide) dX4_acks_27 ?_
          refine pr_iconst (pc := 28) (v := 4) C dX4_acks_28 (by decide) ?_
          refine pr_icmp_ne (pc := 29) C 49 dX4_acks_29 (by decide) (fun c_29 => ?_) (fun c_29 => ?_)
          · refine pr_iincN (pc := 49) C dX4_acks_49 rfl k1 1 rfl rfl (by decide) ?_
            refine pr_goto (pc := 52) C 2 dX4_acks_52 (by decide) ?_
            exact ih4 (k1 + 1) S5 (by omega) (by omega) (by rw [pz_it_s, ← eS_k1, ms_ack_n eN_k1 (by omega) c_29]) hx_k1
          · refine pr_aload_n (pc := 32) C dX4_acks_32 rfl ?_
            refine pr_aload_n (pc := 33) C dX4_acks_33 rfl ?_
            refine pr_geta (pc := 34) C 230 330 wf_X4_83 rfl rfl (by decide) (pl_5 _) dX4_acks_34 ?_
            refine pr_iload_n (pc := 37) C dX4_acks_37 rfl ?_
            refine pr_aldm (pc := 38) (n := 4) C 230 k1 rfl rfl rfl (pl_r5 (by decide)) rfl (by omega) (by decide) dX4_acks_38 ?_
            refine pr_eqi eN_k1 ?_
            refine pr_vE (pc := 39) C (c_X4_carry G _ (h.1, S5, h.2.2) T t hx_k1 ltN_k1) wv_X4_222 rfl rfl (by decide) (by decide) (pl_5 _) (Nat.le_of_ble_eq_true rfl) (by omega) (by omega) dX4_acks_39 ?_
            refine pr_aload_n (pc := 42) C dX4_acks_42 rfl ?_
            refine pr_geta (pc := 43) C 230 330 wf_X4_83 rfl rfl (by decide) (pl_5 _) dX4_acks_43 ?_
            refine pr_iload_n (pc := 46) C dX4_acks_46 rfl ?_
            refine pr_iconst (pc := 47) (v := -1) C dX4_acks_47 (by decide) ?_
            refine pr_astm (pc := 48) (n := 4) C 230 k1 rfl (by decide) rfl rfl (pl_r5 (by decide)) rfl (by omega) (by decide) dX4_acks_48 ?_
            refine pr_iincN (pc := 49) C dX4_acks_49 rfl k1 1 rfl rfl (by decide) ?_
            refine pr_goto (pc := 52) C 2 dX4_acks_52 (by decide) ?_
            exact ih4 (k1 + 1) (pa_us (ms_carry S5 t) 230 k1 (-1 : Int32)) (by omega) (by omega) (by rw [pz_it_s, ← eS_k1, ms_ack_y eN_k1 (by omega) c_14 c_29]) (mw_S_now (mw_S_carry hx_k1 ltN_k1))
  exact lp2 (4 + 1) 0 _ (by omega) (by omega) rfl hM

theorem nI_nm {t : Nat} (h : t < 1000) : nI t ≠ -1 := fun e => by
  have e2 : mn (nI t) = mn (-1) := by rw [e]
  rw [mn_nI h, show mn (-1) = 0 by decide] at e2
  rw [e2] at e
  exact absurd e (by decide)
def ms_b0 (S : Nat → Nat → Int32) : Int32 := if ms_holder S ≠ -1 ∧ S 230 (mn (ms_holder S)) ≠ -1 then ms_holder S else -1
/-- of the best so far and the speaker k: the better one -/
def ms_bst (S : Nat → Nat → Int32) (b : Int32) (k : Nat) : Int32 :=
  if b ≠ -1 ∧ b = ms_holder S then b else if S 230 k ≠ -1 ∧ (b = -1 ∨ ¬ S 202 k ≤ S 202 (mn b)) then nI k else b
def ms_bk (S : Nat → Nat → Int32) (k : Nat) : Int32 := pz_it (ms_bst S) k (ms_b0 S)
def ms_best (S : Nat → Nat → Int32) : Int32 := ms_bk S 4
theorem ms_bk_r {S : Nat → Nat → Int32} {T : Nat} (h : mw_S S T) : ∀ k, k ≤ 4 → ms_bk S k = -1 ∨ ∃ m, m < 4 ∧ ms_bk S k = nI m ∧ S 230 m ≠ -1
  | 0, _ => by
    show ms_b0 S = -1 ∨ _
    unfold ms_bk
    rw [pz_it]
    unfold ms_b0
    split
    · rename_i c
      rcases ms_holder_r h with e | ⟨r, g1, g2⟩
      · exact absurd e c.1
      · refine Or.inr ⟨r, g1, g2, ?_⟩
        have := c.2
        rw [g2, mn_nI (by omega)] at this
        exact this
    · exact Or.inl rfl
  | k + 1, hk => by
    have ih := ms_bk_r h k (by omega)
    unfold ms_bk at ih ⊢
    rw [pz_it_s]
    unfold ms_bst
    split
    · exact ih
    split
    · rename_i c
      exact Or.inr ⟨k, by omega, rfl, c.1⟩
    · exact ih
/-- the holder of the right stays the best one -/
theorem ms_bk_stay {S : Nat → Nat → Int32} {k : Nat} (h1 : ms_bk S k ≠ -1) (h2 : ms_bk S k = ms_holder S) : ∀ d, ms_bk S (k + d) = ms_bk S k
  | 0 => rfl
  | d + 1 => by
    have e := ms_bk_stay h1 h2 d
    show ms_bst S (ms_bk S (k + d)) (k + d) = _
    rw [e]
    unfold ms_bst
    rw [if_pos ⟨h1, h2⟩]
theorem ms_bk_s {S : Nat → Nat → Int32} {k : Nat} : ms_bk S (k + 1) = ms_bst S (ms_bk S k) k := rfl
def ms_flo (b : Int32) (S : Nat → Nat → Int32) (k : Nat) : Nat → Nat → Int32 :=
  pa_us (if S 230 k ≠ -1 ∧ nI k ≠ b then pa_us S 224 (mn (S 230 k)) 2 else S) 230 k (-1)
def ms_lose (S : Nat → Nat → Int32) : Nat → Nat → Int32 := pz_it (ms_flo (ms_best S)) 4 S
def ms_floor (S : Nat → Nat → Int32) : Nat → Nat → Int32 := if ms_best S = -1 then ms_lose S else ms_carry (ms_lose S) (mn (S 230 (mn (ms_best S))))
theorem mw_S_flo {S : Nat → Nat → Int32} {T k : Nat} {b : Int32} (h : mw_S S T) : mw_S (ms_flo b S k) T := by
  unfold ms_flo
  refine mw_S_now ?_
  split
  · exact mw_S_st h (fun _ z => absurd z (by decide))
  · exact h
theorem mw_S_lose {S : Nat → Nat → Int32} {T : Nat} (h : mw_S S T) : mw_S (ms_lose S) T := pz_it_inv (I := fun S' => mw_S S' T) (fun s k z => mw_S_flo z) 4 S h
theorem mw_S_floor {S : Nat → Nat → Int32} {T : Nat} (h : mw_S S T) : mw_S (ms_floor S) T := by
  unfold ms_floor
  split
  · exact mw_S_lose h
  · rename_i c
    rcases ms_bk_r h 4 (by omega) with e | ⟨m, g1, g2, g3⟩
    · exact absurd e c
    · refine mw_S_carry (mw_S_lose h) ?_
      have : mn (ms_best S) = m := by unfold ms_best; rw [g2]; exact mn_nI (by omega)
      rw [this]
      exact (mw_S_N h g1 g3).2.1
theorem ms_flo_y {S : Nat → Nat → Int32} {k t : Nat} {b : Int32} (e : S 230 k = nI t) (ht : t < 100) (h1 : S 230 k ≠ -1) (h2 : nI k ≠ b) : ms_flo b S k = pa_us (pa_us S 224 t 2) 230 k (-1) := by
  have : mn (S 230 k) = t := by rw [e]; exact mn_nI (by omega)
  unfold ms_flo
  rw [this, if_pos ⟨h1, h2⟩]
theorem ms_flo_n {S : Nat → Nat → Int32} {k : Nat} {b : Int32} (h2 : nI k = b) : ms_flo b S k = pa_us S 230 k (-1) := by
  unfold ms_flo
  rw [if_neg (fun z => z.2 h2)]
theorem ms_flo_0 {S : Nat → Nat → Int32} {k : Nat} {b : Int32} (h2 : S 230 k = -1) : ms_flo b S k = pa_us S 230 k (-1) := by
  unfold ms_flo
  rw [if_neg (fun z => z.1 h2)]
set_option maxRecDepth 100000 in
set_option maxHeartbeats 2000000 in
theorem c_X4_floor (G : pa_G) (l : Launch) (h : pa_H) (T : Nat) (hM : mw_S h.2.1 T) : pa_ME G l mX4_floor 8 [pv_o 5 0] h (h.1, ms_floor h.2.1, h.2.2) := by
  refine pa_go l (by decide) (by simp [pa_c1l, pa_c1]) (fun _ => rfl) fun x C E el ea => ?_
  subst el
  show pa_w G x 4 h 0 0 0 [some (pv_o 5 0), none, none, none] []
  have j29_1 : pa_w G x 4 h 0 0 29 [some (pv_o 5 0), none, none, none] [pv_i (ms_bk h.2.1 0)] := by
    refine pr_istore_n (pc := 29) C dX4_floor_29 (by decide) ?_
    have j92 : pa_w G x 4 h 0 0 92 [some (pv_o 5 0), some (pv_i (ms_bk h.2.1 4)), none, none] [] := by
      refine pr_iload_n (pc := 92) C dX4_floor_92 rfl ?_
      refine pr_iconst (pc := 93) (v := -1) C dX4_floor_93 (by decide) ?_
      refine pr_icmp_ne (pc := 94) C 101 dX4_floor_94 (by decide) (fun c_94 => ?_) (fun c_94 => ?_)
      · rcases ms_bk_r hM 4 (by omega) with eb | ⟨m, hm, eb, en⟩
        · exact absurd eb c_94
        obtain ⟨eN, ltN, hT100⟩ := mw_S_N hM hm en
        generalize et : mn (h.2.1 230 m) = t at eN ltN
        rw [eb]
        refine pr_aload_n (pc := 101) C dX4_floor_101 rfl ?_
        refine pr_geta (pc := 102) C 230 330 wf_X4_83 rfl rfl (by decide) (pl_5 _) dX4_floor_102 ?_
        refine pr_iload_n (pc := 105) C dX4_floor_105 rfl ?_
        refine pr_aldm (pc := 106) (n := 4) C 230 m rfl rfl rfl (pl_r5 (by decide)) rfl (by omega) (by decide) dX4_floor_106 ?_
        refine pr_eqi eN ?_
        refine pr_istore_n (pc := 107) C dX4_floor_107 (by decide) ?_
        refine pr_iconst (pc := 108) (v := 0) C dX4_floor_108 (by decide) ?_
        refine pr_istore_n (pc := 109) C dX4_floor_109 (by decide) ?_
        have lp3 : ∀ (n4 k2 : Nat) (S6 : Nat → Nat → Int32), k2 ≤ 4 → 4 < k2 + n4 → S6 = pz_it (ms_flo (ms_best h.2.1)) k2 h.2.1 → mw_S S6 T → pa_w G x 4 (h.1, S6, h.2.2) 0 0 110 [some (pv_o 5 0), some (pv_i (nI m)), some (pv_i (nI t)), some (pv_i (nI k2))] [] := by
          intro n4
          induction n4 with
          | zero => intro k2 S6 h1 h2; exact absurd h2 (by omega)
          | succ n4 ih5 =>
            intro k2 S6 hk1_k2 hk2_k2 eS_k2 hx_k2
            refine pr_iload_n (pc := 110) C dX4_floor_110 rfl ?_
            refine pr_iconst (pc := 111) (v := 4) C dX4_floor_111 (by decide) ?_
            refine pr_icmp_geN (pc := 112) C 155 k2 4 dX4_floor_112 (by decide) rfl rfl (by omega) (by omega) (fun c_112 => ?_) (fun c_112 => ?_)
            · obtain rfl : 4 = k2 := by omega
              refine pr_iload_n (pc := 155) C dX4_floor_155 rfl ?_
              refine pr_iconst (pc := 156) (v := -1) C dX4_floor_156 (by decide) ?_
              refine pr_icmp_eq (pc := 157) C 165 dX4_floor_157 (by decide) (fun c_157 => ?_) (fun c_157 => ?_)
              · exact absurd c_157 (nI_nm (by omega))
              · refine pr_aload_n (pc := 160) C dX4_floor_160 rfl ?_
                refine pr_iload_n (pc := 161) C dX4_floor_161 rfl ?_
                refine pr_vE (pc := 162) C (c_X4_carry G _ (h.1, S6, h.2.2) T t hx_k2 ltN) wv_X4_222 rfl rfl (by decide) (by decide) (pl_5 _) (Nat.le_of_ble_eq_true rfl) (by omega) (by omega) dX4_floor_162 ?_
                exact pr_vret (pc := 165) C E (by omega) (by omega) ⟨rfl, by rw [eS_k2]; simp [ms_floor, ms_lose, show ms_best h.2.1 ≠ -1 from c_94, show ms_best h.2.1 = nI m from eb, show ¬ nI m = (-1 : Int32) from nI_nm (by omega), mn_nI (show m < 1000 by omega), et]⟩ dX4_floor_165
            · refine pr_aload_n (pc := 115) C dX4_floor_115 rfl ?_
              refine pr_geta (pc := 116) C 230 330 wf_X4_83 rfl rfl (by decide) (pl_5 _) dX4_floor_116 ?_
              refine pr_iload_n (pc := 119) C dX4_floor_119 rfl ?_
              refine pr_aldm (pc := 120) (n := 4) C 230 k2 rfl rfl rfl (pl_r5 (by decide)) rfl (by omega) (by decide) dX4_floor_120 ?_
              refine pr_iconst (pc := 121) (v := -1) C dX4_floor_121 (by decide) ?_
              refine pr_icmp_eq (pc := 122) C 142 dX4_floor_122 (by decide) (fun c_122 => ?_) (fun c_122 => ?_)
              · refine pr_aload_n (pc := 142) C dX4_floor_142 rfl ?_
                refine pr_geta (pc := 143) C 230 330 wf_X4_83 rfl rfl (by decide) (pl_5 _) dX4_floor_143 ?_
                refine pr_iload_n (pc := 146) C dX4_floor_146 rfl ?_
                refine pr_iconst (pc := 147) (v := -1) C dX4_floor_147 (by decide) ?_
                refine pr_astm (pc := 148) (n := 4) C 230 k2 rfl (by decide) rfl rfl (pl_r5 (by decide)) rfl (by omega) (by decide) dX4_floor_148 ?_
                refine pr_iincN (pc := 149) C dX4_floor_149 rfl k2 1 rfl rfl (by decide) ?_
                refine pr_goto (pc := 152) C 110 dX4_floor_152 (by decide) ?_
                exact ih5 (k2 + 1) (pa_us S6 230 k2 (-1 : Int32)) (by omega) (by omega) (by rw [pz_it_s, ← eS_k2, ms_flo_0 c_122]) (mw_S_now hx_k2)
              · obtain ⟨eN_k2, ltN_k2, hT_k2⟩ := mw_S_N hx_k2 (by omega) c_122
                generalize et_k2 : mn (S6 230 k2) = t_k2 at eN_k2 ltN_k2
                refine pr_iload_n (pc := 125) C dX4_floor_125 rfl ?_
                refine pr_iload_n (pc := 126) C dX4_floor_126 rfl ?_
                refine pr_icmp_eqN (pc := 127) C 142 k2 m dX4_floor_127 (by decide) rfl rfl (by omega) (by omega) (fun c_127 => ?_) (fun c_127 => ?_)
                · refine pr_aload_n (pc := 142) C dX4_floor_142 rfl ?_
                  refine pr_geta (pc := 143) C 230 330 wf_X4_83 rfl rfl (by decide) (pl_5 _) dX4_floor_143 ?_
                  refine pr_iload_n (pc := 146) C dX4_floor_146 rfl ?_
                  refine pr_iconst (pc := 147) (v := -1) C dX4_floor_147 (by decide) ?_
                  refine pr_astm (pc := 148) (n := 4) C 230 k2 rfl (by decide) rfl rfl (pl_r5 (by decide)) rfl (by omega) (by decide) dX4_floor_148 ?_
                  refine pr_iincN (pc := 149) C dX4_floor_149 rfl k2 1 rfl rfl (by decide) ?_
                  refine pr_goto (pc := 152) C 110 dX4_floor_152 (by decide) ?_
                  exact ih5 (k2 + 1) (pa_us S6 230 k2 (-1 : Int32)) (by omega) (by omega) (by rw [pz_it_s, ← eS_k2, ms_flo_n (b := ms_best h.2.1) (c_127 ▸ eb.symm)]) (mw_S_now hx_k2)
                · refine pr_aload_n (pc := 130) C dX4_floor_130 rfl ?_
                  refine pr_geta (pc := 131) C 224 324 wf_X4_65 rfl rfl (by decide) (pl_5 _) dX4_floor_131 ?_
                  refine pr_aload_n (pc := 134) C dX4_floor_134 rfl ?_
                  refine pr_geta (pc := 135) C 230 330 wf_X4_83 rfl rfl (by decide) (pl_5 _) dX4_floor_135 ?_
                  refine pr_iload_n (pc := 138) C dX4_floor_138 rfl ?_
                  refine pr_aldm (pc := 139) (n := 4) C 230 k2 rfl rfl rfl (pl_r5 (by decide)) rfl (by omega) (by decide) dX4_floor_139 ?_
                  refine pr_eqi eN_k2 ?_
                  refine pr_iconst (pc := 140) (v := 2) C dX4_floor_140 (by decide) ?_
                  refine pr_astm (pc := 141) (n := 100) C 224 t_k2 rfl (by decide) rfl rfl (pl_r5 (by decide)) rfl (by omega) (by decide) dX4_floor_141 ?_
                  refine pr_aload_n (pc := 142) C dX4_floor_142 rfl ?_
                  refine pr_geta (pc := 143) C 230 330 wf_X4_83 rfl rfl (by decide) (pl_5 _) dX4_floor_143 ?_
                  refine pr_iload_n (pc := 146) C dX4_floor_146 rfl ?_
                  refine pr_iconst (pc := 147) (v := -1) C dX4_floor_147 (by decide) ?_
                  refine pr_astm (pc := 148) (n := 4) C 230 k2 rfl (by decide) rfl rfl (pl_r5 (by decide)) rfl (by omega) (by decide) dX4_floor_148 ?_
                  refine pr_iincN (pc := 149) C dX4_floor_149 rfl k2 1 rfl rfl (by decide) ?_
                  refine pr_goto (pc := 152) C 110 dX4_floor_152 (by decide) ?_
                  exact ih5 (k2 + 1) (pa_us (pa_us S6 224 t_k2 (2 : Int32)) 230 k2 (-1 : Int32)) (by omega) (by omega) (by rw [pz_it_s, ← eS_k2, ms_flo_y (b := ms_best h.2.1) eN_k2 (by omega) c_122 (by rw [show ms_best h.2.1 = nI m from eb]; exact nI_ne c_127 (by omega) (by omega))]) (mw_S_now (mw_S_st hx_k2 (fun _ z => absurd z (by decide))))
        exact lp3 (4 + 1) 0 _ (by omega) (by omega) rfl hM
      · refine pr_iconst (pc := 97) (v := -1) C dX4_floor_97 (by decide) ?_
        refine pr_goto (pc := 98) C 107 dX4_floor_98 (by decide) ?_
        refine pr_istore_n (pc := 107) C dX4_floor_107 (by decide) ?_
        refine pr_iconst (pc := 108) (v := 0) C dX4_floor_108 (by decide) ?_
        refine pr_istore_n (pc := 109) C dX4_floor_109 (by decide) ?_
        have lp8 : ∀ (n9 k7 : Nat) (S11 : Nat → Nat → Int32), k7 ≤ 4 → 4 < k7 + n9 → S11 = pz_it (ms_flo (ms_best h.2.1)) k7 h.2.1 → mw_S S11 T → pa_w G x 4 (h.1, S11, h.2.2) 0 0 110 [some (pv_o 5 0), some (pv_i (ms_bk h.2.1 4)), some (pv_i (-1 : Int32)), some (pv_i (nI k7))] [] := by
          intro n9
          induction n9 with
          | zero => intro k7 S11 h1 h2; exact absurd h2 (by omega)
          | succ n9 ih10 =>
            intro k7 S11 hk1_k7 hk2_k7 eS_k7 hx_k7
            refine pr_iload_n (pc := 110) C dX4_floor_110 rfl ?_
            refine pr_iconst (pc := 111) (v := 4) C dX4_floor_111 (by decide) ?_
            refine pr_icmp_geN (pc := 112) C 155 k7 4 dX4_floor_112 (by decide) rfl rfl (by omega) (by omega) (fun c_112 => ?_) (fun c_112 => ?_)
            · obtain rfl : 4 = k7 := by omega
              refine pr_iload_n (pc := 155) C dX4_floor_155 rfl ?_
              refine pr_iconst (pc := 156) (v := -1) C dX4_floor_156 (by decide) ?_
              refine pr_icmp_eq (pc := 157) C 165 dX4_floor_157 (by decide) (fun _ => ?_) (fun c_157 => absurd c_157 (by decide))
              exact pr_vret (pc := 165) C E (by omega) (by omega) ⟨rfl, by rw [eS_k7]; simp [ms_floor, ms_lose, show ms_best h.2.1 = -1 from c_94]⟩ dX4_floor_165
            · refine pr_aload_n (pc := 115) C dX4_floor_115 rfl ?_
              refine pr_geta (pc := 116) C 230 330 wf_X4_83 rfl rfl (by decide) (pl_5 _) dX4_floor_116 ?_
              refine pr_iload_n (pc := 119) C dX4_floor_119 rfl ?_
              refine pr_aldm (pc := 120) (n := 4) C 230 k7 rfl rfl rfl (pl_r5 (by decide)) rfl (by omega) (by decide) dX4_floor_120 ?_
              refine pr_iconst (pc := 121) (v := -1) C dX4_floor_121 (by decide) ?_
              refine pr_icmp_eq (pc := 122) C 142 dX4_floor_122 (by decide) (fun c_122 => ?_) (fun c_122 => ?_)
              · refine pr_aload_n (pc := 142) C dX4_floor_142 rfl ?_
                refine pr_geta (pc := 143) C 230 330 wf_X4_83 rfl rfl (by decide) (pl_5 _) dX4_floor_143 ?_
                refine pr_iload_n (pc := 146) C dX4_floor_146 rfl ?_
                refine pr_iconst (pc := 147) (v := -1) C dX4_floor_147 (by decide) ?_
                refine pr_astm (pc := 148) (n := 4) C 230 k7 rfl (by decide) rfl rfl (pl_r5 (by decide)) rfl (by omega) (by decide) dX4_floor_148 ?_
                refine pr_iincN (pc := 149) C dX4_floor_149 rfl k7 1 rfl rfl (by decide) ?_
                refine pr_goto (pc := 152) C 110 dX4_floor_152 (by decide) ?_
                exact ih10 (k7 + 1) (pa_us S11 230 k7 (-1 : Int32)) (by omega) (by omega) (by rw [pz_it_s, ← eS_k7, ms_flo_0 c_122]) (mw_S_now hx_k7)
              · obtain ⟨eN_k7, ltN_k7, hT_k7⟩ := mw_S_N hx_k7 (by omega) c_122
                generalize et_k7 : mn (S11 230 k7) = t_k7 at eN_k7 ltN_k7
                refine pr_iload_n (pc := 125) C dX4_floor_125 rfl ?_
                refine pr_iload_n (pc := 126) C dX4_floor_126 rfl ?_
                refine pr_icmp_eq (pc := 127) C 142 dX4_floor_127 (by decide) (fun c_127 => ?_) (fun c_127 => ?_)
                · refine pr_aload_n (pc := 142) C dX4_floor_142 rfl ?_
                  refine pr_geta (pc := 143) C 230 330 wf_X4_83 rfl rfl (by decide) (pl_5 _) dX4_floor_143 ?_
                  refine pr_iload_n (pc := 146) C dX4_floor_146 rfl ?_
                  refine pr_iconst (pc := 147) (v := -1) C dX4_floor_147 (by decide) ?_
                  refine pr_astm (pc := 148) (n := 4) C 230 k7 rfl (by decide) rfl rfl (pl_r5 (by decide)) rfl (by omega) (by decide) dX4_floor_148 ?_
                  refine pr_iincN (pc := 149) C dX4_floor_149 rfl k7 1 rfl rfl (by decide) ?_
                  refine pr_goto (pc := 152) C 110 dX4_floor_152 (by decide) ?_
                  exact ih10 (k7 + 1) (pa_us S11 230 k7 (-1 : Int32)) (by omega) (by omega) (by rw [pz_it_s, ← eS_k7, ms_flo_n (b := ms_best h.2.1) c_127]) (mw_S_now hx_k7)
                · refine pr_aload_n (pc := 130) C dX4_floor_130 rfl ?_
                  refine pr_geta (pc := 131) C 224 324 wf_X4_65 rfl rfl (by decide) (pl_5 _) dX4_floor_131 ?_
                  refine pr_aload_n (pc := 134) C dX4_floor_134 rfl ?_
                  refine pr_geta (pc := 135) C 230 330 wf_X4_83 rfl rfl (by decide) (pl_5 _) dX4_floor_135 ?_
                  refine pr_iload_n (pc := 138) C dX4_floor_138 rfl ?_
                  refine pr_aldm (pc := 139) (n := 4) C 230 k7 rfl rfl rfl (pl_r5 (by decide)) rfl (by omega) (by decide) dX4_floor_139 ?_
                  refine pr_eqi eN_k7 ?_
                  refine pr_iconst (pc := 140) (v := 2) C dX4_floor_140 (by decide) ?_
                  refine pr_astm (pc := 141) (n := 100) C 224 t_k7 rfl (by decide) rfl rfl (pl_r5 (by decide)) rfl (by omega) (by decide) dX4_floor_141 ?_
                  refine pr_aload_n (pc := 142) C dX4_floor_142 rfl ?_
                  refine pr_geta (pc := 143) C 230 330 wf_X4_83 rfl rfl (by decide) (pl_5 _) dX4_floor_143 ?_
                  refine pr_iload_n (pc := 146) C dX4_floor_146 rfl ?_
                  refine pr_iconst (pc := 147) (v := -1) C dX4_floor_147 (by decide) ?_
                  refine pr_astm (pc := 148) (n := 4) C 230 k7 rfl (by decide) rfl rfl (pl_r5 (by decide)) rfl (by omega) (by decide) dX4_floor_148 ?_
                  refine pr_iincN (pc := 149) C dX4_floor_149 rfl k7 1 rfl rfl (by decide) ?_
                  refine pr_goto (pc := 152) C 110 dX4_floor_152 (by decide) ?_
                  exact ih10 (k7 + 1) (pa_us (pa_us S11 224 t_k7 (2 : Int32)) 230 k7 (-1 : Int32)) (by omega) (by omega) (by rw [pz_it_s, ← eS_k7, ms_flo_y (b := ms_best h.2.1) eN_k7 (by omega) c_122 c_127]) (mw_S_now (mw_S_st hx_k7 (fun _ z => absurd z (by decide))))
        exact lp8 (4 + 1) 0 _ (by omega) (by omega) rfl hM
    refine pr_iconst (pc := 30) (v := 0) C dX4_floor_30 (by decide) ?_
    refine pr_istore_n (pc := 31) C dX4_floor_31 (by decide) ?_
    have lp13 : ∀ (n14 k12 : Nat), k12 ≤ 4 → 4 < k12 + n14 → pa_w G x 4 h 0 0 32 [some (pv_o 5 0), some (pv_i (ms_bk h.2.1 k12)), some (pv_i (nI k12)), none] [] := by
      intro n14
      induction n14 with
      | zero => intro k12 h1 h2; exact absurd h2 (by omega)
      | succ n14 ih15 =>
        intro k12 hk1_k12 hk2_k12
        refine pr_iload_n (pc := 32) C dX4_floor_32 rfl ?_
        refine pr_iconst (pc := 33) (v := 4) C dX4_floor_33 (by decide) ?_
        refine pr_icmp_geN (pc := 34) C 92 k12 4 dX4_floor_34 (by decide) rfl rfl (by omega) (by omega) (fun c_34 => ?_) (fun c_34 => ?_)
        · obtain rfl : 4 = k12 := by omega
          refine pr_lo (lo' := [some (pv_o 5 0), some (pv_i (ms_bk h.2.1 4)), none, none]) (show pa_lle [some (pv_o 5 0), some (pv_i (ms_bk h.2.1 4)), none, none] [some (pv_o 5 0), some (pv_i (ms_bk h.2.1 4)), some (pv_i (nI 4)), none] by simp [pa_lle]) ?_
          exact j92
        · refine pr_iload_n (pc := 37) C dX4_floor_37 rfl ?_
          refine pr_iconst (pc := 38) (v := -1) C dX4_floor_38 (by decide) ?_
          refine pr_icmp_eq (pc := 39) C 50 dX4_floor_39 (by decide) (fun c_39 => ?_) (fun c_39 => ?_)
          · have j85_16 : pa_w G x 4 h 0 0 85 [some (pv_o 5 0), none, some (pv_i (nI k12)), none] [pv_i (ms_bk h.2.1 (k12 + 1))] := by
              refine pr_istore_n (pc := 85) C dX4_floor_85 (by decide) ?_
              refine pr_iincN (pc := 86) C dX4_floor_86 rfl k12 1 rfl rfl (by decide) ?_
              refine pr_goto (pc := 89) C 32 dX4_floor_89 (by decide) ?_
              exact ih15 (k12 + 1) (by omega) (by omega)
            refine pr_aload_n (pc := 50) C dX4_floor_50 rfl ?_
            refine pr_geta (pc := 51) C 230 330 wf_X4_83 rfl rfl (by decide) (pl_5 _) dX4_floor_51 ?_
            refine pr_iload_n (pc := 54) C dX4_floor_54 rfl ?_
            refine pr_aldm (pc := 55) (n := 4) C 230 k12 rfl rfl rfl (pl_r5 (by decide)) rfl (by omega) (by decide) dX4_floor_55 ?_
            refine pr_iconst (pc := 56) (v := -1) C dX4_floor_56 (by decide) ?_
            refine pr_icmp_eq (pc := 57) C 84 dX4_floor_57 (by decide) (fun c_57 => ?_) (fun c_57 => ?_)
            · refine pr_iload_n (pc := 84) C dX4_floor_84 rfl ?_
              refine pr_lo (lo' := [some (pv_o 5 0), none, some (pv_i (nI k12)), none]) (show pa_lle [some (pv_o 5 0), none, some (pv_i (nI k12)), none] [some (pv_o 5 0), some (pv_i (ms_bk h.2.1 k12)), some (pv_i (nI k12)), none] by simp [pa_lle]) ?_
              exact pr_eqi (show (ms_bk h.2.1 k12) = (ms_bk h.2.1 (k12 + 1)) from (by first | exact absurd c_39 c_62 | exact absurd c_62 c_39 | (rw [ms_bk_s]; simp [-Int32.not_le, -Int32.not_lt, pz_b, pz_lt, ms_bst, c_34, eq_true c_39, eq_true c_57]))) j85_16
            · refine pr_iload_n (pc := 60) C dX4_floor_60 rfl ?_
              refine pr_iconst (pc := 61) (v := -1) C dX4_floor_61 (by decide) ?_
              refine pr_icmp_eq (pc := 62) C 80 dX4_floor_62 (by decide) (fun c_62 => ?_) (fun c_62 => ?_)
              · refine pr_iload_n (pc := 80) C dX4_floor_80 rfl ?_
                refine pr_goto (pc := 81) C 85 dX4_floor_81 (by decide) ?_
                refine pr_lo (lo' := [some (pv_o 5 0), none, some (pv_i (nI k12)), none]) (show pa_lle [some (pv_o 5 0), none, some (pv_i (nI k12)), none] [some (pv_o 5 0), some (pv_i (ms_bk h.2.1 k12)), some (pv_i (nI k12)), none] by simp [pa_lle]) ?_
                exact pr_eqi (show (nI k12) = (ms_bk h.2.1 (k12 + 1)) from (by first | exact absurd c_39 c_62 | exact absurd c_62 c_39 | (rw [ms_bk_s]; simp [-Int32.not_le, -Int32.not_lt, pz_b, pz_lt, ms_bst, c_34, eq_true c_39, eq_false c_57, eq_true c_62]))) j85_16
              · rcases ms_bk_r hM k12 (by omega) with eb | ⟨m, hm, eb, -⟩
                · exact absurd eb c_62
                have mb : mn (ms_bk h.2.1 k12) = m := by rw [eb]; exact mn_nI (by omega)
                rw [eb]
                refine pr_aload_n (pc := 65) C dX4_floor_65 rfl ?_
                refine pr_geta (pc := 66) C 202 302 wf_X4_7 rfl rfl (by decide) (pl_5 _) dX4_floor_66 ?_
                refine pr_iload_n (pc := 69) C dX4_floor_69 rfl ?_
                refine pr_aldm (pc := 70) (n := 4) C 202 k12 rfl rfl rfl (pl_r5 (by decide)) rfl (by omega) (by decide) dX4_floor_70 ?_
                refine pr_aload_n (pc := 71) C dX4_floor_71 rfl ?_
                refine pr_geta (pc := 72) C 202 302 wf_X4_7 rfl rfl (by decide) (pl_5 _) dX4_floor_72 ?_
                refine pr_iload_n (pc := 75) C dX4_floor_75 rfl ?_
                refine pr_aldm (pc := 76) (n := 4) C 202 m rfl rfl rfl (pl_r5 (by decide)) rfl (by omega) (by decide) dX4_floor_76 ?_
                refine pr_icmp_le (pc := 77) C 84 dX4_floor_77 (by decide) (fun c_77 => ?_) (fun c_77 => ?_)
                · refine pr_iload_n (pc := 84) C dX4_floor_84 rfl ?_
                  refine pr_lo (lo' := [some (pv_o 5 0), none, some (pv_i (nI k12)), none]) (show pa_lle [some (pv_o 5 0), none, some (pv_i (nI k12)), none] [some (pv_o 5 0), some (pv_i (nI m)), some (pv_i (nI k12)), none] by simp [pa_lle]) ?_
                  exact pr_eqi (show (nI m) = (ms_bk h.2.1 (k12 + 1)) from (by first | exact absurd c_39 c_62 | exact absurd c_62 c_39 | (rw [← eb]; rw [ms_bk_s]; simp [-Int32.not_le, -Int32.not_lt, pz_b, pz_lt, ms_bst, c_34, eq_true c_39, eq_false c_57, eq_false c_62, mb, c_77]))) j85_16
                · refine pr_iload_n (pc := 80) C dX4_floor_80 rfl ?_
                  refine pr_goto (pc := 81) C 85 dX4_floor_81 (by decide) ?_
                  refine pr_lo (lo' := [some (pv_o 5 0), none, some (pv_i (nI k12)), none]) (show pa_lle [some (pv_o 5 0), none, some (pv_i (nI k12)), none] [some (pv_o 5 0), some (pv_i (nI m)), some (pv_i (nI k12)), none] by simp [pa_lle]) ?_
                  exact pr_eqi (show (nI k12) = (ms_bk h.2.1 (k12 + 1)) from (by first | exact absurd c_39 c_62 | exact absurd c_62 c_39 | (rw [ms_bk_s]; simp [-Int32.not_le, -Int32.not_lt, pz_b, pz_lt, ms_bst, c_34, eq_true c_39, eq_false c_57, eq_false c_62, mb, c_77]))) j85_16
          · refine pr_iload_n (pc := 42) C dX4_floor_42 rfl ?_
            refine pr_aload_n (pc := 43) C dX4_floor_43 rfl ?_
            refine pr_vP (pc := 44) C (c_X4_holder G _ h) wv_X4_225 rfl rfl (by decide) (by decide) (pl_5 _) (Nat.le_of_ble_eq_true rfl) (by omega) (by omega) dX4_floor_44 ?_
            refine pr_icmp_eq (pc := 47) C 92 dX4_floor_47 (by decide) (fun c_47 => ?_) (fun c_47 => ?_)
            · refine pr_lo (lo' := [some (pv_o 5 0), some (pv_i (ms_bk h.2.1 k12)), none, none]) (show pa_lle [some (pv_o 5 0), some (pv_i (ms_bk h.2.1 k12)), none, none] [some (pv_o 5 0), some (pv_i (ms_bk h.2.1 k12)), some (pv_i (nI k12)), none] by simp [pa_lle]) ?_
              have e4 := ms_bk_stay c_39 c_47 (4 - k12)
              rw [show k12 + (4 - k12) = 4 by omega] at e4
              rw [e4] at j92
              exact j92
            · have j85_17 : pa_w G x 4 h 0 0 85 [some (pv_o 5 0), none, some (pv_i (nI k12)), none] [pv_i (ms_bk h.2.1 (k12 + 1))] := by
                refine pr_istore_n (pc := 85) C dX4_floor_85 (by decide) ?_
                refine pr_iincN (pc := 86) C dX4_floor_86 rfl k12 1 rfl rfl (by decide) ?_
                refine pr_goto (pc := 89) C 32 dX4_floor_89 (by decide) ?_
                exact ih15 (k12 + 1) (by omega) (by omega)
              refine pr_aload_n (pc := 50) C dX4_floor_50 rfl ?_
              refine pr_geta (pc := 51) C 230 330 wf_X4_83 rfl rfl (by decide) (pl_5 _) dX4_floor_51 ?_
              refine pr_iload_n (pc := 54) C dX4_floor_54 rfl ?_
              refine pr_aldm (pc := 55) (n := 4) C 230 k12 rfl rfl rfl (pl_r5 (by decide)) rfl (by omega) (by decide) dX4_floor_55 ?_
              refine pr_iconst (pc := 56) (v := -1) C dX4_floor_56 (by decide) ?_
              refine pr_icmp_eq (pc := 57) C 84 dX4_floor_57 (by decide) (fun c_57 => ?_) (fun c_57 => ?_)
              · refine pr_iload_n (pc := 84) C dX4_floor_84 rfl ?_
                refine pr_lo (lo' := [some (pv_o 5 0), none, some (pv_i (nI k12)), none]) (show pa_lle [some (pv_o 5 0), none, some (pv_i (nI k12)), none] [some (pv_o 5 0), some (pv_i (ms_bk h.2.1 k12)), some (pv_i (nI k12)), none] by simp [pa_lle]) ?_
                exact pr_eqi (show (ms_bk h.2.1 k12) = (ms_bk h.2.1 (k12 + 1)) from (by first | exact absurd c_39 c_62 | exact absurd c_62 c_39 | (rw [ms_bk_s]; simp [-Int32.not_le, -Int32.not_lt, pz_b, pz_lt, ms_bst, c_34, eq_false c_39, eq_false c_47, eq_true c_57]))) j85_17
              · refine pr_iload_n (pc := 60) C dX4_floor_60 rfl ?_
                refine pr_iconst (pc := 61) (v := -1) C dX4_floor_61 (by decide) ?_
                refine pr_icmp_eq (pc := 62) C 80 dX4_floor_62 (by decide) (fun c_62 => ?_) (fun c_62 => ?_)
                · refine pr_iload_n (pc := 80) C dX4_floor_80 rfl ?_
                  refine pr_goto (pc := 81) C 85 dX4_floor_81 (by decide) ?_
                  refine pr_lo (lo' := [some (pv_o 5 0), none, some (pv_i (nI k12)), none]) (show pa_lle [some (pv_o 5 0), none, some (pv_i (nI k12)), none] [some (pv_o 5 0), some (pv_i (ms_bk h.2.1 k12)), some (pv_i (nI k12)), none] by simp [pa_lle]) ?_
                  exact pr_eqi (show (nI k12) = (ms_bk h.2.1 (k12 + 1)) from (by first | exact absurd c_39 c_62 | exact absurd c_62 c_39 | (rw [ms_bk_s]; simp [-Int32.not_le, -Int32.not_lt, pz_b, pz_lt, ms_bst, c_34, eq_false c_39, eq_false c_47, eq_false c_57, eq_true c_62]))) j85_17
                · rcases ms_bk_r hM k12 (by omega) with eb | ⟨m, hm, eb, -⟩
                  · exact absurd eb c_62
                  have mb : mn (ms_bk h.2.1 k12) = m := by rw [eb]; exact mn_nI (by omega)
                  rw [eb]
                  refine pr_aload_n (pc := 65) C dX4_floor_65 rfl ?_
                  refine pr_geta (pc := 66) C 202 302 wf_X4_7 rfl rfl (by decide) (pl_5 _) dX4_floor_66 ?_
                  refine pr_iload_n (pc := 69) C dX4_floor_69 rfl ?_
                  refine pr_aldm (pc := 70) (n := 4) C 202 k12 rfl rfl rfl (pl_r5 (by decide)) rfl (by omega) (by decide) dX4_floor_70 ?_
                  refine pr_aload_n (pc := 71) C dX4_floor_71 rfl ?_
                  refine pr_geta (pc := 72) C 202 302 wf_X4_7 rfl rfl (by decide) (pl_5 _) dX4_floor_72 ?_
                  refine pr_iload_n (pc := 75) C dX4_floor_75 rfl ?_
                  refine pr_aldm (pc := 76) (n := 4) C 202 m rfl rfl rfl (pl_r5 (by decide)) rfl (by omega) (by decide) dX4_floor_76 ?_
                  refine pr_icmp_le (pc := 77) C 84 dX4_floor_77 (by decide) (fun c_77 => ?_) (fun c_77 => ?_)
                  · refine pr_iload_n (pc := 84) C dX4_floor_84 rfl ?_
                    refine pr_lo (lo' := [some (pv_o 5 0), none, some (pv_i (nI k12)), none]) (show pa_lle [some (pv_o 5 0), none, some (pv_i (nI k12)), none] [some (pv_o 5 0), some (pv_i (nI m)), some (pv_i (nI k12)), none] by simp [pa_lle]) ?_
                    exact pr_eqi (show (nI m) = (ms_bk h.2.1 (k12 + 1)) from (by first | exact absurd c_39 c_62 | exact absurd c_62 c_39 | (rw [← eb]; rw [ms_bk_s]; simp [-Int32.not_le, -Int32.not_lt, pz_b, pz_lt, ms_bst, c_34, eq_false c_39, eq_false c_47, eq_false c_57, eq_false c_62, mb, c_77]))) j85_17
                  · refine pr_iload_n (pc := 80) C dX4_floor_80 rfl ?_
                    refine pr_goto (pc := 81) C 85 dX4_floor_81 (by decide) ?_
                    refine pr_lo (lo' := [some (pv_o 5 0), none, some (pv_i (nI k12)), none]) (show pa_lle [some (pv_o 5 0), none, some (pv_i (nI k12)), none] [some (pv_o 5 0), some (pv_i (nI m)), some (pv_i (nI k12)), none] by simp [pa_lle]) ?_
                    exact pr_eqi (show (nI k12) = (ms_bk h.2.1 (k12 + 1)) from (by first | exact absurd c_39 c_62 | exact absurd c_62 c_39 | (rw [ms_bk_s]; simp [-Int32.not_le, -Int32.not_lt, pz_b, pz_lt, ms_bst, c_34, eq_false c_39, eq_false c_47, eq_false c_57, eq_false c_62, mb, c_77]))) j85_17
    exact lp13 (4 + 1) 0 (by omega) (by omega)
  refine pr_aload_n (pc := 0) C dX4_floor_0 rfl ?_
  refine pr_vP (pc := 1) C (c_X4_holder G _ h) wv_X4_225 rfl rfl (by decide) (by decide) (pl_5 _) (Nat.le_of_ble_eq_true rfl) (by omega) (by omega) dX4_floor_1 ?_
  refine pr_iconst (pc := 4) (v := -1) C dX4_floor_4 (by decide) ?_
  refine pr_icmp_eq (pc := 5) C 28 dX4_floor_5 (by decide) (fun c_5 => ?_) (fun c_5 => ?_)
  · refine pr_iconst (pc := 28) (v := -1) C dX4_floor_28 (by decide) ?_
    exact pr_eqi (show (-1 : Int32) = (ms_bk h.2.1 0) from (by show _ = ms_b0 h.2.1; simp [-Int32.not_le, -Int32.not_lt, pz_b, pz_lt, ms_b0, eq_true c_5])) j29_1
  · rcases ms_holder_r hM with eH | ⟨r, hr, eH⟩
    · exact absurd eH c_5
    refine pr_aload_n (pc := 8) C dX4_floor_8 rfl ?_
    refine pr_geta (pc := 9) C 230 330 wf_X4_83 rfl rfl (by decide) (pl_5 _) dX4_floor_9 ?_
    refine pr_aload_n (pc := 12) C dX4_floor_12 rfl ?_
    refine pr_vP (pc := 13) C (c_X4_holder G _ h) wv_X4_225 rfl rfl (by decide) (by decide) (pl_5 _) (Nat.le_of_ble_eq_true rfl) (by omega) (by omega) dX4_floor_13 ?_
    refine pr_eqi eH ?_
    refine pr_aldm (pc := 16) (n := 4) C 230 r rfl rfl rfl (pl_r5 (by decide)) rfl (by omega) (by decide) dX4_floor_16 ?_
    refine pr_iconst (pc := 17) (v := -1) C dX4_floor_17 (by decide) ?_
    refine pr_icmp_eq (pc := 18) C 28 dX4_floor_18 (by decide) (fun c_18 => ?_) (fun c_18 => ?_)
    · refine pr_iconst (pc := 28) (v := -1) C dX4_floor_28 (by decide) ?_
      exact pr_eqi (show (-1 : Int32) = (ms_bk h.2.1 0) from (by show _ = ms_b0 h.2.1; simp [-Int32.not_le, -Int32.not_lt, pz_b, pz_lt, ms_b0, eq_false c_5, eH, mn_nI (show r < 1000 by omega), eq_true c_18])) j29_1
    · refine pr_aload_n (pc := 21) C dX4_floor_21 rfl ?_
      refine pr_vP (pc := 22) C (c_X4_holder G _ h) wv_X4_225 rfl rfl (by decide) (by decide) (pl_5 _) (Nat.le_of_ble_eq_true rfl) (by omega) (by omega) dX4_floor_22 ?_
      refine pr_goto (pc := 25) C 29 dX4_floor_25 (by decide) ?_
      exact pr_eqi (show (ms_holder h.2.1) = (ms_bk h.2.1 0) from (by show _ = ms_b0 h.2.1; simp [-Int32.not_le, -Int32.not_lt, pz_b, pz_lt, ms_b0, eq_false c_5, eH, mn_nI (show r < 1000 by omega), eq_false c_18])) j29_1

