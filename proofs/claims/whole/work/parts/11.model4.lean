/-! THE REFERENCE, fourth part: the steps of a tick -/
def ms_holder (S : Nat → Nat → Int32) : Int32 := if S 215 0 ≠ -1 ∧ S 200 0 ≤ S 216 0 then S 215 0 else -1
theorem ms_holder_r {S : Nat → Nat → Int32} {T : Nat} (h : mw_S S T) : ms_holder S = -1 ∨ ∃ r, r < 4 ∧ ms_holder S = nI r := by
  unfold ms_holder
  split
  · exact h.2.2.2.2.2
  · exact Or.inl rfl
set_option maxRecDepth 100000 in
set_option maxHeartbeats 2000000 in
theorem c_X4_holder (G : pa_G) (l : Launch) (h : pa_H)  : pa_MP G l mX4_holder 1 [pv_o 5 0] h (pv_i (ms_holder h.2.1)) := by
  refine pa_go l (by decide) (by simp [pa_c1l, pa_c1]) (fun _ => rfl) fun x C E el ea => ?_
  subst el
  show pa_w G x 1 h 0 0 0 [some (pv_o 5 0)] []
  have j27_1 : pa_w G x 1 h 0 0 27 [some (pv_o 5 0)] [pv_i (ms_holder h.2.1)] := by
    exact pr_iret (pc := 27) C E (Or.inl rfl) (by omega) (by omega) ⟨rfl, rfl⟩ dX4_holder_27
  refine pr_aload_n (pc := 0) C dX4_holder_0 rfl ?_
  refine pr_getm (pc := 1) C 215 wf_X4_95 rfl (by decide) (pl_5 _) dX4_holder_1 ?_
  refine pr_iconst (pc := 4) (v := -1) C dX4_holder_4 (by decide) ?_
  refine pr_icmp_eq (pc := 5) C 26 dX4_holder_5 (by decide) (fun c_5 => ?_) (fun c_5 => ?_)
  · refine pr_iconst (pc := 26) (v := -1) C dX4_holder_26 (by decide) ?_
    exact pr_eqi (show (-1 : Int32) = (ms_holder h.2.1) from (by simp [-Int32.not_le, -Int32.not_lt, pz_b, pz_lt, ms_holder, eq_true c_5])) j27_1
  · refine pr_aload_n (pc := 8) C dX4_holder_8 rfl ?_
    refine pr_getm (pc := 9) C 200 wf_X4_121 rfl (by decide) (pl_5 _) dX4_holder_9 ?_
    refine pr_aload_n (pc := 12) C dX4_holder_12 rfl ?_
    refine pr_getm (pc := 13) C 216 wf_X4_190 rfl (by decide) (pl_5 _) dX4_holder_13 ?_
    refine pr_icmp_gtL (pc := 16) C 26 dX4_holder_16 (by decide) (fun c_16 => ?_) (fun c_16 => ?_)
    · refine pr_iconst (pc := 26) (v := -1) C dX4_holder_26 (by decide) ?_
      exact pr_eqi (show (-1 : Int32) = (ms_holder h.2.1) from (by simp [-Int32.not_le, -Int32.not_lt, pz_b, pz_lt, ms_holder, eq_false c_5, c_16])) j27_1
    · refine pr_aload_n (pc := 19) C dX4_holder_19 rfl ?_
      refine pr_getm (pc := 20) C 215 wf_X4_95 rfl (by decide) (pl_5 _) dX4_holder_20 ?_
      refine pr_goto (pc := 23) C 27 dX4_holder_23 (by decide) ?_
      exact pr_eqi (show (h.2.1 215 0) = (ms_holder h.2.1) from (by simp [-Int32.not_le, -Int32.not_lt, pz_b, pz_lt, ms_holder, eq_false c_5, c_16])) j27_1

def ms_cls (S : Nat → Nat → Int32) (p : Nat) : Nat → Nat → Int32 :=
  if S 228 p = 2 ∧ S 229 p ≤ S 200 0 then pa_us (pa_us S 228 p (if ms_deaf S (p % 4) then 1 else 3)) 229 p (S 200 0) else S
def ms_comes (S : Nat → Nat → Int32) (T : Nat) : Nat → Nat → Int32 := pz_it ms_cls (4 * T) S
theorem ms_cls_ne {S : Nat → Nat → Int32} {p f j : Nat} (h1 : f ≠ 228) (h2 : f ≠ 229) : ms_cls S p f j = S f j := by
  unfold ms_cls
  split
  · rw [pa_us_ne h2, pa_us_ne h1]
  · rfl
theorem ms_comes_ne {S : Nat → Nat → Int32} {T f j : Nat} (h1 : f ≠ 228) (h2 : f ≠ 229) : ms_comes S T f j = S f j :=
  pz_it_inv (f := ms_cls) (I := fun S' => S' f j = S f j) (fun s k h => (ms_cls_ne h1 h2).trans h) _ S rfl
set_option maxRecDepth 100000 in
set_option maxHeartbeats 2000000 in
theorem c_X4_comesLate (G : pa_G) (l : Launch) (h : pa_H) (T : Nat) (hT : T ≤ 100) (hS : h.2.1 217 0 = nI T) : pa_ME G l mX4_comesLate 2 [pv_o 5 0] h (h.1, ms_comes h.2.1 T, h.2.2) := by
  refine pa_go l (by decide) (by simp [pa_c1l, pa_c1]) (fun _ => rfl) fun x C E el ea => ?_
  subst el
  show pa_w G x 2 h 0 0 0 [some (pv_o 5 0), none] []
  refine pr_iconst (pc := 0) (v := 0) C dX4_comesLate_0 (by decide) ?_
  refine pr_istore_n (pc := 1) C dX4_comesLate_1 (by decide) ?_
  have lp2 : ∀ (n3 k1 : Nat) (S5 : Nat → Nat → Int32), k1 ≤ 4 * T → 4 * T < k1 + n3 → S5 = pz_it ms_cls k1 h.2.1 → S5 217 0 = nI T → pa_w G x 2 (h.1, S5, h.2.2) 0 0 2 [some (pv_o 5 0), some (pv_i (nI k1))] [] := by
    intro n3
    induction n3 with
    | zero => intro k1 S5 h1 h2; exact absurd h2 (by omega)
    | succ n3 ih4 =>
      intro k1 S5 hk1_k1 hk2_k1 eS_k1 hx_k1
      refine pr_iload_n (pc := 2) C dX4_comesLate_2 rfl ?_
      refine pr_iconst (pc := 3) (v := 4) C dX4_comesLate_3 (by decide) ?_
      refine pr_aload_n (pc := 4) C dX4_comesLate_4 rfl ?_
      refine pr_getm (pc := 5) C 217 wf_X4_131 rfl (by decide) (pl_5 _) dX4_comesLate_5 ?_
      refine pr_eqi hx_k1 ?_
      refine pr_imulN (pc := 8) C dX4_comesLate_8 4 T rfl rfl ?_
      refine pr_icmp_geN (pc := 9) C 72 k1 (4 * T) dX4_comesLate_9 (by decide) rfl rfl (by omega) (by omega) (fun c_9 => ?_) (fun c_9 => ?_)
      · obtain rfl : 4 * T = k1 := by omega
        exact pr_vret (pc := 72) C E (by omega) (by omega) ⟨rfl, by rw [eS_k1]; rfl⟩ dX4_comesLate_72
      · refine pr_aload_n (pc := 12) C dX4_comesLate_12 rfl ?_
        refine pr_geta (pc := 13) C 228 328 wf_X4_77 rfl rfl (by decide) (pl_5 _) dX4_comesLate_13 ?_
        refine pr_iload_n (pc := 16) C dX4_comesLate_16 rfl ?_
        refine pr_aldm (pc := 17) (n := 400) C 228 k1 rfl rfl rfl (pl_r5 (by decide)) rfl (by omega) (by decide) dX4_comesLate_17 ?_
        refine pr_iconst (pc := 18) (v := 2) C dX4_comesLate_18 (by decide) ?_
        refine pr_icmp_ne (pc := 19) C 66 dX4_comesLate_19 (by decide) (fun c_19 => ?_) (fun c_19 => ?_)
        · refine pr_iincN (pc := 66) C dX4_comesLate_66 rfl k1 1 rfl rfl (by decide) ?_
          refine pr_goto (pc := 69) C 2 dX4_comesLate_69 (by decide) ?_
          exact ih4 (k1 + 1) S5 (by omega) (by omega) (by rw [pz_it_s, ← eS_k1]; simp [-Int32.not_le, -Int32.not_lt, pz_b, pz_lt, ms_cls, c_9, eq_false c_19]) hx_k1
        · refine pr_aload_n (pc := 22) C dX4_comesLate_22 rfl ?_
          refine pr_geta (pc := 23) C 229 329 wf_X4_80 rfl rfl (by decide) (pl_5 _) dX4_comesLate_23 ?_
          refine pr_iload_n (pc := 26) C dX4_comesLate_26 rfl ?_
          refine pr_aldm (pc := 27) (n := 400) C 229 k1 rfl rfl rfl (pl_r5 (by decide)) rfl (by omega) (by decide) dX4_comesLate_27 ?_
          refine pr_aload_n (pc := 28) C dX4_comesLate_28 rfl ?_
          refine pr_getm (pc := 29) C 200 wf_X4_121 rfl (by decide) (pl_5 _) dX4_comesLate_29 ?_
          refine pr_icmp_gtL (pc := 32) C 66 dX4_comesLate_32 (by decide) (fun c_32 => ?_) (fun c_32 => ?_)
          · refine pr_iincN (pc := 66) C dX4_comesLate_66 rfl k1 1 rfl rfl (by decide) ?_
            refine pr_goto (pc := 69) C 2 dX4_comesLate_69 (by decide) ?_
            exact ih4 (k1 + 1) S5 (by omega) (by omega) (by rw [pz_it_s, ← eS_k1]; simp [-Int32.not_le, -Int32.not_lt, pz_b, pz_lt, ms_cls, c_9, eq_true c_19, c_32]) hx_k1
          · refine pr_aload_n (pc := 35) C dX4_comesLate_35 rfl ?_
            refine pr_geta (pc := 36) C 228 328 wf_X4_77 rfl rfl (by decide) (pl_5 _) dX4_comesLate_36 ?_
            refine pr_iload_n (pc := 39) C dX4_comesLate_39 rfl ?_
            refine pr_aload_n (pc := 40) C dX4_comesLate_40 rfl ?_
            refine pr_iload_n (pc := 41) C dX4_comesLate_41 rfl ?_
            refine pr_iconst (pc := 42) (v := 4) C dX4_comesLate_42 (by decide) ?_
            refine pr_iremN (pc := 43) C dX4_comesLate_43 k1 4 rfl rfl (by omega) (by omega) (by omega) ?_
            refine pr_vP (pc := 44) C (c_X4_isDeaf G _ (h.1, S5, h.2.2) (k1 % 4) (by first | assumption | omega)) wv_X4_174 rfl rfl (by decide) (by decide) (pl_5 _) (Nat.le_of_ble_eq_true rfl) (by omega) (by omega) dX4_comesLate_44 ?_
            have j55_6 : pa_w G x 2 (h.1, S5, h.2.2) 0 0 55 [some (pv_o 5 0), some (pv_i (nI k1))] [pv_i (if ms_deaf S5 (k1 % 4) then 1 else 3), pv_i (nI k1), pv_o 328 0] := by
              refine pr_astm (pc := 55) (n := 400) C 228 k1 rfl (by decide) rfl rfl (pl_r5 (by decide)) rfl (by omega) (by decide) dX4_comesLate_55 ?_
              refine pr_aload_n (pc := 56) C dX4_comesLate_56 rfl ?_
              refine pr_geta (pc := 57) C 229 329 wf_X4_80 rfl rfl (by decide) (pl_5 _) dX4_comesLate_57 ?_
              refine pr_iload_n (pc := 60) C dX4_comesLate_60 rfl ?_
              refine pr_aload_n (pc := 61) C dX4_comesLate_61 rfl ?_
              refine pr_getm (pc := 62) C 200 wf_X4_121 rfl (by decide) (pl_5 _) dX4_comesLate_62 ?_
              refine pr_eqi (v := S5 200 0) rfl ?_
              refine pr_astm (pc := 65) (n := 400) C 229 k1 rfl (by decide) rfl rfl (pl_r5 (by decide)) rfl (by omega) (by decide) dX4_comesLate_65 ?_
              refine pr_iincN (pc := 66) C dX4_comesLate_66 rfl k1 1 rfl rfl (by decide) ?_
              refine pr_goto (pc := 69) C 2 dX4_comesLate_69 (by decide) ?_
              exact ih4 (k1 + 1) (pa_us (pa_us S5 228 k1 (if ms_deaf S5 (k1 % 4) then 1 else 3)) 229 k1 (S5 200 0)) (by omega) (by omega) (by rw [pz_it_s, ← eS_k1]; simp [-Int32.not_le, -Int32.not_lt, pz_b, pz_lt, ms_cls, c_9, eq_true c_19, c_32]) hx_k1
            refine pr_ifb_eq (pc := 47) C 54 dX4_comesLate_47 (by decide) (fun c_47 => ?_) (fun c_47 => ?_)
            · refine pr_iconst (pc := 54) (v := 3) C dX4_comesLate_54 (by decide) ?_
              exact pr_eqi (show (3 : Int32) = (if ms_deaf S5 (k1 % 4) then 1 else 3) from (by simp [-Int32.not_le, -Int32.not_lt, pz_b, pz_lt, c_9, eq_true c_19, c_32, c_47])) j55_6
            · refine pr_iconst (pc := 50) (v := 1) C dX4_comesLate_50 (by decide) ?_
              refine pr_goto (pc := 51) C 55 dX4_comesLate_51 (by decide) ?_
              exact pr_eqi (show (1 : Int32) = (if ms_deaf S5 (k1 % 4) then 1 else 3) from (by simp [-Int32.not_le, -Int32.not_lt, pz_b, pz_lt, c_9, eq_true c_19, c_32, c_47])) j55_6
  exact lp2 (4 * T + 1) 0 _ (by omega) (by omega) rfl hS

def ms_ack (S : Nat → Nat → Int32) (k : Nat) : Nat → Nat → Int32 := if S 230 k ≠ -1 ∧ S 219 (mn (S 230 k)) = 4 then pa_us (ms_carry S (mn (S 230 k))) 230 k (-1) else S
def ms_acks (S : Nat → Nat → Int32) : Nat → Nat → Int32 := pz_it ms_ack 4 S
theorem mw_S_N {S : Nat → Nat → Int32} {T k : Nat} (h : mw_S S T) (hk : k < 4) (hn : S 230 k ≠ -1) : S 230 k = nI (mn (S 230 k)) ∧ mn (S 230 k) < T ∧ T ≤ 100 := by
  have hT := h.1.1
  rcases h.2.2.1 k hk with e | ⟨t, g1, g2⟩
  · exact absurd e hn
  · obtain ⟨e1, e2⟩ := mn_lt g2 g1 (by omega)
    exact ⟨e1, e2, hT⟩
theorem mw_S_ack {S : Nat → Nat → Int32} {T k : Nat} (h : mw_S S T) (hk : k < 4) : mw_S (ms_ack S k) T := by
  unfold ms_ack
  split
  · rename_i c
    exact mw_S_now (mw_S_carry h (mw_S_N h hk c.1).2.1)
  · exact h
theorem pz_it_lt {σ : Type} {f : σ → Nat → σ} {I : σ → Prop} : ∀ (n : Nat) (s : σ), (∀ s k, k < n → I s → I (f s k)) → I s → I (pz_it f n s)
  | 0, _, _, h => h
  | n + 1, s, hs, h => hs _ _ (by omega) (pz_it_lt n s (fun s k hk => hs s k (by omega)) h)
theorem mw_S_acks {S : Nat → Nat → Int32} {T : Nat} (h : mw_S S T) : mw_S (ms_acks S) T := pz_it_lt (I := fun S' => mw_S S' T) 4 S (fun s k hk z => mw_S_ack z hk) h
theorem ms_ack_y {S : Nat → Nat → Int32} {k t : Nat} (e : S 230 k = nI t) (ht : t < 100) (h1 : S 230 k ≠ -1) (h2 : S 219 t = 4) : ms_ack S k = pa_us (ms_carry S t) 230 k (-1) := by
  have : mn (S 230 k) = t := by rw [e]; exact mn_nI (by omega)
  unfold ms_ack
  rw [this, if_pos ⟨h1, h2⟩]
theorem ms_ack_n {S : Nat → Nat → Int32} {k t : Nat} (e : S 230 k = nI t) (ht : t < 100) (h2 : S 219 t ≠ 4) : ms_ack S k = S := by
  have : mn (S 230 k) = t := by rw [e]; exact mn_nI (by omega)
  unfold ms_ack
  rw [this, if_neg (fun z => h2 z.2)]
theorem ms_ack_0 {S : Nat → Nat → Int32} {k : Nat} (e : S 230 k = -1) : ms_ack S k = S := by
  unfold ms_ack
  rw [if_neg (fun z => z.1 e)]
set_option maxRecDepth 100000 in
set_option maxHeartbeats 2000000 in
theorem c_X4_acks (G : pa_G) (l : Launch) (h : pa_H) (T : Nat) (hM : mw_S h.2.1 T) : pa_ME G l mX4_acks 7 [pv_o 5 0] h (h.1, ms_acks h.2.1, h.2.2) := by
  refine pa_go l (by decide) (by simp [pa_c1l, pa_c1]) (fun _ => rfl) fun x C E el ea => ?_
  subst el
  show pa_w G x 2 h 0 0 0 [some (pv_o 5 0), none] []
  refine pr_iconst (pc := 0) (v := 0) C dX4_acks_0 (by decide) ?_
  refine pr_istore_n (pc := 1) C dX4_acks_1 (by decide) ?_
  have lp2 : ∀ (n3 k1 : Nat) (S5 : Nat → Nat → Int32), k1 ≤ 4 → 4 < k1 + n3 → S5 = pz_it ms_ack k1 h.2.1 → mw_S S5 T → pa_w G x 2 (h.1, S5, h.2.2) 0 0 2 [some (pv_o 5 0), some (pv_i (nI k1))] [] := by
    intro n3
    induction n3 with
    | zero => intro k1 S5 h1 h2; exact absurd h2 (by omega)
    | succ n3 ih4 =>
      intro k1 S5 hk1_k1 hk2_k1 eS_k1 hx_k1
      refine pr_iload_n (pc := 2) C dX4_acks_2 rfl ?_
      refine pr_iconst (pc := 3) (v := 4) C dX4_acks_3 (by decide) ?_
      refine pr_icmp_geN (pc := 4) C 55 k1 4 dX4_acks_4 (by decide) rfl rfl (by omega) (by omega) (fun c_4 => ?_) (fun c_4 => ?_)
      · obtain rfl : 4 = k1 := by omega
        exact pr_vret (pc := 55) C E (by omega) (by omega) ⟨rfl, by rw [eS_k1]; rfl⟩ dX4_acks_55
      · refine pr_aload_n (pc := 7) C dX4_acks_7 rfl ?_
        refine pr_geta (pc := 8) C 230 330 wf_X4_83 rfl rfl (by decide) (pl_5 _) dX4_acks_8 ?_
        refine pr_iload_n (pc := 11) C dX4_acks_11 rfl ?_
        refine pr_aldm (pc := 12) (n := 4) C 230 k1 rfl rfl rfl (pl_r5 (by decide)) rfl (by omega) (by decide) dX4_acks_12 ?_
        refine pr_iconst (pc := 13) (v := -1) C dX4_acks_13 (by decide) ?_
        refine pr_icmp_eq (pc := 14) C 49 dX4_acks_14 (by decide) (fun c_14 => ?_) (fun c_14 => ?_)
        · refine pr_iincN (pc := 49) C dX4_acks_49 rfl k1 1 rfl rfl (by decide) ?_
          refine pr_goto (pc := 52) C 2 dX4_acks_52 (by decide) ?_
          exact ih4 (k1 + 1) S5 (by omega) (by omega) (by rw [pz_it_s, ← eS_k1, ms_ack_0 c_14]) hx_k1
        · obtain ⟨eN_k1, ltN_k1, hT100⟩ := mw_S_N hx_k1 (by omega) c_14
          generalize et : mn (S5 230 k1) = t at eN_k1 ltN_k1
          refine pr_aload_n (pc := 17) C dX4_acks_17 rfl ?_
          refine pr_geta (pc := 18) C 219 319 wf_X4_50 rfl rfl (by decide) (pl_5 _) dX4_acks_18 ?_
          refine pr_aload_n (pc := 21) C dX4_acks_21 rfl ?_
          refine pr_geta (pc := 22) C 230 330 wf_X4_83 rfl rfl (by decide) (pl_5 _) dX4_acks_22 ?_
          refine pr_iload_n (pc := 25) C dX4_acks_25 rfl ?_
          refine pr_aldm (pc := 26) (n := 4) C 230 k1 rfl rfl rfl (pl_r5 (by decide)) rfl (by omega) (by decide) dX4_acks_26 ?_
          refine pr_eqi eN_k1 ?_
          refine pr_aldm (pc := 27) (n := 100) C 219 t rfl rfl rfl (pl_r5 (by decide)) rfl (by omega) (by decide) dX4_acks_27 ?_
          refine pr_iconst (pc := 28) (v := 4) C dX4_acks_28 (by decide) ?_
          refine pr_icmp_ne (pc := 29) C 49 dX4_acks_29 (by decide) (fun c_29 => ?_) (fun c_29 => ?_)
          · refine pr_iincN (pc := 49) C dX4_acks_49 rfl k1 1 rfl rfl (by decide) ?_
            refine pr_goto (pc := 52) C 2 dX4_acks_52 (by decide) ?_
            exact ih4 (k1 + 1) S5 (by omega) (by omega) (by rw [pz_it_s, ← eS_k1, ms_ack_n eN_k1 (by omega) c_29]) hx_k1
          · refine pr_aload_n (pc := 32) C dX4_acks_32 rfl ?_
            refine pr_aload_n (pc := 33) C dX4_acks_33 rfl ?_
            refine pr_geta (pc := 34) C 230 330 wf_X4_83 rfl rfl (by decide) (pl_5 _) dX4_acks_34 ?_
            refine pr_iload_n (pc := 37) C dX4_acks_37 rfl ?_
            refine pr_aldm (pc := 38) (n := 4) C 230 k1 rfl rfl rfl (pl_r5 (by decide)) rfl (by omega) (by decide) dX4_acks_38 ?_
            refine pr_eqi eN_k1 ?_
            refine pr_vE (pc := 39) C (c_X4_carry G _ (h.1, S5, h.2.2) T t hx_k1 ltN_k1) wv_X4_222 rfl rfl (by decide) (by decide) (pl_5 _) (Nat.le_of_ble_eq_true rfl) (by omega) (by omega) dX4_acks_39 ?_
            refine pr_aload_n (pc := 42) C dX4_acks_42 rfl ?_
            refine pr_geta (pc := 43) C 230 330 wf_X4_83 rfl rfl (by decide) (pl_5 _) dX4_acks_43 ?_
            refine pr_iload_n (pc := 46) C dX4_acks_46 rfl ?_
            refine pr_iconst (pc := 47) (v := -1) C dX4_acks_47 (by decide) ?_
            refine pr_astm (pc := 48) (n := 4) C 230 k1 rfl (by decide) rfl rfl (pl_r5 (by decide)) rfl (by omega) (by decide) dX4_acks_48 ?_
            refine pr_iincN (pc := 49) C dX4_acks_49 rfl k1 1 rfl rfl (by decide) ?_
            refine pr_goto (pc := 52) C 2 dX4_acks_52 (by decide) ?_
            exact ih4 (k1 + 1) (pa_us (ms_carry S5 t) 230 k1 (-1 : Int32)) (by omega) (by omega) (by rw [pz_it_s, ← eS_k1, ms_ack_y eN_k1 (by omega) c_14 c_29]) (mw_S_now (mw_S_carry hx_k1 ltN_k1))
  exact lp2 (4 + 1) 0 _ (by omega) (by omega) rfl hM

