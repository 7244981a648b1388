theorem pz_it_z {σ : Type} (f : σ → Nat → σ) (s : σ) : s = pz_it f 0 s := rfl
def ms_ops (S : Nat → Nat → Int32) (k : Nat) : Nat → Nat → Int32 := pa_us S 227 k (pz_b (decide (S 227 k ≠ 0) && decide (S 200 0 - S 225 k ≤ S 223 k)))
def ms_opn (S : Nat → Nat → Int32) (T : Nat) : Nat → Nat → Int32 := pz_it ms_ops T S
def ms_clk (S : Nat → Nat → Int32) : Nat → Nat → Int32 := pa_us S 200 0 (S 200 0 + 1)
theorem c_X4_comesM (G : pa_G) (l : Launch) (h : pa_H) (T : Nat) (hM : mw_S h.2.1 T) : pa_ME G l mX4_comesLate 2 [pv_o 5 0] h (h.1, ms_comes h.2.1 T, h.2.2) := c_X4_comesLate G l h T hM.1.1 hM.1.2.1
def ms_tick1 (T : Nat) (S : Nat → Nat → Int32) (k : Nat) : Nat → Nat → Int32 := ms_sil (ms_opn (ms_hard (ms_comes (ms_clk (ms_floor (ms_acks S))) T)) T) T
theorem mw_S_comes {S : Nat → Nat → Int32} {T R : Nat} (h : mw_S S T) : mw_S (ms_comes S R) T :=
  mw_S_of h fun g q hg => ms_comes_ne (fun z => absurd hg (by rw [z]; decide)) (fun z => absurd hg (by rw [z]; decide))
theorem mw_S_opn {S : Nat → Nat → Int32} {T R : Nat} (h : mw_S S T) : mw_S (ms_opn S R) T := pz_it_inv (I := fun S' => mw_S S' T) (fun s k z => by unfold ms_ops; exact mw_S_us z (by decide)) R S h
theorem mw_S_clk {S : Nat → Nat → Int32} {T : Nat} (h : mw_S S T) : mw_S (ms_clk S) T := mw_S_us h (by decide)
theorem mw_S_tick1 {S : Nat → Nat → Int32} {T k : Nat} (h : mw_S S T) : mw_S (ms_tick1 T S k) T := mw_S_sil (mw_S_opn (mw_S_hard (mw_S_comes (mw_S_clk (mw_S_floor (mw_S_acks h))))))
def ms_ticks (T m : Nat) (S : Nat → Nat → Int32) : Nat → Nat → Int32 := pz_it (ms_tick1 T) m S
theorem mw_S_ticks {S : Nat → Nat → Int32} {T m : Nat} (h : mw_S S T) : mw_S (ms_ticks T m S) T := pz_it_inv (I := fun S' => mw_S S' T) (fun s k z => mw_S_tick1 z) m S h
set_option maxRecDepth 100000 in
set_option maxHeartbeats 8000000 in
theorem c_X4_tickY (G : pa_G) (l : Launch) (h : pa_H) (T m : Nat) (hM : mw_S h.2.1 T) (hm1 : 1 ≤ m) (hm20 : m ≤ 20) : pa_MR G l mX4_tick 9 [pv_o 5 0, pv_i (nI m)] h (h.1, ms_ticks T m (pa_us h.2.1 235 0 0), h.2.2) (pv_i (ms_ticks T m (pa_us h.2.1 235 0 0) 200 0)) := by
  refine pa_go l (by decide) (by simp [pa_c1l, pa_c1]) (fun _ => rfl) fun x C E el ea => ?_
  subst el
  have hT := hM.1.1
  have hin : ms_in (nI m) 1 20 = true := by
    have e1 : (1 : Int32) ≤ nI m := (nI_leI (a := 1) (b := m) (by decide) (by omega)).mpr hm1
    have e2 : nI m ≤ (20 : Int32) := (nI_leI (a := m) (b := 20) (by omega) (by decide)).mpr hm20
    simp [ms_in, e1, e2]
  have ht0 : ms_thr (ms_in (nI m) 1 20) true true = 0 := by rw [hin]; rfl
  show pa_w G x 4 h 0 0 0 [some (pv_o 5 0), some (pv_i (nI m)), none, none] []
  refine pr_aload_n (pc := 0) C dX4_tick_0 rfl ?_
  refine pr_iload_n (pc := 1) C dX4_tick_1 rfl ?_
  refine pr_iconst (pc := 2) (v := 1) C dX4_tick_2 (by decide) ?_
  refine pr_bipush (pc := 3) (v := 20) C dX4_tick_3 (by decide) ?_
  refine pr_sP (pc := 5) C (c_X4_in G _ h (nI m) (1 : Int32) (20 : Int32)) ws_X4_102 rfl rfl (by decide) (Nat.le_of_ble_eq_true rfl) (by omega) (by omega) dX4_tick_5 ?_
  refine pr_iconst (pc := 8) (v := 1) C dX4_tick_8 (by decide) ?_
  refine pr_iconst (pc := 9) (v := 1) C dX4_tick_9 (by decide) ?_
  refine pr_vR (pc := 10) C (c_X4_goes G _ h (ms_in (nI m) (1 : Int32) (20 : Int32)) (true) (true)) wv_X4_110 rfl rfl (by decide) (by decide) (pl_5 _) (Nat.le_of_ble_eq_true rfl) (by omega) (by omega) dX4_tick_10 ?_
  refine pr_h (h1 := (h.1, (pa_us h.2.1 235 0 (ms_thr (ms_in (nI m) (1 : Int32) (20 : Int32)) true true)), h.2.2)) rfl ?_
  refine pr_ifb_ne (pc := 13) C 18 dX4_tick_13 (by decide) (fun c_13 => ?_) (fun c_13 => ?_)
  · refine pr_h (h1 := (h.1, pa_us h.2.1 235 0 0, h.2.2)) (by rw [ht0]) ?_
    refine pr_iconst (pc := 18) (v := 0) C dX4_tick_18 (by decide) ?_
    refine pr_istore_n (pc := 19) C dX4_tick_19 (by decide) ?_
    have lp2 : ∀ (n3 k1 : Nat) (S5 : Nat → Nat → Int32), k1 ≤ m → m < k1 + n3 → S5 = pz_it (ms_tick1 T) k1 (pa_us h.2.1 235 0 (0 : Int32)) → mw_S S5 T → pa_w G x 4 (h.1, S5, h.2.2) 0 0 20 [some (pv_o 5 0), some (pv_i (nI m)), some (pv_i (nI k1)), none] [] := by
      intro n3
      induction n3 with
      | zero => intro k1 S5 h1 h2; exact absurd h2 (by omega)
      | succ n3 ih4 =>
        intro k1 S5 hk1_k1 hk2_k1 eS_k1 hx_k1
        refine pr_iload_n (pc := 20) C dX4_tick_20 rfl ?_
        refine pr_iload_n (pc := 21) C dX4_tick_21 rfl ?_
        refine pr_icmp_geN (pc := 22) C 117 k1 m dX4_tick_22 (by decide) rfl rfl (by omega) (by omega) (fun c_22 => ?_) (fun c_22 => ?_)
        · obtain rfl : m = k1 := by omega
          refine pr_aload_n (pc := 117) C dX4_tick_117 rfl ?_
          refine pr_getm (pc := 118) C 200 wf_X4_121 rfl (by decide) (pl_5 _) dX4_tick_118 ?_
          exact pr_iret (pc := 121) C E (Or.inl rfl) (by omega) (by omega) ⟨by rw [eS_k1]; rfl, by rw [eS_k1]; rfl⟩ dX4_tick_121
        · refine pr_aload_n (pc := 25) C dX4_tick_25 rfl ?_
          refine pr_vE (pc := 26) C (c_X4_acks G _ (h.1, S5, h.2.2) T (show mw_S S5 T from hx_k1)) wv_X4_231 rfl rfl (by decide) (by decide) (pl_5 _) (Nat.le_of_ble_eq_true rfl) (by omega) (by omega) dX4_tick_26 ?_
          refine pr_h (h1 := (h.1, (ms_acks S5), h.2.2)) rfl ?_
          refine pr_aload_n (pc := 29) C dX4_tick_29 rfl ?_
          refine pr_vE (pc := 30) C (c_X4_floor G _ (h.1, (ms_acks S5), h.2.2) T (show mw_S (ms_acks S5) T from (mw_S_acks hx_k1))) wv_X4_234 rfl rfl (by decide) (by decide) (pl_5 _) (Nat.le_of_ble_eq_true rfl) (by omega) (by omega) dX4_tick_30 ?_
          refine pr_h (h1 := (h.1, (ms_floor (ms_acks S5)), h.2.2)) rfl ?_
          generalize hF : ms_floor (ms_acks S5) = F
          have hxF : mw_S F T := hF ▸ mw_S_floor (mw_S_acks hx_k1)
          refine pr_aload_n (pc := 33) C dX4_tick_33 rfl ?_
          refine pr_dup (pc := 34) C dX4_tick_34 trivial ?_
          refine pr_getm (pc := 35) C 200 wf_X4_121 rfl (by decide) (pl_5 _) dX4_tick_35 ?_
          refine pr_iconst (pc := 38) (v := 1) C dX4_tick_38 (by decide) ?_
          refine pr_iadd (pc := 39) C dX4_tick_39 ?_
          refine pr_putm (pc := 40) C 200 wp_X4_121 rfl (by decide) rfl (pl_5 _) dX4_tick_40 ?_
          refine pr_aload_n (pc := 43) C dX4_tick_43 rfl ?_
          refine pr_vE (pc := 44) C (c_X4_comesM G _ (h.1, (pa_us F 200 0 ((F 200 0) + (1 : Int32))), h.2.2) T (show mw_S (pa_us F 200 0 ((F 200 0) + (1 : Int32))) T from (mw_S_us hxF (by decide)))) wv_X4_237 rfl rfl (by decide) (by decide) (pl_5 _) (Nat.le_of_ble_eq_true rfl) (by omega) (by omega) dX4_tick_44 ?_
          refine pr_h (h1 := (h.1, (ms_comes (pa_us F 200 0 ((F 200 0) + (1 : Int32))) T), h.2.2)) rfl ?_
          refine pr_aload_n (pc := 47) C dX4_tick_47 rfl ?_
          refine pr_vE (pc := 48) C (c_X4_hardens G _ (h.1, (ms_comes (pa_us F 200 0 ((F 200 0) + (1 : Int32))) T), h.2.2) T (show mw_S (ms_comes (pa_us F 200 0 ((F 200 0) + (1 : Int32))) T) T from (mw_S_comes (mw_S_us hxF (by decide))))) wv_X4_240 rfl rfl (by decide) (by decide) (pl_5 _) (Nat.le_of_ble_eq_true rfl) (by omega) (by omega) dX4_tick_48 ?_
          refine pr_h (h1 := (h.1, (ms_hard (ms_comes (pa_us F 200 0 ((F 200 0) + (1 : Int32))) T)), h.2.2)) rfl ?_
          refine pr_iconst (pc := 51) (v := 0) C dX4_tick_51 (by decide) ?_
          refine pr_istore_n (pc := 52) C dX4_tick_52 (by decide) ?_
          have lp7 : ∀ (n8 k6 : Nat) (S10 : Nat → Nat → Int32), k6 ≤ T → T < k6 + n8 → S10 = pz_it ms_ops k6 (ms_hard (ms_comes (pa_us F 200 0 ((F 200 0) + (1 : Int32))) T)) → mw_S S10 T → pa_w G x 4 (h.1, S10, h.2.2) 0 0 53 [some (pv_o 5 0), some (pv_i (nI m)), some (pv_i (nI k1)), some (pv_i (nI k6))] [] := by
            intro n8
            induction n8 with
            | zero => intro k6 S10 h1 h2; exact absurd h2 (by omega)
            | succ n8 ih9 =>
              intro k6 S10 hk1_k6 hk2_k6 eS_k6 hx_k6
              refine pr_iload_n (pc := 53) C dX4_tick_53 rfl ?_
              refine pr_aload_n (pc := 54) C dX4_tick_54 rfl ?_
              refine pr_getm (pc := 55) C 217 wf_X4_131 rfl (by decide) (pl_5 _) dX4_tick_55 ?_
              refine pr_eqi hx_k6.1.2.1 ?_
              refine pr_icmp_geN (pc := 58) C 107 k6 T dX4_tick_58 (by decide) rfl rfl (by omega) (by omega) (fun c_58 => ?_) (fun c_58 => ?_)
              · obtain rfl : T = k6 := by omega
                refine pr_aload_n (pc := 107) C dX4_tick_107 rfl ?_
                refine pr_vE (pc := 108) C (c_X4_silence G _ (h.1, S10, h.2.2) T (show mw_S S10 T from hx_k6)) wv_X4_243 rfl rfl (by decide) (by decide) (pl_5 _) (Nat.le_of_ble_eq_true rfl) (by omega) (by omega) dX4_tick_108 ?_
                refine pr_h (h1 := (h.1, (ms_sil S10 T), h.2.2)) rfl ?_
                refine pr_iincN (pc := 111) C dX4_tick_111 rfl k1 1 rfl rfl (by decide) ?_
                refine pr_goto (pc := 114) C 20 dX4_tick_114 (by decide) ?_
                refine pr_lo (lo' := [some (pv_o 5 0), some (pv_i (nI m)), some (pv_i (nI (k1 + 1))), none]) (show pa_lle [some (pv_o 5 0), some (pv_i (nI m)), some (pv_i (nI (k1 + 1))), none] [some (pv_o 5 0), some (pv_i (nI m)), some (pv_i (nI (k1 + 1))), some (pv_i (nI T))] by simp [pa_lle]) ?_
                exact ih4 (k1 + 1) (ms_sil S10 T) (by omega) (by omega) (by rw [pz_it_s, ← eS_k1, eS_k6, ← hF, ms_tick1, ms_opn, ms_clk]) (show mw_S (ms_sil S10 T) T from (mw_S_sil hx_k6))
              · refine pr_aload_n (pc := 61) C dX4_tick_61 rfl ?_
                refine pr_geta (pc := 62) C 227 327 wf_X4_74 rfl rfl (by decide) (pl_5 _) dX4_tick_62 ?_
                refine pr_iload_n (pc := 65) C dX4_tick_65 rfl ?_
                refine pr_aload_n (pc := 66) C dX4_tick_66 rfl ?_
                have j100_11 : pa_w G x 4 (h.1, S10, h.2.2) 0 0 100 [some (pv_o 5 0), some (pv_i (nI m)), some (pv_i (nI k1)), some (pv_i (nI k6))] [pv_i (pz_b (decide (S10 227 k6 ≠ 0) && decide (S10 200 0 - S10 225 k6 ≤ S10 223 k6))), pv_i (nI k6), pv_o 327 0] := by
                  refine pr_astb (pc := 100) (n := 100) C 227 k6 rfl (by decide) rfl rfl (pl_r5 (by decide)) (pz_b01 _) rfl (by omega) (by decide) dX4_tick_100 ?_
                  refine pr_iincN (pc := 101) C dX4_tick_101 rfl k6 1 rfl rfl (by decide) ?_
                  refine pr_goto (pc := 104) C 53 dX4_tick_104 (by decide) ?_
                  exact ih9 (k6 + 1) (pa_us S10 227 k6 (pz_b (decide (S10 227 k6 ≠ 0) && decide (S10 200 0 - S10 225 k6 ≤ S10 223 k6)))) (by omega) (by omega) (by rw [pz_it_s, ← eS_k6]; simp [-Int32.not_le, -Int32.not_lt, pz_b, pz_lt, ms_ops, c_13, c_22, c_58]) (mw_S_us hx_k6 (by decide))
                refine pr_geta (pc := 67) C 227 327 wf_X4_74 rfl rfl (by decide) (pl_5 _) dX4_tick_67 ?_
                refine pr_iload_n (pc := 70) C dX4_tick_70 rfl ?_
                refine pr_aldb (pc := 71) (n := 100) C 227 k6 rfl rfl rfl (pl_r5 (by decide)) rfl (by omega) (by decide) dX4_tick_71 ?_
                refine pr_if_eq (pc := 72) C 99 dX4_tick_72 (by decide) (fun c_72 => ?_) (fun c_72 => ?_)
                · refine pr_iconst (pc := 99) (v := 0) C dX4_tick_99 (by decide) ?_
                  exact pr_eqi (show (0 : Int32) = (pz_b (decide (S10 227 k6 ≠ 0) && decide (S10 200 0 - S10 225 k6 ≤ S10 223 k6))) from (by simp [-Int32.not_le, -Int32.not_lt, pz_b, pz_lt, c_13, c_22, c_58, eq_true c_72])) j100_11
                · refine pr_aload_n (pc := 75) C dX4_tick_75 rfl ?_
                  refine pr_getm (pc := 76) C 200 wf_X4_121 rfl (by decide) (pl_5 _) dX4_tick_76 ?_
                  refine pr_aload_n (pc := 79) C dX4_tick_79 rfl ?_
                  refine pr_geta (pc := 80) C 225 325 wf_X4_68 rfl rfl (by decide) (pl_5 _) dX4_tick_80 ?_
                  refine pr_iload_n (pc := 83) C dX4_tick_83 rfl ?_
                  refine pr_aldm (pc := 84) (n := 100) C 225 k6 rfl rfl rfl (pl_r5 (by decide)) rfl (by omega) (by decide) dX4_tick_84 ?_
                  refine pr_isub (pc := 85) C dX4_tick_85 ?_
                  refine pr_aload_n (pc := 86) C dX4_tick_86 rfl ?_
                  refine pr_geta (pc := 87) C 223 323 wf_X4_62 rfl rfl (by decide) (pl_5 _) dX4_tick_87 ?_
                  refine pr_iload_n (pc := 90) C dX4_tick_90 rfl ?_
                  refine pr_aldm (pc := 91) (n := 100) C 223 k6 rfl rfl rfl (pl_r5 (by decide)) rfl (by omega) (by decide) dX4_tick_91 ?_
                  refine pr_icmp_gtL (pc := 92) C 99 dX4_tick_92 (by decide) (fun c_92 => ?_) (fun c_92 => ?_)
                  · refine pr_iconst (pc := 99) (v := 0) C dX4_tick_99 (by decide) ?_
                    exact pr_eqi (show (0 : Int32) = (pz_b (decide (S10 227 k6 ≠ 0) && decide (S10 200 0 - S10 225 k6 ≤ S10 223 k6))) from (by simp [-Int32.not_le, -Int32.not_lt, pz_b, pz_lt, c_13, c_22, c_58, eq_false c_72, c_92])) j100_11
                  · refine pr_iconst (pc := 95) (v := 1) C dX4_tick_95 (by decide) ?_
                    refine pr_goto (pc := 96) C 100 dX4_tick_96 (by decide) ?_
                    exact pr_eqi (show (1 : Int32) = (pz_b (decide (S10 227 k6 ≠ 0) && decide (S10 200 0 - S10 225 k6 ≤ S10 223 k6))) from (by simp [-Int32.not_le, -Int32.not_lt, pz_b, pz_lt, c_13, c_22, c_58, eq_false c_72, c_92])) j100_11
          exact lp7 (T + 1) 0 _ (by omega) (by omega) (pz_it_z _ _) (mw_S_hard (mw_S_comes (mw_S_us hxF (by decide))))
    exact lp2 (m + 1) 0 _ (by omega) (by omega) (pz_it_z _ _) (mw_S_us hM (by decide))
  · exact absurd c_13 (by rw [hin]; decide)

