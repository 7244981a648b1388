/-! THE REFERENCE, seventh part: its public methods with loops, can and say -/
def ms_spk (S : Nat → Nat → Int32) (sp a k : Nat) : Bool := decide (S 234 (10 * (10 * sp + a) + k) ≠ 0) && decide (S 208 (10 * sp + k) = 1)
def ms_sup (S : Nat → Nat → Int32) (sp a : Nat) : Bool := pz_any (ms_spk S sp a) 10 && decide (S 208 (10 * sp + a) ≠ 0)
set_option maxRecDepth 100000 in
set_option maxHeartbeats 2000000 in
theorem c_X4_isSupportedY (G : pa_G) (l : Launch) (h : pa_H) (sp a9 : Nat) (hs : sp < 4) (ha : a9 < 10) : pa_MR G l mX4_isSupported 5 [pv_o 5 0, pv_i (nI sp), pv_i (nI a9)] h (h.1, (pa_us h.2.1 235 0 0), h.2.2) (pv_i (pz_b (ms_sup h.2.1 sp a9))) := by
  refine pa_go l (by decide) (by simp [pa_c1l, pa_c1]) (fun _ => rfl) fun x C E el ea => ?_
  subst el
  show pa_w G x 6 h 0 0 0 [some (pv_o 5 0), some (pv_i (nI sp)), some (pv_i (nI a9)), none, none, none] []
  refine pr_aload_n (pc := 0) C dX4_isSupported_0 rfl ?_
  refine pr_aload_n (pc := 1) C dX4_isSupported_1 rfl ?_
  refine pr_iload_n (pc := 2) C dX4_isSupported_2 rfl ?_
  refine pr_iload_n (pc := 3) C dX4_isSupported_3 rfl ?_
  refine pr_vP (pc := 4) C (c_X4_isCell G _ h (nI sp) (nI a9)) wv_X4_253 rfl rfl (by decide) (by decide) (pl_5 _) (Nat.le_of_ble_eq_true rfl) (by omega) (by omega) dX4_isSupported_4 ?_
  refine pr_iconst (pc := 7) (v := 1) C dX4_isSupported_7 (by decide) ?_
  refine pr_iconst (pc := 8) (v := 1) C dX4_isSupported_8 (by decide) ?_
  refine pr_vR (pc := 9) C (c_X4_goesY G _ h (ms_in (nI sp) 0 3 && ms_in (nI a9) 0 9) true true (by simp [ms_in4 hs, ms_in10 ha]) rfl rfl) wv_X4_110 rfl rfl (by decide) (by decide) (pl_5 _) (Nat.le_of_ble_eq_true rfl) (by omega) (by omega) dX4_isSupported_9 ?_
  refine pr_if_ne (pc := 12) C 17 dX4_isSupported_12 (by decide) (fun _ => ?_) (fun c_12 => absurd c_12 (by decide))
  refine pr_bipush (pc := 17) (v := 10) C dX4_isSupported_17 (by decide) ?_
  refine pr_iload_n (pc := 19) C dX4_isSupported_19 rfl ?_
  refine pr_imulN (pc := 20) C dX4_isSupported_20 10 sp rfl rfl ?_
  refine pr_iload_n (pc := 21) C dX4_isSupported_21 rfl ?_
  refine pr_iaddN (pc := 22) C dX4_isSupported_22 (10 * sp) a9 rfl rfl ?_
  refine pr_istore_n (pc := 23) C dX4_isSupported_23 (by decide) ?_
  refine pr_iconst (pc := 24) (v := 0) C dX4_isSupported_24 (by decide) ?_
  refine pr_istore (pc := 25) C dX4_isSupported_25 (by decide) ?_
  refine pr_iconst (pc := 27) (v := 0) C dX4_isSupported_27 (by decide) ?_
  refine pr_istore (pc := 28) C dX4_isSupported_28 (by decide) ?_
  have lp2 : ∀ (n3 k1 : Nat), k1 ≤ 10 → 10 < k1 + n3 → pa_w G x 6 (h.1, (pa_us h.2.1 235 0 (0 : Int32)), h.2.2) 0 0 30 [some (pv_o 5 0), some (pv_i (nI sp)), some (pv_i (nI a9)), some (pv_i (nI ((10 * sp) + a9))), some (pv_i (pz_b (pz_any (ms_spk h.2.1 sp a9) k1))), some (pv_i (nI k1))] [] := by
    intro n3
    induction n3 with
    | zero => intro k1 h1 h2; exact absurd h2 (by omega)
    | succ n3 ih4 =>
      intro k1 hk1_k1 hk2_k1
      refine pr_iload (pc := 30) C dX4_isSupported_30 rfl ?_
      refine pr_bipush (pc := 32) (v := 10) C dX4_isSupported_32 (by decide) ?_
      refine pr_icmp_geN (pc := 34) C 86 k1 10 dX4_isSupported_34 (by decide) rfl rfl (by omega) (by omega) (fun c_34 => ?_) (fun c_34 => ?_)
      · obtain rfl : 10 = k1 := by omega
        refine pr_iload (pc := 86) C dX4_isSupported_86 rfl ?_
        refine pr_ifb_eq (pc := 88) C 104 dX4_isSupported_88 (by decide) (fun c_88 => ?_) (fun c_88 => ?_)
        · refine pr_iconst (pc := 104) (v := 0) C dX4_isSupported_104 (by decide) ?_
          exact pr_iret (pc := 105) C E (Or.inr ⟨rfl, (by decide)⟩) (by omega) (by omega) ⟨(by simp [-Int32.not_le, -Int32.not_lt, pz_b, pz_lt, ms_sup, c_88]), rfl⟩ dX4_isSupported_105
        · refine pr_aload_n (pc := 91) C dX4_isSupported_91 rfl ?_
          refine pr_geta (pc := 92) C 208 308 wf_X4_29 rfl rfl (by decide) (pl_5 _) dX4_isSupported_92 ?_
          refine pr_iload_n (pc := 95) C dX4_isSupported_95 rfl ?_
          refine pr_aldm (pc := 96) (n := 40) C 208 ((10 * sp) + a9) rfl rfl rfl (pl_r5 (by decide)) rfl (by omega) (by decide) dX4_isSupported_96 ?_
          refine pr_eqi (v := h.2.1 208 ((10 * sp) + a9)) rfl ?_
          refine pr_if_eq (pc := 97) C 104 dX4_isSupported_97 (by decide) (fun c_97 => ?_) (fun c_97 => ?_)
          · refine pr_iconst (pc := 104) (v := 0) C dX4_isSupported_104 (by decide) ?_
            exact pr_iret (pc := 105) C E (Or.inr ⟨rfl, (by decide)⟩) (by omega) (by omega) ⟨(by simp [-Int32.not_le, -Int32.not_lt, pz_b, pz_lt, ms_sup, c_88, eq_true c_97]), rfl⟩ dX4_isSupported_105
          · refine pr_iconst (pc := 100) (v := 1) C dX4_isSupported_100 (by decide) ?_
            refine pr_goto (pc := 101) C 105 dX4_isSupported_101 (by decide) ?_
            exact pr_iret (pc := 105) C E (Or.inr ⟨rfl, (by decide)⟩) (by omega) (by omega) ⟨(by simp [-Int32.not_le, -Int32.not_lt, pz_b, pz_lt, ms_sup, c_88, eq_false c_97]), rfl⟩ dX4_isSupported_105
      · have j78_5 : pa_w G x 6 (h.1, (pa_us h.2.1 235 0 (0 : Int32)), h.2.2) 0 0 78 [some (pv_o 5 0), some (pv_i (nI sp)), some (pv_i (nI a9)), some (pv_i (nI ((10 * sp) + a9))), some (pv_i (pz_b (pz_any (ms_spk h.2.1 sp a9) k1))), some (pv_i (nI k1))] [pv_i (pz_b (pz_any (ms_spk h.2.1 sp a9) (k1 + 1)))] := by
          refine pr_istore (pc := 78) C dX4_isSupported_78 (by decide) ?_
          refine pr_iincN (pc := 80) C dX4_isSupported_80 rfl k1 1 rfl rfl (by decide) ?_
          refine pr_goto (pc := 83) C 30 dX4_isSupported_83 (by decide) ?_
          exact ih4 (k1 + 1) (by omega) (by omega)
        refine pr_iload (pc := 37) C dX4_isSupported_37 rfl ?_
        refine pr_ifb_ne (pc := 39) C 73 dX4_isSupported_39 (by decide) (fun c_39 => ?_) (fun c_39 => ?_)
        · refine pr_iconst (pc := 73) (v := 1) C dX4_isSupported_73 (by decide) ?_
          refine pr_goto (pc := 74) C 78 dX4_isSupported_74 (by decide) ?_
          exact pr_eqi (show (1 : Int32) = (pz_b (pz_any (ms_spk h.2.1 sp a9) (k1 + 1))) from (by simp [-Int32.not_le, -Int32.not_lt, pz_b, pz_lt, pz_any, ms_spk, c_34, c_39])) j78_5
        · refine pr_aload_n (pc := 42) C dX4_isSupported_42 rfl ?_
          refine pr_geta (pc := 43) C 234 334 wf_X4_92 rfl rfl (by decide) (pl_5 _) dX4_isSupported_43 ?_
          refine pr_bipush (pc := 46) (v := 10) C dX4_isSupported_46 (by decide) ?_
          refine pr_iload_n (pc := 48) C dX4_isSupported_48 rfl ?_
          refine pr_imulN (pc := 49) C dX4_isSupported_49 10 ((10 * sp) + a9) rfl rfl ?_
          refine pr_iload (pc := 50) C dX4_isSupported_50 rfl ?_
          refine pr_iaddN (pc := 52) C dX4_isSupported_52 (10 * ((10 * sp) + a9)) k1 rfl rfl ?_
          refine pr_aldb (pc := 53) (n := 400) C 234 ((10 * ((10 * sp) + a9)) + k1) rfl rfl rfl (pl_r5 (by decide)) rfl (by omega) (by decide) dX4_isSupported_53 ?_
          refine pr_eqi (v := h.2.1 234 ((10 * ((10 * sp) + a9)) + k1)) rfl ?_
          refine pr_if_eq (pc := 54) C 77 dX4_isSupported_54 (by decide) (fun c_54 => ?_) (fun c_54 => ?_)
          · refine pr_iconst (pc := 77) (v := 0) C dX4_isSupported_77 (by decide) ?_
            exact pr_eqi (show (0 : Int32) = (pz_b (pz_any (ms_spk h.2.1 sp a9) (k1 + 1))) from (by simp [-Int32.not_le, -Int32.not_lt, pz_b, pz_lt, pz_any, ms_spk, c_34, c_39, eq_true c_54])) j78_5
          · refine pr_aload_n (pc := 57) C dX4_isSupported_57 rfl ?_
            refine pr_geta (pc := 58) C 208 308 wf_X4_29 rfl rfl (by decide) (pl_5 _) dX4_isSupported_58 ?_
            refine pr_bipush (pc := 61) (v := 10) C dX4_isSupported_61 (by decide) ?_
            refine pr_iload_n (pc := 63) C dX4_isSupported_63 rfl ?_
            refine pr_imulN (pc := 64) C dX4_isSupported_64 10 sp rfl rfl ?_
            refine pr_iload (pc := 65) C dX4_isSupported_65 rfl ?_
            refine pr_iaddN (pc := 67) C dX4_isSupported_67 (10 * sp) k1 rfl rfl ?_
            refine pr_aldm (pc := 68) (n := 40) C 208 ((10 * sp) + k1) rfl rfl rfl (pl_r5 (by decide)) rfl (by omega) (by decide) dX4_isSupported_68 ?_
            refine pr_eqi (v := h.2.1 208 ((10 * sp) + k1)) rfl ?_
            refine pr_iconst (pc := 69) (v := 1) C dX4_isSupported_69 (by decide) ?_
            refine pr_icmp_ne (pc := 70) C 77 dX4_isSupported_70 (by decide) (fun c_70 => ?_) (fun c_70 => ?_)
            · refine pr_iconst (pc := 77) (v := 0) C dX4_isSupported_77 (by decide) ?_
              exact pr_eqi (show (0 : Int32) = (pz_b (pz_any (ms_spk h.2.1 sp a9) (k1 + 1))) from (by simp [-Int32.not_le, -Int32.not_lt, pz_b, pz_lt, pz_any, ms_spk, c_34, c_39, eq_false c_54, eq_false c_70])) j78_5
            · refine pr_iconst (pc := 73) (v := 1) C dX4_isSupported_73 (by decide) ?_
              refine pr_goto (pc := 74) C 78 dX4_isSupported_74 (by decide) ?_
              exact pr_eqi (show (1 : Int32) = (pz_b (pz_any (ms_spk h.2.1 sp a9) (k1 + 1))) from (by simp [-Int32.not_le, -Int32.not_lt, pz_b, pz_lt, pz_any, ms_spk, c_34, c_39, eq_false c_54, eq_true c_70])) j78_5
  exact lp2 (10 + 1) 0 (by omega) (by omega)

set_option maxRecDepth 100000 in
set_option maxHeartbeats 2000000 in
theorem c_X4_isSupportedN (G : pa_G) (l : Launch) (h : pa_H) (sp a9 : Int32) (hn : ((ms_in sp 0 3 && ms_in a9 0 9) && true && true) = false) : pa_MR G l mX4_isSupported 5 [pv_o 5 0, pv_i sp, pv_i a9] h (h.1, pa_us h.2.1 235 0 (ms_thr (ms_in sp 0 3 && ms_in a9 0 9) true true), h.2.2) (pv_i 0) := by
  refine pa_go l (by decide) (by simp [pa_c1l, pa_c1]) (fun _ => rfl) fun x C E el ea => ?_
  subst el
  show pa_w G x 6 h 0 0 0 [some (pv_o 5 0), some (pv_i sp), some (pv_i a9), none, none, none] []
  refine pr_aload_n (pc := 0) C dX4_isSupported_0 rfl ?_
  refine pr_aload_n (pc := 1) C dX4_isSupported_1 rfl ?_
  refine pr_iload_n (pc := 2) C dX4_isSupported_2 rfl ?_
  refine pr_iload_n (pc := 3) C dX4_isSupported_3 rfl ?_
  refine pr_vP (pc := 4) C (c_X4_isCell G _ h sp a9) wv_X4_253 rfl rfl (by decide) (by decide) (pl_5 _) (Nat.le_of_ble_eq_true rfl) (by omega) (by omega) dX4_isSupported_4 ?_
  refine pr_iconst (pc := 7) (v := 1) C dX4_isSupported_7 (by decide) ?_
  refine pr_iconst (pc := 8) (v := 1) C dX4_isSupported_8 (by decide) ?_
  refine pr_vR (pc := 9) C (c_X4_goesN G _ h (ms_in sp 0 3 && ms_in a9 0 9) true true hn) wv_X4_110 rfl rfl (by decide) (by decide) (pl_5 _) (Nat.le_of_ble_eq_true rfl) (by omega) (by omega) dX4_isSupported_9 ?_
  refine pr_if_ne (pc := 12) C 17 dX4_isSupported_12 (by decide) (fun c_12 => absurd c_12 (by decide)) (fun _ => ?_)
  refine pr_iconst (pc := 15) (v := 0) C dX4_isSupported_15 (by decide) ?_
  exact pr_iret (pc := 16) C E (Or.inr ⟨rfl, (by decide)⟩) (by omega) (by omega) ⟨rfl, rfl⟩ dX4_isSupported_16

def ms_gr0 (S : Nat → Nat → Int32) (set : Int32) (a9 : Nat) (its : Int32) (one : Nat) : Bool := ms_isIn set (nI one) && decide (S 208 (10 * one + a9) = its)
def ms_grk (S : Nat → Nat → Int32) (set : Int32) (a9 : Nat) (its : Int32) (one k : Nat) : Bool :=
  !ms_isIn set (nI k) || decide (S 208 (10 * k + a9) = its) || (decide (S 208 (10 * k + a9) ≠ ms_contrary its) && decide (S 228 (4 * mn (S 209 (10 * one + a9)) + k) = 4))
def ms_grt (S : Nat → Nat → Int32) (set : Int32) (a9 : Nat) (its : Int32) (one k : Nat) : Bool := ms_gr0 S set a9 its one && pz_all (ms_grk S set a9 its one) k
def ms_gr (S : Nat → Nat → Int32) (set : Int32) (a9 : Nat) (its : Int32) (one : Nat) : Bool := ms_grt S set a9 its one 4
theorem pz_all_f {p : Nat → Bool} {k : Nat} (h : pz_all p k = false) : ∀ d, pz_all p (k + d) = false
  | 0 => h
  | d + 1 => by rw [← Nat.add_assoc, pz_all, pz_all_f h d]; rfl
theorem ms_grt_f {S : Nat → Nat → Int32} {set : Int32} {a9 : Nat} {its : Int32} {one k : Nat} (h : ms_grt S set a9 its one k = false) (hk : k ≤ 4) : ms_gr S set a9 its one = false := by
  obtain ⟨d, hd⟩ := Nat.le.dest hk
  unfold ms_gr ms_grt at *
  cases e : ms_gr0 S set a9 its one
  · rfl
  · rw [e, Bool.true_and] at h
    rw [Bool.true_and]
    have q := pz_all_f h d
    rw [hd] at q
    exact q
theorem ms_grt_0 {S : Nat → Nat → Int32} {set : Int32} {a9 : Nat} {its : Int32} {one k : Nat} (h : ms_grt S set a9 its one k = true) : S 208 (10 * one + a9) = its := by
  unfold ms_grt ms_gr0 at h
  simp only [Bool.and_eq_true, decide_eq_true_eq] at h
  exact h.1.2
theorem mw_S_by {S : Nat → Nat → Int32} {T p : Nat} (h : mw_S S T) (hp : S 208 p ≠ 0) : S 209 p = nI (mn (S 209 p)) ∧ mn (S 209 p) < T ∧ T ≤ 100 := by
  have hT := h.1.1
  obtain ⟨t, g1, g2⟩ := h.2.2.2.2.1 p hp
  obtain ⟨e1, e2⟩ := mn_lt g2 g1 (by omega)
  exact ⟨e1, e2, hT⟩
set_option maxRecDepth 100000 in
set_option maxHeartbeats 2000000 in
theorem c_X4_isGround (G : pa_G) (l : Launch) (h : pa_H) (T a9 one : Nat) (set its : Int32) (hM : mw_S h.2.1 T) (ha : a9 < 10) (ho : one < 4) (hi : its ≠ 0) : pa_MP G l mX4_isGround 2 [pv_o 5 0, pv_i set, pv_i (nI a9), pv_i its, pv_i (nI one)] h (pv_i (pz_b (ms_gr h.2.1 set a9 its one))) := by
  refine pa_go l (by decide) (by simp [pa_c1l, pa_c1]) (fun _ => rfl) fun x C E el ea => ?_
  subst el
  show pa_w G x 8 h 0 0 0 [some (pv_o 5 0), some (pv_i set), some (pv_i (nI a9)), some (pv_i its), some (pv_i (nI one)), none, none, none] []
  have j30_1 : pa_w G x 8 h 0 0 30 [some (pv_o 5 0), some (pv_i set), some (pv_i (nI a9)), some (pv_i its), some (pv_i (nI one)), none, none, none] [pv_i (pz_b (ms_grt h.2.1 set a9 its one 0))] := by
    refine pr_istore (pc := 30) C dX4_isGround_30 (by decide) ?_
    refine pr_iconst (pc := 32) (v := 0) C dX4_isGround_32 (by decide) ?_
    refine pr_istore (pc := 33) C dX4_isGround_33 (by decide) ?_
    have lp3 : ∀ (n4 k2 : Nat), k2 ≤ 4 → 4 < k2 + n4 → pa_w G x 8 h 0 0 35 [some (pv_o 5 0), some (pv_i set), some (pv_i (nI a9)), some (pv_i its), some (pv_i (nI one)), some (pv_i (pz_b (ms_grt h.2.1 set a9 its one k2))), some (pv_i (nI k2)), none] [] := by
      intro n4
      induction n4 with
      | zero => intro k2 h1 h2; exact absurd h2 (by omega)
      | succ n4 ih5 =>
        intro k2 hk1_k2 hk2_k2
        refine pr_iload (pc := 35) C dX4_isGround_35 rfl ?_
        refine pr_iconst (pc := 37) (v := 4) C dX4_isGround_37 (by decide) ?_
        refine pr_icmp_geN (pc := 38) C 123 k2 4 dX4_isGround_38 (by decide) rfl rfl (by omega) (by omega) (fun c_38 => ?_) (fun c_38 => ?_)
        · obtain rfl : 4 = k2 := by omega
          refine pr_iload (pc := 123) C dX4_isGround_123 rfl ?_
          exact pr_iret (pc := 125) C E (Or.inr ⟨rfl, (pz_b01 _)⟩) (by omega) (by omega) ⟨rfl, rfl⟩ dX4_isGround_125
        · refine pr_iload (pc := 41) C dX4_isGround_41 rfl ?_
          refine pr_ifb_eq (pc := 43) C 123 dX4_isGround_43 (by decide) (fun c_43 => ?_) (fun c_43 => ?_)
          · refine pr_iload (pc := 123) C dX4_isGround_123 rfl ?_
            exact pr_iret (pc := 125) C E (Or.inr ⟨rfl, (pz_b01 _)⟩) (by omega) (by omega) ⟨by rw [ms_grt_f c_43 (by omega), c_43], rfl⟩ dX4_isGround_125
          · have j115_6 : pa_w G x 8 h 0 0 115 [some (pv_o 5 0), some (pv_i set), some (pv_i (nI a9)), some (pv_i its), some (pv_i (nI one)), some (pv_i (pz_b (ms_grt h.2.1 set a9 its one k2))), some (pv_i (nI k2)), none] [pv_i (pz_b (ms_grt h.2.1 set a9 its one (k2 + 1)))] := by
              refine pr_istore (pc := 115) C dX4_isGround_115 (by decide) ?_
              refine pr_iincN (pc := 117) C dX4_isGround_117 rfl k2 1 rfl rfl (by decide) ?_
              refine pr_goto (pc := 120) C 35 dX4_isGround_120 (by decide) ?_
              exact ih5 (k2 + 1) (by omega) (by omega)
            refine pr_aload_n (pc := 46) C dX4_isGround_46 rfl ?_
            refine pr_geta (pc := 47) C 208 308 wf_X4_29 rfl rfl (by decide) (pl_5 _) dX4_isGround_47 ?_
            refine pr_bipush (pc := 50) (v := 10) C dX4_isGround_50 (by decide) ?_
            refine pr_iload (pc := 52) C dX4_isGround_52 rfl ?_
            refine pr_imulN (pc := 54) C dX4_isGround_54 10 k2 rfl rfl ?_
            refine pr_iload_n (pc := 55) C dX4_isGround_55 rfl ?_
            refine pr_iaddN (pc := 56) C dX4_isGround_56 (10 * k2) a9 rfl rfl ?_
            refine pr_aldm (pc := 57) (n := 40) C 208 ((10 * k2) + a9) rfl rfl rfl (pl_r5 (by decide)) rfl (by omega) (by decide) dX4_isGround_57 ?_
            refine pr_istore (pc := 58) C dX4_isGround_58 (by decide) ?_
            refine pr_iload_n (pc := 60) C dX4_isGround_60 rfl ?_
            refine pr_iload (pc := 61) C dX4_isGround_61 rfl ?_
            refine pr_sP (pc := 63) C (c_X4_isIn G _ h set (nI k2)) ws_X4_114 rfl rfl (by decide) (Nat.le_of_ble_eq_true rfl) (by omega) (by omega) dX4_isGround_63 ?_
            refine pr_ifb_eq (pc := 66) C 110 dX4_isGround_66 (by decide) (fun c_66 => ?_) (fun c_66 => ?_)
            · refine pr_iconst (pc := 110) (v := 1) C dX4_isGround_110 (by decide) ?_
              refine pr_goto (pc := 111) C 115 dX4_isGround_111 (by decide) ?_
              refine pr_lo (lo' := [some (pv_o 5 0), some (pv_i set), some (pv_i (nI a9)), some (pv_i its), some (pv_i (nI one)), some (pv_i (pz_b (ms_grt h.2.1 set a9 its one k2))), some (pv_i (nI k2)), none]) (show pa_lle [some (pv_o 5 0), some (pv_i set), some (pv_i (nI a9)), some (pv_i its), some (pv_i (nI one)), some (pv_i (pz_b (ms_grt h.2.1 set a9 its one k2))), some (pv_i (nI k2)), none] [some (pv_o 5 0), some (pv_i set), some (pv_i (nI a9)), some (pv_i its), some (pv_i (nI one)), some (pv_i (pz_b (ms_grt h.2.1 set a9 its one k2))), some (pv_i (nI k2)), some (pv_i (h.2.1 208 ((10 * k2) + a9)))] by simp [pa_lle]) ?_
              exact pr_eqi (show (1 : Int32) = (pz_b (ms_grt h.2.1 set a9 its one (k2 + 1))) from (by have c_43 := c_43; unfold ms_grt at c_43 ⊢; rw [Bool.and_eq_true] at c_43; simp [-Int32.not_le, -Int32.not_lt, pz_b, pz_lt, pz_all, ms_grk, c_43.1, c_43.2, c_38, c_66])) j115_6
            · refine pr_iload (pc := 69) C dX4_isGround_69 rfl ?_
              refine pr_iload_n (pc := 71) C dX4_isGround_71 rfl ?_
              refine pr_icmp_eq (pc := 72) C 110 dX4_isGround_72 (by decide) (fun c_72 => ?_) (fun c_72 => ?_)
              · refine pr_iconst (pc := 110) (v := 1) C dX4_isGround_110 (by decide) ?_
                refine pr_goto (pc := 111) C 115 dX4_isGround_111 (by decide) ?_
                refine pr_lo (lo' := [some (pv_o 5 0), some (pv_i set), some (pv_i (nI a9)), some (pv_i its), some (pv_i (nI one)), some (pv_i (pz_b (ms_grt h.2.1 set a9 its one k2))), some (pv_i (nI k2)), none]) (show pa_lle [some (pv_o 5 0), some (pv_i set), some (pv_i (nI a9)), some (pv_i its), some (pv_i (nI one)), some (pv_i (pz_b (ms_grt h.2.1 set a9 its one k2))), some (pv_i (nI k2)), none] [some (pv_o 5 0), some (pv_i set), some (pv_i (nI a9)), some (pv_i its), some (pv_i (nI one)), some (pv_i (pz_b (ms_grt h.2.1 set a9 its one k2))), some (pv_i (nI k2)), some (pv_i (h.2.1 208 ((10 * k2) + a9)))] by simp [pa_lle]) ?_
                exact pr_eqi (show (1 : Int32) = (pz_b (ms_grt h.2.1 set a9 its one (k2 + 1))) from (by have c_43 := c_43; unfold ms_grt at c_43 ⊢; rw [Bool.and_eq_true] at c_43; simp [-Int32.not_le, -Int32.not_lt, pz_b, pz_lt, pz_all, ms_grk, c_43.1, c_43.2, c_38, c_66, eq_true c_72])) j115_6
              · refine pr_iload (pc := 75) C dX4_isGround_75 rfl ?_
                refine pr_iload_n (pc := 77) C dX4_isGround_77 rfl ?_
                refine pr_sP (pc := 78) C (c_X4_contrary G _ h its) ws_X4_187 rfl rfl (by decide) (Nat.le_of_ble_eq_true rfl) (by omega) (by omega) dX4_isGround_78 ?_
                refine pr_icmp_eq (pc := 81) C 114 dX4_isGround_81 (by decide) (fun c_81 => ?_) (fun c_81 => ?_)
                · refine pr_iconst (pc := 114) (v := 0) C dX4_isGround_114 (by decide) ?_
                  refine pr_lo (lo' := [some (pv_o 5 0), some (pv_i set), some (pv_i (nI a9)), some (pv_i its), some (pv_i (nI one)), some (pv_i (pz_b (ms_grt h.2.1 set a9 its one k2))), some (pv_i (nI k2)), none]) (show pa_lle [some (pv_o 5 0), some (pv_i set), some (pv_i (nI a9)), some (pv_i its), some (pv_i (nI one)), some (pv_i (pz_b (ms_grt h.2.1 set a9 its one k2))), some (pv_i (nI k2)), none] [some (pv_o 5 0), some (pv_i set), some (pv_i (nI a9)), some (pv_i its), some (pv_i (nI one)), some (pv_i (pz_b (ms_grt h.2.1 set a9 its one k2))), some (pv_i (nI k2)), some (pv_i (h.2.1 208 ((10 * k2) + a9)))] by simp [pa_lle]) ?_
                  exact pr_eqi (show (0 : Int32) = (pz_b (ms_grt h.2.1 set a9 its one (k2 + 1))) from (by have c_43 := c_43; unfold ms_grt at c_43 ⊢; rw [Bool.and_eq_true] at c_43; simp [-Int32.not_le, -Int32.not_lt, pz_b, pz_lt, pz_all, ms_grk, c_43.1, c_43.2, c_38, c_66, eq_false c_72, eq_true c_81])) j115_6
                · have e208 := ms_grt_0 c_43
                  obtain ⟨eB, ltB, hT100⟩ := mw_S_by hM (show h.2.1 208 (10 * one + a9) ≠ 0 by rw [e208]; exact hi)
                  generalize etb : mn (h.2.1 209 (10 * one + a9)) = tb at eB ltB
                  refine pr_aload_n (pc := 84) C dX4_isGround_84 rfl ?_
                  refine pr_geta (pc := 85) C 228 328 wf_X4_77 rfl rfl (by decide) (pl_5 _) dX4_isGround_85 ?_
                  refine pr_iconst (pc := 88) (v := 4) C dX4_isGround_88 (by decide) ?_
                  refine pr_aload_n (pc := 89) C dX4_isGround_89 rfl ?_
                  refine pr_geta (pc := 90) C 209 309 wf_X4_32 rfl rfl (by decide) (pl_5 _) dX4_isGround_90 ?_
                  refine pr_bipush (pc := 93) (v := 10) C dX4_isGround_93 (by decide) ?_
                  refine pr_iload (pc := 95) C dX4_isGround_95 rfl ?_
                  refine pr_imulN (pc := 97) C dX4_isGround_97 10 one rfl rfl ?_
                  refine pr_iload_n (pc := 98) C dX4_isGround_98 rfl ?_
                  refine pr_iaddN (pc := 99) C dX4_isGround_99 (10 * one) a9 rfl rfl ?_
                  refine pr_aldm (pc := 100) (n := 40) C 209 ((10 * one) + a9) rfl rfl rfl (pl_r5 (by decide)) rfl (by omega) (by decide) dX4_isGround_100 ?_
                  refine pr_eqi eB ?_
                  refine pr_imulN (pc := 101) C dX4_isGround_101 4 tb rfl rfl ?_
                  refine pr_iload (pc := 102) C dX4_isGround_102 rfl ?_
                  refine pr_iaddN (pc := 104) C dX4_isGround_104 (4 * tb) k2 rfl rfl ?_
                  refine pr_aldm (pc := 105) (n := 400) C 228 ((4 * tb) + k2) rfl rfl rfl (pl_r5 (by decide)) rfl (by omega) (by decide) dX4_isGround_105 ?_
                  refine pr_iconst (pc := 106) (v := 4) C dX4_isGround_106 (by decide) ?_
                  refine pr_icmp_ne (pc := 107) C 114 dX4_isGround_107 (by decide) (fun c_107 => ?_) (fun c_107 => ?_)
                  · refine pr_iconst (pc := 114) (v := 0) C dX4_isGround_114 (by decide) ?_
                    refine pr_lo (lo' := [some (pv_o 5 0), some (pv_i set), some (pv_i (nI a9)), some (pv_i its), some (pv_i (nI one)), some (pv_i (pz_b (ms_grt h.2.1 set a9 its one k2))), some (pv_i (nI k2)), none]) (show pa_lle [some (pv_o 5 0), some (pv_i set), some (pv_i (nI a9)), some (pv_i its), some (pv_i (nI one)), some (pv_i (pz_b (ms_grt h.2.1 set a9 its one k2))), some (pv_i (nI k2)), none] [some (pv_o 5 0), some (pv_i set), some (pv_i (nI a9)), some (pv_i its), some (pv_i (nI one)), some (pv_i (pz_b (ms_grt h.2.1 set a9 its one k2))), some (pv_i (nI k2)), some (pv_i (h.2.1 208 ((10 * k2) + a9)))] by simp [pa_lle]) ?_
                    exact pr_eqi (show (0 : Int32) = (pz_b (ms_grt h.2.1 set a9 its one (k2 + 1))) from (by have c_43 := c_43; unfold ms_grt at c_43 ⊢; rw [Bool.and_eq_true] at c_43; simp [-Int32.not_le, -Int32.not_lt, pz_b, pz_lt, pz_all, ms_grk, c_43.1, c_43.2, c_38, c_66, eq_false c_72, eq_false c_81, etb, eq_false c_107])) j115_6
                  · refine pr_iconst (pc := 110) (v := 1) C dX4_isGround_110 (by decide) ?_
                    refine pr_goto (pc := 111) C 115 dX4_isGround_111 (by decide) ?_
                    refine pr_lo (lo' := [some (pv_o 5 0), some (pv_i set), some (pv_i (nI a9)), some (pv_i its), some (pv_i (nI one)), some (pv_i (pz_b (ms_grt h.2.1 set a9 its one k2))), some (pv_i (nI k2)), none]) (show pa_lle [some (pv_o 5 0), some (pv_i set), some (pv_i (nI a9)), some (pv_i its), some (pv_i (nI one)), some (pv_i (pz_b (ms_grt h.2.1 set a9 its one k2))), some (pv_i (nI k2)), none] [some (pv_o 5 0), some (pv_i set), some (pv_i (nI a9)), some (pv_i its), some (pv_i (nI one)), some (pv_i (pz_b (ms_grt h.2.1 set a9 its one k2))), some (pv_i (nI k2)), some (pv_i (h.2.1 208 ((10 * k2) + a9)))] by simp [pa_lle]) ?_
                    exact pr_eqi (show (1 : Int32) = (pz_b (ms_grt h.2.1 set a9 its one (k2 + 1))) from (by have c_43 := c_43; unfold ms_grt at c_43 ⊢; rw [Bool.and_eq_true] at c_43; simp [-Int32.not_le, -Int32.not_lt, pz_b, pz_lt, pz_all, ms_grk, c_43.1, c_43.2, c_38, c_66, eq_false c_72, eq_false c_81, etb, eq_true c_107])) j115_6
    exact lp3 (4 + 1) 0 (by omega) (by omega)
  refine pr_iload_n (pc := 0) C dX4_isGround_0 rfl ?_
  refine pr_iload (pc := 1) C dX4_isGround_1 rfl ?_
  refine pr_sP (pc := 3) C (c_X4_isIn G _ h set (nI one)) ws_X4_114 rfl rfl (by decide) (Nat.le_of_ble_eq_true rfl) (by omega) (by omega) dX4_isGround_3 ?_
  refine pr_ifb_eq (pc := 6) C 29 dX4_isGround_6 (by decide) (fun c_6 => ?_) (fun c_6 => ?_)
  · refine pr_iconst (pc := 29) (v := 0) C dX4_isGround_29 (by decide) ?_
    exact pr_eqi (show (0 : Int32) = (pz_b (ms_grt h.2.1 set a9 its one 0)) from (by simp [-Int32.not_le, -Int32.not_lt, pz_b, pz_lt, ms_grt, ms_gr0, pz_all, c_6])) j30_1
  · refine pr_aload_n (pc := 9) C dX4_isGround_9 rfl ?_
    refine pr_geta (pc := 10) C 208 308 wf_X4_29 rfl rfl (by decide) (pl_5 _) dX4_isGround_10 ?_
    refine pr_bipush (pc := 13) (v := 10) C dX4_isGround_13 (by decide) ?_
    refine pr_iload (pc := 15) C dX4_isGround_15 rfl ?_
    refine pr_imulN (pc := 17) C dX4_isGround_17 10 one rfl rfl ?_
    refine pr_iload_n (pc := 18) C dX4_isGround_18 rfl ?_
    refine pr_iaddN (pc := 19) C dX4_isGround_19 (10 * one) a9 rfl rfl ?_
    refine pr_aldm (pc := 20) (n := 40) C 208 ((10 * one) + a9) rfl rfl rfl (pl_r5 (by decide)) rfl (by omega) (by decide) dX4_isGround_20 ?_
    refine pr_iload_n (pc := 21) C dX4_isGround_21 rfl ?_
    refine pr_icmp_ne (pc := 22) C 29 dX4_isGround_22 (by decide) (fun c_22 => ?_) (fun c_22 => ?_)
    · refine pr_iconst (pc := 29) (v := 0) C dX4_isGround_29 (by decide) ?_
      exact pr_eqi (show (0 : Int32) = (pz_b (ms_grt h.2.1 set a9 its one 0)) from (by simp [-Int32.not_le, -Int32.not_lt, pz_b, pz_lt, ms_grt, ms_gr0, pz_all, c_6, eq_false c_22])) j30_1
    · refine pr_iconst (pc := 25) (v := 1) C dX4_isGround_25 (by decide) ?_
      refine pr_goto (pc := 26) C 30 dX4_isGround_26 (by decide) ?_
      exact pr_eqi (show (1 : Int32) = (pz_b (ms_grt h.2.1 set a9 its one 0)) from (by simp [-Int32.not_le, -Int32.not_lt, pz_b, pz_lt, ms_grt, ms_gr0, pz_all, c_6, eq_true c_22])) j30_1

def ms_gv (k : Nat) : Int32 := if k < 4 then 2 else 1
theorem ms_gv_0 (k : Nat) : ms_gv k ≠ 0 := by unfold ms_gv; split <;> decide
def ms_gs (S : Nat → Nat → Int32) (set : Int32) (a9 : Nat) (f : Int32) (k : Nat) : Int32 := if ms_gr S set a9 (ms_gv k) (k % 4) then ms_gv k else f
def ms_ground (S : Nat → Nat → Int32) (set : Int32) (a9 : Nat) : Int32 := pz_it (ms_gs S set a9) 8 0
set_option maxRecDepth 100000 in
set_option maxHeartbeats 2000000 in
theorem c_X4_groundY (G : pa_G) (l : Launch) (h : pa_H) (T a9 : Nat) (set : Int32) (hM : mw_S h.2.1 T) (ha : a9 < 10) (hs : ms_in set 1 15 = true) : pa_MR G l mX4_ground 5 [pv_o 5 0, pv_i set, pv_i (nI a9)] h (h.1, (pa_us h.2.1 235 0 0), h.2.2) (pv_i (ms_ground h.2.1 set a9)) := by
  refine pa_go l (by decide) (by simp [pa_c1l, pa_c1]) (fun _ => rfl) fun x C E el ea => ?_
  subst el
  show pa_w G x 6 h 0 0 0 [some (pv_o 5 0), some (pv_i set), some (pv_i (nI a9)), none, none, none] []
  refine pr_aload_n (pc := 0) C dX4_ground_0 rfl ?_
  refine pr_iload_n (pc := 1) C dX4_ground_1 rfl ?_
  refine pr_sP (pc := 2) C (c_X4_isAtom G _ h (nI a9)) ws_X4_118 rfl rfl (by decide) (Nat.le_of_ble_eq_true rfl) (by omega) (by omega) dX4_ground_2 ?_
  refine pr_iload_n (pc := 5) C dX4_ground_5 rfl ?_
  refine pr_iconst (pc := 6) (v := 1) C dX4_ground_6 (by decide) ?_
  refine pr_bipush (pc := 7) (v := 15) C dX4_ground_7 (by decide) ?_
  refine pr_sP (pc := 9) C (c_X4_in G _ h set (1 : Int32) (15 : Int32)) ws_X4_102 rfl rfl (by decide) (Nat.le_of_ble_eq_true rfl) (by omega) (by omega) dX4_ground_9 ?_
  refine pr_iconst (pc := 12) (v := 1) C dX4_ground_12 (by decide) ?_
  refine pr_vR (pc := 13) C (c_X4_goesY G _ h (ms_in (nI a9) 0 9) (ms_in set (1 : Int32) (15 : Int32)) true (ms_in10 ha) hs rfl) wv_X4_110 rfl rfl (by decide) (by decide) (pl_5 _) (Nat.le_of_ble_eq_true rfl) (by omega) (by omega) dX4_ground_13 ?_
  refine pr_if_ne (pc := 16) C 21 dX4_ground_16 (by decide) (fun _ => ?_) (fun c_16 => absurd c_16 (by decide))
  refine pr_iconst (pc := 21) (v := 0) C dX4_ground_21 (by decide) ?_
  refine pr_istore_n (pc := 22) C dX4_ground_22 (by decide) ?_
  refine pr_iconst (pc := 23) (v := 0) C dX4_ground_23 (by decide) ?_
  refine pr_istore (pc := 24) C dX4_ground_24 (by decide) ?_
  have lp2 : ∀ (n3 k1 : Nat), k1 ≤ 8 → 8 < k1 + n3 → pa_w G x 6 (h.1, (pa_us h.2.1 235 0 (0 : Int32)), h.2.2) 0 0 26 [some (pv_o 5 0), some (pv_i set), some (pv_i (nI a9)), some (pv_i (pz_it (ms_gs h.2.1 set a9) k1 0)), some (pv_i (nI k1)), none] [] := by
    intro n3
    induction n3 with
    | zero => intro k1 h1 h2; exact absurd h2 (by omega)
    | succ n3 ih4 =>
      intro k1 hk1_k1 hk2_k1
      refine pr_iload (pc := 26) C dX4_ground_26 rfl ?_
      refine pr_bipush (pc := 28) (v := 8) C dX4_ground_28 (by decide) ?_
      refine pr_icmp_geN (pc := 30) C 74 k1 8 dX4_ground_30 (by decide) rfl rfl (by omega) (by omega) (fun c_30 => ?_) (fun c_30 => ?_)
      · obtain rfl : 8 = k1 := by omega
        refine pr_iload_n (pc := 74) C dX4_ground_74 rfl ?_
        exact pr_iret (pc := 75) C E (Or.inl rfl) (by omega) (by omega) ⟨rfl, rfl⟩ dX4_ground_75
      · have j44_5 : pa_w G x 6 (h.1, (pa_us h.2.1 235 0 (0 : Int32)), h.2.2) 0 0 44 [some (pv_o 5 0), some (pv_i set), some (pv_i (nI a9)), some (pv_i (pz_it (ms_gs h.2.1 set a9) k1 0)), some (pv_i (nI k1)), none] [pv_i (ms_gv k1)] := by
          refine pr_istore (pc := 44) C dX4_ground_44 (by decide) ?_
          have j67_6 : pa_w G x 6 (h.1, (pa_us h.2.1 235 0 (0 : Int32)), h.2.2) 0 0 67 [some (pv_o 5 0), some (pv_i set), some (pv_i (nI a9)), some (pv_i (pz_it (ms_gs h.2.1 set a9) k1 0)), some (pv_i (nI k1)), some (pv_i (ms_gv k1))] [pv_i (pz_it (ms_gs h.2.1 set a9) (k1 + 1) 0)] := by
            refine pr_istore_n (pc := 67) C dX4_ground_67 (by decide) ?_
            refine pr_iincN (pc := 68) C dX4_ground_68 rfl k1 1 rfl rfl (by decide) ?_
            refine pr_goto (pc := 71) C 26 dX4_ground_71 (by decide) ?_
            refine pr_lo (lo' := [some (pv_o 5 0), some (pv_i set), some (pv_i (nI a9)), some (pv_i (pz_it (ms_gs h.2.1 set a9) (k1 + 1) 0)), some (pv_i (nI (k1 + 1))), none]) (show pa_lle [some (pv_o 5 0), some (pv_i set), some (pv_i (nI a9)), some (pv_i (pz_it (ms_gs h.2.1 set a9) (k1 + 1) 0)), some (pv_i (nI (k1 + 1))), none] [some (pv_o 5 0), some (pv_i set), some (pv_i (nI a9)), some (pv_i (pz_it (ms_gs h.2.1 set a9) (k1 + 1) 0)), some (pv_i (nI (k1 + 1))), some (pv_i (ms_gv k1))] by simp [pa_lle]) ?_
            exact ih4 (k1 + 1) (by omega) (by omega)
          refine pr_aload_n (pc := 46) C dX4_ground_46 rfl ?_
          refine pr_iload_n (pc := 47) C dX4_ground_47 rfl ?_
          refine pr_iload_n (pc := 48) C dX4_ground_48 rfl ?_
          refine pr_iload (pc := 49) C dX4_ground_49 rfl ?_
          refine pr_iload (pc := 51) C dX4_ground_51 rfl ?_
          refine pr_iconst (pc := 53) (v := 4) C dX4_ground_53 (by decide) ?_
          refine pr_iremN (pc := 54) C dX4_ground_54 k1 4 rfl rfl (by omega) (by omega) (by omega) ?_
          refine pr_vP (pc := 55) C (c_X4_isGround G _ (h.1, (pa_us h.2.1 235 0 (0 : Int32)), h.2.2) T a9 (k1 % 4) set (ms_gv k1) (mw_S_us hM (by decide)) ha (by omega) (ms_gv_0 _)) wv_X4_259 rfl rfl (by decide) (by decide) (pl_5 _) (Nat.le_of_ble_eq_true rfl) (by omega) (by omega) dX4_ground_55 ?_
          refine pr_ifb_eq (pc := 58) C 66 dX4_ground_58 (by decide) (fun c_58 => ?_) (fun c_58 => ?_)
          · refine pr_iload_n (pc := 66) C dX4_ground_66 rfl ?_
            exact pr_eqi (show (pz_it (ms_gs h.2.1 set a9) k1 0) = (pz_it (ms_gs h.2.1 set a9) (k1 + 1) 0) from (by rw [pz_it_s, ms_gs]; have z : ms_gr h.2.1 set a9 (ms_gv k1) (k1 % 4) = false := c_58; simp [z])) j67_6
          · refine pr_iload (pc := 61) C dX4_ground_61 rfl ?_
            refine pr_goto (pc := 63) C 67 dX4_ground_63 (by decide) ?_
            exact pr_eqi (show (ms_gv k1) = (pz_it (ms_gs h.2.1 set a9) (k1 + 1) 0) from (by rw [pz_it_s, ms_gs]; have z : ms_gr h.2.1 set a9 (ms_gv k1) (k1 % 4) = true := c_58; simp [z])) j67_6
        refine pr_iload (pc := 33) C dX4_ground_33 rfl ?_
        refine pr_iconst (pc := 35) (v := 4) C dX4_ground_35 (by decide) ?_
        refine pr_icmp_geN (pc := 36) C 43 k1 4 dX4_ground_36 (by decide) rfl rfl (by omega) (by omega) (fun c_36 => ?_) (fun c_36 => ?_)
        · refine pr_iconst (pc := 43) (v := 1) C dX4_ground_43 (by decide) ?_
          exact pr_eqi (show (1 : Int32) = (ms_gv k1) from (by simp [-Int32.not_le, -Int32.not_lt, pz_b, pz_lt, ms_gv, c_30, c_36])) j44_5
        · refine pr_iconst (pc := 39) (v := 2) C dX4_ground_39 (by decide) ?_
          refine pr_goto (pc := 40) C 44 dX4_ground_40 (by decide) ?_
          exact pr_eqi (show (2 : Int32) = (ms_gv k1) from (by simp [-Int32.not_le, -Int32.not_lt, pz_b, pz_lt, ms_gv, c_30, c_36])) j44_5
  exact lp2 (8 + 1) 0 (by omega) (by omega)

set_option maxRecDepth 100000 in
set_option maxHeartbeats 2000000 in
theorem c_X4_groundN (G : pa_G) (l : Launch) (h : pa_H) (set a9 : Int32) (hn : ((ms_in a9 0 9) && (ms_in set 1 15) && true) = false) : pa_MR G l mX4_ground 5 [pv_o 5 0, pv_i set, pv_i a9] h (h.1, pa_us h.2.1 235 0 (ms_thr (ms_in a9 0 9) (ms_in set 1 15) true), h.2.2) (pv_i 0) := by
  refine pa_go l (by decide) (by simp [pa_c1l, pa_c1]) (fun _ => rfl) fun x C E el ea => ?_
  subst el
  show pa_w G x 6 h 0 0 0 [some (pv_o 5 0), some (pv_i set), some (pv_i a9), none, none, none] []
  refine pr_aload_n (pc := 0) C dX4_ground_0 rfl ?_
  refine pr_iload_n (pc := 1) C dX4_ground_1 rfl ?_
  refine pr_sP (pc := 2) C (c_X4_isAtom G _ h a9) ws_X4_118 rfl rfl (by decide) (Nat.le_of_ble_eq_true rfl) (by omega) (by omega) dX4_ground_2 ?_
  refine pr_iload_n (pc := 5) C dX4_ground_5 rfl ?_
  refine pr_iconst (pc := 6) (v := 1) C dX4_ground_6 (by decide) ?_
  refine pr_bipush (pc := 7) (v := 15) C dX4_ground_7 (by decide) ?_
  refine pr_sP (pc := 9) C (c_X4_in G _ h set (1 : Int32) (15 : Int32)) ws_X4_102 rfl rfl (by decide) (Nat.le_of_ble_eq_true rfl) (by omega) (by omega) dX4_ground_9 ?_
  refine pr_iconst (pc := 12) (v := 1) C dX4_ground_12 (by decide) ?_
  refine pr_vR (pc := 13) C (c_X4_goesN G _ h (ms_in a9 0 9) (ms_in set (1 : Int32) (15 : Int32)) true hn) wv_X4_110 rfl rfl (by decide) (by decide) (pl_5 _) (Nat.le_of_ble_eq_true rfl) (by omega) (by omega) dX4_ground_13 ?_
  refine pr_if_ne (pc := 16) C 21 dX4_ground_16 (by decide) (fun c_16 => absurd c_16 (by decide)) (fun _ => ?_)
  refine pr_iconst (pc := 19) (v := 0) C dX4_ground_19 (by decide) ?_
  exact pr_iret (pc := 20) C E (Or.inl rfl) (by omega) (by omega) ⟨rfl, rfl⟩ dX4_ground_20

def ms_que (S : Nat → Nat → Int32) (q w : Nat) : Int32 := if w = 0 then S 218 q else if w = 1 then ms_one (S 222 q) else if w = 2 then S 220 q else nI q
set_option maxRecDepth 100000 in
set_option maxHeartbeats 2000000 in
theorem c_X4_questionY (G : pa_G) (l : Launch) (h : pa_H) (Q p q v9 : Nat) (hQ : h.2.1 231 0 = nI Q) (hQ6 : Q ≤ 6) (hp : p < Q) (hq : h.2.1 232 (Q - 1 - p) = nI q) (hq1 : q < 100) (hv : v9 < 4) : pa_MR G l mX4_question 5 [pv_o 5 0, pv_i (nI p), pv_i (nI v9)] h (h.1, (pa_us h.2.1 235 0 0), h.2.2) (pv_i (ms_que h.2.1 q v9)) := by
  refine pa_go l (by decide) (by simp [pa_c1l, pa_c1]) (fun _ => rfl) fun x C E el ea => ?_
  subst el
  show pa_w G x 4 h 0 0 0 [some (pv_o 5 0), some (pv_i (nI p)), some (pv_i (nI v9)), none] []
  refine pr_aload_n (pc := 0) C dX4_question_0 rfl ?_
  refine pr_iload_n (pc := 1) C dX4_question_1 rfl ?_
  refine pr_iconst (pc := 2) (v := 0) C dX4_question_2 (by decide) ?_
  refine pr_aload_n (pc := 3) C dX4_question_3 rfl ?_
  refine pr_getm (pc := 4) C 231 wf_X4_141 rfl (by decide) (pl_5 _) dX4_question_4 ?_
  refine pr_iconst (pc := 7) (v := 1) C dX4_question_7 (by decide) ?_
  refine pr_isub (pc := 8) C dX4_question_8 ?_
  refine pr_sP (pc := 9) C (c_X4_in G _ h (nI p) (0 : Int32) ((h.2.1 231 0) - (1 : Int32))) ws_X4_102 rfl rfl (by decide) (Nat.le_of_ble_eq_true rfl) (by omega) (by omega) dX4_question_9 ?_
  refine pr_iload_n (pc := 12) C dX4_question_12 rfl ?_
  refine pr_iconst (pc := 13) (v := 0) C dX4_question_13 (by decide) ?_
  refine pr_iconst (pc := 14) (v := 3) C dX4_question_14 (by decide) ?_
  refine pr_sP (pc := 15) C (c_X4_in G _ h (nI v9) (0 : Int32) (3 : Int32)) ws_X4_102 rfl rfl (by decide) (Nat.le_of_ble_eq_true rfl) (by omega) (by omega) dX4_question_15 ?_
  refine pr_iconst (pc := 18) (v := 1) C dX4_question_18 (by decide) ?_
  refine pr_vR (pc := 19) C (c_X4_goesY G _ h (ms_in (nI p) (0 : Int32) ((h.2.1 231 0) - (1 : Int32))) (ms_in (nI v9) (0 : Int32) (3 : Int32)) true (hQ ▸ ms_inT hp (by omega)) (ms_in4 hv) rfl) wv_X4_110 rfl rfl (by decide) (by decide) (pl_5 _) (Nat.le_of_ble_eq_true rfl) (by omega) (by omega) dX4_question_19 ?_
  refine pr_if_ne (pc := 22) C 27 dX4_question_22 (by decide) (fun _ => ?_) (fun c_22 => absurd c_22 (by decide))
  refine pr_aload_n (pc := 27) C dX4_question_27 rfl ?_
  refine pr_geta (pc := 28) C 232 332 wf_X4_86 rfl rfl (by decide) (pl_5 _) dX4_question_28 ?_
  refine pr_aload_n (pc := 31) C dX4_question_31 rfl ?_
  refine pr_getm (pc := 32) C 231 wf_X4_141 rfl (by decide) (pl_5 _) dX4_question_32 ?_
  refine pr_eqi (v := h.2.1 231 0) rfl ?_
  refine pr_eqi hQ ?_
  refine pr_iconst (pc := 35) (v := 1) C dX4_question_35 (by decide) ?_
  refine pr_isubN (pc := 36) C dX4_question_36 Q 1 rfl rfl (by omega) ?_
  refine pr_iload_n (pc := 37) C dX4_question_37 rfl ?_
  refine pr_isubN (pc := 38) C dX4_question_38 (Q - 1) p rfl rfl (by omega) ?_
  refine pr_aldm (pc := 39) (n := 6) C 232 ((Q - 1) - p) rfl rfl rfl (pl_r5 (by decide)) rfl (by omega) (by decide) dX4_question_39 ?_
  refine pr_eqi (v := h.2.1 232 ((Q - 1) - p)) rfl ?_
  refine pr_eqi hq ?_
  refine pr_istore_n (pc := 40) C dX4_question_40 (by decide) ?_
  have j86_1 : pa_w G x 4 (h.1, (pa_us h.2.1 235 0 (0 : Int32)), h.2.2) 0 0 86 [some (pv_o 5 0), some (pv_i (nI p)), some (pv_i (nI v9)), some (pv_i (nI q))] [pv_i (ms_que h.2.1 q v9)] := by
    exact pr_iret (pc := 86) C E (Or.inl rfl) (by omega) (by omega) ⟨rfl, rfl⟩ dX4_question_86
  refine pr_iload_n (pc := 41) C dX4_question_41 rfl ?_
  refine pr_if_neN (pc := 42) C 54 v9 dX4_question_42 (by decide) rfl (by omega) (fun c_42 => ?_) (fun c_42 => ?_)
  · refine pr_iload_n (pc := 54) C dX4_question_54 rfl ?_
    refine pr_iconst (pc := 55) (v := 1) C dX4_question_55 (by decide) ?_
    refine pr_icmp_neN (pc := 56) C 71 v9 1 dX4_question_56 (by decide) rfl rfl (by omega) (by omega) (fun c_56 => ?_) (fun c_56 => ?_)
    · refine pr_iload_n (pc := 71) C dX4_question_71 rfl ?_
      refine pr_iconst (pc := 72) (v := 2) C dX4_question_72 (by decide) ?_
      refine pr_icmp_neN (pc := 73) C 85 v9 2 dX4_question_73 (by decide) rfl rfl (by omega) (by omega) (fun c_73 => ?_) (fun c_73 => ?_)
      · refine pr_iload_n (pc := 85) C dX4_question_85 rfl ?_
        exact pr_eqi (show (nI q) = (ms_que h.2.1 q v9) from (by simp [-Int32.not_le, -Int32.not_lt, pz_b, pz_lt, ms_que, eq_false c_42, eq_false c_56, eq_false c_73])) j86_1
      · refine pr_aload_n (pc := 76) C dX4_question_76 rfl ?_
        refine pr_geta (pc := 77) C 220 320 wf_X4_53 rfl rfl (by decide) (pl_5 _) dX4_question_77 ?_
        refine pr_iload_n (pc := 80) C dX4_question_80 rfl ?_
        refine pr_aldm (pc := 81) (n := 100) C 220 q rfl rfl rfl (pl_r5 (by decide)) rfl (by omega) (by decide) dX4_question_81 ?_
        refine pr_eqi (v := h.2.1 220 q) rfl ?_
        refine pr_goto (pc := 82) C 86 dX4_question_82 (by decide) ?_
        exact pr_eqi (show (h.2.1 220 q) = (ms_que h.2.1 q v9) from (by simp [-Int32.not_le, -Int32.not_lt, pz_b, pz_lt, ms_que, eq_false c_42, eq_false c_56, eq_true c_73])) j86_1
    · refine pr_aload_n (pc := 59) C dX4_question_59 rfl ?_
      refine pr_geta (pc := 60) C 222 322 wf_X4_59 rfl rfl (by decide) (pl_5 _) dX4_question_60 ?_
      refine pr_iload_n (pc := 63) C dX4_question_63 rfl ?_
      refine pr_aldm (pc := 64) (n := 100) C 222 q rfl rfl rfl (pl_r5 (by decide)) rfl (by omega) (by decide) dX4_question_64 ?_
      refine pr_eqi (v := h.2.1 222 q) rfl ?_
      refine pr_sP (pc := 65) C (c_X4_one G _ (h.1, (pa_us h.2.1 235 0 (0 : Int32)), h.2.2) (h.2.1 222 q)) ws_X4_137 rfl rfl (by decide) (Nat.le_of_ble_eq_true rfl) (by omega) (by omega) dX4_question_65 ?_
      refine pr_goto (pc := 68) C 86 dX4_question_68 (by decide) ?_
      exact pr_eqi (show (ms_one (h.2.1 222 q)) = (ms_que h.2.1 q v9) from (by simp [-Int32.not_le, -Int32.not_lt, pz_b, pz_lt, ms_que, eq_false c_42, eq_true c_56])) j86_1
  · refine pr_aload_n (pc := 45) C dX4_question_45 rfl ?_
    refine pr_geta (pc := 46) C 218 318 wf_X4_47 rfl rfl (by decide) (pl_5 _) dX4_question_46 ?_
    refine pr_iload_n (pc := 49) C dX4_question_49 rfl ?_
    refine pr_aldm (pc := 50) (n := 100) C 218 q rfl rfl rfl (pl_r5 (by decide)) rfl (by omega) (by decide) dX4_question_50 ?_
    refine pr_eqi (v := h.2.1 218 q) rfl ?_
    refine pr_goto (pc := 51) C 86 dX4_question_51 (by decide) ?_
    exact pr_eqi (show (h.2.1 218 q) = (ms_que h.2.1 q v9) from (by simp [-Int32.not_le, -Int32.not_lt, pz_b, pz_lt, ms_que, eq_true c_42])) j86_1

set_option maxRecDepth 100000 in
set_option maxHeartbeats 2000000 in
theorem c_X4_questionN (G : pa_G) (l : Launch) (h : pa_H) (v u : Int32) (hn : ((ms_in v 0 (h.2.1 231 0 - 1)) && (ms_in u 0 3) && true) = false) : pa_MR G l mX4_question 5 [pv_o 5 0, pv_i v, pv_i u] h (h.1, pa_us h.2.1 235 0 (ms_thr (ms_in v 0 (h.2.1 231 0 - 1)) (ms_in u 0 3) true), h.2.2) (pv_i 0) := by
  refine pa_go l (by decide) (by simp [pa_c1l, pa_c1]) (fun _ => rfl) fun x C E el ea => ?_
  subst el
  show pa_w G x 4 h 0 0 0 [some (pv_o 5 0), some (pv_i v), some (pv_i u), none] []
  refine pr_aload_n (pc := 0) C dX4_question_0 rfl ?_
  refine pr_iload_n (pc := 1) C dX4_question_1 rfl ?_
  refine pr_iconst (pc := 2) (v := 0) C dX4_question_2 (by decide) ?_
  refine pr_aload_n (pc := 3) C dX4_question_3 rfl ?_
  refine pr_getm (pc := 4) C 231 wf_X4_141 rfl (by decide) (pl_5 _) dX4_question_4 ?_
  refine pr_iconst (pc := 7) (v := 1) C dX4_question_7 (by decide) ?_
  refine pr_isub (pc := 8) C dX4_question_8 ?_
  refine pr_sP (pc := 9) C (c_X4_in G _ h v (0 : Int32) ((h.2.1 231 0) - (1 : Int32))) ws_X4_102 rfl rfl (by decide) (Nat.le_of_ble_eq_true rfl) (by omega) (by omega) dX4_question_9 ?_
  refine pr_iload_n (pc := 12) C dX4_question_12 rfl ?_
  refine pr_iconst (pc := 13) (v := 0) C dX4_question_13 (by decide) ?_
  refine pr_iconst (pc := 14) (v := 3) C dX4_question_14 (by decide) ?_
  refine pr_sP (pc := 15) C (c_X4_in G _ h u (0 : Int32) (3 : Int32)) ws_X4_102 rfl rfl (by decide) (Nat.le_of_ble_eq_true rfl) (by omega) (by omega) dX4_question_15 ?_
  refine pr_iconst (pc := 18) (v := 1) C dX4_question_18 (by decide) ?_
  refine pr_vR (pc := 19) C (c_X4_goesN G _ h (ms_in v (0 : Int32) ((h.2.1 231 0) - (1 : Int32))) (ms_in u (0 : Int32) (3 : Int32)) true hn) wv_X4_110 rfl rfl (by decide) (by decide) (pl_5 _) (Nat.le_of_ble_eq_true rfl) (by omega) (by omega) dX4_question_19 ?_
  refine pr_if_ne (pc := 22) C 27 dX4_question_22 (by decide) (fun c_22 => absurd c_22 (by decide)) (fun _ => ?_)
  refine pr_iconst (pc := 25) (v := 0) C dX4_question_25 (by decide) ?_
  exact pr_iret (pc := 26) C E (Or.inl rfl) (by omega) (by omega) ⟨rfl, rfl⟩ dX4_question_26

def ms_qs (S : Nat → Nat → Int32) (s : Int32) (k : Nat) : Int32 := s + (if S 233 k ≠ 0 then 1 else 0)
def ms_quarrels (S : Nat → Nat → Int32) : Int32 := pz_it (ms_qs S) 160 0
def ms_mi (S : Nat → Nat → Int32) (s : Int32) (k : Nat) : Int32 := 31 * (31 * (31 * (31 * (31 * (31 * s + S 218 k) + S 219 k) + S 220 k) + S 221 k) + S 222 k) + S 224 k
def ms_minutes (S : Nat → Nat → Int32) (T : Nat) : Int32 := pz_it (ms_mi S) T 7
set_option maxRecDepth 100000 in
set_option maxHeartbeats 2000000 in
theorem c_X4_quarrels (G : pa_G) (l : Launch) (h : pa_H)  : pa_MR G l mX4_quarrels 5 [pv_o 5 0] h (h.1, (pa_us h.2.1 235 0 0), h.2.2) (pv_i (ms_quarrels h.2.1)) := by
  refine pa_go l (by decide) (by simp [pa_c1l, pa_c1]) (fun _ => rfl) fun x C E el ea => ?_
  subst el
  show pa_w G x 3 h 0 0 0 [some (pv_o 5 0), none, none] []
  refine pr_aload_n (pc := 0) C dX4_quarrels_0 rfl ?_
  refine pr_iconst (pc := 1) (v := 0) C dX4_quarrels_1 (by decide) ?_
  refine pr_putm (pc := 2) C 235 wp_X4_99 rfl (by decide) rfl (pl_5 _) dX4_quarrels_2 ?_
  refine pr_iconst (pc := 5) (v := 0) C dX4_quarrels_5 (by decide) ?_
  refine pr_istore_n (pc := 6) C dX4_quarrels_6 (by decide) ?_
  refine pr_iconst (pc := 7) (v := 0) C dX4_quarrels_7 (by decide) ?_
  refine pr_istore_n (pc := 8) C dX4_quarrels_8 (by decide) ?_
  have lp2 : ∀ (n3 k1 : Nat), k1 ≤ 160 → 160 < k1 + n3 → pa_w G x 3 (h.1, (pa_us h.2.1 235 0 (0 : Int32)), h.2.2) 0 0 9 [some (pv_o 5 0), some (pv_i (pz_it (ms_qs h.2.1) k1 0)), some (pv_i (nI k1))] [] := by
    intro n3
    induction n3 with
    | zero => intro k1 h1 h2; exact absurd h2 (by omega)
    | succ n3 ih4 =>
      intro k1 hk1_k1 hk2_k1
      refine pr_iload_n (pc := 9) C dX4_quarrels_9 rfl ?_
      refine pr_sipush (pc := 10) (v := 160) C dX4_quarrels_10 (by decide) ?_
      refine pr_icmp_geN (pc := 13) C 39 k1 160 dX4_quarrels_13 (by decide) rfl rfl (by omega) (by omega) (fun c_13 => ?_) (fun c_13 => ?_)
      · obtain rfl : 160 = k1 := by omega
        refine pr_iload_n (pc := 39) C dX4_quarrels_39 rfl ?_
        exact pr_iret (pc := 40) C E (Or.inl rfl) (by omega) (by omega) ⟨rfl, rfl⟩ dX4_quarrels_40
      · refine pr_iload_n (pc := 16) C dX4_quarrels_16 rfl ?_
        have j31_5 : pa_w G x 3 (h.1, (pa_us h.2.1 235 0 (0 : Int32)), h.2.2) 0 0 31 [some (pv_o 5 0), some (pv_i (pz_it (ms_qs h.2.1) k1 0)), some (pv_i (nI k1))] [pv_i (if h.2.1 233 k1 ≠ 0 then 1 else 0), pv_i (pz_it (ms_qs h.2.1) k1 0)] := by
          refine pr_iadd (pc := 31) C dX4_quarrels_31 ?_
          refine pr_istore_n (pc := 32) C dX4_quarrels_32 (by decide) ?_
          refine pr_iincN (pc := 33) C dX4_quarrels_33 rfl k1 1 rfl rfl (by decide) ?_
          refine pr_goto (pc := 36) C 9 dX4_quarrels_36 (by decide) ?_
          exact ih4 (k1 + 1) (by omega) (by omega)
        refine pr_aload_n (pc := 17) C dX4_quarrels_17 rfl ?_
        refine pr_geta (pc := 18) C 233 333 wf_X4_89 rfl rfl (by decide) (pl_5 _) dX4_quarrels_18 ?_
        refine pr_iload_n (pc := 21) C dX4_quarrels_21 rfl ?_
        refine pr_aldb (pc := 22) (n := 160) C 233 k1 rfl rfl rfl (pl_r5 (by decide)) rfl (by omega) (by decide) dX4_quarrels_22 ?_
        refine pr_eqi (v := h.2.1 233 k1) rfl ?_
        refine pr_if_eq (pc := 23) C 30 dX4_quarrels_23 (by decide) (fun c_23 => ?_) (fun c_23 => ?_)
        · refine pr_iconst (pc := 30) (v := 0) C dX4_quarrels_30 (by decide) ?_
          exact pr_eqi (show (0 : Int32) = (if h.2.1 233 k1 ≠ 0 then 1 else 0) from (by simp [-Int32.not_le, -Int32.not_lt, pz_b, pz_lt, c_13, eq_true c_23])) j31_5
        · refine pr_iconst (pc := 26) (v := 1) C dX4_quarrels_26 (by decide) ?_
          refine pr_goto (pc := 27) C 31 dX4_quarrels_27 (by decide) ?_
          exact pr_eqi (show (1 : Int32) = (if h.2.1 233 k1 ≠ 0 then 1 else 0) from (by simp [-Int32.not_le, -Int32.not_lt, pz_b, pz_lt, c_13, eq_false c_23])) j31_5
  exact lp2 (160 + 1) 0 (by omega) (by omega)

set_option maxRecDepth 100000 in
set_option maxHeartbeats 2000000 in
theorem c_X4_minutes (G : pa_G) (l : Launch) (h : pa_H) (T : Nat) (hT : h.2.1 217 0 = nI T) (hT1 : T ≤ 100) : pa_MR G l mX4_minutes 5 [pv_o 5 0] h (h.1, (pa_us h.2.1 235 0 0), h.2.2) (pv_i (ms_minutes h.2.1 T)) := by
  refine pa_go l (by decide) (by simp [pa_c1l, pa_c1]) (fun _ => rfl) fun x C E el ea => ?_
  subst el
  show pa_w G x 3 h 0 0 0 [some (pv_o 5 0), none, none] []
  refine pr_aload_n (pc := 0) C dX4_minutes_0 rfl ?_
  refine pr_iconst (pc := 1) (v := 0) C dX4_minutes_1 (by decide) ?_
  refine pr_putm (pc := 2) C 235 wp_X4_99 rfl (by decide) rfl (pl_5 _) dX4_minutes_2 ?_
  refine pr_bipush (pc := 5) (v := 7) C dX4_minutes_5 (by decide) ?_
  refine pr_istore_n (pc := 7) C dX4_minutes_7 (by decide) ?_
  refine pr_iconst (pc := 8) (v := 0) C dX4_minutes_8 (by decide) ?_
  refine pr_istore_n (pc := 9) C dX4_minutes_9 (by decide) ?_
  have lp2 : ∀ (n3 k1 : Nat), k1 ≤ T → T < k1 + n3 → pa_w G x 3 (h.1, (pa_us h.2.1 235 0 (0 : Int32)), h.2.2) 0 0 10 [some (pv_o 5 0), some (pv_i (pz_it (ms_mi h.2.1) k1 7)), some (pv_i (nI k1))] [] := by
    intro n3
    induction n3 with
    | zero => intro k1 h1 h2; exact absurd h2 (by omega)
    | succ n3 ih4 =>
      intro k1 hk1_k1 hk2_k1
      refine pr_iload_n (pc := 10) C dX4_minutes_10 rfl ?_
      refine pr_aload_n (pc := 11) C dX4_minutes_11 rfl ?_
      refine pr_getm (pc := 12) C 217 wf_X4_131 rfl (by decide) (pl_5 _) dX4_minutes_12 ?_
      refine pr_eqi (v := h.2.1 217 0) rfl ?_
      refine pr_eqi hT ?_
      refine pr_icmp_geN (pc := 15) C 96 k1 T dX4_minutes_15 (by decide) rfl rfl (by omega) (by omega) (fun c_15 => ?_) (fun c_15 => ?_)
      · obtain rfl : T = k1 := by omega
        refine pr_iload_n (pc := 96) C dX4_minutes_96 rfl ?_
        exact pr_iret (pc := 97) C E (Or.inl rfl) (by omega) (by omega) ⟨rfl, rfl⟩ dX4_minutes_97
      · refine pr_bipush (pc := 18) (v := 31) C dX4_minutes_18 (by decide) ?_
        refine pr_iload_n (pc := 20) C dX4_minutes_20 rfl ?_
        refine pr_imul (pc := 21) C dX4_minutes_21 ?_
        refine pr_aload_n (pc := 22) C dX4_minutes_22 rfl ?_
        refine pr_geta (pc := 23) C 218 318 wf_X4_47 rfl rfl (by decide) (pl_5 _) dX4_minutes_23 ?_
        refine pr_iload_n (pc := 26) C dX4_minutes_26 rfl ?_
        refine pr_aldm (pc := 27) (n := 100) C 218 k1 rfl rfl rfl (pl_r5 (by decide)) rfl (by omega) (by decide) dX4_minutes_27 ?_
        refine pr_eqi (v := h.2.1 218 k1) rfl ?_
        refine pr_iadd (pc := 28) C dX4_minutes_28 ?_
        refine pr_istore_n (pc := 29) C dX4_minutes_29 (by decide) ?_
        refine pr_bipush (pc := 30) (v := 31) C dX4_minutes_30 (by decide) ?_
        refine pr_iload_n (pc := 32) C dX4_minutes_32 rfl ?_
        refine pr_imul (pc := 33) C dX4_minutes_33 ?_
        refine pr_aload_n (pc := 34) C dX4_minutes_34 rfl ?_
        refine pr_geta (pc := 35) C 219 319 wf_X4_50 rfl rfl (by decide) (pl_5 _) dX4_minutes_35 ?_
        refine pr_iload_n (pc := 38) C dX4_minutes_38 rfl ?_
        refine pr_aldm (pc := 39) (n := 100) C 219 k1 rfl rfl rfl (pl_r5 (by decide)) rfl (by omega) (by decide) dX4_minutes_39 ?_
        refine pr_eqi (v := h.2.1 219 k1) rfl ?_
        refine pr_iadd (pc := 40) C dX4_minutes_40 ?_
        refine pr_istore_n (pc := 41) C dX4_minutes_41 (by decide) ?_
        refine pr_bipush (pc := 42) (v := 31) C dX4_minutes_42 (by decide) ?_
        refine pr_iload_n (pc := 44) C dX4_minutes_44 rfl ?_
        refine pr_imul (pc := 45) C dX4_minutes_45 ?_
        refine pr_aload_n (pc := 46) C dX4_minutes_46 rfl ?_
        refine pr_geta (pc := 47) C 220 320 wf_X4_53 rfl rfl (by decide) (pl_5 _) dX4_minutes_47 ?_
        refine pr_iload_n (pc := 50) C dX4_minutes_50 rfl ?_
        refine pr_aldm (pc := 51) (n := 100) C 220 k1 rfl rfl rfl (pl_r5 (by decide)) rfl (by omega) (by decide) dX4_minutes_51 ?_
        refine pr_eqi (v := h.2.1 220 k1) rfl ?_
        refine pr_iadd (pc := 52) C dX4_minutes_52 ?_
        refine pr_istore_n (pc := 53) C dX4_minutes_53 (by decide) ?_
        refine pr_bipush (pc := 54) (v := 31) C dX4_minutes_54 (by decide) ?_
        refine pr_iload_n (pc := 56) C dX4_minutes_56 rfl ?_
        refine pr_imul (pc := 57) C dX4_minutes_57 ?_
        refine pr_aload_n (pc := 58) C dX4_minutes_58 rfl ?_
        refine pr_geta (pc := 59) C 221 321 wf_X4_56 rfl rfl (by decide) (pl_5 _) dX4_minutes_59 ?_
        refine pr_iload_n (pc := 62) C dX4_minutes_62 rfl ?_
        refine pr_aldm (pc := 63) (n := 100) C 221 k1 rfl rfl rfl (pl_r5 (by decide)) rfl (by omega) (by decide) dX4_minutes_63 ?_
        refine pr_eqi (v := h.2.1 221 k1) rfl ?_
        refine pr_iadd (pc := 64) C dX4_minutes_64 ?_
        refine pr_istore_n (pc := 65) C dX4_minutes_65 (by decide) ?_
        refine pr_bipush (pc := 66) (v := 31) C dX4_minutes_66 (by decide) ?_
        refine pr_iload_n (pc := 68) C dX4_minutes_68 rfl ?_
        refine pr_imul (pc := 69) C dX4_minutes_69 ?_
        refine pr_aload_n (pc := 70) C dX4_minutes_70 rfl ?_
        refine pr_geta (pc := 71) C 222 322 wf_X4_59 rfl rfl (by decide) (pl_5 _) dX4_minutes_71 ?_
        refine pr_iload_n (pc := 74) C dX4_minutes_74 rfl ?_
        refine pr_aldm (pc := 75) (n := 100) C 222 k1 rfl rfl rfl (pl_r5 (by decide)) rfl (by omega) (by decide) dX4_minutes_75 ?_
        refine pr_eqi (v := h.2.1 222 k1) rfl ?_
        refine pr_iadd (pc := 76) C dX4_minutes_76 ?_
        refine pr_istore_n (pc := 77) C dX4_minutes_77 (by decide) ?_
        refine pr_bipush (pc := 78) (v := 31) C dX4_minutes_78 (by decide) ?_
        refine pr_iload_n (pc := 80) C dX4_minutes_80 rfl ?_
        refine pr_imul (pc := 81) C dX4_minutes_81 ?_
        refine pr_aload_n (pc := 82) C dX4_minutes_82 rfl ?_
        refine pr_geta (pc := 83) C 224 324 wf_X4_65 rfl rfl (by decide) (pl_5 _) dX4_minutes_83 ?_
        refine pr_iload_n (pc := 86) C dX4_minutes_86 rfl ?_
        refine pr_aldm (pc := 87) (n := 100) C 224 k1 rfl rfl rfl (pl_r5 (by decide)) rfl (by omega) (by decide) dX4_minutes_87 ?_
        refine pr_eqi (v := h.2.1 224 k1) rfl ?_
        refine pr_iadd (pc := 88) C dX4_minutes_88 ?_
        refine pr_istore_n (pc := 89) C dX4_minutes_89 (by decide) ?_
        refine pr_iincN (pc := 90) C dX4_minutes_90 rfl k1 1 rfl rfl (by decide) ?_
        refine pr_goto (pc := 93) C 10 dX4_minutes_93 (by decide) ?_
        exact ih4 (k1 + 1) (by omega) (by omega)
  exact lp2 (T + 1) 0 (by omega) (by omega)

set_option maxRecDepth 100000 in
set_option maxHeartbeats 2000000 in
theorem c_X4_canY (G : pa_G) (l : Launch) (h : pa_H) (Q q0 sp av : Nat) (of how set fr : Int32) (hs : sp < 4) (ha : av < 16) (hof : mw_of av of) (hw : mw_Q h.2.1 Q q0) (ht : ms_told (h.2.1 217 0) (nI sp) (nI av) of how set fr = true) : pa_MR G l mX4_can 6 [pv_o 5 0, pv_i (nI sp), pv_i (nI av), pv_i of, pv_i how, pv_i set, pv_i fr] h (h.1, (pa_us h.2.1 235 0 0), h.2.2) (pv_i (pz_b (ms_canSay (pa_us h.2.1 235 0 0) sp av of how set))) := by
  refine pa_go l (by decide) (by simp [pa_c1l, pa_c1]) (fun _ => rfl) fun x C E el ea => ?_
  subst el
  show pa_w G x 7 h 0 0 0 [some (pv_o 5 0), some (pv_i (nI sp)), some (pv_i (nI av)), some (pv_i of), some (pv_i how), some (pv_i set), some (pv_i fr)] []
  refine pr_aload_n (pc := 0) C dX4_can_0 rfl ?_
  refine pr_iload_n (pc := 1) C dX4_can_1 rfl ?_
  refine pr_sP (pc := 2) C (c_X4_isSpeaker G _ h (nI sp)) ws_X4_106 rfl rfl (by decide) (Nat.le_of_ble_eq_true rfl) (by omega) (by omega) dX4_can_2 ?_
  have j33_1 : pa_w G x 7 h 0 0 33 [some (pv_o 5 0), some (pv_i (nI sp)), some (pv_i (nI av)), some (pv_i of), some (pv_i how), some (pv_i set), some (pv_i fr)] [pv_i (pz_b (ms_in (nI sp) 0 3 && ms_told (h.2.1 217 0) (nI sp) (nI av) of how set fr)), pv_i (pz_b (ms_in (nI sp) 0 3)), pv_o 5 0] := by
    refine pr_iconst (pc := 33) (v := 1) C dX4_can_33 (by decide) ?_
    refine pr_vR (pc := 34) C (c_X4_goesY G _ h (ms_in (nI sp) 0 3) (ms_in (nI sp) 0 3 && ms_told (h.2.1 217 0) (nI sp) (nI av) of how set fr) true (ms_in4 hs) (by simp [ms_in4 hs, ht]) rfl) wv_X4_110 rfl rfl (by decide) (by decide) (pl_5 _) (Nat.le_of_ble_eq_true rfl) (by omega) (by omega) dX4_can_34 ?_
    refine pr_if_eq (pc := 37) C 58 dX4_can_37 (by decide) (fun c_37 => absurd c_37 (by decide)) (fun _ => ?_)
    refine pr_aload_n (pc := 40) C dX4_can_40 rfl ?_
    refine pr_iload_n (pc := 41) C dX4_can_41 rfl ?_
    refine pr_iload_n (pc := 42) C dX4_can_42 rfl ?_
    refine pr_iload_n (pc := 43) C dX4_can_43 rfl ?_
    refine pr_iload (pc := 44) C dX4_can_44 rfl ?_
    refine pr_iload (pc := 46) C dX4_can_46 rfl ?_
    refine pr_vP (pc := 48) C (c_X4_canSay G _ (h.1, (pa_us h.2.1 235 0 (0 : Int32)), h.2.2) sp av Q q0 of how set (by first | assumption | omega) (by first | assumption | omega) hof hw) wv_X4_171 rfl rfl (by decide) (by decide) (pl_5 _) (Nat.le_of_ble_eq_true rfl) (by omega) (by omega) dX4_can_48 ?_
    refine pr_ifb_eq (pc := 51) C 58 dX4_can_51 (by decide) (fun c_51 => ?_) (fun c_51 => ?_)
    · refine pr_iconst (pc := 58) (v := 0) C dX4_can_58 (by decide) ?_
      exact pr_iret (pc := 59) C E (Or.inr ⟨rfl, (by decide)⟩) (by omega) (by omega) ⟨(by simp [-Int32.not_le, -Int32.not_lt, pz_b, pz_lt, c_51]), rfl⟩ dX4_can_59
    · refine pr_iconst (pc := 54) (v := 1) C dX4_can_54 (by decide) ?_
      refine pr_goto (pc := 55) C 59 dX4_can_55 (by decide) ?_
      exact pr_iret (pc := 59) C E (Or.inr ⟨rfl, (by decide)⟩) (by omega) (by omega) ⟨(by simp [-Int32.not_le, -Int32.not_lt, pz_b, pz_lt, c_51]), rfl⟩ dX4_can_59
  refine pr_iload_n (pc := 5) C dX4_can_5 rfl ?_
  refine pr_sP (pc := 6) C (c_X4_isSpeaker G _ h (nI sp)) ws_X4_106 rfl rfl (by decide) (Nat.le_of_ble_eq_true rfl) (by omega) (by omega) dX4_can_6 ?_
  refine pr_ifb_eq (pc := 9) C 32 dX4_can_9 (by decide) (fun c_9 => ?_) (fun c_9 => ?_)
  · refine pr_iconst (pc := 32) (v := 0) C dX4_can_32 (by decide) ?_
    exact pr_eqi (show (0 : Int32) = (pz_b (ms_in (nI sp) 0 3 && ms_told (h.2.1 217 0) (nI sp) (nI av) of how set fr)) from (by simp [-Int32.not_le, -Int32.not_lt, pz_b, pz_lt, c_9])) j33_1
  · refine pr_aload_n (pc := 12) C dX4_can_12 rfl ?_
    refine pr_iload_n (pc := 13) C dX4_can_13 rfl ?_
    refine pr_iload_n (pc := 14) C dX4_can_14 rfl ?_
    refine pr_iload_n (pc := 15) C dX4_can_15 rfl ?_
    refine pr_iload (pc := 16) C dX4_can_16 rfl ?_
    refine pr_iload (pc := 18) C dX4_can_18 rfl ?_
    refine pr_iload (pc := 20) C dX4_can_20 rfl ?_
    refine pr_vP (pc := 22) C (c_X4_isTold G _ h (nI sp) (nI av) of how set fr) wv_X4_167 rfl rfl (by decide) (by decide) (pl_5 _) (Nat.le_of_ble_eq_true rfl) (by omega) (by omega) dX4_can_22 ?_
    refine pr_ifb_eq (pc := 25) C 32 dX4_can_25 (by decide) (fun c_25 => ?_) (fun c_25 => ?_)
    · refine pr_iconst (pc := 32) (v := 0) C dX4_can_32 (by decide) ?_
      exact pr_eqi (show (0 : Int32) = (pz_b (ms_in (nI sp) 0 3 && ms_told (h.2.1 217 0) (nI sp) (nI av) of how set fr)) from (by simp [-Int32.not_le, -Int32.not_lt, pz_b, pz_lt, c_9, c_25])) j33_1
    · refine pr_iconst (pc := 28) (v := 1) C dX4_can_28 (by decide) ?_
      refine pr_goto (pc := 29) C 33 dX4_can_29 (by decide) ?_
      exact pr_eqi (show (1 : Int32) = (pz_b (ms_in (nI sp) 0 3 && ms_told (h.2.1 217 0) (nI sp) (nI av) of how set fr)) from (by simp [-Int32.not_le, -Int32.not_lt, pz_b, pz_lt, c_9, c_25])) j33_1

set_option maxRecDepth 100000 in
set_option maxHeartbeats 2000000 in
theorem c_X4_canN (G : pa_G) (l : Launch) (h : pa_H) (sp its of how set fr : Int32) (hn : ((ms_in sp 0 3) && (ms_in sp 0 3 && ms_told (h.2.1 217 0) sp its of how set fr) && true) = false) : pa_MR G l mX4_can 6 [pv_o 5 0, pv_i sp, pv_i its, pv_i of, pv_i how, pv_i set, pv_i fr] h (h.1, pa_us h.2.1 235 0 (ms_thr (ms_in sp 0 3) (ms_in sp 0 3 && ms_told (h.2.1 217 0) sp its of how set fr) true), h.2.2) (pv_i 0) := by
  refine pa_go l (by decide) (by simp [pa_c1l, pa_c1]) (fun _ => rfl) fun x C E el ea => ?_
  subst el
  show pa_w G x 7 h 0 0 0 [some (pv_o 5 0), some (pv_i sp), some (pv_i its), some (pv_i of), some (pv_i how), some (pv_i set), some (pv_i fr)] []
  refine pr_aload_n (pc := 0) C dX4_can_0 rfl ?_
  refine pr_iload_n (pc := 1) C dX4_can_1 rfl ?_
  refine pr_sP (pc := 2) C (c_X4_isSpeaker G _ h sp) ws_X4_106 rfl rfl (by decide) (Nat.le_of_ble_eq_true rfl) (by omega) (by omega) dX4_can_2 ?_
  have j33_1 : pa_w G x 7 h 0 0 33 [some (pv_o 5 0), some (pv_i sp), some (pv_i its), some (pv_i of), some (pv_i how), some (pv_i set), some (pv_i fr)] [pv_i (pz_b (ms_in sp 0 3 && ms_told (h.2.1 217 0) sp its of how set fr)), pv_i (pz_b (ms_in sp 0 3)), pv_o 5 0] := by
    refine pr_iconst (pc := 33) (v := 1) C dX4_can_33 (by decide) ?_
    refine pr_vR (pc := 34) C (c_X4_goesN G _ h (ms_in sp 0 3) (ms_in sp 0 3 && ms_told (h.2.1 217 0) sp its of how set fr) true hn) wv_X4_110 rfl rfl (by decide) (by decide) (pl_5 _) (Nat.le_of_ble_eq_true rfl) (by omega) (by omega) dX4_can_34 ?_
    refine pr_if_eq (pc := 37) C 58 dX4_can_37 (by decide) (fun _ => ?_) (fun c_37 => absurd c_37 (by decide))
    refine pr_iconst (pc := 58) (v := 0) C dX4_can_58 (by decide) ?_
    exact pr_iret (pc := 59) C E (Or.inr ⟨rfl, (by decide)⟩) (by omega) (by omega) ⟨rfl, rfl⟩ dX4_can_59
  refine pr_iload_n (pc := 5) C dX4_can_5 rfl ?_
  refine pr_sP (pc := 6) C (c_X4_isSpeaker G _ h sp) ws_X4_106 rfl rfl (by decide) (Nat.le_of_ble_eq_true rfl) (by omega) (by omega) dX4_can_6 ?_
  refine pr_ifb_eq (pc := 9) C 32 dX4_can_9 (by decide) (fun c_9 => ?_) (fun c_9 => ?_)
  · refine pr_iconst (pc := 32) (v := 0) C dX4_can_32 (by decide) ?_
    exact pr_eqi (show (0 : Int32) = (pz_b (ms_in sp 0 3 && ms_told (h.2.1 217 0) sp its of how set fr)) from (by simp [-Int32.not_le, -Int32.not_lt, pz_b, pz_lt, c_9])) j33_1
  · refine pr_aload_n (pc := 12) C dX4_can_12 rfl ?_
    refine pr_iload_n (pc := 13) C dX4_can_13 rfl ?_
    refine pr_iload_n (pc := 14) C dX4_can_14 rfl ?_
    refine pr_iload_n (pc := 15) C dX4_can_15 rfl ?_
    refine pr_iload (pc := 16) C dX4_can_16 rfl ?_
    refine pr_iload (pc := 18) C dX4_can_18 rfl ?_
    refine pr_iload (pc := 20) C dX4_can_20 rfl ?_
    refine pr_vP (pc := 22) C (c_X4_isTold G _ h sp its of how set fr) wv_X4_167 rfl rfl (by decide) (by decide) (pl_5 _) (Nat.le_of_ble_eq_true rfl) (by omega) (by omega) dX4_can_22 ?_
    refine pr_ifb_eq (pc := 25) C 32 dX4_can_25 (by decide) (fun c_25 => ?_) (fun c_25 => ?_)
    · refine pr_iconst (pc := 32) (v := 0) C dX4_can_32 (by decide) ?_
      exact pr_eqi (show (0 : Int32) = (pz_b (ms_in sp 0 3 && ms_told (h.2.1 217 0) sp its of how set fr)) from (by simp [-Int32.not_le, -Int32.not_lt, pz_b, pz_lt, c_9, c_25])) j33_1
    · refine pr_iconst (pc := 28) (v := 1) C dX4_can_28 (by decide) ?_
      refine pr_goto (pc := 29) C 33 dX4_can_29 (by decide) ?_
      exact pr_eqi (show (1 : Int32) = (pz_b (ms_in sp 0 3 && ms_told (h.2.1 217 0) sp its of how set fr)) from (by simp [-Int32.not_le, -Int32.not_lt, pz_b, pz_lt, c_9, c_25])) j33_1

def ms_say (S : Nat → Nat → Int32) (T sp av : Nat) (of how set fr : Int32) : Nat → Nat → Int32 :=
  pa_us (pa_us (pa_us (pa_us (pa_us (pa_us (pa_us (pa_us (pa_us (pa_us S 218 T (nI sp)) 219 T (nI av)) 220 T of) 221 T how) 222 T set) 223 T fr) 225 T (-1)) 226 T (S 204 sp)) 230 sp (nI T)) 217 0 (nI (T + 1))
set_option maxRecDepth 100000 in
set_option maxHeartbeats 2000000 in
theorem c_X4_sayY (G : pa_G) (l : Launch) (h : pa_H) (T Q q0 sp av : Nat) (of how set fr : Int32) (hs : sp < 4) (ha : av < 16) (hof : mw_of av of) (hw : mw_Q h.2.1 Q q0) (ht : ms_told (h.2.1 217 0) (nI sp) (nI av) of how set fr = true) (hT : h.2.1 217 0 = nI T) (hT1 : T < 100) (hc : ms_canSay h.2.1 sp av of how set = true) : pa_MR G l mX4_say 6 [pv_o 5 0, pv_i (nI sp), pv_i (nI av), pv_i of, pv_i how, pv_i set, pv_i fr] h (h.1, ms_say (pa_us h.2.1 235 0 0) T sp av of how set fr, h.2.2) (pv_i (nI T)) := by
  refine pa_go l (by decide) (by simp [pa_c1l, pa_c1]) (fun _ => rfl) fun x C E el ea => ?_
  subst el
  show pa_w G x 8 h 0 0 0 [some (pv_o 5 0), some (pv_i (nI sp)), some (pv_i (nI av)), some (pv_i of), some (pv_i how), some (pv_i set), some (pv_i fr), none] []
  have j28_1 : pa_w G x 8 h 0 0 28 [some (pv_o 5 0), some (pv_i (nI sp)), some (pv_i (nI av)), some (pv_i of), some (pv_i how), some (pv_i set), some (pv_i fr), none] [pv_i (1 : Int32)] := by
    refine pr_istore (pc := 28) C dX4_say_28 (by decide) ?_
    refine pr_aload_n (pc := 30) C dX4_say_30 rfl ?_
    refine pr_iload_n (pc := 31) C dX4_say_31 rfl ?_
    refine pr_sP (pc := 32) C (c_X4_isSpeaker G _ h (nI sp)) ws_X4_106 rfl rfl (by decide) (Nat.le_of_ble_eq_true rfl) (by omega) (by omega) dX4_say_32 ?_
    refine pr_iload (pc := 35) C dX4_say_35 rfl ?_
    refine pr_iload (pc := 37) C dX4_say_37 rfl ?_
    refine pr_if_eq (pc := 39) C 60 dX4_say_39 (by decide) (fun c_39 => absurd c_39 (by decide)) (fun _ => ?_)
    have j61_2 : pa_w G x 8 h 0 0 61 [some (pv_o 5 0), some (pv_i (nI sp)), some (pv_i (nI av)), some (pv_i of), some (pv_i how), some (pv_i set), some (pv_i fr), some (pv_i (1 : Int32))] [pv_i (1 : Int32), pv_i (1 : Int32), pv_i (pz_b (ms_in (nI sp) 0 3)), pv_o 5 0] := by
      refine pr_vR (pc := 61) C (c_X4_goesY G _ h (ms_in (nI sp) 0 3) true true (ms_in4 hs) rfl rfl) wv_X4_110 rfl rfl (by decide) (by decide) (pl_5 _) (Nat.le_of_ble_eq_true rfl) (by omega) (by omega) dX4_say_61 ?_
      refine pr_if_ne (pc := 64) C 69 dX4_say_64 (by decide) (fun _ => ?_) (fun c_64 => absurd c_64 (by decide))
      refine pr_aload_n (pc := 69) C dX4_say_69 rfl ?_
      refine pr_geta (pc := 70) C 218 318 wf_X4_47 rfl rfl (by decide) (pl_5 _) dX4_say_70 ?_
      refine pr_aload_n (pc := 73) C dX4_say_73 rfl ?_
      refine pr_getm (pc := 74) C 217 wf_X4_131 rfl (by decide) (pl_5 _) dX4_say_74 ?_
      refine pr_eqi (v := h.2.1 217 0) rfl ?_
      refine pr_eqi hT ?_
      refine pr_iload_n (pc := 77) C dX4_say_77 rfl ?_
      refine pr_astm (pc := 78) (n := 100) C 218 T rfl (by decide) rfl rfl (pl_r5 (by decide)) rfl (by omega) (by decide) dX4_say_78 ?_
      refine pr_aload_n (pc := 79) C dX4_say_79 rfl ?_
      refine pr_geta (pc := 80) C 219 319 wf_X4_50 rfl rfl (by decide) (pl_5 _) dX4_say_80 ?_
      refine pr_aload_n (pc := 83) C dX4_say_83 rfl ?_
      refine pr_getm (pc := 84) C 217 wf_X4_131 rfl (by decide) (pl_5 _) dX4_say_84 ?_
      refine pr_eqi (v := h.2.1 217 0) rfl ?_
      refine pr_eqi hT ?_
      refine pr_iload_n (pc := 87) C dX4_say_87 rfl ?_
      refine pr_astm (pc := 88) (n := 100) C 219 T rfl (by decide) rfl rfl (pl_r5 (by decide)) rfl (by omega) (by decide) dX4_say_88 ?_
      refine pr_aload_n (pc := 89) C dX4_say_89 rfl ?_
      refine pr_geta (pc := 90) C 220 320 wf_X4_53 rfl rfl (by decide) (pl_5 _) dX4_say_90 ?_
      refine pr_aload_n (pc := 93) C dX4_say_93 rfl ?_
      refine pr_getm (pc := 94) C 217 wf_X4_131 rfl (by decide) (pl_5 _) dX4_say_94 ?_
      refine pr_eqi (v := h.2.1 217 0) rfl ?_
      refine pr_eqi hT ?_
      refine pr_iload_n (pc := 97) C dX4_say_97 rfl ?_
      refine pr_astm (pc := 98) (n := 100) C 220 T rfl (by decide) rfl rfl (pl_r5 (by decide)) rfl (by omega) (by decide) dX4_say_98 ?_
      refine pr_aload_n (pc := 99) C dX4_say_99 rfl ?_
      refine pr_geta (pc := 100) C 221 321 wf_X4_56 rfl rfl (by decide) (pl_5 _) dX4_say_100 ?_
      refine pr_aload_n (pc := 103) C dX4_say_103 rfl ?_
      refine pr_getm (pc := 104) C 217 wf_X4_131 rfl (by decide) (pl_5 _) dX4_say_104 ?_
      refine pr_eqi (v := h.2.1 217 0) rfl ?_
      refine pr_eqi hT ?_
      refine pr_iload (pc := 107) C dX4_say_107 rfl ?_
      refine pr_astm (pc := 109) (n := 100) C 221 T rfl (by decide) rfl rfl (pl_r5 (by decide)) rfl (by omega) (by decide) dX4_say_109 ?_
      refine pr_aload_n (pc := 110) C dX4_say_110 rfl ?_
      refine pr_geta (pc := 111) C 222 322 wf_X4_59 rfl rfl (by decide) (pl_5 _) dX4_say_111 ?_
      refine pr_aload_n (pc := 114) C dX4_say_114 rfl ?_
      refine pr_getm (pc := 115) C 217 wf_X4_131 rfl (by decide) (pl_5 _) dX4_say_115 ?_
      refine pr_eqi (v := h.2.1 217 0) rfl ?_
      refine pr_eqi hT ?_
      refine pr_iload (pc := 118) C dX4_say_118 rfl ?_
      refine pr_astm (pc := 120) (n := 100) C 222 T rfl (by decide) rfl rfl (pl_r5 (by decide)) rfl (by omega) (by decide) dX4_say_120 ?_
      refine pr_aload_n (pc := 121) C dX4_say_121 rfl ?_
      refine pr_geta (pc := 122) C 223 323 wf_X4_62 rfl rfl (by decide) (pl_5 _) dX4_say_122 ?_
      refine pr_aload_n (pc := 125) C dX4_say_125 rfl ?_
      refine pr_getm (pc := 126) C 217 wf_X4_131 rfl (by decide) (pl_5 _) dX4_say_126 ?_
      refine pr_eqi (v := h.2.1 217 0) rfl ?_
      refine pr_eqi hT ?_
      refine pr_iload (pc := 129) C dX4_say_129 rfl ?_
      refine pr_astm (pc := 131) (n := 100) C 223 T rfl (by decide) rfl rfl (pl_r5 (by decide)) rfl (by omega) (by decide) dX4_say_131 ?_
      refine pr_aload_n (pc := 132) C dX4_say_132 rfl ?_
      refine pr_geta (pc := 133) C 225 325 wf_X4_68 rfl rfl (by decide) (pl_5 _) dX4_say_133 ?_
      refine pr_aload_n (pc := 136) C dX4_say_136 rfl ?_
      refine pr_getm (pc := 137) C 217 wf_X4_131 rfl (by decide) (pl_5 _) dX4_say_137 ?_
      refine pr_eqi (v := h.2.1 217 0) rfl ?_
      refine pr_eqi hT ?_
      refine pr_iconst (pc := 140) (v := -1) C dX4_say_140 (by decide) ?_
      refine pr_astm (pc := 141) (n := 100) C 225 T rfl (by decide) rfl rfl (pl_r5 (by decide)) rfl (by omega) (by decide) dX4_say_141 ?_
      refine pr_aload_n (pc := 142) C dX4_say_142 rfl ?_
      refine pr_geta (pc := 143) C 226 326 wf_X4_71 rfl rfl (by decide) (pl_5 _) dX4_say_143 ?_
      refine pr_aload_n (pc := 146) C dX4_say_146 rfl ?_
      refine pr_getm (pc := 147) C 217 wf_X4_131 rfl (by decide) (pl_5 _) dX4_say_147 ?_
      refine pr_eqi (v := h.2.1 217 0) rfl ?_
      refine pr_eqi hT ?_
      refine pr_aload_n (pc := 150) C dX4_say_150 rfl ?_
      refine pr_geta (pc := 151) C 204 304 wf_X4_16 rfl rfl (by decide) (pl_5 _) dX4_say_151 ?_
      refine pr_iload_n (pc := 154) C dX4_say_154 rfl ?_
      refine pr_aldm (pc := 155) (n := 4) C 204 sp rfl rfl rfl (pl_r5 (by decide)) rfl (by omega) (by decide) dX4_say_155 ?_
      refine pr_eqi (v := h.2.1 204 sp) rfl ?_
      refine pr_astm (pc := 156) (n := 100) C 226 T rfl (by decide) rfl rfl (pl_r5 (by decide)) rfl (by omega) (by decide) dX4_say_156 ?_
      refine pr_aload_n (pc := 157) C dX4_say_157 rfl ?_
      refine pr_geta (pc := 158) C 230 330 wf_X4_83 rfl rfl (by decide) (pl_5 _) dX4_say_158 ?_
      refine pr_iload_n (pc := 161) C dX4_say_161 rfl ?_
      refine pr_aload_n (pc := 162) C dX4_say_162 rfl ?_
      refine pr_getm (pc := 163) C 217 wf_X4_131 rfl (by decide) (pl_5 _) dX4_say_163 ?_
      refine pr_eqi (v := h.2.1 217 0) rfl ?_
      refine pr_eqi hT ?_
      refine pr_astm (pc := 166) (n := 4) C 230 sp rfl (by decide) rfl rfl (pl_r5 (by decide)) rfl (by omega) (by decide) dX4_say_166 ?_
      refine pr_aload_n (pc := 167) C dX4_say_167 rfl ?_
      refine pr_dup (pc := 168) C dX4_say_168 trivial ?_
      refine pr_getm (pc := 169) C 217 wf_X4_131 rfl (by decide) (pl_5 _) dX4_say_169 ?_
      refine pr_eqi (v := h.2.1 217 0) rfl ?_
      refine pr_eqi hT ?_
      refine pr_iconst (pc := 172) (v := 1) C dX4_say_172 (by decide) ?_
      refine pr_iaddN (pc := 173) C dX4_say_173 T 1 rfl rfl ?_
      refine pr_putm (pc := 174) C 217 wp_X4_131 rfl (by decide) rfl (pl_5 _) dX4_say_174 ?_
      refine pr_aload_n (pc := 177) C dX4_say_177 rfl ?_
      refine pr_getm (pc := 178) C 217 wf_X4_131 rfl (by decide) (pl_5 _) dX4_say_178 ?_
      refine pr_eqi (v := (nI (T + 1))) rfl ?_
      refine pr_iconst (pc := 181) (v := 1) C dX4_say_181 (by decide) ?_
      refine pr_isubN (pc := 182) C dX4_say_182 (T + 1) 1 rfl rfl (by omega) ?_
      exact pr_iret (pc := 183) C E (Or.inl rfl) (by omega) (by omega) ⟨rfl, rfl⟩ dX4_say_183
    refine pr_aload_n (pc := 42) C dX4_say_42 rfl ?_
    refine pr_iload_n (pc := 43) C dX4_say_43 rfl ?_
    refine pr_iload_n (pc := 44) C dX4_say_44 rfl ?_
    refine pr_iload_n (pc := 45) C dX4_say_45 rfl ?_
    refine pr_iload (pc := 46) C dX4_say_46 rfl ?_
    refine pr_iload (pc := 48) C dX4_say_48 rfl ?_
    refine pr_vP (pc := 50) C (c_X4_canSay G _ h sp av Q q0 of how set (by first | assumption | omega) (by first | assumption | omega) hof hw) wv_X4_171 rfl rfl (by decide) (by decide) (pl_5 _) (Nat.le_of_ble_eq_true rfl) (by omega) (by omega) dX4_say_50 ?_
    refine pr_ifb_eq (pc := 53) C 60 dX4_say_53 (by decide) (fun c_53 => ?_) (fun c_53 => ?_)
    · refine pr_iconst (pc := 60) (v := 0) C dX4_say_60 (by decide) ?_
      exact pr_eqi (show (0 : Int32) = (1 : Int32) from (by have z := c_53; simp [hc] at z)) j61_2
    · refine pr_iconst (pc := 56) (v := 1) C dX4_say_56 (by decide) ?_
      refine pr_goto (pc := 57) C 61 dX4_say_57 (by decide) ?_
      exact j61_2
  refine pr_iload_n (pc := 0) C dX4_say_0 rfl ?_
  refine pr_sP (pc := 1) C (c_X4_isSpeaker G _ h (nI sp)) ws_X4_106 rfl rfl (by decide) (Nat.le_of_ble_eq_true rfl) (by omega) (by omega) dX4_say_1 ?_
  refine pr_ifb_eq (pc := 4) C 27 dX4_say_4 (by decide) (fun c_4 => ?_) (fun c_4 => ?_)
  · refine pr_iconst (pc := 27) (v := 0) C dX4_say_27 (by decide) ?_
    exact pr_eqi (show (0 : Int32) = (1 : Int32) from (by have z := c_4; simp [ms_in4 hs, ht] at z)) j28_1
  · refine pr_aload_n (pc := 7) C dX4_say_7 rfl ?_
    refine pr_iload_n (pc := 8) C dX4_say_8 rfl ?_
    refine pr_iload_n (pc := 9) C dX4_say_9 rfl ?_
    refine pr_iload_n (pc := 10) C dX4_say_10 rfl ?_
    refine pr_iload (pc := 11) C dX4_say_11 rfl ?_
    refine pr_iload (pc := 13) C dX4_say_13 rfl ?_
    refine pr_iload (pc := 15) C dX4_say_15 rfl ?_
    refine pr_vP (pc := 17) C (c_X4_isTold G _ h (nI sp) (nI av) of how set fr) wv_X4_167 rfl rfl (by decide) (by decide) (pl_5 _) (Nat.le_of_ble_eq_true rfl) (by omega) (by omega) dX4_say_17 ?_
    refine pr_ifb_eq (pc := 20) C 27 dX4_say_20 (by decide) (fun c_20 => ?_) (fun c_20 => ?_)
    · refine pr_iconst (pc := 27) (v := 0) C dX4_say_27 (by decide) ?_
      exact pr_eqi (show (0 : Int32) = (1 : Int32) from (by have z := c_20; simp [ms_in4 hs, ht] at z)) j28_1
    · refine pr_iconst (pc := 23) (v := 1) C dX4_say_23 (by decide) ?_
      refine pr_goto (pc := 24) C 28 dX4_say_24 (by decide) ?_
      exact j28_1

set_option maxRecDepth 100000 in
set_option maxHeartbeats 2000000 in
theorem c_X4_sayM (G : pa_G) (l : Launch) (h : pa_H) (Q q0 sp av : Nat) (of how set fr : Int32) (hs : sp < 4) (ha : av < 16) (hof : mw_of av of) (hw : mw_Q h.2.1 Q q0) (ht : ms_told (h.2.1 217 0) (nI sp) (nI av) of how set fr = true) (hc : ms_canSay h.2.1 sp av of how set = false) : pa_MR G l mX4_say 6 [pv_o 5 0, pv_i (nI sp), pv_i (nI av), pv_i of, pv_i how, pv_i set, pv_i fr] h (h.1, pa_us h.2.1 235 0 (ms_thr (ms_in (nI sp) 0 3) true false), h.2.2) (pv_i 0) := by
  refine pa_go l (by decide) (by simp [pa_c1l, pa_c1]) (fun _ => rfl) fun x C E el ea => ?_
  subst el
  show pa_w G x 8 h 0 0 0 [some (pv_o 5 0), some (pv_i (nI sp)), some (pv_i (nI av)), some (pv_i of), some (pv_i how), some (pv_i set), some (pv_i fr), none] []
  have j28_1 : pa_w G x 8 h 0 0 28 [some (pv_o 5 0), some (pv_i (nI sp)), some (pv_i (nI av)), some (pv_i of), some (pv_i how), some (pv_i set), some (pv_i fr), none] [pv_i (1 : Int32)] := by
    refine pr_istore (pc := 28) C dX4_say_28 (by decide) ?_
    refine pr_aload_n (pc := 30) C dX4_say_30 rfl ?_
    refine pr_iload_n (pc := 31) C dX4_say_31 rfl ?_
    refine pr_sP (pc := 32) C (c_X4_isSpeaker G _ h (nI sp)) ws_X4_106 rfl rfl (by decide) (Nat.le_of_ble_eq_true rfl) (by omega) (by omega) dX4_say_32 ?_
    refine pr_iload (pc := 35) C dX4_say_35 rfl ?_
    refine pr_iload (pc := 37) C dX4_say_37 rfl ?_
    refine pr_if_eq (pc := 39) C 60 dX4_say_39 (by decide) (fun c_39 => absurd c_39 (by decide)) (fun _ => ?_)
    have j61_2 : pa_w G x 8 h 0 0 61 [some (pv_o 5 0), some (pv_i (nI sp)), some (pv_i (nI av)), some (pv_i of), some (pv_i how), some (pv_i set), some (pv_i fr), some (pv_i (1 : Int32))] [pv_i (0 : Int32), pv_i (1 : Int32), pv_i (pz_b (ms_in (nI sp) 0 3)), pv_o 5 0] := by
      refine pr_vR (pc := 61) C (c_X4_goesN G _ h (ms_in (nI sp) 0 3) true false (by simp)) wv_X4_110 rfl rfl (by decide) (by decide) (pl_5 _) (Nat.le_of_ble_eq_true rfl) (by omega) (by omega) dX4_say_61 ?_
      refine pr_if_ne (pc := 64) C 69 dX4_say_64 (by decide) (fun c_64 => absurd c_64 (by decide)) (fun _ => ?_)
      refine pr_iconst (pc := 67) (v := 0) C dX4_say_67 (by decide) ?_
      exact pr_iret (pc := 68) C E (Or.inl rfl) (by omega) (by omega) ⟨rfl, rfl⟩ dX4_say_68
    refine pr_aload_n (pc := 42) C dX4_say_42 rfl ?_
    refine pr_iload_n (pc := 43) C dX4_say_43 rfl ?_
    refine pr_iload_n (pc := 44) C dX4_say_44 rfl ?_
    refine pr_iload_n (pc := 45) C dX4_say_45 rfl ?_
    refine pr_iload (pc := 46) C dX4_say_46 rfl ?_
    refine pr_iload (pc := 48) C dX4_say_48 rfl ?_
    refine pr_vP (pc := 50) C (c_X4_canSay G _ h sp av Q q0 of how set (by first | assumption | omega) (by first | assumption | omega) hof hw) wv_X4_171 rfl rfl (by decide) (by decide) (pl_5 _) (Nat.le_of_ble_eq_true rfl) (by omega) (by omega) dX4_say_50 ?_
    refine pr_ifb_eq (pc := 53) C 60 dX4_say_53 (by decide) (fun c_53 => ?_) (fun c_53 => ?_)
    · refine pr_iconst (pc := 60) (v := 0) C dX4_say_60 (by decide) ?_
      exact j61_2
    · refine pr_iconst (pc := 56) (v := 1) C dX4_say_56 (by decide) ?_
      refine pr_goto (pc := 57) C 61 dX4_say_57 (by decide) ?_
      exact pr_eqi (show (1 : Int32) = (0 : Int32) from (by have z := c_53; simp [hc] at z)) j61_2
  refine pr_iload_n (pc := 0) C dX4_say_0 rfl ?_
  refine pr_sP (pc := 1) C (c_X4_isSpeaker G _ h (nI sp)) ws_X4_106 rfl rfl (by decide) (Nat.le_of_ble_eq_true rfl) (by omega) (by omega) dX4_say_1 ?_
  refine pr_ifb_eq (pc := 4) C 27 dX4_say_4 (by decide) (fun c_4 => ?_) (fun c_4 => ?_)
  · refine pr_iconst (pc := 27) (v := 0) C dX4_say_27 (by decide) ?_
    exact pr_eqi (show (0 : Int32) = (1 : Int32) from (by have z := c_4; simp [ms_in4 hs, ht] at z)) j28_1
  · refine pr_aload_n (pc := 7) C dX4_say_7 rfl ?_
    refine pr_iload_n (pc := 8) C dX4_say_8 rfl ?_
    refine pr_iload_n (pc := 9) C dX4_say_9 rfl ?_
    refine pr_iload_n (pc := 10) C dX4_say_10 rfl ?_
    refine pr_iload (pc := 11) C dX4_say_11 rfl ?_
    refine pr_iload (pc := 13) C dX4_say_13 rfl ?_
    refine pr_iload (pc := 15) C dX4_say_15 rfl ?_
    refine pr_vP (pc := 17) C (c_X4_isTold G _ h (nI sp) (nI av) of how set fr) wv_X4_167 rfl rfl (by decide) (by decide) (pl_5 _) (Nat.le_of_ble_eq_true rfl) (by omega) (by omega) dX4_say_17 ?_
    refine pr_ifb_eq (pc := 20) C 27 dX4_say_20 (by decide) (fun c_20 => ?_) (fun c_20 => ?_)
    · refine pr_iconst (pc := 27) (v := 0) C dX4_say_27 (by decide) ?_
      exact pr_eqi (show (0 : Int32) = (1 : Int32) from (by have z := c_20; simp [ms_in4 hs, ht] at z)) j28_1
    · refine pr_iconst (pc := 23) (v := 1) C dX4_say_23 (by decide) ?_
      refine pr_goto (pc := 24) C 28 dX4_say_24 (by decide) ?_
      exact j28_1

set_option maxRecDepth 100000 in
set_option maxHeartbeats 2000000 in
theorem c_X4_sayN (G : pa_G) (l : Launch) (h : pa_H) (sp its of how set fr : Int32) (hn : (ms_in sp 0 3 && ms_told (h.2.1 217 0) sp its of how set fr) = false) : pa_MR G l mX4_say 6 [pv_o 5 0, pv_i sp, pv_i its, pv_i of, pv_i how, pv_i set, pv_i fr] h (h.1, pa_us h.2.1 235 0 (ms_thr (ms_in sp 0 3) false false), h.2.2) (pv_i 0) := by
  refine pa_go l (by decide) (by simp [pa_c1l, pa_c1]) (fun _ => rfl) fun x C E el ea => ?_
  subst el
  show pa_w G x 8 h 0 0 0 [some (pv_o 5 0), some (pv_i sp), some (pv_i its), some (pv_i of), some (pv_i how), some (pv_i set), some (pv_i fr), none] []
  have j28_1 : pa_w G x 8 h 0 0 28 [some (pv_o 5 0), some (pv_i sp), some (pv_i its), some (pv_i of), some (pv_i how), some (pv_i set), some (pv_i fr), none] [pv_i (0 : Int32)] := by
    refine pr_istore (pc := 28) C dX4_say_28 (by decide) ?_
    refine pr_aload_n (pc := 30) C dX4_say_30 rfl ?_
    refine pr_iload_n (pc := 31) C dX4_say_31 rfl ?_
    refine pr_sP (pc := 32) C (c_X4_isSpeaker G _ h sp) ws_X4_106 rfl rfl (by decide) (Nat.le_of_ble_eq_true rfl) (by omega) (by omega) dX4_say_32 ?_
    refine pr_iload (pc := 35) C dX4_say_35 rfl ?_
    refine pr_iload (pc := 37) C dX4_say_37 rfl ?_
    refine pr_if_eq (pc := 39) C 60 dX4_say_39 (by decide) (fun _ => ?_) (fun c_39 => absurd c_39 (by decide))
    refine pr_iconst (pc := 60) (v := 0) C dX4_say_60 (by decide) ?_
    refine pr_vR (pc := 61) C (c_X4_goesN G _ h (ms_in sp 0 3) false false (by simp)) wv_X4_110 rfl rfl (by decide) (by decide) (pl_5 _) (Nat.le_of_ble_eq_true rfl) (by omega) (by omega) dX4_say_61 ?_
    refine pr_if_ne (pc := 64) C 69 dX4_say_64 (by decide) (fun c_64 => absurd c_64 (by decide)) (fun _ => ?_)
    refine pr_iconst (pc := 67) (v := 0) C dX4_say_67 (by decide) ?_
    exact pr_iret (pc := 68) C E (Or.inl rfl) (by omega) (by omega) ⟨rfl, rfl⟩ dX4_say_68
  refine pr_iload_n (pc := 0) C dX4_say_0 rfl ?_
  refine pr_sP (pc := 1) C (c_X4_isSpeaker G _ h sp) ws_X4_106 rfl rfl (by decide) (Nat.le_of_ble_eq_true rfl) (by omega) (by omega) dX4_say_1 ?_
  refine pr_ifb_eq (pc := 4) C 27 dX4_say_4 (by decide) (fun c_4 => ?_) (fun c_4 => ?_)
  · refine pr_iconst (pc := 27) (v := 0) C dX4_say_27 (by decide) ?_
    exact j28_1
  · refine pr_aload_n (pc := 7) C dX4_say_7 rfl ?_
    refine pr_iload_n (pc := 8) C dX4_say_8 rfl ?_
    refine pr_iload_n (pc := 9) C dX4_say_9 rfl ?_
    refine pr_iload_n (pc := 10) C dX4_say_10 rfl ?_
    refine pr_iload (pc := 11) C dX4_say_11 rfl ?_
    refine pr_iload (pc := 13) C dX4_say_13 rfl ?_
    refine pr_iload (pc := 15) C dX4_say_15 rfl ?_
    refine pr_vP (pc := 17) C (c_X4_isTold G _ h sp its of how set fr) wv_X4_167 rfl rfl (by decide) (by decide) (pl_5 _) (Nat.le_of_ble_eq_true rfl) (by omega) (by omega) dX4_say_17 ?_
    refine pr_ifb_eq (pc := 20) C 27 dX4_say_20 (by decide) (fun c_20 => ?_) (fun c_20 => ?_)
    · refine pr_iconst (pc := 27) (v := 0) C dX4_say_27 (by decide) ?_
      exact j28_1
    · refine pr_iconst (pc := 23) (v := 1) C dX4_say_23 (by decide) ?_
      refine pr_goto (pc := 24) C 28 dX4_say_24 (by decide) ?_
      exact pr_eqi (show (1 : Int32) = (0 : Int32) from (by simp [c_4, c_20] at hn)) j28_1

set_option maxRecDepth 100000 in
set_option maxHeartbeats 2000000 in
theorem c_X4_tickN (G : pa_G) (l : Launch) (h : pa_H) (v : Int32) (hn : (ms_in v 1 20 && true && true) = false) : pa_MR G l mX4_tick 9 [pv_o 5 0, pv_i v] h (h.1, pa_us h.2.1 235 0 (ms_thr (ms_in v 1 20) true true), h.2.2) (pv_i 0) := by
  refine pa_go l (by decide) (by simp [pa_c1l, pa_c1]) (fun _ => rfl) fun x C E el ea => ?_
  subst el
  show pa_w G x 4 h 0 0 0 [some (pv_o 5 0), some (pv_i v), none, none] []
  refine pr_aload_n (pc := 0) C dX4_tick_0 rfl ?_
  refine pr_iload_n (pc := 1) C dX4_tick_1 rfl ?_
  refine pr_iconst (pc := 2) (v := 1) C dX4_tick_2 (by decide) ?_
  refine pr_bipush (pc := 3) (v := 20) C dX4_tick_3 (by decide) ?_
  refine pr_sP (pc := 5) C (c_X4_in G _ h v (1 : Int32) (20 : Int32)) ws_X4_102 rfl rfl (by decide) (Nat.le_of_ble_eq_true rfl) (by omega) (by omega) dX4_tick_5 ?_
  refine pr_iconst (pc := 8) (v := 1) C dX4_tick_8 (by decide) ?_
  refine pr_iconst (pc := 9) (v := 1) C dX4_tick_9 (by decide) ?_
  refine pr_vR (pc := 10) C (c_X4_goesN G _ h (ms_in v (1 : Int32) (20 : Int32)) true true hn) wv_X4_110 rfl rfl (by decide) (by decide) (pl_5 _) (Nat.le_of_ble_eq_true rfl) (by omega) (by omega) dX4_tick_10 ?_
  refine pr_if_ne (pc := 13) C 18 dX4_tick_13 (by decide) (fun c_13 => absurd c_13 (by decide)) (fun _ => ?_)
  refine pr_iconst (pc := 16) (v := 0) C dX4_tick_16 (by decide) ?_
  exact pr_iret (pc := 17) C E (Or.inl rfl) (by omega) (by omega) ⟨rfl, rfl⟩ dX4_tick_17

