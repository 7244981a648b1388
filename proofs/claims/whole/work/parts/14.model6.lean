/-! THE REFERENCE, sixth part: its public methods: Y where the call goes, N where it is refused -/
theorem ms_in0 {u : Nat} {hi : Int32} (b : Nat) (e : hi = nI b) (h : u ≤ b) (hb : b < 1000) : ms_in (nI u) 0 hi = true := by
  have e1 : (0 : Int32) ≤ nI u := (nI_leI (a := 0) (b := u) (by decide) (by omega)).mpr (by omega)
  have e2 : nI u ≤ hi := e ▸ (nI_leI (a := u) (b := b) (by omega) (by omega)).mpr h
  simp [ms_in, e1, e2]
theorem ms_in4 {u : Nat} (h : u < 4) : ms_in (nI u) 0 3 = true := ms_in0 3 rfl (by omega) (by decide)
theorem ms_in10 {u : Nat} (h : u < 10) : ms_in (nI u) 0 9 = true := ms_in0 9 rfl (by omega) (by decide)
theorem ms_in8 {u : Nat} (h : u < 8) : ms_in (nI u) 0 7 = true := ms_in0 7 rfl (by omega) (by decide)
theorem ms_inT {u T : Nat} (h : u < T) (hT : T ≤ 100) : ms_in (nI u) 0 (nI T - 1) = true := ms_in0 (T - 1) (by
  obtain ⟨k, rfl⟩ : ∃ k, T = k + 1 := ⟨T - 1, by omega⟩
  simp [nI]) (by omega) (by omega)
theorem ms_thrY {p q r : Bool} (h1 : p = true) (h2 : q = true) (h3 : r = true) : ms_thr p q r = 0 := by rw [h1, h2, h3]; rfl
theorem c_X4_goesY (G : pa_G) (l : Launch) (h : pa_H) (p q r : Bool) (h1 : p = true) (h2 : q = true) (h3 : r = true) : pa_MR G l mX4_goes 1 [pv_o 5 0, pv_i (pz_b p), pv_i (pz_b q), pv_i (pz_b r)] h (h.1, pa_us h.2.1 235 0 0, h.2.2) (pv_i 1) := by
  have := c_X4_goes G l h p q r
  rw [ms_thrY h1 h2 h3, h1, h2, h3] at this
  rw [h1, h2, h3]
  exact this
theorem c_X4_goesN (G : pa_G) (l : Launch) (h : pa_H) (p q r : Bool) (hn : (p && q && r) = false) : pa_MR G l mX4_goes 1 [pv_o 5 0, pv_i (pz_b p), pv_i (pz_b q), pv_i (pz_b r)] h (h.1, pa_us h.2.1 235 0 (ms_thr p q r), h.2.2) (pv_i 0) := by
  have := c_X4_goes G l h p q r
  rw [hn] at this
  exact this
set_option maxRecDepth 100000 in
set_option maxHeartbeats 2000000 in
theorem c_X4_powerY (G : pa_G) (l : Launch) (h : pa_H) (sp p : Nat) (hs : sp < 4) (hp : p < 10) : pa_MR G l mX4_power 5 [pv_o 5 0, pv_i (nI sp), pv_i (nI p)] h (h.1, pa_us (pa_us h.2.1 235 0 0) 202 sp (nI p), h.2.2) (pv_i (h.2.1 202 sp)) := by
  refine pa_go l (by decide) (by simp [pa_c1l, pa_c1]) (fun _ => rfl) fun x C E el ea => ?_
  subst el
  show pa_w G x 4 h 0 0 0 [some (pv_o 5 0), some (pv_i (nI sp)), some (pv_i (nI p)), none] []
  refine pr_aload_n (pc := 0) C dX4_power_0 rfl ?_
  refine pr_iload_n (pc := 1) C dX4_power_1 rfl ?_
  refine pr_sP (pc := 2) C (c_X4_isSpeaker G _ h (nI sp)) ws_X4_106 rfl rfl (by decide) (Nat.le_of_ble_eq_true rfl) (by omega) (by omega) dX4_power_2 ?_
  refine pr_iload_n (pc := 5) C dX4_power_5 rfl ?_
  refine pr_iconst (pc := 6) (v := 0) C dX4_power_6 (by decide) ?_
  refine pr_bipush (pc := 7) (v := 9) C dX4_power_7 (by decide) ?_
  refine pr_sP (pc := 9) C (c_X4_in G _ h (nI p) (0 : Int32) (9 : Int32)) ws_X4_102 rfl rfl (by decide) (Nat.le_of_ble_eq_true rfl) (by omega) (by omega) dX4_power_9 ?_
  refine pr_iconst (pc := 12) (v := 1) C dX4_power_12 (by decide) ?_
  refine pr_vR (pc := 13) C (c_X4_goesY G _ h (ms_in (nI sp) 0 3) (ms_in (nI p) (0 : Int32) (9 : Int32)) true (ms_in4 hs) (ms_in10 hp) rfl) wv_X4_110 rfl rfl (by decide) (by decide) (pl_5 _) (Nat.le_of_ble_eq_true rfl) (by omega) (by omega) dX4_power_13 ?_
  refine pr_if_ne (pc := 16) C 21 dX4_power_16 (by decide) (fun _ => ?_) (fun c_16 => absurd c_16 (by decide))
  refine pr_aload_n (pc := 21) C dX4_power_21 rfl ?_
  refine pr_geta (pc := 22) C 202 302 wf_X4_7 rfl rfl (by decide) (pl_5 _) dX4_power_22 ?_
  refine pr_iload_n (pc := 25) C dX4_power_25 rfl ?_
  refine pr_aldm (pc := 26) (n := 4) C 202 sp rfl rfl rfl (pl_r5 (by decide)) rfl (by omega) (by decide) dX4_power_26 ?_
  refine pr_eqi (v := h.2.1 202 sp) rfl ?_
  refine pr_istore_n (pc := 27) C dX4_power_27 (by decide) ?_
  refine pr_aload_n (pc := 28) C dX4_power_28 rfl ?_
  refine pr_geta (pc := 29) C 202 302 wf_X4_7 rfl rfl (by decide) (pl_5 _) dX4_power_29 ?_
  refine pr_iload_n (pc := 32) C dX4_power_32 rfl ?_
  refine pr_iload_n (pc := 33) C dX4_power_33 rfl ?_
  refine pr_astm (pc := 34) (n := 4) C 202 sp rfl (by decide) rfl rfl (pl_r5 (by decide)) rfl (by omega) (by decide) dX4_power_34 ?_
  refine pr_iload_n (pc := 35) C dX4_power_35 rfl ?_
  exact pr_iret (pc := 36) C E (Or.inl rfl) (by omega) (by omega) ⟨rfl, rfl⟩ dX4_power_36

set_option maxRecDepth 100000 in
set_option maxHeartbeats 2000000 in
theorem c_X4_powerN (G : pa_G) (l : Launch) (h : pa_H) (sp p : Int32) (hn : ((ms_in sp 0 3) && (ms_in p 0 9) && true) = false) : pa_MR G l mX4_power 5 [pv_o 5 0, pv_i sp, pv_i p] h (h.1, pa_us h.2.1 235 0 (ms_thr (ms_in sp 0 3) (ms_in p 0 9) true), h.2.2) (pv_i 0) := by
  refine pa_go l (by decide) (by simp [pa_c1l, pa_c1]) (fun _ => rfl) fun x C E el ea => ?_
  subst el
  show pa_w G x 4 h 0 0 0 [some (pv_o 5 0), some (pv_i sp), some (pv_i p), none] []
  refine pr_aload_n (pc := 0) C dX4_power_0 rfl ?_
  refine pr_iload_n (pc := 1) C dX4_power_1 rfl ?_
  refine pr_sP (pc := 2) C (c_X4_isSpeaker G _ h sp) ws_X4_106 rfl rfl (by decide) (Nat.le_of_ble_eq_true rfl) (by omega) (by omega) dX4_power_2 ?_
  refine pr_iload_n (pc := 5) C dX4_power_5 rfl ?_
  refine pr_iconst (pc := 6) (v := 0) C dX4_power_6 (by decide) ?_
  refine pr_bipush (pc := 7) (v := 9) C dX4_power_7 (by decide) ?_
  refine pr_sP (pc := 9) C (c_X4_in G _ h p (0 : Int32) (9 : Int32)) ws_X4_102 rfl rfl (by decide) (Nat.le_of_ble_eq_true rfl) (by omega) (by omega) dX4_power_9 ?_
  refine pr_iconst (pc := 12) (v := 1) C dX4_power_12 (by decide) ?_
  refine pr_vR (pc := 13) C (c_X4_goesN G _ h (ms_in sp 0 3) (ms_in p (0 : Int32) (9 : Int32)) true hn) wv_X4_110 rfl rfl (by decide) (by decide) (pl_5 _) (Nat.le_of_ble_eq_true rfl) (by omega) (by omega) dX4_power_13 ?_
  refine pr_if_ne (pc := 16) C 21 dX4_power_16 (by decide) (fun c_16 => absurd c_16 (by decide)) (fun _ => ?_)
  refine pr_iconst (pc := 19) (v := 0) C dX4_power_19 (by decide) ?_
  exact pr_iret (pc := 20) C E (Or.inl rfl) (by omega) (by omega) ⟨rfl, rfl⟩ dX4_power_20

def ms_kn (set one : Int32) : Bool := ms_in set 1 7 && ms_in one 0 2 && ms_isIn set one
set_option maxRecDepth 100000 in
set_option maxHeartbeats 2000000 in
theorem c_X4_knowsY (G : pa_G) (l : Launch) (h : pa_H) (sp : Nat) (set one is : Int32) (hs : sp < 4) (hk : ms_kn set one = true) (hb : is = 0 ∨ is = 1) : pa_MR G l mX4_knows 5 [pv_o 5 0, pv_i (nI sp), pv_i set, pv_i one, pv_i is] h (h.1, pa_us (pa_us (pa_us (pa_us h.2.1 235 0 0) 203 sp set) 204 sp one) 205 sp is, h.2.2) (pv_i (h.2.1 203 sp)) := by
  refine pa_go l (by decide) (by simp [pa_c1l, pa_c1]) (fun _ => rfl) fun x C E el ea => ?_
  subst el
  show pa_w G x 6 h 0 0 0 [some (pv_o 5 0), some (pv_i (nI sp)), some (pv_i set), some (pv_i one), some (pv_i is), none] []
  refine pr_aload_n (pc := 0) C dX4_knows_0 rfl ?_
  refine pr_iload_n (pc := 1) C dX4_knows_1 rfl ?_
  refine pr_sP (pc := 2) C (c_X4_isSpeaker G _ h (nI sp)) ws_X4_106 rfl rfl (by decide) (Nat.le_of_ble_eq_true rfl) (by omega) (by omega) dX4_knows_2 ?_
  have j50_1 : pa_w G x 6 h 0 0 50 [some (pv_o 5 0), some (pv_i (nI sp)), some (pv_i set), some (pv_i one), some (pv_i is), none] [pv_i (pz_b (ms_kn set one)), pv_i (pz_b (ms_in (nI sp) 0 3)), pv_o 5 0] := by
    refine pr_iconst (pc := 50) (v := 1) C dX4_knows_50 (by decide) ?_
    refine pr_vR (pc := 51) C (c_X4_goesY G _ h (ms_in (nI sp) 0 3) (ms_kn set one) true (ms_in4 hs) hk rfl) wv_X4_110 rfl rfl (by decide) (by decide) (pl_5 _) (Nat.le_of_ble_eq_true rfl) (by omega) (by omega) dX4_knows_51 ?_
    refine pr_if_ne (pc := 54) C 59 dX4_knows_54 (by decide) (fun _ => ?_) (fun c_54 => absurd c_54 (by decide))
    refine pr_aload_n (pc := 59) C dX4_knows_59 rfl ?_
    refine pr_geta (pc := 60) C 203 303 wf_X4_13 rfl rfl (by decide) (pl_5 _) dX4_knows_60 ?_
    refine pr_iload_n (pc := 63) C dX4_knows_63 rfl ?_
    refine pr_aldm (pc := 64) (n := 4) C 203 sp rfl rfl rfl (pl_r5 (by decide)) rfl (by omega) (by decide) dX4_knows_64 ?_
    refine pr_eqi (v := h.2.1 203 sp) rfl ?_
    refine pr_istore (pc := 65) C dX4_knows_65 (by decide) ?_
    refine pr_aload_n (pc := 67) C dX4_knows_67 rfl ?_
    refine pr_geta (pc := 68) C 203 303 wf_X4_13 rfl rfl (by decide) (pl_5 _) dX4_knows_68 ?_
    refine pr_iload_n (pc := 71) C dX4_knows_71 rfl ?_
    refine pr_iload_n (pc := 72) C dX4_knows_72 rfl ?_
    refine pr_astm (pc := 73) (n := 4) C 203 sp rfl (by decide) rfl rfl (pl_r5 (by decide)) rfl (by omega) (by decide) dX4_knows_73 ?_
    refine pr_aload_n (pc := 74) C dX4_knows_74 rfl ?_
    refine pr_geta (pc := 75) C 204 304 wf_X4_16 rfl rfl (by decide) (pl_5 _) dX4_knows_75 ?_
    refine pr_iload_n (pc := 78) C dX4_knows_78 rfl ?_
    refine pr_iload_n (pc := 79) C dX4_knows_79 rfl ?_
    refine pr_astm (pc := 80) (n := 4) C 204 sp rfl (by decide) rfl rfl (pl_r5 (by decide)) rfl (by omega) (by decide) dX4_knows_80 ?_
    refine pr_aload_n (pc := 81) C dX4_knows_81 rfl ?_
    refine pr_geta (pc := 82) C 205 305 wf_X4_19 rfl rfl (by decide) (pl_5 _) dX4_knows_82 ?_
    refine pr_iload_n (pc := 85) C dX4_knows_85 rfl ?_
    refine pr_iload (pc := 86) C dX4_knows_86 rfl ?_
    refine pr_astb (pc := 88) (n := 4) C 205 sp rfl (by decide) rfl rfl (pl_r5 (by decide)) hb rfl (by omega) (by decide) dX4_knows_88 ?_
    refine pr_iload (pc := 89) C dX4_knows_89 rfl ?_
    exact pr_iret (pc := 91) C E (Or.inl rfl) (by omega) (by omega) ⟨rfl, rfl⟩ dX4_knows_91
  refine pr_iload_n (pc := 5) C dX4_knows_5 rfl ?_
  refine pr_iconst (pc := 6) (v := 1) C dX4_knows_6 (by decide) ?_
  refine pr_bipush (pc := 7) (v := 7) C dX4_knows_7 (by decide) ?_
  refine pr_sP (pc := 9) C (c_X4_in G _ h set (1 : Int32) (7 : Int32)) ws_X4_102 rfl rfl (by decide) (Nat.le_of_ble_eq_true rfl) (by omega) (by omega) dX4_knows_9 ?_
  refine pr_ifb_eq (pc := 12) C 49 dX4_knows_12 (by decide) (fun c_12 => ?_) (fun c_12 => ?_)
  · refine pr_iconst (pc := 49) (v := 0) C dX4_knows_49 (by decide) ?_
    exact pr_eqi (show (0 : Int32) = (pz_b (ms_kn set one)) from (by first | exact absurd (c_21.symm.trans c_31) (by decide) | simp [-Int32.not_le, -Int32.not_lt, pz_b, pz_lt, ms_kn, c_12])) j50_1
  · refine pr_iload_n (pc := 15) C dX4_knows_15 rfl ?_
    refine pr_iconst (pc := 16) (v := 0) C dX4_knows_16 (by decide) ?_
    refine pr_iconst (pc := 17) (v := 2) C dX4_knows_17 (by decide) ?_
    refine pr_sP (pc := 18) C (c_X4_in G _ h one (0 : Int32) (2 : Int32)) ws_X4_102 rfl rfl (by decide) (Nat.le_of_ble_eq_true rfl) (by omega) (by omega) dX4_knows_18 ?_
    refine pr_ifb_eq (pc := 21) C 49 dX4_knows_21 (by decide) (fun c_21 => ?_) (fun c_21 => ?_)
    · refine pr_iconst (pc := 49) (v := 0) C dX4_knows_49 (by decide) ?_
      exact pr_eqi (show (0 : Int32) = (pz_b (ms_kn set one)) from (by first | exact absurd (c_21.symm.trans c_31) (by decide) | simp [-Int32.not_le, -Int32.not_lt, pz_b, pz_lt, ms_kn, c_12, c_21])) j50_1
    · refine pr_iload_n (pc := 24) C dX4_knows_24 rfl ?_
      refine pr_iload_n (pc := 25) C dX4_knows_25 rfl ?_
      refine pr_iconst (pc := 26) (v := 0) C dX4_knows_26 (by decide) ?_
      refine pr_iconst (pc := 27) (v := 2) C dX4_knows_27 (by decide) ?_
      refine pr_sP (pc := 28) C (c_X4_in G _ h one (0 : Int32) (2 : Int32)) ws_X4_102 rfl rfl (by decide) (Nat.le_of_ble_eq_true rfl) (by omega) (by omega) dX4_knows_28 ?_
      refine pr_ifb_eq (pc := 31) C 38 dX4_knows_31 (by decide) (fun c_31 => ?_) (fun c_31 => ?_)
      · refine pr_iconst (pc := 38) (v := 0) C dX4_knows_38 (by decide) ?_
        refine pr_sP (pc := 39) C (c_X4_isIn G _ h set (0 : Int32)) ws_X4_114 rfl rfl (by decide) (Nat.le_of_ble_eq_true rfl) (by omega) (by omega) dX4_knows_39 ?_
        refine pr_ifb_eq (pc := 42) C 49 dX4_knows_42 (by decide) (fun c_42 => ?_) (fun c_42 => ?_)
        · refine pr_iconst (pc := 49) (v := 0) C dX4_knows_49 (by decide) ?_
          exact pr_eqi (show (0 : Int32) = (pz_b (ms_kn set one)) from (by first | exact absurd (c_21.symm.trans c_31) (by decide) | simp [-Int32.not_le, -Int32.not_lt, pz_b, pz_lt, ms_kn, c_12, c_21, c_31, c_42])) j50_1
        · refine pr_iconst (pc := 45) (v := 1) C dX4_knows_45 (by decide) ?_
          refine pr_goto (pc := 46) C 50 dX4_knows_46 (by decide) ?_
          exact pr_eqi (show (1 : Int32) = (pz_b (ms_kn set one)) from (by first | exact absurd (c_21.symm.trans c_31) (by decide) | simp [-Int32.not_le, -Int32.not_lt, pz_b, pz_lt, ms_kn, c_12, c_21, c_31, c_42])) j50_1
      · refine pr_iload_n (pc := 34) C dX4_knows_34 rfl ?_
        refine pr_goto (pc := 35) C 39 dX4_knows_35 (by decide) ?_
        refine pr_sP (pc := 39) C (c_X4_isIn G _ h set one) ws_X4_114 rfl rfl (by decide) (Nat.le_of_ble_eq_true rfl) (by omega) (by omega) dX4_knows_39 ?_
        refine pr_ifb_eq (pc := 42) C 49 dX4_knows_42 (by decide) (fun c_42 => ?_) (fun c_42 => ?_)
        · refine pr_iconst (pc := 49) (v := 0) C dX4_knows_49 (by decide) ?_
          exact pr_eqi (show (0 : Int32) = (pz_b (ms_kn set one)) from (by first | exact absurd (c_21.symm.trans c_31) (by decide) | simp [-Int32.not_le, -Int32.not_lt, pz_b, pz_lt, ms_kn, c_12, c_21, c_31, c_42])) j50_1
        · refine pr_iconst (pc := 45) (v := 1) C dX4_knows_45 (by decide) ?_
          refine pr_goto (pc := 46) C 50 dX4_knows_46 (by decide) ?_
          exact pr_eqi (show (1 : Int32) = (pz_b (ms_kn set one)) from (by first | exact absurd (c_21.symm.trans c_31) (by decide) | simp [-Int32.not_le, -Int32.not_lt, pz_b, pz_lt, ms_kn, c_12, c_21, c_31, c_42])) j50_1

set_option maxRecDepth 100000 in
set_option maxHeartbeats 2000000 in
theorem c_X4_knowsN (G : pa_G) (l : Launch) (h : pa_H) (sp set one is : Int32) (hn : ((ms_in sp 0 3) && (ms_kn set one) && true) = false) : pa_MR G l mX4_knows 5 [pv_o 5 0, pv_i sp, pv_i set, pv_i one, pv_i is] h (h.1, pa_us h.2.1 235 0 (ms_thr (ms_in sp 0 3) (ms_kn set one) true), h.2.2) (pv_i 0) := by
  refine pa_go l (by decide) (by simp [pa_c1l, pa_c1]) (fun _ => rfl) fun x C E el ea => ?_
  subst el
  show pa_w G x 6 h 0 0 0 [some (pv_o 5 0), some (pv_i sp), some (pv_i set), some (pv_i one), some (pv_i is), none] []
  refine pr_aload_n (pc := 0) C dX4_knows_0 rfl ?_
  refine pr_iload_n (pc := 1) C dX4_knows_1 rfl ?_
  refine pr_sP (pc := 2) C (c_X4_isSpeaker G _ h sp) ws_X4_106 rfl rfl (by decide) (Nat.le_of_ble_eq_true rfl) (by omega) (by omega) dX4_knows_2 ?_
  have j50_1 : pa_w G x 6 h 0 0 50 [some (pv_o 5 0), some (pv_i sp), some (pv_i set), some (pv_i one), some (pv_i is), none] [pv_i (pz_b (ms_kn set one)), pv_i (pz_b (ms_in sp 0 3)), pv_o 5 0] := by
    refine pr_iconst (pc := 50) (v := 1) C dX4_knows_50 (by decide) ?_
    refine pr_vR (pc := 51) C (c_X4_goesN G _ h (ms_in sp 0 3) (ms_kn set one) true hn) wv_X4_110 rfl rfl (by decide) (by decide) (pl_5 _) (Nat.le_of_ble_eq_true rfl) (by omega) (by omega) dX4_knows_51 ?_
    refine pr_if_ne (pc := 54) C 59 dX4_knows_54 (by decide) (fun c_54 => absurd c_54 (by decide)) (fun _ => ?_)
    refine pr_iconst (pc := 57) (v := 0) C dX4_knows_57 (by decide) ?_
    exact pr_iret (pc := 58) C E (Or.inl rfl) (by omega) (by omega) ⟨rfl, rfl⟩ dX4_knows_58
  refine pr_iload_n (pc := 5) C dX4_knows_5 rfl ?_
  refine pr_iconst (pc := 6) (v := 1) C dX4_knows_6 (by decide) ?_
  refine pr_bipush (pc := 7) (v := 7) C dX4_knows_7 (by decide) ?_
  refine pr_sP (pc := 9) C (c_X4_in G _ h set (1 : Int32) (7 : Int32)) ws_X4_102 rfl rfl (by decide) (Nat.le_of_ble_eq_true rfl) (by omega) (by omega) dX4_knows_9 ?_
  refine pr_ifb_eq (pc := 12) C 49 dX4_knows_12 (by decide) (fun c_12 => ?_) (fun c_12 => ?_)
  · refine pr_iconst (pc := 49) (v := 0) C dX4_knows_49 (by decide) ?_
    exact pr_eqi (show (0 : Int32) = (pz_b (ms_kn set one)) from (by first | exact absurd (c_21.symm.trans c_31) (by decide) | simp [-Int32.not_le, -Int32.not_lt, pz_b, pz_lt, ms_kn, c_12])) j50_1
  · refine pr_iload_n (pc := 15) C dX4_knows_15 rfl ?_
    refine pr_iconst (pc := 16) (v := 0) C dX4_knows_16 (by decide) ?_
    refine pr_iconst (pc := 17) (v := 2) C dX4_knows_17 (by decide) ?_
    refine pr_sP (pc := 18) C (c_X4_in G _ h one (0 : Int32) (2 : Int32)) ws_X4_102 rfl rfl (by decide) (Nat.le_of_ble_eq_true rfl) (by omega) (by omega) dX4_knows_18 ?_
    refine pr_ifb_eq (pc := 21) C 49 dX4_knows_21 (by decide) (fun c_21 => ?_) (fun c_21 => ?_)
    · refine pr_iconst (pc := 49) (v := 0) C dX4_knows_49 (by decide) ?_
      exact pr_eqi (show (0 : Int32) = (pz_b (ms_kn set one)) from (by first | exact absurd (c_21.symm.trans c_31) (by decide) | simp [-Int32.not_le, -Int32.not_lt, pz_b, pz_lt, ms_kn, c_12, c_21])) j50_1
    · refine pr_iload_n (pc := 24) C dX4_knows_24 rfl ?_
      refine pr_iload_n (pc := 25) C dX4_knows_25 rfl ?_
      refine pr_iconst (pc := 26) (v := 0) C dX4_knows_26 (by decide) ?_
      refine pr_iconst (pc := 27) (v := 2) C dX4_knows_27 (by decide) ?_
      refine pr_sP (pc := 28) C (c_X4_in G _ h one (0 : Int32) (2 : Int32)) ws_X4_102 rfl rfl (by decide) (Nat.le_of_ble_eq_true rfl) (by omega) (by omega) dX4_knows_28 ?_
      refine pr_ifb_eq (pc := 31) C 38 dX4_knows_31 (by decide) (fun c_31 => ?_) (fun c_31 => ?_)
      · refine pr_iconst (pc := 38) (v := 0) C dX4_knows_38 (by decide) ?_
        refine pr_sP (pc := 39) C (c_X4_isIn G _ h set (0 : Int32)) ws_X4_114 rfl rfl (by decide) (Nat.le_of_ble_eq_true rfl) (by omega) (by omega) dX4_knows_39 ?_
        refine pr_ifb_eq (pc := 42) C 49 dX4_knows_42 (by decide) (fun c_42 => ?_) (fun c_42 => ?_)
        · refine pr_iconst (pc := 49) (v := 0) C dX4_knows_49 (by decide) ?_
          exact pr_eqi (show (0 : Int32) = (pz_b (ms_kn set one)) from (by first | exact absurd (c_21.symm.trans c_31) (by decide) | simp [-Int32.not_le, -Int32.not_lt, pz_b, pz_lt, ms_kn, c_12, c_21, c_31, c_42])) j50_1
        · refine pr_iconst (pc := 45) (v := 1) C dX4_knows_45 (by decide) ?_
          refine pr_goto (pc := 46) C 50 dX4_knows_46 (by decide) ?_
          exact pr_eqi (show (1 : Int32) = (pz_b (ms_kn set one)) from (by first | exact absurd (c_21.symm.trans c_31) (by decide) | simp [-Int32.not_le, -Int32.not_lt, pz_b, pz_lt, ms_kn, c_12, c_21, c_31, c_42])) j50_1
      · refine pr_iload_n (pc := 34) C dX4_knows_34 rfl ?_
        refine pr_goto (pc := 35) C 39 dX4_knows_35 (by decide) ?_
        refine pr_sP (pc := 39) C (c_X4_isIn G _ h set one) ws_X4_114 rfl rfl (by decide) (Nat.le_of_ble_eq_true rfl) (by omega) (by omega) dX4_knows_39 ?_
        refine pr_ifb_eq (pc := 42) C 49 dX4_knows_42 (by decide) (fun c_42 => ?_) (fun c_42 => ?_)
        · refine pr_iconst (pc := 49) (v := 0) C dX4_knows_49 (by decide) ?_
          exact pr_eqi (show (0 : Int32) = (pz_b (ms_kn set one)) from (by first | exact absurd (c_21.symm.trans c_31) (by decide) | simp [-Int32.not_le, -Int32.not_lt, pz_b, pz_lt, ms_kn, c_12, c_21, c_31, c_42])) j50_1
        · refine pr_iconst (pc := 45) (v := 1) C dX4_knows_45 (by decide) ?_
          refine pr_goto (pc := 46) C 50 dX4_knows_46 (by decide) ?_
          exact pr_eqi (show (1 : Int32) = (pz_b (ms_kn set one)) from (by first | exact absurd (c_21.symm.trans c_31) (by decide) | simp [-Int32.not_le, -Int32.not_lt, pz_b, pz_lt, ms_kn, c_12, c_21, c_31, c_42])) j50_1

set_option maxRecDepth 100000 in
set_option maxHeartbeats 2000000 in
theorem c_X4_believeY (G : pa_G) (l : Launch) (h : pa_H) (sp a9 : Nat) (v : Int32) (hs : sp < 4) (ha : a9 < 10) (hv : ms_in v 0 2 = true) : pa_MR G l mX4_believe 5 [pv_o 5 0, pv_i (nI sp), pv_i (nI a9), pv_i v] h (h.1, pa_us (pa_us h.2.1 235 0 0) 207 (10 * sp + a9) v, h.2.2) (pv_i (h.2.1 207 (10 * sp + a9))) := by
  refine pa_go l (by decide) (by simp [pa_c1l, pa_c1]) (fun _ => rfl) fun x C E el ea => ?_
  subst el
  show pa_w G x 5 h 0 0 0 [some (pv_o 5 0), some (pv_i (nI sp)), some (pv_i (nI a9)), some (pv_i v), none] []
  refine pr_aload_n (pc := 0) C dX4_believe_0 rfl ?_
  have j20_1 : pa_w G x 5 h 0 0 20 [some (pv_o 5 0), some (pv_i (nI sp)), some (pv_i (nI a9)), some (pv_i v), none] [pv_i (pz_b (ms_in (nI sp) 0 3 && ms_in (nI a9) 0 9)), pv_o 5 0] := by
    refine pr_iload_n (pc := 20) C dX4_believe_20 rfl ?_
    refine pr_iconst (pc := 21) (v := 0) C dX4_believe_21 (by decide) ?_
    refine pr_iconst (pc := 22) (v := 2) C dX4_believe_22 (by decide) ?_
    refine pr_sP (pc := 23) C (c_X4_in G _ h v (0 : Int32) (2 : Int32)) ws_X4_102 rfl rfl (by decide) (Nat.le_of_ble_eq_true rfl) (by omega) (by omega) dX4_believe_23 ?_
    refine pr_iconst (pc := 26) (v := 1) C dX4_believe_26 (by decide) ?_
    refine pr_vR (pc := 27) C (c_X4_goesY G _ h (ms_in (nI sp) 0 3 && ms_in (nI a9) 0 9) (ms_in v (0 : Int32) (2 : Int32)) true (by simp [ms_in4 hs, ms_in10 ha]) hv rfl) wv_X4_110 rfl rfl (by decide) (by decide) (pl_5 _) (Nat.le_of_ble_eq_true rfl) (by omega) (by omega) dX4_believe_27 ?_
    refine pr_if_ne (pc := 30) C 35 dX4_believe_30 (by decide) (fun _ => ?_) (fun c_30 => absurd c_30 (by decide))
    refine pr_aload_n (pc := 35) C dX4_believe_35 rfl ?_
    refine pr_geta (pc := 36) C 207 307 wf_X4_26 rfl rfl (by decide) (pl_5 _) dX4_believe_36 ?_
    refine pr_bipush (pc := 39) (v := 10) C dX4_believe_39 (by decide) ?_
    refine pr_iload_n (pc := 41) C dX4_believe_41 rfl ?_
    refine pr_imulN (pc := 42) C dX4_believe_42 10 sp rfl rfl ?_
    refine pr_iload_n (pc := 43) C dX4_believe_43 rfl ?_
    refine pr_iaddN (pc := 44) C dX4_believe_44 (10 * sp) a9 rfl rfl ?_
    refine pr_aldm (pc := 45) (n := 40) C 207 ((10 * sp) + a9) rfl rfl rfl (pl_r5 (by decide)) rfl (by omega) (by decide) dX4_believe_45 ?_
    refine pr_eqi (v := h.2.1 207 ((10 * sp) + a9)) rfl ?_
    refine pr_istore (pc := 46) C dX4_believe_46 (by decide) ?_
    refine pr_aload_n (pc := 48) C dX4_believe_48 rfl ?_
    refine pr_geta (pc := 49) C 207 307 wf_X4_26 rfl rfl (by decide) (pl_5 _) dX4_believe_49 ?_
    refine pr_bipush (pc := 52) (v := 10) C dX4_believe_52 (by decide) ?_
    refine pr_iload_n (pc := 54) C dX4_believe_54 rfl ?_
    refine pr_imulN (pc := 55) C dX4_believe_55 10 sp rfl rfl ?_
    refine pr_iload_n (pc := 56) C dX4_believe_56 rfl ?_
    refine pr_iaddN (pc := 57) C dX4_believe_57 (10 * sp) a9 rfl rfl ?_
    refine pr_iload_n (pc := 58) C dX4_believe_58 rfl ?_
    refine pr_astm (pc := 59) (n := 40) C 207 ((10 * sp) + a9) rfl (by decide) rfl rfl (pl_r5 (by decide)) rfl (by omega) (by decide) dX4_believe_59 ?_
    refine pr_iload (pc := 60) C dX4_believe_60 rfl ?_
    exact pr_iret (pc := 62) C E (Or.inl rfl) (by omega) (by omega) ⟨rfl, rfl⟩ dX4_believe_62
  refine pr_iload_n (pc := 1) C dX4_believe_1 rfl ?_
  refine pr_sP (pc := 2) C (c_X4_isSpeaker G _ h (nI sp)) ws_X4_106 rfl rfl (by decide) (Nat.le_of_ble_eq_true rfl) (by omega) (by omega) dX4_believe_2 ?_
  refine pr_ifb_eq (pc := 5) C 19 dX4_believe_5 (by decide) (fun c_5 => ?_) (fun c_5 => ?_)
  · refine pr_iconst (pc := 19) (v := 0) C dX4_believe_19 (by decide) ?_
    exact pr_eqi (show (0 : Int32) = (pz_b (ms_in (nI sp) 0 3 && ms_in (nI a9) 0 9)) from (by simp [-Int32.not_le, -Int32.not_lt, pz_b, pz_lt, c_5])) j20_1
  · refine pr_iload_n (pc := 8) C dX4_believe_8 rfl ?_
    refine pr_sP (pc := 9) C (c_X4_isAtom G _ h (nI a9)) ws_X4_118 rfl rfl (by decide) (Nat.le_of_ble_eq_true rfl) (by omega) (by omega) dX4_believe_9 ?_
    refine pr_ifb_eq (pc := 12) C 19 dX4_believe_12 (by decide) (fun c_12 => ?_) (fun c_12 => ?_)
    · refine pr_iconst (pc := 19) (v := 0) C dX4_believe_19 (by decide) ?_
      exact pr_eqi (show (0 : Int32) = (pz_b (ms_in (nI sp) 0 3 && ms_in (nI a9) 0 9)) from (by simp [-Int32.not_le, -Int32.not_lt, pz_b, pz_lt, c_5, c_12])) j20_1
    · refine pr_iconst (pc := 15) (v := 1) C dX4_believe_15 (by decide) ?_
      refine pr_goto (pc := 16) C 20 dX4_believe_16 (by decide) ?_
      exact pr_eqi (show (1 : Int32) = (pz_b (ms_in (nI sp) 0 3 && ms_in (nI a9) 0 9)) from (by simp [-Int32.not_le, -Int32.not_lt, pz_b, pz_lt, c_5, c_12])) j20_1

set_option maxRecDepth 100000 in
set_option maxHeartbeats 2000000 in
theorem c_X4_believeN (G : pa_G) (l : Launch) (h : pa_H) (sp a9 v : Int32) (hn : ((ms_in sp 0 3 && ms_in a9 0 9) && (ms_in v 0 2) && true) = false) : pa_MR G l mX4_believe 5 [pv_o 5 0, pv_i sp, pv_i a9, pv_i v] h (h.1, pa_us h.2.1 235 0 (ms_thr (ms_in sp 0 3 && ms_in a9 0 9) (ms_in v 0 2) true), h.2.2) (pv_i 0) := by
  refine pa_go l (by decide) (by simp [pa_c1l, pa_c1]) (fun _ => rfl) fun x C E el ea => ?_
  subst el
  show pa_w G x 5 h 0 0 0 [some (pv_o 5 0), some (pv_i sp), some (pv_i a9), some (pv_i v), none] []
  refine pr_aload_n (pc := 0) C dX4_believe_0 rfl ?_
  have j20_1 : pa_w G x 5 h 0 0 20 [some (pv_o 5 0), some (pv_i sp), some (pv_i a9), some (pv_i v), none] [pv_i (pz_b (ms_in sp 0 3 && ms_in a9 0 9)), pv_o 5 0] := by
    refine pr_iload_n (pc := 20) C dX4_believe_20 rfl ?_
    refine pr_iconst (pc := 21) (v := 0) C dX4_believe_21 (by decide) ?_
    refine pr_iconst (pc := 22) (v := 2) C dX4_believe_22 (by decide) ?_
    refine pr_sP (pc := 23) C (c_X4_in G _ h v (0 : Int32) (2 : Int32)) ws_X4_102 rfl rfl (by decide) (Nat.le_of_ble_eq_true rfl) (by omega) (by omega) dX4_believe_23 ?_
    refine pr_iconst (pc := 26) (v := 1) C dX4_believe_26 (by decide) ?_
    refine pr_vR (pc := 27) C (c_X4_goesN G _ h (ms_in sp 0 3 && ms_in a9 0 9) (ms_in v (0 : Int32) (2 : Int32)) true hn) wv_X4_110 rfl rfl (by decide) (by decide) (pl_5 _) (Nat.le_of_ble_eq_true rfl) (by omega) (by omega) dX4_believe_27 ?_
    refine pr_if_ne (pc := 30) C 35 dX4_believe_30 (by decide) (fun c_30 => absurd c_30 (by decide)) (fun _ => ?_)
    refine pr_iconst (pc := 33) (v := 0) C dX4_believe_33 (by decide) ?_
    exact pr_iret (pc := 34) C E (Or.inl rfl) (by omega) (by omega) ⟨rfl, rfl⟩ dX4_believe_34
  refine pr_iload_n (pc := 1) C dX4_believe_1 rfl ?_
  refine pr_sP (pc := 2) C (c_X4_isSpeaker G _ h sp) ws_X4_106 rfl rfl (by decide) (Nat.le_of_ble_eq_true rfl) (by omega) (by omega) dX4_believe_2 ?_
  refine pr_ifb_eq (pc := 5) C 19 dX4_believe_5 (by decide) (fun c_5 => ?_) (fun c_5 => ?_)
  · refine pr_iconst (pc := 19) (v := 0) C dX4_believe_19 (by decide) ?_
    exact pr_eqi (show (0 : Int32) = (pz_b (ms_in sp 0 3 && ms_in a9 0 9)) from (by simp [-Int32.not_le, -Int32.not_lt, pz_b, pz_lt, c_5])) j20_1
  · refine pr_iload_n (pc := 8) C dX4_believe_8 rfl ?_
    refine pr_sP (pc := 9) C (c_X4_isAtom G _ h a9) ws_X4_118 rfl rfl (by decide) (Nat.le_of_ble_eq_true rfl) (by omega) (by omega) dX4_believe_9 ?_
    refine pr_ifb_eq (pc := 12) C 19 dX4_believe_12 (by decide) (fun c_12 => ?_) (fun c_12 => ?_)
    · refine pr_iconst (pc := 19) (v := 0) C dX4_believe_19 (by decide) ?_
      exact pr_eqi (show (0 : Int32) = (pz_b (ms_in sp 0 3 && ms_in a9 0 9)) from (by simp [-Int32.not_le, -Int32.not_lt, pz_b, pz_lt, c_5, c_12])) j20_1
    · refine pr_iconst (pc := 15) (v := 1) C dX4_believe_15 (by decide) ?_
      refine pr_goto (pc := 16) C 20 dX4_believe_16 (by decide) ?_
      exact pr_eqi (show (1 : Int32) = (pz_b (ms_in sp 0 3 && ms_in a9 0 9)) from (by simp [-Int32.not_le, -Int32.not_lt, pz_b, pz_lt, c_5, c_12])) j20_1

set_option maxRecDepth 100000 in
set_option maxHeartbeats 2000000 in
theorem c_X4_deafenY (G : pa_G) (l : Launch) (h : pa_H) (sp p : Nat) (hs : sp < 4) (hp : p ≤ 20) : pa_MR G l mX4_deafen 5 [pv_o 5 0, pv_i (nI sp), pv_i (nI p)] h (h.1, pa_us (pa_us h.2.1 235 0 0) 206 sp (h.2.1 200 0 + nI p), h.2.2) (pv_i (h.2.1 200 0 + nI p)) := by
  refine pa_go l (by decide) (by simp [pa_c1l, pa_c1]) (fun _ => rfl) fun x C E el ea => ?_
  subst el
  show pa_w G x 3 h 0 0 0 [some (pv_o 5 0), some (pv_i (nI sp)), some (pv_i (nI p))] []
  refine pr_aload_n (pc := 0) C dX4_deafen_0 rfl ?_
  refine pr_iload_n (pc := 1) C dX4_deafen_1 rfl ?_
  refine pr_sP (pc := 2) C (c_X4_isSpeaker G _ h (nI sp)) ws_X4_106 rfl rfl (by decide) (Nat.le_of_ble_eq_true rfl) (by omega) (by omega) dX4_deafen_2 ?_
  refine pr_iload_n (pc := 5) C dX4_deafen_5 rfl ?_
  refine pr_iconst (pc := 6) (v := 0) C dX4_deafen_6 (by decide) ?_
  refine pr_bipush (pc := 7) (v := 20) C dX4_deafen_7 (by decide) ?_
  refine pr_sP (pc := 9) C (c_X4_in G _ h (nI p) (0 : Int32) (20 : Int32)) ws_X4_102 rfl rfl (by decide) (Nat.le_of_ble_eq_true rfl) (by omega) (by omega) dX4_deafen_9 ?_
  refine pr_iconst (pc := 12) (v := 1) C dX4_deafen_12 (by decide) ?_
  refine pr_vR (pc := 13) C (c_X4_goesY G _ h (ms_in (nI sp) 0 3) (ms_in (nI p) (0 : Int32) (20 : Int32)) true (ms_in4 hs) (ms_in0 20 rfl hp (by decide)) rfl) wv_X4_110 rfl rfl (by decide) (by decide) (pl_5 _) (Nat.le_of_ble_eq_true rfl) (by omega) (by omega) dX4_deafen_13 ?_
  refine pr_if_ne (pc := 16) C 21 dX4_deafen_16 (by decide) (fun _ => ?_) (fun c_16 => absurd c_16 (by decide))
  refine pr_aload_n (pc := 21) C dX4_deafen_21 rfl ?_
  refine pr_geta (pc := 22) C 206 306 wf_X4_23 rfl rfl (by decide) (pl_5 _) dX4_deafen_22 ?_
  refine pr_iload_n (pc := 25) C dX4_deafen_25 rfl ?_
  refine pr_aload_n (pc := 26) C dX4_deafen_26 rfl ?_
  refine pr_getm (pc := 27) C 200 wf_X4_121 rfl (by decide) (pl_5 _) dX4_deafen_27 ?_
  refine pr_eqi (v := h.2.1 200 0) rfl ?_
  refine pr_iload_n (pc := 30) C dX4_deafen_30 rfl ?_
  refine pr_iadd (pc := 31) C dX4_deafen_31 ?_
  refine pr_astm (pc := 32) (n := 4) C 206 sp rfl (by decide) rfl rfl (pl_r5 (by decide)) rfl (by omega) (by decide) dX4_deafen_32 ?_
  refine pr_aload_n (pc := 33) C dX4_deafen_33 rfl ?_
  refine pr_geta (pc := 34) C 206 306 wf_X4_23 rfl rfl (by decide) (pl_5 _) dX4_deafen_34 ?_
  refine pr_iload_n (pc := 37) C dX4_deafen_37 rfl ?_
  refine pr_aldm (pc := 38) (n := 4) C 206 sp rfl rfl rfl (pl_r5 (by decide)) rfl (by omega) (by decide) dX4_deafen_38 ?_
  refine pr_eqi (v := ((h.2.1 200 0) + (nI p))) (pa_us_self _ _ _ _) ?_
  exact pr_iret (pc := 39) C E (Or.inl rfl) (by omega) (by omega) ⟨rfl, rfl⟩ dX4_deafen_39

set_option maxRecDepth 100000 in
set_option maxHeartbeats 2000000 in
theorem c_X4_deafenN (G : pa_G) (l : Launch) (h : pa_H) (sp p : Int32) (hn : ((ms_in sp 0 3) && (ms_in p 0 20) && true) = false) : pa_MR G l mX4_deafen 5 [pv_o 5 0, pv_i sp, pv_i p] h (h.1, pa_us h.2.1 235 0 (ms_thr (ms_in sp 0 3) (ms_in p 0 20) true), h.2.2) (pv_i 0) := by
  refine pa_go l (by decide) (by simp [pa_c1l, pa_c1]) (fun _ => rfl) fun x C E el ea => ?_
  subst el
  show pa_w G x 3 h 0 0 0 [some (pv_o 5 0), some (pv_i sp), some (pv_i p)] []
  refine pr_aload_n (pc := 0) C dX4_deafen_0 rfl ?_
  refine pr_iload_n (pc := 1) C dX4_deafen_1 rfl ?_
  refine pr_sP (pc := 2) C (c_X4_isSpeaker G _ h sp) ws_X4_106 rfl rfl (by decide) (Nat.le_of_ble_eq_true rfl) (by omega) (by omega) dX4_deafen_2 ?_
  refine pr_iload_n (pc := 5) C dX4_deafen_5 rfl ?_
  refine pr_iconst (pc := 6) (v := 0) C dX4_deafen_6 (by decide) ?_
  refine pr_bipush (pc := 7) (v := 20) C dX4_deafen_7 (by decide) ?_
  refine pr_sP (pc := 9) C (c_X4_in G _ h p (0 : Int32) (20 : Int32)) ws_X4_102 rfl rfl (by decide) (Nat.le_of_ble_eq_true rfl) (by omega) (by omega) dX4_deafen_9 ?_
  refine pr_iconst (pc := 12) (v := 1) C dX4_deafen_12 (by decide) ?_
  refine pr_vR (pc := 13) C (c_X4_goesN G _ h (ms_in sp 0 3) (ms_in p (0 : Int32) (20 : Int32)) true hn) wv_X4_110 rfl rfl (by decide) (by decide) (pl_5 _) (Nat.le_of_ble_eq_true rfl) (by omega) (by omega) dX4_deafen_13 ?_
  refine pr_if_ne (pc := 16) C 21 dX4_deafen_16 (by decide) (fun c_16 => absurd c_16 (by decide)) (fun _ => ?_)
  refine pr_iconst (pc := 19) (v := 0) C dX4_deafen_19 (by decide) ?_
  exact pr_iret (pc := 20) C E (Or.inl rfl) (by omega) (by omega) ⟨rfl, rfl⟩ dX4_deafen_20

set_option maxRecDepth 100000 in
set_option maxHeartbeats 2000000 in
theorem c_X4_giveY (G : pa_G) (l : Launch) (h : pa_H) (g : Nat) (v : Int32) (hg : g < 8) (hv : ms_in v (-1) 3 = true) : pa_MR G l mX4_give 5 [pv_o 5 0, pv_i (nI g), pv_i v] h (h.1, pa_us (pa_us h.2.1 235 0 0) 213 g v, h.2.2) (pv_i (h.2.1 213 g)) := by
  refine pa_go l (by decide) (by simp [pa_c1l, pa_c1]) (fun _ => rfl) fun x C E el ea => ?_
  subst el
  show pa_w G x 4 h 0 0 0 [some (pv_o 5 0), some (pv_i (nI g)), some (pv_i v), none] []
  refine pr_aload_n (pc := 0) C dX4_give_0 rfl ?_
  have j25_1 : pa_w G x 4 h 0 0 25 [some (pv_o 5 0), some (pv_i (nI g)), some (pv_i v), none] [pv_i (pz_b (ms_in (nI g) 0 7 && ms_in v (-1) 3)), pv_o 5 0] := by
    refine pr_iconst (pc := 25) (v := 1) C dX4_give_25 (by decide) ?_
    refine pr_iconst (pc := 26) (v := 1) C dX4_give_26 (by decide) ?_
    refine pr_vR (pc := 27) C (c_X4_goesY G _ h (ms_in (nI g) 0 7 && ms_in v (-1) 3) true true (by simp [ms_in8 hg, hv]) rfl rfl) wv_X4_110 rfl rfl (by decide) (by decide) (pl_5 _) (Nat.le_of_ble_eq_true rfl) (by omega) (by omega) dX4_give_27 ?_
    refine pr_if_ne (pc := 30) C 35 dX4_give_30 (by decide) (fun _ => ?_) (fun c_30 => absurd c_30 (by decide))
    refine pr_aload_n (pc := 35) C dX4_give_35 rfl ?_
    refine pr_geta (pc := 36) C 213 313 wf_X4_44 rfl rfl (by decide) (pl_5 _) dX4_give_36 ?_
    refine pr_iload_n (pc := 39) C dX4_give_39 rfl ?_
    refine pr_aldm (pc := 40) (n := 8) C 213 g rfl rfl rfl (pl_r5 (by decide)) rfl (by omega) (by decide) dX4_give_40 ?_
    refine pr_eqi (v := h.2.1 213 g) rfl ?_
    refine pr_istore_n (pc := 41) C dX4_give_41 (by decide) ?_
    refine pr_aload_n (pc := 42) C dX4_give_42 rfl ?_
    refine pr_geta (pc := 43) C 213 313 wf_X4_44 rfl rfl (by decide) (pl_5 _) dX4_give_43 ?_
    refine pr_iload_n (pc := 46) C dX4_give_46 rfl ?_
    refine pr_iload_n (pc := 47) C dX4_give_47 rfl ?_
    refine pr_astm (pc := 48) (n := 8) C 213 g rfl (by decide) rfl rfl (pl_r5 (by decide)) rfl (by omega) (by decide) dX4_give_48 ?_
    refine pr_iload_n (pc := 49) C dX4_give_49 rfl ?_
    exact pr_iret (pc := 50) C E (Or.inl rfl) (by omega) (by omega) ⟨rfl, rfl⟩ dX4_give_50
  refine pr_iload_n (pc := 1) C dX4_give_1 rfl ?_
  refine pr_iconst (pc := 2) (v := 0) C dX4_give_2 (by decide) ?_
  refine pr_bipush (pc := 3) (v := 7) C dX4_give_3 (by decide) ?_
  refine pr_sP (pc := 5) C (c_X4_in G _ h (nI g) (0 : Int32) (7 : Int32)) ws_X4_102 rfl rfl (by decide) (Nat.le_of_ble_eq_true rfl) (by omega) (by omega) dX4_give_5 ?_
  refine pr_ifb_eq (pc := 8) C 24 dX4_give_8 (by decide) (fun c_8 => ?_) (fun c_8 => ?_)
  · refine pr_iconst (pc := 24) (v := 0) C dX4_give_24 (by decide) ?_
    exact pr_eqi (show (0 : Int32) = (pz_b (ms_in (nI g) 0 7 && ms_in v (-1) 3)) from (by simp [-Int32.not_le, -Int32.not_lt, pz_b, pz_lt, c_8])) j25_1
  · refine pr_iload_n (pc := 11) C dX4_give_11 rfl ?_
    refine pr_iconst (pc := 12) (v := -1) C dX4_give_12 (by decide) ?_
    refine pr_iconst (pc := 13) (v := 3) C dX4_give_13 (by decide) ?_
    refine pr_sP (pc := 14) C (c_X4_in G _ h v (-1 : Int32) (3 : Int32)) ws_X4_102 rfl rfl (by decide) (Nat.le_of_ble_eq_true rfl) (by omega) (by omega) dX4_give_14 ?_
    refine pr_ifb_eq (pc := 17) C 24 dX4_give_17 (by decide) (fun c_17 => ?_) (fun c_17 => ?_)
    · refine pr_iconst (pc := 24) (v := 0) C dX4_give_24 (by decide) ?_
      exact pr_eqi (show (0 : Int32) = (pz_b (ms_in (nI g) 0 7 && ms_in v (-1) 3)) from (by simp [-Int32.not_le, -Int32.not_lt, pz_b, pz_lt, c_8, c_17])) j25_1
    · refine pr_iconst (pc := 20) (v := 1) C dX4_give_20 (by decide) ?_
      refine pr_goto (pc := 21) C 25 dX4_give_21 (by decide) ?_
      exact pr_eqi (show (1 : Int32) = (pz_b (ms_in (nI g) 0 7 && ms_in v (-1) 3)) from (by simp [-Int32.not_le, -Int32.not_lt, pz_b, pz_lt, c_8, c_17])) j25_1

set_option maxRecDepth 100000 in
set_option maxHeartbeats 2000000 in
theorem c_X4_giveN (G : pa_G) (l : Launch) (h : pa_H) (g v : Int32) (hn : ((ms_in g 0 7 && ms_in v (-1) 3) && true && true) = false) : pa_MR G l mX4_give 5 [pv_o 5 0, pv_i g, pv_i v] h (h.1, pa_us h.2.1 235 0 (ms_thr (ms_in g 0 7 && ms_in v (-1) 3) true true), h.2.2) (pv_i 0) := by
  refine pa_go l (by decide) (by simp [pa_c1l, pa_c1]) (fun _ => rfl) fun x C E el ea => ?_
  subst el
  show pa_w G x 4 h 0 0 0 [some (pv_o 5 0), some (pv_i g), some (pv_i v), none] []
  refine pr_aload_n (pc := 0) C dX4_give_0 rfl ?_
  have j25_1 : pa_w G x 4 h 0 0 25 [some (pv_o 5 0), some (pv_i g), some (pv_i v), none] [pv_i (pz_b (ms_in g 0 7 && ms_in v (-1) 3)), pv_o 5 0] := by
    refine pr_iconst (pc := 25) (v := 1) C dX4_give_25 (by decide) ?_
    refine pr_iconst (pc := 26) (v := 1) C dX4_give_26 (by decide) ?_
    refine pr_vR (pc := 27) C (c_X4_goesN G _ h (ms_in g 0 7 && ms_in v (-1) 3) true true hn) wv_X4_110 rfl rfl (by decide) (by decide) (pl_5 _) (Nat.le_of_ble_eq_true rfl) (by omega) (by omega) dX4_give_27 ?_
    refine pr_if_ne (pc := 30) C 35 dX4_give_30 (by decide) (fun c_30 => absurd c_30 (by decide)) (fun _ => ?_)
    refine pr_iconst (pc := 33) (v := 0) C dX4_give_33 (by decide) ?_
    exact pr_iret (pc := 34) C E (Or.inl rfl) (by omega) (by omega) ⟨rfl, rfl⟩ dX4_give_34
  refine pr_iload_n (pc := 1) C dX4_give_1 rfl ?_
  refine pr_iconst (pc := 2) (v := 0) C dX4_give_2 (by decide) ?_
  refine pr_bipush (pc := 3) (v := 7) C dX4_give_3 (by decide) ?_
  refine pr_sP (pc := 5) C (c_X4_in G _ h g (0 : Int32) (7 : Int32)) ws_X4_102 rfl rfl (by decide) (Nat.le_of_ble_eq_true rfl) (by omega) (by omega) dX4_give_5 ?_
  refine pr_ifb_eq (pc := 8) C 24 dX4_give_8 (by decide) (fun c_8 => ?_) (fun c_8 => ?_)
  · refine pr_iconst (pc := 24) (v := 0) C dX4_give_24 (by decide) ?_
    exact pr_eqi (show (0 : Int32) = (pz_b (ms_in g 0 7 && ms_in v (-1) 3)) from (by simp [-Int32.not_le, -Int32.not_lt, pz_b, pz_lt, c_8])) j25_1
  · refine pr_iload_n (pc := 11) C dX4_give_11 rfl ?_
    refine pr_iconst (pc := 12) (v := -1) C dX4_give_12 (by decide) ?_
    refine pr_iconst (pc := 13) (v := 3) C dX4_give_13 (by decide) ?_
    refine pr_sP (pc := 14) C (c_X4_in G _ h v (-1 : Int32) (3 : Int32)) ws_X4_102 rfl rfl (by decide) (Nat.le_of_ble_eq_true rfl) (by omega) (by omega) dX4_give_14 ?_
    refine pr_ifb_eq (pc := 17) C 24 dX4_give_17 (by decide) (fun c_17 => ?_) (fun c_17 => ?_)
    · refine pr_iconst (pc := 24) (v := 0) C dX4_give_24 (by decide) ?_
      exact pr_eqi (show (0 : Int32) = (pz_b (ms_in g 0 7 && ms_in v (-1) 3)) from (by simp [-Int32.not_le, -Int32.not_lt, pz_b, pz_lt, c_8, c_17])) j25_1
    · refine pr_iconst (pc := 20) (v := 1) C dX4_give_20 (by decide) ?_
      refine pr_goto (pc := 21) C 25 dX4_give_21 (by decide) ?_
      exact pr_eqi (show (1 : Int32) = (pz_b (ms_in g 0 7 && ms_in v (-1) 3)) from (by simp [-Int32.not_le, -Int32.not_lt, pz_b, pz_lt, c_8, c_17])) j25_1

set_option maxRecDepth 100000 in
set_option maxHeartbeats 2000000 in
theorem c_X4_strict (G : pa_G) (l : Launch) (h : pa_H) (is : Int32) (hb : is = 0 ∨ is = 1) (h1 : h.2.1 201 0 = 0 ∨ h.2.1 201 0 = 1) : pa_MR G l mX4_strict 1 [pv_o 5 0, pv_i is] h (h.1, pa_us (pa_us h.2.1 235 0 0) 201 0 is, h.2.2) (pv_i (h.2.1 201 0)) := by
  refine pa_go l (by decide) (by simp [pa_c1l, pa_c1]) (fun _ => rfl) fun x C E el ea => ?_
  subst el
  show pa_w G x 3 h 0 0 0 [some (pv_o 5 0), some (pv_i is), none] []
  refine pr_aload_n (pc := 0) C dX4_strict_0 rfl ?_
  refine pr_iconst (pc := 1) (v := 0) C dX4_strict_1 (by decide) ?_
  refine pr_putm (pc := 2) C 235 wp_X4_99 rfl (by decide) rfl (pl_5 _) dX4_strict_2 ?_
  refine pr_aload_n (pc := 5) C dX4_strict_5 rfl ?_
  refine pr_getm (pc := 6) C 201 wf_X4_124 rfl (by decide) (pl_5 _) dX4_strict_6 ?_
  refine pr_eqi (v := h.2.1 201 0) rfl ?_
  refine pr_istore_n (pc := 9) C dX4_strict_9 (by decide) ?_
  refine pr_aload_n (pc := 10) C dX4_strict_10 rfl ?_
  refine pr_iload_n (pc := 11) C dX4_strict_11 rfl ?_
  refine pr_putn (pc := 12) C 201 wp_X4_124 rfl (by decide) rfl hb (pl_5 _) dX4_strict_12 ?_
  refine pr_iload_n (pc := 15) C dX4_strict_15 rfl ?_
  exact pr_iret (pc := 16) C E (Or.inr ⟨rfl, h1⟩) (by omega) (by omega) ⟨rfl, rfl⟩ dX4_strict_16

set_option maxRecDepth 100000 in
set_option maxHeartbeats 2000000 in
theorem c_X4_told (G : pa_G) (l : Launch) (h : pa_H) (v : Int32) : pa_MR G l mX4_told 1 [pv_o 5 0, pv_i v] h (h.1, (pa_us h.2.1 235 0 0), h.2.2) (pv_i v) := by
  refine pa_go l (by decide) (by simp [pa_c1l, pa_c1]) (fun _ => rfl) fun x C E el ea => ?_
  subst el
  show pa_w G x 2 h 0 0 0 [some (pv_o 5 0), some (pv_i v)] []
  refine pr_aload_n (pc := 0) C dX4_told_0 rfl ?_
  refine pr_iconst (pc := 1) (v := 0) C dX4_told_1 (by decide) ?_
  refine pr_putm (pc := 2) C 235 wp_X4_99 rfl (by decide) rfl (pl_5 _) dX4_told_2 ?_
  refine pr_iload_n (pc := 5) C dX4_told_5 rfl ?_
  exact pr_iret (pc := 6) C E (Or.inl rfl) (by omega) (by omega) ⟨rfl, rfl⟩ dX4_told_6

set_option maxRecDepth 100000 in
set_option maxHeartbeats 2000000 in
theorem c_X4_clock (G : pa_G) (l : Launch) (h : pa_H)  : pa_MR G l mX4_clock 5 [pv_o 5 0] h (h.1, (pa_us h.2.1 235 0 0), h.2.2) (pv_i (h.2.1 200 0)) := by
  refine pa_go l (by decide) (by simp [pa_c1l, pa_c1]) (fun _ => rfl) fun x C E el ea => ?_
  subst el
  show pa_w G x 1 h 0 0 0 [some (pv_o 5 0)] []
  refine pr_aload_n (pc := 0) C dX4_clock_0 rfl ?_
  refine pr_aload_n (pc := 1) C dX4_clock_1 rfl ?_
  refine pr_getm (pc := 2) C 200 wf_X4_121 rfl (by decide) (pl_5 _) dX4_clock_2 ?_
  refine pr_vR (pc := 5) C (c_X4_told G _ h (h.2.1 200 0)) wv_X4_246 rfl rfl (by decide) (by decide) (pl_5 _) (Nat.le_of_ble_eq_true rfl) (by omega) (by omega) dX4_clock_5 ?_
  exact pr_iret (pc := 8) C E (Or.inl rfl) (by omega) (by omega) ⟨rfl, rfl⟩ dX4_clock_8

set_option maxRecDepth 100000 in
set_option maxHeartbeats 2000000 in
theorem c_X4_next (G : pa_G) (l : Launch) (h : pa_H)  : pa_MR G l mX4_next 5 [pv_o 5 0] h (h.1, (pa_us h.2.1 235 0 0), h.2.2) (pv_i (ms_holder h.2.1)) := by
  refine pa_go l (by decide) (by simp [pa_c1l, pa_c1]) (fun _ => rfl) fun x C E el ea => ?_
  subst el
  show pa_w G x 1 h 0 0 0 [some (pv_o 5 0)] []
  refine pr_aload_n (pc := 0) C dX4_next_0 rfl ?_
  refine pr_aload_n (pc := 1) C dX4_next_1 rfl ?_
  refine pr_vP (pc := 2) C (c_X4_holder G _ h) wv_X4_225 rfl rfl (by decide) (by decide) (pl_5 _) (Nat.le_of_ble_eq_true rfl) (by omega) (by omega) dX4_next_2 ?_
  refine pr_vR (pc := 5) C (c_X4_told G _ h (ms_holder h.2.1)) wv_X4_246 rfl rfl (by decide) (by decide) (pl_5 _) (Nat.le_of_ble_eq_true rfl) (by omega) (by omega) dX4_next_5 ?_
  exact pr_iret (pc := 8) C E (Or.inl rfl) (by omega) (by omega) ⟨rfl, rfl⟩ dX4_next_8

set_option maxRecDepth 100000 in
set_option maxHeartbeats 2000000 in
theorem c_X4_said (G : pa_G) (l : Launch) (h : pa_H)  : pa_MR G l mX4_said 5 [pv_o 5 0] h (h.1, (pa_us h.2.1 235 0 0), h.2.2) (pv_i (h.2.1 217 0)) := by
  refine pa_go l (by decide) (by simp [pa_c1l, pa_c1]) (fun _ => rfl) fun x C E el ea => ?_
  subst el
  show pa_w G x 1 h 0 0 0 [some (pv_o 5 0)] []
  refine pr_aload_n (pc := 0) C dX4_said_0 rfl ?_
  refine pr_aload_n (pc := 1) C dX4_said_1 rfl ?_
  refine pr_getm (pc := 2) C 217 wf_X4_131 rfl (by decide) (pl_5 _) dX4_said_2 ?_
  refine pr_vR (pc := 5) C (c_X4_told G _ h (h.2.1 217 0)) wv_X4_246 rfl rfl (by decide) (by decide) (pl_5 _) (Nat.le_of_ble_eq_true rfl) (by omega) (by omega) dX4_said_5 ?_
  exact pr_iret (pc := 8) C E (Or.inl rfl) (by omega) (by omega) ⟨rfl, rfl⟩ dX4_said_8

set_option maxRecDepth 100000 in
set_option maxHeartbeats 2000000 in
theorem c_X4_questions (G : pa_G) (l : Launch) (h : pa_H)  : pa_MR G l mX4_questions 5 [pv_o 5 0] h (h.1, (pa_us h.2.1 235 0 0), h.2.2) (pv_i (h.2.1 231 0)) := by
  refine pa_go l (by decide) (by simp [pa_c1l, pa_c1]) (fun _ => rfl) fun x C E el ea => ?_
  subst el
  show pa_w G x 1 h 0 0 0 [some (pv_o 5 0)] []
  refine pr_aload_n (pc := 0) C dX4_questions_0 rfl ?_
  refine pr_aload_n (pc := 1) C dX4_questions_1 rfl ?_
  refine pr_getm (pc := 2) C 231 wf_X4_141 rfl (by decide) (pl_5 _) dX4_questions_2 ?_
  refine pr_vR (pc := 5) C (c_X4_told G _ h (h.2.1 231 0)) wv_X4_246 rfl rfl (by decide) (by decide) (pl_5 _) (Nat.le_of_ble_eq_true rfl) (by omega) (by omega) dX4_questions_5 ?_
  exact pr_iret (pc := 8) C E (Or.inl rfl) (by omega) (by omega) ⟨rfl, rfl⟩ dX4_questions_8

set_option maxRecDepth 100000 in
set_option maxHeartbeats 2000000 in
theorem c_X4_deals (G : pa_G) (l : Launch) (h : pa_H)  : pa_MR G l mX4_deals 5 [pv_o 5 0] h (h.1, (pa_us h.2.1 235 0 0), h.2.2) (pv_i (h.2.1 214 0)) := by
  refine pa_go l (by decide) (by simp [pa_c1l, pa_c1]) (fun _ => rfl) fun x C E el ea => ?_
  subst el
  show pa_w G x 1 h 0 0 0 [some (pv_o 5 0)] []
  refine pr_aload_n (pc := 0) C dX4_deals_0 rfl ?_
  refine pr_aload_n (pc := 1) C dX4_deals_1 rfl ?_
  refine pr_getm (pc := 2) C 214 wf_X4_219 rfl (by decide) (pl_5 _) dX4_deals_2 ?_
  refine pr_vR (pc := 5) C (c_X4_told G _ h (h.2.1 214 0)) wv_X4_246 rfl rfl (by decide) (by decide) (pl_5 _) (Nat.le_of_ble_eq_true rfl) (by omega) (by omega) dX4_deals_5 ?_
  exact pr_iret (pc := 8) C E (Or.inl rfl) (by omega) (by omega) ⟨rfl, rfl⟩ dX4_deals_8

set_option maxRecDepth 100000 in
set_option maxHeartbeats 2000000 in
theorem c_X4_thrown (G : pa_G) (l : Launch) (h : pa_H)  : pa_MP G l mX4_thrown 1 [pv_o 5 0] h (pv_i (h.2.1 235 0)) := by
  refine pa_go l (by decide) (by simp [pa_c1l, pa_c1]) (fun _ => rfl) fun x C E el ea => ?_
  subst el
  show pa_w G x 1 h 0 0 0 [some (pv_o 5 0)] []
  refine pr_aload_n (pc := 0) C dX4_thrown_0 rfl ?_
  refine pr_getm (pc := 1) C 235 wf_X4_99 rfl (by decide) (pl_5 _) dX4_thrown_1 ?_
  exact pr_iret (pc := 4) C E (Or.inl rfl) (by omega) (by omega) ⟨rfl, rfl⟩ dX4_thrown_4

set_option maxRecDepth 100000 in
set_option maxHeartbeats 2000000 in
theorem c_X4_isCell (G : pa_G) (l : Launch) (h : pa_H) (v u : Int32) : pa_MP G l mX4_isCell 3 [pv_o 5 0, pv_i v, pv_i u] h (pv_i (pz_b (ms_in v 0 3 && ms_in u 0 9))) := by
  refine pa_go l (by decide) (by simp [pa_c1l, pa_c1]) (fun _ => rfl) fun x C E el ea => ?_
  subst el
  show pa_w G x 3 h 0 0 0 [some (pv_o 5 0), some (pv_i v), some (pv_i u)] []
  refine pr_iload_n (pc := 0) C dX4_isCell_0 rfl ?_
  refine pr_sP (pc := 1) C (c_X4_isSpeaker G _ h v) ws_X4_106 rfl rfl (by decide) (Nat.le_of_ble_eq_true rfl) (by omega) (by omega) dX4_isCell_1 ?_
  refine pr_ifb_eq (pc := 4) C 18 dX4_isCell_4 (by decide) (fun c_4 => ?_) (fun c_4 => ?_)
  · refine pr_iconst (pc := 18) (v := 0) C dX4_isCell_18 (by decide) ?_
    exact pr_iret (pc := 19) C E (Or.inr ⟨rfl, (by decide)⟩) (by omega) (by omega) ⟨(by simp [-Int32.not_le, -Int32.not_lt, pz_b, pz_lt, c_4]), rfl⟩ dX4_isCell_19
  · refine pr_iload_n (pc := 7) C dX4_isCell_7 rfl ?_
    refine pr_sP (pc := 8) C (c_X4_isAtom G _ h u) ws_X4_118 rfl rfl (by decide) (Nat.le_of_ble_eq_true rfl) (by omega) (by omega) dX4_isCell_8 ?_
    refine pr_ifb_eq (pc := 11) C 18 dX4_isCell_11 (by decide) (fun c_11 => ?_) (fun c_11 => ?_)
    · refine pr_iconst (pc := 18) (v := 0) C dX4_isCell_18 (by decide) ?_
      exact pr_iret (pc := 19) C E (Or.inr ⟨rfl, (by decide)⟩) (by omega) (by omega) ⟨(by simp [-Int32.not_le, -Int32.not_lt, pz_b, pz_lt, c_4, c_11]), rfl⟩ dX4_isCell_19
    · refine pr_iconst (pc := 14) (v := 1) C dX4_isCell_14 (by decide) ?_
      refine pr_goto (pc := 15) C 19 dX4_isCell_15 (by decide) ?_
      exact pr_iret (pc := 19) C E (Or.inr ⟨rfl, (by decide)⟩) (by omega) (by omega) ⟨(by simp [-Int32.not_le, -Int32.not_lt, pz_b, pz_lt, c_4, c_11]), rfl⟩ dX4_isCell_19

set_option maxRecDepth 100000 in
set_option maxHeartbeats 2000000 in
theorem c_X4_standY (G : pa_G) (l : Launch) (h : pa_H) (sp a9 : Nat) (hs : sp < 4) (ha : a9 < 10) : pa_MR G l mX4_stand 5 [pv_o 5 0, pv_i (nI sp), pv_i (nI a9)] h (h.1, (pa_us h.2.1 235 0 0), h.2.2) (pv_i (h.2.1 208 (10 * sp + a9))) := by
  refine pa_go l (by decide) (by simp [pa_c1l, pa_c1]) (fun _ => rfl) fun x C E el ea => ?_
  subst el
  show pa_w G x 3 h 0 0 0 [some (pv_o 5 0), some (pv_i (nI sp)), some (pv_i (nI a9))] []
  refine pr_aload_n (pc := 0) C dX4_stand_0 rfl ?_
  refine pr_aload_n (pc := 1) C dX4_stand_1 rfl ?_
  refine pr_iload_n (pc := 2) C dX4_stand_2 rfl ?_
  refine pr_iload_n (pc := 3) C dX4_stand_3 rfl ?_
  refine pr_vP (pc := 4) C (c_X4_isCell G _ h (nI sp) (nI a9)) wv_X4_253 rfl rfl (by decide) (by decide) (pl_5 _) (Nat.le_of_ble_eq_true rfl) (by omega) (by omega) dX4_stand_4 ?_
  refine pr_iconst (pc := 7) (v := 1) C dX4_stand_7 (by decide) ?_
  refine pr_iconst (pc := 8) (v := 1) C dX4_stand_8 (by decide) ?_
  refine pr_vR (pc := 9) C (c_X4_goesY G _ h (ms_in (nI sp) 0 3 && ms_in (nI a9) 0 9) true true (by simp [ms_in4 hs, ms_in10 ha]) rfl rfl) wv_X4_110 rfl rfl (by decide) (by decide) (pl_5 _) (Nat.le_of_ble_eq_true rfl) (by omega) (by omega) dX4_stand_9 ?_
  refine pr_if_eq (pc := 12) C 29 dX4_stand_12 (by decide) (fun c_12 => absurd c_12 (by decide)) (fun _ => ?_)
  refine pr_aload_n (pc := 15) C dX4_stand_15 rfl ?_
  refine pr_geta (pc := 16) C 208 308 wf_X4_29 rfl rfl (by decide) (pl_5 _) dX4_stand_16 ?_
  refine pr_bipush (pc := 19) (v := 10) C dX4_stand_19 (by decide) ?_
  refine pr_iload_n (pc := 21) C dX4_stand_21 rfl ?_
  refine pr_imulN (pc := 22) C dX4_stand_22 10 sp rfl rfl ?_
  refine pr_iload_n (pc := 23) C dX4_stand_23 rfl ?_
  refine pr_iaddN (pc := 24) C dX4_stand_24 (10 * sp) a9 rfl rfl ?_
  refine pr_aldm (pc := 25) (n := 40) C 208 ((10 * sp) + a9) rfl rfl rfl (pl_r5 (by decide)) rfl (by omega) (by decide) dX4_stand_25 ?_
  refine pr_eqi (v := h.2.1 208 ((10 * sp) + a9)) rfl ?_
  refine pr_goto (pc := 26) C 30 dX4_stand_26 (by decide) ?_
  exact pr_iret (pc := 30) C E (Or.inl rfl) (by omega) (by omega) ⟨rfl, rfl⟩ dX4_stand_30

set_option maxRecDepth 100000 in
set_option maxHeartbeats 2000000 in
theorem c_X4_standN (G : pa_G) (l : Launch) (h : pa_H) (sp a9 : Int32) (hn : ((ms_in sp 0 3 && ms_in a9 0 9) && true && true) = false) : pa_MR G l mX4_stand 5 [pv_o 5 0, pv_i sp, pv_i a9] h (h.1, pa_us h.2.1 235 0 (ms_thr (ms_in sp 0 3 && ms_in a9 0 9) true true), h.2.2) (pv_i 0) := by
  refine pa_go l (by decide) (by simp [pa_c1l, pa_c1]) (fun _ => rfl) fun x C E el ea => ?_
  subst el
  show pa_w G x 3 h 0 0 0 [some (pv_o 5 0), some (pv_i sp), some (pv_i a9)] []
  refine pr_aload_n (pc := 0) C dX4_stand_0 rfl ?_
  refine pr_aload_n (pc := 1) C dX4_stand_1 rfl ?_
  refine pr_iload_n (pc := 2) C dX4_stand_2 rfl ?_
  refine pr_iload_n (pc := 3) C dX4_stand_3 rfl ?_
  refine pr_vP (pc := 4) C (c_X4_isCell G _ h sp a9) wv_X4_253 rfl rfl (by decide) (by decide) (pl_5 _) (Nat.le_of_ble_eq_true rfl) (by omega) (by omega) dX4_stand_4 ?_
  refine pr_iconst (pc := 7) (v := 1) C dX4_stand_7 (by decide) ?_
  refine pr_iconst (pc := 8) (v := 1) C dX4_stand_8 (by decide) ?_
  refine pr_vR (pc := 9) C (c_X4_goesN G _ h (ms_in sp 0 3 && ms_in a9 0 9) true true hn) wv_X4_110 rfl rfl (by decide) (by decide) (pl_5 _) (Nat.le_of_ble_eq_true rfl) (by omega) (by omega) dX4_stand_9 ?_
  refine pr_if_eq (pc := 12) C 29 dX4_stand_12 (by decide) (fun _ => ?_) (fun c_12 => absurd c_12 (by decide))
  refine pr_iconst (pc := 29) (v := 0) C dX4_stand_29 (by decide) ?_
  exact pr_iret (pc := 30) C E (Or.inl rfl) (by omega) (by omega) ⟨rfl, rfl⟩ dX4_stand_30

set_option maxRecDepth 100000 in
set_option maxHeartbeats 2000000 in
theorem c_X4_standByY (G : pa_G) (l : Launch) (h : pa_H) (sp a9 : Nat) (hs : sp < 4) (ha : a9 < 10) : pa_MR G l mX4_standBy 5 [pv_o 5 0, pv_i (nI sp), pv_i (nI a9)] h (h.1, (pa_us h.2.1 235 0 0), h.2.2) (pv_i (h.2.1 209 (10 * sp + a9))) := by
  refine pa_go l (by decide) (by simp [pa_c1l, pa_c1]) (fun _ => rfl) fun x C E el ea => ?_
  subst el
  show pa_w G x 3 h 0 0 0 [some (pv_o 5 0), some (pv_i (nI sp)), some (pv_i (nI a9))] []
  refine pr_aload_n (pc := 0) C dX4_standBy_0 rfl ?_
  refine pr_aload_n (pc := 1) C dX4_standBy_1 rfl ?_
  refine pr_iload_n (pc := 2) C dX4_standBy_2 rfl ?_
  refine pr_iload_n (pc := 3) C dX4_standBy_3 rfl ?_
  refine pr_vP (pc := 4) C (c_X4_isCell G _ h (nI sp) (nI a9)) wv_X4_253 rfl rfl (by decide) (by decide) (pl_5 _) (Nat.le_of_ble_eq_true rfl) (by omega) (by omega) dX4_standBy_4 ?_
  refine pr_iconst (pc := 7) (v := 1) C dX4_standBy_7 (by decide) ?_
  refine pr_iconst (pc := 8) (v := 1) C dX4_standBy_8 (by decide) ?_
  refine pr_vR (pc := 9) C (c_X4_goesY G _ h (ms_in (nI sp) 0 3 && ms_in (nI a9) 0 9) true true (by simp [ms_in4 hs, ms_in10 ha]) rfl rfl) wv_X4_110 rfl rfl (by decide) (by decide) (pl_5 _) (Nat.le_of_ble_eq_true rfl) (by omega) (by omega) dX4_standBy_9 ?_
  refine pr_if_eq (pc := 12) C 29 dX4_standBy_12 (by decide) (fun c_12 => absurd c_12 (by decide)) (fun _ => ?_)
  refine pr_aload_n (pc := 15) C dX4_standBy_15 rfl ?_
  refine pr_geta (pc := 16) C 209 309 wf_X4_32 rfl rfl (by decide) (pl_5 _) dX4_standBy_16 ?_
  refine pr_bipush (pc := 19) (v := 10) C dX4_standBy_19 (by decide) ?_
  refine pr_iload_n (pc := 21) C dX4_standBy_21 rfl ?_
  refine pr_imulN (pc := 22) C dX4_standBy_22 10 sp rfl rfl ?_
  refine pr_iload_n (pc := 23) C dX4_standBy_23 rfl ?_
  refine pr_iaddN (pc := 24) C dX4_standBy_24 (10 * sp) a9 rfl rfl ?_
  refine pr_aldm (pc := 25) (n := 40) C 209 ((10 * sp) + a9) rfl rfl rfl (pl_r5 (by decide)) rfl (by omega) (by decide) dX4_standBy_25 ?_
  refine pr_eqi (v := h.2.1 209 ((10 * sp) + a9)) rfl ?_
  refine pr_goto (pc := 26) C 30 dX4_standBy_26 (by decide) ?_
  exact pr_iret (pc := 30) C E (Or.inl rfl) (by omega) (by omega) ⟨rfl, rfl⟩ dX4_standBy_30

set_option maxRecDepth 100000 in
set_option maxHeartbeats 2000000 in
theorem c_X4_standByN (G : pa_G) (l : Launch) (h : pa_H) (sp a9 : Int32) (hn : ((ms_in sp 0 3 && ms_in a9 0 9) && true && true) = false) : pa_MR G l mX4_standBy 5 [pv_o 5 0, pv_i sp, pv_i a9] h (h.1, pa_us h.2.1 235 0 (ms_thr (ms_in sp 0 3 && ms_in a9 0 9) true true), h.2.2) (pv_i 0) := by
  refine pa_go l (by decide) (by simp [pa_c1l, pa_c1]) (fun _ => rfl) fun x C E el ea => ?_
  subst el
  show pa_w G x 3 h 0 0 0 [some (pv_o 5 0), some (pv_i sp), some (pv_i a9)] []
  refine pr_aload_n (pc := 0) C dX4_standBy_0 rfl ?_
  refine pr_aload_n (pc := 1) C dX4_standBy_1 rfl ?_
  refine pr_iload_n (pc := 2) C dX4_standBy_2 rfl ?_
  refine pr_iload_n (pc := 3) C dX4_standBy_3 rfl ?_
  refine pr_vP (pc := 4) C (c_X4_isCell G _ h sp a9) wv_X4_253 rfl rfl (by decide) (by decide) (pl_5 _) (Nat.le_of_ble_eq_true rfl) (by omega) (by omega) dX4_standBy_4 ?_
  refine pr_iconst (pc := 7) (v := 1) C dX4_standBy_7 (by decide) ?_
  refine pr_iconst (pc := 8) (v := 1) C dX4_standBy_8 (by decide) ?_
  refine pr_vR (pc := 9) C (c_X4_goesN G _ h (ms_in sp 0 3 && ms_in a9 0 9) true true hn) wv_X4_110 rfl rfl (by decide) (by decide) (pl_5 _) (Nat.le_of_ble_eq_true rfl) (by omega) (by omega) dX4_standBy_9 ?_
  refine pr_if_eq (pc := 12) C 29 dX4_standBy_12 (by decide) (fun _ => ?_) (fun c_12 => absurd c_12 (by decide))
  refine pr_iconst (pc := 29) (v := 0) C dX4_standBy_29 (by decide) ?_
  exact pr_iret (pc := 30) C E (Or.inl rfl) (by omega) (by omega) ⟨rfl, rfl⟩ dX4_standBy_30

set_option maxRecDepth 100000 in
set_option maxHeartbeats 2000000 in
theorem c_X4_hintY (G : pa_G) (l : Launch) (h : pa_H) (sp a9 : Nat) (hs : sp < 4) (ha : a9 < 10) : pa_MR G l mX4_hint 5 [pv_o 5 0, pv_i (nI sp), pv_i (nI a9)] h (h.1, (pa_us h.2.1 235 0 0), h.2.2) (pv_i (h.2.1 210 (10 * sp + a9))) := by
  refine pa_go l (by decide) (by simp [pa_c1l, pa_c1]) (fun _ => rfl) fun x C E el ea => ?_
  subst el
  show pa_w G x 3 h 0 0 0 [some (pv_o 5 0), some (pv_i (nI sp)), some (pv_i (nI a9))] []
  refine pr_aload_n (pc := 0) C dX4_hint_0 rfl ?_
  refine pr_aload_n (pc := 1) C dX4_hint_1 rfl ?_
  refine pr_iload_n (pc := 2) C dX4_hint_2 rfl ?_
  refine pr_iload_n (pc := 3) C dX4_hint_3 rfl ?_
  refine pr_vP (pc := 4) C (c_X4_isCell G _ h (nI sp) (nI a9)) wv_X4_253 rfl rfl (by decide) (by decide) (pl_5 _) (Nat.le_of_ble_eq_true rfl) (by omega) (by omega) dX4_hint_4 ?_
  refine pr_iconst (pc := 7) (v := 1) C dX4_hint_7 (by decide) ?_
  refine pr_iconst (pc := 8) (v := 1) C dX4_hint_8 (by decide) ?_
  refine pr_vR (pc := 9) C (c_X4_goesY G _ h (ms_in (nI sp) 0 3 && ms_in (nI a9) 0 9) true true (by simp [ms_in4 hs, ms_in10 ha]) rfl rfl) wv_X4_110 rfl rfl (by decide) (by decide) (pl_5 _) (Nat.le_of_ble_eq_true rfl) (by omega) (by omega) dX4_hint_9 ?_
  refine pr_if_eq (pc := 12) C 29 dX4_hint_12 (by decide) (fun c_12 => absurd c_12 (by decide)) (fun _ => ?_)
  refine pr_aload_n (pc := 15) C dX4_hint_15 rfl ?_
  refine pr_geta (pc := 16) C 210 310 wf_X4_35 rfl rfl (by decide) (pl_5 _) dX4_hint_16 ?_
  refine pr_bipush (pc := 19) (v := 10) C dX4_hint_19 (by decide) ?_
  refine pr_iload_n (pc := 21) C dX4_hint_21 rfl ?_
  refine pr_imulN (pc := 22) C dX4_hint_22 10 sp rfl rfl ?_
  refine pr_iload_n (pc := 23) C dX4_hint_23 rfl ?_
  refine pr_iaddN (pc := 24) C dX4_hint_24 (10 * sp) a9 rfl rfl ?_
  refine pr_aldm (pc := 25) (n := 40) C 210 ((10 * sp) + a9) rfl rfl rfl (pl_r5 (by decide)) rfl (by omega) (by decide) dX4_hint_25 ?_
  refine pr_eqi (v := h.2.1 210 ((10 * sp) + a9)) rfl ?_
  refine pr_goto (pc := 26) C 30 dX4_hint_26 (by decide) ?_
  exact pr_iret (pc := 30) C E (Or.inl rfl) (by omega) (by omega) ⟨rfl, rfl⟩ dX4_hint_30

set_option maxRecDepth 100000 in
set_option maxHeartbeats 2000000 in
theorem c_X4_hintN (G : pa_G) (l : Launch) (h : pa_H) (sp a9 : Int32) (hn : ((ms_in sp 0 3 && ms_in a9 0 9) && true && true) = false) : pa_MR G l mX4_hint 5 [pv_o 5 0, pv_i sp, pv_i a9] h (h.1, pa_us h.2.1 235 0 (ms_thr (ms_in sp 0 3 && ms_in a9 0 9) true true), h.2.2) (pv_i 0) := by
  refine pa_go l (by decide) (by simp [pa_c1l, pa_c1]) (fun _ => rfl) fun x C E el ea => ?_
  subst el
  show pa_w G x 3 h 0 0 0 [some (pv_o 5 0), some (pv_i sp), some (pv_i a9)] []
  refine pr_aload_n (pc := 0) C dX4_hint_0 rfl ?_
  refine pr_aload_n (pc := 1) C dX4_hint_1 rfl ?_
  refine pr_iload_n (pc := 2) C dX4_hint_2 rfl ?_
  refine pr_iload_n (pc := 3) C dX4_hint_3 rfl ?_
  refine pr_vP (pc := 4) C (c_X4_isCell G _ h sp a9) wv_X4_253 rfl rfl (by decide) (by decide) (pl_5 _) (Nat.le_of_ble_eq_true rfl) (by omega) (by omega) dX4_hint_4 ?_
  refine pr_iconst (pc := 7) (v := 1) C dX4_hint_7 (by decide) ?_
  refine pr_iconst (pc := 8) (v := 1) C dX4_hint_8 (by decide) ?_
  refine pr_vR (pc := 9) C (c_X4_goesN G _ h (ms_in sp 0 3 && ms_in a9 0 9) true true hn) wv_X4_110 rfl rfl (by decide) (by decide) (pl_5 _) (Nat.le_of_ble_eq_true rfl) (by omega) (by omega) dX4_hint_9 ?_
  refine pr_if_eq (pc := 12) C 29 dX4_hint_12 (by decide) (fun _ => ?_) (fun c_12 => absurd c_12 (by decide))
  refine pr_iconst (pc := 29) (v := 0) C dX4_hint_29 (by decide) ?_
  exact pr_iret (pc := 30) C E (Or.inl rfl) (by omega) (by omega) ⟨rfl, rfl⟩ dX4_hint_30

set_option maxRecDepth 100000 in
set_option maxHeartbeats 2000000 in
theorem c_X4_standAnewY (G : pa_G) (l : Launch) (h : pa_H) (sp a9 : Nat) (hs : sp < 4) (ha : a9 < 10) : pa_MR G l mX4_standAnew 6 [pv_o 5 0, pv_i (nI sp), pv_i (nI a9)] h (h.1, (pa_us h.2.1 235 0 0), h.2.2) (pv_i (h.2.1 208 (10 * sp + a9))) := by
  refine pa_go l (by decide) (by simp [pa_c1l, pa_c1]) (fun _ => rfl) fun x C E el ea => ?_
  subst el
  show pa_w G x 3 h 0 0 0 [some (pv_o 5 0), some (pv_i (nI sp)), some (pv_i (nI a9))] []
  refine pr_aload_n (pc := 0) C dX4_standAnew_0 rfl ?_
  refine pr_iload_n (pc := 1) C dX4_standAnew_1 rfl ?_
  refine pr_iload_n (pc := 2) C dX4_standAnew_2 rfl ?_
  refine pr_vR (pc := 3) C (c_X4_standY G _ h sp a9 hs ha) wv_X4_256 rfl rfl (by decide) (by decide) (pl_5 _) (Nat.le_of_ble_eq_true rfl) (by omega) (by omega) dX4_standAnew_3 ?_
  exact pr_iret (pc := 6) C E (Or.inl rfl) (by omega) (by omega) ⟨rfl, rfl⟩ dX4_standAnew_6

set_option maxRecDepth 100000 in
set_option maxHeartbeats 2000000 in
theorem c_X4_standAnewN (G : pa_G) (l : Launch) (h : pa_H) (sp a9 : Int32) (hn : ((ms_in sp 0 3 && ms_in a9 0 9) && true && true) = false) : pa_MR G l mX4_standAnew 6 [pv_o 5 0, pv_i sp, pv_i a9] h (h.1, pa_us h.2.1 235 0 (ms_thr (ms_in sp 0 3 && ms_in a9 0 9) true true), h.2.2) (pv_i 0) := by
  refine pa_go l (by decide) (by simp [pa_c1l, pa_c1]) (fun _ => rfl) fun x C E el ea => ?_
  subst el
  show pa_w G x 3 h 0 0 0 [some (pv_o 5 0), some (pv_i sp), some (pv_i a9)] []
  refine pr_aload_n (pc := 0) C dX4_standAnew_0 rfl ?_
  refine pr_iload_n (pc := 1) C dX4_standAnew_1 rfl ?_
  refine pr_iload_n (pc := 2) C dX4_standAnew_2 rfl ?_
  refine pr_vR (pc := 3) C (c_X4_standN G _ h sp a9 hn) wv_X4_256 rfl rfl (by decide) (by decide) (pl_5 _) (Nat.le_of_ble_eq_true rfl) (by omega) (by omega) dX4_standAnew_3 ?_
  exact pr_iret (pc := 6) C E (Or.inl rfl) (by omega) (by omega) ⟨rfl, rfl⟩ dX4_standAnew_6

set_option maxRecDepth 100000 in
set_option maxHeartbeats 2000000 in
theorem c_X4_liesY (G : pa_G) (l : Launch) (h : pa_H) (sp : Nat) (hs : sp < 4) : pa_MR G l mX4_lies 5 [pv_o 5 0, pv_i (nI sp)] h (h.1, (pa_us h.2.1 235 0 0), h.2.2) (pv_i (h.2.1 212 sp)) := by
  refine pa_go l (by decide) (by simp [pa_c1l, pa_c1]) (fun _ => rfl) fun x C E el ea => ?_
  subst el
  show pa_w G x 2 h 0 0 0 [some (pv_o 5 0), some (pv_i (nI sp))] []
  refine pr_aload_n (pc := 0) C dX4_lies_0 rfl ?_
  refine pr_iload_n (pc := 1) C dX4_lies_1 rfl ?_
  refine pr_sP (pc := 2) C (c_X4_isSpeaker G _ h (nI sp)) ws_X4_106 rfl rfl (by decide) (Nat.le_of_ble_eq_true rfl) (by omega) (by omega) dX4_lies_2 ?_
  refine pr_iconst (pc := 5) (v := 1) C dX4_lies_5 (by decide) ?_
  refine pr_iconst (pc := 6) (v := 1) C dX4_lies_6 (by decide) ?_
  refine pr_vR (pc := 7) C (c_X4_goesY G _ h (ms_in (nI sp) 0 3) true true (ms_in4 hs) rfl rfl) wv_X4_110 rfl rfl (by decide) (by decide) (pl_5 _) (Nat.le_of_ble_eq_true rfl) (by omega) (by omega) dX4_lies_7 ?_
  refine pr_if_eq (pc := 10) C 22 dX4_lies_10 (by decide) (fun c_10 => absurd c_10 (by decide)) (fun _ => ?_)
  refine pr_aload_n (pc := 13) C dX4_lies_13 rfl ?_
  refine pr_geta (pc := 14) C 212 312 wf_X4_41 rfl rfl (by decide) (pl_5 _) dX4_lies_14 ?_
  refine pr_iload_n (pc := 17) C dX4_lies_17 rfl ?_
  refine pr_aldm (pc := 18) (n := 4) C 212 sp rfl rfl rfl (pl_r5 (by decide)) rfl (by omega) (by decide) dX4_lies_18 ?_
  refine pr_eqi (v := h.2.1 212 sp) rfl ?_
  refine pr_goto (pc := 19) C 23 dX4_lies_19 (by decide) ?_
  exact pr_iret (pc := 23) C E (Or.inl rfl) (by omega) (by omega) ⟨rfl, rfl⟩ dX4_lies_23

set_option maxRecDepth 100000 in
set_option maxHeartbeats 2000000 in
theorem c_X4_liesN (G : pa_G) (l : Launch) (h : pa_H) (sp : Int32) (hn : ((ms_in sp 0 3) && true && true) = false) : pa_MR G l mX4_lies 5 [pv_o 5 0, pv_i sp] h (h.1, pa_us h.2.1 235 0 (ms_thr (ms_in sp 0 3) true true), h.2.2) (pv_i 0) := by
  refine pa_go l (by decide) (by simp [pa_c1l, pa_c1]) (fun _ => rfl) fun x C E el ea => ?_
  subst el
  show pa_w G x 2 h 0 0 0 [some (pv_o 5 0), some (pv_i sp)] []
  refine pr_aload_n (pc := 0) C dX4_lies_0 rfl ?_
  refine pr_iload_n (pc := 1) C dX4_lies_1 rfl ?_
  refine pr_sP (pc := 2) C (c_X4_isSpeaker G _ h sp) ws_X4_106 rfl rfl (by decide) (Nat.le_of_ble_eq_true rfl) (by omega) (by omega) dX4_lies_2 ?_
  refine pr_iconst (pc := 5) (v := 1) C dX4_lies_5 (by decide) ?_
  refine pr_iconst (pc := 6) (v := 1) C dX4_lies_6 (by decide) ?_
  refine pr_vR (pc := 7) C (c_X4_goesN G _ h (ms_in sp 0 3) true true hn) wv_X4_110 rfl rfl (by decide) (by decide) (pl_5 _) (Nat.le_of_ble_eq_true rfl) (by omega) (by omega) dX4_lies_7 ?_
  refine pr_if_eq (pc := 10) C 22 dX4_lies_10 (by decide) (fun _ => ?_) (fun c_10 => absurd c_10 (by decide))
  refine pr_iconst (pc := 22) (v := 0) C dX4_lies_22 (by decide) ?_
  exact pr_iret (pc := 23) C E (Or.inl rfl) (by omega) (by omega) ⟨rfl, rfl⟩ dX4_lies_23

set_option maxRecDepth 100000 in
set_option maxHeartbeats 2000000 in
theorem c_X4_ownerY (G : pa_G) (l : Launch) (h : pa_H) (sp : Nat) (hs : sp < 8) : pa_MR G l mX4_owner 5 [pv_o 5 0, pv_i (nI sp)] h (h.1, (pa_us h.2.1 235 0 0), h.2.2) (pv_i (h.2.1 213 sp)) := by
  refine pa_go l (by decide) (by simp [pa_c1l, pa_c1]) (fun _ => rfl) fun x C E el ea => ?_
  subst el
  show pa_w G x 2 h 0 0 0 [some (pv_o 5 0), some (pv_i (nI sp))] []
  refine pr_aload_n (pc := 0) C dX4_owner_0 rfl ?_
  refine pr_iload_n (pc := 1) C dX4_owner_1 rfl ?_
  refine pr_iconst (pc := 2) (v := 0) C dX4_owner_2 (by decide) ?_
  refine pr_bipush (pc := 3) (v := 7) C dX4_owner_3 (by decide) ?_
  refine pr_sP (pc := 5) C (c_X4_in G _ h (nI sp) (0 : Int32) (7 : Int32)) ws_X4_102 rfl rfl (by decide) (Nat.le_of_ble_eq_true rfl) (by omega) (by omega) dX4_owner_5 ?_
  refine pr_iconst (pc := 8) (v := 1) C dX4_owner_8 (by decide) ?_
  refine pr_iconst (pc := 9) (v := 1) C dX4_owner_9 (by decide) ?_
  refine pr_vR (pc := 10) C (c_X4_goesY G _ h (ms_in (nI sp) (0 : Int32) (7 : Int32)) true true (ms_in8 hs) rfl rfl) wv_X4_110 rfl rfl (by decide) (by decide) (pl_5 _) (Nat.le_of_ble_eq_true rfl) (by omega) (by omega) dX4_owner_10 ?_
  refine pr_if_eq (pc := 13) C 25 dX4_owner_13 (by decide) (fun c_13 => absurd c_13 (by decide)) (fun _ => ?_)
  refine pr_aload_n (pc := 16) C dX4_owner_16 rfl ?_
  refine pr_geta (pc := 17) C 213 313 wf_X4_44 rfl rfl (by decide) (pl_5 _) dX4_owner_17 ?_
  refine pr_iload_n (pc := 20) C dX4_owner_20 rfl ?_
  refine pr_aldm (pc := 21) (n := 8) C 213 sp rfl rfl rfl (pl_r5 (by decide)) rfl (by omega) (by decide) dX4_owner_21 ?_
  refine pr_eqi (v := h.2.1 213 sp) rfl ?_
  refine pr_goto (pc := 22) C 26 dX4_owner_22 (by decide) ?_
  exact pr_iret (pc := 26) C E (Or.inl rfl) (by omega) (by omega) ⟨rfl, rfl⟩ dX4_owner_26

set_option maxRecDepth 100000 in
set_option maxHeartbeats 2000000 in
theorem c_X4_ownerN (G : pa_G) (l : Launch) (h : pa_H) (sp : Int32) (hn : ((ms_in sp 0 7) && true && true) = false) : pa_MR G l mX4_owner 5 [pv_o 5 0, pv_i sp] h (h.1, pa_us h.2.1 235 0 (ms_thr (ms_in sp 0 7) true true), h.2.2) (pv_i 0) := by
  refine pa_go l (by decide) (by simp [pa_c1l, pa_c1]) (fun _ => rfl) fun x C E el ea => ?_
  subst el
  show pa_w G x 2 h 0 0 0 [some (pv_o 5 0), some (pv_i sp)] []
  refine pr_aload_n (pc := 0) C dX4_owner_0 rfl ?_
  refine pr_iload_n (pc := 1) C dX4_owner_1 rfl ?_
  refine pr_iconst (pc := 2) (v := 0) C dX4_owner_2 (by decide) ?_
  refine pr_bipush (pc := 3) (v := 7) C dX4_owner_3 (by decide) ?_
  refine pr_sP (pc := 5) C (c_X4_in G _ h sp (0 : Int32) (7 : Int32)) ws_X4_102 rfl rfl (by decide) (Nat.le_of_ble_eq_true rfl) (by omega) (by omega) dX4_owner_5 ?_
  refine pr_iconst (pc := 8) (v := 1) C dX4_owner_8 (by decide) ?_
  refine pr_iconst (pc := 9) (v := 1) C dX4_owner_9 (by decide) ?_
  refine pr_vR (pc := 10) C (c_X4_goesN G _ h (ms_in sp (0 : Int32) (7 : Int32)) true true hn) wv_X4_110 rfl rfl (by decide) (by decide) (pl_5 _) (Nat.le_of_ble_eq_true rfl) (by omega) (by omega) dX4_owner_10 ?_
  refine pr_if_eq (pc := 13) C 25 dX4_owner_13 (by decide) (fun _ => ?_) (fun c_13 => absurd c_13 (by decide))
  refine pr_iconst (pc := 25) (v := 0) C dX4_owner_25 (by decide) ?_
  exact pr_iret (pc := 26) C E (Or.inl rfl) (by omega) (by omega) ⟨rfl, rfl⟩ dX4_owner_26

def ms_oft (S : Nat → Nat → Int32) (t w : Nat) : Int32 :=
  if w = 0 then S 218 t else if w = 1 then S 219 t else if w = 2 then S 220 t else if w = 3 then S 221 t else if w = 4 then S 222 t else if w = 5 then S 223 t else if w = 6 then S 224 t else if w = 7 then S 225 t else pz_b (decide (S 227 t ≠ 0))
set_option maxRecDepth 100000 in
set_option maxHeartbeats 2000000 in
theorem c_X4_ofTurn (G : pa_G) (l : Launch) (h : pa_H) (t v9 : Nat) (ht : t < 100) (hv : v9 < 9) : pa_MP G l mX4_ofTurn 1 [pv_o 5 0, pv_i (nI t), pv_i (nI v9)] h (pv_i (ms_oft h.2.1 t v9)) := by
  refine pa_go l (by decide) (by simp [pa_c1l, pa_c1]) (fun _ => rfl) fun x C E el ea => ?_
  subst el
  show pa_w G x 3 h 0 0 0 [some (pv_o 5 0), some (pv_i (nI t)), some (pv_i (nI v9))] []
  refine pr_iload_n (pc := 0) C dX4_ofTurn_0 rfl ?_
  obtain rfl | rfl | rfl | rfl | rfl | rfl | rfl | rfl | rfl : v9 = 0 ∨ v9 = 1 ∨ v9 = 2 ∨ v9 = 3 ∨ v9 = 4 ∨ v9 = 5 ∨ v9 = 6 ∨ v9 = 7 ∨ v9 = 8 := by omega
  · -- 0
    refine pr_tableIn (pc := 1) C 48 dX4_ofTurn_1 (by decide) (by decide) (off := 47) (by decide) (by decide) ?_
    refine pr_aload_n (pc := 48) C dX4_ofTurn_48 rfl ?_
    refine pr_geta (pc := 49) C 218 318 wf_X4_47 rfl rfl (by decide) (pl_5 _) dX4_ofTurn_49 ?_
    refine pr_iload_n (pc := 52) C dX4_ofTurn_52 rfl ?_
    refine pr_aldm (pc := 53) (n := 100) C 218 t rfl rfl rfl (pl_r5 (by decide)) rfl (by omega) (by decide) dX4_ofTurn_53 ?_
    exact pr_iret (pc := 54) C E (Or.inl rfl) (by omega) (by omega) ⟨rfl, rfl⟩ dX4_ofTurn_54
  · -- 1
    refine pr_tableIn (pc := 1) C 55 dX4_ofTurn_1 (by decide) (by decide) (off := 54) (by decide) (by decide) ?_
    refine pr_aload_n (pc := 55) C dX4_ofTurn_55 rfl ?_
    refine pr_geta (pc := 56) C 219 319 wf_X4_50 rfl rfl (by decide) (pl_5 _) dX4_ofTurn_56 ?_
    refine pr_iload_n (pc := 59) C dX4_ofTurn_59 rfl ?_
    refine pr_aldm (pc := 60) (n := 100) C 219 t rfl rfl rfl (pl_r5 (by decide)) rfl (by omega) (by decide) dX4_ofTurn_60 ?_
    exact pr_iret (pc := 61) C E (Or.inl rfl) (by omega) (by omega) ⟨rfl, rfl⟩ dX4_ofTurn_61
  · -- 2
    refine pr_tableIn (pc := 1) C 62 dX4_ofTurn_1 (by decide) (by decide) (off := 61) (by decide) (by decide) ?_
    refine pr_aload_n (pc := 62) C dX4_ofTurn_62 rfl ?_
    refine pr_geta (pc := 63) C 220 320 wf_X4_53 rfl rfl (by decide) (pl_5 _) dX4_ofTurn_63 ?_
    refine pr_iload_n (pc := 66) C dX4_ofTurn_66 rfl ?_
    refine pr_aldm (pc := 67) (n := 100) C 220 t rfl rfl rfl (pl_r5 (by decide)) rfl (by omega) (by decide) dX4_ofTurn_67 ?_
    exact pr_iret (pc := 68) C E (Or.inl rfl) (by omega) (by omega) ⟨rfl, rfl⟩ dX4_ofTurn_68
  · -- 3
    refine pr_tableIn (pc := 1) C 69 dX4_ofTurn_1 (by decide) (by decide) (off := 68) (by decide) (by decide) ?_
    refine pr_aload_n (pc := 69) C dX4_ofTurn_69 rfl ?_
    refine pr_geta (pc := 70) C 221 321 wf_X4_56 rfl rfl (by decide) (pl_5 _) dX4_ofTurn_70 ?_
    refine pr_iload_n (pc := 73) C dX4_ofTurn_73 rfl ?_
    refine pr_aldm (pc := 74) (n := 100) C 221 t rfl rfl rfl (pl_r5 (by decide)) rfl (by omega) (by decide) dX4_ofTurn_74 ?_
    exact pr_iret (pc := 75) C E (Or.inl rfl) (by omega) (by omega) ⟨rfl, rfl⟩ dX4_ofTurn_75
  · -- 4
    refine pr_tableIn (pc := 1) C 76 dX4_ofTurn_1 (by decide) (by decide) (off := 75) (by decide) (by decide) ?_
    refine pr_aload_n (pc := 76) C dX4_ofTurn_76 rfl ?_
    refine pr_geta (pc := 77) C 222 322 wf_X4_59 rfl rfl (by decide) (pl_5 _) dX4_ofTurn_77 ?_
    refine pr_iload_n (pc := 80) C dX4_ofTurn_80 rfl ?_
    refine pr_aldm (pc := 81) (n := 100) C 222 t rfl rfl rfl (pl_r5 (by decide)) rfl (by omega) (by decide) dX4_ofTurn_81 ?_
    exact pr_iret (pc := 82) C E (Or.inl rfl) (by omega) (by omega) ⟨rfl, rfl⟩ dX4_ofTurn_82
  · -- 5
    refine pr_tableIn (pc := 1) C 83 dX4_ofTurn_1 (by decide) (by decide) (off := 82) (by decide) (by decide) ?_
    refine pr_aload_n (pc := 83) C dX4_ofTurn_83 rfl ?_
    refine pr_geta (pc := 84) C 223 323 wf_X4_62 rfl rfl (by decide) (pl_5 _) dX4_ofTurn_84 ?_
    refine pr_iload_n (pc := 87) C dX4_ofTurn_87 rfl ?_
    refine pr_aldm (pc := 88) (n := 100) C 223 t rfl rfl rfl (pl_r5 (by decide)) rfl (by omega) (by decide) dX4_ofTurn_88 ?_
    exact pr_iret (pc := 89) C E (Or.inl rfl) (by omega) (by omega) ⟨rfl, rfl⟩ dX4_ofTurn_89
  · -- 6
    refine pr_tableIn (pc := 1) C 90 dX4_ofTurn_1 (by decide) (by decide) (off := 89) (by decide) (by decide) ?_
    refine pr_aload_n (pc := 90) C dX4_ofTurn_90 rfl ?_
    refine pr_geta (pc := 91) C 224 324 wf_X4_65 rfl rfl (by decide) (pl_5 _) dX4_ofTurn_91 ?_
    refine pr_iload_n (pc := 94) C dX4_ofTurn_94 rfl ?_
    refine pr_aldm (pc := 95) (n := 100) C 224 t rfl rfl rfl (pl_r5 (by decide)) rfl (by omega) (by decide) dX4_ofTurn_95 ?_
    exact pr_iret (pc := 96) C E (Or.inl rfl) (by omega) (by omega) ⟨rfl, rfl⟩ dX4_ofTurn_96
  · -- 7
    refine pr_tableIn (pc := 1) C 97 dX4_ofTurn_1 (by decide) (by decide) (off := 96) (by decide) (by decide) ?_
    refine pr_aload_n (pc := 97) C dX4_ofTurn_97 rfl ?_
    refine pr_geta (pc := 98) C 225 325 wf_X4_68 rfl rfl (by decide) (pl_5 _) dX4_ofTurn_98 ?_
    refine pr_iload_n (pc := 101) C dX4_ofTurn_101 rfl ?_
    refine pr_aldm (pc := 102) (n := 100) C 225 t rfl rfl rfl (pl_r5 (by decide)) rfl (by omega) (by decide) dX4_ofTurn_102 ?_
    exact pr_iret (pc := 103) C E (Or.inl rfl) (by omega) (by omega) ⟨rfl, rfl⟩ dX4_ofTurn_103
  · -- 8
    refine pr_tableOut (pc := 1) C 104 dX4_ofTurn_1 (by decide) (by decide) ?_
    refine pr_aload_n (pc := 104) C dX4_ofTurn_104 rfl ?_
    refine pr_geta (pc := 105) C 227 327 wf_X4_74 rfl rfl (by decide) (pl_5 _) dX4_ofTurn_105 ?_
    refine pr_iload_n (pc := 108) C dX4_ofTurn_108 rfl ?_
    refine pr_aldb (pc := 109) (n := 100) C 227 t rfl rfl rfl (pl_r5 (by decide)) rfl (by omega) (by decide) dX4_ofTurn_109 ?_
    refine pr_if_eq (pc := 110) C 117 dX4_ofTurn_110 (by decide) (fun c_110 => ?_) (fun c_110 => ?_)
    · refine pr_iconst (pc := 117) (v := 0) C dX4_ofTurn_117 (by decide) ?_
      exact pr_iret (pc := 118) C E (Or.inl rfl) (by omega) (by omega) ⟨(by simp [-Int32.not_le, -Int32.not_lt, pz_b, pz_lt, ms_oft, eq_true c_110]), rfl⟩ dX4_ofTurn_118
    · refine pr_iconst (pc := 113) (v := 1) C dX4_ofTurn_113 (by decide) ?_
      refine pr_goto (pc := 114) C 118 dX4_ofTurn_114 (by decide) ?_
      exact pr_iret (pc := 118) C E (Or.inl rfl) (by omega) (by omega) ⟨(by simp [-Int32.not_le, -Int32.not_lt, pz_b, pz_lt, ms_oft, eq_false c_110]), rfl⟩ dX4_ofTurn_118

set_option maxRecDepth 100000 in
set_option maxHeartbeats 2000000 in
theorem c_X4_turnY (G : pa_G) (l : Launch) (h : pa_H) (T t v9 : Nat) (hT : h.2.1 217 0 = nI T) (hT1 : T ≤ 100) (ht : t < T) (hv : v9 < 9) : pa_MR G l mX4_turn 5 [pv_o 5 0, pv_i (nI t), pv_i (nI v9)] h (h.1, (pa_us h.2.1 235 0 0), h.2.2) (pv_i (ms_oft h.2.1 t v9)) := by
  refine pa_go l (by decide) (by simp [pa_c1l, pa_c1]) (fun _ => rfl) fun x C E el ea => ?_
  subst el
  show pa_w G x 3 h 0 0 0 [some (pv_o 5 0), some (pv_i (nI t)), some (pv_i (nI v9))] []
  refine pr_aload_n (pc := 0) C dX4_turn_0 rfl ?_
  refine pr_iload_n (pc := 1) C dX4_turn_1 rfl ?_
  refine pr_iconst (pc := 2) (v := 0) C dX4_turn_2 (by decide) ?_
  refine pr_aload_n (pc := 3) C dX4_turn_3 rfl ?_
  refine pr_getm (pc := 4) C 217 wf_X4_131 rfl (by decide) (pl_5 _) dX4_turn_4 ?_
  refine pr_iconst (pc := 7) (v := 1) C dX4_turn_7 (by decide) ?_
  refine pr_isub (pc := 8) C dX4_turn_8 ?_
  refine pr_sP (pc := 9) C (c_X4_in G _ h (nI t) (0 : Int32) ((h.2.1 217 0) - (1 : Int32))) ws_X4_102 rfl rfl (by decide) (Nat.le_of_ble_eq_true rfl) (by omega) (by omega) dX4_turn_9 ?_
  refine pr_iload_n (pc := 12) C dX4_turn_12 rfl ?_
  refine pr_iconst (pc := 13) (v := 0) C dX4_turn_13 (by decide) ?_
  refine pr_bipush (pc := 14) (v := 8) C dX4_turn_14 (by decide) ?_
  refine pr_sP (pc := 16) C (c_X4_in G _ h (nI v9) (0 : Int32) (8 : Int32)) ws_X4_102 rfl rfl (by decide) (Nat.le_of_ble_eq_true rfl) (by omega) (by omega) dX4_turn_16 ?_
  refine pr_iconst (pc := 19) (v := 1) C dX4_turn_19 (by decide) ?_
  refine pr_vR (pc := 20) C (c_X4_goesY G _ h (ms_in (nI t) (0 : Int32) ((h.2.1 217 0) - (1 : Int32))) (ms_in (nI v9) (0 : Int32) (8 : Int32)) true (hT ▸ ms_inT ht hT1) (ms_in0 8 rfl (by omega) (by decide)) rfl) wv_X4_110 rfl rfl (by decide) (by decide) (pl_5 _) (Nat.le_of_ble_eq_true rfl) (by omega) (by omega) dX4_turn_20 ?_
  refine pr_if_eq (pc := 23) C 35 dX4_turn_23 (by decide) (fun c_23 => absurd c_23 (by decide)) (fun _ => ?_)
  refine pr_aload_n (pc := 26) C dX4_turn_26 rfl ?_
  refine pr_iload_n (pc := 27) C dX4_turn_27 rfl ?_
  refine pr_iload_n (pc := 28) C dX4_turn_28 rfl ?_
  refine pr_vP (pc := 29) C (c_X4_ofTurn G _ (h.1, (pa_us h.2.1 235 0 (0 : Int32)), h.2.2) t v9 (by omega) hv) wv_X4_249 rfl rfl (by decide) (by decide) (pl_5 _) (Nat.le_of_ble_eq_true rfl) (by omega) (by omega) dX4_turn_29 ?_
  refine pr_goto (pc := 32) C 36 dX4_turn_32 (by decide) ?_
  exact pr_iret (pc := 36) C E (Or.inl rfl) (by omega) (by omega) ⟨rfl, rfl⟩ dX4_turn_36

set_option maxRecDepth 100000 in
set_option maxHeartbeats 2000000 in
theorem c_X4_turnN (G : pa_G) (l : Launch) (h : pa_H) (v u : Int32) (hn : ((ms_in v 0 (h.2.1 217 0 - 1)) && (ms_in u 0 8) && true) = false) : pa_MR G l mX4_turn 5 [pv_o 5 0, pv_i v, pv_i u] h (h.1, pa_us h.2.1 235 0 (ms_thr (ms_in v 0 (h.2.1 217 0 - 1)) (ms_in u 0 8) true), h.2.2) (pv_i 0) := by
  refine pa_go l (by decide) (by simp [pa_c1l, pa_c1]) (fun _ => rfl) fun x C E el ea => ?_
  subst el
  show pa_w G x 3 h 0 0 0 [some (pv_o 5 0), some (pv_i v), some (pv_i u)] []
  refine pr_aload_n (pc := 0) C dX4_turn_0 rfl ?_
  refine pr_iload_n (pc := 1) C dX4_turn_1 rfl ?_
  refine pr_iconst (pc := 2) (v := 0) C dX4_turn_2 (by decide) ?_
  refine pr_aload_n (pc := 3) C dX4_turn_3 rfl ?_
  refine pr_getm (pc := 4) C 217 wf_X4_131 rfl (by decide) (pl_5 _) dX4_turn_4 ?_
  refine pr_iconst (pc := 7) (v := 1) C dX4_turn_7 (by decide) ?_
  refine pr_isub (pc := 8) C dX4_turn_8 ?_
  refine pr_sP (pc := 9) C (c_X4_in G _ h v (0 : Int32) ((h.2.1 217 0) - (1 : Int32))) ws_X4_102 rfl rfl (by decide) (Nat.le_of_ble_eq_true rfl) (by omega) (by omega) dX4_turn_9 ?_
  refine pr_iload_n (pc := 12) C dX4_turn_12 rfl ?_
  refine pr_iconst (pc := 13) (v := 0) C dX4_turn_13 (by decide) ?_
  refine pr_bipush (pc := 14) (v := 8) C dX4_turn_14 (by decide) ?_
  refine pr_sP (pc := 16) C (c_X4_in G _ h u (0 : Int32) (8 : Int32)) ws_X4_102 rfl rfl (by decide) (Nat.le_of_ble_eq_true rfl) (by omega) (by omega) dX4_turn_16 ?_
  refine pr_iconst (pc := 19) (v := 1) C dX4_turn_19 (by decide) ?_
  refine pr_vR (pc := 20) C (c_X4_goesN G _ h (ms_in v (0 : Int32) ((h.2.1 217 0) - (1 : Int32))) (ms_in u (0 : Int32) (8 : Int32)) true hn) wv_X4_110 rfl rfl (by decide) (by decide) (pl_5 _) (Nat.le_of_ble_eq_true rfl) (by omega) (by omega) dX4_turn_20 ?_
  refine pr_if_eq (pc := 23) C 35 dX4_turn_23 (by decide) (fun _ => ?_) (fun c_23 => absurd c_23 (by decide))
  refine pr_iconst (pc := 35) (v := 0) C dX4_turn_35 (by decide) ?_
  exact pr_iret (pc := 36) C E (Or.inl rfl) (by omega) (by omega) ⟨rfl, rfl⟩ dX4_turn_36

set_option maxRecDepth 100000 in
set_option maxHeartbeats 2000000 in
theorem c_X4_heardY (G : pa_G) (l : Launch) (h : pa_H) (T t k : Nat) (hT : h.2.1 217 0 = nI T) (hT1 : T ≤ 100) (ht : t < T) (hk : k < 4) : pa_MR G l mX4_heard 5 [pv_o 5 0, pv_i (nI t), pv_i (nI k)] h (h.1, (pa_us h.2.1 235 0 0), h.2.2) (pv_i (h.2.1 228 (4 * t + k))) := by
  refine pa_go l (by decide) (by simp [pa_c1l, pa_c1]) (fun _ => rfl) fun x C E el ea => ?_
  subst el
  show pa_w G x 3 h 0 0 0 [some (pv_o 5 0), some (pv_i (nI t)), some (pv_i (nI k))] []
  refine pr_aload_n (pc := 0) C dX4_heard_0 rfl ?_
  have j27_1 : pa_w G x 3 h 0 0 27 [some (pv_o 5 0), some (pv_i (nI t)), some (pv_i (nI k))] [pv_i (pz_b (ms_in (nI t) 0 (h.2.1 217 0 - 1) && ms_in (nI k) 0 3)), pv_o 5 0] := by
    refine pr_iconst (pc := 27) (v := 1) C dX4_heard_27 (by decide) ?_
    refine pr_iconst (pc := 28) (v := 1) C dX4_heard_28 (by decide) ?_
    refine pr_vR (pc := 29) C (c_X4_goesY G _ h (ms_in (nI t) 0 (h.2.1 217 0 - 1) && ms_in (nI k) 0 3) true true (by rw [hT]; simp [ms_inT ht hT1, ms_in4 hk]) rfl rfl) wv_X4_110 rfl rfl (by decide) (by decide) (pl_5 _) (Nat.le_of_ble_eq_true rfl) (by omega) (by omega) dX4_heard_29 ?_
    refine pr_if_eq (pc := 32) C 48 dX4_heard_32 (by decide) (fun c_32 => absurd c_32 (by decide)) (fun _ => ?_)
    refine pr_aload_n (pc := 35) C dX4_heard_35 rfl ?_
    refine pr_geta (pc := 36) C 228 328 wf_X4_77 rfl rfl (by decide) (pl_5 _) dX4_heard_36 ?_
    refine pr_iconst (pc := 39) (v := 4) C dX4_heard_39 (by decide) ?_
    refine pr_iload_n (pc := 40) C dX4_heard_40 rfl ?_
    refine pr_imulN (pc := 41) C dX4_heard_41 4 t rfl rfl ?_
    refine pr_iload_n (pc := 42) C dX4_heard_42 rfl ?_
    refine pr_iaddN (pc := 43) C dX4_heard_43 (4 * t) k rfl rfl ?_
    refine pr_aldm (pc := 44) (n := 400) C 228 ((4 * t) + k) rfl rfl rfl (pl_r5 (by decide)) rfl (by omega) (by decide) dX4_heard_44 ?_
    refine pr_eqi (v := h.2.1 228 ((4 * t) + k)) rfl ?_
    refine pr_goto (pc := 45) C 49 dX4_heard_45 (by decide) ?_
    exact pr_iret (pc := 49) C E (Or.inl rfl) (by omega) (by omega) ⟨rfl, rfl⟩ dX4_heard_49
  refine pr_iload_n (pc := 1) C dX4_heard_1 rfl ?_
  refine pr_iconst (pc := 2) (v := 0) C dX4_heard_2 (by decide) ?_
  refine pr_aload_n (pc := 3) C dX4_heard_3 rfl ?_
  refine pr_getm (pc := 4) C 217 wf_X4_131 rfl (by decide) (pl_5 _) dX4_heard_4 ?_
  refine pr_iconst (pc := 7) (v := 1) C dX4_heard_7 (by decide) ?_
  refine pr_isub (pc := 8) C dX4_heard_8 ?_
  refine pr_sP (pc := 9) C (c_X4_in G _ h (nI t) (0 : Int32) ((h.2.1 217 0) - (1 : Int32))) ws_X4_102 rfl rfl (by decide) (Nat.le_of_ble_eq_true rfl) (by omega) (by omega) dX4_heard_9 ?_
  refine pr_ifb_eq (pc := 12) C 26 dX4_heard_12 (by decide) (fun c_12 => ?_) (fun c_12 => ?_)
  · refine pr_iconst (pc := 26) (v := 0) C dX4_heard_26 (by decide) ?_
    exact pr_eqi (show (0 : Int32) = (pz_b (ms_in (nI t) 0 (h.2.1 217 0 - 1) && ms_in (nI k) 0 3)) from (by simp [-Int32.not_le, -Int32.not_lt, pz_b, pz_lt, c_12])) j27_1
  · refine pr_iload_n (pc := 15) C dX4_heard_15 rfl ?_
    refine pr_sP (pc := 16) C (c_X4_isSpeaker G _ h (nI k)) ws_X4_106 rfl rfl (by decide) (Nat.le_of_ble_eq_true rfl) (by omega) (by omega) dX4_heard_16 ?_
    refine pr_ifb_eq (pc := 19) C 26 dX4_heard_19 (by decide) (fun c_19 => ?_) (fun c_19 => ?_)
    · refine pr_iconst (pc := 26) (v := 0) C dX4_heard_26 (by decide) ?_
      exact pr_eqi (show (0 : Int32) = (pz_b (ms_in (nI t) 0 (h.2.1 217 0 - 1) && ms_in (nI k) 0 3)) from (by simp [-Int32.not_le, -Int32.not_lt, pz_b, pz_lt, c_12, c_19])) j27_1
    · refine pr_iconst (pc := 22) (v := 1) C dX4_heard_22 (by decide) ?_
      refine pr_goto (pc := 23) C 27 dX4_heard_23 (by decide) ?_
      exact pr_eqi (show (1 : Int32) = (pz_b (ms_in (nI t) 0 (h.2.1 217 0 - 1) && ms_in (nI k) 0 3)) from (by simp [-Int32.not_le, -Int32.not_lt, pz_b, pz_lt, c_12, c_19])) j27_1

set_option maxRecDepth 100000 in
set_option maxHeartbeats 2000000 in
theorem c_X4_heardN (G : pa_G) (l : Launch) (h : pa_H) (v u : Int32) (hn : ((ms_in v 0 (h.2.1 217 0 - 1) && ms_in u 0 3) && true && true) = false) : pa_MR G l mX4_heard 5 [pv_o 5 0, pv_i v, pv_i u] h (h.1, pa_us h.2.1 235 0 (ms_thr (ms_in v 0 (h.2.1 217 0 - 1) && ms_in u 0 3) true true), h.2.2) (pv_i 0) := by
  refine pa_go l (by decide) (by simp [pa_c1l, pa_c1]) (fun _ => rfl) fun x C E el ea => ?_
  subst el
  show pa_w G x 3 h 0 0 0 [some (pv_o 5 0), some (pv_i v), some (pv_i u)] []
  refine pr_aload_n (pc := 0) C dX4_heard_0 rfl ?_
  have j27_1 : pa_w G x 3 h 0 0 27 [some (pv_o 5 0), some (pv_i v), some (pv_i u)] [pv_i (pz_b (ms_in v 0 (h.2.1 217 0 - 1) && ms_in u 0 3)), pv_o 5 0] := by
    refine pr_iconst (pc := 27) (v := 1) C dX4_heard_27 (by decide) ?_
    refine pr_iconst (pc := 28) (v := 1) C dX4_heard_28 (by decide) ?_
    refine pr_vR (pc := 29) C (c_X4_goesN G _ h (ms_in v 0 (h.2.1 217 0 - 1) && ms_in u 0 3) true true hn) wv_X4_110 rfl rfl (by decide) (by decide) (pl_5 _) (Nat.le_of_ble_eq_true rfl) (by omega) (by omega) dX4_heard_29 ?_
    refine pr_if_eq (pc := 32) C 48 dX4_heard_32 (by decide) (fun _ => ?_) (fun c_32 => absurd c_32 (by decide))
    refine pr_iconst (pc := 48) (v := 0) C dX4_heard_48 (by decide) ?_
    exact pr_iret (pc := 49) C E (Or.inl rfl) (by omega) (by omega) ⟨rfl, rfl⟩ dX4_heard_49
  refine pr_iload_n (pc := 1) C dX4_heard_1 rfl ?_
  refine pr_iconst (pc := 2) (v := 0) C dX4_heard_2 (by decide) ?_
  refine pr_aload_n (pc := 3) C dX4_heard_3 rfl ?_
  refine pr_getm (pc := 4) C 217 wf_X4_131 rfl (by decide) (pl_5 _) dX4_heard_4 ?_
  refine pr_iconst (pc := 7) (v := 1) C dX4_heard_7 (by decide) ?_
  refine pr_isub (pc := 8) C dX4_heard_8 ?_
  refine pr_sP (pc := 9) C (c_X4_in G _ h v (0 : Int32) ((h.2.1 217 0) - (1 : Int32))) ws_X4_102 rfl rfl (by decide) (Nat.le_of_ble_eq_true rfl) (by omega) (by omega) dX4_heard_9 ?_
  refine pr_ifb_eq (pc := 12) C 26 dX4_heard_12 (by decide) (fun c_12 => ?_) (fun c_12 => ?_)
  · refine pr_iconst (pc := 26) (v := 0) C dX4_heard_26 (by decide) ?_
    exact pr_eqi (show (0 : Int32) = (pz_b (ms_in v 0 (h.2.1 217 0 - 1) && ms_in u 0 3)) from (by simp [-Int32.not_le, -Int32.not_lt, pz_b, pz_lt, c_12])) j27_1
  · refine pr_iload_n (pc := 15) C dX4_heard_15 rfl ?_
    refine pr_sP (pc := 16) C (c_X4_isSpeaker G _ h u) ws_X4_106 rfl rfl (by decide) (Nat.le_of_ble_eq_true rfl) (by omega) (by omega) dX4_heard_16 ?_
    refine pr_ifb_eq (pc := 19) C 26 dX4_heard_19 (by decide) (fun c_19 => ?_) (fun c_19 => ?_)
    · refine pr_iconst (pc := 26) (v := 0) C dX4_heard_26 (by decide) ?_
      exact pr_eqi (show (0 : Int32) = (pz_b (ms_in v 0 (h.2.1 217 0 - 1) && ms_in u 0 3)) from (by simp [-Int32.not_le, -Int32.not_lt, pz_b, pz_lt, c_12, c_19])) j27_1
    · refine pr_iconst (pc := 22) (v := 1) C dX4_heard_22 (by decide) ?_
      refine pr_goto (pc := 23) C 27 dX4_heard_23 (by decide) ?_
      exact pr_eqi (show (1 : Int32) = (pz_b (ms_in v 0 (h.2.1 217 0 - 1) && ms_in u 0 3)) from (by simp [-Int32.not_le, -Int32.not_lt, pz_b, pz_lt, c_12, c_19])) j27_1

