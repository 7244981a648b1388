/-! THE CLASS: ACKs; a tick -/
theorem sj_M_230 {K : Nat → Nat → Nat → Int32} {N : Nat → Nat} {T D e k : Nat} {z : sj_Z} {S : Nat → Nat → Int32} {v : Int32} (hs : sj_M K N T D z e S) : sj_M K N T D z e (pa_us S 230 k v) := by
  refine ⟨sj_P_of hs.1 (fun q hq o j => rfl) (fun q hq j => pa_us_ne ?_), sj_R_of hs.2 (fun _ _ _ _ => rfl) (fun f hf j => pa_us_ne ?_)⟩
  · have : ∀ q ∈ sj_T, q.2.1 ≠ 230 := by decide
    exact this q hq
  · have : ∀ f ∈ [208, 210, 211, 224, 225, 231, 232, 233, 234], f ≠ 230 := by decide
    exact this f hf
theorem sj_ph_pte {S S' : Nat → Nat → Int32} {T : Nat} (e : ∀ j, S' 224 j = S 224 j) (h : sj_pt S T ≤ sj_pt S' T) : sj_ph S' T = sj_ph S T + (sj_pt S' T - sj_pt S T) := by
  unfold sj_ph
  rw [sj_ns_same e]
  omega
section ROWS
variable {G : pa_G} {x : pa_X} {cc : ByteArray} {nL : Nat} {own : String} {d mc ms : Nat} {h : pa_H} {a b pc : Nat} {lo : List (Option pa_V)}
theorem pr_sE (C : pa_C G x cc nL own d mc ms) {y : pa_Y} {d' ix n : Nat} {As rest st : List pa_V} {h1 : pa_H} (hM : pa_ME G x.2.1 y d' As h h1) (cs : pa_cs own ix y n) (hst : st = As.reverse ++ rest) (hn : As.length = n) (hd : d' + 1 ≤ d) (hr : rest.length ≤ 4) (ha : a ≤ mc) (hb : b ≤ ms) (dg : decode cc pc = .ok (.invokestatic ix, 3)) (kk : pa_w G x nL h1 a b (pc + 3) lo rest) : pa_w G x nL h a b pc lo st := by
  rw [hst]
  refine pr_callS0 C hM cs hn hd hr ha hb (fun _ => rfl) (fun z => by cases z) dg fun r h' hp => ?_
  obtain ⟨rfl, rfl⟩ := hp
  exact kk
end ROWS
set_option maxRecDepth 100000 in
theorem c_X3_needRangeY (G : pa_G) (l : Launch) (h : pa_H) (v lo9 hi : Int32) (hv : ms_in v lo9 hi = true) : pa_ME G l mX3_needRange 2 [pv_i v, pv_i lo9, pv_i hi] h h := by
  refine pa_go l (by decide) (by simp [pa_c1l, pa_c1]) (fun _ => rfl) fun x C E el ea => ?_
  subst el
  show pa_w G x 3 h 0 0 0 [some (pv_i v), some (pv_i lo9), some (pv_i hi)] []
  refine pr_iload_n (pc := 0) C dX3_needRange_0 rfl ?_
  refine pr_iload_n (pc := 1) C dX3_needRange_1 rfl ?_
  refine pr_iload_n (pc := 2) C dX3_needRange_2 rfl ?_
  refine pr_sP (pc := 3) C (c_X3_isWithin G _ h v lo9 hi) ws_X3_251 rfl rfl (by decide) (Nat.le_of_ble_eq_true rfl) (by omega) (by omega) dX3_needRange_3 ?_
  refine pr_ifb_ne (pc := 6) C 19 dX3_needRange_6 (by decide) (fun c_6 => ?_) (fun c_6 => ?_)
  · exact pr_vret (pc := 19) C E (by omega) (by omega) ⟨rfl, rfl⟩ dX3_needRange_19
  · exact absurd c_6 (by rw [hv]; decide)

set_option maxRecDepth 100000 in
theorem c_X3_needAtomY (G : pa_G) (l : Launch) (h : pa_H) (v : Int32) (hv : ms_in v 0 9 = true) : pa_ME G l mX3_needAtom 3 [pv_i v] h h := by
  refine pa_go l (by decide) (by simp [pa_c1l, pa_c1]) (fun _ => rfl) fun x C E el ea => ?_
  subst el
  show pa_w G x 1 h 0 0 0 [some (pv_i v)] []
  refine pr_iload_n (pc := 0) C dX3_needAtom_0 rfl ?_
  refine pr_sP (pc := 1) C (c_X3_isAtom G _ h v) ws_X3_243 rfl rfl (by decide) (Nat.le_of_ble_eq_true rfl) (by omega) (by omega) dX3_needAtom_1 ?_
  refine pr_ifb_ne (pc := 4) C 17 dX3_needAtom_4 (by decide) (fun c_4 => ?_) (fun c_4 => ?_)
  · exact pr_vret (pc := 17) C E (by omega) (by omega) ⟨rfl, rfl⟩ dX3_needAtom_17
  · exact absurd c_4 (by rw [hv]; decide)

set_option maxRecDepth 100000 in
theorem c_X3_needSpeakerY (G : pa_G) (l : Launch) (h : pa_H) (k : Nat) (hk : k < 4) : pa_ME G l mX3_needSpeaker 1 [pv_i (nI k)] h h := by
  refine pa_go l (by decide) (by simp [pa_c1l, pa_c1]) (fun _ => rfl) fun x C E el ea => ?_
  subst el
  show pa_w G x 1 h 0 0 0 [some (pv_i (nI k))] []
  refine pr_iload_n (pc := 0) C dX3_needSpeaker_0 rfl ?_
  refine pr_if_ltN (pc := 1) C 9 k dX3_needSpeaker_1 (by decide) rfl (by omega) (fun c_1 => absurd c_1 (by omega)) (fun c_1 => ?_)
  refine pr_iload_n (pc := 4) C dX3_needSpeaker_4 rfl ?_
  refine pr_iconst (pc := 5) (v := 4) C dX3_needSpeaker_5 (by decide) ?_
  refine pr_icmp_ltN (pc := 6) C 19 k 4 dX3_needSpeaker_6 (by decide) rfl rfl (by omega) (by omega) (fun c_6 => ?_) (fun c_6 => absurd c_6 (by omega))
  exact pr_vret (pc := 19) C E (by omega) (by omega) ⟨rfl, rfl⟩ dX3_needSpeaker_19
set_option maxRecDepth 100000 in
theorem c_X3_needGoodY (G : pa_G) (l : Launch) (h : pa_H) (k : Nat) (hk : k < 8) : pa_ME G l mX3_needGood 1 [pv_i (nI k)] h h := by
  refine pa_go l (by decide) (by simp [pa_c1l, pa_c1]) (fun _ => rfl) fun x C E el ea => ?_
  subst el
  show pa_w G x 1 h 0 0 0 [some (pv_i (nI k))] []
  refine pr_iload_n (pc := 0) C dX3_needGood_0 rfl ?_
  refine pr_if_ltN (pc := 1) C 10 k dX3_needGood_1 (by decide) rfl (by omega) (fun c_1 => absurd c_1 (by omega)) (fun c_1 => ?_)
  refine pr_iload_n (pc := 4) C dX3_needGood_4 rfl ?_
  refine pr_bipush (pc := 5) (v := 8) C dX3_needGood_5 (by decide) ?_
  refine pr_icmp_ltN (pc := 7) C 20 k 8 dX3_needGood_7 (by decide) rfl rfl (by omega) (by omega) (fun c_6 => ?_) (fun c_6 => absurd c_6 (by omega))
  exact pr_vret (pc := 20) C E (by omega) (by omega) ⟨rfl, rfl⟩ dX3_needGood_20
set_option maxRecDepth 100000 in
set_option maxHeartbeats 4000000 in
theorem c_X3_carryOutAcks (G : pa_G) (l : Launch) (K : Nat → Nat → Nat → Int32) (Sm S : Nat → Nat → Int32) (N : Nat → Nat) (O : Nat → Int64) (T D e : Nat) (z : sj_Z) (hs : sj_M K N T D z e S) (c : Nat) (hA : sc_A S T c) (hz : ∀ j, j < 4 → z.2 j = S 230 j) : pa_M G l mX3_carryOutAcks 14 true [pv_o 4 0] (K, Sm, N, O) (2 * (sj_ph (ms_acks S) T - sj_ph S T)) (1520 * (sj_ph (ms_acks S) T - sj_ph S T)) (sj_post none Sm O T D z e (ms_acks S)) := by
  refine pa_go l (by decide) (by simp [pa_c1l, pa_c1]) (fun _ => rfl) fun x C E el ea => ?_
  subst el
  have hT := hA.1.1.1
  have hTD := sj_TD hs
  show pa_w G x 3 (K, Sm, N, O) 0 0 0 [some (pv_o 4 0), none, none] []
  refine pr_iconst (pc := 0) (v := 0) C dX3_carryOutAcks_0 (by decide) ?_
  refine pr_istore_n (pc := 1) C dX3_carryOutAcks_1 (by decide) ?_
  have lp2 : ∀ (n3 k1 : Nat) (S5 : Nat → Nat → Int32) (K : Nat → Nat → Nat → Int32) (N : Nat → Nat), k1 ≤ 4 → 4 < k1 + n3 → S5 = pz_it ms_ack k1 S → (sc_A S5 T c ∧ sc_Yk z S5 T k1 ∧ sj_ph S T ≤ sj_ph S5 T) → sj_M K N T D z e S5 → pa_w G x 3 (K, Sm, N, O) (2 * (sj_ph S5 T - sj_ph S T)) (1520 * (sj_ph S5 T - sj_ph S T)) 2 [some (pv_o 4 0), some (pv_i (nI k1)), none] [] := by
    intro n3
    induction n3 with
    | zero => intro k1 S5 K N h1 h2; exact absurd h2 (by omega)
    | succ n3 ih4 =>
      intro k1 S5 K N hk1_k1 hk2_k1 eS_k1 hx_k1 hs
      have hpi : sj_ph S5 T ≤ sj_ph (ms_acks S) T := by rw [eS_k1]; exact sc_A_ph hA (by omega)
      have hpl : sj_ph S T ≤ sj_ph S5 T := hx_k1.2.2
      refine pr_iload_n (pc := 2) C dX3_carryOutAcks_2 rfl ?_
      refine pr_iconst (pc := 3) (v := 4) C dX3_carryOutAcks_3 (by decide) ?_
      refine pr_icmp_geN (pc := 4) C 40 k1 4 dX3_carryOutAcks_4 (by decide) rfl rfl (by omega) (by omega) (fun c_4 => ?_) (fun c_4 => ?_)
      · obtain rfl : 4 = k1 := by omega
        exact pr_vret (pc := 40) C E (by rw [eS_k1]; exact Nat.le_refl _) (by rw [eS_k1]; exact Nat.le_refl _) ⟨rfl, K, N, rfl, sj_eq eS_k1 hs⟩ dX3_carryOutAcks_40
      · have hk4 : k1 < 4 := by omega
        have hg := hx_k1.2.1.2 k1 (by omega) hk4
        obtain ⟨hMk, hJk, hlk, hnk, hck, hc9⟩ := id hx_k1.1
        by_cases hsay : S5 230 k1 = -1
        · -- nothing
          rw [hsay] at hg
          refine pr_aload_n (pc := 7) C dX3_carryOutAcks_7 rfl ?_
          refine pr_geta (pc := 8) C 160 260 wf_X3_11 rfl rfl (by decide) (pl_4 _) dX3_carryOutAcks_8 ?_
          refine pr_iload_n (pc := 11) C dX3_carryOutAcks_11 rfl ?_
          refine pr_alds (pc := 12) (n := 4) C 160 k1 rfl rfl rfl (pl_r4 (by decide)) rfl (by omega) (by decide) dX3_carryOutAcks_12 ?_
          refine pr_gett (pc := 13) C 47 wf_X3_111 rfl rfl (pl_1 (by first | assumption | omega)) dX3_carryOutAcks_13 ?_
          refine pr_eqr (v := none) (by show pa_rc 3 (K 47 k1 0) = none; rw [sj_r47 hs hk4, hg]; rfl) ?_
          refine pr_astore_n (pc := 16) C dX3_carryOutAcks_16 (by decide) ?_
          refine pr_aload_n (pc := 17) C dX3_carryOutAcks_17 rfl ?_
          refine pr_ifnull0 (pc := 18) C 34 dX3_carryOutAcks_18 (by decide) ?_
          refine pr_iincN (pc := 34) C dX3_carryOutAcks_34 rfl k1 1 rfl rfl (by decide) ?_
          refine pr_goto (pc := 37) C 2 dX3_carryOutAcks_37 (by decide) ?_
          refine pr_lo (lo' := [some (pv_o 4 0), some (pv_i (nI (k1 + 1))), none]) (show pa_lle [some (pv_o 4 0), some (pv_i (nI (k1 + 1))), none] [some (pv_o 4 0), some (pv_i (nI (k1 + 1))), some (pv_r none)] by simp [pa_lle]) ?_
          refine pr_widen (Nat.le_refl _) (Nat.le_refl _) ?_
          exact ih4 (k1 + 1) S5 K N (by omega) (by omega) (by rw [pz_it_s, ← eS_k1]; exact (ms_ack_0 hsay).symm) (by have q := (ms_ack_0 hsay).symm; rw [q]; exact ⟨(sc_A_ack hx_k1.1 hk4).1, sc_Yk_ack hx_k1.1 hx_k1.2.1 hk4, Nat.le_trans hx_k1.2.2 (sc_A_ack hx_k1.1 hk4).2.1⟩) hs
        · -- tv
          obtain ⟨eN, ltT, -⟩ := mw_S_N hMk hk4 hsay
          obtain ⟨n1, n2, n3⟩ := hnk k1 hk4 hsay
          have hackp := (sc_A_ack hx_k1.1 hk4).2.2 hsay
          have hpn : sj_ph (ms_ack S5 k1) T ≤ sj_ph (ms_acks S) T := by rw [show ms_ack S5 k1 = pz_it ms_ack (k1 + 1) S by rw [pz_it_s, ← eS_k1]]; exact sc_A_ph hA (by omega)
          generalize htv : mn (S5 230 k1) = tv at eN ltT n1 n2 n3 hackp
          rw [eN] at hg
          refine pr_aload_n (pc := 7) C dX3_carryOutAcks_7 rfl ?_
          refine pr_geta (pc := 8) C 160 260 wf_X3_11 rfl rfl (by decide) (pl_4 _) dX3_carryOutAcks_8 ?_
          refine pr_iload_n (pc := 11) C dX3_carryOutAcks_11 rfl ?_
          refine pr_alds (pc := 12) (n := 4) C 160 k1 rfl rfl rfl (pl_r4 (by decide)) rfl (by omega) (by decide) dX3_carryOutAcks_12 ?_
          refine pr_gett (pc := 13) C 47 wf_X3_111 rfl rfl (pl_1 (by first | assumption | omega)) dX3_carryOutAcks_13 ?_
          refine pr_eqr (v := some (3, tv)) (by show pa_rc 3 (K 47 k1 0) = some (3, tv); rw [sj_r47 hs hk4, hg]; exact pa_rc_nI (by omega)) ?_
          refine pr_astore_n (pc := 16) C dX3_carryOutAcks_16 (by decide) ?_
          refine pr_aload_n (pc := 17) C dX3_carryOutAcks_17 rfl ?_
          refine pr_ifnull1 (pc := 18) C dX3_carryOutAcks_18 ?_
          refine pr_aload_n (pc := 21) C dX3_carryOutAcks_21 rfl ?_
          refine pr_geti (pc := 22) C 121 wf_X3_161 rfl (by decide) (pl_3 (sj_n0 hs (by first | assumption | omega))) dX3_carryOutAcks_22 ?_
          refine pr_eqi (v := S5 219 tv) (sj_r121 hs (by first | assumption | omega)) ?_
          refine pr_iconst (pc := 25) (v := 4) C dX3_carryOutAcks_25 (by decide) ?_
          refine pr_icmp_ne (pc := 26) C 34 dX3_carryOutAcks_26 (by decide) (fun c_26 => ?_) (fun c_26 => ?_)
          · refine pr_iincN (pc := 34) C dX3_carryOutAcks_34 rfl k1 1 rfl rfl (by decide) ?_
            refine pr_goto (pc := 37) C 2 dX3_carryOutAcks_37 (by decide) ?_
            refine pr_lo (lo' := [some (pv_o 4 0), some (pv_i (nI (k1 + 1))), none]) (show pa_lle [some (pv_o 4 0), some (pv_i (nI (k1 + 1))), none] [some (pv_o 4 0), some (pv_i (nI (k1 + 1))), some (pv_o 3 tv)] by simp [pa_lle]) ?_
            refine pr_widen (Nat.le_refl _) (Nat.le_refl _) ?_
            exact ih4 (k1 + 1) S5 K N (by omega) (by omega) (by rw [pz_it_s, ← eS_k1]; exact (ms_ack_n eN (by omega) c_26).symm) (by have q := (ms_ack_n eN (by omega) c_26).symm; rw [q]; exact ⟨(sc_A_ack hx_k1.1 hk4).1, sc_Yk_ack hx_k1.1 hx_k1.2.1 hk4, Nat.le_trans hx_k1.2.2 (sc_A_ack hx_k1.1 hk4).2.1⟩) hs
          · have hpk := hackp c_26
            refine pr_aload_n (pc := 29) C dX3_carryOutAcks_29 rfl ?_
            refine pr_aload_n (pc := 30) C dX3_carryOutAcks_30 rfl ?_
            refine pr_vC0 (pc := 31) (rest := []) C (c_X3_carryOut G _ K Sm S5 N O T D e z hs tv hMk hJk ltT n1 (by rw [hck]; exact nI_nm2 hc9) (fun q => absurd (c_26.symm.trans q) (by decide))) wv_X3_125 rfl rfl (by decide) (by decide) (pl_4 _) (by decide) (by omega) (by omega) (fun z => absurd (ea.symm.trans z) (by decide)) (fun _ => ⟨trivial, ⟨⟨lr_kn (by decide), (pl_4 _)⟩, ⟨trivial, ⟨⟨lr_kn (by decide), (pl_3 (sj_n0 hs (by first | assumption | omega)))⟩, trivial⟩⟩⟩⟩) dX3_carryOutAcks_31 ?_
            intro K N hs
            refine pr_sim (sj_eq (ms_ack_y eN (by omega) hsay c_26).symm (sj_M_230 (k := k1) (v := -1) hs)) ?_
            intro K N hs
            refine pr_iincN (pc := 34) C dX3_carryOutAcks_34 rfl k1 1 rfl rfl (by decide) ?_
            refine pr_goto (pc := 37) C 2 dX3_carryOutAcks_37 (by decide) ?_
            refine pr_lo (lo' := [some (pv_o 4 0), some (pv_i (nI (k1 + 1))), none]) (show pa_lle [some (pv_o 4 0), some (pv_i (nI (k1 + 1))), none] [some (pv_o 4 0), some (pv_i (nI (k1 + 1))), some (pv_o 3 tv)] by simp [pa_lle]) ?_
            refine pr_widen (a' := 2 * (sj_ph (ms_ack S5 k1) T - sj_ph S T)) (b' := 1520 * (sj_ph (ms_ack S5 k1) T - sj_ph S T)) (by have := hackp c_26; omega) (by have := hackp c_26; omega) ?_
            exact ih4 (k1 + 1) (ms_ack S5 k1) K N (by omega) (by omega) (by rw [pz_it_s, ← eS_k1]) ⟨(sc_A_ack hx_k1.1 hk4).1, sc_Yk_ack hx_k1.1 hx_k1.2.1 hk4, Nat.le_trans hx_k1.2.2 (sc_A_ack hx_k1.1 hk4).2.1⟩ (sj_eq rfl hs)
  refine pr_widen (a' := 2 * (sj_ph S T - sj_ph S T)) (b' := 1520 * (sj_ph S T - sj_ph S T)) (Nat.zero_le _) (Nat.zero_le _) ?_
  exact lp2 (4 + 1) 0 _ K N (by omega) (by omega) (pz_it_z _ _) ⟨hA, sc_Yk0 hA hz, Nat.le_refl _⟩ hs

def sc_zt (z : sj_Z) : Nat → sj_Z | 0 => z | _ + 1 => sc_zf
theorem sc_zt1 {z : sj_Z} {m : Nat} (h : 1 ≤ m) : sc_zt z m = sc_zf := by
  cases m with
  | zero => omega
  | succ m => rfl
theorem ms_g1_no {S : Nat → Nat → Int32} (h : ms_best (ms_acks S) = -1) : ms_lose (ms_acks S) = ms_g1 S := by
  unfold ms_g1 ms_floor
  rw [if_pos h]
theorem ms_g1_d {S : Nat → Nat → Int32} : ms_floor (ms_acks S) = ms_g1 S := rfl
theorem ms_clk_d {S : Nat → Nat → Int32} : pa_us S 200 0 (S 200 0 + 1) = ms_clk S := rfl
theorem ms_g3_d {S : Nat → Nat → Int32} {T : Nat} : ms_comes (ms_clk (ms_g1 S)) T = ms_g3 T S := rfl
theorem ms_g5_d {S : Nat → Nat → Int32} {T : Nat} : ms_opn (ms_hard (ms_g3 T S)) T = ms_g5 T S := rfl
theorem ms_sil_y {S : Nat → Nat → Int32} {T : Nat} (h : ¬ S 201 0 = 0) : ms_sil S T = pz_it ms_sis (4 * T) S := if_neg h
theorem ms_sil_n {S : Nat → Nat → Int32} {T : Nat} (h : S 201 0 = 0) : ms_sil S T = S := if_pos h
theorem ms_tick1_y {S : Nat → Nat → Int32} {T k : Nat} (h : ¬ ms_g5 T S 201 0 = 0) : pz_it ms_sis (4 * T) (ms_g5 T S) = ms_tick1 T S k := by
  rw [ms_tick1_g, ms_sil_y h]
theorem ms_tick1_n {S : Nat → Nat → Int32} {T k : Nat} (h : ms_g5 T S 201 0 = 0) : ms_g5 T S = ms_tick1 T S k := by
  rw [ms_tick1_g, ms_sil_n h]
def sc_I (z : sj_Z) (S : Nat → Nat → Int32) (T c k : Nat) : Prop := sc_A S T (c + k) ∧ (∀ j, j < 4 → (sc_zt z k).2 j = S 230 j) ∧ (sc_zt z k).1 = false
theorem sc_I_tick {z : sj_Z} {S : Nat → Nat → Int32} {T c k : Nat} (h : sc_I z S T c k) (hc : c + k + 1 < 30000) : sc_I z (ms_tick1 T S k) T c (k + 1) ∧ sj_ph S T ≤ sj_ph (ms_tick1 T S k) T := by
  obtain ⟨hA1, hY1, hB1, hl0, g3, g5, hA6, n6, ⟨p1, p2, p3, p4, p5, p6⟩, p2b⟩ := sc_tick (k := k) h.1 h.2.1 hc
  exact ⟨⟨hA6, fun j hj => (n6 j hj).symm, rfl⟩, by omega⟩
theorem sc_I_ticks {z : sj_Z} {S : Nat → Nat → Int32} {T c m : Nat} (h : sc_I z S T c 0) (hc : c + m + 1 < 30000) : ∀ k, k ≤ m → sc_I z (pz_it (ms_tick1 T) k S) T c k
  | 0, _ => h
  | k + 1, hk => (sc_I_tick (sc_I_ticks h hc k (by omega)) (by omega)).1
theorem sc_I_ph {z : sj_Z} {S : Nat → Nat → Int32} {T c m : Nat} (h : sc_I z S T c 0) (hc : c + m + 1 < 30000) : ∀ d k, k + d = m → sj_ph (pz_it (ms_tick1 T) k S) T ≤ sj_ph (ms_ticks T m S) T
  | 0, k, hk => by
    rw [show k = m by omega]
    exact Nat.le_refl _
  | d + 1, k, hk => Nat.le_trans (sc_I_tick (sc_I_ticks h hc k (by omega)) (by omega)).2 (sc_I_ph h hc d (k + 1) (by omega))
set_option maxRecDepth 100000 in
set_option maxHeartbeats 4000000 in
theorem c_X3_tickY (G : pa_G) (l : Launch) (K : Nat → Nat → Nat → Int32) (Sm S : Nat → Nat → Int32) (N : Nat → Nat) (O : Nat → Int64) (T D e : Nat) (z : sj_Z) (hs : sj_M K N T D z e S) (c m : Nat) (hA : sc_A S T c) (hz : ∀ j, j < 4 → z.2 j = S 230 j) (hz1 : z.1 = false) (hm1 : 1 ≤ m) (hm20 : m ≤ 20) (hcm : c + m + 1 < 30000) (hD : D ≤ 900) : pa_M G l mX3_tick 15 true [pv_o 4 0, pv_i (nI m)] (K, Sm, N, O) (2 * (sj_ph (ms_ticks T m S) T - sj_ph S T)) (1520 * (sj_ph (ms_ticks T m S) T - sj_ph S T)) (sj_post (some (pv_i ((ms_ticks T m S) 200 0))) Sm O T D sc_zf e (ms_ticks T m S)) := by
  refine pa_go l (by decide) (by simp [pa_c1l, pa_c1]) (fun _ => rfl) fun x C E el ea => ?_
  subst el
  have hT := hA.1.1.1
  have hTD := sj_TD hs
  have hI0 : sc_I z S T c 0 := ⟨hA, hz, hz1⟩
  have hin : ms_in (nI m) 1 20 = true := by
    have e1 : (1 : Int32) ≤ nI m := (nI_leI (a := 1) (b := m) (by decide) (by omega)).mpr hm1
    have e2 : nI m ≤ (20 : Int32) := (nI_leI (a := m) (b := 20) (by omega) (by decide)).mpr hm20
    simp [ms_in, e1, e2]
  show pa_w G x 4 (K, Sm, N, O) 0 0 0 [some (pv_o 4 0), some (pv_i (nI m)), none, none] []
  refine pr_iload_n (pc := 0) C dX3_tick_0 rfl ?_
  refine pr_iconst (pc := 1) (v := 1) C dX3_tick_1 (by decide) ?_
  refine pr_bipush (pc := 2) (v := 20) C dX3_tick_2 (by decide) ?_
  refine pr_sE (pc := 4) C (c_X3_needRangeY G _ (K, Sm, N, O) (nI m) 1 20 hin) ws_X3_42 rfl rfl (by decide) (by decide) (by omega) (by omega) dX3_tick_4 ?_
  refine pr_iconst (pc := 7) (v := 0) C dX3_tick_7 (by decide) ?_
  refine pr_istore_n (pc := 8) C dX3_tick_8 (by decide) ?_
  have lp2 : ∀ (n3 k1 : Nat) (S5 : Nat → Nat → Int32) (K : Nat → Nat → Nat → Int32) (N : Nat → Nat), k1 ≤ m → m < k1 + n3 → S5 = pz_it (ms_tick1 T) k1 S → (sc_I z S5 T c k1 ∧ sj_ph S T ≤ sj_ph S5 T) → sj_M K N T D (sc_zt z k1) e S5 → pa_w G x 4 (K, Sm, N, O) (2 * (sj_ph S5 T - sj_ph S T)) (1520 * (sj_ph S5 T - sj_ph S T)) 9 [some (pv_o 4 0), some (pv_i (nI m)), some (pv_i (nI k1)), none] [] := by
    intro n3
    induction n3 with
    | zero => intro k1 S5 K N h1 h2; exact absurd h2 (by omega)
    | succ n3 ih4 =>
      intro k1 S5 K N hk1_k1 hk2_k1 eS_k1 hx_k1 hs
      have hpi : sj_ph S5 T ≤ sj_ph (ms_ticks T m S) T := by rw [eS_k1]; exact sc_I_ph hI0 hcm (m - k1) k1 (by omega)
      have hpl : sj_ph S T ≤ sj_ph S5 T := hx_k1.2
      obtain ⟨hA5, hz5, hzf5⟩ := id hx_k1.1
      refine pr_iload_n (pc := 9) C dX3_tick_9 rfl ?_
      refine pr_iload_n (pc := 10) C dX3_tick_10 rfl ?_
      refine pr_icmp_geN (pc := 11) C 75 k1 m dX3_tick_11 (by decide) rfl rfl (by omega) (by omega) (fun c_11 => ?_) (fun c_11 => ?_)
      · obtain rfl : m = k1 := by omega
        refine pr_aload_n (pc := 75) C dX3_tick_75 rfl ?_
        refine pr_geti (pc := 76) C 166 wf_X3_76 rfl (by decide) (pl_4 _) dX3_tick_76 ?_
        refine pr_eqi (v := S5 200 0) (sj_r166 hs) ?_
        exact pr_iret (pc := 79) C E (Or.inl rfl) (by rw [eS_k1]; exact Nat.le_refl _) (by rw [eS_k1]; exact Nat.le_refl _) ⟨by rw [eS_k1]; rfl, K, N, rfl, sj_eq eS_k1 (sj_zeq (sc_zt1 hm1) hs)⟩ dX3_tick_79
      · obtain ⟨hA1, hY1, hB1, hl0, ⟨g3m, g3j⟩, ⟨g5m, g5j⟩, hA6, n6, ⟨p1, p2, p3, p4, p5, p6⟩, p2b⟩ := sc_tick (k := k1) hA5 hz5 (by omega)
        have hpn : sj_ph (ms_tick1 T S5 k1) T ≤ sj_ph (ms_ticks T m S) T := by rw [show ms_tick1 T S5 k1 = pz_it (ms_tick1 T) (k1 + 1) S by rw [pz_it_s, ← eS_k1]]; exact sc_I_ph hI0 hcm (m - (k1 + 1)) (k1 + 1) (by omega)
        obtain ⟨g4j, q4⟩ := sc_hard g3m g3j
        obtain ⟨g6j, q6⟩ := sc_sils g5m g5j
        have e4 := sj_ph_pte (S := ms_g3 T S5) (S' := ms_hard (ms_g3 T S5)) (T := T) (fun j => ms_hard_ne (by decide) (by decide) (by decide) (by decide)) q4
        have e6 : sj_ph (ms_tick1 T S5 k1) T = sj_ph (ms_g5 T S5) T + (sj_pt (ms_sil (ms_g5 T S5) T) T - sj_pt (ms_g5 T S5) T) := sj_ph_pte (S := ms_g5 T S5) (S' := ms_sil (ms_g5 T S5) T) (T := T) (fun j => ms_sil_ne (by decide) (by decide) (by decide)) q6
        refine pr_aload_n (pc := 14) C dX3_tick_14 rfl ?_
        refine pr_vC0 (pc := 15) (rest := []) C (c_X3_carryOutAcks G _ K Sm S5 N O T D e (sc_zt z k1) hs (c + k1) hA5 hz5) wv_X3_118 rfl rfl (by decide) (by decide) (pl_4 _) (by decide) (by omega) (by omega) (fun z => absurd (ea.symm.trans z) (by decide)) (fun _ => ⟨trivial, ⟨⟨lr_kn (by decide), (pl_4 _)⟩, ⟨trivial, ⟨trivial, trivial⟩⟩⟩⟩) dX3_tick_15 ?_
        intro K N hs
        refine pr_aload_n (pc := 18) C dX3_tick_18 rfl ?_
        refine pr_vP (pc := 19) C (c_X3_turnWithFloor G _ K Sm (ms_acks S5) N O T D e (sc_zt z k1) hs hA1.1 hzf5 hY1) wv_X3_121 rfl rfl (by decide) (by decide) (pl_4 _) (Nat.le_of_ble_eq_true rfl) (by omega) (by omega) dX3_tick_19 ?_
        refine pr_astore_n (pc := 22) C dX3_tick_22 (by decide) ?_
        refine pr_aload_n (pc := 23) C dX3_tick_23 rfl ?_
        by_cases hb : ms_best (ms_acks S5) = -1
        · -- nobody
          refine pr_eqr (v := none) (by rw [hb]; exact sc_ct0) ?_
          refine pr_ifnull0 (pc := 24) C 32 dX3_tick_24 (by decide) ?_
          refine pr_sim (sj_eq (ms_g1_no hb) (sj_lose hs hzf5 hA1 hY1)) ?_
          intro K N hs
          refine pr_lo (lo' := [some (pv_o 4 0), some (pv_i (nI m)), some (pv_i (nI k1)), none]) (show pa_lle [some (pv_o 4 0), some (pv_i (nI m)), some (pv_i (nI k1)), none] [some (pv_o 4 0), some (pv_i (nI m)), some (pv_i (nI k1)), some (pv_r (sc_ct (ms_acks S5) (ms_best (ms_acks S5))))] by simp [pa_lle]) ?_
          refine pr_aload_n (pc := 32) C dX3_tick_32 rfl ?_
          refine pr_vC0 (pc := 33) (rest := []) C (c_X3_loseWhatIsStillSaid G _ K Sm (ms_g1 S5) N O T D e (true, (sc_zt z k1).2) hs hT hD hB1.2.2.2.2.2.2) wv_X3_129 rfl rfl (by decide) (by decide) (pl_4 _) (by decide) (by omega) (by omega) (fun _ => rfl) (fun z => by cases z) dX3_tick_33 ?_
          intro K N hs
          refine pr_aload_n (pc := 36) C dX3_tick_36 rfl ?_
          refine pr_dup (pc := 37) C dX3_tick_37 trivial ?_
          refine pr_geti (pc := 38) C 166 wf_X3_76 rfl (by decide) (pl_4 _) dX3_tick_38 ?_
          refine pr_eqi (v := (ms_g1 S5) 200 0) (sj_r166 hs) ?_
          refine pr_iconst (pc := 41) (v := 1) C dX3_tick_41 (by decide) ?_
          refine pr_iadd (pc := 42) C dX3_tick_42 ?_
          refine pr_puti (pc := 43) C 166 wp_X3_76 rfl (by decide) rfl (by decide) (pl_4 _) dX3_tick_43 ?_
          refine pr_sim (sj_eq ms_clk_d (sj_w166 hs)) ?_
          intro K N hs
          refine pr_aload_n (pc := 46) C dX3_tick_46 rfl ?_
          refine pr_vC0 (pc := 47) (rest := []) C (c_X3_hearWhatComesLate G _ K Sm (ms_clk (ms_g1 S5)) N O T D e sc_zf hs hl0 hT) wv_X3_132 rfl rfl (by decide) (by decide) (pl_4 _) (by decide) (by omega) (by omega) (fun _ => rfl) (fun z => by cases z) dX3_tick_47 ?_
          intro K N hs
          refine pr_sim (sj_eq ms_g3_d hs) ?_
          intro K N hs
          refine pr_aload_n (pc := 50) C dX3_tick_50 rfl ?_
          refine pr_vC0 (pc := 51) (rest := []) C (c_X3_endHints G _ K Sm (ms_g3 T S5) N O T D e sc_zf hs g3m g3j) wv_X3_135 rfl rfl (by decide) (by decide) (pl_4 _) (by decide) (by omega) (by omega) (fun z => absurd (ea.symm.trans z) (by decide)) (fun _ => ⟨trivial, ⟨⟨lr_kn (by decide), (pl_4 _)⟩, ⟨trivial, ⟨trivial, trivial⟩⟩⟩⟩) dX3_tick_51 ?_
          intro K N hs
          refine pr_aload_n (pc := 54) C dX3_tick_54 rfl ?_
          refine pr_vC0 (pc := 55) (rest := []) C (c_X3_closeOverdueOffers G _ K Sm (ms_hard (ms_g3 T S5)) N O T D e sc_zf hs (fun k => (g4j.2.2.1 k).imp id (fun q => q.1)) hT) wv_X3_138 rfl rfl (by decide) (by decide) (pl_4 _) (by decide) (by omega) (by omega) (fun _ => rfl) (fun z => by cases z) dX3_tick_55 ?_
          intro K N hs
          refine pr_sim (sj_eq ms_g5_d hs) ?_
          intro K N hs
          refine pr_aload_n (pc := 58) C dX3_tick_58 rfl ?_
          refine pr_geti (pc := 59) C 165 wf_X3_85 rfl (by decide) (pl_4 _) dX3_tick_59 ?_
          refine pr_eqi (v := (ms_g5 T S5) 201 0) (sj_r165 hs) ?_
          refine pr_if_eq (pc := 62) C 69 dX3_tick_62 (by decide) (fun c_62 => ?_) (fun c_62 => ?_)
          · refine pr_iincN (pc := 69) C dX3_tick_69 rfl k1 1 rfl rfl (by decide) ?_
            refine pr_goto (pc := 72) C 9 dX3_tick_72 (by decide) ?_
            refine pr_widen (a' := 2 * (sj_ph (ms_tick1 T S5 k1) T - sj_ph S T)) (b' := 1520 * (sj_ph (ms_tick1 T S5 k1) T - sj_ph S T)) (by omega) (by omega) ?_
            exact ih4 (k1 + 1) (ms_tick1 T S5 k1) K N (by omega) (by omega) (by rw [pz_it_s, ← eS_k1]) ⟨(sc_I_tick hx_k1.1 (by omega)).1, Nat.le_trans hx_k1.2 (sc_I_tick hx_k1.1 (by omega)).2⟩ (sj_eq (ms_tick1_n c_62) hs)
          · have esil : ms_sil (ms_g5 T S5) T = pz_it ms_sis (4 * T) (ms_g5 T S5) := ms_sil_y c_62
            rw [esil] at e6 q6
            refine pr_aload_n (pc := 65) C dX3_tick_65 rfl ?_
            refine pr_vC0 (pc := 66) (rest := []) C (c_X3_countSilence G _ K Sm (ms_g5 T S5) N O T D e (sc_zt z (k1 + 1)) hs g5m g5j) wv_X3_141 rfl rfl (by decide) (by decide) (pl_4 _) (by decide) (by omega) (by omega) (fun z => absurd (ea.symm.trans z) (by decide)) (fun _ => ⟨trivial, ⟨⟨lr_kn (by decide), (pl_4 _)⟩, ⟨trivial, ⟨trivial, trivial⟩⟩⟩⟩) dX3_tick_66 ?_
            intro K N hs
            refine pr_iincN (pc := 69) C dX3_tick_69 rfl k1 1 rfl rfl (by decide) ?_
            refine pr_goto (pc := 72) C 9 dX3_tick_72 (by decide) ?_
            refine pr_widen (a' := 2 * (sj_ph (ms_tick1 T S5 k1) T - sj_ph S T)) (b' := 1520 * (sj_ph (ms_tick1 T S5 k1) T - sj_ph S T)) (by omega) (by omega) ?_
            exact ih4 (k1 + 1) (ms_tick1 T S5 k1) K N (by omega) (by omega) (by rw [pz_it_s, ← eS_k1]) ⟨(sc_I_tick hx_k1.1 (by omega)).1, Nat.le_trans hx_k1.2 (sc_I_tick hx_k1.1 (by omega)).2⟩ (sj_eq (ms_tick1_y c_62) hs)
        · -- t
          have p2c := p2b hb
          obtain ⟨mf, tf, mf4, ebf, hmf, eNf, ltTf, nf1, nf2, nf3, nf4, eff⟩ := sc_fl hA1 hb
          have ect : sc_ct (ms_acks S5) (ms_best (ms_acks S5)) = some (3, tf) := by rw [ebf]; exact sc_ct1 mf4 eNf (by omega)
          obtain ⟨l1, l2, l3, l4, l5⟩ := sc_A_lose hA1
          refine pr_eqr (v := some (3, tf)) ect ?_
          refine pr_ifnull1 (pc := 24) C dX3_tick_24 ?_
          refine pr_aload_n (pc := 27) C dX3_tick_27 rfl ?_
          refine pr_aload_n (pc := 28) C dX3_tick_28 rfl ?_
          refine pr_eqr (v := some (3, tf)) ect ?_
          refine pr_lo (lo' := [some (pv_o 4 0), some (pv_i (nI m)), some (pv_i (nI k1)), none]) (show pa_lle [some (pv_o 4 0), some (pv_i (nI m)), some (pv_i (nI k1)), none] [some (pv_o 4 0), some (pv_i (nI m)), some (pv_i (nI k1)), some (pv_r (sc_ct (ms_acks S5) (ms_best (ms_acks S5))))] by simp [pa_lle]) ?_
          refine pr_sim (sj_lose hs hzf5 hA1 hY1) ?_
          intro K N hs
          refine pr_vC0 (pc := 29) (rest := []) C (c_X3_carryOut G _ K Sm (ms_lose (ms_acks S5)) N O T D e (true, (sc_zt z k1).2) hs tf l1 l2 ltTf nf4 (by rw [l4]; exact nI_nm2 hA1.2.2.2.2.2) (fun _ u hu => nf3 u (by rw [ms_lose_ne (by decide) (by decide)] at hu; exact hu))) wv_X3_125 rfl rfl (by decide) (by decide) (pl_4 _) (by decide) (by omega) (by omega) (fun z => absurd (ea.symm.trans z) (by decide)) (fun _ => ⟨trivial, ⟨⟨lr_kn (by decide), (pl_4 _)⟩, ⟨trivial, ⟨trivial, trivial⟩⟩⟩⟩) dX3_tick_29 ?_
          intro K N hs
          refine pr_sim (sj_eq (eff.symm.trans ms_g1_d) hs) ?_
          intro K N hs
          refine pr_aload_n (pc := 32) C dX3_tick_32 rfl ?_
          refine pr_vC0 (pc := 33) (rest := []) C (c_X3_loseWhatIsStillSaid G _ K Sm (ms_g1 S5) N O T D e (true, (sc_zt z k1).2) hs hT hD hB1.2.2.2.2.2.2) wv_X3_129 rfl rfl (by decide) (by decide) (pl_4 _) (by decide) (by omega) (by omega) (fun _ => rfl) (fun z => by cases z) dX3_tick_33 ?_
          intro K N hs
          refine pr_aload_n (pc := 36) C dX3_tick_36 rfl ?_
          refine pr_dup (pc := 37) C dX3_tick_37 trivial ?_
          refine pr_geti (pc := 38) C 166 wf_X3_76 rfl (by decide) (pl_4 _) dX3_tick_38 ?_
          refine pr_eqi (v := (ms_g1 S5) 200 0) (sj_r166 hs) ?_
          refine pr_iconst (pc := 41) (v := 1) C dX3_tick_41 (by decide) ?_
          refine pr_iadd (pc := 42) C dX3_tick_42 ?_
          refine pr_puti (pc := 43) C 166 wp_X3_76 rfl (by decide) rfl (by decide) (pl_4 _) dX3_tick_43 ?_
          refine pr_sim (sj_eq ms_clk_d (sj_w166 hs)) ?_
          intro K N hs
          refine pr_aload_n (pc := 46) C dX3_tick_46 rfl ?_
          refine pr_vC0 (pc := 47) (rest := []) C (c_X3_hearWhatComesLate G _ K Sm (ms_clk (ms_g1 S5)) N O T D e sc_zf hs hl0 hT) wv_X3_132 rfl rfl (by decide) (by decide) (pl_4 _) (by decide) (by omega) (by omega) (fun _ => rfl) (fun z => by cases z) dX3_tick_47 ?_
          intro K N hs
          refine pr_sim (sj_eq ms_g3_d hs) ?_
          intro K N hs
          refine pr_aload_n (pc := 50) C dX3_tick_50 rfl ?_
          refine pr_vC0 (pc := 51) (rest := []) C (c_X3_endHints G _ K Sm (ms_g3 T S5) N O T D e sc_zf hs g3m g3j) wv_X3_135 rfl rfl (by decide) (by decide) (pl_4 _) (by decide) (by omega) (by omega) (fun z => absurd (ea.symm.trans z) (by decide)) (fun _ => ⟨trivial, ⟨⟨lr_kn (by decide), (pl_4 _)⟩, ⟨trivial, ⟨trivial, trivial⟩⟩⟩⟩) dX3_tick_51 ?_
          intro K N hs
          refine pr_aload_n (pc := 54) C dX3_tick_54 rfl ?_
          refine pr_vC0 (pc := 55) (rest := []) C (c_X3_closeOverdueOffers G _ K Sm (ms_hard (ms_g3 T S5)) N O T D e sc_zf hs (fun k => (g4j.2.2.1 k).imp id (fun q => q.1)) hT) wv_X3_138 rfl rfl (by decide) (by decide) (pl_4 _) (by decide) (by omega) (by omega) (fun _ => rfl) (fun z => by cases z) dX3_tick_55 ?_
          intro K N hs
          refine pr_sim (sj_eq ms_g5_d hs) ?_
          intro K N hs
          refine pr_aload_n (pc := 58) C dX3_tick_58 rfl ?_
          refine pr_geti (pc := 59) C 165 wf_X3_85 rfl (by decide) (pl_4 _) dX3_tick_59 ?_
          refine pr_eqi (v := (ms_g5 T S5) 201 0) (sj_r165 hs) ?_
          refine pr_if_eq (pc := 62) C 69 dX3_tick_62 (by decide) (fun c_62 => ?_) (fun c_62 => ?_)
          · refine pr_iincN (pc := 69) C dX3_tick_69 rfl k1 1 rfl rfl (by decide) ?_
            refine pr_goto (pc := 72) C 9 dX3_tick_72 (by decide) ?_
            refine pr_widen (a' := 2 * (sj_ph (ms_tick1 T S5 k1) T - sj_ph S T)) (b' := 1520 * (sj_ph (ms_tick1 T S5 k1) T - sj_ph S T)) (by omega) (by omega) ?_
            exact ih4 (k1 + 1) (ms_tick1 T S5 k1) K N (by omega) (by omega) (by rw [pz_it_s, ← eS_k1]) ⟨(sc_I_tick hx_k1.1 (by omega)).1, Nat.le_trans hx_k1.2 (sc_I_tick hx_k1.1 (by omega)).2⟩ (sj_eq (ms_tick1_n c_62) hs)
          · have esil : ms_sil (ms_g5 T S5) T = pz_it ms_sis (4 * T) (ms_g5 T S5) := ms_sil_y c_62
            rw [esil] at e6 q6
            refine pr_aload_n (pc := 65) C dX3_tick_65 rfl ?_
            refine pr_vC0 (pc := 66) (rest := []) C (c_X3_countSilence G _ K Sm (ms_g5 T S5) N O T D e (sc_zt z (k1 + 1)) hs g5m g5j) wv_X3_141 rfl rfl (by decide) (by decide) (pl_4 _) (by decide) (by omega) (by omega) (fun z => absurd (ea.symm.trans z) (by decide)) (fun _ => ⟨trivial, ⟨⟨lr_kn (by decide), (pl_4 _)⟩, ⟨trivial, ⟨trivial, trivial⟩⟩⟩⟩) dX3_tick_66 ?_
            intro K N hs
            refine pr_iincN (pc := 69) C dX3_tick_69 rfl k1 1 rfl rfl (by decide) ?_
            refine pr_goto (pc := 72) C 9 dX3_tick_72 (by decide) ?_
            refine pr_widen (a' := 2 * (sj_ph (ms_tick1 T S5 k1) T - sj_ph S T)) (b' := 1520 * (sj_ph (ms_tick1 T S5 k1) T - sj_ph S T)) (by omega) (by omega) ?_
            exact ih4 (k1 + 1) (ms_tick1 T S5 k1) K N (by omega) (by omega) (by rw [pz_it_s, ← eS_k1]) ⟨(sc_I_tick hx_k1.1 (by omega)).1, Nat.le_trans hx_k1.2 (sc_I_tick hx_k1.1 (by omega)).2⟩ (sj_eq (ms_tick1_y c_62) hs)
  refine pr_widen (a' := 2 * (sj_ph S T - sj_ph S T)) (b' := 1520 * (sj_ph S T - sj_ph S T)) (Nat.zero_le _) (Nat.zero_le _) ?_
  exact lp2 (m + 1) 0 _ K N (by omega) (by omega) (pz_it_z _ _) ⟨hI0, Nat.le_refl _⟩ hs

