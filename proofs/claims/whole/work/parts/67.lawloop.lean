/-! THE LAW'S LOOP -/
theorem lw_and31 (v : Int32) : ∃ q, q < 32 ∧ v &&& 31 = nI q := by
  refine ⟨(v.toBitVec &&& 31#32).toNat, ?_, ?_⟩
  · rw [BitVec.toNat_and]
    have := Nat.and_le_right (n := v.toBitVec.toNat) (m := (31#32).toNat)
    have e : (31#32).toNat = 31 := rfl
    omega
  · apply Int32.toBitVec_inj.mp
    show v.toBitVec &&& 31#32 = BitVec.ofNat 32 (v.toBitVec &&& 31#32).toNat
    rw [BitVec.ofNat_toNat, BitVec.setWidth_eq]
theorem lw_sub7 {L : Nat} (hL : L ≤ 3584) : (nI L - 7).toInt = (L : Int) - 7 := by
  have e : nI L - 7 + nI 7 = nI L := by
    rw [show (7 : Int32) = nI 7 from rfl, Int32.sub_add_cancel]
  by_cases c : 7 ≤ L
  · obtain ⟨k, rfl⟩ : ∃ k, L = k + 7 := ⟨L - 7, by omega⟩
    rw [show nI (k + 7) - 7 = nI k by rw [← nI_add, show (7 : Int32) = nI 7 from rfl, Int32.add_sub_cancel], nI_toInt (by omega)]
    omega
  · rcases (show L = 0 ∨ L = 1 ∨ L = 2 ∨ L = 3 ∨ L = 4 ∨ L = 5 ∨ L = 6 by omega) with rfl | rfl | rfl | rfl | rfl | rfl | rfl <;> decide
set_option maxRecDepth 100000 in
set_option maxHeartbeats 8000000 in
theorem lw_loop {G : pa_G} {x : pa_X} {scr L mc ms A0 B0 : Nat} {xs : Nat → Int32} (hl9 : x.2.1.stackTraces = false) (C : pa_C G x cL_law 7 RL 17 mc ms) (X : lw_X G x scr L xs) (hL : L ≤ 3584) (hmc : A0 + 6000 ≤ mc) (hms : B0 + 2700000 ≤ ms)
    (hend : ∀ (h : pa_H) (a b : Nat) (lo : List (Option pa_V)), a ≤ mc → b ≤ ms → lw_w G x scr 7 h a b 1724 lo []) :
    ∀ (n r : Nat) (K : Nat → Nat → Nat → Int32) (N : Nat → Nat) (T : Nat) (z : sj_Z) (S : Nat → Nat → Int32) (c : Nat) (O : Nat → Int64) (a b : Nat), 7 * r ≤ L → L < 7 * r + n → lw_R K N T z S c → c ≤ 20 * r → a ≤ A0 + 2 * sj_ph S T + 4 * r → b ≤ B0 + 1520 * sj_ph S T + 1600 * r → lw_w G x scr 7 (K, S, N, O) a b 23 (lw_lo (7 * r)) [] := by
  intro n
  induction n with
  | zero =>
    intro r K N T z S c O a b h1 h2
    exact absurd h2 (by omega)
  | succ n ih =>
    intro r K N T z S c O a b h1 h2 h hc ha hb
    have hT := h.2.1.1.1.1
    have h580 : sj_ph S T ≤ 580 := sj_ph_580 hT
    have kk : ∀ (K' : Nat → Nat → Nat → Int32) (N' : Nat → Nat) (O' : Nat → Int64) (T' : Nat) (z' : sj_Z) (S' : Nat → Nat → Int32) (c' a' b' : Nat), 7 * r + 7 ≤ L → lw_R K' N' T' z' S' c' → c' ≤ c + 20 → sj_ph S T ≤ sj_ph S' T' → a' ≤ a + 2 * (sj_ph S' T' - sj_ph S T) + 4 → b' ≤ b + 1520 * (sj_ph S' T' - sj_ph S T) + 1600 → lw_w G x scr 7 (K', S', N', O') a' b' 1718 (lw_lo (7 * r)) [] := by
      intro K' N' O' T' z' S' c' a' b' hi hR hc' hph ha' hb'
      refine lw_of fun ad hs => ?_
      have Cx : pa_C G (lw_at x (K', S', N', O') ad) cL_law 7 RL 17 mc ms := lw_C C
      refine pr_iincN (pc := 1718) Cx dL_law_1718 rfl (7 * r) 7 rfl rfl (by decide) ?_
      refine pr_goto (pc := 1721) Cx 23 dL_law_1721 (by decide) ?_
      have e7 : 7 * r + 7 = 7 * (r + 1) := by omega
      show pa_w G _ 7 _ a' b' 23 (lw_lo (7 * r + 7)) []
      rw [e7]
      exact lw_to hs (ih (r + 1) K' N' T' z' S' c' O' a' b' (by omega) (by omega) hR (by omega) (by omega) (by omega))
    have hbl : 7 * r + 7 ≤ L → lw_w G x scr 7 (K, S, N, O) a b 33 (lw_lo (7 * r)) [] := fun hi => by
      obtain ⟨q, hq, eq⟩ := lw_and31 (xs (7 * r))
      have hc22 : c + 22 < 30000 := by omega
      have ha2 : a + 2000 ≤ mc := by omega
      have hb2 : b + 900000 ≤ ms := by omega
      have k2 := fun K' N' O' T' z' S' c' a' b' => kk K' N' O' T' z' S' c' a' b' hi
      refine lw_of fun ad hs => ?_
      have Cx : pa_C G (lw_at x (K, S, N, O) ad) cL_law 7 RL 17 mc ms := lw_C C
      refine pr_aload_n (pc := 33) Cx dL_law_33 rfl ?_
      refine pr_iload (pc := 34) Cx dL_law_34 rfl ?_
      refine pr_sld (pc := 36) Cx X hs (by omega) (by omega) dL_law_36 ?_
      refine pr_bipush (pc := 37) (v := 31) Cx dL_law_37 (by decide) ?_
      refine pr_iand (pc := 39) Cx dL_law_39 ?_
      refine pr_eqi (v := nI q) eq ?_
      rcases (show q = 0 ∨ q = 1 ∨ q = 2 ∨ q = 3 ∨ q = 4 ∨ q = 5 ∨ q = 6 ∨ q = 7 ∨ q = 8 ∨ q = 9 ∨ q = 10 ∨ q = 11 ∨ q = 12 ∨ q = 13 ∨ q = 14 ∨ q = 15 ∨ q = 16 ∨ q = 17 ∨ q = 18 ∨ q = 19 ∨ q = 20 ∨ q = 21 ∨ q = 22 ∨ q = 23 ∨ q = 24 ∨ q = 25 ∨ q = 26 ∨ q = 27 ∨ q = 28 ∨ q = 29 ∨ q = 30 ∨ q = 31 by omega) with rfl | rfl | rfl | rfl | rfl | rfl | rfl | rfl | rfl | rfl | rfl | rfl | rfl | rfl | rfl | rfl | rfl | rfl | rfl | rfl | rfl | rfl | rfl | rfl | rfl | rfl | rfl | rfl | rfl | rfl | rfl | rfl
      · exact pr_tableIn (pc := 40) Cx 164 dL_law_40 (by decide) (by decide) (off := 124) (by decide) (by decide) (lw_to hs (lb_power hl9 C X hL hi h hc22 ha2 hb2 k2))
      · exact pr_tableIn (pc := 40) Cx 232 dL_law_40 (by decide) (by decide) (off := 192) (by decide) (by decide) (lw_to hs (lb_knows hl9 C X hL hi h hc22 ha2 hb2 k2))
      · exact pr_tableIn (pc := 40) Cx 340 dL_law_40 (by decide) (by decide) (off := 300) (by decide) (by decide) (lw_to hs (lb_believe hl9 C X hL hi h hc22 ha2 hb2 k2))
      · exact pr_tableIn (pc := 40) Cx 420 dL_law_40 (by decide) (by decide) (off := 380) (by decide) (by decide) (lw_to hs (lb_deafen hl9 C X hL hi h hc22 ha2 hb2 k2))
      · exact pr_tableIn (pc := 40) Cx 488 dL_law_40 (by decide) (by decide) (off := 448) (by decide) (by decide) (lw_to hs (lb_give hl9 C X hL hi h hc22 ha2 hb2 k2))
      · exact pr_tableIn (pc := 40) Cx 556 dL_law_40 (by decide) (by decide) (off := 516) (by decide) (by decide) (lw_to hs (lb_strict hl9 C X hL hi h hc22 ha2 hb2 k2))
      · exact pr_tableIn (pc := 40) Cx 597 dL_law_40 (by decide) (by decide) (off := 557) (by decide) (by decide) (lw_to hs (lb_can hl9 C X hL hi h hc22 ha2 hb2 k2))
      · exact pr_tableIn (pc := 40) Cx 722 dL_law_40 (by decide) (by decide) (off := 682) (by decide) (by decide) (lw_to hs (lb_say hl9 C X hL hi h hc22 ha2 hb2 k2))
      · exact pr_tableIn (pc := 40) Cx 840 dL_law_40 (by decide) (by decide) (off := 800) (by decide) (by decide) (lw_to hs (lb_tick hl9 C X hL hi h hc22 ha2 hb2 k2))
      · exact pr_tableIn (pc := 40) Cx 896 dL_law_40 (by decide) (by decide) (off := 856) (by decide) (by decide) (lw_to hs (lb_clock hl9 C X hL hi h hc22 ha2 hb2 k2))
      · exact pr_tableIn (pc := 40) Cx 909 dL_law_40 (by decide) (by decide) (off := 869) (by decide) (by decide) (lw_to hs (lb_next hl9 C X hL hi h hc22 ha2 hb2 k2))
      · exact pr_tableIn (pc := 40) Cx 922 dL_law_40 (by decide) (by decide) (off := 882) (by decide) (by decide) (lw_to hs (lb_said hl9 C X hL hi h hc22 ha2 hb2 k2))
      · exact pr_tableIn (pc := 40) Cx 935 dL_law_40 (by decide) (by decide) (off := 895) (by decide) (by decide) (lw_to hs (lb_turn hl9 C X hL hi h hc22 ha2 hb2 k2))
      · exact pr_tableIn (pc := 40) Cx 1003 dL_law_40 (by decide) (by decide) (off := 963) (by decide) (by decide) (lw_to hs (lb_heard hl9 C X hL hi h hc22 ha2 hb2 k2))
      · exact pr_tableIn (pc := 40) Cx 1071 dL_law_40 (by decide) (by decide) (off := 1031) (by decide) (by decide) (lw_to hs (lb_stand hl9 C X hL hi h hc22 ha2 hb2 k2))
      · exact pr_tableIn (pc := 40) Cx 1139 dL_law_40 (by decide) (by decide) (off := 1099) (by decide) (by decide) (lw_to hs (lb_standBy hl9 C X hL hi h hc22 ha2 hb2 k2))
      · exact pr_tableIn (pc := 40) Cx 1207 dL_law_40 (by decide) (by decide) (off := 1167) (by decide) (by decide) (lw_to hs (lb_standAnew hl9 C X hL hi h hc22 ha2 hb2 k2))
      · exact pr_tableIn (pc := 40) Cx 1275 dL_law_40 (by decide) (by decide) (off := 1235) (by decide) (by decide) (lw_to hs (lb_hint hl9 C X hL hi h hc22 ha2 hb2 k2))
      · exact pr_tableIn (pc := 40) Cx 1343 dL_law_40 (by decide) (by decide) (off := 1303) (by decide) (by decide) (lw_to hs (lb_isSupported hl9 C X hL hi h hc22 ha2 hb2 k2))
      · exact pr_tableIn (pc := 40) Cx 1418 dL_law_40 (by decide) (by decide) (off := 1378) (by decide) (by decide) (lw_to hs (lb_lies hl9 C X hL hi h hc22 ha2 hb2 k2))
      · exact pr_tableIn (pc := 40) Cx 1474 dL_law_40 (by decide) (by decide) (off := 1434) (by decide) (by decide) (lw_to hs (lb_ground hl9 C X hL hi h hc22 ha2 hb2 k2))
      · exact pr_tableIn (pc := 40) Cx 1542 dL_law_40 (by decide) (by decide) (off := 1502) (by decide) (by decide) (lw_to hs (lb_questions hl9 C X hL hi h hc22 ha2 hb2 k2))
      · exact pr_tableIn (pc := 40) Cx 1555 dL_law_40 (by decide) (by decide) (off := 1515) (by decide) (by decide) (lw_to hs (lb_question hl9 C X hL hi h hc22 ha2 hb2 k2))
      · exact pr_tableIn (pc := 40) Cx 1623 dL_law_40 (by decide) (by decide) (off := 1583) (by decide) (by decide) (lw_to hs (lb_quarrels hl9 C X hL hi h hc22 ha2 hb2 k2))
      · exact pr_tableIn (pc := 40) Cx 1636 dL_law_40 (by decide) (by decide) (off := 1596) (by decide) (by decide) (lw_to hs (lb_owner hl9 C X hL hi h hc22 ha2 hb2 k2))
      · exact pr_tableIn (pc := 40) Cx 1692 dL_law_40 (by decide) (by decide) (off := 1652) (by decide) (by decide) (lw_to hs (lb_deals hl9 C X hL hi h hc22 ha2 hb2 k2))
      · exact pr_tableIn (pc := 40) Cx 1705 dL_law_40 (by decide) (by decide) (off := 1665) (by decide) (by decide) (lw_to hs (lb_minutes hl9 C X hL hi h hc22 ha2 hb2 k2))
      · exact pr_tableOut (pc := 40) Cx 1718 dL_law_40 (by decide) (by decide) (lw_to hs (k2 K N O T z S c a b h (by omega) (Nat.le_refl _) (by omega) (by omega)))
      · exact pr_tableOut (pc := 40) Cx 1718 dL_law_40 (by decide) (by decide) (lw_to hs (k2 K N O T z S c a b h (by omega) (Nat.le_refl _) (by omega) (by omega)))
      · exact pr_tableOut (pc := 40) Cx 1718 dL_law_40 (by decide) (by decide) (lw_to hs (k2 K N O T z S c a b h (by omega) (Nat.le_refl _) (by omega) (by omega)))
      · exact pr_tableOut (pc := 40) Cx 1718 dL_law_40 (by decide) (by decide) (lw_to hs (k2 K N O T z S c a b h (by omega) (Nat.le_refl _) (by omega) (by omega)))
      · exact pr_tableOut (pc := 40) Cx 1718 dL_law_40 (by decide) (by decide) (lw_to hs (k2 K N O T z S c a b h (by omega) (Nat.le_refl _) (by omega) (by omega)))
    refine lw_of fun ad hs => ?_
    have Cx : pa_C G (lw_at x (K, S, N, O) ad) cL_law 7 RL 17 mc ms := lw_C C
    refine pr_iload (pc := 23) Cx dL_law_23 rfl ?_
    refine pr_aload_n (pc := 25) Cx dL_law_25 rfl ?_
    refine pr_slen (pc := 26) Cx X hs dL_law_26 ?_
    refine pr_bipush (pc := 27) (v := 7) Cx dL_law_27 (by decide) ?_
    refine pr_isub (pc := 29) Cx dL_law_29 ?_
    refine pr_icmp_gtL (pc := 30) Cx 1724 dL_law_30 (by decide) (fun _ => ?_) (fun cc => ?_)
    · exact lw_to hs (hend _ a b _ (by omega) (by omega))
    · refine lw_to hs (hbl ?_)
      have h7 := lw_sub7 hL
      have c2 : nI (7 * r) ≤ nI L - 7 := by first | exact cc | exact Int32.not_lt.mp cc | exact Classical.not_not.mp cc
      rw [Int32.le_iff_toInt_le, h7, nI_toInt (by omega)] at c2
      omega
