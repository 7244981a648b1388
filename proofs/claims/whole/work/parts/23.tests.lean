/-! THE CLASS: what is possible, what is permitted -/
section CROWS2
variable {G : pa_G} {x : pa_X} {cc : ByteArray} {nL : Nat} {own : String} {d mc ms : Nat} {h : pa_H} {a b pc : Nat} {lo : List (Option pa_V)} {st : List pa_V}
theorem pr_ldcw (C : pa_C G x cc nL own d mc ms) {ix : Nat} {v : Int32} (dg : decode cc pc = .ok (.ldc_w ix, 3)) (hw : Jvm.Cond.constant own ix v ∈ pa_wl) (k : pa_w G x nL h a b (pc + 3) lo (pv_i v :: st)) : pa_w G x nL h a b pc lo st := by
  obtain ⟨p, l, e, R, s, m, args, below, meth, c, Q, h0, ad0, al⟩ := x
  exact fun ad H locs ls q1 q2 q3 q4 => lv_ldcw C.1 C.2.1 C.2.2.2.1 (C.2.2.2.2.1 _ hw) dg (k ad H locs ls q1 q2 q3 q4)
theorem pr_iushr (C : pa_C G x cc nL own d mc ms) {u v : Int32} (dg : decode cc pc = .ok (.iushr, 1)) (k : pa_w G x nL h a b (pc + 1) lo (pv_i (u.toUInt32 >>> (v.toUInt32 &&& Int32.toUInt32 31)).toInt32 :: st)) : pa_w G x nL h a b pc lo (pv_i v :: pv_i u :: st) := by
  obtain ⟨p, l, e, R, s, m, args, below, meth, c, Q, h0, ad0, al⟩ := x
  exact fun ad H locs ls q1 q2 q3 q4 => lv_iushr C.1 C.2.1 dg rfl (k ad H locs ls q1 q2 q3 q4)
end CROWS2
def sc_us (u v : Int32) : Int32 := (u.toUInt32 >>> (v.toUInt32 &&& Int32.toUInt32 31)).toInt32
/-- how many bits -/
def sc_bc (v : Int32) : Int32 :=
  let a := v - (sc_us v 1 &&& 1431655765)
  let b := (a &&& 858993459) + (sc_us a 2 &&& 858993459)
  let c := b + sc_us b 4 &&& 252645135
  let d := c + sc_us c 8
  let f := d + sc_us d 16
  f &&& 63
theorem sc_bc1 : ∀ m, m < 16 → (sc_bc (nI m) = 1 ↔ (m = 1 ∨ m = 2 ∨ m = 4 ∨ m = 8)) := by decide +kernel
theorem sc_one1 : ∀ m, m < 16 → (ms_one (nI m) ≠ -1 ↔ (m = 1 ∨ m = 2 ∨ m = 4 ∨ m = 8)) := by decide +kernel
def sc_pop (b : Nat) : Nat := sj_c (fun r => b.testBit r) 10
theorem sc_bcN : ∀ b, b < 1024 → sc_bc (nI b) = nI (sc_pop b) := by decide +kernel
set_option maxRecDepth 100000 in
theorem c_J6_bitCount_0f7a4 (G : pa_G) (l : Launch) (h : pa_H) (v : Int32) : pa_MP G l mJ6_bitCount_0f7a4 1 [pv_i v] h (pv_i (sc_bc v)) := by
  refine pa_go l (by decide) (by simp [pa_c1l, pa_c1]) (fun _ => rfl) fun x C E el ea => ?_
  subst el
  show pa_w G x 1 h 0 0 0 [some (pv_i v)] []
  refine pr_iload_n (pc := 0) C dJ6_bitCount_0f7a4_0 rfl ?_
  refine pr_iload_n (pc := 1) C dJ6_bitCount_0f7a4_1 rfl ?_
  refine pr_iconst (pc := 2) (v := 1) C dJ6_bitCount_0f7a4_2 (by decide) ?_
  refine pr_iushr (pc := 3) C dJ6_bitCount_0f7a4_3 ?_
  refine pr_ldcw (pc := 4) C dJ6_bitCount_0f7a4_4 (pa_wi (w := .constant RJ6 265 (1431655765)) (by decide +kernel) rfl) ?_
  refine pr_iand (pc := 7) C dJ6_bitCount_0f7a4_7 ?_
  refine pr_isub (pc := 8) C dJ6_bitCount_0f7a4_8 ?_
  refine pr_istore_n (pc := 9) C dJ6_bitCount_0f7a4_9 (by decide) ?_
  refine pr_iload_n (pc := 10) C dJ6_bitCount_0f7a4_10 rfl ?_
  refine pr_ldcw (pc := 11) C dJ6_bitCount_0f7a4_11 (pa_wi (w := .constant RJ6 266 (858993459)) (by decide +kernel) rfl) ?_
  refine pr_iand (pc := 14) C dJ6_bitCount_0f7a4_14 ?_
  refine pr_iload_n (pc := 15) C dJ6_bitCount_0f7a4_15 rfl ?_
  refine pr_iconst (pc := 16) (v := 2) C dJ6_bitCount_0f7a4_16 (by decide) ?_
  refine pr_iushr (pc := 17) C dJ6_bitCount_0f7a4_17 ?_
  refine pr_ldcw (pc := 18) C dJ6_bitCount_0f7a4_18 (pa_wi (w := .constant RJ6 266 (858993459)) (by decide +kernel) rfl) ?_
  refine pr_iand (pc := 21) C dJ6_bitCount_0f7a4_21 ?_
  refine pr_iadd (pc := 22) C dJ6_bitCount_0f7a4_22 ?_
  refine pr_istore_n (pc := 23) C dJ6_bitCount_0f7a4_23 (by decide) ?_
  refine pr_iload_n (pc := 24) C dJ6_bitCount_0f7a4_24 rfl ?_
  refine pr_iload_n (pc := 25) C dJ6_bitCount_0f7a4_25 rfl ?_
  refine pr_iconst (pc := 26) (v := 4) C dJ6_bitCount_0f7a4_26 (by decide) ?_
  refine pr_iushr (pc := 27) C dJ6_bitCount_0f7a4_27 ?_
  refine pr_iadd (pc := 28) C dJ6_bitCount_0f7a4_28 ?_
  refine pr_ldcw (pc := 29) C dJ6_bitCount_0f7a4_29 (pa_wi (w := .constant RJ6 267 (252645135)) (by decide +kernel) rfl) ?_
  refine pr_iand (pc := 32) C dJ6_bitCount_0f7a4_32 ?_
  refine pr_istore_n (pc := 33) C dJ6_bitCount_0f7a4_33 (by decide) ?_
  refine pr_iload_n (pc := 34) C dJ6_bitCount_0f7a4_34 rfl ?_
  refine pr_iload_n (pc := 35) C dJ6_bitCount_0f7a4_35 rfl ?_
  refine pr_bipush (pc := 36) (v := 8) C dJ6_bitCount_0f7a4_36 (by decide) ?_
  refine pr_iushr (pc := 38) C dJ6_bitCount_0f7a4_38 ?_
  refine pr_iadd (pc := 39) C dJ6_bitCount_0f7a4_39 ?_
  refine pr_istore_n (pc := 40) C dJ6_bitCount_0f7a4_40 (by decide) ?_
  refine pr_iload_n (pc := 41) C dJ6_bitCount_0f7a4_41 rfl ?_
  refine pr_iload_n (pc := 42) C dJ6_bitCount_0f7a4_42 rfl ?_
  refine pr_bipush (pc := 43) (v := 16) C dJ6_bitCount_0f7a4_43 (by decide) ?_
  refine pr_iushr (pc := 45) C dJ6_bitCount_0f7a4_45 ?_
  refine pr_iadd (pc := 46) C dJ6_bitCount_0f7a4_46 ?_
  refine pr_istore_n (pc := 47) C dJ6_bitCount_0f7a4_47 (by decide) ?_
  refine pr_iload_n (pc := 48) C dJ6_bitCount_0f7a4_48 rfl ?_
  refine pr_bipush (pc := 49) (v := 63) C dJ6_bitCount_0f7a4_49 (by decide) ?_
  refine pr_iand (pc := 51) C dJ6_bitCount_0f7a4_51 ?_
  exact pr_iret (pc := 52) C E (Or.inl rfl) (by omega) (by omega) ⟨rfl, rfl⟩ dJ6_bitCount_0f7a4_52
set_option maxRecDepth 100000 in
set_option maxHeartbeats 4000000 in
theorem c_X2_isToOneAlone (G : pa_G) (l : Launch) (K : Nat → Nat → Nat → Int32) (Sm S : Nat → Nat → Int32) (N : Nat → Nat) (O : Nat → Int64) (T D e : Nat) (z : sj_Z) (hs : sj_M K N T D z e S) (t m : Nat) (ht : t < D) (hm : m < 16) (hto : S 222 t = nI m) : pa_MP G l mX2_isToOneAlone 2 [pv_o 3 t] (K, Sm, N, O) (pv_i (pz_b (decide (ms_one (S 222 t) ≠ -1)))) := by
  refine pa_go l (by decide) (by simp [pa_c1l, pa_c1]) (fun _ => rfl) fun x C E el ea => ?_
  subst el
  show pa_w G x 1 (K, Sm, N, O) 0 0 0 [some (pv_o 3 t)] []
  refine pr_aload_n (pc := 0) C dX2_isToOneAlone_0 rfl ?_
  refine pr_geti (pc := 1) C 122 wf_X2_38 rfl (by decide) (pl_3 (sj_n0 hs (by first | assumption | omega))) dX2_isToOneAlone_1 ?_
  refine pr_eqi (v := S 222 t) (sj_r122 hs (by first | assumption | omega)) ?_
  refine pr_sP (pc := 4) C (c_J6_bitCount_0f7a4 G _ (K, Sm, N, O) (S 222 t)) ws_X2_59 rfl rfl (by decide) (Nat.le_of_ble_eq_true rfl) (by omega) (by omega) dX2_isToOneAlone_4 ?_
  refine pr_iconst (pc := 7) (v := 1) C dX2_isToOneAlone_7 (by decide) ?_
  refine pr_icmp_ne (pc := 8) C 15 dX2_isToOneAlone_8 (by decide) (fun c_8 => ?_) (fun c_8 => ?_)
  · refine pr_iconst (pc := 15) (v := 0) C dX2_isToOneAlone_15 (by decide) ?_
    exact pr_iret (pc := 16) C E (Or.inr ⟨rfl, (by decide)⟩) (by omega) (by omega) ⟨by rw [hto] at c_8; rw [hto, decide_eq_false (fun z => c_8 ((sc_bc1 m hm).mpr ((sc_one1 m hm).mp z)))]; rfl, rfl⟩ dX2_isToOneAlone_16
  · refine pr_iconst (pc := 11) (v := 1) C dX2_isToOneAlone_11 (by decide) ?_
    refine pr_goto (pc := 12) C 16 dX2_isToOneAlone_12 (by decide) ?_
    exact pr_iret (pc := 16) C E (Or.inr ⟨rfl, (by decide)⟩) (by omega) (by omega) ⟨by rw [hto] at c_8; rw [hto, decide_eq_true ((sc_one1 m hm).mpr ((sc_bc1 m hm).mp c_8))]; rfl, rfl⟩ dX2_isToOneAlone_16

theorem c_szT (G : pa_G) (l : Launch) (K : Nat → Nat → Nat → Int32) (Sm S : Nat → Nat → Int32) (N : Nat → Nat) (O : Nat → Int64) (T D e : Nat) (z : sj_Z) (hs : sj_M K N T D z e S) : pa_MP G l mJx4a65c_size_8abf5 1 [pv_o 0 0] (K, Sm, N, O) (pv_i (nI T)) := by
  have := c_size G l (K, Sm, N, O) 0 (by decide)
  rw [show ((K, Sm, N, O) : pa_H).2.2.1 (2 + 0) = T from sj_n2 hs] at this
  exact this
theorem c_szQ (G : pa_G) (l : Launch) (K : Nat → Nat → Nat → Int32) (Sm S : Nat → Nat → Int32) (N : Nat → Nat) (O : Nat → Int64) (T D e : Nat) (z : sj_Z) (hs : sj_M K N T D z e S) : pa_MP G l mJx4a65c_size_8abf5 1 [pv_o 0 1] (K, Sm, N, O) (pv_i (S 231 0)) := by
  rw [sj_Q hs]
  exact c_size G l (K, Sm, N, O) 1 (by decide)
theorem c_szS (G : pa_G) (l : Launch) (K : Nat → Nat → Nat → Int32) (Sm S : Nat → Nat → Int32) (N : Nat → Nat) (O : Nat → Int64) (T D e : Nat) (z : sj_Z) (hs : sj_M K N T D z e S) : pa_MP G l mJx4a65c_size_8abf5 1 [pv_o 0 2] (K, Sm, N, O) (pv_i (nI (N 1))) := by
  rw [sj_N14 hs]
  exact c_size G l (K, Sm, N, O) 2 (by decide)
theorem c_emQ (G : pa_G) (l : Launch) (K : Nat → Nat → Nat → Int32) (Sm S : Nat → Nat → Int32) (N : Nat → Nat) (O : Nat → Int64) (T D e : Nat) (z : sj_Z) (hs : sj_M K N T D z e S) (Q q0 : Nat) (hw : mw_Q S Q q0) : pa_MP G l mJx4a65c_isEmpty_aae02 1 [pv_o 0 1] (K, Sm, N, O) (pv_i (pz_b (decide (Q = 0)))) := by
  have h6 := sj_Q6 hs
  have := c_isEmpty G l (K, Sm, N, O) 1 (by decide) (show N 3 < 60000 by omega)
  rw [show ((K, Sm, N, O) : pa_H).2.2.1 (2 + 1) = Q from sj_NQ hs hw] at this
  exact this
theorem c_gtT (G : pa_G) (l : Launch) (K : Nat → Nat → Nat → Int32) (Sm S : Nat → Nat → Int32) (N : Nat → Nat) (O : Nat → Int64) (T D e : Nat) (z : sj_Z) (hs : sj_M K N T D z e S) (j : Nat) (hj : j < T) : pa_MP G l mJx4a65c_get_915e3 3 [pv_o 0 0, pv_i (nI j)] (K, Sm, N, O) (pv_o 3 j) := by
  have h6 := sj_c5 hs
  exact c_get G l (K, Sm, N, O) 0 j (by decide) (show j < N 2 by rw [sj_n2 hs]; exact hj) (show N 2 ≤ N 5 from h6.1) (show N 5 < 60000 by omega)
theorem c_gtS (G : pa_G) (l : Launch) (K : Nat → Nat → Nat → Int32) (Sm S : Nat → Nat → Int32) (N : Nat → Nat) (O : Nat → Int64) (T D e : Nat) (z : sj_Z) (hs : sj_M K N T D z e S) (j : Nat) (hj : j < N 1) : pa_MP G l mJx4a65c_get_915e3 3 [pv_o 0 2, pv_i (nI j)] (K, Sm, N, O) (pv_o 2 j) := by
  have h6 := sj_c7 hs
  exact c_get G l (K, Sm, N, O) 2 j (by decide) (show j < N 4 by rw [← sj_N14 hs]; exact hj) (show N 4 ≤ N 7 from h6.1) (show N 7 < 60000 by omega)
theorem c_gtQ (G : pa_G) (l : Launch) (K : Nat → Nat → Nat → Int32) (Sm S : Nat → Nat → Int32) (N : Nat → Nat) (O : Nat → Int64) (T D e : Nat) (z : sj_Z) (hs : sj_M K N T D z e S) (Q q0 j q : Nat) (hw : mw_Q S Q q0) (hj : j < Q) (hq : S 232 j = nI q) (hq1 : q < 1000) : pa_MP G l mJx4a65c_get_915e3 3 [pv_o 0 1, pv_i (nI j)] (K, Sm, N, O) (pv_o 3 q) := by
  have h6 := sj_c6 hs
  have hN := sj_NQ hs hw
  have := c_get G l (K, Sm, N, O) 1 j (by decide) (show j < N 3 by rw [hN]; exact hj) (show N 3 ≤ N 6 from h6.1) (show N 6 < 60000 by omega)
  have e1 : pa_le (K, Sm, N, O) 1 j = (3, q) := by
    show (3, (K 163 0 j).toNatClampNeg) = (3, q)
    rw [sj_r163 hs (by omega), hq, nI_clamp (by omega)]
  rw [e1] at this
  exact this
set_option maxRecDepth 100000 in
set_option maxHeartbeats 4000000 in
theorem c_X3_topQuestion0 (G : pa_G) (l : Launch) (K : Nat → Nat → Nat → Int32) (Sm S : Nat → Nat → Int32) (N : Nat → Nat) (O : Nat → Int64) (T D e : Nat) (z : sj_Z) (hs : sj_M K N T D z e S) (Q q0 : Nat) (hw : mw_Q S Q q0) (h0 : Q = 0) : pa_MP G l mX3_topQuestion 4 [pv_o 4 0] (K, Sm, N, O) (pv_r none) := by
  refine pa_go l (by decide) (by simp [pa_c1l, pa_c1]) (fun _ => rfl) fun x C E el ea => ?_
  subst el
  show pa_w G x 1 (K, Sm, N, O) 0 0 0 [some (pv_o 4 0)] []
  refine pr_aload_n (pc := 0) C dX3_topQuestion_0 rfl ?_
  refine pr_getl (pc := 1) C 163 1 wf_X3_26 rfl rfl rfl (pl_4 _) dX3_topQuestion_1 ?_
  refine pr_vP (pc := 4) C (c_emQ G _ K Sm S N O T D e z hs Q q0 hw) wv_X3_256 rfl rfl (by decide) (by decide) (pl_0 (by decide)) (Nat.le_of_ble_eq_true rfl) (by omega) (by omega) dX3_topQuestion_4 ?_
  refine pr_ifb_eq (pc := 7) C 14 dX3_topQuestion_7 (by decide) (fun c_7 => ?_) (fun c_7 => ?_)
  · exact absurd c_7 (by simp [h0])
  · refine pr_null (pc := 10) C dX3_topQuestion_10 ?_
    refine pr_goto (pc := 11) C 33 dX3_topQuestion_11 (by decide) ?_
    exact pr_aret (pc := 33) C E (by omega) (by omega) ⟨rfl, rfl⟩ dX3_topQuestion_33

set_option maxRecDepth 100000 in
set_option maxHeartbeats 4000000 in
theorem c_X3_topQuestion1 (G : pa_G) (l : Launch) (K : Nat → Nat → Nat → Int32) (Sm S : Nat → Nat → Int32) (N : Nat → Nat) (O : Nat → Int64) (T D e : Nat) (z : sj_Z) (hs : sj_M K N T D z e S) (Q q0 : Nat) (hw : mw_Q S Q q0) (h0 : 0 < Q) (hq : q0 < D) : pa_MP G l mX3_topQuestion 4 [pv_o 4 0] (K, Sm, N, O) (pv_o 3 q0) := by
  refine pa_go l (by decide) (by simp [pa_c1l, pa_c1]) (fun _ => rfl) fun x C E el ea => ?_
  subst el
  have hq100 := hw.2.2.1
  have hQ6 := hw.2.1
  show pa_w G x 1 (K, Sm, N, O) 0 0 0 [some (pv_o 4 0)] []
  refine pr_aload_n (pc := 0) C dX3_topQuestion_0 rfl ?_
  refine pr_getl (pc := 1) C 163 1 wf_X3_26 rfl rfl rfl (pl_4 _) dX3_topQuestion_1 ?_
  refine pr_vP (pc := 4) C (c_emQ G _ K Sm S N O T D e z hs Q q0 hw) wv_X3_256 rfl rfl (by decide) (by decide) (pl_0 (by decide)) (Nat.le_of_ble_eq_true rfl) (by omega) (by omega) dX3_topQuestion_4 ?_
  refine pr_ifb_eq (pc := 7) C 14 dX3_topQuestion_7 (by decide) (fun c_7 => ?_) (fun c_7 => ?_)
  · refine pr_aload_n (pc := 14) C dX3_topQuestion_14 rfl ?_
    refine pr_getl (pc := 15) C 163 1 wf_X3_26 rfl rfl rfl (pl_4 _) dX3_topQuestion_15 ?_
    refine pr_aload_n (pc := 18) C dX3_topQuestion_18 rfl ?_
    refine pr_getl (pc := 19) C 163 1 wf_X3_26 rfl rfl rfl (pl_4 _) dX3_topQuestion_19 ?_
    refine pr_vP (pc := 22) C (c_szQ G _ K Sm S N O T D e z hs) wv_X3_147 rfl rfl (by decide) (by decide) (pl_0 (by decide)) (Nat.le_of_ble_eq_true rfl) (by omega) (by omega) dX3_topQuestion_22 ?_
    refine pr_eqi hw.1 ?_
    refine pr_iconst (pc := 25) (v := 1) C dX3_topQuestion_25 (by decide) ?_
    refine pr_isubN (pc := 26) C dX3_topQuestion_26 Q 1 rfl rfl (by omega) ?_
    refine pr_vP (pc := 27) C (c_gtQ G _ K Sm S N O T D e z hs Q q0 (Q - 1) q0 hw (by omega) (hw.2.2.2 h0) (by omega)) wv_X3_197 rfl rfl (by decide) (by decide) (pl_0 (by decide)) (Nat.le_of_ble_eq_true rfl) (by omega) (by omega) dX3_topQuestion_27 ?_
    refine pr_cast (pc := 30) C (k := 3) (r := (RX2, TX2, 13)) ⟨by decide, by decide⟩ rfl (pa_wi (by decide +kernel) rfl) (pl_3 (sj_n0 hs (by first | assumption | omega))) dX3_topQuestion_30 ?_
    exact pr_aret (pc := 33) C E (by omega) (by omega) ⟨rfl, rfl⟩ dX3_topQuestion_33
  · exact absurd c_7 (by simp; omega)

set_option maxRecDepth 100000 in
set_option maxHeartbeats 4000000 in
theorem c_X3_turnAtY (G : pa_G) (l : Launch) (K : Nat → Nat → Nat → Int32) (Sm S : Nat → Nat → Int32) (N : Nat → Nat) (O : Nat → Int64) (T D e : Nat) (z : sj_Z) (hs : sj_M K N T D z e S) (u : Nat) (hu : u < T) (hT : T ≤ 100) : pa_MP G l mX3_turnAt 4 [pv_o 4 0, pv_i (nI u)] (K, Sm, N, O) (pv_o 3 u) := by
  refine pa_go l (by decide) (by simp [pa_c1l, pa_c1]) (fun _ => rfl) fun x C E el ea => ?_
  subst el
  have hTD := sj_TD hs
  show pa_w G x 2 (K, Sm, N, O) 0 0 0 [some (pv_o 4 0), some (pv_i (nI u))] []
  refine pr_iload_n (pc := 0) C dX3_turnAt_0 rfl ?_
  refine pr_if_ltN (pc := 1) C 29 u dX3_turnAt_1 (by decide) rfl (by omega) (fun c_1 => ?_) (fun c_1 => ?_)
  · exact absurd c_1 (by omega)
  · refine pr_iload_n (pc := 4) C dX3_turnAt_4 rfl ?_
    refine pr_aload_n (pc := 5) C dX3_turnAt_5 rfl ?_
    refine pr_getl (pc := 6) C 162 0 wf_X3_22 rfl rfl rfl (pl_4 _) dX3_turnAt_6 ?_
    refine pr_vP (pc := 9) C (c_szT G _ K Sm S N O T D e z hs) wv_X3_147 rfl rfl (by decide) (by decide) (pl_0 (by decide)) (Nat.le_of_ble_eq_true rfl) (by omega) (by omega) dX3_turnAt_9 ?_
    refine pr_icmp_geN (pc := 12) C 29 u T dX3_turnAt_12 (by decide) rfl rfl (by omega) (by omega) (fun c_12 => ?_) (fun c_12 => ?_)
    · exact absurd c_12 (by omega)
    · refine pr_aload_n (pc := 15) C dX3_turnAt_15 rfl ?_
      refine pr_getl (pc := 16) C 162 0 wf_X3_22 rfl rfl rfl (pl_4 _) dX3_turnAt_16 ?_
      refine pr_iload_n (pc := 19) C dX3_turnAt_19 rfl ?_
      refine pr_vP (pc := 20) C (c_gtT G _ K Sm S N O T D e z hs u (by first | assumption | omega)) wv_X3_197 rfl rfl (by decide) (by decide) (pl_0 (by decide)) (Nat.le_of_ble_eq_true rfl) (by omega) (by omega) dX3_turnAt_20 ?_
      refine pr_cast (pc := 23) C (k := 3) (r := (RX2, TX2, 13)) ⟨by decide, by decide⟩ rfl (pa_wi (by decide +kernel) rfl) (pl_3 (sj_n0 hs (by first | assumption | omega))) dX3_turnAt_23 ?_
      refine pr_goto (pc := 26) C 30 dX3_turnAt_26 (by decide) ?_
      exact pr_aret (pc := 30) C E (by omega) (by omega) ⟨rfl, rfl⟩ dX3_turnAt_30

set_option maxRecDepth 100000 in
set_option maxHeartbeats 4000000 in
theorem c_X3_ownsAll (G : pa_G) (l : Launch) (K : Nat → Nat → Nat → Int32) (Sm S : Nat → Nat → Int32) (N : Nat → Nat) (O : Nat → Int64) (T D e : Nat) (z : sj_Z) (hs : sj_M K N T D z e S) (v g : Int32) : pa_MP G l mX3_ownsAll 2 [pv_o 4 0, pv_i v, pv_i g] (K, Sm, N, O) (pv_i (pz_b (ms_owns S v g))) := by
  refine pa_go l (by decide) (by simp [pa_c1l, pa_c1]) (fun _ => rfl) fun x C E el ea => ?_
  subst el
  show pa_w G x 4 (K, Sm, N, O) 0 0 0 [some (pv_o 4 0), some (pv_i v), some (pv_i g), none] []
  refine pr_iconst (pc := 0) (v := 0) C dX3_ownsAll_0 (by decide) ?_
  refine pr_istore_n (pc := 1) C dX3_ownsAll_1 (by decide) ?_
  have lp2 : ∀ (n3 k1 : Nat), k1 ≤ 8 → 8 < k1 + n3 → (∀ j, j < k1 → (fun k => !ms_isIn g (nI k) || decide (S 213 k = v)) j = true) → pa_w G x 4 (K, Sm, N, O) 0 0 2 [some (pv_o 4 0), some (pv_i v), some (pv_i g), some (pv_i (nI k1))] [] := by
    intro n3
    induction n3 with
    | zero => intro k1 h1 h2; exact absurd h2 (by omega)
    | succ n3 ih4 =>
      intro k1 hk1_k1 hk2_k1 hx_k1
      refine pr_iload_n (pc := 2) C dX3_ownsAll_2 rfl ?_
      refine pr_bipush (pc := 3) (v := 8) C dX3_ownsAll_3 (by decide) ?_
      refine pr_icmp_geN (pc := 5) C 34 k1 8 dX3_ownsAll_5 (by decide) rfl rfl (by omega) (by omega) (fun c_5 => ?_) (fun c_5 => ?_)
      · obtain rfl : 8 = k1 := by omega
        refine pr_iconst (pc := 34) (v := 1) C dX3_ownsAll_34 (by decide) ?_
        exact pr_iret (pc := 35) C E (Or.inr ⟨rfl, (by decide)⟩) (by omega) (by omega) ⟨by rw [show ms_owns S v g = true from pz_all_iff.mpr hx_k1]; rfl, rfl⟩ dX3_ownsAll_35
      · refine pr_iload_n (pc := 8) C dX3_ownsAll_8 rfl ?_
        refine pr_iload_n (pc := 9) C dX3_ownsAll_9 rfl ?_
        refine pr_sP (pc := 10) C (c_X3_isIn G _ (K, Sm, N, O) g (nI k1)) ws_X3_49 rfl rfl (by decide) (Nat.le_of_ble_eq_true rfl) (by omega) (by omega) dX3_ownsAll_10 ?_
        refine pr_ifb_eq (pc := 13) C 28 dX3_ownsAll_13 (by decide) (fun c_13 => ?_) (fun c_13 => ?_)
        · refine pr_iincN (pc := 28) C dX3_ownsAll_28 rfl k1 1 rfl rfl (by decide) ?_
          refine pr_goto (pc := 31) C 2 dX3_ownsAll_31 (by decide) ?_
          exact ih4 (k1 + 1) (by omega) (by omega) (pz_nx (p := (fun k => !ms_isIn g (nI k) || decide (S 213 k = v))) hx_k1 (by simp [c_5, c_13]))
        · refine pr_aload_n (pc := 16) C dX3_ownsAll_16 rfl ?_
          refine pr_geta (pc := 17) C 161 261 wf_X3_15 rfl rfl (by decide) (pl_4 _) dX3_ownsAll_17 ?_
          refine pr_iload_n (pc := 20) C dX3_ownsAll_20 rfl ?_
          refine pr_aldi (pc := 21) (n := 8) C 161 k1 rfl rfl rfl (pl_r4 (by decide)) rfl (by omega) (by decide) dX3_ownsAll_21 ?_
          refine pr_eqi (v := S 213 k1) (sj_r161 hs (by omega)) ?_
          refine pr_iload_n (pc := 22) C dX3_ownsAll_22 rfl ?_
          refine pr_icmp_eq (pc := 23) C 28 dX3_ownsAll_23 (by decide) (fun c_23 => ?_) (fun c_23 => ?_)
          · refine pr_iincN (pc := 28) C dX3_ownsAll_28 rfl k1 1 rfl rfl (by decide) ?_
            refine pr_goto (pc := 31) C 2 dX3_ownsAll_31 (by decide) ?_
            exact ih4 (k1 + 1) (by omega) (by omega) (pz_nx (p := (fun k => !ms_isIn g (nI k) || decide (S 213 k = v))) hx_k1 (by simp [c_5, c_13, eq_true c_23]))
          · refine pr_iconst (pc := 26) (v := 0) C dX3_ownsAll_26 (by decide) ?_
            exact pr_iret (pc := 27) C E (Or.inr ⟨rfl, (by decide)⟩) (by omega) (by omega) ⟨by rw [show ms_owns S v g = false from pz_all_at (p := (fun k => !ms_isIn g (nI k) || decide (S 213 k = v))) (k := k1) (by omega) (by simp [c_5, c_13, eq_false c_23])]; rfl, rfl⟩ dX3_ownsAll_27
  exact lp2 (8 + 1) 0 (by omega) (by omega) (fun j hj => absurd hj (by omega))

set_option maxRecDepth 100000 in
set_option maxHeartbeats 4000000 in
theorem c_X3_bothOwn (G : pa_G) (l : Launch) (K : Nat → Nat → Nat → Int32) (Sm S : Nat → Nat → Int32) (N : Nat → Nat) (O : Nat → Int64) (T D e : Nat) (z : sj_Z) (hs : sj_M K N T D z e S) (t w : Nat) (ht : t < D) (hw1 : S 218 t = nI w) (hw4 : w < 4) : pa_MP G l mX3_bothOwn 3 [pv_o 4 0, pv_o 3 t] (K, Sm, N, O) (pv_i (pz_b (ms_owns S (nI w) (S 220 t) && ms_owns S (ms_lis (S 222 t)) (S 221 t)))) := by
  refine pa_go l (by decide) (by simp [pa_c1l, pa_c1]) (fun _ => rfl) fun x C E el ea => ?_
  subst el
  show pa_w G x 2 (K, Sm, N, O) 0 0 0 [some (pv_o 4 0), some (pv_o 3 t)] []
  refine pr_aload_n (pc := 0) C dX3_bothOwn_0 rfl ?_
  refine pr_aload_n (pc := 1) C dX3_bothOwn_1 rfl ?_
  refine pr_gets (pc := 2) C 120 wf_X3_105 rfl rfl (pl_3 (sj_n0 hs (by first | assumption | omega))) w ((sj_r120 hs (by first | assumption | omega)).trans hw1) (by first | assumption | omega) dX3_bothOwn_2 ?_
  refine pr_geti (pc := 5) C 40 wf_X3_160 rfl (by decide) (pl_1 (by first | assumption | omega)) dX3_bothOwn_5 ?_
  refine pr_eqi (v := nI w) (sj_r40 hs (by first | assumption | omega)) ?_
  refine pr_aload_n (pc := 8) C dX3_bothOwn_8 rfl ?_
  refine pr_geti (pc := 9) C 126 wf_X3_164 rfl (by decide) (pl_3 (sj_n0 hs (by first | assumption | omega))) dX3_bothOwn_9 ?_
  refine pr_eqi (v := S 220 t) (sj_r126 hs (by first | assumption | omega)) ?_
  refine pr_vP (pc := 12) C (c_X3_ownsAll G _ K Sm S N O T D e z hs (nI w) (S 220 t)) wv_X3_372 rfl rfl (by decide) (by decide) (pl_4 _) (Nat.le_of_ble_eq_true rfl) (by omega) (by omega) dX3_bothOwn_12 ?_
  refine pr_ifb_eq (pc := 15) C 37 dX3_bothOwn_15 (by decide) (fun c_15 => ?_) (fun c_15 => ?_)
  · refine pr_iconst (pc := 37) (v := 0) C dX3_bothOwn_37 (by decide) ?_
    exact pr_iret (pc := 38) C E (Or.inr ⟨rfl, (by decide)⟩) (by omega) (by omega) ⟨(by simp [-Int32.not_le, -Int32.not_lt, pz_b, pz_lt, c_15]), rfl⟩ dX3_bothOwn_38
  · refine pr_aload_n (pc := 18) C dX3_bothOwn_18 rfl ?_
    refine pr_aload_n (pc := 19) C dX3_bothOwn_19 rfl ?_
    refine pr_vP (pc := 20) C (c_X2_listener G _ K Sm S N O T D e z hs t (by first | assumption | omega)) wv_X3_224 rfl rfl (by decide) (by decide) (pl_3 (sj_n0 hs (by first | assumption | omega))) (Nat.le_of_ble_eq_true rfl) (by omega) (by omega) dX3_bothOwn_20 ?_
    refine pr_aload_n (pc := 23) C dX3_bothOwn_23 rfl ?_
    refine pr_geti (pc := 24) C 127 wf_X3_167 rfl (by decide) (pl_3 (sj_n0 hs (by first | assumption | omega))) dX3_bothOwn_24 ?_
    refine pr_eqi (v := S 221 t) (sj_r127 hs (by first | assumption | omega)) ?_
    refine pr_vP (pc := 27) C (c_X3_ownsAll G _ K Sm S N O T D e z hs (ms_lis (S 222 t)) (S 221 t)) wv_X3_372 rfl rfl (by decide) (by decide) (pl_4 _) (Nat.le_of_ble_eq_true rfl) (by omega) (by omega) dX3_bothOwn_27 ?_
    refine pr_ifb_eq (pc := 30) C 37 dX3_bothOwn_30 (by decide) (fun c_30 => ?_) (fun c_30 => ?_)
    · refine pr_iconst (pc := 37) (v := 0) C dX3_bothOwn_37 (by decide) ?_
      exact pr_iret (pc := 38) C E (Or.inr ⟨rfl, (by decide)⟩) (by omega) (by omega) ⟨(by simp [-Int32.not_le, -Int32.not_lt, pz_b, pz_lt, c_15, c_30]), rfl⟩ dX3_bothOwn_38
    · refine pr_iconst (pc := 33) (v := 1) C dX3_bothOwn_33 (by decide) ?_
      refine pr_goto (pc := 34) C 38 dX3_bothOwn_34 (by decide) ?_
      exact pr_iret (pc := 38) C E (Or.inr ⟨rfl, (by decide)⟩) (by omega) (by omega) ⟨(by simp [-Int32.not_le, -Int32.not_lt, pz_b, pz_lt, c_15, c_30]), rfl⟩ dX3_bothOwn_38

/-- what an act about the turn u, which is DONE, asks of it -/
def sc_rep (S : Nat → Nat → Int32) (w a wu u : Nat) : Bool :=
  if a = 4 then decide (S 228 (4 * u + w) = 3) else if a = 5 then decide (S 228 (4 * u + w) = 1) else
  if a = 6 then decide (wu = w) && sc_some S u 1 else if a = 7 ∨ a = 8 then ms_isClaim S u && decide (3 ≤ S 228 (4 * u + w)) else
  if a = 14 ∨ a = 15 then decide (S 227 u ≠ 0) && ms_isIn (S 222 u) (nI w) && decide (3 ≤ S 228 (4 * u + w)) else false
set_option maxRecDepth 100000 in
set_option maxHeartbeats 4000000 in
theorem c_X3_isPossibleReply (G : pa_G) (l : Launch) (K : Nat → Nat → Nat → Int32) (Sm S : Nat → Nat → Int32) (N : Nat → Nat) (O : Nat → Int64) (T D e : Nat) (z : sj_Z) (hs : sj_M K N T D z e S) (t u w a wu : Nat) (ht : t < D) (hu : u < D) (hw1 : S 218 t = nI w) (hw4 : w < 4) (ha : S 219 t = nI a) (ha16 : a < 16) (hwu : S 218 u = nI wu) (hwu4 : wu < 4) (hv : S 219 u = 2 → S 221 u = 0 ∨ S 221 u = 1 ∨ S 221 u = 2) (hg : mj_g S T) : pa_MP G l mX3_isPossibleReply 3 [pv_o 3 t, pv_o 3 u] (K, Sm, N, O) (pv_i (pz_b (sc_rep S w a wu u))) := by
  refine pa_go l (by decide) (by simp [pa_c1l, pa_c1]) (fun _ => rfl) fun x C E el ea => ?_
  subst el
  show pa_w G x 4 (K, Sm, N, O) 0 0 0 [some (pv_o 3 t), some (pv_o 3 u), none, none] []
  refine pr_aload_n (pc := 0) C dX3_isPossibleReply_0 rfl ?_
  refine pr_geta (pc := 1) C 131 231 wf_X3_187 rfl rfl (by decide) (pl_3 (sj_n0 hs (by first | assumption | omega))) dX3_isPossibleReply_1 ?_
  refine pr_aload_n (pc := 4) C dX3_isPossibleReply_4 rfl ?_
  refine pr_gets (pc := 5) C 120 wf_X3_105 rfl rfl (pl_3 (sj_n0 hs (by first | assumption | omega))) w ((sj_r120 hs (by first | assumption | omega)).trans hw1) (by first | assumption | omega) dX3_isPossibleReply_5 ?_
  refine pr_geti (pc := 8) C 40 wf_X3_160 rfl (by decide) (pl_1 (by first | assumption | omega)) dX3_isPossibleReply_8 ?_
  refine pr_eqi (v := nI w) (sj_r40 hs (by first | assumption | omega)) ?_
  refine pr_aldi (pc := 11) (n := 4) C 131 w rfl rfl rfl (pl_r3 (by decide) (sj_n0 hs (by first | assumption | omega))) rfl (by omega) (by decide) dX3_isPossibleReply_11 ?_
  refine pr_eqi (v := S 228 (4 * u + w)) (sj_r131 hs (by first | assumption | omega) (by omega)) ?_
  refine pr_istore_n (pc := 12) C dX3_isPossibleReply_12 (by decide) ?_
  have j28_1 : pa_w G x 4 (K, Sm, N, O) 0 0 28 [some (pv_o 3 t), some (pv_o 3 u), some (pv_i (S 228 (4 * u + w))), none] [pv_i (pz_b (decide (3 ≤ S 228 (4 * u + w))))] := by
    refine pr_istore_n (pc := 28) C dX3_isPossibleReply_28 (by decide) ?_
    refine pr_aload_n (pc := 29) C dX3_isPossibleReply_29 rfl ?_
    refine pr_geti (pc := 30) C 121 wf_X3_161 rfl (by decide) (pl_3 (sj_n0 hs (by first | assumption | omega))) dX3_isPossibleReply_30 ?_
    refine pr_eqi (v := S 219 t) (sj_r121 hs (by first | assumption | omega)) ?_
    refine pr_eqi ha ?_
    obtain rfl | rfl | rfl | rfl | rfl | rfl | rfl | rfl | rfl | rfl | rfl | rfl | rfl | rfl | rfl | rfl : a = 0 ∨ a = 1 ∨ a = 2 ∨ a = 3 ∨ a = 4 ∨ a = 5 ∨ a = 6 ∨ a = 7 ∨ a = 8 ∨ a = 9 ∨ a = 10 ∨ a = 11 ∨ a = 12 ∨ a = 13 ∨ a = 14 ∨ a = 15 := by omega
    · -- 0
      refine pr_tableOut (pc := 33) C 188 dX3_isPossibleReply_33 (by decide) (by decide) ?_
      refine pr_iconst (pc := 188) (v := 0) C dX3_isPossibleReply_188 (by decide) ?_
      exact pr_iret (pc := 189) C E (Or.inr ⟨rfl, (by decide)⟩) (by omega) (by omega) ⟨(by simp [-Int32.not_le, -Int32.not_lt, pz_b, pz_lt, sc_rep]), rfl⟩ dX3_isPossibleReply_189
    · -- 1
      refine pr_tableOut (pc := 33) C 188 dX3_isPossibleReply_33 (by decide) (by decide) ?_
      refine pr_iconst (pc := 188) (v := 0) C dX3_isPossibleReply_188 (by decide) ?_
      exact pr_iret (pc := 189) C E (Or.inr ⟨rfl, (by decide)⟩) (by omega) (by omega) ⟨(by simp [-Int32.not_le, -Int32.not_lt, pz_b, pz_lt, sc_rep]), rfl⟩ dX3_isPossibleReply_189
    · -- 2
      refine pr_tableOut (pc := 33) C 188 dX3_isPossibleReply_33 (by decide) (by decide) ?_
      refine pr_iconst (pc := 188) (v := 0) C dX3_isPossibleReply_188 (by decide) ?_
      exact pr_iret (pc := 189) C E (Or.inr ⟨rfl, (by decide)⟩) (by omega) (by omega) ⟨(by simp [-Int32.not_le, -Int32.not_lt, pz_b, pz_lt, sc_rep]), rfl⟩ dX3_isPossibleReply_189
    · -- 3
      refine pr_tableOut (pc := 33) C 188 dX3_isPossibleReply_33 (by decide) (by decide) ?_
      refine pr_iconst (pc := 188) (v := 0) C dX3_isPossibleReply_188 (by decide) ?_
      exact pr_iret (pc := 189) C E (Or.inr ⟨rfl, (by decide)⟩) (by omega) (by omega) ⟨(by simp [-Int32.not_le, -Int32.not_lt, pz_b, pz_lt, sc_rep]), rfl⟩ dX3_isPossibleReply_189
    · -- 4
      refine pr_tableIn (pc := 33) C 96 dX3_isPossibleReply_33 (by decide) (by decide) (off := 63) (by decide) (by decide) ?_
      refine pr_iload_n (pc := 96) C dX3_isPossibleReply_96 rfl ?_
      refine pr_iconst (pc := 97) (v := 3) C dX3_isPossibleReply_97 (by decide) ?_
      refine pr_icmp_ne (pc := 98) C 105 dX3_isPossibleReply_98 (by decide) (fun c_98 => ?_) (fun c_98 => ?_)
      · refine pr_iconst (pc := 105) (v := 0) C dX3_isPossibleReply_105 (by decide) ?_
        exact pr_iret (pc := 106) C E (Or.inr ⟨rfl, (by decide)⟩) (by omega) (by omega) ⟨(by simp [-Int32.not_le, -Int32.not_lt, pz_b, pz_lt, sc_rep, eq_false c_98]), rfl⟩ dX3_isPossibleReply_106
      · refine pr_iconst (pc := 101) (v := 1) C dX3_isPossibleReply_101 (by decide) ?_
        refine pr_goto (pc := 102) C 106 dX3_isPossibleReply_102 (by decide) ?_
        exact pr_iret (pc := 106) C E (Or.inr ⟨rfl, (by decide)⟩) (by omega) (by omega) ⟨(by simp [-Int32.not_le, -Int32.not_lt, pz_b, pz_lt, sc_rep, eq_true c_98]), rfl⟩ dX3_isPossibleReply_106
    · -- 5
      refine pr_tableIn (pc := 33) C 107 dX3_isPossibleReply_33 (by decide) (by decide) (off := 74) (by decide) (by decide) ?_
      refine pr_iload_n (pc := 107) C dX3_isPossibleReply_107 rfl ?_
      refine pr_iconst (pc := 108) (v := 1) C dX3_isPossibleReply_108 (by decide) ?_
      refine pr_icmp_ne (pc := 109) C 116 dX3_isPossibleReply_109 (by decide) (fun c_109 => ?_) (fun c_109 => ?_)
      · refine pr_iconst (pc := 116) (v := 0) C dX3_isPossibleReply_116 (by decide) ?_
        exact pr_iret (pc := 117) C E (Or.inr ⟨rfl, (by decide)⟩) (by omega) (by omega) ⟨(by simp [-Int32.not_le, -Int32.not_lt, pz_b, pz_lt, sc_rep, eq_false c_109]), rfl⟩ dX3_isPossibleReply_117
      · refine pr_iconst (pc := 112) (v := 1) C dX3_isPossibleReply_112 (by decide) ?_
        refine pr_goto (pc := 113) C 117 dX3_isPossibleReply_113 (by decide) ?_
        exact pr_iret (pc := 117) C E (Or.inr ⟨rfl, (by decide)⟩) (by omega) (by omega) ⟨(by simp [-Int32.not_le, -Int32.not_lt, pz_b, pz_lt, sc_rep, eq_true c_109]), rfl⟩ dX3_isPossibleReply_117
    · -- 6
      refine pr_tableIn (pc := 33) C 118 dX3_isPossibleReply_33 (by decide) (by decide) (off := 85) (by decide) (by decide) ?_
      refine pr_aload_n (pc := 118) C dX3_isPossibleReply_118 rfl ?_
      refine pr_gets (pc := 119) C 120 wf_X3_105 rfl rfl (pl_3 (sj_n0 hs (by first | assumption | omega))) wu ((sj_r120 hs (by first | assumption | omega)).trans hwu) (by first | assumption | omega) dX3_isPossibleReply_119 ?_
      refine pr_aload_n (pc := 122) C dX3_isPossibleReply_122 rfl ?_
      refine pr_gets (pc := 123) C 120 wf_X3_105 rfl rfl (pl_3 (sj_n0 hs (by first | assumption | omega))) w ((sj_r120 hs (by first | assumption | omega)).trans hw1) (by first | assumption | omega) dX3_isPossibleReply_123 ?_
      refine pr_acmp_ne (pc := 126) C 141 dX3_isPossibleReply_126 (by decide) (pl_1 (by first | assumption | omega)) (pl_1 (by first | assumption | omega)) (fun c_126 => ?_) (fun c_126 => ?_)
      · simp only [Prod.mk.injEq, true_and, ne_eq] at c_126
        refine pr_iconst (pc := 141) (v := 0) C dX3_isPossibleReply_141 (by decide) ?_
        exact pr_iret (pc := 142) C E (Or.inr ⟨rfl, (by decide)⟩) (by omega) (by omega) ⟨(by simp [-Int32.not_le, -Int32.not_lt, pz_b, pz_lt, sc_rep, c_126]), rfl⟩ dX3_isPossibleReply_142
      · simp only [Prod.mk.injEq, true_and, ne_eq] at c_126
        refine pr_aload_n (pc := 129) C dX3_isPossibleReply_129 rfl ?_
        refine pr_iconst (pc := 130) (v := 1) C dX3_isPossibleReply_130 (by decide) ?_
        refine pr_vP (pc := 131) C (c_X2_hasReachedSomebody G _ K Sm S N O T D e z hs u (1 : Int32) (by first | assumption | omega)) wv_X3_297 rfl rfl (by decide) (by decide) (pl_3 (sj_n0 hs (by first | assumption | omega))) (Nat.le_of_ble_eq_true rfl) (by omega) (by omega) dX3_isPossibleReply_131 ?_
        refine pr_ifb_eq (pc := 134) C 141 dX3_isPossibleReply_134 (by decide) (fun c_134 => ?_) (fun c_134 => ?_)
        · refine pr_iconst (pc := 141) (v := 0) C dX3_isPossibleReply_141 (by decide) ?_
          exact pr_iret (pc := 142) C E (Or.inr ⟨rfl, (by decide)⟩) (by omega) (by omega) ⟨(by simp [-Int32.not_le, -Int32.not_lt, pz_b, pz_lt, sc_rep, c_126, c_134]), rfl⟩ dX3_isPossibleReply_142
        · refine pr_iconst (pc := 137) (v := 1) C dX3_isPossibleReply_137 (by decide) ?_
          refine pr_goto (pc := 138) C 142 dX3_isPossibleReply_138 (by decide) ?_
          exact pr_iret (pc := 142) C E (Or.inr ⟨rfl, (by decide)⟩) (by omega) (by omega) ⟨(by simp [-Int32.not_le, -Int32.not_lt, pz_b, pz_lt, sc_rep, c_126, c_134]), rfl⟩ dX3_isPossibleReply_142
    · -- 7
      refine pr_tableIn (pc := 33) C 143 dX3_isPossibleReply_33 (by decide) (by decide) (off := 110) (by decide) (by decide) ?_
      refine pr_aload_n (pc := 143) C dX3_isPossibleReply_143 rfl ?_
      refine pr_vP (pc := 144) C (c_X2_isClaim G _ K Sm S N O T D e z hs u (by first | assumption | omega) hv) wv_X3_300 rfl rfl (by decide) (by decide) (pl_3 (sj_n0 hs (by first | assumption | omega))) (Nat.le_of_ble_eq_true rfl) (by omega) (by omega) dX3_isPossibleReply_144 ?_
      refine pr_ifb_eq (pc := 147) C 158 dX3_isPossibleReply_147 (by decide) (fun c_147 => ?_) (fun c_147 => ?_)
      · refine pr_iconst (pc := 158) (v := 0) C dX3_isPossibleReply_158 (by decide) ?_
        exact pr_iret (pc := 159) C E (Or.inr ⟨rfl, (by decide)⟩) (by omega) (by omega) ⟨(by simp [-Int32.not_le, -Int32.not_lt, pz_b, pz_lt, sc_rep, c_147]), rfl⟩ dX3_isPossibleReply_159
      · refine pr_iload_n (pc := 150) C dX3_isPossibleReply_150 rfl ?_
        refine pr_ifb_eq (pc := 151) C 158 dX3_isPossibleReply_151 (by decide) (fun c_151 => ?_) (fun c_151 => ?_)
        · refine pr_iconst (pc := 158) (v := 0) C dX3_isPossibleReply_158 (by decide) ?_
          exact pr_iret (pc := 159) C E (Or.inr ⟨rfl, (by decide)⟩) (by omega) (by omega) ⟨(by simp [-Int32.not_le, -Int32.not_lt, pz_b, pz_lt, sc_rep, c_147, c_151]), rfl⟩ dX3_isPossibleReply_159
        · refine pr_iconst (pc := 154) (v := 1) C dX3_isPossibleReply_154 (by decide) ?_
          refine pr_goto (pc := 155) C 159 dX3_isPossibleReply_155 (by decide) ?_
          exact pr_iret (pc := 159) C E (Or.inr ⟨rfl, (by decide)⟩) (by omega) (by omega) ⟨(by simp [-Int32.not_le, -Int32.not_lt, pz_b, pz_lt, sc_rep, c_147, c_151]), rfl⟩ dX3_isPossibleReply_159
    · -- 8
      refine pr_tableIn (pc := 33) C 143 dX3_isPossibleReply_33 (by decide) (by decide) (off := 110) (by decide) (by decide) ?_
      refine pr_aload_n (pc := 143) C dX3_isPossibleReply_143 rfl ?_
      refine pr_vP (pc := 144) C (c_X2_isClaim G _ K Sm S N O T D e z hs u (by first | assumption | omega) hv) wv_X3_300 rfl rfl (by decide) (by decide) (pl_3 (sj_n0 hs (by first | assumption | omega))) (Nat.le_of_ble_eq_true rfl) (by omega) (by omega) dX3_isPossibleReply_144 ?_
      refine pr_ifb_eq (pc := 147) C 158 dX3_isPossibleReply_147 (by decide) (fun c_147 => ?_) (fun c_147 => ?_)
      · refine pr_iconst (pc := 158) (v := 0) C dX3_isPossibleReply_158 (by decide) ?_
        exact pr_iret (pc := 159) C E (Or.inr ⟨rfl, (by decide)⟩) (by omega) (by omega) ⟨(by simp [-Int32.not_le, -Int32.not_lt, pz_b, pz_lt, sc_rep, c_147]), rfl⟩ dX3_isPossibleReply_159
      · refine pr_iload_n (pc := 150) C dX3_isPossibleReply_150 rfl ?_
        refine pr_ifb_eq (pc := 151) C 158 dX3_isPossibleReply_151 (by decide) (fun c_151 => ?_) (fun c_151 => ?_)
        · refine pr_iconst (pc := 158) (v := 0) C dX3_isPossibleReply_158 (by decide) ?_
          exact pr_iret (pc := 159) C E (Or.inr ⟨rfl, (by decide)⟩) (by omega) (by omega) ⟨(by simp [-Int32.not_le, -Int32.not_lt, pz_b, pz_lt, sc_rep, c_147, c_151]), rfl⟩ dX3_isPossibleReply_159
        · refine pr_iconst (pc := 154) (v := 1) C dX3_isPossibleReply_154 (by decide) ?_
          refine pr_goto (pc := 155) C 159 dX3_isPossibleReply_155 (by decide) ?_
          exact pr_iret (pc := 159) C E (Or.inr ⟨rfl, (by decide)⟩) (by omega) (by omega) ⟨(by simp [-Int32.not_le, -Int32.not_lt, pz_b, pz_lt, sc_rep, c_147, c_151]), rfl⟩ dX3_isPossibleReply_159
    · -- 9
      refine pr_tableIn (pc := 33) C 188 dX3_isPossibleReply_33 (by decide) (by decide) (off := 155) (by decide) (by decide) ?_
      refine pr_iconst (pc := 188) (v := 0) C dX3_isPossibleReply_188 (by decide) ?_
      exact pr_iret (pc := 189) C E (Or.inr ⟨rfl, (by decide)⟩) (by omega) (by omega) ⟨(by simp [-Int32.not_le, -Int32.not_lt, pz_b, pz_lt, sc_rep]), rfl⟩ dX3_isPossibleReply_189
    · -- 10
      refine pr_tableIn (pc := 33) C 188 dX3_isPossibleReply_33 (by decide) (by decide) (off := 155) (by decide) (by decide) ?_
      refine pr_iconst (pc := 188) (v := 0) C dX3_isPossibleReply_188 (by decide) ?_
      exact pr_iret (pc := 189) C E (Or.inr ⟨rfl, (by decide)⟩) (by omega) (by omega) ⟨(by simp [-Int32.not_le, -Int32.not_lt, pz_b, pz_lt, sc_rep]), rfl⟩ dX3_isPossibleReply_189
    · -- 11
      refine pr_tableIn (pc := 33) C 188 dX3_isPossibleReply_33 (by decide) (by decide) (off := 155) (by decide) (by decide) ?_
      refine pr_iconst (pc := 188) (v := 0) C dX3_isPossibleReply_188 (by decide) ?_
      exact pr_iret (pc := 189) C E (Or.inr ⟨rfl, (by decide)⟩) (by omega) (by omega) ⟨(by simp [-Int32.not_le, -Int32.not_lt, pz_b, pz_lt, sc_rep]), rfl⟩ dX3_isPossibleReply_189
    · -- 12
      refine pr_tableIn (pc := 33) C 188 dX3_isPossibleReply_33 (by decide) (by decide) (off := 155) (by decide) (by decide) ?_
      refine pr_iconst (pc := 188) (v := 0) C dX3_isPossibleReply_188 (by decide) ?_
      exact pr_iret (pc := 189) C E (Or.inr ⟨rfl, (by decide)⟩) (by omega) (by omega) ⟨(by simp [-Int32.not_le, -Int32.not_lt, pz_b, pz_lt, sc_rep]), rfl⟩ dX3_isPossibleReply_189
    · -- 13
      refine pr_tableIn (pc := 33) C 188 dX3_isPossibleReply_33 (by decide) (by decide) (off := 155) (by decide) (by decide) ?_
      refine pr_iconst (pc := 188) (v := 0) C dX3_isPossibleReply_188 (by decide) ?_
      exact pr_iret (pc := 189) C E (Or.inr ⟨rfl, (by decide)⟩) (by omega) (by omega) ⟨(by simp [-Int32.not_le, -Int32.not_lt, pz_b, pz_lt, sc_rep]), rfl⟩ dX3_isPossibleReply_189
    · -- 14
      refine pr_tableIn (pc := 33) C 160 dX3_isPossibleReply_33 (by decide) (by decide) (off := 127) (by decide) (by decide) ?_
      refine pr_aload_n (pc := 160) C dX3_isPossibleReply_160 rfl ?_
      refine pr_geti (pc := 161) C 130 wf_X3_182 rfl (by decide) (pl_3 (sj_n0 hs (by first | assumption | omega))) dX3_isPossibleReply_161 ?_
      refine pr_eqi (v := S 227 u) (sj_r130 hs (by first | assumption | omega)) ?_
      refine pr_if_eq (pc := 164) C 186 dX3_isPossibleReply_164 (by decide) (fun c_164 => ?_) (fun c_164 => ?_)
      · refine pr_iconst (pc := 186) (v := 0) C dX3_isPossibleReply_186 (by decide) ?_
        exact pr_iret (pc := 187) C E (Or.inr ⟨rfl, (by decide)⟩) (by omega) (by omega) ⟨(by simp [-Int32.not_le, -Int32.not_lt, pz_b, pz_lt, sc_rep, eq_true c_164]), rfl⟩ dX3_isPossibleReply_187
      · refine pr_aload_n (pc := 167) C dX3_isPossibleReply_167 rfl ?_
        refine pr_aload_n (pc := 168) C dX3_isPossibleReply_168 rfl ?_
        refine pr_gets (pc := 169) C 120 wf_X3_105 rfl rfl (pl_3 (sj_n0 hs (by first | assumption | omega))) w ((sj_r120 hs (by first | assumption | omega)).trans hw1) (by first | assumption | omega) dX3_isPossibleReply_169 ?_
        refine pr_vP (pc := 172) C (c_X2_isTo G _ K Sm S N O T D e z hs u w (by first | assumption | omega) (by first | assumption | omega)) wv_X3_286 rfl rfl (by decide) (by decide) (pl_3 (sj_n0 hs (by first | assumption | omega))) (Nat.le_of_ble_eq_true rfl) (by omega) (by omega) dX3_isPossibleReply_172 ?_
        refine pr_ifb_eq (pc := 175) C 186 dX3_isPossibleReply_175 (by decide) (fun c_175 => ?_) (fun c_175 => ?_)
        · refine pr_iconst (pc := 186) (v := 0) C dX3_isPossibleReply_186 (by decide) ?_
          exact pr_iret (pc := 187) C E (Or.inr ⟨rfl, (by decide)⟩) (by omega) (by omega) ⟨(by simp [-Int32.not_le, -Int32.not_lt, pz_b, pz_lt, sc_rep, eq_false c_164, c_175]), rfl⟩ dX3_isPossibleReply_187
        · refine pr_iload_n (pc := 178) C dX3_isPossibleReply_178 rfl ?_
          refine pr_ifb_eq (pc := 179) C 186 dX3_isPossibleReply_179 (by decide) (fun c_179 => ?_) (fun c_179 => ?_)
          · refine pr_iconst (pc := 186) (v := 0) C dX3_isPossibleReply_186 (by decide) ?_
            exact pr_iret (pc := 187) C E (Or.inr ⟨rfl, (by decide)⟩) (by omega) (by omega) ⟨(by simp [-Int32.not_le, -Int32.not_lt, pz_b, pz_lt, sc_rep, eq_false c_164, c_175, c_179]), rfl⟩ dX3_isPossibleReply_187
          · refine pr_iconst (pc := 182) (v := 1) C dX3_isPossibleReply_182 (by decide) ?_
            refine pr_goto (pc := 183) C 187 dX3_isPossibleReply_183 (by decide) ?_
            exact pr_iret (pc := 187) C E (Or.inr ⟨rfl, (by decide)⟩) (by omega) (by omega) ⟨(by simp [-Int32.not_le, -Int32.not_lt, pz_b, pz_lt, sc_rep, eq_false c_164, c_175, c_179]), rfl⟩ dX3_isPossibleReply_187
    · -- 15
      refine pr_tableIn (pc := 33) C 160 dX3_isPossibleReply_33 (by decide) (by decide) (off := 127) (by decide) (by decide) ?_
      refine pr_aload_n (pc := 160) C dX3_isPossibleReply_160 rfl ?_
      refine pr_geti (pc := 161) C 130 wf_X3_182 rfl (by decide) (pl_3 (sj_n0 hs (by first | assumption | omega))) dX3_isPossibleReply_161 ?_
      refine pr_eqi (v := S 227 u) (sj_r130 hs (by first | assumption | omega)) ?_
      refine pr_if_eq (pc := 164) C 186 dX3_isPossibleReply_164 (by decide) (fun c_164 => ?_) (fun c_164 => ?_)
      · refine pr_iconst (pc := 186) (v := 0) C dX3_isPossibleReply_186 (by decide) ?_
        exact pr_iret (pc := 187) C E (Or.inr ⟨rfl, (by decide)⟩) (by omega) (by omega) ⟨(by simp [-Int32.not_le, -Int32.not_lt, pz_b, pz_lt, sc_rep, eq_true c_164]), rfl⟩ dX3_isPossibleReply_187
      · refine pr_aload_n (pc := 167) C dX3_isPossibleReply_167 rfl ?_
        refine pr_aload_n (pc := 168) C dX3_isPossibleReply_168 rfl ?_
        refine pr_gets (pc := 169) C 120 wf_X3_105 rfl rfl (pl_3 (sj_n0 hs (by first | assumption | omega))) w ((sj_r120 hs (by first | assumption | omega)).trans hw1) (by first | assumption | omega) dX3_isPossibleReply_169 ?_
        refine pr_vP (pc := 172) C (c_X2_isTo G _ K Sm S N O T D e z hs u w (by first | assumption | omega) (by first | assumption | omega)) wv_X3_286 rfl rfl (by decide) (by decide) (pl_3 (sj_n0 hs (by first | assumption | omega))) (Nat.le_of_ble_eq_true rfl) (by omega) (by omega) dX3_isPossibleReply_172 ?_
        refine pr_ifb_eq (pc := 175) C 186 dX3_isPossibleReply_175 (by decide) (fun c_175 => ?_) (fun c_175 => ?_)
        · refine pr_iconst (pc := 186) (v := 0) C dX3_isPossibleReply_186 (by decide) ?_
          exact pr_iret (pc := 187) C E (Or.inr ⟨rfl, (by decide)⟩) (by omega) (by omega) ⟨(by simp [-Int32.not_le, -Int32.not_lt, pz_b, pz_lt, sc_rep, eq_false c_164, c_175]), rfl⟩ dX3_isPossibleReply_187
        · refine pr_iload_n (pc := 178) C dX3_isPossibleReply_178 rfl ?_
          refine pr_ifb_eq (pc := 179) C 186 dX3_isPossibleReply_179 (by decide) (fun c_179 => ?_) (fun c_179 => ?_)
          · refine pr_iconst (pc := 186) (v := 0) C dX3_isPossibleReply_186 (by decide) ?_
            exact pr_iret (pc := 187) C E (Or.inr ⟨rfl, (by decide)⟩) (by omega) (by omega) ⟨(by simp [-Int32.not_le, -Int32.not_lt, pz_b, pz_lt, sc_rep, eq_false c_164, c_175, c_179]), rfl⟩ dX3_isPossibleReply_187
          · refine pr_iconst (pc := 182) (v := 1) C dX3_isPossibleReply_182 (by decide) ?_
            refine pr_goto (pc := 183) C 187 dX3_isPossibleReply_183 (by decide) ?_
            exact pr_iret (pc := 187) C E (Or.inr ⟨rfl, (by decide)⟩) (by omega) (by omega) ⟨(by simp [-Int32.not_le, -Int32.not_lt, pz_b, pz_lt, sc_rep, eq_false c_164, c_175, c_179]), rfl⟩ dX3_isPossibleReply_187
  refine pr_iload_n (pc := 13) C dX3_isPossibleReply_13 rfl ?_
  refine pr_iconst (pc := 14) (v := 3) C dX3_isPossibleReply_14 (by decide) ?_
  refine pr_icmp_eq (pc := 15) C 23 dX3_isPossibleReply_15 (by decide) (fun c_15 => ?_) (fun c_15 => ?_)
  · refine pr_iconst (pc := 23) (v := 1) C dX3_isPossibleReply_23 (by decide) ?_
    refine pr_goto (pc := 24) C 28 dX3_isPossibleReply_24 (by decide) ?_
    exact pr_eqi (show (1 : Int32) = (pz_b (decide (3 ≤ S 228 (4 * u + w)))) from (by simp [-Int32.not_le, -Int32.not_lt, pz_b, pz_lt, ← mj_g3 hg, eq_true c_15])) j28_1
  · refine pr_iload_n (pc := 18) C dX3_isPossibleReply_18 rfl ?_
    refine pr_iconst (pc := 19) (v := 4) C dX3_isPossibleReply_19 (by decide) ?_
    refine pr_icmp_ne (pc := 20) C 27 dX3_isPossibleReply_20 (by decide) (fun c_20 => ?_) (fun c_20 => ?_)
    · refine pr_iconst (pc := 27) (v := 0) C dX3_isPossibleReply_27 (by decide) ?_
      exact pr_eqi (show (0 : Int32) = (pz_b (decide (3 ≤ S 228 (4 * u + w)))) from (by simp [-Int32.not_le, -Int32.not_lt, pz_b, pz_lt, ← mj_g3 hg, eq_false c_15, eq_false c_20])) j28_1
    · refine pr_iconst (pc := 23) (v := 1) C dX3_isPossibleReply_23 (by decide) ?_
      refine pr_goto (pc := 24) C 28 dX3_isPossibleReply_24 (by decide) ?_
      exact pr_eqi (show (1 : Int32) = (pz_b (decide (3 ≤ S 228 (4 * u + w)))) from (by simp [-Int32.not_le, -Int32.not_lt, pz_b, pz_lt, ← mj_g3 hg, eq_false c_15, eq_true c_20])) j28_1

