/-! THE REFERENCE, third part: a turn is carried out; what a tick does -/
/-- a turn is delivered, its clock noted, the right ended -/
def ms_pre (S : Nat → Nat → Int32) (t a : Nat) : Nat → Nat → Int32 := pa_us (pa_us (ms_dlv S t) 225 t (S 200 0)) 215 0 (if a = 4 then S 215 0 else -1)
def ms_tkb (S : Nat → Nat → Int32) (t a : Nat) : Bool := decide (a ≤ 1) && decide (S 223 t ≠ -1)
/-- the given atom is taken for so -/
def ms_tk (S : Nat → Nat → Int32) (t w a g : Nat) : Nat → Nat → Int32 := if ms_tkb S t a = true ∧ S 208 (10 * w + g) ≠ 1 then ms_says S t w g 1 else S
theorem ms_tk_ne {S : Nat → Nat → Int32} {t w a g f j : Nat} (h1 : f ≠ 208) (h2 : f ≠ 209) (h3 : f ≠ 233) (h4 : f ≠ 212) : ms_tk S t w a g f j = S f j := by
  unfold ms_tk
  split
  · exact ms_says_ne h1 h2 h3 h4
  · rfl
theorem ms_pre_ne {S : Nat → Nat → Int32} {t a f j : Nat} (h1 : f ≠ 228) (h2 : f ≠ 229) (h3 : f ≠ 225) (h4 : f ≠ 215) : ms_pre S t a f j = S f j := by
  unfold ms_pre
  rw [pa_us_ne h4, pa_us_ne h3, ms_dlv_ne h1 h2]
/-- what an act does, behind all that every turn does -/
def ms_does (S : Nat → Nat → Int32) (t w a u wu x9 v Q q0 y : Nat) : Nat → Nat → Int32 :=
  if a ≤ 3 then ms_doQ S t w a Q q0 u y else if 13 ≤ a then ms_doO S t w a u wu else if a ≤ 8 then ms_doT S t w a u wu x9 else ms_doA S t w a u v
def ms_carN (S : Nat → Nat → Int32) (t w a u wu x9 v g Q q0 y : Nat) : Nat → Nat → Int32 :=
  if (ms_poss S w a (S 220 t) (S 221 t) (S 222 t) && ms_perm S w a (S 220 t)) = false then pa_us S 224 t 4 else
  if (ms_tkb S t a && ms_chal (ms_pre S t a) t g) = true then pa_us (ms_pre S t a) 224 t 3 else
  ms_does (pa_us (ms_tk (ms_pre S t a) t w a g) 224 t 1) t w a u wu x9 v Q q0 y
/-- what holds of a turn t that is carried out: w who says it, a its act, u the turn or the atom it is about, wu who said that turn, x9 that turn's atom, v the other atom, g the given one; Q questions, the top one q0, its atom y -/
def mw_car (S : Nat → Nat → Int32) (t w a u wu x9 v g Q q0 y : Nat) : Prop :=
  t < 100 ∧ S 218 t = nI w ∧ w < 4 ∧ S 219 t = nI a ∧ a < 16 ∧ mw_of a (S 220 t) ∧ mw_Q S Q q0 ∧
  ((4 ≤ a ∧ a ≤ 8) ∨ 14 ≤ a → S 220 t = nI u ∧ u < 100 ∧ S 218 u = nI wu ∧ wu < 4) ∧
  (a ≤ 1 ∨ (9 ≤ a ∧ a ≤ 12) → S 220 t = nI u ∧ u < 10) ∧
  (a = 7 ∨ a = 8 → ms_isClaim S u = true → S 220 u = nI x9 ∧ x9 < 10) ∧
  (a = 9 → S 221 t = nI v ∧ v < 10) ∧
  (a ≤ 1 → S 223 t ≠ -1 → S 223 t = nI g ∧ g < 10) ∧
  (0 < Q → S 220 q0 = nI y ∧ y < 10)
theorem ms_poss_ask {S : Nat → Nat → Int32} {w Q q0 : Nat} {of how set : Int32} (hw : mw_Q S Q q0) (h : ms_poss S w 1 of how set = true) : Q < 6 := by
  have h2 : ¬ (6 : Int32) ≤ S 231 0 := by simpa [-Int32.not_le, -Int32.not_lt, pz_lt, ms_poss] using h
  rw [hw.1] at h2
  have := mt (pq_lt6 hw.2.1).mpr h2
  omega
theorem ms_poss_ans {S : Nat → Nat → Int32} {w Q q0 : Nat} {of how set : Int32} (hw : mw_Q S Q q0) (h4 : w < 4) (h : ms_poss S w 2 of how set = true) : 0 < Q := by
  have h2 : ms_top S = nI w := by simpa [ms_poss] using h
  exact ms_top_pos hw h4 h2
theorem ms_poss_drop {S : Nat → Nat → Int32} {w Q q0 : Nat} {of how set : Int32} (hw : mw_Q S Q q0) (h : ms_poss S w 3 of how set = true) : 0 < Q := by
  have h2 : ¬ S 231 0 ≤ (0 : Int32) := by
    have := h
    simp [-Int32.not_le, -Int32.not_lt, pz_lt, ms_poss] at this
    exact this.1
  rw [hw.1] at h2
  have := mt (pq_lt0 hw.2.1).mpr h2
  omega
theorem ms_poss_claim {S : Nat → Nat → Int32} {w a u : Nat} {how set : Int32} (ha : a = 7 ∨ a = 8) (hu : u < 100) (h : ms_poss S w a (nI u) how set = true) : ms_isClaim S u = true := by
  have e : (nI u).toNatClampNeg = u := nI_clamp (by omega)
  rcases ha with rfl | rfl <;> (simp [ms_poss, e] at h; exact h.1)
set_option maxRecDepth 100000 in
set_option maxHeartbeats 2000000 in
theorem c_X4_carries (G : pa_G) (l : Launch) (h : pa_H) (t w a u wu x9 v g Q q0 y : Nat) (hC : mw_car h.2.1 t w a u wu x9 v g Q q0 y) : pa_ME G l mX4_carries 6 [pv_o 5 0, pv_i (nI t)] h (h.1, ms_carN h.2.1 t w a u wu x9 v g Q q0 y, h.2.2) := by
  refine pa_go l (by decide) (by simp [pa_c1l, pa_c1]) (fun _ => rfl) fun x C E el ea => ?_
  subst el
  obtain ⟨ht, hw, hw4, ha, ha16, hof, hQ, hu, hx, hc, hv, hg9, hy⟩ := hC
  have hgv : ms_tkb h.2.1 t a = true → h.2.1 223 t = nI g ∧ g < 10 := fun z => by
    have z2 : a ≤ 1 ∧ ¬ h.2.1 223 t = -1 := by simpa [ms_tkb] using z
    exact hg9 z2.1 z2.2
  show pa_w G x 5 h 0 0 0 [some (pv_o 5 0), some (pv_i (nI t)), none, none, none] []
  refine pr_aload_n (pc := 0) C dX4_carries_0 rfl ?_
  refine pr_geta (pc := 1) C 219 319 wf_X4_50 rfl rfl (by decide) (pl_5 _) dX4_carries_1 ?_
  refine pr_iload_n (pc := 4) C dX4_carries_4 rfl ?_
  refine pr_aldm (pc := 5) (n := 100) C 219 t rfl rfl rfl (pl_r5 (by decide)) rfl (by omega) (by decide) dX4_carries_5 ?_
  refine pr_eqi ha ?_
  refine pr_istore_n (pc := 6) C dX4_carries_6 (by decide) ?_
  refine pr_aload_n (pc := 7) C dX4_carries_7 rfl ?_
  refine pr_geta (pc := 8) C 218 318 wf_X4_47 rfl rfl (by decide) (pl_5 _) dX4_carries_8 ?_
  refine pr_iload_n (pc := 11) C dX4_carries_11 rfl ?_
  refine pr_aldm (pc := 12) (n := 100) C 218 t rfl rfl rfl (pl_r5 (by decide)) rfl (by omega) (by decide) dX4_carries_12 ?_
  refine pr_eqi hw ?_
  refine pr_istore_n (pc := 13) C dX4_carries_13 (by decide) ?_
  refine pr_aload_n (pc := 14) C dX4_carries_14 rfl ?_
  refine pr_iload_n (pc := 15) C dX4_carries_15 rfl ?_
  refine pr_iload_n (pc := 16) C dX4_carries_16 rfl ?_
  refine pr_aload_n (pc := 17) C dX4_carries_17 rfl ?_
  refine pr_geta (pc := 18) C 220 320 wf_X4_53 rfl rfl (by decide) (pl_5 _) dX4_carries_18 ?_
  refine pr_iload_n (pc := 21) C dX4_carries_21 rfl ?_
  refine pr_aldm (pc := 22) (n := 100) C 220 t rfl rfl rfl (pl_r5 (by decide)) rfl (by omega) (by decide) dX4_carries_22 ?_
  refine pr_aload_n (pc := 23) C dX4_carries_23 rfl ?_
  refine pr_geta (pc := 24) C 221 321 wf_X4_56 rfl rfl (by decide) (pl_5 _) dX4_carries_24 ?_
  refine pr_iload_n (pc := 27) C dX4_carries_27 rfl ?_
  refine pr_aldm (pc := 28) (n := 100) C 221 t rfl rfl rfl (pl_r5 (by decide)) rfl (by omega) (by decide) dX4_carries_28 ?_
  refine pr_aload_n (pc := 29) C dX4_carries_29 rfl ?_
  refine pr_geta (pc := 30) C 222 322 wf_X4_59 rfl rfl (by decide) (pl_5 _) dX4_carries_30 ?_
  refine pr_iload_n (pc := 33) C dX4_carries_33 rfl ?_
  refine pr_aldm (pc := 34) (n := 100) C 222 t rfl rfl rfl (pl_r5 (by decide)) rfl (by omega) (by decide) dX4_carries_34 ?_
  refine pr_vP (pc := 35) C (c_X4_isPossible G _ h w a Q q0 (h.2.1 220 t) (h.2.1 221 t) (h.2.1 222 t) (by first | assumption | omega) (by first | assumption | omega) hof hQ) wv_X4_160 rfl rfl (by decide) (by decide) (pl_5 _) (Nat.le_of_ble_eq_true rfl) (by omega) (by omega) dX4_carries_35 ?_
  refine pr_ifb_eq (pc := 38) C 56 dX4_carries_38 (by decide) (fun c_38 => ?_) (fun c_38 => ?_)
  · refine pr_aload_n (pc := 56) C dX4_carries_56 rfl ?_
    refine pr_geta (pc := 57) C 224 324 wf_X4_65 rfl rfl (by decide) (pl_5 _) dX4_carries_57 ?_
    refine pr_iload_n (pc := 60) C dX4_carries_60 rfl ?_
    refine pr_iconst (pc := 61) (v := 4) C dX4_carries_61 (by decide) ?_
    refine pr_astm (pc := 62) (n := 100) C 224 t rfl (by decide) rfl rfl (pl_r5 (by decide)) rfl (by omega) (by decide) dX4_carries_62 ?_
    exact pr_vret (pc := 63) C E (by omega) (by omega) ⟨rfl, by simp [-Int32.not_le, -Int32.not_lt, pz_b, pz_lt, ms_carN, ms_does, ms_pre, c_38]⟩ dX4_carries_63
  · refine pr_aload_n (pc := 41) C dX4_carries_41 rfl ?_
    refine pr_iload_n (pc := 42) C dX4_carries_42 rfl ?_
    refine pr_iload_n (pc := 43) C dX4_carries_43 rfl ?_
    refine pr_aload_n (pc := 44) C dX4_carries_44 rfl ?_
    refine pr_geta (pc := 45) C 220 320 wf_X4_53 rfl rfl (by decide) (pl_5 _) dX4_carries_45 ?_
    refine pr_iload_n (pc := 48) C dX4_carries_48 rfl ?_
    refine pr_aldm (pc := 49) (n := 100) C 220 t rfl rfl rfl (pl_r5 (by decide)) rfl (by omega) (by decide) dX4_carries_49 ?_
    refine pr_vP (pc := 50) C (c_X4_isPermitted G _ h w a Q q0 (h.2.1 220 t) (by first | assumption | omega) (by first | assumption | omega) hof hQ) wv_X4_164 rfl rfl (by decide) (by decide) (pl_5 _) (Nat.le_of_ble_eq_true rfl) (by omega) (by omega) dX4_carries_50 ?_
    refine pr_ifb_ne (pc := 53) C 64 dX4_carries_53 (by decide) (fun c_53 => ?_) (fun c_53 => ?_)
    · refine pr_aload_n (pc := 64) C dX4_carries_64 rfl ?_
      refine pr_iload_n (pc := 65) C dX4_carries_65 rfl ?_
      refine pr_vE (pc := 66) C (c_X4_delivers G _ h t (by first | assumption | omega)) wv_X4_193 rfl rfl (by decide) (by decide) (pl_5 _) (Nat.le_of_ble_eq_true rfl) (by omega) (by omega) dX4_carries_66 ?_
      refine pr_aload_n (pc := 69) C dX4_carries_69 rfl ?_
      refine pr_geta (pc := 70) C 225 325 wf_X4_68 rfl rfl (by decide) (pl_5 _) dX4_carries_70 ?_
      refine pr_iload_n (pc := 73) C dX4_carries_73 rfl ?_
      refine pr_aload_n (pc := 74) C dX4_carries_74 rfl ?_
      refine pr_getm (pc := 75) C 200 wf_X4_121 rfl (by decide) (pl_5 _) dX4_carries_75 ?_
      refine pr_eqi (v := h.2.1 200 0) (by simp only [pa_us_ne, pa_us_self, ms_dlv_ne, ms_eq_ne, ms_com_ne, ms_says_ne, ms_right_ne, ne_eq, Nat.reduceEqDiff, not_false_eq_true, reduceCtorEq]) ?_
      refine pr_astm (pc := 78) (n := 100) C 225 t rfl (by decide) rfl rfl (pl_r5 (by decide)) rfl (by omega) (by decide) dX4_carries_78 ?_
      refine pr_aload_n (pc := 79) C dX4_carries_79 rfl ?_
      have j93_1 : pa_w G x 5 (h.1, (pa_us (ms_dlv h.2.1 t) 225 t (h.2.1 200 0)), h.2.2) 0 0 93 [some (pv_o 5 0), some (pv_i (nI t)), some (pv_i (nI a)), some (pv_i (nI w)), none] [pv_i (if a = 4 then h.2.1 215 0 else -1), pv_o 5 0] := by
        refine pr_putm (pc := 93) C 215 wp_X4_95 rfl (by decide) rfl (pl_5 _) dX4_carries_93 ?_
        have j116_2 : pa_w G x 5 (h.1, (pa_us (pa_us (ms_dlv h.2.1 t) 225 t (h.2.1 200 0)) 215 0 (if a = 4 then h.2.1 215 0 else -1)), h.2.2) 0 0 116 [some (pv_o 5 0), some (pv_i (nI t)), some (pv_i (nI a)), some (pv_i (nI w)), none] [pv_i (pz_b (ms_tkb h.2.1 t a))] := by
          refine pr_istore (pc := 116) C dX4_carries_116 (by decide) ?_
          have jT : (ms_tkb h.2.1 t a && ms_chal (pa_us (pa_us (ms_dlv h.2.1 t) 225 t (h.2.1 200 0)) 215 0 (if a = 4 then h.2.1 215 0 else -1)) t g) = false → pa_w G x 5 (h.1, (ms_tk (pa_us (pa_us (ms_dlv h.2.1 t) 225 t (h.2.1 200 0)) 215 0 (if a = 4 then h.2.1 215 0 else -1)) t w a g), h.2.2) 0 0 176 [some (pv_o 5 0), some (pv_i (nI t)), some (pv_i (nI a)), some (pv_i (nI w)), some (pv_i (pz_b (ms_tkb h.2.1 t a)))] [] := by
            intro hch
            refine pr_aload_n (pc := 176) C dX4_carries_176 rfl ?_
            refine pr_geta (pc := 177) C 224 324 wf_X4_65 rfl rfl (by decide) (pl_5 _) dX4_carries_177 ?_
            refine pr_iload_n (pc := 180) C dX4_carries_180 rfl ?_
            refine pr_iconst (pc := 181) (v := 1) C dX4_carries_181 (by decide) ?_
            refine pr_astm (pc := 182) (n := 100) C 224 t rfl (by decide) rfl rfl (pl_r5 (by decide)) rfl (by omega) (by decide) dX4_carries_182 ?_
            refine pr_iload_n (pc := 183) C dX4_carries_183 rfl ?_
            refine pr_iconst (pc := 184) (v := 3) C dX4_carries_184 (by decide) ?_
            refine pr_icmp_gtN (pc := 185) C 196 a 3 dX4_carries_185 (by decide) rfl rfl (by omega) (by omega) (fun c_185 => ?_) (fun c_185 => ?_)
            · refine pr_iload_n (pc := 196) C dX4_carries_196 rfl ?_
              refine pr_bipush (pc := 197) (v := 13) C dX4_carries_197 (by decide) ?_
              refine pr_icmp_ltN (pc := 199) C 210 a 13 dX4_carries_199 (by decide) rfl rfl (by omega) (by omega) (fun c_199 => ?_) (fun c_199 => ?_)
              · refine pr_iload_n (pc := 210) C dX4_carries_210 rfl ?_
                refine pr_bipush (pc := 211) (v := 8) C dX4_carries_211 (by decide) ?_
                refine pr_icmp_gtN (pc := 213) C 224 a 8 dX4_carries_213 (by decide) rfl rfl (by omega) (by omega) (fun c_213 => ?_) (fun c_213 => ?_)
                · refine pr_aload_n (pc := 224) C dX4_carries_224 rfl ?_
                  refine pr_iload_n (pc := 225) C dX4_carries_225 rfl ?_
                  refine pr_vE (pc := 226) C (c_X4_doesAtom G _ (h.1, (pa_us (ms_tk (pa_us (pa_us (ms_dlv h.2.1 t) 225 t (h.2.1 200 0)) 215 0 (if a = 4 then h.2.1 215 0 else -1)) t w a g) 224 t (1 : Int32)), h.2.2) t w a u v ht (by simp only [pa_us_ne, ms_tk_ne, ms_dlv_ne, ne_eq, Nat.reduceEqDiff, not_false_eq_true]; exact hw) hw4 (by simp only [pa_us_ne, ms_tk_ne, ms_dlv_ne, ne_eq, Nat.reduceEqDiff, not_false_eq_true]; exact ha) ha16 (by simp only [pa_us_ne, ms_tk_ne, ms_dlv_ne, ne_eq, Nat.reduceEqDiff, not_false_eq_true]; exact (hx (by omega)).1) (hx (by omega)).2 (fun z => by simp only [pa_us_ne, ms_tk_ne, ms_dlv_ne, ne_eq, Nat.reduceEqDiff, not_false_eq_true]; exact hv z)) wv_X4_213 rfl rfl (by decide) (by decide) (pl_5 _) (Nat.le_of_ble_eq_true rfl) (by omega) (by omega) dX4_carries_226 ?_
                  exact pr_vret (pc := 229) C E (by omega) (by omega) ⟨rfl, by simp [-Int32.not_le, -Int32.not_lt, pz_b, pz_lt, ms_carN, ms_does, ms_pre, show ¬ a ≤ 3 by omega, show ¬ 13 ≤ a by omega, show ¬ a ≤ 8 by omega, c_38, c_53, hch, c_185, c_199, c_213]⟩ dX4_carries_229
                · refine pr_aload_n (pc := 216) C dX4_carries_216 rfl ?_
                  refine pr_iload_n (pc := 217) C dX4_carries_217 rfl ?_
                  refine pr_vE (pc := 218) C (c_X4_doesTurn G _ (h.1, (pa_us (ms_tk (pa_us (pa_us (ms_dlv h.2.1 t) 225 t (h.2.1 200 0)) 215 0 (if a = 4 then h.2.1 215 0 else -1)) t w a g) 224 t (1 : Int32)), h.2.2) t w a u wu x9 ht (by simp only [pa_us_ne, ms_tk_ne, ms_dlv_ne, ne_eq, Nat.reduceEqDiff, not_false_eq_true]; exact hw) hw4 (by simp only [pa_us_ne, ms_tk_ne, ms_dlv_ne, ne_eq, Nat.reduceEqDiff, not_false_eq_true]; exact ha) ⟨by omega, by omega⟩ (by simp only [pa_us_ne, ms_tk_ne, ms_dlv_ne, ne_eq, Nat.reduceEqDiff, not_false_eq_true]; exact (hu (by omega)).1) (hu (by omega)).2.1 (by simp only [pa_us_ne, ms_tk_ne, ms_dlv_ne, ne_eq, Nat.reduceEqDiff, not_false_eq_true]; exact (hu (by omega)).2.2.1) (hu (by omega)).2.2.2 (fun z => by simp only [pa_us_ne, ms_tk_ne, ms_dlv_ne, ne_eq, Nat.reduceEqDiff, not_false_eq_true]; exact hc z (ms_poss_claim z (hu (by omega)).2.1 ((hu (by omega)).1 ▸ c_38)))) wv_X4_210 rfl rfl (by decide) (by decide) (pl_5 _) (Nat.le_of_ble_eq_true rfl) (by omega) (by omega) dX4_carries_218 ?_
                  refine pr_goto (pc := 221) C 229 dX4_carries_221 (by decide) ?_
                  exact pr_vret (pc := 229) C E (by omega) (by omega) ⟨rfl, by simp [-Int32.not_le, -Int32.not_lt, pz_b, pz_lt, ms_carN, ms_does, ms_pre, show ¬ a ≤ 3 by omega, show ¬ 13 ≤ a by omega, c_38, c_53, hch, c_185, c_199, c_213]⟩ dX4_carries_229
              · refine pr_aload_n (pc := 202) C dX4_carries_202 rfl ?_
                refine pr_iload_n (pc := 203) C dX4_carries_203 rfl ?_
                refine pr_vE (pc := 204) C (c_X4_doesOffer G _ (h.1, (pa_us (ms_tk (pa_us (pa_us (ms_dlv h.2.1 t) 225 t (h.2.1 200 0)) 215 0 (if a = 4 then h.2.1 215 0 else -1)) t w a g) 224 t (1 : Int32)), h.2.2) t w a u wu ht (by simp only [pa_us_ne, ms_tk_ne, ms_dlv_ne, ne_eq, Nat.reduceEqDiff, not_false_eq_true]; exact hw) hw4 (by simp only [pa_us_ne, ms_tk_ne, ms_dlv_ne, ne_eq, Nat.reduceEqDiff, not_false_eq_true]; exact ha) ha16 (fun z => by simp only [pa_us_ne, ms_tk_ne, ms_dlv_ne, ne_eq, Nat.reduceEqDiff, not_false_eq_true]; exact hu (by omega))) wv_X4_207 rfl rfl (by decide) (by decide) (pl_5 _) (Nat.le_of_ble_eq_true rfl) (by omega) (by omega) dX4_carries_204 ?_
                refine pr_goto (pc := 207) C 229 dX4_carries_207 (by decide) ?_
                exact pr_vret (pc := 229) C E (by omega) (by omega) ⟨rfl, by simp [-Int32.not_le, -Int32.not_lt, pz_b, pz_lt, ms_carN, ms_does, ms_pre, show ¬ a ≤ 3 by omega, c_38, c_53, hch, c_185, c_199]⟩ dX4_carries_229
            · refine pr_aload_n (pc := 188) C dX4_carries_188 rfl ?_
              refine pr_iload_n (pc := 189) C dX4_carries_189 rfl ?_
              refine pr_vE (pc := 190) C (c_X4_doesQuestion G _ (h.1, (pa_us (ms_tk (pa_us (pa_us (ms_dlv h.2.1 t) 225 t (h.2.1 200 0)) 215 0 (if a = 4 then h.2.1 215 0 else -1)) t w a g) 224 t (1 : Int32)), h.2.2) t w a Q q0 u y ht (by simp only [pa_us_ne, ms_tk_ne, ms_dlv_ne, ne_eq, Nat.reduceEqDiff, not_false_eq_true]; exact hw) hw4 (by simp only [pa_us_ne, ms_tk_ne, ms_dlv_ne, ne_eq, Nat.reduceEqDiff, not_false_eq_true]; exact ha) (by omega) (mw_Q_of hQ (by simp only [pa_us_ne, ms_tk_ne, ms_dlv_ne, ne_eq, Nat.reduceEqDiff, not_false_eq_true]) (fun _ => by simp only [pa_us_ne, ms_tk_ne, ms_dlv_ne, ne_eq, Nat.reduceEqDiff, not_false_eq_true])) (fun z => ms_poss_ask hQ (z ▸ c_38)) (fun z => z.elim (fun z => ms_poss_ans hQ hw4 (z ▸ c_38)) (fun z => ms_poss_drop hQ (z ▸ c_38))) (fun z => by simp only [pa_us_ne, ms_tk_ne, ms_dlv_ne, ne_eq, Nat.reduceEqDiff, not_false_eq_true]; exact hx (by omega)) (fun z => by simp only [pa_us_ne, ms_tk_ne, ms_dlv_ne, ne_eq, Nat.reduceEqDiff, not_false_eq_true]; exact hy (ms_poss_ans hQ hw4 (z ▸ c_38)))) wv_X4_204 rfl rfl (by decide) (by decide) (pl_5 _) (Nat.le_of_ble_eq_true rfl) (by omega) (by omega) dX4_carries_190 ?_
              refine pr_goto (pc := 193) C 229 dX4_carries_193 (by decide) ?_
              exact pr_vret (pc := 229) C E (by omega) (by omega) ⟨rfl, by simp [-Int32.not_le, -Int32.not_lt, pz_b, pz_lt, ms_carN, ms_does, ms_pre, c_38, c_53, hch, c_185]⟩ dX4_carries_229
          refine pr_iload (pc := 118) C dX4_carries_118 rfl ?_
          refine pr_ifb_eq (pc := 120) C 139 dX4_carries_120 (by decide) (fun c_120 => ?_) (fun c_120 => ?_)
          · refine pr_iload (pc := 139) C dX4_carries_139 rfl ?_
            refine pr_ifb_eq (pc := 141) C 176 dX4_carries_141 (by decide) (fun c_141 => ?_) (fun c_141 => ?_)
            · refine pr_h (h1 := (h.1, (ms_tk (pa_us (pa_us (ms_dlv h.2.1 t) 225 t (h.2.1 200 0)) 215 0 (if a = 4 then h.2.1 215 0 else -1)) t w a g), h.2.2)) (Prod.ext rfl (Prod.ext ?_ rfl)) (jT (by simp [c_120, c_141]))
              simp [-Int32.not_le, -Int32.not_lt, ms_tk, ms_tkb, pa_us_ne, ms_dlv_ne, c_120, c_141] <;> simp_all [ms_tkb]
            · obtain ⟨hg, hg10⟩ := hgv c_141
              refine pr_aload_n (pc := 144) C dX4_carries_144 rfl ?_
              refine pr_geta (pc := 145) C 208 308 wf_X4_29 rfl rfl (by decide) (pl_5 _) dX4_carries_145 ?_
              refine pr_bipush (pc := 148) (v := 10) C dX4_carries_148 (by decide) ?_
              refine pr_iload_n (pc := 150) C dX4_carries_150 rfl ?_
              refine pr_imulN (pc := 151) C dX4_carries_151 10 w rfl rfl ?_
              refine pr_aload_n (pc := 152) C dX4_carries_152 rfl ?_
              refine pr_geta (pc := 153) C 223 323 wf_X4_62 rfl rfl (by decide) (pl_5 _) dX4_carries_153 ?_
              refine pr_iload_n (pc := 156) C dX4_carries_156 rfl ?_
              refine pr_aldm (pc := 157) (n := 100) C 223 t rfl rfl rfl (pl_r5 (by decide)) rfl (by omega) (by decide) dX4_carries_157 ?_
              refine pr_eqi (v := h.2.1 223 t) (by simp only [pa_us_ne, pa_us_self, ms_dlv_ne, ms_eq_ne, ms_com_ne, ms_says_ne, ms_right_ne, ne_eq, Nat.reduceEqDiff, not_false_eq_true, reduceCtorEq]) ?_
              refine pr_eqi hg ?_
              refine pr_iaddN (pc := 158) C dX4_carries_158 (10 * w) g rfl rfl ?_
              refine pr_aldm (pc := 159) (n := 40) C 208 ((10 * w) + g) rfl rfl rfl (pl_r5 (by decide)) rfl (by omega) (by decide) dX4_carries_159 ?_
              refine pr_eqi (v := h.2.1 208 ((10 * w) + g)) (by simp only [pa_us_ne, pa_us_self, ms_dlv_ne, ms_eq_ne, ms_com_ne, ms_says_ne, ms_right_ne, ne_eq, Nat.reduceEqDiff, not_false_eq_true, reduceCtorEq]) ?_
              refine pr_iconst (pc := 160) (v := 1) C dX4_carries_160 (by decide) ?_
              refine pr_icmp_eq (pc := 161) C 176 dX4_carries_161 (by decide) (fun c_161 => ?_) (fun c_161 => ?_)
              · refine pr_h (h1 := (h.1, (ms_tk (pa_us (pa_us (ms_dlv h.2.1 t) 225 t (h.2.1 200 0)) 215 0 (if a = 4 then h.2.1 215 0 else -1)) t w a g), h.2.2)) (Prod.ext rfl (Prod.ext ?_ rfl)) (jT (by simp [c_120, c_141, eq_true c_161]))
                simp [-Int32.not_le, -Int32.not_lt, ms_tk, ms_tkb, pa_us_ne, ms_dlv_ne, c_120, c_141, eq_true c_161] <;> simp_all [ms_tkb]
              · refine pr_aload_n (pc := 164) C dX4_carries_164 rfl ?_
                refine pr_iload_n (pc := 165) C dX4_carries_165 rfl ?_
                refine pr_aload_n (pc := 166) C dX4_carries_166 rfl ?_
                refine pr_geta (pc := 167) C 223 323 wf_X4_62 rfl rfl (by decide) (pl_5 _) dX4_carries_167 ?_
                refine pr_iload_n (pc := 170) C dX4_carries_170 rfl ?_
                refine pr_aldm (pc := 171) (n := 100) C 223 t rfl rfl rfl (pl_r5 (by decide)) rfl (by omega) (by decide) dX4_carries_171 ?_
                refine pr_eqi (v := h.2.1 223 t) (by simp only [pa_us_ne, pa_us_self, ms_dlv_ne, ms_eq_ne, ms_com_ne, ms_says_ne, ms_right_ne, ne_eq, Nat.reduceEqDiff, not_false_eq_true, reduceCtorEq]) ?_
                refine pr_eqi hg ?_
                refine pr_iconst (pc := 172) (v := 1) C dX4_carries_172 (by decide) ?_
                refine pr_vE (pc := 173) C (c_X4_says G _ (h.1, (pa_us (pa_us (ms_dlv h.2.1 t) 225 t (h.2.1 200 0)) 215 0 (if a = 4 then h.2.1 215 0 else -1)), h.2.2) t w g (1 : Int32) (by first | assumption | omega) (by simp only [pa_us_ne, ms_tk_ne, ms_dlv_ne, ne_eq, Nat.reduceEqDiff, not_false_eq_true]; exact hw) hw4 (by first | assumption | omega)) wv_X4_200 rfl rfl (by decide) (by decide) (pl_5 _) (Nat.le_of_ble_eq_true rfl) (by omega) (by omega) dX4_carries_173 ?_
                refine pr_h (h1 := (h.1, (ms_tk (pa_us (pa_us (ms_dlv h.2.1 t) 225 t (h.2.1 200 0)) 215 0 (if a = 4 then h.2.1 215 0 else -1)) t w a g), h.2.2)) (Prod.ext rfl (Prod.ext ?_ rfl)) (jT (by simp [c_120, c_141, eq_false c_161]))
                simp [-Int32.not_le, -Int32.not_lt, ms_tk, ms_tkb, pa_us_ne, ms_dlv_ne, c_120, c_141, eq_false c_161] <;> simp_all [ms_tkb]
          · obtain ⟨hg, hg10⟩ := hgv c_120
            refine pr_aload_n (pc := 123) C dX4_carries_123 rfl ?_
            refine pr_iload_n (pc := 124) C dX4_carries_124 rfl ?_
            refine pr_vP (pc := 125) C (c_X4_isChallenged G _ (h.1, (pa_us (pa_us (ms_dlv h.2.1 t) 225 t (h.2.1 200 0)) 215 0 (if a = 4 then h.2.1 215 0 else -1)), h.2.2) t g (by first | assumption | omega) (by simp only [pa_us_ne, ms_tk_ne, ms_dlv_ne, ne_eq, Nat.reduceEqDiff, not_false_eq_true]; exact hg) hg10) wv_X4_197 rfl rfl (by decide) (by decide) (pl_5 _) (Nat.le_of_ble_eq_true rfl) (by omega) (by omega) dX4_carries_125 ?_
            refine pr_ifb_eq (pc := 128) C 139 dX4_carries_128 (by decide) (fun c_128 => ?_) (fun c_128 => ?_)
            · refine pr_iload (pc := 139) C dX4_carries_139 rfl ?_
              refine pr_ifb_eq (pc := 141) C 176 dX4_carries_141 (by decide) (fun c_141 => ?_) (fun c_141 => ?_)
              · refine pr_h (h1 := (h.1, (ms_tk (pa_us (pa_us (ms_dlv h.2.1 t) 225 t (h.2.1 200 0)) 215 0 (if a = 4 then h.2.1 215 0 else -1)) t w a g), h.2.2)) (Prod.ext rfl (Prod.ext ?_ rfl)) (jT (by simp [c_120, c_128, c_141]))
                simp [-Int32.not_le, -Int32.not_lt, ms_tk, ms_tkb, pa_us_ne, ms_dlv_ne, c_120, c_128, c_141] <;> simp_all [ms_tkb]
              · obtain ⟨hg, hg10⟩ := hgv c_141
                refine pr_aload_n (pc := 144) C dX4_carries_144 rfl ?_
                refine pr_geta (pc := 145) C 208 308 wf_X4_29 rfl rfl (by decide) (pl_5 _) dX4_carries_145 ?_
                refine pr_bipush (pc := 148) (v := 10) C dX4_carries_148 (by decide) ?_
                refine pr_iload_n (pc := 150) C dX4_carries_150 rfl ?_
                refine pr_imulN (pc := 151) C dX4_carries_151 10 w rfl rfl ?_
                refine pr_aload_n (pc := 152) C dX4_carries_152 rfl ?_
                refine pr_geta (pc := 153) C 223 323 wf_X4_62 rfl rfl (by decide) (pl_5 _) dX4_carries_153 ?_
                refine pr_iload_n (pc := 156) C dX4_carries_156 rfl ?_
                refine pr_aldm (pc := 157) (n := 100) C 223 t rfl rfl rfl (pl_r5 (by decide)) rfl (by omega) (by decide) dX4_carries_157 ?_
                refine pr_eqi (v := h.2.1 223 t) (by simp only [pa_us_ne, pa_us_self, ms_dlv_ne, ms_eq_ne, ms_com_ne, ms_says_ne, ms_right_ne, ne_eq, Nat.reduceEqDiff, not_false_eq_true, reduceCtorEq]) ?_
                refine pr_eqi hg ?_
                refine pr_iaddN (pc := 158) C dX4_carries_158 (10 * w) g rfl rfl ?_
                refine pr_aldm (pc := 159) (n := 40) C 208 ((10 * w) + g) rfl rfl rfl (pl_r5 (by decide)) rfl (by omega) (by decide) dX4_carries_159 ?_
                refine pr_eqi (v := h.2.1 208 ((10 * w) + g)) (by simp only [pa_us_ne, pa_us_self, ms_dlv_ne, ms_eq_ne, ms_com_ne, ms_says_ne, ms_right_ne, ne_eq, Nat.reduceEqDiff, not_false_eq_true, reduceCtorEq]) ?_
                refine pr_iconst (pc := 160) (v := 1) C dX4_carries_160 (by decide) ?_
                refine pr_icmp_eq (pc := 161) C 176 dX4_carries_161 (by decide) (fun c_161 => ?_) (fun c_161 => ?_)
                · refine pr_h (h1 := (h.1, (ms_tk (pa_us (pa_us (ms_dlv h.2.1 t) 225 t (h.2.1 200 0)) 215 0 (if a = 4 then h.2.1 215 0 else -1)) t w a g), h.2.2)) (Prod.ext rfl (Prod.ext ?_ rfl)) (jT (by simp [c_120, c_128, c_141, eq_true c_161]))
                  simp [-Int32.not_le, -Int32.not_lt, ms_tk, ms_tkb, pa_us_ne, ms_dlv_ne, c_120, c_128, c_141, eq_true c_161] <;> simp_all [ms_tkb]
                · refine pr_aload_n (pc := 164) C dX4_carries_164 rfl ?_
                  refine pr_iload_n (pc := 165) C dX4_carries_165 rfl ?_
                  refine pr_aload_n (pc := 166) C dX4_carries_166 rfl ?_
                  refine pr_geta (pc := 167) C 223 323 wf_X4_62 rfl rfl (by decide) (pl_5 _) dX4_carries_167 ?_
                  refine pr_iload_n (pc := 170) C dX4_carries_170 rfl ?_
                  refine pr_aldm (pc := 171) (n := 100) C 223 t rfl rfl rfl (pl_r5 (by decide)) rfl (by omega) (by decide) dX4_carries_171 ?_
                  refine pr_eqi (v := h.2.1 223 t) (by simp only [pa_us_ne, pa_us_self, ms_dlv_ne, ms_eq_ne, ms_com_ne, ms_says_ne, ms_right_ne, ne_eq, Nat.reduceEqDiff, not_false_eq_true, reduceCtorEq]) ?_
                  refine pr_eqi hg ?_
                  refine pr_iconst (pc := 172) (v := 1) C dX4_carries_172 (by decide) ?_
                  refine pr_vE (pc := 173) C (c_X4_says G _ (h.1, (pa_us (pa_us (ms_dlv h.2.1 t) 225 t (h.2.1 200 0)) 215 0 (if a = 4 then h.2.1 215 0 else -1)), h.2.2) t w g (1 : Int32) (by first | assumption | omega) (by simp only [pa_us_ne, ms_tk_ne, ms_dlv_ne, ne_eq, Nat.reduceEqDiff, not_false_eq_true]; exact hw) hw4 (by first | assumption | omega)) wv_X4_200 rfl rfl (by decide) (by decide) (pl_5 _) (Nat.le_of_ble_eq_true rfl) (by omega) (by omega) dX4_carries_173 ?_
                  refine pr_h (h1 := (h.1, (ms_tk (pa_us (pa_us (ms_dlv h.2.1 t) 225 t (h.2.1 200 0)) 215 0 (if a = 4 then h.2.1 215 0 else -1)) t w a g), h.2.2)) (Prod.ext rfl (Prod.ext ?_ rfl)) (jT (by simp [c_120, c_128, c_141, eq_false c_161]))
                  simp [-Int32.not_le, -Int32.not_lt, ms_tk, ms_tkb, pa_us_ne, ms_dlv_ne, c_120, c_128, c_141, eq_false c_161] <;> simp_all [ms_tkb]
            · refine pr_aload_n (pc := 131) C dX4_carries_131 rfl ?_
              refine pr_geta (pc := 132) C 224 324 wf_X4_65 rfl rfl (by decide) (pl_5 _) dX4_carries_132 ?_
              refine pr_iload_n (pc := 135) C dX4_carries_135 rfl ?_
              refine pr_iconst (pc := 136) (v := 3) C dX4_carries_136 (by decide) ?_
              refine pr_astm (pc := 137) (n := 100) C 224 t rfl (by decide) rfl rfl (pl_r5 (by decide)) rfl (by omega) (by decide) dX4_carries_137 ?_
              exact pr_vret (pc := 138) C E (by omega) (by omega) ⟨rfl, by simp [-Int32.not_le, -Int32.not_lt, pz_b, pz_lt, ms_carN, ms_does, ms_pre, c_38, c_53, c_120, c_128]⟩ dX4_carries_138
        refine pr_iload_n (pc := 96) C dX4_carries_96 rfl ?_
        refine pr_iconst (pc := 97) (v := 1) C dX4_carries_97 (by decide) ?_
        refine pr_icmp_gtN (pc := 98) C 115 a 1 dX4_carries_98 (by decide) rfl rfl (by omega) (by omega) (fun c_98 => ?_) (fun c_98 => ?_)
        · refine pr_iconst (pc := 115) (v := 0) C dX4_carries_115 (by decide) ?_
          exact pr_eqi (show (0 : Int32) = (pz_b (ms_tkb h.2.1 t a)) from (by by_cases z : a ≤ 1 <;> first | exact absurd z (by omega) | simp [-Int32.not_le, -Int32.not_lt, pz_b, pz_lt, ms_tkb, z, c_38, c_53, c_98])) j116_2
        · refine pr_aload_n (pc := 101) C dX4_carries_101 rfl ?_
          refine pr_geta (pc := 102) C 223 323 wf_X4_62 rfl rfl (by decide) (pl_5 _) dX4_carries_102 ?_
          refine pr_iload_n (pc := 105) C dX4_carries_105 rfl ?_
          refine pr_aldm (pc := 106) (n := 100) C 223 t rfl rfl rfl (pl_r5 (by decide)) rfl (by omega) (by decide) dX4_carries_106 ?_
          refine pr_eqi (v := h.2.1 223 t) (by simp only [pa_us_ne, pa_us_self, ms_dlv_ne, ms_eq_ne, ms_com_ne, ms_says_ne, ms_right_ne, ne_eq, Nat.reduceEqDiff, not_false_eq_true, reduceCtorEq]) ?_
          refine pr_iconst (pc := 107) (v := -1) C dX4_carries_107 (by decide) ?_
          refine pr_icmp_eq (pc := 108) C 115 dX4_carries_108 (by decide) (fun c_108 => ?_) (fun c_108 => ?_)
          · refine pr_iconst (pc := 115) (v := 0) C dX4_carries_115 (by decide) ?_
            exact pr_eqi (show (0 : Int32) = (pz_b (ms_tkb h.2.1 t a)) from (by by_cases z : a ≤ 1 <;> first | exact absurd z (by omega) | simp [-Int32.not_le, -Int32.not_lt, pz_b, pz_lt, ms_tkb, z, c_38, c_53, c_98, eq_true c_108])) j116_2
          · refine pr_iconst (pc := 111) (v := 1) C dX4_carries_111 (by decide) ?_
            refine pr_goto (pc := 112) C 116 dX4_carries_112 (by decide) ?_
            exact pr_eqi (show (1 : Int32) = (pz_b (ms_tkb h.2.1 t a)) from (by by_cases z : a ≤ 1 <;> first | exact absurd z (by omega) | simp [-Int32.not_le, -Int32.not_lt, pz_b, pz_lt, ms_tkb, z, c_38, c_53, c_98, eq_false c_108])) j116_2
      refine pr_iload_n (pc := 80) C dX4_carries_80 rfl ?_
      refine pr_iconst (pc := 81) (v := 4) C dX4_carries_81 (by decide) ?_
      refine pr_icmp_neN (pc := 82) C 92 a 4 dX4_carries_82 (by decide) rfl rfl (by omega) (by omega) (fun c_82 => ?_) (fun c_82 => ?_)
      · refine pr_iconst (pc := 92) (v := -1) C dX4_carries_92 (by decide) ?_
        exact pr_eqi (show (-1 : Int32) = (if a = 4 then h.2.1 215 0 else -1) from (by simp [-Int32.not_le, -Int32.not_lt, pz_b, pz_lt, c_38, c_53, eq_false c_82])) j93_1
      · refine pr_aload_n (pc := 85) C dX4_carries_85 rfl ?_
        refine pr_getm (pc := 86) C 215 wf_X4_95 rfl (by decide) (pl_5 _) dX4_carries_86 ?_
        refine pr_eqi (v := h.2.1 215 0) (by simp only [pa_us_ne, pa_us_self, ms_dlv_ne, ms_eq_ne, ms_com_ne, ms_says_ne, ms_right_ne, ne_eq, Nat.reduceEqDiff, not_false_eq_true, reduceCtorEq]) ?_
        refine pr_goto (pc := 89) C 93 dX4_carries_89 (by decide) ?_
        exact pr_eqi (show (h.2.1 215 0) = (if a = 4 then h.2.1 215 0 else -1) from (by simp [-Int32.not_le, -Int32.not_lt, pz_b, pz_lt, c_38, c_53, eq_true c_82])) j93_1
    · refine pr_aload_n (pc := 56) C dX4_carries_56 rfl ?_
      refine pr_geta (pc := 57) C 224 324 wf_X4_65 rfl rfl (by decide) (pl_5 _) dX4_carries_57 ?_
      refine pr_iload_n (pc := 60) C dX4_carries_60 rfl ?_
      refine pr_iconst (pc := 61) (v := 4) C dX4_carries_61 (by decide) ?_
      refine pr_astm (pc := 62) (n := 100) C 224 t rfl (by decide) rfl rfl (pl_r5 (by decide)) rfl (by omega) (by decide) dX4_carries_62 ?_
      exact pr_vret (pc := 63) C E (by omega) (by omega) ⟨rfl, by simp [-Int32.not_le, -Int32.not_lt, pz_b, pz_lt, ms_carN, ms_does, ms_pre, c_38, c_53]⟩ dX4_carries_63

