/-! THE LAW'S OWN METHODS: what they answer -/
abbrev mL_power : pa_Y := (yL_power, cL_power, 5, some .int)
abbrev hL_power : List (Nat × Nat × Nat × Nat) := [(0, 10, 13, 13), (0, 10, 17, 15)]
set_option maxRecDepth 100000 in
theorem l_powerY (G : pa_G) (l : Launch) (K : Nat → Nat → Nat → Int32) (Sm : Nat → Nat → Int32) (N : Nat → Nat) (O : Nat → Int64) {d' mc' ms' : Nat} {al' : Bool} (a0 a1 : Int32) {post0 : Option pa_V → pa_H → Prop} {P : Int32 → (Nat → Nat → Nat → Int32) → (Nat → Nat) → Prop} (hM : pa_M G l mX3_power d' al' [pv_o 4 0, pv_i a0, pv_i a1] (K, Sm, N, O) mc' ms' post0) (hpost : ∀ r h', post0 r h' → ∃ v K' N', r = some (pv_i v) ∧ h' = (K', Sm, N', O) ∧ P v K' N') : pa_LM G l mL_power hL_power (d' + 1) true [pv_o 4 0, pv_i a0, pv_i a1, pv_o 9 0] (K, Sm, N, O) mc' ms' (fun r h' => r = some (pv_i 0) ∧ ∃ v K' N', h' = (K', Sm, N', pa_uo O v.toInt64) ∧ P v K' N') := by
  refine pa_goL l (by decide) (by simp [pa_c1l, pa_c1]) (fun _ => rfl) fun x C E XT el e0 ea => ?_
  subst el
  show pa_w G x 5 (K, Sm, N, O) 0 0 0 [some (pv_o 4 0), some (pv_i a0), some (pv_i a1), some (pv_o 9 0), none] []
  refine pr_aload_n (pc := 0) C dL_power_0 rfl ?_
  refine pr_iconst (pc := 1) (v := 0) C dL_power_1 (by decide) ?_
  refine pr_aload_n (pc := 2) C dL_power_2 rfl ?_
  refine pr_iload_n (pc := 3) C dL_power_3 rfl ?_
  refine pr_iload_n (pc := 4) C dL_power_4 rfl ?_
  refine pr_callV0 (pc := 5) (mc' := mc') (ms' := ms') (y := mX3_power) (rest := [pv_i 0, pv_o 9 0]) (As := [pv_i a0, pv_i a1]) C hM wv_L_7 rfl (Nat.le_refl _) (by decide) (pl_4 _) (by decide) (by omega) (by omega) (fun zz => absurd (ea.symm.trans zz) (by decide)) (fun _ => ⟨⟨trivial, ⟨lr_kn (by decide), pa_lv9⟩, trivial⟩, ⟨⟨lr_kn (by decide), (pl_4 _)⟩, trivial, trivial, ⟨lr_kn (by decide), pa_lv9⟩, trivial⟩⟩) dL_power_5 (fun r h9 hp9 => ?_)
  obtain ⟨v, K', N', rfl, rfl, hP⟩ := hpost r h9 hp9
  show pa_w G x 5 (K', Sm, N', O) (0 + mc') (0 + ms') 8 [some (pv_o 4 0), some (pv_i a0), some (pv_i a1), some (pv_o 9 0), none] [pv_i v, pv_i 0, pv_o 9 0]
  refine pr_i2l (pc := 8) C dL_power_8 ?_
  refine pr_last9 (pc := 9) C rfl dL_power_9 ?_
  refine pr_goto (pc := 10) C 21 dL_power_10 (by decide) ?_
  refine pr_iconst (pc := 21) (v := 0) C dL_power_21 (by decide) ?_
  exact pr_iret (pc := 22) C E (Or.inl rfl) (by omega) (by omega) ⟨rfl, v, K', N', rfl, hP⟩ dL_power_22
set_option maxRecDepth 100000 in
theorem l_powerX1 (G : pa_G) (l : Launch) (K : Nat → Nat → Nat → Int32) (Sm : Nat → Nat → Int32) (N : Nat → Nat) (O : Nat → Int64) {d' mc' ms' : Nat} {al' : Bool} (a0 a1 : Int32) (hM : pa_MT G l mX3_power d' [pv_o 4 0, pv_i a0, pv_i a1] (K, Sm, N, O) mc' ms' px_I) : pa_LM G l mL_power hL_power (d' + 1) true [pv_o 4 0, pv_i a0, pv_i a1, pv_o 9 0] (K, Sm, N, O) mc' ms' (fun r h' => r = some (pv_i 1) ∧ h' = (K, Sm, N, O)) := by
  refine pa_goL l (by decide) (by simp [pa_c1l, pa_c1]) (fun _ => rfl) fun x C E XT el e0 ea => ?_
  subst el
  show pa_w G x 5 (K, Sm, N, O) 0 0 0 [some (pv_o 4 0), some (pv_i a0), some (pv_i a1), some (pv_o 9 0), none] []
  refine pr_aload_n (pc := 0) C dL_power_0 rfl ?_
  refine pr_iconst (pc := 1) (v := 0) C dL_power_1 (by decide) ?_
  refine pr_aload_n (pc := 2) C dL_power_2 rfl ?_
  refine pr_iload_n (pc := 3) C dL_power_3 rfl ?_
  refine pr_iload_n (pc := 4) C dL_power_4 rfl ?_
  exact pr_catch (pc := 5) (rest := [pv_i 0, pv_o 9 0]) (As := [pv_i a0, pv_i a1]) (cls := "java/lang/IndexOutOfBoundsException") C E XT ea hM (fun _ q => q) wv_L_7 rfl rfl (Nat.le_refl _) (by decide) (pl_4 _) (by decide) (by omega) (by omega) (by omega) (by omega) [] [(0, 10, 17, 15)] (q1 := 0) (q2 := 10) (hpc := 13) (ct := 13) rfl (fun z hz => by cases hz) (by decide) (by decide) (pa_wi (by decide +kernel) rfl) (by decide +kernel) (j := 1) (kL := 4) (w := 2) (by decide) (Or.inl ⟨dL_power_13, rfl⟩) (nj := 1) (by decide) dL_power_15 dL_power_16 ⟨rfl, rfl⟩ dL_power_5
set_option maxRecDepth 100000 in
theorem l_powerX2 (G : pa_G) (l : Launch) (K : Nat → Nat → Nat → Int32) (Sm : Nat → Nat → Int32) (N : Nat → Nat) (O : Nat → Int64) {d' mc' ms' : Nat} {al' : Bool} (a0 a1 : Int32) (hM : pa_MT G l mX3_power d' [pv_o 4 0, pv_i a0, pv_i a1] (K, Sm, N, O) mc' ms' px_A) : pa_LM G l mL_power hL_power (d' + 1) true [pv_o 4 0, pv_i a0, pv_i a1, pv_o 9 0] (K, Sm, N, O) mc' ms' (fun r h' => r = some (pv_i 2) ∧ h' = (K, Sm, N, O)) := by
  refine pa_goL l (by decide) (by simp [pa_c1l, pa_c1]) (fun _ => rfl) fun x C E XT el e0 ea => ?_
  subst el
  show pa_w G x 5 (K, Sm, N, O) 0 0 0 [some (pv_o 4 0), some (pv_i a0), some (pv_i a1), some (pv_o 9 0), none] []
  refine pr_aload_n (pc := 0) C dL_power_0 rfl ?_
  refine pr_iconst (pc := 1) (v := 0) C dL_power_1 (by decide) ?_
  refine pr_aload_n (pc := 2) C dL_power_2 rfl ?_
  refine pr_iload_n (pc := 3) C dL_power_3 rfl ?_
  refine pr_iload_n (pc := 4) C dL_power_4 rfl ?_
  exact pr_catch (pc := 5) (rest := [pv_i 0, pv_o 9 0]) (As := [pv_i a0, pv_i a1]) (cls := "java/lang/IllegalArgumentException") C E XT ea hM (fun _ q => q) wv_L_7 rfl rfl (Nat.le_refl _) (by decide) (pl_4 _) (by decide) (by omega) (by omega) (by omega) (by omega) [(0, 10, 13, 13)] [] (q1 := 0) (q2 := 10) (hpc := 17) (ct := 15) rfl (fun z hz => by
      simp only [List.mem_cons, List.not_mem_nil, or_false] at hz
      subst hz
      exact ⟨by decide, "java/lang/IndexOutOfBoundsException", pa_wi (by decide +kernel) rfl, by decide +kernel⟩) (by decide) (by decide) (pa_wi (by decide +kernel) rfl) (by decide +kernel) (j := 2) (kL := 4) (w := 2) (by decide) (Or.inl ⟨dL_power_17, rfl⟩) (nj := 2) (by decide) dL_power_19 dL_power_20 ⟨rfl, rfl⟩ dL_power_5
abbrev mL_knows : pa_Y := (yL_knows, cL_knows, 7, some .int)
abbrev hL_knows : List (Nat × Nat × Nat × Nat) := [(0, 14, 17, 13), (0, 14, 21, 15)]
set_option maxRecDepth 100000 in
theorem l_knowsY (G : pa_G) (l : Launch) (K : Nat → Nat → Nat → Int32) (Sm : Nat → Nat → Int32) (N : Nat → Nat) (O : Nat → Int64) {d' mc' ms' : Nat} {al' : Bool} (a0 a1 a2 a3 : Int32) {post0 : Option pa_V → pa_H → Prop} {P : Int32 → (Nat → Nat → Nat → Int32) → (Nat → Nat) → Prop} (hM : pa_M G l mX3_knows d' al' [pv_o 4 0, pv_i a0, pv_i a1, pv_i a2, pv_i a3] (K, Sm, N, O) mc' ms' post0) (hpost : ∀ r h', post0 r h' → ∃ v K' N', r = some (pv_i v) ∧ h' = (K', Sm, N', O) ∧ P v K' N') : pa_LM G l mL_knows hL_knows (d' + 1) true [pv_o 4 0, pv_i a0, pv_i a1, pv_i a2, pv_i a3, pv_o 9 0] (K, Sm, N, O) mc' ms' (fun r h' => r = some (pv_i 0) ∧ ∃ v K' N', h' = (K', Sm, N', pa_uo O v.toInt64) ∧ P v K' N') := by
  refine pa_goL l (by decide) (by simp [pa_c1l, pa_c1]) (fun _ => rfl) fun x C E XT el e0 ea => ?_
  subst el
  show pa_w G x 7 (K, Sm, N, O) 0 0 0 [some (pv_o 4 0), some (pv_i a0), some (pv_i a1), some (pv_i a2), some (pv_i a3), some (pv_o 9 0), none] []
  refine pr_aload (pc := 0) C dL_knows_0 rfl ?_
  refine pr_iconst (pc := 2) (v := 0) C dL_knows_2 (by decide) ?_
  refine pr_aload_n (pc := 3) C dL_knows_3 rfl ?_
  refine pr_iload_n (pc := 4) C dL_knows_4 rfl ?_
  refine pr_iload_n (pc := 5) C dL_knows_5 rfl ?_
  refine pr_iload_n (pc := 6) C dL_knows_6 rfl ?_
  refine pr_iload (pc := 7) C dL_knows_7 rfl ?_
  refine pr_callV0 (pc := 9) (mc' := mc') (ms' := ms') (y := mX3_knows) (rest := [pv_i 0, pv_o 9 0]) (As := [pv_i a0, pv_i a1, pv_i a2, pv_i a3]) C hM wv_L_17 rfl (Nat.le_refl _) (by decide) (pl_4 _) (by decide) (by omega) (by omega) (fun zz => absurd (ea.symm.trans zz) (by decide)) (fun _ => ⟨⟨trivial, ⟨lr_kn (by decide), pa_lv9⟩, trivial⟩, ⟨⟨lr_kn (by decide), (pl_4 _)⟩, trivial, trivial, trivial, trivial, ⟨lr_kn (by decide), pa_lv9⟩, trivial⟩⟩) dL_knows_9 (fun r h9 hp9 => ?_)
  obtain ⟨v, K', N', rfl, rfl, hP⟩ := hpost r h9 hp9
  show pa_w G x 7 (K', Sm, N', O) (0 + mc') (0 + ms') 12 [some (pv_o 4 0), some (pv_i a0), some (pv_i a1), some (pv_i a2), some (pv_i a3), some (pv_o 9 0), none] [pv_i v, pv_i 0, pv_o 9 0]
  refine pr_i2l (pc := 12) C dL_knows_12 ?_
  refine pr_last9 (pc := 13) C rfl dL_knows_13 ?_
  refine pr_goto (pc := 14) C 25 dL_knows_14 (by decide) ?_
  refine pr_iconst (pc := 25) (v := 0) C dL_knows_25 (by decide) ?_
  exact pr_iret (pc := 26) C E (Or.inl rfl) (by omega) (by omega) ⟨rfl, v, K', N', rfl, hP⟩ dL_knows_26
set_option maxRecDepth 100000 in
theorem l_knowsX1 (G : pa_G) (l : Launch) (K : Nat → Nat → Nat → Int32) (Sm : Nat → Nat → Int32) (N : Nat → Nat) (O : Nat → Int64) {d' mc' ms' : Nat} {al' : Bool} (a0 a1 a2 a3 : Int32) (hM : pa_MT G l mX3_knows d' [pv_o 4 0, pv_i a0, pv_i a1, pv_i a2, pv_i a3] (K, Sm, N, O) mc' ms' px_I) : pa_LM G l mL_knows hL_knows (d' + 1) true [pv_o 4 0, pv_i a0, pv_i a1, pv_i a2, pv_i a3, pv_o 9 0] (K, Sm, N, O) mc' ms' (fun r h' => r = some (pv_i 1) ∧ h' = (K, Sm, N, O)) := by
  refine pa_goL l (by decide) (by simp [pa_c1l, pa_c1]) (fun _ => rfl) fun x C E XT el e0 ea => ?_
  subst el
  show pa_w G x 7 (K, Sm, N, O) 0 0 0 [some (pv_o 4 0), some (pv_i a0), some (pv_i a1), some (pv_i a2), some (pv_i a3), some (pv_o 9 0), none] []
  refine pr_aload (pc := 0) C dL_knows_0 rfl ?_
  refine pr_iconst (pc := 2) (v := 0) C dL_knows_2 (by decide) ?_
  refine pr_aload_n (pc := 3) C dL_knows_3 rfl ?_
  refine pr_iload_n (pc := 4) C dL_knows_4 rfl ?_
  refine pr_iload_n (pc := 5) C dL_knows_5 rfl ?_
  refine pr_iload_n (pc := 6) C dL_knows_6 rfl ?_
  refine pr_iload (pc := 7) C dL_knows_7 rfl ?_
  exact pr_catch (pc := 9) (rest := [pv_i 0, pv_o 9 0]) (As := [pv_i a0, pv_i a1, pv_i a2, pv_i a3]) (cls := "java/lang/IndexOutOfBoundsException") C E XT ea hM (fun _ q => q) wv_L_17 rfl rfl (Nat.le_refl _) (by decide) (pl_4 _) (by decide) (by omega) (by omega) (by omega) (by omega) [] [(0, 14, 21, 15)] (q1 := 0) (q2 := 14) (hpc := 17) (ct := 13) rfl (fun z hz => by cases hz) (by decide) (by decide) (pa_wi (by decide +kernel) rfl) (by decide +kernel) (j := 1) (kL := 6) (w := 2) (by decide) (Or.inl ⟨dL_knows_17, rfl⟩) (nj := 1) (by decide) dL_knows_19 dL_knows_20 ⟨rfl, rfl⟩ dL_knows_9
set_option maxRecDepth 100000 in
theorem l_knowsX2 (G : pa_G) (l : Launch) (K : Nat → Nat → Nat → Int32) (Sm : Nat → Nat → Int32) (N : Nat → Nat) (O : Nat → Int64) {d' mc' ms' : Nat} {al' : Bool} (a0 a1 a2 a3 : Int32) (hM : pa_MT G l mX3_knows d' [pv_o 4 0, pv_i a0, pv_i a1, pv_i a2, pv_i a3] (K, Sm, N, O) mc' ms' px_A) : pa_LM G l mL_knows hL_knows (d' + 1) true [pv_o 4 0, pv_i a0, pv_i a1, pv_i a2, pv_i a3, pv_o 9 0] (K, Sm, N, O) mc' ms' (fun r h' => r = some (pv_i 2) ∧ h' = (K, Sm, N, O)) := by
  refine pa_goL l (by decide) (by simp [pa_c1l, pa_c1]) (fun _ => rfl) fun x C E XT el e0 ea => ?_
  subst el
  show pa_w G x 7 (K, Sm, N, O) 0 0 0 [some (pv_o 4 0), some (pv_i a0), some (pv_i a1), some (pv_i a2), some (pv_i a3), some (pv_o 9 0), none] []
  refine pr_aload (pc := 0) C dL_knows_0 rfl ?_
  refine pr_iconst (pc := 2) (v := 0) C dL_knows_2 (by decide) ?_
  refine pr_aload_n (pc := 3) C dL_knows_3 rfl ?_
  refine pr_iload_n (pc := 4) C dL_knows_4 rfl ?_
  refine pr_iload_n (pc := 5) C dL_knows_5 rfl ?_
  refine pr_iload_n (pc := 6) C dL_knows_6 rfl ?_
  refine pr_iload (pc := 7) C dL_knows_7 rfl ?_
  exact pr_catch (pc := 9) (rest := [pv_i 0, pv_o 9 0]) (As := [pv_i a0, pv_i a1, pv_i a2, pv_i a3]) (cls := "java/lang/IllegalArgumentException") C E XT ea hM (fun _ q => q) wv_L_17 rfl rfl (Nat.le_refl _) (by decide) (pl_4 _) (by decide) (by omega) (by omega) (by omega) (by omega) [(0, 14, 17, 13)] [] (q1 := 0) (q2 := 14) (hpc := 21) (ct := 15) rfl (fun z hz => by
      simp only [List.mem_cons, List.not_mem_nil, or_false] at hz
      subst hz
      exact ⟨by decide, "java/lang/IndexOutOfBoundsException", pa_wi (by decide +kernel) rfl, by decide +kernel⟩) (by decide) (by decide) (pa_wi (by decide +kernel) rfl) (by decide +kernel) (j := 2) (kL := 6) (w := 2) (by decide) (Or.inl ⟨dL_knows_21, rfl⟩) (nj := 2) (by decide) dL_knows_23 dL_knows_24 ⟨rfl, rfl⟩ dL_knows_9
abbrev mL_believe : pa_Y := (yL_believe, cL_believe, 6, some .int)
abbrev hL_believe : List (Nat × Nat × Nat × Nat) := [(0, 12, 15, 13), (0, 12, 19, 15)]
set_option maxRecDepth 100000 in
theorem l_believeY (G : pa_G) (l : Launch) (K : Nat → Nat → Nat → Int32) (Sm : Nat → Nat → Int32) (N : Nat → Nat) (O : Nat → Int64) {d' mc' ms' : Nat} {al' : Bool} (a0 a1 a2 : Int32) {post0 : Option pa_V → pa_H → Prop} {P : Int32 → (Nat → Nat → Nat → Int32) → (Nat → Nat) → Prop} (hM : pa_M G l mX3_believe d' al' [pv_o 4 0, pv_i a0, pv_i a1, pv_i a2] (K, Sm, N, O) mc' ms' post0) (hpost : ∀ r h', post0 r h' → ∃ v K' N', r = some (pv_i v) ∧ h' = (K', Sm, N', O) ∧ P v K' N') : pa_LM G l mL_believe hL_believe (d' + 1) true [pv_o 4 0, pv_i a0, pv_i a1, pv_i a2, pv_o 9 0] (K, Sm, N, O) mc' ms' (fun r h' => r = some (pv_i 0) ∧ ∃ v K' N', h' = (K', Sm, N', pa_uo O v.toInt64) ∧ P v K' N') := by
  refine pa_goL l (by decide) (by simp [pa_c1l, pa_c1]) (fun _ => rfl) fun x C E XT el e0 ea => ?_
  subst el
  show pa_w G x 6 (K, Sm, N, O) 0 0 0 [some (pv_o 4 0), some (pv_i a0), some (pv_i a1), some (pv_i a2), some (pv_o 9 0), none] []
  refine pr_aload (pc := 0) C dL_believe_0 rfl ?_
  refine pr_iconst (pc := 2) (v := 0) C dL_believe_2 (by decide) ?_
  refine pr_aload_n (pc := 3) C dL_believe_3 rfl ?_
  refine pr_iload_n (pc := 4) C dL_believe_4 rfl ?_
  refine pr_iload_n (pc := 5) C dL_believe_5 rfl ?_
  refine pr_iload_n (pc := 6) C dL_believe_6 rfl ?_
  refine pr_callV0 (pc := 7) (mc' := mc') (ms' := ms') (y := mX3_believe) (rest := [pv_i 0, pv_o 9 0]) (As := [pv_i a0, pv_i a1, pv_i a2]) C hM wv_L_21 rfl (Nat.le_refl _) (by decide) (pl_4 _) (by decide) (by omega) (by omega) (fun zz => absurd (ea.symm.trans zz) (by decide)) (fun _ => ⟨⟨trivial, ⟨lr_kn (by decide), pa_lv9⟩, trivial⟩, ⟨⟨lr_kn (by decide), (pl_4 _)⟩, trivial, trivial, trivial, ⟨lr_kn (by decide), pa_lv9⟩, trivial⟩⟩) dL_believe_7 (fun r h9 hp9 => ?_)
  obtain ⟨v, K', N', rfl, rfl, hP⟩ := hpost r h9 hp9
  show pa_w G x 6 (K', Sm, N', O) (0 + mc') (0 + ms') 10 [some (pv_o 4 0), some (pv_i a0), some (pv_i a1), some (pv_i a2), some (pv_o 9 0), none] [pv_i v, pv_i 0, pv_o 9 0]
  refine pr_i2l (pc := 10) C dL_believe_10 ?_
  refine pr_last9 (pc := 11) C rfl dL_believe_11 ?_
  refine pr_goto (pc := 12) C 23 dL_believe_12 (by decide) ?_
  refine pr_iconst (pc := 23) (v := 0) C dL_believe_23 (by decide) ?_
  exact pr_iret (pc := 24) C E (Or.inl rfl) (by omega) (by omega) ⟨rfl, v, K', N', rfl, hP⟩ dL_believe_24
set_option maxRecDepth 100000 in
theorem l_believeX1 (G : pa_G) (l : Launch) (K : Nat → Nat → Nat → Int32) (Sm : Nat → Nat → Int32) (N : Nat → Nat) (O : Nat → Int64) {d' mc' ms' : Nat} {al' : Bool} (a0 a1 a2 : Int32) (hM : pa_MT G l mX3_believe d' [pv_o 4 0, pv_i a0, pv_i a1, pv_i a2] (K, Sm, N, O) mc' ms' px_I) : pa_LM G l mL_believe hL_believe (d' + 1) true [pv_o 4 0, pv_i a0, pv_i a1, pv_i a2, pv_o 9 0] (K, Sm, N, O) mc' ms' (fun r h' => r = some (pv_i 1) ∧ h' = (K, Sm, N, O)) := by
  refine pa_goL l (by decide) (by simp [pa_c1l, pa_c1]) (fun _ => rfl) fun x C E XT el e0 ea => ?_
  subst el
  show pa_w G x 6 (K, Sm, N, O) 0 0 0 [some (pv_o 4 0), some (pv_i a0), some (pv_i a1), some (pv_i a2), some (pv_o 9 0), none] []
  refine pr_aload (pc := 0) C dL_believe_0 rfl ?_
  refine pr_iconst (pc := 2) (v := 0) C dL_believe_2 (by decide) ?_
  refine pr_aload_n (pc := 3) C dL_believe_3 rfl ?_
  refine pr_iload_n (pc := 4) C dL_believe_4 rfl ?_
  refine pr_iload_n (pc := 5) C dL_believe_5 rfl ?_
  refine pr_iload_n (pc := 6) C dL_believe_6 rfl ?_
  exact pr_catch (pc := 7) (rest := [pv_i 0, pv_o 9 0]) (As := [pv_i a0, pv_i a1, pv_i a2]) (cls := "java/lang/IndexOutOfBoundsException") C E XT ea hM (fun _ q => q) wv_L_21 rfl rfl (Nat.le_refl _) (by decide) (pl_4 _) (by decide) (by omega) (by omega) (by omega) (by omega) [] [(0, 12, 19, 15)] (q1 := 0) (q2 := 12) (hpc := 15) (ct := 13) rfl (fun z hz => by cases hz) (by decide) (by decide) (pa_wi (by decide +kernel) rfl) (by decide +kernel) (j := 1) (kL := 5) (w := 2) (by decide) (Or.inl ⟨dL_believe_15, rfl⟩) (nj := 1) (by decide) dL_believe_17 dL_believe_18 ⟨rfl, rfl⟩ dL_believe_7
set_option maxRecDepth 100000 in
theorem l_believeX2 (G : pa_G) (l : Launch) (K : Nat → Nat → Nat → Int32) (Sm : Nat → Nat → Int32) (N : Nat → Nat) (O : Nat → Int64) {d' mc' ms' : Nat} {al' : Bool} (a0 a1 a2 : Int32) (hM : pa_MT G l mX3_believe d' [pv_o 4 0, pv_i a0, pv_i a1, pv_i a2] (K, Sm, N, O) mc' ms' px_A) : pa_LM G l mL_believe hL_believe (d' + 1) true [pv_o 4 0, pv_i a0, pv_i a1, pv_i a2, pv_o 9 0] (K, Sm, N, O) mc' ms' (fun r h' => r = some (pv_i 2) ∧ h' = (K, Sm, N, O)) := by
  refine pa_goL l (by decide) (by simp [pa_c1l, pa_c1]) (fun _ => rfl) fun x C E XT el e0 ea => ?_
  subst el
  show pa_w G x 6 (K, Sm, N, O) 0 0 0 [some (pv_o 4 0), some (pv_i a0), some (pv_i a1), some (pv_i a2), some (pv_o 9 0), none] []
  refine pr_aload (pc := 0) C dL_believe_0 rfl ?_
  refine pr_iconst (pc := 2) (v := 0) C dL_believe_2 (by decide) ?_
  refine pr_aload_n (pc := 3) C dL_believe_3 rfl ?_
  refine pr_iload_n (pc := 4) C dL_believe_4 rfl ?_
  refine pr_iload_n (pc := 5) C dL_believe_5 rfl ?_
  refine pr_iload_n (pc := 6) C dL_believe_6 rfl ?_
  exact pr_catch (pc := 7) (rest := [pv_i 0, pv_o 9 0]) (As := [pv_i a0, pv_i a1, pv_i a2]) (cls := "java/lang/IllegalArgumentException") C E XT ea hM (fun _ q => q) wv_L_21 rfl rfl (Nat.le_refl _) (by decide) (pl_4 _) (by decide) (by omega) (by omega) (by omega) (by omega) [(0, 12, 15, 13)] [] (q1 := 0) (q2 := 12) (hpc := 19) (ct := 15) rfl (fun z hz => by
      simp only [List.mem_cons, List.not_mem_nil, or_false] at hz
      subst hz
      exact ⟨by decide, "java/lang/IndexOutOfBoundsException", pa_wi (by decide +kernel) rfl, by decide +kernel⟩) (by decide) (by decide) (pa_wi (by decide +kernel) rfl) (by decide +kernel) (j := 2) (kL := 5) (w := 2) (by decide) (Or.inl ⟨dL_believe_19, rfl⟩) (nj := 2) (by decide) dL_believe_21 dL_believe_22 ⟨rfl, rfl⟩ dL_believe_7
abbrev mL_deafen : pa_Y := (yL_deafen, cL_deafen, 5, some .int)
abbrev hL_deafen : List (Nat × Nat × Nat × Nat) := [(0, 10, 13, 13), (0, 10, 17, 15)]
set_option maxRecDepth 100000 in
theorem l_deafenY (G : pa_G) (l : Launch) (K : Nat → Nat → Nat → Int32) (Sm : Nat → Nat → Int32) (N : Nat → Nat) (O : Nat → Int64) {d' mc' ms' : Nat} {al' : Bool} (a0 a1 : Int32) {post0 : Option pa_V → pa_H → Prop} {P : Int32 → (Nat → Nat → Nat → Int32) → (Nat → Nat) → Prop} (hM : pa_M G l mX3_deafen d' al' [pv_o 4 0, pv_i a0, pv_i a1] (K, Sm, N, O) mc' ms' post0) (hpost : ∀ r h', post0 r h' → ∃ v K' N', r = some (pv_i v) ∧ h' = (K', Sm, N', O) ∧ P v K' N') : pa_LM G l mL_deafen hL_deafen (d' + 1) true [pv_o 4 0, pv_i a0, pv_i a1, pv_o 9 0] (K, Sm, N, O) mc' ms' (fun r h' => r = some (pv_i 0) ∧ ∃ v K' N', h' = (K', Sm, N', pa_uo O v.toInt64) ∧ P v K' N') := by
  refine pa_goL l (by decide) (by simp [pa_c1l, pa_c1]) (fun _ => rfl) fun x C E XT el e0 ea => ?_
  subst el
  show pa_w G x 5 (K, Sm, N, O) 0 0 0 [some (pv_o 4 0), some (pv_i a0), some (pv_i a1), some (pv_o 9 0), none] []
  refine pr_aload_n (pc := 0) C dL_deafen_0 rfl ?_
  refine pr_iconst (pc := 1) (v := 0) C dL_deafen_1 (by decide) ?_
  refine pr_aload_n (pc := 2) C dL_deafen_2 rfl ?_
  refine pr_iload_n (pc := 3) C dL_deafen_3 rfl ?_
  refine pr_iload_n (pc := 4) C dL_deafen_4 rfl ?_
  refine pr_callV0 (pc := 5) (mc' := mc') (ms' := ms') (y := mX3_deafen) (rest := [pv_i 0, pv_o 9 0]) (As := [pv_i a0, pv_i a1]) C hM wv_L_25 rfl (Nat.le_refl _) (by decide) (pl_4 _) (by decide) (by omega) (by omega) (fun zz => absurd (ea.symm.trans zz) (by decide)) (fun _ => ⟨⟨trivial, ⟨lr_kn (by decide), pa_lv9⟩, trivial⟩, ⟨⟨lr_kn (by decide), (pl_4 _)⟩, trivial, trivial, ⟨lr_kn (by decide), pa_lv9⟩, trivial⟩⟩) dL_deafen_5 (fun r h9 hp9 => ?_)
  obtain ⟨v, K', N', rfl, rfl, hP⟩ := hpost r h9 hp9
  show pa_w G x 5 (K', Sm, N', O) (0 + mc') (0 + ms') 8 [some (pv_o 4 0), some (pv_i a0), some (pv_i a1), some (pv_o 9 0), none] [pv_i v, pv_i 0, pv_o 9 0]
  refine pr_i2l (pc := 8) C dL_deafen_8 ?_
  refine pr_last9 (pc := 9) C rfl dL_deafen_9 ?_
  refine pr_goto (pc := 10) C 21 dL_deafen_10 (by decide) ?_
  refine pr_iconst (pc := 21) (v := 0) C dL_deafen_21 (by decide) ?_
  exact pr_iret (pc := 22) C E (Or.inl rfl) (by omega) (by omega) ⟨rfl, v, K', N', rfl, hP⟩ dL_deafen_22
set_option maxRecDepth 100000 in
theorem l_deafenX1 (G : pa_G) (l : Launch) (K : Nat → Nat → Nat → Int32) (Sm : Nat → Nat → Int32) (N : Nat → Nat) (O : Nat → Int64) {d' mc' ms' : Nat} {al' : Bool} (a0 a1 : Int32) (hM : pa_MT G l mX3_deafen d' [pv_o 4 0, pv_i a0, pv_i a1] (K, Sm, N, O) mc' ms' px_I) : pa_LM G l mL_deafen hL_deafen (d' + 1) true [pv_o 4 0, pv_i a0, pv_i a1, pv_o 9 0] (K, Sm, N, O) mc' ms' (fun r h' => r = some (pv_i 1) ∧ h' = (K, Sm, N, O)) := by
  refine pa_goL l (by decide) (by simp [pa_c1l, pa_c1]) (fun _ => rfl) fun x C E XT el e0 ea => ?_
  subst el
  show pa_w G x 5 (K, Sm, N, O) 0 0 0 [some (pv_o 4 0), some (pv_i a0), some (pv_i a1), some (pv_o 9 0), none] []
  refine pr_aload_n (pc := 0) C dL_deafen_0 rfl ?_
  refine pr_iconst (pc := 1) (v := 0) C dL_deafen_1 (by decide) ?_
  refine pr_aload_n (pc := 2) C dL_deafen_2 rfl ?_
  refine pr_iload_n (pc := 3) C dL_deafen_3 rfl ?_
  refine pr_iload_n (pc := 4) C dL_deafen_4 rfl ?_
  exact pr_catch (pc := 5) (rest := [pv_i 0, pv_o 9 0]) (As := [pv_i a0, pv_i a1]) (cls := "java/lang/IndexOutOfBoundsException") C E XT ea hM (fun _ q => q) wv_L_25 rfl rfl (Nat.le_refl _) (by decide) (pl_4 _) (by decide) (by omega) (by omega) (by omega) (by omega) [] [(0, 10, 17, 15)] (q1 := 0) (q2 := 10) (hpc := 13) (ct := 13) rfl (fun z hz => by cases hz) (by decide) (by decide) (pa_wi (by decide +kernel) rfl) (by decide +kernel) (j := 1) (kL := 4) (w := 2) (by decide) (Or.inl ⟨dL_deafen_13, rfl⟩) (nj := 1) (by decide) dL_deafen_15 dL_deafen_16 ⟨rfl, rfl⟩ dL_deafen_5
set_option maxRecDepth 100000 in
theorem l_deafenX2 (G : pa_G) (l : Launch) (K : Nat → Nat → Nat → Int32) (Sm : Nat → Nat → Int32) (N : Nat → Nat) (O : Nat → Int64) {d' mc' ms' : Nat} {al' : Bool} (a0 a1 : Int32) (hM : pa_MT G l mX3_deafen d' [pv_o 4 0, pv_i a0, pv_i a1] (K, Sm, N, O) mc' ms' px_A) : pa_LM G l mL_deafen hL_deafen (d' + 1) true [pv_o 4 0, pv_i a0, pv_i a1, pv_o 9 0] (K, Sm, N, O) mc' ms' (fun r h' => r = some (pv_i 2) ∧ h' = (K, Sm, N, O)) := by
  refine pa_goL l (by decide) (by simp [pa_c1l, pa_c1]) (fun _ => rfl) fun x C E XT el e0 ea => ?_
  subst el
  show pa_w G x 5 (K, Sm, N, O) 0 0 0 [some (pv_o 4 0), some (pv_i a0), some (pv_i a1), some (pv_o 9 0), none] []
  refine pr_aload_n (pc := 0) C dL_deafen_0 rfl ?_
  refine pr_iconst (pc := 1) (v := 0) C dL_deafen_1 (by decide) ?_
  refine pr_aload_n (pc := 2) C dL_deafen_2 rfl ?_
  refine pr_iload_n (pc := 3) C dL_deafen_3 rfl ?_
  refine pr_iload_n (pc := 4) C dL_deafen_4 rfl ?_
  exact pr_catch (pc := 5) (rest := [pv_i 0, pv_o 9 0]) (As := [pv_i a0, pv_i a1]) (cls := "java/lang/IllegalArgumentException") C E XT ea hM (fun _ q => q) wv_L_25 rfl rfl (Nat.le_refl _) (by decide) (pl_4 _) (by decide) (by omega) (by omega) (by omega) (by omega) [(0, 10, 13, 13)] [] (q1 := 0) (q2 := 10) (hpc := 17) (ct := 15) rfl (fun z hz => by
      simp only [List.mem_cons, List.not_mem_nil, or_false] at hz
      subst hz
      exact ⟨by decide, "java/lang/IndexOutOfBoundsException", pa_wi (by decide +kernel) rfl, by decide +kernel⟩) (by decide) (by decide) (pa_wi (by decide +kernel) rfl) (by decide +kernel) (j := 2) (kL := 4) (w := 2) (by decide) (Or.inl ⟨dL_deafen_17, rfl⟩) (nj := 2) (by decide) dL_deafen_19 dL_deafen_20 ⟨rfl, rfl⟩ dL_deafen_5
abbrev mL_give : pa_Y := (yL_give, cL_give, 5, some .int)
abbrev hL_give : List (Nat × Nat × Nat × Nat) := [(0, 10, 13, 13)]
set_option maxRecDepth 100000 in
theorem l_giveY (G : pa_G) (l : Launch) (K : Nat → Nat → Nat → Int32) (Sm : Nat → Nat → Int32) (N : Nat → Nat) (O : Nat → Int64) {d' mc' ms' : Nat} {al' : Bool} (a0 a1 : Int32) {post0 : Option pa_V → pa_H → Prop} {P : Int32 → (Nat → Nat → Nat → Int32) → (Nat → Nat) → Prop} (hM : pa_M G l mX3_give d' al' [pv_o 4 0, pv_i a0, pv_i a1] (K, Sm, N, O) mc' ms' post0) (hpost : ∀ r h', post0 r h' → ∃ v K' N', r = some (pv_i v) ∧ h' = (K', Sm, N', O) ∧ P v K' N') : pa_LM G l mL_give hL_give (d' + 1) true [pv_o 4 0, pv_i a0, pv_i a1, pv_o 9 0] (K, Sm, N, O) mc' ms' (fun r h' => r = some (pv_i 0) ∧ ∃ v K' N', h' = (K', Sm, N', pa_uo O v.toInt64) ∧ P v K' N') := by
  refine pa_goL l (by decide) (by simp [pa_c1l, pa_c1]) (fun _ => rfl) fun x C E XT el e0 ea => ?_
  subst el
  show pa_w G x 5 (K, Sm, N, O) 0 0 0 [some (pv_o 4 0), some (pv_i a0), some (pv_i a1), some (pv_o 9 0), none] []
  refine pr_aload_n (pc := 0) C dL_give_0 rfl ?_
  refine pr_iconst (pc := 1) (v := 0) C dL_give_1 (by decide) ?_
  refine pr_aload_n (pc := 2) C dL_give_2 rfl ?_
  refine pr_iload_n (pc := 3) C dL_give_3 rfl ?_
  refine pr_iload_n (pc := 4) C dL_give_4 rfl ?_
  refine pr_callV0 (pc := 5) (mc' := mc') (ms' := ms') (y := mX3_give) (rest := [pv_i 0, pv_o 9 0]) (As := [pv_i a0, pv_i a1]) C hM wv_L_28 rfl (Nat.le_refl _) (by decide) (pl_4 _) (by decide) (by omega) (by omega) (fun zz => absurd (ea.symm.trans zz) (by decide)) (fun _ => ⟨⟨trivial, ⟨lr_kn (by decide), pa_lv9⟩, trivial⟩, ⟨⟨lr_kn (by decide), (pl_4 _)⟩, trivial, trivial, ⟨lr_kn (by decide), pa_lv9⟩, trivial⟩⟩) dL_give_5 (fun r h9 hp9 => ?_)
  obtain ⟨v, K', N', rfl, rfl, hP⟩ := hpost r h9 hp9
  show pa_w G x 5 (K', Sm, N', O) (0 + mc') (0 + ms') 8 [some (pv_o 4 0), some (pv_i a0), some (pv_i a1), some (pv_o 9 0), none] [pv_i v, pv_i 0, pv_o 9 0]
  refine pr_i2l (pc := 8) C dL_give_8 ?_
  refine pr_last9 (pc := 9) C rfl dL_give_9 ?_
  refine pr_goto (pc := 10) C 17 dL_give_10 (by decide) ?_
  refine pr_iconst (pc := 17) (v := 0) C dL_give_17 (by decide) ?_
  exact pr_iret (pc := 18) C E (Or.inl rfl) (by omega) (by omega) ⟨rfl, v, K', N', rfl, hP⟩ dL_give_18
set_option maxRecDepth 100000 in
theorem l_giveX1 (G : pa_G) (l : Launch) (K : Nat → Nat → Nat → Int32) (Sm : Nat → Nat → Int32) (N : Nat → Nat) (O : Nat → Int64) {d' mc' ms' : Nat} {al' : Bool} (a0 a1 : Int32) (hM : pa_MT G l mX3_give d' [pv_o 4 0, pv_i a0, pv_i a1] (K, Sm, N, O) mc' ms' px_I) : pa_LM G l mL_give hL_give (d' + 1) true [pv_o 4 0, pv_i a0, pv_i a1, pv_o 9 0] (K, Sm, N, O) mc' ms' (fun r h' => r = some (pv_i 1) ∧ h' = (K, Sm, N, O)) := by
  refine pa_goL l (by decide) (by simp [pa_c1l, pa_c1]) (fun _ => rfl) fun x C E XT el e0 ea => ?_
  subst el
  show pa_w G x 5 (K, Sm, N, O) 0 0 0 [some (pv_o 4 0), some (pv_i a0), some (pv_i a1), some (pv_o 9 0), none] []
  refine pr_aload_n (pc := 0) C dL_give_0 rfl ?_
  refine pr_iconst (pc := 1) (v := 0) C dL_give_1 (by decide) ?_
  refine pr_aload_n (pc := 2) C dL_give_2 rfl ?_
  refine pr_iload_n (pc := 3) C dL_give_3 rfl ?_
  refine pr_iload_n (pc := 4) C dL_give_4 rfl ?_
  exact pr_catch (pc := 5) (rest := [pv_i 0, pv_o 9 0]) (As := [pv_i a0, pv_i a1]) (cls := "java/lang/IndexOutOfBoundsException") C E XT ea hM (fun _ q => q) wv_L_28 rfl rfl (Nat.le_refl _) (by decide) (pl_4 _) (by decide) (by omega) (by omega) (by omega) (by omega) [] [] (q1 := 0) (q2 := 10) (hpc := 13) (ct := 13) rfl (fun z hz => by cases hz) (by decide) (by decide) (pa_wi (by decide +kernel) rfl) (by decide +kernel) (j := 1) (kL := 4) (w := 2) (by decide) (Or.inl ⟨dL_give_13, rfl⟩) (nj := 1) (by decide) dL_give_15 dL_give_16 ⟨rfl, rfl⟩ dL_give_5
abbrev mL_can : pa_Y := (yL_can, cL_can, 9, some .int)
abbrev hL_can : List (Nat × Nat × Nat × Nat) := [(0, 25, 28, 13), (0, 25, 32, 15)]
set_option maxRecDepth 100000 in
theorem l_canY (G : pa_G) (l : Launch) (K : Nat → Nat → Nat → Int32) (Sm : Nat → Nat → Int32) (N : Nat → Nat) (O : Nat → Int64) {d' mc' ms' : Nat} {al' : Bool} (a0 a1 a2 a3 a4 a5 : Int32) {post0 : Option pa_V → pa_H → Prop} {P : Int32 → (Nat → Nat → Nat → Int32) → (Nat → Nat) → Prop} (hM : pa_M G l mX3_can d' al' [pv_o 4 0, pv_i a0, pv_i a1, pv_i a2, pv_i a3, pv_i a4, pv_i a5] (K, Sm, N, O) mc' ms' post0) (hpost : ∀ r h', post0 r h' → ∃ v K' N', r = some (pv_i v) ∧ h' = (K', Sm, N', O) ∧ (v = 0 ∨ v = 1) ∧ P v K' N') : pa_LM G l mL_can hL_can (d' + 1) true [pv_o 4 0, pv_i a0, pv_i a1, pv_i a2, pv_i a3, pv_i a4, pv_i a5, pv_o 9 0] (K, Sm, N, O) mc' ms' (fun r h' => r = some (pv_i 0) ∧ ∃ v K' N', h' = (K', Sm, N', pa_uo O v.toInt64) ∧ P v K' N') := by
  refine pa_goL l (by decide) (by simp [pa_c1l, pa_c1]) (fun _ => rfl) fun x C E XT el e0 ea => ?_
  subst el
  show pa_w G x 9 (K, Sm, N, O) 0 0 0 [some (pv_o 4 0), some (pv_i a0), some (pv_i a1), some (pv_i a2), some (pv_i a3), some (pv_i a4), some (pv_i a5), some (pv_o 9 0), none] []
  refine pr_aload (pc := 0) C dL_can_0 rfl ?_
  refine pr_iconst (pc := 2) (v := 0) C dL_can_2 (by decide) ?_
  refine pr_aload_n (pc := 3) C dL_can_3 rfl ?_
  refine pr_iload_n (pc := 4) C dL_can_4 rfl ?_
  refine pr_iload_n (pc := 5) C dL_can_5 rfl ?_
  refine pr_iload_n (pc := 6) C dL_can_6 rfl ?_
  refine pr_iload (pc := 7) C dL_can_7 rfl ?_
  refine pr_iload (pc := 9) C dL_can_9 rfl ?_
  refine pr_iload (pc := 11) C dL_can_11 rfl ?_
  refine pr_callV0 (pc := 13) (mc' := mc') (ms' := ms') (y := mX3_can) (rest := [pv_i 0, pv_o 9 0]) (As := [pv_i a0, pv_i a1, pv_i a2, pv_i a3, pv_i a4, pv_i a5]) C hM wv_L_31 rfl (Nat.le_refl _) (by decide) (pl_4 _) (by decide) (by omega) (by omega) (fun zz => absurd (ea.symm.trans zz) (by decide)) (fun _ => ⟨⟨trivial, ⟨lr_kn (by decide), pa_lv9⟩, trivial⟩, ⟨⟨lr_kn (by decide), (pl_4 _)⟩, trivial, trivial, trivial, trivial, trivial, trivial, ⟨lr_kn (by decide), pa_lv9⟩, trivial⟩⟩) dL_can_13 (fun r h9 hp9 => ?_)
  obtain ⟨v, K', N', rfl, rfl, hv, hP⟩ := hpost r h9 hp9
  show pa_w G x 9 (K', Sm, N', O) (0 + mc') (0 + ms') 16 [some (pv_o 4 0), some (pv_i a0), some (pv_i a1), some (pv_i a2), some (pv_i a3), some (pv_i a4), some (pv_i a5), some (pv_o 9 0), none] [pv_i v, pv_i 0, pv_o 9 0]
  rcases hv with rfl | rfl
  · skip
    refine pr_if_eq (pc := 16) C 23 dL_can_16 (by decide) (fun _ => ?_) (fun cc9 => absurd rfl cc9)
    refine pr_lconst (pc := 23) (v := 0) C dL_can_23 (by decide) ?_
    refine pr_last9 (pc := 24) C rfl dL_can_24 ?_
    refine pr_goto (pc := 25) C 36 dL_can_25 (by decide) ?_
    refine pr_iconst (pc := 36) (v := 0) C dL_can_36 (by decide) ?_
    exact pr_iret (pc := 37) C E (Or.inl rfl) (by omega) (by omega) ⟨rfl, 0, K', N', rfl, hP⟩ dL_can_37
  · skip
    refine pr_if_eq (pc := 16) C 23 dL_can_16 (by decide) (fun cc9 => absurd cc9 (by decide)) (fun _ => ?_)
    refine pr_lconst (pc := 19) (v := 1) C dL_can_19 (by decide) ?_
    refine pr_goto (pc := 20) C 24 dL_can_20 (by decide) ?_
    refine pr_last9 (pc := 24) C rfl dL_can_24 ?_
    refine pr_goto (pc := 25) C 36 dL_can_25 (by decide) ?_
    refine pr_iconst (pc := 36) (v := 0) C dL_can_36 (by decide) ?_
    exact pr_iret (pc := 37) C E (Or.inl rfl) (by omega) (by omega) ⟨rfl, 1, K', N', rfl, hP⟩ dL_can_37
set_option maxRecDepth 100000 in
theorem l_canX1 (G : pa_G) (l : Launch) (K : Nat → Nat → Nat → Int32) (Sm : Nat → Nat → Int32) (N : Nat → Nat) (O : Nat → Int64) {d' mc' ms' : Nat} {al' : Bool} (a0 a1 a2 a3 a4 a5 : Int32) (hM : pa_MT G l mX3_can d' [pv_o 4 0, pv_i a0, pv_i a1, pv_i a2, pv_i a3, pv_i a4, pv_i a5] (K, Sm, N, O) mc' ms' px_I) : pa_LM G l mL_can hL_can (d' + 1) true [pv_o 4 0, pv_i a0, pv_i a1, pv_i a2, pv_i a3, pv_i a4, pv_i a5, pv_o 9 0] (K, Sm, N, O) mc' ms' (fun r h' => r = some (pv_i 1) ∧ h' = (K, Sm, N, O)) := by
  refine pa_goL l (by decide) (by simp [pa_c1l, pa_c1]) (fun _ => rfl) fun x C E XT el e0 ea => ?_
  subst el
  show pa_w G x 9 (K, Sm, N, O) 0 0 0 [some (pv_o 4 0), some (pv_i a0), some (pv_i a1), some (pv_i a2), some (pv_i a3), some (pv_i a4), some (pv_i a5), some (pv_o 9 0), none] []
  refine pr_aload (pc := 0) C dL_can_0 rfl ?_
  refine pr_iconst (pc := 2) (v := 0) C dL_can_2 (by decide) ?_
  refine pr_aload_n (pc := 3) C dL_can_3 rfl ?_
  refine pr_iload_n (pc := 4) C dL_can_4 rfl ?_
  refine pr_iload_n (pc := 5) C dL_can_5 rfl ?_
  refine pr_iload_n (pc := 6) C dL_can_6 rfl ?_
  refine pr_iload (pc := 7) C dL_can_7 rfl ?_
  refine pr_iload (pc := 9) C dL_can_9 rfl ?_
  refine pr_iload (pc := 11) C dL_can_11 rfl ?_
  exact pr_catch (pc := 13) (rest := [pv_i 0, pv_o 9 0]) (As := [pv_i a0, pv_i a1, pv_i a2, pv_i a3, pv_i a4, pv_i a5]) (cls := "java/lang/IndexOutOfBoundsException") C E XT ea hM (fun _ q => q) wv_L_31 rfl rfl (Nat.le_refl _) (by decide) (pl_4 _) (by decide) (by omega) (by omega) (by omega) (by omega) [] [(0, 25, 32, 15)] (q1 := 0) (q2 := 25) (hpc := 28) (ct := 13) rfl (fun z hz => by cases hz) (by decide) (by decide) (pa_wi (by decide +kernel) rfl) (by decide +kernel) (j := 1) (kL := 8) (w := 2) (by decide) (Or.inl ⟨dL_can_28, rfl⟩) (nj := 1) (by decide) dL_can_30 dL_can_31 ⟨rfl, rfl⟩ dL_can_13
set_option maxRecDepth 100000 in
theorem l_canX2 (G : pa_G) (l : Launch) (K : Nat → Nat → Nat → Int32) (Sm : Nat → Nat → Int32) (N : Nat → Nat) (O : Nat → Int64) {d' mc' ms' : Nat} {al' : Bool} (a0 a1 a2 a3 a4 a5 : Int32) (hM : pa_MT G l mX3_can d' [pv_o 4 0, pv_i a0, pv_i a1, pv_i a2, pv_i a3, pv_i a4, pv_i a5] (K, Sm, N, O) mc' ms' px_A) : pa_LM G l mL_can hL_can (d' + 1) true [pv_o 4 0, pv_i a0, pv_i a1, pv_i a2, pv_i a3, pv_i a4, pv_i a5, pv_o 9 0] (K, Sm, N, O) mc' ms' (fun r h' => r = some (pv_i 2) ∧ h' = (K, Sm, N, O)) := by
  refine pa_goL l (by decide) (by simp [pa_c1l, pa_c1]) (fun _ => rfl) fun x C E XT el e0 ea => ?_
  subst el
  show pa_w G x 9 (K, Sm, N, O) 0 0 0 [some (pv_o 4 0), some (pv_i a0), some (pv_i a1), some (pv_i a2), some (pv_i a3), some (pv_i a4), some (pv_i a5), some (pv_o 9 0), none] []
  refine pr_aload (pc := 0) C dL_can_0 rfl ?_
  refine pr_iconst (pc := 2) (v := 0) C dL_can_2 (by decide) ?_
  refine pr_aload_n (pc := 3) C dL_can_3 rfl ?_
  refine pr_iload_n (pc := 4) C dL_can_4 rfl ?_
  refine pr_iload_n (pc := 5) C dL_can_5 rfl ?_
  refine pr_iload_n (pc := 6) C dL_can_6 rfl ?_
  refine pr_iload (pc := 7) C dL_can_7 rfl ?_
  refine pr_iload (pc := 9) C dL_can_9 rfl ?_
  refine pr_iload (pc := 11) C dL_can_11 rfl ?_
  exact pr_catch (pc := 13) (rest := [pv_i 0, pv_o 9 0]) (As := [pv_i a0, pv_i a1, pv_i a2, pv_i a3, pv_i a4, pv_i a5]) (cls := "java/lang/IllegalArgumentException") C E XT ea hM (fun _ q => q) wv_L_31 rfl rfl (Nat.le_refl _) (by decide) (pl_4 _) (by decide) (by omega) (by omega) (by omega) (by omega) [(0, 25, 28, 13)] [] (q1 := 0) (q2 := 25) (hpc := 32) (ct := 15) rfl (fun z hz => by
      simp only [List.mem_cons, List.not_mem_nil, or_false] at hz
      subst hz
      exact ⟨by decide, "java/lang/IndexOutOfBoundsException", pa_wi (by decide +kernel) rfl, by decide +kernel⟩) (by decide) (by decide) (pa_wi (by decide +kernel) rfl) (by decide +kernel) (j := 2) (kL := 8) (w := 2) (by decide) (Or.inl ⟨dL_can_32, rfl⟩) (nj := 2) (by decide) dL_can_34 dL_can_35 ⟨rfl, rfl⟩ dL_can_13
abbrev mL_say : pa_Y := (yL_say, cL_say, 9, some .int)
abbrev hL_say : List (Nat × Nat × Nat × Nat) := [(0, 18, 21, 13), (0, 18, 25, 15), (0, 18, 29, 39)]
set_option maxRecDepth 100000 in
theorem l_sayY (G : pa_G) (l : Launch) (K : Nat → Nat → Nat → Int32) (Sm : Nat → Nat → Int32) (N : Nat → Nat) (O : Nat → Int64) {d' mc' ms' : Nat} {al' : Bool} (a0 a1 a2 a3 a4 a5 : Int32) {post0 : Option pa_V → pa_H → Prop} {P : Int32 → (Nat → Nat → Nat → Int32) → (Nat → Nat) → Prop} (hM : pa_M G l mX3_say d' al' [pv_o 4 0, pv_i a0, pv_i a1, pv_i a2, pv_i a3, pv_i a4, pv_i a5] (K, Sm, N, O) mc' ms' post0) (hpost : ∀ r h', post0 r h' → ∃ v K' N', r = some (pv_i v) ∧ h' = (K', Sm, N', O) ∧ P v K' N') : pa_LM G l mL_say hL_say (d' + 1) true [pv_o 4 0, pv_i a0, pv_i a1, pv_i a2, pv_i a3, pv_i a4, pv_i a5, pv_o 9 0] (K, Sm, N, O) mc' ms' (fun r h' => r = some (pv_i 0) ∧ ∃ v K' N', h' = (K', Sm, N', pa_uo O v.toInt64) ∧ P v K' N') := by
  refine pa_goL l (by decide) (by simp [pa_c1l, pa_c1]) (fun _ => rfl) fun x C E XT el e0 ea => ?_
  subst el
  show pa_w G x 9 (K, Sm, N, O) 0 0 0 [some (pv_o 4 0), some (pv_i a0), some (pv_i a1), some (pv_i a2), some (pv_i a3), some (pv_i a4), some (pv_i a5), some (pv_o 9 0), none] []
  refine pr_aload (pc := 0) C dL_say_0 rfl ?_
  refine pr_iconst (pc := 2) (v := 0) C dL_say_2 (by decide) ?_
  refine pr_aload_n (pc := 3) C dL_say_3 rfl ?_
  refine pr_iload_n (pc := 4) C dL_say_4 rfl ?_
  refine pr_iload_n (pc := 5) C dL_say_5 rfl ?_
  refine pr_iload_n (pc := 6) C dL_say_6 rfl ?_
  refine pr_iload (pc := 7) C dL_say_7 rfl ?_
  refine pr_iload (pc := 9) C dL_say_9 rfl ?_
  refine pr_iload (pc := 11) C dL_say_11 rfl ?_
  refine pr_callV0 (pc := 13) (mc' := mc') (ms' := ms') (y := mX3_say) (rest := [pv_i 0, pv_o 9 0]) (As := [pv_i a0, pv_i a1, pv_i a2, pv_i a3, pv_i a4, pv_i a5]) C hM wv_L_35 rfl (Nat.le_refl _) (by decide) (pl_4 _) (by decide) (by omega) (by omega) (fun zz => absurd (ea.symm.trans zz) (by decide)) (fun _ => ⟨⟨trivial, ⟨lr_kn (by decide), pa_lv9⟩, trivial⟩, ⟨⟨lr_kn (by decide), (pl_4 _)⟩, trivial, trivial, trivial, trivial, trivial, trivial, ⟨lr_kn (by decide), pa_lv9⟩, trivial⟩⟩) dL_say_13 (fun r h9 hp9 => ?_)
  obtain ⟨v, K', N', rfl, rfl, hP⟩ := hpost r h9 hp9
  show pa_w G x 9 (K', Sm, N', O) (0 + mc') (0 + ms') 16 [some (pv_o 4 0), some (pv_i a0), some (pv_i a1), some (pv_i a2), some (pv_i a3), some (pv_i a4), some (pv_i a5), some (pv_o 9 0), none] [pv_i v, pv_i 0, pv_o 9 0]
  refine pr_i2l (pc := 16) C dL_say_16 ?_
  refine pr_last9 (pc := 17) C rfl dL_say_17 ?_
  refine pr_goto (pc := 18) C 33 dL_say_18 (by decide) ?_
  refine pr_iconst (pc := 33) (v := 0) C dL_say_33 (by decide) ?_
  exact pr_iret (pc := 34) C E (Or.inl rfl) (by omega) (by omega) ⟨rfl, v, K', N', rfl, hP⟩ dL_say_34
set_option maxRecDepth 100000 in
theorem l_sayX1 (G : pa_G) (l : Launch) (K : Nat → Nat → Nat → Int32) (Sm : Nat → Nat → Int32) (N : Nat → Nat) (O : Nat → Int64) {d' mc' ms' : Nat} {al' : Bool} (a0 a1 a2 a3 a4 a5 : Int32) (hM : pa_MT G l mX3_say d' [pv_o 4 0, pv_i a0, pv_i a1, pv_i a2, pv_i a3, pv_i a4, pv_i a5] (K, Sm, N, O) mc' ms' px_I) : pa_LM G l mL_say hL_say (d' + 1) true [pv_o 4 0, pv_i a0, pv_i a1, pv_i a2, pv_i a3, pv_i a4, pv_i a5, pv_o 9 0] (K, Sm, N, O) mc' ms' (fun r h' => r = some (pv_i 1) ∧ h' = (K, Sm, N, O)) := by
  refine pa_goL l (by decide) (by simp [pa_c1l, pa_c1]) (fun _ => rfl) fun x C E XT el e0 ea => ?_
  subst el
  show pa_w G x 9 (K, Sm, N, O) 0 0 0 [some (pv_o 4 0), some (pv_i a0), some (pv_i a1), some (pv_i a2), some (pv_i a3), some (pv_i a4), some (pv_i a5), some (pv_o 9 0), none] []
  refine pr_aload (pc := 0) C dL_say_0 rfl ?_
  refine pr_iconst (pc := 2) (v := 0) C dL_say_2 (by decide) ?_
  refine pr_aload_n (pc := 3) C dL_say_3 rfl ?_
  refine pr_iload_n (pc := 4) C dL_say_4 rfl ?_
  refine pr_iload_n (pc := 5) C dL_say_5 rfl ?_
  refine pr_iload_n (pc := 6) C dL_say_6 rfl ?_
  refine pr_iload (pc := 7) C dL_say_7 rfl ?_
  refine pr_iload (pc := 9) C dL_say_9 rfl ?_
  refine pr_iload (pc := 11) C dL_say_11 rfl ?_
  exact pr_catch (pc := 13) (rest := [pv_i 0, pv_o 9 0]) (As := [pv_i a0, pv_i a1, pv_i a2, pv_i a3, pv_i a4, pv_i a5]) (cls := "java/lang/IndexOutOfBoundsException") C E XT ea hM (fun _ q => q) wv_L_35 rfl rfl (Nat.le_refl _) (by decide) (pl_4 _) (by decide) (by omega) (by omega) (by omega) (by omega) [] [(0, 18, 25, 15), (0, 18, 29, 39)] (q1 := 0) (q2 := 18) (hpc := 21) (ct := 13) rfl (fun z hz => by cases hz) (by decide) (by decide) (pa_wi (by decide +kernel) rfl) (by decide +kernel) (j := 1) (kL := 8) (w := 2) (by decide) (Or.inl ⟨dL_say_21, rfl⟩) (nj := 1) (by decide) dL_say_23 dL_say_24 ⟨rfl, rfl⟩ dL_say_13
set_option maxRecDepth 100000 in
theorem l_sayX2 (G : pa_G) (l : Launch) (K : Nat → Nat → Nat → Int32) (Sm : Nat → Nat → Int32) (N : Nat → Nat) (O : Nat → Int64) {d' mc' ms' : Nat} {al' : Bool} (a0 a1 a2 a3 a4 a5 : Int32) (hM : pa_MT G l mX3_say d' [pv_o 4 0, pv_i a0, pv_i a1, pv_i a2, pv_i a3, pv_i a4, pv_i a5] (K, Sm, N, O) mc' ms' px_A) : pa_LM G l mL_say hL_say (d' + 1) true [pv_o 4 0, pv_i a0, pv_i a1, pv_i a2, pv_i a3, pv_i a4, pv_i a5, pv_o 9 0] (K, Sm, N, O) mc' ms' (fun r h' => r = some (pv_i 2) ∧ h' = (K, Sm, N, O)) := by
  refine pa_goL l (by decide) (by simp [pa_c1l, pa_c1]) (fun _ => rfl) fun x C E XT el e0 ea => ?_
  subst el
  show pa_w G x 9 (K, Sm, N, O) 0 0 0 [some (pv_o 4 0), some (pv_i a0), some (pv_i a1), some (pv_i a2), some (pv_i a3), some (pv_i a4), some (pv_i a5), some (pv_o 9 0), none] []
  refine pr_aload (pc := 0) C dL_say_0 rfl ?_
  refine pr_iconst (pc := 2) (v := 0) C dL_say_2 (by decide) ?_
  refine pr_aload_n (pc := 3) C dL_say_3 rfl ?_
  refine pr_iload_n (pc := 4) C dL_say_4 rfl ?_
  refine pr_iload_n (pc := 5) C dL_say_5 rfl ?_
  refine pr_iload_n (pc := 6) C dL_say_6 rfl ?_
  refine pr_iload (pc := 7) C dL_say_7 rfl ?_
  refine pr_iload (pc := 9) C dL_say_9 rfl ?_
  refine pr_iload (pc := 11) C dL_say_11 rfl ?_
  exact pr_catch (pc := 13) (rest := [pv_i 0, pv_o 9 0]) (As := [pv_i a0, pv_i a1, pv_i a2, pv_i a3, pv_i a4, pv_i a5]) (cls := "java/lang/IllegalArgumentException") C E XT ea hM (fun _ q => q) wv_L_35 rfl rfl (Nat.le_refl _) (by decide) (pl_4 _) (by decide) (by omega) (by omega) (by omega) (by omega) [(0, 18, 21, 13)] [(0, 18, 29, 39)] (q1 := 0) (q2 := 18) (hpc := 25) (ct := 15) rfl (fun z hz => by
      simp only [List.mem_cons, List.not_mem_nil, or_false] at hz
      subst hz
      exact ⟨by decide, "java/lang/IndexOutOfBoundsException", pa_wi (by decide +kernel) rfl, by decide +kernel⟩) (by decide) (by decide) (pa_wi (by decide +kernel) rfl) (by decide +kernel) (j := 2) (kL := 8) (w := 2) (by decide) (Or.inl ⟨dL_say_25, rfl⟩) (nj := 2) (by decide) dL_say_27 dL_say_28 ⟨rfl, rfl⟩ dL_say_13
set_option maxRecDepth 100000 in
theorem l_sayX3 (G : pa_G) (l : Launch) (K : Nat → Nat → Nat → Int32) (Sm : Nat → Nat → Int32) (N : Nat → Nat) (O : Nat → Int64) {d' mc' ms' : Nat} {al' : Bool} (a0 a1 a2 a3 a4 a5 : Int32) (hM : pa_MT G l mX3_say d' [pv_o 4 0, pv_i a0, pv_i a1, pv_i a2, pv_i a3, pv_i a4, pv_i a5] (K, Sm, N, O) mc' ms' px_S) : pa_LM G l mL_say hL_say (d' + 1) true [pv_o 4 0, pv_i a0, pv_i a1, pv_i a2, pv_i a3, pv_i a4, pv_i a5, pv_o 9 0] (K, Sm, N, O) mc' ms' (fun r h' => r = some (pv_i 3) ∧ h' = (K, Sm, N, O)) := by
  refine pa_goL l (by decide) (by simp [pa_c1l, pa_c1]) (fun _ => rfl) fun x C E XT el e0 ea => ?_
  subst el
  show pa_w G x 9 (K, Sm, N, O) 0 0 0 [some (pv_o 4 0), some (pv_i a0), some (pv_i a1), some (pv_i a2), some (pv_i a3), some (pv_i a4), some (pv_i a5), some (pv_o 9 0), none] []
  refine pr_aload (pc := 0) C dL_say_0 rfl ?_
  refine pr_iconst (pc := 2) (v := 0) C dL_say_2 (by decide) ?_
  refine pr_aload_n (pc := 3) C dL_say_3 rfl ?_
  refine pr_iload_n (pc := 4) C dL_say_4 rfl ?_
  refine pr_iload_n (pc := 5) C dL_say_5 rfl ?_
  refine pr_iload_n (pc := 6) C dL_say_6 rfl ?_
  refine pr_iload (pc := 7) C dL_say_7 rfl ?_
  refine pr_iload (pc := 9) C dL_say_9 rfl ?_
  refine pr_iload (pc := 11) C dL_say_11 rfl ?_
  exact pr_catch (pc := 13) (rest := [pv_i 0, pv_o 9 0]) (As := [pv_i a0, pv_i a1, pv_i a2, pv_i a3, pv_i a4, pv_i a5]) (cls := "java/lang/IllegalStateException") C E XT ea hM (fun _ q => q) wv_L_35 rfl rfl (Nat.le_refl _) (by decide) (pl_4 _) (by decide) (by omega) (by omega) (by omega) (by omega) [(0, 18, 21, 13), (0, 18, 25, 15)] [] (q1 := 0) (q2 := 18) (hpc := 29) (ct := 39) rfl (fun z hz => by
      simp only [List.mem_cons, List.not_mem_nil, or_false] at hz
      rcases hz with rfl | rfl
      · exact ⟨by decide, "java/lang/IndexOutOfBoundsException", pa_wi (by decide +kernel) rfl, by decide +kernel⟩
      · exact ⟨by decide, "java/lang/IllegalArgumentException", pa_wi (by decide +kernel) rfl, by decide +kernel⟩) (by decide) (by decide) (pa_wi (by decide +kernel) rfl) (by decide +kernel) (j := 3) (kL := 8) (w := 2) (by decide) (Or.inl ⟨dL_say_29, rfl⟩) (nj := 3) (by decide) dL_say_31 dL_say_32 ⟨rfl, rfl⟩ dL_say_13
abbrev mL_tick : pa_Y := (yL_tick, cL_tick, 4, some .int)
abbrev hL_tick : List (Nat × Nat × Nat × Nat) := [(0, 9, 12, 15)]
set_option maxRecDepth 100000 in
theorem l_tickY (G : pa_G) (l : Launch) (K : Nat → Nat → Nat → Int32) (Sm : Nat → Nat → Int32) (N : Nat → Nat) (O : Nat → Int64) {d' mc' ms' : Nat} {al' : Bool} (a0 : Int32) {post0 : Option pa_V → pa_H → Prop} {P : Int32 → (Nat → Nat → Nat → Int32) → (Nat → Nat) → Prop} (hM : pa_M G l mX3_tick d' al' [pv_o 4 0, pv_i a0] (K, Sm, N, O) mc' ms' post0) (hpost : ∀ r h', post0 r h' → ∃ v K' N', r = some (pv_i v) ∧ h' = (K', Sm, N', O) ∧ P v K' N') : pa_LM G l mL_tick hL_tick (d' + 1) true [pv_o 4 0, pv_i a0, pv_o 9 0] (K, Sm, N, O) mc' ms' (fun r h' => r = some (pv_i 0) ∧ ∃ v K' N', h' = (K', Sm, N', pa_uo O v.toInt64) ∧ P v K' N') := by
  refine pa_goL l (by decide) (by simp [pa_c1l, pa_c1]) (fun _ => rfl) fun x C E XT el e0 ea => ?_
  subst el
  show pa_w G x 4 (K, Sm, N, O) 0 0 0 [some (pv_o 4 0), some (pv_i a0), some (pv_o 9 0), none] []
  refine pr_aload_n (pc := 0) C dL_tick_0 rfl ?_
  refine pr_iconst (pc := 1) (v := 0) C dL_tick_1 (by decide) ?_
  refine pr_aload_n (pc := 2) C dL_tick_2 rfl ?_
  refine pr_iload_n (pc := 3) C dL_tick_3 rfl ?_
  refine pr_callV0 (pc := 4) (mc' := mc') (ms' := ms') (y := mX3_tick) (rest := [pv_i 0, pv_o 9 0]) (As := [pv_i a0]) C hM wv_L_41 rfl (Nat.le_refl _) (by decide) (pl_4 _) (by decide) (by omega) (by omega) (fun zz => absurd (ea.symm.trans zz) (by decide)) (fun _ => ⟨⟨trivial, ⟨lr_kn (by decide), pa_lv9⟩, trivial⟩, ⟨⟨lr_kn (by decide), (pl_4 _)⟩, trivial, ⟨lr_kn (by decide), pa_lv9⟩, trivial⟩⟩) dL_tick_4 (fun r h9 hp9 => ?_)
  obtain ⟨v, K', N', rfl, rfl, hP⟩ := hpost r h9 hp9
  show pa_w G x 4 (K', Sm, N', O) (0 + mc') (0 + ms') 7 [some (pv_o 4 0), some (pv_i a0), some (pv_o 9 0), none] [pv_i v, pv_i 0, pv_o 9 0]
  refine pr_i2l (pc := 7) C dL_tick_7 ?_
  refine pr_last9 (pc := 8) C rfl dL_tick_8 ?_
  refine pr_goto (pc := 9) C 15 dL_tick_9 (by decide) ?_
  refine pr_iconst (pc := 15) (v := 0) C dL_tick_15 (by decide) ?_
  exact pr_iret (pc := 16) C E (Or.inl rfl) (by omega) (by omega) ⟨rfl, v, K', N', rfl, hP⟩ dL_tick_16
set_option maxRecDepth 100000 in
theorem l_tickX1 (G : pa_G) (l : Launch) (K : Nat → Nat → Nat → Int32) (Sm : Nat → Nat → Int32) (N : Nat → Nat) (O : Nat → Int64) {d' mc' ms' : Nat} {al' : Bool} (a0 : Int32) (hM : pa_MT G l mX3_tick d' [pv_o 4 0, pv_i a0] (K, Sm, N, O) mc' ms' px_A) : pa_LM G l mL_tick hL_tick (d' + 1) true [pv_o 4 0, pv_i a0, pv_o 9 0] (K, Sm, N, O) mc' ms' (fun r h' => r = some (pv_i 1) ∧ h' = (K, Sm, N, O)) := by
  refine pa_goL l (by decide) (by simp [pa_c1l, pa_c1]) (fun _ => rfl) fun x C E XT el e0 ea => ?_
  subst el
  show pa_w G x 4 (K, Sm, N, O) 0 0 0 [some (pv_o 4 0), some (pv_i a0), some (pv_o 9 0), none] []
  refine pr_aload_n (pc := 0) C dL_tick_0 rfl ?_
  refine pr_iconst (pc := 1) (v := 0) C dL_tick_1 (by decide) ?_
  refine pr_aload_n (pc := 2) C dL_tick_2 rfl ?_
  refine pr_iload_n (pc := 3) C dL_tick_3 rfl ?_
  exact pr_catch (pc := 4) (rest := [pv_i 0, pv_o 9 0]) (As := [pv_i a0]) (cls := "java/lang/IllegalArgumentException") C E XT ea hM (fun _ q => q) wv_L_41 rfl rfl (Nat.le_refl _) (by decide) (pl_4 _) (by decide) (by omega) (by omega) (by omega) (by omega) [] [] (q1 := 0) (q2 := 9) (hpc := 12) (ct := 15) rfl (fun z hz => by cases hz) (by decide) (by decide) (pa_wi (by decide +kernel) rfl) (by decide +kernel) (j := 1) (kL := 3) (w := 1) (by decide) (Or.inr ⟨3, rfl, dL_tick_12, rfl⟩) (nj := 1) (by decide) dL_tick_13 dL_tick_14 ⟨rfl, rfl⟩ dL_tick_4
abbrev mL_turn : pa_Y := (yL_turn, cL_turn, 5, some .int)
abbrev hL_turn : List (Nat × Nat × Nat × Nat) := [(0, 10, 13, 13), (0, 10, 17, 15)]
set_option maxRecDepth 100000 in
theorem l_turnY (G : pa_G) (l : Launch) (K : Nat → Nat → Nat → Int32) (Sm : Nat → Nat → Int32) (N : Nat → Nat) (O : Nat → Int64) {d' mc' ms' : Nat} {al' : Bool} (a0 a1 : Int32) {post0 : Option pa_V → pa_H → Prop} {P : Int32 → (Nat → Nat → Nat → Int32) → (Nat → Nat) → Prop} (hM : pa_M G l mX3_turn d' al' [pv_o 4 0, pv_i a0, pv_i a1] (K, Sm, N, O) mc' ms' post0) (hpost : ∀ r h', post0 r h' → ∃ v K' N', r = some (pv_i v) ∧ h' = (K', Sm, N', O) ∧ P v K' N') : pa_LM G l mL_turn hL_turn (d' + 1) true [pv_o 4 0, pv_i a0, pv_i a1, pv_o 9 0] (K, Sm, N, O) mc' ms' (fun r h' => r = some (pv_i 0) ∧ ∃ v K' N', h' = (K', Sm, N', pa_uo O v.toInt64) ∧ P v K' N') := by
  refine pa_goL l (by decide) (by simp [pa_c1l, pa_c1]) (fun _ => rfl) fun x C E XT el e0 ea => ?_
  subst el
  show pa_w G x 5 (K, Sm, N, O) 0 0 0 [some (pv_o 4 0), some (pv_i a0), some (pv_i a1), some (pv_o 9 0), none] []
  refine pr_aload_n (pc := 0) C dL_turn_0 rfl ?_
  refine pr_iconst (pc := 1) (v := 0) C dL_turn_1 (by decide) ?_
  refine pr_aload_n (pc := 2) C dL_turn_2 rfl ?_
  refine pr_iload_n (pc := 3) C dL_turn_3 rfl ?_
  refine pr_iload_n (pc := 4) C dL_turn_4 rfl ?_
  refine pr_callV0 (pc := 5) (mc' := mc') (ms' := ms') (y := mX3_turn) (rest := [pv_i 0, pv_o 9 0]) (As := [pv_i a0, pv_i a1]) C hM wv_L_45 rfl (Nat.le_refl _) (by decide) (pl_4 _) (by decide) (by omega) (by omega) (fun zz => absurd (ea.symm.trans zz) (by decide)) (fun _ => ⟨⟨trivial, ⟨lr_kn (by decide), pa_lv9⟩, trivial⟩, ⟨⟨lr_kn (by decide), (pl_4 _)⟩, trivial, trivial, ⟨lr_kn (by decide), pa_lv9⟩, trivial⟩⟩) dL_turn_5 (fun r h9 hp9 => ?_)
  obtain ⟨v, K', N', rfl, rfl, hP⟩ := hpost r h9 hp9
  show pa_w G x 5 (K', Sm, N', O) (0 + mc') (0 + ms') 8 [some (pv_o 4 0), some (pv_i a0), some (pv_i a1), some (pv_o 9 0), none] [pv_i v, pv_i 0, pv_o 9 0]
  refine pr_i2l (pc := 8) C dL_turn_8 ?_
  refine pr_last9 (pc := 9) C rfl dL_turn_9 ?_
  refine pr_goto (pc := 10) C 21 dL_turn_10 (by decide) ?_
  refine pr_iconst (pc := 21) (v := 0) C dL_turn_21 (by decide) ?_
  exact pr_iret (pc := 22) C E (Or.inl rfl) (by omega) (by omega) ⟨rfl, v, K', N', rfl, hP⟩ dL_turn_22
set_option maxRecDepth 100000 in
theorem l_turnX1 (G : pa_G) (l : Launch) (K : Nat → Nat → Nat → Int32) (Sm : Nat → Nat → Int32) (N : Nat → Nat) (O : Nat → Int64) {d' mc' ms' : Nat} {al' : Bool} (a0 a1 : Int32) (hM : pa_MT G l mX3_turn d' [pv_o 4 0, pv_i a0, pv_i a1] (K, Sm, N, O) mc' ms' px_I) : pa_LM G l mL_turn hL_turn (d' + 1) true [pv_o 4 0, pv_i a0, pv_i a1, pv_o 9 0] (K, Sm, N, O) mc' ms' (fun r h' => r = some (pv_i 1) ∧ h' = (K, Sm, N, O)) := by
  refine pa_goL l (by decide) (by simp [pa_c1l, pa_c1]) (fun _ => rfl) fun x C E XT el e0 ea => ?_
  subst el
  show pa_w G x 5 (K, Sm, N, O) 0 0 0 [some (pv_o 4 0), some (pv_i a0), some (pv_i a1), some (pv_o 9 0), none] []
  refine pr_aload_n (pc := 0) C dL_turn_0 rfl ?_
  refine pr_iconst (pc := 1) (v := 0) C dL_turn_1 (by decide) ?_
  refine pr_aload_n (pc := 2) C dL_turn_2 rfl ?_
  refine pr_iload_n (pc := 3) C dL_turn_3 rfl ?_
  refine pr_iload_n (pc := 4) C dL_turn_4 rfl ?_
  exact pr_catch (pc := 5) (rest := [pv_i 0, pv_o 9 0]) (As := [pv_i a0, pv_i a1]) (cls := "java/lang/IndexOutOfBoundsException") C E XT ea hM (fun _ q => q) wv_L_45 rfl rfl (Nat.le_refl _) (by decide) (pl_4 _) (by decide) (by omega) (by omega) (by omega) (by omega) [] [(0, 10, 17, 15)] (q1 := 0) (q2 := 10) (hpc := 13) (ct := 13) rfl (fun z hz => by cases hz) (by decide) (by decide) (pa_wi (by decide +kernel) rfl) (by decide +kernel) (j := 1) (kL := 4) (w := 2) (by decide) (Or.inl ⟨dL_turn_13, rfl⟩) (nj := 1) (by decide) dL_turn_15 dL_turn_16 ⟨rfl, rfl⟩ dL_turn_5
set_option maxRecDepth 100000 in
theorem l_turnX2 (G : pa_G) (l : Launch) (K : Nat → Nat → Nat → Int32) (Sm : Nat → Nat → Int32) (N : Nat → Nat) (O : Nat → Int64) {d' mc' ms' : Nat} {al' : Bool} (a0 a1 : Int32) (hM : pa_MT G l mX3_turn d' [pv_o 4 0, pv_i a0, pv_i a1] (K, Sm, N, O) mc' ms' px_A) : pa_LM G l mL_turn hL_turn (d' + 1) true [pv_o 4 0, pv_i a0, pv_i a1, pv_o 9 0] (K, Sm, N, O) mc' ms' (fun r h' => r = some (pv_i 2) ∧ h' = (K, Sm, N, O)) := by
  refine pa_goL l (by decide) (by simp [pa_c1l, pa_c1]) (fun _ => rfl) fun x C E XT el e0 ea => ?_
  subst el
  show pa_w G x 5 (K, Sm, N, O) 0 0 0 [some (pv_o 4 0), some (pv_i a0), some (pv_i a1), some (pv_o 9 0), none] []
  refine pr_aload_n (pc := 0) C dL_turn_0 rfl ?_
  refine pr_iconst (pc := 1) (v := 0) C dL_turn_1 (by decide) ?_
  refine pr_aload_n (pc := 2) C dL_turn_2 rfl ?_
  refine pr_iload_n (pc := 3) C dL_turn_3 rfl ?_
  refine pr_iload_n (pc := 4) C dL_turn_4 rfl ?_
  exact pr_catch (pc := 5) (rest := [pv_i 0, pv_o 9 0]) (As := [pv_i a0, pv_i a1]) (cls := "java/lang/IllegalArgumentException") C E XT ea hM (fun _ q => q) wv_L_45 rfl rfl (Nat.le_refl _) (by decide) (pl_4 _) (by decide) (by omega) (by omega) (by omega) (by omega) [(0, 10, 13, 13)] [] (q1 := 0) (q2 := 10) (hpc := 17) (ct := 15) rfl (fun z hz => by
      simp only [List.mem_cons, List.not_mem_nil, or_false] at hz
      subst hz
      exact ⟨by decide, "java/lang/IndexOutOfBoundsException", pa_wi (by decide +kernel) rfl, by decide +kernel⟩) (by decide) (by decide) (pa_wi (by decide +kernel) rfl) (by decide +kernel) (j := 2) (kL := 4) (w := 2) (by decide) (Or.inl ⟨dL_turn_17, rfl⟩) (nj := 2) (by decide) dL_turn_19 dL_turn_20 ⟨rfl, rfl⟩ dL_turn_5
abbrev mL_heard : pa_Y := (yL_heard, cL_heard, 5, some .int)
abbrev hL_heard : List (Nat × Nat × Nat × Nat) := [(0, 10, 13, 13)]
set_option maxRecDepth 100000 in
theorem l_heardY (G : pa_G) (l : Launch) (K : Nat → Nat → Nat → Int32) (Sm : Nat → Nat → Int32) (N : Nat → Nat) (O : Nat → Int64) {d' mc' ms' : Nat} {al' : Bool} (a0 a1 : Int32) {post0 : Option pa_V → pa_H → Prop} {P : Int32 → (Nat → Nat → Nat → Int32) → (Nat → Nat) → Prop} (hM : pa_M G l mX3_heard d' al' [pv_o 4 0, pv_i a0, pv_i a1] (K, Sm, N, O) mc' ms' post0) (hpost : ∀ r h', post0 r h' → ∃ v K' N', r = some (pv_i v) ∧ h' = (K', Sm, N', O) ∧ P v K' N') : pa_LM G l mL_heard hL_heard (d' + 1) true [pv_o 4 0, pv_i a0, pv_i a1, pv_o 9 0] (K, Sm, N, O) mc' ms' (fun r h' => r = some (pv_i 0) ∧ ∃ v K' N', h' = (K', Sm, N', pa_uo O v.toInt64) ∧ P v K' N') := by
  refine pa_goL l (by decide) (by simp [pa_c1l, pa_c1]) (fun _ => rfl) fun x C E XT el e0 ea => ?_
  subst el
  show pa_w G x 5 (K, Sm, N, O) 0 0 0 [some (pv_o 4 0), some (pv_i a0), some (pv_i a1), some (pv_o 9 0), none] []
  refine pr_aload_n (pc := 0) C dL_heard_0 rfl ?_
  refine pr_iconst (pc := 1) (v := 0) C dL_heard_1 (by decide) ?_
  refine pr_aload_n (pc := 2) C dL_heard_2 rfl ?_
  refine pr_iload_n (pc := 3) C dL_heard_3 rfl ?_
  refine pr_iload_n (pc := 4) C dL_heard_4 rfl ?_
  refine pr_callV0 (pc := 5) (mc' := mc') (ms' := ms') (y := mX3_heard) (rest := [pv_i 0, pv_o 9 0]) (As := [pv_i a0, pv_i a1]) C hM wv_L_48 rfl (Nat.le_refl _) (by decide) (pl_4 _) (by decide) (by omega) (by omega) (fun zz => absurd (ea.symm.trans zz) (by decide)) (fun _ => ⟨⟨trivial, ⟨lr_kn (by decide), pa_lv9⟩, trivial⟩, ⟨⟨lr_kn (by decide), (pl_4 _)⟩, trivial, trivial, ⟨lr_kn (by decide), pa_lv9⟩, trivial⟩⟩) dL_heard_5 (fun r h9 hp9 => ?_)
  obtain ⟨v, K', N', rfl, rfl, hP⟩ := hpost r h9 hp9
  show pa_w G x 5 (K', Sm, N', O) (0 + mc') (0 + ms') 8 [some (pv_o 4 0), some (pv_i a0), some (pv_i a1), some (pv_o 9 0), none] [pv_i v, pv_i 0, pv_o 9 0]
  refine pr_i2l (pc := 8) C dL_heard_8 ?_
  refine pr_last9 (pc := 9) C rfl dL_heard_9 ?_
  refine pr_goto (pc := 10) C 17 dL_heard_10 (by decide) ?_
  refine pr_iconst (pc := 17) (v := 0) C dL_heard_17 (by decide) ?_
  exact pr_iret (pc := 18) C E (Or.inl rfl) (by omega) (by omega) ⟨rfl, v, K', N', rfl, hP⟩ dL_heard_18
set_option maxRecDepth 100000 in
theorem l_heardX1 (G : pa_G) (l : Launch) (K : Nat → Nat → Nat → Int32) (Sm : Nat → Nat → Int32) (N : Nat → Nat) (O : Nat → Int64) {d' mc' ms' : Nat} {al' : Bool} (a0 a1 : Int32) (hM : pa_MT G l mX3_heard d' [pv_o 4 0, pv_i a0, pv_i a1] (K, Sm, N, O) mc' ms' px_I) : pa_LM G l mL_heard hL_heard (d' + 1) true [pv_o 4 0, pv_i a0, pv_i a1, pv_o 9 0] (K, Sm, N, O) mc' ms' (fun r h' => r = some (pv_i 1) ∧ h' = (K, Sm, N, O)) := by
  refine pa_goL l (by decide) (by simp [pa_c1l, pa_c1]) (fun _ => rfl) fun x C E XT el e0 ea => ?_
  subst el
  show pa_w G x 5 (K, Sm, N, O) 0 0 0 [some (pv_o 4 0), some (pv_i a0), some (pv_i a1), some (pv_o 9 0), none] []
  refine pr_aload_n (pc := 0) C dL_heard_0 rfl ?_
  refine pr_iconst (pc := 1) (v := 0) C dL_heard_1 (by decide) ?_
  refine pr_aload_n (pc := 2) C dL_heard_2 rfl ?_
  refine pr_iload_n (pc := 3) C dL_heard_3 rfl ?_
  refine pr_iload_n (pc := 4) C dL_heard_4 rfl ?_
  exact pr_catch (pc := 5) (rest := [pv_i 0, pv_o 9 0]) (As := [pv_i a0, pv_i a1]) (cls := "java/lang/IndexOutOfBoundsException") C E XT ea hM (fun _ q => q) wv_L_48 rfl rfl (Nat.le_refl _) (by decide) (pl_4 _) (by decide) (by omega) (by omega) (by omega) (by omega) [] [] (q1 := 0) (q2 := 10) (hpc := 13) (ct := 13) rfl (fun z hz => by cases hz) (by decide) (by decide) (pa_wi (by decide +kernel) rfl) (by decide +kernel) (j := 1) (kL := 4) (w := 2) (by decide) (Or.inl ⟨dL_heard_13, rfl⟩) (nj := 1) (by decide) dL_heard_15 dL_heard_16 ⟨rfl, rfl⟩ dL_heard_5
abbrev mL_stand : pa_Y := (yL_stand, cL_stand, 5, some .int)
abbrev hL_stand : List (Nat × Nat × Nat × Nat) := [(0, 10, 13, 13)]
set_option maxRecDepth 100000 in
theorem l_standY (G : pa_G) (l : Launch) (K : Nat → Nat → Nat → Int32) (Sm : Nat → Nat → Int32) (N : Nat → Nat) (O : Nat → Int64) {d' mc' ms' : Nat} {al' : Bool} (a0 a1 : Int32) {post0 : Option pa_V → pa_H → Prop} {P : Int32 → (Nat → Nat → Nat → Int32) → (Nat → Nat) → Prop} (hM : pa_M G l mX3_stand d' al' [pv_o 4 0, pv_i a0, pv_i a1] (K, Sm, N, O) mc' ms' post0) (hpost : ∀ r h', post0 r h' → ∃ v K' N', r = some (pv_i v) ∧ h' = (K', Sm, N', O) ∧ P v K' N') : pa_LM G l mL_stand hL_stand (d' + 1) true [pv_o 4 0, pv_i a0, pv_i a1, pv_o 9 0] (K, Sm, N, O) mc' ms' (fun r h' => r = some (pv_i 0) ∧ ∃ v K' N', h' = (K', Sm, N', pa_uo O v.toInt64) ∧ P v K' N') := by
  refine pa_goL l (by decide) (by simp [pa_c1l, pa_c1]) (fun _ => rfl) fun x C E XT el e0 ea => ?_
  subst el
  show pa_w G x 5 (K, Sm, N, O) 0 0 0 [some (pv_o 4 0), some (pv_i a0), some (pv_i a1), some (pv_o 9 0), none] []
  refine pr_aload_n (pc := 0) C dL_stand_0 rfl ?_
  refine pr_iconst (pc := 1) (v := 0) C dL_stand_1 (by decide) ?_
  refine pr_aload_n (pc := 2) C dL_stand_2 rfl ?_
  refine pr_iload_n (pc := 3) C dL_stand_3 rfl ?_
  refine pr_iload_n (pc := 4) C dL_stand_4 rfl ?_
  refine pr_callV0 (pc := 5) (mc' := mc') (ms' := ms') (y := mX3_stand) (rest := [pv_i 0, pv_o 9 0]) (As := [pv_i a0, pv_i a1]) C hM wv_L_51 rfl (Nat.le_refl _) (by decide) (pl_4 _) (by decide) (by omega) (by omega) (fun zz => absurd (ea.symm.trans zz) (by decide)) (fun _ => ⟨⟨trivial, ⟨lr_kn (by decide), pa_lv9⟩, trivial⟩, ⟨⟨lr_kn (by decide), (pl_4 _)⟩, trivial, trivial, ⟨lr_kn (by decide), pa_lv9⟩, trivial⟩⟩) dL_stand_5 (fun r h9 hp9 => ?_)
  obtain ⟨v, K', N', rfl, rfl, hP⟩ := hpost r h9 hp9
  show pa_w G x 5 (K', Sm, N', O) (0 + mc') (0 + ms') 8 [some (pv_o 4 0), some (pv_i a0), some (pv_i a1), some (pv_o 9 0), none] [pv_i v, pv_i 0, pv_o 9 0]
  refine pr_i2l (pc := 8) C dL_stand_8 ?_
  refine pr_last9 (pc := 9) C rfl dL_stand_9 ?_
  refine pr_goto (pc := 10) C 17 dL_stand_10 (by decide) ?_
  refine pr_iconst (pc := 17) (v := 0) C dL_stand_17 (by decide) ?_
  exact pr_iret (pc := 18) C E (Or.inl rfl) (by omega) (by omega) ⟨rfl, v, K', N', rfl, hP⟩ dL_stand_18
set_option maxRecDepth 100000 in
theorem l_standX1 (G : pa_G) (l : Launch) (K : Nat → Nat → Nat → Int32) (Sm : Nat → Nat → Int32) (N : Nat → Nat) (O : Nat → Int64) {d' mc' ms' : Nat} {al' : Bool} (a0 a1 : Int32) (hM : pa_MT G l mX3_stand d' [pv_o 4 0, pv_i a0, pv_i a1] (K, Sm, N, O) mc' ms' px_I) : pa_LM G l mL_stand hL_stand (d' + 1) true [pv_o 4 0, pv_i a0, pv_i a1, pv_o 9 0] (K, Sm, N, O) mc' ms' (fun r h' => r = some (pv_i 1) ∧ h' = (K, Sm, N, O)) := by
  refine pa_goL l (by decide) (by simp [pa_c1l, pa_c1]) (fun _ => rfl) fun x C E XT el e0 ea => ?_
  subst el
  show pa_w G x 5 (K, Sm, N, O) 0 0 0 [some (pv_o 4 0), some (pv_i a0), some (pv_i a1), some (pv_o 9 0), none] []
  refine pr_aload_n (pc := 0) C dL_stand_0 rfl ?_
  refine pr_iconst (pc := 1) (v := 0) C dL_stand_1 (by decide) ?_
  refine pr_aload_n (pc := 2) C dL_stand_2 rfl ?_
  refine pr_iload_n (pc := 3) C dL_stand_3 rfl ?_
  refine pr_iload_n (pc := 4) C dL_stand_4 rfl ?_
  exact pr_catch (pc := 5) (rest := [pv_i 0, pv_o 9 0]) (As := [pv_i a0, pv_i a1]) (cls := "java/lang/IndexOutOfBoundsException") C E XT ea hM (fun _ q => q) wv_L_51 rfl rfl (Nat.le_refl _) (by decide) (pl_4 _) (by decide) (by omega) (by omega) (by omega) (by omega) [] [] (q1 := 0) (q2 := 10) (hpc := 13) (ct := 13) rfl (fun z hz => by cases hz) (by decide) (by decide) (pa_wi (by decide +kernel) rfl) (by decide +kernel) (j := 1) (kL := 4) (w := 2) (by decide) (Or.inl ⟨dL_stand_13, rfl⟩) (nj := 1) (by decide) dL_stand_15 dL_stand_16 ⟨rfl, rfl⟩ dL_stand_5
abbrev mL_standBy : pa_Y := (yL_standBy, cL_standBy, 5, some .int)
abbrev hL_standBy : List (Nat × Nat × Nat × Nat) := [(0, 10, 13, 13)]
set_option maxRecDepth 100000 in
theorem l_standByY (G : pa_G) (l : Launch) (K : Nat → Nat → Nat → Int32) (Sm : Nat → Nat → Int32) (N : Nat → Nat) (O : Nat → Int64) {d' mc' ms' : Nat} {al' : Bool} (a0 a1 : Int32) {post0 : Option pa_V → pa_H → Prop} {P : Int32 → (Nat → Nat → Nat → Int32) → (Nat → Nat) → Prop} (hM : pa_M G l mX3_standBy d' al' [pv_o 4 0, pv_i a0, pv_i a1] (K, Sm, N, O) mc' ms' post0) (hpost : ∀ r h', post0 r h' → ∃ v K' N', r = some (pv_i v) ∧ h' = (K', Sm, N', O) ∧ P v K' N') : pa_LM G l mL_standBy hL_standBy (d' + 1) true [pv_o 4 0, pv_i a0, pv_i a1, pv_o 9 0] (K, Sm, N, O) mc' ms' (fun r h' => r = some (pv_i 0) ∧ ∃ v K' N', h' = (K', Sm, N', pa_uo O v.toInt64) ∧ P v K' N') := by
  refine pa_goL l (by decide) (by simp [pa_c1l, pa_c1]) (fun _ => rfl) fun x C E XT el e0 ea => ?_
  subst el
  show pa_w G x 5 (K, Sm, N, O) 0 0 0 [some (pv_o 4 0), some (pv_i a0), some (pv_i a1), some (pv_o 9 0), none] []
  refine pr_aload_n (pc := 0) C dL_standBy_0 rfl ?_
  refine pr_iconst (pc := 1) (v := 0) C dL_standBy_1 (by decide) ?_
  refine pr_aload_n (pc := 2) C dL_standBy_2 rfl ?_
  refine pr_iload_n (pc := 3) C dL_standBy_3 rfl ?_
  refine pr_iload_n (pc := 4) C dL_standBy_4 rfl ?_
  refine pr_callV0 (pc := 5) (mc' := mc') (ms' := ms') (y := mX3_standBy) (rest := [pv_i 0, pv_o 9 0]) (As := [pv_i a0, pv_i a1]) C hM wv_L_54 rfl (Nat.le_refl _) (by decide) (pl_4 _) (by decide) (by omega) (by omega) (fun zz => absurd (ea.symm.trans zz) (by decide)) (fun _ => ⟨⟨trivial, ⟨lr_kn (by decide), pa_lv9⟩, trivial⟩, ⟨⟨lr_kn (by decide), (pl_4 _)⟩, trivial, trivial, ⟨lr_kn (by decide), pa_lv9⟩, trivial⟩⟩) dL_standBy_5 (fun r h9 hp9 => ?_)
  obtain ⟨v, K', N', rfl, rfl, hP⟩ := hpost r h9 hp9
  show pa_w G x 5 (K', Sm, N', O) (0 + mc') (0 + ms') 8 [some (pv_o 4 0), some (pv_i a0), some (pv_i a1), some (pv_o 9 0), none] [pv_i v, pv_i 0, pv_o 9 0]
  refine pr_i2l (pc := 8) C dL_standBy_8 ?_
  refine pr_last9 (pc := 9) C rfl dL_standBy_9 ?_
  refine pr_goto (pc := 10) C 17 dL_standBy_10 (by decide) ?_
  refine pr_iconst (pc := 17) (v := 0) C dL_standBy_17 (by decide) ?_
  exact pr_iret (pc := 18) C E (Or.inl rfl) (by omega) (by omega) ⟨rfl, v, K', N', rfl, hP⟩ dL_standBy_18
set_option maxRecDepth 100000 in
theorem l_standByX1 (G : pa_G) (l : Launch) (K : Nat → Nat → Nat → Int32) (Sm : Nat → Nat → Int32) (N : Nat → Nat) (O : Nat → Int64) {d' mc' ms' : Nat} {al' : Bool} (a0 a1 : Int32) (hM : pa_MT G l mX3_standBy d' [pv_o 4 0, pv_i a0, pv_i a1] (K, Sm, N, O) mc' ms' px_I) : pa_LM G l mL_standBy hL_standBy (d' + 1) true [pv_o 4 0, pv_i a0, pv_i a1, pv_o 9 0] (K, Sm, N, O) mc' ms' (fun r h' => r = some (pv_i 1) ∧ h' = (K, Sm, N, O)) := by
  refine pa_goL l (by decide) (by simp [pa_c1l, pa_c1]) (fun _ => rfl) fun x C E XT el e0 ea => ?_
  subst el
  show pa_w G x 5 (K, Sm, N, O) 0 0 0 [some (pv_o 4 0), some (pv_i a0), some (pv_i a1), some (pv_o 9 0), none] []
  refine pr_aload_n (pc := 0) C dL_standBy_0 rfl ?_
  refine pr_iconst (pc := 1) (v := 0) C dL_standBy_1 (by decide) ?_
  refine pr_aload_n (pc := 2) C dL_standBy_2 rfl ?_
  refine pr_iload_n (pc := 3) C dL_standBy_3 rfl ?_
  refine pr_iload_n (pc := 4) C dL_standBy_4 rfl ?_
  exact pr_catch (pc := 5) (rest := [pv_i 0, pv_o 9 0]) (As := [pv_i a0, pv_i a1]) (cls := "java/lang/IndexOutOfBoundsException") C E XT ea hM (fun _ q => q) wv_L_54 rfl rfl (Nat.le_refl _) (by decide) (pl_4 _) (by decide) (by omega) (by omega) (by omega) (by omega) [] [] (q1 := 0) (q2 := 10) (hpc := 13) (ct := 13) rfl (fun z hz => by cases hz) (by decide) (by decide) (pa_wi (by decide +kernel) rfl) (by decide +kernel) (j := 1) (kL := 4) (w := 2) (by decide) (Or.inl ⟨dL_standBy_13, rfl⟩) (nj := 1) (by decide) dL_standBy_15 dL_standBy_16 ⟨rfl, rfl⟩ dL_standBy_5
abbrev mL_standAnew : pa_Y := (yL_standAnew, cL_standAnew, 5, some .int)
abbrev hL_standAnew : List (Nat × Nat × Nat × Nat) := [(0, 10, 13, 13)]
set_option maxRecDepth 100000 in
theorem l_standAnewY (G : pa_G) (l : Launch) (K : Nat → Nat → Nat → Int32) (Sm : Nat → Nat → Int32) (N : Nat → Nat) (O : Nat → Int64) {d' mc' ms' : Nat} {al' : Bool} (a0 a1 : Int32) {post0 : Option pa_V → pa_H → Prop} {P : Int32 → (Nat → Nat → Nat → Int32) → (Nat → Nat) → Prop} (hM : pa_M G l mX3_standAnew d' al' [pv_o 4 0, pv_i a0, pv_i a1] (K, Sm, N, O) mc' ms' post0) (hpost : ∀ r h', post0 r h' → ∃ v K' N', r = some (pv_i v) ∧ h' = (K', Sm, N', O) ∧ P v K' N') : pa_LM G l mL_standAnew hL_standAnew (d' + 1) true [pv_o 4 0, pv_i a0, pv_i a1, pv_o 9 0] (K, Sm, N, O) mc' ms' (fun r h' => r = some (pv_i 0) ∧ ∃ v K' N', h' = (K', Sm, N', pa_uo O v.toInt64) ∧ P v K' N') := by
  refine pa_goL l (by decide) (by simp [pa_c1l, pa_c1]) (fun _ => rfl) fun x C E XT el e0 ea => ?_
  subst el
  show pa_w G x 5 (K, Sm, N, O) 0 0 0 [some (pv_o 4 0), some (pv_i a0), some (pv_i a1), some (pv_o 9 0), none] []
  refine pr_aload_n (pc := 0) C dL_standAnew_0 rfl ?_
  refine pr_iconst (pc := 1) (v := 0) C dL_standAnew_1 (by decide) ?_
  refine pr_aload_n (pc := 2) C dL_standAnew_2 rfl ?_
  refine pr_iload_n (pc := 3) C dL_standAnew_3 rfl ?_
  refine pr_iload_n (pc := 4) C dL_standAnew_4 rfl ?_
  refine pr_callV0 (pc := 5) (mc' := mc') (ms' := ms') (y := mX3_standAnew) (rest := [pv_i 0, pv_o 9 0]) (As := [pv_i a0, pv_i a1]) C hM wv_L_57 rfl (Nat.le_refl _) (by decide) (pl_4 _) (by decide) (by omega) (by omega) (fun zz => absurd (ea.symm.trans zz) (by decide)) (fun _ => ⟨⟨trivial, ⟨lr_kn (by decide), pa_lv9⟩, trivial⟩, ⟨⟨lr_kn (by decide), (pl_4 _)⟩, trivial, trivial, ⟨lr_kn (by decide), pa_lv9⟩, trivial⟩⟩) dL_standAnew_5 (fun r h9 hp9 => ?_)
  obtain ⟨v, K', N', rfl, rfl, hP⟩ := hpost r h9 hp9
  show pa_w G x 5 (K', Sm, N', O) (0 + mc') (0 + ms') 8 [some (pv_o 4 0), some (pv_i a0), some (pv_i a1), some (pv_o 9 0), none] [pv_i v, pv_i 0, pv_o 9 0]
  refine pr_i2l (pc := 8) C dL_standAnew_8 ?_
  refine pr_last9 (pc := 9) C rfl dL_standAnew_9 ?_
  refine pr_goto (pc := 10) C 17 dL_standAnew_10 (by decide) ?_
  refine pr_iconst (pc := 17) (v := 0) C dL_standAnew_17 (by decide) ?_
  exact pr_iret (pc := 18) C E (Or.inl rfl) (by omega) (by omega) ⟨rfl, v, K', N', rfl, hP⟩ dL_standAnew_18
set_option maxRecDepth 100000 in
theorem l_standAnewX1 (G : pa_G) (l : Launch) (K : Nat → Nat → Nat → Int32) (Sm : Nat → Nat → Int32) (N : Nat → Nat) (O : Nat → Int64) {d' mc' ms' : Nat} {al' : Bool} (a0 a1 : Int32) (hM : pa_MT G l mX3_standAnew d' [pv_o 4 0, pv_i a0, pv_i a1] (K, Sm, N, O) mc' ms' px_I) : pa_LM G l mL_standAnew hL_standAnew (d' + 1) true [pv_o 4 0, pv_i a0, pv_i a1, pv_o 9 0] (K, Sm, N, O) mc' ms' (fun r h' => r = some (pv_i 1) ∧ h' = (K, Sm, N, O)) := by
  refine pa_goL l (by decide) (by simp [pa_c1l, pa_c1]) (fun _ => rfl) fun x C E XT el e0 ea => ?_
  subst el
  show pa_w G x 5 (K, Sm, N, O) 0 0 0 [some (pv_o 4 0), some (pv_i a0), some (pv_i a1), some (pv_o 9 0), none] []
  refine pr_aload_n (pc := 0) C dL_standAnew_0 rfl ?_
  refine pr_iconst (pc := 1) (v := 0) C dL_standAnew_1 (by decide) ?_
  refine pr_aload_n (pc := 2) C dL_standAnew_2 rfl ?_
  refine pr_iload_n (pc := 3) C dL_standAnew_3 rfl ?_
  refine pr_iload_n (pc := 4) C dL_standAnew_4 rfl ?_
  exact pr_catch (pc := 5) (rest := [pv_i 0, pv_o 9 0]) (As := [pv_i a0, pv_i a1]) (cls := "java/lang/IndexOutOfBoundsException") C E XT ea hM (fun _ q => q) wv_L_57 rfl rfl (Nat.le_refl _) (by decide) (pl_4 _) (by decide) (by omega) (by omega) (by omega) (by omega) [] [] (q1 := 0) (q2 := 10) (hpc := 13) (ct := 13) rfl (fun z hz => by cases hz) (by decide) (by decide) (pa_wi (by decide +kernel) rfl) (by decide +kernel) (j := 1) (kL := 4) (w := 2) (by decide) (Or.inl ⟨dL_standAnew_13, rfl⟩) (nj := 1) (by decide) dL_standAnew_15 dL_standAnew_16 ⟨rfl, rfl⟩ dL_standAnew_5
abbrev mL_hint : pa_Y := (yL_hint, cL_hint, 5, some .int)
abbrev hL_hint : List (Nat × Nat × Nat × Nat) := [(0, 10, 13, 13)]
set_option maxRecDepth 100000 in
theorem l_hintY (G : pa_G) (l : Launch) (K : Nat → Nat → Nat → Int32) (Sm : Nat → Nat → Int32) (N : Nat → Nat) (O : Nat → Int64) {d' mc' ms' : Nat} {al' : Bool} (a0 a1 : Int32) {post0 : Option pa_V → pa_H → Prop} {P : Int32 → (Nat → Nat → Nat → Int32) → (Nat → Nat) → Prop} (hM : pa_M G l mX3_hint d' al' [pv_o 4 0, pv_i a0, pv_i a1] (K, Sm, N, O) mc' ms' post0) (hpost : ∀ r h', post0 r h' → ∃ v K' N', r = some (pv_i v) ∧ h' = (K', Sm, N', O) ∧ P v K' N') : pa_LM G l mL_hint hL_hint (d' + 1) true [pv_o 4 0, pv_i a0, pv_i a1, pv_o 9 0] (K, Sm, N, O) mc' ms' (fun r h' => r = some (pv_i 0) ∧ ∃ v K' N', h' = (K', Sm, N', pa_uo O v.toInt64) ∧ P v K' N') := by
  refine pa_goL l (by decide) (by simp [pa_c1l, pa_c1]) (fun _ => rfl) fun x C E XT el e0 ea => ?_
  subst el
  show pa_w G x 5 (K, Sm, N, O) 0 0 0 [some (pv_o 4 0), some (pv_i a0), some (pv_i a1), some (pv_o 9 0), none] []
  refine pr_aload_n (pc := 0) C dL_hint_0 rfl ?_
  refine pr_iconst (pc := 1) (v := 0) C dL_hint_1 (by decide) ?_
  refine pr_aload_n (pc := 2) C dL_hint_2 rfl ?_
  refine pr_iload_n (pc := 3) C dL_hint_3 rfl ?_
  refine pr_iload_n (pc := 4) C dL_hint_4 rfl ?_
  refine pr_callV0 (pc := 5) (mc' := mc') (ms' := ms') (y := mX3_hint) (rest := [pv_i 0, pv_o 9 0]) (As := [pv_i a0, pv_i a1]) C hM wv_L_60 rfl (Nat.le_refl _) (by decide) (pl_4 _) (by decide) (by omega) (by omega) (fun zz => absurd (ea.symm.trans zz) (by decide)) (fun _ => ⟨⟨trivial, ⟨lr_kn (by decide), pa_lv9⟩, trivial⟩, ⟨⟨lr_kn (by decide), (pl_4 _)⟩, trivial, trivial, ⟨lr_kn (by decide), pa_lv9⟩, trivial⟩⟩) dL_hint_5 (fun r h9 hp9 => ?_)
  obtain ⟨v, K', N', rfl, rfl, hP⟩ := hpost r h9 hp9
  show pa_w G x 5 (K', Sm, N', O) (0 + mc') (0 + ms') 8 [some (pv_o 4 0), some (pv_i a0), some (pv_i a1), some (pv_o 9 0), none] [pv_i v, pv_i 0, pv_o 9 0]
  refine pr_i2l (pc := 8) C dL_hint_8 ?_
  refine pr_last9 (pc := 9) C rfl dL_hint_9 ?_
  refine pr_goto (pc := 10) C 17 dL_hint_10 (by decide) ?_
  refine pr_iconst (pc := 17) (v := 0) C dL_hint_17 (by decide) ?_
  exact pr_iret (pc := 18) C E (Or.inl rfl) (by omega) (by omega) ⟨rfl, v, K', N', rfl, hP⟩ dL_hint_18
set_option maxRecDepth 100000 in
theorem l_hintX1 (G : pa_G) (l : Launch) (K : Nat → Nat → Nat → Int32) (Sm : Nat → Nat → Int32) (N : Nat → Nat) (O : Nat → Int64) {d' mc' ms' : Nat} {al' : Bool} (a0 a1 : Int32) (hM : pa_MT G l mX3_hint d' [pv_o 4 0, pv_i a0, pv_i a1] (K, Sm, N, O) mc' ms' px_I) : pa_LM G l mL_hint hL_hint (d' + 1) true [pv_o 4 0, pv_i a0, pv_i a1, pv_o 9 0] (K, Sm, N, O) mc' ms' (fun r h' => r = some (pv_i 1) ∧ h' = (K, Sm, N, O)) := by
  refine pa_goL l (by decide) (by simp [pa_c1l, pa_c1]) (fun _ => rfl) fun x C E XT el e0 ea => ?_
  subst el
  show pa_w G x 5 (K, Sm, N, O) 0 0 0 [some (pv_o 4 0), some (pv_i a0), some (pv_i a1), some (pv_o 9 0), none] []
  refine pr_aload_n (pc := 0) C dL_hint_0 rfl ?_
  refine pr_iconst (pc := 1) (v := 0) C dL_hint_1 (by decide) ?_
  refine pr_aload_n (pc := 2) C dL_hint_2 rfl ?_
  refine pr_iload_n (pc := 3) C dL_hint_3 rfl ?_
  refine pr_iload_n (pc := 4) C dL_hint_4 rfl ?_
  exact pr_catch (pc := 5) (rest := [pv_i 0, pv_o 9 0]) (As := [pv_i a0, pv_i a1]) (cls := "java/lang/IndexOutOfBoundsException") C E XT ea hM (fun _ q => q) wv_L_60 rfl rfl (Nat.le_refl _) (by decide) (pl_4 _) (by decide) (by omega) (by omega) (by omega) (by omega) [] [] (q1 := 0) (q2 := 10) (hpc := 13) (ct := 13) rfl (fun z hz => by cases hz) (by decide) (by decide) (pa_wi (by decide +kernel) rfl) (by decide +kernel) (j := 1) (kL := 4) (w := 2) (by decide) (Or.inl ⟨dL_hint_13, rfl⟩) (nj := 1) (by decide) dL_hint_15 dL_hint_16 ⟨rfl, rfl⟩ dL_hint_5
abbrev mL_isSupported : pa_Y := (yL_isSupported, cL_isSupported, 5, some .int)
abbrev hL_isSupported : List (Nat × Nat × Nat × Nat) := [(0, 17, 20, 13)]
set_option maxRecDepth 100000 in
theorem l_isSupportedY (G : pa_G) (l : Launch) (K : Nat → Nat → Nat → Int32) (Sm : Nat → Nat → Int32) (N : Nat → Nat) (O : Nat → Int64) {d' mc' ms' : Nat} {al' : Bool} (a0 a1 : Int32) {post0 : Option pa_V → pa_H → Prop} {P : Int32 → (Nat → Nat → Nat → Int32) → (Nat → Nat) → Prop} (hM : pa_M G l mX3_isSupported d' al' [pv_o 4 0, pv_i a0, pv_i a1] (K, Sm, N, O) mc' ms' post0) (hpost : ∀ r h', post0 r h' → ∃ v K' N', r = some (pv_i v) ∧ h' = (K', Sm, N', O) ∧ (v = 0 ∨ v = 1) ∧ P v K' N') : pa_LM G l mL_isSupported hL_isSupported (d' + 1) true [pv_o 4 0, pv_i a0, pv_i a1, pv_o 9 0] (K, Sm, N, O) mc' ms' (fun r h' => r = some (pv_i 0) ∧ ∃ v K' N', h' = (K', Sm, N', pa_uo O v.toInt64) ∧ P v K' N') := by
  refine pa_goL l (by decide) (by simp [pa_c1l, pa_c1]) (fun _ => rfl) fun x C E XT el e0 ea => ?_
  subst el
  show pa_w G x 5 (K, Sm, N, O) 0 0 0 [some (pv_o 4 0), some (pv_i a0), some (pv_i a1), some (pv_o 9 0), none] []
  refine pr_aload_n (pc := 0) C dL_isSupported_0 rfl ?_
  refine pr_iconst (pc := 1) (v := 0) C dL_isSupported_1 (by decide) ?_
  refine pr_aload_n (pc := 2) C dL_isSupported_2 rfl ?_
  refine pr_iload_n (pc := 3) C dL_isSupported_3 rfl ?_
  refine pr_iload_n (pc := 4) C dL_isSupported_4 rfl ?_
  refine pr_callV0 (pc := 5) (mc' := mc') (ms' := ms') (y := mX3_isSupported) (rest := [pv_i 0, pv_o 9 0]) (As := [pv_i a0, pv_i a1]) C hM wv_L_63 rfl (Nat.le_refl _) (by decide) (pl_4 _) (by decide) (by omega) (by omega) (fun zz => absurd (ea.symm.trans zz) (by decide)) (fun _ => ⟨⟨trivial, ⟨lr_kn (by decide), pa_lv9⟩, trivial⟩, ⟨⟨lr_kn (by decide), (pl_4 _)⟩, trivial, trivial, ⟨lr_kn (by decide), pa_lv9⟩, trivial⟩⟩) dL_isSupported_5 (fun r h9 hp9 => ?_)
  obtain ⟨v, K', N', rfl, rfl, hv, hP⟩ := hpost r h9 hp9
  show pa_w G x 5 (K', Sm, N', O) (0 + mc') (0 + ms') 8 [some (pv_o 4 0), some (pv_i a0), some (pv_i a1), some (pv_o 9 0), none] [pv_i v, pv_i 0, pv_o 9 0]
  rcases hv with rfl | rfl
  · skip
    refine pr_if_eq (pc := 8) C 15 dL_isSupported_8 (by decide) (fun _ => ?_) (fun cc9 => absurd rfl cc9)
    refine pr_lconst (pc := 15) (v := 0) C dL_isSupported_15 (by decide) ?_
    refine pr_last9 (pc := 16) C rfl dL_isSupported_16 ?_
    refine pr_goto (pc := 17) C 24 dL_isSupported_17 (by decide) ?_
    refine pr_iconst (pc := 24) (v := 0) C dL_isSupported_24 (by decide) ?_
    exact pr_iret (pc := 25) C E (Or.inl rfl) (by omega) (by omega) ⟨rfl, 0, K', N', rfl, hP⟩ dL_isSupported_25
  · skip
    refine pr_if_eq (pc := 8) C 15 dL_isSupported_8 (by decide) (fun cc9 => absurd cc9 (by decide)) (fun _ => ?_)
    refine pr_lconst (pc := 11) (v := 1) C dL_isSupported_11 (by decide) ?_
    refine pr_goto (pc := 12) C 16 dL_isSupported_12 (by decide) ?_
    refine pr_last9 (pc := 16) C rfl dL_isSupported_16 ?_
    refine pr_goto (pc := 17) C 24 dL_isSupported_17 (by decide) ?_
    refine pr_iconst (pc := 24) (v := 0) C dL_isSupported_24 (by decide) ?_
    exact pr_iret (pc := 25) C E (Or.inl rfl) (by omega) (by omega) ⟨rfl, 1, K', N', rfl, hP⟩ dL_isSupported_25
set_option maxRecDepth 100000 in
theorem l_isSupportedX1 (G : pa_G) (l : Launch) (K : Nat → Nat → Nat → Int32) (Sm : Nat → Nat → Int32) (N : Nat → Nat) (O : Nat → Int64) {d' mc' ms' : Nat} {al' : Bool} (a0 a1 : Int32) (hM : pa_MT G l mX3_isSupported d' [pv_o 4 0, pv_i a0, pv_i a1] (K, Sm, N, O) mc' ms' px_I) : pa_LM G l mL_isSupported hL_isSupported (d' + 1) true [pv_o 4 0, pv_i a0, pv_i a1, pv_o 9 0] (K, Sm, N, O) mc' ms' (fun r h' => r = some (pv_i 1) ∧ h' = (K, Sm, N, O)) := by
  refine pa_goL l (by decide) (by simp [pa_c1l, pa_c1]) (fun _ => rfl) fun x C E XT el e0 ea => ?_
  subst el
  show pa_w G x 5 (K, Sm, N, O) 0 0 0 [some (pv_o 4 0), some (pv_i a0), some (pv_i a1), some (pv_o 9 0), none] []
  refine pr_aload_n (pc := 0) C dL_isSupported_0 rfl ?_
  refine pr_iconst (pc := 1) (v := 0) C dL_isSupported_1 (by decide) ?_
  refine pr_aload_n (pc := 2) C dL_isSupported_2 rfl ?_
  refine pr_iload_n (pc := 3) C dL_isSupported_3 rfl ?_
  refine pr_iload_n (pc := 4) C dL_isSupported_4 rfl ?_
  exact pr_catch (pc := 5) (rest := [pv_i 0, pv_o 9 0]) (As := [pv_i a0, pv_i a1]) (cls := "java/lang/IndexOutOfBoundsException") C E XT ea hM (fun _ q => q) wv_L_63 rfl rfl (Nat.le_refl _) (by decide) (pl_4 _) (by decide) (by omega) (by omega) (by omega) (by omega) [] [] (q1 := 0) (q2 := 17) (hpc := 20) (ct := 13) rfl (fun z hz => by cases hz) (by decide) (by decide) (pa_wi (by decide +kernel) rfl) (by decide +kernel) (j := 1) (kL := 4) (w := 2) (by decide) (Or.inl ⟨dL_isSupported_20, rfl⟩) (nj := 1) (by decide) dL_isSupported_22 dL_isSupported_23 ⟨rfl, rfl⟩ dL_isSupported_5
abbrev mL_lies : pa_Y := (yL_lies, cL_lies, 4, some .int)
abbrev hL_lies : List (Nat × Nat × Nat × Nat) := [(0, 9, 12, 13)]
set_option maxRecDepth 100000 in
theorem l_liesY (G : pa_G) (l : Launch) (K : Nat → Nat → Nat → Int32) (Sm : Nat → Nat → Int32) (N : Nat → Nat) (O : Nat → Int64) {d' mc' ms' : Nat} {al' : Bool} (a0 : Int32) {post0 : Option pa_V → pa_H → Prop} {P : Int32 → (Nat → Nat → Nat → Int32) → (Nat → Nat) → Prop} (hM : pa_M G l mX3_lies d' al' [pv_o 4 0, pv_i a0] (K, Sm, N, O) mc' ms' post0) (hpost : ∀ r h', post0 r h' → ∃ v K' N', r = some (pv_i v) ∧ h' = (K', Sm, N', O) ∧ P v K' N') : pa_LM G l mL_lies hL_lies (d' + 1) true [pv_o 4 0, pv_i a0, pv_o 9 0] (K, Sm, N, O) mc' ms' (fun r h' => r = some (pv_i 0) ∧ ∃ v K' N', h' = (K', Sm, N', pa_uo O v.toInt64) ∧ P v K' N') := by
  refine pa_goL l (by decide) (by simp [pa_c1l, pa_c1]) (fun _ => rfl) fun x C E XT el e0 ea => ?_
  subst el
  show pa_w G x 4 (K, Sm, N, O) 0 0 0 [some (pv_o 4 0), some (pv_i a0), some (pv_o 9 0), none] []
  refine pr_aload_n (pc := 0) C dL_lies_0 rfl ?_
  refine pr_iconst (pc := 1) (v := 0) C dL_lies_1 (by decide) ?_
  refine pr_aload_n (pc := 2) C dL_lies_2 rfl ?_
  refine pr_iload_n (pc := 3) C dL_lies_3 rfl ?_
  refine pr_callV0 (pc := 4) (mc' := mc') (ms' := ms') (y := mX3_lies) (rest := [pv_i 0, pv_o 9 0]) (As := [pv_i a0]) C hM wv_L_67 rfl (Nat.le_refl _) (by decide) (pl_4 _) (by decide) (by omega) (by omega) (fun zz => absurd (ea.symm.trans zz) (by decide)) (fun _ => ⟨⟨trivial, ⟨lr_kn (by decide), pa_lv9⟩, trivial⟩, ⟨⟨lr_kn (by decide), (pl_4 _)⟩, trivial, ⟨lr_kn (by decide), pa_lv9⟩, trivial⟩⟩) dL_lies_4 (fun r h9 hp9 => ?_)
  obtain ⟨v, K', N', rfl, rfl, hP⟩ := hpost r h9 hp9
  show pa_w G x 4 (K', Sm, N', O) (0 + mc') (0 + ms') 7 [some (pv_o 4 0), some (pv_i a0), some (pv_o 9 0), none] [pv_i v, pv_i 0, pv_o 9 0]
  refine pr_i2l (pc := 7) C dL_lies_7 ?_
  refine pr_last9 (pc := 8) C rfl dL_lies_8 ?_
  refine pr_goto (pc := 9) C 15 dL_lies_9 (by decide) ?_
  refine pr_iconst (pc := 15) (v := 0) C dL_lies_15 (by decide) ?_
  exact pr_iret (pc := 16) C E (Or.inl rfl) (by omega) (by omega) ⟨rfl, v, K', N', rfl, hP⟩ dL_lies_16
set_option maxRecDepth 100000 in
theorem l_liesX1 (G : pa_G) (l : Launch) (K : Nat → Nat → Nat → Int32) (Sm : Nat → Nat → Int32) (N : Nat → Nat) (O : Nat → Int64) {d' mc' ms' : Nat} {al' : Bool} (a0 : Int32) (hM : pa_MT G l mX3_lies d' [pv_o 4 0, pv_i a0] (K, Sm, N, O) mc' ms' px_I) : pa_LM G l mL_lies hL_lies (d' + 1) true [pv_o 4 0, pv_i a0, pv_o 9 0] (K, Sm, N, O) mc' ms' (fun r h' => r = some (pv_i 1) ∧ h' = (K, Sm, N, O)) := by
  refine pa_goL l (by decide) (by simp [pa_c1l, pa_c1]) (fun _ => rfl) fun x C E XT el e0 ea => ?_
  subst el
  show pa_w G x 4 (K, Sm, N, O) 0 0 0 [some (pv_o 4 0), some (pv_i a0), some (pv_o 9 0), none] []
  refine pr_aload_n (pc := 0) C dL_lies_0 rfl ?_
  refine pr_iconst (pc := 1) (v := 0) C dL_lies_1 (by decide) ?_
  refine pr_aload_n (pc := 2) C dL_lies_2 rfl ?_
  refine pr_iload_n (pc := 3) C dL_lies_3 rfl ?_
  exact pr_catch (pc := 4) (rest := [pv_i 0, pv_o 9 0]) (As := [pv_i a0]) (cls := "java/lang/IndexOutOfBoundsException") C E XT ea hM (fun _ q => q) wv_L_67 rfl rfl (Nat.le_refl _) (by decide) (pl_4 _) (by decide) (by omega) (by omega) (by omega) (by omega) [] [] (q1 := 0) (q2 := 9) (hpc := 12) (ct := 13) rfl (fun z hz => by cases hz) (by decide) (by decide) (pa_wi (by decide +kernel) rfl) (by decide +kernel) (j := 1) (kL := 3) (w := 1) (by decide) (Or.inr ⟨3, rfl, dL_lies_12, rfl⟩) (nj := 1) (by decide) dL_lies_13 dL_lies_14 ⟨rfl, rfl⟩ dL_lies_4
abbrev mL_ground : pa_Y := (yL_ground, cL_ground, 5, some .int)
abbrev hL_ground : List (Nat × Nat × Nat × Nat) := [(0, 10, 13, 13), (0, 10, 17, 15)]
set_option maxRecDepth 100000 in
theorem l_groundY (G : pa_G) (l : Launch) (K : Nat → Nat → Nat → Int32) (Sm : Nat → Nat → Int32) (N : Nat → Nat) (O : Nat → Int64) {d' mc' ms' : Nat} {al' : Bool} (a0 a1 : Int32) {post0 : Option pa_V → pa_H → Prop} {P : Int32 → (Nat → Nat → Nat → Int32) → (Nat → Nat) → Prop} (hM : pa_M G l mX3_ground d' al' [pv_o 4 0, pv_i a0, pv_i a1] (K, Sm, N, O) mc' ms' post0) (hpost : ∀ r h', post0 r h' → ∃ v K' N', r = some (pv_i v) ∧ h' = (K', Sm, N', O) ∧ P v K' N') : pa_LM G l mL_ground hL_ground (d' + 1) true [pv_o 4 0, pv_i a0, pv_i a1, pv_o 9 0] (K, Sm, N, O) mc' ms' (fun r h' => r = some (pv_i 0) ∧ ∃ v K' N', h' = (K', Sm, N', pa_uo O v.toInt64) ∧ P v K' N') := by
  refine pa_goL l (by decide) (by simp [pa_c1l, pa_c1]) (fun _ => rfl) fun x C E XT el e0 ea => ?_
  subst el
  show pa_w G x 5 (K, Sm, N, O) 0 0 0 [some (pv_o 4 0), some (pv_i a0), some (pv_i a1), some (pv_o 9 0), none] []
  refine pr_aload_n (pc := 0) C dL_ground_0 rfl ?_
  refine pr_iconst (pc := 1) (v := 0) C dL_ground_1 (by decide) ?_
  refine pr_aload_n (pc := 2) C dL_ground_2 rfl ?_
  refine pr_iload_n (pc := 3) C dL_ground_3 rfl ?_
  refine pr_iload_n (pc := 4) C dL_ground_4 rfl ?_
  refine pr_callV0 (pc := 5) (mc' := mc') (ms' := ms') (y := mX3_ground) (rest := [pv_i 0, pv_o 9 0]) (As := [pv_i a0, pv_i a1]) C hM wv_L_70 rfl (Nat.le_refl _) (by decide) (pl_4 _) (by decide) (by omega) (by omega) (fun zz => absurd (ea.symm.trans zz) (by decide)) (fun _ => ⟨⟨trivial, ⟨lr_kn (by decide), pa_lv9⟩, trivial⟩, ⟨⟨lr_kn (by decide), (pl_4 _)⟩, trivial, trivial, ⟨lr_kn (by decide), pa_lv9⟩, trivial⟩⟩) dL_ground_5 (fun r h9 hp9 => ?_)
  obtain ⟨v, K', N', rfl, rfl, hP⟩ := hpost r h9 hp9
  show pa_w G x 5 (K', Sm, N', O) (0 + mc') (0 + ms') 8 [some (pv_o 4 0), some (pv_i a0), some (pv_i a1), some (pv_o 9 0), none] [pv_i v, pv_i 0, pv_o 9 0]
  refine pr_i2l (pc := 8) C dL_ground_8 ?_
  refine pr_last9 (pc := 9) C rfl dL_ground_9 ?_
  refine pr_goto (pc := 10) C 21 dL_ground_10 (by decide) ?_
  refine pr_iconst (pc := 21) (v := 0) C dL_ground_21 (by decide) ?_
  exact pr_iret (pc := 22) C E (Or.inl rfl) (by omega) (by omega) ⟨rfl, v, K', N', rfl, hP⟩ dL_ground_22
set_option maxRecDepth 100000 in
theorem l_groundX1 (G : pa_G) (l : Launch) (K : Nat → Nat → Nat → Int32) (Sm : Nat → Nat → Int32) (N : Nat → Nat) (O : Nat → Int64) {d' mc' ms' : Nat} {al' : Bool} (a0 a1 : Int32) (hM : pa_MT G l mX3_ground d' [pv_o 4 0, pv_i a0, pv_i a1] (K, Sm, N, O) mc' ms' px_I) : pa_LM G l mL_ground hL_ground (d' + 1) true [pv_o 4 0, pv_i a0, pv_i a1, pv_o 9 0] (K, Sm, N, O) mc' ms' (fun r h' => r = some (pv_i 1) ∧ h' = (K, Sm, N, O)) := by
  refine pa_goL l (by decide) (by simp [pa_c1l, pa_c1]) (fun _ => rfl) fun x C E XT el e0 ea => ?_
  subst el
  show pa_w G x 5 (K, Sm, N, O) 0 0 0 [some (pv_o 4 0), some (pv_i a0), some (pv_i a1), some (pv_o 9 0), none] []
  refine pr_aload_n (pc := 0) C dL_ground_0 rfl ?_
  refine pr_iconst (pc := 1) (v := 0) C dL_ground_1 (by decide) ?_
  refine pr_aload_n (pc := 2) C dL_ground_2 rfl ?_
  refine pr_iload_n (pc := 3) C dL_ground_3 rfl ?_
  refine pr_iload_n (pc := 4) C dL_ground_4 rfl ?_
  exact pr_catch (pc := 5) (rest := [pv_i 0, pv_o 9 0]) (As := [pv_i a0, pv_i a1]) (cls := "java/lang/IndexOutOfBoundsException") C E XT ea hM (fun _ q => q) wv_L_70 rfl rfl (Nat.le_refl _) (by decide) (pl_4 _) (by decide) (by omega) (by omega) (by omega) (by omega) [] [(0, 10, 17, 15)] (q1 := 0) (q2 := 10) (hpc := 13) (ct := 13) rfl (fun z hz => by cases hz) (by decide) (by decide) (pa_wi (by decide +kernel) rfl) (by decide +kernel) (j := 1) (kL := 4) (w := 2) (by decide) (Or.inl ⟨dL_ground_13, rfl⟩) (nj := 1) (by decide) dL_ground_15 dL_ground_16 ⟨rfl, rfl⟩ dL_ground_5
set_option maxRecDepth 100000 in
theorem l_groundX2 (G : pa_G) (l : Launch) (K : Nat → Nat → Nat → Int32) (Sm : Nat → Nat → Int32) (N : Nat → Nat) (O : Nat → Int64) {d' mc' ms' : Nat} {al' : Bool} (a0 a1 : Int32) (hM : pa_MT G l mX3_ground d' [pv_o 4 0, pv_i a0, pv_i a1] (K, Sm, N, O) mc' ms' px_A) : pa_LM G l mL_ground hL_ground (d' + 1) true [pv_o 4 0, pv_i a0, pv_i a1, pv_o 9 0] (K, Sm, N, O) mc' ms' (fun r h' => r = some (pv_i 2) ∧ h' = (K, Sm, N, O)) := by
  refine pa_goL l (by decide) (by simp [pa_c1l, pa_c1]) (fun _ => rfl) fun x C E XT el e0 ea => ?_
  subst el
  show pa_w G x 5 (K, Sm, N, O) 0 0 0 [some (pv_o 4 0), some (pv_i a0), some (pv_i a1), some (pv_o 9 0), none] []
  refine pr_aload_n (pc := 0) C dL_ground_0 rfl ?_
  refine pr_iconst (pc := 1) (v := 0) C dL_ground_1 (by decide) ?_
  refine pr_aload_n (pc := 2) C dL_ground_2 rfl ?_
  refine pr_iload_n (pc := 3) C dL_ground_3 rfl ?_
  refine pr_iload_n (pc := 4) C dL_ground_4 rfl ?_
  exact pr_catch (pc := 5) (rest := [pv_i 0, pv_o 9 0]) (As := [pv_i a0, pv_i a1]) (cls := "java/lang/IllegalArgumentException") C E XT ea hM (fun _ q => q) wv_L_70 rfl rfl (Nat.le_refl _) (by decide) (pl_4 _) (by decide) (by omega) (by omega) (by omega) (by omega) [(0, 10, 13, 13)] [] (q1 := 0) (q2 := 10) (hpc := 17) (ct := 15) rfl (fun z hz => by
      simp only [List.mem_cons, List.not_mem_nil, or_false] at hz
      subst hz
      exact ⟨by decide, "java/lang/IndexOutOfBoundsException", pa_wi (by decide +kernel) rfl, by decide +kernel⟩) (by decide) (by decide) (pa_wi (by decide +kernel) rfl) (by decide +kernel) (j := 2) (kL := 4) (w := 2) (by decide) (Or.inl ⟨dL_ground_17, rfl⟩) (nj := 2) (by decide) dL_ground_19 dL_ground_20 ⟨rfl, rfl⟩ dL_ground_5
abbrev mL_question : pa_Y := (yL_question, cL_question, 5, some .int)
abbrev hL_question : List (Nat × Nat × Nat × Nat) := [(0, 10, 13, 13), (0, 10, 17, 15)]
set_option maxRecDepth 100000 in
theorem l_questionY (G : pa_G) (l : Launch) (K : Nat → Nat → Nat → Int32) (Sm : Nat → Nat → Int32) (N : Nat → Nat) (O : Nat → Int64) {d' mc' ms' : Nat} {al' : Bool} (a0 a1 : Int32) {post0 : Option pa_V → pa_H → Prop} {P : Int32 → (Nat → Nat → Nat → Int32) → (Nat → Nat) → Prop} (hM : pa_M G l mX3_question d' al' [pv_o 4 0, pv_i a0, pv_i a1] (K, Sm, N, O) mc' ms' post0) (hpost : ∀ r h', post0 r h' → ∃ v K' N', r = some (pv_i v) ∧ h' = (K', Sm, N', O) ∧ P v K' N') : pa_LM G l mL_question hL_question (d' + 1) true [pv_o 4 0, pv_i a0, pv_i a1, pv_o 9 0] (K, Sm, N, O) mc' ms' (fun r h' => r = some (pv_i 0) ∧ ∃ v K' N', h' = (K', Sm, N', pa_uo O v.toInt64) ∧ P v K' N') := by
  refine pa_goL l (by decide) (by simp [pa_c1l, pa_c1]) (fun _ => rfl) fun x C E XT el e0 ea => ?_
  subst el
  show pa_w G x 5 (K, Sm, N, O) 0 0 0 [some (pv_o 4 0), some (pv_i a0), some (pv_i a1), some (pv_o 9 0), none] []
  refine pr_aload_n (pc := 0) C dL_question_0 rfl ?_
  refine pr_iconst (pc := 1) (v := 0) C dL_question_1 (by decide) ?_
  refine pr_aload_n (pc := 2) C dL_question_2 rfl ?_
  refine pr_iload_n (pc := 3) C dL_question_3 rfl ?_
  refine pr_iload_n (pc := 4) C dL_question_4 rfl ?_
  refine pr_callV0 (pc := 5) (mc' := mc') (ms' := ms') (y := mX3_question) (rest := [pv_i 0, pv_o 9 0]) (As := [pv_i a0, pv_i a1]) C hM wv_L_73 rfl (Nat.le_refl _) (by decide) (pl_4 _) (by decide) (by omega) (by omega) (fun zz => absurd (ea.symm.trans zz) (by decide)) (fun _ => ⟨⟨trivial, ⟨lr_kn (by decide), pa_lv9⟩, trivial⟩, ⟨⟨lr_kn (by decide), (pl_4 _)⟩, trivial, trivial, ⟨lr_kn (by decide), pa_lv9⟩, trivial⟩⟩) dL_question_5 (fun r h9 hp9 => ?_)
  obtain ⟨v, K', N', rfl, rfl, hP⟩ := hpost r h9 hp9
  show pa_w G x 5 (K', Sm, N', O) (0 + mc') (0 + ms') 8 [some (pv_o 4 0), some (pv_i a0), some (pv_i a1), some (pv_o 9 0), none] [pv_i v, pv_i 0, pv_o 9 0]
  refine pr_i2l (pc := 8) C dL_question_8 ?_
  refine pr_last9 (pc := 9) C rfl dL_question_9 ?_
  refine pr_goto (pc := 10) C 21 dL_question_10 (by decide) ?_
  refine pr_iconst (pc := 21) (v := 0) C dL_question_21 (by decide) ?_
  exact pr_iret (pc := 22) C E (Or.inl rfl) (by omega) (by omega) ⟨rfl, v, K', N', rfl, hP⟩ dL_question_22
set_option maxRecDepth 100000 in
theorem l_questionX1 (G : pa_G) (l : Launch) (K : Nat → Nat → Nat → Int32) (Sm : Nat → Nat → Int32) (N : Nat → Nat) (O : Nat → Int64) {d' mc' ms' : Nat} {al' : Bool} (a0 a1 : Int32) (hM : pa_MT G l mX3_question d' [pv_o 4 0, pv_i a0, pv_i a1] (K, Sm, N, O) mc' ms' px_I) : pa_LM G l mL_question hL_question (d' + 1) true [pv_o 4 0, pv_i a0, pv_i a1, pv_o 9 0] (K, Sm, N, O) mc' ms' (fun r h' => r = some (pv_i 1) ∧ h' = (K, Sm, N, O)) := by
  refine pa_goL l (by decide) (by simp [pa_c1l, pa_c1]) (fun _ => rfl) fun x C E XT el e0 ea => ?_
  subst el
  show pa_w G x 5 (K, Sm, N, O) 0 0 0 [some (pv_o 4 0), some (pv_i a0), some (pv_i a1), some (pv_o 9 0), none] []
  refine pr_aload_n (pc := 0) C dL_question_0 rfl ?_
  refine pr_iconst (pc := 1) (v := 0) C dL_question_1 (by decide) ?_
  refine pr_aload_n (pc := 2) C dL_question_2 rfl ?_
  refine pr_iload_n (pc := 3) C dL_question_3 rfl ?_
  refine pr_iload_n (pc := 4) C dL_question_4 rfl ?_
  exact pr_catch (pc := 5) (rest := [pv_i 0, pv_o 9 0]) (As := [pv_i a0, pv_i a1]) (cls := "java/lang/IndexOutOfBoundsException") C E XT ea hM (fun _ q => q) wv_L_73 rfl rfl (Nat.le_refl _) (by decide) (pl_4 _) (by decide) (by omega) (by omega) (by omega) (by omega) [] [(0, 10, 17, 15)] (q1 := 0) (q2 := 10) (hpc := 13) (ct := 13) rfl (fun z hz => by cases hz) (by decide) (by decide) (pa_wi (by decide +kernel) rfl) (by decide +kernel) (j := 1) (kL := 4) (w := 2) (by decide) (Or.inl ⟨dL_question_13, rfl⟩) (nj := 1) (by decide) dL_question_15 dL_question_16 ⟨rfl, rfl⟩ dL_question_5
set_option maxRecDepth 100000 in
theorem l_questionX2 (G : pa_G) (l : Launch) (K : Nat → Nat → Nat → Int32) (Sm : Nat → Nat → Int32) (N : Nat → Nat) (O : Nat → Int64) {d' mc' ms' : Nat} {al' : Bool} (a0 a1 : Int32) (hM : pa_MT G l mX3_question d' [pv_o 4 0, pv_i a0, pv_i a1] (K, Sm, N, O) mc' ms' px_A) : pa_LM G l mL_question hL_question (d' + 1) true [pv_o 4 0, pv_i a0, pv_i a1, pv_o 9 0] (K, Sm, N, O) mc' ms' (fun r h' => r = some (pv_i 2) ∧ h' = (K, Sm, N, O)) := by
  refine pa_goL l (by decide) (by simp [pa_c1l, pa_c1]) (fun _ => rfl) fun x C E XT el e0 ea => ?_
  subst el
  show pa_w G x 5 (K, Sm, N, O) 0 0 0 [some (pv_o 4 0), some (pv_i a0), some (pv_i a1), some (pv_o 9 0), none] []
  refine pr_aload_n (pc := 0) C dL_question_0 rfl ?_
  refine pr_iconst (pc := 1) (v := 0) C dL_question_1 (by decide) ?_
  refine pr_aload_n (pc := 2) C dL_question_2 rfl ?_
  refine pr_iload_n (pc := 3) C dL_question_3 rfl ?_
  refine pr_iload_n (pc := 4) C dL_question_4 rfl ?_
  exact pr_catch (pc := 5) (rest := [pv_i 0, pv_o 9 0]) (As := [pv_i a0, pv_i a1]) (cls := "java/lang/IllegalArgumentException") C E XT ea hM (fun _ q => q) wv_L_73 rfl rfl (Nat.le_refl _) (by decide) (pl_4 _) (by decide) (by omega) (by omega) (by omega) (by omega) [(0, 10, 13, 13)] [] (q1 := 0) (q2 := 10) (hpc := 17) (ct := 15) rfl (fun z hz => by
      simp only [List.mem_cons, List.not_mem_nil, or_false] at hz
      subst hz
      exact ⟨by decide, "java/lang/IndexOutOfBoundsException", pa_wi (by decide +kernel) rfl, by decide +kernel⟩) (by decide) (by decide) (pa_wi (by decide +kernel) rfl) (by decide +kernel) (j := 2) (kL := 4) (w := 2) (by decide) (Or.inl ⟨dL_question_17, rfl⟩) (nj := 2) (by decide) dL_question_19 dL_question_20 ⟨rfl, rfl⟩ dL_question_5
abbrev mL_owner : pa_Y := (yL_owner, cL_owner, 4, some .int)
abbrev hL_owner : List (Nat × Nat × Nat × Nat) := [(0, 9, 12, 13)]
set_option maxRecDepth 100000 in
theorem l_ownerY (G : pa_G) (l : Launch) (K : Nat → Nat → Nat → Int32) (Sm : Nat → Nat → Int32) (N : Nat → Nat) (O : Nat → Int64) {d' mc' ms' : Nat} {al' : Bool} (a0 : Int32) {post0 : Option pa_V → pa_H → Prop} {P : Int32 → (Nat → Nat → Nat → Int32) → (Nat → Nat) → Prop} (hM : pa_M G l mX3_owner d' al' [pv_o 4 0, pv_i a0] (K, Sm, N, O) mc' ms' post0) (hpost : ∀ r h', post0 r h' → ∃ v K' N', r = some (pv_i v) ∧ h' = (K', Sm, N', O) ∧ P v K' N') : pa_LM G l mL_owner hL_owner (d' + 1) true [pv_o 4 0, pv_i a0, pv_o 9 0] (K, Sm, N, O) mc' ms' (fun r h' => r = some (pv_i 0) ∧ ∃ v K' N', h' = (K', Sm, N', pa_uo O v.toInt64) ∧ P v K' N') := by
  refine pa_goL l (by decide) (by simp [pa_c1l, pa_c1]) (fun _ => rfl) fun x C E XT el e0 ea => ?_
  subst el
  show pa_w G x 4 (K, Sm, N, O) 0 0 0 [some (pv_o 4 0), some (pv_i a0), some (pv_o 9 0), none] []
  refine pr_aload_n (pc := 0) C dL_owner_0 rfl ?_
  refine pr_iconst (pc := 1) (v := 0) C dL_owner_1 (by decide) ?_
  refine pr_aload_n (pc := 2) C dL_owner_2 rfl ?_
  refine pr_iload_n (pc := 3) C dL_owner_3 rfl ?_
  refine pr_callV0 (pc := 4) (mc' := mc') (ms' := ms') (y := mX3_owner) (rest := [pv_i 0, pv_o 9 0]) (As := [pv_i a0]) C hM wv_L_76 rfl (Nat.le_refl _) (by decide) (pl_4 _) (by decide) (by omega) (by omega) (fun zz => absurd (ea.symm.trans zz) (by decide)) (fun _ => ⟨⟨trivial, ⟨lr_kn (by decide), pa_lv9⟩, trivial⟩, ⟨⟨lr_kn (by decide), (pl_4 _)⟩, trivial, ⟨lr_kn (by decide), pa_lv9⟩, trivial⟩⟩) dL_owner_4 (fun r h9 hp9 => ?_)
  obtain ⟨v, K', N', rfl, rfl, hP⟩ := hpost r h9 hp9
  show pa_w G x 4 (K', Sm, N', O) (0 + mc') (0 + ms') 7 [some (pv_o 4 0), some (pv_i a0), some (pv_o 9 0), none] [pv_i v, pv_i 0, pv_o 9 0]
  refine pr_i2l (pc := 7) C dL_owner_7 ?_
  refine pr_last9 (pc := 8) C rfl dL_owner_8 ?_
  refine pr_goto (pc := 9) C 15 dL_owner_9 (by decide) ?_
  refine pr_iconst (pc := 15) (v := 0) C dL_owner_15 (by decide) ?_
  exact pr_iret (pc := 16) C E (Or.inl rfl) (by omega) (by omega) ⟨rfl, v, K', N', rfl, hP⟩ dL_owner_16
set_option maxRecDepth 100000 in
theorem l_ownerX1 (G : pa_G) (l : Launch) (K : Nat → Nat → Nat → Int32) (Sm : Nat → Nat → Int32) (N : Nat → Nat) (O : Nat → Int64) {d' mc' ms' : Nat} {al' : Bool} (a0 : Int32) (hM : pa_MT G l mX3_owner d' [pv_o 4 0, pv_i a0] (K, Sm, N, O) mc' ms' px_I) : pa_LM G l mL_owner hL_owner (d' + 1) true [pv_o 4 0, pv_i a0, pv_o 9 0] (K, Sm, N, O) mc' ms' (fun r h' => r = some (pv_i 1) ∧ h' = (K, Sm, N, O)) := by
  refine pa_goL l (by decide) (by simp [pa_c1l, pa_c1]) (fun _ => rfl) fun x C E XT el e0 ea => ?_
  subst el
  show pa_w G x 4 (K, Sm, N, O) 0 0 0 [some (pv_o 4 0), some (pv_i a0), some (pv_o 9 0), none] []
  refine pr_aload_n (pc := 0) C dL_owner_0 rfl ?_
  refine pr_iconst (pc := 1) (v := 0) C dL_owner_1 (by decide) ?_
  refine pr_aload_n (pc := 2) C dL_owner_2 rfl ?_
  refine pr_iload_n (pc := 3) C dL_owner_3 rfl ?_
  exact pr_catch (pc := 4) (rest := [pv_i 0, pv_o 9 0]) (As := [pv_i a0]) (cls := "java/lang/IndexOutOfBoundsException") C E XT ea hM (fun _ q => q) wv_L_76 rfl rfl (Nat.le_refl _) (by decide) (pl_4 _) (by decide) (by omega) (by omega) (by omega) (by omega) [] [] (q1 := 0) (q2 := 9) (hpc := 12) (ct := 13) rfl (fun z hz => by cases hz) (by decide) (by decide) (pa_wi (by decide +kernel) rfl) (by decide +kernel) (j := 1) (kL := 3) (w := 1) (by decide) (Or.inr ⟨3, rfl, dL_owner_12, rfl⟩) (nj := 1) (by decide) dL_owner_13 dL_owner_14 ⟨rfl, rfl⟩ dL_owner_4
