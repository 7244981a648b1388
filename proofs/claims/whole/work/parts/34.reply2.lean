/-! THE CLASS: a turn that replies is performed; what else carrying out a turn writes -/
set_option maxRecDepth 100000 in
set_option maxHeartbeats 4000000 in
theorem c_X3_perform4 (G : pa_G) (l : Launch) (K : Nat → Nat → Nat → Int32) (Sm S : Nat → Nat → Int32) (N : Nat → Nat) (O : Nat → Int64) (T D e : Nat) (z : sj_Z) (hs : sj_M K N T D z e S) (t w u wu : Nat) (hM : mw_S S T) (hJs : mj_s S) (hJq : mj_q S) (ht : t < T) (hw : S 218 t = nI w) (hw4 : w < 4) (ha : S 219 t = nI 4) (hu : u < T) (hab : S 220 t = nI u) (hwu : S 218 u = nI wu) (hwu4 : wu < 4) : pa_M G l mX3_perform 12 true [pv_o 4 0, pv_o 3 t] (K, Sm, N, O) 2 1520 (sj_post none Sm O T D z e (pa_us S 228 (4 * u + w) 4)) := by
  refine pa_go l (by decide) (by simp [pa_c1l, pa_c1]) (fun _ => rfl) fun x C E el ea => ?_
  subst el
  have hT := hM.1.1
  have hTD := sj_TD hs
  show pa_w G x 2 (K, Sm, N, O) 0 0 0 [some (pv_o 4 0), some (pv_o 3 t)] []
  refine pr_aload_n (pc := 0) C dX3_perform_0 rfl ?_
  refine pr_geti (pc := 1) C 121 wf_X3_161 rfl (by decide) (pl_3 (sj_n0 hs (by first | assumption | omega))) dX3_perform_1 ?_
  refine pr_eqi (v := S 219 t) (sj_r121 hs (by first | assumption | omega)) ?_
  refine pr_eqi ha ?_
  refine pr_tableIn (pc := 4) C 192 dX3_perform_4 (by decide) (by decide) (off := 188) (by decide) (by decide) ?_
  refine pr_aload_n (pc := 192) C dX3_perform_192 rfl ?_
  refine pr_aload_n (pc := 193) C dX3_perform_193 rfl ?_
  refine pr_aload_n (pc := 194) C dX3_perform_194 rfl ?_
  refine pr_aload_n (pc := 195) C dX3_perform_195 rfl ?_
  refine pr_geti (pc := 196) C 126 wf_X3_164 rfl (by decide) (pl_3 (sj_n0 hs (by first | assumption | omega))) dX3_perform_196 ?_
  refine pr_eqi (v := S 220 t) (sj_r126 hs (by first | assumption | omega)) ?_
  refine pr_eqi hab ?_
  refine pr_vP (pc := 199) C (c_X3_turnAtY G _ K Sm S N O T D e z hs u (by first | assumption | omega) hT) wv_X3_151 rfl rfl (by decide) (by decide) (pl_4 _) (Nat.le_of_ble_eq_true rfl) (by omega) (by omega) dX3_perform_199 ?_
  refine pr_vC0 (pc := 202) (rest := []) C (c_X3_performReply4 G _ K Sm S N O T D e z hs t u w wu hM ht hu hw hw4 ha hwu hwu4 ) wv_X3_347 rfl rfl (by decide) (by decide) (pl_4 _) (by decide) (by omega) (by omega) (fun z => absurd (ea.symm.trans z) (by decide)) (fun _ => ⟨trivial, ⟨⟨lr_kn (by decide), (pl_4 _)⟩, ⟨⟨lr_kn (by decide), (pl_3 (sj_n0 hs (by first | assumption | omega)))⟩, trivial⟩⟩⟩) dX3_perform_202 ?_
  intro K N hs
  exact pr_vret (pc := 205) C E (by omega) (by omega) ⟨rfl, K, N, rfl, hs⟩ dX3_perform_205

set_option maxRecDepth 100000 in
set_option maxHeartbeats 4000000 in
theorem c_X3_perform5 (G : pa_G) (l : Launch) (K : Nat → Nat → Nat → Int32) (Sm S : Nat → Nat → Int32) (N : Nat → Nat) (O : Nat → Int64) (T D e : Nat) (z : sj_Z) (hs : sj_M K N T D z e S) (t w u wu : Nat) (hM : mw_S S T) (hJs : mj_s S) (hJq : mj_q S) (ht : t < T) (hw : S 218 t = nI w) (hw4 : w < 4) (ha : S 219 t = nI 5) (hu : u < T) (hab : S 220 t = nI u) (hwu : S 218 u = nI wu) (hwu4 : wu < 4) : pa_M G l mX3_perform 12 true [pv_o 4 0, pv_o 3 t] (K, Sm, N, O) 2 1520 (sj_post none Sm O T D z e (ms_right S (nI wu))) := by
  refine pa_go l (by decide) (by simp [pa_c1l, pa_c1]) (fun _ => rfl) fun x C E el ea => ?_
  subst el
  have hT := hM.1.1
  have hTD := sj_TD hs
  show pa_w G x 2 (K, Sm, N, O) 0 0 0 [some (pv_o 4 0), some (pv_o 3 t)] []
  refine pr_aload_n (pc := 0) C dX3_perform_0 rfl ?_
  refine pr_geti (pc := 1) C 121 wf_X3_161 rfl (by decide) (pl_3 (sj_n0 hs (by first | assumption | omega))) dX3_perform_1 ?_
  refine pr_eqi (v := S 219 t) (sj_r121 hs (by first | assumption | omega)) ?_
  refine pr_eqi ha ?_
  refine pr_tableIn (pc := 4) C 192 dX3_perform_4 (by decide) (by decide) (off := 188) (by decide) (by decide) ?_
  refine pr_aload_n (pc := 192) C dX3_perform_192 rfl ?_
  refine pr_aload_n (pc := 193) C dX3_perform_193 rfl ?_
  refine pr_aload_n (pc := 194) C dX3_perform_194 rfl ?_
  refine pr_aload_n (pc := 195) C dX3_perform_195 rfl ?_
  refine pr_geti (pc := 196) C 126 wf_X3_164 rfl (by decide) (pl_3 (sj_n0 hs (by first | assumption | omega))) dX3_perform_196 ?_
  refine pr_eqi (v := S 220 t) (sj_r126 hs (by first | assumption | omega)) ?_
  refine pr_eqi hab ?_
  refine pr_vP (pc := 199) C (c_X3_turnAtY G _ K Sm S N O T D e z hs u (by first | assumption | omega) hT) wv_X3_151 rfl rfl (by decide) (by decide) (pl_4 _) (Nat.le_of_ble_eq_true rfl) (by omega) (by omega) dX3_perform_199 ?_
  refine pr_vC0 (pc := 202) (rest := []) C (c_X3_performReply5 G _ K Sm S N O T D e z hs t u w wu hM ht hu hw hw4 ha hwu hwu4 ) wv_X3_347 rfl rfl (by decide) (by decide) (pl_4 _) (by decide) (by omega) (by omega) (fun z => absurd (ea.symm.trans z) (by decide)) (fun _ => ⟨trivial, ⟨⟨lr_kn (by decide), (pl_4 _)⟩, ⟨⟨lr_kn (by decide), (pl_3 (sj_n0 hs (by first | assumption | omega)))⟩, trivial⟩⟩⟩) dX3_perform_202 ?_
  intro K N hs
  exact pr_vret (pc := 205) C E (by omega) (by omega) ⟨rfl, K, N, rfl, hs⟩ dX3_perform_205

set_option maxRecDepth 100000 in
set_option maxHeartbeats 4000000 in
theorem c_X3_perform6 (G : pa_G) (l : Launch) (K : Nat → Nat → Nat → Int32) (Sm S : Nat → Nat → Int32) (N : Nat → Nat) (O : Nat → Int64) (T D e : Nat) (z : sj_Z) (hs : sj_M K N T D z e S) (t w u wu : Nat) (hM : mw_S S T) (hJs : mj_s S) (hJq : mj_q S) (ht : t < T) (hw : S 218 t = nI w) (hw4 : w < 4) (ha : S 219 t = nI 6) (hu : u < T) (hab : S 220 t = nI u) (hwu : S 218 u = nI wu) (hwu4 : wu < 4) (hJv : mj_v S) : pa_M G l mX3_perform 12 true [pv_o 4 0, pv_o 3 t] (K, Sm, N, O) 2 1520 (sj_post none Sm O T D z e (ms_dlv S u)) := by
  refine pa_go l (by decide) (by simp [pa_c1l, pa_c1]) (fun _ => rfl) fun x C E el ea => ?_
  subst el
  have hT := hM.1.1
  have hTD := sj_TD hs
  show pa_w G x 2 (K, Sm, N, O) 0 0 0 [some (pv_o 4 0), some (pv_o 3 t)] []
  refine pr_aload_n (pc := 0) C dX3_perform_0 rfl ?_
  refine pr_geti (pc := 1) C 121 wf_X3_161 rfl (by decide) (pl_3 (sj_n0 hs (by first | assumption | omega))) dX3_perform_1 ?_
  refine pr_eqi (v := S 219 t) (sj_r121 hs (by first | assumption | omega)) ?_
  refine pr_eqi ha ?_
  refine pr_tableIn (pc := 4) C 192 dX3_perform_4 (by decide) (by decide) (off := 188) (by decide) (by decide) ?_
  refine pr_aload_n (pc := 192) C dX3_perform_192 rfl ?_
  refine pr_aload_n (pc := 193) C dX3_perform_193 rfl ?_
  refine pr_aload_n (pc := 194) C dX3_perform_194 rfl ?_
  refine pr_aload_n (pc := 195) C dX3_perform_195 rfl ?_
  refine pr_geti (pc := 196) C 126 wf_X3_164 rfl (by decide) (pl_3 (sj_n0 hs (by first | assumption | omega))) dX3_perform_196 ?_
  refine pr_eqi (v := S 220 t) (sj_r126 hs (by first | assumption | omega)) ?_
  refine pr_eqi hab ?_
  refine pr_vP (pc := 199) C (c_X3_turnAtY G _ K Sm S N O T D e z hs u (by first | assumption | omega) hT) wv_X3_151 rfl rfl (by decide) (by decide) (pl_4 _) (Nat.le_of_ble_eq_true rfl) (by omega) (by omega) dX3_perform_199 ?_
  refine pr_vC0 (pc := 202) (rest := []) C (c_X3_performReply6 G _ K Sm S N O T D e z hs t u w wu hM ht hu hw hw4 ha hwu hwu4 hJv) wv_X3_347 rfl rfl (by decide) (by decide) (pl_4 _) (by decide) (by omega) (by omega) (fun z => absurd (ea.symm.trans z) (by decide)) (fun _ => ⟨trivial, ⟨⟨lr_kn (by decide), (pl_4 _)⟩, ⟨⟨lr_kn (by decide), (pl_3 (sj_n0 hs (by first | assumption | omega)))⟩, trivial⟩⟩⟩) dX3_perform_202 ?_
  intro K N hs
  exact pr_vret (pc := 205) C E (by omega) (by omega) ⟨rfl, K, N, rfl, hs⟩ dX3_perform_205

set_option maxRecDepth 100000 in
set_option maxHeartbeats 4000000 in
theorem c_X3_perform7 (G : pa_G) (l : Launch) (K : Nat → Nat → Nat → Int32) (Sm S : Nat → Nat → Int32) (N : Nat → Nat) (O : Nat → Int64) (T D e : Nat) (z : sj_Z) (hs : sj_M K N T D z e S) (t w u wu xa e1 : Nat) (hM : mw_S S T) (hJs : mj_s S) (hJq : mj_q S) (ht : t < T) (hw : S 218 t = nI w) (hw4 : w < 4) (ha : S 219 t = nI 7) (hu : u < T) (hab : S 220 t = nI u) (hwu : S 218 u = nI wu) (hwu4 : wu < 4) (hxa : S 220 u = nI xa) (hxa10 : xa < 10) (hv : S 221 u = 1 ∨ S 221 u = 2) (he : e1 + 1 ≤ e + (decide (S 208 (10 * w + xa) = 0)).toNat) : pa_M G l mX3_perform 12 true [pv_o 4 0, pv_o 3 t] (K, Sm, N, O) 2 1520 (sj_post none Sm O T D z e1 (ms_says S t w xa (S 221 u))) := by
  refine pa_go l (by decide) (by simp [pa_c1l, pa_c1]) (fun _ => rfl) fun x C E el ea => ?_
  subst el
  have hT := hM.1.1
  have hTD := sj_TD hs
  show pa_w G x 2 (K, Sm, N, O) 0 0 0 [some (pv_o 4 0), some (pv_o 3 t)] []
  refine pr_aload_n (pc := 0) C dX3_perform_0 rfl ?_
  refine pr_geti (pc := 1) C 121 wf_X3_161 rfl (by decide) (pl_3 (sj_n0 hs (by first | assumption | omega))) dX3_perform_1 ?_
  refine pr_eqi (v := S 219 t) (sj_r121 hs (by first | assumption | omega)) ?_
  refine pr_eqi ha ?_
  refine pr_tableIn (pc := 4) C 192 dX3_perform_4 (by decide) (by decide) (off := 188) (by decide) (by decide) ?_
  refine pr_aload_n (pc := 192) C dX3_perform_192 rfl ?_
  refine pr_aload_n (pc := 193) C dX3_perform_193 rfl ?_
  refine pr_aload_n (pc := 194) C dX3_perform_194 rfl ?_
  refine pr_aload_n (pc := 195) C dX3_perform_195 rfl ?_
  refine pr_geti (pc := 196) C 126 wf_X3_164 rfl (by decide) (pl_3 (sj_n0 hs (by first | assumption | omega))) dX3_perform_196 ?_
  refine pr_eqi (v := S 220 t) (sj_r126 hs (by first | assumption | omega)) ?_
  refine pr_eqi hab ?_
  refine pr_vP (pc := 199) C (c_X3_turnAtY G _ K Sm S N O T D e z hs u (by first | assumption | omega) hT) wv_X3_151 rfl rfl (by decide) (by decide) (pl_4 _) (Nat.le_of_ble_eq_true rfl) (by omega) (by omega) dX3_perform_199 ?_
  refine pr_vC0 (pc := 202) (rest := []) C (c_X3_performReply7 G _ K Sm S N O T D e z hs t u w wu xa e1 hM ht hu hw hw4 ha hwu hwu4 hJs hJq hxa hxa10 hv he) wv_X3_347 rfl rfl (by decide) (by decide) (pl_4 _) (by decide) (by omega) (by omega) (fun z => absurd (ea.symm.trans z) (by decide)) (fun _ => ⟨trivial, ⟨⟨lr_kn (by decide), (pl_4 _)⟩, ⟨⟨lr_kn (by decide), (pl_3 (sj_n0 hs (by first | assumption | omega)))⟩, trivial⟩⟩⟩) dX3_perform_202 ?_
  intro K N hs
  exact pr_vret (pc := 205) C E (by omega) (by omega) ⟨rfl, K, N, rfl, hs⟩ dX3_perform_205

set_option maxRecDepth 100000 in
set_option maxHeartbeats 4000000 in
theorem c_X3_perform8 (G : pa_G) (l : Launch) (K : Nat → Nat → Nat → Int32) (Sm S : Nat → Nat → Int32) (N : Nat → Nat) (O : Nat → Int64) (T D e : Nat) (z : sj_Z) (hs : sj_M K N T D z e S) (t w u wu xa e1 : Nat) (hM : mw_S S T) (hJs : mj_s S) (hJq : mj_q S) (ht : t < T) (hw : S 218 t = nI w) (hw4 : w < 4) (ha : S 219 t = nI 8) (hu : u < T) (hab : S 220 t = nI u) (hwu : S 218 u = nI wu) (hwu4 : wu < 4) (hxa : S 220 u = nI xa) (hxa10 : xa < 10) (hv : S 221 u = 1 ∨ S 221 u = 2) (he : e1 + 1 ≤ e + (decide (S 208 (10 * w + xa) = 0)).toNat) : pa_M G l mX3_perform 12 true [pv_o 4 0, pv_o 3 t] (K, Sm, N, O) 2 1520 (sj_post none Sm O T D z e1 (ms_doT S t w 8 u wu xa)) := by
  refine pa_go l (by decide) (by simp [pa_c1l, pa_c1]) (fun _ => rfl) fun x C E el ea => ?_
  subst el
  have hT := hM.1.1
  have hTD := sj_TD hs
  show pa_w G x 2 (K, Sm, N, O) 0 0 0 [some (pv_o 4 0), some (pv_o 3 t)] []
  refine pr_aload_n (pc := 0) C dX3_perform_0 rfl ?_
  refine pr_geti (pc := 1) C 121 wf_X3_161 rfl (by decide) (pl_3 (sj_n0 hs (by first | assumption | omega))) dX3_perform_1 ?_
  refine pr_eqi (v := S 219 t) (sj_r121 hs (by first | assumption | omega)) ?_
  refine pr_eqi ha ?_
  refine pr_tableIn (pc := 4) C 192 dX3_perform_4 (by decide) (by decide) (off := 188) (by decide) (by decide) ?_
  refine pr_aload_n (pc := 192) C dX3_perform_192 rfl ?_
  refine pr_aload_n (pc := 193) C dX3_perform_193 rfl ?_
  refine pr_aload_n (pc := 194) C dX3_perform_194 rfl ?_
  refine pr_aload_n (pc := 195) C dX3_perform_195 rfl ?_
  refine pr_geti (pc := 196) C 126 wf_X3_164 rfl (by decide) (pl_3 (sj_n0 hs (by first | assumption | omega))) dX3_perform_196 ?_
  refine pr_eqi (v := S 220 t) (sj_r126 hs (by first | assumption | omega)) ?_
  refine pr_eqi hab ?_
  refine pr_vP (pc := 199) C (c_X3_turnAtY G _ K Sm S N O T D e z hs u (by first | assumption | omega) hT) wv_X3_151 rfl rfl (by decide) (by decide) (pl_4 _) (Nat.le_of_ble_eq_true rfl) (by omega) (by omega) dX3_perform_199 ?_
  refine pr_vC0 (pc := 202) (rest := []) C (c_X3_performReply8 G _ K Sm S N O T D e z hs t u w wu xa e1 hM ht hu hw hw4 ha hwu hwu4 hJs hJq hxa hxa10 hv he) wv_X3_347 rfl rfl (by decide) (by decide) (pl_4 _) (by decide) (by omega) (by omega) (fun z => absurd (ea.symm.trans z) (by decide)) (fun _ => ⟨trivial, ⟨⟨lr_kn (by decide), (pl_4 _)⟩, ⟨⟨lr_kn (by decide), (pl_3 (sj_n0 hs (by first | assumption | omega)))⟩, trivial⟩⟩⟩) dX3_perform_202 ?_
  intro K N hs
  exact pr_vret (pc := 205) C E (by omega) (by omega) ⟨rfl, K, N, rfl, hs⟩ dX3_perform_205

set_option maxRecDepth 100000 in
set_option maxHeartbeats 4000000 in
theorem c_X3_perform14 (G : pa_G) (l : Launch) (K : Nat → Nat → Nat → Int32) (Sm S : Nat → Nat → Int32) (N : Nat → Nat) (O : Nat → Int64) (T D e : Nat) (z : sj_Z) (hs : sj_M K N T D z e S) (t w u wu : Nat) (hM : mw_S S T) (hJs : mj_s S) (hJq : mj_q S) (ht : t < T) (hw : S 218 t = nI w) (hw4 : w < 4) (ha : S 219 t = nI 14) (hu : u < T) (hab : S 220 t = nI u) (hwu : S 218 u = nI wu) (hwu4 : wu < 4) (hut : u ≠ t) (hne : w ≠ wu) (hl : ms_lis (S 222 u) = nI w) : pa_M G l mX3_perform 12 true [pv_o 4 0, pv_o 3 t] (K, Sm, N, O) 2 1520 (sj_post none Sm O T D z e (ms_doO S t w 14 u wu)) := by
  refine pa_go l (by decide) (by simp [pa_c1l, pa_c1]) (fun _ => rfl) fun x C E el ea => ?_
  subst el
  have hT := hM.1.1
  have hTD := sj_TD hs
  show pa_w G x 2 (K, Sm, N, O) 0 0 0 [some (pv_o 4 0), some (pv_o 3 t)] []
  refine pr_aload_n (pc := 0) C dX3_perform_0 rfl ?_
  refine pr_geti (pc := 1) C 121 wf_X3_161 rfl (by decide) (pl_3 (sj_n0 hs (by first | assumption | omega))) dX3_perform_1 ?_
  refine pr_eqi (v := S 219 t) (sj_r121 hs (by first | assumption | omega)) ?_
  refine pr_eqi ha ?_
  refine pr_tableOut (pc := 4) C 192 dX3_perform_4 (by decide) (by decide) ?_
  refine pr_aload_n (pc := 192) C dX3_perform_192 rfl ?_
  refine pr_aload_n (pc := 193) C dX3_perform_193 rfl ?_
  refine pr_aload_n (pc := 194) C dX3_perform_194 rfl ?_
  refine pr_aload_n (pc := 195) C dX3_perform_195 rfl ?_
  refine pr_geti (pc := 196) C 126 wf_X3_164 rfl (by decide) (pl_3 (sj_n0 hs (by first | assumption | omega))) dX3_perform_196 ?_
  refine pr_eqi (v := S 220 t) (sj_r126 hs (by first | assumption | omega)) ?_
  refine pr_eqi hab ?_
  refine pr_vP (pc := 199) C (c_X3_turnAtY G _ K Sm S N O T D e z hs u (by first | assumption | omega) hT) wv_X3_151 rfl rfl (by decide) (by decide) (pl_4 _) (Nat.le_of_ble_eq_true rfl) (by omega) (by omega) dX3_perform_199 ?_
  refine pr_vC0 (pc := 202) (rest := []) C (c_X3_performReply14 G _ K Sm S N O T D e z hs t u w wu hM ht hu hw hw4 ha hwu hwu4 hut hne hl) wv_X3_347 rfl rfl (by decide) (by decide) (pl_4 _) (by decide) (by omega) (by omega) (fun z => absurd (ea.symm.trans z) (by decide)) (fun _ => ⟨trivial, ⟨⟨lr_kn (by decide), (pl_4 _)⟩, ⟨⟨lr_kn (by decide), (pl_3 (sj_n0 hs (by first | assumption | omega)))⟩, trivial⟩⟩⟩) dX3_perform_202 ?_
  intro K N hs
  exact pr_vret (pc := 205) C E (by omega) (by omega) ⟨rfl, K, N, rfl, hs⟩ dX3_perform_205

set_option maxRecDepth 100000 in
set_option maxHeartbeats 4000000 in
theorem c_X3_perform15 (G : pa_G) (l : Launch) (K : Nat → Nat → Nat → Int32) (Sm S : Nat → Nat → Int32) (N : Nat → Nat) (O : Nat → Int64) (T D e : Nat) (z : sj_Z) (hs : sj_M K N T D z e S) (t w u wu : Nat) (hM : mw_S S T) (hJs : mj_s S) (hJq : mj_q S) (ht : t < T) (hw : S 218 t = nI w) (hw4 : w < 4) (ha : S 219 t = nI 15) (hu : u < T) (hab : S 220 t = nI u) (hwu : S 218 u = nI wu) (hwu4 : wu < 4) : pa_M G l mX3_perform 12 true [pv_o 4 0, pv_o 3 t] (K, Sm, N, O) 2 1520 (sj_post none Sm O T D z e (pa_us S 227 u 0)) := by
  refine pa_go l (by decide) (by simp [pa_c1l, pa_c1]) (fun _ => rfl) fun x C E el ea => ?_
  subst el
  have hT := hM.1.1
  have hTD := sj_TD hs
  show pa_w G x 2 (K, Sm, N, O) 0 0 0 [some (pv_o 4 0), some (pv_o 3 t)] []
  refine pr_aload_n (pc := 0) C dX3_perform_0 rfl ?_
  refine pr_geti (pc := 1) C 121 wf_X3_161 rfl (by decide) (pl_3 (sj_n0 hs (by first | assumption | omega))) dX3_perform_1 ?_
  refine pr_eqi (v := S 219 t) (sj_r121 hs (by first | assumption | omega)) ?_
  refine pr_eqi ha ?_
  refine pr_tableOut (pc := 4) C 192 dX3_perform_4 (by decide) (by decide) ?_
  refine pr_aload_n (pc := 192) C dX3_perform_192 rfl ?_
  refine pr_aload_n (pc := 193) C dX3_perform_193 rfl ?_
  refine pr_aload_n (pc := 194) C dX3_perform_194 rfl ?_
  refine pr_aload_n (pc := 195) C dX3_perform_195 rfl ?_
  refine pr_geti (pc := 196) C 126 wf_X3_164 rfl (by decide) (pl_3 (sj_n0 hs (by first | assumption | omega))) dX3_perform_196 ?_
  refine pr_eqi (v := S 220 t) (sj_r126 hs (by first | assumption | omega)) ?_
  refine pr_eqi hab ?_
  refine pr_vP (pc := 199) C (c_X3_turnAtY G _ K Sm S N O T D e z hs u (by first | assumption | omega) hT) wv_X3_151 rfl rfl (by decide) (by decide) (pl_4 _) (Nat.le_of_ble_eq_true rfl) (by omega) (by omega) dX3_perform_199 ?_
  refine pr_vC0 (pc := 202) (rest := []) C (c_X3_performReply15 G _ K Sm S N O T D e z hs t u w wu hM ht hu hw hw4 ha hwu hwu4 ) wv_X3_347 rfl rfl (by decide) (by decide) (pl_4 _) (by decide) (by omega) (by omega) (fun z => absurd (ea.symm.trans z) (by decide)) (fun _ => ⟨trivial, ⟨⟨lr_kn (by decide), (pl_4 _)⟩, ⟨⟨lr_kn (by decide), (pl_3 (sj_n0 hs (by first | assumption | omega)))⟩, trivial⟩⟩⟩) dX3_perform_202 ?_
  intro K N hs
  exact pr_vret (pc := 205) C E (by omega) (by omega) ⟨rfl, K, N, rfl, hs⟩ dX3_perform_205

section STATE
variable {K : Nat → Nat → Nat → Int32} {N : Nat → Nat} {T D e : Nat} {z : sj_Z} {S : Nat → Nat → Int32}
/-- a turn's state is written: it isn't SAID any more -/
theorem sj_w128 (hs : sj_M K N T D z e S) {t : Nat} {v : Int32} (hv : v ≠ 0) : sj_M (pa_up K 128 t 0 v) N T D z e (pa_us S 224 t v) := by
  have eK : ∀ f, f ≠ 128 → ∀ o j, pa_up K 128 t 0 v f o j = K f o j := fun f h1 o j => pa_up_ne h1
  have eS : ∀ f, f ≠ 224 → ∀ j, pa_us S 224 t v f j = S f j := fun f hf j => pa_us_ne hf
  have e224 : ∀ k, S 224 k ≠ 0 → pa_us S 224 t v 224 k ≠ 0 := fun k hk => by
    by_cases c : k = t
    · rw [c, pa_us_self]; exact hv
    · rw [pa_us_nj c]; exact hk
  obtain ⟨hP, hN, a40, a125, a163, a47, a128, a51, a52, a53, ast, aphi⟩ := hs
  have hf : ∀ j c, sj_fs (pa_up K 128 t 0 v) j c = sj_fs K j c := fun j c => by
    funext v n
    unfold sj_fs
    rw [eK 80 (by decide), eK 81 (by decide), eK 82 (by decide)]
  refine ⟨sj_P_of hP (fun q hq o j => eK q.1 ?_ o j) (fun q hq j => eS q.2.1 ?_ j), hN, ?_, ?_, fun j hj => ?_, ?_, ?_, ?_, ?_, ?_, ?_, ?_⟩
  · have : ∀ q ∈ sj_T, q.1 ≠ 128 := by decide
    exact this q hq
  · have : ∀ q ∈ sj_T, q.2.1 ≠ 224 := by decide
    exact this q hq
  · exact fun i hi => (eK 40 (by decide) i 0).trans (a40 i hi)
  · exact fun i hi => (eK 125 (by decide) i 0).trans (a125 i hi)
  · rw [eK 163 (by decide), eS 232 (by decide)]
    exact a163 j hj
  · intro i hi
    rw [eK 47 (by decide)]
    exact a47 i hi
  · intro u hu
    by_cases c : u = t
    · subst c
      rw [pa_up_self, pa_us_self]
      exact Or.inl rfl
    · rw [pa_up_at, if_neg (fun q => c q.1), pa_us_nj c]
      exact a128 u hu
  · intro i j hi hj
    rw [eK 51 (by decide), eS 210 (by decide), eS 211 (by decide)]
    exact a51 i j hi hj
  · intro i j hi hj
    obtain ⟨b, c1, c2, c3⟩ := a52 i j hi hj
    exact ⟨b, c1, (eK 52 (by decide) i j).trans c2, fun r hr => by rw [eS 234 (by decide)]; exact c3 r hr⟩
  · intro i j hi hj
    obtain ⟨b, c1, c2, c3⟩ := a53 i j hi hj
    exact ⟨b, c1, (eK 53 (by decide) i j).trans c2, fun r hr => by rw [eS 233 (by decide)]; exact c3 r hr⟩
  · intro i j hi hj
    rw [hf, eS 208 (by decide)]
    exact ast i j hi hj
  · unfold sj_nz sj_nh sj_nd at aphi ⊢
    rw [show pa_us S 224 t v 208 = S 208 from funext (eS 208 (by decide)), show pa_us S 224 t v 210 = S 210 from funext (eS 210 (by decide)), show pa_us S 224 t v 225 = S 225 from funext (eS 225 (by decide))]
    exact aphi
/-- a turn is carried out: three more steps may come -/
theorem sj_w129 (hs : sj_M K N T D z e S) {t : Nat} {v : Int32} (ht : t < T) (h0 : S 225 t = -1) (hv : v ≠ -1) : sj_M (pa_up K 129 t 0 v) N T D z (e + 3) (pa_us S 225 t v) := by
  have eK : ∀ f, f ≠ 129 → ∀ o j, pa_up K 129 t 0 v f o j = K f o j := fun f h1 o j => pa_up_ne h1
  have eS : ∀ f, f ≠ 225 → ∀ j, pa_us S 225 t v f j = S f j := fun f hf j => pa_us_ne hf
  have hP' := sj_P_up hs.1 (q := (129, 225, 1, 1, 1)) (by decide) (o := t) (j := 0) (v := v) (by decide)
  obtain ⟨hP, hN, a40, a125, a163, a47, a128, a51, a52, a53, ast, aphi⟩ := hs
  have hf : ∀ j c, sj_fs (pa_up K 129 t 0 v) j c = sj_fs K j c := fun j c => by
    funext v n
    unfold sj_fs
    rw [eK 80 (by decide), eK 81 (by decide), eK 82 (by decide)]
  refine ⟨by simpa using hP', hN, ?_, ?_, fun j hj => ?_, ?_, ?_, ?_, ?_, ?_, ?_, ?_⟩
  · exact fun i hi => (eK 40 (by decide) i 0).trans (a40 i hi)
  · exact fun i hi => (eK 125 (by decide) i 0).trans (a125 i hi)
  · rw [eK 163 (by decide), eS 232 (by decide)]
    exact a163 j hj
  · intro i hi
    rw [eK 47 (by decide)]
    exact a47 i hi
  · intro u hu
    rw [eK 128 (by decide), eS 224 (by decide)]
    exact a128 u hu
  · intro i j hi hj
    rw [eK 51 (by decide), eS 210 (by decide), eS 211 (by decide)]
    exact a51 i j hi hj
  · intro i j hi hj
    obtain ⟨b, c1, c2, c3⟩ := a52 i j hi hj
    exact ⟨b, c1, (eK 52 (by decide) i j).trans c2, fun r hr => by rw [eS 234 (by decide)]; exact c3 r hr⟩
  · intro i j hi hj
    obtain ⟨b, c1, c2, c3⟩ := a53 i j hi hj
    exact ⟨b, c1, (eK 53 (by decide) i j).trans c2, fun r hr => by rw [eS 233 (by decide)]; exact c3 r hr⟩
  · intro i j hi hj
    rw [hf, eS 208 (by decide)]
    exact ast i j hi hj
  · unfold sj_nz sj_nh sj_nd at aphi ⊢
    have h1 := sj_c_up (p := fun k => decide (pa_us S 225 t v 225 k ≠ -1)) (q := fun k => decide (S 225 k ≠ -1)) (i := t) (n := T) ht (fun k hk hne => by rw [pa_us_nj hne])
    have h2 : (decide (S 225 t ≠ -1)).toNat = 0 := by rw [h0]; rfl
    have h3 : (decide (pa_us S 225 t v 225 t ≠ -1)).toNat = 1 := by rw [pa_us_self, decide_eq_true hv]; rfl
    rw [h2, h3] at h1
    rw [show pa_us S 225 t v 208 = S 208 from funext (eS 208 (by decide)), show pa_us S 225 t v 210 = S 210 from funext (eS 210 (by decide))]
    omega
end STATE
theorem pa_us_cm9 {S : Nat → Nat → Int32} {f g j k : Nat} {v y : Int32} (h : f ≠ g) : pa_us (pa_us S f j v) g k y = pa_us (pa_us S g k y) f j v := by
  funext p q
  unfold pa_us
  by_cases c1 : p = g ∧ q = k
  · rw [if_pos c1, if_neg (fun z => h (z.1.symm.trans c1.1)), if_pos c1]
  · rw [if_neg c1]
    by_cases c2 : p = f ∧ q = j
    · rw [if_pos c2, if_pos c2]
    · rw [if_neg c2, if_neg c2, if_neg c1]
/-- delivering doesn't look at when it was carried out -/
theorem ms_dlv_225 {S : Nat → Nat → Int32} {t u : Nat} {v : Int32} : ms_dlv (pa_us S 225 u v) t = pa_us (ms_dlv S t) 225 u v := by
  have key : ∀ n, pz_it (ms_dls t) n (pa_us S 225 u v) = pa_us (pz_it (ms_dls t) n S) 225 u v := by
    intro n
    induction n with
    | zero => rfl
    | succ n ih =>
      rw [pz_it_s, pz_it_s, ih]
      generalize pz_it (ms_dls t) n S = X
      have e : ∀ f j, f ≠ 225 → pa_us X 225 u v f j = X f j := fun f j hf => pa_us_ne hf
      have hh : ms_dlh (pa_us X 225 u v) t n = ms_dlh X t n := rfl
      unfold ms_dls
      rw [hh, e 222 _ (by decide), e 228 _ (by decide), e 200 _ (by decide)]
      by_cases c : (ms_isIn (X 222 t) (nI n) && decide (¬ 2 ≤ X 228 (4 * t + n))) = true
      · rw [if_pos c, if_pos c]
        rw [pa_us_cm9 (show 225 ≠ 228 by decide), pa_us_cm9 (show 225 ≠ 229 by decide)]
      · rw [if_neg c, if_neg c]
  exact key 4
