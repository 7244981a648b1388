/-! THE CLASS: replies are performed -/
set_option maxRecDepth 100000 in
set_option maxHeartbeats 4000000 in
theorem c_X3_performReply4 (G : pa_G) (l : Launch) (K : Nat → Nat → Nat → Int32) (Sm S : Nat → Nat → Int32) (N : Nat → Nat) (O : Nat → Int64) (T D e : Nat) (z : sj_Z) (hs : sj_M K N T D z e S) (t u w wu : Nat) (hM : mw_S S T) (ht : t < T) (hu : u < T) (hw : S 218 t = nI w) (hw4 : w < 4) (ha : S 219 t = nI 4) (hwu : S 218 u = nI wu) (hwu4 : wu < 4) : pa_M G l mX3_performReply 11 true [pv_o 4 0, pv_o 3 t, pv_o 3 u] (K, Sm, N, O) 0 0 (sj_post none Sm O T D z e (pa_us S 228 (4 * u + w) 4)) := by
  refine pa_go l (by decide) (by simp [pa_c1l, pa_c1]) (fun _ => rfl) fun x C E el ea => ?_
  subst el
  have hT := hM.1.1
  have hTD := sj_TD hs
  show pa_w G x 3 (K, Sm, N, O) 0 0 0 [some (pv_o 4 0), some (pv_o 3 t), some (pv_o 3 u)] []
  refine pr_aload_n (pc := 0) C dX3_performReply_0 rfl ?_
  refine pr_ifnonnull1 (pc := 1) C 5 dX3_performReply_1 (by decide) ?_
  refine pr_aload_n (pc := 5) C dX3_performReply_5 rfl ?_
  refine pr_geti (pc := 6) C 121 wf_X3_161 rfl (by decide) (pl_3 (sj_n0 hs (by first | assumption | omega))) dX3_performReply_6 ?_
  refine pr_eqi (v := S 219 t) (sj_r121 hs (by first | assumption | omega)) ?_
  refine pr_eqi ha ?_
  refine pr_tableIn (pc := 9) C 72 dX3_performReply_9 (by decide) (by decide) (off := 63) (by decide) (by decide) ?_
  refine pr_aload_n (pc := 72) C dX3_performReply_72 rfl ?_
  refine pr_geta (pc := 73) C 131 231 wf_X3_187 rfl rfl (by decide) (pl_3 (sj_n0 hs (by first | assumption | omega))) dX3_performReply_73 ?_
  refine pr_aload_n (pc := 76) C dX3_performReply_76 rfl ?_
  refine pr_gets (pc := 77) C 120 wf_X3_105 rfl rfl (pl_3 (sj_n0 hs (by first | assumption | omega))) w ((sj_r120 hs (by first | assumption | omega)).trans hw) (by first | assumption | omega) dX3_performReply_77 ?_
  refine pr_geti (pc := 80) C 40 wf_X3_160 rfl (by decide) (pl_1 (by first | assumption | omega)) dX3_performReply_80 ?_
  refine pr_eqi (v := nI w) (sj_r40 hs (by first | assumption | omega)) ?_
  refine pr_iconst (pc := 83) (v := 4) C dX3_performReply_83 (by decide) ?_
  refine pr_asti (pc := 84) (n := 4) C 131 w rfl (by decide) rfl rfl (pl_r3 (by decide) (sj_n0 hs (by first | assumption | omega))) rfl (by omega) (by decide) dX3_performReply_84 ?_
  refine pr_sim (sj_w131 hs (by omega)) ?_
  intro K N hs
  refine pr_goto (pc := 85) C 163 dX3_performReply_85 (by decide) ?_
  exact pr_vret (pc := 163) C E (by omega) (by omega) ⟨rfl, K, N, rfl, hs⟩ dX3_performReply_163

set_option maxRecDepth 100000 in
set_option maxHeartbeats 4000000 in
theorem c_X3_performReply5 (G : pa_G) (l : Launch) (K : Nat → Nat → Nat → Int32) (Sm S : Nat → Nat → Int32) (N : Nat → Nat) (O : Nat → Int64) (T D e : Nat) (z : sj_Z) (hs : sj_M K N T D z e S) (t u w wu : Nat) (hM : mw_S S T) (ht : t < T) (hu : u < T) (hw : S 218 t = nI w) (hw4 : w < 4) (ha : S 219 t = nI 5) (hwu : S 218 u = nI wu) (hwu4 : wu < 4) : pa_M G l mX3_performReply 11 true [pv_o 4 0, pv_o 3 t, pv_o 3 u] (K, Sm, N, O) 0 0 (sj_post none Sm O T D z e (ms_right S (nI wu))) := by
  refine pa_go l (by decide) (by simp [pa_c1l, pa_c1]) (fun _ => rfl) fun x C E el ea => ?_
  subst el
  have hT := hM.1.1
  have hTD := sj_TD hs
  show pa_w G x 3 (K, Sm, N, O) 0 0 0 [some (pv_o 4 0), some (pv_o 3 t), some (pv_o 3 u)] []
  refine pr_aload_n (pc := 0) C dX3_performReply_0 rfl ?_
  refine pr_ifnonnull1 (pc := 1) C 5 dX3_performReply_1 (by decide) ?_
  refine pr_aload_n (pc := 5) C dX3_performReply_5 rfl ?_
  refine pr_geti (pc := 6) C 121 wf_X3_161 rfl (by decide) (pl_3 (sj_n0 hs (by first | assumption | omega))) dX3_performReply_6 ?_
  refine pr_eqi (v := S 219 t) (sj_r121 hs (by first | assumption | omega)) ?_
  refine pr_eqi ha ?_
  refine pr_tableIn (pc := 9) C 88 dX3_performReply_9 (by decide) (by decide) (off := 79) (by decide) (by decide) ?_
  refine pr_aload_n (pc := 88) C dX3_performReply_88 rfl ?_
  refine pr_aload_n (pc := 89) C dX3_performReply_89 rfl ?_
  refine pr_gets (pc := 90) C 120 wf_X3_105 rfl rfl (pl_3 (sj_n0 hs (by first | assumption | omega))) wu ((sj_r120 hs (by first | assumption | omega)).trans hwu) (by first | assumption | omega) dX3_performReply_90 ?_
  refine pr_geti (pc := 93) C 40 wf_X3_160 rfl (by decide) (pl_1 (by first | assumption | omega)) dX3_performReply_93 ?_
  refine pr_eqi (v := nI wu) (sj_r40 hs (by first | assumption | omega)) ?_
  refine pr_vC0 (pc := 96) (rest := []) C (c_X3_entitle G _ K Sm S N O T D e z hs (nI wu)) wv_X3_328 rfl rfl (by decide) (by decide) (pl_4 _) (by decide) (by omega) (by omega) (fun _ => rfl) (fun z => by cases z) dX3_performReply_96 ?_
  intro K N hs
  refine pr_goto (pc := 99) C 163 dX3_performReply_99 (by decide) ?_
  exact pr_vret (pc := 163) C E (by omega) (by omega) ⟨rfl, K, N, rfl, hs⟩ dX3_performReply_163

set_option maxRecDepth 100000 in
set_option maxHeartbeats 4000000 in
theorem c_X3_performReply6 (G : pa_G) (l : Launch) (K : Nat → Nat → Nat → Int32) (Sm S : Nat → Nat → Int32) (N : Nat → Nat) (O : Nat → Int64) (T D e : Nat) (z : sj_Z) (hs : sj_M K N T D z e S) (t u w wu : Nat) (hM : mw_S S T) (ht : t < T) (hu : u < T) (hw : S 218 t = nI w) (hw4 : w < 4) (ha : S 219 t = nI 6) (hwu : S 218 u = nI wu) (hwu4 : wu < 4) (hJv : mj_v S) : pa_M G l mX3_performReply 11 true [pv_o 4 0, pv_o 3 t, pv_o 3 u] (K, Sm, N, O) 0 0 (sj_post none Sm O T D z e (ms_dlv S u)) := by
  refine pa_go l (by decide) (by simp [pa_c1l, pa_c1]) (fun _ => rfl) fun x C E el ea => ?_
  subst el
  have hT := hM.1.1
  have hTD := sj_TD hs
  show pa_w G x 3 (K, Sm, N, O) 0 0 0 [some (pv_o 4 0), some (pv_o 3 t), some (pv_o 3 u)] []
  refine pr_aload_n (pc := 0) C dX3_performReply_0 rfl ?_
  refine pr_ifnonnull1 (pc := 1) C 5 dX3_performReply_1 (by decide) ?_
  refine pr_aload_n (pc := 5) C dX3_performReply_5 rfl ?_
  refine pr_geti (pc := 6) C 121 wf_X3_161 rfl (by decide) (pl_3 (sj_n0 hs (by first | assumption | omega))) dX3_performReply_6 ?_
  refine pr_eqi (v := S 219 t) (sj_r121 hs (by first | assumption | omega)) ?_
  refine pr_eqi ha ?_
  refine pr_tableIn (pc := 9) C 102 dX3_performReply_9 (by decide) (by decide) (off := 93) (by decide) (by decide) ?_
  refine pr_aload_n (pc := 102) C dX3_performReply_102 rfl ?_
  refine pr_aload_n (pc := 103) C dX3_performReply_103 rfl ?_
  refine pr_vC0 (pc := 104) (rest := []) C (c_X3_deliver G _ K Sm S N O T D e z hs u hJv (by first | assumption | omega)) wv_X3_309 rfl rfl (by decide) (by decide) (pl_4 _) (by decide) (by omega) (by omega) (fun _ => rfl) (fun z => by cases z) dX3_performReply_104 ?_
  intro K N hs
  refine pr_goto (pc := 107) C 163 dX3_performReply_107 (by decide) ?_
  exact pr_vret (pc := 163) C E (by omega) (by omega) ⟨rfl, K, N, rfl, hs⟩ dX3_performReply_163

set_option maxRecDepth 100000 in
set_option maxHeartbeats 4000000 in
theorem c_X3_performReply7 (G : pa_G) (l : Launch) (K : Nat → Nat → Nat → Int32) (Sm S : Nat → Nat → Int32) (N : Nat → Nat) (O : Nat → Int64) (T D e : Nat) (z : sj_Z) (hs : sj_M K N T D z e S) (t u w wu xa e1 : Nat) (hM : mw_S S T) (ht : t < T) (hu : u < T) (hw : S 218 t = nI w) (hw4 : w < 4) (ha : S 219 t = nI 7) (hwu : S 218 u = nI wu) (hwu4 : wu < 4) (hJs : mj_s S) (hJq : mj_q S) (hxa : S 220 u = nI xa) (hxa10 : xa < 10) (hv : S 221 u = 1 ∨ S 221 u = 2) (he : e1 + 1 ≤ e + (decide (S 208 (10 * w + xa) = 0)).toNat) : pa_M G l mX3_performReply 11 true [pv_o 4 0, pv_o 3 t, pv_o 3 u] (K, Sm, N, O) 2 1520 (sj_post none Sm O T D z e1 (ms_says S t w xa (S 221 u))) := by
  refine pa_go l (by decide) (by simp [pa_c1l, pa_c1]) (fun _ => rfl) fun x C E el ea => ?_
  subst el
  have hT := hM.1.1
  have hTD := sj_TD hs
  show pa_w G x 3 (K, Sm, N, O) 0 0 0 [some (pv_o 4 0), some (pv_o 3 t), some (pv_o 3 u)] []
  refine pr_aload_n (pc := 0) C dX3_performReply_0 rfl ?_
  refine pr_ifnonnull1 (pc := 1) C 5 dX3_performReply_1 (by decide) ?_
  refine pr_aload_n (pc := 5) C dX3_performReply_5 rfl ?_
  refine pr_geti (pc := 6) C 121 wf_X3_161 rfl (by decide) (pl_3 (sj_n0 hs (by first | assumption | omega))) dX3_performReply_6 ?_
  refine pr_eqi (v := S 219 t) (sj_r121 hs (by first | assumption | omega)) ?_
  refine pr_eqi ha ?_
  refine pr_tableIn (pc := 9) C 110 dX3_performReply_9 (by decide) (by decide) (off := 101) (by decide) (by decide) ?_
  refine pr_aload_n (pc := 110) C dX3_performReply_110 rfl ?_
  refine pr_aload_n (pc := 111) C dX3_performReply_111 rfl ?_
  refine pr_aload_n (pc := 112) C dX3_performReply_112 rfl ?_
  refine pr_geti (pc := 113) C 126 wf_X3_164 rfl (by decide) (pl_3 (sj_n0 hs (by first | assumption | omega))) dX3_performReply_113 ?_
  refine pr_eqi (v := S 220 u) (sj_r126 hs (by first | assumption | omega)) ?_
  refine pr_eqi hxa ?_
  refine pr_aload_n (pc := 116) C dX3_performReply_116 rfl ?_
  refine pr_geti (pc := 117) C 127 wf_X3_167 rfl (by decide) (pl_3 (sj_n0 hs (by first | assumption | omega))) dX3_performReply_117 ?_
  refine pr_eqi (v := S 221 u) (sj_r127 hs (by first | assumption | omega)) ?_
  refine pr_vC0 (pc := 120) (rest := []) C (c_X3_commitOwn G _ K Sm S N O T D e z hs t w xa e1 (S 221 u) hM hJs hJq ht hw hw4 hxa10 hv he) wv_X3_318 rfl rfl (by decide) (by decide) (pl_4 _) (by decide) (by omega) (by omega) (fun z => absurd (ea.symm.trans z) (by decide)) (fun _ => ⟨trivial, ⟨⟨lr_kn (by decide), (pl_4 _)⟩, ⟨⟨lr_kn (by decide), (pl_3 (sj_n0 hs (by first | assumption | omega)))⟩, ⟨⟨lr_kn (by decide), (pl_3 (sj_n0 hs (by first | assumption | omega)))⟩, trivial⟩⟩⟩⟩) dX3_performReply_120 ?_
  intro K N hs
  refine pr_goto (pc := 123) C 163 dX3_performReply_123 (by decide) ?_
  exact pr_vret (pc := 163) C E (by omega) (by omega) ⟨rfl, K, N, rfl, hs⟩ dX3_performReply_163

set_option maxRecDepth 100000 in
set_option maxHeartbeats 4000000 in
theorem c_X3_performReply8 (G : pa_G) (l : Launch) (K : Nat → Nat → Nat → Int32) (Sm S : Nat → Nat → Int32) (N : Nat → Nat) (O : Nat → Int64) (T D e : Nat) (z : sj_Z) (hs : sj_M K N T D z e S) (t u w wu xa e1 : Nat) (hM : mw_S S T) (ht : t < T) (hu : u < T) (hw : S 218 t = nI w) (hw4 : w < 4) (ha : S 219 t = nI 8) (hwu : S 218 u = nI wu) (hwu4 : wu < 4) (hJs : mj_s S) (hJq : mj_q S) (hxa : S 220 u = nI xa) (hxa10 : xa < 10) (hv : S 221 u = 1 ∨ S 221 u = 2) (he : e1 + 1 ≤ e + (decide (S 208 (10 * w + xa) = 0)).toNat) : pa_M G l mX3_performReply 11 true [pv_o 4 0, pv_o 3 t, pv_o 3 u] (K, Sm, N, O) 2 1520 (sj_post none Sm O T D z e1 (ms_doT S t w 8 u wu xa)) := by
  refine pa_go l (by decide) (by simp [pa_c1l, pa_c1]) (fun _ => rfl) fun x C E el ea => ?_
  subst el
  have hT := hM.1.1
  have hTD := sj_TD hs
  show pa_w G x 3 (K, Sm, N, O) 0 0 0 [some (pv_o 4 0), some (pv_o 3 t), some (pv_o 3 u)] []
  refine pr_aload_n (pc := 0) C dX3_performReply_0 rfl ?_
  refine pr_ifnonnull1 (pc := 1) C 5 dX3_performReply_1 (by decide) ?_
  refine pr_aload_n (pc := 5) C dX3_performReply_5 rfl ?_
  refine pr_geti (pc := 6) C 121 wf_X3_161 rfl (by decide) (pl_3 (sj_n0 hs (by first | assumption | omega))) dX3_performReply_6 ?_
  refine pr_eqi (v := S 219 t) (sj_r121 hs (by first | assumption | omega)) ?_
  refine pr_eqi ha ?_
  refine pr_tableIn (pc := 9) C 126 dX3_performReply_9 (by decide) (by decide) (off := 117) (by decide) (by decide) ?_
  refine pr_aload_n (pc := 126) C dX3_performReply_126 rfl ?_
  refine pr_aload_n (pc := 127) C dX3_performReply_127 rfl ?_
  refine pr_aload_n (pc := 128) C dX3_performReply_128 rfl ?_
  refine pr_vC0 (pc := 129) (rest := []) C (c_X3_denyClaim G _ K Sm S N O T D e z hs t u w wu xa e1 hM hJs hJq ht hu hw hw4 hwu hwu4 hxa hxa10 hv he) wv_X3_351 rfl rfl (by decide) (by decide) (pl_4 _) (by decide) (by omega) (by omega) (fun z => absurd (ea.symm.trans z) (by decide)) (fun _ => ⟨trivial, ⟨⟨lr_kn (by decide), (pl_4 _)⟩, ⟨⟨lr_kn (by decide), (pl_3 (sj_n0 hs (by first | assumption | omega)))⟩, ⟨⟨lr_kn (by decide), (pl_3 (sj_n0 hs (by first | assumption | omega)))⟩, trivial⟩⟩⟩⟩) dX3_performReply_129 ?_
  intro K N hs
  have hwus : (pa_us (ms_says S t w xa (ms_contrary (S 221 u))) 233 (40 * wu + 10 * w + xa) (pz_b (decide ((ms_says S t w xa (ms_contrary (S 221 u))) 208 (10 * wu + xa) = S 221 u)))) 218 u = nI wu := (pa_us_ne (by decide)).trans ((ms_says_ne (by decide) (by decide) (by decide) (by decide)).trans hwu)
  refine pr_aload_n (pc := 132) C dX3_performReply_132 rfl ?_
  refine pr_aload_n (pc := 133) C dX3_performReply_133 rfl ?_
  refine pr_gets (pc := 134) C 120 wf_X3_105 rfl rfl (pl_3 (sj_n0 hs (by first | assumption | omega))) wu ((sj_r120 hs (by first | assumption | omega)).trans hwus) (by first | assumption | omega) dX3_performReply_134 ?_
  refine pr_geti (pc := 137) C 40 wf_X3_160 rfl (by decide) (pl_1 (by first | assumption | omega)) dX3_performReply_137 ?_
  refine pr_eqi (v := nI wu) (sj_r40 hs (by first | assumption | omega)) ?_
  refine pr_vC0 (pc := 140) (rest := []) C (c_X3_entitle G _ K Sm (pa_us (ms_says S t w xa (ms_contrary (S 221 u))) 233 (40 * wu + 10 * w + xa) (pz_b (decide ((ms_says S t w xa (ms_contrary (S 221 u))) 208 (10 * wu + xa) = S 221 u)))) N O T D e1 z hs (nI wu)) wv_X3_328 rfl rfl (by decide) (by decide) (pl_4 _) (by decide) (by omega) (by omega) (fun _ => rfl) (fun z => by cases z) dX3_performReply_140 ?_
  intro K N hs
  refine pr_goto (pc := 143) C 163 dX3_performReply_143 (by decide) ?_
  exact pr_vret (pc := 163) C E (by omega) (by omega) ⟨rfl, K, N, rfl, hs⟩ dX3_performReply_163

set_option maxRecDepth 100000 in
set_option maxHeartbeats 4000000 in
theorem c_X3_performReply14 (G : pa_G) (l : Launch) (K : Nat → Nat → Nat → Int32) (Sm S : Nat → Nat → Int32) (N : Nat → Nat) (O : Nat → Int64) (T D e : Nat) (z : sj_Z) (hs : sj_M K N T D z e S) (t u w wu : Nat) (hM : mw_S S T) (ht : t < T) (hu : u < T) (hw : S 218 t = nI w) (hw4 : w < 4) (ha : S 219 t = nI 14) (hwu : S 218 u = nI wu) (hwu4 : wu < 4) (hut : u ≠ t) (hne : w ≠ wu) (hl : ms_lis (S 222 u) = nI w) : pa_M G l mX3_performReply 11 true [pv_o 4 0, pv_o 3 t, pv_o 3 u] (K, Sm, N, O) 0 0 (sj_post none Sm O T D z e (ms_doO S t w 14 u wu)) := by
  refine pa_go l (by decide) (by simp [pa_c1l, pa_c1]) (fun _ => rfl) fun x C E el ea => ?_
  subst el
  have hT := hM.1.1
  have hTD := sj_TD hs
  show pa_w G x 3 (K, Sm, N, O) 0 0 0 [some (pv_o 4 0), some (pv_o 3 t), some (pv_o 3 u)] []
  refine pr_aload_n (pc := 0) C dX3_performReply_0 rfl ?_
  refine pr_ifnonnull1 (pc := 1) C 5 dX3_performReply_1 (by decide) ?_
  refine pr_aload_n (pc := 5) C dX3_performReply_5 rfl ?_
  refine pr_geti (pc := 6) C 121 wf_X3_161 rfl (by decide) (pl_3 (sj_n0 hs (by first | assumption | omega))) dX3_performReply_6 ?_
  refine pr_eqi (v := S 219 t) (sj_r121 hs (by first | assumption | omega)) ?_
  refine pr_eqi ha ?_
  refine pr_tableIn (pc := 9) C 146 dX3_performReply_9 (by decide) (by decide) (off := 137) (by decide) (by decide) ?_
  refine pr_aload_n (pc := 146) C dX3_performReply_146 rfl ?_
  refine pr_aload_n (pc := 147) C dX3_performReply_147 rfl ?_
  refine pr_aload_n (pc := 148) C dX3_performReply_148 rfl ?_
  refine pr_vC0 (pc := 149) (rest := []) C (c_X3_acceptOffer G _ K Sm S N O T D e z hs t u w wu (by omega) (by omega) hut hw4 hwu hwu4 hne hl) wv_X3_354 rfl rfl (by decide) (by decide) (pl_4 _) (by decide) (by omega) (by omega) (fun _ => rfl) (fun z => by cases z) dX3_performReply_149 ?_
  intro K N hs
  refine pr_goto (pc := 152) C 163 dX3_performReply_152 (by decide) ?_
  exact pr_vret (pc := 163) C E (by omega) (by omega) ⟨rfl, K, N, rfl, hs⟩ dX3_performReply_163

set_option maxRecDepth 100000 in
set_option maxHeartbeats 4000000 in
theorem c_X3_performReply15 (G : pa_G) (l : Launch) (K : Nat → Nat → Nat → Int32) (Sm S : Nat → Nat → Int32) (N : Nat → Nat) (O : Nat → Int64) (T D e : Nat) (z : sj_Z) (hs : sj_M K N T D z e S) (t u w wu : Nat) (hM : mw_S S T) (ht : t < T) (hu : u < T) (hw : S 218 t = nI w) (hw4 : w < 4) (ha : S 219 t = nI 15) (hwu : S 218 u = nI wu) (hwu4 : wu < 4) : pa_M G l mX3_performReply 11 true [pv_o 4 0, pv_o 3 t, pv_o 3 u] (K, Sm, N, O) 0 0 (sj_post none Sm O T D z e (pa_us S 227 u 0)) := by
  refine pa_go l (by decide) (by simp [pa_c1l, pa_c1]) (fun _ => rfl) fun x C E el ea => ?_
  subst el
  have hT := hM.1.1
  have hTD := sj_TD hs
  show pa_w G x 3 (K, Sm, N, O) 0 0 0 [some (pv_o 4 0), some (pv_o 3 t), some (pv_o 3 u)] []
  refine pr_aload_n (pc := 0) C dX3_performReply_0 rfl ?_
  refine pr_ifnonnull1 (pc := 1) C 5 dX3_performReply_1 (by decide) ?_
  refine pr_aload_n (pc := 5) C dX3_performReply_5 rfl ?_
  refine pr_geti (pc := 6) C 121 wf_X3_161 rfl (by decide) (pl_3 (sj_n0 hs (by first | assumption | omega))) dX3_performReply_6 ?_
  refine pr_eqi (v := S 219 t) (sj_r121 hs (by first | assumption | omega)) ?_
  refine pr_eqi ha ?_
  refine pr_tableIn (pc := 9) C 155 dX3_performReply_9 (by decide) (by decide) (off := 146) (by decide) (by decide) ?_
  refine pr_aload_n (pc := 155) C dX3_performReply_155 rfl ?_
  refine pr_iconst (pc := 156) (v := 0) C dX3_performReply_156 (by decide) ?_
  refine pr_putb (pc := 157) C 130 wp_X3_182 rfl (by decide) rfl (by decide) (by decide) (pl_3 (sj_n0 hs (by first | assumption | omega))) dX3_performReply_157 ?_
  refine pr_sim (sj_w130 hs) ?_
  intro K N hs
  refine pr_goto (pc := 160) C 163 dX3_performReply_160 (by decide) ?_
  exact pr_vret (pc := 163) C E (by omega) (by omega) ⟨rfl, K, N, rfl, hs⟩ dX3_performReply_163

