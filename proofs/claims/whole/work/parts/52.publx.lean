/-! THE CLASS: its public methods, something being badly told: what they throw -/
set_option maxRecDepth 100000 in
set_option maxHeartbeats 4000000 in
theorem c_X3_powerX1 (G : pa_G) (l : Launch) (K : Nat → Nat → Nat → Int32) (Sm S : Nat → Nat → Int32) (N : Nat → Nat) (O : Nat → Int64) (T D e : Nat) (z : sj_Z) (hl9 : l.stackTraces = false) (hs : sj_M K N T D z e S) (v u0 : Int32) (hn : ms_in v 0 3 = false) : pa_MT G l mX3_power 7 [pv_o 4 0, pv_i v, pv_i u0] (K, Sm, N, O) 1 6 px_I := by
  refine pa_goX l hl9 (by decide) (by simp [pa_c1l, pa_c1]) (fun _ => rfl) fun x C E EX el e0 ea => ?_
  subst el
  show pa_w G x 4 (K, Sm, N, O) 0 0 0 [some (pv_o 4 0), some (pv_i v), some (pv_i u0), none] []
  refine pr_iload_n (pc := 0) C dX3_power_0 rfl ?_
  exact pr_sX (pc := 1) C EX (c_X3_needSpeakerX G _ hl9 (K, Sm, N, O) v hn) (fun _ z => z) ws_X3_39 rfl rfl (by decide) (by decide) (by omega) (by omega) (by omega) (by omega) (pa_bk e0) dX3_power_1

set_option maxRecDepth 100000 in
set_option maxHeartbeats 4000000 in
theorem c_X3_knowsX1 (G : pa_G) (l : Launch) (K : Nat → Nat → Nat → Int32) (Sm S : Nat → Nat → Int32) (N : Nat → Nat) (O : Nat → Int64) (T D e : Nat) (z : sj_Z) (hl9 : l.stackTraces = false) (hs : sj_M K N T D z e S) (v u0 u1 u2 : Int32) (hn : ms_in v 0 3 = false) : pa_MT G l mX3_knows 7 [pv_o 4 0, pv_i v, pv_i u0, pv_i u1, pv_i u2] (K, Sm, N, O) 1 6 px_I := by
  refine pa_goX l hl9 (by decide) (by simp [pa_c1l, pa_c1]) (fun _ => rfl) fun x C E EX el e0 ea => ?_
  subst el
  show pa_w G x 6 (K, Sm, N, O) 0 0 0 [some (pv_o 4 0), some (pv_i v), some (pv_i u0), some (pv_i u1), some (pv_i u2), none] []
  refine pr_iload_n (pc := 0) C dX3_knows_0 rfl ?_
  exact pr_sX (pc := 1) C EX (c_X3_needSpeakerX G _ hl9 (K, Sm, N, O) v hn) (fun _ z => z) ws_X3_39 rfl rfl (by decide) (by decide) (by omega) (by omega) (by omega) (by omega) (pa_bk e0) dX3_knows_1

set_option maxRecDepth 100000 in
set_option maxHeartbeats 4000000 in
theorem c_X3_believeX1 (G : pa_G) (l : Launch) (K : Nat → Nat → Nat → Int32) (Sm S : Nat → Nat → Int32) (N : Nat → Nat) (O : Nat → Int64) (T D e : Nat) (z : sj_Z) (hl9 : l.stackTraces = false) (hs : sj_M K N T D z e S) (v u0 u1 : Int32) (hn : ms_in v 0 3 = false) : pa_MT G l mX3_believe 7 [pv_o 4 0, pv_i v, pv_i u0, pv_i u1] (K, Sm, N, O) 1 6 px_I := by
  refine pa_goX l hl9 (by decide) (by simp [pa_c1l, pa_c1]) (fun _ => rfl) fun x C E EX el e0 ea => ?_
  subst el
  show pa_w G x 5 (K, Sm, N, O) 0 0 0 [some (pv_o 4 0), some (pv_i v), some (pv_i u0), some (pv_i u1), none] []
  refine pr_iload_n (pc := 0) C dX3_believe_0 rfl ?_
  exact pr_sX (pc := 1) C EX (c_X3_needSpeakerX G _ hl9 (K, Sm, N, O) v hn) (fun _ z => z) ws_X3_39 rfl rfl (by decide) (by decide) (by omega) (by omega) (by omega) (by omega) (pa_bk e0) dX3_believe_1

set_option maxRecDepth 100000 in
set_option maxHeartbeats 4000000 in
theorem c_X3_deafenX1 (G : pa_G) (l : Launch) (K : Nat → Nat → Nat → Int32) (Sm S : Nat → Nat → Int32) (N : Nat → Nat) (O : Nat → Int64) (T D e : Nat) (z : sj_Z) (hl9 : l.stackTraces = false) (hs : sj_M K N T D z e S) (v u0 : Int32) (hn : ms_in v 0 3 = false) : pa_MT G l mX3_deafen 7 [pv_o 4 0, pv_i v, pv_i u0] (K, Sm, N, O) 1 6 px_I := by
  refine pa_goX l hl9 (by decide) (by simp [pa_c1l, pa_c1]) (fun _ => rfl) fun x C E EX el e0 ea => ?_
  subst el
  show pa_w G x 3 (K, Sm, N, O) 0 0 0 [some (pv_o 4 0), some (pv_i v), some (pv_i u0)] []
  refine pr_iload_n (pc := 0) C dX3_deafen_0 rfl ?_
  exact pr_sX (pc := 1) C EX (c_X3_needSpeakerX G _ hl9 (K, Sm, N, O) v hn) (fun _ z => z) ws_X3_39 rfl rfl (by decide) (by decide) (by omega) (by omega) (by omega) (by omega) (pa_bk e0) dX3_deafen_1

set_option maxRecDepth 100000 in
set_option maxHeartbeats 4000000 in
theorem c_X3_standX1 (G : pa_G) (l : Launch) (K : Nat → Nat → Nat → Int32) (Sm S : Nat → Nat → Int32) (N : Nat → Nat) (O : Nat → Int64) (T D e : Nat) (z : sj_Z) (hl9 : l.stackTraces = false) (hs : sj_M K N T D z e S) (v u0 : Int32) (hn : ms_in v 0 3 = false) : pa_MT G l mX3_stand 7 [pv_o 4 0, pv_i v, pv_i u0] (K, Sm, N, O) 1 6 px_I := by
  refine pa_goX l hl9 (by decide) (by simp [pa_c1l, pa_c1]) (fun _ => rfl) fun x C E EX el e0 ea => ?_
  subst el
  show pa_w G x 3 (K, Sm, N, O) 0 0 0 [some (pv_o 4 0), some (pv_i v), some (pv_i u0)] []
  refine pr_iload_n (pc := 0) C dX3_stand_0 rfl ?_
  exact pr_sX (pc := 1) C EX (c_X3_needSpeakerX G _ hl9 (K, Sm, N, O) v hn) (fun _ z => z) ws_X3_39 rfl rfl (by decide) (by decide) (by omega) (by omega) (by omega) (by omega) (pa_bk e0) dX3_stand_1

set_option maxRecDepth 100000 in
set_option maxHeartbeats 4000000 in
theorem c_X3_standByX1 (G : pa_G) (l : Launch) (K : Nat → Nat → Nat → Int32) (Sm S : Nat → Nat → Int32) (N : Nat → Nat) (O : Nat → Int64) (T D e : Nat) (z : sj_Z) (hl9 : l.stackTraces = false) (hs : sj_M K N T D z e S) (v u0 : Int32) (hn : ms_in v 0 3 = false) : pa_MT G l mX3_standBy 7 [pv_o 4 0, pv_i v, pv_i u0] (K, Sm, N, O) 1 6 px_I := by
  refine pa_goX l hl9 (by decide) (by simp [pa_c1l, pa_c1]) (fun _ => rfl) fun x C E EX el e0 ea => ?_
  subst el
  show pa_w G x 4 (K, Sm, N, O) 0 0 0 [some (pv_o 4 0), some (pv_i v), some (pv_i u0), none] []
  refine pr_iload_n (pc := 0) C dX3_standBy_0 rfl ?_
  exact pr_sX (pc := 1) C EX (c_X3_needSpeakerX G _ hl9 (K, Sm, N, O) v hn) (fun _ z => z) ws_X3_39 rfl rfl (by decide) (by decide) (by omega) (by omega) (by omega) (by omega) (pa_bk e0) dX3_standBy_1

set_option maxRecDepth 100000 in
set_option maxHeartbeats 4000000 in
theorem c_X3_standAnewX1 (G : pa_G) (l : Launch) (K : Nat → Nat → Nat → Int32) (Sm S : Nat → Nat → Int32) (N : Nat → Nat) (O : Nat → Int64) (T D e : Nat) (z : sj_Z) (hl9 : l.stackTraces = false) (hs : sj_M K N T D z e S) (v u0 : Int32) (hn : ms_in v 0 3 = false) : pa_MT G l mX3_standAnew 7 [pv_o 4 0, pv_i v, pv_i u0] (K, Sm, N, O) 1 6 px_I := by
  refine pa_goX l hl9 (by decide) (by simp [pa_c1l, pa_c1]) (fun _ => rfl) fun x C E EX el e0 ea => ?_
  subst el
  show pa_w G x 6 (K, Sm, N, O) 0 0 0 [some (pv_o 4 0), some (pv_i v), some (pv_i u0), none, none, none] []
  refine pr_iload_n (pc := 0) C dX3_standAnew_0 rfl ?_
  exact pr_sX (pc := 1) C EX (c_X3_needSpeakerX G _ hl9 (K, Sm, N, O) v hn) (fun _ z => z) ws_X3_39 rfl rfl (by decide) (by decide) (by omega) (by omega) (by omega) (by omega) (pa_bk e0) dX3_standAnew_1

set_option maxRecDepth 100000 in
set_option maxHeartbeats 4000000 in
theorem c_X3_hintX1 (G : pa_G) (l : Launch) (K : Nat → Nat → Nat → Int32) (Sm S : Nat → Nat → Int32) (N : Nat → Nat) (O : Nat → Int64) (T D e : Nat) (z : sj_Z) (hl9 : l.stackTraces = false) (hs : sj_M K N T D z e S) (v u0 : Int32) (hn : ms_in v 0 3 = false) : pa_MT G l mX3_hint 7 [pv_o 4 0, pv_i v, pv_i u0] (K, Sm, N, O) 1 6 px_I := by
  refine pa_goX l hl9 (by decide) (by simp [pa_c1l, pa_c1]) (fun _ => rfl) fun x C E EX el e0 ea => ?_
  subst el
  show pa_w G x 4 (K, Sm, N, O) 0 0 0 [some (pv_o 4 0), some (pv_i v), some (pv_i u0), none] []
  refine pr_iload_n (pc := 0) C dX3_hint_0 rfl ?_
  exact pr_sX (pc := 1) C EX (c_X3_needSpeakerX G _ hl9 (K, Sm, N, O) v hn) (fun _ z => z) ws_X3_39 rfl rfl (by decide) (by decide) (by omega) (by omega) (by omega) (by omega) (pa_bk e0) dX3_hint_1

set_option maxRecDepth 100000 in
set_option maxHeartbeats 4000000 in
theorem c_X3_isSupportedX1 (G : pa_G) (l : Launch) (K : Nat → Nat → Nat → Int32) (Sm S : Nat → Nat → Int32) (N : Nat → Nat) (O : Nat → Int64) (T D e : Nat) (z : sj_Z) (hl9 : l.stackTraces = false) (hs : sj_M K N T D z e S) (v u0 : Int32) (hn : ms_in v 0 3 = false) : pa_MT G l mX3_isSupported 7 [pv_o 4 0, pv_i v, pv_i u0] (K, Sm, N, O) 1 6 px_I := by
  refine pa_goX l hl9 (by decide) (by simp [pa_c1l, pa_c1]) (fun _ => rfl) fun x C E EX el e0 ea => ?_
  subst el
  show pa_w G x 5 (K, Sm, N, O) 0 0 0 [some (pv_o 4 0), some (pv_i v), some (pv_i u0), none, none] []
  refine pr_iload_n (pc := 0) C dX3_isSupported_0 rfl ?_
  exact pr_sX (pc := 1) C EX (c_X3_needSpeakerX G _ hl9 (K, Sm, N, O) v hn) (fun _ z => z) ws_X3_39 rfl rfl (by decide) (by decide) (by omega) (by omega) (by omega) (by omega) (pa_bk e0) dX3_isSupported_1

set_option maxRecDepth 100000 in
set_option maxHeartbeats 4000000 in
theorem c_X3_liesX1 (G : pa_G) (l : Launch) (K : Nat → Nat → Nat → Int32) (Sm S : Nat → Nat → Int32) (N : Nat → Nat) (O : Nat → Int64) (T D e : Nat) (z : sj_Z) (hl9 : l.stackTraces = false) (hs : sj_M K N T D z e S) (v  : Int32) (hn : ms_in v 0 3 = false) : pa_MT G l mX3_lies 7 [pv_o 4 0, pv_i v] (K, Sm, N, O) 1 6 px_I := by
  refine pa_goX l hl9 (by decide) (by simp [pa_c1l, pa_c1]) (fun _ => rfl) fun x C E EX el e0 ea => ?_
  subst el
  show pa_w G x 2 (K, Sm, N, O) 0 0 0 [some (pv_o 4 0), some (pv_i v)] []
  refine pr_iload_n (pc := 0) C dX3_lies_0 rfl ?_
  exact pr_sX (pc := 1) C EX (c_X3_needSpeakerX G _ hl9 (K, Sm, N, O) v hn) (fun _ z => z) ws_X3_39 rfl rfl (by decide) (by decide) (by omega) (by omega) (by omega) (by omega) (pa_bk e0) dX3_lies_1

set_option maxRecDepth 100000 in
set_option maxHeartbeats 4000000 in
theorem c_X3_standX2 (G : pa_G) (l : Launch) (K : Nat → Nat → Nat → Int32) (Sm S : Nat → Nat → Int32) (N : Nat → Nat) (O : Nat → Int64) (T D e : Nat) (z : sj_Z) (hl9 : l.stackTraces = false) (hs : sj_M K N T D z e S) (sp : Nat) (v : Int32) (hs4 : sp < 4) (hn : ms_in v 0 9 = false) : pa_MT G l mX3_stand 7 [pv_o 4 0, pv_i (nI sp), pv_i v] (K, Sm, N, O) 1 6 px_I := by
  refine pa_goX l hl9 (by decide) (by simp [pa_c1l, pa_c1]) (fun _ => rfl) fun x C E EX el e0 ea => ?_
  subst el
  show pa_w G x 3 (K, Sm, N, O) 0 0 0 [some (pv_o 4 0), some (pv_i (nI sp)), some (pv_i v)] []
  refine pr_iload_n (pc := 0) C dX3_stand_0 rfl ?_
  refine pr_sE (pc := 1) C (c_X3_needSpeakerY G _ (K, Sm, N, O) sp (by first | assumption | omega)) ws_X3_39 rfl rfl (by decide) (Nat.le_of_ble_eq_true rfl) (by omega) (by omega) dX3_stand_1 ?_
  refine pr_iload_n (pc := 4) C dX3_stand_4 rfl ?_
  exact pr_sX (pc := 5) C EX (c_X3_needAtomX G _ hl9 (K, Sm, N, O) v hn) (fun _ z => z) ws_X3_70 rfl rfl (by decide) (by decide) (by omega) (by omega) (by omega) (by omega) (pa_bk e0) dX3_stand_5

set_option maxRecDepth 100000 in
set_option maxHeartbeats 4000000 in
theorem c_X3_standByX2 (G : pa_G) (l : Launch) (K : Nat → Nat → Nat → Int32) (Sm S : Nat → Nat → Int32) (N : Nat → Nat) (O : Nat → Int64) (T D e : Nat) (z : sj_Z) (hl9 : l.stackTraces = false) (hs : sj_M K N T D z e S) (sp : Nat) (v : Int32) (hs4 : sp < 4) (hn : ms_in v 0 9 = false) : pa_MT G l mX3_standBy 7 [pv_o 4 0, pv_i (nI sp), pv_i v] (K, Sm, N, O) 1 6 px_I := by
  refine pa_goX l hl9 (by decide) (by simp [pa_c1l, pa_c1]) (fun _ => rfl) fun x C E EX el e0 ea => ?_
  subst el
  show pa_w G x 4 (K, Sm, N, O) 0 0 0 [some (pv_o 4 0), some (pv_i (nI sp)), some (pv_i v), none] []
  refine pr_iload_n (pc := 0) C dX3_standBy_0 rfl ?_
  refine pr_sE (pc := 1) C (c_X3_needSpeakerY G _ (K, Sm, N, O) sp (by first | assumption | omega)) ws_X3_39 rfl rfl (by decide) (Nat.le_of_ble_eq_true rfl) (by omega) (by omega) dX3_standBy_1 ?_
  refine pr_iload_n (pc := 4) C dX3_standBy_4 rfl ?_
  exact pr_sX (pc := 5) C EX (c_X3_needAtomX G _ hl9 (K, Sm, N, O) v hn) (fun _ z => z) ws_X3_70 rfl rfl (by decide) (by decide) (by omega) (by omega) (by omega) (by omega) (pa_bk e0) dX3_standBy_5

set_option maxRecDepth 100000 in
set_option maxHeartbeats 4000000 in
theorem c_X3_standAnewX2 (G : pa_G) (l : Launch) (K : Nat → Nat → Nat → Int32) (Sm S : Nat → Nat → Int32) (N : Nat → Nat) (O : Nat → Int64) (T D e : Nat) (z : sj_Z) (hl9 : l.stackTraces = false) (hs : sj_M K N T D z e S) (sp : Nat) (v : Int32) (hs4 : sp < 4) (hn : ms_in v 0 9 = false) : pa_MT G l mX3_standAnew 7 [pv_o 4 0, pv_i (nI sp), pv_i v] (K, Sm, N, O) 1 6 px_I := by
  refine pa_goX l hl9 (by decide) (by simp [pa_c1l, pa_c1]) (fun _ => rfl) fun x C E EX el e0 ea => ?_
  subst el
  show pa_w G x 6 (K, Sm, N, O) 0 0 0 [some (pv_o 4 0), some (pv_i (nI sp)), some (pv_i v), none, none, none] []
  refine pr_iload_n (pc := 0) C dX3_standAnew_0 rfl ?_
  refine pr_sE (pc := 1) C (c_X3_needSpeakerY G _ (K, Sm, N, O) sp (by first | assumption | omega)) ws_X3_39 rfl rfl (by decide) (Nat.le_of_ble_eq_true rfl) (by omega) (by omega) dX3_standAnew_1 ?_
  refine pr_iload_n (pc := 4) C dX3_standAnew_4 rfl ?_
  exact pr_sX (pc := 5) C EX (c_X3_needAtomX G _ hl9 (K, Sm, N, O) v hn) (fun _ z => z) ws_X3_70 rfl rfl (by decide) (by decide) (by omega) (by omega) (by omega) (by omega) (pa_bk e0) dX3_standAnew_5

set_option maxRecDepth 100000 in
set_option maxHeartbeats 4000000 in
theorem c_X3_hintX2 (G : pa_G) (l : Launch) (K : Nat → Nat → Nat → Int32) (Sm S : Nat → Nat → Int32) (N : Nat → Nat) (O : Nat → Int64) (T D e : Nat) (z : sj_Z) (hl9 : l.stackTraces = false) (hs : sj_M K N T D z e S) (sp : Nat) (v : Int32) (hs4 : sp < 4) (hn : ms_in v 0 9 = false) : pa_MT G l mX3_hint 7 [pv_o 4 0, pv_i (nI sp), pv_i v] (K, Sm, N, O) 1 6 px_I := by
  refine pa_goX l hl9 (by decide) (by simp [pa_c1l, pa_c1]) (fun _ => rfl) fun x C E EX el e0 ea => ?_
  subst el
  show pa_w G x 4 (K, Sm, N, O) 0 0 0 [some (pv_o 4 0), some (pv_i (nI sp)), some (pv_i v), none] []
  refine pr_iload_n (pc := 0) C dX3_hint_0 rfl ?_
  refine pr_sE (pc := 1) C (c_X3_needSpeakerY G _ (K, Sm, N, O) sp (by first | assumption | omega)) ws_X3_39 rfl rfl (by decide) (Nat.le_of_ble_eq_true rfl) (by omega) (by omega) dX3_hint_1 ?_
  refine pr_iload_n (pc := 4) C dX3_hint_4 rfl ?_
  exact pr_sX (pc := 5) C EX (c_X3_needAtomX G _ hl9 (K, Sm, N, O) v hn) (fun _ z => z) ws_X3_70 rfl rfl (by decide) (by decide) (by omega) (by omega) (by omega) (by omega) (pa_bk e0) dX3_hint_5

set_option maxRecDepth 100000 in
set_option maxHeartbeats 4000000 in
theorem c_X3_isSupportedX2 (G : pa_G) (l : Launch) (K : Nat → Nat → Nat → Int32) (Sm S : Nat → Nat → Int32) (N : Nat → Nat) (O : Nat → Int64) (T D e : Nat) (z : sj_Z) (hl9 : l.stackTraces = false) (hs : sj_M K N T D z e S) (sp : Nat) (v : Int32) (hs4 : sp < 4) (hn : ms_in v 0 9 = false) : pa_MT G l mX3_isSupported 7 [pv_o 4 0, pv_i (nI sp), pv_i v] (K, Sm, N, O) 1 6 px_I := by
  refine pa_goX l hl9 (by decide) (by simp [pa_c1l, pa_c1]) (fun _ => rfl) fun x C E EX el e0 ea => ?_
  subst el
  show pa_w G x 5 (K, Sm, N, O) 0 0 0 [some (pv_o 4 0), some (pv_i (nI sp)), some (pv_i v), none, none] []
  refine pr_iload_n (pc := 0) C dX3_isSupported_0 rfl ?_
  refine pr_sE (pc := 1) C (c_X3_needSpeakerY G _ (K, Sm, N, O) sp (by first | assumption | omega)) ws_X3_39 rfl rfl (by decide) (Nat.le_of_ble_eq_true rfl) (by omega) (by omega) dX3_isSupported_1 ?_
  refine pr_iload_n (pc := 4) C dX3_isSupported_4 rfl ?_
  exact pr_sX (pc := 5) C EX (c_X3_needAtomX G _ hl9 (K, Sm, N, O) v hn) (fun _ z => z) ws_X3_70 rfl rfl (by decide) (by decide) (by omega) (by omega) (by omega) (by omega) (pa_bk e0) dX3_isSupported_5

set_option maxRecDepth 100000 in
set_option maxHeartbeats 4000000 in
theorem c_X3_powerX2 (G : pa_G) (l : Launch) (K : Nat → Nat → Nat → Int32) (Sm S : Nat → Nat → Int32) (N : Nat → Nat) (O : Nat → Int64) (T D e : Nat) (z : sj_Z) (hl9 : l.stackTraces = false) (hs : sj_M K N T D z e S) (sp : Nat) (v : Int32) (hs4 : sp < 4) (hn : ms_in v 0 9 = false) : pa_MT G l mX3_power 7 [pv_o 4 0, pv_i (nI sp), pv_i v] (K, Sm, N, O) 1 6 px_A := by
  refine pa_goX l hl9 (by decide) (by simp [pa_c1l, pa_c1]) (fun _ => rfl) fun x C E EX el e0 ea => ?_
  subst el
  show pa_w G x 4 (K, Sm, N, O) 0 0 0 [some (pv_o 4 0), some (pv_i (nI sp)), some (pv_i v), none] []
  refine pr_iload_n (pc := 0) C dX3_power_0 rfl ?_
  refine pr_sE (pc := 1) C (c_X3_needSpeakerY G _ (K, Sm, N, O) sp (by first | assumption | omega)) ws_X3_39 rfl rfl (by decide) (Nat.le_of_ble_eq_true rfl) (by omega) (by omega) dX3_power_1 ?_
  refine pr_iload_n (pc := 4) C dX3_power_4 rfl ?_
  refine pr_iconst (pc := 5) (v := 0) C dX3_power_5 (by decide) ?_
  refine pr_bipush (pc := 6) (v := 9) C dX3_power_6 (by decide) ?_
  exact pr_sX (pc := 8) C EX (c_X3_needRangeX G _ hl9 (K, Sm, N, O) v (0 : Int32) (9 : Int32) hn) (fun _ z => z) ws_X3_42 rfl rfl (by decide) (by decide) (by omega) (by omega) (by omega) (by omega) (pa_bk e0) dX3_power_8

set_option maxRecDepth 100000 in
set_option maxHeartbeats 4000000 in
theorem c_X3_deafenX2 (G : pa_G) (l : Launch) (K : Nat → Nat → Nat → Int32) (Sm S : Nat → Nat → Int32) (N : Nat → Nat) (O : Nat → Int64) (T D e : Nat) (z : sj_Z) (hl9 : l.stackTraces = false) (hs : sj_M K N T D z e S) (sp : Nat) (v : Int32) (hs4 : sp < 4) (hn : ms_in v 0 20 = false) : pa_MT G l mX3_deafen 7 [pv_o 4 0, pv_i (nI sp), pv_i v] (K, Sm, N, O) 1 6 px_A := by
  refine pa_goX l hl9 (by decide) (by simp [pa_c1l, pa_c1]) (fun _ => rfl) fun x C E EX el e0 ea => ?_
  subst el
  show pa_w G x 3 (K, Sm, N, O) 0 0 0 [some (pv_o 4 0), some (pv_i (nI sp)), some (pv_i v)] []
  refine pr_iload_n (pc := 0) C dX3_deafen_0 rfl ?_
  refine pr_sE (pc := 1) C (c_X3_needSpeakerY G _ (K, Sm, N, O) sp (by first | assumption | omega)) ws_X3_39 rfl rfl (by decide) (Nat.le_of_ble_eq_true rfl) (by omega) (by omega) dX3_deafen_1 ?_
  refine pr_iload_n (pc := 4) C dX3_deafen_4 rfl ?_
  refine pr_iconst (pc := 5) (v := 0) C dX3_deafen_5 (by decide) ?_
  refine pr_bipush (pc := 6) (v := 20) C dX3_deafen_6 (by decide) ?_
  exact pr_sX (pc := 8) C EX (c_X3_needRangeX G _ hl9 (K, Sm, N, O) v (0 : Int32) (20 : Int32) hn) (fun _ z => z) ws_X3_42 rfl rfl (by decide) (by decide) (by omega) (by omega) (by omega) (by omega) (pa_bk e0) dX3_deafen_8

set_option maxRecDepth 100000 in
set_option maxHeartbeats 4000000 in
theorem c_X3_believeX2 (G : pa_G) (l : Launch) (K : Nat → Nat → Nat → Int32) (Sm S : Nat → Nat → Int32) (N : Nat → Nat) (O : Nat → Int64) (T D e : Nat) (z : sj_Z) (hl9 : l.stackTraces = false) (hs : sj_M K N T D z e S) (sp : Nat) (v u : Int32) (hs4 : sp < 4) (hn : ms_in v 0 9 = false) : pa_MT G l mX3_believe 7 [pv_o 4 0, pv_i (nI sp), pv_i v, pv_i u] (K, Sm, N, O) 1 6 px_I := by
  refine pa_goX l hl9 (by decide) (by simp [pa_c1l, pa_c1]) (fun _ => rfl) fun x C E EX el e0 ea => ?_
  subst el
  show pa_w G x 5 (K, Sm, N, O) 0 0 0 [some (pv_o 4 0), some (pv_i (nI sp)), some (pv_i v), some (pv_i u), none] []
  refine pr_iload_n (pc := 0) C dX3_believe_0 rfl ?_
  refine pr_sE (pc := 1) C (c_X3_needSpeakerY G _ (K, Sm, N, O) sp (by first | assumption | omega)) ws_X3_39 rfl rfl (by decide) (Nat.le_of_ble_eq_true rfl) (by omega) (by omega) dX3_believe_1 ?_
  refine pr_iload_n (pc := 4) C dX3_believe_4 rfl ?_
  exact pr_sX (pc := 5) C EX (c_X3_needAtomX G _ hl9 (K, Sm, N, O) v hn) (fun _ z => z) ws_X3_70 rfl rfl (by decide) (by decide) (by omega) (by omega) (by omega) (by omega) (pa_bk e0) dX3_believe_5

set_option maxRecDepth 100000 in
set_option maxHeartbeats 4000000 in
theorem c_X3_believeX3 (G : pa_G) (l : Launch) (K : Nat → Nat → Nat → Int32) (Sm S : Nat → Nat → Int32) (N : Nat → Nat) (O : Nat → Int64) (T D e : Nat) (z : sj_Z) (hl9 : l.stackTraces = false) (hs : sj_M K N T D z e S) (sp a9 : Nat) (v : Int32) (hs4 : sp < 4) (ha10 : a9 < 10) (hn : ms_in v 0 2 = false) : pa_MT G l mX3_believe 7 [pv_o 4 0, pv_i (nI sp), pv_i (nI a9), pv_i v] (K, Sm, N, O) 1 6 px_A := by
  refine pa_goX l hl9 (by decide) (by simp [pa_c1l, pa_c1]) (fun _ => rfl) fun x C E EX el e0 ea => ?_
  subst el
  show pa_w G x 5 (K, Sm, N, O) 0 0 0 [some (pv_o 4 0), some (pv_i (nI sp)), some (pv_i (nI a9)), some (pv_i v), none] []
  refine pr_iload_n (pc := 0) C dX3_believe_0 rfl ?_
  refine pr_sE (pc := 1) C (c_X3_needSpeakerY G _ (K, Sm, N, O) sp (by first | assumption | omega)) ws_X3_39 rfl rfl (by decide) (Nat.le_of_ble_eq_true rfl) (by omega) (by omega) dX3_believe_1 ?_
  refine pr_iload_n (pc := 4) C dX3_believe_4 rfl ?_
  refine pr_sE (pc := 5) C (c_X3_needAtomY G _ (K, Sm, N, O) (nI a9) (sc_in9 _ (by first | assumption | omega))) ws_X3_70 rfl rfl (by decide) (Nat.le_of_ble_eq_true rfl) (by omega) (by omega) dX3_believe_5 ?_
  refine pr_iload_n (pc := 8) C dX3_believe_8 rfl ?_
  refine pr_iconst (pc := 9) (v := 0) C dX3_believe_9 (by decide) ?_
  refine pr_iconst (pc := 10) (v := 2) C dX3_believe_10 (by decide) ?_
  exact pr_sX (pc := 11) C EX (c_X3_needRangeX G _ hl9 (K, Sm, N, O) v (0 : Int32) (2 : Int32) hn) (fun _ z => z) ws_X3_42 rfl rfl (by decide) (by decide) (by omega) (by omega) (by omega) (by omega) (pa_bk e0) dX3_believe_11

set_option maxRecDepth 100000 in
set_option maxHeartbeats 4000000 in
theorem c_X3_knowsX2 (G : pa_G) (l : Launch) (K : Nat → Nat → Nat → Int32) (Sm S : Nat → Nat → Int32) (N : Nat → Nat) (O : Nat → Int64) (T D e : Nat) (z : sj_Z) (hl9 : l.stackTraces = false) (hs : sj_M K N T D z e S) (sp : Nat) (set one is : Int32) (hs4 : sp < 4) (hn : ms_in set 1 7 = false) : pa_MT G l mX3_knows 7 [pv_o 4 0, pv_i (nI sp), pv_i set, pv_i one, pv_i is] (K, Sm, N, O) 1 6 px_A := by
  refine pa_goX l hl9 (by decide) (by simp [pa_c1l, pa_c1]) (fun _ => rfl) fun x C E EX el e0 ea => ?_
  subst el
  show pa_w G x 6 (K, Sm, N, O) 0 0 0 [some (pv_o 4 0), some (pv_i (nI sp)), some (pv_i set), some (pv_i one), some (pv_i is), none] []
  refine pr_iload_n (pc := 0) C dX3_knows_0 rfl ?_
  refine pr_sE (pc := 1) C (c_X3_needSpeakerY G _ (K, Sm, N, O) sp (by first | assumption | omega)) ws_X3_39 rfl rfl (by decide) (Nat.le_of_ble_eq_true rfl) (by omega) (by omega) dX3_knows_1 ?_
  refine pr_iload_n (pc := 4) C dX3_knows_4 rfl ?_
  refine pr_iconst (pc := 5) (v := 1) C dX3_knows_5 (by decide) ?_
  refine pr_bipush (pc := 6) (v := 7) C dX3_knows_6 (by decide) ?_
  exact pr_sX (pc := 8) C EX (c_X3_needRangeX G _ hl9 (K, Sm, N, O) set (1 : Int32) (7 : Int32) hn) (fun _ z => z) ws_X3_42 rfl rfl (by decide) (by decide) (by omega) (by omega) (by omega) (by omega) (pa_bk e0) dX3_knows_8

set_option maxRecDepth 100000 in
set_option maxHeartbeats 4000000 in
theorem c_X3_knowsX3 (G : pa_G) (l : Launch) (K : Nat → Nat → Nat → Int32) (Sm S : Nat → Nat → Int32) (N : Nat → Nat) (O : Nat → Int64) (T D e : Nat) (z : sj_Z) (hl9 : l.stackTraces = false) (hs : sj_M K N T D z e S) (sp : Nat) (set one is : Int32) (hs4 : sp < 4) (h1 : ms_in set 1 7 = true) (hn : ms_in one 0 2 = false) : pa_MT G l mX3_knows 7 [pv_o 4 0, pv_i (nI sp), pv_i set, pv_i one, pv_i is] (K, Sm, N, O) 1 6 px_A := by
  refine pa_goX l hl9 (by decide) (by simp [pa_c1l, pa_c1]) (fun _ => rfl) fun x C E EX el e0 ea => ?_
  subst el
  show pa_w G x 6 (K, Sm, N, O) 0 0 0 [some (pv_o 4 0), some (pv_i (nI sp)), some (pv_i set), some (pv_i one), some (pv_i is), none] []
  refine pr_iload_n (pc := 0) C dX3_knows_0 rfl ?_
  refine pr_sE (pc := 1) C (c_X3_needSpeakerY G _ (K, Sm, N, O) sp (by first | assumption | omega)) ws_X3_39 rfl rfl (by decide) (Nat.le_of_ble_eq_true rfl) (by omega) (by omega) dX3_knows_1 ?_
  refine pr_iload_n (pc := 4) C dX3_knows_4 rfl ?_
  refine pr_iconst (pc := 5) (v := 1) C dX3_knows_5 (by decide) ?_
  refine pr_bipush (pc := 6) (v := 7) C dX3_knows_6 (by decide) ?_
  refine pr_sE (pc := 8) C (c_X3_needRangeY G _ (K, Sm, N, O) set (1 : Int32) (7 : Int32) h1) ws_X3_42 rfl rfl (by decide) (Nat.le_of_ble_eq_true rfl) (by omega) (by omega) dX3_knows_8 ?_
  refine pr_iload_n (pc := 11) C dX3_knows_11 rfl ?_
  refine pr_iconst (pc := 12) (v := 0) C dX3_knows_12 (by decide) ?_
  refine pr_iconst (pc := 13) (v := 2) C dX3_knows_13 (by decide) ?_
  exact pr_sX (pc := 14) C EX (c_X3_needRangeX G _ hl9 (K, Sm, N, O) one (0 : Int32) (2 : Int32) hn) (fun _ z => z) ws_X3_42 rfl rfl (by decide) (by decide) (by omega) (by omega) (by omega) (by omega) (pa_bk e0) dX3_knows_14

set_option maxRecDepth 100000 in
set_option maxHeartbeats 4000000 in
theorem c_X3_knowsX4 (G : pa_G) (l : Launch) (K : Nat → Nat → Nat → Int32) (Sm S : Nat → Nat → Int32) (N : Nat → Nat) (O : Nat → Int64) (T D e : Nat) (z : sj_Z) (hl9 : l.stackTraces = false) (hs : sj_M K N T D z e S) (sp : Nat) (set one is : Int32) (hs4 : sp < 4) (h1 : ms_in set 1 7 = true) (h2 : ms_in one 0 2 = true) (hn : ms_isIn set one = false) : pa_MT G l mX3_knows 7 [pv_o 4 0, pv_i (nI sp), pv_i set, pv_i one, pv_i is] (K, Sm, N, O) 1 6 px_A := by
  refine pa_goX l hl9 (by decide) (by simp [pa_c1l, pa_c1]) (fun _ => rfl) fun x C E EX el e0 ea => ?_
  subst el
  show pa_w G x 6 (K, Sm, N, O) 0 0 0 [some (pv_o 4 0), some (pv_i (nI sp)), some (pv_i set), some (pv_i one), some (pv_i is), none] []
  refine pr_iload_n (pc := 0) C dX3_knows_0 rfl ?_
  refine pr_sE (pc := 1) C (c_X3_needSpeakerY G _ (K, Sm, N, O) sp (by first | assumption | omega)) ws_X3_39 rfl rfl (by decide) (Nat.le_of_ble_eq_true rfl) (by omega) (by omega) dX3_knows_1 ?_
  refine pr_iload_n (pc := 4) C dX3_knows_4 rfl ?_
  refine pr_iconst (pc := 5) (v := 1) C dX3_knows_5 (by decide) ?_
  refine pr_bipush (pc := 6) (v := 7) C dX3_knows_6 (by decide) ?_
  refine pr_sE (pc := 8) C (c_X3_needRangeY G _ (K, Sm, N, O) set (1 : Int32) (7 : Int32) h1) ws_X3_42 rfl rfl (by decide) (Nat.le_of_ble_eq_true rfl) (by omega) (by omega) dX3_knows_8 ?_
  refine pr_iload_n (pc := 11) C dX3_knows_11 rfl ?_
  refine pr_iconst (pc := 12) (v := 0) C dX3_knows_12 (by decide) ?_
  refine pr_iconst (pc := 13) (v := 2) C dX3_knows_13 (by decide) ?_
  refine pr_sE (pc := 14) C (c_X3_needRangeY G _ (K, Sm, N, O) one (0 : Int32) (2 : Int32) h2) ws_X3_42 rfl rfl (by decide) (Nat.le_of_ble_eq_true rfl) (by omega) (by omega) dX3_knows_14 ?_
  refine pr_iload_n (pc := 17) C dX3_knows_17 rfl ?_
  refine pr_iload_n (pc := 18) C dX3_knows_18 rfl ?_
  refine pr_sP (pc := 19) C (c_X3_isIn G _ (K, Sm, N, O) set one) ws_X3_49 rfl rfl (by decide) (Nat.le_of_ble_eq_true rfl) (by omega) (by omega) dX3_knows_19 ?_
  refine pr_ifb_ne (pc := 22) C 35 dX3_knows_22 (by decide) (fun c_22 => ?_) (fun c_22 => ?_)
  · exact absurd c_22 (by rw [hn]; decide)
  · exact pr_throw (pc := 25) (text := "it speaks a language that it does not know") C EX pa_tsIAE (by decide) rfl (pa_bk e0) (by decide) (by decide) (by omega) (by omega) (by omega) (by omega) dX3_knows_25 dX3_knows_28 dX3_knows_29 dX3_knows_31 dX3_knows_34

set_option maxRecDepth 100000 in
set_option maxHeartbeats 4000000 in
theorem c_X3_giveX1 (G : pa_G) (l : Launch) (K : Nat → Nat → Nat → Int32) (Sm S : Nat → Nat → Int32) (N : Nat → Nat) (O : Nat → Int64) (T D e : Nat) (z : sj_Z) (hl9 : l.stackTraces = false) (hs : sj_M K N T D z e S) (v u : Int32) (hn : ms_in v 0 7 = false) : pa_MT G l mX3_give 7 [pv_o 4 0, pv_i v, pv_i u] (K, Sm, N, O) 1 6 px_I := by
  refine pa_goX l hl9 (by decide) (by simp [pa_c1l, pa_c1]) (fun _ => rfl) fun x C E EX el e0 ea => ?_
  subst el
  show pa_w G x 4 (K, Sm, N, O) 0 0 0 [some (pv_o 4 0), some (pv_i v), some (pv_i u), none] []
  refine pr_iload_n (pc := 0) C dX3_give_0 rfl ?_
  exact pr_sX (pc := 1) C EX (c_X3_needGoodX G _ hl9 (K, Sm, N, O) v hn) (fun _ z => z) ws_X3_82 rfl rfl (by decide) (by decide) (by omega) (by omega) (by omega) (by omega) (pa_bk e0) dX3_give_1

set_option maxRecDepth 100000 in
set_option maxHeartbeats 4000000 in
theorem c_X3_giveX2 (G : pa_G) (l : Launch) (K : Nat → Nat → Nat → Int32) (Sm S : Nat → Nat → Int32) (N : Nat → Nat) (O : Nat → Int64) (T D e : Nat) (z : sj_Z) (hl9 : l.stackTraces = false) (hs : sj_M K N T D z e S) (g : Nat) (v : Int32) (hg8 : g < 8) (hv1 : v ≠ -1) (hn : ms_in v 0 3 = false) : pa_MT G l mX3_give 7 [pv_o 4 0, pv_i (nI g), pv_i v] (K, Sm, N, O) 1 6 px_I := by
  refine pa_goX l hl9 (by decide) (by simp [pa_c1l, pa_c1]) (fun _ => rfl) fun x C E EX el e0 ea => ?_
  subst el
  show pa_w G x 4 (K, Sm, N, O) 0 0 0 [some (pv_o 4 0), some (pv_i (nI g)), some (pv_i v), none] []
  refine pr_iload_n (pc := 0) C dX3_give_0 rfl ?_
  refine pr_sE (pc := 1) C (c_X3_needGoodY G _ (K, Sm, N, O) g (by first | assumption | omega)) ws_X3_82 rfl rfl (by decide) (Nat.le_of_ble_eq_true rfl) (by omega) (by omega) dX3_give_1 ?_
  refine pr_iload_n (pc := 4) C dX3_give_4 rfl ?_
  refine pr_iconst (pc := 5) (v := -1) C dX3_give_5 (by decide) ?_
  refine pr_icmp_eq (pc := 6) C 13 dX3_give_6 (by decide) (fun c_6 => ?_) (fun c_6 => ?_)
  · exact absurd c_6 hv1
  · refine pr_iload_n (pc := 9) C dX3_give_9 rfl ?_
    exact pr_sX (pc := 10) C EX (c_X3_needSpeakerX G _ hl9 (K, Sm, N, O) v hn) (fun _ z => z) ws_X3_39 rfl rfl (by decide) (by decide) (by omega) (by omega) (by omega) (by omega) (pa_bk e0) dX3_give_10

set_option maxRecDepth 100000 in
set_option maxHeartbeats 4000000 in
theorem c_X3_ownerX1 (G : pa_G) (l : Launch) (K : Nat → Nat → Nat → Int32) (Sm S : Nat → Nat → Int32) (N : Nat → Nat) (O : Nat → Int64) (T D e : Nat) (z : sj_Z) (hl9 : l.stackTraces = false) (hs : sj_M K N T D z e S) (v : Int32) (hn : ms_in v 0 7 = false) : pa_MT G l mX3_owner 7 [pv_o 4 0, pv_i v] (K, Sm, N, O) 1 6 px_I := by
  refine pa_goX l hl9 (by decide) (by simp [pa_c1l, pa_c1]) (fun _ => rfl) fun x C E EX el e0 ea => ?_
  subst el
  show pa_w G x 2 (K, Sm, N, O) 0 0 0 [some (pv_o 4 0), some (pv_i v)] []
  refine pr_iload_n (pc := 0) C dX3_owner_0 rfl ?_
  exact pr_sX (pc := 1) C EX (c_X3_needGoodX G _ hl9 (K, Sm, N, O) v hn) (fun _ z => z) ws_X3_82 rfl rfl (by decide) (by decide) (by omega) (by omega) (by omega) (by omega) (pa_bk e0) dX3_owner_1

set_option maxRecDepth 100000 in
set_option maxHeartbeats 4000000 in
theorem c_X3_tickX1 (G : pa_G) (l : Launch) (K : Nat → Nat → Nat → Int32) (Sm S : Nat → Nat → Int32) (N : Nat → Nat) (O : Nat → Int64) (T D e : Nat) (z : sj_Z) (hl9 : l.stackTraces = false) (hs : sj_M K N T D z e S) (v : Int32) (hn : ms_in v 1 20 = false) : pa_MT G l mX3_tick 7 [pv_o 4 0, pv_i v] (K, Sm, N, O) 1 6 px_A := by
  refine pa_goX l hl9 (by decide) (by simp [pa_c1l, pa_c1]) (fun _ => rfl) fun x C E EX el e0 ea => ?_
  subst el
  show pa_w G x 4 (K, Sm, N, O) 0 0 0 [some (pv_o 4 0), some (pv_i v), none, none] []
  refine pr_iload_n (pc := 0) C dX3_tick_0 rfl ?_
  refine pr_iconst (pc := 1) (v := 1) C dX3_tick_1 (by decide) ?_
  refine pr_bipush (pc := 2) (v := 20) C dX3_tick_2 (by decide) ?_
  exact pr_sX (pc := 4) C EX (c_X3_needRangeX G _ hl9 (K, Sm, N, O) v (1 : Int32) (20 : Int32) hn) (fun _ z => z) ws_X3_42 rfl rfl (by decide) (by decide) (by omega) (by omega) (by omega) (by omega) (pa_bk e0) dX3_tick_4

set_option maxRecDepth 100000 in
set_option maxHeartbeats 4000000 in
theorem c_X3_groundX1 (G : pa_G) (l : Launch) (K : Nat → Nat → Nat → Int32) (Sm S : Nat → Nat → Int32) (N : Nat → Nat) (O : Nat → Int64) (T D e : Nat) (z : sj_Z) (hl9 : l.stackTraces = false) (hs : sj_M K N T D z e S) (set v : Int32) (hn : ms_in v 0 9 = false) : pa_MT G l mX3_ground 7 [pv_o 4 0, pv_i set, pv_i v] (K, Sm, N, O) 1 6 px_I := by
  refine pa_goX l hl9 (by decide) (by simp [pa_c1l, pa_c1]) (fun _ => rfl) fun x C E EX el e0 ea => ?_
  subst el
  show pa_w G x 3 (K, Sm, N, O) 0 0 0 [some (pv_o 4 0), some (pv_i set), some (pv_i v)] []
  refine pr_iload_n (pc := 0) C dX3_ground_0 rfl ?_
  exact pr_sX (pc := 1) C EX (c_X3_needAtomX G _ hl9 (K, Sm, N, O) v hn) (fun _ z => z) ws_X3_70 rfl rfl (by decide) (by decide) (by omega) (by omega) (by omega) (by omega) (pa_bk e0) dX3_ground_1

set_option maxRecDepth 100000 in
set_option maxHeartbeats 4000000 in
theorem c_X3_groundX2 (G : pa_G) (l : Launch) (K : Nat → Nat → Nat → Int32) (Sm S : Nat → Nat → Int32) (N : Nat → Nat) (O : Nat → Int64) (T D e : Nat) (z : sj_Z) (hl9 : l.stackTraces = false) (hs : sj_M K N T D z e S) (a9 : Nat) (set : Int32) (ha10 : a9 < 10) (hn : ms_in set 1 15 = false) : pa_MT G l mX3_ground 7 [pv_o 4 0, pv_i set, pv_i (nI a9)] (K, Sm, N, O) 1 6 px_A := by
  refine pa_goX l hl9 (by decide) (by simp [pa_c1l, pa_c1]) (fun _ => rfl) fun x C E EX el e0 ea => ?_
  subst el
  show pa_w G x 3 (K, Sm, N, O) 0 0 0 [some (pv_o 4 0), some (pv_i set), some (pv_i (nI a9))] []
  refine pr_iload_n (pc := 0) C dX3_ground_0 rfl ?_
  refine pr_sE (pc := 1) C (c_X3_needAtomY G _ (K, Sm, N, O) (nI a9) (sc_in9 _ (by first | assumption | omega))) ws_X3_70 rfl rfl (by decide) (Nat.le_of_ble_eq_true rfl) (by omega) (by omega) dX3_ground_1 ?_
  refine pr_iload_n (pc := 4) C dX3_ground_4 rfl ?_
  refine pr_iconst (pc := 5) (v := 1) C dX3_ground_5 (by decide) ?_
  refine pr_bipush (pc := 6) (v := 15) C dX3_ground_6 (by decide) ?_
  exact pr_sX (pc := 8) C EX (c_X3_needRangeX G _ hl9 (K, Sm, N, O) set (1 : Int32) (15 : Int32) hn) (fun _ z => z) ws_X3_42 rfl rfl (by decide) (by decide) (by omega) (by omega) (by omega) (by omega) (pa_bk e0) dX3_ground_8

theorem sc_nn {v : Int32} : 0 ≤ v ↔ 0 ≤ v.toInt := by rw [Int32.le_iff_toInt_le, show (0 : Int32).toInt = 0 by decide]
theorem sc_inT {T : Nat} {v : Int32} (hT : T ≤ 100) (h1 : 0 ≤ v) (h2 : ¬ nI T ≤ v) : ms_in v 0 (nI T - 1) = true := by
  have h1' : 0 ≤ v.toInt := sc_nn.mp h1
  have h2' : v.toInt < T := by
    have := Int32.not_le.mp h2
    rw [Int32.lt_iff_toInt_lt, nI_toInt (by omega)] at this
    exact this
  have hT0 : 0 < T := by omega
  have e : nI T - 1 = nI (T - 1) := by
    have := nI_pred (T - 1)
    rwa [show T - 1 + 1 = T by omega] at this
  unfold ms_in
  rw [e, decide_eq_true h1, decide_eq_true (show v ≤ nI (T - 1) by rw [Int32.le_iff_toInt_le, nI_toInt (by omega)]; omega)]
  rfl
theorem sc_inTk {T t : Nat} {v : Int32} (hT : T ≤ 100) (h : ms_in v 0 (nI T - 1) = true) : ∃ t, t < T ∧ v = nI t := by
  unfold ms_in at h
  rw [Bool.and_eq_true, decide_eq_true_eq, decide_eq_true_eq] at h
  obtain ⟨h1, h2⟩ := h
  have h1' : 0 ≤ v.toInt := sc_nn.mp h1
  have hT0 : 0 < T := by
    rcases Nat.eq_zero_or_pos T with q | q
    · subst q
      rw [Int32.le_iff_toInt_le] at h2
      have e : (nI 0 - 1 : Int32).toInt = -1 := by decide
      omega
    · exact q
  have e : nI T - 1 = nI (T - 1) := by
    have := nI_pred (T - 1)
    rwa [show T - 1 + 1 = T by omega] at this
  rw [e, Int32.le_iff_toInt_le, nI_toInt (by omega)] at h2
  refine ⟨v.toInt.toNat, by omega, ?_⟩
  apply Int32.toInt_inj.mp
  rw [nI_toInt (by omega)]
  omega
set_option maxRecDepth 100000 in
set_option maxHeartbeats 4000000 in
theorem c_X3_turnAtN (G : pa_G) (l : Launch) (K : Nat → Nat → Nat → Int32) (Sm S : Nat → Nat → Int32) (N : Nat → Nat) (O : Nat → Int64) (T D e : Nat) (z : sj_Z) (hs : sj_M K N T D z e S) (v : Int32) (hT : T ≤ 100) (hn : ms_in v 0 (nI T - 1) = false) : pa_MP G l mX3_turnAt 4 [pv_o 4 0, pv_i v] (K, Sm, N, O) (pv_r none) := by
  refine pa_go l (by decide) (by simp [pa_c1l, pa_c1]) (fun _ => rfl) fun x C E el ea => ?_
  subst el
  show pa_w G x 2 (K, Sm, N, O) 0 0 0 [some (pv_o 4 0), some (pv_i v)] []
  refine pr_iload_n (pc := 0) C dX3_turnAt_0 rfl ?_
  refine pr_if_ltL (pc := 1) C 29 dX3_turnAt_1 (by decide) (fun c_1 => ?_) (fun c_1 => ?_)
  · refine pr_null (pc := 29) C dX3_turnAt_29 ?_
    exact pr_aret (pc := 30) C E (by omega) (by omega) ⟨rfl, rfl⟩ dX3_turnAt_30
  · refine pr_iload_n (pc := 4) C dX3_turnAt_4 rfl ?_
    refine pr_aload_n (pc := 5) C dX3_turnAt_5 rfl ?_
    refine pr_getl (pc := 6) C 162 0 wf_X3_22 rfl rfl rfl (pl_4 _) dX3_turnAt_6 ?_
    refine pr_vP (pc := 9) C (c_szT G _ K Sm S N O T D e z hs) wv_X3_147 rfl rfl (by decide) (by decide) (pl_0 (by decide)) (Nat.le_of_ble_eq_true rfl) (by omega) (by omega) dX3_turnAt_9 ?_
    refine pr_icmp_ge (pc := 12) C 29 dX3_turnAt_12 (by decide) (fun c_12 => ?_) (fun c_12 => ?_)
    · refine pr_null (pc := 29) C dX3_turnAt_29 ?_
      exact pr_aret (pc := 30) C E (by omega) (by omega) ⟨rfl, rfl⟩ dX3_turnAt_30
    · exact absurd hn (by rw [sc_inT hT c_1 c_12]; decide)

set_option maxRecDepth 100000 in
set_option maxHeartbeats 4000000 in
theorem c_X3_turnX1 (G : pa_G) (l : Launch) (K : Nat → Nat → Nat → Int32) (Sm S : Nat → Nat → Int32) (N : Nat → Nat) (O : Nat → Int64) (T D e : Nat) (z : sj_Z) (hl9 : l.stackTraces = false) (hs : sj_M K N T D z e S) (v u : Int32) (hT : T ≤ 100) (hn : ms_in v 0 (nI T - 1) = false) : pa_MT G l mX3_turn 7 [pv_o 4 0, pv_i v, pv_i u] (K, Sm, N, O) 1 6 px_I := by
  refine pa_goX l hl9 (by decide) (by simp [pa_c1l, pa_c1]) (fun _ => rfl) fun x C E EX el e0 ea => ?_
  subst el
  show pa_w G x 4 (K, Sm, N, O) 0 0 0 [some (pv_o 4 0), some (pv_i v), some (pv_i u), none] []
  refine pr_aload_n (pc := 0) C dX3_turn_0 rfl ?_
  refine pr_iload_n (pc := 1) C dX3_turn_1 rfl ?_
  refine pr_vP (pc := 2) C (c_X3_turnAtN G _ K Sm S N O T D e z hs v hT hn) wv_X3_151 rfl rfl (by decide) (by decide) (pl_4 _) (Nat.le_of_ble_eq_true rfl) (by omega) (by omega) dX3_turn_2 ?_
  refine pr_astore_n (pc := 5) C dX3_turn_5 (by decide) ?_
  refine pr_aload_n (pc := 6) C dX3_turn_6 rfl ?_
  refine pr_ifnonnull0 (pc := 7) C dX3_turn_7 ?_
  exact pr_throw (pc := 10) (text := "no such turn") C EX pa_tsIOOBE (by decide) rfl (pa_bk e0) (by decide) (by decide) (by omega) (by omega) (by omega) (by omega) dX3_turn_10 dX3_turn_13 dX3_turn_14 dX3_turn_16 dX3_turn_19

set_option maxRecDepth 100000 in
set_option maxHeartbeats 4000000 in
theorem c_X3_heardX1 (G : pa_G) (l : Launch) (K : Nat → Nat → Nat → Int32) (Sm S : Nat → Nat → Int32) (N : Nat → Nat) (O : Nat → Int64) (T D e : Nat) (z : sj_Z) (hl9 : l.stackTraces = false) (hs : sj_M K N T D z e S) (v u : Int32) (hT : T ≤ 100) (hn : ms_in v 0 (nI T - 1) = false) : pa_MT G l mX3_heard 7 [pv_o 4 0, pv_i v, pv_i u] (K, Sm, N, O) 1 6 px_I := by
  refine pa_goX l hl9 (by decide) (by simp [pa_c1l, pa_c1]) (fun _ => rfl) fun x C E EX el e0 ea => ?_
  subst el
  show pa_w G x 4 (K, Sm, N, O) 0 0 0 [some (pv_o 4 0), some (pv_i v), some (pv_i u), none] []
  refine pr_aload_n (pc := 0) C dX3_heard_0 rfl ?_
  refine pr_iload_n (pc := 1) C dX3_heard_1 rfl ?_
  refine pr_vP (pc := 2) C (c_X3_turnAtN G _ K Sm S N O T D e z hs v hT hn) wv_X3_151 rfl rfl (by decide) (by decide) (pl_4 _) (Nat.le_of_ble_eq_true rfl) (by omega) (by omega) dX3_heard_2 ?_
  refine pr_astore_n (pc := 5) C dX3_heard_5 (by decide) ?_
  refine pr_aload_n (pc := 6) C dX3_heard_6 rfl ?_
  refine pr_ifnonnull0 (pc := 7) C dX3_heard_7 ?_
  exact pr_throw (pc := 10) (text := "no such turn") C EX pa_tsIOOBE (by decide) rfl (pa_bk e0) (by decide) (by decide) (by omega) (by omega) (by omega) (by omega) dX3_heard_10 dX3_heard_13 dX3_heard_14 dX3_heard_16 dX3_heard_19

set_option maxRecDepth 100000 in
set_option maxHeartbeats 4000000 in
theorem c_X3_heardX2 (G : pa_G) (l : Launch) (K : Nat → Nat → Nat → Int32) (Sm S : Nat → Nat → Int32) (N : Nat → Nat) (O : Nat → Int64) (T D e : Nat) (z : sj_Z) (hl9 : l.stackTraces = false) (hs : sj_M K N T D z e S) (t : Nat) (u : Int32) (hT : T ≤ 100) (ht : t < T) (hn : ms_in u 0 3 = false) : pa_MT G l mX3_heard 7 [pv_o 4 0, pv_i (nI t), pv_i u] (K, Sm, N, O) 1 6 px_I := by
  refine pa_goX l hl9 (by decide) (by simp [pa_c1l, pa_c1]) (fun _ => rfl) fun x C E EX el e0 ea => ?_
  subst el
  have hTD := sj_TD hs
  show pa_w G x 4 (K, Sm, N, O) 0 0 0 [some (pv_o 4 0), some (pv_i (nI t)), some (pv_i u), none] []
  refine pr_aload_n (pc := 0) C dX3_heard_0 rfl ?_
  refine pr_iload_n (pc := 1) C dX3_heard_1 rfl ?_
  refine pr_vP (pc := 2) C (c_X3_turnAtY G _ K Sm S N O T D e z hs t (by first | assumption | omega) hT) wv_X3_151 rfl rfl (by decide) (by decide) (pl_4 _) (Nat.le_of_ble_eq_true rfl) (by omega) (by omega) dX3_heard_2 ?_
  refine pr_astore_n (pc := 5) C dX3_heard_5 (by decide) ?_
  refine pr_aload_n (pc := 6) C dX3_heard_6 rfl ?_
  refine pr_ifnonnull1 (pc := 7) C 20 dX3_heard_7 (by decide) ?_
  refine pr_iload_n (pc := 20) C dX3_heard_20 rfl ?_
  exact pr_sX (pc := 21) C EX (c_X3_needSpeakerX G _ hl9 (K, Sm, N, O) u hn) (fun _ z => z) ws_X3_39 rfl rfl (by decide) (by decide) (by omega) (by omega) (by omega) (by omega) (pa_bk e0) dX3_heard_21

theorem sc_out {v : Int32} {k : Nat} (hk : k < 1000) (h : ms_in v 0 (nI k) = false) : v.toInt < 0 ∨ (k : Int) < v.toInt := by
  rcases Int.lt_or_le v.toInt 0 with q | q
  · exact Or.inl q
  · refine Or.inr ?_
    rcases Int.lt_or_le k v.toInt with r | r
    · exact r
    · refine absurd h ?_
      unfold ms_in
      rw [decide_eq_true (sc_nn.mpr q), decide_eq_true (show v ≤ nI k by rw [Int32.le_iff_toInt_le, nI_toInt (by omega)]; exact r)]
      decide
set_option maxRecDepth 100000 in
set_option maxHeartbeats 4000000 in
theorem c_X3_turnX2 (G : pa_G) (l : Launch) (K : Nat → Nat → Nat → Int32) (Sm S : Nat → Nat → Int32) (N : Nat → Nat) (O : Nat → Int64) (T D e : Nat) (z : sj_Z) (hl9 : l.stackTraces = false) (hs : sj_M K N T D z e S) (t : Nat) (u : Int32) (hT : T ≤ 100) (ht : t < T) (hn : ms_in u 0 8 = false) : pa_MT G l mX3_turn 7 [pv_o 4 0, pv_i (nI t), pv_i u] (K, Sm, N, O) 1 6 px_A := by
  refine pa_goX l hl9 (by decide) (by simp [pa_c1l, pa_c1]) (fun _ => rfl) fun x C E EX el e0 ea => ?_
  subst el
  have hTD := sj_TD hs
  show pa_w G x 4 (K, Sm, N, O) 0 0 0 [some (pv_o 4 0), some (pv_i (nI t)), some (pv_i u), none] []
  refine pr_aload_n (pc := 0) C dX3_turn_0 rfl ?_
  refine pr_iload_n (pc := 1) C dX3_turn_1 rfl ?_
  refine pr_vP (pc := 2) C (c_X3_turnAtY G _ K Sm S N O T D e z hs t (by first | assumption | omega) hT) wv_X3_151 rfl rfl (by decide) (by decide) (pl_4 _) (Nat.le_of_ble_eq_true rfl) (by omega) (by omega) dX3_turn_2 ?_
  refine pr_astore_n (pc := 5) C dX3_turn_5 (by decide) ?_
  refine pr_aload_n (pc := 6) C dX3_turn_6 rfl ?_
  refine pr_ifnonnull1 (pc := 7) C 20 dX3_turn_7 (by decide) ?_
  refine pr_iload_n (pc := 20) C dX3_turn_20 rfl ?_
  refine pr_tableOut (pc := 21) C 128 dX3_turn_21 (sc_out (k := 8) (by decide) hn) (by decide) ?_
  exact pr_throw (pc := 128) (text := "what is 0 to 8") C EX pa_tsIAE (by decide) rfl (pa_bk e0) (by decide) (by decide) (by omega) (by omega) (by omega) (by omega) dX3_turn_128 dX3_turn_131 dX3_turn_132 dX3_turn_134 dX3_turn_137

theorem sc_inQ {Q : Nat} {v : Int32} (hQ : Q ≤ 6) (h1 : 0 ≤ v) (h2 : ¬ nI Q ≤ v) : ms_in v 0 (nI Q - 1) = true := sc_inT (by omega) h1 h2
set_option maxRecDepth 100000 in
set_option maxHeartbeats 4000000 in
theorem c_X3_questionX1 (G : pa_G) (l : Launch) (K : Nat → Nat → Nat → Int32) (Sm S : Nat → Nat → Int32) (N : Nat → Nat) (O : Nat → Int64) (T D e : Nat) (z : sj_Z) (hl9 : l.stackTraces = false) (hs : sj_M K N T D z e S) (Q q0 : Nat) (v u : Int32) (hw : mw_Q S Q q0) (hn : ms_in v 0 (nI Q - 1) = false) : pa_MT G l mX3_question 7 [pv_o 4 0, pv_i v, pv_i u] (K, Sm, N, O) 1 6 px_I := by
  refine pa_goX l hl9 (by decide) (by simp [pa_c1l, pa_c1]) (fun _ => rfl) fun x C E EX el e0 ea => ?_
  subst el
  show pa_w G x 4 (K, Sm, N, O) 0 0 0 [some (pv_o 4 0), some (pv_i v), some (pv_i u), none] []
  refine pr_iload_n (pc := 0) C dX3_question_0 rfl ?_
  refine pr_if_ltL (pc := 1) C 15 dX3_question_1 (by decide) (fun c_1 => ?_) (fun c_1 => ?_)
  · exact pr_throw (pc := 15) (text := "no such question") C EX pa_tsIOOBE (by decide) rfl (pa_bk e0) (by decide) (by decide) (by omega) (by omega) (by omega) (by omega) dX3_question_15 dX3_question_18 dX3_question_19 dX3_question_21 dX3_question_24
  · refine pr_iload_n (pc := 4) C dX3_question_4 rfl ?_
    refine pr_aload_n (pc := 5) C dX3_question_5 rfl ?_
    refine pr_getl (pc := 6) C 163 1 wf_X3_26 rfl rfl rfl (pl_4 _) dX3_question_6 ?_
    refine pr_vP (pc := 9) C (c_szQ G _ K Sm S N O T D e z hs) wv_X3_147 rfl rfl (by decide) (by decide) (pl_0 (by decide)) (Nat.le_of_ble_eq_true rfl) (by omega) (by omega) dX3_question_9 ?_
    refine pr_eqi hw.1 ?_
    refine pr_icmp_ltL (pc := 12) C 25 dX3_question_12 (by decide) (fun c_12 => ?_) (fun c_12 => ?_)
    · exact absurd hn (by rw [sc_inQ hw.2.1 c_1 c_12]; decide)
    · exact pr_throw (pc := 15) (text := "no such question") C EX pa_tsIOOBE (by decide) rfl (pa_bk e0) (by decide) (by decide) (by omega) (by omega) (by omega) (by omega) dX3_question_15 dX3_question_18 dX3_question_19 dX3_question_21 dX3_question_24

set_option maxRecDepth 100000 in
set_option maxHeartbeats 4000000 in
theorem c_X3_questionX2 (G : pa_G) (l : Launch) (K : Nat → Nat → Nat → Int32) (Sm S : Nat → Nat → Int32) (N : Nat → Nat) (O : Nat → Int64) (T D e : Nat) (z : sj_Z) (hl9 : l.stackTraces = false) (hs : sj_M K N T D z e S) (Q q0 p qq : Nat) (u : Int32) (hw : mw_Q S Q q0) (hp : p < Q) (hqq : S 232 (Q - 1 - p) = nI qq) (hqT : qq < T) (hT : T ≤ 100) (hn : ms_in u 0 3 = false) : pa_MT G l mX3_question 7 [pv_o 4 0, pv_i (nI p), pv_i u] (K, Sm, N, O) 1 6 px_A := by
  refine pa_goX l hl9 (by decide) (by simp [pa_c1l, pa_c1]) (fun _ => rfl) fun x C E EX el e0 ea => ?_
  subst el
  have hTD := sj_TD hs
  have hQ6 := hw.2.1
  show pa_w G x 4 (K, Sm, N, O) 0 0 0 [some (pv_o 4 0), some (pv_i (nI p)), some (pv_i u), none] []
  refine pr_iload_n (pc := 0) C dX3_question_0 rfl ?_
  refine pr_if_ltN (pc := 1) C 15 p dX3_question_1 (by decide) rfl (by omega) (fun c_1 => ?_) (fun c_1 => ?_)
  · exact absurd c_1 (by omega)
  · refine pr_iload_n (pc := 4) C dX3_question_4 rfl ?_
    refine pr_aload_n (pc := 5) C dX3_question_5 rfl ?_
    refine pr_getl (pc := 6) C 163 1 wf_X3_26 rfl rfl rfl (pl_4 _) dX3_question_6 ?_
    refine pr_vP (pc := 9) C (c_szQ G _ K Sm S N O T D e z hs) wv_X3_147 rfl rfl (by decide) (by decide) (pl_0 (by decide)) (Nat.le_of_ble_eq_true rfl) (by omega) (by omega) dX3_question_9 ?_
    refine pr_eqi hw.1 ?_
    refine pr_icmp_ltN (pc := 12) C 25 p Q dX3_question_12 (by decide) rfl rfl (by omega) (by omega) (fun c_12 => ?_) (fun c_12 => ?_)
    · refine pr_aload_n (pc := 25) C dX3_question_25 rfl ?_
      refine pr_getl (pc := 26) C 163 1 wf_X3_26 rfl rfl rfl (pl_4 _) dX3_question_26 ?_
      refine pr_aload_n (pc := 29) C dX3_question_29 rfl ?_
      refine pr_getl (pc := 30) C 163 1 wf_X3_26 rfl rfl rfl (pl_4 _) dX3_question_30 ?_
      refine pr_vP (pc := 33) C (c_szQ G _ K Sm S N O T D e z hs) wv_X3_147 rfl rfl (by decide) (by decide) (pl_0 (by decide)) (Nat.le_of_ble_eq_true rfl) (by omega) (by omega) dX3_question_33 ?_
      refine pr_eqi hw.1 ?_
      refine pr_iconst (pc := 36) (v := 1) C dX3_question_36 (by decide) ?_
      refine pr_isubN (pc := 37) C dX3_question_37 Q 1 rfl rfl (by omega) ?_
      refine pr_iload_n (pc := 38) C dX3_question_38 rfl ?_
      refine pr_isubN (pc := 39) C dX3_question_39 (Q - 1) p rfl rfl (by omega) ?_
      refine pr_vP (pc := 40) C (c_gtQ G _ K Sm S N O T D e z hs Q q0 ((Q - 1) - p) qq hw (by omega) hqq (by omega)) wv_X3_197 rfl rfl (by decide) (by decide) (pl_0 (by decide)) (Nat.le_of_ble_eq_true rfl) (by omega) (by omega) dX3_question_40 ?_
      refine pr_cast (pc := 43) C (k := 3) (r := (RX2, TX2, 13)) ⟨by decide, by decide⟩ rfl (pa_wi (by decide +kernel) rfl) (pl_3 (sj_n0 hs (by first | assumption | omega))) dX3_question_43 ?_
      refine pr_astore_n (pc := 46) C dX3_question_46 (by decide) ?_
      refine pr_iload_n (pc := 47) C dX3_question_47 rfl ?_
      refine pr_tableOut (pc := 48) C 103 dX3_question_48 (sc_out (k := 3) (by decide) hn) (by decide) ?_
      exact pr_throw (pc := 103) (text := "what is 0 to 3") C EX pa_tsIAE (by decide) rfl (pa_bk e0) (by decide) (by decide) (by omega) (by omega) (by omega) (by omega) dX3_question_103 dX3_question_106 dX3_question_107 dX3_question_109 dX3_question_112
    · exact absurd c_12 (by omega)

