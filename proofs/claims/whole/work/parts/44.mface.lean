set_option maxRecDepth 100000 in
set_option maxHeartbeats 4000000 in
theorem k_X6_basinCount {z : Zx} {l : Launch} {σ τ : Sg} {o : Int64 × UInt64} {ad : Nm} (hl : l.stackTraces = false) (Q : IR τ) (Q2 : IMo τ) : Ko z l yX6_basinCount cX6_basinCount 1 (some .int) 6 0 0 [.ref (ad 20 0)] ad (Wz z ad σ τ o) (okM z ad σ o Value.int 0 (nI (τ 0 0 0)) τ) exNo := by
  refine ko_of hl (by decide +kernel) (Nat.le_of_ble_eq_true rfl) (fun g hg K => ?_)
  subst hg
  have I := Q.1
  have q0 := I.1.1
  have q1 := I.1.2.1
  have q2 := I.1.2.2.1
  have q3 := I.1.2.2.2.1
  have q4 := I.1.2.2.2.2.1
  show WW g z 1 0 0 ad (Wz z ad σ τ o) 0 [(0, .ref (ad 20 0))] []
  refine r_aload_n K dX6_basinCount_0 0 rfl rfl ?_
  refine r_aload_n K dX6_basinCount_1 0 rfl rfl ?_
  refine r_get (v := .int (nI (τ 0 0 0))) K fd_X6_100 rfl rfl rfl dX6_basinCount_2 ?_
  refine r_callV (st := []) K (k_X6_tells (x := nI (τ 0 0 0)) hl) cw_X6_123 wd_1450 wd_25 (by decide) (by decide) rfl rfl rfl rfl (Nat.le_of_ble_eq_true rfl) (by decide) (by decide) dX6_basinCount_5 ?_
  rintro _ _ _ ⟨rfl, rfl, rfl⟩
  show WW g z 1 0 0 ad (Wz z ad σ (su τ 72 0 0 0) o) 8 [(0, .ref (ad 20 0))] [.int (nI (τ 0 0 0))]
  exact r_iret K (by decide) (by decide) (okM_r Q2 rfl rfl) dX6_basinCount_8
set_option maxRecDepth 100000 in
set_option maxHeartbeats 4000000 in
theorem k_X6_ruleCount {z : Zx} {l : Launch} {σ τ : Sg} {o : Int64 × UInt64} {ad : Nm} (hl : l.stackTraces = false) (Q : IR τ) (Q2 : IMo τ) : Ko z l yX6_ruleCount cX6_ruleCount 1 (some .int) 6 0 0 [.ref (ad 20 0)] ad (Wz z ad σ τ o) (okM z ad σ o Value.int 0 (nI (τ 0 1 0)) τ) exNo := by
  refine ko_of hl (by decide +kernel) (Nat.le_of_ble_eq_true rfl) (fun g hg K => ?_)
  subst hg
  have I := Q.1
  have q0 := I.1.1
  have q1 := I.1.2.1
  have q2 := I.1.2.2.1
  have q3 := I.1.2.2.2.1
  have q4 := I.1.2.2.2.2.1
  show WW g z 1 0 0 ad (Wz z ad σ τ o) 0 [(0, .ref (ad 20 0))] []
  refine r_aload_n K dX6_ruleCount_0 0 rfl rfl ?_
  refine r_aload_n K dX6_ruleCount_1 0 rfl rfl ?_
  refine r_get (v := .int (nI (τ 0 1 0))) K fd_X6_111 rfl rfl rfl dX6_ruleCount_2 ?_
  refine r_callV (st := []) K (k_X6_tells (x := nI (τ 0 1 0)) hl) cw_X6_123 wd_1450 wd_25 (by decide) (by decide) rfl rfl rfl rfl (Nat.le_of_ble_eq_true rfl) (by decide) (by decide) dX6_ruleCount_5 ?_
  rintro _ _ _ ⟨rfl, rfl, rfl⟩
  show WW g z 1 0 0 ad (Wz z ad σ (su τ 72 0 0 0) o) 8 [(0, .ref (ad 20 0))] [.int (nI (τ 0 1 0))]
  exact r_iret K (by decide) (by decide) (okM_r Q2 rfl rfl) dX6_ruleCount_8
set_option maxRecDepth 100000 in
set_option maxHeartbeats 4000000 in
theorem k_X6_houseCount {z : Zx} {l : Launch} {σ τ : Sg} {o : Int64 × UInt64} {ad : Nm} (hl : l.stackTraces = false) (Q : IR τ) (Q2 : IMo τ) : Ko z l yX6_houseCount cX6_houseCount 1 (some .int) 6 0 0 [.ref (ad 20 0)] ad (Wz z ad σ τ o) (okM z ad σ o Value.int 0 (nI (τ 0 2 0)) τ) exNo := by
  refine ko_of hl (by decide +kernel) (Nat.le_of_ble_eq_true rfl) (fun g hg K => ?_)
  subst hg
  have I := Q.1
  have q0 := I.1.1
  have q1 := I.1.2.1
  have q2 := I.1.2.2.1
  have q3 := I.1.2.2.2.1
  have q4 := I.1.2.2.2.2.1
  show WW g z 1 0 0 ad (Wz z ad σ τ o) 0 [(0, .ref (ad 20 0))] []
  refine r_aload_n K dX6_houseCount_0 0 rfl rfl ?_
  refine r_aload_n K dX6_houseCount_1 0 rfl rfl ?_
  refine r_get (v := .int (nI (τ 0 2 0))) K fd_X6_117 rfl rfl rfl dX6_houseCount_2 ?_
  refine r_callV (st := []) K (k_X6_tells (x := nI (τ 0 2 0)) hl) cw_X6_123 wd_1450 wd_25 (by decide) (by decide) rfl rfl rfl rfl (Nat.le_of_ble_eq_true rfl) (by decide) (by decide) dX6_houseCount_5 ?_
  rintro _ _ _ ⟨rfl, rfl, rfl⟩
  show WW g z 1 0 0 ad (Wz z ad σ (su τ 72 0 0 0) o) 8 [(0, .ref (ad 20 0))] [.int (nI (τ 0 2 0))]
  exact r_iret K (by decide) (by decide) (okM_r Q2 rfl rfl) dX6_houseCount_8
set_option maxRecDepth 100000 in
set_option maxHeartbeats 4000000 in
theorem k_X6_clock {z : Zx} {l : Launch} {σ τ : Sg} {o : Int64 × UInt64} {ad : Nm} (hl : l.stackTraces = false) (Q : IR τ) (Q2 : IMo τ) : Ko z l yX6_clock cX6_clock 1 (some .int) 6 0 0 [.ref (ad 20 0)] ad (Wz z ad σ τ o) (okM z ad σ o Value.int 0 (nI (τ 12 0 0)) τ) exNo := by
  refine ko_of hl (by decide +kernel) (Nat.le_of_ble_eq_true rfl) (fun g hg K => ?_)
  subst hg
  have I := Q.1
  have q0 := I.1.1
  have q1 := I.1.2.1
  have q2 := I.1.2.2.1
  have q3 := I.1.2.2.2.1
  have q4 := I.1.2.2.2.2.1
  show WW g z 1 0 0 ad (Wz z ad σ τ o) 0 [(0, .ref (ad 20 0))] []
  refine r_aload_n K dX6_clock_0 0 rfl rfl ?_
  refine r_aload_n K dX6_clock_1 0 rfl rfl ?_
  refine r_get (v := .int (nI (τ 12 0 0))) K fd_X6_120 rfl rfl rfl dX6_clock_2 ?_
  refine r_callV (st := []) K (k_X6_tells (x := nI (τ 12 0 0)) hl) cw_X6_123 wd_1450 wd_25 (by decide) (by decide) rfl rfl rfl rfl (Nat.le_of_ble_eq_true rfl) (by decide) (by decide) dX6_clock_5 ?_
  rintro _ _ _ ⟨rfl, rfl, rfl⟩
  show WW g z 1 0 0 ad (Wz z ad σ (su τ 72 0 0 0) o) 8 [(0, .ref (ad 20 0))] [.int (nI (τ 12 0 0))]
  exact r_iret K (by decide) (by decide) (okM_r Q2 rfl rfl) dX6_clock_8
set_option maxRecDepth 100000 in
set_option maxHeartbeats 4000000 in
theorem k_X6_rainTotal {z : Zx} {l : Launch} {σ τ : Sg} {o : Int64 × UInt64} {ad : Nm} (hl : l.stackTraces = false) (Q : IR τ) (Q2 : IMo τ) : Ko z l yX6_rainTotal cX6_rainTotal 1 (some .int) 6 0 0 [.ref (ad 20 0)] ad (Wz z ad σ τ o) (okM z ad σ o Value.int 0 (nI (τ 12 1 0)) τ) exNo := by
  refine ko_of hl (by decide +kernel) (Nat.le_of_ble_eq_true rfl) (fun g hg K => ?_)
  subst hg
  have I := Q.1
  have q0 := I.1.1
  have q1 := I.1.2.1
  have q2 := I.1.2.2.1
  have q3 := I.1.2.2.2.1
  have q4 := I.1.2.2.2.2.1
  show WW g z 1 0 0 ad (Wz z ad σ τ o) 0 [(0, .ref (ad 20 0))] []
  refine r_aload_n K dX6_rainTotal_0 0 rfl rfl ?_
  refine r_aload_n K dX6_rainTotal_1 0 rfl rfl ?_
  refine r_get (v := .int (nI (τ 12 1 0))) K fd_X6_148 rfl rfl rfl dX6_rainTotal_2 ?_
  refine r_callV (st := []) K (k_X6_tells (x := nI (τ 12 1 0)) hl) cw_X6_123 wd_1450 wd_25 (by decide) (by decide) rfl rfl rfl rfl (Nat.le_of_ble_eq_true rfl) (by decide) (by decide) dX6_rainTotal_5 ?_
  rintro _ _ _ ⟨rfl, rfl, rfl⟩
  show WW g z 1 0 0 ad (Wz z ad σ (su τ 72 0 0 0) o) 8 [(0, .ref (ad 20 0))] [.int (nI (τ 12 1 0))]
  exact r_iret K (by decide) (by decide) (okM_r Q2 rfl rfl) dX6_rainTotal_8
set_option maxRecDepth 100000 in
set_option maxHeartbeats 4000000 in
theorem k_X6_riverTotal {z : Zx} {l : Launch} {σ τ : Sg} {o : Int64 × UInt64} {ad : Nm} (hl : l.stackTraces = false) (Q : IR τ) (Q2 : IMo τ) : Ko z l yX6_riverTotal cX6_riverTotal 1 (some .int) 6 0 0 [.ref (ad 20 0)] ad (Wz z ad σ τ o) (okM z ad σ o Value.int 0 (nI (τ 6 0 0)) τ) exNo := by
  refine ko_of hl (by decide +kernel) (Nat.le_of_ble_eq_true rfl) (fun g hg K => ?_)
  subst hg
  have I := Q.1
  have q0 := I.1.1
  have q1 := I.1.2.1
  have q2 := I.1.2.2.1
  have q3 := I.1.2.2.2.1
  have q4 := I.1.2.2.2.2.1
  show WW g z 1 0 0 ad (Wz z ad σ τ o) 0 [(0, .ref (ad 20 0))] []
  refine r_aload_n K dX6_riverTotal_0 0 rfl rfl ?_
  refine r_aload_n K dX6_riverTotal_1 0 rfl rfl ?_
  refine r_get (v := .int (nI (τ 6 0 0))) K fd_X6_151 rfl rfl rfl dX6_riverTotal_2 ?_
  refine r_callV (st := []) K (k_X6_tells (x := nI (τ 6 0 0)) hl) cw_X6_123 wd_1450 wd_25 (by decide) (by decide) rfl rfl rfl rfl (Nat.le_of_ble_eq_true rfl) (by decide) (by decide) dX6_riverTotal_5 ?_
  rintro _ _ _ ⟨rfl, rfl, rfl⟩
  show WW g z 1 0 0 ad (Wz z ad σ (su τ 72 0 0 0) o) 8 [(0, .ref (ad 20 0))] [.int (nI (τ 6 0 0))]
  exact r_iret K (by decide) (by decide) (okM_r Q2 rfl rfl) dX6_riverTotal_8
set_option maxRecDepth 100000 in
set_option maxHeartbeats 4000000 in
theorem k_X6_heldTotal {z : Zx} {l : Launch} {σ τ : Sg} {o : Int64 × UInt64} {ad : Nm} (hl : l.stackTraces = false) (Q : IR τ) (Q2 : IMo τ) : Ko z l yX6_heldTotal cX6_heldTotal 1 (some .int) 6 0 0 [.ref (ad 20 0)] ad (Wz z ad σ τ o) (okM z ad σ o Value.int 0 (nI (hld τ 0 6)) τ) exNo := by
  refine ko_of hl (by decide +kernel) (Nat.le_of_ble_eq_true rfl) (fun g hg K => ?_)
  subst hg
  have I := Q.1
  have q0 := I.1.1
  have q1 := I.1.2.1
  have q2 := I.1.2.2.1
  have q3 := I.1.2.2.2.1
  have q4 := I.1.2.2.2.2.1
  show WW g z 1 0 0 ad (Wz z ad σ τ o) 0 [(0, .ref (ad 20 0))] []
  refine r_aload_n K dX6_heldTotal_0 0 rfl rfl ?_
  refine r_aload_n K dX6_heldTotal_1 0 rfl rfl ?_
  refine r_callV (st := [.ref (ad 20 0)]) K (k_X6_held hl I) cw_X6_158 wd_1545 wd_31 (by decide) (by decide) rfl rfl rfl rfl (Nat.le_of_ble_eq_true rfl) (by decide) (by decide) dX6_heldTotal_2 ?_
  rintro _ _ _ ⟨rfl, rfl, rfl⟩
  show WW g z 1 0 0 ad (Wz z ad σ τ o) 5 [(0, .ref (ad 20 0))] [.int (nI (hld τ 0 (τ 0 0 0))), .ref (ad 20 0)]
  refine r_callV (st := []) K (k_X6_tells (x := nI (hld τ 0 (τ 0 0 0))) hl) cw_X6_123 wd_1450 wd_25 (by decide) (by decide) rfl rfl rfl rfl (Nat.le_of_ble_eq_true rfl) (by decide) (by decide) dX6_heldTotal_5 ?_
  rintro _ _ _ ⟨rfl, rfl, rfl⟩
  show WW g z 1 0 0 ad (Wz z ad σ (su τ 72 0 0 0) o) 8 [(0, .ref (ad 20 0))] [.int (nI (hld τ 0 (τ 0 0 0)))]
  exact r_iret K (by decide) (by decide) (okM_r Q2 rfl (by rw [hld_ge Q.2.1.2 6 q0])) dX6_heldTotal_8
set_option maxRecDepth 100000 in
set_option maxHeartbeats 4000000 in
theorem k_X6_cellCount {z : Zx} {l : Launch} {σ τ : Sg} {o : Int64 × UInt64} {ad : Nm} (hl : l.stackTraces = false) {x : Int32} (Q : IR τ) (Q2 : IMo τ) : Ko z l yX6_cellCount cX6_cellCount 2 (some .int) 6 0 0 [.ref (ad 20 0), .int (x)] ad (Wz z ad σ τ o) (okM z ad σ o Value.int (cB τ x) (nI (τ 1 (jN x) 6)) τ) exNo := by
  refine ko_of hl (by decide +kernel) (Nat.le_of_ble_eq_true rfl) (fun g hg K => ?_)
  subst hg
  have I := Q.1
  have q0 := I.1.1
  have q1 := I.1.2.1
  have q2 := I.1.2.2.1
  have q3 := I.1.2.2.2.1
  have q4 := I.1.2.2.2.2.1
  show WW g z 2 0 0 ad (Wz z ad σ τ o) 0 [(0, .ref (ad 20 0)), (1, .int (x))] []
  refine r_aload_n K dX6_cellCount_0 0 rfl rfl ?_
  refine r_aload_n K dX6_cellCount_1 0 rfl rfl ?_
  refine r_iload_n K dX6_cellCount_2 1 rfl rfl ?_
  refine r_callV (st := [.ref (ad 20 0)]) K (k_X6_isNone (x := x) hl) cw_X6_107 wd_1431 wd_23 (by decide) (by decide) rfl rfl rfl rfl (Nat.le_of_ble_eq_true rfl) (by decide) (by decide) dX6_cellCount_3 ?_
  rintro _ _ _ ⟨rfl, rfl, rfl⟩
  show WW g z 2 0 0 ad (Wz z ad σ τ o) 6 [(0, .ref (ad 20 0)), (1, .int (x))] [.int (pI (¬ in0 x (τ 0 0 0))), .ref (ad 20 0)]
  refine r_if_eq K dX6_cellCount_6 13 (in0 x (τ 0 0 0)) pI_n0 (by decide) (fun c_6 => ?_) (fun c_6 => ?_)
  · skip
    obtain ⟨b, hb, rfl⟩ := (in0_iff (by omega)).mp c_6
    refine r_iconst (v := nI 0) K dX6_cellCount_13 (by decide) ?_
    refine r_callV (st := []) K (k_X6_fails (c := 0) hl (by omega)) cw_X6_114 wd_1438 wd_24 (by decide) (by decide) rfl rfl rfl rfl (Nat.le_of_ble_eq_true rfl) (by decide) (by decide) dX6_cellCount_14 ?_
    rintro _ _ _ ⟨rfl, rfl, rfl⟩
    show WW g z 2 0 0 ad (Wz z ad σ (su τ 72 0 0 0) o) 17 [(0, .ref (ad 20 0)), (1, .int (nI b))] [.int (nI 0)]
    refine r_if_eq K dX6_cellCount_17 24 (0 = 0) (n0_eq (by omega)) (by decide) (fun c_17 => ?_) (fun c_17 => ?_)
    · skip
      refine r_aload_n K dX6_cellCount_24 0 rfl rfl ?_
      refine r_get (v := .ref (ad 21 7)) K fd_X6_28 rfl rfl rfl dX6_cellCount_25 ?_
      refine r_iload_n K dX6_cellCount_28 1 rfl rfl ?_
      refine r_iald (j := b) (v := nI (τ 1 b 6)) K rfl rfl rfl (by omega) (by decide) rfl dX6_cellCount_29 ?_
      exact r_iret K (by decide) (by decide) (okM_r Q2 (Eq.symm (by unfold cB; exact if_pos c_6)) (by rw [jN_n (by omega)])) dX6_cellCount_30
    · skip
      exfalso; omega
  · skip
    refine r_iconst (v := nI 1) K dX6_cellCount_9 (by decide) ?_
    refine r_goto K dX6_cellCount_10 14 (by decide) ?_
    refine r_callV (st := []) K (k_X6_fails (c := 1) hl (by omega)) cw_X6_114 wd_1438 wd_24 (by decide) (by decide) rfl rfl rfl rfl (Nat.le_of_ble_eq_true rfl) (by decide) (by decide) dX6_cellCount_14 ?_
    rintro _ _ _ ⟨rfl, rfl, rfl⟩
    show WW g z 2 0 0 ad (Wz z ad σ (su τ 72 0 0 1) o) 17 [(0, .ref (ad 20 0)), (1, .int (x))] [.int (nI 1)]
    refine r_if_eq K dX6_cellCount_17 24 (1 = 0) (n0_eq (by omega)) (by decide) (fun c_17 => ?_) (fun c_17 => ?_)
    · skip
      exfalso; omega
    · skip
      refine r_iconst (v := nI 0) K dX6_cellCount_20 (by decide) ?_
      refine r_goto K dX6_cellCount_21 30 (by decide) ?_
      exact r_iret K (by decide) (by decide) (okM_f (c := 0) Q2 (by unfold cB; exact (if_neg c_6).symm)) dX6_cellCount_30
set_option maxRecDepth 100000 in
set_option maxHeartbeats 4000000 in
theorem k_X6_capacityOf {z : Zx} {l : Launch} {σ τ : Sg} {o : Int64 × UInt64} {ad : Nm} (hl : l.stackTraces = false) {x : Int32} (Q : IR τ) (Q2 : IMo τ) : Ko z l yX6_capacityOf cX6_capacityOf 2 (some .int) 6 0 0 [.ref (ad 20 0), .int (x)] ad (Wz z ad σ τ o) (okM z ad σ o Value.int (cB τ x) (nI (τ 1 (jN x) 0 * τ 1 (jN x) 1)) τ) exNo := by
  refine ko_of hl (by decide +kernel) (Nat.le_of_ble_eq_true rfl) (fun g hg K => ?_)
  subst hg
  have I := Q.1
  have q0 := I.1.1
  have q1 := I.1.2.1
  have q2 := I.1.2.2.1
  have q3 := I.1.2.2.2.1
  have q4 := I.1.2.2.2.2.1
  show WW g z 2 0 0 ad (Wz z ad σ τ o) 0 [(0, .ref (ad 20 0)), (1, .int (x))] []
  refine r_aload_n K dX6_capacityOf_0 0 rfl rfl ?_
  refine r_aload_n K dX6_capacityOf_1 0 rfl rfl ?_
  refine r_iload_n K dX6_capacityOf_2 1 rfl rfl ?_
  refine r_callV (st := [.ref (ad 20 0)]) K (k_X6_isNone (x := x) hl) cw_X6_107 wd_1431 wd_23 (by decide) (by decide) rfl rfl rfl rfl (Nat.le_of_ble_eq_true rfl) (by decide) (by decide) dX6_capacityOf_3 ?_
  rintro _ _ _ ⟨rfl, rfl, rfl⟩
  show WW g z 2 0 0 ad (Wz z ad σ τ o) 6 [(0, .ref (ad 20 0)), (1, .int (x))] [.int (pI (¬ in0 x (τ 0 0 0))), .ref (ad 20 0)]
  refine r_if_eq K dX6_capacityOf_6 13 (in0 x (τ 0 0 0)) pI_n0 (by decide) (fun c_6 => ?_) (fun c_6 => ?_)
  · skip
    obtain ⟨b, hb, rfl⟩ := (in0_iff (by omega)).mp c_6
    refine r_iconst (v := nI 0) K dX6_capacityOf_13 (by decide) ?_
    refine r_callV (st := []) K (k_X6_fails (c := 0) hl (by omega)) cw_X6_114 wd_1438 wd_24 (by decide) (by decide) rfl rfl rfl rfl (Nat.le_of_ble_eq_true rfl) (by decide) (by decide) dX6_capacityOf_14 ?_
    rintro _ _ _ ⟨rfl, rfl, rfl⟩
    show WW g z 2 0 0 ad (Wz z ad σ (su τ 72 0 0 0) o) 17 [(0, .ref (ad 20 0)), (1, .int (nI b))] [.int (nI 0)]
    refine r_if_eq K dX6_capacityOf_17 24 (0 = 0) (n0_eq (by omega)) (by decide) (fun c_17 => ?_) (fun c_17 => ?_)
    · skip
      refine r_aload_n K dX6_capacityOf_24 0 rfl rfl ?_
      refine r_iload_n K dX6_capacityOf_25 1 rfl rfl ?_
      refine r_callV (st := []) K (k_X6_holds (b := b) hl I (by first | exact hb | exact hk | exact hj | exact hw | omega | assumption)) cw_X6_127 wd_1462 wd_26 (by decide) (by decide) rfl rfl rfl rfl (Nat.le_of_ble_eq_true rfl) (by decide) (by decide) dX6_capacityOf_26 ?_
      rintro _ _ _ ⟨rfl, rfl, rfl⟩
      show WW g z 2 0 0 ad (Wz z ad σ (su τ 72 0 0 0) o) 29 [(0, .ref (ad 20 0)), (1, .int (nI b))] [.int (nI (τ 1 b 0 * τ 1 b 1))]
      exact r_iret K (by decide) (by decide) (okM_r Q2 (Eq.symm (by unfold cB; exact if_pos c_6)) (by rw [jN_n (by omega)])) dX6_capacityOf_29
    · skip
      exfalso; omega
  · skip
    refine r_iconst (v := nI 1) K dX6_capacityOf_9 (by decide) ?_
    refine r_goto K dX6_capacityOf_10 14 (by decide) ?_
    refine r_callV (st := []) K (k_X6_fails (c := 1) hl (by omega)) cw_X6_114 wd_1438 wd_24 (by decide) (by decide) rfl rfl rfl rfl (Nat.le_of_ble_eq_true rfl) (by decide) (by decide) dX6_capacityOf_14 ?_
    rintro _ _ _ ⟨rfl, rfl, rfl⟩
    show WW g z 2 0 0 ad (Wz z ad σ (su τ 72 0 0 1) o) 17 [(0, .ref (ad 20 0)), (1, .int (x))] [.int (nI 1)]
    refine r_if_eq K dX6_capacityOf_17 24 (1 = 0) (n0_eq (by omega)) (by decide) (fun c_17 => ?_) (fun c_17 => ?_)
    · skip
      exfalso; omega
    · skip
      refine r_iconst (v := nI 0) K dX6_capacityOf_20 (by decide) ?_
      refine r_goto K dX6_capacityOf_21 29 (by decide) ?_
      exact r_iret K (by decide) (by decide) (okM_f (c := 0) Q2 (by unfold cB; exact (if_neg c_6).symm)) dX6_capacityOf_29
set_option maxRecDepth 100000 in
set_option maxHeartbeats 4000000 in
theorem k_X6_volumeOf {z : Zx} {l : Launch} {σ τ : Sg} {o : Int64 × UInt64} {ad : Nm} (hl : l.stackTraces = false) {x : Int32} (Q : IR τ) (Q2 : IMo τ) : Ko z l yX6_volumeOf cX6_volumeOf 2 (some .int) 6 0 0 [.ref (ad 20 0), .int (x)] ad (Wz z ad σ τ o) (okM z ad σ o Value.int (cB τ x) (nI (τ 3 (jN x) 0)) τ) exNo := by
  refine ko_of hl (by decide +kernel) (Nat.le_of_ble_eq_true rfl) (fun g hg K => ?_)
  subst hg
  have I := Q.1
  have q0 := I.1.1
  have q1 := I.1.2.1
  have q2 := I.1.2.2.1
  have q3 := I.1.2.2.2.1
  have q4 := I.1.2.2.2.2.1
  show WW g z 2 0 0 ad (Wz z ad σ τ o) 0 [(0, .ref (ad 20 0)), (1, .int (x))] []
  refine r_aload_n K dX6_volumeOf_0 0 rfl rfl ?_
  refine r_aload_n K dX6_volumeOf_1 0 rfl rfl ?_
  refine r_iload_n K dX6_volumeOf_2 1 rfl rfl ?_
  refine r_callV (st := [.ref (ad 20 0)]) K (k_X6_isNone (x := x) hl) cw_X6_107 wd_1431 wd_23 (by decide) (by decide) rfl rfl rfl rfl (Nat.le_of_ble_eq_true rfl) (by decide) (by decide) dX6_volumeOf_3 ?_
  rintro _ _ _ ⟨rfl, rfl, rfl⟩
  show WW g z 2 0 0 ad (Wz z ad σ τ o) 6 [(0, .ref (ad 20 0)), (1, .int (x))] [.int (pI (¬ in0 x (τ 0 0 0))), .ref (ad 20 0)]
  refine r_if_eq K dX6_volumeOf_6 13 (in0 x (τ 0 0 0)) pI_n0 (by decide) (fun c_6 => ?_) (fun c_6 => ?_)
  · skip
    obtain ⟨b, hb, rfl⟩ := (in0_iff (by omega)).mp c_6
    refine r_iconst (v := nI 0) K dX6_volumeOf_13 (by decide) ?_
    refine r_callV (st := []) K (k_X6_fails (c := 0) hl (by omega)) cw_X6_114 wd_1438 wd_24 (by decide) (by decide) rfl rfl rfl rfl (Nat.le_of_ble_eq_true rfl) (by decide) (by decide) dX6_volumeOf_14 ?_
    rintro _ _ _ ⟨rfl, rfl, rfl⟩
    show WW g z 2 0 0 ad (Wz z ad σ (su τ 72 0 0 0) o) 17 [(0, .ref (ad 20 0)), (1, .int (nI b))] [.int (nI 0)]
    refine r_if_eq K dX6_volumeOf_17 24 (0 = 0) (n0_eq (by omega)) (by decide) (fun c_17 => ?_) (fun c_17 => ?_)
    · skip
      refine r_aload_n K dX6_volumeOf_24 0 rfl rfl ?_
      refine r_get (v := .ref (ad 21 9)) K fd_X6_34 rfl rfl rfl dX6_volumeOf_25 ?_
      refine r_iload_n K dX6_volumeOf_28 1 rfl rfl ?_
      refine r_iald (j := b) (v := nI (τ 3 b 0)) K rfl rfl rfl (by omega) (by decide) rfl dX6_volumeOf_29 ?_
      exact r_iret K (by decide) (by decide) (okM_r Q2 (Eq.symm (by unfold cB; exact if_pos c_6)) (by rw [jN_n (by omega)])) dX6_volumeOf_30
    · skip
      exfalso; omega
  · skip
    refine r_iconst (v := nI 1) K dX6_volumeOf_9 (by decide) ?_
    refine r_goto K dX6_volumeOf_10 14 (by decide) ?_
    refine r_callV (st := []) K (k_X6_fails (c := 1) hl (by omega)) cw_X6_114 wd_1438 wd_24 (by decide) (by decide) rfl rfl rfl rfl (Nat.le_of_ble_eq_true rfl) (by decide) (by decide) dX6_volumeOf_14 ?_
    rintro _ _ _ ⟨rfl, rfl, rfl⟩
    show WW g z 2 0 0 ad (Wz z ad σ (su τ 72 0 0 1) o) 17 [(0, .ref (ad 20 0)), (1, .int (x))] [.int (nI 1)]
    refine r_if_eq K dX6_volumeOf_17 24 (1 = 0) (n0_eq (by omega)) (by decide) (fun c_17 => ?_) (fun c_17 => ?_)
    · skip
      exfalso; omega
    · skip
      refine r_iconst (v := nI 0) K dX6_volumeOf_20 (by decide) ?_
      refine r_goto K dX6_volumeOf_21 30 (by decide) ?_
      exact r_iret K (by decide) (by decide) (okM_f (c := 0) Q2 (by unfold cB; exact (if_neg c_6).symm)) dX6_volumeOf_30
set_option maxRecDepth 100000 in
set_option maxHeartbeats 4000000 in
theorem k_X6_streetVolume {z : Zx} {l : Launch} {σ τ : Sg} {o : Int64 × UInt64} {ad : Nm} (hl : l.stackTraces = false) {x : Int32} (Q : IR τ) (Q2 : IMo τ) : Ko z l yX6_streetVolume cX6_streetVolume 2 (some .int) 6 0 0 [.ref (ad 20 0), .int (x)] ad (Wz z ad σ τ o) (okM z ad σ o Value.int (cB τ x) (nI (τ 4 (jN x) 0)) τ) exNo := by
  refine ko_of hl (by decide +kernel) (Nat.le_of_ble_eq_true rfl) (fun g hg K => ?_)
  subst hg
  have I := Q.1
  have q0 := I.1.1
  have q1 := I.1.2.1
  have q2 := I.1.2.2.1
  have q3 := I.1.2.2.2.1
  have q4 := I.1.2.2.2.2.1
  show WW g z 2 0 0 ad (Wz z ad σ τ o) 0 [(0, .ref (ad 20 0)), (1, .int (x))] []
  refine r_aload_n K dX6_streetVolume_0 0 rfl rfl ?_
  refine r_aload_n K dX6_streetVolume_1 0 rfl rfl ?_
  refine r_iload_n K dX6_streetVolume_2 1 rfl rfl ?_
  refine r_callV (st := [.ref (ad 20 0)]) K (k_X6_isNone (x := x) hl) cw_X6_107 wd_1431 wd_23 (by decide) (by decide) rfl rfl rfl rfl (Nat.le_of_ble_eq_true rfl) (by decide) (by decide) dX6_streetVolume_3 ?_
  rintro _ _ _ ⟨rfl, rfl, rfl⟩
  show WW g z 2 0 0 ad (Wz z ad σ τ o) 6 [(0, .ref (ad 20 0)), (1, .int (x))] [.int (pI (¬ in0 x (τ 0 0 0))), .ref (ad 20 0)]
  refine r_if_eq K dX6_streetVolume_6 13 (in0 x (τ 0 0 0)) pI_n0 (by decide) (fun c_6 => ?_) (fun c_6 => ?_)
  · skip
    obtain ⟨b, hb, rfl⟩ := (in0_iff (by omega)).mp c_6
    refine r_iconst (v := nI 0) K dX6_streetVolume_13 (by decide) ?_
    refine r_callV (st := []) K (k_X6_fails (c := 0) hl (by omega)) cw_X6_114 wd_1438 wd_24 (by decide) (by decide) rfl rfl rfl rfl (Nat.le_of_ble_eq_true rfl) (by decide) (by decide) dX6_streetVolume_14 ?_
    rintro _ _ _ ⟨rfl, rfl, rfl⟩
    show WW g z 2 0 0 ad (Wz z ad σ (su τ 72 0 0 0) o) 17 [(0, .ref (ad 20 0)), (1, .int (nI b))] [.int (nI 0)]
    refine r_if_eq K dX6_streetVolume_17 24 (0 = 0) (n0_eq (by omega)) (by decide) (fun c_17 => ?_) (fun c_17 => ?_)
    · skip
      refine r_aload_n K dX6_streetVolume_24 0 rfl rfl ?_
      refine r_get (v := .ref (ad 21 10)) K fd_X6_37 rfl rfl rfl dX6_streetVolume_25 ?_
      refine r_iload_n K dX6_streetVolume_28 1 rfl rfl ?_
      refine r_iald (j := b) (v := nI (τ 4 b 0)) K rfl rfl rfl (by omega) (by decide) rfl dX6_streetVolume_29 ?_
      exact r_iret K (by decide) (by decide) (okM_r Q2 (Eq.symm (by unfold cB; exact if_pos c_6)) (by rw [jN_n (by omega)])) dX6_streetVolume_30
    · skip
      exfalso; omega
  · skip
    refine r_iconst (v := nI 1) K dX6_streetVolume_9 (by decide) ?_
    refine r_goto K dX6_streetVolume_10 14 (by decide) ?_
    refine r_callV (st := []) K (k_X6_fails (c := 1) hl (by omega)) cw_X6_114 wd_1438 wd_24 (by decide) (by decide) rfl rfl rfl rfl (Nat.le_of_ble_eq_true rfl) (by decide) (by decide) dX6_streetVolume_14 ?_
    rintro _ _ _ ⟨rfl, rfl, rfl⟩
    show WW g z 2 0 0 ad (Wz z ad σ (su τ 72 0 0 1) o) 17 [(0, .ref (ad 20 0)), (1, .int (x))] [.int (nI 1)]
    refine r_if_eq K dX6_streetVolume_17 24 (1 = 0) (n0_eq (by omega)) (by decide) (fun c_17 => ?_) (fun c_17 => ?_)
    · skip
      exfalso; omega
    · skip
      refine r_iconst (v := nI 0) K dX6_streetVolume_20 (by decide) ?_
      refine r_goto K dX6_streetVolume_21 30 (by decide) ?_
      exact r_iret K (by decide) (by decide) (okM_f (c := 0) Q2 (by unfold cB; exact (if_neg c_6).symm)) dX6_streetVolume_30
set_option maxRecDepth 100000 in
set_option maxHeartbeats 4000000 in
theorem k_X6_levelOf {z : Zx} {l : Launch} {σ τ : Sg} {o : Int64 × UInt64} {ad : Nm} (hl : l.stackTraces = false) {x : Int32} (Q : IR τ) (Q2 : IMo τ) : Ko z l yX6_levelOf cX6_levelOf 2 (some .int) 6 0 0 [.ref (ad 20 0), .int (x)] ad (Wz z ad σ τ o) (okM z ad σ o Value.int (cB τ x) (nI (τ 3 (jN x) 0 / τ 1 (jN x) 0)) τ) exNo := by
  refine ko_of hl (by decide +kernel) (Nat.le_of_ble_eq_true rfl) (fun g hg K => ?_)
  subst hg
  have I := Q.1
  have q0 := I.1.1
  have q1 := I.1.2.1
  have q2 := I.1.2.2.1
  have q3 := I.1.2.2.2.1
  have q4 := I.1.2.2.2.2.1
  show WW g z 2 0 0 ad (Wz z ad σ τ o) 0 [(0, .ref (ad 20 0)), (1, .int (x))] []
  refine r_aload_n K dX6_levelOf_0 0 rfl rfl ?_
  refine r_aload_n K dX6_levelOf_1 0 rfl rfl ?_
  refine r_iload_n K dX6_levelOf_2 1 rfl rfl ?_
  refine r_callV (st := [.ref (ad 20 0)]) K (k_X6_isNone (x := x) hl) cw_X6_107 wd_1431 wd_23 (by decide) (by decide) rfl rfl rfl rfl (Nat.le_of_ble_eq_true rfl) (by decide) (by decide) dX6_levelOf_3 ?_
  rintro _ _ _ ⟨rfl, rfl, rfl⟩
  show WW g z 2 0 0 ad (Wz z ad σ τ o) 6 [(0, .ref (ad 20 0)), (1, .int (x))] [.int (pI (¬ in0 x (τ 0 0 0))), .ref (ad 20 0)]
  refine r_if_eq K dX6_levelOf_6 13 (in0 x (τ 0 0 0)) pI_n0 (by decide) (fun c_6 => ?_) (fun c_6 => ?_)
  · skip
    obtain ⟨b, hb, rfl⟩ := (in0_iff (by omega)).mp c_6
    have ga := (I.2.1 b hb).1.1
    have gv := (Q.2.1.1 b).1
    refine r_iconst (v := nI 0) K dX6_levelOf_13 (by decide) ?_
    refine r_callV (st := []) K (k_X6_fails (c := 0) hl (by omega)) cw_X6_114 wd_1438 wd_24 (by decide) (by decide) rfl rfl rfl rfl (Nat.le_of_ble_eq_true rfl) (by decide) (by decide) dX6_levelOf_14 ?_
    rintro _ _ _ ⟨rfl, rfl, rfl⟩
    show WW g z 2 0 0 ad (Wz z ad σ (su τ 72 0 0 0) o) 17 [(0, .ref (ad 20 0)), (1, .int (nI b))] [.int (nI 0)]
    refine r_if_eq K dX6_levelOf_17 24 (0 = 0) (n0_eq (by omega)) (by decide) (fun c_17 => ?_) (fun c_17 => ?_)
    · skip
      refine r_aload_n K dX6_levelOf_24 0 rfl rfl ?_
      refine r_get (v := .ref (ad 21 9)) K fd_X6_34 rfl rfl rfl dX6_levelOf_25 ?_
      refine r_iload_n K dX6_levelOf_28 1 rfl rfl ?_
      refine r_iald (j := b) (v := nI (τ 3 b 0)) K rfl rfl rfl (by omega) (by decide) rfl dX6_levelOf_29 ?_
      refine r_aload_n K dX6_levelOf_30 0 rfl rfl ?_
      refine r_get (v := .ref (ad 21 1)) K fd_X6_7 rfl rfl rfl dX6_levelOf_31 ?_
      refine r_iload_n K dX6_levelOf_34 1 rfl rfl ?_
      refine r_iald (j := b) (v := nI (τ 1 b 0)) K rfl rfl rfl (by omega) (by decide) rfl dX6_levelOf_35 ?_
      refine r_idiv (v := nI ((τ 3 b 0) / (τ 1 b 0))) K dX6_levelOf_36 (nI_z (by omega) (by omega)) (pk_div (by omega) (by omega) (by omega)) ?_
      exact r_iret K (by decide) (by decide) (okM_r Q2 (Eq.symm (by unfold cB; exact if_pos c_6)) (by rw [jN_n (by omega)])) dX6_levelOf_37
    · skip
      exfalso; omega
  · skip
    refine r_iconst (v := nI 1) K dX6_levelOf_9 (by decide) ?_
    refine r_goto K dX6_levelOf_10 14 (by decide) ?_
    refine r_callV (st := []) K (k_X6_fails (c := 1) hl (by omega)) cw_X6_114 wd_1438 wd_24 (by decide) (by decide) rfl rfl rfl rfl (Nat.le_of_ble_eq_true rfl) (by decide) (by decide) dX6_levelOf_14 ?_
    rintro _ _ _ ⟨rfl, rfl, rfl⟩
    show WW g z 2 0 0 ad (Wz z ad σ (su τ 72 0 0 1) o) 17 [(0, .ref (ad 20 0)), (1, .int (x))] [.int (nI 1)]
    refine r_if_eq K dX6_levelOf_17 24 (1 = 0) (n0_eq (by omega)) (by decide) (fun c_17 => ?_) (fun c_17 => ?_)
    · skip
      exfalso; omega
    · skip
      refine r_iconst (v := nI 0) K dX6_levelOf_20 (by decide) ?_
      refine r_goto K dX6_levelOf_21 37 (by decide) ?_
      exact r_iret K (by decide) (by decide) (okM_f (c := 0) Q2 (by unfold cB; exact (if_neg c_6).symm)) dX6_levelOf_37
set_option maxRecDepth 100000 in
set_option maxHeartbeats 4000000 in
theorem k_X6_openingNow {z : Zx} {l : Launch} {σ τ : Sg} {o : Int64 × UInt64} {ad : Nm} (hl : l.stackTraces = false) {x : Int32} (Q : IR τ) (Q2 : IMo τ) : Ko z l yX6_openingNow cX6_openingNow 2 (some .int) 6 0 0 [.ref (ad 20 0), .int (x)] ad (Wz z ad σ τ o) (okM z ad σ o Value.int (cB τ x) (nI (opn (τ 8) (τ 1) (fun i => τ 3 i 0) (jN x) (τ 0 1 0))) τ) exNo := by
  refine ko_of hl (by decide +kernel) (Nat.le_of_ble_eq_true rfl) (fun g hg K => ?_)
  subst hg
  have I := Q.1
  have q0 := I.1.1
  have q1 := I.1.2.1
  have q2 := I.1.2.2.1
  have q3 := I.1.2.2.2.1
  have q4 := I.1.2.2.2.2.1
  show WW g z 2 0 0 ad (Wz z ad σ τ o) 0 [(0, .ref (ad 20 0)), (1, .int (x))] []
  refine r_aload_n K dX6_openingNow_0 0 rfl rfl ?_
  refine r_aload_n K dX6_openingNow_1 0 rfl rfl ?_
  refine r_iload_n K dX6_openingNow_2 1 rfl rfl ?_
  refine r_callV (st := [.ref (ad 20 0)]) K (k_X6_isNone (x := x) hl) cw_X6_107 wd_1431 wd_23 (by decide) (by decide) rfl rfl rfl rfl (Nat.le_of_ble_eq_true rfl) (by decide) (by decide) dX6_openingNow_3 ?_
  rintro _ _ _ ⟨rfl, rfl, rfl⟩
  show WW g z 2 0 0 ad (Wz z ad σ τ o) 6 [(0, .ref (ad 20 0)), (1, .int (x))] [.int (pI (¬ in0 x (τ 0 0 0))), .ref (ad 20 0)]
  refine r_if_eq K dX6_openingNow_6 13 (in0 x (τ 0 0 0)) pI_n0 (by decide) (fun c_6 => ?_) (fun c_6 => ?_)
  · skip
    obtain ⟨b, hb, rfl⟩ := (in0_iff (by omega)).mp c_6
    refine r_iconst (v := nI 0) K dX6_openingNow_13 (by decide) ?_
    refine r_callV (st := []) K (k_X6_fails (c := 0) hl (by omega)) cw_X6_114 wd_1438 wd_24 (by decide) (by decide) rfl rfl rfl rfl (Nat.le_of_ble_eq_true rfl) (by decide) (by decide) dX6_openingNow_14 ?_
    rintro _ _ _ ⟨rfl, rfl, rfl⟩
    show WW g z 2 0 0 ad (Wz z ad σ (su τ 72 0 0 0) o) 17 [(0, .ref (ad 20 0)), (1, .int (nI b))] [.int (nI 0)]
    refine r_if_eq K dX6_openingNow_17 24 (0 = 0) (n0_eq (by omega)) (by decide) (fun c_17 => ?_) (fun c_17 => ?_)
    · skip
      refine r_aload_n K dX6_openingNow_24 0 rfl rfl ?_
      refine r_iload_n K dX6_openingNow_25 1 rfl rfl ?_
      refine r_aload_n K dX6_openingNow_26 0 rfl rfl ?_
      refine r_get (v := .ref (ad 21 9)) K fd_X6_34 rfl rfl rfl dX6_openingNow_27 ?_
      refine r_callV (st := []) K (k_X6_opening (τ := (su τ 72 0 0 0)) (u := 0) (b := b) (V := fun i => τ 3 i 0) hl (.inl rfl) I (by first | exact hb | exact hk | exact hj | exact hw | omega | assumption) (by rw [show (su τ 72 0 0 0) 73 0 0 = 0 from Q2.2.1.1]; decide) rfl (fun i => by have := (Q.2.1.1 i).1; omega)) cw_X6_140 wd_1498 wd_29 (by decide) (by decide) rfl rfl rfl rfl (Nat.le_of_ble_eq_true rfl) (by decide) (by decide) dX6_openingNow_30 ?_
      rintro _ _ _ ⟨rfl, rfl, rfl⟩
      rw [show (su τ 72 0 0 0) 73 0 0 = 0 from Q2.2.1.1]
      show WW g z 2 0 0 ad (Wz z ad σ (su τ 72 0 0 0) o) 33 [(0, .ref (ad 20 0)), (1, .int (nI b))] [.int (nI (opF (τ 8) (τ 1) (fun i => τ 3 i 0) (τ 0 1 0) 0 (τ 74 0 0) b))]
      exact r_iret K (by decide) (by decide) (okM_r Q2 (Eq.symm (by unfold cB; exact if_pos c_6)) (by rw [jN_n (by omega), opF, if_neg (by omega)])) dX6_openingNow_33
    · skip
      exfalso; omega
  · skip
    refine r_iconst (v := nI 1) K dX6_openingNow_9 (by decide) ?_
    refine r_goto K dX6_openingNow_10 14 (by decide) ?_
    refine r_callV (st := []) K (k_X6_fails (c := 1) hl (by omega)) cw_X6_114 wd_1438 wd_24 (by decide) (by decide) rfl rfl rfl rfl (Nat.le_of_ble_eq_true rfl) (by decide) (by decide) dX6_openingNow_14 ?_
    rintro _ _ _ ⟨rfl, rfl, rfl⟩
    show WW g z 2 0 0 ad (Wz z ad σ (su τ 72 0 0 1) o) 17 [(0, .ref (ad 20 0)), (1, .int (x))] [.int (nI 1)]
    refine r_if_eq K dX6_openingNow_17 24 (1 = 0) (n0_eq (by omega)) (by decide) (fun c_17 => ?_) (fun c_17 => ?_)
    · skip
      exfalso; omega
    · skip
      refine r_iconst (v := nI 0) K dX6_openingNow_20 (by decide) ?_
      refine r_goto K dX6_openingNow_21 33 (by decide) ?_
      exact r_iret K (by decide) (by decide) (okM_f (c := 0) Q2 (by unfold cB; exact (if_neg c_6).symm)) dX6_openingNow_33
set_option maxRecDepth 100000 in
set_option maxHeartbeats 4000000 in
theorem k_X6_doesHold {z : Zx} {l : Launch} {σ τ : Sg} {o : Int64 × UInt64} {ad : Nm} (hl : l.stackTraces = false) {x : Int32} (Q : IR τ) (Q2 : IMo τ) : Ko z l yX6_doesHold cX6_doesHold 2 (some .boolean) 6 0 0 [.ref (ad 20 0), .int (x)] ad (Wz z ad σ τ o) (okM z ad σ o Value.int (cR τ x) (nI (hldN (τ 8) (τ 1) (fun i => τ 3 i 0) (jN x))) τ) exNo := by
  refine ko_of hl (by decide +kernel) (Nat.le_of_ble_eq_true rfl) (fun g hg K => ?_)
  subst hg
  have I := Q.1
  have q0 := I.1.1
  have q1 := I.1.2.1
  have q2 := I.1.2.2.1
  have q3 := I.1.2.2.2.1
  have q4 := I.1.2.2.2.2.1
  show WW g z 2 0 0 ad (Wz z ad σ τ o) 0 [(0, .ref (ad 20 0)), (1, .int (x))] []
  refine r_aload_n K dX6_doesHold_0 0 rfl rfl ?_
  refine r_iload_n K dX6_doesHold_1 1 rfl rfl ?_
  refine r_callV (st := []) K (k_X6_isNoRule (x := x) hl) cw_X6_130 wd_1478 wd_27 (by decide) (by decide) rfl rfl rfl rfl (Nat.le_of_ble_eq_true rfl) (by decide) (by decide) dX6_doesHold_2 ?_
  rintro _ _ _ ⟨rfl, rfl, rfl⟩
  show WW g z 2 0 0 ad (Wz z ad σ (su τ 72 0 0 (cR τ x)) o) 5 [(0, .ref (ad 20 0)), (1, .int (x))] [.int (pI (¬ in0 x (τ 0 1 0)))]
  refine r_if_ne K dX6_doesHold_5 24 (in0 x (τ 0 1 0)) pI_n0 (by decide) (fun c_5 => ?_) (fun c_5 => ?_)
  · skip
    refine r_iconst (v := nI 0) K dX6_doesHold_24 (by decide) ?_
    exact r_zret K (by first | rfl | decide | exact pI_nar) (by decide) (by decide) ⟨_, rfl, fun h => absurd h (by rw [show cR τ x = 1 from if_neg c_5]; decide), rfl, _, rfl, agr.rf.sx (by decide), Q2, rfl⟩ dX6_doesHold_25
  · skip
    obtain ⟨j, hj, rfl⟩ := (in0_iff (by omega)).mp c_5
    have g6 := hldN_le (τ 8) (τ 1) (fun i => τ 3 i 0) j
    refine r_aload_n K dX6_doesHold_8 0 rfl rfl ?_
    refine r_iload_n K dX6_doesHold_9 1 rfl rfl ?_
    refine r_aload_n K dX6_doesHold_10 0 rfl rfl ?_
    refine r_get (v := .ref (ad 21 9)) K fd_X6_34 rfl rfl rfl dX6_doesHold_11 ?_
    refine r_callV (st := []) K (k_X6_isTrue (τ := (su τ 72 0 0 (cR τ (nI j)))) (u := 0) (j := j) (V := fun i => τ 3 i 0) hl (.inl rfl) I (by first | exact hb | exact hk | exact hj | exact hw | omega | assumption) rfl (fun i => by have := (Q.2.1.1 i).1; omega)) cw_X6_133 wd_1490 wd_28 (by decide) (by decide) rfl rfl rfl rfl (Nat.le_of_ble_eq_true rfl) (by decide) (by decide) dX6_doesHold_14 ?_
    rintro _ _ _ ⟨rfl, rfl, rfl⟩
    show WW g z 2 0 0 ad (Wz z ad σ (su τ 72 0 0 (cR τ (nI j))) o) 17 [(0, .ref (ad 20 0)), (1, .int (nI j))] [.int (nI (hldN (τ 8) (τ 1) (fun i => τ 3 i 0) j))]
    refine r_if_eq K dX6_doesHold_17 24 (hldN (τ 8) (τ 1) (fun i => τ 3 i 0) j = 0) (n0_eq (by omega)) (by decide) (fun c_17 => ?_) (fun c_17 => ?_)
    · skip
      refine r_iconst (v := nI 0) K dX6_doesHold_24 (by decide) ?_
      exact r_zret K (by first | rfl | decide | exact pI_nar) (by decide) (by decide) (okM_r Q2 rfl (by rw [jN_n (by omega)]; exact congrArg nI (by omega))) dX6_doesHold_25
    · skip
      refine r_iconst (v := nI 1) K dX6_doesHold_20 (by decide) ?_
      refine r_goto K dX6_doesHold_21 25 (by decide) ?_
      exact r_zret K (by first | rfl | decide | exact pI_nar) (by decide) (by decide) (okM_r Q2 rfl (by rw [jN_n (by omega)]; exact congrArg nI (by omega))) dX6_doesHold_25
set_option maxRecDepth 100000 in
set_option maxHeartbeats 4000000 in
theorem k_X6_setHand {z : Zx} {l : Launch} {σ τ : Sg} {o : Int64 × UInt64} {ad : Nm} (hl : l.stackTraces = false) {x y : Int32} (Q : IR τ) (Q2 : IMo τ) : Ko z l yX6_setHand cX6_setHand 4 (some .int) 6 0 0 [.ref (ad 20 0), .int (x), .int (y)] ad (Wz z ad σ τ o) (okM z ad σ o Value.int (cBx τ 10 x y) (nI (τ 1 (jN x) 4)) (if (cBx τ 10 x y) = 0 then fHand τ x y else τ)) exNo := by
  refine ko_of hl (by decide +kernel) (Nat.le_of_ble_eq_true rfl) (fun g hg K => ?_)
  subst hg
  have I := Q.1
  have q0 := I.1.1
  have q1 := I.1.2.1
  have q2 := I.1.2.2.1
  have q3 := I.1.2.2.2.1
  have q4 := I.1.2.2.2.2.1
  show WW g z 4 0 0 ad (Wz z ad σ τ o) 0 [(0, .ref (ad 20 0)), (1, .int (x)), (2, .int (y))] []
  refine r_aload_n K dX6_setHand_0 0 rfl rfl ?_
  refine r_aload_n K dX6_setHand_1 0 rfl rfl ?_
  refine r_iload_n K dX6_setHand_2 1 rfl rfl ?_
  refine r_callV (st := [.ref (ad 20 0)]) K (k_X6_isNone (x := x) hl) cw_X6_107 wd_1431 wd_23 (by decide) (by decide) rfl rfl rfl rfl (Nat.le_of_ble_eq_true rfl) (by decide) (by decide) dX6_setHand_3 ?_
  rintro _ _ _ ⟨rfl, rfl, rfl⟩
  show WW g z 4 0 0 ad (Wz z ad σ τ o) 6 [(0, .ref (ad 20 0)), (1, .int (x)), (2, .int (y))] [.int (pI (¬ in0 x (τ 0 0 0))), .ref (ad 20 0)]
  refine r_if_eq K dX6_setHand_6 13 (in0 x (τ 0 0 0)) pI_n0 (by decide) (fun c_6 => ?_) (fun c_6 => ?_)
  · skip
    obtain ⟨b, hb, rfl⟩ := (in0_iff (by omega)).mp c_6
    refine r_iload_n K dX6_setHand_13 2 rfl rfl ?_
    refine r_iconst (v := nI 0) K dX6_setHand_14 (by decide) ?_
    refine r_bipush (v := nI 10) K dX6_setHand_15 (by decide) ?_
    refine r_callS (st := [.ref (ad 20 0)]) K (k_X6_in (x := y) (a := nI 0) (b := nI 10) hl) cw_X6_103 wd_1434 (by decide) (by decide) rfl (Nat.le_of_ble_eq_true rfl) (by decide) (by decide) dX6_setHand_17 ?_
    rintro _ _ _ ⟨rfl, rfl, rfl⟩
    show WW g z 4 0 0 ad (Wz z ad σ τ o) 20 [(0, .ref (ad 20 0)), (1, .int (nI b)), (2, .int (y))] [.int (pI (inR y 0 10)), .ref (ad 20 0)]
    refine r_if_eq K dX6_setHand_20 27 (¬ (inR y 0 10)) pI_eq0 (by decide) (fun c_20 => ?_) (fun c_20 => ?_)
    · skip
      refine r_iconst (v := nI 2) K dX6_setHand_27 (by decide) ?_
      refine r_callV (st := []) K (k_X6_fails (c := 2) hl (by omega)) cw_X6_114 wd_1438 wd_24 (by decide) (by decide) rfl rfl rfl rfl (Nat.le_of_ble_eq_true rfl) (by decide) (by decide) dX6_setHand_28 ?_
      rintro _ _ _ ⟨rfl, rfl, rfl⟩
      show WW g z 4 0 0 ad (Wz z ad σ (su τ 72 0 0 2) o) 31 [(0, .ref (ad 20 0)), (1, .int (nI b)), (2, .int (y))] [.int (nI 1)]
      refine r_if_eq K dX6_setHand_31 36 (1 = 0) (n0_eq (by omega)) (by decide) (fun c_31 => ?_) (fun c_31 => ?_)
      · skip
        exfalso; omega
      · skip
        refine r_iconst (v := nI 0) K dX6_setHand_34 (by decide) ?_
        exact r_iret K (by decide) (by decide) (okM_g (c := 1) Q2 (by unfold cBx; rw [if_pos c_6]; exact (if_neg c_20).symm)) dX6_setHand_35
    · skip
      have q_20 := Decidable.not_not.mp c_20
      obtain ⟨p, hp, rfl⟩ := (inR_iff (by decide) (by decide)).mp q_20
      refine r_iconst (v := nI 0) K dX6_setHand_23 (by decide) ?_
      refine r_goto K dX6_setHand_24 28 (by decide) ?_
      refine r_callV (st := []) K (k_X6_fails (c := 0) hl (by omega)) cw_X6_114 wd_1438 wd_24 (by decide) (by decide) rfl rfl rfl rfl (Nat.le_of_ble_eq_true rfl) (by decide) (by decide) dX6_setHand_28 ?_
      rintro _ _ _ ⟨rfl, rfl, rfl⟩
      show WW g z 4 0 0 ad (Wz z ad σ (su τ 72 0 0 0) o) 31 [(0, .ref (ad 20 0)), (1, .int (nI b)), (2, .int (nI p))] [.int (nI 0)]
      refine r_if_eq K dX6_setHand_31 36 (0 = 0) (n0_eq (by omega)) (by decide) (fun c_31 => ?_) (fun c_31 => ?_)
      · skip
        refine r_aload_n K dX6_setHand_36 0 rfl rfl ?_
        refine r_get (v := .ref (ad 21 5)) K fd_X6_22 rfl rfl rfl dX6_setHand_37 ?_
        refine r_iload_n K dX6_setHand_40 1 rfl rfl ?_
        refine r_iald (j := b) (v := nI (τ 1 b 4)) K rfl rfl rfl (by omega) (by decide) rfl dX6_setHand_41 ?_
        refine r_istore_n (lv' := [(3, .int (nI (τ 1 b 4))), (0, .ref (ad 20 0)), (1, .int (nI b)), (2, .int (nI p))]) K dX6_setHand_42 rfl (by decide) rfl ?_
        refine r_aload_n K dX6_setHand_43 1 rfl rfl ?_
        refine r_get (v := .ref (ad 21 5)) K fd_X6_22 rfl rfl rfl dX6_setHand_44 ?_
        refine r_iload_n K dX6_setHand_47 2 rfl rfl ?_
        refine r_iload_n K dX6_setHand_48 3 rfl rfl ?_
        refine r_iast (j := b) K rfl rfl rfl (by omega) (by decide) rfl dX6_setHand_49 ?_
        refine r_mu u_21_5 ?_
        show WW g z 4 0 0 ad (Wz z ad σ (su (su τ 72 0 0 0) 1 b 4 p) o) 50 [(3, .int (nI (τ 1 b 4))), (0, .ref (ad 20 0)), (1, .int (nI b)), (2, .int (nI p))] []
        refine r_iload_n K dX6_setHand_50 0 rfl rfl ?_
        exact r_iret K (by decide) (by decide) (okM_w (by unfold cBx; rw [if_pos c_6]; exact if_pos q_20) (by rw [jN_n (by omega)]) (by unfold fHand; rw [jN_n (by omega), jN_n (by omega)]; exact (agr.rf.sx (by decide)).put) Q2 rfl) dX6_setHand_51
      · skip
        exfalso; omega
  · skip
    refine r_iconst (v := nI 1) K dX6_setHand_9 (by decide) ?_
    refine r_goto K dX6_setHand_10 28 (by decide) ?_
    refine r_callV (st := []) K (k_X6_fails (c := 1) hl (by omega)) cw_X6_114 wd_1438 wd_24 (by decide) (by decide) rfl rfl rfl rfl (Nat.le_of_ble_eq_true rfl) (by decide) (by decide) dX6_setHand_28 ?_
    rintro _ _ _ ⟨rfl, rfl, rfl⟩
    show WW g z 4 0 0 ad (Wz z ad σ (su τ 72 0 0 1) o) 31 [(0, .ref (ad 20 0)), (1, .int (x)), (2, .int (y))] [.int (nI 1)]
    refine r_if_eq K dX6_setHand_31 36 (1 = 0) (n0_eq (by omega)) (by decide) (fun c_31 => ?_) (fun c_31 => ?_)
    · skip
      exfalso; omega
    · skip
      refine r_iconst (v := nI 0) K dX6_setHand_34 (by decide) ?_
      exact r_iret K (by decide) (by decide) (okM_g (c := 0) Q2 (by unfold cBx; exact (if_neg c_6).symm)) dX6_setHand_35
set_option maxRecDepth 100000 in
set_option maxHeartbeats 4000000 in
theorem k_X6_setRain {z : Zx} {l : Launch} {σ τ : Sg} {o : Int64 × UInt64} {ad : Nm} (hl : l.stackTraces = false) {x y : Int32} (Q : IR τ) (Q2 : IMo τ) : Ko z l yX6_setRain cX6_setRain 4 (some .int) 6 0 0 [.ref (ad 20 0), .int (x), .int (y)] ad (Wz z ad σ τ o) (okM z ad σ o Value.int (cBx τ 500 x y) (nI (τ 1 (jN x) 5)) (if (cBx τ 500 x y) = 0 then fRain τ x y else τ)) exNo := by
  refine ko_of hl (by decide +kernel) (Nat.le_of_ble_eq_true rfl) (fun g hg K => ?_)
  subst hg
  have I := Q.1
  have q0 := I.1.1
  have q1 := I.1.2.1
  have q2 := I.1.2.2.1
  have q3 := I.1.2.2.2.1
  have q4 := I.1.2.2.2.2.1
  show WW g z 4 0 0 ad (Wz z ad σ τ o) 0 [(0, .ref (ad 20 0)), (1, .int (x)), (2, .int (y))] []
  refine r_aload_n K dX6_setRain_0 0 rfl rfl ?_
  refine r_aload_n K dX6_setRain_1 0 rfl rfl ?_
  refine r_iload_n K dX6_setRain_2 1 rfl rfl ?_
  refine r_callV (st := [.ref (ad 20 0)]) K (k_X6_isNone (x := x) hl) cw_X6_107 wd_1431 wd_23 (by decide) (by decide) rfl rfl rfl rfl (Nat.le_of_ble_eq_true rfl) (by decide) (by decide) dX6_setRain_3 ?_
  rintro _ _ _ ⟨rfl, rfl, rfl⟩
  show WW g z 4 0 0 ad (Wz z ad σ τ o) 6 [(0, .ref (ad 20 0)), (1, .int (x)), (2, .int (y))] [.int (pI (¬ in0 x (τ 0 0 0))), .ref (ad 20 0)]
  refine r_if_eq K dX6_setRain_6 13 (in0 x (τ 0 0 0)) pI_n0 (by decide) (fun c_6 => ?_) (fun c_6 => ?_)
  · skip
    obtain ⟨b, hb, rfl⟩ := (in0_iff (by omega)).mp c_6
    refine r_iload_n K dX6_setRain_13 2 rfl rfl ?_
    refine r_iconst (v := nI 0) K dX6_setRain_14 (by decide) ?_
    refine r_sipush (v := nI 500) K dX6_setRain_15 (by decide) ?_
    refine r_callS (st := [.ref (ad 20 0)]) K (k_X6_in (x := y) (a := nI 0) (b := nI 500) hl) cw_X6_103 wd_1434 (by decide) (by decide) rfl (Nat.le_of_ble_eq_true rfl) (by decide) (by decide) dX6_setRain_18 ?_
    rintro _ _ _ ⟨rfl, rfl, rfl⟩
    show WW g z 4 0 0 ad (Wz z ad σ τ o) 21 [(0, .ref (ad 20 0)), (1, .int (nI b)), (2, .int (y))] [.int (pI (inR y 0 500)), .ref (ad 20 0)]
    refine r_if_eq K dX6_setRain_21 28 (¬ (inR y 0 500)) pI_eq0 (by decide) (fun c_21 => ?_) (fun c_21 => ?_)
    · skip
      refine r_iconst (v := nI 2) K dX6_setRain_28 (by decide) ?_
      refine r_callV (st := []) K (k_X6_fails (c := 2) hl (by omega)) cw_X6_114 wd_1438 wd_24 (by decide) (by decide) rfl rfl rfl rfl (Nat.le_of_ble_eq_true rfl) (by decide) (by decide) dX6_setRain_29 ?_
      rintro _ _ _ ⟨rfl, rfl, rfl⟩
      show WW g z 4 0 0 ad (Wz z ad σ (su τ 72 0 0 2) o) 32 [(0, .ref (ad 20 0)), (1, .int (nI b)), (2, .int (y))] [.int (nI 1)]
      refine r_if_eq K dX6_setRain_32 37 (1 = 0) (n0_eq (by omega)) (by decide) (fun c_32 => ?_) (fun c_32 => ?_)
      · skip
        exfalso; omega
      · skip
        refine r_iconst (v := nI 0) K dX6_setRain_35 (by decide) ?_
        exact r_iret K (by decide) (by decide) (okM_g (c := 1) Q2 (by unfold cBx; rw [if_pos c_6]; exact (if_neg c_21).symm)) dX6_setRain_36
    · skip
      have q_21 := Decidable.not_not.mp c_21
      obtain ⟨p, hp, rfl⟩ := (inR_iff (by decide) (by decide)).mp q_21
      refine r_iconst (v := nI 0) K dX6_setRain_24 (by decide) ?_
      refine r_goto K dX6_setRain_25 29 (by decide) ?_
      refine r_callV (st := []) K (k_X6_fails (c := 0) hl (by omega)) cw_X6_114 wd_1438 wd_24 (by decide) (by decide) rfl rfl rfl rfl (Nat.le_of_ble_eq_true rfl) (by decide) (by decide) dX6_setRain_29 ?_
      rintro _ _ _ ⟨rfl, rfl, rfl⟩
      show WW g z 4 0 0 ad (Wz z ad σ (su τ 72 0 0 0) o) 32 [(0, .ref (ad 20 0)), (1, .int (nI b)), (2, .int (nI p))] [.int (nI 0)]
      refine r_if_eq K dX6_setRain_32 37 (0 = 0) (n0_eq (by omega)) (by decide) (fun c_32 => ?_) (fun c_32 => ?_)
      · skip
        refine r_aload_n K dX6_setRain_37 0 rfl rfl ?_
        refine r_get (v := .ref (ad 21 6)) K fd_X6_25 rfl rfl rfl dX6_setRain_38 ?_
        refine r_iload_n K dX6_setRain_41 1 rfl rfl ?_
        refine r_iald (j := b) (v := nI (τ 1 b 5)) K rfl rfl rfl (by omega) (by decide) rfl dX6_setRain_42 ?_
        refine r_istore_n (lv' := [(3, .int (nI (τ 1 b 5))), (0, .ref (ad 20 0)), (1, .int (nI b)), (2, .int (nI p))]) K dX6_setRain_43 rfl (by decide) rfl ?_
        refine r_aload_n K dX6_setRain_44 1 rfl rfl ?_
        refine r_get (v := .ref (ad 21 6)) K fd_X6_25 rfl rfl rfl dX6_setRain_45 ?_
        refine r_iload_n K dX6_setRain_48 2 rfl rfl ?_
        refine r_iload_n K dX6_setRain_49 3 rfl rfl ?_
        refine r_iast (j := b) K rfl rfl rfl (by omega) (by decide) rfl dX6_setRain_50 ?_
        refine r_mu u_21_6 ?_
        show WW g z 4 0 0 ad (Wz z ad σ (su (su τ 72 0 0 0) 1 b 5 p) o) 51 [(3, .int (nI (τ 1 b 5))), (0, .ref (ad 20 0)), (1, .int (nI b)), (2, .int (nI p))] []
        refine r_iload_n K dX6_setRain_51 0 rfl rfl ?_
        exact r_iret K (by decide) (by decide) (okM_w (by unfold cBx; rw [if_pos c_6]; exact if_pos q_21) (by rw [jN_n (by omega)]) (by unfold fRain; rw [jN_n (by omega), jN_n (by omega)]; exact (agr.rf.sx (by decide)).put) Q2 rfl) dX6_setRain_52
      · skip
        exfalso; omega
  · skip
    refine r_iconst (v := nI 1) K dX6_setRain_9 (by decide) ?_
    refine r_goto K dX6_setRain_10 29 (by decide) ?_
    refine r_callV (st := []) K (k_X6_fails (c := 1) hl (by omega)) cw_X6_114 wd_1438 wd_24 (by decide) (by decide) rfl rfl rfl rfl (Nat.le_of_ble_eq_true rfl) (by decide) (by decide) dX6_setRain_29 ?_
    rintro _ _ _ ⟨rfl, rfl, rfl⟩
    show WW g z 4 0 0 ad (Wz z ad σ (su τ 72 0 0 1) o) 32 [(0, .ref (ad 20 0)), (1, .int (x)), (2, .int (y))] [.int (nI 1)]
    refine r_if_eq K dX6_setRain_32 37 (1 = 0) (n0_eq (by omega)) (by decide) (fun c_32 => ?_) (fun c_32 => ?_)
    · skip
      exfalso; omega
    · skip
      refine r_iconst (v := nI 0) K dX6_setRain_35 (by decide) ?_
      exact r_iret K (by decide) (by decide) (okM_g (c := 0) Q2 (by unfold cBx; exact (if_neg c_6).symm)) dX6_setRain_36
set_option maxRecDepth 100000 in
set_option maxHeartbeats 4000000 in
theorem k_X6_isBalanced {z : Zx} {l : Launch} {σ τ : Sg} {o : Int64 × UInt64} {ad : Nm} (hl : l.stackTraces = false) (Q : IR τ) (Q2 : IMo τ) : Ko z l yX6_isBalanced cX6_isBalanced 1 (some .boolean) 6 0 0 [.ref (ad 20 0)] ad (Wz z ad σ τ o) (okM z ad σ o Value.int 0 (pI (nI (τ 12 1 0) = nI (hld τ 0 6 + τ 6 0 0))) τ) exNo := by
  refine ko_of hl (by decide +kernel) (Nat.le_of_ble_eq_true rfl) (fun g hg K => ?_)
  subst hg
  have I := Q.1
  have q0 := I.1.1
  have q1 := I.1.2.1
  have q2 := I.1.2.2.1
  have q3 := I.1.2.2.2.1
  have q4 := I.1.2.2.2.2.1
  show WW g z 1 0 0 ad (Wz z ad σ τ o) 0 [(0, .ref (ad 20 0))] []
  refine r_aload_n K dX6_isBalanced_0 0 rfl rfl ?_
  refine r_iconst (v := nI 0) K dX6_isBalanced_1 (by decide) ?_
  refine r_put K fd_X6_97 rfl rfl rfl rfl (Nat.le_of_ble_eq_true rfl) rfl dX6_isBalanced_2 ?_
  refine r_mu (u_20_37) ?_
  show WW g z 1 0 0 ad (Wz z ad σ (su τ 72 0 0 0) o) 5 [(0, .ref (ad 20 0))] []
  refine r_aload_n K dX6_isBalanced_5 0 rfl rfl ?_
  refine r_get (v := .int (nI (τ 12 1 0))) K fd_X6_148 rfl rfl rfl dX6_isBalanced_6 ?_
  refine r_aload_n K dX6_isBalanced_9 0 rfl rfl ?_
  refine r_callV (st := [.int (nI (τ 12 1 0))]) K (k_X6_held hl I) cw_X6_158 wd_1545 wd_31 (by decide) (by decide) rfl rfl rfl rfl (Nat.le_of_ble_eq_true rfl) (by decide) (by decide) dX6_isBalanced_10 ?_
  rintro _ _ _ ⟨rfl, rfl, rfl⟩
  rw [hld_72]
  show WW g z 1 0 0 ad (Wz z ad σ (su τ 72 0 0 0) o) 13 [(0, .ref (ad 20 0))] [.int (nI (hld τ 0 (τ 0 0 0))), .int (nI (τ 12 1 0))]
  refine r_aload_n K dX6_isBalanced_13 0 rfl rfl ?_
  refine r_get (v := .int (nI (τ 6 0 0))) K fd_X6_151 rfl rfl rfl dX6_isBalanced_14 ?_
  refine r_iadd (v := nI ((hld τ 0 (τ 0 0 0)) + (τ 6 0 0))) K dX6_isBalanced_17 (nI_add _ _) ?_
  refine r_eq (st' := [.int (nI (hld τ 0 6 + τ 6 0 0)), .int (nI (τ 12 1 0))]) rfl rfl rfl (by rw [hld_ge Q.2.1.2 6 q0]) ?_
  refine r_icmp_ne K dX6_isBalanced_18 25 (nI (τ 12 1 0) = nI (hld τ 0 6 + τ 6 0 0)) Iff.rfl (by decide) (fun c_18 => ?_) (fun c_18 => ?_)
  · skip
    refine r_iconst (v := nI 0) K dX6_isBalanced_25 (by decide) ?_
    exact r_zret K (by first | rfl | decide | exact pI_nar) (by decide) (by decide) (okM_r Q2 rfl (pI_f c_18)) dX6_isBalanced_26
  · skip
    refine r_iconst (v := nI 1) K dX6_isBalanced_21 (by decide) ?_
    refine r_goto K dX6_isBalanced_22 26 (by decide) ?_
    exact r_zret K (by first | rfl | decide | exact pI_nar) (by decide) (by decide) (okM_r Q2 rfl (pI_t c_18)) dX6_isBalanced_26
set_option maxRecDepth 100000 in
set_option maxHeartbeats 4000000 in
theorem k_X6_deep {z : Zx} {l : Launch} {σ τ : Sg} {o : Int64 × UInt64} {ad : Nm} (hl : l.stackTraces = false) {x y : Int32} (Q : IR τ) (Q2 : IMo τ) : Ko z l yX6_deep cX6_deep 3 (some .int) 6 0 0 [.ref (ad 20 0), .int (x), .int (y)] ad (Wz z ad σ τ o) (okM z ad σ o Value.int (cC τ x y) (nI (dpC τ (jN x) (jN y) (τ 4 (jN x) 0))) τ) exNo := by
  refine ko_of hl (by decide +kernel) (Nat.le_of_ble_eq_true rfl) (fun g hg K => ?_)
  subst hg
  have I := Q.1
  have q0 := I.1.1
  have q1 := I.1.2.1
  have q2 := I.1.2.2.1
  have q3 := I.1.2.2.2.1
  have q4 := I.1.2.2.2.2.1
  show WW g z 3 0 0 ad (Wz z ad σ τ o) 0 [(0, .ref (ad 20 0)), (1, .int (x)), (2, .int (y))] []
  refine r_aload_n K dX6_deep_0 0 rfl rfl ?_
  refine r_aload_n K dX6_deep_1 0 rfl rfl ?_
  refine r_iload_n K dX6_deep_2 1 rfl rfl ?_
  refine r_iload_n K dX6_deep_3 2 rfl rfl ?_
  refine r_callV (st := [.ref (ad 20 0)]) K (k_X6_isNoCell (x := x) (y := y) hl I) cw_X6_168 wd_1561 wd_33 (by decide) (by decide) rfl rfl rfl rfl (Nat.le_of_ble_eq_true rfl) (by decide) (by decide) dX6_deep_4 ?_
  rintro _ _ _ ⟨rfl, rfl, rfl⟩
  show WW g z 3 0 0 ad (Wz z ad σ τ o) 7 [(0, .ref (ad 20 0)), (1, .int (x)), (2, .int (y))] [.int (pI (¬ (in0 x (τ 0 0 0) ∧ in0 y (τ 1 (jN x) 6)))), .ref (ad 20 0)]
  refine r_if_eq K dX6_deep_7 14 ((in0 x (τ 0 0 0) ∧ in0 y (τ 1 (jN x) 6))) pI_n0 (by decide) (fun c_7 => ?_) (fun c_7 => ?_)
  · skip
    have c1 := c_7.1
    have c2 := c_7.2
    obtain ⟨b, hb, rfl⟩ := (in0_iff (by omega)).mp c1
    obtain ⟨-, -, -, hs, hs5, hs7⟩ := I.2.1 b hb
    have q8 := hs.2.1
    rw [jN_n (by omega)] at c2
    obtain ⟨c, hc, rfl⟩ := (in0_iff (by omega)).mp c2
    refine r_iconst (v := nI 0) K dX6_deep_14 (by decide) ?_
    refine r_callV (st := []) K (k_X6_fails (c := 0) hl (by omega)) cw_X6_114 wd_1438 wd_24 (by decide) (by decide) rfl rfl rfl rfl (Nat.le_of_ble_eq_true rfl) (by decide) (by decide) dX6_deep_15 ?_
    rintro _ _ _ ⟨rfl, rfl, rfl⟩
    show WW g z 3 0 0 ad (Wz z ad σ (su τ 72 0 0 0) o) 18 [(0, .ref (ad 20 0)), (1, .int (nI b)), (2, .int (nI c))] [.int (nI 0)]
    refine r_if_eq K dX6_deep_18 25 (0 = 0) (n0_eq (by omega)) (by decide) (fun c_18 => ?_) (fun c_18 => ?_)
    · skip
      refine r_aload_n K dX6_deep_25 0 rfl rfl ?_
      refine r_iload_n K dX6_deep_26 1 rfl rfl ?_
      refine r_iload_n K dX6_deep_27 2 rfl rfl ?_
      refine r_aload_n K dX6_deep_28 0 rfl rfl ?_
      refine r_get (v := .ref (ad 21 10)) K fd_X6_37 rfl rfl rfl dX6_deep_29 ?_
      refine r_iload_n K dX6_deep_32 1 rfl rfl ?_
      refine r_iald (j := b) (v := nI (τ 4 b 0)) K rfl rfl rfl (by omega) (by decide) rfl dX6_deep_33 ?_
      refine r_callV (st := []) K (k_X6_depth (b := b) (c := c) (v := τ 4 b 0) hl I (by first | exact hb | exact hk | exact hj | exact hw | omega | assumption) (by first | exact hb | exact hk | exact hj | exact hw | omega | assumption) (by have := (Q.2.1.1 b).2; omega)) cw_X6_172 wd_1565 wd_34 (by decide) (by decide) rfl rfl rfl rfl (Nat.le_of_ble_eq_true rfl) (by decide) (by decide) dX6_deep_34 ?_
      rintro _ _ _ ⟨rfl, rfl, rfl⟩
      show WW g z 3 0 0 ad (Wz z ad σ (su τ 72 0 0 0) o) 37 [(0, .ref (ad 20 0)), (1, .int (nI b)), (2, .int (nI c))] [.int (nI (dpC τ b c (τ 4 b 0)))]
      exact r_iret K (by decide) (by decide) (okM_r Q2 (Eq.symm (by unfold cC; exact if_pos c_7)) (by rw [jN_n (by omega), jN_n (by omega)])) dX6_deep_37
    · skip
      exfalso; omega
  · skip
    refine r_iconst (v := nI 1) K dX6_deep_10 (by decide) ?_
    refine r_goto K dX6_deep_11 15 (by decide) ?_
    refine r_callV (st := []) K (k_X6_fails (c := 1) hl (by omega)) cw_X6_114 wd_1438 wd_24 (by decide) (by decide) rfl rfl rfl rfl (Nat.le_of_ble_eq_true rfl) (by decide) (by decide) dX6_deep_15 ?_
    rintro _ _ _ ⟨rfl, rfl, rfl⟩
    show WW g z 3 0 0 ad (Wz z ad σ (su τ 72 0 0 1) o) 18 [(0, .ref (ad 20 0)), (1, .int (x)), (2, .int (y))] [.int (nI 1)]
    refine r_if_eq K dX6_deep_18 25 (1 = 0) (n0_eq (by omega)) (by decide) (fun c_18 => ?_) (fun c_18 => ?_)
    · skip
      exfalso; omega
    · skip
      refine r_iconst (v := nI 0) K dX6_deep_21 (by decide) ?_
      refine r_goto K dX6_deep_22 37 (by decide) ?_
      exact r_iret K (by decide) (by decide) (okM_f (c := 0) Q2 (by unfold cC; exact (if_neg c_7).symm)) dX6_deep_37
