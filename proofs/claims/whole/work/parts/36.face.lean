set_option maxRecDepth 100000 in
set_option maxHeartbeats 4000000 in
theorem k_X5_basinCount {z : Zx} {l : Launch} {σ τ : Sg} {o : Int64 × UInt64} {ad : Nm} (hl : l.stackTraces = false) (Q : IR σ) (C : ICo σ) : Ko z l yX5_basinCount cX5_basinCount 1 (some .int) 8 0 0 [.ref (ad 0 0)] ad (Wz z ad σ τ o) (okC z ad τ o 0 (.int (nI (σ 0 0 0))) (σ)) exNo := by
  refine ko_of hl (by decide +kernel) (Nat.le_of_ble_eq_true rfl) (fun g hg K => ?_)
  subst hg
  have I := Q.1
  have L := C.1
  have D := C.2.1
  have q0 := I.1.1
  have q1 := I.1.2.1
  have q2 := I.1.2.2.1
  have q3 := I.1.2.2.2.1
  have q5 := Q.2.1
  show WW g z 1 0 0 ad (Wz z ad σ τ o) 0 [(0, .ref (ad 0 0))] []
  refine r_aload_n K dX5_basinCount_0 0 rfl rfl ?_
  refine r_get (v := .ref (ad 1 0)) K fd_X5_10 rfl rfl rfl dX5_basinCount_1 ?_
  refine r_callV (st := []) K (k_Jx4a65c_size_8abf5 (l0 := 0) hl (by decide)) cw_X5_39 wd_206 wd_207 (by decide) (by decide) (W_1 (by first | exact hb | exact hk | exact hj | exact hw | omega | assumption)) rfl rfl rfl (Nat.le_of_ble_eq_true rfl) (by decide) (by decide) dX5_basinCount_4 ?_
  rintro _ _ _ ⟨rfl, rfl, rfl⟩
  show WW g z 1 0 0 ad (Wz z ad σ τ o) 7 [(0, .ref (ad 0 0))] [.int (nI (σ 0 0 0))]
  exact r_iret K (by decide) (by decide) (okC_rd C rfl rfl) dX5_basinCount_7
set_option maxRecDepth 100000 in
set_option maxHeartbeats 4000000 in
theorem k_X5_ruleCount {z : Zx} {l : Launch} {σ τ : Sg} {o : Int64 × UInt64} {ad : Nm} (hl : l.stackTraces = false) (Q : IR σ) (C : ICo σ) : Ko z l yX5_ruleCount cX5_ruleCount 1 (some .int) 8 0 0 [.ref (ad 0 0)] ad (Wz z ad σ τ o) (okC z ad τ o 0 (.int (nI (σ 0 1 0))) (σ)) exNo := by
  refine ko_of hl (by decide +kernel) (Nat.le_of_ble_eq_true rfl) (fun g hg K => ?_)
  subst hg
  have I := Q.1
  have L := C.1
  have D := C.2.1
  have q0 := I.1.1
  have q1 := I.1.2.1
  have q2 := I.1.2.2.1
  have q3 := I.1.2.2.2.1
  have q5 := Q.2.1
  show WW g z 1 0 0 ad (Wz z ad σ τ o) 0 [(0, .ref (ad 0 0))] []
  refine r_aload_n K dX5_ruleCount_0 0 rfl rfl ?_
  refine r_get (v := .ref (ad 1 1)) K fd_X5_16 rfl rfl rfl dX5_ruleCount_1 ?_
  refine r_callV (st := []) K (k_Jx4a65c_size_8abf5 (l0 := 1) hl (by decide)) cw_X5_39 wd_206 wd_207 (by decide) (by decide) (W_1 (by first | exact hb | exact hk | exact hj | exact hw | omega | assumption)) rfl rfl rfl (Nat.le_of_ble_eq_true rfl) (by decide) (by decide) dX5_ruleCount_4 ?_
  rintro _ _ _ ⟨rfl, rfl, rfl⟩
  show WW g z 1 0 0 ad (Wz z ad σ τ o) 7 [(0, .ref (ad 0 0))] [.int (nI (σ 0 1 0))]
  exact r_iret K (by decide) (by decide) (okC_rd C rfl rfl) dX5_ruleCount_7
set_option maxRecDepth 100000 in
set_option maxHeartbeats 4000000 in
theorem k_X5_houseCount {z : Zx} {l : Launch} {σ τ : Sg} {o : Int64 × UInt64} {ad : Nm} (hl : l.stackTraces = false) (Q : IR σ) (C : ICo σ) : Ko z l yX5_houseCount cX5_houseCount 1 (some .int) 8 0 0 [.ref (ad 0 0)] ad (Wz z ad σ τ o) (okC z ad τ o 0 (.int (nI (σ 0 2 0))) (σ)) exNo := by
  refine ko_of hl (by decide +kernel) (Nat.le_of_ble_eq_true rfl) (fun g hg K => ?_)
  subst hg
  have I := Q.1
  have L := C.1
  have D := C.2.1
  have q0 := I.1.1
  have q1 := I.1.2.1
  have q2 := I.1.2.2.1
  have q3 := I.1.2.2.2.1
  have q5 := Q.2.1
  show WW g z 1 0 0 ad (Wz z ad σ τ o) 0 [(0, .ref (ad 0 0))] []
  refine r_aload_n K dX5_houseCount_0 0 rfl rfl ?_
  refine r_get (v := .ref (ad 1 2)) K fd_X5_19 rfl rfl rfl dX5_houseCount_1 ?_
  refine r_callV (st := []) K (k_Jx4a65c_size_8abf5 (l0 := 2) hl (by decide)) cw_X5_39 wd_206 wd_207 (by decide) (by decide) (W_1 (by first | exact hb | exact hk | exact hj | exact hw | omega | assumption)) rfl rfl rfl (Nat.le_of_ble_eq_true rfl) (by decide) (by decide) dX5_houseCount_4 ?_
  rintro _ _ _ ⟨rfl, rfl, rfl⟩
  show WW g z 1 0 0 ad (Wz z ad σ τ o) 7 [(0, .ref (ad 0 0))] [.int (nI (σ 0 2 0))]
  exact r_iret K (by decide) (by decide) (okC_rd C rfl rfl) dX5_houseCount_7
set_option maxRecDepth 100000 in
set_option maxHeartbeats 4000000 in
theorem k_X5_clock {z : Zx} {l : Launch} {σ τ : Sg} {o : Int64 × UInt64} {ad : Nm} (hl : l.stackTraces = false) (Q : IR σ) (C : ICo σ) : Ko z l yX5_clock cX5_clock 1 (some .int) 8 0 0 [.ref (ad 0 0)] ad (Wz z ad σ τ o) (okC z ad τ o 0 (.int (nI (σ 12 0 0))) (σ)) exNo := by
  refine ko_of hl (by decide +kernel) (Nat.le_of_ble_eq_true rfl) (fun g hg K => ?_)
  subst hg
  have I := Q.1
  have L := C.1
  have D := C.2.1
  have q0 := I.1.1
  have q1 := I.1.2.1
  have q2 := I.1.2.2.1
  have q3 := I.1.2.2.2.1
  have q5 := Q.2.1
  show WW g z 1 0 0 ad (Wz z ad σ τ o) 0 [(0, .ref (ad 0 0))] []
  refine r_aload_n K dX5_clock_0 0 rfl rfl ?_
  refine r_get (v := .int (nI (σ 12 0 0))) K fd_X5_151 rfl rfl rfl dX5_clock_1 ?_
  exact r_iret K (by decide) (by decide) (okC_rd C rfl rfl) dX5_clock_4
set_option maxRecDepth 100000 in
set_option maxHeartbeats 4000000 in
theorem k_X5_rainTotal {z : Zx} {l : Launch} {σ τ : Sg} {o : Int64 × UInt64} {ad : Nm} (hl : l.stackTraces = false) (Q : IR σ) (C : ICo σ) : Ko z l yX5_rainTotal cX5_rainTotal 1 (some .int) 8 0 0 [.ref (ad 0 0)] ad (Wz z ad σ τ o) (okC z ad τ o 0 (.int (nI (σ 12 1 0))) (σ)) exNo := by
  refine ko_of hl (by decide +kernel) (Nat.le_of_ble_eq_true rfl) (fun g hg K => ?_)
  subst hg
  have I := Q.1
  have L := C.1
  have D := C.2.1
  have q0 := I.1.1
  have q1 := I.1.2.1
  have q2 := I.1.2.2.1
  have q3 := I.1.2.2.2.1
  have q5 := Q.2.1
  show WW g z 1 0 0 ad (Wz z ad σ τ o) 0 [(0, .ref (ad 0 0))] []
  refine r_aload_n K dX5_rainTotal_0 0 rfl rfl ?_
  refine r_get (v := .int (nI (σ 12 1 0))) K fd_X5_169 rfl rfl rfl dX5_rainTotal_1 ?_
  exact r_iret K (by decide) (by decide) (okC_rd C rfl rfl) dX5_rainTotal_4
set_option maxRecDepth 100000 in
set_option maxHeartbeats 4000000 in
theorem k_X5_riverTotal {z : Zx} {l : Launch} {σ τ : Sg} {o : Int64 × UInt64} {ad : Nm} (hl : l.stackTraces = false) (Q : IR σ) (C : ICo σ) : Ko z l yX5_riverTotal cX5_riverTotal 1 (some .int) 8 0 0 [.ref (ad 0 0)] ad (Wz z ad σ τ o) (okC z ad τ o 0 (.int (nI (σ 6 0 0))) (σ)) exNo := by
  refine ko_of hl (by decide +kernel) (Nat.le_of_ble_eq_true rfl) (fun g hg K => ?_)
  subst hg
  have I := Q.1
  have L := C.1
  have D := C.2.1
  have q0 := I.1.1
  have q1 := I.1.2.1
  have q2 := I.1.2.2.1
  have q3 := I.1.2.2.2.1
  have q5 := Q.2.1
  show WW g z 1 0 0 ad (Wz z ad σ τ o) 0 [(0, .ref (ad 0 0))] []
  refine r_aload_n K dX5_riverTotal_0 0 rfl rfl ?_
  refine r_get (v := .ref (ad 3 0)) K fd_X5_25 rfl rfl rfl dX5_riverTotal_1 ?_
  refine r_get (v := .int (nI (σ 6 0 0))) K fd_X5_172 (W_3 (by first | exact hb | exact hk | exact hj | exact hw | omega | assumption)) rfl rfl dX5_riverTotal_4 ?_
  exact r_iret K (by decide) (by decide) (okC_rd C rfl rfl) dX5_riverTotal_7
set_option maxRecDepth 100000 in
set_option maxHeartbeats 4000000 in
theorem k_X5_heldTotal {z : Zx} {l : Launch} {σ τ : Sg} {o : Int64 × UInt64} {ad : Nm} (hl : l.stackTraces = false) (Q : IR σ) (C : ICo σ) : Ko z l yX5_heldTotal cX5_heldTotal 1 (some .int) 8 0 0 [.ref (ad 0 0)] ad (Wz z ad σ τ o) (okC z ad τ o 0 (.int (nI (hld σ 0 6))) (σ)) exNo := by
  refine ko_of hl (by decide +kernel) (Nat.le_of_ble_eq_true rfl) (fun g hg K => ?_)
  subst hg
  have I := Q.1
  have L := C.1
  have D := C.2.1
  have q0 := I.1.1
  have q1 := I.1.2.1
  have q2 := I.1.2.2.1
  have q3 := I.1.2.2.2.1
  have q5 := Q.2.1
  show WW g z 1 0 0 ad (Wz z ad σ τ o) 0 [(0, .ref (ad 0 0))] []
  refine r_aload_n K dX5_heldTotal_0 0 rfl rfl ?_
  refine r_get (v := .ref (ad 3 0)) K fd_X5_25 rfl rfl rfl dX5_heldTotal_1 ?_
  refine r_callV (st := []) K (k_X4_held (w := 0) hl (by decide)) cw_X5_175 wd_230 wd_231 (by decide) (by decide) (W_3 (by first | exact hb | exact hk | exact hj | exact hw | omega | assumption)) rfl rfl rfl (Nat.le_of_ble_eq_true rfl) (by decide) (by decide) dX5_heldTotal_4 ?_
  rintro _ _ _ ⟨rfl, rfl, rfl⟩
  show WW g z 1 0 0 ad (Wz z ad σ τ o) 7 [(0, .ref (ad 0 0))] [.int (nI (hld σ 0 6))]
  exact r_iret K (by decide) (by decide) (okC_rd C rfl rfl) dX5_heldTotal_7
set_option maxRecDepth 100000 in
set_option maxHeartbeats 4000000 in
theorem k_X5_floodedSoFar {z : Zx} {l : Launch} {σ τ : Sg} {o : Int64 × UInt64} {ad : Nm} (hl : l.stackTraces = false) (Q : IR σ) (C : ICo σ) : Ko z l yX5_floodedSoFar cX5_floodedSoFar 1 (some .int) 8 0 0 [.ref (ad 0 0)] ad (Wz z ad σ τ o) (okC z ad τ o 0 (.int (nI (σ 31 0 0))) (σ)) exNo := by
  refine ko_of hl (by decide +kernel) (Nat.le_of_ble_eq_true rfl) (fun g hg K => ?_)
  subst hg
  have I := Q.1
  have L := C.1
  have D := C.2.1
  have q0 := I.1.1
  have q1 := I.1.2.1
  have q2 := I.1.2.2.1
  have q3 := I.1.2.2.2.1
  have q5 := Q.2.1
  show WW g z 1 0 0 ad (Wz z ad σ τ o) 0 [(0, .ref (ad 0 0))] []
  refine r_aload_n K dX5_floodedSoFar_0 0 rfl rfl ?_
  refine r_get (v := .int (nI (σ 31 0 0))) K fd_X5_203 rfl rfl rfl dX5_floodedSoFar_1 ?_
  exact r_iret K (by decide) (by decide) (okC_rd C rfl rfl) dX5_floodedSoFar_4
set_option maxRecDepth 100000 in
set_option maxHeartbeats 4000000 in
theorem k_X5_cellCount {z : Zx} {l : Launch} {σ τ : Sg} {o : Int64 × UInt64} {ad : Nm} (hl : l.stackTraces = false) {x : Int32} (Q : IR σ) (C : ICo σ) : Ko z l yX5_cellCount cX5_cellCount 2 (some .int) 8 1 6 [.ref (ad 0 0), .int (x)] ad (Wz z ad σ τ o) (okC z ad τ o (cB σ x) (.int (nI (σ 1 (jN x) 6))) (σ)) (exT (cB σ x) ["java/lang/IndexOutOfBoundsException"]) := by
  refine ko_of hl (by decide +kernel) (Nat.le_of_ble_eq_true rfl) (fun g hg K => ?_)
  subst hg
  have I := Q.1
  have L := C.1
  have D := C.2.1
  have q0 := I.1.1
  have q1 := I.1.2.1
  have q2 := I.1.2.2.1
  have q3 := I.1.2.2.2.1
  have q5 := Q.2.1
  show WW g z 2 0 0 ad (Wz z ad σ τ o) 0 [(0, .ref (ad 0 0)), (1, .int (x))] []
  refine r_aload_n K dX5_cellCount_0 0 rfl rfl ?_
  refine r_iload_n K dX5_cellCount_1 1 rfl rfl ?_
  refine r_callVx (st := []) K (k_X5_basinOf (x := x) hl I L) (fun E h => ⟨0, by unfold cB; exact if_neg h.2, by rw [h.1]; rfl⟩) cw_X5_80 wd_603 wd_11 (by decide) (by decide) rfl rfl rfl rfl (Nat.le_of_ble_eq_true rfl) (by decide) (by decide) dX5_cellCount_2 ?_
  rintro _ _ _ ⟨b, hb, rfl, rfl, rfl, rfl⟩
  have q_2 : in0 (nI b) (σ 0 0 0) := (in0_iff (by omega)).mpr ⟨b, hb, rfl⟩
  obtain ⟨-, -, -, hs, hs5, hs7⟩ := I.2.1 b hb
  have q8 := hs.2.1
  show WW g z 2 1 6 ad (Wz z ad σ τ o) 5 [(0, .ref (ad 0 0)), (1, .int (nI b))] [.ref (ad 9 b)]
  refine r_get (v := .ref (ad 12 b)) K fd_X5_84 (W_9 (by first | exact hb | exact hk | exact hj | exact hw | omega | assumption)) rfl rfl dX5_cellCount_5 ?_
  refine r_get (v := .int (nI (σ 1 b 6))) K fd_X5_88 (W_12 (by first | exact hb | exact hk | exact hj | exact hw | omega | assumption)) rfl rfl dX5_cellCount_8 ?_
  exact r_iret K (by decide) (by decide) (okC_rd C (by unfold cB; exact if_pos q_2) (by rw [jN_n (by omega)])) dX5_cellCount_11
set_option maxRecDepth 100000 in
set_option maxHeartbeats 4000000 in
theorem k_X5_capacityOf {z : Zx} {l : Launch} {σ τ : Sg} {o : Int64 × UInt64} {ad : Nm} (hl : l.stackTraces = false) {x : Int32} (Q : IR σ) (C : ICo σ) : Ko z l yX5_capacityOf cX5_capacityOf 2 (some .int) 8 1 6 [.ref (ad 0 0), .int (x)] ad (Wz z ad σ τ o) (okC z ad τ o (cB σ x) (.int (nI (σ 1 (jN x) 0 * σ 1 (jN x) 1))) (σ)) (exT (cB σ x) ["java/lang/IndexOutOfBoundsException"]) := by
  refine ko_of hl (by decide +kernel) (Nat.le_of_ble_eq_true rfl) (fun g hg K => ?_)
  subst hg
  have I := Q.1
  have L := C.1
  have D := C.2.1
  have q0 := I.1.1
  have q1 := I.1.2.1
  have q2 := I.1.2.2.1
  have q3 := I.1.2.2.2.1
  have q5 := Q.2.1
  show WW g z 2 0 0 ad (Wz z ad σ τ o) 0 [(0, .ref (ad 0 0)), (1, .int (x))] []
  refine r_aload_n K dX5_capacityOf_0 0 rfl rfl ?_
  refine r_iload_n K dX5_capacityOf_1 1 rfl rfl ?_
  refine r_callVx (st := []) K (k_X5_basinOf (x := x) hl I L) (fun E h => ⟨0, by unfold cB; exact if_neg h.2, by rw [h.1]; rfl⟩) cw_X5_80 wd_603 wd_11 (by decide) (by decide) rfl rfl rfl rfl (Nat.le_of_ble_eq_true rfl) (by decide) (by decide) dX5_capacityOf_2 ?_
  rintro _ _ _ ⟨b, hb, rfl, rfl, rfl, rfl⟩
  have q_2 : in0 (nI b) (σ 0 0 0) := (in0_iff (by omega)).mpr ⟨b, hb, rfl⟩
  obtain ⟨-, -, -, hs, hs5, hs7⟩ := I.2.1 b hb
  have q8 := hs.2.1
  show WW g z 2 1 6 ad (Wz z ad σ τ o) 5 [(0, .ref (ad 0 0)), (1, .int (nI b))] [.ref (ad 9 b)]
  refine r_callV (st := []) K (k_X0_capacity (b := b) hl (by first | exact hb | exact hk | exact hj | exact hw | omega | assumption)) cw_X5_99 wd_305 wd_306 (by decide) (by decide) (W_9 (by first | exact hb | exact hk | exact hj | exact hw | omega | assumption)) rfl rfl rfl (Nat.le_of_ble_eq_true rfl) (by decide) (by decide) dX5_capacityOf_5 ?_
  rintro _ _ _ ⟨rfl, rfl, rfl⟩
  show WW g z 2 1 6 ad (Wz z ad σ τ o) 8 [(0, .ref (ad 0 0)), (1, .int (nI b))] [.int (nI (σ 1 b 0 * σ 1 b 1))]
  exact r_iret K (by decide) (by decide) (okC_rd C (by unfold cB; exact if_pos q_2) (by rw [jN_n (by omega)])) dX5_capacityOf_8
set_option maxRecDepth 100000 in
set_option maxHeartbeats 4000000 in
theorem k_X5_openingNow {z : Zx} {l : Launch} {σ τ : Sg} {o : Int64 × UInt64} {ad : Nm} (hl : l.stackTraces = false) {x : Int32} (Q : IR σ) (C : ICo σ) : Ko z l yX5_openingNow cX5_openingNow 2 (some .int) 8 1 6 [.ref (ad 0 0), .int (x)] ad (Wz z ad σ τ o) (okC z ad τ o (cB σ x) (.int (nI (opn (σ 8) (σ 1) (fun i => σ 3 i 0) (jN x) (σ 0 1 0)))) (σ)) (exT (cB σ x) ["java/lang/IndexOutOfBoundsException"]) := by
  refine ko_of hl (by decide +kernel) (Nat.le_of_ble_eq_true rfl) (fun g hg K => ?_)
  subst hg
  have I := Q.1
  have L := C.1
  have D := C.2.1
  have q0 := I.1.1
  have q1 := I.1.2.1
  have q2 := I.1.2.2.1
  have q3 := I.1.2.2.2.1
  have q5 := Q.2.1
  show WW g z 2 0 0 ad (Wz z ad σ τ o) 0 [(0, .ref (ad 0 0)), (1, .int (x))] []
  refine r_aload_n K dX5_openingNow_0 0 rfl rfl ?_
  refine r_iload_n K dX5_openingNow_1 1 rfl rfl ?_
  refine r_callVx (st := []) K (k_X5_requireBasin (x := x) hl) (fun E h => ⟨0, by unfold cB; exact if_neg h.2, by rw [h.1]; rfl⟩) cw_X5_108 wd_607 wd_12 (by decide) (by decide) rfl rfl rfl rfl (Nat.le_of_ble_eq_true rfl) (by decide) (by decide) dX5_openingNow_2 ?_
  rintro _ _ _ ⟨rfl, rfl, rfl, q_2⟩
  obtain ⟨b, hb, rfl⟩ := (in0_iff (by omega)).mp q_2
  show WW g z 2 1 6 ad (Wz z ad σ τ o) 5 [(0, .ref (ad 0 0)), (1, .int (nI b))] []
  refine r_aload_n K dX5_openingNow_5 0 rfl rfl ?_
  refine r_aload_n K dX5_openingNow_6 0 rfl rfl ?_
  refine r_get (v := .ref (ad 3 0)) K fd_X5_25 rfl rfl rfl dX5_openingNow_7 ?_
  refine r_iload_n K dX5_openingNow_10 1 rfl rfl ?_
  refine r_callV (st := []) K (k_X5_openingBy (w := 0) (b := b) (V := fun i => σ 3 i 0) hl (by decide) I L (by first | exact hb | exact hk | exact hj | exact hw | omega | assumption) rfl (fun i => by have := (Q.2.1.1 i).1; omega)) cw_X5_134 wd_286 wd_2 (by decide) (by decide) rfl rfl rfl rfl (Nat.le_of_ble_eq_true rfl) (by decide) (by decide) dX5_openingNow_11 ?_
  rintro _ _ _ ⟨rfl, rfl, rfl⟩
  show WW g z 2 1 6 ad (Wz z ad σ τ o) 14 [(0, .ref (ad 0 0)), (1, .int (nI b))] [.int (nI (opn (σ 8) (σ 1) (fun i => σ 3 i 0) b (σ 0 1 0)))]
  exact r_iret K (by decide) (by decide) (okC_rd C (by unfold cB; exact if_pos q_2) (by rw [jN_n (by omega)])) dX5_openingNow_14
set_option maxRecDepth 100000 in
set_option maxHeartbeats 4000000 in
theorem k_X5_volumeOf {z : Zx} {l : Launch} {σ τ : Sg} {o : Int64 × UInt64} {ad : Nm} (hl : l.stackTraces = false) {x : Int32} (Q : IR σ) (C : ICo σ) : Ko z l yX5_volumeOf cX5_volumeOf 2 (some .int) 8 1 6 [.ref (ad 0 0), .int (x)] ad (Wz z ad σ τ o) (okC z ad τ o (cB σ x) (.int (nI (σ 3 (jN x) 0))) (σ)) (exT (cB σ x) ["java/lang/IndexOutOfBoundsException"]) := by
  refine ko_of hl (by decide +kernel) (Nat.le_of_ble_eq_true rfl) (fun g hg K => ?_)
  subst hg
  have I := Q.1
  have L := C.1
  have D := C.2.1
  have q0 := I.1.1
  have q1 := I.1.2.1
  have q2 := I.1.2.2.1
  have q3 := I.1.2.2.2.1
  have q5 := Q.2.1
  show WW g z 2 0 0 ad (Wz z ad σ τ o) 0 [(0, .ref (ad 0 0)), (1, .int (x))] []
  refine r_aload_n K dX5_volumeOf_0 0 rfl rfl ?_
  refine r_iload_n K dX5_volumeOf_1 1 rfl rfl ?_
  refine r_callVx (st := []) K (k_X5_requireBasin (x := x) hl) (fun E h => ⟨0, by unfold cB; exact if_neg h.2, by rw [h.1]; rfl⟩) cw_X5_108 wd_607 wd_12 (by decide) (by decide) rfl rfl rfl rfl (Nat.le_of_ble_eq_true rfl) (by decide) (by decide) dX5_volumeOf_2 ?_
  rintro _ _ _ ⟨rfl, rfl, rfl, q_2⟩
  obtain ⟨b, hb, rfl⟩ := (in0_iff (by omega)).mp q_2
  show WW g z 2 1 6 ad (Wz z ad σ τ o) 5 [(0, .ref (ad 0 0)), (1, .int (nI b))] []
  refine r_aload_n K dX5_volumeOf_5 0 rfl rfl ?_
  refine r_get (v := .ref (ad 3 0)) K fd_X5_25 rfl rfl rfl dX5_volumeOf_6 ?_
  refine r_get (v := .ref (ad 4 0)) K fd_X5_159 (W_3 (by first | exact hb | exact hk | exact hj | exact hw | omega | assumption)) rfl rfl dX5_volumeOf_9 ?_
  refine r_iload_n K dX5_volumeOf_12 1 rfl rfl ?_
  refine r_iald (j := b) (v := nI (σ 3 b 0)) K (W_4 (by first | exact hb | exact hk | exact hj | exact hw | omega | assumption)) rfl rfl (by omega) (by decide) rfl dX5_volumeOf_13 ?_
  exact r_iret K (by decide) (by decide) (okC_rd C (by unfold cB; exact if_pos q_2) (by rw [jN_n (by omega)])) dX5_volumeOf_14
set_option maxRecDepth 100000 in
set_option maxHeartbeats 4000000 in
theorem k_X5_levelOf {z : Zx} {l : Launch} {σ τ : Sg} {o : Int64 × UInt64} {ad : Nm} (hl : l.stackTraces = false) {x : Int32} (Q : IR σ) (C : ICo σ) : Ko z l yX5_levelOf cX5_levelOf 2 (some .int) 8 1 6 [.ref (ad 0 0), .int (x)] ad (Wz z ad σ τ o) (okC z ad τ o (cB σ x) (.int (nI (σ 3 (jN x) 0 / σ 1 (jN x) 0))) (σ)) (exT (cB σ x) ["java/lang/IndexOutOfBoundsException"]) := by
  refine ko_of hl (by decide +kernel) (Nat.le_of_ble_eq_true rfl) (fun g hg K => ?_)
  subst hg
  have I := Q.1
  have L := C.1
  have D := C.2.1
  have q0 := I.1.1
  have q1 := I.1.2.1
  have q2 := I.1.2.2.1
  have q3 := I.1.2.2.2.1
  have q5 := Q.2.1
  show WW g z 2 0 0 ad (Wz z ad σ τ o) 0 [(0, .ref (ad 0 0)), (1, .int (x))] []
  refine r_aload_n K dX5_levelOf_0 0 rfl rfl ?_
  refine r_iload_n K dX5_levelOf_1 1 rfl rfl ?_
  refine r_callVx (st := []) K (k_X5_requireBasin (x := x) hl) (fun E h => ⟨0, by unfold cB; exact if_neg h.2, by rw [h.1]; rfl⟩) cw_X5_108 wd_607 wd_12 (by decide) (by decide) rfl rfl rfl rfl (Nat.le_of_ble_eq_true rfl) (by decide) (by decide) dX5_levelOf_2 ?_
  rintro _ _ _ ⟨rfl, rfl, rfl, q_2⟩
  obtain ⟨b, hb, rfl⟩ := (in0_iff (by omega)).mp q_2
  show WW g z 2 1 6 ad (Wz z ad σ τ o) 5 [(0, .ref (ad 0 0)), (1, .int (nI b))] []
  refine r_aload_n K dX5_levelOf_5 0 rfl rfl ?_
  refine r_aload_n K dX5_levelOf_6 0 rfl rfl ?_
  refine r_get (v := .ref (ad 3 0)) K fd_X5_25 rfl rfl rfl dX5_levelOf_7 ?_
  refine r_iload_n K dX5_levelOf_10 1 rfl rfl ?_
  refine r_callV (st := []) K (k_X5_levelBy (w := 0) (b := b) (V := fun i => σ 3 i 0) hl (by decide) I L (by first | exact hb | exact hk | exact hj | exact hw | omega | assumption) rfl (fun i => by have := (Q.2.1.1 i).1; omega)) cw_X5_163 wd_295 wd_4 (by decide) (by decide) rfl rfl rfl rfl (Nat.le_of_ble_eq_true rfl) (by decide) (by decide) dX5_levelOf_11 ?_
  rintro _ _ _ ⟨rfl, rfl, rfl⟩
  show WW g z 2 1 6 ad (Wz z ad σ τ o) 14 [(0, .ref (ad 0 0)), (1, .int (nI b))] [.int (nI (σ 3 b 0 / σ 1 b 0))]
  exact r_iret K (by decide) (by decide) (okC_rd C (by unfold cB; exact if_pos q_2) (by rw [jN_n (by omega)])) dX5_levelOf_14
set_option maxRecDepth 100000 in
set_option maxHeartbeats 4000000 in
theorem k_X5_streetVolume {z : Zx} {l : Launch} {σ τ : Sg} {o : Int64 × UInt64} {ad : Nm} (hl : l.stackTraces = false) {x : Int32} (Q : IR σ) (C : ICo σ) : Ko z l yX5_streetVolume cX5_streetVolume 2 (some .int) 8 1 6 [.ref (ad 0 0), .int (x)] ad (Wz z ad σ τ o) (okC z ad τ o (cB σ x) (.int (nI (σ 4 (jN x) 0))) (σ)) (exT (cB σ x) ["java/lang/IndexOutOfBoundsException"]) := by
  refine ko_of hl (by decide +kernel) (Nat.le_of_ble_eq_true rfl) (fun g hg K => ?_)
  subst hg
  have I := Q.1
  have L := C.1
  have D := C.2.1
  have q0 := I.1.1
  have q1 := I.1.2.1
  have q2 := I.1.2.2.1
  have q3 := I.1.2.2.2.1
  have q5 := Q.2.1
  show WW g z 2 0 0 ad (Wz z ad σ τ o) 0 [(0, .ref (ad 0 0)), (1, .int (x))] []
  refine r_aload_n K dX5_streetVolume_0 0 rfl rfl ?_
  refine r_iload_n K dX5_streetVolume_1 1 rfl rfl ?_
  refine r_callVx (st := []) K (k_X5_requireBasin (x := x) hl) (fun E h => ⟨0, by unfold cB; exact if_neg h.2, by rw [h.1]; rfl⟩) cw_X5_108 wd_607 wd_12 (by decide) (by decide) rfl rfl rfl rfl (Nat.le_of_ble_eq_true rfl) (by decide) (by decide) dX5_streetVolume_2 ?_
  rintro _ _ _ ⟨rfl, rfl, rfl, q_2⟩
  obtain ⟨b, hb, rfl⟩ := (in0_iff (by omega)).mp q_2
  show WW g z 2 1 6 ad (Wz z ad σ τ o) 5 [(0, .ref (ad 0 0)), (1, .int (nI b))] []
  refine r_aload_n K dX5_streetVolume_5 0 rfl rfl ?_
  refine r_get (v := .ref (ad 3 0)) K fd_X5_25 rfl rfl rfl dX5_streetVolume_6 ?_
  refine r_get (v := .ref (ad 5 0)) K fd_X5_166 (W_3 (by first | exact hb | exact hk | exact hj | exact hw | omega | assumption)) rfl rfl dX5_streetVolume_9 ?_
  refine r_iload_n K dX5_streetVolume_12 1 rfl rfl ?_
  refine r_iald (j := b) (v := nI (σ 4 b 0)) K (W_5 (by first | exact hb | exact hk | exact hj | exact hw | omega | assumption)) rfl rfl (by omega) (by decide) rfl dX5_streetVolume_13 ?_
  exact r_iret K (by decide) (by decide) (okC_rd C (by unfold cB; exact if_pos q_2) (by rw [jN_n (by omega)])) dX5_streetVolume_14
set_option maxRecDepth 100000 in
set_option maxHeartbeats 4000000 in
theorem k_X5_doesHold {z : Zx} {l : Launch} {σ τ : Sg} {o : Int64 × UInt64} {ad : Nm} (hl : l.stackTraces = false) {x : Int32} (Q : IR σ) (C : ICo σ) : Ko z l yX5_doesHold cX5_doesHold 2 (some .boolean) 8 1 6 [.ref (ad 0 0), .int (x)] ad (Wz z ad σ τ o) (okC z ad τ o (cR σ x) (.int (nI (hldN (σ 8) (σ 1) (fun i => σ 3 i 0) (jN x)))) (σ)) (exT (cR σ x) ["java/lang/IndexOutOfBoundsException"]) := by
  refine ko_of hl (by decide +kernel) (Nat.le_of_ble_eq_true rfl) (fun g hg K => ?_)
  subst hg
  have I := Q.1
  have L := C.1
  have D := C.2.1
  have q0 := I.1.1
  have q1 := I.1.2.1
  have q2 := I.1.2.2.1
  have q3 := I.1.2.2.2.1
  have q5 := Q.2.1
  show WW g z 2 0 0 ad (Wz z ad σ τ o) 0 [(0, .ref (ad 0 0)), (1, .int (x))] []
  refine r_aload_n K dX5_doesHold_0 0 rfl rfl ?_
  refine r_iload_n K dX5_doesHold_1 1 rfl rfl ?_
  refine r_callVx (st := []) K (k_X5_requireRule (x := x) hl) (fun E h => ⟨0, by unfold cR; exact if_neg h.2, by rw [h.1]; rfl⟩) cw_X5_120 wd_693 wd_15 (by decide) (by decide) rfl rfl rfl rfl (Nat.le_of_ble_eq_true rfl) (by decide) (by decide) dX5_doesHold_2 ?_
  rintro _ _ _ ⟨rfl, rfl, rfl, q_2⟩
  obtain ⟨j, hj, rfl⟩ := (in0_iff (by omega)).mp q_2
  show WW g z 2 1 6 ad (Wz z ad σ τ o) 5 [(0, .ref (ad 0 0)), (1, .int (nI j))] []
  refine r_aload_n K dX5_doesHold_5 0 rfl rfl ?_
  refine r_aload_n K dX5_doesHold_6 0 rfl rfl ?_
  refine r_get (v := .ref (ad 3 0)) K fd_X5_25 rfl rfl rfl dX5_doesHold_7 ?_
  refine r_aload_n K dX5_doesHold_10 0 rfl rfl ?_
  refine r_get (v := .ref (ad 1 1)) K fd_X5_16 rfl rfl rfl dX5_doesHold_11 ?_
  refine r_iload_n K dX5_doesHold_14 1 rfl rfl ?_
  refine r_callV (st := [.ref (ad 3 0), .ref (ad 0 0)]) K (k_Jx4a65c_get_915e3 (l0 := 1) (i := j) hl (by decide) L (by first | exact hb | exact hk | exact hj | exact hw | omega | assumption)) cw_X5_127 wd_250 wd_251 (by decide) (by decide) (W_1 (by first | exact hb | exact hk | exact hj | exact hw | omega | assumption)) rfl rfl rfl (Nat.le_of_ble_eq_true rfl) (by decide) (by decide) dX5_doesHold_15 ?_
  rintro _ _ _ ⟨rfl, rfl, rfl⟩
  show WW g z 2 1 6 ad (Wz z ad σ τ o) 18 [(0, .ref (ad 0 0)), (1, .int (nI j))] [.ref (ad 10 j), .ref (ad 3 0), .ref (ad 0 0)]
  refine r_castS K wd_288 rfl (W_10 (by first | exact hb | exact hk | exact hj | exact hw | omega | assumption)) rfl dX5_doesHold_18 ?_
  refine r_callV (st := []) K (k_X5_holdsBy (w := 0) (j := j) (V := fun i => σ 3 i 0) hl (by decide) I L (by first | exact hb | exact hk | exact hj | exact hw | omega | assumption) rfl (fun i => by have := (Q.2.1.1 i).1; omega)) cw_X5_130 wd_291 wd_3 (by decide) (by decide) rfl rfl rfl rfl (Nat.le_of_ble_eq_true rfl) (by decide) (by decide) dX5_doesHold_21 ?_
  rintro _ _ _ ⟨rfl, rfl, rfl⟩
  show WW g z 2 1 6 ad (Wz z ad σ τ o) 24 [(0, .ref (ad 0 0)), (1, .int (nI j))] [.int (nI (hldN (σ 8) (σ 1) (fun i => σ 3 i 0) j))]
  exact r_zret K (nrZ (hldN_le _ _ _ _)) (by decide) (by decide) (okC_rd C (by unfold cR; exact if_pos q_2) (by rw [jN_n (by omega)])) dX5_doesHold_24
set_option maxRecDepth 100000 in
set_option maxHeartbeats 4000000 in
theorem k_X5_wetCells {z : Zx} {l : Launch} {σ τ : Sg} {o : Int64 × UInt64} {ad : Nm} (hl : l.stackTraces = false) {x : Int32} (Q : IR σ) (C : ICo σ) : Ko z l yX5_wetCells cX5_wetCells 2 (some .int) 8 1 6 [.ref (ad 0 0), .int (x)] ad (Wz z ad σ τ o) (okC z ad τ o (cB σ x) (.int (nI (wn (σ 2 (jN x)) (σ 1 (jN x) 6) (σ 4 (jN x) 0) (σ 1 (jN x) 6)))) (σ)) (exT (cB σ x) ["java/lang/IndexOutOfBoundsException"]) := by
  refine ko_of hl (by decide +kernel) (Nat.le_of_ble_eq_true rfl) (fun g hg K => ?_)
  subst hg
  have I := Q.1
  have L := C.1
  have D := C.2.1
  have q0 := I.1.1
  have q1 := I.1.2.1
  have q2 := I.1.2.2.1
  have q3 := I.1.2.2.2.1
  have q5 := Q.2.1
  show WW g z 2 0 0 ad (Wz z ad σ τ o) 0 [(0, .ref (ad 0 0)), (1, .int (x))] []
  refine r_aload_n K dX5_wetCells_0 0 rfl rfl ?_
  refine r_iload_n K dX5_wetCells_1 1 rfl rfl ?_
  refine r_callVx (st := []) K (k_X5_basinOf (x := x) hl I L) (fun E h => ⟨0, by unfold cB; exact if_neg h.2, by rw [h.1]; rfl⟩) cw_X5_80 wd_603 wd_11 (by decide) (by decide) rfl rfl rfl rfl (Nat.le_of_ble_eq_true rfl) (by decide) (by decide) dX5_wetCells_2 ?_
  rintro _ _ _ ⟨b, hb, rfl, rfl, rfl, rfl⟩
  have q_2 : in0 (nI b) (σ 0 0 0) := (in0_iff (by omega)).mpr ⟨b, hb, rfl⟩
  obtain ⟨-, -, -, hs, hs5, hs7⟩ := I.2.1 b hb
  have q8 := hs.2.1
  show WW g z 2 1 6 ad (Wz z ad σ τ o) 5 [(0, .ref (ad 0 0)), (1, .int (nI b))] [.ref (ad 9 b)]
  refine r_get (v := .ref (ad 12 b)) K fd_X5_84 (W_9 (by first | exact hb | exact hk | exact hj | exact hw | omega | assumption)) rfl rfl dX5_wetCells_5 ?_
  refine r_aload_n K dX5_wetCells_8 0 rfl rfl ?_
  refine r_get (v := .ref (ad 3 0)) K fd_X5_25 rfl rfl rfl dX5_wetCells_9 ?_
  refine r_get (v := .ref (ad 5 0)) K fd_X5_166 (W_3 (by first | exact hb | exact hk | exact hj | exact hw | omega | assumption)) rfl rfl dX5_wetCells_12 ?_
  refine r_iload_n K dX5_wetCells_15 1 rfl rfl ?_
  refine r_iald (j := b) (v := nI (σ 4 b 0)) K (W_5 (by first | exact hb | exact hk | exact hj | exact hw | omega | assumption)) rfl rfl (by omega) (by decide) rfl dX5_wetCells_16 ?_
  refine r_callV (st := []) K (k_X3_countWet (b := b) (v := σ 4 b 0) hl (by first | exact hb | exact hk | exact hj | exact hw | omega | assumption) hs.2.1 (by have := (Q.2.1.1 b).2; omega) (fun c hc => by rw [D _ _ (by first | exact hb | exact hk | exact hj | exact hw | omega | assumption) hc]; have := dryF_le hs hc; omega)) cw_X5_195 wd_318 wd_319 (by decide) (by decide) (W_12 (by first | exact hb | exact hk | exact hj | exact hw | omega | assumption)) rfl rfl rfl (Nat.le_of_ble_eq_true rfl) (by decide) (by decide) dX5_wetCells_17 ?_
  rintro _ _ _ ⟨rfl, rfl, rfl⟩
  rw [wetc_wn hs (D b · hb) (σ 1 b 6) (Nat.le_refl _)]
  show WW g z 2 1 6 ad (Wz z ad σ τ o) 20 [(0, .ref (ad 0 0)), (1, .int (nI b))] [.int (nI (wn (σ 2 b) (σ 1 b 6) (σ 4 b 0) (σ 1 b 6)))]
  exact r_iret K (by decide) (by decide) (okC_rd C (by unfold cB; exact if_pos q_2) (by rw [jN_n (by omega)])) dX5_wetCells_20
set_option maxRecDepth 100000 in
set_option maxHeartbeats 4000000 in
theorem k_X5_claimCount {z : Zx} {l : Launch} {σ τ : Sg} {o : Int64 × UInt64} {ad : Nm} (hl : l.stackTraces = false) {x : Int32} (Q : IR σ) (C : ICo σ) : Ko z l yX5_claimCount cX5_claimCount 2 (some .int) 8 1 6 [.ref (ad 0 0), .int (x)] ad (Wz z ad σ τ o) (okC z ad τ o (cK σ x) (.int (nI (clm σ (jN x)))) (σ)) (exT (cK σ x) ["java/lang/IndexOutOfBoundsException"]) := by
  refine ko_of hl (by decide +kernel) (Nat.le_of_ble_eq_true rfl) (fun g hg K => ?_)
  subst hg
  have I := Q.1
  have L := C.1
  have D := C.2.1
  have q0 := I.1.1
  have q1 := I.1.2.1
  have q2 := I.1.2.2.1
  have q3 := I.1.2.2.2.1
  have q5 := Q.2.1
  show WW g z 2 0 0 ad (Wz z ad σ τ o) 0 [(0, .ref (ad 0 0)), (1, .int (x))] []
  refine r_aload_n K dX5_claimCount_0 0 rfl rfl ?_
  refine r_iload_n K dX5_claimCount_1 1 rfl rfl ?_
  refine r_callVx (st := []) K (k_X5_houseOf (x := x) hl I L) (fun E h => ⟨0, by unfold cK; exact if_neg h.2, by rw [h.1]; rfl⟩) cw_X5_215 wd_878 wd_22 (by decide) (by decide) rfl rfl rfl rfl (Nat.le_of_ble_eq_true rfl) (by decide) (by decide) dX5_claimCount_2 ?_
  rintro _ _ _ ⟨k, hk, rfl, rfl, rfl, rfl⟩
  have q_2 : in0 (nI k) (σ 0 2 0) := (in0_iff (by omega)).mpr ⟨k, hk, rfl⟩
  show WW g z 2 1 6 ad (Wz z ad σ τ o) 5 [(0, .ref (ad 0 0)), (1, .int (nI k))] [.ref (ad 11 k)]
  refine r_get (v := .int (nI (σ 32 k 0))) K fd_X5_248 (W_11 (by first | exact hb | exact hk | exact hj | exact hw | omega | assumption)) rfl rfl dX5_claimCount_5 ?_
  exact r_iret K (by decide) (by decide) (okC_rd C (by unfold cK; exact if_pos q_2) (by rw [jN_n (by omega), C.2.2.2.2.1 k hk])) dX5_claimCount_8
set_option maxRecDepth 100000 in
set_option maxHeartbeats 4000000 in
theorem k_X5_paidTo {z : Zx} {l : Launch} {σ τ : Sg} {o : Int64 × UInt64} {ad : Nm} (hl : l.stackTraces = false) {x : Int32} (Q : IR σ) (C : ICo σ) : Ko z l yX5_paidTo cX5_paidTo 2 (some .int) 8 1 6 [.ref (ad 0 0), .int (x)] ad (Wz z ad σ τ o) (okC z ad τ o (cK σ x) (.int (nI (σ 9 (jN x) 4))) (σ)) (exT (cK σ x) ["java/lang/IndexOutOfBoundsException"]) := by
  refine ko_of hl (by decide +kernel) (Nat.le_of_ble_eq_true rfl) (fun g hg K => ?_)
  subst hg
  have I := Q.1
  have L := C.1
  have D := C.2.1
  have q0 := I.1.1
  have q1 := I.1.2.1
  have q2 := I.1.2.2.1
  have q3 := I.1.2.2.2.1
  have q5 := Q.2.1
  show WW g z 2 0 0 ad (Wz z ad σ τ o) 0 [(0, .ref (ad 0 0)), (1, .int (x))] []
  refine r_aload_n K dX5_paidTo_0 0 rfl rfl ?_
  refine r_iload_n K dX5_paidTo_1 1 rfl rfl ?_
  refine r_callVx (st := []) K (k_X5_houseOf (x := x) hl I L) (fun E h => ⟨0, by unfold cK; exact if_neg h.2, by rw [h.1]; rfl⟩) cw_X5_215 wd_878 wd_22 (by decide) (by decide) rfl rfl rfl rfl (Nat.le_of_ble_eq_true rfl) (by decide) (by decide) dX5_paidTo_2 ?_
  rintro _ _ _ ⟨k, hk, rfl, rfl, rfl, rfl⟩
  have q_2 : in0 (nI k) (σ 0 2 0) := (in0_iff (by omega)).mpr ⟨k, hk, rfl⟩
  show WW g z 2 1 6 ad (Wz z ad σ τ o) 5 [(0, .ref (ad 0 0)), (1, .int (nI k))] [.ref (ad 11 k)]
  refine r_get (v := .int (nI (σ 9 k 4))) K fd_X5_251 (W_11 (by first | exact hb | exact hk | exact hj | exact hw | omega | assumption)) rfl rfl dX5_paidTo_5 ?_
  exact r_iret K (by decide) (by decide) (okC_rd C (by unfold cK; exact if_pos q_2) (by rw [jN_n (by omega)])) dX5_paidTo_8
set_option maxRecDepth 100000 in
set_option maxHeartbeats 4000000 in
theorem k_X5_depthAt {z : Zx} {l : Launch} {σ τ : Sg} {o : Int64 × UInt64} {ad : Nm} (hl : l.stackTraces = false) {x y : Int32} (Q : IR σ) (C : ICo σ) : Ko z l yX5_depthAt cX5_depthAt 4 (some .int) 8 2 12 [.ref (ad 0 0), .int (x), .int (y)] ad (Wz z ad σ τ o) (okC z ad τ o (cC σ x y) (.int (nI (dpC σ (jN x) (jN y) (σ 4 (jN x) 0)))) (σ)) (exT (cC σ x y) ["java/lang/IndexOutOfBoundsException"]) := by
  refine ko_of hl (by decide +kernel) (Nat.le_of_ble_eq_true rfl) (fun g hg K => ?_)
  subst hg
  have I := Q.1
  have L := C.1
  have D := C.2.1
  have q0 := I.1.1
  have q1 := I.1.2.1
  have q2 := I.1.2.2.1
  have q3 := I.1.2.2.2.1
  have q5 := Q.2.1
  show WW g z 4 0 0 ad (Wz z ad σ τ o) 0 [(0, .ref (ad 0 0)), (1, .int (x)), (2, .int (y))] []
  refine r_aload_n K dX5_depthAt_0 0 rfl rfl ?_
  refine r_iload_n K dX5_depthAt_1 1 rfl rfl ?_
  refine r_iload_n K dX5_depthAt_2 2 rfl rfl ?_
  refine r_callVx (st := []) K (k_X5_streetWith (x := x) (y := y) hl I L) (fun E h => ⟨0, by unfold cC; exact if_neg h.2, by rw [h.1]; rfl⟩) cw_X5_178 wd_775 wd_18 (by decide) (by decide) rfl rfl rfl rfl (Nat.le_of_ble_eq_true rfl) (by decide) (by decide) dX5_depthAt_3 ?_
  rintro _ _ _ ⟨b, c, hb, hc, rfl, rfl, rfl, rfl, rfl⟩
  obtain ⟨-, -, -, hs, hs5, hs7⟩ := I.2.1 b hb
  have q8 := hs.2.1
  have q_3 : in0 (nI b) (σ 0 0 0) ∧ in0 (nI c) (σ 1 (jN (nI b)) 6) := ⟨(in0_iff (by omega)).mpr ⟨b, hb, rfl⟩, by rw [jN_n (by omega)]; exact (in0_iff (by omega)).mpr ⟨c, hc, rfl⟩⟩
  show WW g z 4 2 12 ad (Wz z ad σ τ o) 6 [(0, .ref (ad 0 0)), (1, .int (nI b)), (2, .int (nI c))] [.ref (ad 12 b)]
  refine r_astore_n (lv' := [(3, .ref (ad 12 b)), (0, .ref (ad 0 0)), (1, .int (nI b)), (2, .int (nI c))]) K dX5_depthAt_6 rfl (by decide) rfl ?_
  refine r_aload_n K dX5_depthAt_7 0 rfl rfl ?_
  refine r_iload_n K dX5_depthAt_8 3 rfl rfl ?_
  refine r_aload_n K dX5_depthAt_9 1 rfl rfl ?_
  refine r_get (v := .ref (ad 3 0)) K fd_X5_25 rfl rfl rfl dX5_depthAt_10 ?_
  refine r_get (v := .ref (ad 5 0)) K fd_X5_166 (W_3 (by first | exact hb | exact hk | exact hj | exact hw | omega | assumption)) rfl rfl dX5_depthAt_13 ?_
  refine r_iload_n K dX5_depthAt_16 2 rfl rfl ?_
  refine r_iald (j := b) (v := nI (σ 4 b 0)) K (W_5 (by first | exact hb | exact hk | exact hj | exact hw | omega | assumption)) rfl rfl (by omega) (by decide) rfl dX5_depthAt_17 ?_
  refine r_callV (st := []) K (k_X3_depthOf (c := c) (v := σ 4 b 0) hl (by first | exact hb | exact hk | exact hj | exact hw | omega | assumption) hs (by first | exact hb | exact hk | exact hj | exact hw | omega | assumption) (by have := (Q.2.1.1 b).2; omega)) cw_X5_182 wd_779 wd_780 (by decide) (by decide) (W_12 (by first | exact hb | exact hk | exact hj | exact hw | omega | assumption)) rfl rfl rfl (Nat.le_of_ble_eq_true rfl) (by decide) (by decide) dX5_depthAt_18 ?_
  rintro _ _ _ ⟨rfl, rfl, rfl⟩
  show WW g z 4 2 12 ad (Wz z ad σ τ o) 21 [(3, .ref (ad 12 b)), (0, .ref (ad 0 0)), (1, .int (nI b)), (2, .int (nI c))] [.int (nI (dpC σ b c (σ 4 b 0)))]
  exact r_iret K (by decide) (by decide) (okC_rd C (by unfold cC; exact if_pos q_3) (by rw [jN_n (by omega), jN_n (by omega)])) dX5_depthAt_21
set_option maxRecDepth 100000 in
set_option maxHeartbeats 4000000 in
theorem k_X5_depthThen {z : Zx} {l : Launch} {σ τ : Sg} {o : Int64 × UInt64} {ad : Nm} (hl : l.stackTraces = false) {x y t : Int32} (Q : IR σ) (C : ICo σ) : Ko z l yX5_depthThen cX5_depthThen 5 (some .int) 8 3 18 [.ref (ad 0 0), .int (x), .int (y), .int (t)] ad (Wz z ad σ τ o) (okC z ad τ o (cCh σ x y t) (.int (nI (dpC σ (jN x) (jN y) (σ 7 (jN x) (jN t))))) (σ)) (exT (cCh σ x y t) ["java/lang/IndexOutOfBoundsException", "java/lang/IllegalArgumentException"]) := by
  refine ko_of hl (by decide +kernel) (Nat.le_of_ble_eq_true rfl) (fun g hg K => ?_)
  subst hg
  have I := Q.1
  have L := C.1
  have D := C.2.1
  have q0 := I.1.1
  have q1 := I.1.2.1
  have q2 := I.1.2.2.1
  have q3 := I.1.2.2.2.1
  have q5 := Q.2.1
  show WW g z 5 0 0 ad (Wz z ad σ τ o) 0 [(0, .ref (ad 0 0)), (1, .int (x)), (2, .int (y)), (3, .int (t))] []
  refine r_aload_n K dX5_depthThen_0 0 rfl rfl ?_
  refine r_iload_n K dX5_depthThen_1 1 rfl rfl ?_
  refine r_iload_n K dX5_depthThen_2 2 rfl rfl ?_
  refine r_callVx (st := []) K (k_X5_streetWith (x := x) (y := y) hl I L) (fun E h => ⟨0, by unfold cCh; exact if_neg h.2, by rw [h.1]; rfl⟩) cw_X5_178 wd_775 wd_18 (by decide) (by decide) rfl rfl rfl rfl (Nat.le_of_ble_eq_true rfl) (by decide) (by decide) dX5_depthThen_3 ?_
  rintro _ _ _ ⟨b, c, hb, hc, rfl, rfl, rfl, rfl, rfl⟩
  obtain ⟨-, -, -, hs, hs5, hs7⟩ := I.2.1 b hb
  have q8 := hs.2.1
  have q_3 : in0 (nI b) (σ 0 0 0) ∧ in0 (nI c) (σ 1 (jN (nI b)) 6) := ⟨(in0_iff (by omega)).mpr ⟨b, hb, rfl⟩, by rw [jN_n (by omega)]; exact (in0_iff (by omega)).mpr ⟨c, hc, rfl⟩⟩
  show WW g z 5 2 12 ad (Wz z ad σ τ o) 6 [(0, .ref (ad 0 0)), (1, .int (nI b)), (2, .int (nI c)), (3, .int (t))] [.ref (ad 12 b)]
  refine r_astore (lv' := [(4, .ref (ad 12 b)), (0, .ref (ad 0 0)), (1, .int (nI b)), (2, .int (nI c)), (3, .int (t))]) K dX5_depthThen_6 (by decide) rfl ?_
  refine r_aload_n K dX5_depthThen_8 1 rfl rfl ?_
  refine r_iload_n K dX5_depthThen_9 4 rfl rfl ?_
  refine r_callVx (st := []) K (k_X5_requireHour (x := t) hl) (fun E h => ⟨1, by unfold cCh; rw [if_pos q_3]; exact if_neg h.2, by rw [h.1]; rfl⟩) cw_X5_189 wd_811 wd_21 (by decide) (by decide) rfl rfl rfl rfl (Nat.le_of_ble_eq_true rfl) (by decide) (by decide) dX5_depthThen_10 ?_
  rintro _ _ _ ⟨rfl, rfl, rfl, q_10⟩
  obtain ⟨h, hh, rfl⟩ := (inR_iff (by decide) (by omega)).mp q_10
  show WW g z 5 3 18 ad (Wz z ad σ τ o) 13 [(4, .ref (ad 12 b)), (0, .ref (ad 0 0)), (1, .int (nI b)), (2, .int (nI c)), (3, .int (nI h))] []
  refine r_aload K dX5_depthThen_13 0 rfl ?_
  refine r_iload_n K dX5_depthThen_15 3 rfl rfl ?_
  refine r_aload K dX5_depthThen_16 0 rfl ?_
  refine r_get (v := .ref (ad 17 b)) K fd_X5_192 (W_12 (by first | exact hb | exact hk | exact hj | exact hw | omega | assumption)) rfl rfl dX5_depthThen_18 ?_
  refine r_iload_n K dX5_depthThen_21 4 rfl rfl ?_
  refine r_iald (j := h) (v := nI (σ 7 b h)) K (W_17 (by first | exact hb | exact hk | exact hj | exact hw | omega | assumption)) rfl rfl (by omega) (by decide) rfl dX5_depthThen_22 ?_
  refine r_callV (st := []) K (k_X3_depthOf (c := c) (v := σ 7 b h) hl (by first | exact hb | exact hk | exact hj | exact hw | omega | assumption) hs (by first | exact hb | exact hk | exact hj | exact hw | omega | assumption) (by have := hs7 h; omega)) cw_X5_182 wd_779 wd_780 (by decide) (by decide) (W_12 (by first | exact hb | exact hk | exact hj | exact hw | omega | assumption)) rfl rfl rfl (Nat.le_of_ble_eq_true rfl) (by decide) (by decide) dX5_depthThen_23 ?_
  rintro _ _ _ ⟨rfl, rfl, rfl⟩
  show WW g z 5 3 18 ad (Wz z ad σ τ o) 26 [(4, .ref (ad 12 b)), (0, .ref (ad 0 0)), (1, .int (nI b)), (2, .int (nI c)), (3, .int (nI h))] [.int (nI (dpC σ b c (σ 7 b h)))]
  exact r_iret K (by decide) (by decide) (okC_rd C (by unfold cCh; rw [if_pos q_3]; exact if_pos q_10) (by rw [jN_n (by omega), jN_n (by omega), jN_n (by omega)])) dX5_depthThen_26
set_option maxRecDepth 100000 in
set_option maxHeartbeats 4000000 in
theorem k_X5_setHand {z : Zx} {l : Launch} {σ τ : Sg} {o : Int64 × UInt64} {ad : Nm} (hl : l.stackTraces = false) {x y : Int32} (Q : IR σ) (C : ICo σ) : Ko z l yX5_setHand cX5_setHand 5 (some .int) 8 2 12 [.ref (ad 0 0), .int (x), .int (y)] ad (Wz z ad σ τ o) (okC z ad τ o (cBx σ 10 x y) (.int (nI (σ 1 (jN x) 4))) (fHand σ x y)) (exT (cBx σ 10 x y) ["java/lang/IndexOutOfBoundsException", "java/lang/IllegalArgumentException"]) := by
  refine ko_of hl (by decide +kernel) (Nat.le_of_ble_eq_true rfl) (fun g hg K => ?_)
  subst hg
  have I := Q.1
  have L := C.1
  have D := C.2.1
  have q0 := I.1.1
  have q1 := I.1.2.1
  have q2 := I.1.2.2.1
  have q3 := I.1.2.2.2.1
  have q5 := Q.2.1
  show WW g z 5 0 0 ad (Wz z ad σ τ o) 0 [(0, .ref (ad 0 0)), (1, .int (x)), (2, .int (y))] []
  refine r_aload_n K dX5_setHand_0 0 rfl rfl ?_
  refine r_iload_n K dX5_setHand_1 1 rfl rfl ?_
  refine r_callVx (st := []) K (k_X5_basinOf (x := x) hl I L) (fun E h => ⟨0, by unfold cBx; exact if_neg h.2, by rw [h.1]; rfl⟩) cw_X5_80 wd_603 wd_11 (by decide) (by decide) rfl rfl rfl rfl (Nat.le_of_ble_eq_true rfl) (by decide) (by decide) dX5_setHand_2 ?_
  rintro _ _ _ ⟨b, hb, rfl, rfl, rfl, rfl⟩
  have q_2 : in0 (nI b) (σ 0 0 0) := (in0_iff (by omega)).mpr ⟨b, hb, rfl⟩
  obtain ⟨-, -, -, hs, hs5, hs7⟩ := I.2.1 b hb
  have q8 := hs.2.1
  show WW g z 5 1 6 ad (Wz z ad σ τ o) 5 [(0, .ref (ad 0 0)), (1, .int (nI b)), (2, .int (y))] [.ref (ad 9 b)]
  refine r_astore_n (lv' := [(3, .ref (ad 9 b)), (0, .ref (ad 0 0)), (1, .int (nI b)), (2, .int (y))]) K dX5_setHand_5 rfl (by decide) rfl ?_
  refine r_iload_n K dX5_setHand_6 3 rfl rfl ?_
  refine r_callSx (st := []) K (k_X5_requireOpening (x := y) hl) (fun E h => ⟨1, by unfold cBx; rw [if_pos q_2]; exact if_neg h.2, by rw [h.1]; rfl⟩) cw_X5_102 wd_646 (by decide) (by decide) rfl (Nat.le_of_ble_eq_true rfl) (by decide) (by decide) dX5_setHand_7 ?_
  rintro _ _ _ ⟨rfl, rfl, rfl, q_7⟩
  obtain ⟨p, hp, rfl⟩ := (inR_iff (by decide) (by decide)).mp q_7
  show WW g z 5 2 12 ad (Wz z ad σ τ o) 10 [(3, .ref (ad 9 b)), (0, .ref (ad 0 0)), (1, .int (nI b)), (2, .int (nI p))] []
  refine r_aload_n K dX5_setHand_10 0 rfl rfl ?_
  refine r_get (v := .int (nI (σ 1 b 4))) K fd_X5_105 (W_9 (by first | exact hb | exact hk | exact hj | exact hw | omega | assumption)) rfl rfl dX5_setHand_11 ?_
  refine r_istore (lv' := [(4, .int (nI (σ 1 b 4))), (3, .ref (ad 9 b)), (0, .ref (ad 0 0)), (1, .int (nI b)), (2, .int (nI p))]) K dX5_setHand_14 (by decide) rfl ?_
  refine r_aload_n K dX5_setHand_16 1 rfl rfl ?_
  refine r_iload_n K dX5_setHand_17 4 rfl rfl ?_
  refine r_put K fd_X5_105 (W_9 (by first | exact hb | exact hk | exact hj | exact hw | omega | assumption)) rfl rfl rfl (Nat.le_of_ble_eq_true rfl) rfl dX5_setHand_18 ?_
  refine r_mu (u_9_6 (by first | exact hb | exact hk | exact hj | exact hw | omega | assumption)) ?_
  show WW g z 5 2 12 ad (Wz z ad (su σ 1 b 4 p) τ o) 21 [(4, .int (nI (σ 1 b 4))), (3, .ref (ad 9 b)), (0, .ref (ad 0 0)), (1, .int (nI b)), (2, .int (nI p))] []
  refine r_iload K dX5_setHand_21 0 rfl ?_
  exact r_iret K (by decide) (by decide) ⟨(by unfold cBx; rw [if_pos q_2]; exact if_pos q_7), by rw [jN_n (by omega)], adK.rf, _, rfl, (by unfold fHand; rw [jN_n (by omega), jN_n (by omega)]; exact agr.rf), (C.cg rfl (fun b c h1 h2 => su_n (by omega)) rfl rfl rfl rfl (fun _ => rfl) (fun _ => rfl) rfl rfl rfl rfl rfl)⟩ dX5_setHand_23
