set_option maxRecDepth 100000 in
set_option maxHeartbeats 4000000 in
theorem k_X6_depthAt {z : Zx} {l : Launch} {σ τ : Sg} {o : Int64 × UInt64} {ad : Nm} (hl : l.stackTraces = false) {x y : Int32} (Q : IR τ) (Q2 : IMo τ) : Ko z l yX6_depthAt cX6_depthAt 3 (some .int) 7 0 0 [.ref (ad 20 0), .int (x), .int (y)] ad (Wz z ad σ τ o) (okM z ad σ o Value.int (cC τ x y) (nI (dpC τ (jN x) (jN y) (τ 4 (jN x) 0))) τ) exNo := by
  refine ko_of hl (by decide +kernel) (Nat.le_of_ble_eq_true rfl) (fun g hg K => ?_)
  subst hg
  have I := Q.1
  have q0 := I.1.1
  have q1 := I.1.2.1
  have q2 := I.1.2.2.1
  have q3 := I.1.2.2.2.1
  have q4 := I.1.2.2.2.2.1
  show WW g z 3 0 0 ad (Wz z ad σ τ o) 0 [(0, .ref (ad 20 0)), (1, .int (x)), (2, .int (y))] []
  refine r_aload_n K dX6_depthAt_0 0 rfl rfl ?_
  refine r_iload_n K dX6_depthAt_1 1 rfl rfl ?_
  refine r_iload_n K dX6_depthAt_2 2 rfl rfl ?_
  refine r_callV (st := []) K (k_X6_deep (x := x) (y := y) hl Q Q2) cw_X6_176 wd_1557 wd_32 (by decide) (by decide) rfl rfl rfl rfl (Nat.le_of_ble_eq_true rfl) (by decide) (by decide) dX6_depthAt_3 ?_
  rintro v ad1 μ1 hh
  obtain ⟨v1, rfl, h2, rfl, h4⟩ := hh
  show WW g z 3 0 0 ad μ1 6 [(0, .ref (ad 20 0)), (1, .int (x)), (2, .int (y))] [.int (v1)]
  exact r_iret K (by decide) (by decide) ⟨v1, rfl, h2, rfl, h4⟩ dX6_depthAt_6
set_option maxRecDepth 100000 in
set_option maxHeartbeats 4000000 in
theorem k_X6_depthByPouring {z : Zx} {l : Launch} {σ τ : Sg} {o : Int64 × UInt64} {ad : Nm} (hl : l.stackTraces = false) {x y : Int32} (Q : IR τ) (Q2 : IMo τ) : Ko z l yX6_depthByPouring cX6_depthByPouring 3 (some .int) 7 0 0 [.ref (ad 20 0), .int (x), .int (y)] ad (Wz z ad σ τ o) (okM z ad σ o Value.int (cC τ x y) (nI (dpC τ (jN x) (jN y) (τ 4 (jN x) 0))) τ) exNo := by
  refine ko_of hl (by decide +kernel) (Nat.le_of_ble_eq_true rfl) (fun g hg K => ?_)
  subst hg
  have I := Q.1
  have q0 := I.1.1
  have q1 := I.1.2.1
  have q2 := I.1.2.2.1
  have q3 := I.1.2.2.2.1
  have q4 := I.1.2.2.2.2.1
  show WW g z 3 0 0 ad (Wz z ad σ τ o) 0 [(0, .ref (ad 20 0)), (1, .int (x)), (2, .int (y))] []
  refine r_aload_n K dX6_depthByPouring_0 0 rfl rfl ?_
  refine r_iload_n K dX6_depthByPouring_1 1 rfl rfl ?_
  refine r_iload_n K dX6_depthByPouring_2 2 rfl rfl ?_
  refine r_callV (st := []) K (k_X6_deep (x := x) (y := y) hl Q Q2) cw_X6_176 wd_1557 wd_32 (by decide) (by decide) rfl rfl rfl rfl (Nat.le_of_ble_eq_true rfl) (by decide) (by decide) dX6_depthByPouring_3 ?_
  rintro v ad1 μ1 hh
  obtain ⟨v1, rfl, h2, rfl, h4⟩ := hh
  show WW g z 3 0 0 ad μ1 6 [(0, .ref (ad 20 0)), (1, .int (x)), (2, .int (y))] [.int (v1)]
  exact r_iret K (by decide) (by decide) ⟨v1, rfl, h2, rfl, h4⟩ dX6_depthByPouring_6
set_option maxRecDepth 100000 in
set_option maxHeartbeats 4000000 in
theorem k_X6_depthThen {z : Zx} {l : Launch} {σ τ : Sg} {o : Int64 × UInt64} {ad : Nm} (hl : l.stackTraces = false) {x y t : Int32} (Q : IR τ) (Q2 : IMo τ) : Ko z l yX6_depthThen cX6_depthThen 4 (some .int) 7 0 0 [.ref (ad 20 0), .int (x), .int (y), .int (t)] ad (Wz z ad σ τ o) (okM z ad σ o Value.int (cCh τ x y t) (nI (dpC τ (jN x) (jN y) (τ 7 (jN x) (jN t)))) τ) exNo := by
  refine ko_of hl (by decide +kernel) (Nat.le_of_ble_eq_true rfl) (fun g hg K => ?_)
  subst hg
  have I := Q.1
  have q0 := I.1.1
  have q1 := I.1.2.1
  have q2 := I.1.2.2.1
  have q3 := I.1.2.2.2.1
  have q4 := I.1.2.2.2.2.1
  show WW g z 4 0 0 ad (Wz z ad σ τ o) 0 [(0, .ref (ad 20 0)), (1, .int (x)), (2, .int (y)), (3, .int (t))] []
  refine r_aload_n K dX6_depthThen_0 0 rfl rfl ?_
  refine r_aload_n K dX6_depthThen_1 0 rfl rfl ?_
  refine r_iload_n K dX6_depthThen_2 1 rfl rfl ?_
  refine r_iload_n K dX6_depthThen_3 2 rfl rfl ?_
  refine r_callV (st := [.ref (ad 20 0)]) K (k_X6_isNoCell (x := x) (y := y) hl I) cw_X6_168 wd_1561 wd_33 (by decide) (by decide) rfl rfl rfl rfl (Nat.le_of_ble_eq_true rfl) (by decide) (by decide) dX6_depthThen_4 ?_
  rintro _ _ _ ⟨rfl, rfl, rfl⟩
  show WW g z 4 0 0 ad (Wz z ad σ τ o) 7 [(0, .ref (ad 20 0)), (1, .int (x)), (2, .int (y)), (3, .int (t))] [.int (pI (¬ (in0 x (τ 0 0 0) ∧ in0 y (τ 1 (jN x) 6)))), .ref (ad 20 0)]
  refine r_if_eq K dX6_depthThen_7 14 ((in0 x (τ 0 0 0) ∧ in0 y (τ 1 (jN x) 6))) pI_n0 (by decide) (fun c_7 => ?_) (fun c_7 => ?_)
  · skip
    have c1 := c_7.1
    have c2 := c_7.2
    obtain ⟨b, hb, rfl⟩ := (in0_iff (by omega)).mp c1
    obtain ⟨-, -, -, hs, hs5, hs7⟩ := I.2.1 b hb
    have q8 := hs.2.1
    rw [jN_n (by omega)] at c2
    obtain ⟨c, hc, rfl⟩ := (in0_iff (by omega)).mp c2
    refine r_iload_n K dX6_depthThen_14 3 rfl rfl ?_
    refine r_iconst (v := nI 1) K dX6_depthThen_15 (by decide) ?_
    refine r_aload_n K dX6_depthThen_16 0 rfl rfl ?_
    refine r_get (v := .int (nI (τ 12 0 0))) K fd_X6_120 rfl rfl rfl dX6_depthThen_17 ?_
    refine r_callS (st := [.ref (ad 20 0)]) K (k_X6_in (x := t) (a := nI 1) (b := nI (τ 12 0 0)) hl) cw_X6_103 wd_1434 (by decide) (by decide) rfl (Nat.le_of_ble_eq_true rfl) (by decide) (by decide) dX6_depthThen_20 ?_
    rintro _ _ _ ⟨rfl, rfl, rfl⟩
    show WW g z 4 0 0 ad (Wz z ad σ τ o) 23 [(0, .ref (ad 20 0)), (1, .int (nI b)), (2, .int (nI c)), (3, .int (t))] [.int (pI (inR t 1 (τ 12 0 0))), .ref (ad 20 0)]
    refine r_if_eq K dX6_depthThen_23 30 (¬ (inR t 1 (τ 12 0 0))) pI_eq0 (by decide) (fun c_23 => ?_) (fun c_23 => ?_)
    · skip
      refine r_iconst (v := nI 2) K dX6_depthThen_30 (by decide) ?_
      refine r_callV (st := []) K (k_X6_fails (c := 2) hl (by omega)) cw_X6_114 wd_1438 wd_24 (by decide) (by decide) rfl rfl rfl rfl (Nat.le_of_ble_eq_true rfl) (by decide) (by decide) dX6_depthThen_31 ?_
      rintro _ _ _ ⟨rfl, rfl, rfl⟩
      show WW g z 4 0 0 ad (Wz z ad σ (su τ 72 0 0 2) o) 34 [(0, .ref (ad 20 0)), (1, .int (nI b)), (2, .int (nI c)), (3, .int (t))] [.int (nI 1)]
      refine r_if_eq K dX6_depthThen_34 41 (1 = 0) (n0_eq (by omega)) (by decide) (fun c_34 => ?_) (fun c_34 => ?_)
      · skip
        exfalso; omega
      · skip
        refine r_iconst (v := nI 0) K dX6_depthThen_37 (by decide) ?_
        refine r_goto K dX6_depthThen_38 48 (by decide) ?_
        exact r_iret K (by decide) (by decide) (okM_f (c := 1) Q2 (by unfold cCh; rw [if_pos c_7]; exact (if_neg c_23).symm)) dX6_depthThen_48
    · skip
      have q_23 := Decidable.not_not.mp c_23
      obtain ⟨h, hh, rfl⟩ := (inR_iff (by decide) (by omega)).mp q_23
      have hh2 : 1 ≤ h ∧ h ≤ 60 := ⟨hh.1, by omega⟩
      refine r_iconst (v := nI 0) K dX6_depthThen_26 (by decide) ?_
      refine r_goto K dX6_depthThen_27 31 (by decide) ?_
      refine r_callV (st := []) K (k_X6_fails (c := 0) hl (by omega)) cw_X6_114 wd_1438 wd_24 (by decide) (by decide) rfl rfl rfl rfl (Nat.le_of_ble_eq_true rfl) (by decide) (by decide) dX6_depthThen_31 ?_
      rintro _ _ _ ⟨rfl, rfl, rfl⟩
      show WW g z 4 0 0 ad (Wz z ad σ (su τ 72 0 0 0) o) 34 [(0, .ref (ad 20 0)), (1, .int (nI b)), (2, .int (nI c)), (3, .int (nI h))] [.int (nI 0)]
      refine r_if_eq K dX6_depthThen_34 41 (0 = 0) (n0_eq (by omega)) (by decide) (fun c_34 => ?_) (fun c_34 => ?_)
      · skip
        refine r_aload_n K dX6_depthThen_41 0 rfl rfl ?_
        refine r_iload_n K dX6_depthThen_42 1 rfl rfl ?_
        refine r_iload_n K dX6_depthThen_43 2 rfl rfl ?_
        refine r_iload_n K dX6_depthThen_44 3 rfl rfl ?_
        refine r_callV (st := []) K (k_X6_then (b := b) (c := c) (h := h) hl I (by first | exact hb | exact hk | exact hj | exact hw | omega | assumption) (by first | exact hb | exact hk | exact hj | exact hw | omega | assumption) (by first | exact hb | exact hk | exact hj | exact hw | omega | assumption)) cw_X6_179 wd_1585 wd_37 (by decide) (by decide) rfl rfl rfl rfl (Nat.le_of_ble_eq_true rfl) (by decide) (by decide) dX6_depthThen_45 ?_
        rintro _ _ _ ⟨rfl, rfl, rfl⟩
        show WW g z 4 0 0 ad (Wz z ad σ (su τ 72 0 0 0) o) 48 [(0, .ref (ad 20 0)), (1, .int (nI b)), (2, .int (nI c)), (3, .int (nI h))] [.int (nI (dpC τ b c (τ 7 b h)))]
        exact r_iret K (by decide) (by decide) (okM_r Q2 (Eq.symm (by unfold cCh; rw [if_pos c_7]; exact if_pos q_23)) (by rw [jN_n (by omega), jN_n (by omega), jN_n (by omega)])) dX6_depthThen_48
      · skip
        exfalso; omega
  · skip
    refine r_iconst (v := nI 1) K dX6_depthThen_10 (by decide) ?_
    refine r_goto K dX6_depthThen_11 31 (by decide) ?_
    refine r_callV (st := []) K (k_X6_fails (c := 1) hl (by omega)) cw_X6_114 wd_1438 wd_24 (by decide) (by decide) rfl rfl rfl rfl (Nat.le_of_ble_eq_true rfl) (by decide) (by decide) dX6_depthThen_31 ?_
    rintro _ _ _ ⟨rfl, rfl, rfl⟩
    show WW g z 4 0 0 ad (Wz z ad σ (su τ 72 0 0 1) o) 34 [(0, .ref (ad 20 0)), (1, .int (x)), (2, .int (y)), (3, .int (t))] [.int (nI 1)]
    refine r_if_eq K dX6_depthThen_34 41 (1 = 0) (n0_eq (by omega)) (by decide) (fun c_34 => ?_) (fun c_34 => ?_)
    · skip
      exfalso; omega
    · skip
      refine r_iconst (v := nI 0) K dX6_depthThen_37 (by decide) ?_
      refine r_goto K dX6_depthThen_38 48 (by decide) ?_
      exact r_iret K (by decide) (by decide) (okM_f (c := 0) Q2 (by unfold cCh; exact (if_neg c_7).symm)) dX6_depthThen_48
set_option maxRecDepth 100000 in
set_option maxHeartbeats 4000000 in
theorem k_X6_wetCells {z : Zx} {l : Launch} {σ τ : Sg} {o : Int64 × UInt64} {ad : Nm} (hl : l.stackTraces = false) {x : Int32} (Q : IR τ) (Q2 : IMo τ) : Ko z l yX6_wetCells cX6_wetCells 2 (some .int) 7 0 0 [.ref (ad 20 0), .int (x)] ad (Wz z ad σ τ o) (okM z ad σ o Value.int (cB τ x) (nI (wn (τ 2 (jN x)) (τ 1 (jN x) 6) (τ 4 (jN x) 0) (τ 1 (jN x) 6))) τ) exNo := by
  refine ko_of hl (by decide +kernel) (Nat.le_of_ble_eq_true rfl) (fun g hg K => ?_)
  subst hg
  have I := Q.1
  have q0 := I.1.1
  have q1 := I.1.2.1
  have q2 := I.1.2.2.1
  have q3 := I.1.2.2.2.1
  have q4 := I.1.2.2.2.2.1
  show WW g z 2 0 0 ad (Wz z ad σ τ o) 0 [(0, .ref (ad 20 0)), (1, .int (x))] []
  refine r_aload_n K dX6_wetCells_0 0 rfl rfl ?_
  refine r_aload_n K dX6_wetCells_1 0 rfl rfl ?_
  refine r_iload_n K dX6_wetCells_2 1 rfl rfl ?_
  refine r_callV (st := [.ref (ad 20 0)]) K (k_X6_isNone (x := x) hl) cw_X6_107 wd_1431 wd_23 (by decide) (by decide) rfl rfl rfl rfl (Nat.le_of_ble_eq_true rfl) (by decide) (by decide) dX6_wetCells_3 ?_
  rintro _ _ _ ⟨rfl, rfl, rfl⟩
  show WW g z 2 0 0 ad (Wz z ad σ τ o) 6 [(0, .ref (ad 20 0)), (1, .int (x))] [.int (pI (¬ in0 x (τ 0 0 0))), .ref (ad 20 0)]
  refine r_if_eq K dX6_wetCells_6 13 (in0 x (τ 0 0 0)) pI_n0 (by decide) (fun c_6 => ?_) (fun c_6 => ?_)
  · skip
    obtain ⟨b, hb, rfl⟩ := (in0_iff (by omega)).mp c_6
    obtain ⟨-, -, -, hs, hs5, hs7⟩ := I.2.1 b hb
    have q8 := hs.2.1
    refine r_iconst (v := nI 0) K dX6_wetCells_13 (by decide) ?_
    refine r_callV (st := []) K (k_X6_fails (c := 0) hl (by omega)) cw_X6_114 wd_1438 wd_24 (by decide) (by decide) rfl rfl rfl rfl (Nat.le_of_ble_eq_true rfl) (by decide) (by decide) dX6_wetCells_14 ?_
    rintro _ _ _ ⟨rfl, rfl, rfl⟩
    show WW g z 2 0 0 ad (Wz z ad σ (su τ 72 0 0 0) o) 17 [(0, .ref (ad 20 0)), (1, .int (nI b))] [.int (nI 0)]
    refine r_if_eq K dX6_wetCells_17 24 (0 = 0) (n0_eq (by omega)) (by decide) (fun c_17 => ?_) (fun c_17 => ?_)
    · skip
      refine r_aload_n K dX6_wetCells_24 0 rfl rfl ?_
      refine r_iload_n K dX6_wetCells_25 1 rfl rfl ?_
      refine r_aload_n K dX6_wetCells_26 0 rfl rfl ?_
      refine r_get (v := .ref (ad 21 10)) K fd_X6_37 rfl rfl rfl dX6_wetCells_27 ?_
      refine r_iload_n K dX6_wetCells_30 1 rfl rfl ?_
      refine r_iald (j := b) (v := nI (τ 4 b 0)) K rfl rfl rfl (by omega) (by decide) rfl dX6_wetCells_31 ?_
      refine r_callV (st := []) K (k_X6_wet (b := b) (v := τ 4 b 0) hl I (by first | exact hb | exact hk | exact hj | exact hw | omega | assumption) (by have := (Q.2.1.1 b).2; omega)) cw_X6_182 wd_1593 wd_38 (by decide) (by decide) rfl rfl rfl rfl (Nat.le_of_ble_eq_true rfl) (by decide) (by decide) dX6_wetCells_32 ?_
      rintro _ _ _ ⟨rfl, rfl, rfl⟩
      show WW g z 2 0 0 ad (Wz z ad σ (su τ 72 0 0 0) o) 35 [(0, .ref (ad 20 0)), (1, .int (nI b))] [.int (nI (wn (τ 2 b) (τ 1 b 6) (τ 4 b 0) (τ 1 b 6)))]
      exact r_iret K (by decide) (by decide) (okM_r Q2 (Eq.symm (by unfold cB; exact if_pos c_6)) (by rw [jN_n (by omega)])) dX6_wetCells_35
    · skip
      exfalso; omega
  · skip
    refine r_iconst (v := nI 1) K dX6_wetCells_9 (by decide) ?_
    refine r_goto K dX6_wetCells_10 14 (by decide) ?_
    refine r_callV (st := []) K (k_X6_fails (c := 1) hl (by omega)) cw_X6_114 wd_1438 wd_24 (by decide) (by decide) rfl rfl rfl rfl (Nat.le_of_ble_eq_true rfl) (by decide) (by decide) dX6_wetCells_14 ?_
    rintro _ _ _ ⟨rfl, rfl, rfl⟩
    show WW g z 2 0 0 ad (Wz z ad σ (su τ 72 0 0 1) o) 17 [(0, .ref (ad 20 0)), (1, .int (x))] [.int (nI 1)]
    refine r_if_eq K dX6_wetCells_17 24 (1 = 0) (n0_eq (by omega)) (by decide) (fun c_17 => ?_) (fun c_17 => ?_)
    · skip
      exfalso; omega
    · skip
      refine r_iconst (v := nI 0) K dX6_wetCells_20 (by decide) ?_
      refine r_goto K dX6_wetCells_21 35 (by decide) ?_
      exact r_iret K (by decide) (by decide) (okM_f (c := 0) Q2 (by unfold cB; exact (if_neg c_6).symm)) dX6_wetCells_35
set_option maxRecDepth 100000 in
set_option maxHeartbeats 4000000 in
theorem k_X6_wetHours {z : Zx} {l : Launch} {σ τ : Sg} {o : Int64 × UInt64} {ad : Nm} (hl : l.stackTraces = false) {x y : Int32} (Q : IR τ) (Q2 : IMo τ) : Ko z l yX6_wetHours cX6_wetHours 5 (some .int) 7 0 0 [.ref (ad 20 0), .int (x), .int (y)] ad (Wz z ad σ τ o) (okM z ad σ o Value.int (cC τ x y) (nI (whr τ (jN x) (jN y) (τ 12 0 0))) τ) exNo := by
  refine ko_of hl (by decide +kernel) (Nat.le_of_ble_eq_true rfl) (fun g hg K => ?_)
  subst hg
  have I := Q.1
  have q0 := I.1.1
  have q1 := I.1.2.1
  have q2 := I.1.2.2.1
  have q3 := I.1.2.2.2.1
  have q4 := I.1.2.2.2.2.1
  show WW g z 5 0 0 ad (Wz z ad σ τ o) 0 [(0, .ref (ad 20 0)), (1, .int (x)), (2, .int (y))] []
  refine r_aload_n K dX6_wetHours_0 0 rfl rfl ?_
  refine r_aload_n K dX6_wetHours_1 0 rfl rfl ?_
  refine r_iload_n K dX6_wetHours_2 1 rfl rfl ?_
  refine r_iload_n K dX6_wetHours_3 2 rfl rfl ?_
  refine r_callV (st := [.ref (ad 20 0)]) K (k_X6_isNoCell (x := x) (y := y) hl I) cw_X6_168 wd_1561 wd_33 (by decide) (by decide) rfl rfl rfl rfl (Nat.le_of_ble_eq_true rfl) (by decide) (by decide) dX6_wetHours_4 ?_
  rintro _ _ _ ⟨rfl, rfl, rfl⟩
  show WW g z 5 0 0 ad (Wz z ad σ τ o) 7 [(0, .ref (ad 20 0)), (1, .int (x)), (2, .int (y))] [.int (pI (¬ (in0 x (τ 0 0 0) ∧ in0 y (τ 1 (jN x) 6)))), .ref (ad 20 0)]
  refine r_if_eq K dX6_wetHours_7 14 ((in0 x (τ 0 0 0) ∧ in0 y (τ 1 (jN x) 6))) pI_n0 (by decide) (fun c_7 => ?_) (fun c_7 => ?_)
  · skip
    have c1 := c_7.1
    have c2 := c_7.2
    obtain ⟨b, hb, rfl⟩ := (in0_iff (by omega)).mp c1
    obtain ⟨-, -, -, hs, hs5, hs7⟩ := I.2.1 b hb
    have q8 := hs.2.1
    rw [jN_n (by omega)] at c2
    obtain ⟨c, hc, rfl⟩ := (in0_iff (by omega)).mp c2
    refine r_iconst (v := nI 0) K dX6_wetHours_14 (by decide) ?_
    refine r_callV (st := []) K (k_X6_fails (c := 0) hl (by omega)) cw_X6_114 wd_1438 wd_24 (by decide) (by decide) rfl rfl rfl rfl (Nat.le_of_ble_eq_true rfl) (by decide) (by decide) dX6_wetHours_15 ?_
    rintro _ _ _ ⟨rfl, rfl, rfl⟩
    show WW g z 5 0 0 ad (Wz z ad σ (su τ 72 0 0 0) o) 18 [(0, .ref (ad 20 0)), (1, .int (nI b)), (2, .int (nI c))] [.int (nI 0)]
    refine r_if_eq K dX6_wetHours_18 23 (0 = 0) (n0_eq (by omega)) (by decide) (fun c_18 => ?_) (fun c_18 => ?_)
    · skip
      refine r_iconst (v := nI 0) K dX6_wetHours_23 (by decide) ?_
      refine r_istore_n (lv' := [(3, .int (nI 0)), (0, .ref (ad 20 0)), (1, .int (nI b)), (2, .int (nI c))]) K dX6_wetHours_24 rfl (by decide) rfl ?_
      refine r_iconst (v := nI 1) K dX6_wetHours_25 (by decide) ?_
      refine r_istore (lv' := [(4, .int (nI 1)), (3, .int (nI 0)), (0, .ref (ad 20 0)), (1, .int (nI b)), (2, .int (nI c))]) K dX6_wetHours_26 (by decide) rfl ?_
      have lp : ∀ (fuel : Nat) (i : Nat), τ 12 0 0 - i < fuel → i ≤ τ 12 0 0 → WW g z 5 0 0 ad (Wz z ad σ (su τ 72 0 0 0) o) 28 [(0, .ref (ad 20 0)), (1, .int (nI b)), (2, .int (nI c)), (3, .int (nI (whr τ b c i))), (4, .int (nI (i + 1)))] [] := by
        intro fuel
        induction fuel with
        | zero => intro i hf h1; exact absurd hf (Nat.not_lt_zero _)
        | succ fuel ih_lp =>
          intro i hf h1
          refine r_iload K dX6_wetHours_28 4 rfl ?_
          refine r_aload_n K dX6_wetHours_30 0 rfl rfl ?_
          refine r_get (v := .int (nI (τ 12 0 0))) K fd_X6_120 rfl rfl rfl dX6_wetHours_31 ?_
          refine r_icmp_gt K dX6_wetHours_34 62 (τ 12 0 0 < i + 1) (nI_ltI (by omega) (by omega)) (by decide) (fun c_34 => ?_) (fun c_34 => ?_)
          · skip
            refine r_iload_n K dX6_wetHours_62 3 rfl rfl ?_
            exact r_iret K (by decide) (by decide) (okM_r Q2 (Eq.symm (by unfold cC; exact if_pos c_7)) (by rw [jN_n (by omega), jN_n (by omega), show i = τ 12 0 0 by omega])) dX6_wetHours_63
          · skip
            have hi : i < τ 12 0 0 := by omega
            have gh := hs7 (i + 1)
            have hh2 : 1 ≤ i + 1 ∧ i + 1 ≤ 60 := ⟨by omega, by omega⟩
            have gd : dpC τ b c (τ 7 b (i + 1)) ≤ τ 7 b (i + 1) + 31 := dpt_le hs
            refine r_iload_n K dX6_wetHours_37 3 rfl rfl ?_
            refine r_aload_n K dX6_wetHours_38 0 rfl rfl ?_
            refine r_iload_n K dX6_wetHours_39 1 rfl rfl ?_
            refine r_iload_n K dX6_wetHours_40 2 rfl rfl ?_
            refine r_iload K dX6_wetHours_41 4 rfl ?_
            refine r_callV (st := [.int (nI (whr τ b c i))]) K (k_X6_then (b := b) (c := c) (h := i + 1) hl I (by first | exact hb | exact hk | exact hj | exact hw | omega | assumption) (by first | exact hb | exact hk | exact hj | exact hw | omega | assumption) (by first | exact hb | exact hk | exact hj | exact hw | omega | assumption)) cw_X6_179 wd_1585 wd_37 (by decide) (by decide) rfl rfl rfl rfl (Nat.le_of_ble_eq_true rfl) (by decide) (by decide) dX6_wetHours_43 ?_
            rintro _ _ _ ⟨rfl, rfl, rfl⟩
            show WW g z 5 0 0 ad (Wz z ad σ (su τ 72 0 0 0) o) 46 [(0, .ref (ad 20 0)), (1, .int (nI b)), (2, .int (nI c)), (3, .int (nI (whr τ b c i))), (4, .int (nI (i + 1)))] [.int (nI (dpC τ b c (τ 7 b (i + 1)))), .int (nI (whr τ b c i))]
            refine r_if_le K dX6_wetHours_46 53 (dpC τ b c (τ 7 b (i + 1)) = 0) (n0_le (by omega)) (by decide) (fun c_46 => ?_) (fun c_46 => ?_)
            · skip
              refine r_iconst (v := nI 0) K dX6_wetHours_53 (by decide) ?_
              refine r_iadd (v := nI ((whr τ b c i) + 0)) K dX6_wetHours_54 (nI_add _ _) ?_
              refine r_eq (st' := [.int (nI (whr τ b c (i + 1)))]) rfl rfl rfl (by rw [whr_f (by omega)]; rfl) ?_
              refine r_istore_n (lv' := [(3, .int (nI (whr τ b c (i + 1)))), (0, .ref (ad 20 0)), (1, .int (nI b)), (2, .int (nI c)), (4, .int (nI (i + 1)))]) K dX6_wetHours_55 rfl (by decide) rfl ?_
              refine r_iinc (v := nI (i + 1 + 1)) (lv' := [(4, .int (nI (i + 1 + 1))), (3, .int (nI (whr τ b c (i + 1)))), (0, .ref (ad 20 0)), (1, .int (nI b)), (2, .int (nI c))]) K dX6_wetHours_56 4 rfl (ic_1 _) (by decide) rfl ?_
              refine r_goto K dX6_wetHours_59 28 (by decide) ?_
              refine r_lv (lv' := [(0, .ref (ad 20 0)), (1, .int (nI b)), (2, .int (nI c)), (3, .int (nI (whr τ b c (i + 1)))), (4, .int (nI (i + 1 + 1)))]) [2, 3, 4, 1, 0] rfl ?_
              exact ih_lp (i + 1) (by omega) (by omega)
            · skip
              refine r_iconst (v := nI 1) K dX6_wetHours_49 (by decide) ?_
              refine r_goto K dX6_wetHours_50 54 (by decide) ?_
              refine r_iadd (v := nI ((whr τ b c i) + 1)) K dX6_wetHours_54 (nI_add _ _) ?_
              refine r_eq (st' := [.int (nI (whr τ b c (i + 1)))]) rfl rfl rfl (by rw [whr_t (by omega)]) ?_
              refine r_istore_n (lv' := [(3, .int (nI (whr τ b c (i + 1)))), (0, .ref (ad 20 0)), (1, .int (nI b)), (2, .int (nI c)), (4, .int (nI (i + 1)))]) K dX6_wetHours_55 rfl (by decide) rfl ?_
              refine r_iinc (v := nI (i + 1 + 1)) (lv' := [(4, .int (nI (i + 1 + 1))), (3, .int (nI (whr τ b c (i + 1)))), (0, .ref (ad 20 0)), (1, .int (nI b)), (2, .int (nI c))]) K dX6_wetHours_56 4 rfl (ic_1 _) (by decide) rfl ?_
              refine r_goto K dX6_wetHours_59 28 (by decide) ?_
              refine r_lv (lv' := [(0, .ref (ad 20 0)), (1, .int (nI b)), (2, .int (nI c)), (3, .int (nI (whr τ b c (i + 1)))), (4, .int (nI (i + 1 + 1)))]) [2, 3, 4, 1, 0] rfl ?_
              exact ih_lp (i + 1) (by omega) (by omega)
      refine r_lv (lv' := [(0, .ref (ad 20 0)), (1, .int (nI b)), (2, .int (nI c)), (3, .int (nI 0)), (4, .int (nI 1))]) [2, 3, 4, 1, 0] rfl ?_
      exact lp (τ 12 0 0 - (0) + 1) 0 (by omega) (by omega)
    · skip
      exfalso; omega
  · skip
    refine r_iconst (v := nI 1) K dX6_wetHours_10 (by decide) ?_
    refine r_goto K dX6_wetHours_11 15 (by decide) ?_
    refine r_callV (st := []) K (k_X6_fails (c := 1) hl (by omega)) cw_X6_114 wd_1438 wd_24 (by decide) (by decide) rfl rfl rfl rfl (Nat.le_of_ble_eq_true rfl) (by decide) (by decide) dX6_wetHours_15 ?_
    rintro _ _ _ ⟨rfl, rfl, rfl⟩
    show WW g z 5 0 0 ad (Wz z ad σ (su τ 72 0 0 1) o) 18 [(0, .ref (ad 20 0)), (1, .int (x)), (2, .int (y))] [.int (nI 1)]
    refine r_if_eq K dX6_wetHours_18 23 (1 = 0) (n0_eq (by omega)) (by decide) (fun c_18 => ?_) (fun c_18 => ?_)
    · skip
      exfalso; omega
    · skip
      refine r_iconst (v := nI 0) K dX6_wetHours_21 (by decide) ?_
      exact r_iret K (by decide) (by decide) (okM_f (c := 0) Q2 (by unfold cC; exact (if_neg c_7).symm)) dX6_wetHours_22
set_option maxRecDepth 100000 in
set_option maxHeartbeats 4000000 in
theorem k_X6_floodedSoFar {z : Zx} {l : Launch} {σ τ : Sg} {o : Int64 × UInt64} {ad : Nm} (hl : l.stackTraces = false) (Q : IR τ) (Q2 : IMo τ) : Ko z l yX6_floodedSoFar cX6_floodedSoFar 4 (some .int) 7 0 0 [.ref (ad 20 0)] ad (Wz z ad σ τ o) (okM z ad σ o Value.int 0 (nI (fld τ (τ 12 0 0))) τ) exNo := by
  refine ko_of hl (by decide +kernel) (Nat.le_of_ble_eq_true rfl) (fun g hg K => ?_)
  subst hg
  have I := Q.1
  have q0 := I.1.1
  have q1 := I.1.2.1
  have q2 := I.1.2.2.1
  have q3 := I.1.2.2.2.1
  have q4 := I.1.2.2.2.2.1
  show WW g z 4 0 0 ad (Wz z ad σ τ o) 0 [(0, .ref (ad 20 0))] []
  refine r_aload_n K dX6_floodedSoFar_0 0 rfl rfl ?_
  refine r_iconst (v := nI 0) K dX6_floodedSoFar_1 (by decide) ?_
  refine r_put K fd_X6_97 rfl rfl rfl rfl (Nat.le_of_ble_eq_true rfl) rfl dX6_floodedSoFar_2 ?_
  refine r_mu (u_20_37) ?_
  show WW g z 4 0 0 ad (Wz z ad σ (su τ 72 0 0 0) o) 5 [(0, .ref (ad 20 0))] []
  refine r_iconst (v := nI 0) K dX6_floodedSoFar_5 (by decide) ?_
  refine r_istore_n (lv' := [(1, .int (nI 0)), (0, .ref (ad 20 0))]) K dX6_floodedSoFar_6 rfl (by decide) rfl ?_
  refine r_iconst (v := nI 0) K dX6_floodedSoFar_7 (by decide) ?_
  refine r_istore_n (lv' := [(2, .int (nI 0)), (1, .int (nI 0)), (0, .ref (ad 20 0))]) K dX6_floodedSoFar_8 rfl (by decide) rfl ?_
  have lp : ∀ (fuel : Nat) (i : Nat), τ 12 0 0 - i < fuel → i ≤ τ 12 0 0 → WW g z 4 0 0 ad (Wz z ad σ (su τ 72 0 0 0) o) 9 [(0, .ref (ad 20 0)), (1, .int (nI (fld τ i))), (2, .int (nI i))] [] := by
    intro fuel
    induction fuel with
    | zero => intro i hf h1; exact absurd hf (Nat.not_lt_zero _)
    | succ fuel ih_lp =>
      intro i hf h1
      refine r_iload_n K dX6_floodedSoFar_9 2 rfl rfl ?_
      refine r_aload_n K dX6_floodedSoFar_10 0 rfl rfl ?_
      refine r_get (v := .int (nI (τ 12 0 0))) K fd_X6_120 rfl rfl rfl dX6_floodedSoFar_11 ?_
      refine r_icmp_ge K dX6_floodedSoFar_14 58 (τ 12 0 0 ≤ i) (nI_leI (by omega) (by omega)) (by decide) (fun c_14 => ?_) (fun c_14 => ?_)
      · skip
        refine r_iload_n K dX6_floodedSoFar_58 1 rfl rfl ?_
        exact r_iret K (by decide) (by decide) (okM_r Q2 rfl (by rw [show i = τ 12 0 0 by omega])) dX6_floodedSoFar_59
      · skip
        refine r_iconst (v := nI 0) K dX6_floodedSoFar_17 (by decide) ?_
        refine r_istore_n (lv' := [(3, .int (nI 0)), (0, .ref (ad 20 0)), (1, .int (nI (fld τ i))), (2, .int (nI i))]) K dX6_floodedSoFar_18 rfl (by decide) rfl ?_
        have lq : ∀ (fuel : Nat) (j : Nat), τ 0 0 0 - j < fuel → j ≤ τ 0 0 0 → WW g z 4 0 0 ad (Wz z ad σ (su τ 72 0 0 0) o) 19 [(0, .ref (ad 20 0)), (1, .int (nI (fld τ i + wsm (τ 2) (τ 1) (fun b => τ 7 b (i + 1)) j))), (2, .int (nI i)), (3, .int (nI j))] [] := by
          intro fuel
          induction fuel with
          | zero => intro j hf h2; exact absurd hf (Nat.not_lt_zero _)
          | succ fuel ih_lq =>
            intro j hf h2
            refine r_iload_n K dX6_floodedSoFar_19 3 rfl rfl ?_
            refine r_aload_n K dX6_floodedSoFar_20 0 rfl rfl ?_
            refine r_get (v := .int (nI (τ 0 0 0))) K fd_X6_100 rfl rfl rfl dX6_floodedSoFar_21 ?_
            refine r_icmp_ge K dX6_floodedSoFar_24 52 (τ 0 0 0 ≤ j) (nI_leI (by omega) (by omega)) (by decide) (fun c_24 => ?_) (fun c_24 => ?_)
            · skip
              refine r_eq (lv' := [(0, .ref (ad 20 0)), (1, .int (nI (fld τ (i + 1)))), (2, .int (nI i)), (3, .int (nI j))]) rfl rfl (by rw [show j = τ 0 0 0 by omega]; rfl) rfl ?_
              refine r_iinc (v := nI (i + 1)) (lv' := [(2, .int (nI (i + 1))), (0, .ref (ad 20 0)), (1, .int (nI (fld τ (i + 1)))), (3, .int (nI j))]) K dX6_floodedSoFar_52 2 rfl (ic_1 _) (by decide) rfl ?_
              refine r_goto K dX6_floodedSoFar_55 9 (by decide) ?_
              refine r_lv (lv' := [(0, .ref (ad 20 0)), (1, .int (nI (fld τ (i + 1)))), (2, .int (nI (i + 1)))]) [1, 2, 0] rfl ?_
              exact ih_lp (i + 1) (by omega) (by omega)
            · skip
              have hj : j < τ 0 0 0 := by omega
              have g7 := (I.2.1 j hj).2.2.2.2.2 (i + 1)
              refine r_iload_n K dX6_floodedSoFar_27 1 rfl rfl ?_
              refine r_aload_n K dX6_floodedSoFar_28 0 rfl rfl ?_
              refine r_iload_n K dX6_floodedSoFar_29 3 rfl rfl ?_
              refine r_aload_n K dX6_floodedSoFar_30 0 rfl rfl ?_
              refine r_get (v := .ref (ad 21 24)) K fd_X6_68 rfl rfl rfl dX6_floodedSoFar_31 ?_
              refine r_bipush (v := nI 6) K dX6_floodedSoFar_34 (by decide) ?_
              refine r_iload_n K dX6_floodedSoFar_36 2 rfl rfl ?_
              refine r_imul (v := nI (6 * i)) K dX6_floodedSoFar_37 (pk_mul _ _) ?_
              refine r_iload_n K dX6_floodedSoFar_38 3 rfl rfl ?_
              refine r_iadd (v := nI ((6 * i) + j)) K dX6_floodedSoFar_39 (nI_add _ _) ?_
              refine r_iald (j := (6 * i) + j) (v := nI (τ 7 j (i + 1))) K rfl rfl rfl (by omega) (by decide) (by show nI _ = nI _; rw [show ((6 * i) + j) % 6 = j by omega, show ((6 * i) + j) / 6 + 1 = i + 1 by omega]; try (first | rfl | (repeat first | rw [su_s] | rw [su_n (by omega)]))) dX6_floodedSoFar_40 ?_
              refine r_callV (st := [.int (nI (fld τ i + wsm (τ 2) (τ 1) (fun b => τ 7 b (i + 1)) j))]) K (k_X6_wet (b := j) (v := τ 7 j (i + 1)) hl I (by first | exact hb | exact hk | exact hj | exact hw | omega | assumption) (by omega)) cw_X6_182 wd_1593 wd_38 (by decide) (by decide) rfl rfl rfl rfl (Nat.le_of_ble_eq_true rfl) (by decide) (by decide) dX6_floodedSoFar_41 ?_
              rintro _ _ _ ⟨rfl, rfl, rfl⟩
              show WW g z 4 0 0 ad (Wz z ad σ (su τ 72 0 0 0) o) 44 [(0, .ref (ad 20 0)), (1, .int (nI (fld τ i + wsm (τ 2) (τ 1) (fun b => τ 7 b (i + 1)) j))), (2, .int (nI i)), (3, .int (nI j))] [.int (nI (wn (τ 2 j) (τ 1 j 6) (τ 7 j (i + 1)) (τ 1 j 6))), .int (nI (fld τ i + wsm (τ 2) (τ 1) (fun b => τ 7 b (i + 1)) j))]
              refine r_iadd (v := nI ((fld τ i + wsm (τ 2) (τ 1) (fun b => τ 7 b (i + 1)) j) + (wn (τ 2 j) (τ 1 j 6) (τ 7 j (i + 1)) (τ 1 j 6)))) K dX6_floodedSoFar_44 (nI_add _ _) ?_
              refine r_eq (st' := [.int (nI (fld τ i + wsm (τ 2) (τ 1) (fun b => τ 7 b (i + 1)) (j + 1)))]) rfl rfl rfl (by rw [wsm, Nat.add_assoc]) ?_
              refine r_istore_n (lv' := [(1, .int (nI (fld τ i + wsm (τ 2) (τ 1) (fun b => τ 7 b (i + 1)) (j + 1)))), (0, .ref (ad 20 0)), (2, .int (nI i)), (3, .int (nI j))]) K dX6_floodedSoFar_45 rfl (by decide) rfl ?_
              refine r_iinc (v := nI (j + 1)) (lv' := [(3, .int (nI (j + 1))), (1, .int (nI (fld τ i + wsm (τ 2) (τ 1) (fun b => τ 7 b (i + 1)) (j + 1)))), (0, .ref (ad 20 0)), (2, .int (nI i))]) K dX6_floodedSoFar_46 3 rfl (ic_1 _) (by decide) rfl ?_
              refine r_goto K dX6_floodedSoFar_49 19 (by decide) ?_
              refine r_lv (lv' := [(0, .ref (ad 20 0)), (1, .int (nI (fld τ i + wsm (τ 2) (τ 1) (fun b => τ 7 b (i + 1)) (j + 1)))), (2, .int (nI i)), (3, .int (nI (j + 1)))]) [2, 1, 3, 0] rfl ?_
              exact ih_lq (j + 1) (by omega) (by omega)
        refine r_lv (lv' := [(0, .ref (ad 20 0)), (1, .int (nI (fld τ i))), (2, .int (nI i)), (3, .int (nI 0))]) [1, 2, 3, 0] rfl ?_
        exact lq (τ 0 0 0 - (0) + 1) 0 (by omega) (by omega)
  refine r_lv (lv' := [(0, .ref (ad 20 0)), (1, .int (nI 0)), (2, .int (nI 0))]) [2, 1, 0] rfl ?_
  exact lp (τ 12 0 0 - (0) + 1) 0 (by omega) (by omega)
set_option maxRecDepth 100000 in
set_option maxHeartbeats 4000000 in
theorem k_X6_worthOf {z : Zx} {l : Launch} {σ τ : Sg} {o : Int64 × UInt64} {ad : Nm} (hl : l.stackTraces = false) {x t : Int32} (Q : IR τ) (Q2 : IMo τ) : Ko z l yX6_worthOf cX6_worthOf 3 (some .int) 7 0 0 [.ref (ad 20 0), .int (x), .int (t)] ad (Wz z ad σ τ o) (okM z ad σ o Value.int (cKh τ x t) (nI (wor τ (jN x) (jN t))) τ) exNo := by
  refine ko_of hl (by decide +kernel) (Nat.le_of_ble_eq_true rfl) (fun g hg K => ?_)
  subst hg
  have I := Q.1
  have q0 := I.1.1
  have q1 := I.1.2.1
  have q2 := I.1.2.2.1
  have q3 := I.1.2.2.2.1
  have q4 := I.1.2.2.2.2.1
  show WW g z 3 0 0 ad (Wz z ad σ τ o) 0 [(0, .ref (ad 20 0)), (1, .int (x)), (2, .int (t))] []
  refine r_aload_n K dX6_worthOf_0 0 rfl rfl ?_
  refine r_iload_n K dX6_worthOf_1 1 rfl rfl ?_
  refine r_iload_n K dX6_worthOf_2 2 rfl rfl ?_
  refine r_callV (st := []) K (k_X6_isNoHour (x := x) (h := t) hl) cw_X6_188 wd_1617 wd_39 (by decide) (by decide) rfl rfl rfl rfl (Nat.le_of_ble_eq_true rfl) (by decide) (by decide) dX6_worthOf_3 ?_
  rintro _ _ _ ⟨rfl, rfl, rfl⟩
  show WW g z 3 0 0 ad (Wz z ad σ (su τ 72 0 0 (cKh τ x t)) o) 6 [(0, .ref (ad 20 0)), (1, .int (x)), (2, .int (t))] [.int (pI (¬ (in0 x (τ 0 2 0) ∧ inR t 1 (τ 12 0 0))))]
  refine r_if_eq K dX6_worthOf_6 13 ((in0 x (τ 0 2 0) ∧ inR t 1 (τ 12 0 0))) pI_n0 (by decide) (fun c_6 => ?_) (fun c_6 => ?_)
  · skip
    have c1 := c_6.1
    have c2 := c_6.2
    obtain ⟨k, hk, rfl⟩ := (in0_iff (by omega)).mp c1
    obtain ⟨h, hh, rfl⟩ := (inR_iff (by decide) (by omega)).mp c2
    have hh2 : 1 ≤ h ∧ h ≤ 60 := ⟨hh.1, by omega⟩
    have gw := wor_le I hk h
    refine r_aload_n K dX6_worthOf_13 0 rfl rfl ?_
    refine r_iload_n K dX6_worthOf_14 1 rfl rfl ?_
    refine r_iload_n K dX6_worthOf_15 2 rfl rfl ?_
    refine r_callV (st := []) K (k_X6_worth (k := k) (h := h) hl I (by exact hk) (by first | exact hh2 | omega)) cw_X6_191 wd_1625 wd_41 (by decide) (by decide) rfl rfl rfl rfl (Nat.le_of_ble_eq_true rfl) (by decide) (by decide) dX6_worthOf_16 ?_
    rintro _ _ _ ⟨rfl, rfl, rfl⟩
    show WW g z 3 0 0 ad (Wz z ad σ (su τ 72 0 0 (cKh τ (nI k) (nI h))) o) 19 [(0, .ref (ad 20 0)), (1, .int (nI k)), (2, .int (nI h))] [.int (nI (wor τ k h))]
    exact r_iret K (by decide) (by decide) (okM_r Q2 rfl (by rw [jN_n (by omega), jN_n (by omega)])) dX6_worthOf_19
  · skip
    refine r_iconst (v := nI 0) K dX6_worthOf_9 (by decide) ?_
    refine r_goto K dX6_worthOf_10 19 (by decide) ?_
    exact r_iret K (by decide) (by decide) ⟨_, rfl, fun h => absurd (cKh_0 h) c_6, rfl, _, rfl, agr.rf.sx (by decide), Q2, rfl⟩ dX6_worthOf_19
set_option maxRecDepth 100000 in
set_option maxHeartbeats 4000000 in
theorem k_X6_wasWet {z : Zx} {l : Launch} {σ τ : Sg} {o : Int64 × UInt64} {ad : Nm} (hl : l.stackTraces = false) {x t : Int32} (Q : IR τ) (Q2 : IMo τ) : Ko z l yX6_wasWet cX6_wasWet 3 (some .boolean) 7 0 0 [.ref (ad 20 0), .int (x), .int (t)] ad (Wz z ad σ τ o) (okM z ad σ o Value.int (cKh τ x t) (pI (0 < dpC τ (τ 9 (jN x) 0) (τ 9 (jN x) 1) (τ 7 (τ 9 (jN x) 0) (jN t)))) τ) exNo := by
  refine ko_of hl (by decide +kernel) (Nat.le_of_ble_eq_true rfl) (fun g hg K => ?_)
  subst hg
  have I := Q.1
  have q0 := I.1.1
  have q1 := I.1.2.1
  have q2 := I.1.2.2.1
  have q3 := I.1.2.2.2.1
  have q4 := I.1.2.2.2.2.1
  show WW g z 3 0 0 ad (Wz z ad σ τ o) 0 [(0, .ref (ad 20 0)), (1, .int (x)), (2, .int (t))] []
  refine r_aload_n K dX6_wasWet_0 0 rfl rfl ?_
  refine r_iload_n K dX6_wasWet_1 1 rfl rfl ?_
  refine r_iload_n K dX6_wasWet_2 2 rfl rfl ?_
  refine r_callV (st := []) K (k_X6_isNoHour (x := x) (h := t) hl) cw_X6_188 wd_1617 wd_39 (by decide) (by decide) rfl rfl rfl rfl (Nat.le_of_ble_eq_true rfl) (by decide) (by decide) dX6_wasWet_3 ?_
  rintro _ _ _ ⟨rfl, rfl, rfl⟩
  show WW g z 3 0 0 ad (Wz z ad σ (su τ 72 0 0 (cKh τ x t)) o) 6 [(0, .ref (ad 20 0)), (1, .int (x)), (2, .int (t))] [.int (pI (¬ (in0 x (τ 0 2 0) ∧ inR t 1 (τ 12 0 0))))]
  refine r_if_ne K dX6_wasWet_6 22 ((in0 x (τ 0 2 0) ∧ inR t 1 (τ 12 0 0))) pI_n0 (by decide) (fun c_6 => ?_) (fun c_6 => ?_)
  · skip
    refine r_iconst (v := nI 0) K dX6_wasWet_22 (by decide) ?_
    exact r_zret K (by first | rfl | decide | exact pI_nar) (by decide) (by decide) ⟨_, rfl, fun h => absurd (cKh_0 h) c_6, rfl, _, rfl, agr.rf.sx (by decide), Q2, rfl⟩ dX6_wasWet_23
  · skip
    have c1 := c_6.1
    have c2 := c_6.2
    obtain ⟨k, hk, rfl⟩ := (in0_iff (by omega)).mp c1
    obtain ⟨h, hh, rfl⟩ := (inR_iff (by decide) (by omega)).mp c2
    have hh2 : 1 ≤ h ∧ h ≤ 60 := ⟨hh.1, by omega⟩
    have gw := wor_le I hk h
    refine r_aload_n K dX6_wasWet_9 0 rfl rfl ?_
    refine r_iload_n K dX6_wasWet_10 1 rfl rfl ?_
    refine r_iload_n K dX6_wasWet_11 2 rfl rfl ?_
    refine r_callV (st := []) K (k_X6_worth (k := k) (h := h) hl I (by exact hk) (by first | exact hh2 | omega)) cw_X6_191 wd_1625 wd_41 (by decide) (by decide) rfl rfl rfl rfl (Nat.le_of_ble_eq_true rfl) (by decide) (by decide) dX6_wasWet_12 ?_
    rintro _ _ _ ⟨rfl, rfl, rfl⟩
    show WW g z 3 0 0 ad (Wz z ad σ (su τ 72 0 0 (cKh τ (nI k) (nI h))) o) 15 [(0, .ref (ad 20 0)), (1, .int (nI k)), (2, .int (nI h))] [.int (nI (wor τ k h))]
    refine r_if_le K dX6_wasWet_15 22 (wor τ k h = 0) (n0_le (by omega)) (by decide) (fun c_15 => ?_) (fun c_15 => ?_)
    · skip
      refine r_iconst (v := nI 0) K dX6_wasWet_22 (by decide) ?_
      exact r_zret K (by first | rfl | decide | exact pI_nar) (by decide) (by decide) (okM_r Q2 rfl (by rw [jN_n (by omega), jN_n (by omega)]; exact pI_f (fun q => absurd (pos_wor I hk q) (by omega)))) dX6_wasWet_23
    · skip
      refine r_iconst (v := nI 1) K dX6_wasWet_18 (by decide) ?_
      refine r_goto K dX6_wasWet_19 23 (by decide) ?_
      exact r_zret K (by first | rfl | decide | exact pI_nar) (by decide) (by decide) (okM_r Q2 rfl (by rw [jN_n (by omega), jN_n (by omega)]; exact pI_t (wor_pos I hk (Nat.pos_of_ne_zero c_15)))) dX6_wasWet_23
set_option maxRecDepth 100000 in
set_option maxHeartbeats 4000000 in
theorem k_X6_paidTo {z : Zx} {l : Launch} {σ τ : Sg} {o : Int64 × UInt64} {ad : Nm} (hl : l.stackTraces = false) {x : Int32} (Q : IR τ) (Q2 : IMo τ) : Ko z l yX6_paidTo cX6_paidTo 2 (some .int) 7 0 0 [.ref (ad 20 0), .int (x)] ad (Wz z ad σ τ o) (okM z ad σ o Value.int (cK τ x) (nI (τ 9 (jN x) 4)) τ) exNo := by
  refine ko_of hl (by decide +kernel) (Nat.le_of_ble_eq_true rfl) (fun g hg K => ?_)
  subst hg
  have I := Q.1
  have q0 := I.1.1
  have q1 := I.1.2.1
  have q2 := I.1.2.2.1
  have q3 := I.1.2.2.2.1
  have q4 := I.1.2.2.2.2.1
  show WW g z 2 0 0 ad (Wz z ad σ τ o) 0 [(0, .ref (ad 20 0)), (1, .int (x))] []
  refine r_aload_n K dX6_paidTo_0 0 rfl rfl ?_
  refine r_aload_n K dX6_paidTo_1 0 rfl rfl ?_
  refine r_iload_n K dX6_paidTo_2 1 rfl rfl ?_
  refine r_callV (st := [.ref (ad 20 0)]) K (k_X6_isNoHouse (x := x) hl) cw_X6_185 wd_1621 wd_40 (by decide) (by decide) rfl rfl rfl rfl (Nat.le_of_ble_eq_true rfl) (by decide) (by decide) dX6_paidTo_3 ?_
  rintro _ _ _ ⟨rfl, rfl, rfl⟩
  show WW g z 2 0 0 ad (Wz z ad σ τ o) 6 [(0, .ref (ad 20 0)), (1, .int (x))] [.int (pI (¬ in0 x (τ 0 2 0))), .ref (ad 20 0)]
  refine r_if_eq K dX6_paidTo_6 13 (in0 x (τ 0 2 0)) pI_n0 (by decide) (fun c_6 => ?_) (fun c_6 => ?_)
  · skip
    obtain ⟨k, hk, rfl⟩ := (in0_iff (by omega)).mp c_6
    refine r_iconst (v := nI 0) K dX6_paidTo_13 (by decide) ?_
    refine r_callV (st := []) K (k_X6_fails (c := 0) hl (by omega)) cw_X6_114 wd_1438 wd_24 (by decide) (by decide) rfl rfl rfl rfl (Nat.le_of_ble_eq_true rfl) (by decide) (by decide) dX6_paidTo_14 ?_
    rintro _ _ _ ⟨rfl, rfl, rfl⟩
    show WW g z 2 0 0 ad (Wz z ad σ (su τ 72 0 0 0) o) 17 [(0, .ref (ad 20 0)), (1, .int (nI k))] [.int (nI 0)]
    refine r_if_eq K dX6_paidTo_17 24 (0 = 0) (n0_eq (by omega)) (by decide) (fun c_17 => ?_) (fun c_17 => ?_)
    · skip
      refine r_aload_n K dX6_paidTo_24 0 rfl rfl ?_
      refine r_get (v := .ref (ad 21 30)) K fd_X6_83 rfl rfl rfl dX6_paidTo_25 ?_
      refine r_iload_n K dX6_paidTo_28 1 rfl rfl ?_
      refine r_iald (j := k) (v := nI (τ 9 k 4)) K rfl rfl rfl (by omega) (by decide) rfl dX6_paidTo_29 ?_
      exact r_iret K (by decide) (by decide) (okM_r Q2 (Eq.symm (by unfold cK; exact if_pos c_6)) (by rw [jN_n (by omega)])) dX6_paidTo_30
    · skip
      exfalso; omega
  · skip
    refine r_iconst (v := nI 1) K dX6_paidTo_9 (by decide) ?_
    refine r_goto K dX6_paidTo_10 14 (by decide) ?_
    refine r_callV (st := []) K (k_X6_fails (c := 1) hl (by omega)) cw_X6_114 wd_1438 wd_24 (by decide) (by decide) rfl rfl rfl rfl (Nat.le_of_ble_eq_true rfl) (by decide) (by decide) dX6_paidTo_14 ?_
    rintro _ _ _ ⟨rfl, rfl, rfl⟩
    show WW g z 2 0 0 ad (Wz z ad σ (su τ 72 0 0 1) o) 17 [(0, .ref (ad 20 0)), (1, .int (x))] [.int (nI 1)]
    refine r_if_eq K dX6_paidTo_17 24 (1 = 0) (n0_eq (by omega)) (by decide) (fun c_17 => ?_) (fun c_17 => ?_)
    · skip
      exfalso; omega
    · skip
      refine r_iconst (v := nI 0) K dX6_paidTo_20 (by decide) ?_
      refine r_goto K dX6_paidTo_21 30 (by decide) ?_
      exact r_iret K (by decide) (by decide) (okM_f (c := 0) Q2 (by unfold cK; exact (if_neg c_6).symm)) dX6_paidTo_30
set_option maxRecDepth 100000 in
set_option maxHeartbeats 4000000 in
theorem k_X6_paidTotal {z : Zx} {l : Launch} {σ τ : Sg} {o : Int64 × UInt64} {ad : Nm} (hl : l.stackTraces = false) (Q : IR τ) (Q2 : IMo τ) : Ko z l yX6_paidTotal cX6_paidTotal 1 (some .long) 7 0 0 [.ref (ad 20 0)] ad (Wz z ad σ τ o) (okM z ad σ o Value.long 0 (nJ (pdT τ)) τ) exNo := by
  refine ko_of hl (by decide +kernel) (Nat.le_of_ble_eq_true rfl) (fun g hg K => ?_)
  subst hg
  have I := Q.1
  have q0 := I.1.1
  have q1 := I.1.2.1
  have q2 := I.1.2.2.1
  have q3 := I.1.2.2.2.1
  have q4 := I.1.2.2.2.2.1
  show WW g z 1 0 0 ad (Wz z ad σ τ o) 0 [(0, .ref (ad 20 0))] []
  refine r_aload_n K dX6_paidTotal_0 0 rfl rfl ?_
  refine r_iconst (v := nI 0) K dX6_paidTotal_1 (by decide) ?_
  refine r_put K fd_X6_97 rfl rfl rfl rfl (Nat.le_of_ble_eq_true rfl) rfl dX6_paidTotal_2 ?_
  refine r_mu (u_20_37) ?_
  show WW g z 1 0 0 ad (Wz z ad σ (su τ 72 0 0 0) o) 5 [(0, .ref (ad 20 0))] []
  refine r_aload_n K dX6_paidTotal_5 0 rfl rfl ?_
  refine r_callV (st := []) K (k_X6_allPaid hl I) cw_X6_200 wd_1657 wd_43 (by decide) (by decide) rfl rfl rfl rfl (Nat.le_of_ble_eq_true rfl) (by decide) (by decide) dX6_paidTotal_6 ?_
  rintro _ _ _ ⟨rfl, rfl, rfl⟩
  show WW g z 1 0 0 ad (Wz z ad σ (su τ 72 0 0 0) o) 9 [(0, .ref (ad 20 0))] [.long (nJ (pdT τ))]
  exact r_lret K (by decide) (by decide) (okM_r Q2 rfl rfl) dX6_paidTotal_9
set_option maxRecDepth 100000 in
set_option maxHeartbeats 4000000 in
theorem k_X6_meanPayment {z : Zx} {l : Launch} {σ τ : Sg} {o : Int64 × UInt64} {ad : Nm} (hl : l.stackTraces = false) (Q : IR τ) (Q2 : IMo τ) : Ko z l yX6_meanPayment cX6_meanPayment 1 (some .double) 7 0 0 [.ref (ad 20 0)] ad (Wz z ad σ τ o) (okM z ad σ o Value.double (cM τ) (FP.ddiv (FP.l2d (nJ (pdT τ))) (FP.i2d (nI (clT τ)))) τ) exNo := by
  refine ko_of hl (by decide +kernel) (Nat.le_of_ble_eq_true rfl) (fun g hg K => ?_)
  subst hg
  have I := Q.1
  have q0 := I.1.1
  have q1 := I.1.2.1
  have q2 := I.1.2.2.1
  have q3 := I.1.2.2.2.1
  have q4 := I.1.2.2.2.2.1
  have g71 := clT_le I
  have g72 := Q2.1
  show WW g z 1 0 0 ad (Wz z ad σ τ o) 0 [(0, .ref (ad 20 0))] []
  refine r_aload_n K dX6_meanPayment_0 0 rfl rfl ?_
  refine r_aload_n K dX6_meanPayment_1 0 rfl rfl ?_
  refine r_get (v := .int (nI (τ 71 0 0))) K fd_X6_194 rfl rfl rfl dX6_meanPayment_2 ?_
  refine r_if_ne K dX6_meanPayment_5 12 (τ 71 0 0 = 0) (n0_eq (by omega)) (by decide) (fun c_5 => ?_) (fun c_5 => ?_)
  · skip
    refine r_iconst (v := nI 0) K dX6_meanPayment_12 (by decide) ?_
    refine r_callV (st := []) K (k_X6_fails (c := 0) hl (by omega)) cw_X6_114 wd_1438 wd_24 (by decide) (by decide) rfl rfl rfl rfl (Nat.le_of_ble_eq_true rfl) (by decide) (by decide) dX6_meanPayment_13 ?_
    rintro _ _ _ ⟨rfl, rfl, rfl⟩
    show WW g z 1 0 0 ad (Wz z ad σ (su τ 72 0 0 0) o) 16 [(0, .ref (ad 20 0))] [.int (nI 0)]
    refine r_if_eq K dX6_meanPayment_16 23 (0 = 0) (n0_eq (by omega)) (by decide) (fun c_16 => ?_) (fun c_16 => ?_)
    · skip
      refine r_aload_n K dX6_meanPayment_23 0 rfl rfl ?_
      refine r_callV (st := []) K (k_X6_allPaid hl I) cw_X6_200 wd_1657 wd_43 (by decide) (by decide) rfl rfl rfl rfl (Nat.le_of_ble_eq_true rfl) (by decide) (by decide) dX6_meanPayment_24 ?_
      rintro _ _ _ ⟨rfl, rfl, rfl⟩
      show WW g z 1 0 0 ad (Wz z ad σ (su τ 72 0 0 0) o) 27 [(0, .ref (ad 20 0))] [.long (nJ (pdT τ))]
      refine r_l2d K dX6_meanPayment_27 ?_
      refine r_aload_n K dX6_meanPayment_28 0 rfl rfl ?_
      refine r_get (v := .int (nI (τ 71 0 0))) K fd_X6_194 rfl rfl rfl dX6_meanPayment_29 ?_
      refine r_i2d K dX6_meanPayment_32 ?_
      refine r_ddiv K dX6_meanPayment_33 (mean_nn (by omega) (by omega)) ?_
      exact r_dret K (by decide) (by decide) (okM_r Q2 (Eq.symm (by unfold cM; rw [if_pos (by rw [← Q2.1]; exact c_5)])) (by rw [Q2.1])) dX6_meanPayment_34
    · skip
      exfalso; omega
  · skip
    refine r_iconst (v := nI 1) K dX6_meanPayment_8 (by decide) ?_
    refine r_goto K dX6_meanPayment_9 13 (by decide) ?_
    refine r_callV (st := []) K (k_X6_fails (c := 1) hl (by omega)) cw_X6_114 wd_1438 wd_24 (by decide) (by decide) rfl rfl rfl rfl (Nat.le_of_ble_eq_true rfl) (by decide) (by decide) dX6_meanPayment_13 ?_
    rintro _ _ _ ⟨rfl, rfl, rfl⟩
    show WW g z 1 0 0 ad (Wz z ad σ (su τ 72 0 0 1) o) 16 [(0, .ref (ad 20 0))] [.int (nI 1)]
    refine r_if_eq K dX6_meanPayment_16 23 (1 = 0) (n0_eq (by omega)) (by decide) (fun c_16 => ?_) (fun c_16 => ?_)
    · skip
      exfalso; omega
    · skip
      refine r_dconst0 K dX6_meanPayment_19 ?_
      refine r_goto K dX6_meanPayment_20 34 (by decide) ?_
      exact r_dret K (by decide) (by decide) (okM_f (c := 0) Q2 (by unfold cM; rw [if_neg (fun q => q (by rw [← Q2.1]; exact c_5))])) dX6_meanPayment_34
