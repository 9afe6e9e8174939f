set_option maxRecDepth 100000 in
set_option maxHeartbeats 4000000 in
theorem k_X5_isWithin {z : Zx} {l : Launch} {ad : Nm} {μ : Ce} (hl : l.stackTraces = false) {x a b : Int32} : Ko z l yX5_isWithin cX5_isWithin 3 (some .boolean) 0 0 0 [.int (x), .int (a), .int (b)] ad μ (okV (some (.int (pI (a ≤ x ∧ x ≤ b)))) ad μ) exNo := by
  refine ko_of hl (by decide +kernel) (Nat.le_of_ble_eq_true rfl) (fun g hg K => ?_)
  subst hg
  show WW g z 3 0 0 ad μ 0 [(0, .int (x)), (1, .int (a)), (2, .int (b))] []
  refine r_iload_n K dX5_isWithin_0 0 rfl rfl ?_
  refine r_iload_n K dX5_isWithin_1 1 rfl rfl ?_
  refine r_icmp_lt K dX5_isWithin_2 14 (x < a) Iff.rfl (by decide) (fun c_2 => ?_) (fun c_2 => ?_)
  · skip
    refine r_iconst (v := nI 0) K dX5_isWithin_14 (by decide) ?_
    exact r_zret K (by first | rfl | decide | exact pI_nar) (by decide) (by decide) ⟨congrArg (fun x => some (Value.int x)) (pI_f (fun q => Int32.not_lt.mpr q.1 c_2)), rfl, rfl⟩ dX5_isWithin_15
  · skip
    refine r_iload_n K dX5_isWithin_5 0 rfl rfl ?_
    refine r_iload_n K dX5_isWithin_6 2 rfl rfl ?_
    refine r_icmp_gt K dX5_isWithin_7 14 (b < x) Iff.rfl (by decide) (fun c_7 => ?_) (fun c_7 => ?_)
    · skip
      refine r_iconst (v := nI 0) K dX5_isWithin_14 (by decide) ?_
      exact r_zret K (by first | rfl | decide | exact pI_nar) (by decide) (by decide) ⟨congrArg (fun x => some (Value.int x)) (pI_f (fun q => Int32.not_lt.mpr q.2 c_7)), rfl, rfl⟩ dX5_isWithin_15
    · skip
      refine r_iconst (v := nI 1) K dX5_isWithin_10 (by decide) ?_
      refine r_goto K dX5_isWithin_11 15 (by decide) ?_
      exact r_zret K (by first | rfl | decide | exact pI_nar) (by decide) (by decide) ⟨congrArg (fun x => some (Value.int x)) (pI_t ⟨Int32.not_lt.mp c_2, Int32.not_lt.mp c_7⟩), rfl, rfl⟩ dX5_isWithin_15
set_option maxRecDepth 100000 in
set_option maxHeartbeats 4000000 in
theorem k_X5_requireHeight {z : Zx} {l : Launch} {ad : Nm} {μ : Ce} (hl : l.stackTraces = false) {x : Int32} : Ko z l yX5_requireHeight cX5_requireHeight 1 none 1 1 6 [.int (x)] ad μ (fun v' ad' μ' => v' = none ∧ ad = ad' ∧ μ = μ' ∧ inR x 0 30) (fun E => E = "java/lang/IllegalArgumentException" ∧ ¬ inR x 0 30) := by
  refine ko_of hl (by decide +kernel) (Nat.le_of_ble_eq_true rfl) (fun g hg K => ?_)
  subst hg
  show WW g z 1 0 0 ad μ 0 [(0, .int (x))] []
  refine r_iload_n K dX5_requireHeight_0 0 rfl rfl ?_
  refine r_iconst (v := nI 0) K dX5_requireHeight_1 (by decide) ?_
  refine r_bipush (v := nI 30) K dX5_requireHeight_2 (by decide) ?_
  refine r_callS (st := []) K (k_X5_isWithin (x := x) (a := nI 0) (b := nI 30) hl) cw_X5_43 wd_415 (by decide) (by decide) rfl (Nat.le_of_ble_eq_true rfl) (by decide) (by decide) dX5_requireHeight_4 ?_
  rintro _ _ _ ⟨rfl, rfl, rfl⟩
  show WW g z 1 0 0 ad μ 7 [(0, .int (x))] [.int (pI (nI 0 ≤ x ∧ x ≤ nI 30))]
  refine r_if_ne K dX5_requireHeight_7 21 (¬ (nI 0 ≤ x ∧ x ≤ nI 30)) pI_eq0 (by decide) (fun c_7 => ?_) (fun c_7 => ?_)
  · skip
    exact r_vret K (by decide) (by decide) ⟨rfl, rfl, rfl, Decidable.not_not.mp c_7⟩ dX5_requireHeight_21
  · skip
    exact r_throwSW (text := "height out of range") K rfl (by decide +kernel) (by decide +kernel) (by decide) wd_430 wd_63 at_IllegalArgumentException (by decide) dX5_requireHeight_10 dX5_requireHeight_13 dX5_requireHeight_14 dX5_requireHeight_17 dX5_requireHeight_20 ⟨rfl, c_7⟩ (Nat.le_of_ble_eq_true rfl) (by decide) (by decide)
set_option maxRecDepth 100000 in
set_option maxHeartbeats 4000000 in
theorem k_X5_requireOpening {z : Zx} {l : Launch} {ad : Nm} {μ : Ce} (hl : l.stackTraces = false) {x : Int32} : Ko z l yX5_requireOpening cX5_requireOpening 1 none 1 1 6 [.int (x)] ad μ (fun v' ad' μ' => v' = none ∧ ad = ad' ∧ μ = μ' ∧ inR x 0 10) (fun E => E = "java/lang/IllegalArgumentException" ∧ ¬ inR x 0 10) := by
  refine ko_of hl (by decide +kernel) (Nat.le_of_ble_eq_true rfl) (fun g hg K => ?_)
  subst hg
  show WW g z 1 0 0 ad μ 0 [(0, .int (x))] []
  refine r_iload_n K dX5_requireOpening_0 0 rfl rfl ?_
  refine r_iconst (v := nI 0) K dX5_requireOpening_1 (by decide) ?_
  refine r_bipush (v := nI 10) K dX5_requireOpening_2 (by decide) ?_
  refine r_callS (st := []) K (k_X5_isWithin (x := x) (a := nI 0) (b := nI 10) hl) cw_X5_43 wd_415 (by decide) (by decide) rfl (Nat.le_of_ble_eq_true rfl) (by decide) (by decide) dX5_requireOpening_4 ?_
  rintro _ _ _ ⟨rfl, rfl, rfl⟩
  show WW g z 1 0 0 ad μ 7 [(0, .int (x))] [.int (pI (nI 0 ≤ x ∧ x ≤ nI 10))]
  refine r_if_ne K dX5_requireOpening_7 21 (¬ (nI 0 ≤ x ∧ x ≤ nI 10)) pI_eq0 (by decide) (fun c_7 => ?_) (fun c_7 => ?_)
  · skip
    exact r_vret K (by decide) (by decide) ⟨rfl, rfl, rfl, Decidable.not_not.mp c_7⟩ dX5_requireOpening_21
  · skip
    exact r_throwSW (text := "opening out of range") K rfl (by decide +kernel) (by decide +kernel) (by decide) wd_430 wd_63 at_IllegalArgumentException (by decide) dX5_requireOpening_10 dX5_requireOpening_13 dX5_requireOpening_14 dX5_requireOpening_17 dX5_requireOpening_20 ⟨rfl, c_7⟩ (Nat.le_of_ble_eq_true rfl) (by decide) (by decide)
set_option maxRecDepth 100000 in
set_option maxHeartbeats 4000000 in
theorem k_X5_requireBeforeFirstHour {z : Zx} {l : Launch} {σ τ : Sg} {o : Int64 × UInt64} {ad : Nm} (hl : l.stackTraces = false) (hc : σ 12 0 0 ≤ 60) : Ko z l yX5_requireBeforeFirstHour cX5_requireBeforeFirstHour 1 none 1 1 6 [.ref (ad 0 0)] ad (Wz z ad σ τ o) (fun v' ad' μ' => v' = none ∧ ad = ad' ∧ Wz z ad σ τ o = μ' ∧ σ 12 0 0 = 0) (fun E => E = "java/lang/IllegalStateException" ∧ ¬ σ 12 0 0 = 0) := by
  refine ko_of hl (by decide +kernel) (Nat.le_of_ble_eq_true rfl) (fun g hg K => ?_)
  subst hg
  show WW g z 1 0 0 ad (Wz z ad σ τ o) 0 [(0, .ref (ad 0 0))] []
  refine r_aload_n K dX5_requireBeforeFirstHour_0 0 rfl rfl ?_
  refine r_get (v := .int (nI (σ 12 0 0))) K fd_X5_151 rfl rfl rfl dX5_requireBeforeFirstHour_1 ?_
  refine r_if_le K dX5_requireBeforeFirstHour_4 18 (σ 12 0 0 = 0) (n0_le (by omega)) (by decide) (fun c_4 => ?_) (fun c_4 => ?_)
  · skip
    exact r_vret K (by decide) (by decide) ⟨rfl, rfl, rfl, by omega⟩ dX5_requireBeforeFirstHour_18
  · skip
    exact r_throwSW (text := "an hour has passed") K rfl (by decide +kernel) (by decide +kernel) (by decide) wd_450 wd_64 at_IllegalStateException (by decide) dX5_requireBeforeFirstHour_7 dX5_requireBeforeFirstHour_10 dX5_requireBeforeFirstHour_11 dX5_requireBeforeFirstHour_14 dX5_requireBeforeFirstHour_17 ⟨rfl, by omega⟩ (Nat.le_of_ble_eq_true rfl) (by decide) (by decide)
set_option maxRecDepth 100000 in
set_option maxHeartbeats 4000000 in
theorem k_X5_requireHour {z : Zx} {l : Launch} {σ τ : Sg} {o : Int64 × UInt64} {ad : Nm} (hl : l.stackTraces = false) {x : Int32} : Ko z l yX5_requireHour cX5_requireHour 2 none 1 1 6 [.ref (ad 0 0), .int (x)] ad (Wz z ad σ τ o) (fun v' ad' μ' => v' = none ∧ ad = ad' ∧ Wz z ad σ τ o = μ' ∧ inR x 1 (σ 12 0 0)) (fun E => E = "java/lang/IllegalArgumentException" ∧ ¬ inR x 1 (σ 12 0 0)) := by
  refine ko_of hl (by decide +kernel) (Nat.le_of_ble_eq_true rfl) (fun g hg K => ?_)
  subst hg
  show WW g z 2 0 0 ad (Wz z ad σ τ o) 0 [(0, .ref (ad 0 0)), (1, .int (x))] []
  refine r_iload_n K dX5_requireHour_0 1 rfl rfl ?_
  refine r_iconst (v := nI 1) K dX5_requireHour_1 (by decide) ?_
  refine r_aload_n K dX5_requireHour_2 0 rfl rfl ?_
  refine r_get (v := .int (nI (σ 12 0 0))) K fd_X5_151 rfl rfl rfl dX5_requireHour_3 ?_
  refine r_callS (st := []) K (k_X5_isWithin (x := x) (a := nI 1) (b := nI (σ 12 0 0)) hl) cw_X5_43 wd_415 (by decide) (by decide) rfl (Nat.le_of_ble_eq_true rfl) (by decide) (by decide) dX5_requireHour_6 ?_
  rintro _ _ _ ⟨rfl, rfl, rfl⟩
  show WW g z 2 0 0 ad (Wz z ad σ τ o) 9 [(0, .ref (ad 0 0)), (1, .int (x))] [.int (pI (nI 1 ≤ x ∧ x ≤ nI (σ 12 0 0)))]
  refine r_if_ne K dX5_requireHour_9 23 (¬ (nI 1 ≤ x ∧ x ≤ nI (σ 12 0 0))) pI_eq0 (by decide) (fun c_9 => ?_) (fun c_9 => ?_)
  · skip
    exact r_vret K (by decide) (by decide) ⟨rfl, rfl, rfl, Decidable.not_not.mp c_9⟩ dX5_requireHour_23
  · skip
    exact r_throwSW (text := "hour out of range") K rfl (by decide +kernel) (by decide +kernel) (by decide) wd_430 wd_63 at_IllegalArgumentException (by decide) dX5_requireHour_12 dX5_requireHour_15 dX5_requireHour_16 dX5_requireHour_19 dX5_requireHour_22 ⟨rfl, c_9⟩ (Nat.le_of_ble_eq_true rfl) (by decide) (by decide)
set_option maxRecDepth 100000 in
set_option maxHeartbeats 4000000 in
theorem k_X5_requireBasin {z : Zx} {l : Launch} {σ τ : Sg} {o : Int64 × UInt64} {ad : Nm} (hl : l.stackTraces = false) {x : Int32} : Ko z l yX5_requireBasin cX5_requireBasin 2 none 1 1 6 [.ref (ad 0 0), .int (x)] ad (Wz z ad σ τ o) (fun v' ad' μ' => v' = none ∧ ad = ad' ∧ Wz z ad σ τ o = μ' ∧ in0 x (σ 0 0 0)) (fun E => E = "java/lang/IndexOutOfBoundsException" ∧ ¬ in0 x (σ 0 0 0)) := by
  refine ko_of hl (by decide +kernel) (Nat.le_of_ble_eq_true rfl) (fun g hg K => ?_)
  subst hg
  show WW g z 2 0 0 ad (Wz z ad σ τ o) 0 [(0, .ref (ad 0 0)), (1, .int (x))] []
  refine r_iload_n K dX5_requireBasin_0 1 rfl rfl ?_
  refine r_iconst (v := nI 0) K dX5_requireBasin_1 (by decide) ?_
  refine r_aload_n K dX5_requireBasin_2 0 rfl rfl ?_
  refine r_get (v := .ref (ad 1 0)) K fd_X5_10 rfl rfl rfl dX5_requireBasin_3 ?_
  refine r_callV (st := [.int (nI 0), .int (x)]) K (k_Jx4a65c_size_8abf5 (l0 := 0) hl (by decide)) cw_X5_39 wd_206 wd_207 (by decide) (by decide) (W_1 (by first | exact hb | exact hk | exact hj | exact hw | omega | assumption)) rfl rfl rfl (Nat.le_of_ble_eq_true rfl) (by decide) (by decide) dX5_requireBasin_6 ?_
  rintro _ _ _ ⟨rfl, rfl, rfl⟩
  show WW g z 2 0 0 ad (Wz z ad σ τ o) 9 [(0, .ref (ad 0 0)), (1, .int (x))] [.int (nI (σ 0 0 0)), .int (nI 0), .int (x)]
  refine r_iconst (v := nI 1) K dX5_requireBasin_9 (by decide) ?_
  refine r_isub (v := (nI (σ 0 0 0)) - (nI 1)) K dX5_requireBasin_10 rfl ?_
  refine r_callS (st := []) K (k_X5_isWithin (x := x) (a := nI 0) (b := (nI (σ 0 0 0)) - (nI 1)) hl) cw_X5_43 wd_415 (by decide) (by decide) rfl (Nat.le_of_ble_eq_true rfl) (by decide) (by decide) dX5_requireBasin_11 ?_
  rintro _ _ _ ⟨rfl, rfl, rfl⟩
  show WW g z 2 0 0 ad (Wz z ad σ τ o) 14 [(0, .ref (ad 0 0)), (1, .int (x))] [.int (pI (nI 0 ≤ x ∧ x ≤ (nI (σ 0 0 0)) - (nI 1)))]
  refine r_if_ne K dX5_requireBasin_14 28 (¬ (nI 0 ≤ x ∧ x ≤ (nI (σ 0 0 0)) - (nI 1))) pI_eq0 (by decide) (fun c_14 => ?_) (fun c_14 => ?_)
  · skip
    exact r_vret K (by decide) (by decide) ⟨rfl, rfl, rfl, Decidable.not_not.mp c_14⟩ dX5_requireBasin_28
  · skip
    exact r_throwSW (text := "no such basin") K rfl (by decide +kernel) (by decide +kernel) (by decide) wd_417 wd_61 at_IndexOutOfBoundsException (by decide) dX5_requireBasin_17 dX5_requireBasin_20 dX5_requireBasin_21 dX5_requireBasin_24 dX5_requireBasin_27 ⟨rfl, c_14⟩ (Nat.le_of_ble_eq_true rfl) (by decide) (by decide)
set_option maxRecDepth 100000 in
set_option maxHeartbeats 4000000 in
theorem k_X5_requireRule {z : Zx} {l : Launch} {σ τ : Sg} {o : Int64 × UInt64} {ad : Nm} (hl : l.stackTraces = false) {x : Int32} : Ko z l yX5_requireRule cX5_requireRule 2 none 1 1 6 [.ref (ad 0 0), .int (x)] ad (Wz z ad σ τ o) (fun v' ad' μ' => v' = none ∧ ad = ad' ∧ Wz z ad σ τ o = μ' ∧ in0 x (σ 0 1 0)) (fun E => E = "java/lang/IndexOutOfBoundsException" ∧ ¬ in0 x (σ 0 1 0)) := by
  refine ko_of hl (by decide +kernel) (Nat.le_of_ble_eq_true rfl) (fun g hg K => ?_)
  subst hg
  show WW g z 2 0 0 ad (Wz z ad σ τ o) 0 [(0, .ref (ad 0 0)), (1, .int (x))] []
  refine r_iload_n K dX5_requireRule_0 1 rfl rfl ?_
  refine r_iconst (v := nI 0) K dX5_requireRule_1 (by decide) ?_
  refine r_aload_n K dX5_requireRule_2 0 rfl rfl ?_
  refine r_get (v := .ref (ad 1 1)) K fd_X5_16 rfl rfl rfl dX5_requireRule_3 ?_
  refine r_callV (st := [.int (nI 0), .int (x)]) K (k_Jx4a65c_size_8abf5 (l0 := 1) hl (by decide)) cw_X5_39 wd_206 wd_207 (by decide) (by decide) (W_1 (by first | exact hb | exact hk | exact hj | exact hw | omega | assumption)) rfl rfl rfl (Nat.le_of_ble_eq_true rfl) (by decide) (by decide) dX5_requireRule_6 ?_
  rintro _ _ _ ⟨rfl, rfl, rfl⟩
  show WW g z 2 0 0 ad (Wz z ad σ τ o) 9 [(0, .ref (ad 0 0)), (1, .int (x))] [.int (nI (σ 0 1 0)), .int (nI 0), .int (x)]
  refine r_iconst (v := nI 1) K dX5_requireRule_9 (by decide) ?_
  refine r_isub (v := (nI (σ 0 1 0)) - (nI 1)) K dX5_requireRule_10 rfl ?_
  refine r_callS (st := []) K (k_X5_isWithin (x := x) (a := nI 0) (b := (nI (σ 0 1 0)) - (nI 1)) hl) cw_X5_43 wd_415 (by decide) (by decide) rfl (Nat.le_of_ble_eq_true rfl) (by decide) (by decide) dX5_requireRule_11 ?_
  rintro _ _ _ ⟨rfl, rfl, rfl⟩
  show WW g z 2 0 0 ad (Wz z ad σ τ o) 14 [(0, .ref (ad 0 0)), (1, .int (x))] [.int (pI (nI 0 ≤ x ∧ x ≤ (nI (σ 0 1 0)) - (nI 1)))]
  refine r_if_ne K dX5_requireRule_14 28 (¬ (nI 0 ≤ x ∧ x ≤ (nI (σ 0 1 0)) - (nI 1))) pI_eq0 (by decide) (fun c_14 => ?_) (fun c_14 => ?_)
  · skip
    exact r_vret K (by decide) (by decide) ⟨rfl, rfl, rfl, Decidable.not_not.mp c_14⟩ dX5_requireRule_28
  · skip
    exact r_throwSW (text := "no such rule") K rfl (by decide +kernel) (by decide +kernel) (by decide) wd_417 wd_61 at_IndexOutOfBoundsException (by decide) dX5_requireRule_17 dX5_requireRule_20 dX5_requireRule_21 dX5_requireRule_24 dX5_requireRule_27 ⟨rfl, c_14⟩ (Nat.le_of_ble_eq_true rfl) (by decide) (by decide)
set_option maxRecDepth 100000 in
set_option maxHeartbeats 4000000 in
theorem k_X5_basinOf {z : Zx} {l : Launch} {σ τ : Sg} {o : Int64 × UInt64} {ad : Nm} (hl : l.stackTraces = false) {x : Int32} (I : InvB σ) (L : InvL σ) : Ko z l yX5_basinOf cX5_basinOf 2 (some (.object "StormBasin$Basin")) 3 1 6 [.ref (ad 0 0), .int (x)] ad (Wz z ad σ τ o) (fun v' ad' μ' => ∃ b, b < σ 0 0 0 ∧ x = nI b ∧ v' = some (.ref (ad 9 b)) ∧ ad = ad' ∧ Wz z ad σ τ o = μ') (fun E => E = "java/lang/IndexOutOfBoundsException" ∧ ¬ in0 x (σ 0 0 0)) := by
  refine ko_of hl (by decide +kernel) (Nat.le_of_ble_eq_true rfl) (fun g hg K => ?_)
  subst hg
  have q0 := I.1.1
  show WW g z 2 0 0 ad (Wz z ad σ τ o) 0 [(0, .ref (ad 0 0)), (1, .int (x))] []
  refine r_aload_n K dX5_basinOf_0 0 rfl rfl ?_
  refine r_iload_n K dX5_basinOf_1 1 rfl rfl ?_
  refine r_callVx (st := []) K (k_X5_requireBasin (x := x) hl) (fun _ h => h) cw_X5_108 wd_607 wd_12 (by decide) (by decide) rfl rfl rfl rfl (Nat.le_of_ble_eq_true rfl) (by decide) (by decide) dX5_basinOf_2 ?_
  rintro _ _ _ ⟨rfl, rfl, rfl, q_2⟩
  obtain ⟨b, hb, rfl⟩ := (in0_iff (by omega)).mp q_2
  show WW g z 2 1 6 ad (Wz z ad σ τ o) 5 [(0, .ref (ad 0 0)), (1, .int (nI b))] []
  refine r_aload_n K dX5_basinOf_5 0 rfl rfl ?_
  refine r_get (v := .ref (ad 1 0)) K fd_X5_10 rfl rfl rfl dX5_basinOf_6 ?_
  refine r_iload_n K dX5_basinOf_9 1 rfl rfl ?_
  refine r_callV (st := []) K (k_Jx4a65c_get_915e3 (l0 := 0) (i := b) hl (by decide) L (by first | exact hb | exact hk | exact hj | exact hw | omega | assumption)) cw_X5_127 wd_250 wd_251 (by decide) (by decide) (W_1 (by first | exact hb | exact hk | exact hj | exact hw | omega | assumption)) rfl rfl rfl (Nat.le_of_ble_eq_true rfl) (by decide) (by decide) dX5_basinOf_10 ?_
  rintro _ _ _ ⟨rfl, rfl, rfl⟩
  show WW g z 2 1 6 ad (Wz z ad σ τ o) 13 [(0, .ref (ad 0 0)), (1, .int (nI b))] [.ref (ad 9 b)]
  refine r_castS K wd_283 rfl (W_9 (by first | exact hb | exact hk | exact hj | exact hw | omega | assumption)) rfl dX5_basinOf_13 ?_
  exact r_aret K (.inl ⟨_, rfl⟩) (.inr ⟨_, rfl⟩) (by decide) (by decide) ⟨b, hb, rfl, rfl, rfl, rfl⟩ dX5_basinOf_16
set_option maxRecDepth 100000 in
set_option maxHeartbeats 4000000 in
theorem k_X5_streetWith {z : Zx} {l : Launch} {σ τ : Sg} {o : Int64 × UInt64} {ad : Nm} (hl : l.stackTraces = false) {x y : Int32} (I : InvB σ) (L : InvL σ) : Ko z l yX5_streetWith cX5_streetWith 4 (some (.object "StormBasin$Street")) 4 2 12 [.ref (ad 0 0), .int (x), .int (y)] ad (Wz z ad σ τ o) (fun v' ad' μ' => ∃ b c, b < σ 0 0 0 ∧ c < σ 1 b 6 ∧ x = nI b ∧ y = nI c ∧ v' = some (.ref (ad 12 b)) ∧ ad = ad' ∧ Wz z ad σ τ o = μ') (fun E => E = "java/lang/IndexOutOfBoundsException" ∧ ¬ (in0 x (σ 0 0 0) ∧ in0 y (σ 1 (jN x) 6))) := by
  refine ko_of hl (by decide +kernel) (Nat.le_of_ble_eq_true rfl) (fun g hg K => ?_)
  subst hg
  have q0 := I.1.1
  show WW g z 4 0 0 ad (Wz z ad σ τ o) 0 [(0, .ref (ad 0 0)), (1, .int (x)), (2, .int (y))] []
  refine r_aload_n K dX5_streetWith_0 0 rfl rfl ?_
  refine r_iload_n K dX5_streetWith_1 1 rfl rfl ?_
  refine r_callVx (st := []) K (k_X5_basinOf (x := x) hl I L) (fun E h => ⟨h.1, fun q => h.2 q.1⟩) cw_X5_80 wd_603 wd_11 (by decide) (by decide) rfl rfl rfl rfl (Nat.le_of_ble_eq_true rfl) (by decide) (by decide) dX5_streetWith_2 ?_
  rintro _ _ _ ⟨b, hb, rfl, rfl, rfl, rfl⟩
  show WW g z 4 1 6 ad (Wz z ad σ τ o) 5 [(0, .ref (ad 0 0)), (1, .int (nI b)), (2, .int (y))] [.ref (ad 9 b)]
  refine r_get (v := .ref (ad 12 b)) K fd_X5_84 (W_9 (by first | exact hb | exact hk | exact hj | exact hw | omega | assumption)) rfl rfl dX5_streetWith_5 ?_
  obtain ⟨-, -, -, hs, -⟩ := I.2.1 b hb
  have q8 := hs.2.1
  refine r_astore_n (lv' := [(3, .ref (ad 12 b)), (0, .ref (ad 0 0)), (1, .int (nI b)), (2, .int (y))]) K dX5_streetWith_8 rfl (by decide) rfl ?_
  refine r_iload_n K dX5_streetWith_9 3 rfl rfl ?_
  refine r_iconst (v := nI 0) K dX5_streetWith_10 (by decide) ?_
  refine r_aload_n K dX5_streetWith_11 0 rfl rfl ?_
  refine r_get (v := .int (nI (σ 1 b 6))) K fd_X5_88 (W_12 (by first | exact hb | exact hk | exact hj | exact hw | omega | assumption)) rfl rfl dX5_streetWith_12 ?_
  refine r_iconst (v := nI 1) K dX5_streetWith_15 (by decide) ?_
  refine r_isub (v := (nI (σ 1 b 6)) - (nI 1)) K dX5_streetWith_16 rfl ?_
  refine r_callS (st := []) K (k_X5_isWithin (x := y) (a := nI 0) (b := (nI (σ 1 b 6)) - (nI 1)) hl) cw_X5_43 wd_415 (by decide) (by decide) rfl (Nat.le_of_ble_eq_true rfl) (by decide) (by decide) dX5_streetWith_17 ?_
  rintro _ _ _ ⟨rfl, rfl, rfl⟩
  show WW g z 4 1 6 ad (Wz z ad σ τ o) 20 [(3, .ref (ad 12 b)), (0, .ref (ad 0 0)), (1, .int (nI b)), (2, .int (y))] [.int (pI (nI 0 ≤ y ∧ y ≤ (nI (σ 1 b 6)) - (nI 1)))]
  refine r_if_ne K dX5_streetWith_20 34 (¬ (nI 0 ≤ y ∧ y ≤ (nI (σ 1 b 6)) - (nI 1))) pI_eq0 (by decide) (fun c_20 => ?_) (fun c_20 => ?_)
  · skip
    obtain ⟨c, hc, rfl⟩ := (in0_iff (by omega)).mp (Decidable.not_not.mp c_20)
    refine r_aload_n K dX5_streetWith_34 0 rfl rfl ?_
    exact r_aret K (.inl ⟨_, rfl⟩) (.inr ⟨_, rfl⟩) (by decide) (by decide) ⟨b, c, hb, hc, rfl, rfl, rfl, rfl, rfl⟩ dX5_streetWith_35
  · skip
    exact r_throwSW (text := "no such cell") K rfl (by decide +kernel) (by decide +kernel) (by decide) wd_417 wd_61 at_IndexOutOfBoundsException (by decide) dX5_streetWith_23 dX5_streetWith_26 dX5_streetWith_27 dX5_streetWith_30 dX5_streetWith_33 ⟨rfl, fun q => by obtain ⟨q1, q2⟩ := q; rw [jN_n (by omega)] at q2; exact c_20 q2⟩ (Nat.le_of_ble_eq_true rfl) (by decide) (by decide)
set_option maxRecDepth 100000 in
set_option maxHeartbeats 4000000 in
theorem k_X5_houseOf {z : Zx} {l : Launch} {σ τ : Sg} {o : Int64 × UInt64} {ad : Nm} (hl : l.stackTraces = false) {x : Int32} (I : InvB σ) (L : InvL σ) : Ko z l yX5_houseOf cX5_houseOf 2 (some (.object "StormBasin$House")) 3 1 6 [.ref (ad 0 0), .int (x)] ad (Wz z ad σ τ o) (fun v' ad' μ' => ∃ k, k < σ 0 2 0 ∧ x = nI k ∧ v' = some (.ref (ad 11 k)) ∧ ad = ad' ∧ Wz z ad σ τ o = μ') (fun E => E = "java/lang/IndexOutOfBoundsException" ∧ ¬ in0 x (σ 0 2 0)) := by
  refine ko_of hl (by decide +kernel) (Nat.le_of_ble_eq_true rfl) (fun g hg K => ?_)
  subst hg
  have q0 := I.1.2.2.1
  show WW g z 2 0 0 ad (Wz z ad σ τ o) 0 [(0, .ref (ad 0 0)), (1, .int (x))] []
  refine r_iload_n K dX5_houseOf_0 1 rfl rfl ?_
  refine r_iconst (v := nI 0) K dX5_houseOf_1 (by decide) ?_
  refine r_aload_n K dX5_houseOf_2 0 rfl rfl ?_
  refine r_get (v := .ref (ad 1 2)) K fd_X5_19 rfl rfl rfl dX5_houseOf_3 ?_
  refine r_callV (st := [.int (nI 0), .int (x)]) K (k_Jx4a65c_size_8abf5 (l0 := 2) hl (by decide)) cw_X5_39 wd_206 wd_207 (by decide) (by decide) (W_1 (by first | exact hb | exact hk | exact hj | exact hw | omega | assumption)) rfl rfl rfl (Nat.le_of_ble_eq_true rfl) (by decide) (by decide) dX5_houseOf_6 ?_
  rintro _ _ _ ⟨rfl, rfl, rfl⟩
  show WW g z 2 0 0 ad (Wz z ad σ τ o) 9 [(0, .ref (ad 0 0)), (1, .int (x))] [.int (nI (σ 0 2 0)), .int (nI 0), .int (x)]
  refine r_iconst (v := nI 1) K dX5_houseOf_9 (by decide) ?_
  refine r_isub (v := (nI (σ 0 2 0)) - (nI 1)) K dX5_houseOf_10 rfl ?_
  refine r_callS (st := []) K (k_X5_isWithin (x := x) (a := nI 0) (b := (nI (σ 0 2 0)) - (nI 1)) hl) cw_X5_43 wd_415 (by decide) (by decide) rfl (Nat.le_of_ble_eq_true rfl) (by decide) (by decide) dX5_houseOf_11 ?_
  rintro _ _ _ ⟨rfl, rfl, rfl⟩
  show WW g z 2 0 0 ad (Wz z ad σ τ o) 14 [(0, .ref (ad 0 0)), (1, .int (x))] [.int (pI (nI 0 ≤ x ∧ x ≤ (nI (σ 0 2 0)) - (nI 1)))]
  refine r_if_ne K dX5_houseOf_14 28 (¬ (nI 0 ≤ x ∧ x ≤ (nI (σ 0 2 0)) - (nI 1))) pI_eq0 (by decide) (fun c_14 => ?_) (fun c_14 => ?_)
  · skip
    obtain ⟨k, hk, rfl⟩ := (in0_iff (by omega)).mp (Decidable.not_not.mp c_14)
    refine r_aload_n K dX5_houseOf_28 0 rfl rfl ?_
    refine r_get (v := .ref (ad 1 2)) K fd_X5_19 rfl rfl rfl dX5_houseOf_29 ?_
    refine r_iload_n K dX5_houseOf_32 1 rfl rfl ?_
    refine r_callV (st := []) K (k_Jx4a65c_get_915e3 (l0 := 2) (i := k) hl (by decide) L (by first | exact hb | exact hk | exact hj | exact hw | omega | assumption)) cw_X5_127 wd_250 wd_251 (by decide) (by decide) (W_1 (by first | exact hb | exact hk | exact hj | exact hw | omega | assumption)) rfl rfl rfl (Nat.le_of_ble_eq_true rfl) (by decide) (by decide) dX5_houseOf_33 ?_
    rintro _ _ _ ⟨rfl, rfl, rfl⟩
    show WW g z 2 0 0 ad (Wz z ad σ τ o) 36 [(0, .ref (ad 0 0)), (1, .int (nI k))] [.ref (ad 11 k)]
    refine r_castS K wd_263 rfl (W_11 (by first | exact hb | exact hk | exact hj | exact hw | omega | assumption)) rfl dX5_houseOf_36 ?_
    exact r_aret K (.inl ⟨_, rfl⟩) (.inr ⟨_, rfl⟩) (by decide) (by decide) ⟨k, hk, rfl, rfl, rfl, rfl⟩ dX5_houseOf_39
  · skip
    exact r_throwSW (text := "no such house") K rfl (by decide +kernel) (by decide +kernel) (by decide) wd_417 wd_61 at_IndexOutOfBoundsException (by decide) dX5_houseOf_17 dX5_houseOf_20 dX5_houseOf_21 dX5_houseOf_24 dX5_houseOf_27 ⟨rfl, c_14⟩ (Nat.le_of_ble_eq_true rfl) (by decide) (by decide)
