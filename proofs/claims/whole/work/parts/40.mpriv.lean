set_option maxRecDepth 100000 in
set_option maxHeartbeats 4000000 in
theorem k_X6_thrown {z : Zx} {l : Launch} {σ τ : Sg} {o : Int64 × UInt64} {ad : Nm} (hl : l.stackTraces = false)  : Ko z l yX6_thrown cX6_thrown 1 (some .int) 0 0 0 [.ref (ad 20 0)] ad (Wz z ad σ τ o) (okV (some (.int (nI (τ 72 0 0)))) ad (Wz z ad σ τ o)) exNo := by
  refine ko_of hl (by decide +kernel) (Nat.le_of_ble_eq_true rfl) (fun g hg K => ?_)
  subst hg
  show WW g z 1 0 0 ad (Wz z ad σ τ o) 0 [(0, .ref (ad 20 0))] []
  refine r_aload_n K dX6_thrown_0 0 rfl rfl ?_
  refine r_get (v := .int (nI (τ 72 0 0))) K fd_X6_97 rfl rfl rfl dX6_thrown_1 ?_
  exact r_iret K (by decide) (by decide) ⟨congrArg (fun q => some (Value.int (nI q))) (by rfl), rfl, rfl⟩ dX6_thrown_4
set_option maxRecDepth 100000 in
set_option maxHeartbeats 4000000 in
theorem k_X6_fails {z : Zx} {l : Launch} {σ τ : Sg} {o : Int64 × UInt64} {ad : Nm} (hl : l.stackTraces = false) {c : Nat} (hc : c ≤ 4) : Ko z l yX6_fails cX6_fails 2 (some .boolean) 0 0 0 [.ref (ad 20 0), .int (nI c)] ad (Wz z ad σ τ o) (okV (some (.int (pI (0 < c)))) ad (Wz z ad σ (su τ 72 0 0 c) o)) exNo := by
  refine ko_of hl (by decide +kernel) (Nat.le_of_ble_eq_true rfl) (fun g hg K => ?_)
  subst hg
  show WW g z 2 0 0 ad (Wz z ad σ τ o) 0 [(0, .ref (ad 20 0)), (1, .int (nI c))] []
  refine r_aload_n K dX6_fails_0 0 rfl rfl ?_
  refine r_iload_n K dX6_fails_1 1 rfl rfl ?_
  refine r_put K fd_X6_97 rfl rfl rfl rfl (Nat.le_of_ble_eq_true rfl) rfl dX6_fails_2 ?_
  refine r_mu (u_20_37) ?_
  show WW g z 2 0 0 ad (Wz z ad σ (su τ 72 0 0 c) o) 5 [(0, .ref (ad 20 0)), (1, .int (nI c))] []
  refine r_iload_n K dX6_fails_5 1 rfl rfl ?_
  refine r_if_le K dX6_fails_6 13 (c = 0) (n0_le (by omega)) (by decide) (fun c_6 => ?_) (fun c_6 => ?_)
  · skip
    refine r_iconst (v := nI 0) K dX6_fails_13 (by decide) ?_
    exact r_zret K (by first | rfl | decide | exact pI_nar) (by decide) (by decide) ⟨congrArg (fun x => some (Value.int x)) (pI_f (by omega)), rfl, rfl⟩ dX6_fails_14
  · skip
    refine r_iconst (v := nI 1) K dX6_fails_9 (by decide) ?_
    refine r_goto K dX6_fails_10 14 (by decide) ?_
    exact r_zret K (by first | rfl | decide | exact pI_nar) (by decide) (by decide) ⟨congrArg (fun x => some (Value.int x)) (pI_t (by omega)), rfl, rfl⟩ dX6_fails_14
set_option maxRecDepth 100000 in
set_option maxHeartbeats 4000000 in
theorem k_X6_tells {z : Zx} {l : Launch} {σ τ : Sg} {o : Int64 × UInt64} {ad : Nm} (hl : l.stackTraces = false) {x : Int32} : Ko z l yX6_tells cX6_tells 2 (some .int) 0 0 0 [.ref (ad 20 0), .int (x)] ad (Wz z ad σ τ o) (okV (some (.int x)) ad (Wz z ad σ (su τ 72 0 0 0) o)) exNo := by
  refine ko_of hl (by decide +kernel) (Nat.le_of_ble_eq_true rfl) (fun g hg K => ?_)
  subst hg
  show WW g z 2 0 0 ad (Wz z ad σ τ o) 0 [(0, .ref (ad 20 0)), (1, .int (x))] []
  refine r_aload_n K dX6_tells_0 0 rfl rfl ?_
  refine r_iconst (v := nI 0) K dX6_tells_1 (by decide) ?_
  refine r_put K fd_X6_97 rfl rfl rfl rfl (Nat.le_of_ble_eq_true rfl) rfl dX6_tells_2 ?_
  refine r_mu (u_20_37) ?_
  show WW g z 2 0 0 ad (Wz z ad σ (su τ 72 0 0 0) o) 5 [(0, .ref (ad 20 0)), (1, .int (x))] []
  refine r_iload_n K dX6_tells_5 1 rfl rfl ?_
  exact r_iret K (by decide) (by decide) ⟨rfl, rfl, rfl⟩ dX6_tells_6
set_option maxRecDepth 100000 in
set_option maxHeartbeats 4000000 in
theorem k_X6_in {z : Zx} {l : Launch} {ad : Nm} {μ : Ce} (hl : l.stackTraces = false) {x a b : Int32} : Ko z l yX6_in cX6_in 3 (some .boolean) 0 0 0 [.int (x), .int (a), .int (b)] ad μ (okV (some (.int (pI (a ≤ x ∧ x ≤ b)))) ad μ) exNo := by
  refine ko_of hl (by decide +kernel) (Nat.le_of_ble_eq_true rfl) (fun g hg K => ?_)
  subst hg
  show WW g z 3 0 0 ad μ 0 [(0, .int (x)), (1, .int (a)), (2, .int (b))] []
  refine r_iload_n K dX6_in_0 0 rfl rfl ?_
  refine r_iload_n K dX6_in_1 1 rfl rfl ?_
  refine r_icmp_lt K dX6_in_2 14 (x < a) Iff.rfl (by decide) (fun c_2 => ?_) (fun c_2 => ?_)
  · skip
    refine r_iconst (v := nI 0) K dX6_in_14 (by decide) ?_
    exact r_zret K (by first | rfl | decide | exact pI_nar) (by decide) (by decide) ⟨congrArg (fun x => some (Value.int x)) (pI_f (fun q => Int32.not_lt.mpr q.1 c_2)), rfl, rfl⟩ dX6_in_15
  · skip
    refine r_iload_n K dX6_in_5 0 rfl rfl ?_
    refine r_iload_n K dX6_in_6 2 rfl rfl ?_
    refine r_icmp_gt K dX6_in_7 14 (b < x) Iff.rfl (by decide) (fun c_7 => ?_) (fun c_7 => ?_)
    · skip
      refine r_iconst (v := nI 0) K dX6_in_14 (by decide) ?_
      exact r_zret K (by first | rfl | decide | exact pI_nar) (by decide) (by decide) ⟨congrArg (fun x => some (Value.int x)) (pI_f (fun q => Int32.not_lt.mpr q.2 c_7)), rfl, rfl⟩ dX6_in_15
    · skip
      refine r_iconst (v := nI 1) K dX6_in_10 (by decide) ?_
      refine r_goto K dX6_in_11 15 (by decide) ?_
      exact r_zret K (by first | rfl | decide | exact pI_nar) (by decide) (by decide) ⟨congrArg (fun x => some (Value.int x)) (pI_t ⟨Int32.not_lt.mp c_2, Int32.not_lt.mp c_7⟩), rfl, rfl⟩ dX6_in_15
set_option maxRecDepth 100000 in
set_option maxHeartbeats 4000000 in
theorem k_X6_lesser {z : Zx} {l : Launch} {ad : Nm} {μ : Ce} (hl : l.stackTraces = false) {a b : Nat} (ha : a < 2 ^ 31) (hb : b < 2 ^ 31) : Ko z l yX6_lesser cX6_lesser 2 (some .int) 0 0 0 [.int (nI a), .int (nI b)] ad μ (okV (some (.int (nI (min a b)))) ad μ) exNo := by
  refine ko_of hl (by decide +kernel) (Nat.le_of_ble_eq_true rfl) (fun g hg K => ?_)
  subst hg
  show WW g z 2 0 0 ad μ 0 [(0, .int (nI a)), (1, .int (nI b))] []
  refine r_iload_n K dX6_lesser_0 0 rfl rfl ?_
  refine r_iload_n K dX6_lesser_1 1 rfl rfl ?_
  refine r_icmp_ge K dX6_lesser_2 9 (b ≤ a) (nI_leI (by omega) (by omega)) (by decide) (fun c_2 => ?_) (fun c_2 => ?_)
  · skip
    refine r_iload_n K dX6_lesser_9 1 rfl rfl ?_
    exact r_iret K (by decide) (by decide) ⟨congrArg (fun q => some (Value.int (nI q))) (by omega), rfl, rfl⟩ dX6_lesser_10
  · skip
    refine r_iload_n K dX6_lesser_5 0 rfl rfl ?_
    refine r_goto K dX6_lesser_6 10 (by decide) ?_
    exact r_iret K (by decide) (by decide) ⟨congrArg (fun q => some (Value.int (nI q))) (by omega), rfl, rfl⟩ dX6_lesser_10
set_option maxRecDepth 100000 in
set_option maxHeartbeats 4000000 in
theorem k_X6_isNone {z : Zx} {l : Launch} {σ τ : Sg} {o : Int64 × UInt64} {ad : Nm} (hl : l.stackTraces = false) {x : Int32} : Ko z l yX6_isNone cX6_isNone 2 (some .boolean) 1 0 0 [.ref (ad 20 0), .int (x)] ad (Wz z ad σ τ o) (okV (some (.int (pI (¬ in0 x (τ 0 0 0))))) ad (Wz z ad σ τ o)) exNo := by
  refine ko_of hl (by decide +kernel) (Nat.le_of_ble_eq_true rfl) (fun g hg K => ?_)
  subst hg
  show WW g z 2 0 0 ad (Wz z ad σ τ o) 0 [(0, .ref (ad 20 0)), (1, .int (x))] []
  refine r_iload_n K dX6_isNone_0 1 rfl rfl ?_
  refine r_iconst (v := nI 0) K dX6_isNone_1 (by decide) ?_
  refine r_aload_n K dX6_isNone_2 0 rfl rfl ?_
  refine r_get (v := .int (nI (τ 0 0 0))) K fd_X6_100 rfl rfl rfl dX6_isNone_3 ?_
  refine r_iconst (v := nI 1) K dX6_isNone_6 (by decide) ?_
  refine r_isub (v := (nI (τ 0 0 0)) - (nI 1)) K dX6_isNone_7 rfl ?_
  refine r_callS (st := []) K (k_X6_in (x := x) (a := nI 0) (b := (nI (τ 0 0 0)) - (nI 1)) hl) cw_X6_103 wd_1434 (by decide) (by decide) rfl (Nat.le_of_ble_eq_true rfl) (by decide) (by decide) dX6_isNone_8 ?_
  rintro _ _ _ ⟨rfl, rfl, rfl⟩
  show WW g z 2 0 0 ad (Wz z ad σ τ o) 11 [(0, .ref (ad 20 0)), (1, .int (x))] [.int (pI (in0 x (τ 0 0 0)))]
  refine r_if_ne K dX6_isNone_11 18 (¬ (in0 x (τ 0 0 0))) pI_eq0 (by decide) (fun c_11 => ?_) (fun c_11 => ?_)
  · skip
    refine r_iconst (v := nI 0) K dX6_isNone_18 (by decide) ?_
    exact r_zret K (by first | rfl | decide | exact pI_nar) (by decide) (by decide) ⟨congrArg (fun x => some (Value.int x)) (pI_f (fun q => c_11 q)), rfl, rfl⟩ dX6_isNone_19
  · skip
    refine r_iconst (v := nI 1) K dX6_isNone_14 (by decide) ?_
    refine r_goto K dX6_isNone_15 19 (by decide) ?_
    exact r_zret K (by first | rfl | decide | exact pI_nar) (by decide) (by decide) ⟨congrArg (fun x => some (Value.int x)) (pI_t c_11), rfl, rfl⟩ dX6_isNone_19
set_option maxRecDepth 100000 in
set_option maxHeartbeats 4000000 in
theorem k_X6_isNoHouse {z : Zx} {l : Launch} {σ τ : Sg} {o : Int64 × UInt64} {ad : Nm} (hl : l.stackTraces = false) {x : Int32} : Ko z l yX6_isNoHouse cX6_isNoHouse 2 (some .boolean) 1 0 0 [.ref (ad 20 0), .int (x)] ad (Wz z ad σ τ o) (okV (some (.int (pI (¬ in0 x (τ 0 2 0))))) ad (Wz z ad σ τ o)) exNo := by
  refine ko_of hl (by decide +kernel) (Nat.le_of_ble_eq_true rfl) (fun g hg K => ?_)
  subst hg
  show WW g z 2 0 0 ad (Wz z ad σ τ o) 0 [(0, .ref (ad 20 0)), (1, .int (x))] []
  refine r_iload_n K dX6_isNoHouse_0 1 rfl rfl ?_
  refine r_iconst (v := nI 0) K dX6_isNoHouse_1 (by decide) ?_
  refine r_aload_n K dX6_isNoHouse_2 0 rfl rfl ?_
  refine r_get (v := .int (nI (τ 0 2 0))) K fd_X6_117 rfl rfl rfl dX6_isNoHouse_3 ?_
  refine r_iconst (v := nI 1) K dX6_isNoHouse_6 (by decide) ?_
  refine r_isub (v := (nI (τ 0 2 0)) - (nI 1)) K dX6_isNoHouse_7 rfl ?_
  refine r_callS (st := []) K (k_X6_in (x := x) (a := nI 0) (b := (nI (τ 0 2 0)) - (nI 1)) hl) cw_X6_103 wd_1434 (by decide) (by decide) rfl (Nat.le_of_ble_eq_true rfl) (by decide) (by decide) dX6_isNoHouse_8 ?_
  rintro _ _ _ ⟨rfl, rfl, rfl⟩
  show WW g z 2 0 0 ad (Wz z ad σ τ o) 11 [(0, .ref (ad 20 0)), (1, .int (x))] [.int (pI (in0 x (τ 0 2 0)))]
  refine r_if_ne K dX6_isNoHouse_11 18 (¬ (in0 x (τ 0 2 0))) pI_eq0 (by decide) (fun c_11 => ?_) (fun c_11 => ?_)
  · skip
    refine r_iconst (v := nI 0) K dX6_isNoHouse_18 (by decide) ?_
    exact r_zret K (by first | rfl | decide | exact pI_nar) (by decide) (by decide) ⟨congrArg (fun x => some (Value.int x)) (pI_f (fun q => c_11 q)), rfl, rfl⟩ dX6_isNoHouse_19
  · skip
    refine r_iconst (v := nI 1) K dX6_isNoHouse_14 (by decide) ?_
    refine r_goto K dX6_isNoHouse_15 19 (by decide) ?_
    exact r_zret K (by first | rfl | decide | exact pI_nar) (by decide) (by decide) ⟨congrArg (fun x => some (Value.int x)) (pI_t c_11), rfl, rfl⟩ dX6_isNoHouse_19
set_option maxRecDepth 100000 in
set_option maxHeartbeats 4000000 in
theorem k_X6_isNoCell {z : Zx} {l : Launch} {σ τ : Sg} {o : Int64 × UInt64} {ad : Nm} (hl : l.stackTraces = false) {x y : Int32} (I : InvB τ) : Ko z l yX6_isNoCell cX6_isNoCell 3 (some .boolean) 2 0 0 [.ref (ad 20 0), .int (x), .int (y)] ad (Wz z ad σ τ o) (okV (some (.int (pI (¬ (in0 x (τ 0 0 0) ∧ in0 y (τ 1 (jN x) 6)))))) ad (Wz z ad σ τ o)) exNo := by
  refine ko_of hl (by decide +kernel) (Nat.le_of_ble_eq_true rfl) (fun g hg K => ?_)
  subst hg
  have q0 := I.1.1
  have q1 := I.1.2.1
  have q2 := I.1.2.2.1
  have q3 := I.1.2.2.2.1
  have q4 := I.1.2.2.2.2.1
  show WW g z 3 0 0 ad (Wz z ad σ τ o) 0 [(0, .ref (ad 20 0)), (1, .int (x)), (2, .int (y))] []
  refine r_aload_n K dX6_isNoCell_0 0 rfl rfl ?_
  refine r_iload_n K dX6_isNoCell_1 1 rfl rfl ?_
  refine r_callV (st := []) K (k_X6_isNone (x := x) hl) cw_X6_107 wd_1431 wd_23 (by decide) (by decide) rfl rfl rfl rfl (Nat.le_of_ble_eq_true rfl) (by decide) (by decide) dX6_isNoCell_2 ?_
  rintro _ _ _ ⟨rfl, rfl, rfl⟩
  show WW g z 3 0 0 ad (Wz z ad σ τ o) 5 [(0, .ref (ad 20 0)), (1, .int (x)), (2, .int (y))] [.int (pI (¬ in0 x (τ 0 0 0)))]
  refine r_if_ne K dX6_isNoCell_5 24 (in0 x (τ 0 0 0)) pI_n0 (by decide) (fun c_5 => ?_) (fun c_5 => ?_)
  · skip
    refine r_iconst (v := nI 1) K dX6_isNoCell_24 (by decide) ?_
    refine r_goto K dX6_isNoCell_25 29 (by decide) ?_
    exact r_zret K (by first | rfl | decide | exact pI_nar) (by decide) (by decide) ⟨congrArg (fun x => some (Value.int x)) (pI_t (fun q => c_5 q.1)), rfl, rfl⟩ dX6_isNoCell_29
  · skip
    obtain ⟨b, hb, rfl⟩ := (in0_iff (by omega)).mp c_5
    refine r_iload_n K dX6_isNoCell_8 2 rfl rfl ?_
    refine r_iconst (v := nI 0) K dX6_isNoCell_9 (by decide) ?_
    refine r_aload_n K dX6_isNoCell_10 0 rfl rfl ?_
    refine r_get (v := .ref (ad 21 7)) K fd_X6_28 rfl rfl rfl dX6_isNoCell_11 ?_
    refine r_iload_n K dX6_isNoCell_14 1 rfl rfl ?_
    refine r_iald (j := b) (v := nI (τ 1 b 6)) K rfl rfl rfl (by omega) (by decide) rfl dX6_isNoCell_15 ?_
    refine r_iconst (v := nI 1) K dX6_isNoCell_16 (by decide) ?_
    refine r_isub (v := (nI (τ 1 b 6)) - (nI 1)) K dX6_isNoCell_17 rfl ?_
    refine r_callS (st := []) K (k_X6_in (x := y) (a := nI 0) (b := (nI (τ 1 b 6)) - (nI 1)) hl) cw_X6_103 wd_1434 (by decide) (by decide) rfl (Nat.le_of_ble_eq_true rfl) (by decide) (by decide) dX6_isNoCell_18 ?_
    rintro _ _ _ ⟨rfl, rfl, rfl⟩
    show WW g z 3 0 0 ad (Wz z ad σ τ o) 21 [(0, .ref (ad 20 0)), (1, .int (nI b)), (2, .int (y))] [.int (pI (in0 y (τ 1 b 6)))]
    refine r_if_ne K dX6_isNoCell_21 28 (¬ (in0 y (τ 1 b 6))) pI_eq0 (by decide) (fun c_21 => ?_) (fun c_21 => ?_)
    · skip
      refine r_iconst (v := nI 0) K dX6_isNoCell_28 (by decide) ?_
      exact r_zret K (by first | rfl | decide | exact pI_nar) (by decide) (by decide) ⟨congrArg (fun x => some (Value.int x)) (pI_f (fun q => q ⟨(in0_iff (by omega)).mpr ⟨b, hb, rfl⟩, by rw [jN_n (by omega)]; exact Decidable.not_not.mp c_21⟩)), rfl, rfl⟩ dX6_isNoCell_29
    · skip
      refine r_iconst (v := nI 1) K dX6_isNoCell_24 (by decide) ?_
      refine r_goto K dX6_isNoCell_25 29 (by decide) ?_
      exact r_zret K (by first | rfl | decide | exact pI_nar) (by decide) (by decide) ⟨congrArg (fun x => some (Value.int x)) (pI_t (fun q => by have q := q.2; rw [jN_n (by omega)] at q; exact c_21 q)), rfl, rfl⟩ dX6_isNoCell_29
set_option maxRecDepth 100000 in
set_option maxHeartbeats 4000000 in
theorem k_X6_isNoRule {z : Zx} {l : Launch} {σ τ : Sg} {o : Int64 × UInt64} {ad : Nm} (hl : l.stackTraces = false) {x : Int32} : Ko z l yX6_isNoRule cX6_isNoRule 2 (some .boolean) 1 0 0 [.ref (ad 20 0), .int (x)] ad (Wz z ad σ τ o) (okV (some (.int (pI (¬ in0 x (τ 0 1 0))))) ad (Wz z ad σ (su τ 72 0 0 (cR τ x)) o)) exNo := by
  refine ko_of hl (by decide +kernel) (Nat.le_of_ble_eq_true rfl) (fun g hg K => ?_)
  subst hg
  show WW g z 2 0 0 ad (Wz z ad σ τ o) 0 [(0, .ref (ad 20 0)), (1, .int (x))] []
  refine r_aload_n K dX6_isNoRule_0 0 rfl rfl ?_
  refine r_iload_n K dX6_isNoRule_1 1 rfl rfl ?_
  refine r_iconst (v := nI 0) K dX6_isNoRule_2 (by decide) ?_
  refine r_aload_n K dX6_isNoRule_3 0 rfl rfl ?_
  refine r_get (v := .int (nI (τ 0 1 0))) K fd_X6_111 rfl rfl rfl dX6_isNoRule_4 ?_
  refine r_iconst (v := nI 1) K dX6_isNoRule_7 (by decide) ?_
  refine r_isub (v := (nI (τ 0 1 0)) - (nI 1)) K dX6_isNoRule_8 rfl ?_
  refine r_callS (st := [.ref (ad 20 0)]) K (k_X6_in (x := x) (a := nI 0) (b := (nI (τ 0 1 0)) - (nI 1)) hl) cw_X6_103 wd_1434 (by decide) (by decide) rfl (Nat.le_of_ble_eq_true rfl) (by decide) (by decide) dX6_isNoRule_9 ?_
  rintro _ _ _ ⟨rfl, rfl, rfl⟩
  show WW g z 2 0 0 ad (Wz z ad σ τ o) 12 [(0, .ref (ad 20 0)), (1, .int (x))] [.int (pI (in0 x (τ 0 1 0))), .ref (ad 20 0)]
  refine r_if_eq K dX6_isNoRule_12 19 (¬ (in0 x (τ 0 1 0))) pI_eq0 (by decide) (fun c_12 => ?_) (fun c_12 => ?_)
  · skip
    refine r_iconst (v := nI 1) K dX6_isNoRule_19 (by decide) ?_
    refine r_callV (st := []) K (k_X6_fails (c := 1) hl (by omega)) cw_X6_114 wd_1438 wd_24 (by decide) (by decide) rfl rfl rfl rfl (Nat.le_of_ble_eq_true rfl) (by decide) (by decide) dX6_isNoRule_20 ?_
    rintro _ _ _ ⟨rfl, rfl, rfl⟩
    show WW g z 2 0 0 ad (Wz z ad σ (su τ 72 0 0 1) o) 23 [(0, .ref (ad 20 0)), (1, .int (x))] [.int (nI 1)]
    exact r_zret K (by first | rfl | decide | exact pI_nar) (by decide) (by decide) ⟨congrArg (fun x => some (Value.int x)) (pI_t c_12), rfl, by rw [show cR τ x = 1 from if_neg c_12]⟩ dX6_isNoRule_23
  · skip
    refine r_iconst (v := nI 0) K dX6_isNoRule_15 (by decide) ?_
    refine r_goto K dX6_isNoRule_16 20 (by decide) ?_
    refine r_callV (st := []) K (k_X6_fails (c := 0) hl (by omega)) cw_X6_114 wd_1438 wd_24 (by decide) (by decide) rfl rfl rfl rfl (Nat.le_of_ble_eq_true rfl) (by decide) (by decide) dX6_isNoRule_20 ?_
    rintro _ _ _ ⟨rfl, rfl, rfl⟩
    show WW g z 2 0 0 ad (Wz z ad σ (su τ 72 0 0 0) o) 23 [(0, .ref (ad 20 0)), (1, .int (x))] [.int (nI 0)]
    exact r_zret K (by first | rfl | decide | exact pI_nar) (by decide) (by decide) ⟨congrArg (fun x => some (Value.int x)) (pI_f (fun q => q (Decidable.not_not.mp c_12))), rfl, by rw [show cR τ x = 0 from if_pos (Decidable.not_not.mp c_12)]⟩ dX6_isNoRule_23
set_option maxRecDepth 100000 in
set_option maxHeartbeats 4000000 in
theorem k_X6_isNoHour {z : Zx} {l : Launch} {σ τ : Sg} {o : Int64 × UInt64} {ad : Nm} (hl : l.stackTraces = false) {x h : Int32} : Ko z l yX6_isNoHour cX6_isNoHour 3 (some .boolean) 2 0 0 [.ref (ad 20 0), .int (x), .int (h)] ad (Wz z ad σ τ o) (okV (some (.int (pI (¬ (in0 x (τ 0 2 0) ∧ inR h 1 (τ 12 0 0)))))) ad (Wz z ad σ (su τ 72 0 0 (cKh τ x h)) o)) exNo := by
  refine ko_of hl (by decide +kernel) (Nat.le_of_ble_eq_true rfl) (fun g hg K => ?_)
  subst hg
  show WW g z 3 0 0 ad (Wz z ad σ τ o) 0 [(0, .ref (ad 20 0)), (1, .int (x)), (2, .int (h))] []
  refine r_aload_n K dX6_isNoHour_0 0 rfl rfl ?_
  refine r_aload_n K dX6_isNoHour_1 0 rfl rfl ?_
  refine r_iload_n K dX6_isNoHour_2 1 rfl rfl ?_
  refine r_callV (st := [.ref (ad 20 0)]) K (k_X6_isNoHouse (x := x) hl) cw_X6_185 wd_1621 wd_40 (by decide) (by decide) rfl rfl rfl rfl (Nat.le_of_ble_eq_true rfl) (by decide) (by decide) dX6_isNoHour_3 ?_
  rintro _ _ _ ⟨rfl, rfl, rfl⟩
  show WW g z 3 0 0 ad (Wz z ad σ τ o) 6 [(0, .ref (ad 20 0)), (1, .int (x)), (2, .int (h))] [.int (pI (¬ in0 x (τ 0 2 0))), .ref (ad 20 0)]
  refine r_if_eq K dX6_isNoHour_6 13 (in0 x (τ 0 2 0)) pI_n0 (by decide) (fun c_6 => ?_) (fun c_6 => ?_)
  · skip
    refine r_iload_n K dX6_isNoHour_13 2 rfl rfl ?_
    refine r_iconst (v := nI 1) K dX6_isNoHour_14 (by decide) ?_
    refine r_aload_n K dX6_isNoHour_15 0 rfl rfl ?_
    refine r_get (v := .int (nI (τ 12 0 0))) K fd_X6_120 rfl rfl rfl dX6_isNoHour_16 ?_
    refine r_callS (st := [.ref (ad 20 0)]) K (k_X6_in (x := h) (a := nI 1) (b := nI (τ 12 0 0)) hl) cw_X6_103 wd_1434 (by decide) (by decide) rfl (Nat.le_of_ble_eq_true rfl) (by decide) (by decide) dX6_isNoHour_19 ?_
    rintro _ _ _ ⟨rfl, rfl, rfl⟩
    show WW g z 3 0 0 ad (Wz z ad σ τ o) 22 [(0, .ref (ad 20 0)), (1, .int (x)), (2, .int (h))] [.int (pI (inR h 1 (τ 12 0 0))), .ref (ad 20 0)]
    refine r_if_eq K dX6_isNoHour_22 29 (¬ (inR h 1 (τ 12 0 0))) pI_eq0 (by decide) (fun c_22 => ?_) (fun c_22 => ?_)
    · skip
      refine r_iconst (v := nI 2) K dX6_isNoHour_29 (by decide) ?_
      refine r_callV (st := []) K (k_X6_fails (c := 2) hl (by omega)) cw_X6_114 wd_1438 wd_24 (by decide) (by decide) rfl rfl rfl rfl (Nat.le_of_ble_eq_true rfl) (by decide) (by decide) dX6_isNoHour_30 ?_
      rintro _ _ _ ⟨rfl, rfl, rfl⟩
      show WW g z 3 0 0 ad (Wz z ad σ (su τ 72 0 0 2) o) 33 [(0, .ref (ad 20 0)), (1, .int (x)), (2, .int (h))] [.int (nI 1)]
      exact r_zret K (by first | rfl | decide | exact pI_nar) (by decide) (by decide) ⟨congrArg (fun x => some (Value.int x)) (pI_t (fun q => c_22 q.2)), rfl, by rw [show cKh τ x h = 2 from (if_pos c_6).trans (if_neg c_22)]⟩ dX6_isNoHour_33
    · skip
      refine r_iconst (v := nI 0) K dX6_isNoHour_25 (by decide) ?_
      refine r_goto K dX6_isNoHour_26 30 (by decide) ?_
      refine r_callV (st := []) K (k_X6_fails (c := 0) hl (by omega)) cw_X6_114 wd_1438 wd_24 (by decide) (by decide) rfl rfl rfl rfl (Nat.le_of_ble_eq_true rfl) (by decide) (by decide) dX6_isNoHour_30 ?_
      rintro _ _ _ ⟨rfl, rfl, rfl⟩
      show WW g z 3 0 0 ad (Wz z ad σ (su τ 72 0 0 0) o) 33 [(0, .ref (ad 20 0)), (1, .int (x)), (2, .int (h))] [.int (nI 0)]
      exact r_zret K (by first | rfl | decide | exact pI_nar) (by decide) (by decide) ⟨congrArg (fun x => some (Value.int x)) (pI_f (fun q => q ⟨c_6, Decidable.not_not.mp c_22⟩)), rfl, by rw [show cKh τ x h = 0 from (if_pos c_6).trans (if_pos (Decidable.not_not.mp c_22))]⟩ dX6_isNoHour_33
  · skip
    refine r_iconst (v := nI 1) K dX6_isNoHour_9 (by decide) ?_
    refine r_goto K dX6_isNoHour_10 30 (by decide) ?_
    refine r_callV (st := []) K (k_X6_fails (c := 1) hl (by omega)) cw_X6_114 wd_1438 wd_24 (by decide) (by decide) rfl rfl rfl rfl (Nat.le_of_ble_eq_true rfl) (by decide) (by decide) dX6_isNoHour_30 ?_
    rintro _ _ _ ⟨rfl, rfl, rfl⟩
    show WW g z 3 0 0 ad (Wz z ad σ (su τ 72 0 0 1) o) 33 [(0, .ref (ad 20 0)), (1, .int (x)), (2, .int (h))] [.int (nI 1)]
    exact r_zret K (by first | rfl | decide | exact pI_nar) (by decide) (by decide) ⟨congrArg (fun x => some (Value.int x)) (pI_t (fun q => c_6 q.1)), rfl, by rw [show cKh τ x h = 1 from if_neg c_6]⟩ dX6_isNoHour_33
