set_option maxRecDepth 100000 in
set_option maxHeartbeats 4000000 in
theorem k_X6_puts {z : Zx} {l : Launch} {σ τ : Sg} {o : Int64 × UInt64} {ad : Nm} (hl : l.stackTraces = false) {c : Nat} (hc : c < 65536) (h2 : τ 12 2 0 < 20) : Ko z l yX6_puts cX6_puts 2 none 0 0 0 [.ref (ad 20 0), .int (nI c)] ad (Wz z ad σ τ o) (okV none ad (Wz z ad σ (lput τ c) o)) exNo := by
  refine ko_of hl (by decide +kernel) (Nat.le_of_ble_eq_true rfl) (fun g hg K => ?_)
  subst hg
  show WW g z 2 0 0 ad (Wz z ad σ τ o) 0 [(0, .ref (ad 20 0)), (1, .int (nI c))] []
  refine r_aload_n K dX6_puts_0 0 rfl rfl ?_
  refine r_get (v := .ref (ad 21 35)) K fd_X6_93 rfl rfl rfl dX6_puts_1 ?_
  refine r_aload_n K dX6_puts_4 0 rfl rfl ?_
  refine r_get (v := .int (nI (τ 12 2 0))) K fd_X6_207 rfl rfl rfl dX6_puts_5 ?_
  refine r_iload_n K dX6_puts_8 1 rfl rfl ?_
  refine r_cast (j := τ 12 2 0) K rfl rfl rfl (by omega) (by decide) (congrArg (upd _ _) (cn (by omega))) dX6_puts_9 ?_
  refine r_mu u_21_35 ?_
  show WW g z 2 0 0 ad (Wz z ad σ (su τ 11 0 (τ 12 2 0) c) o) 10 [(0, .ref (ad 20 0)), (1, .int (nI c))] []
  refine r_aload_n K dX6_puts_10 0 rfl rfl ?_
  refine r_dup K dX6_puts_11 rfl ?_
  refine r_get (v := .int (nI (τ 12 2 0))) K fd_X6_207 rfl rfl rfl dX6_puts_12 ?_
  refine r_iconst (v := nI 1) K dX6_puts_15 (by decide) ?_
  refine r_iadd (v := nI ((τ 12 2 0) + 1)) K dX6_puts_16 (nI_add _ _) ?_
  refine r_put K fd_X6_207 rfl rfl rfl rfl (Nat.le_of_ble_eq_true rfl) rfl dX6_puts_17 ?_
  refine r_mu (u_20_36) ?_
  show WW g z 2 0 0 ad (Wz z ad σ (su (su τ 11 0 (τ 12 2 0) c) 12 2 0 ((τ 12 2 0) + 1)) o) 20 [(0, .ref (ad 20 0)), (1, .int (nI c))] []
  exact r_vret K (by decide) (by decide) ⟨rfl, rfl, rfl⟩ dX6_puts_20
set_option maxRecDepth 100000 in
set_option maxHeartbeats 4000000 in
theorem k_X6_putsNumber {z : Zx} {l : Launch} {σ τ : Sg} {o : Int64 × UInt64} {ad : Nm} (hl : l.stackTraces = false) {v : Nat} (hv : v ≤ 99) (h2 : τ 12 2 0 + 1 < 20) : Ko z l yX6_putsNumber cX6_putsNumber 2 none 1 0 0 [.ref (ad 20 0), .int (nI v)] ad (Wz z ad σ τ o) (okV none ad (Wz z ad σ (lnum τ v) o)) exNo := by
  refine ko_of hl (by decide +kernel) (Nat.le_of_ble_eq_true rfl) (fun g hg K => ?_)
  subst hg
  show WW g z 2 0 0 ad (Wz z ad σ τ o) 0 [(0, .ref (ad 20 0)), (1, .int (nI v))] []
  refine r_iload_n K dX6_putsNumber_0 1 rfl rfl ?_
  refine r_bipush (v := nI 10) K dX6_putsNumber_1 (by decide) ?_
  refine r_icmp_lt K dX6_putsNumber_3 18 (v < 10) (nI_ltI (by omega) (by omega)) (by decide) (fun c_3 => ?_) (fun c_3 => ?_)
  · skip
    refine r_aload_n K dX6_putsNumber_18 0 rfl rfl ?_
    refine r_bipush (v := nI 48) K dX6_putsNumber_19 (by decide) ?_
    refine r_iload_n K dX6_putsNumber_21 1 rfl rfl ?_
    refine r_bipush (v := nI 10) K dX6_putsNumber_22 (by decide) ?_
    refine r_irem (v := nI (v % 10)) K dX6_putsNumber_24 (nI_z (by omega) (by omega)) (pk_rem (by omega) (by omega) (by omega)) ?_
    refine r_iadd (v := nI (48 + (v % 10))) K dX6_putsNumber_25 (nI_add _ _) ?_
    refine r_i2c (v := nI (48 + (v % 10))) K dX6_putsNumber_26 (i2cN (by omega)) ?_
    refine r_callV (st := []) K (k_X6_puts (τ := τ) (c := 48 + (v % 10)) hl (by omega) (by first | omega | (rw [lput_len]; omega))) cw_X6_210 wd_1689 wd_46 (by decide) (by decide) rfl rfl rfl rfl (Nat.le_of_ble_eq_true rfl) (by decide) (by decide) dX6_putsNumber_27 ?_
    rintro _ _ _ ⟨rfl, rfl, rfl⟩
    show WW g z 2 0 0 ad (Wz z ad σ (lput τ (48 + (v % 10))) o) 30 [(0, .ref (ad 20 0)), (1, .int (nI v))] []
    exact r_vret K (by decide) (by decide) ⟨rfl, rfl, by unfold lnum; rw [if_neg (by omega)]⟩ dX6_putsNumber_30
  · skip
    refine r_aload_n K dX6_putsNumber_6 0 rfl rfl ?_
    refine r_bipush (v := nI 48) K dX6_putsNumber_7 (by decide) ?_
    refine r_iload_n K dX6_putsNumber_9 1 rfl rfl ?_
    refine r_bipush (v := nI 10) K dX6_putsNumber_10 (by decide) ?_
    refine r_idiv (v := nI (v / 10)) K dX6_putsNumber_12 (nI_z (by omega) (by omega)) (pk_div (by omega) (by omega) (by omega)) ?_
    refine r_iadd (v := nI (48 + (v / 10))) K dX6_putsNumber_13 (nI_add _ _) ?_
    refine r_i2c (v := nI (48 + (v / 10))) K dX6_putsNumber_14 (i2cN (by omega)) ?_
    refine r_callV (st := []) K (k_X6_puts (τ := τ) (c := 48 + (v / 10)) hl (by omega) (by first | omega | (rw [lput_len]; omega))) cw_X6_210 wd_1689 wd_46 (by decide) (by decide) rfl rfl rfl rfl (Nat.le_of_ble_eq_true rfl) (by decide) (by decide) dX6_putsNumber_15 ?_
    rintro _ _ _ ⟨rfl, rfl, rfl⟩
    show WW g z 2 0 0 ad (Wz z ad σ (lput τ (48 + (v / 10))) o) 18 [(0, .ref (ad 20 0)), (1, .int (nI v))] []
    refine r_aload_n K dX6_putsNumber_18 0 rfl rfl ?_
    refine r_bipush (v := nI 48) K dX6_putsNumber_19 (by decide) ?_
    refine r_iload_n K dX6_putsNumber_21 1 rfl rfl ?_
    refine r_bipush (v := nI 10) K dX6_putsNumber_22 (by decide) ?_
    refine r_irem (v := nI (v % 10)) K dX6_putsNumber_24 (nI_z (by omega) (by omega)) (pk_rem (by omega) (by omega) (by omega)) ?_
    refine r_iadd (v := nI (48 + (v % 10))) K dX6_putsNumber_25 (nI_add _ _) ?_
    refine r_i2c (v := nI (48 + (v % 10))) K dX6_putsNumber_26 (i2cN (by omega)) ?_
    refine r_callV (st := []) K (k_X6_puts (τ := (lput τ (48 + (v / 10)))) (c := 48 + (v % 10)) hl (by omega) (by first | omega | (rw [lput_len]; omega))) cw_X6_210 wd_1689 wd_46 (by decide) (by decide) rfl rfl rfl rfl (Nat.le_of_ble_eq_true rfl) (by decide) (by decide) dX6_putsNumber_27 ?_
    rintro _ _ _ ⟨rfl, rfl, rfl⟩
    show WW g z 2 0 0 ad (Wz z ad σ (lput (lput τ (48 + (v / 10))) (48 + (v % 10))) o) 30 [(0, .ref (ad 20 0)), (1, .int (nI v))] []
    exact r_vret K (by decide) (by decide) ⟨rfl, rfl, by unfold lnum; rw [if_pos (by omega)]⟩ dX6_putsNumber_30
set_option maxRecDepth 100000 in
set_option maxHeartbeats 4000000 in
theorem k_X6_writeRule {z : Zx} {l : Launch} {σ τ : Sg} {o : Int64 × UInt64} {ad : Nm} (hl : l.stackTraces = false) {x : Int32} (Q : IR τ) (Q2 : IMo τ) : Ko z l yX6_writeRule cX6_writeRule 2 (some .int) 7 0 0 [.ref (ad 20 0), .int (x)] ad (Wz z ad σ τ o) (okM z ad σ o Value.int (cR τ x) (nI (wrl τ (τ 8 (jN x) 0) (τ 8 (jN x) 1) (τ 8 (jN x) 2) (τ 8 (jN x) 3) (τ 8 (jN x) 4) 12 2 0)) (if (cR τ x) = 0 then (wrl τ (τ 8 (jN x) 0) (τ 8 (jN x) 1) (τ 8 (jN x) 2) (τ 8 (jN x) 3) (τ 8 (jN x) 4)) else τ)) exNo := by
  refine ko_of hl (by decide +kernel) (Nat.le_of_ble_eq_true rfl) (fun g hg K => ?_)
  subst hg
  have I := Q.1
  have q0 := I.1.1
  have q1 := I.1.2.1
  have q2 := I.1.2.2.1
  have q3 := I.1.2.2.2.1
  have q4 := I.1.2.2.2.2.1
  show WW g z 2 0 0 ad (Wz z ad σ τ o) 0 [(0, .ref (ad 20 0)), (1, .int (x))] []
  refine r_aload_n K dX6_writeRule_0 0 rfl rfl ?_
  refine r_iload_n K dX6_writeRule_1 1 rfl rfl ?_
  refine r_callV (st := []) K (k_X6_isNoRule (x := x) hl) cw_X6_130 wd_1478 wd_27 (by decide) (by decide) rfl rfl rfl rfl (Nat.le_of_ble_eq_true rfl) (by decide) (by decide) dX6_writeRule_2 ?_
  rintro _ _ _ ⟨rfl, rfl, rfl⟩
  show WW g z 2 0 0 ad (Wz z ad σ (su τ 72 0 0 (cR τ x)) o) 5 [(0, .ref (ad 20 0)), (1, .int (x))] [.int (pI (¬ in0 x (τ 0 1 0)))]
  refine r_if_eq K dX6_writeRule_5 10 (in0 x (τ 0 1 0)) pI_n0 (by decide) (fun c_5 => ?_) (fun c_5 => ?_)
  · skip
    obtain ⟨j, hj, rfl⟩ := (in0_iff (by omega)).mp c_5
    obtain ⟨p1, p2, p3, p4, p5⟩ := I.2.2.1 j hj
    have n0 : (su (su τ 72 0 0 (cR τ (nI j))) 12 2 0 0) 12 2 0 = 0 := su_s
    have n1 : (lnum (su (su τ 72 0 0 (cR τ (nI j))) 12 2 0 0) (τ 8 j 0)) 12 2 0 ≤ 2 := by rw [lnum_len]; split <;> omega
    have n2 : (lput (lnum (su (su τ 72 0 0 (cR τ (nI j))) 12 2 0 0) (τ 8 j 0)) 58) 12 2 0 ≤ 3 := by rw [lput_len]; omega
    have n3 : (lnum (lput (lnum (su (su τ 72 0 0 (cR τ (nI j))) 12 2 0 0) (τ 8 j 0)) 58) (τ 8 j 1)) 12 2 0 ≤ 5 := by rw [lnum_len]; split <;> omega
    have n4 : (lput (lnum (lput (lnum (su (su τ 72 0 0 (cR τ (nI j))) 12 2 0 0) (τ 8 j 0)) 58) (τ 8 j 1)) (isF (τ 8 j 2))) 12 2 0 ≤ 6 := by rw [lput_len]; omega
    have n5 : (lnum (lput (lnum (lput (lnum (su (su τ 72 0 0 (cR τ (nI j))) 12 2 0 0) (τ 8 j 0)) 58) (τ 8 j 1)) (isF (τ 8 j 2))) (τ 8 j 3)) 12 2 0 ≤ 8 := by rw [lnum_len]; split <;> omega
    have n6 : (lput (lnum (lput (lnum (lput (lnum (su (su τ 72 0 0 (cR τ (nI j))) 12 2 0 0) (τ 8 j 0)) 58) (τ 8 j 1)) (isF (τ 8 j 2))) (τ 8 j 3)) 61) 12 2 0 ≤ 9 := by rw [lput_len]; omega
    have k0 : kL (su τ 72 0 0 (cR τ (nI j))) (su (su τ 72 0 0 (cR τ (nI j))) 12 2 0 0) := (kL.len (σ := su τ 72 0 0 (cR τ (nI j))) (v := 0))
    have k1 : kL (su τ 72 0 0 (cR τ (nI j))) (lnum (su (su τ 72 0 0 (cR τ (nI j))) 12 2 0 0) (τ 8 j 0)) := ((kL.len (σ := su τ 72 0 0 (cR τ (nI j))) (v := 0)).tr kL.num)
    have k2 : kL (su τ 72 0 0 (cR τ (nI j))) (lput (lnum (su (su τ 72 0 0 (cR τ (nI j))) 12 2 0 0) (τ 8 j 0)) 58) := (((kL.len (σ := su τ 72 0 0 (cR τ (nI j))) (v := 0)).tr kL.num).tr kL.put)
    have k3 : kL (su τ 72 0 0 (cR τ (nI j))) (lnum (lput (lnum (su (su τ 72 0 0 (cR τ (nI j))) 12 2 0 0) (τ 8 j 0)) 58) (τ 8 j 1)) := ((((kL.len (σ := su τ 72 0 0 (cR τ (nI j))) (v := 0)).tr kL.num).tr kL.put).tr kL.num)
    have k4 : kL (su τ 72 0 0 (cR τ (nI j))) (lput (lnum (lput (lnum (su (su τ 72 0 0 (cR τ (nI j))) 12 2 0 0) (τ 8 j 0)) 58) (τ 8 j 1)) (isF (τ 8 j 2))) := (((((kL.len (σ := su τ 72 0 0 (cR τ (nI j))) (v := 0)).tr kL.num).tr kL.put).tr kL.num).tr kL.put)
    have k5 : kL (su τ 72 0 0 (cR τ (nI j))) (lnum (lput (lnum (lput (lnum (su (su τ 72 0 0 (cR τ (nI j))) 12 2 0 0) (τ 8 j 0)) 58) (τ 8 j 1)) (isF (τ 8 j 2))) (τ 8 j 3)) := ((((((kL.len (σ := su τ 72 0 0 (cR τ (nI j))) (v := 0)).tr kL.num).tr kL.put).tr kL.num).tr kL.put).tr kL.num)
    have k6 : kL (su τ 72 0 0 (cR τ (nI j))) (lput (lnum (lput (lnum (lput (lnum (su (su τ 72 0 0 (cR τ (nI j))) 12 2 0 0) (τ 8 j 0)) 58) (τ 8 j 1)) (isF (τ 8 j 2))) (τ 8 j 3)) 61) := (((((((kL.len (σ := su τ 72 0 0 (cR τ (nI j))) (v := 0)).tr kL.num).tr kL.put).tr kL.num).tr kL.put).tr kL.num).tr kL.put)
    refine r_aload_n K dX6_writeRule_10 0 rfl rfl ?_
    refine r_iconst (v := nI 0) K dX6_writeRule_11 (by decide) ?_
    refine r_put K fd_X6_207 rfl rfl rfl rfl (Nat.le_of_ble_eq_true rfl) rfl dX6_writeRule_12 ?_
    refine r_mu (u_20_36) ?_
    show WW g z 2 0 0 ad (Wz z ad σ (su (su τ 72 0 0 (cR τ (nI j))) 12 2 0 0) o) 15 [(0, .ref (ad 20 0)), (1, .int (nI j))] []
    refine r_aload_n K dX6_writeRule_15 0 rfl rfl ?_
    refine r_aload_n K dX6_writeRule_16 0 rfl rfl ?_
    refine r_get (v := .ref (ad 21 15)) K fd_X6_49 rfl rfl rfl dX6_writeRule_17 ?_
    refine r_iload_n K dX6_writeRule_20 1 rfl rfl ?_
    have er : (su (su τ 72 0 0 (cR τ (nI j))) 12 2 0 0) 8 j 0 = τ 8 j 0 := k0 8 j 0 (by omega)
    refine r_iald (j := j) (v := nI (τ 8 j 0)) K rfl rfl rfl (by omega) (by decide) (by show nI _ = nI _; rw [er]) dX6_writeRule_21 ?_
    refine r_callV (st := []) K (k_X6_putsNumber (τ := (su (su τ 72 0 0 (cR τ (nI j))) 12 2 0 0)) (v := τ 8 j 0) hl (by omega) (by first | omega | (rw [lput_len]; omega) | (rw [lnum_len]; split <;> omega))) cw_X6_214 wd_1685 wd_45 (by decide) (by decide) rfl rfl rfl rfl (Nat.le_of_ble_eq_true rfl) (by decide) (by decide) dX6_writeRule_22 ?_
    rintro _ _ _ ⟨rfl, rfl, rfl⟩
    show WW g z 2 0 0 ad (Wz z ad σ (lnum (su (su τ 72 0 0 (cR τ (nI j))) 12 2 0 0) (τ 8 j 0)) o) 25 [(0, .ref (ad 20 0)), (1, .int (nI j))] []
    refine r_aload_n K dX6_writeRule_25 0 rfl rfl ?_
    refine r_bipush (v := nI 58) K dX6_writeRule_26 (by decide) ?_
    refine r_callV (st := []) K (k_X6_puts (τ := (lnum (su (su τ 72 0 0 (cR τ (nI j))) 12 2 0 0) (τ 8 j 0))) (c := 58) hl (by omega) (by first | omega | (rw [lput_len]; omega) | (rw [lnum_len]; split <;> omega))) cw_X6_210 wd_1689 wd_46 (by decide) (by decide) rfl rfl rfl rfl (Nat.le_of_ble_eq_true rfl) (by decide) (by decide) dX6_writeRule_28 ?_
    rintro _ _ _ ⟨rfl, rfl, rfl⟩
    show WW g z 2 0 0 ad (Wz z ad σ (lput (lnum (su (su τ 72 0 0 (cR τ (nI j))) 12 2 0 0) (τ 8 j 0)) 58) o) 31 [(0, .ref (ad 20 0)), (1, .int (nI j))] []
    refine r_aload_n K dX6_writeRule_31 0 rfl rfl ?_
    refine r_aload_n K dX6_writeRule_32 0 rfl rfl ?_
    refine r_get (v := .ref (ad 21 16)) K fd_X6_52 rfl rfl rfl dX6_writeRule_33 ?_
    refine r_iload_n K dX6_writeRule_36 1 rfl rfl ?_
    have er : (lput (lnum (su (su τ 72 0 0 (cR τ (nI j))) 12 2 0 0) (τ 8 j 0)) 58) 8 j 1 = τ 8 j 1 := k2 8 j 1 (by omega)
    refine r_iald (j := j) (v := nI (τ 8 j 1)) K rfl rfl rfl (by omega) (by decide) (by show nI _ = nI _; rw [er]) dX6_writeRule_37 ?_
    refine r_callV (st := []) K (k_X6_putsNumber (τ := (lput (lnum (su (su τ 72 0 0 (cR τ (nI j))) 12 2 0 0) (τ 8 j 0)) 58)) (v := τ 8 j 1) hl (by omega) (by first | omega | (rw [lput_len]; omega) | (rw [lnum_len]; split <;> omega))) cw_X6_214 wd_1685 wd_45 (by decide) (by decide) rfl rfl rfl rfl (Nat.le_of_ble_eq_true rfl) (by decide) (by decide) dX6_writeRule_38 ?_
    rintro _ _ _ ⟨rfl, rfl, rfl⟩
    show WW g z 2 0 0 ad (Wz z ad σ (lnum (lput (lnum (su (su τ 72 0 0 (cR τ (nI j))) 12 2 0 0) (τ 8 j 0)) 58) (τ 8 j 1)) o) 41 [(0, .ref (ad 20 0)), (1, .int (nI j))] []
    refine r_aload_n K dX6_writeRule_41 0 rfl rfl ?_
    refine r_aload_n K dX6_writeRule_42 0 rfl rfl ?_
    refine r_get (v := .ref (ad 21 17)) K fd_X6_55 rfl rfl rfl dX6_writeRule_43 ?_
    refine r_iload_n K dX6_writeRule_46 1 rfl rfl ?_
    have er : (lnum (lput (lnum (su (su τ 72 0 0 (cR τ (nI j))) 12 2 0 0) (τ 8 j 0)) 58) (τ 8 j 1)) 8 j 2 = τ 8 j 2 := k3 8 j 2 (by omega)
    refine r_zald (j := j) (v := nI (τ 8 j 2)) K rfl rfl rfl (by omega) (by decide) (by show nI _ = nI _; rw [er]) dX6_writeRule_47 ?_
    refine r_if_eq K dX6_writeRule_48 56 (τ 8 j 2 = 0) (n0_eq (by omega)) (by decide) (fun c_48 => ?_) (fun c_48 => ?_)
    · skip
      refine r_bipush (v := nI 60) K dX6_writeRule_56 (by decide) ?_
      have gf := @isF_le (τ 8 j 2)
      refine r_eq (st' := [.int (nI (isF (τ 8 j 2))), .ref (ad 20 0)]) rfl rfl rfl (by unfold isF; rw [if_pos (by omega)]) ?_
      refine r_callV (st := []) K (k_X6_puts (τ := (lnum (lput (lnum (su (su τ 72 0 0 (cR τ (nI j))) 12 2 0 0) (τ 8 j 0)) 58) (τ 8 j 1))) (c := isF (τ 8 j 2)) hl (by omega) (by first | omega | (rw [lput_len]; omega) | (rw [lnum_len]; split <;> omega))) cw_X6_210 wd_1689 wd_46 (by decide) (by decide) rfl rfl rfl rfl (Nat.le_of_ble_eq_true rfl) (by decide) (by decide) dX6_writeRule_58 ?_
      rintro _ _ _ ⟨rfl, rfl, rfl⟩
      show WW g z 2 0 0 ad (Wz z ad σ (lput (lnum (lput (lnum (su (su τ 72 0 0 (cR τ (nI j))) 12 2 0 0) (τ 8 j 0)) 58) (τ 8 j 1)) (isF (τ 8 j 2))) o) 61 [(0, .ref (ad 20 0)), (1, .int (nI j))] []
      refine r_aload_n K dX6_writeRule_61 0 rfl rfl ?_
      refine r_aload_n K dX6_writeRule_62 0 rfl rfl ?_
      refine r_get (v := .ref (ad 21 18)) K fd_X6_59 rfl rfl rfl dX6_writeRule_63 ?_
      refine r_iload_n K dX6_writeRule_66 1 rfl rfl ?_
      have er : (lput (lnum (lput (lnum (su (su τ 72 0 0 (cR τ (nI j))) 12 2 0 0) (τ 8 j 0)) 58) (τ 8 j 1)) (isF (τ 8 j 2))) 8 j 3 = τ 8 j 3 := k4 8 j 3 (by omega)
      refine r_iald (j := j) (v := nI (τ 8 j 3)) K rfl rfl rfl (by omega) (by decide) (by show nI _ = nI _; rw [er]) dX6_writeRule_67 ?_
      refine r_callV (st := []) K (k_X6_putsNumber (τ := (lput (lnum (lput (lnum (su (su τ 72 0 0 (cR τ (nI j))) 12 2 0 0) (τ 8 j 0)) 58) (τ 8 j 1)) (isF (τ 8 j 2)))) (v := τ 8 j 3) hl (by omega) (by first | omega | (rw [lput_len]; omega) | (rw [lnum_len]; split <;> omega))) cw_X6_214 wd_1685 wd_45 (by decide) (by decide) rfl rfl rfl rfl (Nat.le_of_ble_eq_true rfl) (by decide) (by decide) dX6_writeRule_68 ?_
      rintro _ _ _ ⟨rfl, rfl, rfl⟩
      show WW g z 2 0 0 ad (Wz z ad σ (lnum (lput (lnum (lput (lnum (su (su τ 72 0 0 (cR τ (nI j))) 12 2 0 0) (τ 8 j 0)) 58) (τ 8 j 1)) (isF (τ 8 j 2))) (τ 8 j 3)) o) 71 [(0, .ref (ad 20 0)), (1, .int (nI j))] []
      refine r_aload_n K dX6_writeRule_71 0 rfl rfl ?_
      refine r_bipush (v := nI 61) K dX6_writeRule_72 (by decide) ?_
      refine r_callV (st := []) K (k_X6_puts (τ := (lnum (lput (lnum (lput (lnum (su (su τ 72 0 0 (cR τ (nI j))) 12 2 0 0) (τ 8 j 0)) 58) (τ 8 j 1)) (isF (τ 8 j 2))) (τ 8 j 3))) (c := 61) hl (by omega) (by first | omega | (rw [lput_len]; omega) | (rw [lnum_len]; split <;> omega))) cw_X6_210 wd_1689 wd_46 (by decide) (by decide) rfl rfl rfl rfl (Nat.le_of_ble_eq_true rfl) (by decide) (by decide) dX6_writeRule_74 ?_
      rintro _ _ _ ⟨rfl, rfl, rfl⟩
      show WW g z 2 0 0 ad (Wz z ad σ (lput (lnum (lput (lnum (lput (lnum (su (su τ 72 0 0 (cR τ (nI j))) 12 2 0 0) (τ 8 j 0)) 58) (τ 8 j 1)) (isF (τ 8 j 2))) (τ 8 j 3)) 61) o) 77 [(0, .ref (ad 20 0)), (1, .int (nI j))] []
      refine r_aload_n K dX6_writeRule_77 0 rfl rfl ?_
      refine r_aload_n K dX6_writeRule_78 0 rfl rfl ?_
      refine r_get (v := .ref (ad 21 19)) K fd_X6_62 rfl rfl rfl dX6_writeRule_79 ?_
      refine r_iload_n K dX6_writeRule_82 1 rfl rfl ?_
      have er : (lput (lnum (lput (lnum (lput (lnum (su (su τ 72 0 0 (cR τ (nI j))) 12 2 0 0) (τ 8 j 0)) 58) (τ 8 j 1)) (isF (τ 8 j 2))) (τ 8 j 3)) 61) 8 j 4 = τ 8 j 4 := k6 8 j 4 (by omega)
      refine r_iald (j := j) (v := nI (τ 8 j 4)) K rfl rfl rfl (by omega) (by decide) (by show nI _ = nI _; rw [er]) dX6_writeRule_83 ?_
      refine r_callV (st := []) K (k_X6_putsNumber (τ := (lput (lnum (lput (lnum (lput (lnum (su (su τ 72 0 0 (cR τ (nI j))) 12 2 0 0) (τ 8 j 0)) 58) (τ 8 j 1)) (isF (τ 8 j 2))) (τ 8 j 3)) 61)) (v := τ 8 j 4) hl (by omega) (by first | omega | (rw [lput_len]; omega) | (rw [lnum_len]; split <;> omega))) cw_X6_214 wd_1685 wd_45 (by decide) (by decide) rfl rfl rfl rfl (Nat.le_of_ble_eq_true rfl) (by decide) (by decide) dX6_writeRule_84 ?_
      rintro _ _ _ ⟨rfl, rfl, rfl⟩
      show WW g z 2 0 0 ad (Wz z ad σ (lnum (lput (lnum (lput (lnum (lput (lnum (su (su τ 72 0 0 (cR τ (nI j))) 12 2 0 0) (τ 8 j 0)) 58) (τ 8 j 1)) (isF (τ 8 j 2))) (τ 8 j 3)) 61) (τ 8 j 4)) o) 87 [(0, .ref (ad 20 0)), (1, .int (nI j))] []
      refine r_aload_n K dX6_writeRule_87 0 rfl rfl ?_
      refine r_get (v := .int (nI ((lnum (lput (lnum (lput (lnum (lput (lnum (su (su τ 72 0 0 (cR τ (nI j))) 12 2 0 0) (τ 8 j 0)) 58) (τ 8 j 1)) (isF (τ 8 j 2))) (τ 8 j 3)) 61) (τ 8 j 4)) 12 2 0))) K fd_X6_207 rfl rfl rfl dX6_writeRule_88 ?_
      exact r_iret K (by decide) (by decide) (okM_w (if_pos c_5) (by rw [jN_n (by omega)]; exact congrArg nI wrl_len) (by rw [jN_n (by omega)]; exact agr.wrl (agr.rf.sx (by decide))) (IMo.ln (σ := su τ 72 0 0 (cR τ (nI j))) Q2 kL.wrl) ((kL.wrl (σ := su τ 72 0 0 (cR τ (nI j))) 72 0 0 (by omega)).trans (if_pos c_5))) dX6_writeRule_91
    · skip
      refine r_bipush (v := nI 62) K dX6_writeRule_51 (by decide) ?_
      refine r_goto K dX6_writeRule_53 58 (by decide) ?_
      have gf := @isF_le (τ 8 j 2)
      refine r_eq (st' := [.int (nI (isF (τ 8 j 2))), .ref (ad 20 0)]) rfl rfl rfl (by unfold isF; rw [if_neg (by omega)]) ?_
      refine r_callV (st := []) K (k_X6_puts (τ := (lnum (lput (lnum (su (su τ 72 0 0 (cR τ (nI j))) 12 2 0 0) (τ 8 j 0)) 58) (τ 8 j 1))) (c := isF (τ 8 j 2)) hl (by omega) (by first | omega | (rw [lput_len]; omega) | (rw [lnum_len]; split <;> omega))) cw_X6_210 wd_1689 wd_46 (by decide) (by decide) rfl rfl rfl rfl (Nat.le_of_ble_eq_true rfl) (by decide) (by decide) dX6_writeRule_58 ?_
      rintro _ _ _ ⟨rfl, rfl, rfl⟩
      show WW g z 2 0 0 ad (Wz z ad σ (lput (lnum (lput (lnum (su (su τ 72 0 0 (cR τ (nI j))) 12 2 0 0) (τ 8 j 0)) 58) (τ 8 j 1)) (isF (τ 8 j 2))) o) 61 [(0, .ref (ad 20 0)), (1, .int (nI j))] []
      refine r_aload_n K dX6_writeRule_61 0 rfl rfl ?_
      refine r_aload_n K dX6_writeRule_62 0 rfl rfl ?_
      refine r_get (v := .ref (ad 21 18)) K fd_X6_59 rfl rfl rfl dX6_writeRule_63 ?_
      refine r_iload_n K dX6_writeRule_66 1 rfl rfl ?_
      have er : (lput (lnum (lput (lnum (su (su τ 72 0 0 (cR τ (nI j))) 12 2 0 0) (τ 8 j 0)) 58) (τ 8 j 1)) (isF (τ 8 j 2))) 8 j 3 = τ 8 j 3 := k4 8 j 3 (by omega)
      refine r_iald (j := j) (v := nI (τ 8 j 3)) K rfl rfl rfl (by omega) (by decide) (by show nI _ = nI _; rw [er]) dX6_writeRule_67 ?_
      refine r_callV (st := []) K (k_X6_putsNumber (τ := (lput (lnum (lput (lnum (su (su τ 72 0 0 (cR τ (nI j))) 12 2 0 0) (τ 8 j 0)) 58) (τ 8 j 1)) (isF (τ 8 j 2)))) (v := τ 8 j 3) hl (by omega) (by first | omega | (rw [lput_len]; omega) | (rw [lnum_len]; split <;> omega))) cw_X6_214 wd_1685 wd_45 (by decide) (by decide) rfl rfl rfl rfl (Nat.le_of_ble_eq_true rfl) (by decide) (by decide) dX6_writeRule_68 ?_
      rintro _ _ _ ⟨rfl, rfl, rfl⟩
      show WW g z 2 0 0 ad (Wz z ad σ (lnum (lput (lnum (lput (lnum (su (su τ 72 0 0 (cR τ (nI j))) 12 2 0 0) (τ 8 j 0)) 58) (τ 8 j 1)) (isF (τ 8 j 2))) (τ 8 j 3)) o) 71 [(0, .ref (ad 20 0)), (1, .int (nI j))] []
      refine r_aload_n K dX6_writeRule_71 0 rfl rfl ?_
      refine r_bipush (v := nI 61) K dX6_writeRule_72 (by decide) ?_
      refine r_callV (st := []) K (k_X6_puts (τ := (lnum (lput (lnum (lput (lnum (su (su τ 72 0 0 (cR τ (nI j))) 12 2 0 0) (τ 8 j 0)) 58) (τ 8 j 1)) (isF (τ 8 j 2))) (τ 8 j 3))) (c := 61) hl (by omega) (by first | omega | (rw [lput_len]; omega) | (rw [lnum_len]; split <;> omega))) cw_X6_210 wd_1689 wd_46 (by decide) (by decide) rfl rfl rfl rfl (Nat.le_of_ble_eq_true rfl) (by decide) (by decide) dX6_writeRule_74 ?_
      rintro _ _ _ ⟨rfl, rfl, rfl⟩
      show WW g z 2 0 0 ad (Wz z ad σ (lput (lnum (lput (lnum (lput (lnum (su (su τ 72 0 0 (cR τ (nI j))) 12 2 0 0) (τ 8 j 0)) 58) (τ 8 j 1)) (isF (τ 8 j 2))) (τ 8 j 3)) 61) o) 77 [(0, .ref (ad 20 0)), (1, .int (nI j))] []
      refine r_aload_n K dX6_writeRule_77 0 rfl rfl ?_
      refine r_aload_n K dX6_writeRule_78 0 rfl rfl ?_
      refine r_get (v := .ref (ad 21 19)) K fd_X6_62 rfl rfl rfl dX6_writeRule_79 ?_
      refine r_iload_n K dX6_writeRule_82 1 rfl rfl ?_
      have er : (lput (lnum (lput (lnum (lput (lnum (su (su τ 72 0 0 (cR τ (nI j))) 12 2 0 0) (τ 8 j 0)) 58) (τ 8 j 1)) (isF (τ 8 j 2))) (τ 8 j 3)) 61) 8 j 4 = τ 8 j 4 := k6 8 j 4 (by omega)
      refine r_iald (j := j) (v := nI (τ 8 j 4)) K rfl rfl rfl (by omega) (by decide) (by show nI _ = nI _; rw [er]) dX6_writeRule_83 ?_
      refine r_callV (st := []) K (k_X6_putsNumber (τ := (lput (lnum (lput (lnum (lput (lnum (su (su τ 72 0 0 (cR τ (nI j))) 12 2 0 0) (τ 8 j 0)) 58) (τ 8 j 1)) (isF (τ 8 j 2))) (τ 8 j 3)) 61)) (v := τ 8 j 4) hl (by omega) (by first | omega | (rw [lput_len]; omega) | (rw [lnum_len]; split <;> omega))) cw_X6_214 wd_1685 wd_45 (by decide) (by decide) rfl rfl rfl rfl (Nat.le_of_ble_eq_true rfl) (by decide) (by decide) dX6_writeRule_84 ?_
      rintro _ _ _ ⟨rfl, rfl, rfl⟩
      show WW g z 2 0 0 ad (Wz z ad σ (lnum (lput (lnum (lput (lnum (lput (lnum (su (su τ 72 0 0 (cR τ (nI j))) 12 2 0 0) (τ 8 j 0)) 58) (τ 8 j 1)) (isF (τ 8 j 2))) (τ 8 j 3)) 61) (τ 8 j 4)) o) 87 [(0, .ref (ad 20 0)), (1, .int (nI j))] []
      refine r_aload_n K dX6_writeRule_87 0 rfl rfl ?_
      refine r_get (v := .int (nI ((lnum (lput (lnum (lput (lnum (lput (lnum (su (su τ 72 0 0 (cR τ (nI j))) 12 2 0 0) (τ 8 j 0)) 58) (τ 8 j 1)) (isF (τ 8 j 2))) (τ 8 j 3)) 61) (τ 8 j 4)) 12 2 0))) K fd_X6_207 rfl rfl rfl dX6_writeRule_88 ?_
      exact r_iret K (by decide) (by decide) (okM_w (if_pos c_5) (by rw [jN_n (by omega)]; exact congrArg nI wrl_len) (by rw [jN_n (by omega)]; exact agr.wrl (agr.rf.sx (by decide))) (IMo.ln (σ := su τ 72 0 0 (cR τ (nI j))) Q2 kL.wrl) ((kL.wrl (σ := su τ 72 0 0 (cR τ (nI j))) 72 0 0 (by omega)).trans (if_pos c_5))) dX6_writeRule_91
  · skip
    refine r_iconst (v := nI 0) K dX6_writeRule_8 (by decide) ?_
    exact r_iret K (by decide) (by decide) ⟨_, rfl, fun h => absurd h (by rw [show cR τ x = 1 from if_neg c_5]; decide), rfl, _, rfl, (by rw [if_neg (by rw [show cR τ x = 1 from if_neg c_5]; decide)]; exact agr.rf.sx (by decide)), Q2, rfl⟩ dX6_writeRule_9
set_option maxRecDepth 100000 in
set_option maxHeartbeats 4000000 in
theorem k_X6_lineAt {z : Zx} {l : Launch} {σ τ : Sg} {o : Int64 × UInt64} {ad : Nm} (hl : l.stackTraces = false) {x : Int32} (Q : IR τ) (Q2 : IMo τ) : Ko z l yX6_lineAt cX6_lineAt 2 (some .char) 7 0 0 [.ref (ad 20 0), .int (x)] ad (Wz z ad σ τ o) (okM z ad σ o Value.int (cL τ x) (nI (τ 11 0 (jN x))) τ) exNo := by
  refine ko_of hl (by decide +kernel) (Nat.le_of_ble_eq_true rfl) (fun g hg K => ?_)
  subst hg
  have I := Q.1
  have q0 := I.1.1
  have q1 := I.1.2.1
  have q2 := I.1.2.2.1
  have q3 := I.1.2.2.2.1
  have q4 := I.1.2.2.2.2.1
  show WW g z 2 0 0 ad (Wz z ad σ τ o) 0 [(0, .ref (ad 20 0)), (1, .int (x))] []
  refine r_aload_n K dX6_lineAt_0 0 rfl rfl ?_
  refine r_iload_n K dX6_lineAt_1 1 rfl rfl ?_
  refine r_iconst (v := nI 0) K dX6_lineAt_2 (by decide) ?_
  refine r_aload_n K dX6_lineAt_3 0 rfl rfl ?_
  refine r_get (v := .int (nI (τ 12 2 0))) K fd_X6_207 rfl rfl rfl dX6_lineAt_4 ?_
  refine r_iconst (v := nI 1) K dX6_lineAt_7 (by decide) ?_
  refine r_isub (v := (nI (τ 12 2 0)) - (nI 1)) K dX6_lineAt_8 rfl ?_
  refine r_callS (st := [.ref (ad 20 0)]) K (k_X6_in (x := x) (a := nI 0) (b := (nI (τ 12 2 0)) - (nI 1)) hl) cw_X6_103 wd_1434 (by decide) (by decide) rfl (Nat.le_of_ble_eq_true rfl) (by decide) (by decide) dX6_lineAt_9 ?_
  rintro _ _ _ ⟨rfl, rfl, rfl⟩
  show WW g z 2 0 0 ad (Wz z ad σ τ o) 12 [(0, .ref (ad 20 0)), (1, .int (x))] [.int (pI (in0 x (τ 12 2 0))), .ref (ad 20 0)]
  refine r_if_eq K dX6_lineAt_12 19 (¬ (in0 x (τ 12 2 0))) pI_eq0 (by decide) (fun c_12 => ?_) (fun c_12 => ?_)
  · skip
    refine r_iconst (v := nI 1) K dX6_lineAt_19 (by decide) ?_
    refine r_callV (st := []) K (k_X6_fails (c := 1) hl (by omega)) cw_X6_114 wd_1438 wd_24 (by decide) (by decide) rfl rfl rfl rfl (Nat.le_of_ble_eq_true rfl) (by decide) (by decide) dX6_lineAt_20 ?_
    rintro _ _ _ ⟨rfl, rfl, rfl⟩
    show WW g z 2 0 0 ad (Wz z ad σ (su τ 72 0 0 1) o) 23 [(0, .ref (ad 20 0)), (1, .int (x))] [.int (nI 1)]
    refine r_if_eq K dX6_lineAt_23 31 (1 = 0) (n0_eq (by omega)) (by decide) (fun c_23 => ?_) (fun c_23 => ?_)
    · skip
      exfalso; omega
    · skip
      refine r_bipush (v := nI 32) K dX6_lineAt_26 (by decide) ?_
      refine r_goto K dX6_lineAt_28 37 (by decide) ?_
      exact r_cret K (crN (by omega)) (by decide) (by decide) (okM_f (c := 0) Q2 (by unfold cL; exact (if_neg c_12).symm)) dX6_lineAt_37
  · skip
    have q_12 := Decidable.not_not.mp c_12
    obtain ⟨i, hi, rfl⟩ := (in0_iff (by omega)).mp q_12
    have gc := I.1.2.2.2.2.2 i hi
    refine r_iconst (v := nI 0) K dX6_lineAt_15 (by decide) ?_
    refine r_goto K dX6_lineAt_16 20 (by decide) ?_
    refine r_callV (st := []) K (k_X6_fails (c := 0) hl (by omega)) cw_X6_114 wd_1438 wd_24 (by decide) (by decide) rfl rfl rfl rfl (Nat.le_of_ble_eq_true rfl) (by decide) (by decide) dX6_lineAt_20 ?_
    rintro _ _ _ ⟨rfl, rfl, rfl⟩
    show WW g z 2 0 0 ad (Wz z ad σ (su τ 72 0 0 0) o) 23 [(0, .ref (ad 20 0)), (1, .int (nI i))] [.int (nI 0)]
    refine r_if_eq K dX6_lineAt_23 31 (0 = 0) (n0_eq (by omega)) (by decide) (fun c_23 => ?_) (fun c_23 => ?_)
    · skip
      refine r_aload_n K dX6_lineAt_31 0 rfl rfl ?_
      refine r_get (v := .ref (ad 21 35)) K fd_X6_93 rfl rfl rfl dX6_lineAt_32 ?_
      refine r_iload_n K dX6_lineAt_35 1 rfl rfl ?_
      refine r_cald (j := i) (v := nI (τ 11 0 i)) K rfl rfl rfl (by omega) (by decide) rfl dX6_lineAt_36 ?_
      exact r_cret K (crN (by omega)) (by decide) (by decide) (okM_r Q2 (Eq.symm (by unfold cL; exact if_pos q_12)) (by rw [jN_n (by omega)])) dX6_lineAt_37
    · skip
      exfalso; omega
