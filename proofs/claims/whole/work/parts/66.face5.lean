set_option maxRecDepth 100000 in
set_option maxHeartbeats 4000000 in
theorem k_X5_claimWorst {z : Zx} {l : Launch} {σ τ : Sg} {o : Int64 × UInt64} {ad : Nm} (hl : l.stackTraces = false) {x : Int32} (Q : IR σ) (C : ICo σ) : Ko z l yX5_claimWorst cX5_claimWorst 4 (some .int) 8 2 12 [.ref (ad 0 0), .int (x)] ad (Wz z ad σ τ o) (okC z ad τ o (cCW σ x) (.int (nI (pmt σ (jN x) (wsh σ (jN x) (σ 12 0 0))))) (fPay σ (jN x) (wsh σ (jN x) (σ 12 0 0)))) (exT (cCW σ x) ["java/lang/IndexOutOfBoundsException", "java/util/NoSuchElementException"]) := by
  refine ko_of hl (by decide +kernel) (Nat.le_of_ble_eq_true rfl) (fun g hg K => ?_)
  subst hg
  have I := Q.1
  have L := C.1
  have D := C.2.1
  have q0 := I.1.1
  have q1 := I.1.2.1
  have q2 := I.1.2.2.1
  have q3 := I.1.2.2.2.1
  have q5 := Q.2.1
  show WW g z 4 0 0 ad (Wz z ad σ τ o) 0 [(0, .ref (ad 0 0)), (1, .int (x))] []
  refine r_aload_n K dX5_claimWorst_0 0 rfl rfl ?_
  refine r_iload_n K dX5_claimWorst_1 1 rfl rfl ?_
  refine r_callVx (st := []) K (k_X5_houseOf (x := x) hl I L) (fun E h => ⟨0, by unfold cCW; exact if_neg h.2, by rw [h.1]; rfl⟩) cw_X5_215 wd_878 wd_22 (by decide) (by decide) rfl rfl rfl rfl (Nat.le_of_ble_eq_true rfl) (by decide) (by decide) dX5_claimWorst_2 ?_
  rintro _ _ _ ⟨k, hk, rfl, rfl, rfl, rfl⟩
  have q_2 : in0 (nI k) (σ 0 2 0) := (in0_iff (by omega)).mpr ⟨k, hk, rfl⟩
  show WW g z 4 1 6 ad (Wz z ad σ τ o) 5 [(0, .ref (ad 0 0)), (1, .int (nI k))] [.ref (ad 11 k)]
  refine r_astore_n (lv' := [(2, .ref (ad 11 k)), (0, .ref (ad 0 0)), (1, .int (nI k))]) K dX5_claimWorst_5 rfl (by decide) rfl ?_
  refine r_aload_n K dX5_claimWorst_6 0 rfl rfl ?_
  refine r_aload_n K dX5_claimWorst_7 1 rfl rfl ?_
  refine r_get (v := .int (nI (σ 12 0 0))) K fd_X5_151 rfl rfl rfl dX5_claimWorst_8 ?_
  refine r_callV (st := []) K (k_X1_worstHour (k := k) (c := σ 12 0 0) hl I (by exact hk) (by omega)) cw_X5_240 wd_938 wd_939 (by decide) (by decide) (W_11 (by first | exact hb | exact hk | exact hj | exact hw | omega | assumption)) rfl rfl rfl (Nat.le_of_ble_eq_true rfl) (by decide) (by decide) dX5_claimWorst_11 ?_
  rintro _ _ _ ⟨rfl, rfl, rfl⟩
  show WW g z 4 1 6 ad (Wz z ad σ τ o) 14 [(2, .ref (ad 11 k)), (0, .ref (ad 0 0)), (1, .int (nI k))] [.int (nI (wsh σ k (σ 12 0 0)))]
  have hw1 := wsh_le σ k (σ 12 0 0)
  refine r_istore_n (lv' := [(3, .int (nI (wsh σ k (σ 12 0 0)))), (2, .ref (ad 11 k)), (0, .ref (ad 0 0)), (1, .int (nI k))]) K dX5_claimWorst_14 rfl (by decide) rfl ?_
  refine r_iload_n K dX5_claimWorst_15 0 rfl rfl ?_
  refine r_if_ne K dX5_claimWorst_16 29 (wsh σ k (σ 12 0 0) = 0) (n0_eq (by omega)) (by decide) (fun c_16 => ?_) (fun c_16 => ?_)
  · skip
    have hu := wsh_un (σ := σ) (k := k) _ c_16
    refine r_aload_n K dX5_claimWorst_29 1 rfl rfl ?_
    refine r_iload_n K dX5_claimWorst_30 0 rfl rfl ?_
    refine r_callV (st := []) K (k_X1_pay (k := k) (h := wsh σ k (σ 12 0 0)) hl I (by exact hk) (by have := wsh_le σ k (σ 12 0 0); omega)) cw_X5_237 wd_924 wd_925 (by decide) (by decide) (W_11 (by first | exact hb | exact hk | exact hj | exact hw | omega | assumption)) rfl rfl rfl (Nat.le_of_ble_eq_true rfl) (by decide) (by decide) dX5_claimWorst_31 ?_
    rintro _ _ _ ⟨rfl, rfl, rfl⟩
    show WW g z 4 1 6 ad (Wz z ad (payC σ k (wsh σ k (σ 12 0 0))) τ o) 34 [(3, .int (nI (wsh σ k (σ 12 0 0)))), (2, .ref (ad 11 k)), (0, .ref (ad 0 0)), (1, .int (nI k))] [.int (nI (pmt σ k (wsh σ k (σ 12 0 0))))]
    exact r_iret K (by decide) (by decide) ⟨(by unfold cCW; rw [if_pos q_2]; exact if_pos (show wsh σ (jN (nI k)) (σ 12 0 0) ≠ 0 by rw [jN_n (by omega)]; exact c_16)), by rw [jN_n (by omega)], adK.rf, _, rfl, (by rw [jN_n (by omega)]; exact pay_agr), C.pay hu.2 (by omega) (wsh_0 c_16)⟩ dX5_claimWorst_34
  · skip
    exact r_throwNS (text := "no hour to claim") K rfl (by decide +kernel) (by decide +kernel) (by decide) wd_941 wd_76 at_NSE (by decide) dX5_claimWorst_19 dX5_claimWorst_22 dX5_claimWorst_23 dX5_claimWorst_25 dX5_claimWorst_28 ⟨1, by unfold cCW; rw [if_pos q_2]; exact if_neg (by rw [jN_n (by omega)]; exact fun q => q c_16), rfl⟩ (Nat.le_of_ble_eq_true rfl) (by decide) (by decide)
