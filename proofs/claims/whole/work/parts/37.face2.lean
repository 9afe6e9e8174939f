set_option maxRecDepth 100000 in
set_option maxHeartbeats 4000000 in
theorem k_X5_setRain {z : Zx} {l : Launch} {σ τ : Sg} {o : Int64 × UInt64} {ad : Nm} (hl : l.stackTraces = false) {x y : Int32} (Q : IR σ) (C : ICo σ) : Ko z l yX5_setRain cX5_setRain 5 (some .int) 8 2 12 [.ref (ad 0 0), .int (x), .int (y)] ad (Wz z ad σ τ o) (okC z ad τ o (cBx σ 500 x y) (.int (nI (σ 1 (jN x) 5))) (fRain σ x y)) (exT (cBx σ 500 x y) ["java/lang/IndexOutOfBoundsException", "java/lang/IllegalArgumentException"]) := by
  refine ko_of hl (by decide +kernel) (Nat.le_of_ble_eq_true rfl) (fun g hg K => ?_)
  subst hg
  have I := Q.1
  have L := C.1
  have D := C.2.1
  have q0 := I.1.1
  have q1 := I.1.2.1
  have q2 := I.1.2.2.1
  have q3 := I.1.2.2.2.1
  have q5 := Q.2.1
  show WW g z 5 0 0 ad (Wz z ad σ τ o) 0 [(0, .ref (ad 0 0)), (1, .int (x)), (2, .int (y))] []
  refine r_aload_n K dX5_setRain_0 0 rfl rfl ?_
  refine r_iload_n K dX5_setRain_1 1 rfl rfl ?_
  refine r_callVx (st := []) K (k_X5_basinOf (x := x) hl I L) (fun E h => ⟨0, by unfold cBx; exact if_neg h.2, by rw [h.1]; rfl⟩) cw_X5_80 wd_603 wd_11 (by decide) (by decide) rfl rfl rfl rfl (Nat.le_of_ble_eq_true rfl) (by decide) (by decide) dX5_setRain_2 ?_
  rintro _ _ _ ⟨b, hb, rfl, rfl, rfl, rfl⟩
  have q_2 : in0 (nI b) (σ 0 0 0) := (in0_iff (by omega)).mpr ⟨b, hb, rfl⟩
  obtain ⟨-, -, -, hs, hs5, hs7⟩ := I.2.1 b hb
  have q8 := hs.2.1
  show WW g z 5 1 6 ad (Wz z ad σ τ o) 5 [(0, .ref (ad 0 0)), (1, .int (nI b)), (2, .int (y))] [.ref (ad 9 b)]
  refine r_astore_n (lv' := [(3, .ref (ad 9 b)), (0, .ref (ad 0 0)), (1, .int (nI b)), (2, .int (y))]) K dX5_setRain_5 rfl (by decide) rfl ?_
  refine r_iload_n K dX5_setRain_6 3 rfl rfl ?_
  refine r_iconst (v := nI 0) K dX5_setRain_7 (by decide) ?_
  refine r_sipush (v := nI 500) K dX5_setRain_8 (by decide) ?_
  refine r_callS (st := []) K (k_X5_isWithin (x := y) (a := nI 0) (b := nI 500) hl) cw_X5_43 wd_415 (by decide) (by decide) rfl (Nat.le_of_ble_eq_true rfl) (by decide) (by decide) dX5_setRain_11 ?_
  rintro _ _ _ ⟨rfl, rfl, rfl⟩
  show WW g z 5 1 6 ad (Wz z ad σ τ o) 14 [(3, .ref (ad 9 b)), (0, .ref (ad 0 0)), (1, .int (nI b)), (2, .int (y))] [.int (pI (nI 0 ≤ y ∧ y ≤ nI 500))]
  refine r_if_ne K dX5_setRain_14 27 (¬ (nI 0 ≤ y ∧ y ≤ nI 500)) pI_eq0 (by decide) (fun c_14 => ?_) (fun c_14 => ?_)
  · skip
    have q_14 := Decidable.not_not.mp c_14
    obtain ⟨p, hp, rfl⟩ := (inR_iff (by decide) (by decide)).mp q_14
    refine r_aload_n K dX5_setRain_27 0 rfl rfl ?_
    refine r_get (v := .int (nI (σ 1 b 5))) K fd_X5_140 (W_9 (by first | exact hb | exact hk | exact hj | exact hw | omega | assumption)) rfl rfl dX5_setRain_28 ?_
    refine r_istore (lv' := [(4, .int (nI (σ 1 b 5))), (3, .ref (ad 9 b)), (0, .ref (ad 0 0)), (1, .int (nI b)), (2, .int (nI p))]) K dX5_setRain_31 (by decide) rfl ?_
    refine r_aload_n K dX5_setRain_33 1 rfl rfl ?_
    refine r_iload_n K dX5_setRain_34 4 rfl rfl ?_
    refine r_put K fd_X5_140 (W_9 (by first | exact hb | exact hk | exact hj | exact hw | omega | assumption)) rfl rfl rfl (Nat.le_of_ble_eq_true rfl) rfl dX5_setRain_35 ?_
    refine r_mu (u_9_7 (by first | exact hb | exact hk | exact hj | exact hw | omega | assumption)) ?_
    show WW g z 5 1 6 ad (Wz z ad (su σ 1 b 5 p) τ o) 38 [(4, .int (nI (σ 1 b 5))), (3, .ref (ad 9 b)), (0, .ref (ad 0 0)), (1, .int (nI b)), (2, .int (nI p))] []
    refine r_iload K dX5_setRain_38 0 rfl ?_
    exact r_iret K (by decide) (by decide) ⟨(by unfold cBx; rw [if_pos q_2]; exact if_pos q_14), by rw [jN_n (by omega)], adK.rf, _, rfl, (by unfold fRain; rw [jN_n (by omega), jN_n (by omega)]; exact agr.rf), (C.cg rfl (fun b c h1 h2 => su_n (by omega)) rfl rfl rfl rfl (fun _ => rfl) (fun _ => rfl) rfl rfl rfl rfl rfl)⟩ dX5_setRain_40
  · skip
    exact r_throwS (text := "rain out of range") K rfl (by decide +kernel) (by decide +kernel) (by decide) wd_430 wd_63 at_IllegalArgumentException (by decide) dX5_setRain_17 dX5_setRain_20 dX5_setRain_21 dX5_setRain_23 dX5_setRain_26 ⟨1, by unfold cBx; rw [if_pos q_2]; exact if_neg c_14, rfl⟩ (Nat.le_of_ble_eq_true rfl) (by decide) (by decide)
set_option maxRecDepth 100000 in
set_option maxHeartbeats 4000000 in
theorem k_X5_isBalanced {z : Zx} {l : Launch} {σ τ : Sg} {o : Int64 × UInt64} {ad : Nm} (hl : l.stackTraces = false) (Q : IR σ) (C : ICo σ) : Ko z l yX5_isBalanced cX5_isBalanced 1 (some .boolean) 8 0 0 [.ref (ad 0 0)] ad (Wz z ad σ τ o) (okC z ad τ o 0 (.int (pI (nI (σ 12 1 0) = nI (hld σ 0 6 + σ 6 0 0)))) (σ)) exNo := by
  refine ko_of hl (by decide +kernel) (Nat.le_of_ble_eq_true rfl) (fun g hg K => ?_)
  subst hg
  have I := Q.1
  have L := C.1
  have D := C.2.1
  have q0 := I.1.1
  have q1 := I.1.2.1
  have q2 := I.1.2.2.1
  have q3 := I.1.2.2.2.1
  have q5 := Q.2.1
  show WW g z 1 0 0 ad (Wz z ad σ τ o) 0 [(0, .ref (ad 0 0))] []
  refine r_aload_n K dX5_isBalanced_0 0 rfl rfl ?_
  refine r_get (v := .int (nI (σ 12 1 0))) K fd_X5_169 rfl rfl rfl dX5_isBalanced_1 ?_
  refine r_aload_n K dX5_isBalanced_4 0 rfl rfl ?_
  refine r_get (v := .ref (ad 3 0)) K fd_X5_25 rfl rfl rfl dX5_isBalanced_5 ?_
  refine r_callV (st := [.int (nI (σ 12 1 0))]) K (k_X4_held (w := 0) hl (by decide)) cw_X5_175 wd_230 wd_231 (by decide) (by decide) (W_3 (by first | exact hb | exact hk | exact hj | exact hw | omega | assumption)) rfl rfl rfl (Nat.le_of_ble_eq_true rfl) (by decide) (by decide) dX5_isBalanced_8 ?_
  rintro _ _ _ ⟨rfl, rfl, rfl⟩
  show WW g z 1 0 0 ad (Wz z ad σ τ o) 11 [(0, .ref (ad 0 0))] [.int (nI (hld σ 0 6)), .int (nI (σ 12 1 0))]
  refine r_aload_n K dX5_isBalanced_11 0 rfl rfl ?_
  refine r_get (v := .ref (ad 3 0)) K fd_X5_25 rfl rfl rfl dX5_isBalanced_12 ?_
  refine r_get (v := .int (nI (σ 6 0 0))) K fd_X5_172 (W_3 (by first | exact hb | exact hk | exact hj | exact hw | omega | assumption)) rfl rfl dX5_isBalanced_15 ?_
  refine r_iadd (v := nI ((hld σ 0 6) + (σ 6 0 0))) K dX5_isBalanced_18 (nI_add _ _) ?_
  refine r_eq (st' := [.int (nI (hld σ 0 6 + σ 6 0 0)), .int (nI (σ 12 1 0))]) rfl rfl rfl rfl ?_
  refine r_icmp_ne K dX5_isBalanced_19 26 (nI (σ 12 1 0) = nI (hld σ 0 6 + σ 6 0 0)) Iff.rfl (by decide) (fun c_19 => ?_) (fun c_19 => ?_)
  · skip
    refine r_iconst (v := nI 0) K dX5_isBalanced_26 (by decide) ?_
    exact r_zret K (by first | rfl | decide | exact pI_nar) (by decide) (by decide) (okC_rd C rfl (congrArg Value.int (pI_f (by exact  c_19)))) dX5_isBalanced_27
  · skip
    refine r_iconst (v := nI 1) K dX5_isBalanced_22 (by decide) ?_
    refine r_goto K dX5_isBalanced_23 27 (by decide) ?_
    exact r_zret K (by first | rfl | decide | exact pI_nar) (by decide) (by decide) (okC_rd C rfl (congrArg Value.int (pI_t (by exact  c_19)))) dX5_isBalanced_27
set_option maxRecDepth 100000 in
set_option maxHeartbeats 4000000 in
theorem k_X5_wasWet {z : Zx} {l : Launch} {σ τ : Sg} {o : Int64 × UInt64} {ad : Nm} (hl : l.stackTraces = false) {x t : Int32} (Q : IR σ) (C : ICo σ) : Ko z l yX5_wasWet cX5_wasWet 4 (some .boolean) 8 2 12 [.ref (ad 0 0), .int (x), .int (t)] ad (Wz z ad σ τ o) (okC z ad τ o (cKh σ x t) (.int (pI (0 < dpC σ (σ 9 (jN x) 0) (σ 9 (jN x) 1) (σ 7 (σ 9 (jN x) 0) (jN t))))) (σ)) (exT (cKh σ x t) ["java/lang/IndexOutOfBoundsException", "java/lang/IllegalArgumentException"]) := by
  refine ko_of hl (by decide +kernel) (Nat.le_of_ble_eq_true rfl) (fun g hg K => ?_)
  subst hg
  have I := Q.1
  have L := C.1
  have D := C.2.1
  have q0 := I.1.1
  have q1 := I.1.2.1
  have q2 := I.1.2.2.1
  have q3 := I.1.2.2.2.1
  have q5 := Q.2.1
  show WW g z 4 0 0 ad (Wz z ad σ τ o) 0 [(0, .ref (ad 0 0)), (1, .int (x)), (2, .int (t))] []
  refine r_aload_n K dX5_wasWet_0 0 rfl rfl ?_
  refine r_iload_n K dX5_wasWet_1 1 rfl rfl ?_
  refine r_callVx (st := []) K (k_X5_houseOf (x := x) hl I L) (fun E h => ⟨0, by unfold cKh; exact if_neg h.2, by rw [h.1]; rfl⟩) cw_X5_215 wd_878 wd_22 (by decide) (by decide) rfl rfl rfl rfl (Nat.le_of_ble_eq_true rfl) (by decide) (by decide) dX5_wasWet_2 ?_
  rintro _ _ _ ⟨k, hk, rfl, rfl, rfl, rfl⟩
  have q_2 : in0 (nI k) (σ 0 2 0) := (in0_iff (by omega)).mpr ⟨k, hk, rfl⟩
  show WW g z 4 1 6 ad (Wz z ad σ τ o) 5 [(0, .ref (ad 0 0)), (1, .int (nI k)), (2, .int (t))] [.ref (ad 11 k)]
  refine r_astore_n (lv' := [(3, .ref (ad 11 k)), (0, .ref (ad 0 0)), (1, .int (nI k)), (2, .int (t))]) K dX5_wasWet_5 rfl (by decide) rfl ?_
  refine r_aload_n K dX5_wasWet_6 1 rfl rfl ?_
  refine r_iload_n K dX5_wasWet_7 3 rfl rfl ?_
  refine r_callVx (st := []) K (k_X5_requireHour (x := t) hl) (fun E h => ⟨1, by unfold cKh; rw [if_pos q_2]; exact if_neg h.2, by rw [h.1]; rfl⟩) cw_X5_189 wd_811 wd_21 (by decide) (by decide) rfl rfl rfl rfl (Nat.le_of_ble_eq_true rfl) (by decide) (by decide) dX5_wasWet_8 ?_
  rintro _ _ _ ⟨rfl, rfl, rfl, q_8⟩
  obtain ⟨h, hh, rfl⟩ := (inR_iff (by decide) (by omega)).mp q_8
  show WW g z 4 2 12 ad (Wz z ad σ τ o) 11 [(3, .ref (ad 11 k)), (0, .ref (ad 0 0)), (1, .int (nI k)), (2, .int (nI h))] []
  refine r_aload_n K dX5_wasWet_11 0 rfl rfl ?_
  refine r_iload_n K dX5_wasWet_12 3 rfl rfl ?_
  refine r_callV (st := []) K (k_X1_isWetAt (k := k) (h := h) hl I D (by exact hk) (by omega)) cw_X5_219 wd_882 wd_883 (by decide) (by decide) (W_11 (by first | exact hb | exact hk | exact hj | exact hw | omega | assumption)) rfl rfl rfl (Nat.le_of_ble_eq_true rfl) (by decide) (by decide) dX5_wasWet_13 ?_
  rintro _ _ _ ⟨rfl, rfl, rfl⟩
  show WW g z 4 2 12 ad (Wz z ad σ τ o) 16 [(3, .ref (ad 11 k)), (0, .ref (ad 0 0)), (1, .int (nI k)), (2, .int (nI h))] [.int (pI (σ 30 (σ 9 k 0) (σ 9 k 1) < σ 7 (σ 9 k 0) h))]
  exact r_zret K pI_nar (by decide) (by decide) (okC_rd C (by unfold cKh; rw [if_pos q_2]; exact if_pos q_8) (by rw [jN_n (by omega), jN_n (by omega)]; exact congrArg Value.int (pI_cg (wetH I D hk).symm))) dX5_wasWet_16
set_option maxRecDepth 100000 in
set_option maxHeartbeats 4000000 in
theorem k_X5_worthOf {z : Zx} {l : Launch} {σ τ : Sg} {o : Int64 × UInt64} {ad : Nm} (hl : l.stackTraces = false) {x t : Int32} (Q : IR σ) (C : ICo σ) : Ko z l yX5_worthOf cX5_worthOf 4 (some .int) 8 2 12 [.ref (ad 0 0), .int (x), .int (t)] ad (Wz z ad σ τ o) (okC z ad τ o (cKh σ x t) (.int (nI (wor σ (jN x) (jN t)))) (σ)) (exT (cKh σ x t) ["java/lang/IndexOutOfBoundsException", "java/lang/IllegalArgumentException"]) := by
  refine ko_of hl (by decide +kernel) (Nat.le_of_ble_eq_true rfl) (fun g hg K => ?_)
  subst hg
  have I := Q.1
  have L := C.1
  have D := C.2.1
  have q0 := I.1.1
  have q1 := I.1.2.1
  have q2 := I.1.2.2.1
  have q3 := I.1.2.2.2.1
  have q5 := Q.2.1
  show WW g z 4 0 0 ad (Wz z ad σ τ o) 0 [(0, .ref (ad 0 0)), (1, .int (x)), (2, .int (t))] []
  refine r_aload_n K dX5_worthOf_0 0 rfl rfl ?_
  refine r_iload_n K dX5_worthOf_1 1 rfl rfl ?_
  refine r_callVx (st := []) K (k_X5_houseOf (x := x) hl I L) (fun E h => ⟨0, by unfold cKh; exact if_neg h.2, by rw [h.1]; rfl⟩) cw_X5_215 wd_878 wd_22 (by decide) (by decide) rfl rfl rfl rfl (Nat.le_of_ble_eq_true rfl) (by decide) (by decide) dX5_worthOf_2 ?_
  rintro _ _ _ ⟨k, hk, rfl, rfl, rfl, rfl⟩
  have q_2 : in0 (nI k) (σ 0 2 0) := (in0_iff (by omega)).mpr ⟨k, hk, rfl⟩
  show WW g z 4 1 6 ad (Wz z ad σ τ o) 5 [(0, .ref (ad 0 0)), (1, .int (nI k)), (2, .int (t))] [.ref (ad 11 k)]
  refine r_astore_n (lv' := [(3, .ref (ad 11 k)), (0, .ref (ad 0 0)), (1, .int (nI k)), (2, .int (t))]) K dX5_worthOf_5 rfl (by decide) rfl ?_
  refine r_aload_n K dX5_worthOf_6 1 rfl rfl ?_
  refine r_iload_n K dX5_worthOf_7 3 rfl rfl ?_
  refine r_callVx (st := []) K (k_X5_requireHour (x := t) hl) (fun E h => ⟨1, by unfold cKh; rw [if_pos q_2]; exact if_neg h.2, by rw [h.1]; rfl⟩) cw_X5_189 wd_811 wd_21 (by decide) (by decide) rfl rfl rfl rfl (Nat.le_of_ble_eq_true rfl) (by decide) (by decide) dX5_worthOf_8 ?_
  rintro _ _ _ ⟨rfl, rfl, rfl, q_8⟩
  obtain ⟨h, hh, rfl⟩ := (inR_iff (by decide) (by omega)).mp q_8
  show WW g z 4 2 12 ad (Wz z ad σ τ o) 11 [(3, .ref (ad 11 k)), (0, .ref (ad 0 0)), (1, .int (nI k)), (2, .int (nI h))] []
  refine r_aload_n K dX5_worthOf_11 0 rfl rfl ?_
  refine r_iload_n K dX5_worthOf_12 3 rfl rfl ?_
  refine r_callV (st := []) K (k_X1_worthAt (k := k) (h := h) hl I (by exact hk) (by omega)) cw_X5_223 wd_894 wd_895 (by decide) (by decide) (W_11 (by first | exact hb | exact hk | exact hj | exact hw | omega | assumption)) rfl rfl rfl (Nat.le_of_ble_eq_true rfl) (by decide) (by decide) dX5_worthOf_13 ?_
  rintro _ _ _ ⟨rfl, rfl, rfl⟩
  show WW g z 4 2 12 ad (Wz z ad σ τ o) 16 [(3, .ref (ad 11 k)), (0, .ref (ad 0 0)), (1, .int (nI k)), (2, .int (nI h))] [.int (nI (wor σ k h))]
  exact r_iret K (by decide) (by decide) (okC_rd C (by unfold cKh; rw [if_pos q_2]; exact if_pos q_8) (by rw [jN_n (by omega), jN_n (by omega)])) dX5_worthOf_16
set_option maxRecDepth 100000 in
set_option maxHeartbeats 4000000 in
theorem k_X5_wetHours {z : Zx} {l : Launch} {σ τ : Sg} {o : Int64 × UInt64} {ad : Nm} (hl : l.stackTraces = false) {x y : Int32} (Q : IR σ) (C : ICo σ) : Ko z l yX5_wetHours cX5_wetHours 6 (some .int) 8 2 12 [.ref (ad 0 0), .int (x), .int (y)] ad (Wz z ad σ τ o) (okC z ad τ o (cC σ x y) (.int (nI (whr σ (jN x) (jN y) (σ 12 0 0)))) (σ)) (exT (cC σ x y) ["java/lang/IndexOutOfBoundsException"]) := by
  refine ko_of hl (by decide +kernel) (Nat.le_of_ble_eq_true rfl) (fun g hg K => ?_)
  subst hg
  have I := Q.1
  have L := C.1
  have D := C.2.1
  have q0 := I.1.1
  have q1 := I.1.2.1
  have q2 := I.1.2.2.1
  have q3 := I.1.2.2.2.1
  have q5 := Q.2.1
  show WW g z 6 0 0 ad (Wz z ad σ τ o) 0 [(0, .ref (ad 0 0)), (1, .int (x)), (2, .int (y))] []
  refine r_aload_n K dX5_wetHours_0 0 rfl rfl ?_
  refine r_iload_n K dX5_wetHours_1 1 rfl rfl ?_
  refine r_iload_n K dX5_wetHours_2 2 rfl rfl ?_
  refine r_callVx (st := []) K (k_X5_streetWith (x := x) (y := y) hl I L) (fun E h => ⟨0, by unfold cC; exact if_neg h.2, by rw [h.1]; rfl⟩) cw_X5_178 wd_775 wd_18 (by decide) (by decide) rfl rfl rfl rfl (Nat.le_of_ble_eq_true rfl) (by decide) (by decide) dX5_wetHours_3 ?_
  rintro _ _ _ ⟨b, c, hb, hc, rfl, rfl, rfl, rfl, rfl⟩
  obtain ⟨-, -, -, hs, hs5, hs7⟩ := I.2.1 b hb
  have q8 := hs.2.1
  have q_3 : in0 (nI b) (σ 0 0 0) ∧ in0 (nI c) (σ 1 (jN (nI b)) 6) := ⟨(in0_iff (by omega)).mpr ⟨b, hb, rfl⟩, by rw [jN_n (by omega)]; exact (in0_iff (by omega)).mpr ⟨c, hc, rfl⟩⟩
  show WW g z 6 2 12 ad (Wz z ad σ τ o) 6 [(0, .ref (ad 0 0)), (1, .int (nI b)), (2, .int (nI c))] [.ref (ad 12 b)]
  refine r_astore_n (lv' := [(3, .ref (ad 12 b)), (0, .ref (ad 0 0)), (1, .int (nI b)), (2, .int (nI c))]) K dX5_wetHours_6 rfl (by decide) rfl ?_
  refine r_iconst (v := nI 0) K dX5_wetHours_7 (by decide) ?_
  refine r_istore (lv' := [(4, .int (nI 0)), (3, .ref (ad 12 b)), (0, .ref (ad 0 0)), (1, .int (nI b)), (2, .int (nI c))]) K dX5_wetHours_8 (by decide) rfl ?_
  refine r_iconst (v := nI 1) K dX5_wetHours_10 (by decide) ?_
  refine r_istore (lv' := [(5, .int (nI 1)), (4, .int (nI 0)), (3, .ref (ad 12 b)), (0, .ref (ad 0 0)), (1, .int (nI b)), (2, .int (nI c))]) K dX5_wetHours_11 (by decide) rfl ?_
  have lp : ∀ (fuel : Nat) (i : Nat), σ 12 0 0 - i < fuel → i ≤ σ 12 0 0 → WW g z 6 2 12 ad (Wz z ad σ τ o) 13 [(0, .ref (ad 0 0)), (1, .int (nI b)), (2, .int (nI c)), (3, .ref (ad 12 b)), (4, .int (nI (whr σ b c i))), (5, .int (nI (i + 1)))] [] := by
    intro fuel
    induction fuel with
    | zero => intro i hf h1; exact absurd hf (Nat.not_lt_zero _)
    | succ fuel ih_lp =>
      intro i hf h1
      have g1 := whr_le σ b c i
      have g2 := hs7 (i + 1)
      refine r_iload K dX5_wetHours_13 5 rfl ?_
      refine r_aload_n K dX5_wetHours_15 0 rfl rfl ?_
      refine r_get (v := .int (nI (σ 12 0 0))) K fd_X5_151 rfl rfl rfl dX5_wetHours_16 ?_
      refine r_icmp_gt K dX5_wetHours_19 46 (σ 12 0 0 < i + 1) (nI_ltI (by omega) (by omega)) (by decide) (fun c_19 => ?_) (fun c_19 => ?_)
      · skip
        refine r_iload K dX5_wetHours_46 4 rfl ?_
        exact r_iret K (by decide) (by decide) (okC_rd C (by unfold cC; exact if_pos q_3) (by rw [jN_n (by omega), jN_n (by omega), show i = σ 12 0 0 by omega])) dX5_wetHours_48
      · skip
        refine r_aload_n K dX5_wetHours_22 3 rfl rfl ?_
        refine r_iload_n K dX5_wetHours_23 2 rfl rfl ?_
        refine r_aload_n K dX5_wetHours_24 3 rfl rfl ?_
        refine r_get (v := .ref (ad 17 b)) K fd_X5_192 (W_12 (by first | exact hb | exact hk | exact hj | exact hw | omega | assumption)) rfl rfl dX5_wetHours_25 ?_
        refine r_iload K dX5_wetHours_28 5 rfl ?_
        refine r_iald (j := i + 1) (v := nI (σ 7 b (i + 1))) K (W_17 (by first | exact hb | exact hk | exact hj | exact hw | omega | assumption)) rfl rfl (by omega) (by decide) rfl dX5_wetHours_30 ?_
        refine r_callV (st := []) K (k_X3_isWet (c := c) (v := σ 7 b (i + 1)) hl (by first | exact hb | exact hk | exact hj | exact hw | omega | assumption) (by omega) (by have := hs7; omega) (by rw [D _ _ hb hc]; have := dryF_le hs hc; omega)) cw_X5_199 wd_322 wd_323 (by decide) (by decide) (W_12 (by first | exact hb | exact hk | exact hj | exact hw | omega | assumption)) rfl rfl rfl (Nat.le_of_ble_eq_true rfl) (by decide) (by decide) dX5_wetHours_31 ?_
        rintro _ _ _ ⟨rfl, rfl, rfl⟩
        show WW g z 6 2 12 ad (Wz z ad σ τ o) 34 [(0, .ref (ad 0 0)), (1, .int (nI b)), (2, .int (nI c)), (3, .ref (ad 12 b)), (4, .int (nI (whr σ b c i))), (5, .int (nI (i + 1)))] [.int (pI (σ 30 b c < σ 7 b (i + 1)))]
        refine r_if_eq K dX5_wetHours_34 40 (¬ (σ 30 b c < σ 7 b (i + 1))) pI_eq0 (by decide) (fun c_34 => ?_) (fun c_34 => ?_)
        · skip
          refine r_eq (lv' := [(0, .ref (ad 0 0)), (1, .int (nI b)), (2, .int (nI c)), (3, .ref (ad 12 b)), (4, .int (nI (whr σ b c (i + 1)))), (5, .int (nI (i + 1)))]) rfl rfl (by rw [whr_f (fun q => absurd ((wetB I D hb hc).mp q) (by omega))]) rfl ?_
          refine r_iinc (v := nI (i + 1 + 1)) (lv' := [(5, .int (nI (i + 1 + 1))), (0, .ref (ad 0 0)), (1, .int (nI b)), (2, .int (nI c)), (3, .ref (ad 12 b)), (4, .int (nI (whr σ b c (i + 1))))]) K dX5_wetHours_40 5 rfl (ic_1 _) (by decide) rfl ?_
          refine r_goto K dX5_wetHours_43 13 (by decide) ?_
          refine r_lv (lv' := [(0, .ref (ad 0 0)), (1, .int (nI b)), (2, .int (nI c)), (3, .ref (ad 12 b)), (4, .int (nI (whr σ b c (i + 1)))), (5, .int (nI (i + 1 + 1)))]) [1, 2, 3, 4, 5, 0] rfl ?_
          exact ih_lp (i + 1) (by omega) (by omega)
        · skip
          refine r_iinc (v := nI (whr σ b c i + 1)) (lv' := [(4, .int (nI (whr σ b c i + 1))), (0, .ref (ad 0 0)), (1, .int (nI b)), (2, .int (nI c)), (3, .ref (ad 12 b)), (5, .int (nI (i + 1)))]) K dX5_wetHours_37 4 rfl (ic_1 _) (by decide) rfl ?_
          refine r_eq (lv' := [(4, .int (nI (whr σ b c (i + 1)))), (0, .ref (ad 0 0)), (1, .int (nI b)), (2, .int (nI c)), (3, .ref (ad 12 b)), (5, .int (nI (i + 1)))]) rfl rfl (by rw [whr_t ((wetB I D hb hc).mpr (by omega))]) rfl ?_
          refine r_iinc (v := nI (i + 1 + 1)) (lv' := [(5, .int (nI (i + 1 + 1))), (4, .int (nI (whr σ b c (i + 1)))), (0, .ref (ad 0 0)), (1, .int (nI b)), (2, .int (nI c)), (3, .ref (ad 12 b))]) K dX5_wetHours_40 5 rfl (ic_1 _) (by decide) rfl ?_
          refine r_goto K dX5_wetHours_43 13 (by decide) ?_
          refine r_lv (lv' := [(0, .ref (ad 0 0)), (1, .int (nI b)), (2, .int (nI c)), (3, .ref (ad 12 b)), (4, .int (nI (whr σ b c (i + 1)))), (5, .int (nI (i + 1 + 1)))]) [2, 3, 4, 5, 1, 0] rfl ?_
          exact ih_lp (i + 1) (by omega) (by omega)
  refine r_lv (lv' := [(0, .ref (ad 0 0)), (1, .int (nI b)), (2, .int (nI c)), (3, .ref (ad 12 b)), (4, .int (nI 0)), (5, .int (nI 1))]) [3, 4, 5, 2, 1, 0] rfl ?_
  exact lp (σ 12 0 0 - (0) + 1) 0 (by omega) (by omega)
set_option maxRecDepth 100000 in
set_option maxHeartbeats 4000000 in
theorem k_X5_claim {z : Zx} {l : Launch} {σ τ : Sg} {o : Int64 × UInt64} {ad : Nm} (hl : l.stackTraces = false) {x t : Int32} (Q : IR σ) (C : ICo σ) : Ko z l yX5_claim cX5_claim 4 (some .int) 8 3 18 [.ref (ad 0 0), .int (x), .int (t)] ad (Wz z ad σ τ o) (okC z ad τ o (cCl σ x t) (.int (nI (pmt σ (jN x) (jN t)))) (fPay σ (jN x) (jN t))) (exT (cCl σ x t) ["java/lang/IndexOutOfBoundsException", "java/lang/IllegalArgumentException", "java/lang/UnsupportedOperationException", "java/lang/IllegalStateException"]) := by
  refine ko_of hl (by decide +kernel) (Nat.le_of_ble_eq_true rfl) (fun g hg K => ?_)
  subst hg
  have I := Q.1
  have L := C.1
  have D := C.2.1
  have q0 := I.1.1
  have q1 := I.1.2.1
  have q2 := I.1.2.2.1
  have q3 := I.1.2.2.2.1
  have q5 := Q.2.1
  show WW g z 4 0 0 ad (Wz z ad σ τ o) 0 [(0, .ref (ad 0 0)), (1, .int (x)), (2, .int (t))] []
  refine r_aload_n K dX5_claim_0 0 rfl rfl ?_
  refine r_iload_n K dX5_claim_1 1 rfl rfl ?_
  refine r_callVx (st := []) K (k_X5_houseOf (x := x) hl I L) (fun E h => ⟨0, by unfold cCl; exact if_neg h.2, by rw [h.1]; rfl⟩) cw_X5_215 wd_878 wd_22 (by decide) (by decide) rfl rfl rfl rfl (Nat.le_of_ble_eq_true rfl) (by decide) (by decide) dX5_claim_2 ?_
  rintro _ _ _ ⟨k, hk, rfl, rfl, rfl, rfl⟩
  have q_2 : in0 (nI k) (σ 0 2 0) := (in0_iff (by omega)).mpr ⟨k, hk, rfl⟩
  show WW g z 4 1 6 ad (Wz z ad σ τ o) 5 [(0, .ref (ad 0 0)), (1, .int (nI k)), (2, .int (t))] [.ref (ad 11 k)]
  refine r_astore_n (lv' := [(3, .ref (ad 11 k)), (0, .ref (ad 0 0)), (1, .int (nI k)), (2, .int (t))]) K dX5_claim_5 rfl (by decide) rfl ?_
  refine r_aload_n K dX5_claim_6 1 rfl rfl ?_
  refine r_iload_n K dX5_claim_7 3 rfl rfl ?_
  refine r_callVx (st := []) K (k_X5_requireHour (x := t) hl) (fun E h => ⟨1, by unfold cCl; rw [if_pos q_2]; exact if_neg h.2, by rw [h.1]; rfl⟩) cw_X5_189 wd_811 wd_21 (by decide) (by decide) rfl rfl rfl rfl (Nat.le_of_ble_eq_true rfl) (by decide) (by decide) dX5_claim_8 ?_
  rintro _ _ _ ⟨rfl, rfl, rfl, q_8⟩
  obtain ⟨h, hh, rfl⟩ := (inR_iff (by decide) (by omega)).mp q_8
  show WW g z 4 2 12 ad (Wz z ad σ τ o) 11 [(3, .ref (ad 11 k)), (0, .ref (ad 0 0)), (1, .int (nI k)), (2, .int (nI h))] []
  refine r_aload_n K dX5_claim_11 0 rfl rfl ?_
  refine r_iload_n K dX5_claim_12 3 rfl rfl ?_
  refine r_callV (st := []) K (k_X1_isWetAt (k := k) (h := h) hl I D (by exact hk) (by omega)) cw_X5_219 wd_882 wd_883 (by decide) (by decide) (W_11 (by first | exact hb | exact hk | exact hj | exact hw | omega | assumption)) rfl rfl rfl (Nat.le_of_ble_eq_true rfl) (by decide) (by decide) dX5_claim_13 ?_
  rintro _ _ _ ⟨rfl, rfl, rfl⟩
  show WW g z 4 2 12 ad (Wz z ad σ τ o) 16 [(3, .ref (ad 11 k)), (0, .ref (ad 0 0)), (1, .int (nI k)), (2, .int (nI h))] [.int (pI (σ 30 (σ 9 k 0) (σ 9 k 1) < σ 7 (σ 9 k 0) h))]
  refine r_if_ne K dX5_claim_16 29 (¬ (σ 30 (σ 9 k 0) (σ 9 k 1) < σ 7 (σ 9 k 0) h)) pI_eq0 (by decide) (fun c_16 => ?_) (fun c_16 => ?_)
  · skip
    have h10 := (I.2.2.2 k hk).2 h
    have q_16 : 0 < dpC σ (σ 9 (jN (nI k)) 0) (σ 9 (jN (nI k)) 1) (σ 7 (σ 9 (jN (nI k)) 0) (jN (nI h))) := by rw [jN_n (by omega), jN_n (by omega)]; exact (wetH I D hk).mpr (Decidable.not_not.mp c_16)
    refine r_aload_n K dX5_claim_29 0 rfl rfl ?_
    refine r_get (v := .ref (ad 18 k)) K fd_X5_231 (W_11 (by first | exact hb | exact hk | exact hj | exact hw | omega | assumption)) rfl rfl dX5_claim_30 ?_
    refine r_iload_n K dX5_claim_33 3 rfl rfl ?_
    refine r_zald (j := h) (v := nI (σ 10 k h)) K (W_18 (by first | exact hb | exact hk | exact hj | exact hw | omega | assumption)) rfl rfl (by omega) (by decide) rfl dX5_claim_34 ?_
    refine r_if_eq K dX5_claim_35 48 (σ 10 k h = 0) (n0_eq (by omega)) (by decide) (fun c_35 => ?_) (fun c_35 => ?_)
    · skip
      refine r_aload_n K dX5_claim_48 0 rfl rfl ?_
      refine r_iload_n K dX5_claim_49 3 rfl rfl ?_
      refine r_callV (st := []) K (k_X1_pay (k := k) (h := h) hl I (by exact hk) (by omega)) cw_X5_237 wd_924 wd_925 (by decide) (by decide) (W_11 (by first | exact hb | exact hk | exact hj | exact hw | omega | assumption)) rfl rfl rfl (Nat.le_of_ble_eq_true rfl) (by decide) (by decide) dX5_claim_50 ?_
      rintro _ _ _ ⟨rfl, rfl, rfl⟩
      show WW g z 4 2 12 ad (Wz z ad (payC σ k h) τ o) 53 [(3, .ref (ad 11 k)), (0, .ref (ad 0 0)), (1, .int (nI k)), (2, .int (nI h))] [.int (nI (pmt σ k h))]
      exact r_iret K (by decide) (by decide) ⟨(by unfold cCl; rw [if_pos q_2, if_pos q_8, if_pos q_16]; exact if_pos (show σ 10 (jN (nI k)) (jN (nI h)) = 0 by rw [jN_n (by omega), jN_n (by omega)]; exact c_35)), by rw [jN_n (by omega), jN_n (by omega)], adK.rf, _, rfl, (by rw [jN_n (by omega), jN_n (by omega)]; exact pay_agr), C.pay hh.1 (by omega) c_35⟩ dX5_claim_53
    · skip
      exact r_throwS (text := "this hour has been claimed") K rfl (by decide +kernel) (by decide +kernel) (by decide) wd_450 wd_64 at_IllegalStateException (by decide) dX5_claim_38 dX5_claim_41 dX5_claim_42 dX5_claim_44 dX5_claim_47 ⟨3, by unfold cCl; rw [if_pos q_2, if_pos q_8, if_pos q_16]; exact if_neg (by rw [jN_n (by omega), jN_n (by omega)]; exact c_35), rfl⟩ (Nat.le_of_ble_eq_true rfl) (by decide) (by decide)
  · skip
    exact r_throwS (text := "not wet at the end of this hour") K rfl (by decide +kernel) (by decide +kernel) (by decide) wd_906 wd_75 at_UnsupportedOperationException (by decide) dX5_claim_19 dX5_claim_22 dX5_claim_23 dX5_claim_25 dX5_claim_28 ⟨2, by unfold cCl; rw [if_pos q_2, if_pos q_8]; exact if_neg (fun q => by rw [jN_n (by omega), jN_n (by omega)] at q; exact c_16 ((wetH I D hk).mp q)), rfl⟩ (Nat.le_of_ble_eq_true rfl) (by decide) (by decide)
set_option maxRecDepth 100000 in
set_option maxHeartbeats 4000000 in
theorem k_X5_paidTotal {z : Zx} {l : Launch} {σ τ : Sg} {o : Int64 × UInt64} {ad : Nm} (hl : l.stackTraces = false) (Q : IR σ) (C : ICo σ) : Ko z l yX5_paidTotal cX5_paidTotal 4 (some .long) 8 0 0 [.ref (ad 0 0)] ad (Wz z ad σ τ o) (okC z ad τ o 0 (.long (nJ (pdT σ))) (σ)) exNo := by
  refine ko_of hl (by decide +kernel) (Nat.le_of_ble_eq_true rfl) (fun g hg K => ?_)
  subst hg
  have I := Q.1
  have L := C.1
  have D := C.2.1
  have q0 := I.1.1
  have q1 := I.1.2.1
  have q2 := I.1.2.2.1
  have q3 := I.1.2.2.2.1
  have q5 := Q.2.1
  show WW g z 4 0 0 ad (Wz z ad σ τ o) 0 [(0, .ref (ad 0 0))] []
  refine r_lconst (v := nJ (0)) K dX5_paidTotal_0 rfl ?_
  refine r_lstore_n (lv' := [(1, .long (nJ (0))), (0, .ref (ad 0 0))]) K dX5_paidTotal_1 rfl (by decide) rfl ?_
  refine r_iconst (v := nI 0) K dX5_paidTotal_2 (by decide) ?_
  refine r_istore_n (lv' := [(3, .int (nI 0)), (1, .long (nJ (0))), (0, .ref (ad 0 0))]) K dX5_paidTotal_3 rfl (by decide) rfl ?_
  have lp : ∀ (fuel : Nat) (i : Nat), σ 0 2 0 - i < fuel → i ≤ σ 0 2 0 → WW g z 4 0 0 ad (Wz z ad σ τ o) 4 [(0, .ref (ad 0 0)), (1, .long (nJ (sumT (fun k => σ 9 k 4) i))), (3, .int (nI i))] [] := by
    intro fuel
    induction fuel with
    | zero => intro i hf h1; exact absurd hf (Nat.not_lt_zero _)
    | succ fuel ih_lp =>
      intro i hf h1
      refine r_iload_n K dX5_paidTotal_4 2 rfl rfl ?_
      refine r_aload_n K dX5_paidTotal_5 0 rfl rfl ?_
      refine r_get (v := .ref (ad 1 2)) K fd_X5_19 rfl rfl rfl dX5_paidTotal_6 ?_
      refine r_callV (st := [.int (nI i)]) K (k_Jx4a65c_size_8abf5 (l0 := 2) hl (by decide)) cw_X5_39 wd_206 wd_207 (by decide) (by decide) (W_1 (by first | exact hb | exact hk | exact hj | exact hw | omega | assumption)) rfl rfl rfl (Nat.le_of_ble_eq_true rfl) (by decide) (by decide) dX5_paidTotal_9 ?_
      rintro _ _ _ ⟨rfl, rfl, rfl⟩
      show WW g z 4 0 0 ad (Wz z ad σ τ o) 12 [(0, .ref (ad 0 0)), (1, .long (nJ (sumT (fun k => σ 9 k 4) i))), (3, .int (nI i))] [.int (nI (σ 0 2 0)), .int (nI i)]
      refine r_icmp_ge K dX5_paidTotal_12 39 (σ 0 2 0 ≤ i) (nI_leI (by omega) (by omega)) (by decide) (fun c_12 => ?_) (fun c_12 => ?_)
      · skip
        refine r_lload_n K dX5_paidTotal_39 1 rfl rfl ?_
        exact r_lret K (by decide) (by decide) (okC_rd C rfl (by rw [show i = σ 0 2 0 by omega]; rfl)) dX5_paidTotal_40
      · skip
        have hk : i < σ 0 2 0 := by omega
        obtain ⟨⟨-, -, -, p1, p2⟩, -⟩ := I.2.2.2 i hk
        refine r_lload_n K dX5_paidTotal_15 1 rfl rfl ?_
        refine r_aload_n K dX5_paidTotal_16 0 rfl rfl ?_
        refine r_get (v := .ref (ad 1 2)) K fd_X5_19 rfl rfl rfl dX5_paidTotal_17 ?_
        refine r_iload_n K dX5_paidTotal_20 2 rfl rfl ?_
        refine r_callV (st := [.long (nJ (sumT (fun k => σ 9 k 4) i))]) K (k_Jx4a65c_get_915e3 (l0 := 2) (i := i) hl (by decide) L (by first | exact hb | exact hk | exact hj | exact hw | omega | assumption)) cw_X5_127 wd_250 wd_251 (by decide) (by decide) (W_1 (by first | exact hb | exact hk | exact hj | exact hw | omega | assumption)) rfl rfl rfl (Nat.le_of_ble_eq_true rfl) (by decide) (by decide) dX5_paidTotal_21 ?_
        rintro _ _ _ ⟨rfl, rfl, rfl⟩
        show WW g z 4 0 0 ad (Wz z ad σ τ o) 24 [(0, .ref (ad 0 0)), (1, .long (nJ (sumT (fun k => σ 9 k 4) i))), (3, .int (nI i))] [.ref (ad 11 i), .long (nJ (sumT (fun k => σ 9 k 4) i))]
        refine r_castS K wd_263 rfl (W_11 (by first | exact hb | exact hk | exact hj | exact hw | omega | assumption)) rfl dX5_paidTotal_24 ?_
        refine r_get (v := .int (nI (σ 9 i 4))) K fd_X5_251 (W_11 (by first | exact hb | exact hk | exact hj | exact hw | omega | assumption)) rfl rfl dX5_paidTotal_27 ?_
        refine r_i2l (v := nJ (σ 9 i 4)) K dX5_paidTotal_30 (nJ_i2l (by omega)) ?_
        refine r_ladd (v := nJ (sumT (fun k => σ 9 k 4) i + (σ 9 i 4))) K dX5_paidTotal_31 (nJ_add _ _) ?_
        refine r_lstore_n (lv' := [(1, .long (nJ (sumT (fun k => σ 9 k 4) i + (σ 9 i 4)))), (0, .ref (ad 0 0)), (3, .int (nI i))]) K dX5_paidTotal_32 rfl (by decide) rfl ?_
        refine r_iinc (v := nI (i + 1)) (lv' := [(3, .int (nI (i + 1))), (1, .long (nJ (sumT (fun k => σ 9 k 4) i + (σ 9 i 4)))), (0, .ref (ad 0 0))]) K dX5_paidTotal_33 2 rfl (ic_1 _) (by decide) rfl ?_
        refine r_goto K dX5_paidTotal_36 4 (by decide) ?_
        refine r_lv (lv' := [(0, .ref (ad 0 0)), (1, .long (nJ (sumT (fun k => σ 9 k 4) i + (σ 9 i 4)))), (3, .int (nI (i + 1)))]) [2, 1, 0] rfl ?_
        exact ih_lp (i + 1) (by omega) (by omega)
  refine r_lv (lv' := [(0, .ref (ad 0 0)), (1, .long (nJ (0))), (3, .int (nI 0))]) [2, 1, 0] rfl ?_
  exact lp (σ 0 2 0 - (0) + 1) 0 (by omega) (by omega)
set_option maxRecDepth 100000 in
set_option maxHeartbeats 4000000 in
theorem k_X5_meanPayment {z : Zx} {l : Launch} {σ τ : Sg} {o : Int64 × UInt64} {ad : Nm} (hl : l.stackTraces = false) (Q : IR σ) (C : ICo σ) : Ko z l yX5_meanPayment cX5_meanPayment 3 (some .double) 9 1 6 [.ref (ad 0 0)] ad (Wz z ad σ τ o) (okC z ad τ o (cM σ) (.double (FP.ddiv (FP.l2d (nJ (pdT σ))) (FP.i2d (nI (clT σ))))) (σ)) (exT (cM σ) ["java/lang/ArithmeticException"]) := by
  refine ko_of hl (by decide +kernel) (Nat.le_of_ble_eq_true rfl) (fun g hg K => ?_)
  subst hg
  have I := Q.1
  have L := C.1
  have D := C.2.1
  have q0 := I.1.1
  have q1 := I.1.2.1
  have q2 := I.1.2.2.1
  have q3 := I.1.2.2.2.1
  have q5 := Q.2.1
  show WW g z 3 0 0 ad (Wz z ad σ τ o) 0 [(0, .ref (ad 0 0))] []
  refine r_iconst (v := nI 0) K dX5_meanPayment_0 (by decide) ?_
  refine r_istore_n (lv' := [(1, .int (nI 0)), (0, .ref (ad 0 0))]) K dX5_meanPayment_1 rfl (by decide) rfl ?_
  refine r_iconst (v := nI 0) K dX5_meanPayment_2 (by decide) ?_
  refine r_istore_n (lv' := [(2, .int (nI 0)), (1, .int (nI 0)), (0, .ref (ad 0 0))]) K dX5_meanPayment_3 rfl (by decide) rfl ?_
  have lp : ∀ (fuel : Nat) (i : Nat), σ 0 2 0 - i < fuel → i ≤ σ 0 2 0 → WW g z 3 0 0 ad (Wz z ad σ τ o) 4 [(0, .ref (ad 0 0)), (1, .int (nI (sumT (fun k => clm σ k) i))), (2, .int (nI i))] [] := by
    intro fuel
    induction fuel with
    | zero => intro i hf h1; exact absurd hf (Nat.not_lt_zero _)
    | succ fuel ih_lp =>
      intro i hf h1
      refine r_iload_n K dX5_meanPayment_4 2 rfl rfl ?_
      refine r_aload_n K dX5_meanPayment_5 0 rfl rfl ?_
      refine r_get (v := .ref (ad 1 2)) K fd_X5_19 rfl rfl rfl dX5_meanPayment_6 ?_
      refine r_callV (st := [.int (nI i)]) K (k_Jx4a65c_size_8abf5 (l0 := 2) hl (by decide)) cw_X5_39 wd_206 wd_207 (by decide) (by decide) (W_1 (by first | exact hb | exact hk | exact hj | exact hw | omega | assumption)) rfl rfl rfl (Nat.le_of_ble_eq_true rfl) (by decide) (by decide) dX5_meanPayment_9 ?_
      rintro _ _ _ ⟨rfl, rfl, rfl⟩
      show WW g z 3 0 0 ad (Wz z ad σ τ o) 12 [(0, .ref (ad 0 0)), (1, .int (nI (sumT (fun k => clm σ k) i))), (2, .int (nI i))] [.int (nI (σ 0 2 0)), .int (nI i)]
      refine r_icmp_ge K dX5_meanPayment_12 38 (σ 0 2 0 ≤ i) (nI_leI (by omega) (by omega)) (by decide) (fun c_12 => ?_) (fun c_12 => ?_)
      · skip
        refine r_eq (lv' := [(0, .ref (ad 0 0)), (1, .int (nI (clT σ))), (2, .int (nI i))]) rfl rfl (by rw [show i = σ 0 2 0 by omega]; rfl) rfl ?_
        have hcl := clT_le I
        refine r_iload_n K dX5_meanPayment_38 1 rfl rfl ?_
        refine r_if_ne K dX5_meanPayment_39 53 (clT σ = 0) (n0_eq (by omega)) (by decide) (fun c_39 => ?_) (fun c_39 => ?_)
        · skip
          refine r_aload_n K dX5_meanPayment_53 0 rfl rfl ?_
          refine r_callV (st := []) K (k_X5_paidTotal hl Q C) cw_X5_259 wd_246 wd_247 (by decide) (by decide) rfl rfl rfl rfl (Nat.le_of_ble_eq_true rfl) (by decide) (by decide) dX5_meanPayment_54 ?_
          rintro _ ad1 _ ⟨-, rfl, hK, σ1, rfl, hA, hC⟩
          show WW g z 3 0 0 ad1 (Wz z ad1 σ1 τ o) 57 [(0, .ref (ad 0 0)), (1, .int (nI (clT σ))), (2, .int (nI i))] [.long (nJ (pdT σ))]
          refine r_l2d K dX5_meanPayment_57 ?_
          refine r_iload_n K dX5_meanPayment_58 1 rfl rfl ?_
          refine r_i2d K dX5_meanPayment_59 ?_
          refine r_ddiv K dX5_meanPayment_60 (mean_nn (by omega) (by omega)) ?_
          exact r_dret K (by decide) (by decide) ⟨(by unfold cM; exact if_pos c_39), rfl, hK, σ1, rfl, hA, hC⟩ dX5_meanPayment_61
        · skip
          exact r_throwSW (text := "no claims") K rfl (by decide +kernel) (by decide +kernel) (by decide) wd_992 wd_77 at_ArithmeticException (by decide) dX5_meanPayment_42 dX5_meanPayment_45 dX5_meanPayment_46 dX5_meanPayment_49 dX5_meanPayment_52 ⟨0, by unfold cM; exact if_neg (fun q => q c_39), rfl⟩ (Nat.le_of_ble_eq_true rfl) (by decide) (by decide)
      · skip
        have hk : i < σ 0 2 0 := by omega
        have e := C.2.2.2.2.1 i hk
        refine r_iload_n K dX5_meanPayment_15 1 rfl rfl ?_
        refine r_aload_n K dX5_meanPayment_16 0 rfl rfl ?_
        refine r_get (v := .ref (ad 1 2)) K fd_X5_19 rfl rfl rfl dX5_meanPayment_17 ?_
        refine r_iload_n K dX5_meanPayment_20 2 rfl rfl ?_
        refine r_callV (st := [.int (nI (sumT (fun k => clm σ k) i))]) K (k_Jx4a65c_get_915e3 (l0 := 2) (i := i) hl (by decide) L (by first | exact hb | exact hk | exact hj | exact hw | omega | assumption)) cw_X5_127 wd_250 wd_251 (by decide) (by decide) (W_1 (by first | exact hb | exact hk | exact hj | exact hw | omega | assumption)) rfl rfl rfl (Nat.le_of_ble_eq_true rfl) (by decide) (by decide) dX5_meanPayment_21 ?_
        rintro _ _ _ ⟨rfl, rfl, rfl⟩
        show WW g z 3 0 0 ad (Wz z ad σ τ o) 24 [(0, .ref (ad 0 0)), (1, .int (nI (sumT (fun k => clm σ k) i))), (2, .int (nI i))] [.ref (ad 11 i), .int (nI (sumT (fun k => clm σ k) i))]
        refine r_castS K wd_263 rfl (W_11 (by first | exact hb | exact hk | exact hj | exact hw | omega | assumption)) rfl dX5_meanPayment_24 ?_
        refine r_get (v := .int (nI (σ 32 i 0))) K fd_X5_248 (W_11 (by first | exact hb | exact hk | exact hj | exact hw | omega | assumption)) rfl rfl dX5_meanPayment_27 ?_
        refine r_iadd (v := nI ((sumT (fun k => clm σ k) i) + (σ 32 i 0))) K dX5_meanPayment_30 (nI_add _ _) ?_
        refine r_eq (st' := [.int (nI (sumT (fun k => clm σ k) (i + 1)))]) rfl rfl rfl (by rw [e]; rfl) ?_
        refine r_istore_n (lv' := [(1, .int (nI (sumT (fun k => clm σ k) (i + 1)))), (0, .ref (ad 0 0)), (2, .int (nI i))]) K dX5_meanPayment_31 rfl (by decide) rfl ?_
        refine r_iinc (v := nI (i + 1)) (lv' := [(2, .int (nI (i + 1))), (1, .int (nI (sumT (fun k => clm σ k) (i + 1)))), (0, .ref (ad 0 0))]) K dX5_meanPayment_32 2 rfl (ic_1 _) (by decide) rfl ?_
        refine r_goto K dX5_meanPayment_35 4 (by decide) ?_
        refine r_lv (lv' := [(0, .ref (ad 0 0)), (1, .int (nI (sumT (fun k => clm σ k) (i + 1)))), (2, .int (nI (i + 1)))]) [2, 1, 0] rfl ?_
        exact ih_lp (i + 1) (by omega) (by omega)
  refine r_lv (lv' := [(0, .ref (ad 0 0)), (1, .int (nI 0)), (2, .int (nI 0))]) [2, 1, 0] rfl ?_
  exact lp (σ 0 2 0 - (0) + 1) 0 (by omega) (by omega)
set_option maxRecDepth 100000 in
set_option maxHeartbeats 4000000 in
theorem k_X5_floodedWith {z : Zx} {l : Launch} {σ τ : Sg} {o : Int64 × UInt64} {ad : Nm} (hl : l.stackTraces = false) (Q : IR σ) (C : ICo σ) : Ko z l yX5_floodedWith cX5_floodedWith 1 (some .int) 8 0 0 [.ref (ad 0 0)] ad (Wz z ad σ τ o) (okC z ad τ o 0 (.int (nI (trW σ 0 0 (σ 12 0 0)))) (σ)) exNo := by
  refine ko_of hl (by decide +kernel) (Nat.le_of_ble_eq_true rfl) (fun g hg K => ?_)
  subst hg
  have I := Q.1
  have L := C.1
  have D := C.2.1
  have q0 := I.1.1
  have q1 := I.1.2.1
  have q2 := I.1.2.2.1
  have q3 := I.1.2.2.2.1
  have q5 := Q.2.1
  show WW g z 1 0 0 ad (Wz z ad σ τ o) 0 [(0, .ref (ad 0 0))] []
  refine r_aload_n K dX5_floodedWith_0 0 rfl rfl ?_
  refine r_iconst (v := bw 0) K dX5_floodedWith_1 (by decide) ?_
  refine r_iconst (v := nI 0) K dX5_floodedWith_2 (by decide) ?_
  refine r_callV (st := []) K (k_X5_tryPastRain (σ := σ) (fx := 0) (fo := 0) hl I L D (by omega) (by omega) (by exact (C).2.2.1)) cw_X5_263 wd_270 wd_0 (by decide) (by decide) rfl rfl rfl rfl (Nat.le_of_ble_eq_true rfl) (by decide) (by decide) dX5_floodedWith_3 ?_
  rintro _ _ _ ⟨rfl, rfl, V, S, r, O, rfl, hz⟩
  show WW g z 1 0 0 ad (Wz z ad (sw σ 1 V S r O) τ o) 6 [(0, .ref (ad 0 0))] [.int (nI (trW σ 0 0 (σ 12 0 0)))]
  exact r_iret K (by decide) (by decide) ⟨rfl, rfl, adK.rf, _, rfl, agr.tri, C.tri hz⟩ dX5_floodedWith_6
set_option maxRecDepth 100000 in
set_option maxHeartbeats 4000000 in
theorem k_X5_floodedWithOpening {z : Zx} {l : Launch} {σ τ : Sg} {o : Int64 × UInt64} {ad : Nm} (hl : l.stackTraces = false) {x y : Int32} (Q : IR σ) (C : ICo σ) : Ko z l yX5_floodedWithOpening cX5_floodedWithOpening 3 (some .int) 8 2 12 [.ref (ad 0 0), .int (x), .int (y)] ad (Wz z ad σ τ o) (okC z ad τ o (cBx σ 10 x y) (.int (nI (trW σ (jN x + 1) (jN y) (σ 12 0 0)))) (σ)) (exT (cBx σ 10 x y) ["java/lang/IndexOutOfBoundsException", "java/lang/IllegalArgumentException"]) := by
  refine ko_of hl (by decide +kernel) (Nat.le_of_ble_eq_true rfl) (fun g hg K => ?_)
  subst hg
  have I := Q.1
  have L := C.1
  have D := C.2.1
  have q0 := I.1.1
  have q1 := I.1.2.1
  have q2 := I.1.2.2.1
  have q3 := I.1.2.2.2.1
  have q5 := Q.2.1
  show WW g z 3 0 0 ad (Wz z ad σ τ o) 0 [(0, .ref (ad 0 0)), (1, .int (x)), (2, .int (y))] []
  refine r_aload_n K dX5_floodedWithOpening_0 0 rfl rfl ?_
  refine r_iload_n K dX5_floodedWithOpening_1 1 rfl rfl ?_
  refine r_callVx (st := []) K (k_X5_requireBasin (x := x) hl) (fun E h => ⟨0, by unfold cBx; exact if_neg h.2, by rw [h.1]; rfl⟩) cw_X5_108 wd_607 wd_12 (by decide) (by decide) rfl rfl rfl rfl (Nat.le_of_ble_eq_true rfl) (by decide) (by decide) dX5_floodedWithOpening_2 ?_
  rintro _ _ _ ⟨rfl, rfl, rfl, q_2⟩
  obtain ⟨b, hb, rfl⟩ := (in0_iff (by omega)).mp q_2
  show WW g z 3 1 6 ad (Wz z ad σ τ o) 5 [(0, .ref (ad 0 0)), (1, .int (nI b)), (2, .int (y))] []
  refine r_iload_n K dX5_floodedWithOpening_5 2 rfl rfl ?_
  refine r_callSx (st := []) K (k_X5_requireOpening (x := y) hl) (fun E h => ⟨1, by unfold cBx; rw [if_pos q_2]; exact if_neg h.2, by rw [h.1]; rfl⟩) cw_X5_102 wd_646 (by decide) (by decide) rfl (Nat.le_of_ble_eq_true rfl) (by decide) (by decide) dX5_floodedWithOpening_6 ?_
  rintro _ _ _ ⟨rfl, rfl, rfl, q_6⟩
  obtain ⟨p, hp, rfl⟩ := (inR_iff (by decide) (by decide)).mp q_6
  show WW g z 3 2 12 ad (Wz z ad σ τ o) 9 [(0, .ref (ad 0 0)), (1, .int (nI b)), (2, .int (nI p))] []
  refine r_eq (lv' := [(0, .ref (ad 0 0)), (1, .int (bw (b + 1))), (2, .int (nI p))]) rfl rfl (by rw [bw_nI (Nat.succ_pos b)]; rfl) rfl ?_
  refine r_aload_n K dX5_floodedWithOpening_9 0 rfl rfl ?_
  refine r_iload_n K dX5_floodedWithOpening_10 1 rfl rfl ?_
  refine r_iload_n K dX5_floodedWithOpening_11 2 rfl rfl ?_
  refine r_callV (st := []) K (k_X5_tryPastRain (σ := σ) (fx := (b + 1)) (fo := p) hl I L D (by omega) (by omega) (by exact (C).2.2.1)) cw_X5_263 wd_270 wd_0 (by decide) (by decide) rfl rfl rfl rfl (Nat.le_of_ble_eq_true rfl) (by decide) (by decide) dX5_floodedWithOpening_12 ?_
  rintro _ _ _ ⟨rfl, rfl, V, S, r, O, rfl, hz⟩
  show WW g z 3 2 12 ad (Wz z ad (sw σ 1 V S r O) τ o) 15 [(0, .ref (ad 0 0)), (1, .int (bw (b + 1))), (2, .int (nI p))] [.int (nI (trW σ (b + 1) p (σ 12 0 0)))]
  exact r_iret K (by decide) (by decide) ⟨(by unfold cBx; rw [if_pos q_2]; exact if_pos q_6), by rw [jN_n (by omega), jN_n (by omega)], adK.rf, _, rfl, agr.tri, C.tri hz⟩ dX5_floodedWithOpening_15
set_option maxRecDepth 100000 in
set_option maxHeartbeats 4000000 in
theorem k_X5_bestOpening {z : Zx} {l : Launch} {σ τ : Sg} {o : Int64 × UInt64} {ad : Nm} (hl : l.stackTraces = false) {x : Int32} (Q : IR σ) (C : ICo σ) : Ko z l yX5_bestOpening cX5_bestOpening 6 (some .int) 8 1 6 [.ref (ad 0 0), .int (x)] ad (Wz z ad σ τ o) (okC z ad τ o (cB σ x) (.int (nI ((bsp σ (jN x) 10).1))) (σ)) (exT (cB σ x) ["java/lang/IndexOutOfBoundsException"]) := by
  refine ko_of hl (by decide +kernel) (Nat.le_of_ble_eq_true rfl) (fun g hg K => ?_)
  subst hg
  have I := Q.1
  have L := C.1
  have D := C.2.1
  have q0 := I.1.1
  have q1 := I.1.2.1
  have q2 := I.1.2.2.1
  have q3 := I.1.2.2.2.1
  have q5 := Q.2.1
  show WW g z 6 0 0 ad (Wz z ad σ τ o) 0 [(0, .ref (ad 0 0)), (1, .int (x))] []
  refine r_aload_n K dX5_bestOpening_0 0 rfl rfl ?_
  refine r_iload_n K dX5_bestOpening_1 1 rfl rfl ?_
  refine r_callVx (st := []) K (k_X5_requireBasin (x := x) hl) (fun E h => ⟨0, by unfold cB; exact if_neg h.2, by rw [h.1]; rfl⟩) cw_X5_108 wd_607 wd_12 (by decide) (by decide) rfl rfl rfl rfl (Nat.le_of_ble_eq_true rfl) (by decide) (by decide) dX5_bestOpening_2 ?_
  rintro _ _ _ ⟨rfl, rfl, rfl, q_2⟩
  obtain ⟨b, hb, rfl⟩ := (in0_iff (by omega)).mp q_2
  show WW g z 6 1 6 ad (Wz z ad σ τ o) 5 [(0, .ref (ad 0 0)), (1, .int (nI b))] []
  refine r_eq (lv' := [(0, .ref (ad 0 0)), (1, .int (bw (b + 1)))]) rfl rfl (by rw [bw_nI (Nat.succ_pos b)]; rfl) rfl ?_
  refine r_iconst (v := nI 0) K dX5_bestOpening_5 (by decide) ?_
  refine r_istore_n (lv' := [(2, .int (nI 0)), (0, .ref (ad 0 0)), (1, .int (bw (b + 1)))]) K dX5_bestOpening_6 rfl (by decide) rfl ?_
  refine r_aload_n K dX5_bestOpening_7 1 rfl rfl ?_
  refine r_iload_n K dX5_bestOpening_8 2 rfl rfl ?_
  refine r_iconst (v := nI 0) K dX5_bestOpening_9 (by decide) ?_
  refine r_callV (st := []) K (k_X5_tryPastRain (σ := σ) (fx := (b + 1)) (fo := 0) hl I L D (by omega) (by omega) (by exact (C).2.2.1)) cw_X5_263 wd_270 wd_0 (by decide) (by decide) rfl rfl rfl rfl (Nat.le_of_ble_eq_true rfl) (by decide) (by decide) dX5_bestOpening_10 ?_
  rintro _ _ _ ⟨rfl, rfl, V, S, r, O, rfl, hz⟩
  show WW g z 6 1 6 ad (Wz z ad (sw σ 1 V S r O) τ o) 13 [(2, .int (nI 0)), (0, .ref (ad 0 0)), (1, .int (bw (b + 1)))] [.int (nI (trW σ (b + 1) 0 (σ 12 0 0)))]
  refine r_istore_n (lv' := [(3, .int (nI (trW σ (b + 1) 0 (σ 12 0 0)))), (2, .int (nI 0)), (0, .ref (ad 0 0)), (1, .int (bw (b + 1)))]) K dX5_bestOpening_13 rfl (by decide) rfl ?_
  refine r_iconst (v := nI 1) K dX5_bestOpening_14 (by decide) ?_
  refine r_istore (lv' := [(4, .int (nI 1)), (3, .int (nI (trW σ (b + 1) 0 (σ 12 0 0)))), (2, .int (nI 0)), (0, .ref (ad 0 0)), (1, .int (bw (b + 1)))]) K dX5_bestOpening_15 (by decide) rfl ?_
  have lp : ∀ (fuel : Nat) (i : Nat) (V : Nat → Nat) (S : Nat → Nat) (r : Nat) (O : Nat → Nat), 10 - i < fuel → i ≤ 10 → (∀ b, 6 ≤ b → V b = 0 ∧ S b = 0) → WW g z 6 1 6 ad (Wz z ad (sw σ 1 V S r O) τ o) 17 [(0, .ref (ad 0 0)), (1, .int (bw (b + 1))), (2, .int (nI ((bsp σ b i).1))), (3, .int (nI ((bsp σ b i).2))), (4, .int (nI (i + 1)))] [] := by
    intro fuel
    induction fuel with
    | zero => intro i V S r O hf h1 hz; exact absurd hf (Nat.not_lt_zero _)
    | succ fuel ih_lp =>
      intro i V S r O hf h1 hz
      have g1 := bsp_le I b i
      refine r_iload K dX5_bestOpening_17 4 rfl ?_
      refine r_bipush (v := nI 10) K dX5_bestOpening_19 (by decide) ?_
      refine r_icmp_gt K dX5_bestOpening_21 51 (10 < i + 1) (nI_ltI (by omega) (by omega)) (by decide) (fun c_21 => ?_) (fun c_21 => ?_)
      · skip
        refine r_iload_n K dX5_bestOpening_51 2 rfl rfl ?_
        exact r_iret K (by decide) (by decide) ⟨(by unfold cB; exact if_pos q_2), by rw [jN_n (by omega), show i = 10 by omega], adK.rf, _, rfl, agr.tri, C.tri hz⟩ dX5_bestOpening_52
      · skip
        refine r_aload_n K dX5_bestOpening_24 0 rfl rfl ?_
        refine r_iload_n K dX5_bestOpening_25 1 rfl rfl ?_
        refine r_iload K dX5_bestOpening_26 4 rfl ?_
        refine r_callV (st := []) K (k_X5_tryPastRain (σ := sw σ 1 V S r O) (fx := b + 1) (fo := i + 1) hl I L D (by omega) (by omega) (fun b hb => by rw [sw_3, sw_4]; exact hz b hb)) cw_X5_263 wd_270 wd_0 (by decide) (by decide) rfl rfl rfl rfl (Nat.le_of_ble_eq_true rfl) (by decide) (by decide) dX5_bestOpening_28 ?_
        rintro _ _ _ ⟨rfl, rfl, V2, S2, r2, O2, rfl, hz2⟩
        rw [sw_sw, trW_tri]
        have g2 := trW_le (fx := b + 1) (fo := i + 1) I (σ 12 0 0)
        show WW g z 6 1 6 ad (Wz z ad (sw σ 1 V2 S2 r2 O2) τ o) 31 [(0, .ref (ad 0 0)), (1, .int (bw (b + 1))), (2, .int (nI ((bsp σ b i).1))), (3, .int (nI ((bsp σ b i).2))), (4, .int (nI (i + 1)))] [.int (nI (trW σ (b + 1) (i + 1) (σ 12 0 0)))]
        refine r_istore (lv' := [(5, .int (nI (trW σ (b + 1) (i + 1) (σ 12 0 0)))), (0, .ref (ad 0 0)), (1, .int (bw (b + 1))), (2, .int (nI ((bsp σ b i).1))), (3, .int (nI ((bsp σ b i).2))), (4, .int (nI (i + 1)))]) K dX5_bestOpening_31 (by decide) rfl ?_
        refine r_iload K dX5_bestOpening_33 0 rfl ?_
        refine r_iload_n K dX5_bestOpening_35 4 rfl rfl ?_
        refine r_icmp_ge K dX5_bestOpening_36 45 ((bsp σ b i).2 ≤ trW σ (b + 1) (i + 1) (σ 12 0 0)) (nI_leI (by omega) (by omega)) (by decide) (fun c_36 => ?_) (fun c_36 => ?_)
        · skip
          refine r_eq (lv' := [(5, .int (nI (trW σ (b + 1) (i + 1) (σ 12 0 0)))), (0, .ref (ad 0 0)), (1, .int (bw (b + 1))), (2, .int (nI ((bsp σ b (i + 1)).1))), (3, .int (nI ((bsp σ b (i + 1)).2))), (4, .int (nI (i + 1)))]) rfl rfl (by rw [bsp, if_neg (by omega)]) rfl ?_
          refine r_iinc (v := nI (i + 1 + 1)) (lv' := [(4, .int (nI (i + 1 + 1))), (5, .int (nI (trW σ (b + 1) (i + 1) (σ 12 0 0)))), (0, .ref (ad 0 0)), (1, .int (bw (b + 1))), (2, .int (nI ((bsp σ b (i + 1)).1))), (3, .int (nI ((bsp σ b (i + 1)).2)))]) K dX5_bestOpening_45 5 rfl (ic_1 _) (by decide) rfl ?_
          refine r_goto K dX5_bestOpening_48 17 (by decide) ?_
          refine r_lv (lv' := [(0, .ref (ad 0 0)), (1, .int (bw (b + 1))), (2, .int (nI ((bsp σ b (i + 1)).1))), (3, .int (nI ((bsp σ b (i + 1)).2))), (4, .int (nI (i + 1 + 1)))]) [2, 3, 4, 5, 0] rfl ?_
          exact ih_lp (i + 1) V2 S2 r2 O2 (by omega) (by omega) (by exact hz2)
        · skip
          refine r_iload K dX5_bestOpening_39 0 rfl ?_
          refine r_istore_n (lv' := [(3, .int (nI (trW σ (b + 1) (i + 1) (σ 12 0 0)))), (5, .int (nI (trW σ (b + 1) (i + 1) (σ 12 0 0)))), (0, .ref (ad 0 0)), (1, .int (bw (b + 1))), (2, .int (nI ((bsp σ b i).1))), (4, .int (nI (i + 1)))]) K dX5_bestOpening_41 rfl (by decide) rfl ?_
          refine r_iload K dX5_bestOpening_42 5 rfl ?_
          refine r_istore_n (lv' := [(2, .int (nI (i + 1))), (3, .int (nI (trW σ (b + 1) (i + 1) (σ 12 0 0)))), (5, .int (nI (trW σ (b + 1) (i + 1) (σ 12 0 0)))), (0, .ref (ad 0 0)), (1, .int (bw (b + 1))), (4, .int (nI (i + 1)))]) K dX5_bestOpening_44 rfl (by decide) rfl ?_
          refine r_eq (lv' := [(2, .int (nI ((bsp σ b (i + 1)).1))), (3, .int (nI ((bsp σ b (i + 1)).2))), (5, .int (nI (trW σ (b + 1) (i + 1) (σ 12 0 0)))), (0, .ref (ad 0 0)), (1, .int (bw (b + 1))), (4, .int (nI (i + 1)))]) rfl rfl (by rw [bsp, if_pos (by omega)]) rfl ?_
          refine r_iinc (v := nI (i + 1 + 1)) (lv' := [(4, .int (nI (i + 1 + 1))), (2, .int (nI ((bsp σ b (i + 1)).1))), (3, .int (nI ((bsp σ b (i + 1)).2))), (5, .int (nI (trW σ (b + 1) (i + 1) (σ 12 0 0)))), (0, .ref (ad 0 0)), (1, .int (bw (b + 1)))]) K dX5_bestOpening_45 5 rfl (ic_1 _) (by decide) rfl ?_
          refine r_goto K dX5_bestOpening_48 17 (by decide) ?_
          refine r_lv (lv' := [(0, .ref (ad 0 0)), (1, .int (bw (b + 1))), (2, .int (nI ((bsp σ b (i + 1)).1))), (3, .int (nI ((bsp σ b (i + 1)).2))), (4, .int (nI (i + 1 + 1)))]) [4, 5, 1, 2, 0] rfl ?_
          exact ih_lp (i + 1) V2 S2 r2 O2 (by omega) (by omega) (by exact hz2)
  refine r_lv (lv' := [(0, .ref (ad 0 0)), (1, .int (bw (b + 1))), (2, .int (nI 0)), (3, .int (nI (trW σ (b + 1) 0 (σ 12 0 0)))), (4, .int (nI 1))]) [3, 4, 2, 1, 0] rfl ?_
  exact lp (10 - (0) + 1) 0 V S r O (by omega) (by omega) (by exact hz)
set_option maxRecDepth 100000 in
set_option maxHeartbeats 4000000 in
theorem k_X5_depthByPouring {z : Zx} {l : Launch} {σ τ : Sg} {o : Int64 × UInt64} {ad : Nm} (hl : l.stackTraces = false) {x y : Int32} (Q : IR σ) (C : ICo σ) : Ko z l yX5_depthByPouring cX5_depthByPouring 4 (some .int) 8 2 12 [.ref (ad 0 0), .int (x), .int (y)] ad (Wz z ad σ τ o) (okC z ad τ o (cC σ x y) (.int (nI (dpC σ (jN x) (jN y) (σ 4 (jN x) 0)))) (σ)) (exT (cC σ x y) ["java/lang/IndexOutOfBoundsException"]) := by
  refine ko_of hl (by decide +kernel) (Nat.le_of_ble_eq_true rfl) (fun g hg K => ?_)
  subst hg
  have I := Q.1
  have L := C.1
  have D := C.2.1
  have q0 := I.1.1
  have q1 := I.1.2.1
  have q2 := I.1.2.2.1
  have q3 := I.1.2.2.2.1
  have q5 := Q.2.1
  show WW g z 4 0 0 ad (Wz z ad σ τ o) 0 [(0, .ref (ad 0 0)), (1, .int (x)), (2, .int (y))] []
  refine r_aload_n K dX5_depthByPouring_0 0 rfl rfl ?_
  refine r_iload_n K dX5_depthByPouring_1 1 rfl rfl ?_
  refine r_iload_n K dX5_depthByPouring_2 2 rfl rfl ?_
  refine r_callVx (st := []) K (k_X5_streetWith (x := x) (y := y) hl I L) (fun E h => ⟨0, by unfold cC; exact if_neg h.2, by rw [h.1]; rfl⟩) cw_X5_178 wd_775 wd_18 (by decide) (by decide) rfl rfl rfl rfl (Nat.le_of_ble_eq_true rfl) (by decide) (by decide) dX5_depthByPouring_3 ?_
  rintro _ _ _ ⟨b, c, hb, hc, rfl, rfl, rfl, rfl, rfl⟩
  obtain ⟨-, -, -, hs, hs5, hs7⟩ := I.2.1 b hb
  have q8 := hs.2.1
  have q_3 : in0 (nI b) (σ 0 0 0) ∧ in0 (nI c) (σ 1 (jN (nI b)) 6) := ⟨(in0_iff (by omega)).mpr ⟨b, hb, rfl⟩, by rw [jN_n (by omega)]; exact (in0_iff (by omega)).mpr ⟨c, hc, rfl⟩⟩
  show WW g z 4 2 12 ad (Wz z ad σ τ o) 6 [(0, .ref (ad 0 0)), (1, .int (nI b)), (2, .int (nI c))] [.ref (ad 12 b)]
  refine r_astore_n (lv' := [(3, .ref (ad 12 b)), (0, .ref (ad 0 0)), (1, .int (nI b)), (2, .int (nI c))]) K dX5_depthByPouring_6 rfl (by decide) rfl ?_
  refine r_aload_n K dX5_depthByPouring_7 0 rfl rfl ?_
  refine r_iload_n K dX5_depthByPouring_8 3 rfl rfl ?_
  refine r_aload_n K dX5_depthByPouring_9 1 rfl rfl ?_
  refine r_get (v := .ref (ad 3 0)) K fd_X5_25 rfl rfl rfl dX5_depthByPouring_10 ?_
  refine r_get (v := .ref (ad 5 0)) K fd_X5_166 (W_3 (by first | exact hb | exact hk | exact hj | exact hw | omega | assumption)) rfl rfl dX5_depthByPouring_13 ?_
  refine r_iload_n K dX5_depthByPouring_16 2 rfl rfl ?_
  refine r_iald (j := b) (v := nI (σ 4 b 0)) K (W_5 (by first | exact hb | exact hk | exact hj | exact hw | omega | assumption)) rfl rfl (by omega) (by decide) rfl dX5_depthByPouring_17 ?_
  refine r_callV (st := []) K (k_X3_depthPoured (c := c) (v := σ 4 b 0) hl (by first | exact hb | exact hk | exact hj | exact hw | omega | assumption) hs (by first | exact hb | exact hk | exact hj | exact hw | omega | assumption) (by have := (Q.2.1.1 b).2; omega)) cw_X5_186 wd_794 wd_795 (by decide) (by decide) (W_12 (by first | exact hb | exact hk | exact hj | exact hw | omega | assumption)) rfl rfl rfl (Nat.le_of_ble_eq_true rfl) (by decide) (by decide) dX5_depthByPouring_18 ?_
  rintro _ _ _ ⟨rfl, rfl, p, rfl⟩
  show WW g z 4 2 12 ad (Wz z ad (sp σ 35 b p) τ o) 21 [(3, .ref (ad 12 b)), (0, .ref (ad 0 0)), (1, .int (nI b)), (2, .int (nI c))] [.int (nI (dpC σ b c (σ 4 b 0)))]
  exact r_iret K (by decide) (by decide) ⟨(by unfold cC; exact if_pos q_3), by rw [jN_n (by omega), jN_n (by omega)], adK.rf, _, rfl, agr.prd, C.prd⟩ dX5_depthByPouring_21
