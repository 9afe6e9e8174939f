set_option maxRecDepth 100000 in
set_option maxHeartbeats 4000000 in
theorem k_X5_addCell {z : Zx} {l : Launch} {σ τ : Sg} {o : Int64 × UInt64} {ad : Nm} (hl : l.stackTraces = false) {x y : Int32} (Q : IR σ) (C : ICo σ) : Ko z l yX5_addCell cX5_addCell 4 (some .int) 8 3 18 [.ref (ad 0 0), .int (x), .int (y)] ad (Wz z ad σ τ o) (okC z ad τ o (cAC σ x y) (.int (nI (σ 1 (jN x) 6 + 1))) (fCell σ x y)) (exT (cAC σ x y) ["java/lang/IndexOutOfBoundsException", "java/lang/IllegalArgumentException", "java/lang/IllegalStateException"]) := by
  refine ko_of hl (by decide +kernel) (Nat.le_of_ble_eq_true rfl) (fun g hg K => ?_)
  subst hg
  have I := Q.1
  have L := C.1
  have D := C.2.1
  have q0 := I.1.1
  have q1 := I.1.2.1
  have q2 := I.1.2.2.1
  have q3 := I.1.2.2.2.1
  have q5 := Q.2.1
  show WW g z 4 0 0 ad (Wz z ad σ τ o) 0 [(0, .ref (ad 0 0)), (1, .int (x)), (2, .int (y))] []
  refine r_aload_n K dX5_addCell_0 0 rfl rfl ?_
  refine r_iload_n K dX5_addCell_1 1 rfl rfl ?_
  refine r_callVx (st := []) K (k_X5_basinOf (x := x) hl I L) (fun E h => ⟨0, by unfold cAC; exact if_neg h.2, by rw [h.1]; rfl⟩) cw_X5_80 wd_603 wd_11 (by decide) (by decide) rfl rfl rfl rfl (Nat.le_of_ble_eq_true rfl) (by decide) (by decide) dX5_addCell_2 ?_
  rintro _ _ _ ⟨b, hb, rfl, rfl, rfl, rfl⟩
  have q_2 : in0 (nI b) (σ 0 0 0) := (in0_iff (by omega)).mpr ⟨b, hb, rfl⟩
  obtain ⟨-, -, -, hs, hs5, hs7⟩ := I.2.1 b hb
  have q8 := hs.2.1
  show WW g z 4 1 6 ad (Wz z ad σ τ o) 5 [(0, .ref (ad 0 0)), (1, .int (nI b)), (2, .int (y))] [.ref (ad 9 b)]
  refine r_get (v := .ref (ad 12 b)) K fd_X5_84 (W_9 (by first | exact hb | exact hk | exact hj | exact hw | omega | assumption)) rfl rfl dX5_addCell_5 ?_
  refine r_astore_n (lv' := [(3, .ref (ad 12 b)), (0, .ref (ad 0 0)), (1, .int (nI b)), (2, .int (y))]) K dX5_addCell_8 rfl (by decide) rfl ?_
  refine r_iload_n K dX5_addCell_9 3 rfl rfl ?_
  refine r_callSx (st := []) K (k_X5_requireHeight (x := y) hl) (fun E h => ⟨1, by unfold cAC; rw [if_pos q_2]; exact if_neg h.2, by rw [h.1]; rfl⟩) cw_X5_59 wd_447 (by decide) (by decide) rfl (Nat.le_of_ble_eq_true rfl) (by decide) (by decide) dX5_addCell_10 ?_
  rintro _ _ _ ⟨rfl, rfl, rfl, q_10⟩
  obtain ⟨p, hp, rfl⟩ := (inR_iff (by decide) (by decide)).mp q_10
  show WW g z 4 2 12 ad (Wz z ad σ τ o) 13 [(3, .ref (ad 12 b)), (0, .ref (ad 0 0)), (1, .int (nI b)), (2, .int (nI p))] []
  refine r_aload_n K dX5_addCell_13 0 rfl rfl ?_
  refine r_get (v := .int (nI (σ 1 b 6))) K fd_X5_88 (W_12 (by first | exact hb | exact hk | exact hj | exact hw | omega | assumption)) rfl rfl dX5_addCell_14 ?_
  refine r_bipush (v := nI 8) K dX5_addCell_17 (by decide) ?_
  refine r_icmp_lt K dX5_addCell_19 32 (σ 1 b 6 < 8) (nI_ltI (by omega) (by omega)) (by decide) (fun c_19 => ?_) (fun c_19 => ?_)
  · skip
    refine r_aload_n K dX5_addCell_32 1 rfl rfl ?_
    refine r_callVx (st := []) K (k_X5_requireBeforeFirstHour hl (by omega)) (fun E h => ⟨2, by unfold cAC; rw [if_pos q_2, if_pos q_10]; exact if_neg (fun q => h.2 q.2), by rw [h.1]; rfl⟩) cw_X5_68 wd_468 wd_7 (by decide) (by decide) rfl rfl rfl rfl (Nat.le_of_ble_eq_true rfl) (by decide) (by decide) dX5_addCell_33 ?_
    rintro _ _ _ ⟨rfl, rfl, rfl, q_33⟩
    show WW g z 4 3 18 ad (Wz z ad σ τ o) 36 [(3, .ref (ad 12 b)), (0, .ref (ad 0 0)), (1, .int (nI b)), (2, .int (nI p))] []
    refine r_aload_n K dX5_addCell_36 0 rfl rfl ?_
    refine r_iload_n K dX5_addCell_37 3 rfl rfl ?_
    refine r_callV (st := []) K (k_X3_append (b := b) (h := p) hl (by first | exact hb | exact hk | exact hj | exact hw | omega | assumption) hs (by omega) (by omega)) cw_X5_96 wd_612 wd_613 (by decide) (by decide) (W_12 (by first | exact hb | exact hk | exact hj | exact hw | omega | assumption)) rfl rfl rfl (Nat.le_of_ble_eq_true rfl) (by decide) (by decide) dX5_addCell_38 ?_
    rintro _ _ _ ⟨rfl, rfl, rfl⟩
    show WW g z 4 3 18 ad (Wz z ad (acell σ b p) τ o) 41 [(3, .ref (ad 12 b)), (0, .ref (ad 0 0)), (1, .int (nI b)), (2, .int (nI p))] []
    refine r_aload_n K dX5_addCell_41 0 rfl rfl ?_
    refine r_get (v := .int (nI ((acell σ b p) 1 b 6))) K fd_X5_88 (W_12 (by first | exact hb | exact hk | exact hj | exact hw | omega | assumption)) rfl rfl dX5_addCell_42 ?_
    exact r_iret K (by decide) (by decide) ⟨(by unfold cAC; rw [if_pos q_2, if_pos q_10]; exact if_pos (show σ 1 (jN (nI b)) 6 < 8 ∧ σ 12 0 0 = 0 from ⟨by rw [jN_n (by omega)]; omega, q_33⟩)), by rw [jN_n (by omega), acell_6], adK.rf, _, rfl, by unfold fCell; rw [jN_n (by omega), jN_n (by omega)]; exact agr.cell, C.cell q_33⟩ dX5_addCell_45
  · skip
    exact r_throwS (text := "no more cells in this street") K rfl (by decide +kernel) (by decide +kernel) (by decide) wd_450 wd_64 at_IllegalStateException (by decide) dX5_addCell_22 dX5_addCell_25 dX5_addCell_26 dX5_addCell_28 dX5_addCell_31 ⟨2, by unfold cAC; rw [if_pos q_2, if_pos q_10]; exact if_neg (fun q => absurd q.1 (by rw [jN_n (by omega)]; omega)), rfl⟩ (Nat.le_of_ble_eq_true rfl) (by decide) (by decide)
set_option maxRecDepth 100000 in
set_option maxHeartbeats 4000000 in
theorem k_X5_pass {z : Zx} {l : Launch} {σ τ : Sg} {o : Int64 × UInt64} {ad : Nm} (hl : l.stackTraces = false) {x : Int32} (Q : IR σ) (C : ICo σ) : Ko z l yX5_pass cX5_pass 3 (some .int) 8 1 6 [.ref (ad 0 0), .int (x)] ad (Wz z ad σ τ o) (okC z ad τ o (cP σ x) (.int (nI (σ 12 0 0 + jN x))) (hrs σ (jN x))) (exT (cP σ x) ["java/lang/IllegalArgumentException", "java/lang/IllegalStateException"]) := by
  refine ko_of hl (by decide +kernel) (Nat.le_of_ble_eq_true rfl) (fun g hg K => ?_)
  subst hg
  have I := Q.1
  have L := C.1
  have D := C.2.1
  have q0 := I.1.1
  have q1 := I.1.2.1
  have q2 := I.1.2.2.1
  have q3 := I.1.2.2.2.1
  have q5 := Q.2.1
  show WW g z 3 0 0 ad (Wz z ad σ τ o) 0 [(0, .ref (ad 0 0)), (1, .int (x))] []
  refine r_iload_n K dX5_pass_0 1 rfl rfl ?_
  refine r_iconst (v := nI 1) K dX5_pass_1 (by decide) ?_
  refine r_bipush (v := nI 24) K dX5_pass_2 (by decide) ?_
  refine r_callS (st := []) K (k_X5_isWithin (x := x) (a := nI 1) (b := nI 24) hl) cw_X5_43 wd_415 (by decide) (by decide) rfl (Nat.le_of_ble_eq_true rfl) (by decide) (by decide) dX5_pass_4 ?_
  rintro _ _ _ ⟨rfl, rfl, rfl⟩
  show WW g z 3 0 0 ad (Wz z ad σ τ o) 7 [(0, .ref (ad 0 0)), (1, .int (x))] [.int (pI (nI 1 ≤ x ∧ x ≤ nI 24))]
  refine r_if_ne K dX5_pass_7 20 (¬ (nI 1 ≤ x ∧ x ≤ nI 24)) pI_eq0 (by decide) (fun c_7 => ?_) (fun c_7 => ?_)
  · skip
    have q_7 := Decidable.not_not.mp c_7
    obtain ⟨p, hp, rfl⟩ := (inR_iff (by decide) (by decide)).mp q_7
    refine r_aload_n K dX5_pass_20 0 rfl rfl ?_
    refine r_get (v := .ref (ad 1 0)) K fd_X5_10 rfl rfl rfl dX5_pass_21 ?_
    refine r_callV (st := []) K (k_Jx4a65c_isEmpty_aae02 (l0 := 0) hl (by decide) L) cw_X5_145 wd_736 wd_737 (by decide) (by decide) (W_1 (by first | exact hb | exact hk | exact hj | exact hw | omega | assumption)) rfl rfl rfl (Nat.le_of_ble_eq_true rfl) (by decide) (by decide) dX5_pass_24 ?_
    rintro _ _ _ ⟨rfl, rfl, rfl⟩
    show WW g z 3 0 0 ad (Wz z ad σ τ o) 27 [(0, .ref (ad 0 0)), (1, .int (nI p))] [.int (pI (σ 0 0 0 = 0))]
    refine r_if_eq K dX5_pass_27 40 (¬ (σ 0 0 0 = 0)) pI_eq0 (by decide) (fun c_27 => ?_) (fun c_27 => ?_)
    · skip
      refine r_iload_n K dX5_pass_40 1 rfl rfl ?_
      refine r_bipush (v := nI 60) K dX5_pass_41 (by decide) ?_
      refine r_aload_n K dX5_pass_43 0 rfl rfl ?_
      refine r_get (v := .int (nI (σ 12 0 0))) K fd_X5_151 rfl rfl rfl dX5_pass_44 ?_
      refine r_isub (v := nI (60 - (σ 12 0 0))) K dX5_pass_47 (pk_sub (by omega)) ?_
      refine r_icmp_le K dX5_pass_48 61 (p ≤ 60 - (σ 12 0 0)) (nI_leI (by omega) (by omega)) (by decide) (fun c_48 => ?_) (fun c_48 => ?_)
      · skip
        refine r_iconst (v := nI 0) K dX5_pass_61 (by decide) ?_
        refine r_istore_n (lv' := [(2, .int (nI 0)), (0, .ref (ad 0 0)), (1, .int (nI p))]) K dX5_pass_62 rfl (by decide) rfl ?_
        refine r_mu (μ' := Wz z ad (hrs σ 0) τ o) rfl ?_
        have lp : ∀ (fuel : Nat) (i : Nat), p - i < fuel → i ≤ p → WW g z 3 0 0 ad (Wz z ad (hrs σ i) τ o) 63 [(0, .ref (ad 0 0)), (1, .int (nI p)), (2, .int (nI i))] [] := by
          intro fuel
          induction fuel with
          | zero => intro i hf h1; exact absurd hf (Nat.not_lt_zero _)
          | succ fuel ih_lp =>
            intro i hf h1
            refine r_iload_n K dX5_pass_63 2 rfl rfl ?_
            refine r_iload_n K dX5_pass_64 1 rfl rfl ?_
            refine r_icmp_ge K dX5_pass_65 78 (p ≤ i) (nI_leI (by omega) (by omega)) (by decide) (fun c_65 => ?_) (fun c_65 => ?_)
            · skip
              refine r_aload_n K dX5_pass_78 0 rfl rfl ?_
              refine r_get (v := .int (nI ((hrs σ i) 12 0 0))) K fd_X5_151 rfl rfl rfl dX5_pass_79 ?_
              exact r_iret K (by decide) (by decide) ⟨(by unfold cP; rw [if_pos q_7]; exact if_pos (show σ 0 0 0 ≠ 0 ∧ σ 12 0 0 + jN (nI p) ≤ 60 from ⟨c_27, by rw [jN_n (by omega)]; omega⟩)), by rw [hrs_clock, jN_n (by omega), show i = p by omega], adK.rf, _, rfl, by rw [jN_n (by omega), show i = p by omega]; exact agr.rf, C.hrs i⟩ dX5_pass_82
            · skip
              have Qi := Q.hrs i (by omega)
              have Ci := C.hrs i
              refine r_aload_n K dX5_pass_68 0 rfl rfl ?_
              refine r_callV (st := []) K (k_X5_passOneHour (σ := hrs σ i) hl Qi.1 Ci.1 Ci.2.1 (by rw [hrs_clock]; omega) (fun b => (Qi.2.1.1 b).1) (fun b => (Qi.2.1.1 b).2)) cw_X5_156 wd_743 wd_17 (by decide) (by decide) rfl rfl rfl rfl (Nat.le_of_ble_eq_true rfl) (by decide) (by decide) dX5_pass_69 ?_
              rintro _ _ _ ⟨rfl, rfl, rfl⟩
              show WW g z 3 0 0 ad (Wz z ad (hrs σ (i + 1)) τ o) 72 [(0, .ref (ad 0 0)), (1, .int (nI p)), (2, .int (nI i))] []
              refine r_iinc (v := nI (i + 1)) (lv' := [(2, .int (nI (i + 1))), (0, .ref (ad 0 0)), (1, .int (nI p))]) K dX5_pass_72 2 rfl (ic_1 _) (by decide) rfl ?_
              refine r_goto K dX5_pass_75 63 (by decide) ?_
              refine r_lv (lv' := [(0, .ref (ad 0 0)), (1, .int (nI p)), (2, .int (nI (i + 1)))]) [1, 2, 0] rfl ?_
              exact ih_lp (i + 1) (by omega) (by omega)
        refine r_lv (lv' := [(0, .ref (ad 0 0)), (1, .int (nI p)), (2, .int (nI 0))]) [1, 2, 0] rfl ?_
        exact lp (p - (0) + 1) 0 (by omega) (by omega)
      · skip
        exact r_throwS (text := "the clock would go too far") K rfl (by decide +kernel) (by decide +kernel) (by decide) wd_450 wd_64 at_IllegalStateException (by decide) dX5_pass_51 dX5_pass_54 dX5_pass_55 dX5_pass_57 dX5_pass_60 ⟨1, by unfold cP; rw [if_pos q_7]; exact if_neg (fun q => absurd q.2 (by rw [jN_n (by omega)]; omega)), rfl⟩ (Nat.le_of_ble_eq_true rfl) (by decide) (by decide)
    · skip
      exact r_throwS (text := "no basin") K rfl (by decide +kernel) (by decide +kernel) (by decide) wd_450 wd_64 at_IllegalStateException (by decide) dX5_pass_30 dX5_pass_33 dX5_pass_34 dX5_pass_36 dX5_pass_39 ⟨1, by unfold cP; rw [if_pos q_7]; exact if_neg (fun q => c_27 q.1), rfl⟩ (Nat.le_of_ble_eq_true rfl) (by decide) (by decide)
  · skip
    exact r_throwS (text := "hours out of range") K rfl (by decide +kernel) (by decide +kernel) (by decide) wd_430 wd_63 at_IllegalArgumentException (by decide) dX5_pass_10 dX5_pass_13 dX5_pass_14 dX5_pass_16 dX5_pass_19 ⟨0, by unfold cP; exact if_neg c_7, rfl⟩ (Nat.le_of_ble_eq_true rfl) (by decide) (by decide)
