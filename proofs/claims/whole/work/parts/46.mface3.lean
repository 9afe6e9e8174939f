set_option maxRecDepth 100000 in
set_option maxHeartbeats 4000000 in
theorem k_X6_addCell {z : Zx} {l : Launch} {σ τ : Sg} {o : Int64 × UInt64} {ad : Nm} (hl : l.stackTraces = false) {x y : Int32} (Q : IR τ) (Q2 : IMo τ) : Ko z l yX6_addCell cX6_addCell 3 (some .int) 7 0 0 [.ref (ad 20 0), .int (x), .int (y)] ad (Wz z ad σ τ o) (okM z ad σ o Value.int (cAC τ x y) (nI (τ 1 (jN x) 6 + 1)) (if (cAC τ x y) = 0 then fCell τ x y else τ)) exNo := by
  refine ko_of hl (by decide +kernel) (Nat.le_of_ble_eq_true rfl) (fun g hg K => ?_)
  subst hg
  have I := Q.1
  have q0 := I.1.1
  have q1 := I.1.2.1
  have q2 := I.1.2.2.1
  have q3 := I.1.2.2.2.1
  have q4 := I.1.2.2.2.2.1
  show WW g z 3 0 0 ad (Wz z ad σ τ o) 0 [(0, .ref (ad 20 0)), (1, .int (x)), (2, .int (y))] []
  refine r_aload_n K dX6_addCell_0 0 rfl rfl ?_
  refine r_aload_n K dX6_addCell_1 0 rfl rfl ?_
  refine r_iload_n K dX6_addCell_2 1 rfl rfl ?_
  refine r_callV (st := [.ref (ad 20 0)]) K (k_X6_isNone (x := x) hl) cw_X6_107 wd_1431 wd_23 (by decide) (by decide) rfl rfl rfl rfl (Nat.le_of_ble_eq_true rfl) (by decide) (by decide) dX6_addCell_3 ?_
  rintro _ _ _ ⟨rfl, rfl, rfl⟩
  show WW g z 3 0 0 ad (Wz z ad σ τ o) 6 [(0, .ref (ad 20 0)), (1, .int (x)), (2, .int (y))] [.int (pI (¬ in0 x (τ 0 0 0))), .ref (ad 20 0)]
  refine r_if_eq K dX6_addCell_6 13 (in0 x (τ 0 0 0)) pI_n0 (by decide) (fun c_6 => ?_) (fun c_6 => ?_)
  · skip
    obtain ⟨b, hb, rfl⟩ := (in0_iff (by omega)).mp c_6
    obtain ⟨-, -, -, hs, hs5, hs7⟩ := I.2.1 b hb
    have q8 := hs.2.1
    refine r_iload_n K dX6_addCell_13 2 rfl rfl ?_
    refine r_iconst (v := nI 0) K dX6_addCell_14 (by decide) ?_
    refine r_bipush (v := nI 30) K dX6_addCell_15 (by decide) ?_
    refine r_callS (st := [.ref (ad 20 0)]) K (k_X6_in (x := y) (a := nI 0) (b := nI 30) hl) cw_X6_103 wd_1434 (by decide) (by decide) rfl (Nat.le_of_ble_eq_true rfl) (by decide) (by decide) dX6_addCell_17 ?_
    rintro _ _ _ ⟨rfl, rfl, rfl⟩
    show WW g z 3 0 0 ad (Wz z ad σ τ o) 20 [(0, .ref (ad 20 0)), (1, .int (nI b)), (2, .int (y))] [.int (pI (inR y 0 30)), .ref (ad 20 0)]
    refine r_if_ne K dX6_addCell_20 27 (¬ (inR y 0 30)) pI_eq0 (by decide) (fun c_20 => ?_) (fun c_20 => ?_)
    · skip
      have q_20 := Decidable.not_not.mp c_20
      obtain ⟨p, hp, rfl⟩ := (inR_iff (by decide) (by decide)).mp q_20
      refine r_aload_n K dX6_addCell_27 0 rfl rfl ?_
      refine r_get (v := .ref (ad 21 7)) K fd_X6_28 rfl rfl rfl dX6_addCell_28 ?_
      refine r_iload_n K dX6_addCell_31 1 rfl rfl ?_
      refine r_iald (j := b) (v := nI (τ 1 b 6)) K rfl rfl rfl (by omega) (by decide) rfl dX6_addCell_32 ?_
      refine r_bipush (v := nI 8) K dX6_addCell_33 (by decide) ?_
      refine r_icmp_eq K dX6_addCell_35 45 (τ 1 b 6 = 8) (nI_eq (by omega) (by omega)) (by decide) (fun c_35 => ?_) (fun c_35 => ?_)
      · skip
        refine r_iconst (v := nI 3) K dX6_addCell_45 (by decide) ?_
        refine r_goto K dX6_addCell_46 50 (by decide) ?_
        refine r_callV (st := []) K (k_X6_fails (c := 3) hl (by omega)) cw_X6_114 wd_1438 wd_24 (by decide) (by decide) rfl rfl rfl rfl (Nat.le_of_ble_eq_true rfl) (by decide) (by decide) dX6_addCell_50 ?_
        rintro _ _ _ ⟨rfl, rfl, rfl⟩
        show WW g z 3 0 0 ad (Wz z ad σ (su τ 72 0 0 3) o) 53 [(0, .ref (ad 20 0)), (1, .int (nI b)), (2, .int (nI p))] [.int (nI 1)]
        refine r_if_eq K dX6_addCell_53 58 (1 = 0) (n0_eq (by omega)) (by decide) (fun c_53 => ?_) (fun c_53 => ?_)
        · skip
          exfalso; omega
        · skip
          refine r_iconst (v := nI 0) K dX6_addCell_56 (by decide) ?_
          exact r_iret K (by decide) (by decide) (okM_g (c := 2) Q2 (by unfold cAC; rw [if_pos c_6, if_pos q_20]; exact (if_neg (fun q => by have q1 := q.1; rw [jN_n (by omega)] at q1; have q2 := q.2; omega)).symm)) dX6_addCell_57
      · skip
        refine r_aload_n K dX6_addCell_38 0 rfl rfl ?_
        refine r_get (v := .int (nI (τ 12 0 0))) K fd_X6_120 rfl rfl rfl dX6_addCell_39 ?_
        refine r_if_le K dX6_addCell_42 49 (τ 12 0 0 = 0) (n0_le (by omega)) (by decide) (fun c_42 => ?_) (fun c_42 => ?_)
        · skip
          refine r_iconst (v := nI 0) K dX6_addCell_49 (by decide) ?_
          refine r_callV (st := []) K (k_X6_fails (c := 0) hl (by omega)) cw_X6_114 wd_1438 wd_24 (by decide) (by decide) rfl rfl rfl rfl (Nat.le_of_ble_eq_true rfl) (by decide) (by decide) dX6_addCell_50 ?_
          rintro _ _ _ ⟨rfl, rfl, rfl⟩
          show WW g z 3 0 0 ad (Wz z ad σ (su τ 72 0 0 0) o) 53 [(0, .ref (ad 20 0)), (1, .int (nI b)), (2, .int (nI p))] [.int (nI 0)]
          refine r_if_eq K dX6_addCell_53 58 (0 = 0) (n0_eq (by omega)) (by decide) (fun c_53 => ?_) (fun c_53 => ?_)
          · skip
            refine r_aload_n K dX6_addCell_58 0 rfl rfl ?_
            refine r_get (v := .ref (ad 21 8)) K fd_X6_31 rfl rfl rfl dX6_addCell_59 ?_
            refine r_bipush (v := nI 8) K dX6_addCell_62 (by decide) ?_
            refine r_iload_n K dX6_addCell_64 1 rfl rfl ?_
            refine r_imul (v := nI (8 * b)) K dX6_addCell_65 (pk_mul _ _) ?_
            refine r_aload_n K dX6_addCell_66 0 rfl rfl ?_
            refine r_get (v := .ref (ad 21 7)) K fd_X6_28 rfl rfl rfl dX6_addCell_67 ?_
            refine r_iload_n K dX6_addCell_70 1 rfl rfl ?_
            refine r_iald (j := b) (v := nI (τ 1 b 6)) K rfl rfl rfl (by omega) (by decide) rfl dX6_addCell_71 ?_
            refine r_iadd (v := nI ((8 * b) + (τ 1 b 6))) K dX6_addCell_72 (nI_add _ _) ?_
            refine r_iload_n K dX6_addCell_73 2 rfl rfl ?_
            refine r_iast (j := (8 * b) + (τ 1 b 6)) K rfl rfl rfl (by omega) (by decide) rfl dX6_addCell_74 ?_
            refine r_mu (u_21_8 (a := b) (b := (τ 1 b 6)) (by omega)) ?_
            show WW g z 3 0 0 ad (Wz z ad σ (su (su τ 72 0 0 0) 2 b (τ 1 b 6) p) o) 75 [(0, .ref (ad 20 0)), (1, .int (nI b)), (2, .int (nI p))] []
            refine r_aload_n K dX6_addCell_75 0 rfl rfl ?_
            refine r_get (v := .ref (ad 21 7)) K fd_X6_28 rfl rfl rfl dX6_addCell_76 ?_
            refine r_iload_n K dX6_addCell_79 1 rfl rfl ?_
            refine r_dup2 K dX6_addCell_80 rfl rfl ?_
            refine r_iald (j := b) (v := nI (τ 1 b 6)) K rfl rfl rfl (by omega) (by decide) rfl dX6_addCell_81 ?_
            refine r_iconst (v := nI 1) K dX6_addCell_82 (by decide) ?_
            refine r_iadd (v := nI ((τ 1 b 6) + 1)) K dX6_addCell_83 (nI_add _ _) ?_
            refine r_iast (j := b) K rfl rfl rfl (by omega) (by decide) rfl dX6_addCell_84 ?_
            refine r_mu u_21_7 ?_
            show WW g z 3 0 0 ad (Wz z ad σ (su (su (su τ 72 0 0 0) 2 b (τ 1 b 6) p) 1 b 6 ((τ 1 b 6) + 1)) o) 85 [(0, .ref (ad 20 0)), (1, .int (nI b)), (2, .int (nI p))] []
            refine r_aload_n K dX6_addCell_85 0 rfl rfl ?_
            refine r_get (v := .ref (ad 21 7)) K fd_X6_28 rfl rfl rfl dX6_addCell_86 ?_
            refine r_iload_n K dX6_addCell_89 1 rfl rfl ?_
            refine r_iald (j := b) (v := nI ((τ 1 b 6) + 1)) K rfl rfl rfl (by omega) (by decide) (by show nI _ = nI _; first | rfl | (repeat first | rw [su_s] | rw [su_n (by omega)])) dX6_addCell_90 ?_
            exact r_iret K (by decide) (by decide) (okM_w (by unfold cAC; rw [if_pos c_6, if_pos q_20]; exact if_pos (show τ 1 (jN (nI b)) 6 < 8 ∧ τ 12 0 0 = 0 from ⟨by rw [jN_n (by omega)]; omega, by omega⟩)) (by rw [jN_n (by omega)]) (by unfold fCell; rw [jN_n (by omega), jN_n (by omega)]; exact agr.mcell) Q2 rfl) dX6_addCell_91
          · skip
            exfalso; omega
        · skip
          refine r_iconst (v := nI 3) K dX6_addCell_45 (by decide) ?_
          refine r_goto K dX6_addCell_46 50 (by decide) ?_
          refine r_callV (st := []) K (k_X6_fails (c := 3) hl (by omega)) cw_X6_114 wd_1438 wd_24 (by decide) (by decide) rfl rfl rfl rfl (Nat.le_of_ble_eq_true rfl) (by decide) (by decide) dX6_addCell_50 ?_
          rintro _ _ _ ⟨rfl, rfl, rfl⟩
          show WW g z 3 0 0 ad (Wz z ad σ (su τ 72 0 0 3) o) 53 [(0, .ref (ad 20 0)), (1, .int (nI b)), (2, .int (nI p))] [.int (nI 1)]
          refine r_if_eq K dX6_addCell_53 58 (1 = 0) (n0_eq (by omega)) (by decide) (fun c_53 => ?_) (fun c_53 => ?_)
          · skip
            exfalso; omega
          · skip
            refine r_iconst (v := nI 0) K dX6_addCell_56 (by decide) ?_
            exact r_iret K (by decide) (by decide) (okM_g (c := 2) Q2 (by unfold cAC; rw [if_pos c_6, if_pos q_20]; exact (if_neg (fun q => by have q1 := q.1; rw [jN_n (by omega)] at q1; have q2 := q.2; omega)).symm)) dX6_addCell_57
    · skip
      refine r_iconst (v := nI 2) K dX6_addCell_23 (by decide) ?_
      refine r_goto K dX6_addCell_24 50 (by decide) ?_
      refine r_callV (st := []) K (k_X6_fails (c := 2) hl (by omega)) cw_X6_114 wd_1438 wd_24 (by decide) (by decide) rfl rfl rfl rfl (Nat.le_of_ble_eq_true rfl) (by decide) (by decide) dX6_addCell_50 ?_
      rintro _ _ _ ⟨rfl, rfl, rfl⟩
      show WW g z 3 0 0 ad (Wz z ad σ (su τ 72 0 0 2) o) 53 [(0, .ref (ad 20 0)), (1, .int (nI b)), (2, .int (y))] [.int (nI 1)]
      refine r_if_eq K dX6_addCell_53 58 (1 = 0) (n0_eq (by omega)) (by decide) (fun c_53 => ?_) (fun c_53 => ?_)
      · skip
        exfalso; omega
      · skip
        refine r_iconst (v := nI 0) K dX6_addCell_56 (by decide) ?_
        exact r_iret K (by decide) (by decide) (okM_g (c := 1) Q2 (by unfold cAC; rw [if_pos c_6]; exact (if_neg c_20).symm)) dX6_addCell_57
  · skip
    refine r_iconst (v := nI 1) K dX6_addCell_9 (by decide) ?_
    refine r_goto K dX6_addCell_10 50 (by decide) ?_
    refine r_callV (st := []) K (k_X6_fails (c := 1) hl (by omega)) cw_X6_114 wd_1438 wd_24 (by decide) (by decide) rfl rfl rfl rfl (Nat.le_of_ble_eq_true rfl) (by decide) (by decide) dX6_addCell_50 ?_
    rintro _ _ _ ⟨rfl, rfl, rfl⟩
    show WW g z 3 0 0 ad (Wz z ad σ (su τ 72 0 0 1) o) 53 [(0, .ref (ad 20 0)), (1, .int (x)), (2, .int (y))] [.int (nI 1)]
    refine r_if_eq K dX6_addCell_53 58 (1 = 0) (n0_eq (by omega)) (by decide) (fun c_53 => ?_) (fun c_53 => ?_)
    · skip
      exfalso; omega
    · skip
      refine r_iconst (v := nI 0) K dX6_addCell_56 (by decide) ?_
      exact r_iret K (by decide) (by decide) (okM_g (c := 0) Q2 (by unfold cAC; exact (if_neg c_6).symm)) dX6_addCell_57
set_option maxRecDepth 100000 in
set_option maxHeartbeats 4000000 in
theorem k_X6_claim {z : Zx} {l : Launch} {σ τ : Sg} {o : Int64 × UInt64} {ad : Nm} (hl : l.stackTraces = false) {x t : Int32} (Q : IR τ) (Q2 : IMo τ) : Ko z l yX6_claim cX6_claim 3 (some .int) 7 0 0 [.ref (ad 20 0), .int (x), .int (t)] ad (Wz z ad σ τ o) (okM z ad σ o Value.int (cCl τ x t) (nI (pmt τ (jN x) (jN t))) (if (cCl τ x t) = 0 then (fPay τ (jN x) (jN t)) else τ)) exNo := by
  refine ko_of hl (by decide +kernel) (Nat.le_of_ble_eq_true rfl) (fun g hg K => ?_)
  subst hg
  have I := Q.1
  have q0 := I.1.1
  have q1 := I.1.2.1
  have q2 := I.1.2.2.1
  have q3 := I.1.2.2.2.1
  have q4 := I.1.2.2.2.2.1
  show WW g z 3 0 0 ad (Wz z ad σ τ o) 0 [(0, .ref (ad 20 0)), (1, .int (x)), (2, .int (t))] []
  refine r_aload_n K dX6_claim_0 0 rfl rfl ?_
  refine r_iload_n K dX6_claim_1 1 rfl rfl ?_
  refine r_iload_n K dX6_claim_2 2 rfl rfl ?_
  refine r_callV (st := []) K (k_X6_isNoHour (x := x) (h := t) hl) cw_X6_188 wd_1617 wd_39 (by decide) (by decide) rfl rfl rfl rfl (Nat.le_of_ble_eq_true rfl) (by decide) (by decide) dX6_claim_3 ?_
  rintro _ _ _ ⟨rfl, rfl, rfl⟩
  show WW g z 3 0 0 ad (Wz z ad σ (su τ 72 0 0 (cKh τ x t)) o) 6 [(0, .ref (ad 20 0)), (1, .int (x)), (2, .int (t))] [.int (pI (¬ (in0 x (τ 0 2 0) ∧ inR t 1 (τ 12 0 0))))]
  refine r_if_ne K dX6_claim_6 50 ((in0 x (τ 0 2 0) ∧ inR t 1 (τ 12 0 0))) pI_n0 (by decide) (fun c_6 => ?_) (fun c_6 => ?_)
  · skip
    refine r_iconst (v := nI 0) K dX6_claim_50 (by decide) ?_
    exact r_iret K (by decide) (by decide) ⟨_, rfl, fun h => absurd h (cCl_h c_6).2, rfl, _, rfl, (by rw [if_neg (cCl_h c_6).2]; exact agr.rf.sx (by decide)), Q2, (cCl_h c_6).1⟩ dX6_claim_51
  · skip
    have c1 := c_6.1
    have c2 := c_6.2
    obtain ⟨k, hk, rfl⟩ := (in0_iff (by omega)).mp c1
    obtain ⟨h, hh, rfl⟩ := (inR_iff (by decide) (by omega)).mp c2
    have hh2 : 1 ≤ h ∧ h ≤ 60 := ⟨hh.1, by omega⟩
    have gw := wor_le I hk h
    have h10 := (I.2.2.2 k hk).2 h
    refine r_aload_n K dX6_claim_9 0 rfl rfl ?_
    refine r_aload_n K dX6_claim_10 0 rfl rfl ?_
    refine r_iload_n K dX6_claim_11 1 rfl rfl ?_
    refine r_iload_n K dX6_claim_12 2 rfl rfl ?_
    refine r_callV (st := [.ref (ad 20 0)]) K (k_X6_worth (k := k) (h := h) hl I (by exact hk) (by first | exact hh2 | omega)) cw_X6_191 wd_1625 wd_41 (by decide) (by decide) rfl rfl rfl rfl (Nat.le_of_ble_eq_true rfl) (by decide) (by decide) dX6_claim_13 ?_
    rintro _ _ _ ⟨rfl, rfl, rfl⟩
    show WW g z 3 0 0 ad (Wz z ad σ (su τ 72 0 0 (cKh τ (nI k) (nI h))) o) 16 [(0, .ref (ad 20 0)), (1, .int (nI k)), (2, .int (nI h))] [.int (nI (wor τ k h)), .ref (ad 20 0)]
    refine r_if_ne K dX6_claim_16 23 (wor τ k h = 0) (n0_eq (by omega)) (by decide) (fun c_16 => ?_) (fun c_16 => ?_)
    · skip
      have q16 : 0 < dpC τ (τ 9 (jN (nI k)) 0) (τ 9 (jN (nI k)) 1) (τ 7 (τ 9 (jN (nI k)) 0) (jN (nI h))) := by rw [jN_n (by omega), jN_n (by omega)]; exact wor_pos I hk (by omega)
      refine r_aload_n K dX6_claim_23 0 rfl rfl ?_
      refine r_get (v := .ref (ad 21 31)) K fd_X6_86 rfl rfl rfl dX6_claim_24 ?_
      refine r_bipush (v := nI 60) K dX6_claim_27 (by decide) ?_
      refine r_iload_n K dX6_claim_29 1 rfl rfl ?_
      refine r_imul (v := nI (60 * k)) K dX6_claim_30 (pk_mul _ _) ?_
      refine r_iload_n K dX6_claim_31 2 rfl rfl ?_
      refine r_iadd (v := nI ((60 * k) + h)) K dX6_claim_32 (nI_add _ _) ?_
      refine r_iconst (v := nI 1) K dX6_claim_33 (by decide) ?_
      refine r_isub (v := nI (((60 * k) + h) - 1)) K dX6_claim_34 (pk_sub (by omega)) ?_
      refine r_zald (j := ((60 * k) + h) - 1) (v := nI (τ 10 k h)) K rfl rfl rfl (by omega) (by decide) (by show nI _ = nI _; rw [show (((60 * k) + h) - 1) / 60 = k by omega, show (((60 * k) + h) - 1) % 60 + 1 = h by omega]; try (first | rfl | (repeat first | rw [su_s] | rw [su_n (by omega)]))) dX6_claim_35 ?_
      refine r_if_eq K dX6_claim_36 43 (τ 10 k h = 0) (n0_eq (by omega)) (by decide) (fun c_36 => ?_) (fun c_36 => ?_)
      · skip
        refine r_iconst (v := nI 0) K dX6_claim_43 (by decide) ?_
        refine r_callV (st := []) K (k_X6_fails (c := 0) hl (by omega)) cw_X6_114 wd_1438 wd_24 (by decide) (by decide) rfl rfl rfl rfl (Nat.le_of_ble_eq_true rfl) (by decide) (by decide) dX6_claim_44 ?_
        rintro _ _ _ ⟨rfl, rfl, rfl⟩
        rw [su_su]
        show WW g z 3 0 0 ad (Wz z ad σ (su τ 72 0 0 0) o) 47 [(0, .ref (ad 20 0)), (1, .int (nI k)), (2, .int (nI h))] [.int (nI 0)]
        refine r_if_eq K dX6_claim_47 52 (0 = 0) (n0_eq (by omega)) (by decide) (fun c_47 => ?_) (fun c_47 => ?_)
        · skip
          refine r_aload_n K dX6_claim_52 0 rfl rfl ?_
          refine r_iload_n K dX6_claim_53 1 rfl rfl ?_
          refine r_iload_n K dX6_claim_54 2 rfl rfl ?_
          refine r_callV (st := []) K (k_X6_pays (τ := (su τ 72 0 0 0)) (k := k) (h := h) hl I (by exact hk) (by first | exact hh2 | omega)) cw_X6_197 wd_1637 wd_42 (by decide) (by decide) rfl rfl rfl rfl (Nat.le_of_ble_eq_true rfl) (by decide) (by decide) dX6_claim_55 ?_
          rintro _ _ _ ⟨rfl, rfl, rfl⟩
          show WW g z 3 0 0 ad (Wz z ad σ (mPay τ k h) o) 58 [(0, .ref (ad 20 0)), (1, .int (nI k)), (2, .int (nI h))] [.int (nI (pmt τ k h))]
          exact r_iret K (by decide) (by decide) (okM_w (by unfold cCl; rw [if_pos c1, if_pos c2, if_pos q16]; exact if_pos (show τ 10 (jN (nI k)) (jN (nI h)) = 0 by rw [jN_n (by omega), jN_n (by omega)]; exact c_36)) (by rw [jN_n (by omega), jN_n (by omega)]) (by rw [jN_n (by omega), jN_n (by omega)]; exact agr.mpay) (Q2.pay hk hh2.1 hh2.2 c_36) rfl) dX6_claim_58
        · skip
          exfalso; omega
      · skip
        refine r_iconst (v := nI 4) K dX6_claim_39 (by decide) ?_
        refine r_goto K dX6_claim_40 44 (by decide) ?_
        refine r_callV (st := []) K (k_X6_fails (c := 4) hl (by omega)) cw_X6_114 wd_1438 wd_24 (by decide) (by decide) rfl rfl rfl rfl (Nat.le_of_ble_eq_true rfl) (by decide) (by decide) dX6_claim_44 ?_
        rintro _ _ _ ⟨rfl, rfl, rfl⟩
        rw [su_su]
        show WW g z 3 0 0 ad (Wz z ad σ (su τ 72 0 0 4) o) 47 [(0, .ref (ad 20 0)), (1, .int (nI k)), (2, .int (nI h))] [.int (nI 1)]
        refine r_if_eq K dX6_claim_47 52 (1 = 0) (n0_eq (by omega)) (by decide) (fun c_47 => ?_) (fun c_47 => ?_)
        · skip
          exfalso; omega
        · skip
          refine r_iconst (v := nI 0) K dX6_claim_50 (by decide) ?_
          exact r_iret K (by decide) (by decide) (okM_g (c := 3) Q2 (by unfold cCl; rw [if_pos c1, if_pos c2, if_pos q16]; exact (if_neg (by rw [jN_n (by omega), jN_n (by omega)]; exact c_36)).symm)) dX6_claim_51
    · skip
      refine r_iconst (v := nI 3) K dX6_claim_19 (by decide) ?_
      refine r_goto K dX6_claim_20 44 (by decide) ?_
      refine r_callV (st := []) K (k_X6_fails (c := 3) hl (by omega)) cw_X6_114 wd_1438 wd_24 (by decide) (by decide) rfl rfl rfl rfl (Nat.le_of_ble_eq_true rfl) (by decide) (by decide) dX6_claim_44 ?_
      rintro _ _ _ ⟨rfl, rfl, rfl⟩
      rw [su_su]
      show WW g z 3 0 0 ad (Wz z ad σ (su τ 72 0 0 3) o) 47 [(0, .ref (ad 20 0)), (1, .int (nI k)), (2, .int (nI h))] [.int (nI 1)]
      refine r_if_eq K dX6_claim_47 52 (1 = 0) (n0_eq (by omega)) (by decide) (fun c_47 => ?_) (fun c_47 => ?_)
      · skip
        exfalso; omega
      · skip
        refine r_iconst (v := nI 0) K dX6_claim_50 (by decide) ?_
        exact r_iret K (by decide) (by decide) (okM_g (c := 2) Q2 (by unfold cCl; rw [if_pos c1, if_pos c2]; exact (if_neg (fun q => by rw [jN_n (by omega), jN_n (by omega)] at q; have := pos_wor I hk q; omega)).symm)) dX6_claim_51
set_option maxRecDepth 100000 in
set_option maxHeartbeats 4000000 in
theorem k_X6_claimWorst {z : Zx} {l : Launch} {σ τ : Sg} {o : Int64 × UInt64} {ad : Nm} (hl : l.stackTraces = false) {x : Int32} (Q : IR τ) (Q2 : IMo τ) : Ko z l yX6_claimWorst cX6_claimWorst 6 (some .int) 7 0 0 [.ref (ad 20 0), .int (x)] ad (Wz z ad σ τ o) (okM z ad σ o Value.int (cCW τ x) (nI (pmt τ (jN x) (wsh τ (jN x) (τ 12 0 0)))) (if (cCW τ x) = 0 then (fPay τ (jN x) (wsh τ (jN x) (τ 12 0 0))) else τ)) exNo := by
  refine ko_of hl (by decide +kernel) (Nat.le_of_ble_eq_true rfl) (fun g hg K => ?_)
  subst hg
  have I := Q.1
  have q0 := I.1.1
  have q1 := I.1.2.1
  have q2 := I.1.2.2.1
  have q3 := I.1.2.2.2.1
  have q4 := I.1.2.2.2.2.1
  show WW g z 6 0 0 ad (Wz z ad σ τ o) 0 [(0, .ref (ad 20 0)), (1, .int (x))] []
  refine r_aload_n K dX6_claimWorst_0 0 rfl rfl ?_
  refine r_aload_n K dX6_claimWorst_1 0 rfl rfl ?_
  refine r_iload_n K dX6_claimWorst_2 1 rfl rfl ?_
  refine r_callV (st := [.ref (ad 20 0)]) K (k_X6_isNoHouse (x := x) hl) cw_X6_185 wd_1621 wd_40 (by decide) (by decide) rfl rfl rfl rfl (Nat.le_of_ble_eq_true rfl) (by decide) (by decide) dX6_claimWorst_3 ?_
  rintro _ _ _ ⟨rfl, rfl, rfl⟩
  show WW g z 6 0 0 ad (Wz z ad σ τ o) 6 [(0, .ref (ad 20 0)), (1, .int (x))] [.int (pI (¬ in0 x (τ 0 2 0))), .ref (ad 20 0)]
  refine r_if_eq K dX6_claimWorst_6 13 (in0 x (τ 0 2 0)) pI_n0 (by decide) (fun c_6 => ?_) (fun c_6 => ?_)
  · skip
    obtain ⟨k, hk, rfl⟩ := (in0_iff (by omega)).mp c_6
    refine r_iconst (v := nI 0) K dX6_claimWorst_13 (by decide) ?_
    refine r_callV (st := []) K (k_X6_fails (c := 0) hl (by omega)) cw_X6_114 wd_1438 wd_24 (by decide) (by decide) rfl rfl rfl rfl (Nat.le_of_ble_eq_true rfl) (by decide) (by decide) dX6_claimWorst_14 ?_
    rintro _ _ _ ⟨rfl, rfl, rfl⟩
    show WW g z 6 0 0 ad (Wz z ad σ (su τ 72 0 0 0) o) 17 [(0, .ref (ad 20 0)), (1, .int (nI k))] [.int (nI 0)]
    refine r_if_eq K dX6_claimWorst_17 22 (0 = 0) (n0_eq (by omega)) (by decide) (fun c_17 => ?_) (fun c_17 => ?_)
    · skip
      refine r_iconst (v := nI 0) K dX6_claimWorst_22 (by decide) ?_
      refine r_istore_n (lv' := [(2, .int (nI 0)), (0, .ref (ad 20 0)), (1, .int (nI k))]) K dX6_claimWorst_23 rfl (by decide) rfl ?_
      refine r_iconst (v := nI 0) K dX6_claimWorst_24 (by decide) ?_
      refine r_istore_n (lv' := [(3, .int (nI 0)), (2, .int (nI 0)), (0, .ref (ad 20 0)), (1, .int (nI k))]) K dX6_claimWorst_25 rfl (by decide) rfl ?_
      refine r_iconst (v := nI 1) K dX6_claimWorst_26 (by decide) ?_
      refine r_istore (lv' := [(4, .int (nI 1)), (3, .int (nI 0)), (2, .int (nI 0)), (0, .ref (ad 20 0)), (1, .int (nI k))]) K dX6_claimWorst_27 (by decide) rfl ?_
      have lp : ∀ (fuel : Nat) (i : Nat), τ 12 0 0 - i < fuel → i ≤ τ 12 0 0 → WW g z 6 0 0 ad (Wz z ad σ (su τ 72 0 0 0) o) 29 [(0, .ref (ad 20 0)), (1, .int (nI k)), (2, .int (nI (wsh τ k i))), (3, .int (nI (wgr τ k i))), (4, .int (nI (i + 1)))] [] := by
        intro fuel
        induction fuel with
        | zero => intro i hf h1; exact absurd hf (Nat.not_lt_zero _)
        | succ fuel ih_lp =>
          intro i hf h1
          have g1 := wgr_le I hk i
          have g2 := wou_le I hk (i + 1)
          have g3 := wor_le I hk (i + 1)
          have g4 := (I.2.2.2 k hk).2 (i + 1)
          refine r_iload K dX6_claimWorst_29 4 rfl ?_
          refine r_aload_n K dX6_claimWorst_31 0 rfl rfl ?_
          refine r_get (v := .int (nI (τ 12 0 0))) K fd_X6_120 rfl rfl rfl dX6_claimWorst_32 ?_
          refine r_icmp_gt K dX6_claimWorst_35 89 (τ 12 0 0 < i + 1) (nI_ltI (by omega) (by omega)) (by decide) (fun c_35 => ?_) (fun c_35 => ?_)
          · skip
            refine r_eq (lv' := [(0, .ref (ad 20 0)), (1, .int (nI k)), (2, .int (nI (wsh τ k (τ 12 0 0)))), (3, .int (nI (wgr τ k i))), (4, .int (nI (i + 1)))]) rfl rfl (by rw [show i = τ 12 0 0 by omega]) rfl ?_
            have gs := wsh_le τ k (τ 12 0 0)
            show WW g z 6 0 0 ad (Wz z ad σ (su τ 72 0 0 0) o) 89 [(0, .ref (ad 20 0)), (1, .int (nI k)), (2, .int (nI (wsh τ k (τ 12 0 0)))), (3, .int (nI (wgr τ k i))), (4, .int (nI (i + 1)))] []
            refine r_aload_n K dX6_claimWorst_89 0 rfl rfl ?_
            refine r_iload_n K dX6_claimWorst_90 2 rfl rfl ?_
            refine r_if_ne K dX6_claimWorst_91 98 (wsh τ k (τ 12 0 0) = 0) (n0_eq (by omega)) (by decide) (fun c_91 => ?_) (fun c_91 => ?_)
            · skip
              have gu := wsh_un _ c_91
              have hh2 : 1 ≤ wsh τ k (τ 12 0 0) ∧ wsh τ k (τ 12 0 0) ≤ 60 := ⟨gu.2, by omega⟩
              refine r_iconst (v := nI 0) K dX6_claimWorst_98 (by decide) ?_
              refine r_callV (st := []) K (k_X6_fails (c := 0) hl (by omega)) cw_X6_114 wd_1438 wd_24 (by decide) (by decide) rfl rfl rfl rfl (Nat.le_of_ble_eq_true rfl) (by decide) (by decide) dX6_claimWorst_99 ?_
              rintro _ _ _ ⟨rfl, rfl, rfl⟩
              rw [su_su]
              show WW g z 6 0 0 ad (Wz z ad σ (su τ 72 0 0 0) o) 102 [(0, .ref (ad 20 0)), (1, .int (nI k)), (2, .int (nI (wsh τ k (τ 12 0 0)))), (3, .int (nI (wgr τ k i))), (4, .int (nI (i + 1)))] [.int (nI 0)]
              refine r_if_eq K dX6_claimWorst_102 109 (0 = 0) (n0_eq (by omega)) (by decide) (fun c_102 => ?_) (fun c_102 => ?_)
              · skip
                refine r_aload_n K dX6_claimWorst_109 0 rfl rfl ?_
                refine r_iload_n K dX6_claimWorst_110 1 rfl rfl ?_
                refine r_iload_n K dX6_claimWorst_111 2 rfl rfl ?_
                refine r_callV (st := []) K (k_X6_pays (τ := (su τ 72 0 0 0)) (k := k) (h := wsh τ k (τ 12 0 0)) hl I (by exact hk) (by first | exact hh2 | omega)) cw_X6_197 wd_1637 wd_42 (by decide) (by decide) rfl rfl rfl rfl (Nat.le_of_ble_eq_true rfl) (by decide) (by decide) dX6_claimWorst_112 ?_
                rintro _ _ _ ⟨rfl, rfl, rfl⟩
                show WW g z 6 0 0 ad (Wz z ad σ (mPay τ k (wsh τ k (τ 12 0 0))) o) 115 [(0, .ref (ad 20 0)), (1, .int (nI k)), (2, .int (nI (wsh τ k (τ 12 0 0)))), (3, .int (nI (wgr τ k i))), (4, .int (nI (i + 1)))] [.int (nI (pmt τ k (wsh τ k (τ 12 0 0))))]
                exact r_iret K (by decide) (by decide) (okM_w (by unfold cCW; rw [if_pos c_6]; exact if_pos (show wsh τ (jN (nI k)) (τ 12 0 0) ≠ 0 by rw [jN_n (by omega)]; exact c_91)) (by rw [jN_n (by omega)]) (by rw [jN_n (by omega)]; exact agr.mpay) (Q2.pay hk hh2.1 hh2.2 (wsh_0 c_91)) rfl) dX6_claimWorst_115
              · skip
                exfalso; omega
            · skip
              refine r_iconst (v := nI 2) K dX6_claimWorst_94 (by decide) ?_
              refine r_goto K dX6_claimWorst_95 99 (by decide) ?_
              refine r_callV (st := []) K (k_X6_fails (c := 2) hl (by omega)) cw_X6_114 wd_1438 wd_24 (by decide) (by decide) rfl rfl rfl rfl (Nat.le_of_ble_eq_true rfl) (by decide) (by decide) dX6_claimWorst_99 ?_
              rintro _ _ _ ⟨rfl, rfl, rfl⟩
              rw [su_su]
              show WW g z 6 0 0 ad (Wz z ad σ (su τ 72 0 0 2) o) 102 [(0, .ref (ad 20 0)), (1, .int (nI k)), (2, .int (nI (wsh τ k (τ 12 0 0)))), (3, .int (nI (wgr τ k i))), (4, .int (nI (i + 1)))] [.int (nI 1)]
              refine r_if_eq K dX6_claimWorst_102 109 (1 = 0) (n0_eq (by omega)) (by decide) (fun c_102 => ?_) (fun c_102 => ?_)
              · skip
                exfalso; omega
              · skip
                refine r_iconst (v := nI 0) K dX6_claimWorst_105 (by decide) ?_
                refine r_goto K dX6_claimWorst_106 115 (by decide) ?_
                exact r_iret K (by decide) (by decide) (okM_g (c := 1) Q2 (by unfold cCW; rw [if_pos c_6]; exact (if_neg (fun q => q (by rw [jN_n (by omega)]; exact c_91))).symm)) dX6_claimWorst_115
          · skip
            refine r_aload_n K dX6_claimWorst_38 0 rfl rfl ?_
            refine r_get (v := .ref (ad 21 31)) K fd_X6_86 rfl rfl rfl dX6_claimWorst_39 ?_
            refine r_bipush (v := nI 60) K dX6_claimWorst_42 (by decide) ?_
            refine r_iload_n K dX6_claimWorst_44 1 rfl rfl ?_
            refine r_imul (v := nI (60 * k)) K dX6_claimWorst_45 (pk_mul _ _) ?_
            refine r_iload K dX6_claimWorst_46 4 rfl ?_
            refine r_iadd (v := nI ((60 * k) + (i + 1))) K dX6_claimWorst_48 (nI_add _ _) ?_
            refine r_iconst (v := nI 1) K dX6_claimWorst_49 (by decide) ?_
            refine r_isub (v := nI (((60 * k) + (i + 1)) - 1)) K dX6_claimWorst_50 (pk_sub (by omega)) ?_
            refine r_zald (j := ((60 * k) + (i + 1)) - 1) (v := nI (τ 10 k (i + 1))) K rfl rfl rfl (by omega) (by decide) (by show nI _ = nI _; rw [show (((60 * k) + (i + 1)) - 1) / 60 = k by omega, show (((60 * k) + (i + 1)) - 1) % 60 + 1 = (i + 1) by omega]; try (first | rfl | (repeat first | rw [su_s] | rw [su_n (by omega)]))) dX6_claimWorst_51 ?_
            refine r_if_eq K dX6_claimWorst_52 59 (τ 10 k (i + 1) = 0) (n0_eq (by omega)) (by decide) (fun c_52 => ?_) (fun c_52 => ?_)
            · skip
              refine r_aload_n K dX6_claimWorst_59 0 rfl rfl ?_
              refine r_iload_n K dX6_claimWorst_60 1 rfl rfl ?_
              refine r_iload K dX6_claimWorst_61 4 rfl ?_
              refine r_callV (st := []) K (k_X6_worth (k := k) (h := i + 1) hl I (by exact hk) (by first | exact hh2 | omega)) cw_X6_191 wd_1625 wd_41 (by decide) (by decide) rfl rfl rfl rfl (Nat.le_of_ble_eq_true rfl) (by decide) (by decide) dX6_claimWorst_63 ?_
              rintro _ _ _ ⟨rfl, rfl, rfl⟩
              show WW g z 6 0 0 ad (Wz z ad σ (su τ 72 0 0 0) o) 66 [(0, .ref (ad 20 0)), (1, .int (nI k)), (2, .int (nI (wsh τ k i))), (3, .int (nI (wgr τ k i))), (4, .int (nI (i + 1)))] [.int (nI (wor τ k (i + 1)))]
              refine r_eq (st' := [.int (nI (wou τ k (i + 1)))]) rfl rfl rfl (by unfold wou; rw [if_pos (by omega)]) ?_
              refine r_istore (lv' := [(5, .int (nI (wou τ k (i + 1)))), (0, .ref (ad 20 0)), (1, .int (nI k)), (2, .int (nI (wsh τ k i))), (3, .int (nI (wgr τ k i))), (4, .int (nI (i + 1)))]) K dX6_claimWorst_66 (by decide) rfl ?_
              refine r_iload K dX6_claimWorst_68 0 rfl ?_
              refine r_iload_n K dX6_claimWorst_70 4 rfl rfl ?_
              refine r_icmp_gt K dX6_claimWorst_71 77 (wgr τ k i < wou τ k (i + 1)) (nI_ltI (by omega) (by omega)) (by decide) (fun c_71 => ?_) (fun c_71 => ?_)
              · skip
                refine r_iload K dX6_claimWorst_77 0 rfl ?_
                refine r_istore_n (lv' := [(3, .int (nI (wou τ k (i + 1)))), (5, .int (nI (wou τ k (i + 1)))), (0, .ref (ad 20 0)), (1, .int (nI k)), (2, .int (nI (wsh τ k i))), (4, .int (nI (i + 1)))]) K dX6_claimWorst_79 rfl (by decide) rfl ?_
                refine r_iload K dX6_claimWorst_80 5 rfl ?_
                refine r_istore_n (lv' := [(2, .int (nI (i + 1))), (3, .int (nI (wou τ k (i + 1)))), (5, .int (nI (wou τ k (i + 1)))), (0, .ref (ad 20 0)), (1, .int (nI k)), (4, .int (nI (i + 1)))]) K dX6_claimWorst_82 rfl (by decide) rfl ?_
                refine r_eq (lv' := [(2, .int (nI (wsh τ k (i + 1)))), (3, .int (nI (wgr τ k (i + 1)))), (5, .int (nI (wou τ k (i + 1)))), (0, .ref (ad 20 0)), (1, .int (nI k)), (4, .int (nI (i + 1)))]) rfl rfl (by rw [wsh, wgr, if_pos (by omega), if_pos (by omega)]) rfl ?_
                refine r_iinc (v := nI (i + 1 + 1)) (lv' := [(4, .int (nI (i + 1 + 1))), (2, .int (nI (wsh τ k (i + 1)))), (3, .int (nI (wgr τ k (i + 1)))), (5, .int (nI (wou τ k (i + 1)))), (0, .ref (ad 20 0)), (1, .int (nI k))]) K dX6_claimWorst_83 5 rfl (ic_1 _) (by decide) rfl ?_
                refine r_goto K dX6_claimWorst_86 29 (by decide) ?_
                refine r_lv (lv' := [(0, .ref (ad 20 0)), (1, .int (nI k)), (2, .int (nI (wsh τ k (i + 1)))), (3, .int (nI (wgr τ k (i + 1)))), (4, .int (nI (i + 1 + 1)))]) [4, 5, 1, 2, 0] rfl ?_
                exact ih_lp (i + 1) (by omega) (by omega)
              · skip
                refine r_goto K dX6_claimWorst_74 83 (by decide) ?_
                refine r_eq (lv' := [(5, .int (nI (wou τ k (i + 1)))), (0, .ref (ad 20 0)), (1, .int (nI k)), (2, .int (nI (wsh τ k (i + 1)))), (3, .int (nI (wgr τ k (i + 1)))), (4, .int (nI (i + 1)))]) rfl rfl (by rw [wsh, wgr, if_neg (by omega), if_neg (by omega)]) rfl ?_
                refine r_iinc (v := nI (i + 1 + 1)) (lv' := [(4, .int (nI (i + 1 + 1))), (5, .int (nI (wou τ k (i + 1)))), (0, .ref (ad 20 0)), (1, .int (nI k)), (2, .int (nI (wsh τ k (i + 1)))), (3, .int (nI (wgr τ k (i + 1))))]) K dX6_claimWorst_83 5 rfl (ic_1 _) (by decide) rfl ?_
                refine r_goto K dX6_claimWorst_86 29 (by decide) ?_
                refine r_lv (lv' := [(0, .ref (ad 20 0)), (1, .int (nI k)), (2, .int (nI (wsh τ k (i + 1)))), (3, .int (nI (wgr τ k (i + 1)))), (4, .int (nI (i + 1 + 1)))]) [2, 3, 4, 5, 0] rfl ?_
                exact ih_lp (i + 1) (by omega) (by omega)
            · skip
              refine r_iconst (v := nI 0) K dX6_claimWorst_55 (by decide) ?_
              refine r_goto K dX6_claimWorst_56 66 (by decide) ?_
              refine r_eq (st' := [.int (nI (wou τ k (i + 1)))]) rfl rfl rfl (by unfold wou; rw [if_neg (by omega)]) ?_
              refine r_istore (lv' := [(5, .int (nI (wou τ k (i + 1)))), (0, .ref (ad 20 0)), (1, .int (nI k)), (2, .int (nI (wsh τ k i))), (3, .int (nI (wgr τ k i))), (4, .int (nI (i + 1)))]) K dX6_claimWorst_66 (by decide) rfl ?_
              refine r_iload K dX6_claimWorst_68 0 rfl ?_
              refine r_iload_n K dX6_claimWorst_70 4 rfl rfl ?_
              refine r_icmp_gt K dX6_claimWorst_71 77 (wgr τ k i < wou τ k (i + 1)) (nI_ltI (by omega) (by omega)) (by decide) (fun c_71 => ?_) (fun c_71 => ?_)
              · skip
                refine r_iload K dX6_claimWorst_77 0 rfl ?_
                refine r_istore_n (lv' := [(3, .int (nI (wou τ k (i + 1)))), (5, .int (nI (wou τ k (i + 1)))), (0, .ref (ad 20 0)), (1, .int (nI k)), (2, .int (nI (wsh τ k i))), (4, .int (nI (i + 1)))]) K dX6_claimWorst_79 rfl (by decide) rfl ?_
                refine r_iload K dX6_claimWorst_80 5 rfl ?_
                refine r_istore_n (lv' := [(2, .int (nI (i + 1))), (3, .int (nI (wou τ k (i + 1)))), (5, .int (nI (wou τ k (i + 1)))), (0, .ref (ad 20 0)), (1, .int (nI k)), (4, .int (nI (i + 1)))]) K dX6_claimWorst_82 rfl (by decide) rfl ?_
                refine r_eq (lv' := [(2, .int (nI (wsh τ k (i + 1)))), (3, .int (nI (wgr τ k (i + 1)))), (5, .int (nI (wou τ k (i + 1)))), (0, .ref (ad 20 0)), (1, .int (nI k)), (4, .int (nI (i + 1)))]) rfl rfl (by rw [wsh, wgr, if_pos (by omega), if_pos (by omega)]) rfl ?_
                refine r_iinc (v := nI (i + 1 + 1)) (lv' := [(4, .int (nI (i + 1 + 1))), (2, .int (nI (wsh τ k (i + 1)))), (3, .int (nI (wgr τ k (i + 1)))), (5, .int (nI (wou τ k (i + 1)))), (0, .ref (ad 20 0)), (1, .int (nI k))]) K dX6_claimWorst_83 5 rfl (ic_1 _) (by decide) rfl ?_
                refine r_goto K dX6_claimWorst_86 29 (by decide) ?_
                refine r_lv (lv' := [(0, .ref (ad 20 0)), (1, .int (nI k)), (2, .int (nI (wsh τ k (i + 1)))), (3, .int (nI (wgr τ k (i + 1)))), (4, .int (nI (i + 1 + 1)))]) [4, 5, 1, 2, 0] rfl ?_
                exact ih_lp (i + 1) (by omega) (by omega)
              · skip
                refine r_goto K dX6_claimWorst_74 83 (by decide) ?_
                refine r_eq (lv' := [(5, .int (nI (wou τ k (i + 1)))), (0, .ref (ad 20 0)), (1, .int (nI k)), (2, .int (nI (wsh τ k (i + 1)))), (3, .int (nI (wgr τ k (i + 1)))), (4, .int (nI (i + 1)))]) rfl rfl (by rw [wsh, wgr, if_neg (by omega), if_neg (by omega)]) rfl ?_
                refine r_iinc (v := nI (i + 1 + 1)) (lv' := [(4, .int (nI (i + 1 + 1))), (5, .int (nI (wou τ k (i + 1)))), (0, .ref (ad 20 0)), (1, .int (nI k)), (2, .int (nI (wsh τ k (i + 1)))), (3, .int (nI (wgr τ k (i + 1))))]) K dX6_claimWorst_83 5 rfl (ic_1 _) (by decide) rfl ?_
                refine r_goto K dX6_claimWorst_86 29 (by decide) ?_
                refine r_lv (lv' := [(0, .ref (ad 20 0)), (1, .int (nI k)), (2, .int (nI (wsh τ k (i + 1)))), (3, .int (nI (wgr τ k (i + 1)))), (4, .int (nI (i + 1 + 1)))]) [2, 3, 4, 5, 0] rfl ?_
                exact ih_lp (i + 1) (by omega) (by omega)
      refine r_lv (lv' := [(0, .ref (ad 20 0)), (1, .int (nI k)), (2, .int (nI 0)), (3, .int (nI 0)), (4, .int (nI 1))]) [3, 4, 2, 1, 0] rfl ?_
      exact lp (τ 12 0 0 - (0) + 1) 0 (by omega) (by omega)
    · skip
      exfalso; omega
  · skip
    refine r_iconst (v := nI 1) K dX6_claimWorst_9 (by decide) ?_
    refine r_goto K dX6_claimWorst_10 14 (by decide) ?_
    refine r_callV (st := []) K (k_X6_fails (c := 1) hl (by omega)) cw_X6_114 wd_1438 wd_24 (by decide) (by decide) rfl rfl rfl rfl (Nat.le_of_ble_eq_true rfl) (by decide) (by decide) dX6_claimWorst_14 ?_
    rintro _ _ _ ⟨rfl, rfl, rfl⟩
    show WW g z 6 0 0 ad (Wz z ad σ (su τ 72 0 0 1) o) 17 [(0, .ref (ad 20 0)), (1, .int (x))] [.int (nI 1)]
    refine r_if_eq K dX6_claimWorst_17 22 (1 = 0) (n0_eq (by omega)) (by decide) (fun c_17 => ?_) (fun c_17 => ?_)
    · skip
      exfalso; omega
    · skip
      refine r_iconst (v := nI 0) K dX6_claimWorst_20 (by decide) ?_
      exact r_iret K (by decide) (by decide) (okM_g (c := 0) Q2 (by unfold cCW; exact (if_neg c_6).symm)) dX6_claimWorst_21
set_option maxRecDepth 100000 in
set_option maxHeartbeats 4000000 in
theorem k_X6_claimCount {z : Zx} {l : Launch} {σ τ : Sg} {o : Int64 × UInt64} {ad : Nm} (hl : l.stackTraces = false) {x : Int32} (Q : IR τ) (Q2 : IMo τ) : Ko z l yX6_claimCount cX6_claimCount 4 (some .int) 7 0 0 [.ref (ad 20 0), .int (x)] ad (Wz z ad σ τ o) (okM z ad σ o Value.int (cK τ x) (nI (clm τ (jN x))) τ) exNo := by
  refine ko_of hl (by decide +kernel) (Nat.le_of_ble_eq_true rfl) (fun g hg K => ?_)
  subst hg
  have I := Q.1
  have q0 := I.1.1
  have q1 := I.1.2.1
  have q2 := I.1.2.2.1
  have q3 := I.1.2.2.2.1
  have q4 := I.1.2.2.2.2.1
  show WW g z 4 0 0 ad (Wz z ad σ τ o) 0 [(0, .ref (ad 20 0)), (1, .int (x))] []
  refine r_aload_n K dX6_claimCount_0 0 rfl rfl ?_
  refine r_aload_n K dX6_claimCount_1 0 rfl rfl ?_
  refine r_iload_n K dX6_claimCount_2 1 rfl rfl ?_
  refine r_callV (st := [.ref (ad 20 0)]) K (k_X6_isNoHouse (x := x) hl) cw_X6_185 wd_1621 wd_40 (by decide) (by decide) rfl rfl rfl rfl (Nat.le_of_ble_eq_true rfl) (by decide) (by decide) dX6_claimCount_3 ?_
  rintro _ _ _ ⟨rfl, rfl, rfl⟩
  show WW g z 4 0 0 ad (Wz z ad σ τ o) 6 [(0, .ref (ad 20 0)), (1, .int (x))] [.int (pI (¬ in0 x (τ 0 2 0))), .ref (ad 20 0)]
  refine r_if_eq K dX6_claimCount_6 13 (in0 x (τ 0 2 0)) pI_n0 (by decide) (fun c_6 => ?_) (fun c_6 => ?_)
  · skip
    obtain ⟨k, hk, rfl⟩ := (in0_iff (by omega)).mp c_6
    refine r_iconst (v := nI 0) K dX6_claimCount_13 (by decide) ?_
    refine r_callV (st := []) K (k_X6_fails (c := 0) hl (by omega)) cw_X6_114 wd_1438 wd_24 (by decide) (by decide) rfl rfl rfl rfl (Nat.le_of_ble_eq_true rfl) (by decide) (by decide) dX6_claimCount_14 ?_
    rintro _ _ _ ⟨rfl, rfl, rfl⟩
    show WW g z 4 0 0 ad (Wz z ad σ (su τ 72 0 0 0) o) 17 [(0, .ref (ad 20 0)), (1, .int (nI k))] [.int (nI 0)]
    refine r_if_eq K dX6_claimCount_17 22 (0 = 0) (n0_eq (by omega)) (by decide) (fun c_17 => ?_) (fun c_17 => ?_)
    · skip
      refine r_iconst (v := nI 0) K dX6_claimCount_22 (by decide) ?_
      refine r_istore_n (lv' := [(2, .int (nI 0)), (0, .ref (ad 20 0)), (1, .int (nI k))]) K dX6_claimCount_23 rfl (by decide) rfl ?_
      refine r_bipush (v := nI 60) K dX6_claimCount_24 (by decide) ?_
      refine r_iload_n K dX6_claimCount_26 2 rfl rfl ?_
      refine r_imul (v := nI (60 * k)) K dX6_claimCount_27 (pk_mul _ _) ?_
      refine r_istore_n (lv' := [(3, .int (nI (60 * k))), (2, .int (nI 0)), (0, .ref (ad 20 0)), (1, .int (nI k))]) K dX6_claimCount_28 rfl (by decide) rfl ?_
      have lp : ∀ (fuel : Nat) (i : Nat), 60 - i < fuel → i ≤ 60 → WW g z 4 0 0 ad (Wz z ad σ (su τ 72 0 0 0) o) 29 [(0, .ref (ad 20 0)), (1, .int (nI k)), (2, .int (nI (sumT (fun h => τ 10 k (h + 1)) i))), (3, .int (nI (60 * k + i)))] [] := by
        intro fuel
        induction fuel with
        | zero => intro i hf h1; exact absurd hf (Nat.not_lt_zero _)
        | succ fuel ih_lp =>
          intro i hf h1
          have g4 := (I.2.2.2 k hk).2 (i + 1)
          refine r_iload_n K dX6_claimCount_29 3 rfl rfl ?_
          refine r_bipush (v := nI 60) K dX6_claimCount_30 (by decide) ?_
          refine r_iload_n K dX6_claimCount_32 1 rfl rfl ?_
          refine r_imul (v := nI (60 * k)) K dX6_claimCount_33 (pk_mul _ _) ?_
          refine r_bipush (v := nI 60) K dX6_claimCount_34 (by decide) ?_
          refine r_iadd (v := nI ((60 * k) + 60)) K dX6_claimCount_36 (nI_add _ _) ?_
          refine r_icmp_ge K dX6_claimCount_37 63 ((60 * k) + 60 ≤ 60 * k + i) (nI_leI (by omega) (by omega)) (by decide) (fun c_37 => ?_) (fun c_37 => ?_)
          · skip
            refine r_iload_n K dX6_claimCount_63 2 rfl rfl ?_
            exact r_iret K (by decide) (by decide) (okM_r Q2 (Eq.symm (by unfold cK; exact if_pos c_6)) (by rw [jN_n (by omega), show i = 60 by omega]; rfl)) dX6_claimCount_64
          · skip
            refine r_iload_n K dX6_claimCount_40 2 rfl rfl ?_
            refine r_aload_n K dX6_claimCount_41 0 rfl rfl ?_
            refine r_get (v := .ref (ad 21 31)) K fd_X6_86 rfl rfl rfl dX6_claimCount_42 ?_
            refine r_iload_n K dX6_claimCount_45 3 rfl rfl ?_
            refine r_zald (j := 60 * k + i) (v := nI (τ 10 k (i + 1))) K rfl rfl rfl (by omega) (by decide) (by show nI _ = nI _; rw [show (60 * k + i) / 60 = k by omega, show (60 * k + i) % 60 + 1 = i + 1 by omega]; try (first | rfl | (repeat first | rw [su_s] | rw [su_n (by omega)]))) dX6_claimCount_46 ?_
            refine r_if_eq K dX6_claimCount_47 54 (τ 10 k (i + 1) = 0) (n0_eq (by omega)) (by decide) (fun c_47 => ?_) (fun c_47 => ?_)
            · skip
              refine r_iconst (v := nI 0) K dX6_claimCount_54 (by decide) ?_
              refine r_eq (st' := [.int (nI (τ 10 k (i + 1))), .int (nI (sumT (fun h => τ 10 k (h + 1)) i))]) rfl rfl rfl (by rw [show τ 10 k (i + 1) = 0 by omega]) ?_
              refine r_iadd (v := nI ((sumT (fun h => τ 10 k (h + 1)) i) + (τ 10 k (i + 1)))) K dX6_claimCount_55 (nI_add _ _) ?_
              refine r_istore_n (lv' := [(2, .int (nI ((sumT (fun h => τ 10 k (h + 1)) i) + (τ 10 k (i + 1))))), (0, .ref (ad 20 0)), (1, .int (nI k)), (3, .int (nI (60 * k + i)))]) K dX6_claimCount_56 rfl (by decide) rfl ?_
              refine r_iinc (v := nI (60 * k + (i + 1))) (lv' := [(3, .int (nI (60 * k + (i + 1)))), (2, .int (nI ((sumT (fun h => τ 10 k (h + 1)) i) + (τ 10 k (i + 1))))), (0, .ref (ad 20 0)), (1, .int (nI k))]) K dX6_claimCount_57 3 rfl (ic_1 _) (by decide) rfl ?_
              refine r_goto K dX6_claimCount_60 29 (by decide) ?_
              refine r_lv (lv' := [(0, .ref (ad 20 0)), (1, .int (nI k)), (2, .int (nI ((sumT (fun h => τ 10 k (h + 1)) i) + (τ 10 k (i + 1))))), (3, .int (nI (60 * k + (i + 1))))]) [2, 3, 1, 0] rfl ?_
              exact ih_lp (i + 1) (by omega) (by omega)
            · skip
              refine r_iconst (v := nI 1) K dX6_claimCount_50 (by decide) ?_
              refine r_goto K dX6_claimCount_51 55 (by decide) ?_
              refine r_eq (st' := [.int (nI (τ 10 k (i + 1))), .int (nI (sumT (fun h => τ 10 k (h + 1)) i))]) rfl rfl rfl (by rw [show τ 10 k (i + 1) = 1 by omega]) ?_
              refine r_iadd (v := nI ((sumT (fun h => τ 10 k (h + 1)) i) + (τ 10 k (i + 1)))) K dX6_claimCount_55 (nI_add _ _) ?_
              refine r_istore_n (lv' := [(2, .int (nI ((sumT (fun h => τ 10 k (h + 1)) i) + (τ 10 k (i + 1))))), (0, .ref (ad 20 0)), (1, .int (nI k)), (3, .int (nI (60 * k + i)))]) K dX6_claimCount_56 rfl (by decide) rfl ?_
              refine r_iinc (v := nI (60 * k + (i + 1))) (lv' := [(3, .int (nI (60 * k + (i + 1)))), (2, .int (nI ((sumT (fun h => τ 10 k (h + 1)) i) + (τ 10 k (i + 1))))), (0, .ref (ad 20 0)), (1, .int (nI k))]) K dX6_claimCount_57 3 rfl (ic_1 _) (by decide) rfl ?_
              refine r_goto K dX6_claimCount_60 29 (by decide) ?_
              refine r_lv (lv' := [(0, .ref (ad 20 0)), (1, .int (nI k)), (2, .int (nI ((sumT (fun h => τ 10 k (h + 1)) i) + (τ 10 k (i + 1))))), (3, .int (nI (60 * k + (i + 1))))]) [2, 3, 1, 0] rfl ?_
              exact ih_lp (i + 1) (by omega) (by omega)
      refine r_lv (lv' := [(0, .ref (ad 20 0)), (1, .int (nI k)), (2, .int (nI 0)), (3, .int (nI (60 * k)))]) [2, 3, 1, 0] rfl ?_
      exact lp (60 - (0) + 1) 0 (by omega) (by omega)
    · skip
      exfalso; omega
  · skip
    refine r_iconst (v := nI 1) K dX6_claimCount_9 (by decide) ?_
    refine r_goto K dX6_claimCount_10 14 (by decide) ?_
    refine r_callV (st := []) K (k_X6_fails (c := 1) hl (by omega)) cw_X6_114 wd_1438 wd_24 (by decide) (by decide) rfl rfl rfl rfl (Nat.le_of_ble_eq_true rfl) (by decide) (by decide) dX6_claimCount_14 ?_
    rintro _ _ _ ⟨rfl, rfl, rfl⟩
    show WW g z 4 0 0 ad (Wz z ad σ (su τ 72 0 0 1) o) 17 [(0, .ref (ad 20 0)), (1, .int (x))] [.int (nI 1)]
    refine r_if_eq K dX6_claimCount_17 22 (1 = 0) (n0_eq (by omega)) (by decide) (fun c_17 => ?_) (fun c_17 => ?_)
    · skip
      exfalso; omega
    · skip
      refine r_iconst (v := nI 0) K dX6_claimCount_20 (by decide) ?_
      exact r_iret K (by decide) (by decide) (okM_f (c := 0) Q2 (by unfold cK; exact (if_neg c_6).symm)) dX6_claimCount_21
