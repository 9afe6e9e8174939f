set_option maxRecDepth 100000 in
set_option maxHeartbeats 4000000 in
theorem k_X6_floodedWith {z : Zx} {l : Launch} {σ τ : Sg} {o : Int64 × UInt64} {ad : Nm} (hl : l.stackTraces = false) (Q : IR τ) (Q2 : IMo τ) : Ko z l yX6_floodedWith cX6_floodedWith 1 (some .int) 7 0 0 [.ref (ad 20 0)] ad (Wz z ad σ τ o) (okM z ad σ o Value.int 0 (nI (trW τ 0 0 (τ 12 0 0))) τ) exNo := by
  refine ko_of hl (by decide +kernel) (Nat.le_of_ble_eq_true rfl) (fun g hg K => ?_)
  subst hg
  have I := Q.1
  have q0 := I.1.1
  have q1 := I.1.2.1
  have q2 := I.1.2.2.1
  have q3 := I.1.2.2.2.1
  have q4 := I.1.2.2.2.2.1
  show WW g z 1 0 0 ad (Wz z ad σ τ o) 0 [(0, .ref (ad 20 0))] []
  refine r_aload_n K dX6_floodedWith_0 0 rfl rfl ?_
  refine r_aload_n K dX6_floodedWith_1 0 rfl rfl ?_
  refine r_iconst (v := bw 0) K dX6_floodedWith_2 (by decide) ?_
  refine r_iconst (v := nI 0) K dX6_floodedWith_3 (by decide) ?_
  refine r_callV (st := [.ref (ad 20 0)]) K (k_X6_trial (τ := τ) (fx := 0) (fo := 0) hl I (by omega) (by omega) Q2.2.2) cw_X6_204 wd_1669 wd_44 (by decide) (by decide) rfl rfl rfl rfl (Nat.le_of_ble_eq_true rfl) (by decide) (by decide) dX6_floodedWith_4 ?_
  rintro _ _ _ ⟨rfl, rfl, V, S, O, rfl, hz⟩
  obtain ⟨τ1, e1, t1⟩ : ∃ τ1, su (msw (su (su τ 73 0 0 0) 74 0 0 0) 2 V S O) 73 0 0 0 = τ1 ∧ mTr τ τ1 := ⟨_, rfl, mTr_of (τ := τ) Q2 (by omega) hz⟩
  rw [e1]
  show WW g z 1 0 0 ad (Wz z ad σ τ1 o) 7 [(0, .ref (ad 20 0))] [.int (nI (trW τ 0 0 (τ 12 0 0))), .ref (ad 20 0)]
  refine r_callV (st := []) K (k_X6_tells (x := nI (trW τ 0 0 (τ 12 0 0))) hl) cw_X6_123 wd_1450 wd_25 (by decide) (by decide) rfl rfl rfl rfl (Nat.le_of_ble_eq_true rfl) (by decide) (by decide) dX6_floodedWith_7 ?_
  rintro _ _ _ ⟨rfl, rfl, rfl⟩
  show WW g z 1 0 0 ad (Wz z ad σ (su τ1 72 0 0 0) o) 10 [(0, .ref (ad 20 0))] [.int (nI (trW τ 0 0 (τ 12 0 0)))]
  exact r_iret K (by decide) (by decide) (okM_t rfl rfl (t1.1.sx (by decide)) t1.2.1.s72 rfl) dX6_floodedWith_10
set_option maxRecDepth 100000 in
set_option maxHeartbeats 4000000 in
theorem k_X6_floodedWithOpening {z : Zx} {l : Launch} {σ τ : Sg} {o : Int64 × UInt64} {ad : Nm} (hl : l.stackTraces = false) {x y : Int32} (Q : IR τ) (Q2 : IMo τ) : Ko z l yX6_floodedWithOpening cX6_floodedWithOpening 3 (some .int) 7 0 0 [.ref (ad 20 0), .int (x), .int (y)] ad (Wz z ad σ τ o) (okM z ad σ o Value.int (cBx τ 10 x y) (nI (trW τ (jN x + 1) (jN y) (τ 12 0 0))) τ) exNo := by
  refine ko_of hl (by decide +kernel) (Nat.le_of_ble_eq_true rfl) (fun g hg K => ?_)
  subst hg
  have I := Q.1
  have q0 := I.1.1
  have q1 := I.1.2.1
  have q2 := I.1.2.2.1
  have q3 := I.1.2.2.2.1
  have q4 := I.1.2.2.2.2.1
  show WW g z 3 0 0 ad (Wz z ad σ τ o) 0 [(0, .ref (ad 20 0)), (1, .int (x)), (2, .int (y))] []
  refine r_aload_n K dX6_floodedWithOpening_0 0 rfl rfl ?_
  refine r_aload_n K dX6_floodedWithOpening_1 0 rfl rfl ?_
  refine r_iload_n K dX6_floodedWithOpening_2 1 rfl rfl ?_
  refine r_callV (st := [.ref (ad 20 0)]) K (k_X6_isNone (x := x) hl) cw_X6_107 wd_1431 wd_23 (by decide) (by decide) rfl rfl rfl rfl (Nat.le_of_ble_eq_true rfl) (by decide) (by decide) dX6_floodedWithOpening_3 ?_
  rintro _ _ _ ⟨rfl, rfl, rfl⟩
  show WW g z 3 0 0 ad (Wz z ad σ τ o) 6 [(0, .ref (ad 20 0)), (1, .int (x)), (2, .int (y))] [.int (pI (¬ in0 x (τ 0 0 0))), .ref (ad 20 0)]
  refine r_if_eq K dX6_floodedWithOpening_6 13 (in0 x (τ 0 0 0)) pI_n0 (by decide) (fun c_6 => ?_) (fun c_6 => ?_)
  · skip
    obtain ⟨b, hb, rfl⟩ := (in0_iff (by omega)).mp c_6
    refine r_iload_n K dX6_floodedWithOpening_13 2 rfl rfl ?_
    refine r_iconst (v := nI 0) K dX6_floodedWithOpening_14 (by decide) ?_
    refine r_bipush (v := nI 10) K dX6_floodedWithOpening_15 (by decide) ?_
    refine r_callS (st := [.ref (ad 20 0)]) K (k_X6_in (x := y) (a := nI 0) (b := nI 10) hl) cw_X6_103 wd_1434 (by decide) (by decide) rfl (Nat.le_of_ble_eq_true rfl) (by decide) (by decide) dX6_floodedWithOpening_17 ?_
    rintro _ _ _ ⟨rfl, rfl, rfl⟩
    show WW g z 3 0 0 ad (Wz z ad σ τ o) 20 [(0, .ref (ad 20 0)), (1, .int (nI b)), (2, .int (y))] [.int (pI (inR y 0 10)), .ref (ad 20 0)]
    refine r_if_eq K dX6_floodedWithOpening_20 27 (¬ (inR y 0 10)) pI_eq0 (by decide) (fun c_20 => ?_) (fun c_20 => ?_)
    · skip
      refine r_iconst (v := nI 2) K dX6_floodedWithOpening_27 (by decide) ?_
      refine r_callV (st := []) K (k_X6_fails (c := 2) hl (by omega)) cw_X6_114 wd_1438 wd_24 (by decide) (by decide) rfl rfl rfl rfl (Nat.le_of_ble_eq_true rfl) (by decide) (by decide) dX6_floodedWithOpening_28 ?_
      rintro _ _ _ ⟨rfl, rfl, rfl⟩
      show WW g z 3 0 0 ad (Wz z ad σ (su τ 72 0 0 2) o) 31 [(0, .ref (ad 20 0)), (1, .int (nI b)), (2, .int (y))] [.int (nI 1)]
      refine r_if_eq K dX6_floodedWithOpening_31 38 (1 = 0) (n0_eq (by omega)) (by decide) (fun c_31 => ?_) (fun c_31 => ?_)
      · skip
        exfalso; omega
      · skip
        refine r_iconst (v := nI 0) K dX6_floodedWithOpening_34 (by decide) ?_
        refine r_goto K dX6_floodedWithOpening_35 44 (by decide) ?_
        exact r_iret K (by decide) (by decide) (okM_f (c := 1) Q2 (by unfold cBx; rw [if_pos c_6]; exact (if_neg c_20).symm)) dX6_floodedWithOpening_44
    · skip
      have q_20 := Decidable.not_not.mp c_20
      obtain ⟨p, hp, rfl⟩ := (inR_iff (by decide) (by decide)).mp q_20
      refine r_iconst (v := nI 0) K dX6_floodedWithOpening_23 (by decide) ?_
      refine r_goto K dX6_floodedWithOpening_24 28 (by decide) ?_
      refine r_callV (st := []) K (k_X6_fails (c := 0) hl (by omega)) cw_X6_114 wd_1438 wd_24 (by decide) (by decide) rfl rfl rfl rfl (Nat.le_of_ble_eq_true rfl) (by decide) (by decide) dX6_floodedWithOpening_28 ?_
      rintro _ _ _ ⟨rfl, rfl, rfl⟩
      show WW g z 3 0 0 ad (Wz z ad σ (su τ 72 0 0 0) o) 31 [(0, .ref (ad 20 0)), (1, .int (nI b)), (2, .int (nI p))] [.int (nI 0)]
      refine r_if_eq K dX6_floodedWithOpening_31 38 (0 = 0) (n0_eq (by omega)) (by decide) (fun c_31 => ?_) (fun c_31 => ?_)
      · skip
        refine r_eq (lv' := [(0, .ref (ad 20 0)), (1, .int (bw (b + 1))), (2, .int (nI p))]) rfl rfl (by rw [bw_nI (Nat.succ_pos b)]; rfl) rfl ?_
        refine r_aload_n K dX6_floodedWithOpening_38 0 rfl rfl ?_
        refine r_iload_n K dX6_floodedWithOpening_39 1 rfl rfl ?_
        refine r_iload_n K dX6_floodedWithOpening_40 2 rfl rfl ?_
        refine r_callV (st := []) K (k_X6_trial (τ := (su τ 72 0 0 0)) (fx := (b + 1)) (fo := p) hl I (by omega) (by omega) Q2.2.2) cw_X6_204 wd_1669 wd_44 (by decide) (by decide) rfl rfl rfl rfl (Nat.le_of_ble_eq_true rfl) (by decide) (by decide) dX6_floodedWithOpening_41 ?_
        rintro _ _ _ ⟨rfl, rfl, V, S, O, rfl, hz⟩
        obtain ⟨τ1, e1, t1⟩ : ∃ τ1, su (msw (su (su (su τ 72 0 0 0) 73 0 0 (b + 1)) 74 0 0 p) 2 V S O) 73 0 0 0 = τ1 ∧ mTr (su τ 72 0 0 0) τ1 := ⟨_, rfl, mTr_of (τ := (su τ 72 0 0 0)) Q2 (by omega) hz⟩
        rw [e1, trW_72]
        show WW g z 3 0 0 ad (Wz z ad σ τ1 o) 44 [(0, .ref (ad 20 0)), (1, .int (bw (b + 1))), (2, .int (nI p))] [.int (nI (trW τ (b + 1) p (τ 12 0 0)))]
        exact r_iret K (by decide) (by decide) (okM_t (by unfold cBx; rw [if_pos c_6]; exact if_pos q_20) (by rw [jN_n (by omega), jN_n (by omega)]) (t1.1.tr (agr.rf.sx (by decide))) t1.2.1 t1.2.2) dX6_floodedWithOpening_44
      · skip
        exfalso; omega
  · skip
    refine r_iconst (v := nI 1) K dX6_floodedWithOpening_9 (by decide) ?_
    refine r_goto K dX6_floodedWithOpening_10 28 (by decide) ?_
    refine r_callV (st := []) K (k_X6_fails (c := 1) hl (by omega)) cw_X6_114 wd_1438 wd_24 (by decide) (by decide) rfl rfl rfl rfl (Nat.le_of_ble_eq_true rfl) (by decide) (by decide) dX6_floodedWithOpening_28 ?_
    rintro _ _ _ ⟨rfl, rfl, rfl⟩
    show WW g z 3 0 0 ad (Wz z ad σ (su τ 72 0 0 1) o) 31 [(0, .ref (ad 20 0)), (1, .int (x)), (2, .int (y))] [.int (nI 1)]
    refine r_if_eq K dX6_floodedWithOpening_31 38 (1 = 0) (n0_eq (by omega)) (by decide) (fun c_31 => ?_) (fun c_31 => ?_)
    · skip
      exfalso; omega
    · skip
      refine r_iconst (v := nI 0) K dX6_floodedWithOpening_34 (by decide) ?_
      refine r_goto K dX6_floodedWithOpening_35 44 (by decide) ?_
      exact r_iret K (by decide) (by decide) (okM_f (c := 0) Q2 (by unfold cBx; exact (if_neg c_6).symm)) dX6_floodedWithOpening_44
set_option maxRecDepth 100000 in
set_option maxHeartbeats 4000000 in
theorem k_X6_bestOpening {z : Zx} {l : Launch} {σ τ : Sg} {o : Int64 × UInt64} {ad : Nm} (hl : l.stackTraces = false) {x : Int32} (Q : IR τ) (Q2 : IMo τ) : Ko z l yX6_bestOpening cX6_bestOpening 6 (some .int) 7 0 0 [.ref (ad 20 0), .int (x)] ad (Wz z ad σ τ o) (okM z ad σ o Value.int (cB τ x) (nI ((bsp τ (jN x) 10).1)) τ) exNo := by
  refine ko_of hl (by decide +kernel) (Nat.le_of_ble_eq_true rfl) (fun g hg K => ?_)
  subst hg
  have I := Q.1
  have q0 := I.1.1
  have q1 := I.1.2.1
  have q2 := I.1.2.2.1
  have q3 := I.1.2.2.2.1
  have q4 := I.1.2.2.2.2.1
  show WW g z 6 0 0 ad (Wz z ad σ τ o) 0 [(0, .ref (ad 20 0)), (1, .int (x))] []
  refine r_aload_n K dX6_bestOpening_0 0 rfl rfl ?_
  refine r_aload_n K dX6_bestOpening_1 0 rfl rfl ?_
  refine r_iload_n K dX6_bestOpening_2 1 rfl rfl ?_
  refine r_callV (st := [.ref (ad 20 0)]) K (k_X6_isNone (x := x) hl) cw_X6_107 wd_1431 wd_23 (by decide) (by decide) rfl rfl rfl rfl (Nat.le_of_ble_eq_true rfl) (by decide) (by decide) dX6_bestOpening_3 ?_
  rintro _ _ _ ⟨rfl, rfl, rfl⟩
  show WW g z 6 0 0 ad (Wz z ad σ τ o) 6 [(0, .ref (ad 20 0)), (1, .int (x))] [.int (pI (¬ in0 x (τ 0 0 0))), .ref (ad 20 0)]
  refine r_if_eq K dX6_bestOpening_6 13 (in0 x (τ 0 0 0)) pI_n0 (by decide) (fun c_6 => ?_) (fun c_6 => ?_)
  · skip
    obtain ⟨b, hb, rfl⟩ := (in0_iff (by omega)).mp c_6
    refine r_iconst (v := nI 0) K dX6_bestOpening_13 (by decide) ?_
    refine r_callV (st := []) K (k_X6_fails (c := 0) hl (by omega)) cw_X6_114 wd_1438 wd_24 (by decide) (by decide) rfl rfl rfl rfl (Nat.le_of_ble_eq_true rfl) (by decide) (by decide) dX6_bestOpening_14 ?_
    rintro _ _ _ ⟨rfl, rfl, rfl⟩
    show WW g z 6 0 0 ad (Wz z ad σ (su τ 72 0 0 0) o) 17 [(0, .ref (ad 20 0)), (1, .int (nI b))] [.int (nI 0)]
    refine r_if_eq K dX6_bestOpening_17 22 (0 = 0) (n0_eq (by omega)) (by decide) (fun c_17 => ?_) (fun c_17 => ?_)
    · skip
      refine r_eq (lv' := [(0, .ref (ad 20 0)), (1, .int (bw (b + 1)))]) rfl rfl (by rw [bw_nI (Nat.succ_pos b)]; rfl) rfl ?_
      refine r_iconst (v := nI 0) K dX6_bestOpening_22 (by decide) ?_
      refine r_istore_n (lv' := [(2, .int (nI 0)), (0, .ref (ad 20 0)), (1, .int (bw (b + 1)))]) K dX6_bestOpening_23 rfl (by decide) rfl ?_
      refine r_aload_n K dX6_bestOpening_24 1 rfl rfl ?_
      refine r_iload_n K dX6_bestOpening_25 2 rfl rfl ?_
      refine r_iconst (v := nI 0) K dX6_bestOpening_26 (by decide) ?_
      refine r_callV (st := []) K (k_X6_trial (τ := (su τ 72 0 0 0)) (fx := (b + 1)) (fo := 0) hl I (by omega) (by omega) Q2.2.2) cw_X6_204 wd_1669 wd_44 (by decide) (by decide) rfl rfl rfl rfl (Nat.le_of_ble_eq_true rfl) (by decide) (by decide) dX6_bestOpening_27 ?_
      rintro _ _ _ ⟨rfl, rfl, V, S, O, rfl, hz⟩
      obtain ⟨τ1, e1, t1⟩ : ∃ τ1, su (msw (su (su (su τ 72 0 0 0) 73 0 0 (b + 1)) 74 0 0 0) 2 V S O) 73 0 0 0 = τ1 ∧ mTr (su τ 72 0 0 0) τ1 := ⟨_, rfl, mTr_of (τ := (su τ 72 0 0 0)) Q2 (by omega) hz⟩
      rw [e1, trW_72]
      show WW g z 6 0 0 ad (Wz z ad σ τ1 o) 30 [(2, .int (nI 0)), (0, .ref (ad 20 0)), (1, .int (bw (b + 1)))] [.int (nI (trW τ (b + 1) 0 (τ 12 0 0)))]
      refine r_istore_n (lv' := [(3, .int (nI (trW τ (b + 1) 0 (τ 12 0 0)))), (2, .int (nI 0)), (0, .ref (ad 20 0)), (1, .int (bw (b + 1)))]) K dX6_bestOpening_30 rfl (by decide) rfl ?_
      refine r_iconst (v := nI 1) K dX6_bestOpening_31 (by decide) ?_
      refine r_istore (lv' := [(4, .int (nI 1)), (3, .int (nI (trW τ (b + 1) 0 (τ 12 0 0)))), (2, .int (nI 0)), (0, .ref (ad 20 0)), (1, .int (bw (b + 1)))]) K dX6_bestOpening_32 (by decide) rfl ?_
      have lp : ∀ (fuel : Nat) (i : Nat) (τ1 : Sg), 10 - i < fuel → i ≤ 10 → mTr (su τ 72 0 0 0) τ1 → WW g z 6 0 0 ad (Wz z ad σ τ1 o) 34 [(0, .ref (ad 20 0)), (1, .int (bw (b + 1))), (2, .int (nI ((bsp τ b i).1))), (3, .int (nI ((bsp τ b i).2))), (4, .int (nI (i + 1)))] [] := by
        intro fuel
        induction fuel with
        | zero => intro i τ1 hf h1 h2; exact absurd hf (Nat.not_lt_zero _)
        | succ fuel ih_lp =>
          intro i τ1 hf h1 h2
          have g1 := bsp_le I b i
          refine r_iload K dX6_bestOpening_34 4 rfl ?_
          refine r_bipush (v := nI 11) K dX6_bestOpening_36 (by decide) ?_
          refine r_icmp_ge K dX6_bestOpening_38 71 (11 ≤ i + 1) (nI_leI (by omega) (by omega)) (by decide) (fun c_38 => ?_) (fun c_38 => ?_)
          · skip
            refine r_iload_n K dX6_bestOpening_71 2 rfl rfl ?_
            exact r_iret K (by decide) (by decide) (okM_t (by unfold cB; exact if_pos c_6) (by rw [jN_n (by omega), show i = 10 by omega]) (h2.1.tr (agr.rf.sx (by decide))) h2.2.1 h2.2.2) dX6_bestOpening_72
          · skip
            refine r_aload_n K dX6_bestOpening_41 0 rfl rfl ?_
            refine r_iload_n K dX6_bestOpening_42 1 rfl rfl ?_
            refine r_iload K dX6_bestOpening_43 4 rfl ?_
            refine r_callV (st := []) K (k_X6_trial (τ := τ1) (fx := (b + 1)) (fo := i + 1) hl (Q.agr (h2.1.tr (agr.rf.sx (by decide)))).1 (by omega) (by omega) h2.2.1.2.2) cw_X6_204 wd_1669 wd_44 (by decide) (by decide) rfl rfl rfl rfl (Nat.le_of_ble_eq_true rfl) (by decide) (by decide) dX6_bestOpening_45 ?_
            rintro _ _ _ ⟨rfl, rfl, V, S, O, rfl, hz⟩
            obtain ⟨τ2, e2, t2⟩ : ∃ τ2, su (msw (su (su τ1 73 0 0 (b + 1)) 74 0 0 (i + 1)) 2 V S O) 73 0 0 0 = τ2 ∧ mTr τ1 τ2 := ⟨_, rfl, mTr_of h2.2.1 (by omega) hz⟩
            rw [e2, h2.tr, trW_72, h2.n.1]
            have g2 := trW_le (fx := (b + 1)) (fo := i + 1) I (τ 12 0 0)
            have t3 := h2.go t2
            show WW g z 6 0 0 ad (Wz z ad σ τ2 o) 48 [(0, .ref (ad 20 0)), (1, .int (bw (b + 1))), (2, .int (nI ((bsp τ b i).1))), (3, .int (nI ((bsp τ b i).2))), (4, .int (nI (i + 1)))] [.int (nI (trW τ (b + 1) (i + 1) (τ 12 0 0)))]
            refine r_istore (lv' := [(5, .int (nI (trW τ (b + 1) (i + 1) (τ 12 0 0)))), (0, .ref (ad 20 0)), (1, .int (bw (b + 1))), (2, .int (nI ((bsp τ b i).1))), (3, .int (nI ((bsp τ b i).2))), (4, .int (nI (i + 1)))]) K dX6_bestOpening_48 (by decide) rfl ?_
            refine r_iload K dX6_bestOpening_50 0 rfl ?_
            refine r_iload_n K dX6_bestOpening_52 4 rfl rfl ?_
            refine r_icmp_lt K dX6_bestOpening_53 59 (trW τ (b + 1) (i + 1) (τ 12 0 0) < (bsp τ b i).2) (nI_ltI (by omega) (by omega)) (by decide) (fun c_53 => ?_) (fun c_53 => ?_)
            · skip
              refine r_iload K dX6_bestOpening_59 0 rfl ?_
              refine r_istore_n (lv' := [(3, .int (nI (trW τ (b + 1) (i + 1) (τ 12 0 0)))), (5, .int (nI (trW τ (b + 1) (i + 1) (τ 12 0 0)))), (0, .ref (ad 20 0)), (1, .int (bw (b + 1))), (2, .int (nI ((bsp τ b i).1))), (4, .int (nI (i + 1)))]) K dX6_bestOpening_61 rfl (by decide) rfl ?_
              refine r_iload K dX6_bestOpening_62 5 rfl ?_
              refine r_istore_n (lv' := [(2, .int (nI (i + 1))), (3, .int (nI (trW τ (b + 1) (i + 1) (τ 12 0 0)))), (5, .int (nI (trW τ (b + 1) (i + 1) (τ 12 0 0)))), (0, .ref (ad 20 0)), (1, .int (bw (b + 1))), (4, .int (nI (i + 1)))]) K dX6_bestOpening_64 rfl (by decide) rfl ?_
              refine r_eq (lv' := [(2, .int (nI ((bsp τ b (i + 1)).1))), (3, .int (nI ((bsp τ b (i + 1)).2))), (5, .int (nI (trW τ (b + 1) (i + 1) (τ 12 0 0)))), (0, .ref (ad 20 0)), (1, .int (bw (b + 1))), (4, .int (nI (i + 1)))]) rfl rfl (by rw [bsp, if_pos (by omega)]) rfl ?_
              refine r_iinc (v := nI (i + 1 + 1)) (lv' := [(4, .int (nI (i + 1 + 1))), (2, .int (nI ((bsp τ b (i + 1)).1))), (3, .int (nI ((bsp τ b (i + 1)).2))), (5, .int (nI (trW τ (b + 1) (i + 1) (τ 12 0 0)))), (0, .ref (ad 20 0)), (1, .int (bw (b + 1)))]) K dX6_bestOpening_65 5 rfl (ic_1 _) (by decide) rfl ?_
              refine r_goto K dX6_bestOpening_68 34 (by decide) ?_
              refine r_lv (lv' := [(0, .ref (ad 20 0)), (1, .int (bw (b + 1))), (2, .int (nI ((bsp τ b (i + 1)).1))), (3, .int (nI ((bsp τ b (i + 1)).2))), (4, .int (nI (i + 1 + 1)))]) [4, 5, 1, 2, 0] rfl ?_
              exact ih_lp (i + 1) τ2 (by omega) (by omega) (by exact t3)
            · skip
              refine r_goto K dX6_bestOpening_56 65 (by decide) ?_
              refine r_eq (lv' := [(5, .int (nI (trW τ (b + 1) (i + 1) (τ 12 0 0)))), (0, .ref (ad 20 0)), (1, .int (bw (b + 1))), (2, .int (nI ((bsp τ b (i + 1)).1))), (3, .int (nI ((bsp τ b (i + 1)).2))), (4, .int (nI (i + 1)))]) rfl rfl (by rw [bsp, if_neg (by omega)]) rfl ?_
              refine r_iinc (v := nI (i + 1 + 1)) (lv' := [(4, .int (nI (i + 1 + 1))), (5, .int (nI (trW τ (b + 1) (i + 1) (τ 12 0 0)))), (0, .ref (ad 20 0)), (1, .int (bw (b + 1))), (2, .int (nI ((bsp τ b (i + 1)).1))), (3, .int (nI ((bsp τ b (i + 1)).2)))]) K dX6_bestOpening_65 5 rfl (ic_1 _) (by decide) rfl ?_
              refine r_goto K dX6_bestOpening_68 34 (by decide) ?_
              refine r_lv (lv' := [(0, .ref (ad 20 0)), (1, .int (bw (b + 1))), (2, .int (nI ((bsp τ b (i + 1)).1))), (3, .int (nI ((bsp τ b (i + 1)).2))), (4, .int (nI (i + 1 + 1)))]) [2, 3, 4, 5, 0] rfl ?_
              exact ih_lp (i + 1) τ2 (by omega) (by omega) (by exact t3)
      refine r_lv (lv' := [(0, .ref (ad 20 0)), (1, .int (bw (b + 1))), (2, .int (nI 0)), (3, .int (nI (trW τ (b + 1) 0 (τ 12 0 0)))), (4, .int (nI 1))]) [3, 4, 2, 1, 0] rfl ?_
      exact lp (10 - (0) + 1) 0 τ1 (by omega) (by omega) (by exact t1)
    · skip
      exfalso; omega
  · skip
    refine r_iconst (v := nI 1) K dX6_bestOpening_9 (by decide) ?_
    refine r_goto K dX6_bestOpening_10 14 (by decide) ?_
    refine r_callV (st := []) K (k_X6_fails (c := 1) hl (by omega)) cw_X6_114 wd_1438 wd_24 (by decide) (by decide) rfl rfl rfl rfl (Nat.le_of_ble_eq_true rfl) (by decide) (by decide) dX6_bestOpening_14 ?_
    rintro _ _ _ ⟨rfl, rfl, rfl⟩
    show WW g z 6 0 0 ad (Wz z ad σ (su τ 72 0 0 1) o) 17 [(0, .ref (ad 20 0)), (1, .int (x))] [.int (nI 1)]
    refine r_if_eq K dX6_bestOpening_17 22 (1 = 0) (n0_eq (by omega)) (by decide) (fun c_17 => ?_) (fun c_17 => ?_)
    · skip
      exfalso; omega
    · skip
      refine r_iconst (v := nI 0) K dX6_bestOpening_20 (by decide) ?_
      exact r_iret K (by decide) (by decide) (okM_f (c := 0) Q2 (by unfold cB; exact (if_neg c_6).symm)) dX6_bestOpening_21
