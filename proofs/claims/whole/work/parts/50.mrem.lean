set_option maxRecDepth 100000 in
set_option maxHeartbeats 4000000 in
theorem k_X6_removeRule {z : Zx} {l : Launch} {σ τ : Sg} {o : Int64 × UInt64} {ad : Nm} (hl : l.stackTraces = false) {x : Int32} (Q : IR τ) (Q2 : IMo τ) : Ko z l yX6_removeRule cX6_removeRule 3 (some .int) 7 0 0 [.ref (ad 20 0), .int (x)] ad (Wz z ad σ τ o) (okM z ad σ o Value.int (cR τ x) (nI (τ 0 1 0 - 1)) (if (cR τ x) = 0 then (fRem τ x) else τ)) exNo := by
  refine ko_of hl (by decide +kernel) (Nat.le_of_ble_eq_true rfl) (fun g hg K => ?_)
  subst hg
  have I := Q.1
  have q0 := I.1.1
  have q1 := I.1.2.1
  have q2 := I.1.2.2.1
  have q3 := I.1.2.2.2.1
  have q4 := I.1.2.2.2.2.1
  show WW g z 3 0 0 ad (Wz z ad σ τ o) 0 [(0, .ref (ad 20 0)), (1, .int (x))] []
  refine r_aload_n K dX6_removeRule_0 0 rfl rfl ?_
  refine r_iload_n K dX6_removeRule_1 1 rfl rfl ?_
  refine r_callV (st := []) K (k_X6_isNoRule (x := x) hl) cw_X6_130 wd_1478 wd_27 (by decide) (by decide) rfl rfl rfl rfl (Nat.le_of_ble_eq_true rfl) (by decide) (by decide) dX6_removeRule_2 ?_
  rintro _ _ _ ⟨rfl, rfl, rfl⟩
  show WW g z 3 0 0 ad (Wz z ad σ (su τ 72 0 0 (cR τ x)) o) 5 [(0, .ref (ad 20 0)), (1, .int (x))] [.int (pI (¬ in0 x (τ 0 1 0)))]
  refine r_if_eq K dX6_removeRule_5 10 (in0 x (τ 0 1 0)) pI_n0 (by decide) (fun c_5 => ?_) (fun c_5 => ?_)
  · skip
    obtain ⟨r, hr, rfl⟩ := (in0_iff (by omega)).mp c_5
    refine r_aload_n K dX6_removeRule_10 0 rfl rfl ?_
    refine r_dup K dX6_removeRule_11 rfl ?_
    refine r_get (v := .int (nI (τ 0 1 0))) K fd_X6_111 rfl rfl rfl dX6_removeRule_12 ?_
    refine r_iconst (v := nI 1) K dX6_removeRule_15 (by decide) ?_
    refine r_isub (v := nI ((τ 0 1 0) - 1)) K dX6_removeRule_16 (pk_sub (by omega)) ?_
    refine r_put K fd_X6_111 rfl rfl rfl rfl (Nat.le_of_ble_eq_true rfl) rfl dX6_removeRule_17 ?_
    refine r_mu (u_20_14) ?_
    show WW g z 3 0 0 ad (Wz z ad σ (su (su τ 72 0 0 (cR τ (nI r))) 0 1 0 ((τ 0 1 0) - 1)) o) 20 [(0, .ref (ad 20 0)), (1, .int (nI r))] []
    refine r_iload_n K dX6_removeRule_20 1 rfl rfl ?_
    refine r_istore_n (lv' := [(2, .int (nI r)), (0, .ref (ad 20 0)), (1, .int (nI r))]) K dX6_removeRule_21 rfl (by decide) rfl ?_
    refine r_mu (μ' := Wz z ad σ (rms (su (su τ 72 0 0 (cR τ (nI r))) 0 1 0 (τ 0 1 0 - 1)) r r) o) (by rw [rms_0]) ?_
    have lp : ∀ (fuel : Nat) (k : Nat), τ 0 1 0 - 1 - k < fuel → r ≤ k → k ≤ τ 0 1 0 - 1 → WW g z 3 0 0 ad (Wz z ad σ (rms (su (su τ 72 0 0 (cR τ (nI r))) 0 1 0 (τ 0 1 0 - 1)) r k) o) 22 [(0, .ref (ad 20 0)), (1, .int (nI r)), (2, .int (nI k))] [] := by
      intro fuel
      induction fuel with
      | zero => intro k hf h1 h2; exact absurd hf (Nat.not_lt_zero _)
      | succ fuel ih_lp =>
        intro k hf h1 h2
        refine r_iload_n K dX6_removeRule_22 2 rfl rfl ?_
        refine r_aload_n K dX6_removeRule_23 0 rfl rfl ?_
        refine r_get (v := .int (nI (τ 0 1 0 - 1))) K fd_X6_111 rfl rfl rfl dX6_removeRule_24 ?_
        refine r_icmp_ge K dX6_removeRule_27 106 (τ 0 1 0 - 1 ≤ k) (nI_leI (by omega) (by omega)) (by decide) (fun c_27 => ?_) (fun c_27 => ?_)
        · skip
          refine r_aload_n K dX6_removeRule_106 0 rfl rfl ?_
          refine r_get (v := .int (nI (τ 0 1 0 - 1))) K fd_X6_111 rfl rfl rfl dX6_removeRule_107 ?_
          exact r_iret K (by decide) (by decide) (okM_w (if_pos c_5) rfl (by rw [show k = τ 0 1 0 - 1 by omega]; unfold fRem; rw [jN_n (by omega)]; exact agr.rms (agr.rf.sx (by decide)).put) Q2 (if_pos c_5)) dX6_removeRule_110
        · skip
          obtain ⟨p1, p2, p3, p4, p5⟩ := I.2.2.1 (k + 1) (by omega)
          have gz : (rms (su (su τ 72 0 0 (cR τ (nI r))) 0 1 0 (τ 0 1 0 - 1)) r k) 8 (k + 1) 2 ≤ 1 := by rw [rms_hi (Nat.le_succ k)]; exact p3
          refine r_aload_n K dX6_removeRule_30 0 rfl rfl ?_
          refine r_get (v := .ref (ad 21 15)) K fd_X6_49 rfl rfl rfl dX6_removeRule_31 ?_
          refine r_iload_n K dX6_removeRule_34 2 rfl rfl ?_
          refine r_aload_n K dX6_removeRule_35 0 rfl rfl ?_
          refine r_get (v := .ref (ad 21 15)) K fd_X6_49 rfl rfl rfl dX6_removeRule_36 ?_
          refine r_iload_n K dX6_removeRule_39 2 rfl rfl ?_
          refine r_iconst (v := nI 1) K dX6_removeRule_40 (by decide) ?_
          refine r_iadd (v := nI (k + 1)) K dX6_removeRule_41 (nI_add _ _) ?_
          refine r_iald (j := k + 1) (v := nI ((rms (su (su τ 72 0 0 (cR τ (nI r))) 0 1 0 (τ 0 1 0 - 1)) r k) 8 (k + 1) 0)) K rfl rfl rfl (by omega) (by decide) rfl dX6_removeRule_42 ?_
          refine r_iast (j := k) K rfl rfl rfl (by omega) (by decide) rfl dX6_removeRule_43 ?_
          refine r_mu u_21_15 ?_
          show WW g z 3 0 0 ad (Wz z ad σ (su (rms (su (su τ 72 0 0 (cR τ (nI r))) 0 1 0 (τ 0 1 0 - 1)) r k) 8 k 0 ((rms (su (su τ 72 0 0 (cR τ (nI r))) 0 1 0 (τ 0 1 0 - 1)) r k) 8 (k + 1) 0)) o) 44 [(0, .ref (ad 20 0)), (1, .int (nI r)), (2, .int (nI k))] []
          refine r_aload_n K dX6_removeRule_44 0 rfl rfl ?_
          refine r_get (v := .ref (ad 21 16)) K fd_X6_52 rfl rfl rfl dX6_removeRule_45 ?_
          refine r_iload_n K dX6_removeRule_48 2 rfl rfl ?_
          refine r_aload_n K dX6_removeRule_49 0 rfl rfl ?_
          refine r_get (v := .ref (ad 21 16)) K fd_X6_52 rfl rfl rfl dX6_removeRule_50 ?_
          refine r_iload_n K dX6_removeRule_53 2 rfl rfl ?_
          refine r_iconst (v := nI 1) K dX6_removeRule_54 (by decide) ?_
          refine r_iadd (v := nI (k + 1)) K dX6_removeRule_55 (nI_add _ _) ?_
          refine r_iald (j := k + 1) (v := nI ((rms (su (su τ 72 0 0 (cR τ (nI r))) 0 1 0 (τ 0 1 0 - 1)) r k) 8 (k + 1) 1)) K rfl rfl rfl (by omega) (by decide) (by show nI _ = nI _; first | rfl | (repeat first | rw [su_s] | rw [su_n (by omega)])) dX6_removeRule_56 ?_
          refine r_iast (j := k) K rfl rfl rfl (by omega) (by decide) rfl dX6_removeRule_57 ?_
          refine r_mu u_21_16 ?_
          show WW g z 3 0 0 ad (Wz z ad σ (su (su (rms (su (su τ 72 0 0 (cR τ (nI r))) 0 1 0 (τ 0 1 0 - 1)) r k) 8 k 0 ((rms (su (su τ 72 0 0 (cR τ (nI r))) 0 1 0 (τ 0 1 0 - 1)) r k) 8 (k + 1) 0)) 8 k 1 ((rms (su (su τ 72 0 0 (cR τ (nI r))) 0 1 0 (τ 0 1 0 - 1)) r k) 8 (k + 1) 1)) o) 58 [(0, .ref (ad 20 0)), (1, .int (nI r)), (2, .int (nI k))] []
          refine r_aload_n K dX6_removeRule_58 0 rfl rfl ?_
          refine r_get (v := .ref (ad 21 17)) K fd_X6_55 rfl rfl rfl dX6_removeRule_59 ?_
          refine r_iload_n K dX6_removeRule_62 2 rfl rfl ?_
          refine r_aload_n K dX6_removeRule_63 0 rfl rfl ?_
          refine r_get (v := .ref (ad 21 17)) K fd_X6_55 rfl rfl rfl dX6_removeRule_64 ?_
          refine r_iload_n K dX6_removeRule_67 2 rfl rfl ?_
          refine r_iconst (v := nI 1) K dX6_removeRule_68 (by decide) ?_
          refine r_iadd (v := nI (k + 1)) K dX6_removeRule_69 (nI_add _ _) ?_
          refine r_zald (j := k + 1) (v := nI ((rms (su (su τ 72 0 0 (cR τ (nI r))) 0 1 0 (τ 0 1 0 - 1)) r k) 8 (k + 1) 2)) K rfl rfl rfl (by omega) (by decide) (by show nI _ = nI _; first | rfl | (repeat first | rw [su_s] | rw [su_n (by omega)])) dX6_removeRule_70 ?_
          refine r_zast (j := k) K rfl rfl rfl (by omega) (by decide) (congrArg (upd _ _) (zn (by omega))) dX6_removeRule_71 ?_
          refine r_mu u_21_17 ?_
          show WW g z 3 0 0 ad (Wz z ad σ (su (su (su (rms (su (su τ 72 0 0 (cR τ (nI r))) 0 1 0 (τ 0 1 0 - 1)) r k) 8 k 0 ((rms (su (su τ 72 0 0 (cR τ (nI r))) 0 1 0 (τ 0 1 0 - 1)) r k) 8 (k + 1) 0)) 8 k 1 ((rms (su (su τ 72 0 0 (cR τ (nI r))) 0 1 0 (τ 0 1 0 - 1)) r k) 8 (k + 1) 1)) 8 k 2 ((rms (su (su τ 72 0 0 (cR τ (nI r))) 0 1 0 (τ 0 1 0 - 1)) r k) 8 (k + 1) 2)) o) 72 [(0, .ref (ad 20 0)), (1, .int (nI r)), (2, .int (nI k))] []
          refine r_aload_n K dX6_removeRule_72 0 rfl rfl ?_
          refine r_get (v := .ref (ad 21 18)) K fd_X6_59 rfl rfl rfl dX6_removeRule_73 ?_
          refine r_iload_n K dX6_removeRule_76 2 rfl rfl ?_
          refine r_aload_n K dX6_removeRule_77 0 rfl rfl ?_
          refine r_get (v := .ref (ad 21 18)) K fd_X6_59 rfl rfl rfl dX6_removeRule_78 ?_
          refine r_iload_n K dX6_removeRule_81 2 rfl rfl ?_
          refine r_iconst (v := nI 1) K dX6_removeRule_82 (by decide) ?_
          refine r_iadd (v := nI (k + 1)) K dX6_removeRule_83 (nI_add _ _) ?_
          refine r_iald (j := k + 1) (v := nI ((rms (su (su τ 72 0 0 (cR τ (nI r))) 0 1 0 (τ 0 1 0 - 1)) r k) 8 (k + 1) 3)) K rfl rfl rfl (by omega) (by decide) (by show nI _ = nI _; first | rfl | (repeat first | rw [su_s] | rw [su_n (by omega)])) dX6_removeRule_84 ?_
          refine r_iast (j := k) K rfl rfl rfl (by omega) (by decide) rfl dX6_removeRule_85 ?_
          refine r_mu u_21_18 ?_
          show WW g z 3 0 0 ad (Wz z ad σ (su (su (su (su (rms (su (su τ 72 0 0 (cR τ (nI r))) 0 1 0 (τ 0 1 0 - 1)) r k) 8 k 0 ((rms (su (su τ 72 0 0 (cR τ (nI r))) 0 1 0 (τ 0 1 0 - 1)) r k) 8 (k + 1) 0)) 8 k 1 ((rms (su (su τ 72 0 0 (cR τ (nI r))) 0 1 0 (τ 0 1 0 - 1)) r k) 8 (k + 1) 1)) 8 k 2 ((rms (su (su τ 72 0 0 (cR τ (nI r))) 0 1 0 (τ 0 1 0 - 1)) r k) 8 (k + 1) 2)) 8 k 3 ((rms (su (su τ 72 0 0 (cR τ (nI r))) 0 1 0 (τ 0 1 0 - 1)) r k) 8 (k + 1) 3)) o) 86 [(0, .ref (ad 20 0)), (1, .int (nI r)), (2, .int (nI k))] []
          refine r_aload_n K dX6_removeRule_86 0 rfl rfl ?_
          refine r_get (v := .ref (ad 21 19)) K fd_X6_62 rfl rfl rfl dX6_removeRule_87 ?_
          refine r_iload_n K dX6_removeRule_90 2 rfl rfl ?_
          refine r_aload_n K dX6_removeRule_91 0 rfl rfl ?_
          refine r_get (v := .ref (ad 21 19)) K fd_X6_62 rfl rfl rfl dX6_removeRule_92 ?_
          refine r_iload_n K dX6_removeRule_95 2 rfl rfl ?_
          refine r_iconst (v := nI 1) K dX6_removeRule_96 (by decide) ?_
          refine r_iadd (v := nI (k + 1)) K dX6_removeRule_97 (nI_add _ _) ?_
          refine r_iald (j := k + 1) (v := nI ((rms (su (su τ 72 0 0 (cR τ (nI r))) 0 1 0 (τ 0 1 0 - 1)) r k) 8 (k + 1) 4)) K rfl rfl rfl (by omega) (by decide) (by show nI _ = nI _; first | rfl | (repeat first | rw [su_s] | rw [su_n (by omega)])) dX6_removeRule_98 ?_
          refine r_iast (j := k) K rfl rfl rfl (by omega) (by decide) rfl dX6_removeRule_99 ?_
          refine r_mu u_21_19 ?_
          show WW g z 3 0 0 ad (Wz z ad σ (su (su (su (su (su (rms (su (su τ 72 0 0 (cR τ (nI r))) 0 1 0 (τ 0 1 0 - 1)) r k) 8 k 0 ((rms (su (su τ 72 0 0 (cR τ (nI r))) 0 1 0 (τ 0 1 0 - 1)) r k) 8 (k + 1) 0)) 8 k 1 ((rms (su (su τ 72 0 0 (cR τ (nI r))) 0 1 0 (τ 0 1 0 - 1)) r k) 8 (k + 1) 1)) 8 k 2 ((rms (su (su τ 72 0 0 (cR τ (nI r))) 0 1 0 (τ 0 1 0 - 1)) r k) 8 (k + 1) 2)) 8 k 3 ((rms (su (su τ 72 0 0 (cR τ (nI r))) 0 1 0 (τ 0 1 0 - 1)) r k) 8 (k + 1) 3)) 8 k 4 ((rms (su (su τ 72 0 0 (cR τ (nI r))) 0 1 0 (τ 0 1 0 - 1)) r k) 8 (k + 1) 4)) o) 100 [(0, .ref (ad 20 0)), (1, .int (nI r)), (2, .int (nI k))] []
          rw [rms_1 h1]
          show WW g z 3 0 0 ad (Wz z ad σ (rms (su (su τ 72 0 0 (cR τ (nI r))) 0 1 0 (τ 0 1 0 - 1)) r (k + 1)) o) 100 [(0, .ref (ad 20 0)), (1, .int (nI r)), (2, .int (nI k))] []
          refine r_iinc (v := nI (k + 1)) (lv' := [(2, .int (nI (k + 1))), (0, .ref (ad 20 0)), (1, .int (nI r))]) K dX6_removeRule_100 2 rfl (ic_1 _) (by decide) rfl ?_
          refine r_goto K dX6_removeRule_103 22 (by decide) ?_
          refine r_lv (lv' := [(0, .ref (ad 20 0)), (1, .int (nI r)), (2, .int (nI (k + 1)))]) [1, 2, 0] rfl ?_
          exact ih_lp (k + 1) (by omega) (by omega) (by omega)
    refine r_lv (lv' := [(0, .ref (ad 20 0)), (1, .int (nI r)), (2, .int (nI r))]) [1, 2, 0] rfl ?_
    exact lp (τ 0 1 0 - 1 - (r) + 1) r (by omega) (by omega) (by omega)
  · skip
    refine r_iconst (v := nI 0) K dX6_removeRule_8 (by decide) ?_
    exact r_iret K (by decide) (by decide) ⟨_, rfl, fun h => absurd h (by rw [show cR τ x = 1 from if_neg c_5]; decide), rfl, _, rfl, (by rw [if_neg (by rw [show cR τ x = 1 from if_neg c_5]; decide)]; exact agr.rf.sx (by decide)), Q2, rfl⟩ dX6_removeRule_9
