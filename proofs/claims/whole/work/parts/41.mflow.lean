set_option maxRecDepth 100000 in
set_option maxHeartbeats 4000000 in
theorem k_X6_holds {z : Zx} {l : Launch} {σ τ : Sg} {o : Int64 × UInt64} {ad : Nm} (hl : l.stackTraces = false) {b : Nat} (I : InvB τ) (hb : b < τ 0 0 0) : Ko z l yX6_holds cX6_holds 2 (some .int) 0 0 0 [.ref (ad 20 0), .int (nI b)] ad (Wz z ad σ τ o) (okV (some (.int (nI (τ 1 b 0 * τ 1 b 1)))) ad (Wz z ad σ τ o)) exNo := by
  refine ko_of hl (by decide +kernel) (Nat.le_of_ble_eq_true rfl) (fun g hg K => ?_)
  subst hg
  have q0 := I.1.1
  have q1 := I.1.2.1
  have q2 := I.1.2.2.1
  have q3 := I.1.2.2.2.1
  have q4 := I.1.2.2.2.2.1
  show WW g z 2 0 0 ad (Wz z ad σ τ o) 0 [(0, .ref (ad 20 0)), (1, .int (nI b))] []
  refine r_aload_n K dX6_holds_0 0 rfl rfl ?_
  refine r_get (v := .ref (ad 21 1)) K fd_X6_7 rfl rfl rfl dX6_holds_1 ?_
  refine r_iload_n K dX6_holds_4 1 rfl rfl ?_
  refine r_iald (j := b) (v := nI (τ 1 b 0)) K rfl rfl rfl (by omega) (by decide) rfl dX6_holds_5 ?_
  refine r_aload_n K dX6_holds_6 0 rfl rfl ?_
  refine r_get (v := .ref (ad 21 2)) K fd_X6_13 rfl rfl rfl dX6_holds_7 ?_
  refine r_iload_n K dX6_holds_10 1 rfl rfl ?_
  refine r_iald (j := b) (v := nI (τ 1 b 1)) K rfl rfl rfl (by omega) (by decide) rfl dX6_holds_11 ?_
  refine r_imul (v := nI ((τ 1 b 0) * (τ 1 b 1))) K dX6_holds_12 (pk_mul _ _) ?_
  exact r_iret K (by decide) (by decide) ⟨congrArg (fun q => some (Value.int (nI q))) (by rfl), rfl, rfl⟩ dX6_holds_13
set_option maxRecDepth 100000 in
set_option maxHeartbeats 4000000 in
theorem k_X6_isTrue {z : Zx} {l : Launch} {σ τ : Sg} {o : Int64 × UInt64} {ad : Nm} (hl : l.stackTraces = false) {u j : Nat} (hu : u = 0 ∨ u = 2) (I : InvB τ) (hj : j < τ 0 1 0) {V : Nat → Nat} (hV : (fun i => τ 3 i u) = V) (hV2 : ∀ i, V i ≤ 300000) : Ko z l yX6_isTrue cX6_isTrue 3 (some .boolean) 0 0 0 [.ref (ad 20 0), .int (nI j), .ref (ad 21 (9 + u))] ad (Wz z ad σ τ o) (okV (some (.int (nI (hldN (τ 8) (τ 1) V j)))) ad (Wz z ad σ τ o)) exNo := by
  refine ko_of hl (by decide +kernel) (Nat.le_of_ble_eq_true rfl) (fun g hg K => ?_)
  subst hg
  have q0 := I.1.1
  have q1 := I.1.2.1
  have q2 := I.1.2.2.1
  have q3 := I.1.2.2.2.1
  have q4 := I.1.2.2.2.2.1
  obtain ⟨p1, p2, p3, p4, p5⟩ := I.2.2.1 j hj
  have p6 := (I.2.1 _ p2).1.1
  have g0 := hV2 (τ 8 j 1)
  show WW g z 3 0 0 ad (Wz z ad σ τ o) 0 [(0, .ref (ad 20 0)), (1, .int (nI j)), (2, .ref (ad 21 (9 + u)))] []
  refine r_aload_n K dX6_isTrue_0 2 rfl rfl ?_
  refine r_aload_n K dX6_isTrue_1 0 rfl rfl ?_
  refine r_get (v := .ref (ad 21 16)) K fd_X6_52 rfl rfl rfl dX6_isTrue_2 ?_
  refine r_iload_n K dX6_isTrue_5 1 rfl rfl ?_
  refine r_iald (j := j) (v := nI (τ 8 j 1)) K rfl rfl rfl (by omega) (by decide) rfl dX6_isTrue_6 ?_
  refine r_iald (j := τ 8 j 1) (v := nI (V (τ 8 j 1))) K (W_v hu) rfl rfl (by omega) (by decide) (by rw [← hV]) dX6_isTrue_7 ?_
  refine r_aload_n K dX6_isTrue_8 0 rfl rfl ?_
  refine r_get (v := .ref (ad 21 1)) K fd_X6_7 rfl rfl rfl dX6_isTrue_9 ?_
  refine r_aload_n K dX6_isTrue_12 0 rfl rfl ?_
  refine r_get (v := .ref (ad 21 16)) K fd_X6_52 rfl rfl rfl dX6_isTrue_13 ?_
  refine r_iload_n K dX6_isTrue_16 1 rfl rfl ?_
  refine r_iald (j := j) (v := nI (τ 8 j 1)) K rfl rfl rfl (by omega) (by decide) rfl dX6_isTrue_17 ?_
  refine r_iald (j := τ 8 j 1) (v := nI (τ 1 (τ 8 j 1) 0)) K rfl rfl rfl (by omega) (by decide) rfl dX6_isTrue_18 ?_
  refine r_idiv (v := nI ((V (τ 8 j 1)) / (τ 1 (τ 8 j 1) 0))) K dX6_isTrue_19 (nI_z (by omega) (by omega)) (pk_div (by omega) (by omega) (by omega)) ?_
  refine r_aload_n K dX6_isTrue_20 0 rfl rfl ?_
  refine r_get (v := .ref (ad 21 18)) K fd_X6_59 rfl rfl rfl dX6_isTrue_21 ?_
  refine r_iload_n K dX6_isTrue_24 1 rfl rfl ?_
  refine r_iald (j := j) (v := nI (τ 8 j 3)) K rfl rfl rfl (by omega) (by decide) rfl dX6_isTrue_25 ?_
  have g1 := hV2 (τ 8 j 1)
  have g2 := Nat.div_le_self (V (τ 8 j 1)) (τ 1 (τ 8 j 1) 0)
  refine r_icmp_lt K dX6_isTrue_26 33 ((V (τ 8 j 1)) / (τ 1 (τ 8 j 1) 0) < τ 8 j 3) (nI_ltI (by omega) (by omega)) (by decide) (fun c_26 => ?_) (fun c_26 => ?_)
  · skip
    refine r_iconst (v := nI 0) K dX6_isTrue_33 (by decide) ?_
    refine r_aload_n K dX6_isTrue_34 0 rfl rfl ?_
    refine r_get (v := .ref (ad 21 17)) K fd_X6_55 rfl rfl rfl dX6_isTrue_35 ?_
    refine r_iload_n K dX6_isTrue_38 1 rfl rfl ?_
    refine r_zald (j := j) (v := nI (τ 8 j 2)) K rfl rfl rfl (by omega) (by decide) rfl dX6_isTrue_39 ?_
    refine r_icmp_ne K dX6_isTrue_40 47 (0 = τ 8 j 2) (nI_eq (by omega) (by omega)) (by decide) (fun c_40 => ?_) (fun c_40 => ?_)
    · skip
      refine r_iconst (v := nI 0) K dX6_isTrue_47 (by decide) ?_
      exact r_zret K (by first | rfl | decide | exact pI_nar) (by decide) (by decide) ⟨congrArg (fun q => some (Value.int (nI q))) (by unfold hldN; rw [if_neg (by omega)]), rfl, rfl⟩ dX6_isTrue_48
    · skip
      refine r_iconst (v := nI 1) K dX6_isTrue_43 (by decide) ?_
      refine r_goto K dX6_isTrue_44 48 (by decide) ?_
      exact r_zret K (by first | rfl | decide | exact pI_nar) (by decide) (by decide) ⟨congrArg (fun q => some (Value.int (nI q))) (by unfold hldN; rw [if_pos (by omega)]), rfl, rfl⟩ dX6_isTrue_48
  · skip
    refine r_iconst (v := nI 1) K dX6_isTrue_29 (by decide) ?_
    refine r_goto K dX6_isTrue_30 34 (by decide) ?_
    refine r_aload_n K dX6_isTrue_34 0 rfl rfl ?_
    refine r_get (v := .ref (ad 21 17)) K fd_X6_55 rfl rfl rfl dX6_isTrue_35 ?_
    refine r_iload_n K dX6_isTrue_38 1 rfl rfl ?_
    refine r_zald (j := j) (v := nI (τ 8 j 2)) K rfl rfl rfl (by omega) (by decide) rfl dX6_isTrue_39 ?_
    refine r_icmp_ne K dX6_isTrue_40 47 (1 = τ 8 j 2) (nI_eq (by omega) (by omega)) (by decide) (fun c_40 => ?_) (fun c_40 => ?_)
    · skip
      refine r_iconst (v := nI 0) K dX6_isTrue_47 (by decide) ?_
      exact r_zret K (by first | rfl | decide | exact pI_nar) (by decide) (by decide) ⟨congrArg (fun q => some (Value.int (nI q))) (by unfold hldN; rw [if_neg (by omega)]), rfl, rfl⟩ dX6_isTrue_48
    · skip
      refine r_iconst (v := nI 1) K dX6_isTrue_43 (by decide) ?_
      refine r_goto K dX6_isTrue_44 48 (by decide) ?_
      exact r_zret K (by first | rfl | decide | exact pI_nar) (by decide) (by decide) ⟨congrArg (fun q => some (Value.int (nI q))) (by unfold hldN; rw [if_pos (by omega)]), rfl, rfl⟩ dX6_isTrue_48
set_option maxRecDepth 100000 in
set_option maxHeartbeats 4000000 in
theorem k_X6_opening {z : Zx} {l : Launch} {σ τ : Sg} {o : Int64 × UInt64} {ad : Nm} (hl : l.stackTraces = false) {u b : Nat} (hu : u = 0 ∨ u = 2) (I : InvB τ) (hb : b < τ 0 0 0) (h73 : τ 73 0 0 ≤ 6) {V : Nat → Nat} (hV : (fun i => τ 3 i u) = V) (hV2 : ∀ i, V i ≤ 300000) : Ko z l yX6_opening cX6_opening 5 (some .int) 1 0 0 [.ref (ad 20 0), .int (nI b), .ref (ad 21 (9 + u))] ad (Wz z ad σ τ o) (okV (some (.int (nI (opF (τ 8) (τ 1) V (τ 0 1 0) (τ 73 0 0) (τ 74 0 0) b)))) ad (Wz z ad σ τ o)) exNo := by
  refine ko_of hl (by decide +kernel) (Nat.le_of_ble_eq_true rfl) (fun g hg K => ?_)
  subst hg
  have q0 := I.1.1
  have q1 := I.1.2.1
  have q2 := I.1.2.2.1
  have q3 := I.1.2.2.2.1
  have q4 := I.1.2.2.2.2.1
  show WW g z 5 0 0 ad (Wz z ad σ τ o) 0 [(0, .ref (ad 20 0)), (1, .int (nI b)), (2, .ref (ad 21 (9 + u)))] []
  refine r_aload_n K dX6_opening_0 0 rfl rfl ?_
  refine r_get (v := .ref (ad 21 5)) K fd_X6_22 rfl rfl rfl dX6_opening_1 ?_
  refine r_iload_n K dX6_opening_4 1 rfl rfl ?_
  refine r_iald (j := b) (v := nI (τ 1 b 4)) K rfl rfl rfl (by omega) (by decide) rfl dX6_opening_5 ?_
  refine r_istore_n (lv' := [(3, .int (nI (τ 1 b 4))), (0, .ref (ad 20 0)), (1, .int (nI b)), (2, .ref (ad 21 (9 + u)))]) K dX6_opening_6 rfl (by decide) rfl ?_
  refine r_iconst (v := nI 0) K dX6_opening_7 (by decide) ?_
  refine r_istore (lv' := [(4, .int (nI 0)), (3, .int (nI (τ 1 b 4))), (0, .ref (ad 20 0)), (1, .int (nI b)), (2, .ref (ad 21 (9 + u)))]) K dX6_opening_8 (by decide) rfl ?_
  have lp : ∀ (fuel : Nat) (i : Nat), τ 0 1 0 - i < fuel → i ≤ τ 0 1 0 → WW g z 5 0 0 ad (Wz z ad σ τ o) 10 [(0, .ref (ad 20 0)), (1, .int (nI b)), (2, .ref (ad 21 (9 + u))), (3, .int (nI (opn (τ 8) (τ 1) V b i))), (4, .int (nI i))] [] := by
    intro fuel
    induction fuel with
    | zero => intro i hf h1; exact absurd hf (Nat.not_lt_zero _)
    | succ fuel ih_lp =>
      intro i hf h1
      refine r_iload K dX6_opening_10 4 rfl ?_
      refine r_aload_n K dX6_opening_12 0 rfl rfl ?_
      refine r_get (v := .int (nI (τ 0 1 0))) K fd_X6_111 rfl rfl rfl dX6_opening_13 ?_
      refine r_icmp_ge K dX6_opening_16 54 (τ 0 1 0 ≤ i) (nI_leI (by omega) (by omega)) (by decide) (fun c_16 => ?_) (fun c_16 => ?_)
      · skip
        refine r_iload_n K dX6_opening_54 1 rfl rfl ?_
        refine r_aload_n K dX6_opening_55 0 rfl rfl ?_
        refine r_get (v := .int (bw (τ 73 0 0))) K fd_X6_89 rfl rfl rfl dX6_opening_56 ?_
        refine r_icmp_ne K dX6_opening_59 69 (b + 1 = τ 73 0 0) (bw_eqN (by omega) (by omega)) (by decide) (fun c_59 => ?_) (fun c_59 => ?_)
        · skip
          refine r_iload_n K dX6_opening_69 3 rfl rfl ?_
          exact r_iret K (by decide) (by decide) ⟨congrArg (fun q => some (Value.int (nI q))) (by unfold opF; rw [if_neg (by omega), show i = τ 0 1 0 by omega]), rfl, rfl⟩ dX6_opening_70
        · skip
          refine r_aload_n K dX6_opening_62 0 rfl rfl ?_
          refine r_get (v := .int (nI (τ 74 0 0))) K fd_X6_137 rfl rfl rfl dX6_opening_63 ?_
          refine r_goto K dX6_opening_66 70 (by decide) ?_
          exact r_iret K (by decide) (by decide) ⟨congrArg (fun q => some (Value.int (nI q))) (by unfold opF; rw [if_pos (by omega)]), rfl, rfl⟩ dX6_opening_70
      · skip
        have hj : i < τ 0 1 0 := by omega
        obtain ⟨p1, p2, p3, p4, p5⟩ := I.2.2.1 i hj
        have p6 := hldN_le (τ 8) (τ 1) V i
        refine r_aload_n K dX6_opening_19 0 rfl rfl ?_
        refine r_get (v := .ref (ad 21 15)) K fd_X6_49 rfl rfl rfl dX6_opening_20 ?_
        refine r_iload K dX6_opening_23 4 rfl ?_
        refine r_iald (j := i) (v := nI (τ 8 i 0)) K rfl rfl rfl (by omega) (by decide) rfl dX6_opening_25 ?_
        refine r_iload_n K dX6_opening_26 1 rfl rfl ?_
        refine r_icmp_ne K dX6_opening_27 48 (τ 8 i 0 = b) (nI_eq (by omega) (by omega)) (by decide) (fun c_27 => ?_) (fun c_27 => ?_)
        · skip
          refine r_eq (lv' := [(0, .ref (ad 20 0)), (1, .int (nI b)), (2, .ref (ad 21 (9 + u))), (3, .int (nI (opn (τ 8) (τ 1) V b (i + 1)))), (4, .int (nI i))]) rfl rfl (by rw [opn_1f (by omega)]) rfl ?_
          refine r_iinc (v := nI (i + 1)) (lv' := [(4, .int (nI (i + 1))), (0, .ref (ad 20 0)), (1, .int (nI b)), (2, .ref (ad 21 (9 + u))), (3, .int (nI (opn (τ 8) (τ 1) V b (i + 1))))]) K dX6_opening_48 4 rfl (ic_1 _) (by decide) rfl ?_
          refine r_goto K dX6_opening_51 10 (by decide) ?_
          refine r_lv (lv' := [(0, .ref (ad 20 0)), (1, .int (nI b)), (2, .ref (ad 21 (9 + u))), (3, .int (nI (opn (τ 8) (τ 1) V b (i + 1)))), (4, .int (nI (i + 1)))]) [1, 2, 3, 4, 0] rfl ?_
          exact ih_lp (i + 1) (by omega) (by omega)
        · skip
          refine r_aload_n K dX6_opening_30 0 rfl rfl ?_
          refine r_iload K dX6_opening_31 4 rfl ?_
          refine r_aload_n K dX6_opening_33 2 rfl rfl ?_
          refine r_callV (st := []) K (k_X6_isTrue (u := u) (j := i) (V := V) hl hu I (by first | exact hb | exact hk | exact hj | exact hw | omega | assumption) hV hV2) cw_X6_133 wd_1490 wd_28 (by decide) (by decide) rfl rfl rfl rfl (Nat.le_of_ble_eq_true rfl) (by decide) (by decide) dX6_opening_34 ?_
          rintro _ _ _ ⟨rfl, rfl, rfl⟩
          show WW g z 5 0 0 ad (Wz z ad σ τ o) 37 [(0, .ref (ad 20 0)), (1, .int (nI b)), (2, .ref (ad 21 (9 + u))), (3, .int (nI (opn (τ 8) (τ 1) V b i))), (4, .int (nI i))] [.int (nI (hldN (τ 8) (τ 1) V i))]
          refine r_if_eq K dX6_opening_37 48 (hldN (τ 8) (τ 1) V i = 0) (n0_eq (by omega)) (by decide) (fun c_37 => ?_) (fun c_37 => ?_)
          · skip
            refine r_eq (lv' := [(0, .ref (ad 20 0)), (1, .int (nI b)), (2, .ref (ad 21 (9 + u))), (3, .int (nI (opn (τ 8) (τ 1) V b (i + 1)))), (4, .int (nI i))]) rfl rfl (by rw [opn_1f (by omega)]) rfl ?_
            refine r_iinc (v := nI (i + 1)) (lv' := [(4, .int (nI (i + 1))), (0, .ref (ad 20 0)), (1, .int (nI b)), (2, .ref (ad 21 (9 + u))), (3, .int (nI (opn (τ 8) (τ 1) V b (i + 1))))]) K dX6_opening_48 4 rfl (ic_1 _) (by decide) rfl ?_
            refine r_goto K dX6_opening_51 10 (by decide) ?_
            refine r_lv (lv' := [(0, .ref (ad 20 0)), (1, .int (nI b)), (2, .ref (ad 21 (9 + u))), (3, .int (nI (opn (τ 8) (τ 1) V b (i + 1)))), (4, .int (nI (i + 1)))]) [1, 2, 3, 4, 0] rfl ?_
            exact ih_lp (i + 1) (by omega) (by omega)
          · skip
            refine r_aload_n K dX6_opening_40 0 rfl rfl ?_
            refine r_get (v := .ref (ad 21 19)) K fd_X6_62 rfl rfl rfl dX6_opening_41 ?_
            refine r_iload K dX6_opening_44 4 rfl ?_
            refine r_iald (j := i) (v := nI (τ 8 i 4)) K rfl rfl rfl (by omega) (by decide) rfl dX6_opening_46 ?_
            refine r_istore_n (lv' := [(3, .int (nI (τ 8 i 4))), (0, .ref (ad 20 0)), (1, .int (nI b)), (2, .ref (ad 21 (9 + u))), (4, .int (nI i))]) K dX6_opening_47 rfl (by decide) rfl ?_
            refine r_eq (lv' := [(3, .int (nI (opn (τ 8) (τ 1) V b (i + 1)))), (0, .ref (ad 20 0)), (1, .int (nI b)), (2, .ref (ad 21 (9 + u))), (4, .int (nI i))]) rfl rfl (by rw [opn_1t (by omega) (by omega)]) rfl ?_
            refine r_iinc (v := nI (i + 1)) (lv' := [(4, .int (nI (i + 1))), (3, .int (nI (opn (τ 8) (τ 1) V b (i + 1)))), (0, .ref (ad 20 0)), (1, .int (nI b)), (2, .ref (ad 21 (9 + u)))]) K dX6_opening_48 4 rfl (ic_1 _) (by decide) rfl ?_
            refine r_goto K dX6_opening_51 10 (by decide) ?_
            refine r_lv (lv' := [(0, .ref (ad 20 0)), (1, .int (nI b)), (2, .ref (ad 21 (9 + u))), (3, .int (nI (opn (τ 8) (τ 1) V b (i + 1)))), (4, .int (nI (i + 1)))]) [2, 3, 4, 1, 0] rfl ?_
            exact ih_lp (i + 1) (by omega) (by omega)
  refine r_lv (lv' := [(0, .ref (ad 20 0)), (1, .int (nI b)), (2, .ref (ad 21 (9 + u))), (3, .int (nI (τ 1 b 4))), (4, .int (nI 0))]) [2, 3, 4, 1, 0] rfl ?_
  exact lp (τ 0 1 0 - (0) + 1) 0 (by omega) (by omega)
set_option maxRecDepth 100000 in
set_option maxHeartbeats 4000000 in
theorem k_X6_flows {z : Zx} {l : Launch} {σ τ : Sg} {o : Int64 × UInt64} {ad : Nm} (hl : l.stackTraces = false) {u : Nat} (hu : u = 0 ∨ u = 2) (I : InvB τ) (h73 : τ 73 0 0 ≤ 6) (h74 : τ 74 0 0 ≤ 10) {V S : Nat → Nat} (hV : (fun i => τ 3 i u) = V) (hV2 : ∀ i, V i ≤ 2500) (hS : (fun i => τ 4 i u) = S) (hS2 : ∀ i, S i ≤ 300000) (hG : ∀ i, (gtV (τ 1) (lvg (τ 8) (τ 1) V (τ 0 1 0) (τ 73 0 0) (τ 74 0 0)) V (τ 0 0 0)) i ≤ 300000) : Ko z l yX6_flows cX6_flows 5 (some .int) 2 0 0 [.ref (ad 20 0), .ref (ad 21 (9 + u)), .ref (ad 21 (10 + u))] ad (Wz z ad σ τ o) (okV (some (.int (nI ((fst (τ 0 0 0) (lvg (τ 8) (τ 1) V (τ 0 1 0) (τ 73 0 0) (τ 74 0 0)) (fun i => τ 70 i 0)) 0)))) ad (Wz z ad σ (msw τ u (fst (τ 0 0 0) (fun b => stV (τ 1 b 0 * τ 1 b 1) ((gtV (τ 1) (lvg (τ 8) (τ 1) V (τ 0 1 0) (τ 73 0 0) (τ 74 0 0)) V (τ 0 0 0)) b) (S b)) (gtV (τ 1) (lvg (τ 8) (τ 1) V (τ 0 1 0) (τ 73 0 0) (τ 74 0 0)) V (τ 0 0 0))) (fst (τ 0 0 0) (fun b => stS (τ 1 b 0 * τ 1 b 1) ((gtV (τ 1) (lvg (τ 8) (τ 1) V (τ 0 1 0) (τ 73 0 0) (τ 74 0 0)) V (τ 0 0 0)) b) (S b)) S) (fst (τ 0 0 0) (lvg (τ 8) (τ 1) V (τ 0 1 0) (τ 73 0 0) (τ 74 0 0)) (fun i => τ 70 i 0))) o)) exNo := by
  refine ko_of hl (by decide +kernel) (Nat.le_of_ble_eq_true rfl) (fun g hg K => ?_)
  subst hg
  have q0 := I.1.1
  have q1 := I.1.2.1
  have q2 := I.1.2.2.1
  have q3 := I.1.2.2.2.1
  have q4 := I.1.2.2.2.2.1
  show WW g z 5 0 0 ad (Wz z ad σ τ o) 0 [(0, .ref (ad 20 0)), (1, .ref (ad 21 (9 + u))), (2, .ref (ad 21 (10 + u)))] []
  refine r_iconst (v := nI 0) K dX6_flows_0 (by decide) ?_
  refine r_istore_n (lv' := [(3, .int (nI 0)), (0, .ref (ad 20 0)), (1, .ref (ad 21 (9 + u))), (2, .ref (ad 21 (10 + u)))]) K dX6_flows_1 rfl (by decide) rfl ?_
  refine r_mu (μ' := Wz z ad σ (msw τ u V S (fst 0 (lvg (τ 8) (τ 1) V (τ 0 1 0) (τ 73 0 0) (τ 74 0 0)) (fun i => τ 70 i 0))) o) (by rw [fst_0, ← hV, ← hS, msw_id]) ?_
  have l1 : ∀ (fuel : Nat) (i : Nat), τ 0 0 0 - i < fuel → i ≤ τ 0 0 0 → WW g z 5 0 0 ad (Wz z ad σ (msw τ u V S (fst i (lvg (τ 8) (τ 1) V (τ 0 1 0) (τ 73 0 0) (τ 74 0 0)) (fun i => τ 70 i 0))) o) 2 [(0, .ref (ad 20 0)), (1, .ref (ad 21 (9 + u))), (2, .ref (ad 21 (10 + u))), (3, .int (nI i))] [] := by
    intro fuel
    induction fuel with
    | zero => intro i hf h1; exact absurd hf (Nat.not_lt_zero _)
    | succ fuel ih_l1 =>
      intro i hf h1
      refine r_iload_n K dX6_flows_2 3 rfl rfl ?_
      refine r_aload_n K dX6_flows_3 0 rfl rfl ?_
      refine r_get (v := .int (nI (τ 0 0 0))) K fd_X6_100 rfl rfl rfl dX6_flows_4 ?_
      refine r_icmp_ge K dX6_flows_7 41 (τ 0 0 0 ≤ i) (nI_leI (by omega) (by omega)) (by decide) (fun c_7 => ?_) (fun c_7 => ?_)
      · skip
        refine r_iconst (v := nI 0) K dX6_flows_41 (by decide) ?_
        refine r_istore_n (lv' := [(3, .int (nI 0)), (0, .ref (ad 20 0)), (1, .ref (ad 21 (9 + u))), (2, .ref (ad 21 (10 + u)))]) K dX6_flows_42 rfl (by decide) rfl ?_
        refine r_mu (μ' := Wz z ad σ (msw τ u (gtV (τ 1) (lvg (τ 8) (τ 1) V (τ 0 1 0) (τ 73 0 0) (τ 74 0 0)) V 0) S (fst (τ 0 0 0) (lvg (τ 8) (τ 1) V (τ 0 1 0) (τ 73 0 0) (τ 74 0 0)) (fun i => τ 70 i 0))) o) (by rw [show i = τ 0 0 0 by omega]; rfl) ?_
        have l2 : ∀ (fuel : Nat) (i : Nat), τ 0 0 0 - i < fuel → i ≤ τ 0 0 0 → WW g z 5 0 0 ad (Wz z ad σ (msw τ u (gtV (τ 1) (lvg (τ 8) (τ 1) V (τ 0 1 0) (τ 73 0 0) (τ 74 0 0)) V i) S (fst (τ 0 0 0) (lvg (τ 8) (τ 1) V (τ 0 1 0) (τ 73 0 0) (τ 74 0 0)) (fun i => τ 70 i 0))) o) 43 [(0, .ref (ad 20 0)), (1, .ref (ad 21 (9 + u))), (2, .ref (ad 21 (10 + u))), (3, .int (nI i))] [] := by
          intro fuel
          induction fuel with
          | zero => intro i hf h1; exact absurd hf (Nat.not_lt_zero _)
          | succ fuel ih_l2 =>
            intro i hf h1
            refine r_iload_n K dX6_flows_43 3 rfl rfl ?_
            refine r_aload_n K dX6_flows_44 0 rfl rfl ?_
            refine r_get (v := .int (nI (τ 0 0 0))) K fd_X6_100 rfl rfl rfl dX6_flows_45 ?_
            refine r_icmp_ge K dX6_flows_48 90 (τ 0 0 0 ≤ i) (nI_leI (by omega) (by omega)) (by decide) (fun c_48 => ?_) (fun c_48 => ?_)
            · skip
              refine r_iconst (v := nI 0) K dX6_flows_90 (by decide) ?_
              refine r_istore_n (lv' := [(3, .int (nI 0)), (0, .ref (ad 20 0)), (1, .ref (ad 21 (9 + u))), (2, .ref (ad 21 (10 + u)))]) K dX6_flows_91 rfl (by decide) rfl ?_
              refine r_mu (μ' := Wz z ad σ (msw τ u (fst 0 (fun b => stV (τ 1 b 0 * τ 1 b 1) ((gtV (τ 1) (lvg (τ 8) (τ 1) V (τ 0 1 0) (τ 73 0 0) (τ 74 0 0)) V (τ 0 0 0)) b) (S b)) (gtV (τ 1) (lvg (τ 8) (τ 1) V (τ 0 1 0) (τ 73 0 0) (τ 74 0 0)) V (τ 0 0 0))) (fst 0 (fun b => stS (τ 1 b 0 * τ 1 b 1) ((gtV (τ 1) (lvg (τ 8) (τ 1) V (τ 0 1 0) (τ 73 0 0) (τ 74 0 0)) V (τ 0 0 0)) b) (S b)) S) (fst (τ 0 0 0) (lvg (τ 8) (τ 1) V (τ 0 1 0) (τ 73 0 0) (τ 74 0 0)) (fun i => τ 70 i 0))) o) (by rw [show i = τ 0 0 0 by omega, fst_0, fst_0]) ?_
              have l3 : ∀ (fuel : Nat) (i : Nat), τ 0 0 0 - i < fuel → i ≤ τ 0 0 0 → WW g z 5 0 0 ad (Wz z ad σ (msw τ u (fst i (fun b => stV (τ 1 b 0 * τ 1 b 1) ((gtV (τ 1) (lvg (τ 8) (τ 1) V (τ 0 1 0) (τ 73 0 0) (τ 74 0 0)) V (τ 0 0 0)) b) (S b)) (gtV (τ 1) (lvg (τ 8) (τ 1) V (τ 0 1 0) (τ 73 0 0) (τ 74 0 0)) V (τ 0 0 0))) (fst i (fun b => stS (τ 1 b 0 * τ 1 b 1) ((gtV (τ 1) (lvg (τ 8) (τ 1) V (τ 0 1 0) (τ 73 0 0) (τ 74 0 0)) V (τ 0 0 0)) b) (S b)) S) (fst (τ 0 0 0) (lvg (τ 8) (τ 1) V (τ 0 1 0) (τ 73 0 0) (τ 74 0 0)) (fun i => τ 70 i 0))) o) 92 [(0, .ref (ad 20 0)), (1, .ref (ad 21 (9 + u))), (2, .ref (ad 21 (10 + u))), (3, .int (nI i))] [] := by
                intro fuel
                induction fuel with
                | zero => intro i hf h1; exact absurd hf (Nat.not_lt_zero _)
                | succ fuel ih_l3 =>
                  intro i hf h1
                  refine r_iload_n K dX6_flows_92 3 rfl rfl ?_
                  refine r_aload_n K dX6_flows_93 0 rfl rfl ?_
                  refine r_get (v := .int (nI (τ 0 0 0))) K fd_X6_100 rfl rfl rfl dX6_flows_94 ?_
                  refine r_icmp_ge K dX6_flows_97 163 (τ 0 0 0 ≤ i) (nI_leI (by omega) (by omega)) (by decide) (fun c_97 => ?_) (fun c_97 => ?_)
                  · skip
                    refine r_aload_n K dX6_flows_163 0 rfl rfl ?_
                    refine r_get (v := .ref (ad 21 13)) K fd_X6_46 rfl rfl rfl dX6_flows_164 ?_
                    refine r_iconst (v := nI 0) K dX6_flows_167 (by decide) ?_
                    refine r_iald (j := 0) (v := nI ((fst (τ 0 0 0) (lvg (τ 8) (τ 1) V (τ 0 1 0) (τ 73 0 0) (τ 74 0 0)) (fun i => τ 70 i 0)) 0)) K (rfl) rfl rfl (by omega) (by decide) (by show nI _ = nI _; rw [msw_70]) dX6_flows_168 ?_
                    exact r_iret K (by decide) (by decide) ⟨rfl, rfl, by rw [show i = τ 0 0 0 by omega]⟩ dX6_flows_169
                  · skip
                    have hi : i < τ 0 0 0 := by omega
                    have hcap := cap_le I hi
                    have hg : (gtV (τ 1) (lvg (τ 8) (τ 1) V (τ 0 1 0) (τ 73 0 0) (τ 74 0 0)) V (τ 0 0 0)) i ≤ 300000 := hG i
                    have hs := hS2 i
                    refine r_aload_n K dX6_flows_100 1 rfl rfl ?_
                    refine r_iload_n K dX6_flows_101 3 rfl rfl ?_
                    refine r_iald (j := i) (v := nI ((gtV (τ 1) (lvg (τ 8) (τ 1) V (τ 0 1 0) (τ 73 0 0) (τ 74 0 0)) V (τ 0 0 0)) i)) K (W_v hu) rfl rfl (by omega) (by decide) (by rw [msw_3, fst_ge (Nat.lt_irrefl i)]) dX6_flows_102 ?_
                    refine r_aload_n K dX6_flows_103 0 rfl rfl ?_
                    refine r_iload_n K dX6_flows_104 3 rfl rfl ?_
                    refine r_callV (st := [.int (nI ((gtV (τ 1) (lvg (τ 8) (τ 1) V (τ 0 1 0) (τ 73 0 0) (τ 74 0 0)) V (τ 0 0 0)) i))]) K (k_X6_holds (b := i) hl I (by first | exact hb | exact hk | exact hj | exact hw | omega | assumption)) cw_X6_127 wd_1462 wd_26 (by decide) (by decide) rfl rfl rfl rfl (Nat.le_of_ble_eq_true rfl) (by decide) (by decide) dX6_flows_105 ?_
                    rintro _ _ _ ⟨rfl, rfl, rfl⟩
                    show WW g z 5 0 0 ad (Wz z ad σ (msw τ u (fst i (fun b => stV (τ 1 b 0 * τ 1 b 1) ((gtV (τ 1) (lvg (τ 8) (τ 1) V (τ 0 1 0) (τ 73 0 0) (τ 74 0 0)) V (τ 0 0 0)) b) (S b)) (gtV (τ 1) (lvg (τ 8) (τ 1) V (τ 0 1 0) (τ 73 0 0) (τ 74 0 0)) V (τ 0 0 0))) (fst i (fun b => stS (τ 1 b 0 * τ 1 b 1) ((gtV (τ 1) (lvg (τ 8) (τ 1) V (τ 0 1 0) (τ 73 0 0) (τ 74 0 0)) V (τ 0 0 0)) b) (S b)) S) (fst (τ 0 0 0) (lvg (τ 8) (τ 1) V (τ 0 1 0) (τ 73 0 0) (τ 74 0 0)) (fun i => τ 70 i 0))) o) 108 [(0, .ref (ad 20 0)), (1, .ref (ad 21 (9 + u))), (2, .ref (ad 21 (10 + u))), (3, .int (nI i))] [.int (nI (τ 1 i 0 * τ 1 i 1)), .int (nI ((gtV (τ 1) (lvg (τ 8) (τ 1) V (τ 0 1 0) (τ 73 0 0) (τ 74 0 0)) V (τ 0 0 0)) i))]
                    refine r_icmp_le K dX6_flows_108 123 ((gtV (τ 1) (lvg (τ 8) (τ 1) V (τ 0 1 0) (τ 73 0 0) (τ 74 0 0)) V (τ 0 0 0)) i ≤ τ 1 i 0 * τ 1 i 1) (nI_leI (by omega) (by omega)) (by decide) (fun c_108 => ?_) (fun c_108 => ?_)
                    · skip
                      refine r_aload_n K dX6_flows_123 2 rfl rfl ?_
                      refine r_iload_n K dX6_flows_124 3 rfl rfl ?_
                      refine r_iald (j := i) (v := nI (S i)) K (W_s hu) rfl rfl (by omega) (by decide) (by rw [msw_4, fst_ge (Nat.lt_irrefl i)]) dX6_flows_125 ?_
                      refine r_aload_n K dX6_flows_126 0 rfl rfl ?_
                      refine r_iload_n K dX6_flows_127 3 rfl rfl ?_
                      refine r_callV (st := [.int (nI (S i))]) K (k_X6_holds (b := i) hl I (by first | exact hb | exact hk | exact hj | exact hw | omega | assumption)) cw_X6_127 wd_1462 wd_26 (by decide) (by decide) rfl rfl rfl rfl (Nat.le_of_ble_eq_true rfl) (by decide) (by decide) dX6_flows_128 ?_
                      rintro _ _ _ ⟨rfl, rfl, rfl⟩
                      show WW g z 5 0 0 ad (Wz z ad σ (msw τ u (fst i (fun b => stV (τ 1 b 0 * τ 1 b 1) ((gtV (τ 1) (lvg (τ 8) (τ 1) V (τ 0 1 0) (τ 73 0 0) (τ 74 0 0)) V (τ 0 0 0)) b) (S b)) (gtV (τ 1) (lvg (τ 8) (τ 1) V (τ 0 1 0) (τ 73 0 0) (τ 74 0 0)) V (τ 0 0 0))) (fst i (fun b => stS (τ 1 b 0 * τ 1 b 1) ((gtV (τ 1) (lvg (τ 8) (τ 1) V (τ 0 1 0) (τ 73 0 0) (τ 74 0 0)) V (τ 0 0 0)) b) (S b)) S) (fst (τ 0 0 0) (lvg (τ 8) (τ 1) V (τ 0 1 0) (τ 73 0 0) (τ 74 0 0)) (fun i => τ 70 i 0))) o) 131 [(0, .ref (ad 20 0)), (1, .ref (ad 21 (9 + u))), (2, .ref (ad 21 (10 + u))), (3, .int (nI i))] [.int (nI (τ 1 i 0 * τ 1 i 1)), .int (nI (S i))]
                      refine r_aload_n K dX6_flows_131 1 rfl rfl ?_
                      refine r_iload_n K dX6_flows_132 3 rfl rfl ?_
                      refine r_iald (j := i) (v := nI ((gtV (τ 1) (lvg (τ 8) (τ 1) V (τ 0 1 0) (τ 73 0 0) (τ 74 0 0)) V (τ 0 0 0)) i)) K (W_v hu) rfl rfl (by omega) (by decide) (by rw [msw_3, fst_ge (Nat.lt_irrefl i)]) dX6_flows_133 ?_
                      refine r_isub (v := nI ((τ 1 i 0 * τ 1 i 1) - ((gtV (τ 1) (lvg (τ 8) (τ 1) V (τ 0 1 0) (τ 73 0 0) (τ 74 0 0)) V (τ 0 0 0)) i))) K dX6_flows_134 (pk_sub (by omega)) ?_
                      refine r_callS (st := []) K (k_X6_lesser (a := S i) (b := (τ 1 i 0 * τ 1 i 1) - ((gtV (τ 1) (lvg (τ 8) (τ 1) V (τ 0 1 0) (τ 73 0 0) (τ 74 0 0)) V (τ 0 0 0)) i)) hl (by omega) (by omega)) cw_X6_144 wd_1513 (by decide) (by decide) rfl (Nat.le_of_ble_eq_true rfl) (by decide) (by decide) dX6_flows_135 ?_
                      rintro _ _ _ ⟨rfl, rfl, rfl⟩
                      show WW g z 5 0 0 ad (Wz z ad σ (msw τ u (fst i (fun b => stV (τ 1 b 0 * τ 1 b 1) ((gtV (τ 1) (lvg (τ 8) (τ 1) V (τ 0 1 0) (τ 73 0 0) (τ 74 0 0)) V (τ 0 0 0)) b) (S b)) (gtV (τ 1) (lvg (τ 8) (τ 1) V (τ 0 1 0) (τ 73 0 0) (τ 74 0 0)) V (τ 0 0 0))) (fst i (fun b => stS (τ 1 b 0 * τ 1 b 1) ((gtV (τ 1) (lvg (τ 8) (τ 1) V (τ 0 1 0) (τ 73 0 0) (τ 74 0 0)) V (τ 0 0 0)) b) (S b)) S) (fst (τ 0 0 0) (lvg (τ 8) (τ 1) V (τ 0 1 0) (τ 73 0 0) (τ 74 0 0)) (fun i => τ 70 i 0))) o) 138 [(0, .ref (ad 20 0)), (1, .ref (ad 21 (9 + u))), (2, .ref (ad 21 (10 + u))), (3, .int (nI i))] [.int (nI (min (S i) ((τ 1 i 0 * τ 1 i 1) - ((gtV (τ 1) (lvg (τ 8) (τ 1) V (τ 0 1 0) (τ 73 0 0) (τ 74 0 0)) V (τ 0 0 0)) i))))]
                      refine r_ineg (v := -(nI (min (S i) ((τ 1 i 0 * τ 1 i 1) - ((gtV (τ 1) (lvg (τ 8) (τ 1) V (τ 0 1 0) (τ 73 0 0) (τ 74 0 0)) V (τ 0 0 0)) i))))) K dX6_flows_138 rfl ?_
                      refine r_istore (lv' := [(4, .int (-(nI (min (S i) ((τ 1 i 0 * τ 1 i 1) - ((gtV (τ 1) (lvg (τ 8) (τ 1) V (τ 0 1 0) (τ 73 0 0) (τ 74 0 0)) V (τ 0 0 0)) i)))))), (0, .ref (ad 20 0)), (1, .ref (ad 21 (9 + u))), (2, .ref (ad 21 (10 + u))), (3, .int (nI i))]) K dX6_flows_139 (by decide) rfl ?_
                      refine r_aload_n K dX6_flows_141 2 rfl rfl ?_
                      refine r_iload_n K dX6_flows_142 4 rfl rfl ?_
                      refine r_dup2 K dX6_flows_143 rfl rfl ?_
                      refine r_iald (j := i) (v := nI ((gtV (τ 1) (lvg (τ 8) (τ 1) V (τ 0 1 0) (τ 73 0 0) (τ 74 0 0)) V (τ 0 0 0)) i)) K (W_v hu) rfl rfl (by omega) (by decide) (by rw [msw_3, fst_ge (Nat.lt_irrefl i)]) dX6_flows_144 ?_
                      refine r_iload K dX6_flows_145 0 rfl ?_
                      refine r_isub (v := nI ((gtV (τ 1) (lvg (τ 8) (τ 1) V (τ 0 1 0) (τ 73 0 0) (τ 74 0 0)) V (τ 0 0 0)) i + min (S i) (τ 1 i 0 * τ 1 i 1 - (gtV (τ 1) (lvg (τ 8) (τ 1) V (τ 0 1 0) (τ 73 0 0) (τ 74 0 0)) V (τ 0 0 0)) i))) K dX6_flows_147 subneg ?_
                      have e1 : up1 (fst i (fun b => stV (τ 1 b 0 * τ 1 b 1) ((gtV (τ 1) (lvg (τ 8) (τ 1) V (τ 0 1 0) (τ 73 0 0) (τ 74 0 0)) V (τ 0 0 0)) b) (S b)) (gtV (τ 1) (lvg (τ 8) (τ 1) V (τ 0 1 0) (τ 73 0 0) (τ 74 0 0)) V (τ 0 0 0))) i ((gtV (τ 1) (lvg (τ 8) (τ 1) V (τ 0 1 0) (τ 73 0 0) (τ 74 0 0)) V (τ 0 0 0)) i + min (S i) (τ 1 i 0 * τ 1 i 1 - (gtV (τ 1) (lvg (τ 8) (τ 1) V (τ 0 1 0) (τ 73 0 0) (τ 74 0 0)) V (τ 0 0 0)) i)) = fst (i + 1) (fun b => stV (τ 1 b 0 * τ 1 b 1) ((gtV (τ 1) (lvg (τ 8) (τ 1) V (τ 0 1 0) (τ 73 0 0) (τ 74 0 0)) V (τ 0 0 0)) b) (S b)) (gtV (τ 1) (lvg (τ 8) (τ 1) V (τ 0 1 0) (τ 73 0 0) (τ 74 0 0)) V (τ 0 0 0)) := by rw [← fst_1]; exact congrArg (up1 _ i) (by show _ = stV _ _ _; unfold stV; rw [if_neg (by omega)])
                      refine r_iast (j := i) K (W_v hu) rfl rfl (by omega) (by decide) rfl dX6_flows_148 ?_
                      refine r_mu (u_v hu) ?_
                      rw [su_msw3, e1]
                      show WW g z 5 0 0 ad (Wz z ad σ (msw τ u (fst (i + 1) (fun b => stV (τ 1 b 0 * τ 1 b 1) ((gtV (τ 1) (lvg (τ 8) (τ 1) V (τ 0 1 0) (τ 73 0 0) (τ 74 0 0)) V (τ 0 0 0)) b) (S b)) (gtV (τ 1) (lvg (τ 8) (τ 1) V (τ 0 1 0) (τ 73 0 0) (τ 74 0 0)) V (τ 0 0 0))) (fst i (fun b => stS (τ 1 b 0 * τ 1 b 1) ((gtV (τ 1) (lvg (τ 8) (τ 1) V (τ 0 1 0) (τ 73 0 0) (τ 74 0 0)) V (τ 0 0 0)) b) (S b)) S) (fst (τ 0 0 0) (lvg (τ 8) (τ 1) V (τ 0 1 0) (τ 73 0 0) (τ 74 0 0)) (fun i => τ 70 i 0))) o) 149 [(4, .int (-(nI (min (S i) ((τ 1 i 0 * τ 1 i 1) - ((gtV (τ 1) (lvg (τ 8) (τ 1) V (τ 0 1 0) (τ 73 0 0) (τ 74 0 0)) V (τ 0 0 0)) i)))))), (0, .ref (ad 20 0)), (1, .ref (ad 21 (9 + u))), (2, .ref (ad 21 (10 + u))), (3, .int (nI i))] []
                      refine r_aload_n K dX6_flows_149 3 rfl rfl ?_
                      refine r_iload_n K dX6_flows_150 4 rfl rfl ?_
                      refine r_dup2 K dX6_flows_151 rfl rfl ?_
                      refine r_iald (j := i) (v := nI (S i)) K (W_s hu) rfl rfl (by omega) (by decide) (by rw [msw_4, fst_ge (Nat.lt_irrefl i)]) dX6_flows_152 ?_
                      refine r_iload K dX6_flows_153 0 rfl ?_
                      refine r_iadd (v := nI (S i - min (S i) (τ 1 i 0 * τ 1 i 1 - (gtV (τ 1) (lvg (τ 8) (τ 1) V (τ 0 1 0) (τ 73 0 0) (τ 74 0 0)) V (τ 0 0 0)) i))) K dX6_flows_155 (addneg (by omega)) ?_
                      have e2 : up1 (fst i (fun b => stS (τ 1 b 0 * τ 1 b 1) ((gtV (τ 1) (lvg (τ 8) (τ 1) V (τ 0 1 0) (τ 73 0 0) (τ 74 0 0)) V (τ 0 0 0)) b) (S b)) S) i (S i - min (S i) (τ 1 i 0 * τ 1 i 1 - (gtV (τ 1) (lvg (τ 8) (τ 1) V (τ 0 1 0) (τ 73 0 0) (τ 74 0 0)) V (τ 0 0 0)) i)) = fst (i + 1) (fun b => stS (τ 1 b 0 * τ 1 b 1) ((gtV (τ 1) (lvg (τ 8) (τ 1) V (τ 0 1 0) (τ 73 0 0) (τ 74 0 0)) V (τ 0 0 0)) b) (S b)) S := by rw [← fst_1]; exact congrArg (up1 _ i) (by show _ = stS _ _ _; unfold stS; rw [if_neg (by omega)])
                      refine r_iast (j := i) K (W_s hu) rfl rfl (by omega) (by decide) rfl dX6_flows_156 ?_
                      refine r_mu (u_s hu) ?_
                      rw [su_msw4, e2]
                      show WW g z 5 0 0 ad (Wz z ad σ (msw τ u (fst (i + 1) (fun b => stV (τ 1 b 0 * τ 1 b 1) ((gtV (τ 1) (lvg (τ 8) (τ 1) V (τ 0 1 0) (τ 73 0 0) (τ 74 0 0)) V (τ 0 0 0)) b) (S b)) (gtV (τ 1) (lvg (τ 8) (τ 1) V (τ 0 1 0) (τ 73 0 0) (τ 74 0 0)) V (τ 0 0 0))) (fst (i + 1) (fun b => stS (τ 1 b 0 * τ 1 b 1) ((gtV (τ 1) (lvg (τ 8) (τ 1) V (τ 0 1 0) (τ 73 0 0) (τ 74 0 0)) V (τ 0 0 0)) b) (S b)) S) (fst (τ 0 0 0) (lvg (τ 8) (τ 1) V (τ 0 1 0) (τ 73 0 0) (τ 74 0 0)) (fun i => τ 70 i 0))) o) 157 [(4, .int (-(nI (min (S i) ((τ 1 i 0 * τ 1 i 1) - ((gtV (τ 1) (lvg (τ 8) (τ 1) V (τ 0 1 0) (τ 73 0 0) (τ 74 0 0)) V (τ 0 0 0)) i)))))), (0, .ref (ad 20 0)), (1, .ref (ad 21 (9 + u))), (2, .ref (ad 21 (10 + u))), (3, .int (nI i))] []
                      refine r_iinc (v := nI (i + 1)) (lv' := [(3, .int (nI (i + 1))), (4, .int (-(nI (min (S i) ((τ 1 i 0 * τ 1 i 1) - ((gtV (τ 1) (lvg (τ 8) (τ 1) V (τ 0 1 0) (τ 73 0 0) (τ 74 0 0)) V (τ 0 0 0)) i)))))), (0, .ref (ad 20 0)), (1, .ref (ad 21 (9 + u))), (2, .ref (ad 21 (10 + u)))]) K dX6_flows_157 4 rfl (ic_1 _) (by decide) rfl ?_
                      refine r_goto K dX6_flows_160 92 (by decide) ?_
                      refine r_lv (lv' := [(0, .ref (ad 20 0)), (1, .ref (ad 21 (9 + u))), (2, .ref (ad 21 (10 + u))), (3, .int (nI (i + 1)))]) [2, 3, 4, 0] rfl ?_
                      exact ih_l3 (i + 1) (by omega) (by omega)
                    · skip
                      refine r_aload_n K dX6_flows_111 1 rfl rfl ?_
                      refine r_iload_n K dX6_flows_112 3 rfl rfl ?_
                      refine r_iald (j := i) (v := nI ((gtV (τ 1) (lvg (τ 8) (τ 1) V (τ 0 1 0) (τ 73 0 0) (τ 74 0 0)) V (τ 0 0 0)) i)) K (W_v hu) rfl rfl (by omega) (by decide) (by rw [msw_3, fst_ge (Nat.lt_irrefl i)]) dX6_flows_113 ?_
                      refine r_aload_n K dX6_flows_114 0 rfl rfl ?_
                      refine r_iload_n K dX6_flows_115 3 rfl rfl ?_
                      refine r_callV (st := [.int (nI ((gtV (τ 1) (lvg (τ 8) (τ 1) V (τ 0 1 0) (τ 73 0 0) (τ 74 0 0)) V (τ 0 0 0)) i))]) K (k_X6_holds (b := i) hl I (by first | exact hb | exact hk | exact hj | exact hw | omega | assumption)) cw_X6_127 wd_1462 wd_26 (by decide) (by decide) rfl rfl rfl rfl (Nat.le_of_ble_eq_true rfl) (by decide) (by decide) dX6_flows_116 ?_
                      rintro _ _ _ ⟨rfl, rfl, rfl⟩
                      show WW g z 5 0 0 ad (Wz z ad σ (msw τ u (fst i (fun b => stV (τ 1 b 0 * τ 1 b 1) ((gtV (τ 1) (lvg (τ 8) (τ 1) V (τ 0 1 0) (τ 73 0 0) (τ 74 0 0)) V (τ 0 0 0)) b) (S b)) (gtV (τ 1) (lvg (τ 8) (τ 1) V (τ 0 1 0) (τ 73 0 0) (τ 74 0 0)) V (τ 0 0 0))) (fst i (fun b => stS (τ 1 b 0 * τ 1 b 1) ((gtV (τ 1) (lvg (τ 8) (τ 1) V (τ 0 1 0) (τ 73 0 0) (τ 74 0 0)) V (τ 0 0 0)) b) (S b)) S) (fst (τ 0 0 0) (lvg (τ 8) (τ 1) V (τ 0 1 0) (τ 73 0 0) (τ 74 0 0)) (fun i => τ 70 i 0))) o) 119 [(0, .ref (ad 20 0)), (1, .ref (ad 21 (9 + u))), (2, .ref (ad 21 (10 + u))), (3, .int (nI i))] [.int (nI (τ 1 i 0 * τ 1 i 1)), .int (nI ((gtV (τ 1) (lvg (τ 8) (τ 1) V (τ 0 1 0) (τ 73 0 0) (τ 74 0 0)) V (τ 0 0 0)) i))]
                      refine r_isub (v := nI (((gtV (τ 1) (lvg (τ 8) (τ 1) V (τ 0 1 0) (τ 73 0 0) (τ 74 0 0)) V (τ 0 0 0)) i) - (τ 1 i 0 * τ 1 i 1))) K dX6_flows_119 (pk_sub (by omega)) ?_
                      refine r_goto K dX6_flows_120 139 (by decide) ?_
                      refine r_istore (lv' := [(4, .int (nI (((gtV (τ 1) (lvg (τ 8) (τ 1) V (τ 0 1 0) (τ 73 0 0) (τ 74 0 0)) V (τ 0 0 0)) i) - (τ 1 i 0 * τ 1 i 1)))), (0, .ref (ad 20 0)), (1, .ref (ad 21 (9 + u))), (2, .ref (ad 21 (10 + u))), (3, .int (nI i))]) K dX6_flows_139 (by decide) rfl ?_
                      refine r_aload_n K dX6_flows_141 2 rfl rfl ?_
                      refine r_iload_n K dX6_flows_142 4 rfl rfl ?_
                      refine r_dup2 K dX6_flows_143 rfl rfl ?_
                      refine r_iald (j := i) (v := nI ((gtV (τ 1) (lvg (τ 8) (τ 1) V (τ 0 1 0) (τ 73 0 0) (τ 74 0 0)) V (τ 0 0 0)) i)) K (W_v hu) rfl rfl (by omega) (by decide) (by rw [msw_3, fst_ge (Nat.lt_irrefl i)]) dX6_flows_144 ?_
                      refine r_iload K dX6_flows_145 0 rfl ?_
                      refine r_isub (v := nI (τ 1 i 0 * τ 1 i 1)) K dX6_flows_147 ((pk_sub (by omega)).trans (congrArg nI (by omega))) ?_
                      have e1 : up1 (fst i (fun b => stV (τ 1 b 0 * τ 1 b 1) ((gtV (τ 1) (lvg (τ 8) (τ 1) V (τ 0 1 0) (τ 73 0 0) (τ 74 0 0)) V (τ 0 0 0)) b) (S b)) (gtV (τ 1) (lvg (τ 8) (τ 1) V (τ 0 1 0) (τ 73 0 0) (τ 74 0 0)) V (τ 0 0 0))) i (τ 1 i 0 * τ 1 i 1) = fst (i + 1) (fun b => stV (τ 1 b 0 * τ 1 b 1) ((gtV (τ 1) (lvg (τ 8) (τ 1) V (τ 0 1 0) (τ 73 0 0) (τ 74 0 0)) V (τ 0 0 0)) b) (S b)) (gtV (τ 1) (lvg (τ 8) (τ 1) V (τ 0 1 0) (τ 73 0 0) (τ 74 0 0)) V (τ 0 0 0)) := by rw [← fst_1]; exact congrArg (up1 _ i) (by show _ = stV _ _ _; unfold stV; rw [if_pos (by omega)])
                      refine r_iast (j := i) K (W_v hu) rfl rfl (by omega) (by decide) rfl dX6_flows_148 ?_
                      refine r_mu (u_v hu) ?_
                      rw [su_msw3, e1]
                      show WW g z 5 0 0 ad (Wz z ad σ (msw τ u (fst (i + 1) (fun b => stV (τ 1 b 0 * τ 1 b 1) ((gtV (τ 1) (lvg (τ 8) (τ 1) V (τ 0 1 0) (τ 73 0 0) (τ 74 0 0)) V (τ 0 0 0)) b) (S b)) (gtV (τ 1) (lvg (τ 8) (τ 1) V (τ 0 1 0) (τ 73 0 0) (τ 74 0 0)) V (τ 0 0 0))) (fst i (fun b => stS (τ 1 b 0 * τ 1 b 1) ((gtV (τ 1) (lvg (τ 8) (τ 1) V (τ 0 1 0) (τ 73 0 0) (τ 74 0 0)) V (τ 0 0 0)) b) (S b)) S) (fst (τ 0 0 0) (lvg (τ 8) (τ 1) V (τ 0 1 0) (τ 73 0 0) (τ 74 0 0)) (fun i => τ 70 i 0))) o) 149 [(4, .int (nI (((gtV (τ 1) (lvg (τ 8) (τ 1) V (τ 0 1 0) (τ 73 0 0) (τ 74 0 0)) V (τ 0 0 0)) i) - (τ 1 i 0 * τ 1 i 1)))), (0, .ref (ad 20 0)), (1, .ref (ad 21 (9 + u))), (2, .ref (ad 21 (10 + u))), (3, .int (nI i))] []
                      refine r_aload_n K dX6_flows_149 3 rfl rfl ?_
                      refine r_iload_n K dX6_flows_150 4 rfl rfl ?_
                      refine r_dup2 K dX6_flows_151 rfl rfl ?_
                      refine r_iald (j := i) (v := nI (S i)) K (W_s hu) rfl rfl (by omega) (by decide) (by rw [msw_4, fst_ge (Nat.lt_irrefl i)]) dX6_flows_152 ?_
                      refine r_iload K dX6_flows_153 0 rfl ?_
                      refine r_iadd (v := nI ((S i) + (((gtV (τ 1) (lvg (τ 8) (τ 1) V (τ 0 1 0) (τ 73 0 0) (τ 74 0 0)) V (τ 0 0 0)) i) - (τ 1 i 0 * τ 1 i 1)))) K dX6_flows_155 (nI_add _ _) ?_
                      have e2 : up1 (fst i (fun b => stS (τ 1 b 0 * τ 1 b 1) ((gtV (τ 1) (lvg (τ 8) (τ 1) V (τ 0 1 0) (τ 73 0 0) (τ 74 0 0)) V (τ 0 0 0)) b) (S b)) S) i ((S i) + (((gtV (τ 1) (lvg (τ 8) (τ 1) V (τ 0 1 0) (τ 73 0 0) (τ 74 0 0)) V (τ 0 0 0)) i) - (τ 1 i 0 * τ 1 i 1))) = fst (i + 1) (fun b => stS (τ 1 b 0 * τ 1 b 1) ((gtV (τ 1) (lvg (τ 8) (τ 1) V (τ 0 1 0) (τ 73 0 0) (τ 74 0 0)) V (τ 0 0 0)) b) (S b)) S := by rw [← fst_1]; exact congrArg (up1 _ i) (by show _ = stS _ _ _; unfold stS; rw [if_pos (by omega)])
                      refine r_iast (j := i) K (W_s hu) rfl rfl (by omega) (by decide) rfl dX6_flows_156 ?_
                      refine r_mu (u_s hu) ?_
                      rw [su_msw4, e2]
                      show WW g z 5 0 0 ad (Wz z ad σ (msw τ u (fst (i + 1) (fun b => stV (τ 1 b 0 * τ 1 b 1) ((gtV (τ 1) (lvg (τ 8) (τ 1) V (τ 0 1 0) (τ 73 0 0) (τ 74 0 0)) V (τ 0 0 0)) b) (S b)) (gtV (τ 1) (lvg (τ 8) (τ 1) V (τ 0 1 0) (τ 73 0 0) (τ 74 0 0)) V (τ 0 0 0))) (fst (i + 1) (fun b => stS (τ 1 b 0 * τ 1 b 1) ((gtV (τ 1) (lvg (τ 8) (τ 1) V (τ 0 1 0) (τ 73 0 0) (τ 74 0 0)) V (τ 0 0 0)) b) (S b)) S) (fst (τ 0 0 0) (lvg (τ 8) (τ 1) V (τ 0 1 0) (τ 73 0 0) (τ 74 0 0)) (fun i => τ 70 i 0))) o) 157 [(4, .int (nI (((gtV (τ 1) (lvg (τ 8) (τ 1) V (τ 0 1 0) (τ 73 0 0) (τ 74 0 0)) V (τ 0 0 0)) i) - (τ 1 i 0 * τ 1 i 1)))), (0, .ref (ad 20 0)), (1, .ref (ad 21 (9 + u))), (2, .ref (ad 21 (10 + u))), (3, .int (nI i))] []
                      refine r_iinc (v := nI (i + 1)) (lv' := [(3, .int (nI (i + 1))), (4, .int (nI (((gtV (τ 1) (lvg (τ 8) (τ 1) V (τ 0 1 0) (τ 73 0 0) (τ 74 0 0)) V (τ 0 0 0)) i) - (τ 1 i 0 * τ 1 i 1)))), (0, .ref (ad 20 0)), (1, .ref (ad 21 (9 + u))), (2, .ref (ad 21 (10 + u)))]) K dX6_flows_157 4 rfl (ic_1 _) (by decide) rfl ?_
                      refine r_goto K dX6_flows_160 92 (by decide) ?_
                      refine r_lv (lv' := [(0, .ref (ad 20 0)), (1, .ref (ad 21 (9 + u))), (2, .ref (ad 21 (10 + u))), (3, .int (nI (i + 1)))]) [2, 3, 4, 0] rfl ?_
                      exact ih_l3 (i + 1) (by omega) (by omega)
              refine r_lv (lv' := [(0, .ref (ad 20 0)), (1, .ref (ad 21 (9 + u))), (2, .ref (ad 21 (10 + u))), (3, .int (nI 0))]) [1, 2, 3, 0] rfl ?_
              exact l3 (τ 0 0 0 - (0) + 1) 0 (by omega) (by omega)
            · skip
              have hi : i < τ 0 0 0 := by omega
              have hx := (I.2.1 i hi).2.1
              have eh : (gtV (τ 1) (lvg (τ 8) (τ 1) V (τ 0 1 0) (τ 73 0 0) (τ 74 0 0)) V i) i = V i := gtV_hi (fun m hm => (I.2.1 m (by omega)).2.1.2.2) (Nat.le_refl i)
              have eo : (lvg (τ 8) (τ 1) V (τ 0 1 0) (τ 73 0 0) (τ 74 0 0)) i ≤ V i := Nat.min_le_right _ _
              refine r_aload_n K dX6_flows_51 1 rfl rfl ?_
              refine r_iload_n K dX6_flows_52 3 rfl rfl ?_
              refine r_dup2 K dX6_flows_53 rfl rfl ?_
              refine r_iald (j := i) (v := nI ((gtV (τ 1) (lvg (τ 8) (τ 1) V (τ 0 1 0) (τ 73 0 0) (τ 74 0 0)) V i) i)) K (W_v hu) rfl rfl (by omega) (by decide) (by rw [msw_3]) dX6_flows_54 ?_
              refine r_aload_n K dX6_flows_55 0 rfl rfl ?_
              refine r_get (v := .ref (ad 21 13)) K fd_X6_46 rfl rfl rfl dX6_flows_56 ?_
              refine r_iload_n K dX6_flows_59 3 rfl rfl ?_
              refine r_iald (j := i) (v := nI ((lvg (τ 8) (τ 1) V (τ 0 1 0) (τ 73 0 0) (τ 74 0 0)) i)) K (rfl) rfl rfl (by omega) (by decide) (by show nI _ = nI _; rw [msw_70, fst_lt hi]) dX6_flows_60 ?_
              refine r_isub (v := nI (((gtV (τ 1) (lvg (τ 8) (τ 1) V (τ 0 1 0) (τ 73 0 0) (τ 74 0 0)) V i) i) - ((lvg (τ 8) (τ 1) V (τ 0 1 0) (τ 73 0 0) (τ 74 0 0)) i))) K dX6_flows_61 (pk_sub (by omega)) ?_
              refine r_iast (j := i) K (W_v hu) rfl rfl (by omega) (by decide) rfl dX6_flows_62 ?_
              refine r_mu (u_v hu) ?_
              rw [su_msw3]
              show WW g z 5 0 0 ad (Wz z ad σ (msw τ u (up1 (gtV (τ 1) (lvg (τ 8) (τ 1) V (τ 0 1 0) (τ 73 0 0) (τ 74 0 0)) V i) i ((gtV (τ 1) (lvg (τ 8) (τ 1) V (τ 0 1 0) (τ 73 0 0) (τ 74 0 0)) V i) i - (lvg (τ 8) (τ 1) V (τ 0 1 0) (τ 73 0 0) (τ 74 0 0)) i)) S (fst (τ 0 0 0) (lvg (τ 8) (τ 1) V (τ 0 1 0) (τ 73 0 0) (τ 74 0 0)) (fun i => τ 70 i 0))) o) 63 [(0, .ref (ad 20 0)), (1, .ref (ad 21 (9 + u))), (2, .ref (ad 21 (10 + u))), (3, .int (nI i))] []
              refine r_iload_n K dX6_flows_63 3 rfl rfl ?_
              refine r_if_le K dX6_flows_64 84 (i = 0) (n0_le (by omega)) (by decide) (fun c_64 => ?_) (fun c_64 => ?_)
              · skip
                have e0 : τ 1 i 3 = 0 := by omega
                rw [gtV_0s (by omega)]
                show WW g z 5 0 0 ad (Wz z ad σ (msw τ u (gtV (τ 1) (lvg (τ 8) (τ 1) V (τ 0 1 0) (τ 73 0 0) (τ 74 0 0)) V (i + 1)) S (fst (τ 0 0 0) (lvg (τ 8) (τ 1) V (τ 0 1 0) (τ 73 0 0) (τ 74 0 0)) (fun i => τ 70 i 0))) o) 84 [(0, .ref (ad 20 0)), (1, .ref (ad 21 (9 + u))), (2, .ref (ad 21 (10 + u))), (3, .int (nI i))] []
                refine r_iinc (v := nI (i + 1)) (lv' := [(3, .int (nI (i + 1))), (0, .ref (ad 20 0)), (1, .ref (ad 21 (9 + u))), (2, .ref (ad 21 (10 + u)))]) K dX6_flows_84 3 rfl (ic_1 _) (by decide) rfl ?_
                refine r_goto K dX6_flows_87 43 (by decide) ?_
                refine r_lv (lv' := [(0, .ref (ad 20 0)), (1, .ref (ad 21 (9 + u))), (2, .ref (ad 21 (10 + u))), (3, .int (nI (i + 1)))]) [1, 2, 3, 0] rfl ?_
                exact ih_l2 (i + 1) (by omega) (by omega)
              · skip
                refine r_aload_n K dX6_flows_67 1 rfl rfl ?_
                refine r_aload_n K dX6_flows_68 0 rfl rfl ?_
                refine r_get (v := .ref (ad 21 4)) K fd_X6_19 rfl rfl rfl dX6_flows_69 ?_
                refine r_iload_n K dX6_flows_72 3 rfl rfl ?_
                refine r_iald (j := i) (v := bw (τ 1 i 3)) K rfl rfl rfl (by omega) (by decide) (if_pos (by first | exact hi | exact hb | omega)) dX6_flows_73 ?_
                refine r_dup2 K dX6_flows_74 rfl rfl ?_
                refine r_iald (j := τ 1 i 3 - 1) (v := nI ((up1 (gtV (τ 1) (lvg (τ 8) (τ 1) V (τ 0 1 0) (τ 73 0 0) (τ 74 0 0)) V i) i ((gtV (τ 1) (lvg (τ 8) (τ 1) V (τ 0 1 0) (τ 73 0 0) (τ 74 0 0)) V i) i - (lvg (τ 8) (τ 1) V (τ 0 1 0) (τ 73 0 0) (τ 74 0 0)) i)) (τ 1 i 3 - 1))) K (W_v hu) rfl (bw_nI (by omega)) (by omega) (by decide) (by rw [msw_3]) dX6_flows_75 ?_
                refine r_aload_n K dX6_flows_76 0 rfl rfl ?_
                refine r_get (v := .ref (ad 21 13)) K fd_X6_46 rfl rfl rfl dX6_flows_77 ?_
                refine r_iload_n K dX6_flows_80 3 rfl rfl ?_
                refine r_iald (j := i) (v := nI ((lvg (τ 8) (τ 1) V (τ 0 1 0) (τ 73 0 0) (τ 74 0 0)) i)) K (rfl) rfl rfl (by omega) (by decide) (by show nI _ = nI _; rw [msw_70, fst_lt hi]) dX6_flows_81 ?_
                refine r_iadd (v := nI (((up1 (gtV (τ 1) (lvg (τ 8) (τ 1) V (τ 0 1 0) (τ 73 0 0) (τ 74 0 0)) V i) i ((gtV (τ 1) (lvg (τ 8) (τ 1) V (τ 0 1 0) (τ 73 0 0) (τ 74 0 0)) V i) i - (lvg (τ 8) (τ 1) V (τ 0 1 0) (τ 73 0 0) (τ 74 0 0)) i)) (τ 1 i 3 - 1)) + ((lvg (τ 8) (τ 1) V (τ 0 1 0) (τ 73 0 0) (τ 74 0 0)) i))) K dX6_flows_82 (nI_add _ _) ?_
                refine r_iast (j := τ 1 i 3 - 1) K (W_v hu) rfl (bw_nI (by omega)) (by omega) (by decide) rfl dX6_flows_83 ?_
                refine r_mu (u_v hu) ?_
                rw [su_msw3, gtV_1s (by omega) (by omega)]
                show WW g z 5 0 0 ad (Wz z ad σ (msw τ u (gtV (τ 1) (lvg (τ 8) (τ 1) V (τ 0 1 0) (τ 73 0 0) (τ 74 0 0)) V (i + 1)) S (fst (τ 0 0 0) (lvg (τ 8) (τ 1) V (τ 0 1 0) (τ 73 0 0) (τ 74 0 0)) (fun i => τ 70 i 0))) o) 84 [(0, .ref (ad 20 0)), (1, .ref (ad 21 (9 + u))), (2, .ref (ad 21 (10 + u))), (3, .int (nI i))] []
                refine r_iinc (v := nI (i + 1)) (lv' := [(3, .int (nI (i + 1))), (0, .ref (ad 20 0)), (1, .ref (ad 21 (9 + u))), (2, .ref (ad 21 (10 + u)))]) K dX6_flows_84 3 rfl (ic_1 _) (by decide) rfl ?_
                refine r_goto K dX6_flows_87 43 (by decide) ?_
                refine r_lv (lv' := [(0, .ref (ad 20 0)), (1, .ref (ad 21 (9 + u))), (2, .ref (ad 21 (10 + u))), (3, .int (nI (i + 1)))]) [1, 2, 3, 0] rfl ?_
                exact ih_l2 (i + 1) (by omega) (by omega)
        refine r_lv (lv' := [(0, .ref (ad 20 0)), (1, .ref (ad 21 (9 + u))), (2, .ref (ad 21 (10 + u))), (3, .int (nI 0))]) [1, 2, 3, 0] rfl ?_
        exact l2 (τ 0 0 0 - (0) + 1) 0 (by omega) (by omega)
      · skip
        have hi : i < τ 0 0 0 := by omega
        refine r_aload_n K dX6_flows_10 0 rfl rfl ?_
        refine r_get (v := .ref (ad 21 13)) K fd_X6_46 rfl rfl rfl dX6_flows_11 ?_
        refine r_iload_n K dX6_flows_14 3 rfl rfl ?_
        refine r_aload_n K dX6_flows_15 0 rfl rfl ?_
        refine r_iload_n K dX6_flows_16 3 rfl rfl ?_
        refine r_aload_n K dX6_flows_17 1 rfl rfl ?_
        refine r_callV (st := [.int (nI i), .ref (ad 21 13)]) K (k_X6_opening (τ := (msw τ u V S (fst i (lvg (τ 8) (τ 1) V (τ 0 1 0) (τ 73 0 0) (τ 74 0 0)) (fun i => τ 70 i 0)))) (u := u) (b := i) (V := V) hl hu I hi h73 (funext fun _ => msw_3) (fun i => by have := hV2 i; omega)) cw_X6_140 wd_1498 wd_29 (by decide) (by decide) rfl rfl rfl rfl (Nat.le_of_ble_eq_true rfl) (by decide) (by decide) dX6_flows_18 ?_
        rintro _ _ _ ⟨rfl, rfl, rfl⟩
        show WW g z 5 0 0 ad (Wz z ad σ (msw τ u V S (fst i (lvg (τ 8) (τ 1) V (τ 0 1 0) (τ 73 0 0) (τ 74 0 0)) (fun i => τ 70 i 0))) o) 21 [(0, .ref (ad 20 0)), (1, .ref (ad 21 (9 + u))), (2, .ref (ad 21 (10 + u))), (3, .int (nI i))] [.int (nI (opF (τ 8) (τ 1) V (τ 0 1 0) (τ 73 0 0) (τ 74 0 0) i)), .int (nI i), .ref (ad 21 13)]
        refine r_aload_n K dX6_flows_21 0 rfl rfl ?_
        refine r_get (v := .ref (ad 21 3)) K fd_X6_16 rfl rfl rfl dX6_flows_22 ?_
        refine r_iload_n K dX6_flows_25 3 rfl rfl ?_
        refine r_iald (j := i) (v := nI (τ 1 i 2)) K rfl rfl rfl (by omega) (by decide) rfl dX6_flows_26 ?_
        have g1 := opF_le (V := V) (fx := τ 73 0 0) (b := i) (fun j hj => (I.2.2.1 j hj).2.2.2.2) (I.2.1 i hi).2.2.1.1 h74
        have g2 := Nat.mul_le_mul g1 (I.2.1 i hi).1.2.2
        have g3 := hV2 i
        refine r_imul (v := nI ((opF (τ 8) (τ 1) V (τ 0 1 0) (τ 73 0 0) (τ 74 0 0) i) * (τ 1 i 2))) K dX6_flows_27 (pk_mul _ _) ?_
        refine r_aload_n K dX6_flows_28 1 rfl rfl ?_
        refine r_iload_n K dX6_flows_29 3 rfl rfl ?_
        refine r_iald (j := i) (v := nI (V i)) K (W_v hu) rfl rfl (by omega) (by decide) (by rw [msw_3]) dX6_flows_30 ?_
        refine r_callS (st := [.int (nI i), .ref (ad 21 13)]) K (k_X6_lesser (a := (opF (τ 8) (τ 1) V (τ 0 1 0) (τ 73 0 0) (τ 74 0 0) i) * (τ 1 i 2)) (b := V i) hl (by omega) (by omega)) cw_X6_144 wd_1513 (by decide) (by decide) rfl (Nat.le_of_ble_eq_true rfl) (by decide) (by decide) dX6_flows_31 ?_
        rintro _ _ _ ⟨rfl, rfl, rfl⟩
        show WW g z 5 0 0 ad (Wz z ad σ (msw τ u V S (fst i (lvg (τ 8) (τ 1) V (τ 0 1 0) (τ 73 0 0) (τ 74 0 0)) (fun i => τ 70 i 0))) o) 34 [(0, .ref (ad 20 0)), (1, .ref (ad 21 (9 + u))), (2, .ref (ad 21 (10 + u))), (3, .int (nI i))] [.int (nI (min ((opF (τ 8) (τ 1) V (τ 0 1 0) (τ 73 0 0) (τ 74 0 0) i) * (τ 1 i 2)) (V i))), .int (nI i), .ref (ad 21 13)]
        have e : up1 (fst i (lvg (τ 8) (τ 1) V (τ 0 1 0) (τ 73 0 0) (τ 74 0 0)) (fun i => τ 70 i 0)) i (min (opF (τ 8) (τ 1) V (τ 0 1 0) (τ 73 0 0) (τ 74 0 0) i * τ 1 i 2) (V i)) = fst (i + 1) (lvg (τ 8) (τ 1) V (τ 0 1 0) (τ 73 0 0) (τ 74 0 0)) (fun i => τ 70 i 0) := fst_1
        refine r_iast (j := i) K rfl rfl rfl (by omega) (by decide) rfl dX6_flows_34 ?_
        refine r_mu u_21_13 ?_
        rw [su_msw70, e]
        show WW g z 5 0 0 ad (Wz z ad σ (msw τ u V S (fst (i + 1) (lvg (τ 8) (τ 1) V (τ 0 1 0) (τ 73 0 0) (τ 74 0 0)) (fun i => τ 70 i 0))) o) 35 [(0, .ref (ad 20 0)), (1, .ref (ad 21 (9 + u))), (2, .ref (ad 21 (10 + u))), (3, .int (nI i))] []
        refine r_iinc (v := nI (i + 1)) (lv' := [(3, .int (nI (i + 1))), (0, .ref (ad 20 0)), (1, .ref (ad 21 (9 + u))), (2, .ref (ad 21 (10 + u)))]) K dX6_flows_35 3 rfl (ic_1 _) (by decide) rfl ?_
        refine r_goto K dX6_flows_38 2 (by decide) ?_
        refine r_lv (lv' := [(0, .ref (ad 20 0)), (1, .ref (ad 21 (9 + u))), (2, .ref (ad 21 (10 + u))), (3, .int (nI (i + 1)))]) [1, 2, 3, 0] rfl ?_
        exact ih_l1 (i + 1) (by omega) (by omega)
  refine r_lv (lv' := [(0, .ref (ad 20 0)), (1, .ref (ad 21 (9 + u))), (2, .ref (ad 21 (10 + u))), (3, .int (nI 0))]) [1, 2, 3, 0] rfl ?_
  exact l1 (τ 0 0 0 - (0) + 1) 0 (by omega) (by omega)
