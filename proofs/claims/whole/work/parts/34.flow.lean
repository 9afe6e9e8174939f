set_option maxRecDepth 100000 in
set_option maxHeartbeats 4000000 in
theorem k_X5_levelBy {z : Zx} {l : Launch} {σ τ : Sg} {o : Int64 × UInt64} {ad : Nm} (hl : l.stackTraces = false) {w b : Nat} (hw : w < 2) (I : InvB σ) (L : InvL σ) (hb : b < σ 0 0 0) {V : Nat → Nat} (hV : (fun i => σ 3 i w) = V) (hV2 : ∀ i, V i ≤ 300000) : Ko z l yX5_levelBy cX5_levelBy 4 (some .int) 3 0 0 [.ref (ad 0 0), .ref (ad 3 w), .int (nI b)] ad (Wz z ad σ τ o) (okV (some (.int (nI (V b / σ 1 b 0)))) ad (Wz z ad σ τ o)) exNo := by
  refine ko_of hl (by decide +kernel) (Nat.le_of_ble_eq_true rfl) (fun g hg K => ?_)
  subst hg
  have q0 := I.1.1
  have q1 := (I.2.1 b hb).1.1
  have q2 := hV2 b
  show WW g z 4 0 0 ad (Wz z ad σ τ o) 0 [(0, .ref (ad 0 0)), (1, .ref (ad 3 w)), (2, .int (nI b))] []
  refine r_aload_n K dX5_levelBy_0 0 rfl rfl ?_
  refine r_get (v := .ref (ad 1 0)) K fd_X5_10 rfl rfl rfl dX5_levelBy_1 ?_
  refine r_iload_n K dX5_levelBy_4 2 rfl rfl ?_
  refine r_callV (st := []) K (k_Jx4a65c_get_915e3 (l0 := 0) (i := b) hl (by decide) L (by first | exact hb | exact hk | exact hj | exact hw | omega | assumption)) cw_X5_127 wd_250 wd_251 (by decide) (by decide) (W_1 (by first | exact hb | exact hk | exact hj | exact hw | omega | assumption)) rfl rfl rfl (Nat.le_of_ble_eq_true rfl) (by decide) (by decide) dX5_levelBy_5 ?_
  rintro _ _ _ ⟨rfl, rfl, rfl⟩
  show WW g z 4 0 0 ad (Wz z ad σ τ o) 8 [(0, .ref (ad 0 0)), (1, .ref (ad 3 w)), (2, .int (nI b))] [.ref (ad 9 b)]
  refine r_castS K wd_283 rfl (W_9 (by first | exact hb | exact hk | exact hj | exact hw | omega | assumption)) rfl dX5_levelBy_8 ?_
  refine r_get (v := .int (nI (σ 1 b 0))) K fd_X5_351 (W_9 (by first | exact hb | exact hk | exact hj | exact hw | omega | assumption)) rfl rfl dX5_levelBy_11 ?_
  refine r_istore_n (lv' := [(3, .int (nI (σ 1 b 0))), (0, .ref (ad 0 0)), (1, .ref (ad 3 w)), (2, .int (nI b))]) K dX5_levelBy_14 rfl (by decide) rfl ?_
  refine r_iload_n K dX5_levelBy_15 0 rfl rfl ?_
  refine r_if_le K dX5_levelBy_16 30 (σ 1 b 0 = 0) (n0_le (by omega)) (by decide) (fun c_16 => ?_) (fun c_16 => ?_)
  · skip
    exfalso; omega
  · skip
    refine r_aload_n K dX5_levelBy_19 2 rfl rfl ?_
    refine r_get (v := .ref (ad 4 w)) K fd_X5_159 (W_3 (by first | exact hb | exact hk | exact hj | exact hw | omega | assumption)) rfl rfl dX5_levelBy_20 ?_
    refine r_iload_n K dX5_levelBy_23 3 rfl rfl ?_
    refine r_iald (j := b) (v := nI (V b)) K (W_4 hw) rfl rfl (by omega) (by decide) (by rw [← hV]) dX5_levelBy_24 ?_
    refine r_iload_n K dX5_levelBy_25 0 rfl rfl ?_
    refine r_idiv (v := nI ((V b) / (σ 1 b 0))) K dX5_levelBy_26 (nI_z (by omega) (by omega)) (pk_div (by omega) (by omega) (by omega)) ?_
    refine r_goto K dX5_levelBy_27 31 (by decide) ?_
    exact r_iret K (by decide) (by decide) ⟨congrArg (fun q => some (Value.int (nI q))) (by rfl), rfl, rfl⟩ dX5_levelBy_31
set_option maxRecDepth 100000 in
set_option maxHeartbeats 4000000 in
theorem k_X5_holdsBy {z : Zx} {l : Launch} {σ τ : Sg} {o : Int64 × UInt64} {ad : Nm} (hl : l.stackTraces = false) {w j : Nat} (hw : w < 2) (I : InvB σ) (L : InvL σ) (hj : j < σ 0 1 0) {V : Nat → Nat} (hV : (fun i => σ 3 i w) = V) (hV2 : ∀ i, V i ≤ 300000) : Ko z l yX5_holdsBy cX5_holdsBy 3 (some .boolean) 4 0 0 [.ref (ad 0 0), .ref (ad 3 w), .ref (ad 10 j)] ad (Wz z ad σ τ o) (okV (some (.int (nI (hldN (σ 8) (σ 1) V j)))) ad (Wz z ad σ τ o)) exNo := by
  refine ko_of hl (by decide +kernel) (Nat.le_of_ble_eq_true rfl) (fun g hg K => ?_)
  subst hg
  obtain ⟨q1, q2, q3, q4, q5⟩ := I.2.2.1 j hj
  have q0 := I.1.1
  show WW g z 3 0 0 ad (Wz z ad σ τ o) 0 [(0, .ref (ad 0 0)), (1, .ref (ad 3 w)), (2, .ref (ad 10 j))] []
  refine r_aload_n K dX5_holdsBy_0 2 rfl rfl ?_
  refine r_get (v := .int (nI (σ 8 j 2))) K fd_X5_281 (W_10 (by first | exact hb | exact hk | exact hj | exact hw | omega | assumption)) rfl rfl dX5_holdsBy_1 ?_
  refine r_aload_n K dX5_holdsBy_4 0 rfl rfl ?_
  refine r_aload_n K dX5_holdsBy_5 1 rfl rfl ?_
  refine r_aload_n K dX5_holdsBy_6 2 rfl rfl ?_
  refine r_get (v := .int (nI (σ 8 j 1))) K fd_X5_278 (W_10 (by first | exact hb | exact hk | exact hj | exact hw | omega | assumption)) rfl rfl dX5_holdsBy_7 ?_
  refine r_callV (st := [.int (nI (σ 8 j 2))]) K (k_X5_levelBy (w := w) (b := σ 8 j 1) hl (by first | exact hb | exact hk | exact hj | exact hw | omega | assumption) I L (by first | exact hb | exact hk | exact hj | exact hw | omega | assumption) hV hV2) cw_X5_163 wd_295 wd_4 (by decide) (by decide) rfl rfl rfl rfl (Nat.le_of_ble_eq_true rfl) (by decide) (by decide) dX5_holdsBy_10 ?_
  rintro _ _ _ ⟨rfl, rfl, rfl⟩
  show WW g z 3 0 0 ad (Wz z ad σ τ o) 13 [(0, .ref (ad 0 0)), (1, .ref (ad 3 w)), (2, .ref (ad 10 j))] [.int (nI (V (σ 8 j 1) / σ 1 (σ 8 j 1) 0)), .int (nI (σ 8 j 2))]
  refine r_aload_n K dX5_holdsBy_13 2 rfl rfl ?_
  refine r_get (v := .int (nI (σ 8 j 3))) K fd_X5_285 (W_10 (by first | exact hb | exact hk | exact hj | exact hw | omega | assumption)) rfl rfl dX5_holdsBy_14 ?_
  have g1 := hV2 (σ 8 j 1)
  have g2 := Nat.div_le_self (V (σ 8 j 1)) (σ 1 (σ 8 j 1) 0)
  refine r_icmp_lt K dX5_holdsBy_17 24 (V (σ 8 j 1) / σ 1 (σ 8 j 1) 0 < σ 8 j 3) (nI_ltI (by omega) (by omega)) (by decide) (fun c_17 => ?_) (fun c_17 => ?_)
  · skip
    refine r_iconst (v := nI 0) K dX5_holdsBy_24 (by decide) ?_
    refine r_icmp_ne K dX5_holdsBy_25 32 (σ 8 j 2 = 0) (nI_eq (by omega) (by omega)) (by decide) (fun c_25 => ?_) (fun c_25 => ?_)
    · skip
      refine r_iconst (v := nI 0) K dX5_holdsBy_32 (by decide) ?_
      exact r_zret K (by first | rfl | decide | exact pI_nar) (by decide) (by decide) ⟨congrArg (fun q => some (Value.int (nI q))) (by unfold hldN; rw [if_neg (by omega)]), rfl, rfl⟩ dX5_holdsBy_33
    · skip
      refine r_iconst (v := nI 1) K dX5_holdsBy_28 (by decide) ?_
      refine r_goto K dX5_holdsBy_29 33 (by decide) ?_
      exact r_zret K (by first | rfl | decide | exact pI_nar) (by decide) (by decide) ⟨congrArg (fun q => some (Value.int (nI q))) (by unfold hldN; rw [if_pos (by omega)]), rfl, rfl⟩ dX5_holdsBy_33
  · skip
    refine r_iconst (v := nI 1) K dX5_holdsBy_20 (by decide) ?_
    refine r_goto K dX5_holdsBy_21 25 (by decide) ?_
    refine r_icmp_ne K dX5_holdsBy_25 32 (σ 8 j 2 = 1) (nI_eq (by omega) (by omega)) (by decide) (fun c_25 => ?_) (fun c_25 => ?_)
    · skip
      refine r_iconst (v := nI 0) K dX5_holdsBy_32 (by decide) ?_
      exact r_zret K (by first | rfl | decide | exact pI_nar) (by decide) (by decide) ⟨congrArg (fun q => some (Value.int (nI q))) (by unfold hldN; rw [if_neg (by omega)]), rfl, rfl⟩ dX5_holdsBy_33
    · skip
      refine r_iconst (v := nI 1) K dX5_holdsBy_28 (by decide) ?_
      refine r_goto K dX5_holdsBy_29 33 (by decide) ?_
      exact r_zret K (by first | rfl | decide | exact pI_nar) (by decide) (by decide) ⟨congrArg (fun q => some (Value.int (nI q))) (by unfold hldN; rw [if_pos (by omega)]), rfl, rfl⟩ dX5_holdsBy_33
set_option maxRecDepth 100000 in
set_option maxHeartbeats 4000000 in
theorem k_X5_openingBy {z : Zx} {l : Launch} {σ τ : Sg} {o : Int64 × UInt64} {ad : Nm} (hl : l.stackTraces = false) {w b : Nat} (hw : w < 2) (I : InvB σ) (L : InvL σ) (hb : b < σ 0 0 0) {V : Nat → Nat} (hV : (fun i => σ 3 i w) = V) (hV2 : ∀ i, V i ≤ 300000) : Ko z l yX5_openingBy cX5_openingBy 5 (some .int) 5 0 0 [.ref (ad 0 0), .ref (ad 3 w), .int (nI b)] ad (Wz z ad σ τ o) (okV (some (.int (nI (opn (σ 8) (σ 1) V b (σ 0 1 0))))) ad (Wz z ad σ τ o)) exNo := by
  refine ko_of hl (by decide +kernel) (Nat.le_of_ble_eq_true rfl) (fun g hg K => ?_)
  subst hg
  have q0 := I.1.1
  have q1 := I.1.2.1
  show WW g z 5 0 0 ad (Wz z ad σ τ o) 0 [(0, .ref (ad 0 0)), (1, .ref (ad 3 w)), (2, .int (nI b))] []
  refine r_aload_n K dX5_openingBy_0 0 rfl rfl ?_
  refine r_get (v := .ref (ad 1 1)) K fd_X5_16 rfl rfl rfl dX5_openingBy_1 ?_
  refine r_callV (st := []) K (k_Jx4a65c_size_8abf5 (l0 := 1) hl (by decide)) cw_X5_39 wd_206 wd_207 (by decide) (by decide) (W_1 (by first | exact hb | exact hk | exact hj | exact hw | omega | assumption)) rfl rfl rfl (Nat.le_of_ble_eq_true rfl) (by decide) (by decide) dX5_openingBy_4 ?_
  rintro _ _ _ ⟨rfl, rfl, rfl⟩
  show WW g z 5 0 0 ad (Wz z ad σ τ o) 7 [(0, .ref (ad 0 0)), (1, .ref (ad 3 w)), (2, .int (nI b))] [.int (nI (σ 0 1 0))]
  refine r_iconst (v := nI 1) K dX5_openingBy_7 (by decide) ?_
  refine r_isub (v := bw (σ 0 1 0)) K dX5_openingBy_8 rfl ?_
  refine r_istore_n (lv' := [(3, .int (bw (σ 0 1 0))), (0, .ref (ad 0 0)), (1, .ref (ad 3 w)), (2, .int (nI b))]) K dX5_openingBy_9 rfl (by decide) rfl ?_
  have lp : ∀ (fuel : Nat) (i : Nat), i < fuel → i ≤ σ 0 1 0 → opn (σ 8) (σ 1) V b (σ 0 1 0) = opn (σ 8) (σ 1) V b i → WW g z 5 0 0 ad (Wz z ad σ τ o) 10 [(0, .ref (ad 0 0)), (1, .ref (ad 3 w)), (2, .int (nI b)), (3, .int (bw i))] [] := by
    intro fuel
    induction fuel with
    | zero => intro i hf h1 h2; exact absurd hf (Nat.not_lt_zero _)
    | succ fuel ih_lp =>
      intro i hf h1 h2
      refine r_iload_n K dX5_openingBy_10 3 rfl rfl ?_
      refine r_if_lt K dX5_openingBy_11 58 (i = 0) (bw_lt0 (by omega)) (by decide) (fun c_11 => ?_) (fun c_11 => ?_)
      · skip
        refine r_aload_n K dX5_openingBy_58 0 rfl rfl ?_
        refine r_get (v := .ref (ad 1 0)) K fd_X5_10 rfl rfl rfl dX5_openingBy_59 ?_
        refine r_iload_n K dX5_openingBy_62 2 rfl rfl ?_
        refine r_callV (st := []) K (k_Jx4a65c_get_915e3 (l0 := 0) (i := b) hl (by decide) L (by first | exact hb | exact hk | exact hj | exact hw | omega | assumption)) cw_X5_127 wd_250 wd_251 (by decide) (by decide) (W_1 (by first | exact hb | exact hk | exact hj | exact hw | omega | assumption)) rfl rfl rfl (Nat.le_of_ble_eq_true rfl) (by decide) (by decide) dX5_openingBy_63 ?_
        rintro _ _ _ ⟨rfl, rfl, rfl⟩
        show WW g z 5 0 0 ad (Wz z ad σ τ o) 66 [(0, .ref (ad 0 0)), (1, .ref (ad 3 w)), (2, .int (nI b)), (3, .int (bw i))] [.ref (ad 9 b)]
        refine r_castS K wd_283 rfl (W_9 (by first | exact hb | exact hk | exact hj | exact hw | omega | assumption)) rfl dX5_openingBy_66 ?_
        refine r_get (v := .int (nI (σ 1 b 4))) K fd_X5_105 (W_9 (by first | exact hb | exact hk | exact hj | exact hw | omega | assumption)) rfl rfl dX5_openingBy_69 ?_
        exact r_iret K (by decide) (by decide) ⟨congrArg (fun q => some (Value.int (nI q))) (by rw [h2, c_11]; rfl), rfl, rfl⟩ dX5_openingBy_72
      · skip
        refine r_eq (lv' := [(0, .ref (ad 0 0)), (1, .ref (ad 3 w)), (2, .int (nI b)), (3, .int (nI (i - 1)))]) rfl rfl (by rw [bw_nI (by omega)]) rfl ?_
        have hj : i - 1 < σ 0 1 0 := by omega
        obtain ⟨p1, p2, p3, p4, p5⟩ := I.2.2.1 (i - 1) hj
        have p6 := hldN_le (σ 8) (σ 1) V (i - 1)
        refine r_aload_n K dX5_openingBy_14 0 rfl rfl ?_
        refine r_get (v := .ref (ad 1 1)) K fd_X5_16 rfl rfl rfl dX5_openingBy_15 ?_
        refine r_iload_n K dX5_openingBy_18 3 rfl rfl ?_
        refine r_callV (st := []) K (k_Jx4a65c_get_915e3 (l0 := 1) (i := i - 1) hl (by decide) L (by first | exact hb | exact hk | exact hj | exact hw | omega | assumption)) cw_X5_127 wd_250 wd_251 (by decide) (by decide) (W_1 (by first | exact hb | exact hk | exact hj | exact hw | omega | assumption)) rfl rfl rfl (Nat.le_of_ble_eq_true rfl) (by decide) (by decide) dX5_openingBy_19 ?_
        rintro _ _ _ ⟨rfl, rfl, rfl⟩
        show WW g z 5 0 0 ad (Wz z ad σ τ o) 22 [(0, .ref (ad 0 0)), (1, .ref (ad 3 w)), (2, .int (nI b)), (3, .int (nI (i - 1)))] [.ref (ad 10 (i - 1))]
        refine r_castS K wd_288 rfl (W_10 (by first | exact hb | exact hk | exact hj | exact hw | omega | assumption)) rfl dX5_openingBy_22 ?_
        refine r_astore (lv' := [(4, .ref (ad 10 (i - 1))), (0, .ref (ad 0 0)), (1, .ref (ad 3 w)), (2, .int (nI b)), (3, .int (nI (i - 1)))]) K dX5_openingBy_25 (by decide) rfl ?_
        refine r_aload K dX5_openingBy_27 0 rfl ?_
        refine r_get (v := .int (nI (σ 8 (i - 1) 0))) K fd_X5_269 (W_10 (by first | exact hb | exact hk | exact hj | exact hw | omega | assumption)) rfl rfl dX5_openingBy_29 ?_
        refine r_iload_n K dX5_openingBy_32 3 rfl rfl ?_
        refine r_icmp_ne K dX5_openingBy_33 52 (σ 8 (i - 1) 0 = b) (nI_eq (by omega) (by omega)) (by decide) (fun c_33 => ?_) (fun c_33 => ?_)
        · skip
          refine r_iinc (v := bw (i - 1)) (lv' := [(3, .int (bw (i - 1))), (4, .ref (ad 10 (i - 1))), (0, .ref (ad 0 0)), (1, .ref (ad 3 w)), (2, .int (nI b))]) K dX5_openingBy_52 4 rfl bw_dec (by decide) rfl ?_
          refine r_goto K dX5_openingBy_55 10 (by decide) ?_
          refine r_lv (lv' := [(0, .ref (ad 0 0)), (1, .ref (ad 3 w)), (2, .int (nI b)), (3, .int (bw (i - 1)))]) [2, 3, 4, 0] rfl ?_
          exact ih_lp (i - 1) (by omega) (by omega) (by rw [h2]; exact opn_f (by omega) (by omega))
        · skip
          refine r_aload_n K dX5_openingBy_36 1 rfl rfl ?_
          refine r_aload_n K dX5_openingBy_37 2 rfl rfl ?_
          refine r_aload K dX5_openingBy_38 0 rfl ?_
          refine r_callV (st := []) K (k_X5_holdsBy (w := w) (j := i - 1) hl (by first | exact hb | exact hk | exact hj | exact hw | omega | assumption) I L (by first | exact hb | exact hk | exact hj | exact hw | omega | assumption) hV hV2) cw_X5_130 wd_291 wd_3 (by decide) (by decide) rfl rfl rfl rfl (Nat.le_of_ble_eq_true rfl) (by decide) (by decide) dX5_openingBy_40 ?_
          rintro _ _ _ ⟨rfl, rfl, rfl⟩
          show WW g z 5 0 0 ad (Wz z ad σ τ o) 43 [(4, .ref (ad 10 (i - 1))), (0, .ref (ad 0 0)), (1, .ref (ad 3 w)), (2, .int (nI b)), (3, .int (nI (i - 1)))] [.int (nI (hldN (σ 8) (σ 1) V (i - 1)))]
          refine r_if_eq K dX5_openingBy_43 52 (hldN (σ 8) (σ 1) V (i - 1) = 0) (n0_eq (by omega)) (by decide) (fun c_43 => ?_) (fun c_43 => ?_)
          · skip
            refine r_iinc (v := bw (i - 1)) (lv' := [(3, .int (bw (i - 1))), (4, .ref (ad 10 (i - 1))), (0, .ref (ad 0 0)), (1, .ref (ad 3 w)), (2, .int (nI b))]) K dX5_openingBy_52 4 rfl bw_dec (by decide) rfl ?_
            refine r_goto K dX5_openingBy_55 10 (by decide) ?_
            refine r_lv (lv' := [(0, .ref (ad 0 0)), (1, .ref (ad 3 w)), (2, .int (nI b)), (3, .int (bw (i - 1)))]) [2, 3, 4, 0] rfl ?_
            exact ih_lp (i - 1) (by omega) (by omega) (by rw [h2]; exact opn_f (by omega) (by omega))
          · skip
            refine r_aload K dX5_openingBy_46 0 rfl ?_
            refine r_get (v := .int (nI (σ 8 (i - 1) 4))) K fd_X5_288 (W_10 (by first | exact hb | exact hk | exact hj | exact hw | omega | assumption)) rfl rfl dX5_openingBy_48 ?_
            exact r_iret K (by decide) (by decide) ⟨congrArg (fun q => some (Value.int (nI q))) (by rw [h2]; exact (opn_t (by omega) (by omega) (by omega)).symm), rfl, rfl⟩ dX5_openingBy_51
  refine r_lv (lv' := [(0, .ref (ad 0 0)), (1, .ref (ad 3 w)), (2, .int (nI b)), (3, .int (bw (σ 0 1 0)))]) [1, 2, 3, 0] rfl ?_
  exact lp ((σ 0 1 0) + 1) (σ 0 1 0) (by omega) (by omega) (by rfl)
set_option maxRecDepth 100000 in
set_option maxHeartbeats 4000000 in
theorem k_X5_wetCellsBy {z : Zx} {l : Launch} {σ τ : Sg} {o : Int64 × UInt64} {ad : Nm} (hl : l.stackTraces = false) {w : Nat} (hw : w < 2) (I : InvB σ) (L : InvL σ) (D : InvD σ) {S : Nat → Nat} (hS : (fun i => σ 4 i w) = S) (hS2 : ∀ i, S i ≤ 300000) : Ko z l yX5_wetCellsBy cX5_wetCellsBy 4 (some .int) 3 0 0 [.ref (ad 0 0), .ref (ad 3 w)] ad (Wz z ad σ τ o) (okV (some (.int (nI (wsm (σ 2) (σ 1) S (σ 0 0 0))))) ad (Wz z ad σ τ o)) exNo := by
  refine ko_of hl (by decide +kernel) (Nat.le_of_ble_eq_true rfl) (fun g hg K => ?_)
  subst hg
  have q0 := I.1.1
  show WW g z 4 0 0 ad (Wz z ad σ τ o) 0 [(0, .ref (ad 0 0)), (1, .ref (ad 3 w))] []
  refine r_iconst (v := nI 0) K dX5_wetCellsBy_0 (by decide) ?_
  refine r_istore_n (lv' := [(2, .int (nI 0)), (0, .ref (ad 0 0)), (1, .ref (ad 3 w))]) K dX5_wetCellsBy_1 rfl (by decide) rfl ?_
  refine r_iconst (v := nI 0) K dX5_wetCellsBy_2 (by decide) ?_
  refine r_istore_n (lv' := [(3, .int (nI 0)), (2, .int (nI 0)), (0, .ref (ad 0 0)), (1, .ref (ad 3 w))]) K dX5_wetCellsBy_3 rfl (by decide) rfl ?_
  have lp : ∀ (fuel : Nat) (i : Nat), σ 0 0 0 - i < fuel → i ≤ σ 0 0 0 → WW g z 4 0 0 ad (Wz z ad σ τ o) 4 [(0, .ref (ad 0 0)), (1, .ref (ad 3 w)), (2, .int (nI (wsm (σ 2) (σ 1) S i))), (3, .int (nI i))] [] := by
    intro fuel
    induction fuel with
    | zero => intro i hf h1; exact absurd hf (Nat.not_lt_zero _)
    | succ fuel ih_lp =>
      intro i hf h1
      refine r_iload_n K dX5_wetCellsBy_4 3 rfl rfl ?_
      refine r_aload_n K dX5_wetCellsBy_5 0 rfl rfl ?_
      refine r_get (v := .ref (ad 1 0)) K fd_X5_10 rfl rfl rfl dX5_wetCellsBy_6 ?_
      refine r_callV (st := [.int (nI i)]) K (k_Jx4a65c_size_8abf5 (l0 := 0) hl (by decide)) cw_X5_39 wd_206 wd_207 (by decide) (by decide) (W_1 (by first | exact hb | exact hk | exact hj | exact hw | omega | assumption)) rfl rfl rfl (Nat.le_of_ble_eq_true rfl) (by decide) (by decide) dX5_wetCellsBy_9 ?_
      rintro _ _ _ ⟨rfl, rfl, rfl⟩
      show WW g z 4 0 0 ad (Wz z ad σ τ o) 12 [(0, .ref (ad 0 0)), (1, .ref (ad 3 w)), (2, .int (nI (wsm (σ 2) (σ 1) S i))), (3, .int (nI i))] [.int (nI (σ 0 0 0)), .int (nI i)]
      refine r_icmp_ge K dX5_wetCellsBy_12 47 (σ 0 0 0 ≤ i) (nI_leI (by omega) (by omega)) (by decide) (fun c_12 => ?_) (fun c_12 => ?_)
      · skip
        refine r_iload_n K dX5_wetCellsBy_47 2 rfl rfl ?_
        exact r_iret K (by decide) (by decide) ⟨congrArg (fun q => some (Value.int (nI q))) (by rw [show i = σ 0 0 0 by omega]), rfl, rfl⟩ dX5_wetCellsBy_48
      · skip
        have hi : i < σ 0 0 0 := by omega
        obtain ⟨-, -, -, hs, -⟩ := I.2.1 i hi
        have hw2 := wetc_wn (v := S i) hs (D i · hi) (σ 1 i 6) (Nat.le_refl _)
        refine r_iload_n K dX5_wetCellsBy_15 2 rfl rfl ?_
        refine r_aload_n K dX5_wetCellsBy_16 0 rfl rfl ?_
        refine r_get (v := .ref (ad 1 0)) K fd_X5_10 rfl rfl rfl dX5_wetCellsBy_17 ?_
        refine r_iload_n K dX5_wetCellsBy_20 3 rfl rfl ?_
        refine r_callV (st := [.int (nI (wsm (σ 2) (σ 1) S i))]) K (k_Jx4a65c_get_915e3 (l0 := 0) (i := i) hl (by decide) L (by first | exact hb | exact hk | exact hj | exact hw | omega | assumption)) cw_X5_127 wd_250 wd_251 (by decide) (by decide) (W_1 (by first | exact hb | exact hk | exact hj | exact hw | omega | assumption)) rfl rfl rfl (Nat.le_of_ble_eq_true rfl) (by decide) (by decide) dX5_wetCellsBy_21 ?_
        rintro _ _ _ ⟨rfl, rfl, rfl⟩
        show WW g z 4 0 0 ad (Wz z ad σ τ o) 24 [(0, .ref (ad 0 0)), (1, .ref (ad 3 w)), (2, .int (nI (wsm (σ 2) (σ 1) S i))), (3, .int (nI i))] [.ref (ad 9 i), .int (nI (wsm (σ 2) (σ 1) S i))]
        refine r_castS K wd_283 rfl (W_9 (by first | exact hb | exact hk | exact hj | exact hw | omega | assumption)) rfl dX5_wetCellsBy_24 ?_
        refine r_get (v := .ref (ad 12 i)) K fd_X5_84 (W_9 (by first | exact hb | exact hk | exact hj | exact hw | omega | assumption)) rfl rfl dX5_wetCellsBy_27 ?_
        refine r_aload_n K dX5_wetCellsBy_30 1 rfl rfl ?_
        refine r_get (v := .ref (ad 5 w)) K fd_X5_166 (W_3 (by first | exact hb | exact hk | exact hj | exact hw | omega | assumption)) rfl rfl dX5_wetCellsBy_31 ?_
        refine r_iload_n K dX5_wetCellsBy_34 3 rfl rfl ?_
        refine r_iald (j := i) (v := nI (S i)) K (W_5 hw) rfl rfl (by omega) (by decide) (by rw [← hS]) dX5_wetCellsBy_35 ?_
        refine r_callV (st := [.int (nI (wsm (σ 2) (σ 1) S i))]) K (k_X3_countWet (b := i) (v := S i) hl (by first | exact hb | exact hk | exact hj | exact hw | omega | assumption) hs.2.1 (by have := hS2 i; omega) (fun c hc => by rw [D _ _ (by first | exact hb | exact hk | exact hj | exact hw | omega | assumption) hc]; have := dryF_le hs hc; omega)) cw_X5_195 wd_318 wd_319 (by decide) (by decide) (W_12 (by first | exact hb | exact hk | exact hj | exact hw | omega | assumption)) rfl rfl rfl (Nat.le_of_ble_eq_true rfl) (by decide) (by decide) dX5_wetCellsBy_36 ?_
        rintro _ _ _ ⟨rfl, rfl, rfl⟩
        show WW g z 4 0 0 ad (Wz z ad σ τ o) 39 [(0, .ref (ad 0 0)), (1, .ref (ad 3 w)), (2, .int (nI (wsm (σ 2) (σ 1) S i))), (3, .int (nI i))] [.int (nI (wetc (σ 30 i) (S i) (σ 1 i 6))), .int (nI (wsm (σ 2) (σ 1) S i))]
        refine r_iadd (v := nI ((wsm (σ 2) (σ 1) S i) + (wetc (σ 30 i) (S i) (σ 1 i 6)))) K dX5_wetCellsBy_39 (nI_add _ _) ?_
        refine r_istore_n (lv' := [(2, .int (nI ((wsm (σ 2) (σ 1) S i) + (wetc (σ 30 i) (S i) (σ 1 i 6))))), (0, .ref (ad 0 0)), (1, .ref (ad 3 w)), (3, .int (nI i))]) K dX5_wetCellsBy_40 rfl (by decide) rfl ?_
        refine r_eq (lv' := [(2, .int (nI (wsm (σ 2) (σ 1) S (i + 1)))), (0, .ref (ad 0 0)), (1, .ref (ad 3 w)), (3, .int (nI i))]) rfl rfl (by rw [hw2]; rfl) rfl ?_
        refine r_iinc (v := nI (i + 1)) (lv' := [(3, .int (nI (i + 1))), (2, .int (nI (wsm (σ 2) (σ 1) S (i + 1)))), (0, .ref (ad 0 0)), (1, .ref (ad 3 w))]) K dX5_wetCellsBy_41 3 rfl (ic_1 _) (by decide) rfl ?_
        refine r_goto K dX5_wetCellsBy_44 4 (by decide) ?_
        refine r_lv (lv' := [(0, .ref (ad 0 0)), (1, .ref (ad 3 w)), (2, .int (nI (wsm (σ 2) (σ 1) S (i + 1)))), (3, .int (nI (i + 1)))]) [2, 3, 1, 0] rfl ?_
        exact ih_lp (i + 1) (by omega) (by omega)
  refine r_lv (lv' := [(0, .ref (ad 0 0)), (1, .ref (ad 3 w)), (2, .int (nI 0)), (3, .int (nI 0))]) [2, 3, 1, 0] rfl ?_
  exact lp (σ 0 0 0 - (0) + 1) 0 (by omega) (by omega)
set_option maxRecDepth 100000 in
set_option maxHeartbeats 4000000 in
theorem k_X5_moveWater {z : Zx} {l : Launch} {σ τ : Sg} {o : Int64 × UInt64} {ad : Nm} (hl : l.stackTraces = false) {w h fx fo : Nat} (hw : w < 2) (I : InvB σ) (L : InvL σ) (hh : h ≤ 60) (hfx : fx ≤ 6) (hfo : fo ≤ 10) (hV : ∀ b, σ 3 b w ≤ 2000) (hS : ∀ b, σ 4 b w ≤ 300000) : Ko z l yX5_moveWater cX5_moveWater 7 none 6 0 0 [.ref (ad 0 0), .ref (ad 3 w), .int (nI h), .int (bw fx), .int (nI fo)] ad (Wz z ad σ τ o) (okV none ad (Wz z ad (mv σ w fx fo h) τ o)) exNo := by
  refine ko_of hl (by decide +kernel) (Nat.le_of_ble_eq_true rfl) (fun g hg K => ?_)
  subst hg
  have q0 := I.1.1
  show WW g z 7 0 0 ad (Wz z ad σ τ o) 0 [(0, .ref (ad 0 0)), (1, .ref (ad 3 w)), (2, .int (nI h)), (3, .int (bw fx)), (4, .int (nI fo))] []
  refine r_iconst (v := nI 0) K dX5_moveWater_0 (by decide) ?_
  refine r_istore (lv' := [(5, .int (nI 0)), (0, .ref (ad 0 0)), (1, .ref (ad 3 w)), (2, .int (nI h)), (3, .int (bw fx)), (4, .int (nI fo))]) K dX5_moveWater_1 (by decide) rfl ?_
  refine r_mu (μ' := Wz z ad (sw σ w (fst 0 (fun b => σ 3 b w + σ 5 b h) (fun i => σ 3 i w)) (fun i => σ 4 i w) (σ 6 0 w) (fun i => σ 27 i w)) τ o) (by rw [fst_0, sw_id]) ?_
  have l1 : ∀ (fuel : Nat) (i : Nat), σ 0 0 0 - i < fuel → i ≤ σ 0 0 0 → WW g z 7 0 0 ad (Wz z ad (sw σ w (fst i (fun b => σ 3 b w + σ 5 b h) (fun i => σ 3 i w)) (fun i => σ 4 i w) (σ 6 0 w) (fun i => σ 27 i w)) τ o) 3 [(0, .ref (ad 0 0)), (1, .ref (ad 3 w)), (2, .int (nI h)), (3, .int (bw fx)), (4, .int (nI fo)), (5, .int (nI i))] [] := by
    intro fuel
    induction fuel with
    | zero => intro i hf h1; exact absurd hf (Nat.not_lt_zero _)
    | succ fuel ih_l1 =>
      intro i hf h1
      refine r_iload K dX5_moveWater_3 5 rfl ?_
      refine r_aload_n K dX5_moveWater_5 0 rfl rfl ?_
      refine r_get (v := .ref (ad 1 0)) K fd_X5_10 rfl rfl rfl dX5_moveWater_6 ?_
      refine r_callV (st := [.int (nI i)]) K (k_Jx4a65c_size_8abf5 (l0 := 0) hl (by decide)) cw_X5_39 wd_206 wd_207 (by decide) (by decide) (W_1 (by first | exact hb | exact hk | exact hj | exact hw | omega | assumption)) rfl rfl rfl (Nat.le_of_ble_eq_true rfl) (by decide) (by decide) dX5_moveWater_9 ?_
      rintro _ _ _ ⟨rfl, rfl, rfl⟩
      show WW g z 7 0 0 ad (Wz z ad (sw σ w (fst i (fun b => σ 3 b w + σ 5 b h) (fun i => σ 3 i w)) (fun i => σ 4 i w) (σ 6 0 w) (fun i => σ 27 i w)) τ o) 12 [(0, .ref (ad 0 0)), (1, .ref (ad 3 w)), (2, .int (nI h)), (3, .int (bw fx)), (4, .int (nI fo)), (5, .int (nI i))] [.int (nI (σ 0 0 0)), .int (nI i)]
      refine r_icmp_ge K dX5_moveWater_12 48 (σ 0 0 0 ≤ i) (nI_leI (by omega) (by omega)) (by decide) (fun c_12 => ?_) (fun c_12 => ?_)
      · skip
        refine r_iconst (v := nI 0) K dX5_moveWater_48 (by decide) ?_
        refine r_istore (lv' := [(5, .int (nI 0)), (0, .ref (ad 0 0)), (1, .ref (ad 3 w)), (2, .int (nI h)), (3, .int (bw fx)), (4, .int (nI fo))]) K dX5_moveWater_49 (by decide) rfl ?_
        refine r_mu (μ' := Wz z ad (sw σ w (mvR σ h (fun i => σ 3 i w)) (fun i => σ 4 i w) (σ 6 0 w) (fst 0 (mvO σ fx fo h (fun i => σ 3 i w)) (fun i => σ 27 i w))) τ o) (by rw [fst_0, show i = σ 0 0 0 by omega]; rfl) ?_
        have l2 : ∀ (fuel : Nat) (i : Nat), σ 0 0 0 - i < fuel → i ≤ σ 0 0 0 → WW g z 7 0 0 ad (Wz z ad (sw σ w (mvR σ h (fun i => σ 3 i w)) (fun i => σ 4 i w) (σ 6 0 w) (fst i (mvO σ fx fo h (fun i => σ 3 i w)) (fun i => σ 27 i w))) τ o) 51 [(0, .ref (ad 0 0)), (1, .ref (ad 3 w)), (2, .int (nI h)), (3, .int (bw fx)), (4, .int (nI fo)), (5, .int (nI i))] [] := by
          intro fuel
          induction fuel with
          | zero => intro i hf h1; exact absurd hf (Nat.not_lt_zero _)
          | succ fuel ih_l2 =>
            intro i hf h1
            refine r_iload K dX5_moveWater_51 5 rfl ?_
            refine r_aload_n K dX5_moveWater_53 0 rfl rfl ?_
            refine r_get (v := .ref (ad 1 0)) K fd_X5_10 rfl rfl rfl dX5_moveWater_54 ?_
            refine r_callV (st := [.int (nI i)]) K (k_Jx4a65c_size_8abf5 (l0 := 0) hl (by decide)) cw_X5_39 wd_206 wd_207 (by decide) (by decide) (W_1 (by first | exact hb | exact hk | exact hj | exact hw | omega | assumption)) rfl rfl rfl (Nat.le_of_ble_eq_true rfl) (by decide) (by decide) dX5_moveWater_57 ?_
            rintro _ _ _ ⟨rfl, rfl, rfl⟩
            show WW g z 7 0 0 ad (Wz z ad (sw σ w (mvR σ h (fun i => σ 3 i w)) (fun i => σ 4 i w) (σ 6 0 w) (fst i (mvO σ fx fo h (fun i => σ 3 i w)) (fun i => σ 27 i w))) τ o) 60 [(0, .ref (ad 0 0)), (1, .ref (ad 3 w)), (2, .int (nI h)), (3, .int (bw fx)), (4, .int (nI fo)), (5, .int (nI i))] [.int (nI (σ 0 0 0)), .int (nI i)]
            refine r_icmp_ge K dX5_moveWater_60 124 (σ 0 0 0 ≤ i) (nI_leI (by omega) (by omega)) (by decide) (fun c_60 => ?_) (fun c_60 => ?_)
            · skip
              refine r_iconst (v := nI 0) K dX5_moveWater_124 (by decide) ?_
              refine r_istore (lv' := [(5, .int (nI 0)), (0, .ref (ad 0 0)), (1, .ref (ad 3 w)), (2, .int (nI h)), (3, .int (bw fx)), (4, .int (nI fo))]) K dX5_moveWater_125 (by decide) rfl ?_
              refine r_mu (μ' := Wz z ad (sw σ w (gtV (σ 1) (mvO σ fx fo h (fun i => σ 3 i w)) (mvR σ h (fun i => σ 3 i w)) 0) (fun i => σ 4 i w) ((σ 6 0 w) + gtR (σ 1) (mvO σ fx fo h (fun i => σ 3 i w)) 0) (fst (σ 0 0 0) (mvO σ fx fo h (fun i => σ 3 i w)) (fun i => σ 27 i w))) τ o) (by rw [show i = σ 0 0 0 by omega]; rfl) ?_
              have l3 : ∀ (fuel : Nat) (i : Nat), σ 0 0 0 - i < fuel → i ≤ σ 0 0 0 → WW g z 7 0 0 ad (Wz z ad (sw σ w (gtV (σ 1) (mvO σ fx fo h (fun i => σ 3 i w)) (mvR σ h (fun i => σ 3 i w)) i) (fun i => σ 4 i w) ((σ 6 0 w) + gtR (σ 1) (mvO σ fx fo h (fun i => σ 3 i w)) i) (fst (σ 0 0 0) (mvO σ fx fo h (fun i => σ 3 i w)) (fun i => σ 27 i w))) τ o) 127 [(0, .ref (ad 0 0)), (1, .ref (ad 3 w)), (2, .int (nI h)), (3, .int (bw fx)), (4, .int (nI fo)), (5, .int (nI i))] [] := by
                intro fuel
                induction fuel with
                | zero => intro i hf h1; exact absurd hf (Nat.not_lt_zero _)
                | succ fuel ih_l3 =>
                  intro i hf h1
                  refine r_iload K dX5_moveWater_127 5 rfl ?_
                  refine r_aload_n K dX5_moveWater_129 0 rfl rfl ?_
                  refine r_get (v := .ref (ad 1 0)) K fd_X5_10 rfl rfl rfl dX5_moveWater_130 ?_
                  refine r_callV (st := [.int (nI i)]) K (k_Jx4a65c_size_8abf5 (l0 := 0) hl (by decide)) cw_X5_39 wd_206 wd_207 (by decide) (by decide) (W_1 (by first | exact hb | exact hk | exact hj | exact hw | omega | assumption)) rfl rfl rfl (Nat.le_of_ble_eq_true rfl) (by decide) (by decide) dX5_moveWater_133 ?_
                  rintro _ _ _ ⟨rfl, rfl, rfl⟩
                  show WW g z 7 0 0 ad (Wz z ad (sw σ w (gtV (σ 1) (mvO σ fx fo h (fun i => σ 3 i w)) (mvR σ h (fun i => σ 3 i w)) i) (fun i => σ 4 i w) ((σ 6 0 w) + gtR (σ 1) (mvO σ fx fo h (fun i => σ 3 i w)) i) (fst (σ 0 0 0) (mvO σ fx fo h (fun i => σ 3 i w)) (fun i => σ 27 i w))) τ o) 136 [(0, .ref (ad 0 0)), (1, .ref (ad 3 w)), (2, .int (nI h)), (3, .int (bw fx)), (4, .int (nI fo)), (5, .int (nI i))] [.int (nI (σ 0 0 0)), .int (nI i)]
                  refine r_icmp_ge K dX5_moveWater_136 166 (σ 0 0 0 ≤ i) (nI_leI (by omega) (by omega)) (by decide) (fun c_136 => ?_) (fun c_136 => ?_)
                  · skip
                    refine r_iconst (v := nI 0) K dX5_moveWater_166 (by decide) ?_
                    refine r_istore (lv' := [(5, .int (nI 0)), (0, .ref (ad 0 0)), (1, .ref (ad 3 w)), (2, .int (nI h)), (3, .int (bw fx)), (4, .int (nI fo))]) K dX5_moveWater_167 (by decide) rfl ?_
                    refine r_mu (μ' := Wz z ad (sw σ w (fst 0 (fun b => stV (σ 1 b 0 * σ 1 b 1) ((mvG σ fx fo h (fun i => σ 3 i w)) b) (σ 4 b w)) (mvG σ fx fo h (fun i => σ 3 i w))) (fst 0 (fun b => stS (σ 1 b 0 * σ 1 b 1) ((mvG σ fx fo h (fun i => σ 3 i w)) b) (σ 4 b w)) (fun i => σ 4 i w)) ((σ 6 0 w) + gtR (σ 1) (mvO σ fx fo h (fun i => σ 3 i w)) (σ 0 0 0)) (fst (σ 0 0 0) (mvO σ fx fo h (fun i => σ 3 i w)) (fun i => σ 27 i w))) τ o) (by rw [show i = σ 0 0 0 by omega, fst_0, fst_0]; rfl) ?_
                    have l4 : ∀ (fuel : Nat) (i : Nat), σ 0 0 0 - i < fuel → i ≤ σ 0 0 0 → WW g z 7 0 0 ad (Wz z ad (sw σ w (fst i (fun b => stV (σ 1 b 0 * σ 1 b 1) ((mvG σ fx fo h (fun i => σ 3 i w)) b) (σ 4 b w)) (mvG σ fx fo h (fun i => σ 3 i w))) (fst i (fun b => stS (σ 1 b 0 * σ 1 b 1) ((mvG σ fx fo h (fun i => σ 3 i w)) b) (σ 4 b w)) (fun i => σ 4 i w)) ((σ 6 0 w) + gtR (σ 1) (mvO σ fx fo h (fun i => σ 3 i w)) (σ 0 0 0)) (fst (σ 0 0 0) (mvO σ fx fo h (fun i => σ 3 i w)) (fun i => σ 27 i w))) τ o) 169 [(0, .ref (ad 0 0)), (1, .ref (ad 3 w)), (2, .int (nI h)), (3, .int (bw fx)), (4, .int (nI fo)), (5, .int (nI i))] [] := by
                      intro fuel
                      induction fuel with
                      | zero => intro i hf h1; exact absurd hf (Nat.not_lt_zero _)
                      | succ fuel ih_l4 =>
                        intro i hf h1
                        refine r_iload K dX5_moveWater_169 5 rfl ?_
                        refine r_aload_n K dX5_moveWater_171 0 rfl rfl ?_
                        refine r_get (v := .ref (ad 1 0)) K fd_X5_10 rfl rfl rfl dX5_moveWater_172 ?_
                        refine r_callV (st := [.int (nI i)]) K (k_Jx4a65c_size_8abf5 (l0 := 0) hl (by decide)) cw_X5_39 wd_206 wd_207 (by decide) (by decide) (W_1 (by first | exact hb | exact hk | exact hj | exact hw | omega | assumption)) rfl rfl rfl (Nat.le_of_ble_eq_true rfl) (by decide) (by decide) dX5_moveWater_175 ?_
                        rintro _ _ _ ⟨rfl, rfl, rfl⟩
                        show WW g z 7 0 0 ad (Wz z ad (sw σ w (fst i (fun b => stV (σ 1 b 0 * σ 1 b 1) ((mvG σ fx fo h (fun i => σ 3 i w)) b) (σ 4 b w)) (mvG σ fx fo h (fun i => σ 3 i w))) (fst i (fun b => stS (σ 1 b 0 * σ 1 b 1) ((mvG σ fx fo h (fun i => σ 3 i w)) b) (σ 4 b w)) (fun i => σ 4 i w)) ((σ 6 0 w) + gtR (σ 1) (mvO σ fx fo h (fun i => σ 3 i w)) (σ 0 0 0)) (fst (σ 0 0 0) (mvO σ fx fo h (fun i => σ 3 i w)) (fun i => σ 27 i w))) τ o) 178 [(0, .ref (ad 0 0)), (1, .ref (ad 3 w)), (2, .int (nI h)), (3, .int (bw fx)), (4, .int (nI fo)), (5, .int (nI i))] [.int (nI (σ 0 0 0)), .int (nI i)]
                        refine r_icmp_ge K dX5_moveWater_178 208 (σ 0 0 0 ≤ i) (nI_leI (by omega) (by omega)) (by decide) (fun c_178 => ?_) (fun c_178 => ?_)
                        · skip
                          exact r_vret K (by decide) (by decide) ⟨rfl, rfl, by rw [show i = σ 0 0 0 by omega]; rfl⟩ dX5_moveWater_208
                        · skip
                          have hi : i < σ 0 0 0 := by omega
                          refine r_aload_n K dX5_moveWater_181 1 rfl rfl ?_
                          refine r_iload K dX5_moveWater_182 5 rfl ?_
                          refine r_aload_n K dX5_moveWater_184 0 rfl rfl ?_
                          refine r_get (v := .ref (ad 1 0)) K fd_X5_10 rfl rfl rfl dX5_moveWater_185 ?_
                          refine r_iload K dX5_moveWater_188 5 rfl ?_
                          refine r_callV (st := [.int (nI i), .ref (ad 3 w)]) K (k_Jx4a65c_get_915e3 (l0 := 0) (i := i) hl (by decide) L (by first | exact hb | exact hk | exact hj | exact hw | omega | assumption)) cw_X5_127 wd_250 wd_251 (by decide) (by decide) (W_1 (by first | exact hb | exact hk | exact hj | exact hw | omega | assumption)) rfl rfl rfl (Nat.le_of_ble_eq_true rfl) (by decide) (by decide) dX5_moveWater_190 ?_
                          rintro _ _ _ ⟨rfl, rfl, rfl⟩
                          show WW g z 7 0 0 ad (Wz z ad (sw σ w (fst i (fun b => stV (σ 1 b 0 * σ 1 b 1) ((mvG σ fx fo h (fun i => σ 3 i w)) b) (σ 4 b w)) (mvG σ fx fo h (fun i => σ 3 i w))) (fst i (fun b => stS (σ 1 b 0 * σ 1 b 1) ((mvG σ fx fo h (fun i => σ 3 i w)) b) (σ 4 b w)) (fun i => σ 4 i w)) ((σ 6 0 w) + gtR (σ 1) (mvO σ fx fo h (fun i => σ 3 i w)) (σ 0 0 0)) (fst (σ 0 0 0) (mvO σ fx fo h (fun i => σ 3 i w)) (fun i => σ 27 i w))) τ o) 193 [(0, .ref (ad 0 0)), (1, .ref (ad 3 w)), (2, .int (nI h)), (3, .int (bw fx)), (4, .int (nI fo)), (5, .int (nI i))] [.ref (ad 9 i), .int (nI i), .ref (ad 3 w)]
                          refine r_castS K wd_283 rfl (W_9 (by first | exact hb | exact hk | exact hj | exact hw | omega | assumption)) rfl dX5_moveWater_193 ?_
                          refine r_callV (st := [.int (nI i), .ref (ad 3 w)]) K (k_X0_capacity (b := i) hl (by first | exact hb | exact hk | exact hj | exact hw | omega | assumption)) cw_X5_99 wd_305 wd_306 (by decide) (by decide) (W_9 (by first | exact hb | exact hk | exact hj | exact hw | omega | assumption)) rfl rfl rfl (Nat.le_of_ble_eq_true rfl) (by decide) (by decide) dX5_moveWater_196 ?_
                          rintro _ _ _ ⟨rfl, rfl, rfl⟩
                          show WW g z 7 0 0 ad (Wz z ad (sw σ w (fst i (fun b => stV (σ 1 b 0 * σ 1 b 1) ((mvG σ fx fo h (fun i => σ 3 i w)) b) (σ 4 b w)) (mvG σ fx fo h (fun i => σ 3 i w))) (fst i (fun b => stS (σ 1 b 0 * σ 1 b 1) ((mvG σ fx fo h (fun i => σ 3 i w)) b) (σ 4 b w)) (fun i => σ 4 i w)) ((σ 6 0 w) + gtR (σ 1) (mvO σ fx fo h (fun i => σ 3 i w)) (σ 0 0 0)) (fst (σ 0 0 0) (mvO σ fx fo h (fun i => σ 3 i w)) (fun i => σ 27 i w))) τ o) 199 [(0, .ref (ad 0 0)), (1, .ref (ad 3 w)), (2, .int (nI h)), (3, .int (bw fx)), (4, .int (nI fo)), (5, .int (nI i))] [.int (nI (σ 1 i 0 * σ 1 i 1)), .int (nI i), .ref (ad 3 w)]
                          refine r_callV (st := []) K (k_X4_settle (σ := (sw σ w (fst i (fun b => stV (σ 1 b 0 * σ 1 b 1) ((mvG σ fx fo h (fun i => σ 3 i w)) b) (σ 4 b w)) (mvG σ fx fo h (fun i => σ 3 i w))) (fst i (fun b => stS (σ 1 b 0 * σ 1 b 1) ((mvG σ fx fo h (fun i => σ 3 i w)) b) (σ 4 b w)) (fun i => σ 4 i w)) ((σ 6 0 w) + gtR (σ 1) (mvO σ fx fo h (fun i => σ 3 i w)) (σ 0 0 0)) (fst (σ 0 0 0) (mvO σ fx fo h (fun i => σ 3 i w)) (fun i => σ 27 i w)))) (w := w) (i := i) (cap := σ 1 i 0 * σ 1 i 1) hl hw (by omega) (by rw [sw_3, fst_ge (Nat.lt_irrefl i)]; have := mvG_le (fx := fx) (h := h) I hfo hV i; omega) (by rw [sw_4, fst_ge (Nat.lt_irrefl i)]; exact hS i) (cap_le I hi)) cw_X5_348 wd_309 wd_310 (by decide) (by decide) (W_3 (by first | exact hb | exact hk | exact hj | exact hw | omega | assumption)) rfl rfl rfl (Nat.le_of_ble_eq_true rfl) (by decide) (by decide) dX5_moveWater_199 ?_
                          rintro _ _ _ ⟨rfl, rfl, rfl⟩
                          rw [stl_sw, fst_ge (Nat.lt_irrefl i), fst_ge (Nat.lt_irrefl i)]
                          have e1 : up1 (fst i (fun b => stV (σ 1 b 0 * σ 1 b 1) ((mvG σ fx fo h (fun i => σ 3 i w)) b) (σ 4 b w)) (mvG σ fx fo h (fun i => σ 3 i w))) i (stV (σ 1 i 0 * σ 1 i 1) ((mvG σ fx fo h (fun i => σ 3 i w)) i) (σ 4 i w)) = fst (i + 1) (fun b => stV (σ 1 b 0 * σ 1 b 1) ((mvG σ fx fo h (fun i => σ 3 i w)) b) (σ 4 b w)) (mvG σ fx fo h (fun i => σ 3 i w)) := fst_1
                          have e2 : up1 (fst i (fun b => stS (σ 1 b 0 * σ 1 b 1) ((mvG σ fx fo h (fun i => σ 3 i w)) b) (σ 4 b w)) (fun i => σ 4 i w)) i (stS (σ 1 i 0 * σ 1 i 1) ((mvG σ fx fo h (fun i => σ 3 i w)) i) (σ 4 i w)) = fst (i + 1) (fun b => stS (σ 1 b 0 * σ 1 b 1) ((mvG σ fx fo h (fun i => σ 3 i w)) b) (σ 4 b w)) (fun i => σ 4 i w) := fst_1
                          rw [e1, e2]
                          show WW g z 7 0 0 ad (Wz z ad (sw σ w (fst (i + 1) (fun b => stV (σ 1 b 0 * σ 1 b 1) ((mvG σ fx fo h (fun i => σ 3 i w)) b) (σ 4 b w)) (mvG σ fx fo h (fun i => σ 3 i w))) (fst (i + 1) (fun b => stS (σ 1 b 0 * σ 1 b 1) ((mvG σ fx fo h (fun i => σ 3 i w)) b) (σ 4 b w)) (fun i => σ 4 i w)) ((σ 6 0 w) + gtR (σ 1) (mvO σ fx fo h (fun i => σ 3 i w)) (σ 0 0 0)) (fst (σ 0 0 0) (mvO σ fx fo h (fun i => σ 3 i w)) (fun i => σ 27 i w))) τ o) 202 [(0, .ref (ad 0 0)), (1, .ref (ad 3 w)), (2, .int (nI h)), (3, .int (bw fx)), (4, .int (nI fo)), (5, .int (nI i))] []
                          refine r_iinc (v := nI (i + 1)) (lv' := [(5, .int (nI (i + 1))), (0, .ref (ad 0 0)), (1, .ref (ad 3 w)), (2, .int (nI h)), (3, .int (bw fx)), (4, .int (nI fo))]) K dX5_moveWater_202 5 rfl (ic_1 _) (by decide) rfl ?_
                          refine r_goto K dX5_moveWater_205 169 (by decide) ?_
                          refine r_lv (lv' := [(0, .ref (ad 0 0)), (1, .ref (ad 3 w)), (2, .int (nI h)), (3, .int (bw fx)), (4, .int (nI fo)), (5, .int (nI (i + 1)))]) [1, 2, 3, 4, 5, 0] rfl ?_
                          exact ih_l4 (i + 1) (by omega) (by omega)
                    refine r_lv (lv' := [(0, .ref (ad 0 0)), (1, .ref (ad 3 w)), (2, .int (nI h)), (3, .int (bw fx)), (4, .int (nI fo)), (5, .int (nI 0))]) [1, 2, 3, 4, 5, 0] rfl ?_
                    exact l4 (σ 0 0 0 - (0) + 1) 0 (by omega) (by omega)
                  · skip
                    have hi : i < σ 0 0 0 := by omega
                    have hx := (I.2.1 i hi).2.1
                    refine r_aload_n K dX5_moveWater_139 1 rfl rfl ?_
                    refine r_iload K dX5_moveWater_140 5 rfl ?_
                    refine r_aload_n K dX5_moveWater_142 0 rfl rfl ?_
                    refine r_get (v := .ref (ad 1 0)) K fd_X5_10 rfl rfl rfl dX5_moveWater_143 ?_
                    refine r_iload K dX5_moveWater_146 5 rfl ?_
                    refine r_callV (st := [.int (nI i), .ref (ad 3 w)]) K (k_Jx4a65c_get_915e3 (l0 := 0) (i := i) hl (by decide) L (by first | exact hb | exact hk | exact hj | exact hw | omega | assumption)) cw_X5_127 wd_250 wd_251 (by decide) (by decide) (W_1 (by first | exact hb | exact hk | exact hj | exact hw | omega | assumption)) rfl rfl rfl (Nat.le_of_ble_eq_true rfl) (by decide) (by decide) dX5_moveWater_148 ?_
                    rintro _ _ _ ⟨rfl, rfl, rfl⟩
                    show WW g z 7 0 0 ad (Wz z ad (sw σ w (gtV (σ 1) (mvO σ fx fo h (fun i => σ 3 i w)) (mvR σ h (fun i => σ 3 i w)) i) (fun i => σ 4 i w) ((σ 6 0 w) + gtR (σ 1) (mvO σ fx fo h (fun i => σ 3 i w)) i) (fst (σ 0 0 0) (mvO σ fx fo h (fun i => σ 3 i w)) (fun i => σ 27 i w))) τ o) 151 [(0, .ref (ad 0 0)), (1, .ref (ad 3 w)), (2, .int (nI h)), (3, .int (bw fx)), (4, .int (nI fo)), (5, .int (nI i))] [.ref (ad 9 i), .int (nI i), .ref (ad 3 w)]
                    refine r_castS K wd_283 rfl (W_9 (by first | exact hb | exact hk | exact hj | exact hw | omega | assumption)) rfl dX5_moveWater_151 ?_
                    refine r_get (v := .int (bw (σ 1 i 3))) K fd_X5_341 (W_9 (by first | exact hb | exact hk | exact hj | exact hw | omega | assumption)) rfl rfl dX5_moveWater_154 ?_
                    refine r_callV (st := []) K (k_X4_runThroughGate (σ := (sw σ w (gtV (σ 1) (mvO σ fx fo h (fun i => σ 3 i w)) (mvR σ h (fun i => σ 3 i w)) i) (fun i => σ 4 i w) ((σ 6 0 w) + gtR (σ 1) (mvO σ fx fo h (fun i => σ 3 i w)) i) (fst (σ 0 0 0) (mvO σ fx fo h (fun i => σ 3 i w)) (fun i => σ 27 i w)))) (w := w) (i := i) (x := σ 1 i 3) hl hw (by omega) (by omega) (by omega) (by rw [sw_27, sw_3, fst_lt hi, gtV_hi (fun m hm => (I.2.1 m (by omega)).2.1.2.2) (Nat.le_refl i)]; exact mvO_leV)) cw_X5_344 wd_301 wd_302 (by decide) (by decide) (W_3 (by first | exact hb | exact hk | exact hj | exact hw | omega | assumption)) rfl rfl rfl (Nat.le_of_ble_eq_true rfl) (by decide) (by decide) dX5_moveWater_157 ?_
                    rintro _ _ _ ⟨rfl, rfl, rfl⟩
                    rw [gt_step (fst_lt hi) (by omega)]
                    show WW g z 7 0 0 ad (Wz z ad (sw σ w (gtV (σ 1) (mvO σ fx fo h (fun i => σ 3 i w)) (mvR σ h (fun i => σ 3 i w)) (i + 1)) (fun i => σ 4 i w) ((σ 6 0 w) + gtR (σ 1) (mvO σ fx fo h (fun i => σ 3 i w)) (i + 1)) (fst (σ 0 0 0) (mvO σ fx fo h (fun i => σ 3 i w)) (fun i => σ 27 i w))) τ o) 160 [(0, .ref (ad 0 0)), (1, .ref (ad 3 w)), (2, .int (nI h)), (3, .int (bw fx)), (4, .int (nI fo)), (5, .int (nI i))] []
                    refine r_iinc (v := nI (i + 1)) (lv' := [(5, .int (nI (i + 1))), (0, .ref (ad 0 0)), (1, .ref (ad 3 w)), (2, .int (nI h)), (3, .int (bw fx)), (4, .int (nI fo))]) K dX5_moveWater_160 5 rfl (ic_1 _) (by decide) rfl ?_
                    refine r_goto K dX5_moveWater_163 127 (by decide) ?_
                    refine r_lv (lv' := [(0, .ref (ad 0 0)), (1, .ref (ad 3 w)), (2, .int (nI h)), (3, .int (bw fx)), (4, .int (nI fo)), (5, .int (nI (i + 1)))]) [1, 2, 3, 4, 5, 0] rfl ?_
                    exact ih_l3 (i + 1) (by omega) (by omega)
              refine r_lv (lv' := [(0, .ref (ad 0 0)), (1, .ref (ad 3 w)), (2, .int (nI h)), (3, .int (bw fx)), (4, .int (nI fo)), (5, .int (nI 0))]) [1, 2, 3, 4, 5, 0] rfl ?_
              exact l3 (σ 0 0 0 - (0) + 1) 0 (by omega) (by omega)
            · skip
              have hi : i < σ 0 0 0 := by omega
              refine r_iload K dX5_moveWater_63 5 rfl ?_
              refine r_iload_n K dX5_moveWater_65 3 rfl rfl ?_
              refine r_icmp_ne K dX5_moveWater_66 74 (i + 1 = fx) (bw_eqN (by omega) (by omega)) (by decide) (fun c_66 => ?_) (fun c_66 => ?_)
              · skip
                refine r_aload_n K dX5_moveWater_74 0 rfl rfl ?_
                refine r_aload_n K dX5_moveWater_75 1 rfl rfl ?_
                refine r_iload K dX5_moveWater_76 5 rfl ?_
                refine r_callV (st := []) K (k_X5_openingBy (σ := (sw σ w (mvR σ h (fun i => σ 3 i w)) (fun i => σ 4 i w) (σ 6 0 w) (fst i (mvO σ fx fo h (fun i => σ 3 i w)) (fun i => σ 27 i w)))) (w := w) (b := i) (V := (mvR σ h (fun i => σ 3 i w))) hl hw I L hi (funext fun _ => sw_3) (fun b => by have := mvR_le (h := h) I hV b; omega)) cw_X5_134 wd_286 wd_2 (by decide) (by decide) rfl rfl rfl rfl (Nat.le_of_ble_eq_true rfl) (by decide) (by decide) dX5_moveWater_78 ?_
                rintro _ _ _ ⟨rfl, rfl, rfl⟩
                show WW g z 7 0 0 ad (Wz z ad (sw σ w (mvR σ h (fun i => σ 3 i w)) (fun i => σ 4 i w) (σ 6 0 w) (fst i (mvO σ fx fo h (fun i => σ 3 i w)) (fun i => σ 27 i w))) τ o) 81 [(0, .ref (ad 0 0)), (1, .ref (ad 3 w)), (2, .int (nI h)), (3, .int (bw fx)), (4, .int (nI fo)), (5, .int (nI i))] [.int (nI (opn (σ 8) (σ 1) (mvR σ h (fun i => σ 3 i w)) i (σ 0 1 0)))]
                refine r_eq (st' := [.int (nI (opF (σ 8) (σ 1) (mvR σ h (fun i => σ 3 i w)) (σ 0 1 0) fx fo i))]) rfl rfl rfl (by unfold opF; rw [if_neg (by omega)]) ?_
                refine r_istore (lv' := [(6, .int (nI (opF (σ 8) (σ 1) (mvR σ h (fun i => σ 3 i w)) (σ 0 1 0) fx fo i))), (0, .ref (ad 0 0)), (1, .ref (ad 3 w)), (2, .int (nI h)), (3, .int (bw fx)), (4, .int (nI fo)), (5, .int (nI i))]) K dX5_moveWater_81 (by decide) rfl ?_
                have g1 := opF_le (V := (mvR σ h (fun i => σ 3 i w))) (fx := fx) (b := i) (fun j hj => (I.2.2.1 j hj).2.2.2.2) (I.2.1 i hi).2.2.1.1 hfo
                have g2 := Nat.mul_le_mul g1 (I.2.1 i hi).1.2.2
                have g3 := mvR_le (h := h) I hV i
                refine r_aload_n K dX5_moveWater_83 2 rfl rfl ?_
                refine r_get (v := .ref (ad 6 w)) K fd_X5_330 (W_3 (by first | exact hb | exact hk | exact hj | exact hw | omega | assumption)) rfl rfl dX5_moveWater_84 ?_
                refine r_iload K dX5_moveWater_87 6 rfl ?_
                refine r_iload K dX5_moveWater_89 0 rfl ?_
                refine r_aload_n K dX5_moveWater_91 1 rfl rfl ?_
                refine r_get (v := .ref (ad 1 0)) K fd_X5_10 rfl rfl rfl dX5_moveWater_92 ?_
                refine r_iload K dX5_moveWater_95 6 rfl ?_
                refine r_callV (st := [.int (nI (opF (σ 8) (σ 1) (mvR σ h (fun i => σ 3 i w)) (σ 0 1 0) fx fo i)), .int (nI i), .ref (ad 6 w)]) K (k_Jx4a65c_get_915e3 (l0 := 0) (i := i) hl (by decide) L (by first | exact hb | exact hk | exact hj | exact hw | omega | assumption)) cw_X5_127 wd_250 wd_251 (by decide) (by decide) (W_1 (by first | exact hb | exact hk | exact hj | exact hw | omega | assumption)) rfl rfl rfl (Nat.le_of_ble_eq_true rfl) (by decide) (by decide) dX5_moveWater_97 ?_
                rintro _ _ _ ⟨rfl, rfl, rfl⟩
                show WW g z 7 0 0 ad (Wz z ad (sw σ w (mvR σ h (fun i => σ 3 i w)) (fun i => σ 4 i w) (σ 6 0 w) (fst i (mvO σ fx fo h (fun i => σ 3 i w)) (fun i => σ 27 i w))) τ o) 100 [(6, .int (nI (opF (σ 8) (σ 1) (mvR σ h (fun i => σ 3 i w)) (σ 0 1 0) fx fo i))), (0, .ref (ad 0 0)), (1, .ref (ad 3 w)), (2, .int (nI h)), (3, .int (bw fx)), (4, .int (nI fo)), (5, .int (nI i))] [.ref (ad 9 i), .int (nI (opF (σ 8) (σ 1) (mvR σ h (fun i => σ 3 i w)) (σ 0 1 0) fx fo i)), .int (nI i), .ref (ad 6 w)]
                refine r_castS K wd_283 rfl (W_9 (by first | exact hb | exact hk | exact hj | exact hw | omega | assumption)) rfl dX5_moveWater_100 ?_
                refine r_get (v := .int (nI (σ 1 i 2))) K fd_X5_333 (W_9 (by first | exact hb | exact hk | exact hj | exact hw | omega | assumption)) rfl rfl dX5_moveWater_103 ?_
                refine r_imul (v := nI ((opF (σ 8) (σ 1) (mvR σ h (fun i => σ 3 i w)) (σ 0 1 0) fx fo i) * (σ 1 i 2))) K dX5_moveWater_106 (pk_mul _ _) ?_
                refine r_aload_n K dX5_moveWater_107 2 rfl rfl ?_
                refine r_get (v := .ref (ad 4 w)) K fd_X5_159 (W_3 (by first | exact hb | exact hk | exact hj | exact hw | omega | assumption)) rfl rfl dX5_moveWater_108 ?_
                refine r_iload K dX5_moveWater_111 6 rfl ?_
                refine r_iald (j := i) (v := nI ((mvR σ h (fun i => σ 3 i w)) i)) K (W_4 hw) rfl rfl (by omega) (by decide) (by rw [sw_3]) dX5_moveWater_113 ?_
                refine r_mmin (v := nI (min ((opF (σ 8) (σ 1) (mvR σ h (fun i => σ 3 i w)) (σ 0 1 0) fx fo i) * (σ 1 i 2)) ((mvR σ h (fun i => σ 3 i w)) i))) K wd_297 wd_298 wd_68 wd_299 (Nat.le_of_ble_eq_true rfl) (mminN (by omega) (by omega)) (by decide) (by decide) dX5_moveWater_114 ?_
                have e : up1 (fst i (mvO σ fx fo h (fun i => σ 3 i w)) (fun i => σ 27 i w)) i (min (opF (σ 8) (σ 1) (mvR σ h (fun i => σ 3 i w)) (σ 0 1 0) fx fo i * σ 1 i 2) ((mvR σ h (fun i => σ 3 i w)) i)) = fst (i + 1) (mvO σ fx fo h (fun i => σ 3 i w)) (fun i => σ 27 i w) := fst_1
                refine r_iast (j := i) K (W_6 hw) rfl rfl (by omega) (by decide) rfl dX5_moveWater_117 ?_
                refine r_mu (u_6 hw) ?_
                rw [su_sw27, e]
                show WW g z 7 0 0 ad (Wz z ad (sw σ w (mvR σ h (fun i => σ 3 i w)) (fun i => σ 4 i w) (σ 6 0 w) (fst (i + 1) (mvO σ fx fo h (fun i => σ 3 i w)) (fun i => σ 27 i w))) τ o) 118 [(6, .int (nI (opF (σ 8) (σ 1) (mvR σ h (fun i => σ 3 i w)) (σ 0 1 0) fx fo i))), (0, .ref (ad 0 0)), (1, .ref (ad 3 w)), (2, .int (nI h)), (3, .int (bw fx)), (4, .int (nI fo)), (5, .int (nI i))] []
                refine r_iinc (v := nI (i + 1)) (lv' := [(5, .int (nI (i + 1))), (6, .int (nI (opF (σ 8) (σ 1) (mvR σ h (fun i => σ 3 i w)) (σ 0 1 0) fx fo i))), (0, .ref (ad 0 0)), (1, .ref (ad 3 w)), (2, .int (nI h)), (3, .int (bw fx)), (4, .int (nI fo))]) K dX5_moveWater_118 6 rfl (ic_1 _) (by decide) rfl ?_
                refine r_goto K dX5_moveWater_121 51 (by decide) ?_
                refine r_lv (lv' := [(0, .ref (ad 0 0)), (1, .ref (ad 3 w)), (2, .int (nI h)), (3, .int (bw fx)), (4, .int (nI fo)), (5, .int (nI (i + 1)))]) [2, 3, 4, 5, 6, 0] rfl ?_
                exact ih_l2 (i + 1) (by omega) (by omega)
              · skip
                refine r_iload K dX5_moveWater_69 4 rfl ?_
                refine r_goto K dX5_moveWater_71 81 (by decide) ?_
                refine r_eq (st' := [.int (nI (opF (σ 8) (σ 1) (mvR σ h (fun i => σ 3 i w)) (σ 0 1 0) fx fo i))]) rfl rfl rfl (by unfold opF; rw [if_pos (by omega)]) ?_
                refine r_istore (lv' := [(6, .int (nI (opF (σ 8) (σ 1) (mvR σ h (fun i => σ 3 i w)) (σ 0 1 0) fx fo i))), (0, .ref (ad 0 0)), (1, .ref (ad 3 w)), (2, .int (nI h)), (3, .int (bw fx)), (4, .int (nI fo)), (5, .int (nI i))]) K dX5_moveWater_81 (by decide) rfl ?_
                have g1 := opF_le (V := (mvR σ h (fun i => σ 3 i w))) (fx := fx) (b := i) (fun j hj => (I.2.2.1 j hj).2.2.2.2) (I.2.1 i hi).2.2.1.1 hfo
                have g2 := Nat.mul_le_mul g1 (I.2.1 i hi).1.2.2
                have g3 := mvR_le (h := h) I hV i
                refine r_aload_n K dX5_moveWater_83 2 rfl rfl ?_
                refine r_get (v := .ref (ad 6 w)) K fd_X5_330 (W_3 (by first | exact hb | exact hk | exact hj | exact hw | omega | assumption)) rfl rfl dX5_moveWater_84 ?_
                refine r_iload K dX5_moveWater_87 6 rfl ?_
                refine r_iload K dX5_moveWater_89 0 rfl ?_
                refine r_aload_n K dX5_moveWater_91 1 rfl rfl ?_
                refine r_get (v := .ref (ad 1 0)) K fd_X5_10 rfl rfl rfl dX5_moveWater_92 ?_
                refine r_iload K dX5_moveWater_95 6 rfl ?_
                refine r_callV (st := [.int (nI (opF (σ 8) (σ 1) (mvR σ h (fun i => σ 3 i w)) (σ 0 1 0) fx fo i)), .int (nI i), .ref (ad 6 w)]) K (k_Jx4a65c_get_915e3 (l0 := 0) (i := i) hl (by decide) L (by first | exact hb | exact hk | exact hj | exact hw | omega | assumption)) cw_X5_127 wd_250 wd_251 (by decide) (by decide) (W_1 (by first | exact hb | exact hk | exact hj | exact hw | omega | assumption)) rfl rfl rfl (Nat.le_of_ble_eq_true rfl) (by decide) (by decide) dX5_moveWater_97 ?_
                rintro _ _ _ ⟨rfl, rfl, rfl⟩
                show WW g z 7 0 0 ad (Wz z ad (sw σ w (mvR σ h (fun i => σ 3 i w)) (fun i => σ 4 i w) (σ 6 0 w) (fst i (mvO σ fx fo h (fun i => σ 3 i w)) (fun i => σ 27 i w))) τ o) 100 [(6, .int (nI (opF (σ 8) (σ 1) (mvR σ h (fun i => σ 3 i w)) (σ 0 1 0) fx fo i))), (0, .ref (ad 0 0)), (1, .ref (ad 3 w)), (2, .int (nI h)), (3, .int (bw fx)), (4, .int (nI fo)), (5, .int (nI i))] [.ref (ad 9 i), .int (nI (opF (σ 8) (σ 1) (mvR σ h (fun i => σ 3 i w)) (σ 0 1 0) fx fo i)), .int (nI i), .ref (ad 6 w)]
                refine r_castS K wd_283 rfl (W_9 (by first | exact hb | exact hk | exact hj | exact hw | omega | assumption)) rfl dX5_moveWater_100 ?_
                refine r_get (v := .int (nI (σ 1 i 2))) K fd_X5_333 (W_9 (by first | exact hb | exact hk | exact hj | exact hw | omega | assumption)) rfl rfl dX5_moveWater_103 ?_
                refine r_imul (v := nI ((opF (σ 8) (σ 1) (mvR σ h (fun i => σ 3 i w)) (σ 0 1 0) fx fo i) * (σ 1 i 2))) K dX5_moveWater_106 (pk_mul _ _) ?_
                refine r_aload_n K dX5_moveWater_107 2 rfl rfl ?_
                refine r_get (v := .ref (ad 4 w)) K fd_X5_159 (W_3 (by first | exact hb | exact hk | exact hj | exact hw | omega | assumption)) rfl rfl dX5_moveWater_108 ?_
                refine r_iload K dX5_moveWater_111 6 rfl ?_
                refine r_iald (j := i) (v := nI ((mvR σ h (fun i => σ 3 i w)) i)) K (W_4 hw) rfl rfl (by omega) (by decide) (by rw [sw_3]) dX5_moveWater_113 ?_
                refine r_mmin (v := nI (min ((opF (σ 8) (σ 1) (mvR σ h (fun i => σ 3 i w)) (σ 0 1 0) fx fo i) * (σ 1 i 2)) ((mvR σ h (fun i => σ 3 i w)) i))) K wd_297 wd_298 wd_68 wd_299 (Nat.le_of_ble_eq_true rfl) (mminN (by omega) (by omega)) (by decide) (by decide) dX5_moveWater_114 ?_
                have e : up1 (fst i (mvO σ fx fo h (fun i => σ 3 i w)) (fun i => σ 27 i w)) i (min (opF (σ 8) (σ 1) (mvR σ h (fun i => σ 3 i w)) (σ 0 1 0) fx fo i * σ 1 i 2) ((mvR σ h (fun i => σ 3 i w)) i)) = fst (i + 1) (mvO σ fx fo h (fun i => σ 3 i w)) (fun i => σ 27 i w) := fst_1
                refine r_iast (j := i) K (W_6 hw) rfl rfl (by omega) (by decide) rfl dX5_moveWater_117 ?_
                refine r_mu (u_6 hw) ?_
                rw [su_sw27, e]
                show WW g z 7 0 0 ad (Wz z ad (sw σ w (mvR σ h (fun i => σ 3 i w)) (fun i => σ 4 i w) (σ 6 0 w) (fst (i + 1) (mvO σ fx fo h (fun i => σ 3 i w)) (fun i => σ 27 i w))) τ o) 118 [(6, .int (nI (opF (σ 8) (σ 1) (mvR σ h (fun i => σ 3 i w)) (σ 0 1 0) fx fo i))), (0, .ref (ad 0 0)), (1, .ref (ad 3 w)), (2, .int (nI h)), (3, .int (bw fx)), (4, .int (nI fo)), (5, .int (nI i))] []
                refine r_iinc (v := nI (i + 1)) (lv' := [(5, .int (nI (i + 1))), (6, .int (nI (opF (σ 8) (σ 1) (mvR σ h (fun i => σ 3 i w)) (σ 0 1 0) fx fo i))), (0, .ref (ad 0 0)), (1, .ref (ad 3 w)), (2, .int (nI h)), (3, .int (bw fx)), (4, .int (nI fo))]) K dX5_moveWater_118 6 rfl (ic_1 _) (by decide) rfl ?_
                refine r_goto K dX5_moveWater_121 51 (by decide) ?_
                refine r_lv (lv' := [(0, .ref (ad 0 0)), (1, .ref (ad 3 w)), (2, .int (nI h)), (3, .int (bw fx)), (4, .int (nI fo)), (5, .int (nI (i + 1)))]) [2, 3, 4, 5, 6, 0] rfl ?_
                exact ih_l2 (i + 1) (by omega) (by omega)
        refine r_lv (lv' := [(0, .ref (ad 0 0)), (1, .ref (ad 3 w)), (2, .int (nI h)), (3, .int (bw fx)), (4, .int (nI fo)), (5, .int (nI 0))]) [1, 2, 3, 4, 5, 0] rfl ?_
        exact l2 (σ 0 0 0 - (0) + 1) 0 (by omega) (by omega)
      · skip
        have hi : i < σ 0 0 0 := by omega
        refine r_aload_n K dX5_moveWater_15 1 rfl rfl ?_
        refine r_get (v := .ref (ad 4 w)) K fd_X5_159 (W_3 (by first | exact hb | exact hk | exact hj | exact hw | omega | assumption)) rfl rfl dX5_moveWater_16 ?_
        refine r_iload K dX5_moveWater_19 5 rfl ?_
        refine r_dup2 K dX5_moveWater_21 rfl rfl ?_
        refine r_iald (j := i) (v := nI (σ 3 i w)) K (W_4 hw) rfl rfl (by omega) (by decide) (by rw [sw_3, fst_ge (Nat.lt_irrefl i)]) dX5_moveWater_22 ?_
        refine r_aload_n K dX5_moveWater_23 0 rfl rfl ?_
        refine r_get (v := .ref (ad 1 0)) K fd_X5_10 rfl rfl rfl dX5_moveWater_24 ?_
        refine r_iload K dX5_moveWater_27 5 rfl ?_
        refine r_callV (st := [.int (nI (σ 3 i w)), .int (nI i), .ref (ad 4 w)]) K (k_Jx4a65c_get_915e3 (l0 := 0) (i := i) hl (by decide) L (by first | exact hb | exact hk | exact hj | exact hw | omega | assumption)) cw_X5_127 wd_250 wd_251 (by decide) (by decide) (W_1 (by first | exact hb | exact hk | exact hj | exact hw | omega | assumption)) rfl rfl rfl (Nat.le_of_ble_eq_true rfl) (by decide) (by decide) dX5_moveWater_29 ?_
        rintro _ _ _ ⟨rfl, rfl, rfl⟩
        show WW g z 7 0 0 ad (Wz z ad (sw σ w (fst i (fun b => σ 3 b w + σ 5 b h) (fun i => σ 3 i w)) (fun i => σ 4 i w) (σ 6 0 w) (fun i => σ 27 i w)) τ o) 32 [(0, .ref (ad 0 0)), (1, .ref (ad 3 w)), (2, .int (nI h)), (3, .int (bw fx)), (4, .int (nI fo)), (5, .int (nI i))] [.ref (ad 9 i), .int (nI (σ 3 i w)), .int (nI i), .ref (ad 4 w)]
        refine r_castS K wd_283 rfl (W_9 (by first | exact hb | exact hk | exact hj | exact hw | omega | assumption)) rfl dX5_moveWater_32 ?_
        refine r_get (v := .ref (ad 13 i)) K fd_X5_316 (W_9 (by first | exact hb | exact hk | exact hj | exact hw | omega | assumption)) rfl rfl dX5_moveWater_35 ?_
        refine r_iload_n K dX5_moveWater_38 2 rfl rfl ?_
        refine r_iald (j := h) (v := nI (σ 5 i h)) K (W_13 (by first | exact hb | exact hk | exact hj | exact hw | omega | assumption)) rfl rfl (by omega) (by decide) rfl dX5_moveWater_39 ?_
        refine r_iadd (v := nI ((σ 3 i w) + (σ 5 i h))) K dX5_moveWater_40 (nI_add _ _) ?_
        have e : up1 (fst i (fun b => σ 3 b w + σ 5 b h) (fun i => σ 3 i w)) i (σ 3 i w + σ 5 i h) = fst (i + 1) (fun b => σ 3 b w + σ 5 b h) (fun i => σ 3 i w) := fst_1
        refine r_iast (j := i) K (W_4 hw) rfl rfl (by omega) (by decide) rfl dX5_moveWater_41 ?_
        refine r_mu (u_4 hw) ?_
        rw [su_sw3, e]
        show WW g z 7 0 0 ad (Wz z ad (sw σ w (fst (i + 1) (fun b => σ 3 b w + σ 5 b h) (fun i => σ 3 i w)) (fun i => σ 4 i w) (σ 6 0 w) (fun i => σ 27 i w)) τ o) 42 [(0, .ref (ad 0 0)), (1, .ref (ad 3 w)), (2, .int (nI h)), (3, .int (bw fx)), (4, .int (nI fo)), (5, .int (nI i))] []
        refine r_iinc (v := nI (i + 1)) (lv' := [(5, .int (nI (i + 1))), (0, .ref (ad 0 0)), (1, .ref (ad 3 w)), (2, .int (nI h)), (3, .int (bw fx)), (4, .int (nI fo))]) K dX5_moveWater_42 5 rfl (ic_1 _) (by decide) rfl ?_
        refine r_goto K dX5_moveWater_45 3 (by decide) ?_
        refine r_lv (lv' := [(0, .ref (ad 0 0)), (1, .ref (ad 3 w)), (2, .int (nI h)), (3, .int (bw fx)), (4, .int (nI fo)), (5, .int (nI (i + 1)))]) [1, 2, 3, 4, 5, 0] rfl ?_
        exact ih_l1 (i + 1) (by omega) (by omega)
  refine r_lv (lv' := [(0, .ref (ad 0 0)), (1, .ref (ad 3 w)), (2, .int (nI h)), (3, .int (bw fx)), (4, .int (nI fo)), (5, .int (nI 0))]) [1, 2, 3, 4, 5, 0] rfl ?_
  exact l1 (σ 0 0 0 - (0) + 1) 0 (by omega) (by omega)
