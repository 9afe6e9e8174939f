set_option maxRecDepth 100000 in
set_option maxHeartbeats 4000000 in
theorem k_X6_held {z : Zx} {l : Launch} {σ τ : Sg} {o : Int64 × UInt64} {ad : Nm} (hl : l.stackTraces = false) (I : InvB τ) : Ko z l yX6_held cX6_held 3 (some .int) 0 0 0 [.ref (ad 20 0)] ad (Wz z ad σ τ o) (okV (some (.int (nI (hld τ 0 (τ 0 0 0))))) ad (Wz z ad σ τ o)) exNo := by
  refine ko_of hl (by decide +kernel) (Nat.le_of_ble_eq_true rfl) (fun g hg K => ?_)
  subst hg
  have q0 := I.1.1
  have q1 := I.1.2.1
  have q2 := I.1.2.2.1
  have q3 := I.1.2.2.2.1
  have q4 := I.1.2.2.2.2.1
  show WW g z 3 0 0 ad (Wz z ad σ τ o) 0 [(0, .ref (ad 20 0))] []
  refine r_iconst (v := nI 0) K dX6_held_0 (by decide) ?_
  refine r_istore_n (lv' := [(1, .int (nI 0)), (0, .ref (ad 20 0))]) K dX6_held_1 rfl (by decide) rfl ?_
  refine r_iconst (v := nI 0) K dX6_held_2 (by decide) ?_
  refine r_istore_n (lv' := [(2, .int (nI 0)), (1, .int (nI 0)), (0, .ref (ad 20 0))]) K dX6_held_3 rfl (by decide) rfl ?_
  have lp : ∀ (fuel : Nat) (i : Nat), τ 0 0 0 - i < fuel → i ≤ τ 0 0 0 → WW g z 3 0 0 ad (Wz z ad σ τ o) 4 [(0, .ref (ad 20 0)), (1, .int (nI (hld τ 0 i))), (2, .int (nI i))] [] := by
    intro fuel
    induction fuel with
    | zero => intro i hf h1; exact absurd hf (Nat.not_lt_zero _)
    | succ fuel ih_lp =>
      intro i hf h1
      refine r_iload_n K dX6_held_4 2 rfl rfl ?_
      refine r_aload_n K dX6_held_5 0 rfl rfl ?_
      refine r_get (v := .int (nI (τ 0 0 0))) K fd_X6_100 rfl rfl rfl dX6_held_6 ?_
      refine r_icmp_ge K dX6_held_9 34 (τ 0 0 0 ≤ i) (nI_leI (by omega) (by omega)) (by decide) (fun c_9 => ?_) (fun c_9 => ?_)
      · skip
        refine r_iload_n K dX6_held_34 1 rfl rfl ?_
        exact r_iret K (by decide) (by decide) ⟨congrArg (fun q => some (Value.int (nI q))) (by rw [show i = τ 0 0 0 by omega]), rfl, rfl⟩ dX6_held_35
      · skip
        refine r_iload_n K dX6_held_12 1 rfl rfl ?_
        refine r_aload_n K dX6_held_13 0 rfl rfl ?_
        refine r_get (v := .ref (ad 21 9)) K fd_X6_34 rfl rfl rfl dX6_held_14 ?_
        refine r_iload_n K dX6_held_17 2 rfl rfl ?_
        refine r_iald (j := i) (v := nI (τ 3 i 0)) K rfl rfl rfl (by omega) (by decide) rfl dX6_held_18 ?_
        refine r_aload_n K dX6_held_19 0 rfl rfl ?_
        refine r_get (v := .ref (ad 21 10)) K fd_X6_37 rfl rfl rfl dX6_held_20 ?_
        refine r_iload_n K dX6_held_23 2 rfl rfl ?_
        refine r_iald (j := i) (v := nI (τ 4 i 0)) K rfl rfl rfl (by omega) (by decide) rfl dX6_held_24 ?_
        refine r_iadd (v := nI ((τ 3 i 0) + (τ 4 i 0))) K dX6_held_25 (nI_add _ _) ?_
        refine r_iadd (v := nI ((hld τ 0 i) + ((τ 3 i 0) + (τ 4 i 0)))) K dX6_held_26 (nI_add _ _) ?_
        refine r_istore_n (lv' := [(1, .int (nI ((hld τ 0 i) + ((τ 3 i 0) + (τ 4 i 0))))), (0, .ref (ad 20 0)), (2, .int (nI i))]) K dX6_held_27 rfl (by decide) rfl ?_
        refine r_iinc (v := nI (i + 1)) (lv' := [(2, .int (nI (i + 1))), (1, .int (nI ((hld τ 0 i) + ((τ 3 i 0) + (τ 4 i 0))))), (0, .ref (ad 20 0))]) K dX6_held_28 2 rfl (ic_1 _) (by decide) rfl ?_
        refine r_goto K dX6_held_31 4 (by decide) ?_
        refine r_lv (lv' := [(0, .ref (ad 20 0)), (1, .int (nI ((hld τ 0 i) + ((τ 3 i 0) + (τ 4 i 0))))), (2, .int (nI (i + 1)))]) [2, 1, 0] rfl ?_
        exact ih_lp (i + 1) (by omega) (by omega)
  refine r_lv (lv' := [(0, .ref (ad 20 0)), (1, .int (nI 0)), (2, .int (nI 0))]) [2, 1, 0] rfl ?_
  exact lp (τ 0 0 0 - (0) + 1) 0 (by omega) (by omega)
set_option maxRecDepth 100000 in
set_option maxHeartbeats 4000000 in
theorem k_X6_upTo {z : Zx} {l : Launch} {σ τ : Sg} {o : Int64 × UInt64} {ad : Nm} (hl : l.stackTraces = false) {b h : Nat} (I : InvB τ) (hb : b < τ 0 0 0) (hh : h ≤ 300000) : Ko z l yX6_upTo cX6_upTo 5 (some .int) 0 0 0 [.ref (ad 20 0), .int (nI b), .int (nI h)] ad (Wz z ad σ τ o) (okV (some (.int (nI (upto (τ 2 b) h (τ 1 b 6))))) ad (Wz z ad σ τ o)) exNo := by
  refine ko_of hl (by decide +kernel) (Nat.le_of_ble_eq_true rfl) (fun g hg K => ?_)
  subst hg
  have q0 := I.1.1
  have q1 := I.1.2.1
  have q2 := I.1.2.2.1
  have q3 := I.1.2.2.2.1
  have q4 := I.1.2.2.2.2.1
  obtain ⟨-, -, -, q, -⟩ := I.2.1 b hb
  have q7 := q.1
  have q8 := q.2.1
  show WW g z 5 0 0 ad (Wz z ad σ τ o) 0 [(0, .ref (ad 20 0)), (1, .int (nI b)), (2, .int (nI h))] []
  refine r_iconst (v := nI 0) K dX6_upTo_0 (by decide) ?_
  refine r_istore_n (lv' := [(3, .int (nI 0)), (0, .ref (ad 20 0)), (1, .int (nI b)), (2, .int (nI h))]) K dX6_upTo_1 rfl (by decide) rfl ?_
  refine r_bipush (v := nI 8) K dX6_upTo_2 (by decide) ?_
  refine r_iload_n K dX6_upTo_4 2 rfl rfl ?_
  refine r_imul (v := nI (8 * b)) K dX6_upTo_5 (pk_mul _ _) ?_
  refine r_istore (lv' := [(4, .int (nI (8 * b))), (3, .int (nI 0)), (0, .ref (ad 20 0)), (1, .int (nI b)), (2, .int (nI h))]) K dX6_upTo_6 (by decide) rfl ?_
  have lp : ∀ (fuel : Nat) (i : Nat), τ 1 b 6 - i < fuel → i ≤ τ 1 b 6 → WW g z 5 0 0 ad (Wz z ad σ τ o) 8 [(0, .ref (ad 20 0)), (1, .int (nI b)), (2, .int (nI h)), (3, .int (nI (upto (τ 2 b) h i))), (4, .int (nI (8 * b + i)))] [] := by
    intro fuel
    induction fuel with
    | zero => intro i hf h1; exact absurd hf (Nat.not_lt_zero _)
    | succ fuel ih_lp =>
      intro i hf h1
      have g1 := q.2.2 i
      refine r_iload K dX6_upTo_8 4 rfl ?_
      refine r_bipush (v := nI 8) K dX6_upTo_10 (by decide) ?_
      refine r_iload_n K dX6_upTo_12 1 rfl rfl ?_
      refine r_imul (v := nI (8 * b)) K dX6_upTo_13 (pk_mul _ _) ?_
      refine r_aload_n K dX6_upTo_14 0 rfl rfl ?_
      refine r_get (v := .ref (ad 21 7)) K fd_X6_28 rfl rfl rfl dX6_upTo_15 ?_
      refine r_iload_n K dX6_upTo_18 1 rfl rfl ?_
      refine r_iald (j := b) (v := nI (τ 1 b 6)) K rfl rfl rfl (by omega) (by decide) rfl dX6_upTo_19 ?_
      refine r_iadd (v := nI ((8 * b) + (τ 1 b 6))) K dX6_upTo_20 (nI_add _ _) ?_
      refine r_icmp_ge K dX6_upTo_21 57 ((8 * b) + (τ 1 b 6) ≤ 8 * b + i) (nI_leI (by omega) (by omega)) (by decide) (fun c_21 => ?_) (fun c_21 => ?_)
      · skip
        refine r_iload_n K dX6_upTo_57 3 rfl rfl ?_
        exact r_iret K (by decide) (by decide) ⟨congrArg (fun q => some (Value.int (nI q))) (by rw [show i = τ 1 b 6 by omega]), rfl, rfl⟩ dX6_upTo_58
      · skip
        have g2 := g1 (by omega)
        refine r_iload_n K dX6_upTo_24 3 rfl rfl ?_
        refine r_aload_n K dX6_upTo_25 0 rfl rfl ?_
        refine r_get (v := .ref (ad 21 8)) K fd_X6_31 rfl rfl rfl dX6_upTo_26 ?_
        refine r_iload K dX6_upTo_29 4 rfl ?_
        refine r_iald (j := 8 * b + i) (v := nI (τ 2 b i)) K rfl rfl rfl (by omega) (by decide) (by show nI _ = nI _; rw [show (8 * b + i) / 8 = b by omega, show (8 * b + i) % 8 = i by omega]; try (first | rfl | (repeat first | rw [su_s] | rw [su_n (by omega)]))) dX6_upTo_31 ?_
        refine r_iload_n K dX6_upTo_32 2 rfl rfl ?_
        refine r_icmp_ge K dX6_upTo_33 48 (h ≤ τ 2 b i) (nI_leI (by omega) (by omega)) (by decide) (fun c_33 => ?_) (fun c_33 => ?_)
        · skip
          refine r_iconst (v := nI 0) K dX6_upTo_48 (by decide) ?_
          refine r_eq (st' := [.int (nI (h - τ 2 b i)), .int (nI (upto (τ 2 b) h i))]) rfl rfl rfl (by rw [show h - τ 2 b i = 0 by omega]) ?_
          refine r_iadd (v := nI ((upto (τ 2 b) h i) + (h - τ 2 b i))) K dX6_upTo_49 (nI_add _ _) ?_
          refine r_istore_n (lv' := [(3, .int (nI ((upto (τ 2 b) h i) + (h - τ 2 b i)))), (0, .ref (ad 20 0)), (1, .int (nI b)), (2, .int (nI h)), (4, .int (nI (8 * b + i)))]) K dX6_upTo_50 rfl (by decide) rfl ?_
          refine r_iinc (v := nI (8 * b + (i + 1))) (lv' := [(4, .int (nI (8 * b + (i + 1)))), (3, .int (nI ((upto (τ 2 b) h i) + (h - τ 2 b i)))), (0, .ref (ad 20 0)), (1, .int (nI b)), (2, .int (nI h))]) K dX6_upTo_51 4 rfl (ic_1 _) (by decide) rfl ?_
          refine r_goto K dX6_upTo_54 8 (by decide) ?_
          refine r_lv (lv' := [(0, .ref (ad 20 0)), (1, .int (nI b)), (2, .int (nI h)), (3, .int (nI ((upto (τ 2 b) h i) + (h - τ 2 b i)))), (4, .int (nI (8 * b + (i + 1))))]) [2, 3, 4, 1, 0] rfl ?_
          exact ih_lp (i + 1) (by omega) (by omega)
        · skip
          refine r_iload_n K dX6_upTo_36 2 rfl rfl ?_
          refine r_aload_n K dX6_upTo_37 0 rfl rfl ?_
          refine r_get (v := .ref (ad 21 8)) K fd_X6_31 rfl rfl rfl dX6_upTo_38 ?_
          refine r_iload K dX6_upTo_41 4 rfl ?_
          refine r_iald (j := 8 * b + i) (v := nI (τ 2 b i)) K rfl rfl rfl (by omega) (by decide) (by show nI _ = nI _; rw [show (8 * b + i) / 8 = b by omega, show (8 * b + i) % 8 = i by omega]; try (first | rfl | (repeat first | rw [su_s] | rw [su_n (by omega)]))) dX6_upTo_43 ?_
          refine r_isub (v := nI (h - (τ 2 b i))) K dX6_upTo_44 (pk_sub (by omega)) ?_
          refine r_goto K dX6_upTo_45 49 (by decide) ?_
          show WW g z 5 0 0 ad (Wz z ad σ τ o) 49 [(0, .ref (ad 20 0)), (1, .int (nI b)), (2, .int (nI h)), (3, .int (nI (upto (τ 2 b) h i))), (4, .int (nI (8 * b + i)))] [.int (nI (h - τ 2 b i)), .int (nI (upto (τ 2 b) h i))]
          refine r_iadd (v := nI ((upto (τ 2 b) h i) + (h - τ 2 b i))) K dX6_upTo_49 (nI_add _ _) ?_
          refine r_istore_n (lv' := [(3, .int (nI ((upto (τ 2 b) h i) + (h - τ 2 b i)))), (0, .ref (ad 20 0)), (1, .int (nI b)), (2, .int (nI h)), (4, .int (nI (8 * b + i)))]) K dX6_upTo_50 rfl (by decide) rfl ?_
          refine r_iinc (v := nI (8 * b + (i + 1))) (lv' := [(4, .int (nI (8 * b + (i + 1)))), (3, .int (nI ((upto (τ 2 b) h i) + (h - τ 2 b i)))), (0, .ref (ad 20 0)), (1, .int (nI b)), (2, .int (nI h))]) K dX6_upTo_51 4 rfl (ic_1 _) (by decide) rfl ?_
          refine r_goto K dX6_upTo_54 8 (by decide) ?_
          refine r_lv (lv' := [(0, .ref (ad 20 0)), (1, .int (nI b)), (2, .int (nI h)), (3, .int (nI ((upto (τ 2 b) h i) + (h - τ 2 b i)))), (4, .int (nI (8 * b + (i + 1))))]) [2, 3, 4, 1, 0] rfl ?_
          exact ih_lp (i + 1) (by omega) (by omega)
  refine r_lv (lv' := [(0, .ref (ad 20 0)), (1, .int (nI b)), (2, .int (nI h)), (3, .int (nI 0)), (4, .int (nI (8 * b)))]) [2, 3, 4, 1, 0] rfl ?_
  exact lp (τ 1 b 6 - (0) + 1) 0 (by omega) (by omega)
set_option maxRecDepth 100000 in
set_option maxHeartbeats 4000000 in
theorem k_X6_heightOf {z : Zx} {l : Launch} {σ τ : Sg} {o : Int64 × UInt64} {ad : Nm} (hl : l.stackTraces = false) {b v : Nat} (I : InvB τ) (hb : b < τ 0 0 0) (hv : v ≤ 250000) : Ko z l yX6_heightOf cX6_heightOf 6 (some .int) 1 0 0 [.ref (ad 20 0), .int (nI b), .int (nI v)] ad (Wz z ad σ τ o) (okV (some (.int (nI (lvl (τ 2 b) (τ 1 b 6) v)))) ad (Wz z ad σ τ o)) exNo := by
  refine ko_of hl (by decide +kernel) (Nat.le_of_ble_eq_true rfl) (fun g hg K => ?_)
  subst hg
  have q0 := I.1.1
  have q1 := I.1.2.1
  have q2 := I.1.2.2.1
  have q3 := I.1.2.2.2.1
  have q4 := I.1.2.2.2.2.1
  obtain ⟨-, -, -, q, -⟩ := I.2.1 b hb
  have q7 := q.1
  have q8 := q.2.1
  show WW g z 6 0 0 ad (Wz z ad σ τ o) 0 [(0, .ref (ad 20 0)), (1, .int (nI b)), (2, .int (nI v))] []
  refine r_iconst (v := nI 0) K dX6_heightOf_0 (by decide) ?_
  refine r_istore_n (lv' := [(3, .int (nI 0)), (0, .ref (ad 20 0)), (1, .int (nI b)), (2, .int (nI v))]) K dX6_heightOf_1 rfl (by decide) rfl ?_
  refine r_iload_n K dX6_heightOf_2 3 rfl rfl ?_
  refine r_bipush (v := nI 31) K dX6_heightOf_3 (by decide) ?_
  refine r_iadd (v := nI (v + 31)) K dX6_heightOf_5 (nI_add _ _) ?_
  refine r_istore (lv' := [(4, .int (nI (v + 31))), (3, .int (nI 0)), (0, .ref (ad 20 0)), (1, .int (nI b)), (2, .int (nI v))]) K dX6_heightOf_6 (by decide) rfl ?_
  have lp : ∀ (fuel : Nat) (lo : Nat) (hi : Nat), hi - lo < fuel → upto (τ 2 b) lo (τ 1 b 6) ≤ v → v < upto (τ 2 b) hi (τ 1 b 6) → lo < hi → hi ≤ v + 31 → WW g z 6 0 0 ad (Wz z ad σ τ o) 8 [(0, .ref (ad 20 0)), (1, .int (nI b)), (2, .int (nI v)), (3, .int (nI lo)), (4, .int (nI hi))] [] := by
    intro fuel
    induction fuel with
    | zero => intro lo hi hf h1 h2 h3 h4; exact absurd hf (Nat.not_lt_zero _)
    | succ fuel ih_lp =>
      intro lo hi hf h1 h2 h3 h4
      refine r_iload K dX6_heightOf_8 4 rfl ?_
      refine r_iload_n K dX6_heightOf_10 3 rfl rfl ?_
      refine r_isub (v := nI (hi - lo)) K dX6_heightOf_11 (pk_sub (by omega)) ?_
      refine r_iconst (v := nI 1) K dX6_heightOf_12 (by decide) ?_
      refine r_icmp_le K dX6_heightOf_13 48 (hi - lo ≤ 1) (nI_leI (by omega) (by omega)) (by decide) (fun c_13 => ?_) (fun c_13 => ?_)
      · skip
        refine r_iload_n K dX6_heightOf_48 3 rfl rfl ?_
        exact r_iret K (by decide) (by decide) ⟨congrArg (fun q => some (Value.int (nI q))) (by exact (lvl_eq q h1 (by rw [show lo + 1 = hi by omega]; exact h2)).symm), rfl, rfl⟩ dX6_heightOf_49
      · skip
        refine r_iload_n K dX6_heightOf_16 3 rfl rfl ?_
        refine r_iload K dX6_heightOf_17 4 rfl ?_
        refine r_iadd (v := nI (lo + hi)) K dX6_heightOf_19 (nI_add _ _) ?_
        refine r_iconst (v := nI 2) K dX6_heightOf_20 (by decide) ?_
        refine r_idiv (v := nI ((lo + hi) / 2)) K dX6_heightOf_21 (nI_z (by omega) (by omega)) (pk_div (by omega) (by omega) (by omega)) ?_
        refine r_istore (lv' := [(5, .int (nI ((lo + hi) / 2))), (0, .ref (ad 20 0)), (1, .int (nI b)), (2, .int (nI v)), (3, .int (nI lo)), (4, .int (nI hi))]) K dX6_heightOf_22 (by decide) rfl ?_
        refine r_aload_n K dX6_heightOf_24 1 rfl rfl ?_
        refine r_iload_n K dX6_heightOf_25 2 rfl rfl ?_
        refine r_iload K dX6_heightOf_26 0 rfl ?_
        have g1 := upto_le (τ 2 b) ((lo + hi) / 2) (τ 1 b 6)
        have g2 : τ 1 b 6 * ((lo + hi) / 2) ≤ 8 * 250031 := Nat.mul_le_mul q8 (by omega)
        refine r_callV (st := []) K (k_X6_upTo (b := b) (h := (lo + hi) / 2) hl I (by first | exact hb | exact hk | exact hj | exact hw | omega | assumption) (by omega)) cw_X6_162 wd_1573 wd_36 (by decide) (by decide) rfl rfl rfl rfl (Nat.le_of_ble_eq_true rfl) (by decide) (by decide) dX6_heightOf_28 ?_
        rintro _ _ _ ⟨rfl, rfl, rfl⟩
        show WW g z 6 0 0 ad (Wz z ad σ τ o) 31 [(5, .int (nI ((lo + hi) / 2))), (0, .ref (ad 20 0)), (1, .int (nI b)), (2, .int (nI v)), (3, .int (nI lo)), (4, .int (nI hi))] [.int (nI (upto (τ 2 b) ((lo + hi) / 2) (τ 1 b 6)))]
        refine r_iload_n K dX6_heightOf_31 3 rfl rfl ?_
        refine r_icmp_gt K dX6_heightOf_32 41 (v < upto (τ 2 b) ((lo + hi) / 2) (τ 1 b 6)) (nI_ltI (by omega) (by omega)) (by decide) (fun c_32 => ?_) (fun c_32 => ?_)
        · skip
          refine r_iload K dX6_heightOf_41 0 rfl ?_
          refine r_istore (lv' := [(4, .int (nI ((lo + hi) / 2))), (5, .int (nI ((lo + hi) / 2))), (0, .ref (ad 20 0)), (1, .int (nI b)), (2, .int (nI v)), (3, .int (nI lo))]) K dX6_heightOf_43 (by decide) rfl ?_
          refine r_goto K dX6_heightOf_45 8 (by decide) ?_
          refine r_lv (lv' := [(0, .ref (ad 20 0)), (1, .int (nI b)), (2, .int (nI v)), (3, .int (nI lo)), (4, .int (nI ((lo + hi) / 2)))]) [2, 3, 4, 5, 0] rfl ?_
          exact ih_lp lo ((lo + hi) / 2) (by omega) (by omega) (by omega) (by omega) (by omega)
        · skip
          refine r_iload K dX6_heightOf_35 0 rfl ?_
          refine r_istore_n (lv' := [(3, .int (nI ((lo + hi) / 2))), (5, .int (nI ((lo + hi) / 2))), (0, .ref (ad 20 0)), (1, .int (nI b)), (2, .int (nI v)), (4, .int (nI hi))]) K dX6_heightOf_37 rfl (by decide) rfl ?_
          refine r_goto K dX6_heightOf_38 45 (by decide) ?_
          refine r_goto K dX6_heightOf_45 8 (by decide) ?_
          refine r_lv (lv' := [(0, .ref (ad 20 0)), (1, .int (nI b)), (2, .int (nI v)), (3, .int (nI ((lo + hi) / 2))), (4, .int (nI hi))]) [2, 3, 4, 0, 5] rfl ?_
          exact ih_lp ((lo + hi) / 2) hi (by omega) (by omega) (by omega) (by omega) (by omega)
  refine r_lv (lv' := [(0, .ref (ad 20 0)), (1, .int (nI b)), (2, .int (nI v)), (3, .int (nI 0)), (4, .int (nI (v + 31)))]) [2, 3, 4, 1, 0] rfl ?_
  exact lp ((v + 31) - (0) + 1) 0 (v + 31) (by omega) (by rw [upto_0]; omega) (by have := upto_ge (τ 2 b) (v + 31) (τ 1 b 6) q7; have := q.2.2 0 q7; omega) (by omega) (by omega)
set_option maxRecDepth 100000 in
set_option maxHeartbeats 4000000 in
theorem k_X6_depth {z : Zx} {l : Launch} {σ τ : Sg} {o : Int64 × UInt64} {ad : Nm} (hl : l.stackTraces = false) {b c v : Nat} (I : InvB τ) (hb : b < τ 0 0 0) (hc : c < τ 1 b 6) (hv : v ≤ 250000) : Ko z l yX6_depth cX6_depth 8 (some .int) 2 0 0 [.ref (ad 20 0), .int (nI b), .int (nI c), .int (nI v)] ad (Wz z ad σ τ o) (okV (some (.int (nI (dpC τ b c v)))) ad (Wz z ad σ τ o)) exNo := by
  refine ko_of hl (by decide +kernel) (Nat.le_of_ble_eq_true rfl) (fun g hg K => ?_)
  subst hg
  have q0 := I.1.1
  have q1 := I.1.2.1
  have q2 := I.1.2.2.1
  have q3 := I.1.2.2.2.1
  have q4 := I.1.2.2.2.2.1
  obtain ⟨-, -, -, q, -⟩ := I.2.1 b hb
  have q7 := q.1
  have q8 := q.2.1
  show WW g z 8 0 0 ad (Wz z ad σ τ o) 0 [(0, .ref (ad 20 0)), (1, .int (nI b)), (2, .int (nI c)), (3, .int (nI v))] []
  refine r_aload_n K dX6_depth_0 0 rfl rfl ?_
  refine r_iload_n K dX6_depth_1 1 rfl rfl ?_
  refine r_iload_n K dX6_depth_2 3 rfl rfl ?_
  refine r_callV (st := []) K (k_X6_heightOf (b := b) (v := v) hl I (by first | exact hb | exact hk | exact hj | exact hw | omega | assumption) (by omega)) cw_X6_165 wd_1569 wd_35 (by decide) (by decide) rfl rfl rfl rfl (Nat.le_of_ble_eq_true rfl) (by decide) (by decide) dX6_depth_3 ?_
  rintro _ _ _ ⟨rfl, rfl, rfl⟩
  show WW g z 8 0 0 ad (Wz z ad σ τ o) 6 [(0, .ref (ad 20 0)), (1, .int (nI b)), (2, .int (nI c)), (3, .int (nI v))] [.int (nI (lvl (τ 2 b) (τ 1 b 6) v))]
  refine r_istore (lv' := [(4, .int (nI (lvl (τ 2 b) (τ 1 b 6) v))), (0, .ref (ad 20 0)), (1, .int (nI b)), (2, .int (nI c)), (3, .int (nI v))]) K dX6_depth_6 (by decide) rfl ?_
  have gl := lvl_le (τ 2 b) (τ 1 b 6) v
  have gb := lvl_bd (v := v) q
  have gh := q.2.2 c hc
  refine r_iload_n K dX6_depth_8 4 rfl rfl ?_
  refine r_aload_n K dX6_depth_9 1 rfl rfl ?_
  refine r_iload_n K dX6_depth_10 2 rfl rfl ?_
  refine r_iload K dX6_depth_11 0 rfl ?_
  refine r_callV (st := [.int (nI v)]) K (k_X6_upTo (b := b) (h := lvl (τ 2 b) (τ 1 b 6) v) hl I (by first | exact hb | exact hk | exact hj | exact hw | omega | assumption) (by omega)) cw_X6_162 wd_1573 wd_36 (by decide) (by decide) rfl rfl rfl rfl (Nat.le_of_ble_eq_true rfl) (by decide) (by decide) dX6_depth_13 ?_
  rintro _ _ _ ⟨rfl, rfl, rfl⟩
  show WW g z 8 0 0 ad (Wz z ad σ τ o) 16 [(4, .int (nI (lvl (τ 2 b) (τ 1 b 6) v))), (0, .ref (ad 20 0)), (1, .int (nI b)), (2, .int (nI c)), (3, .int (nI v))] [.int (nI (upto (τ 2 b) (lvl (τ 2 b) (τ 1 b 6) v) (τ 1 b 6))), .int (nI v)]
  refine r_isub (v := nI (v - (upto (τ 2 b) (lvl (τ 2 b) (τ 1 b 6) v) (τ 1 b 6)))) K dX6_depth_16 (pk_sub (by omega)) ?_
  refine r_istore (lv' := [(5, .int (nI (v - (upto (τ 2 b) (lvl (τ 2 b) (τ 1 b 6) v) (τ 1 b 6))))), (4, .int (nI (lvl (τ 2 b) (τ 1 b 6) v))), (0, .ref (ad 20 0)), (1, .int (nI b)), (2, .int (nI c)), (3, .int (nI v))]) K dX6_depth_17 (by decide) rfl ?_
  refine r_bipush (v := nI 8) K dX6_depth_19 (by decide) ?_
  refine r_iload_n K dX6_depth_21 3 rfl rfl ?_
  refine r_imul (v := nI (8 * b)) K dX6_depth_22 (pk_mul _ _) ?_
  refine r_istore (lv' := [(6, .int (nI (8 * b))), (5, .int (nI (v - (upto (τ 2 b) (lvl (τ 2 b) (τ 1 b 6) v) (τ 1 b 6))))), (4, .int (nI (lvl (τ 2 b) (τ 1 b 6) v))), (0, .ref (ad 20 0)), (1, .int (nI b)), (2, .int (nI c)), (3, .int (nI v))]) K dX6_depth_23 (by decide) rfl ?_
  refine r_aload_n K dX6_depth_25 3 rfl rfl ?_
  refine r_get (v := .ref (ad 21 8)) K fd_X6_31 rfl rfl rfl dX6_depth_26 ?_
  refine r_iload K dX6_depth_29 0 rfl ?_
  refine r_iload_n K dX6_depth_31 5 rfl rfl ?_
  refine r_iadd (v := nI ((8 * b) + c)) K dX6_depth_32 (nI_add _ _) ?_
  refine r_iald (j := (8 * b) + c) (v := nI (τ 2 b c)) K rfl rfl rfl (by omega) (by decide) (by show nI _ = nI _; rw [show ((8 * b) + c) / 8 = b by omega, show ((8 * b) + c) % 8 = c by omega]; try (first | rfl | (repeat first | rw [su_s] | rw [su_n (by omega)]))) dX6_depth_33 ?_
  refine r_iload K dX6_depth_34 2 rfl ?_
  refine r_icmp_le K dX6_depth_36 41 (τ 2 b c ≤ lvl (τ 2 b) (τ 1 b 6) v) (nI_leI (by omega) (by omega)) (by decide) (fun c_36 => ?_) (fun c_36 => ?_)
  · skip
    refine r_iload K dX6_depth_41 0 rfl ?_
    refine r_istore (lv' := [(7, .int (nI (8 * b))), (6, .int (nI (8 * b))), (5, .int (nI (v - (upto (τ 2 b) (lvl (τ 2 b) (τ 1 b 6) v) (τ 1 b 6))))), (4, .int (nI (lvl (τ 2 b) (τ 1 b 6) v))), (0, .ref (ad 20 0)), (1, .int (nI b)), (2, .int (nI c)), (3, .int (nI v))]) K dX6_depth_43 (by decide) rfl ?_
    have e5 : nI (v - upto (τ 2 b) (lvl (τ 2 b) (τ 1 b 6) v) (τ 1 b 6)) = nI (v - upto (τ 2 b) (lvl (τ 2 b) (τ 1 b 6) v) (τ 1 b 6)) - nI (ahd (τ 2 b) (lvl (τ 2 b) (τ 1 b 6) v) 0) := (Int32.sub_zero _).symm
    refine r_eq (lv' := [(7, .int (nI (8 * b))), (6, .int (nI (8 * b))), (5, .int (nI (v - upto (τ 2 b) (lvl (τ 2 b) (τ 1 b 6) v) (τ 1 b 6)) - nI (ahd (τ 2 b) (lvl (τ 2 b) (τ 1 b 6) v) 0))), (4, .int (nI (lvl (τ 2 b) (τ 1 b 6) v))), (0, .ref (ad 20 0)), (1, .int (nI b)), (2, .int (nI c)), (3, .int (nI v))]) rfl rfl (by rw [← e5]) rfl ?_
    have lp : ∀ (fuel : Nat) (i : Nat), c - i < fuel → i ≤ c → WW g z 8 0 0 ad (Wz z ad σ τ o) 45 [(0, .ref (ad 20 0)), (1, .int (nI b)), (2, .int (nI c)), (3, .int (nI v)), (4, .int (nI (lvl (τ 2 b) (τ 1 b 6) v))), (5, .int (nI (v - upto (τ 2 b) (lvl (τ 2 b) (τ 1 b 6) v) (τ 1 b 6)) - nI (ahd (τ 2 b) (lvl (τ 2 b) (τ 1 b 6) v) i))), (6, .int (nI (8 * b))), (7, .int (nI (8 * b + i)))] [] := by
      intro fuel
      induction fuel with
      | zero => intro i hf h1; exact absurd hf (Nat.not_lt_zero _)
      | succ fuel ih_lp =>
        intro i hf h1
        have g1 := q.2.2 i
        refine r_iload K dX6_depth_45 7 rfl ?_
        refine r_iload K dX6_depth_47 6 rfl ?_
        refine r_iload_n K dX6_depth_49 2 rfl rfl ?_
        refine r_iadd (v := nI ((8 * b) + c)) K dX6_depth_50 (nI_add _ _) ?_
        refine r_icmp_ge K dX6_depth_51 82 ((8 * b) + c ≤ 8 * b + i) (nI_leI (by omega) (by omega)) (by decide) (fun c_51 => ?_) (fun c_51 => ?_)
        · skip
          refine r_iload K dX6_depth_82 4 rfl ?_
          refine r_aload_n K dX6_depth_84 0 rfl rfl ?_
          refine r_get (v := .ref (ad 21 8)) K fd_X6_31 rfl rfl rfl dX6_depth_85 ?_
          refine r_iload K dX6_depth_88 6 rfl ?_
          refine r_iload_n K dX6_depth_90 2 rfl rfl ?_
          refine r_iadd (v := nI ((8 * b) + c)) K dX6_depth_91 (nI_add _ _) ?_
          refine r_iald (j := (8 * b) + c) (v := nI (τ 2 b c)) K rfl rfl rfl (by omega) (by decide) (by show nI _ = nI _; rw [show ((8 * b) + c) / 8 = b by omega, show ((8 * b) + c) % 8 = c by omega]; try (first | rfl | (repeat first | rw [su_s] | rw [su_n (by omega)]))) dX6_depth_92 ?_
          refine r_isub (v := nI ((lvl (τ 2 b) (τ 1 b 6) v) - (τ 2 b c))) K dX6_depth_93 (pk_sub (by omega)) ?_
          refine r_iload K dX6_depth_94 5 rfl ?_
          have g3 := ahd_le (τ 2 b) (lvl (τ 2 b) (τ 1 b 6) v) i
          refine r_if_le K dX6_depth_96 103 (v - upto (τ 2 b) (lvl (τ 2 b) (τ 1 b 6) v) (τ 1 b 6) ≤ ahd (τ 2 b) (lvl (τ 2 b) (τ 1 b 6) v) i) (sub_le (by omega) (by omega)) (by decide) (fun c_96 => ?_) (fun c_96 => ?_)
          · skip
            refine r_iconst (v := nI 0) K dX6_depth_103 (by decide) ?_
            refine r_iadd (v := nI (((lvl (τ 2 b) (τ 1 b 6) v) - (τ 2 b c)) + 0)) K dX6_depth_104 (nI_add _ _) ?_
            exact r_iret K (by decide) (by decide) ⟨congrArg (fun q => some (Value.int (nI q))) (by unfold dpC dpt; rw [show i = c by omega] at c_96; rw [if_neg (by omega), if_neg (by omega)]), rfl, rfl⟩ dX6_depth_105
          · skip
            refine r_iconst (v := nI 1) K dX6_depth_99 (by decide) ?_
            refine r_goto K dX6_depth_100 104 (by decide) ?_
            refine r_iadd (v := nI (((lvl (τ 2 b) (τ 1 b 6) v) - (τ 2 b c)) + 1)) K dX6_depth_104 (nI_add _ _) ?_
            exact r_iret K (by decide) (by decide) ⟨congrArg (fun q => some (Value.int (nI q))) (by unfold dpC dpt; rw [show i = c by omega] at c_96; rw [if_neg (by omega), if_pos (by omega)]), rfl, rfl⟩ dX6_depth_105
        · skip
          refine r_iload K dX6_depth_54 5 rfl ?_
          refine r_aload_n K dX6_depth_56 0 rfl rfl ?_
          refine r_get (v := .ref (ad 21 8)) K fd_X6_31 rfl rfl rfl dX6_depth_57 ?_
          refine r_iload K dX6_depth_60 7 rfl ?_
          refine r_iald (j := 8 * b + i) (v := nI (τ 2 b i)) K rfl rfl rfl (by omega) (by decide) (by show nI _ = nI _; rw [show (8 * b + i) / 8 = b by omega, show (8 * b + i) % 8 = i by omega]; try (first | rfl | (repeat first | rw [su_s] | rw [su_n (by omega)]))) dX6_depth_62 ?_
          refine r_iload K dX6_depth_63 4 rfl ?_
          refine r_icmp_gt K dX6_depth_65 72 (lvl (τ 2 b) (τ 1 b 6) v < τ 2 b i) (nI_ltI (by omega) (by omega)) (by decide) (fun c_65 => ?_) (fun c_65 => ?_)
          · skip
            refine r_iconst (v := nI 0) K dX6_depth_72 (by decide) ?_
            refine r_isub (v := nI (v - upto (τ 2 b) (lvl (τ 2 b) (τ 1 b 6) v) (τ 1 b 6)) - nI (ahd (τ 2 b) (lvl (τ 2 b) (τ 1 b 6) v) (i + 1))) K dX6_depth_73 (by rw [ahd_f (by omega)]; exact Int32.sub_zero _) ?_
            refine r_istore (lv' := [(5, .int (nI (v - upto (τ 2 b) (lvl (τ 2 b) (τ 1 b 6) v) (τ 1 b 6)) - nI (ahd (τ 2 b) (lvl (τ 2 b) (τ 1 b 6) v) (i + 1)))), (0, .ref (ad 20 0)), (1, .int (nI b)), (2, .int (nI c)), (3, .int (nI v)), (4, .int (nI (lvl (τ 2 b) (τ 1 b 6) v))), (6, .int (nI (8 * b))), (7, .int (nI (8 * b + i)))]) K dX6_depth_74 (by decide) rfl ?_
            refine r_iinc (v := nI (8 * b + (i + 1))) (lv' := [(7, .int (nI (8 * b + (i + 1)))), (5, .int (nI (v - upto (τ 2 b) (lvl (τ 2 b) (τ 1 b 6) v) (τ 1 b 6)) - nI (ahd (τ 2 b) (lvl (τ 2 b) (τ 1 b 6) v) (i + 1)))), (0, .ref (ad 20 0)), (1, .int (nI b)), (2, .int (nI c)), (3, .int (nI v)), (4, .int (nI (lvl (τ 2 b) (τ 1 b 6) v))), (6, .int (nI (8 * b)))]) K dX6_depth_76 7 rfl (ic_1 _) (by decide) rfl ?_
            refine r_goto K dX6_depth_79 45 (by decide) ?_
            refine r_lv (lv' := [(0, .ref (ad 20 0)), (1, .int (nI b)), (2, .int (nI c)), (3, .int (nI v)), (4, .int (nI (lvl (τ 2 b) (τ 1 b 6) v))), (5, .int (nI (v - upto (τ 2 b) (lvl (τ 2 b) (τ 1 b 6) v) (τ 1 b 6)) - nI (ahd (τ 2 b) (lvl (τ 2 b) (τ 1 b 6) v) (i + 1)))), (6, .int (nI (8 * b))), (7, .int (nI (8 * b + (i + 1))))]) [2, 3, 4, 5, 6, 1, 7, 0] rfl ?_
            exact ih_lp (i + 1) (by omega) (by omega)
          · skip
            refine r_iconst (v := nI 1) K dX6_depth_68 (by decide) ?_
            refine r_goto K dX6_depth_69 73 (by decide) ?_
            refine r_isub (v := nI (v - upto (τ 2 b) (lvl (τ 2 b) (τ 1 b 6) v) (τ 1 b 6)) - nI (ahd (τ 2 b) (lvl (τ 2 b) (τ 1 b 6) v) (i + 1))) K dX6_depth_73 (by rw [ahd_t (by omega)]; exact sub_a) ?_
            refine r_istore (lv' := [(5, .int (nI (v - upto (τ 2 b) (lvl (τ 2 b) (τ 1 b 6) v) (τ 1 b 6)) - nI (ahd (τ 2 b) (lvl (τ 2 b) (τ 1 b 6) v) (i + 1)))), (0, .ref (ad 20 0)), (1, .int (nI b)), (2, .int (nI c)), (3, .int (nI v)), (4, .int (nI (lvl (τ 2 b) (τ 1 b 6) v))), (6, .int (nI (8 * b))), (7, .int (nI (8 * b + i)))]) K dX6_depth_74 (by decide) rfl ?_
            refine r_iinc (v := nI (8 * b + (i + 1))) (lv' := [(7, .int (nI (8 * b + (i + 1)))), (5, .int (nI (v - upto (τ 2 b) (lvl (τ 2 b) (τ 1 b 6) v) (τ 1 b 6)) - nI (ahd (τ 2 b) (lvl (τ 2 b) (τ 1 b 6) v) (i + 1)))), (0, .ref (ad 20 0)), (1, .int (nI b)), (2, .int (nI c)), (3, .int (nI v)), (4, .int (nI (lvl (τ 2 b) (τ 1 b 6) v))), (6, .int (nI (8 * b)))]) K dX6_depth_76 7 rfl (ic_1 _) (by decide) rfl ?_
            refine r_goto K dX6_depth_79 45 (by decide) ?_
            refine r_lv (lv' := [(0, .ref (ad 20 0)), (1, .int (nI b)), (2, .int (nI c)), (3, .int (nI v)), (4, .int (nI (lvl (τ 2 b) (τ 1 b 6) v))), (5, .int (nI (v - upto (τ 2 b) (lvl (τ 2 b) (τ 1 b 6) v) (τ 1 b 6)) - nI (ahd (τ 2 b) (lvl (τ 2 b) (τ 1 b 6) v) (i + 1)))), (6, .int (nI (8 * b))), (7, .int (nI (8 * b + (i + 1))))]) [2, 3, 4, 5, 6, 1, 7, 0] rfl ?_
            exact ih_lp (i + 1) (by omega) (by omega)
    refine r_lv (lv' := [(0, .ref (ad 20 0)), (1, .int (nI b)), (2, .int (nI c)), (3, .int (nI v)), (4, .int (nI (lvl (τ 2 b) (τ 1 b 6) v))), (5, .int (nI (v - upto (τ 2 b) (lvl (τ 2 b) (τ 1 b 6) v) (τ 1 b 6)) - nI (ahd (τ 2 b) (lvl (τ 2 b) (τ 1 b 6) v) 0))), (6, .int (nI (8 * b))), (7, .int (nI (8 * b)))]) [4, 5, 6, 7, 3, 2, 1, 0] rfl ?_
    exact lp (c - (0) + 1) 0 (by omega) (by omega)
  · skip
    refine r_iconst (v := nI 0) K dX6_depth_39 (by decide) ?_
    exact r_iret K (by decide) (by decide) ⟨congrArg (fun q => some (Value.int (nI q))) (by unfold dpC dpt; rw [if_pos (by omega)]), rfl, rfl⟩ dX6_depth_40
set_option maxRecDepth 100000 in
set_option maxHeartbeats 4000000 in
theorem k_X6_then {z : Zx} {l : Launch} {σ τ : Sg} {o : Int64 × UInt64} {ad : Nm} (hl : l.stackTraces = false) {b c h : Nat} (I : InvB τ) (hb : b < τ 0 0 0) (hc : c < τ 1 b 6) (hh : 1 ≤ h ∧ h ≤ 60) : Ko z l yX6_then cX6_then 4 (some .int) 3 0 0 [.ref (ad 20 0), .int (nI b), .int (nI c), .int (nI h)] ad (Wz z ad σ τ o) (okV (some (.int (nI (dpC τ b c (τ 7 b h))))) ad (Wz z ad σ τ o)) exNo := by
  refine ko_of hl (by decide +kernel) (Nat.le_of_ble_eq_true rfl) (fun g hg K => ?_)
  subst hg
  have q0 := I.1.1
  have q1 := I.1.2.1
  have q2 := I.1.2.2.1
  have q3 := I.1.2.2.2.1
  have q4 := I.1.2.2.2.2.1
  obtain ⟨-, -, -, q, hs5, hs7⟩ := I.2.1 b hb
  have q7 := q.1
  have q8 := q.2.1
  show WW g z 4 0 0 ad (Wz z ad σ τ o) 0 [(0, .ref (ad 20 0)), (1, .int (nI b)), (2, .int (nI c)), (3, .int (nI h))] []
  refine r_aload_n K dX6_then_0 0 rfl rfl ?_
  refine r_iload_n K dX6_then_1 1 rfl rfl ?_
  refine r_iload_n K dX6_then_2 2 rfl rfl ?_
  refine r_aload_n K dX6_then_3 0 rfl rfl ?_
  refine r_get (v := .ref (ad 21 24)) K fd_X6_68 rfl rfl rfl dX6_then_4 ?_
  refine r_bipush (v := nI 6) K dX6_then_7 (by decide) ?_
  refine r_iload_n K dX6_then_9 3 rfl rfl ?_
  refine r_iconst (v := nI 1) K dX6_then_10 (by decide) ?_
  refine r_isub (v := nI (h - 1)) K dX6_then_11 (pk_sub (by omega)) ?_
  refine r_imul (v := nI (6 * (h - 1))) K dX6_then_12 (pk_mul _ _) ?_
  refine r_iload_n K dX6_then_13 1 rfl rfl ?_
  refine r_iadd (v := nI ((6 * (h - 1)) + b)) K dX6_then_14 (nI_add _ _) ?_
  refine r_iald (j := (6 * (h - 1)) + b) (v := nI (τ 7 b h)) K rfl rfl rfl (by omega) (by decide) (by show nI _ = nI _; rw [show ((6 * (h - 1)) + b) % 6 = b by omega, show ((6 * (h - 1)) + b) / 6 + 1 = h by omega]; try (first | rfl | (repeat first | rw [su_s] | rw [su_n (by omega)]))) dX6_then_15 ?_
  refine r_callV (st := []) K (k_X6_depth (b := b) (c := c) (v := τ 7 b h) hl I (by first | exact hb | exact hk | exact hj | exact hw | omega | assumption) (by first | exact hb | exact hk | exact hj | exact hw | omega | assumption) (by have := hs7 h; omega)) cw_X6_172 wd_1565 wd_34 (by decide) (by decide) rfl rfl rfl rfl (Nat.le_of_ble_eq_true rfl) (by decide) (by decide) dX6_then_16 ?_
  rintro _ _ _ ⟨rfl, rfl, rfl⟩
  show WW g z 4 0 0 ad (Wz z ad σ τ o) 19 [(0, .ref (ad 20 0)), (1, .int (nI b)), (2, .int (nI c)), (3, .int (nI h))] [.int (nI (dpC τ b c (τ 7 b h)))]
  exact r_iret K (by decide) (by decide) ⟨congrArg (fun q => some (Value.int (nI q))) (by rfl), rfl, rfl⟩ dX6_then_19
set_option maxRecDepth 100000 in
set_option maxHeartbeats 4000000 in
theorem k_X6_wet {z : Zx} {l : Launch} {σ τ : Sg} {o : Int64 × UInt64} {ad : Nm} (hl : l.stackTraces = false) {b v : Nat} (I : InvB τ) (hb : b < τ 0 0 0) (hv : v ≤ 250000) : Ko z l yX6_wet cX6_wet 5 (some .int) 3 0 0 [.ref (ad 20 0), .int (nI b), .int (nI v)] ad (Wz z ad σ τ o) (okV (some (.int (nI (wn (τ 2 b) (τ 1 b 6) v (τ 1 b 6))))) ad (Wz z ad σ τ o)) exNo := by
  refine ko_of hl (by decide +kernel) (Nat.le_of_ble_eq_true rfl) (fun g hg K => ?_)
  subst hg
  have q0 := I.1.1
  have q1 := I.1.2.1
  have q2 := I.1.2.2.1
  have q3 := I.1.2.2.2.1
  have q4 := I.1.2.2.2.2.1
  obtain ⟨-, -, -, q, -⟩ := I.2.1 b hb
  have q7 := q.1
  have q8 := q.2.1
  show WW g z 5 0 0 ad (Wz z ad σ τ o) 0 [(0, .ref (ad 20 0)), (1, .int (nI b)), (2, .int (nI v))] []
  refine r_iconst (v := nI 0) K dX6_wet_0 (by decide) ?_
  refine r_istore_n (lv' := [(3, .int (nI 0)), (0, .ref (ad 20 0)), (1, .int (nI b)), (2, .int (nI v))]) K dX6_wet_1 rfl (by decide) rfl ?_
  refine r_iconst (v := nI 0) K dX6_wet_2 (by decide) ?_
  refine r_istore (lv' := [(4, .int (nI 0)), (3, .int (nI 0)), (0, .ref (ad 20 0)), (1, .int (nI b)), (2, .int (nI v))]) K dX6_wet_3 (by decide) rfl ?_
  have lp : ∀ (fuel : Nat) (i : Nat), τ 1 b 6 - i < fuel → i ≤ τ 1 b 6 → WW g z 5 0 0 ad (Wz z ad σ τ o) 5 [(0, .ref (ad 20 0)), (1, .int (nI b)), (2, .int (nI v)), (3, .int (nI (wn (τ 2 b) (τ 1 b 6) v i))), (4, .int (nI i))] [] := by
    intro fuel
    induction fuel with
    | zero => intro i hf h1; exact absurd hf (Nat.not_lt_zero _)
    | succ fuel ih_lp =>
      intro i hf h1
      refine r_iload K dX6_wet_5 4 rfl ?_
      refine r_aload_n K dX6_wet_7 0 rfl rfl ?_
      refine r_get (v := .ref (ad 21 7)) K fd_X6_28 rfl rfl rfl dX6_wet_8 ?_
      refine r_iload_n K dX6_wet_11 1 rfl rfl ?_
      refine r_iald (j := b) (v := nI (τ 1 b 6)) K rfl rfl rfl (by omega) (by decide) rfl dX6_wet_12 ?_
      refine r_icmp_ge K dX6_wet_13 41 (τ 1 b 6 ≤ i) (nI_leI (by omega) (by omega)) (by decide) (fun c_13 => ?_) (fun c_13 => ?_)
      · skip
        refine r_iload_n K dX6_wet_41 3 rfl rfl ?_
        exact r_iret K (by decide) (by decide) ⟨congrArg (fun q => some (Value.int (nI q))) (by rw [show i = τ 1 b 6 by omega]), rfl, rfl⟩ dX6_wet_42
      · skip
        have hi : i < τ 1 b 6 := by omega
        have gd : dpC τ b i v ≤ v + 31 := dpt_le q
        refine r_iload_n K dX6_wet_16 3 rfl rfl ?_
        refine r_aload_n K dX6_wet_17 0 rfl rfl ?_
        refine r_iload_n K dX6_wet_18 1 rfl rfl ?_
        refine r_iload K dX6_wet_19 4 rfl ?_
        refine r_iload_n K dX6_wet_21 2 rfl rfl ?_
        refine r_callV (st := [.int (nI (wn (τ 2 b) (τ 1 b 6) v i))]) K (k_X6_depth (b := b) (c := i) (v := v) hl I (by first | exact hi | exact hb | omega | assumption) (by first | exact hi | exact hb | omega | assumption) (by omega)) cw_X6_172 wd_1565 wd_34 (by decide) (by decide) rfl rfl rfl rfl (Nat.le_of_ble_eq_true rfl) (by decide) (by decide) dX6_wet_22 ?_
        rintro _ _ _ ⟨rfl, rfl, rfl⟩
        show WW g z 5 0 0 ad (Wz z ad σ τ o) 25 [(0, .ref (ad 20 0)), (1, .int (nI b)), (2, .int (nI v)), (3, .int (nI (wn (τ 2 b) (τ 1 b 6) v i))), (4, .int (nI i))] [.int (nI (dpC τ b i v)), .int (nI (wn (τ 2 b) (τ 1 b 6) v i))]
        refine r_if_le K dX6_wet_25 32 (dpC τ b i v = 0) (n0_le (by omega)) (by decide) (fun c_25 => ?_) (fun c_25 => ?_)
        · skip
          refine r_iconst (v := nI 0) K dX6_wet_32 (by decide) ?_
          refine r_iadd (v := nI ((wn (τ 2 b) (τ 1 b 6) v i) + 0)) K dX6_wet_33 (nI_add _ _) ?_
          refine r_eq (st' := [.int (nI (wn (τ 2 b) (τ 1 b 6) v (i + 1)))]) rfl rfl rfl (by rw [wn, if_neg (show ¬ 0 < dpt (τ 2 b) (τ 1 b 6) i v from (by rw [show dpt (τ 2 b) (τ 1 b 6) i v = 0 from c_25]; exact Nat.lt_irrefl 0))]) ?_
          refine r_istore_n (lv' := [(3, .int (nI (wn (τ 2 b) (τ 1 b 6) v (i + 1)))), (0, .ref (ad 20 0)), (1, .int (nI b)), (2, .int (nI v)), (4, .int (nI i))]) K dX6_wet_34 rfl (by decide) rfl ?_
          refine r_iinc (v := nI (i + 1)) (lv' := [(4, .int (nI (i + 1))), (3, .int (nI (wn (τ 2 b) (τ 1 b 6) v (i + 1)))), (0, .ref (ad 20 0)), (1, .int (nI b)), (2, .int (nI v))]) K dX6_wet_35 4 rfl (ic_1 _) (by decide) rfl ?_
          refine r_goto K dX6_wet_38 5 (by decide) ?_
          refine r_lv (lv' := [(0, .ref (ad 20 0)), (1, .int (nI b)), (2, .int (nI v)), (3, .int (nI (wn (τ 2 b) (τ 1 b 6) v (i + 1)))), (4, .int (nI (i + 1)))]) [2, 3, 4, 1, 0] rfl ?_
          exact ih_lp (i + 1) (by omega) (by omega)
        · skip
          refine r_iconst (v := nI 1) K dX6_wet_28 (by decide) ?_
          refine r_goto K dX6_wet_29 33 (by decide) ?_
          refine r_iadd (v := nI ((wn (τ 2 b) (τ 1 b 6) v i) + 1)) K dX6_wet_33 (nI_add _ _) ?_
          refine r_eq (st' := [.int (nI (wn (τ 2 b) (τ 1 b 6) v (i + 1)))]) rfl rfl rfl (by rw [wn, if_pos (show 0 < dpt (τ 2 b) (τ 1 b 6) i v from Nat.pos_of_ne_zero c_25)]) ?_
          refine r_istore_n (lv' := [(3, .int (nI (wn (τ 2 b) (τ 1 b 6) v (i + 1)))), (0, .ref (ad 20 0)), (1, .int (nI b)), (2, .int (nI v)), (4, .int (nI i))]) K dX6_wet_34 rfl (by decide) rfl ?_
          refine r_iinc (v := nI (i + 1)) (lv' := [(4, .int (nI (i + 1))), (3, .int (nI (wn (τ 2 b) (τ 1 b 6) v (i + 1)))), (0, .ref (ad 20 0)), (1, .int (nI b)), (2, .int (nI v))]) K dX6_wet_35 4 rfl (ic_1 _) (by decide) rfl ?_
          refine r_goto K dX6_wet_38 5 (by decide) ?_
          refine r_lv (lv' := [(0, .ref (ad 20 0)), (1, .int (nI b)), (2, .int (nI v)), (3, .int (nI (wn (τ 2 b) (τ 1 b 6) v (i + 1)))), (4, .int (nI (i + 1)))]) [2, 3, 4, 1, 0] rfl ?_
          exact ih_lp (i + 1) (by omega) (by omega)
  refine r_lv (lv' := [(0, .ref (ad 20 0)), (1, .int (nI b)), (2, .int (nI v)), (3, .int (nI 0)), (4, .int (nI 0))]) [2, 3, 4, 1, 0] rfl ?_
  exact lp (τ 1 b 6 - (0) + 1) 0 (by omega) (by omega)
set_option maxRecDepth 100000 in
set_option maxHeartbeats 4000000 in
theorem k_X6_worth {z : Zx} {l : Launch} {σ τ : Sg} {o : Int64 × UInt64} {ad : Nm} (hl : l.stackTraces = false) {k h : Nat} (I : InvB τ) (hk : k < τ 0 2 0) (hh : 1 ≤ h ∧ h ≤ 60) : Ko z l yX6_worth cX6_worth 3 (some .int) 4 0 0 [.ref (ad 20 0), .int (nI k), .int (nI h)] ad (Wz z ad σ τ o) (okV (some (.int (nI (wor τ k h)))) ad (Wz z ad σ τ o)) exNo := by
  refine ko_of hl (by decide +kernel) (Nat.le_of_ble_eq_true rfl) (fun g hg K => ?_)
  subst hg
  have q0 := I.1.1
  have q1 := I.1.2.1
  have q2 := I.1.2.2.1
  have q3 := I.1.2.2.2.1
  have q4 := I.1.2.2.2.2.1
  obtain ⟨a1, a2, a3, a4, a5, a6⟩ := I.house hk
  show WW g z 3 0 0 ad (Wz z ad σ τ o) 0 [(0, .ref (ad 20 0)), (1, .int (nI k)), (2, .int (nI h))] []
  refine r_aload_n K dX6_worth_0 0 rfl rfl ?_
  refine r_get (v := .ref (ad 21 28)) K fd_X6_77 rfl rfl rfl dX6_worth_1 ?_
  refine r_iload_n K dX6_worth_4 1 rfl rfl ?_
  refine r_iald (j := k) (v := nI (τ 9 k 2)) K rfl rfl rfl (by omega) (by decide) rfl dX6_worth_5 ?_
  refine r_aload_n K dX6_worth_6 0 rfl rfl ?_
  refine r_aload_n K dX6_worth_7 0 rfl rfl ?_
  refine r_get (v := .ref (ad 21 26)) K fd_X6_71 rfl rfl rfl dX6_worth_8 ?_
  refine r_iload_n K dX6_worth_11 1 rfl rfl ?_
  refine r_iald (j := k) (v := nI (τ 9 k 0)) K rfl rfl rfl (by omega) (by decide) rfl dX6_worth_12 ?_
  refine r_aload_n K dX6_worth_13 0 rfl rfl ?_
  refine r_get (v := .ref (ad 21 27)) K fd_X6_74 rfl rfl rfl dX6_worth_14 ?_
  refine r_iload_n K dX6_worth_17 1 rfl rfl ?_
  refine r_iald (j := k) (v := nI (τ 9 k 1)) K rfl rfl rfl (by omega) (by decide) rfl dX6_worth_18 ?_
  refine r_iload_n K dX6_worth_19 2 rfl rfl ?_
  refine r_callV (st := [.int (nI (τ 9 k 2))]) K (k_X6_then (b := τ 9 k 0) (c := τ 9 k 1) (h := h) hl I (by first | exact a1 | exact a3 | exact hh | omega) (by first | exact a1 | exact a3 | exact hh | omega) (by first | exact a1 | exact a3 | exact hh | omega)) cw_X6_179 wd_1585 wd_37 (by decide) (by decide) rfl rfl rfl rfl (Nat.le_of_ble_eq_true rfl) (by decide) (by decide) dX6_worth_20 ?_
  rintro _ _ _ ⟨rfl, rfl, rfl⟩
  show WW g z 3 0 0 ad (Wz z ad σ τ o) 23 [(0, .ref (ad 20 0)), (1, .int (nI k)), (2, .int (nI h))] [.int (nI (dpC τ (τ 9 k 0) (τ 9 k 1) (τ 7 (τ 9 k 0) h))), .int (nI (τ 9 k 2))]
  refine r_imul (v := nI ((τ 9 k 2) * (dpC τ (τ 9 k 0) (τ 9 k 1) (τ 7 (τ 9 k 0) h)))) K dX6_worth_23 (pk_mul _ _) ?_
  exact r_iret K (by decide) (by decide) ⟨congrArg (fun q => some (Value.int (nI q))) (by rfl), rfl, rfl⟩ dX6_worth_24
set_option maxRecDepth 100000 in
set_option maxHeartbeats 4000000 in
theorem k_X6_pays {z : Zx} {l : Launch} {σ τ : Sg} {o : Int64 × UInt64} {ad : Nm} (hl : l.stackTraces = false) {k h : Nat} (I : InvB τ) (hk : k < τ 0 2 0) (hh : 1 ≤ h ∧ h ≤ 60) : Ko z l yX6_pays cX6_pays 4 (some .int) 5 0 0 [.ref (ad 20 0), .int (nI k), .int (nI h)] ad (Wz z ad σ τ o) (okV (some (.int (nI (pmt τ k h)))) ad (Wz z ad σ (su (su (su τ 9 k 4 (τ 9 k 4 + pmt τ k h)) 10 k h 1) 71 0 0 (τ 71 0 0 + 1)) o)) exNo := by
  refine ko_of hl (by decide +kernel) (Nat.le_of_ble_eq_true rfl) (fun g hg K => ?_)
  subst hg
  have q0 := I.1.1
  have q1 := I.1.2.1
  have q2 := I.1.2.2.1
  have q3 := I.1.2.2.2.1
  have q4 := I.1.2.2.2.2.1
  show WW g z 4 0 0 ad (Wz z ad σ τ o) 0 [(0, .ref (ad 20 0)), (1, .int (nI k)), (2, .int (nI h))] []
  refine r_aload_n K dX6_pays_0 0 rfl rfl ?_
  refine r_iload_n K dX6_pays_1 1 rfl rfl ?_
  refine r_iload_n K dX6_pays_2 2 rfl rfl ?_
  refine r_callV (st := []) K (k_X6_worth (k := k) (h := h) hl I (by exact hk) (by first | exact hh | omega)) cw_X6_191 wd_1625 wd_41 (by decide) (by decide) rfl rfl rfl rfl (Nat.le_of_ble_eq_true rfl) (by decide) (by decide) dX6_pays_3 ?_
  rintro _ _ _ ⟨rfl, rfl, rfl⟩
  show WW g z 4 0 0 ad (Wz z ad σ τ o) 6 [(0, .ref (ad 20 0)), (1, .int (nI k)), (2, .int (nI h))] [.int (nI (wor τ k h))]
  have gw := wor_le I hk h
  obtain ⟨⟨-, -, -, g4, g5⟩, -⟩ := I.2.2.2 k hk
  refine r_aload_n K dX6_pays_6 0 rfl rfl ?_
  refine r_get (v := .ref (ad 21 29)) K fd_X6_80 rfl rfl rfl dX6_pays_7 ?_
  refine r_iload_n K dX6_pays_10 1 rfl rfl ?_
  refine r_iald (j := k) (v := nI (τ 9 k 3)) K rfl rfl rfl (by omega) (by decide) rfl dX6_pays_11 ?_
  refine r_aload_n K dX6_pays_12 0 rfl rfl ?_
  refine r_get (v := .ref (ad 21 30)) K fd_X6_83 rfl rfl rfl dX6_pays_13 ?_
  refine r_iload_n K dX6_pays_16 1 rfl rfl ?_
  refine r_iald (j := k) (v := nI (τ 9 k 4)) K rfl rfl rfl (by omega) (by decide) rfl dX6_pays_17 ?_
  refine r_isub (v := nI ((τ 9 k 3) - (τ 9 k 4))) K dX6_pays_18 (pk_sub (by omega)) ?_
  refine r_callS (st := []) K (k_X6_lesser (a := wor τ k h) (b := (τ 9 k 3) - (τ 9 k 4)) hl (by omega) (by omega)) cw_X6_144 wd_1513 (by decide) (by decide) rfl (Nat.le_of_ble_eq_true rfl) (by decide) (by decide) dX6_pays_19 ?_
  rintro _ _ _ ⟨rfl, rfl, rfl⟩
  show WW g z 4 0 0 ad (Wz z ad σ τ o) 22 [(0, .ref (ad 20 0)), (1, .int (nI k)), (2, .int (nI h))] [.int (nI (min (wor τ k h) ((τ 9 k 3) - (τ 9 k 4))))]
  refine r_istore_n (lv' := [(3, .int (nI (min (wor τ k h) ((τ 9 k 3) - (τ 9 k 4))))), (0, .ref (ad 20 0)), (1, .int (nI k)), (2, .int (nI h))]) K dX6_pays_22 rfl (by decide) rfl ?_
  refine r_aload_n K dX6_pays_23 1 rfl rfl ?_
  refine r_get (v := .ref (ad 21 30)) K fd_X6_83 rfl rfl rfl dX6_pays_24 ?_
  refine r_iload_n K dX6_pays_27 2 rfl rfl ?_
  refine r_dup2 K dX6_pays_28 rfl rfl ?_
  refine r_iald (j := k) (v := nI (τ 9 k 4)) K rfl rfl rfl (by omega) (by decide) rfl dX6_pays_29 ?_
  refine r_iload_n K dX6_pays_30 0 rfl rfl ?_
  refine r_iadd (v := nI ((τ 9 k 4) + (min (wor τ k h) ((τ 9 k 3) - (τ 9 k 4))))) K dX6_pays_31 (nI_add _ _) ?_
  refine r_iast (j := k) K rfl rfl rfl (by omega) (by decide) rfl dX6_pays_32 ?_
  refine r_mu u_21_30 ?_
  show WW g z 4 0 0 ad (Wz z ad σ (su τ 9 k 4 ((τ 9 k 4) + (min (wor τ k h) ((τ 9 k 3) - (τ 9 k 4))))) o) 33 [(3, .int (nI (min (wor τ k h) ((τ 9 k 3) - (τ 9 k 4))))), (0, .ref (ad 20 0)), (1, .int (nI k)), (2, .int (nI h))] []
  refine r_aload_n K dX6_pays_33 1 rfl rfl ?_
  refine r_get (v := .ref (ad 21 31)) K fd_X6_86 rfl rfl rfl dX6_pays_34 ?_
  refine r_bipush (v := nI 60) K dX6_pays_37 (by decide) ?_
  refine r_iload_n K dX6_pays_39 2 rfl rfl ?_
  refine r_imul (v := nI (60 * k)) K dX6_pays_40 (pk_mul _ _) ?_
  refine r_iload_n K dX6_pays_41 3 rfl rfl ?_
  refine r_iadd (v := nI ((60 * k) + h)) K dX6_pays_42 (nI_add _ _) ?_
  refine r_iconst (v := nI 1) K dX6_pays_43 (by decide) ?_
  refine r_isub (v := nI (((60 * k) + h) - 1)) K dX6_pays_44 (pk_sub (by omega)) ?_
  refine r_iconst (v := nI 1) K dX6_pays_45 (by decide) ?_
  refine r_zast (j := ((60 * k) + h) - 1) K rfl rfl rfl (by omega) (by decide) (congrArg (upd _ _) (zn (by omega))) dX6_pays_46 ?_
  refine r_mu (u_21_31 (a := k) (b := h) (⟨by omega, by omega⟩)) ?_
  show WW g z 4 0 0 ad (Wz z ad σ (su (su τ 9 k 4 ((τ 9 k 4) + (min (wor τ k h) ((τ 9 k 3) - (τ 9 k 4))))) 10 k h 1) o) 47 [(3, .int (nI (min (wor τ k h) ((τ 9 k 3) - (τ 9 k 4))))), (0, .ref (ad 20 0)), (1, .int (nI k)), (2, .int (nI h))] []
  refine r_aload_n K dX6_pays_47 1 rfl rfl ?_
  refine r_dup K dX6_pays_48 rfl ?_
  refine r_get (v := .int (nI (τ 71 0 0))) K fd_X6_194 rfl rfl rfl dX6_pays_49 ?_
  refine r_iconst (v := nI 1) K dX6_pays_52 (by decide) ?_
  refine r_iadd (v := nI ((τ 71 0 0) + 1)) K dX6_pays_53 (nI_add _ _) ?_
  refine r_put K fd_X6_194 rfl rfl rfl rfl (Nat.le_of_ble_eq_true rfl) rfl dX6_pays_54 ?_
  refine r_mu (u_20_32) ?_
  show WW g z 4 0 0 ad (Wz z ad σ (su (su (su τ 9 k 4 ((τ 9 k 4) + (min (wor τ k h) ((τ 9 k 3) - (τ 9 k 4))))) 10 k h 1) 71 0 0 ((τ 71 0 0) + 1)) o) 57 [(3, .int (nI (min (wor τ k h) ((τ 9 k 3) - (τ 9 k 4))))), (0, .ref (ad 20 0)), (1, .int (nI k)), (2, .int (nI h))] []
  refine r_iload_n K dX6_pays_57 0 rfl rfl ?_
  exact r_iret K (by decide) (by decide) ⟨rfl, rfl, rfl⟩ dX6_pays_58
set_option maxRecDepth 100000 in
set_option maxHeartbeats 4000000 in
theorem k_X6_allPaid {z : Zx} {l : Launch} {σ τ : Sg} {o : Int64 × UInt64} {ad : Nm} (hl : l.stackTraces = false) (I : InvB τ) : Ko z l yX6_allPaid cX6_allPaid 4 (some .long) 0 0 0 [.ref (ad 20 0)] ad (Wz z ad σ τ o) (okV (some (.long (nJ (pdT τ)))) ad (Wz z ad σ τ o)) exNo := by
  refine ko_of hl (by decide +kernel) (Nat.le_of_ble_eq_true rfl) (fun g hg K => ?_)
  subst hg
  have q0 := I.1.1
  have q1 := I.1.2.1
  have q2 := I.1.2.2.1
  have q3 := I.1.2.2.2.1
  have q4 := I.1.2.2.2.2.1
  show WW g z 4 0 0 ad (Wz z ad σ τ o) 0 [(0, .ref (ad 20 0))] []
  refine r_lconst (v := nJ (0)) K dX6_allPaid_0 rfl ?_
  refine r_lstore_n (lv' := [(1, .long (nJ (0))), (0, .ref (ad 20 0))]) K dX6_allPaid_1 rfl (by decide) rfl ?_
  refine r_iconst (v := nI 0) K dX6_allPaid_2 (by decide) ?_
  refine r_istore_n (lv' := [(3, .int (nI 0)), (1, .long (nJ (0))), (0, .ref (ad 20 0))]) K dX6_allPaid_3 rfl (by decide) rfl ?_
  have lp : ∀ (fuel : Nat) (i : Nat), τ 0 2 0 - i < fuel → i ≤ τ 0 2 0 → WW g z 4 0 0 ad (Wz z ad σ τ o) 4 [(0, .ref (ad 20 0)), (1, .long (nJ (sumT (fun k => τ 9 k 4) i))), (3, .int (nI i))] [] := by
    intro fuel
    induction fuel with
    | zero => intro i hf h1; exact absurd hf (Nat.not_lt_zero _)
    | succ fuel ih_lp =>
      intro i hf h1
      refine r_iload_n K dX6_allPaid_4 2 rfl rfl ?_
      refine r_aload_n K dX6_allPaid_5 0 rfl rfl ?_
      refine r_get (v := .int (nI (τ 0 2 0))) K fd_X6_117 rfl rfl rfl dX6_allPaid_6 ?_
      refine r_icmp_ge K dX6_allPaid_9 28 (τ 0 2 0 ≤ i) (nI_leI (by omega) (by omega)) (by decide) (fun c_9 => ?_) (fun c_9 => ?_)
      · skip
        refine r_lload_n K dX6_allPaid_28 1 rfl rfl ?_
        exact r_lret K (by decide) (by decide) ⟨by rw [show i = τ 0 2 0 by omega]; rfl, rfl, rfl⟩ dX6_allPaid_29
      · skip
        have hk : i < τ 0 2 0 := by omega
        obtain ⟨⟨-, -, -, p1, p2⟩, -⟩ := I.2.2.2 i hk
        refine r_lload_n K dX6_allPaid_12 1 rfl rfl ?_
        refine r_aload_n K dX6_allPaid_13 0 rfl rfl ?_
        refine r_get (v := .ref (ad 21 30)) K fd_X6_83 rfl rfl rfl dX6_allPaid_14 ?_
        refine r_iload_n K dX6_allPaid_17 2 rfl rfl ?_
        refine r_iald (j := i) (v := nI (τ 9 i 4)) K rfl rfl rfl (by omega) (by decide) rfl dX6_allPaid_18 ?_
        refine r_i2l (v := nJ (τ 9 i 4)) K dX6_allPaid_19 (nJ_i2l (by omega)) ?_
        refine r_ladd (v := nJ (sumT (fun k => τ 9 k 4) i + (τ 9 i 4))) K dX6_allPaid_20 (nJ_add _ _) ?_
        refine r_lstore_n (lv' := [(1, .long (nJ (sumT (fun k => τ 9 k 4) i + (τ 9 i 4)))), (0, .ref (ad 20 0)), (3, .int (nI i))]) K dX6_allPaid_21 rfl (by decide) rfl ?_
        refine r_iinc (v := nI (i + 1)) (lv' := [(3, .int (nI (i + 1))), (1, .long (nJ (sumT (fun k => τ 9 k 4) i + (τ 9 i 4)))), (0, .ref (ad 20 0))]) K dX6_allPaid_22 2 rfl (ic_1 _) (by decide) rfl ?_
        refine r_goto K dX6_allPaid_25 4 (by decide) ?_
        refine r_lv (lv' := [(0, .ref (ad 20 0)), (1, .long (nJ (sumT (fun k => τ 9 k 4) i + (τ 9 i 4)))), (3, .int (nI (i + 1)))]) [2, 1, 0] rfl ?_
        exact ih_lp (i + 1) (by omega) (by omega)
  refine r_lv (lv' := [(0, .ref (ad 20 0)), (1, .long (nJ (0))), (3, .int (nI 0))]) [2, 1, 0] rfl ?_
  exact lp (τ 0 2 0 - (0) + 1) 0 (by omega) (by omega)
