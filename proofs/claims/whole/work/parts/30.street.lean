set_option maxRecDepth 100000 in
set_option maxHeartbeats 4000000 in
/-- cells among the first c that are not above h -/
theorem k_X3_cellsAhead {z : Zx} {l : Launch} {σ τ : Sg} {o : Int64 × UInt64} {ad : Nm} (hl : l.stackTraces = false) {b c h : Nat} (hb : b < σ 0 0 0) (hc : c ≤ 8) (hh0 : h < 2 ^ 31) (hH : ∀ c, σ 2 b c < 2 ^ 31) : Ko z l yX3_cellsAhead cX3_cellsAhead 5 (some .int) 0 0 0 [.ref (ad 12 b), .int (nI c), .int (nI h)] ad (Wz z ad σ τ o) (okV (some (.int (nI (ahd (σ 2 b) h c)))) ad (Wz z ad σ τ o)) exNo := by
  refine ko_of hl (by decide +kernel) (Nat.le_of_ble_eq_true rfl) (fun g hg K => ?_)
  subst hg
  show WW g z 5 0 0 ad (Wz z ad σ τ o) 0 [(0, .ref (ad 12 b)), (1, .int (nI c)), (2, .int (nI h))] []
  refine r_iconst (v := nI 0) K dX3_cellsAhead_0 (by decide) ?_
  refine r_istore_n (lv' := [(3, .int (nI 0)), (0, .ref (ad 12 b)), (1, .int (nI c)), (2, .int (nI h))]) K dX3_cellsAhead_1 rfl (by decide) rfl ?_
  refine r_iconst (v := nI 0) K dX3_cellsAhead_2 (by decide) ?_
  refine r_istore (lv' := [(4, .int (nI 0)), (3, .int (nI 0)), (0, .ref (ad 12 b)), (1, .int (nI c)), (2, .int (nI h))]) K dX3_cellsAhead_3 (by decide) rfl ?_
  have lp : ∀ (fuel : Nat) (i : Nat), c - i < fuel → i ≤ c → WW g z 5 0 0 ad (Wz z ad σ τ o) 5 [(0, .ref (ad 12 b)), (1, .int (nI c)), (2, .int (nI h)), (3, .int (nI (ahd (σ 2 b) h i))), (4, .int (nI i))] [] := by
    intro fuel
    induction fuel with
    | zero => intro i hf h1; exact absurd hf (Nat.not_lt_zero _)
    | succ fuel ih_lp =>
      intro i hf h1
      have hh := hH i
      have ha := ahd_le (σ 2 b) h i
      refine r_iload K dX3_cellsAhead_5 4 rfl ?_
      refine r_iload_n K dX3_cellsAhead_7 1 rfl rfl ?_
      refine r_icmp_ge K dX3_cellsAhead_8 31 (c ≤ i) (nI_leI (by omega) (by omega)) (by decide) (fun c_8 => ?_) (fun c_8 => ?_)
      · skip
        refine r_iload_n K dX3_cellsAhead_31 3 rfl rfl ?_
        exact r_iret K (by decide) (by decide) ⟨congrArg (fun q => some (Value.int (nI q))) (by rw [show i = c by omega]), rfl, rfl⟩ dX3_cellsAhead_32
      · skip
        refine r_aload_n K dX3_cellsAhead_11 0 rfl rfl ?_
        refine r_get K fd_X3_9 (W_12 (by omega)) rfl rfl dX3_cellsAhead_12 ?_
        refine r_iload K dX3_cellsAhead_15 4 rfl ?_
        refine r_iald (j := i) (v := nI (σ 2 b i)) K (W_14 (by omega)) rfl rfl (by omega) (by decide) rfl dX3_cellsAhead_17 ?_
        refine r_iload_n K dX3_cellsAhead_18 2 rfl rfl ?_
        refine r_icmp_gt K dX3_cellsAhead_19 25 (h < σ 2 b i) (nI_ltI (by omega) (by omega)) (by decide) (fun c_19 => ?_) (fun c_19 => ?_)
        · skip
          rw [← ahd_f (hs := σ 2 b) (h := h) (c := i) (by omega)]
          show WW g z 5 0 0 ad (Wz z ad σ τ o) 25 [(0, .ref (ad 12 b)), (1, .int (nI c)), (2, .int (nI h)), (3, .int (nI (ahd (σ 2 b) h (i + 1)))), (4, .int (nI i))] []
          refine r_iinc (v := nI (i + 1)) (lv' := [(4, .int (nI (i + 1))), (0, .ref (ad 12 b)), (1, .int (nI c)), (2, .int (nI h)), (3, .int (nI (ahd (σ 2 b) h (i + 1))))]) K dX3_cellsAhead_25 4 rfl (ic_1 _) (by decide) rfl ?_
          refine r_goto K dX3_cellsAhead_28 5 (by decide) ?_
          refine r_lv (lv' := [(0, .ref (ad 12 b)), (1, .int (nI c)), (2, .int (nI h)), (3, .int (nI (ahd (σ 2 b) h (i + 1)))), (4, .int (nI (i + 1)))]) [1, 2, 3, 4, 0] rfl ?_
          exact ih_lp (i + 1) (by omega) (by omega)
        · skip
          refine r_iinc (v := nI (ahd (σ 2 b) h i + 1)) (lv' := [(3, .int (nI (ahd (σ 2 b) h i + 1))), (0, .ref (ad 12 b)), (1, .int (nI c)), (2, .int (nI h)), (4, .int (nI i))]) K dX3_cellsAhead_22 3 rfl (ic_1 _) (by decide) rfl ?_
          rw [← ahd_t (hs := σ 2 b) (h := h) (c := i) (by omega)]
          show WW g z 5 0 0 ad (Wz z ad σ τ o) 25 [(3, .int (nI (ahd (σ 2 b) h (i + 1)))), (0, .ref (ad 12 b)), (1, .int (nI c)), (2, .int (nI h)), (4, .int (nI i))] []
          refine r_iinc (v := nI (i + 1)) (lv' := [(4, .int (nI (i + 1))), (3, .int (nI (ahd (σ 2 b) h (i + 1)))), (0, .ref (ad 12 b)), (1, .int (nI c)), (2, .int (nI h))]) K dX3_cellsAhead_25 4 rfl (ic_1 _) (by decide) rfl ?_
          refine r_goto K dX3_cellsAhead_28 5 (by decide) ?_
          refine r_lv (lv' := [(0, .ref (ad 12 b)), (1, .int (nI c)), (2, .int (nI h)), (3, .int (nI (ahd (σ 2 b) h (i + 1)))), (4, .int (nI (i + 1)))]) [2, 3, 4, 1, 0] rfl ?_
          exact ih_lp (i + 1) (by omega) (by omega)
  refine r_lv (lv' := [(0, .ref (ad 12 b)), (1, .int (nI c)), (2, .int (nI h)), (3, .int (nI 0)), (4, .int (nI 0))]) [2, 3, 4, 1, 0] rfl ?_
  exact lp (c - (0) + 1) 0 (by omega) (by omega)
set_option maxRecDepth 100000 in
set_option maxHeartbeats 4000000 in
theorem k_X3_cellsUpTo {z : Zx} {l : Launch} {σ τ : Sg} {o : Int64 × UInt64} {ad : Nm} (hl : l.stackTraces = false) {b h : Nat} (hb : b < σ 0 0 0) (hcl : σ 1 b 6 ≤ 8) (hh0 : h < 2 ^ 31) (hH : ∀ c, σ 2 b c < 2 ^ 31) : Ko z l yX3_cellsUpTo cX3_cellsUpTo 2 (some .int) 1 0 0 [.ref (ad 12 b), .int (nI h)] ad (Wz z ad σ τ o) (okV (some (.int (nI (ahd (σ 2 b) h (σ 1 b 6))))) ad (Wz z ad σ τ o)) exNo := by
  refine ko_of hl (by decide +kernel) (Nat.le_of_ble_eq_true rfl) (fun g hg K => ?_)
  subst hg
  show WW g z 2 0 0 ad (Wz z ad σ τ o) 0 [(0, .ref (ad 12 b)), (1, .int (nI h))] []
  refine r_aload_n K dX3_cellsUpTo_0 0 rfl rfl ?_
  refine r_aload_n K dX3_cellsUpTo_1 0 rfl rfl ?_
  refine r_get K fd_X3_15 (W_12 (by omega)) rfl rfl dX3_cellsUpTo_2 ?_
  refine r_iload_n K dX3_cellsUpTo_5 1 rfl rfl ?_
  refine r_callV (st := []) K (k_X3_cellsAhead (c := σ 1 b 6) (h := h) hl hb (by omega) (by omega) hH) cw_X3_32 wd_621 wd_14 (by decide) (by decide) (W_12 (by omega)) rfl rfl rfl (by decide) (by decide) (by decide) dX3_cellsUpTo_6 ?_
  rintro _ _ _ ⟨rfl, rfl, rfl⟩
  show WW g z 2 0 0 ad (Wz z ad σ τ o) 9 [(0, .ref (ad 12 b)), (1, .int (nI h))] [.int (nI (ahd (σ 2 b) h (σ 1 b 6)))]
  exact r_iret K (by decide) (by decide) ⟨congrArg (fun q => some (Value.int (nI q))) (by rfl), rfl, rfl⟩ dX3_cellsUpTo_9
set_option maxRecDepth 100000 in
set_option maxHeartbeats 4000000 in
theorem k_X3_isWet {z : Zx} {l : Launch} {σ τ : Sg} {o : Int64 × UInt64} {ad : Nm} (hl : l.stackTraces = false) {b c v : Nat} (hb : b < σ 0 0 0) (hc : c < 8) (hv : v < 2 ^ 31) (hD : ∀ c, σ 30 b c < 2 ^ 31) : Ko z l yX3_isWet cX3_isWet 3 (some .boolean) 0 0 0 [.ref (ad 12 b), .int (nI c), .int (nI v)] ad (Wz z ad σ τ o) (okV (some (.int (pI (σ 30 b c < v)))) ad (Wz z ad σ τ o)) exNo := by
  refine ko_of hl (by decide +kernel) (Nat.le_of_ble_eq_true rfl) (fun g hg K => ?_)
  subst hg
  show WW g z 3 0 0 ad (Wz z ad σ τ o) 0 [(0, .ref (ad 12 b)), (1, .int (nI c)), (2, .int (nI v))] []
  refine r_iload_n K dX3_isWet_0 2 rfl rfl ?_
  refine r_aload_n K dX3_isWet_1 0 rfl rfl ?_
  refine r_get K fd_X3_19 (W_12 (by omega)) rfl rfl dX3_isWet_2 ?_
  refine r_iload_n K dX3_isWet_5 1 rfl rfl ?_
  refine r_iald (j := c) (v := nI (σ 30 b c)) K (W_15 (by omega)) rfl rfl (by omega) (by decide) rfl dX3_isWet_6 ?_
  have hd := hD c
  refine r_icmp_le K dX3_isWet_7 14 (v ≤ σ 30 b c) (nI_leI (by omega) (by omega)) (by decide) (fun c_7 => ?_) (fun c_7 => ?_)
  · skip
    refine r_iconst (v := nI 0) K dX3_isWet_14 (by decide) ?_
    exact r_zret K (by first | rfl | decide | exact pI_nar) (by decide) (by decide) ⟨congrArg (fun x => some (Value.int x)) (pI_f (by omega)), rfl, rfl⟩ dX3_isWet_15
  · skip
    refine r_iconst (v := nI 1) K dX3_isWet_10 (by decide) ?_
    refine r_goto K dX3_isWet_11 15 (by decide) ?_
    exact r_zret K (by first | rfl | decide | exact pI_nar) (by decide) (by decide) ⟨congrArg (fun x => some (Value.int x)) (pI_t (by omega)), rfl, rfl⟩ dX3_isWet_15
set_option maxRecDepth 100000 in
set_option maxHeartbeats 4000000 in
theorem k_X3_countWet {z : Zx} {l : Launch} {σ τ : Sg} {o : Int64 × UInt64} {ad : Nm} (hl : l.stackTraces = false) {b v : Nat} (hb : b < σ 0 0 0) (hcl : σ 1 b 6 ≤ 8) (hv : v < 2 ^ 31) (hD : ∀ c, σ 30 b c < 2 ^ 31) : Ko z l yX3_countWet cX3_countWet 4 (some .int) 1 0 0 [.ref (ad 12 b), .int (nI v)] ad (Wz z ad σ τ o) (okV (some (.int (nI (wetc (σ 30 b) v (σ 1 b 6))))) ad (Wz z ad σ τ o)) exNo := by
  refine ko_of hl (by decide +kernel) (Nat.le_of_ble_eq_true rfl) (fun g hg K => ?_)
  subst hg
  show WW g z 4 0 0 ad (Wz z ad σ τ o) 0 [(0, .ref (ad 12 b)), (1, .int (nI v))] []
  refine r_iconst (v := nI 0) K dX3_countWet_0 (by decide) ?_
  refine r_istore_n (lv' := [(2, .int (nI 0)), (0, .ref (ad 12 b)), (1, .int (nI v))]) K dX3_countWet_1 rfl (by decide) rfl ?_
  refine r_iconst (v := nI 0) K dX3_countWet_2 (by decide) ?_
  refine r_istore_n (lv' := [(3, .int (nI 0)), (2, .int (nI 0)), (0, .ref (ad 12 b)), (1, .int (nI v))]) K dX3_countWet_3 rfl (by decide) rfl ?_
  have lp : ∀ (fuel : Nat) (i : Nat), σ 1 b 6 - i < fuel → i ≤ σ 1 b 6 → WW g z 4 0 0 ad (Wz z ad σ τ o) 4 [(0, .ref (ad 12 b)), (1, .int (nI v)), (2, .int (nI (wetc (σ 30 b) v i))), (3, .int (nI i))] [] := by
    intro fuel
    induction fuel with
    | zero => intro i hf h1; exact absurd hf (Nat.not_lt_zero _)
    | succ fuel ih_lp =>
      intro i hf h1
      have ha := wetc_le (σ 30 b) v i
      refine r_iload_n K dX3_countWet_4 3 rfl rfl ?_
      refine r_aload_n K dX3_countWet_5 0 rfl rfl ?_
      refine r_get K fd_X3_15 (W_12 (by omega)) rfl rfl dX3_countWet_6 ?_
      refine r_icmp_ge K dX3_countWet_9 30 (σ 1 b 6 ≤ i) (nI_leI (by omega) (by omega)) (by decide) (fun c_9 => ?_) (fun c_9 => ?_)
      · skip
        refine r_iload_n K dX3_countWet_30 2 rfl rfl ?_
        exact r_iret K (by decide) (by decide) ⟨congrArg (fun q => some (Value.int (nI q))) (by rw [show i = σ 1 b 6 by omega]), rfl, rfl⟩ dX3_countWet_31
      · skip
        refine r_aload_n K dX3_countWet_12 0 rfl rfl ?_
        refine r_iload_n K dX3_countWet_13 3 rfl rfl ?_
        refine r_iload_n K dX3_countWet_14 1 rfl rfl ?_
        refine r_callV (st := []) K (k_X3_isWet (c := i) (v := v) hl hb (by omega) (by omega) hD) cw_X3_41 wd_322 wd_323 (by decide) (by decide) (W_12 (by omega)) rfl rfl rfl (by decide) (by decide) (by decide) dX3_countWet_15 ?_
        rintro _ _ _ ⟨rfl, rfl, rfl⟩
        show WW g z 4 0 0 ad (Wz z ad σ τ o) 18 [(0, .ref (ad 12 b)), (1, .int (nI v)), (2, .int (nI (wetc (σ 30 b) v i))), (3, .int (nI i))] [.int (pI (σ 30 b i < v))]
        refine r_if_eq K dX3_countWet_18 24 (¬ (σ 30 b i < v)) pI_eq0 (by decide) (fun c_18 => ?_) (fun c_18 => ?_)
        · skip
          rw [← wetc_f (dr := σ 30 b) (v := v) (c := i) (by omega)]
          show WW g z 4 0 0 ad (Wz z ad σ τ o) 24 [(0, .ref (ad 12 b)), (1, .int (nI v)), (2, .int (nI (wetc (σ 30 b) v (i + 1)))), (3, .int (nI i))] []
          refine r_iinc (v := nI (i + 1)) (lv' := [(3, .int (nI (i + 1))), (0, .ref (ad 12 b)), (1, .int (nI v)), (2, .int (nI (wetc (σ 30 b) v (i + 1))))]) K dX3_countWet_24 3 rfl (ic_1 _) (by decide) rfl ?_
          refine r_goto K dX3_countWet_27 4 (by decide) ?_
          refine r_lv (lv' := [(0, .ref (ad 12 b)), (1, .int (nI v)), (2, .int (nI (wetc (σ 30 b) v (i + 1)))), (3, .int (nI (i + 1)))]) [1, 2, 3, 0] rfl ?_
          exact ih_lp (i + 1) (by omega) (by omega)
        · skip
          refine r_iinc (v := nI (wetc (σ 30 b) v i + 1)) (lv' := [(2, .int (nI (wetc (σ 30 b) v i + 1))), (0, .ref (ad 12 b)), (1, .int (nI v)), (3, .int (nI i))]) K dX3_countWet_21 2 rfl (ic_1 _) (by decide) rfl ?_
          rw [← wetc_t (dr := σ 30 b) (v := v) (c := i) (by omega)]
          show WW g z 4 0 0 ad (Wz z ad σ τ o) 24 [(2, .int (nI (wetc (σ 30 b) v (i + 1)))), (0, .ref (ad 12 b)), (1, .int (nI v)), (3, .int (nI i))] []
          refine r_iinc (v := nI (i + 1)) (lv' := [(3, .int (nI (i + 1))), (2, .int (nI (wetc (σ 30 b) v (i + 1)))), (0, .ref (ad 12 b)), (1, .int (nI v))]) K dX3_countWet_24 3 rfl (ic_1 _) (by decide) rfl ?_
          refine r_goto K dX3_countWet_27 4 (by decide) ?_
          refine r_lv (lv' := [(0, .ref (ad 12 b)), (1, .int (nI v)), (2, .int (nI (wetc (σ 30 b) v (i + 1)))), (3, .int (nI (i + 1)))]) [2, 3, 1, 0] rfl ?_
          exact ih_lp (i + 1) (by omega) (by omega)
  refine r_lv (lv' := [(0, .ref (ad 12 b)), (1, .int (nI v)), (2, .int (nI 0)), (3, .int (nI 0))]) [2, 3, 1, 0] rfl ?_
  exact lp (σ 1 b 6 - (0) + 1) 0 (by omega) (by omega)
