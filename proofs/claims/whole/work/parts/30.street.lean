set_option maxRecDepth 100000 in
set_option maxHeartbeats 4000000 in
/-- cells among the first c that are not above h -/
theorem k_X3_cellsAhead {z : Zx} {l : Launch} {σ τ : Sg} {o : Int64 × UInt64} {ad : Nm} (hl : l.stackTraces = false) {b c h : Nat} (hb : b < σ 0 0 0) (q : Stt (σ 2 b) (σ 1 b 6)) (hc : c ≤ σ 1 b 6) (hh0 : h < 2 ^ 31) : Ko z l yX3_cellsAhead cX3_cellsAhead 5 (some .int) 0 0 0 [.ref (ad 12 b), .int (nI c), .int (nI h)] ad (Wz z ad σ τ o) (okV (some (.int (nI (ahd (σ 2 b) h c)))) ad (Wz z ad σ τ o)) exNo := by
  refine ko_of hl (by decide +kernel) (Nat.le_of_ble_eq_true rfl) (fun g hg K => ?_)
  subst hg
  have q8 := q.2.1
  show WW g z 5 0 0 ad (Wz z ad σ τ o) 0 [(0, .ref (ad 12 b)), (1, .int (nI c)), (2, .int (nI h))] []
  refine r_iconst (v := nI 0) K dX3_cellsAhead_0 (by decide) ?_
  refine r_istore_n (lv' := [(3, .int (nI 0)), (0, .ref (ad 12 b)), (1, .int (nI c)), (2, .int (nI h))]) K dX3_cellsAhead_1 rfl (by decide) rfl ?_
  refine r_iconst (v := nI 0) K dX3_cellsAhead_2 (by decide) ?_
  refine r_istore (lv' := [(4, .int (nI 0)), (3, .int (nI 0)), (0, .ref (ad 12 b)), (1, .int (nI c)), (2, .int (nI h))]) K dX3_cellsAhead_3 (by decide) rfl ?_
  have lp : ∀ (fuel : Nat) (i : Nat), c - i < fuel → i ≤ c → WW g z 5 0 0 ad (Wz z ad σ τ o) 5 [(0, .ref (ad 12 b)), (1, .int (nI c)), (2, .int (nI h)), (3, .int (nI (ahd (σ 2 b) h i))), (4, .int (nI i))] [] := by
    intro fuel
    induction fuel with
    | zero => intro i hf h1; exact absurd hf (Nat.not_lt_zero _)
    | succ fuel ih_lp =>
      intro i hf h1
      have ha := ahd_le (σ 2 b) h i
      refine r_iload K dX3_cellsAhead_5 4 rfl ?_
      refine r_iload_n K dX3_cellsAhead_7 1 rfl rfl ?_
      refine r_icmp_ge K dX3_cellsAhead_8 31 (c ≤ i) (nI_leI (by omega) (by omega)) (by decide) (fun c_8 => ?_) (fun c_8 => ?_)
      · skip
        refine r_iload_n K dX3_cellsAhead_31 3 rfl rfl ?_
        exact r_iret K (by decide) (by decide) ⟨congrArg (fun q => some (Value.int (nI q))) (by rw [show i = c by omega]), rfl, rfl⟩ dX3_cellsAhead_32
      · skip
        have hh := q.2.2 i (by omega)
        refine r_aload_n K dX3_cellsAhead_11 0 rfl rfl ?_
        refine r_get (v := .ref (ad 14 b)) K fd_X3_9 (W_12 (by first | exact hb | exact hk | exact hj | exact hw | omega | assumption)) rfl rfl dX3_cellsAhead_12 ?_
        refine r_iload K dX3_cellsAhead_15 4 rfl ?_
        refine r_iald (j := i) (v := nI (σ 2 b i)) K (W_14 (by first | exact hb | exact hk | exact hj | exact hw | omega | assumption)) rfl rfl (by omega) (by decide) rfl dX3_cellsAhead_17 ?_
        refine r_iload_n K dX3_cellsAhead_18 2 rfl rfl ?_
        refine r_icmp_gt K dX3_cellsAhead_19 25 (h < σ 2 b i) (nI_ltI (by omega) (by omega)) (by decide) (fun c_19 => ?_) (fun c_19 => ?_)
        · skip
          rw [← ahd_f (hs := σ 2 b) (h := h) (c := i) (by omega)]
          show WW g z 5 0 0 ad (Wz z ad σ τ o) 25 [(0, .ref (ad 12 b)), (1, .int (nI c)), (2, .int (nI h)), (3, .int (nI (ahd (σ 2 b) h (i + 1)))), (4, .int (nI i))] []
          refine r_iinc (v := nI (i + 1)) (lv' := [(4, .int (nI (i + 1))), (0, .ref (ad 12 b)), (1, .int (nI c)), (2, .int (nI h)), (3, .int (nI (ahd (σ 2 b) h (i + 1))))]) K dX3_cellsAhead_25 4 rfl (ic_1 _) (by decide) rfl ?_
          refine r_goto K dX3_cellsAhead_28 5 (by decide) ?_
          refine r_lv (lv' := [(0, .ref (ad 12 b)), (1, .int (nI c)), (2, .int (nI h)), (3, .int (nI (ahd (σ 2 b) h (i + 1)))), (4, .int (nI (i + 1)))]) [1, 2, 3, 4, 0] rfl ?_
          exact ih_lp (i + 1) (by omega) (by omega)
        · skip
          refine r_iinc (v := nI (ahd (σ 2 b) h i + 1)) (lv' := [(3, .int (nI (ahd (σ 2 b) h i + 1))), (0, .ref (ad 12 b)), (1, .int (nI c)), (2, .int (nI h)), (4, .int (nI i))]) K dX3_cellsAhead_22 3 rfl (ic_1 _) (by decide) rfl ?_
          rw [← ahd_t (hs := σ 2 b) (h := h) (c := i) (by omega)]
          show WW g z 5 0 0 ad (Wz z ad σ τ o) 25 [(3, .int (nI (ahd (σ 2 b) h (i + 1)))), (0, .ref (ad 12 b)), (1, .int (nI c)), (2, .int (nI h)), (4, .int (nI i))] []
          refine r_iinc (v := nI (i + 1)) (lv' := [(4, .int (nI (i + 1))), (3, .int (nI (ahd (σ 2 b) h (i + 1)))), (0, .ref (ad 12 b)), (1, .int (nI c)), (2, .int (nI h))]) K dX3_cellsAhead_25 4 rfl (ic_1 _) (by decide) rfl ?_
          refine r_goto K dX3_cellsAhead_28 5 (by decide) ?_
          refine r_lv (lv' := [(0, .ref (ad 12 b)), (1, .int (nI c)), (2, .int (nI h)), (3, .int (nI (ahd (σ 2 b) h (i + 1)))), (4, .int (nI (i + 1)))]) [2, 3, 4, 1, 0] rfl ?_
          exact ih_lp (i + 1) (by omega) (by omega)
  refine r_lv (lv' := [(0, .ref (ad 12 b)), (1, .int (nI c)), (2, .int (nI h)), (3, .int (nI 0)), (4, .int (nI 0))]) [2, 3, 4, 1, 0] rfl ?_
  exact lp (c - (0) + 1) 0 (by omega) (by omega)
set_option maxRecDepth 100000 in
set_option maxHeartbeats 4000000 in
theorem k_X3_cellsUpTo {z : Zx} {l : Launch} {σ τ : Sg} {o : Int64 × UInt64} {ad : Nm} (hl : l.stackTraces = false) {b h : Nat} (hb : b < σ 0 0 0) (q : Stt (σ 2 b) (σ 1 b 6)) (hh0 : h < 2 ^ 31) : Ko z l yX3_cellsUpTo cX3_cellsUpTo 2 (some .int) 1 0 0 [.ref (ad 12 b), .int (nI h)] ad (Wz z ad σ τ o) (okV (some (.int (nI (ahd (σ 2 b) h (σ 1 b 6))))) ad (Wz z ad σ τ o)) exNo := by
  refine ko_of hl (by decide +kernel) (Nat.le_of_ble_eq_true rfl) (fun g hg K => ?_)
  subst hg
  show WW g z 2 0 0 ad (Wz z ad σ τ o) 0 [(0, .ref (ad 12 b)), (1, .int (nI h))] []
  refine r_aload_n K dX3_cellsUpTo_0 0 rfl rfl ?_
  refine r_aload_n K dX3_cellsUpTo_1 0 rfl rfl ?_
  refine r_get (v := .int (nI (σ 1 b 6))) K fd_X3_15 (W_12 (by first | exact hb | exact hk | exact hj | exact hw | omega | assumption)) rfl rfl dX3_cellsUpTo_2 ?_
  refine r_iload_n K dX3_cellsUpTo_5 1 rfl rfl ?_
  refine r_callV (st := []) K (k_X3_cellsAhead (c := σ 1 b 6) (h := h) hl hb q (by omega) (by omega)) cw_X3_32 wd_621 wd_14 (by decide) (by decide) (W_12 (by first | exact hb | exact hk | exact hj | exact hw | omega | assumption)) rfl rfl rfl (Nat.le_of_ble_eq_true rfl) (by decide) (by decide) dX3_cellsUpTo_6 ?_
  rintro _ _ _ ⟨rfl, rfl, rfl⟩
  show WW g z 2 0 0 ad (Wz z ad σ τ o) 9 [(0, .ref (ad 12 b)), (1, .int (nI h))] [.int (nI (ahd (σ 2 b) h (σ 1 b 6)))]
  exact r_iret K (by decide) (by decide) ⟨congrArg (fun q => some (Value.int (nI q))) (by rfl), rfl, rfl⟩ dX3_cellsUpTo_9
set_option maxRecDepth 100000 in
set_option maxHeartbeats 4000000 in
theorem k_X3_isWet {z : Zx} {l : Launch} {σ τ : Sg} {o : Int64 × UInt64} {ad : Nm} (hl : l.stackTraces = false) {b c v : Nat} (hb : b < σ 0 0 0) (hc : c < 8) (hv : v < 2 ^ 31) (hd : σ 30 b c < 2 ^ 31) : Ko z l yX3_isWet cX3_isWet 3 (some .boolean) 0 0 0 [.ref (ad 12 b), .int (nI c), .int (nI v)] ad (Wz z ad σ τ o) (okV (some (.int (pI (σ 30 b c < v)))) ad (Wz z ad σ τ o)) exNo := by
  refine ko_of hl (by decide +kernel) (Nat.le_of_ble_eq_true rfl) (fun g hg K => ?_)
  subst hg
  show WW g z 3 0 0 ad (Wz z ad σ τ o) 0 [(0, .ref (ad 12 b)), (1, .int (nI c)), (2, .int (nI v))] []
  refine r_iload_n K dX3_isWet_0 2 rfl rfl ?_
  refine r_aload_n K dX3_isWet_1 0 rfl rfl ?_
  refine r_get (v := .ref (ad 15 b)) K fd_X3_19 (W_12 (by first | exact hb | exact hk | exact hj | exact hw | omega | assumption)) rfl rfl dX3_isWet_2 ?_
  refine r_iload_n K dX3_isWet_5 1 rfl rfl ?_
  refine r_iald (j := c) (v := nI (σ 30 b c)) K (W_15 (by first | exact hb | exact hk | exact hj | exact hw | omega | assumption)) rfl rfl (by omega) (by decide) rfl dX3_isWet_6 ?_
  refine r_icmp_le K dX3_isWet_7 14 (v ≤ σ 30 b c) (nI_leI (by omega) (by omega)) (by decide) (fun c_7 => ?_) (fun c_7 => ?_)
  · skip
    refine r_iconst (v := nI 0) K dX3_isWet_14 (by decide) ?_
    exact r_zret K (by first | rfl | decide | exact pI_nar) (by decide) (by decide) ⟨congrArg (fun x => some (Value.int x)) (pI_f (by omega)), rfl, rfl⟩ dX3_isWet_15
  · skip
    refine r_iconst (v := nI 1) K dX3_isWet_10 (by decide) ?_
    refine r_goto K dX3_isWet_11 15 (by decide) ?_
    exact r_zret K (by first | rfl | decide | exact pI_nar) (by decide) (by decide) ⟨congrArg (fun x => some (Value.int x)) (pI_t (by omega)), rfl, rfl⟩ dX3_isWet_15
set_option maxRecDepth 100000 in
set_option maxHeartbeats 4000000 in
theorem k_X3_countWet {z : Zx} {l : Launch} {σ τ : Sg} {o : Int64 × UInt64} {ad : Nm} (hl : l.stackTraces = false) {b v : Nat} (hb : b < σ 0 0 0) (hcl : σ 1 b 6 ≤ 8) (hv : v < 2 ^ 31) (hD : ∀ c, c < σ 1 b 6 → σ 30 b c < 2 ^ 31) : Ko z l yX3_countWet cX3_countWet 4 (some .int) 1 0 0 [.ref (ad 12 b), .int (nI v)] ad (Wz z ad σ τ o) (okV (some (.int (nI (wetc (σ 30 b) v (σ 1 b 6))))) ad (Wz z ad σ τ o)) exNo := by
  refine ko_of hl (by decide +kernel) (Nat.le_of_ble_eq_true rfl) (fun g hg K => ?_)
  subst hg
  show WW g z 4 0 0 ad (Wz z ad σ τ o) 0 [(0, .ref (ad 12 b)), (1, .int (nI v))] []
  refine r_iconst (v := nI 0) K dX3_countWet_0 (by decide) ?_
  refine r_istore_n (lv' := [(2, .int (nI 0)), (0, .ref (ad 12 b)), (1, .int (nI v))]) K dX3_countWet_1 rfl (by decide) rfl ?_
  refine r_iconst (v := nI 0) K dX3_countWet_2 (by decide) ?_
  refine r_istore_n (lv' := [(3, .int (nI 0)), (2, .int (nI 0)), (0, .ref (ad 12 b)), (1, .int (nI v))]) K dX3_countWet_3 rfl (by decide) rfl ?_
  have lp : ∀ (fuel : Nat) (i : Nat), σ 1 b 6 - i < fuel → i ≤ σ 1 b 6 → WW g z 4 0 0 ad (Wz z ad σ τ o) 4 [(0, .ref (ad 12 b)), (1, .int (nI v)), (2, .int (nI (wetc (σ 30 b) v i))), (3, .int (nI i))] [] := by
    intro fuel
    induction fuel with
    | zero => intro i hf h1; exact absurd hf (Nat.not_lt_zero _)
    | succ fuel ih_lp =>
      intro i hf h1
      have ha := wetc_le (σ 30 b) v i
      refine r_iload_n K dX3_countWet_4 3 rfl rfl ?_
      refine r_aload_n K dX3_countWet_5 0 rfl rfl ?_
      refine r_get (v := .int (nI (σ 1 b 6))) K fd_X3_15 (W_12 (by first | exact hb | exact hk | exact hj | exact hw | omega | assumption)) rfl rfl dX3_countWet_6 ?_
      refine r_icmp_ge K dX3_countWet_9 30 (σ 1 b 6 ≤ i) (nI_leI (by omega) (by omega)) (by decide) (fun c_9 => ?_) (fun c_9 => ?_)
      · skip
        refine r_iload_n K dX3_countWet_30 2 rfl rfl ?_
        exact r_iret K (by decide) (by decide) ⟨congrArg (fun q => some (Value.int (nI q))) (by rw [show i = σ 1 b 6 by omega]), rfl, rfl⟩ dX3_countWet_31
      · skip
        refine r_aload_n K dX3_countWet_12 0 rfl rfl ?_
        refine r_iload_n K dX3_countWet_13 3 rfl rfl ?_
        refine r_iload_n K dX3_countWet_14 1 rfl rfl ?_
        refine r_callV (st := []) K (k_X3_isWet (c := i) (v := v) hl hb (by omega) (by omega) (hD _ (by omega))) cw_X3_41 wd_322 wd_323 (by decide) (by decide) (W_12 (by first | exact hb | exact hk | exact hj | exact hw | omega | assumption)) rfl rfl rfl (Nat.le_of_ble_eq_true rfl) (by decide) (by decide) dX3_countWet_15 ?_
        rintro _ _ _ ⟨rfl, rfl, rfl⟩
        show WW g z 4 0 0 ad (Wz z ad σ τ o) 18 [(0, .ref (ad 12 b)), (1, .int (nI v)), (2, .int (nI (wetc (σ 30 b) v i))), (3, .int (nI i))] [.int (pI (σ 30 b i < v))]
        refine r_if_eq K dX3_countWet_18 24 (¬ (σ 30 b i < v)) pI_eq0 (by decide) (fun c_18 => ?_) (fun c_18 => ?_)
        · skip
          rw [← wetc_f (dr := σ 30 b) (v := v) (c := i) (by omega)]
          show WW g z 4 0 0 ad (Wz z ad σ τ o) 24 [(0, .ref (ad 12 b)), (1, .int (nI v)), (2, .int (nI (wetc (σ 30 b) v (i + 1)))), (3, .int (nI i))] []
          refine r_iinc (v := nI (i + 1)) (lv' := [(3, .int (nI (i + 1))), (0, .ref (ad 12 b)), (1, .int (nI v)), (2, .int (nI (wetc (σ 30 b) v (i + 1))))]) K dX3_countWet_24 3 rfl (ic_1 _) (by decide) rfl ?_
          refine r_goto K dX3_countWet_27 4 (by decide) ?_
          refine r_lv (lv' := [(0, .ref (ad 12 b)), (1, .int (nI v)), (2, .int (nI (wetc (σ 30 b) v (i + 1)))), (3, .int (nI (i + 1)))]) [1, 2, 3, 0] rfl ?_
          exact ih_lp (i + 1) (by omega) (by omega)
        · skip
          refine r_iinc (v := nI (wetc (σ 30 b) v i + 1)) (lv' := [(2, .int (nI (wetc (σ 30 b) v i + 1))), (0, .ref (ad 12 b)), (1, .int (nI v)), (3, .int (nI i))]) K dX3_countWet_21 2 rfl (ic_1 _) (by decide) rfl ?_
          rw [← wetc_t (dr := σ 30 b) (v := v) (c := i) (by omega)]
          show WW g z 4 0 0 ad (Wz z ad σ τ o) 24 [(2, .int (nI (wetc (σ 30 b) v (i + 1)))), (0, .ref (ad 12 b)), (1, .int (nI v)), (3, .int (nI i))] []
          refine r_iinc (v := nI (i + 1)) (lv' := [(3, .int (nI (i + 1))), (2, .int (nI (wetc (σ 30 b) v (i + 1)))), (0, .ref (ad 12 b)), (1, .int (nI v))]) K dX3_countWet_24 3 rfl (ic_1 _) (by decide) rfl ?_
          refine r_goto K dX3_countWet_27 4 (by decide) ?_
          refine r_lv (lv' := [(0, .ref (ad 12 b)), (1, .int (nI v)), (2, .int (nI (wetc (σ 30 b) v (i + 1)))), (3, .int (nI (i + 1)))]) [2, 3, 1, 0] rfl ?_
          exact ih_lp (i + 1) (by omega) (by omega)
  refine r_lv (lv' := [(0, .ref (ad 12 b)), (1, .int (nI v)), (2, .int (nI 0)), (3, .int (nI 0))]) [2, 3, 1, 0] rfl ?_
  exact lp (σ 1 b 6 - (0) + 1) 0 (by omega) (by omega)
set_option maxRecDepth 100000 in
set_option maxHeartbeats 4000000 in
theorem k_X3_depthOf {z : Zx} {l : Launch} {σ τ : Sg} {o : Int64 × UInt64} {ad : Nm} (hl : l.stackTraces = false) {b c v : Nat} (hb : b < σ 0 0 0) (q : Stt (σ 2 b) (σ 1 b 6)) (hc : c < σ 1 b 6) (hv : v ≤ 250000) : Ko z l yX3_depthOf cX3_depthOf 7 (some .int) 2 0 0 [.ref (ad 12 b), .int (nI c), .int (nI v)] ad (Wz z ad σ τ o) (okV (some (.int (nI (dpt (σ 2 b) (σ 1 b 6) c v)))) ad (Wz z ad σ τ o)) exNo := by
  refine ko_of hl (by decide +kernel) (Nat.le_of_ble_eq_true rfl) (fun g hg K => ?_)
  subst hg
  have q8 := q.2.1
  show WW g z 7 0 0 ad (Wz z ad σ τ o) 0 [(0, .ref (ad 12 b)), (1, .int (nI c)), (2, .int (nI v))] []
  refine r_iconst (v := nI 0) K dX3_depthOf_0 (by decide) ?_
  refine r_istore_n (lv' := [(3, .int (nI 0)), (0, .ref (ad 12 b)), (1, .int (nI c)), (2, .int (nI v))]) K dX3_depthOf_1 rfl (by decide) rfl ?_
  refine r_iload_n K dX3_depthOf_2 3 rfl rfl ?_
  refine r_istore (lv' := [(4, .int (nI v)), (3, .int (nI 0)), (0, .ref (ad 12 b)), (1, .int (nI c)), (2, .int (nI v))]) K dX3_depthOf_3 (by decide) rfl ?_
  have tl : ∀ (s : Nat) (L : Nat), upto (σ 2 b) s (σ 1 b 6) + L = v → s = 30 ∨ L < ahd (σ 2 b) s (σ 1 b 6) → s ≤ 30 → WW g z 7 0 0 ad (Wz z ad σ τ o) 37 [(0, .ref (ad 12 b)), (1, .int (nI c)), (2, .int (nI v)), (3, .int (nI s)), (4, .int (nI L))] [] := by
    intro s L e1 e2 e3
    obtain ⟨g1, g2, g3⟩ := lvl_loop q e1 e2
    rw [g2] at g3
    have g4 := Nat.div_le_self L (ahd (σ 2 b) s (σ 1 b 6))
    have g5 := Nat.mod_lt L g1
    have g6 := ahd_le (σ 2 b) s (σ 1 b 6)
    have hh := q.2.2 c hc
    refine r_aload_n K dX3_depthOf_37 0 rfl rfl ?_
    refine r_iload_n K dX3_depthOf_38 3 rfl rfl ?_
    refine r_callV (st := []) K (k_X3_cellsUpTo (h := s) hl hb q (by omega)) cw_X3_45 wd_784 wd_19 (by decide) (by decide) (W_12 (by first | exact hb | exact hk | exact hj | exact hw | omega | assumption)) rfl rfl rfl (Nat.le_of_ble_eq_true rfl) (by decide) (by decide) dX3_depthOf_39 ?_
    rintro _ _ _ ⟨rfl, rfl, rfl⟩
    show WW g z 7 0 0 ad (Wz z ad σ τ o) 42 [(0, .ref (ad 12 b)), (1, .int (nI c)), (2, .int (nI v)), (3, .int (nI s)), (4, .int (nI L))] [.int (nI (ahd (σ 2 b) s (σ 1 b 6)))]
    refine r_istore (lv' := [(5, .int (nI (ahd (σ 2 b) s (σ 1 b 6)))), (0, .ref (ad 12 b)), (1, .int (nI c)), (2, .int (nI v)), (3, .int (nI s)), (4, .int (nI L))]) K dX3_depthOf_42 (by decide) rfl ?_
    refine r_iload K dX3_depthOf_44 0 rfl ?_
    refine r_if_le K dX3_depthOf_46 64 (ahd (σ 2 b) s (σ 1 b 6) = 0) (n0_le (by omega)) (by decide) (fun c_46 => ?_) (fun c_46 => ?_)
    · skip
      exfalso; omega
    · skip
      refine r_iload_n K dX3_depthOf_49 4 rfl rfl ?_
      refine r_iload K dX3_depthOf_50 5 rfl ?_
      refine r_iload K dX3_depthOf_52 0 rfl ?_
      refine r_idiv (v := nI (L / (ahd (σ 2 b) s (σ 1 b 6)))) K dX3_depthOf_54 (nI_z (by omega) (by omega)) (pk_div (by omega) (by omega) (by omega)) ?_
      refine r_iadd (v := nI (s + (L / (ahd (σ 2 b) s (σ 1 b 6))))) K dX3_depthOf_55 (nI_add _ _) ?_
      refine r_istore_n (lv' := [(3, .int (nI (s + (L / (ahd (σ 2 b) s (σ 1 b 6)))))), (5, .int (nI (ahd (σ 2 b) s (σ 1 b 6)))), (0, .ref (ad 12 b)), (1, .int (nI c)), (2, .int (nI v)), (4, .int (nI L))]) K dX3_depthOf_56 rfl (by decide) rfl ?_
      refine r_iload K dX3_depthOf_57 5 rfl ?_
      refine r_iload K dX3_depthOf_59 1 rfl ?_
      refine r_irem (v := nI (L % (ahd (σ 2 b) s (σ 1 b 6)))) K dX3_depthOf_61 (nI_z (by omega) (by omega)) (pk_rem (by omega) (by omega) (by omega)) ?_
      refine r_istore (lv' := [(4, .int (nI (L % (ahd (σ 2 b) s (σ 1 b 6))))), (3, .int (nI (s + (L / (ahd (σ 2 b) s (σ 1 b 6)))))), (5, .int (nI (ahd (σ 2 b) s (σ 1 b 6)))), (0, .ref (ad 12 b)), (1, .int (nI c)), (2, .int (nI v))]) K dX3_depthOf_62 (by decide) rfl ?_
      refine r_aload_n K dX3_depthOf_64 3 rfl rfl ?_
      refine r_get (v := .ref (ad 14 b)) K fd_X3_9 (W_12 (by first | exact hb | exact hk | exact hj | exact hw | omega | assumption)) rfl rfl dX3_depthOf_65 ?_
      refine r_iload_n K dX3_depthOf_68 4 rfl rfl ?_
      refine r_iald (j := c) (v := nI (σ 2 b c)) K (W_14 (by first | exact hb | exact hk | exact hj | exact hw | omega | assumption)) rfl rfl (by omega) (by decide) rfl dX3_depthOf_69 ?_
      refine r_iload_n K dX3_depthOf_70 1 rfl rfl ?_
      refine r_icmp_le K dX3_depthOf_71 76 (σ 2 b c ≤ s + (L / (ahd (σ 2 b) s (σ 1 b 6)))) (nI_leI (by omega) (by omega)) (by decide) (fun c_71 => ?_) (fun c_71 => ?_)
      · skip
        refine r_aload_n K dX3_depthOf_76 3 rfl rfl ?_
        refine r_iload_n K dX3_depthOf_77 4 rfl rfl ?_
        refine r_iload_n K dX3_depthOf_78 1 rfl rfl ?_
        refine r_callV (st := []) K (k_X3_cellsAhead (c := c) (h := s + (L / (ahd (σ 2 b) s (σ 1 b 6)))) hl hb q (by omega) (by omega)) cw_X3_32 wd_621 wd_14 (by decide) (by decide) (W_12 (by first | exact hb | exact hk | exact hj | exact hw | omega | assumption)) rfl rfl rfl (Nat.le_of_ble_eq_true rfl) (by decide) (by decide) dX3_depthOf_79 ?_
        rintro _ _ _ ⟨rfl, rfl, rfl⟩
        show WW g z 7 0 0 ad (Wz z ad σ τ o) 82 [(4, .int (nI (L % (ahd (σ 2 b) s (σ 1 b 6))))), (3, .int (nI (s + (L / (ahd (σ 2 b) s (σ 1 b 6)))))), (5, .int (nI (ahd (σ 2 b) s (σ 1 b 6)))), (0, .ref (ad 12 b)), (1, .int (nI c)), (2, .int (nI v))] [.int (nI (ahd (σ 2 b) (s + (L / (ahd (σ 2 b) s (σ 1 b 6)))) c))]
        have g7 := ahd_le (σ 2 b) (s + (L / (ahd (σ 2 b) s (σ 1 b 6)))) c
        refine r_iload K dX3_depthOf_82 0 rfl ?_
        refine r_icmp_ge K dX3_depthOf_84 91 (L % (ahd (σ 2 b) s (σ 1 b 6)) ≤ ahd (σ 2 b) (s + (L / (ahd (σ 2 b) s (σ 1 b 6)))) c) (nI_leI (by omega) (by omega)) (by decide) (fun c_84 => ?_) (fun c_84 => ?_)
        · skip
          refine r_iconst (v := nI 0) K dX3_depthOf_91 (by decide) ?_
          refine r_istore (lv' := [(6, .int (nI 0)), (4, .int (nI (L % (ahd (σ 2 b) s (σ 1 b 6))))), (3, .int (nI (s + (L / (ahd (σ 2 b) s (σ 1 b 6)))))), (5, .int (nI (ahd (σ 2 b) s (σ 1 b 6)))), (0, .ref (ad 12 b)), (1, .int (nI c)), (2, .int (nI v))]) K dX3_depthOf_92 (by decide) rfl ?_
          refine r_iload_n K dX3_depthOf_94 2 rfl rfl ?_
          refine r_aload_n K dX3_depthOf_95 4 rfl rfl ?_
          refine r_get (v := .ref (ad 14 b)) K fd_X3_9 (W_12 (by first | exact hb | exact hk | exact hj | exact hw | omega | assumption)) rfl rfl dX3_depthOf_96 ?_
          refine r_iload_n K dX3_depthOf_99 5 rfl rfl ?_
          refine r_iald (j := c) (v := nI (σ 2 b c)) K (W_14 (by first | exact hb | exact hk | exact hj | exact hw | omega | assumption)) rfl rfl (by omega) (by decide) rfl dX3_depthOf_100 ?_
          refine r_isub (v := nI ((s + (L / (ahd (σ 2 b) s (σ 1 b 6)))) - (σ 2 b c))) K dX3_depthOf_101 (pk_sub (by omega)) ?_
          refine r_iload K dX3_depthOf_102 0 rfl ?_
          refine r_iadd (v := nI (((s + (L / (ahd (σ 2 b) s (σ 1 b 6)))) - (σ 2 b c)) + 0)) K dX3_depthOf_104 (nI_add _ _) ?_
          exact r_iret K (by decide) (by decide) ⟨congrArg (fun q => some (Value.int (nI q))) (by unfold dpt; rw [g2, g3, if_neg (by omega), if_neg (by omega)]), rfl, rfl⟩ dX3_depthOf_105
        · skip
          refine r_iconst (v := nI 1) K dX3_depthOf_87 (by decide) ?_
          refine r_goto K dX3_depthOf_88 92 (by decide) ?_
          refine r_istore (lv' := [(6, .int (nI 1)), (4, .int (nI (L % (ahd (σ 2 b) s (σ 1 b 6))))), (3, .int (nI (s + (L / (ahd (σ 2 b) s (σ 1 b 6)))))), (5, .int (nI (ahd (σ 2 b) s (σ 1 b 6)))), (0, .ref (ad 12 b)), (1, .int (nI c)), (2, .int (nI v))]) K dX3_depthOf_92 (by decide) rfl ?_
          refine r_iload_n K dX3_depthOf_94 2 rfl rfl ?_
          refine r_aload_n K dX3_depthOf_95 4 rfl rfl ?_
          refine r_get (v := .ref (ad 14 b)) K fd_X3_9 (W_12 (by first | exact hb | exact hk | exact hj | exact hw | omega | assumption)) rfl rfl dX3_depthOf_96 ?_
          refine r_iload_n K dX3_depthOf_99 5 rfl rfl ?_
          refine r_iald (j := c) (v := nI (σ 2 b c)) K (W_14 (by first | exact hb | exact hk | exact hj | exact hw | omega | assumption)) rfl rfl (by omega) (by decide) rfl dX3_depthOf_100 ?_
          refine r_isub (v := nI ((s + (L / (ahd (σ 2 b) s (σ 1 b 6)))) - (σ 2 b c))) K dX3_depthOf_101 (pk_sub (by omega)) ?_
          refine r_iload K dX3_depthOf_102 0 rfl ?_
          refine r_iadd (v := nI (((s + (L / (ahd (σ 2 b) s (σ 1 b 6)))) - (σ 2 b c)) + 1)) K dX3_depthOf_104 (nI_add _ _) ?_
          exact r_iret K (by decide) (by decide) ⟨congrArg (fun q => some (Value.int (nI q))) (by unfold dpt; rw [g2, g3, if_neg (by omega), if_pos (by omega)]), rfl, rfl⟩ dX3_depthOf_105
      · skip
        refine r_iconst (v := nI 0) K dX3_depthOf_74 (by decide) ?_
        exact r_iret K (by decide) (by decide) ⟨congrArg (fun q => some (Value.int (nI q))) (by unfold dpt; rw [g2, if_pos (by omega)]), rfl, rfl⟩ dX3_depthOf_75
  have lp : ∀ (fuel : Nat) (s : Nat), 30 - s < fuel → s ≤ 30 → upto (σ 2 b) s (σ 1 b 6) ≤ v → WW g z 7 0 0 ad (Wz z ad σ τ o) 5 [(0, .ref (ad 12 b)), (1, .int (nI c)), (2, .int (nI v)), (3, .int (nI s)), (4, .int (nI (v - upto (σ 2 b) s (σ 1 b 6))))] [] := by
    intro fuel
    induction fuel with
    | zero => intro s hf h1 h2; exact absurd hf (Nat.not_lt_zero _)
    | succ fuel ih_lp =>
      intro s hf h1 h2
      have g6 := ahd_le (σ 2 b) s (σ 1 b 6)
      refine r_iload_n K dX3_depthOf_5 3 rfl rfl ?_
      refine r_bipush (v := nI 30) K dX3_depthOf_6 (by decide) ?_
      refine r_icmp_ge K dX3_depthOf_8 37 (30 ≤ s) (nI_leI (by omega) (by omega)) (by decide) (fun c_8 => ?_) (fun c_8 => ?_)
      · skip
        refine r_lv (lv' := [(0, .ref (ad 12 b)), (1, .int (nI c)), (2, .int (nI v)), (3, .int (nI s)), (4, .int (nI (v - upto (σ 2 b) s (σ 1 b 6))))]) [0, 1, 2, 3, 4] rfl ?_
        exact tl s (v - upto (σ 2 b) s (σ 1 b 6)) (by omega) (by omega) (by omega)
      · skip
        refine r_iload K dX3_depthOf_11 4 rfl ?_
        refine r_aload_n K dX3_depthOf_13 0 rfl rfl ?_
        refine r_iload_n K dX3_depthOf_14 3 rfl rfl ?_
        refine r_callV (st := [.int (nI (v - upto (σ 2 b) s (σ 1 b 6)))]) K (k_X3_cellsUpTo (h := s) hl hb q (by omega)) cw_X3_45 wd_784 wd_19 (by decide) (by decide) (W_12 (by first | exact hb | exact hk | exact hj | exact hw | omega | assumption)) rfl rfl rfl (Nat.le_of_ble_eq_true rfl) (by decide) (by decide) dX3_depthOf_15 ?_
        rintro _ _ _ ⟨rfl, rfl, rfl⟩
        show WW g z 7 0 0 ad (Wz z ad σ τ o) 18 [(0, .ref (ad 12 b)), (1, .int (nI c)), (2, .int (nI v)), (3, .int (nI s)), (4, .int (nI (v - upto (σ 2 b) s (σ 1 b 6))))] [.int (nI (ahd (σ 2 b) s (σ 1 b 6))), .int (nI (v - upto (σ 2 b) s (σ 1 b 6)))]
        refine r_icmp_lt K dX3_depthOf_18 37 (v - upto (σ 2 b) s (σ 1 b 6) < ahd (σ 2 b) s (σ 1 b 6)) (nI_ltI (by omega) (by omega)) (by decide) (fun c_18 => ?_) (fun c_18 => ?_)
        · skip
          refine r_lv (lv' := [(0, .ref (ad 12 b)), (1, .int (nI c)), (2, .int (nI v)), (3, .int (nI s)), (4, .int (nI (v - upto (σ 2 b) s (σ 1 b 6))))]) [0, 1, 2, 3, 4] rfl ?_
          exact tl s (v - upto (σ 2 b) s (σ 1 b 6)) (by omega) (by omega) (by omega)
        · skip
          refine r_iload K dX3_depthOf_21 4 rfl ?_
          refine r_aload_n K dX3_depthOf_23 0 rfl rfl ?_
          refine r_iload_n K dX3_depthOf_24 3 rfl rfl ?_
          refine r_callV (st := [.int (nI (v - upto (σ 2 b) s (σ 1 b 6)))]) K (k_X3_cellsUpTo (h := s) hl hb q (by omega)) cw_X3_45 wd_784 wd_19 (by decide) (by decide) (W_12 (by first | exact hb | exact hk | exact hj | exact hw | omega | assumption)) rfl rfl rfl (Nat.le_of_ble_eq_true rfl) (by decide) (by decide) dX3_depthOf_25 ?_
          rintro _ _ _ ⟨rfl, rfl, rfl⟩
          show WW g z 7 0 0 ad (Wz z ad σ τ o) 28 [(0, .ref (ad 12 b)), (1, .int (nI c)), (2, .int (nI v)), (3, .int (nI s)), (4, .int (nI (v - upto (σ 2 b) s (σ 1 b 6))))] [.int (nI (ahd (σ 2 b) s (σ 1 b 6))), .int (nI (v - upto (σ 2 b) s (σ 1 b 6)))]
          refine r_isub (v := nI ((v - upto (σ 2 b) s (σ 1 b 6)) - (ahd (σ 2 b) s (σ 1 b 6)))) K dX3_depthOf_28 (pk_sub (by omega)) ?_
          refine r_istore (lv' := [(4, .int (nI ((v - upto (σ 2 b) s (σ 1 b 6)) - (ahd (σ 2 b) s (σ 1 b 6))))), (0, .ref (ad 12 b)), (1, .int (nI c)), (2, .int (nI v)), (3, .int (nI s))]) K dX3_depthOf_29 (by decide) rfl ?_
          rw [show v - upto (σ 2 b) s (σ 1 b 6) - ahd (σ 2 b) s (σ 1 b 6) = v - upto (σ 2 b) (s + 1) (σ 1 b 6) by rw [upto_h1]; omega]
          show WW g z 7 0 0 ad (Wz z ad σ τ o) 31 [(4, .int (nI (v - upto (σ 2 b) (s + 1) (σ 1 b 6)))), (0, .ref (ad 12 b)), (1, .int (nI c)), (2, .int (nI v)), (3, .int (nI s))] []
          refine r_iinc (v := nI (s + 1)) (lv' := [(3, .int (nI (s + 1))), (4, .int (nI (v - upto (σ 2 b) (s + 1) (σ 1 b 6)))), (0, .ref (ad 12 b)), (1, .int (nI c)), (2, .int (nI v))]) K dX3_depthOf_31 4 rfl (ic_1 _) (by decide) rfl ?_
          refine r_goto K dX3_depthOf_34 5 (by decide) ?_
          refine r_lv (lv' := [(0, .ref (ad 12 b)), (1, .int (nI c)), (2, .int (nI v)), (3, .int (nI (s + 1))), (4, .int (nI (v - upto (σ 2 b) (s + 1) (σ 1 b 6))))]) [2, 3, 4, 0, 1] rfl ?_
          exact ih_lp (s + 1) (by omega) (by omega) (by rw [upto_h1]; omega)
  refine r_lv (lv' := [(0, .ref (ad 12 b)), (1, .int (nI c)), (2, .int (nI v)), (3, .int (nI 0)), (4, .int (nI v))]) [2, 3, 4, 1, 0] rfl ?_
  refine r_eq (lv' := [(0, .ref (ad 12 b)), (1, .int (nI c)), (2, .int (nI v)), (3, .int (nI (0))), (4, .int (nI (v - upto (σ 2 b) (0) (σ 1 b 6))))]) rfl rfl (by rw [upto_0]; rfl) rfl ?_
  exact lp (30 - (0) + 1) 0 (by omega) (by omega) (by rw [upto_0]; omega)
set_option maxRecDepth 100000 in
set_option maxHeartbeats 4000000 in
theorem k_X3_lowestCell {z : Zx} {l : Launch} {σ τ : Sg} {o : Int64 × UInt64} {ad : Nm} (hl : l.stackTraces = false) {b : Nat} (hb : b < σ 0 0 0) (q : Stt (σ 2 b) (σ 1 b 6)) (hp : ∀ c, c < 8 → σ 35 b c ≤ 300000) : Ko z l yX3_lowestCell cX3_lowestCell 3 (some .int) 0 0 0 [.ref (ad 12 b)] ad (Wz z ad σ τ o) (okV (some (.int (nI (argm (fun j => σ 2 b j + σ 35 b j) (σ 1 b 6))))) ad (Wz z ad σ τ o)) exNo := by
  refine ko_of hl (by decide +kernel) (Nat.le_of_ble_eq_true rfl) (fun g hg K => ?_)
  subst hg
  have q8 := q.2.1
  have q7 := q.1
  show WW g z 3 0 0 ad (Wz z ad σ τ o) 0 [(0, .ref (ad 12 b))] []
  refine r_iconst (v := nI 0) K dX3_lowestCell_0 (by decide) ?_
  refine r_istore_n (lv' := [(1, .int (nI 0)), (0, .ref (ad 12 b))]) K dX3_lowestCell_1 rfl (by decide) rfl ?_
  refine r_iconst (v := nI 1) K dX3_lowestCell_2 (by decide) ?_
  refine r_istore_n (lv' := [(2, .int (nI 1)), (1, .int (nI 0)), (0, .ref (ad 12 b))]) K dX3_lowestCell_3 rfl (by decide) rfl ?_
  have lp : ∀ (fuel : Nat) (i : Nat), σ 1 b 6 - i < fuel → 1 ≤ i → i ≤ σ 1 b 6 → WW g z 3 0 0 ad (Wz z ad σ τ o) 4 [(0, .ref (ad 12 b)), (1, .int (nI (argm (fun j => σ 2 b j + σ 35 b j) i))), (2, .int (nI i))] [] := by
    intro fuel
    induction fuel with
    | zero => intro i hf h0 h1; exact absurd hf (Nat.not_lt_zero _)
    | succ fuel ih_lp =>
      intro i hf h0 h1
      have ha := argm_lt (fun j => σ 2 b j + σ 35 b j) i
      refine r_iload_n K dX3_lowestCell_4 2 rfl rfl ?_
      refine r_aload_n K dX3_lowestCell_5 0 rfl rfl ?_
      refine r_get (v := .int (nI (σ 1 b 6))) K fd_X3_15 (W_12 (by first | exact hb | exact hk | exact hj | exact hw | omega | assumption)) rfl rfl dX3_lowestCell_6 ?_
      refine r_icmp_ge K dX3_lowestCell_9 49 (σ 1 b 6 ≤ i) (nI_leI (by omega) (by omega)) (by decide) (fun c_9 => ?_) (fun c_9 => ?_)
      · skip
        refine r_iload_n K dX3_lowestCell_49 1 rfl rfl ?_
        exact r_iret K (by decide) (by decide) ⟨congrArg (fun q => some (Value.int (nI q))) (by rw [show i = σ 1 b 6 by omega]), rfl, rfl⟩ dX3_lowestCell_50
      · skip
        have p1 := q.2.2 i (by omega)
        have p2 := q.2.2 (argm (fun j => σ 2 b j + σ 35 b j) i) (by omega)
        have p3 := hp i (by omega)
        have p4 := hp (argm (fun j => σ 2 b j + σ 35 b j) i) (by omega)
        refine r_aload_n K dX3_lowestCell_12 0 rfl rfl ?_
        refine r_get (v := .ref (ad 14 b)) K fd_X3_9 (W_12 (by first | exact hb | exact hk | exact hj | exact hw | omega | assumption)) rfl rfl dX3_lowestCell_13 ?_
        refine r_iload_n K dX3_lowestCell_16 2 rfl rfl ?_
        refine r_iald (j := i) (v := nI (σ 2 b i)) K (W_14 (by first | exact hb | exact hk | exact hj | exact hw | omega | assumption)) rfl rfl (by omega) (by decide) rfl dX3_lowestCell_17 ?_
        refine r_aload_n K dX3_lowestCell_18 0 rfl rfl ?_
        refine r_get (v := .ref (ad 16 b)) K fd_X3_22 (W_12 (by first | exact hb | exact hk | exact hj | exact hw | omega | assumption)) rfl rfl dX3_lowestCell_19 ?_
        refine r_iload_n K dX3_lowestCell_22 2 rfl rfl ?_
        refine r_iald (j := i) (v := nI (σ 35 b i)) K (W_16 (by first | exact hb | exact hk | exact hj | exact hw | omega | assumption)) rfl rfl (by omega) (by decide) rfl dX3_lowestCell_23 ?_
        refine r_iadd (v := nI ((σ 2 b i) + (σ 35 b i))) K dX3_lowestCell_24 (nI_add _ _) ?_
        refine r_aload_n K dX3_lowestCell_25 0 rfl rfl ?_
        refine r_get (v := .ref (ad 14 b)) K fd_X3_9 (W_12 (by first | exact hb | exact hk | exact hj | exact hw | omega | assumption)) rfl rfl dX3_lowestCell_26 ?_
        refine r_iload_n K dX3_lowestCell_29 1 rfl rfl ?_
        refine r_iald (j := argm (fun j => σ 2 b j + σ 35 b j) i) (v := nI (σ 2 b (argm (fun j => σ 2 b j + σ 35 b j) i))) K (W_14 (by first | exact hb | exact hk | exact hj | exact hw | omega | assumption)) rfl rfl (by omega) (by decide) rfl dX3_lowestCell_30 ?_
        refine r_aload_n K dX3_lowestCell_31 0 rfl rfl ?_
        refine r_get (v := .ref (ad 16 b)) K fd_X3_22 (W_12 (by first | exact hb | exact hk | exact hj | exact hw | omega | assumption)) rfl rfl dX3_lowestCell_32 ?_
        refine r_iload_n K dX3_lowestCell_35 1 rfl rfl ?_
        refine r_iald (j := argm (fun j => σ 2 b j + σ 35 b j) i) (v := nI (σ 35 b (argm (fun j => σ 2 b j + σ 35 b j) i))) K (W_16 (by first | exact hb | exact hk | exact hj | exact hw | omega | assumption)) rfl rfl (by omega) (by decide) rfl dX3_lowestCell_36 ?_
        refine r_iadd (v := nI ((σ 2 b (argm (fun j => σ 2 b j + σ 35 b j) i)) + (σ 35 b (argm (fun j => σ 2 b j + σ 35 b j) i)))) K dX3_lowestCell_37 (nI_add _ _) ?_
        refine r_icmp_ge K dX3_lowestCell_38 43 ((σ 2 b (argm (fun j => σ 2 b j + σ 35 b j) i)) + (σ 35 b (argm (fun j => σ 2 b j + σ 35 b j) i)) ≤ (σ 2 b i) + (σ 35 b i)) (nI_leI (by omega) (by omega)) (by decide) (fun c_38 => ?_) (fun c_38 => ?_)
        · skip
          refine r_eq (lv' := [(0, .ref (ad 12 b)), (1, .int (nI (argm (fun j => σ 2 b j + σ 35 b j) (i + 1)))), (2, .int (nI i))]) rfl rfl (by rw [argm_f (f := (fun j => σ 2 b j + σ 35 b j)) (by show ¬ _ < _; omega)]) rfl ?_
          refine r_iinc (v := nI (i + 1)) (lv' := [(2, .int (nI (i + 1))), (0, .ref (ad 12 b)), (1, .int (nI (argm (fun j => σ 2 b j + σ 35 b j) (i + 1))))]) K dX3_lowestCell_43 2 rfl (ic_1 _) (by decide) rfl ?_
          refine r_goto K dX3_lowestCell_46 4 (by decide) ?_
          refine r_lv (lv' := [(0, .ref (ad 12 b)), (1, .int (nI (argm (fun j => σ 2 b j + σ 35 b j) (i + 1)))), (2, .int (nI (i + 1)))]) [1, 2, 0] rfl ?_
          exact ih_lp (i + 1) (by omega) (by omega) (by omega)
        · skip
          refine r_iload_n K dX3_lowestCell_41 2 rfl rfl ?_
          refine r_istore_n (lv' := [(1, .int (nI i)), (0, .ref (ad 12 b)), (2, .int (nI i))]) K dX3_lowestCell_42 rfl (by decide) rfl ?_
          refine r_eq (lv' := [(1, .int (nI (argm (fun j => σ 2 b j + σ 35 b j) (i + 1)))), (0, .ref (ad 12 b)), (2, .int (nI i))]) rfl rfl (by rw [argm_t (f := (fun j => σ 2 b j + σ 35 b j)) (by show _ < _; omega)]) rfl ?_
          refine r_iinc (v := nI (i + 1)) (lv' := [(2, .int (nI (i + 1))), (1, .int (nI (argm (fun j => σ 2 b j + σ 35 b j) (i + 1)))), (0, .ref (ad 12 b))]) K dX3_lowestCell_43 2 rfl (ic_1 _) (by decide) rfl ?_
          refine r_goto K dX3_lowestCell_46 4 (by decide) ?_
          refine r_lv (lv' := [(0, .ref (ad 12 b)), (1, .int (nI (argm (fun j => σ 2 b j + σ 35 b j) (i + 1)))), (2, .int (nI (i + 1)))]) [2, 1, 0] rfl ?_
          exact ih_lp (i + 1) (by omega) (by omega) (by omega)
  refine r_lv (lv' := [(0, .ref (ad 12 b)), (1, .int (nI 0)), (2, .int (nI 1))]) [2, 1, 0] rfl ?_
  refine r_eq (lv' := [(0, .ref (ad 12 b)), (1, .int (nI (argm (fun j => σ 2 b j + σ 35 b j) (1)))), (2, .int (nI (1)))]) rfl rfl (by rw [argm_1]) rfl ?_
  exact lp (σ 1 b 6 - (1) + 1) 1 (by omega) (by omega) (by omega)
set_option maxRecDepth 100000 in
set_option maxHeartbeats 4000000 in
theorem k_J7_fill_53178 {z : Zx} {l : Launch} {ad : Nm} {μ : Ce} {k i len v : Nat} {g0 : Nat → Nat} (hl : l.stackTraces = false) (hμ : μ k i = some (aI z len (fun j => nI (g0 j)))) (hlen : len < 2 ^ 31) : Ko z l yJ7_fill_53178 cJ7_fill_53178 4 none 0 0 0 [.ref (ad k i), .int (nI v)] ad μ (okV none ad (up2 μ k i (aI z len (fun j => nI (fil len v g0 j))))) exNo := by
  refine ko_of hl (by decide +kernel) (Nat.le_of_ble_eq_true rfl) (fun g hg K => ?_)
  subst hg
  show WW g z 4 0 0 ad μ 0 [(0, .ref (ad k i)), (1, .int (nI v))] []
  refine r_iconst (v := nI 0) K dJ7_fill_53178_0 (by decide) ?_
  refine r_istore_n (lv' := [(2, .int (nI 0)), (0, .ref (ad k i)), (1, .int (nI v))]) K dJ7_fill_53178_1 rfl (by decide) rfl ?_
  refine r_aload_n K dJ7_fill_53178_2 1 rfl rfl ?_
  refine r_alenI K hμ rfl dJ7_fill_53178_3 ?_
  refine r_istore_n (lv' := [(3, .int (nI len)), (2, .int (nI 0)), (0, .ref (ad k i)), (1, .int (nI v))]) K dJ7_fill_53178_4 rfl (by decide) rfl ?_
  refine r_mu (μ' := (up2 μ k i (aI z len (fun j => nI (fil 0 v g0 j))))) (by rw [up2_self]; rw [hμ]; rfl) ?_
  have lp : ∀ (fuel : Nat) (x : Nat), len - x < fuel → x ≤ len → WW g z 4 0 0 ad (up2 μ k i (aI z len (fun j => nI (fil x v g0 j)))) 5 [(0, .ref (ad k i)), (1, .int (nI v)), (2, .int (nI x)), (3, .int (nI len))] [] := by
    intro fuel
    induction fuel with
    | zero => intro x hf h1; exact absurd hf (Nat.not_lt_zero _)
    | succ fuel ih_lp =>
      intro x hf h1
      refine r_iload_n K dJ7_fill_53178_5 2 rfl rfl ?_
      refine r_iload_n K dJ7_fill_53178_6 3 rfl rfl ?_
      refine r_icmp_ge K dJ7_fill_53178_7 20 (len ≤ x) (nI_leI (by omega) (by omega)) (by decide) (fun c_7 => ?_) (fun c_7 => ?_)
      · skip
        exact r_vret K (by decide) (by decide) ⟨rfl, rfl, by rw [show x = len by omega]⟩ dJ7_fill_53178_20
      · skip
        refine r_aload_n K dJ7_fill_53178_10 0 rfl rfl ?_
        refine r_iload_n K dJ7_fill_53178_11 2 rfl rfl ?_
        refine r_iload_n K dJ7_fill_53178_12 1 rfl rfl ?_
        refine r_iast (j := x) (f' := fun j => nI (fil (x + 1) v g0 j)) K up2_s rfl rfl (by omega) hlen fil_1 dJ7_fill_53178_13 ?_
        rw [up2_up2]
        show WW g z 4 0 0 ad (up2 μ k i (aI z len (fun j => nI (fil (x + 1) v g0 j)))) 14 [(0, .ref (ad k i)), (1, .int (nI v)), (2, .int (nI x)), (3, .int (nI len))] []
        refine r_iinc (v := nI (x + 1)) (lv' := [(2, .int (nI (x + 1))), (0, .ref (ad k i)), (1, .int (nI v)), (3, .int (nI len))]) K dJ7_fill_53178_14 2 rfl (ic_1 _) (by decide) rfl ?_
        refine r_goto K dJ7_fill_53178_17 5 (by decide) ?_
        refine r_lv (lv' := [(0, .ref (ad k i)), (1, .int (nI v)), (2, .int (nI (x + 1))), (3, .int (nI len))]) [1, 2, 0, 3] rfl ?_
        exact ih_lp (x + 1) (by omega) (by omega)
  refine r_lv (lv' := [(0, .ref (ad k i)), (1, .int (nI v)), (2, .int (nI 0)), (3, .int (nI len))]) [2, 3, 1, 0] rfl ?_
  exact lp (len - (0) + 1) 0 (by omega) (by omega)
set_option maxRecDepth 100000 in
set_option maxHeartbeats 4000000 in
theorem k_X3_depthPoured {z : Zx} {l : Launch} {σ τ : Sg} {o : Int64 × UInt64} {ad : Nm} (hl : l.stackTraces = false) {b c v : Nat} (hb : b < σ 0 0 0) (q : Stt (σ 2 b) (σ 1 b 6)) (hc : c < σ 1 b 6) (hv : v ≤ 250000) : Ko z l yX3_depthPoured cX3_depthPoured 4 (some .int) 1 0 0 [.ref (ad 12 b), .int (nI c), .int (nI v)] ad (Wz z ad σ τ o) (fun v' ad' μ' => v' = some (.int (nI (dpt (σ 2 b) (σ 1 b 6) c v))) ∧ ad = ad' ∧ ∃ p, μ' = Wz z ad (sp σ 35 b p) τ o) exNo := by
  refine ko_of hl (by decide +kernel) (Nat.le_of_ble_eq_true rfl) (fun g hg K => ?_)
  subst hg
  have q8 := q.2.1
  have q7 := q.1
  show WW g z 4 0 0 ad (Wz z ad σ τ o) 0 [(0, .ref (ad 12 b)), (1, .int (nI c)), (2, .int (nI v))] []
  refine r_aload_n K dX3_depthPoured_0 0 rfl rfl ?_
  refine r_get (v := .ref (ad 16 b)) K fd_X3_22 (W_12 (by first | exact hb | exact hk | exact hj | exact hw | omega | assumption)) rfl rfl dX3_depthPoured_1 ?_
  refine r_iconst (v := nI 0) K dX3_depthPoured_4 (by decide) ?_
  refine r_callS (st := []) K (k_J7_fill_53178 (g0 := σ 35 b) hl (W_16 hb) (by decide)) cw_X3_48 wd_277 (by decide) (by decide) rfl (Nat.le_of_ble_eq_true rfl) (by decide) (by decide) dX3_depthPoured_5 ?_
  rintro _ _ _ ⟨rfl, rfl, rfl⟩
  refine r_mu (w_16 hb) ?_
  show WW g z 4 0 0 ad (Wz z ad (sp σ 35 b (fil 8 0 (σ 35 b))) τ o) 8 [(0, .ref (ad 12 b)), (1, .int (nI c)), (2, .int (nI v))] []
  refine r_iconst (v := nI 0) K dX3_depthPoured_8 (by decide) ?_
  refine r_istore_n (lv' := [(3, .int (nI 0)), (0, .ref (ad 12 b)), (1, .int (nI c)), (2, .int (nI v))]) K dX3_depthPoured_9 rfl (by decide) rfl ?_
  rw [← prd_0 q]
  show WW g z 4 0 0 ad (Wz z ad (sp σ 35 b (prd (σ 2 b) (σ 1 b 6) (σ 35 b) 0)) τ o) 10 [(3, .int (nI 0)), (0, .ref (ad 12 b)), (1, .int (nI c)), (2, .int (nI v))] []
  have lp : ∀ (fuel : Nat) (u : Nat), v - u < fuel → u ≤ v → WW g z 4 0 0 ad (Wz z ad (sp σ 35 b (prd (σ 2 b) (σ 1 b 6) (σ 35 b) u)) τ o) 10 [(0, .ref (ad 12 b)), (1, .int (nI c)), (2, .int (nI v)), (3, .int (nI u))] [] := by
    intro fuel
    induction fuel with
    | zero => intro u hf h1; exact absurd hf (Nat.not_lt_zero _)
    | succ fuel ih_lp =>
      intro u hf h1
      refine r_iload_n K dX3_depthPoured_10 3 rfl rfl ?_
      refine r_iload_n K dX3_depthPoured_11 2 rfl rfl ?_
      refine r_icmp_ge K dX3_depthPoured_12 34 (v ≤ u) (nI_leI (by omega) (by omega)) (by decide) (fun c_12 => ?_) (fun c_12 => ?_)
      · skip
        refine r_aload_n K dX3_depthPoured_34 0 rfl rfl ?_
        refine r_get (v := .ref (ad 16 b)) K fd_X3_22 (W_12 (by first | exact hb | exact hk | exact hj | exact hw | omega | assumption)) rfl rfl dX3_depthPoured_35 ?_
        refine r_iload_n K dX3_depthPoured_38 1 rfl rfl ?_
        refine r_iald (j := c) (v := nI (dpt (σ 2 b) (σ 1 b 6) c u)) K (W_16 hb) rfl rfl (by omega) (by decide) (by rw [sp_s]; unfold prd; rw [if_pos hc]) dX3_depthPoured_39 ?_
        exact r_iret K (by decide) (by decide) ⟨by rw [show u = v by omega], rfl, _, rfl⟩ dX3_depthPoured_40
      · skip
        refine r_aload_n K dX3_depthPoured_15 0 rfl rfl ?_
        refine r_get (v := .ref (ad 16 b)) K fd_X3_22 (W_12 (by first | exact hb | exact hk | exact hj | exact hw | omega | assumption)) rfl rfl dX3_depthPoured_16 ?_
        refine r_aload_n K dX3_depthPoured_19 0 rfl rfl ?_
        refine r_callV (st := [.ref (ad 16 b)]) K (k_X3_lowestCell (σ := (sp σ 35 b (prd (σ 2 b) (σ 1 b 6) (σ 35 b) u))) hl hb q (fun c hc => by rw [sp_s]; have := prd_le (v := u) (p := σ 35 b) q c hc; omega)) cw_X3_54 wd_800 wd_20 (by decide) (by decide) (W_12 (by first | exact hb | exact hk | exact hj | exact hw | omega | assumption)) rfl rfl rfl (Nat.le_of_ble_eq_true rfl) (by decide) (by decide) dX3_depthPoured_20 ?_
        rintro _ _ _ ⟨rfl, rfl, rfl⟩
        rw [sp_s]
        have hm := argm_lt (fun j => σ 2 b j + prd (σ 2 b) (σ 1 b 6) (σ 35 b) u j) (σ 1 b 6)
        show WW g z 4 0 0 ad (Wz z ad (sp σ 35 b (prd (σ 2 b) (σ 1 b 6) (σ 35 b) u)) τ o) 23 [(0, .ref (ad 12 b)), (1, .int (nI c)), (2, .int (nI v)), (3, .int (nI u))] [.int (nI (argm (fun j => σ 2 b j + prd (σ 2 b) (σ 1 b 6) (σ 35 b) u j) (σ 1 b 6))), .ref (ad 16 b)]
        refine r_dup2 K dX3_depthPoured_23 rfl rfl ?_
        refine r_iald (j := argm (fun j => σ 2 b j + prd (σ 2 b) (σ 1 b 6) (σ 35 b) u j) (σ 1 b 6)) (v := nI (prd (σ 2 b) (σ 1 b 6) (σ 35 b) u (argm (fun j => σ 2 b j + prd (σ 2 b) (σ 1 b 6) (σ 35 b) u j) (σ 1 b 6)))) K (W_16 hb) rfl rfl (by omega) (by decide) (by rw [sp_s]) dX3_depthPoured_24 ?_
        refine r_iconst (v := nI 1) K dX3_depthPoured_25 (by decide) ?_
        refine r_iadd (v := nI ((prd (σ 2 b) (σ 1 b 6) (σ 35 b) u (argm (fun j => σ 2 b j + prd (σ 2 b) (σ 1 b 6) (σ 35 b) u j) (σ 1 b 6))) + 1)) K dX3_depthPoured_26 (nI_add _ _) ?_
        refine r_iast (j := argm (fun j => σ 2 b j + prd (σ 2 b) (σ 1 b 6) (σ 35 b) u j) (σ 1 b 6)) K (W_16 hb) rfl rfl (by omega) (by decide) rfl dX3_depthPoured_27 ?_
        refine r_mu (u_16 hb) ?_
        rw [su_sp, prd_1 q]
        show WW g z 4 0 0 ad (Wz z ad (sp σ 35 b (prd (σ 2 b) (σ 1 b 6) (σ 35 b) (u + 1))) τ o) 28 [(0, .ref (ad 12 b)), (1, .int (nI c)), (2, .int (nI v)), (3, .int (nI u))] []
        refine r_iinc (v := nI (u + 1)) (lv' := [(3, .int (nI (u + 1))), (0, .ref (ad 12 b)), (1, .int (nI c)), (2, .int (nI v))]) K dX3_depthPoured_28 3 rfl (ic_1 _) (by decide) rfl ?_
        refine r_goto K dX3_depthPoured_31 10 (by decide) ?_
        refine r_lv (lv' := [(0, .ref (ad 12 b)), (1, .int (nI c)), (2, .int (nI v)), (3, .int (nI (u + 1)))]) [1, 2, 3, 0] rfl ?_
        exact ih_lp (u + 1) (by omega) (by omega)
  refine r_lv (lv' := [(0, .ref (ad 12 b)), (1, .int (nI c)), (2, .int (nI v)), (3, .int (nI 0))]) [1, 2, 3, 0] rfl ?_
  exact lp (v - (0) + 1) 0 (by omega) (by omega)
set_option maxRecDepth 100000 in
set_option maxHeartbeats 4000000 in
theorem k_X3_volumeBefore {z : Zx} {l : Launch} {σ τ : Sg} {o : Int64 × UInt64} {ad : Nm} (hl : l.stackTraces = false) {b c : Nat} (hb : b < σ 0 0 0) (q : Stt (σ 2 b) (σ 1 b 6)) (hc : c < σ 1 b 6) : Ko z l yX3_volumeBefore cX3_volumeBefore 4 (some .int) 1 0 0 [.ref (ad 12 b), .int (nI c)] ad (Wz z ad σ τ o) (okV (some (.int (nI (dryF (σ 2 b) (σ 1 b 6) c)))) ad (Wz z ad σ τ o)) exNo := by
  refine ko_of hl (by decide +kernel) (Nat.le_of_ble_eq_true rfl) (fun g hg K => ?_)
  subst hg
  have q8 := q.2.1
  have hh := q.2.2 c hc
  show WW g z 4 0 0 ad (Wz z ad σ τ o) 0 [(0, .ref (ad 12 b)), (1, .int (nI c))] []
  refine r_aload_n K dX3_volumeBefore_0 0 rfl rfl ?_
  refine r_iload_n K dX3_volumeBefore_1 1 rfl rfl ?_
  refine r_aload_n K dX3_volumeBefore_2 0 rfl rfl ?_
  refine r_get (v := .ref (ad 14 b)) K fd_X3_9 (W_12 (by first | exact hb | exact hk | exact hj | exact hw | omega | assumption)) rfl rfl dX3_volumeBefore_3 ?_
  refine r_iload_n K dX3_volumeBefore_6 1 rfl rfl ?_
  refine r_iald (j := c) (v := nI (σ 2 b c)) K (W_14 (by first | exact hb | exact hk | exact hj | exact hw | omega | assumption)) rfl rfl (by omega) (by decide) rfl dX3_volumeBefore_7 ?_
  refine r_callV (st := []) K (k_X3_cellsAhead (c := c) (h := σ 2 b c) hl hb q (by omega) (by omega)) cw_X3_32 wd_621 wd_14 (by decide) (by decide) (W_12 (by first | exact hb | exact hk | exact hj | exact hw | omega | assumption)) rfl rfl rfl (Nat.le_of_ble_eq_true rfl) (by decide) (by decide) dX3_volumeBefore_8 ?_
  rintro _ _ _ ⟨rfl, rfl, rfl⟩
  show WW g z 4 0 0 ad (Wz z ad σ τ o) 11 [(0, .ref (ad 12 b)), (1, .int (nI c))] [.int (nI (ahd (σ 2 b) (σ 2 b c) c))]
  refine r_istore_n (lv' := [(2, .int (nI (ahd (σ 2 b) (σ 2 b c) c))), (0, .ref (ad 12 b)), (1, .int (nI c))]) K dX3_volumeBefore_11 rfl (by decide) rfl ?_
  refine r_iconst (v := nI 0) K dX3_volumeBefore_12 (by decide) ?_
  refine r_istore_n (lv' := [(3, .int (nI 0)), (2, .int (nI (ahd (σ 2 b) (σ 2 b c) c))), (0, .ref (ad 12 b)), (1, .int (nI c))]) K dX3_volumeBefore_13 rfl (by decide) rfl ?_
  have lp : ∀ (fuel : Nat) (i : Nat), σ 1 b 6 - i < fuel → i ≤ σ 1 b 6 → WW g z 4 0 0 ad (Wz z ad σ τ o) 14 [(0, .ref (ad 12 b)), (1, .int (nI c)), (2, .int (nI (ahd (σ 2 b) (σ 2 b c) c + upto (σ 2 b) (σ 2 b c) i))), (3, .int (nI i))] [] := by
    intro fuel
    induction fuel with
    | zero => intro i hf h1; exact absurd hf (Nat.not_lt_zero _)
    | succ fuel ih_lp =>
      intro i hf h1
      have g6 := upto_le (σ 2 b) (σ 2 b c) i
      have g7 := ahd_le (σ 2 b) (σ 2 b c) c
      have g8 : i * σ 2 b c ≤ 8 * 30 := Nat.mul_le_mul (by omega) (by omega)
      refine r_iload_n K dX3_volumeBefore_14 3 rfl rfl ?_
      refine r_aload_n K dX3_volumeBefore_15 0 rfl rfl ?_
      refine r_get (v := .int (nI (σ 1 b 6))) K fd_X3_15 (W_12 (by first | exact hb | exact hk | exact hj | exact hw | omega | assumption)) rfl rfl dX3_volumeBefore_16 ?_
      refine r_icmp_ge K dX3_volumeBefore_19 48 (σ 1 b 6 ≤ i) (nI_leI (by omega) (by omega)) (by decide) (fun c_19 => ?_) (fun c_19 => ?_)
      · skip
        refine r_iload_n K dX3_volumeBefore_48 2 rfl rfl ?_
        exact r_iret K (by decide) (by decide) ⟨congrArg (fun q => some (Value.int (nI q))) (by rw [show i = σ 1 b 6 by omega]; rfl), rfl, rfl⟩ dX3_volumeBefore_49
      · skip
        have p1 := q.2.2 i (by omega)
        refine r_iload_n K dX3_volumeBefore_22 2 rfl rfl ?_
        refine r_aload_n K dX3_volumeBefore_23 0 rfl rfl ?_
        refine r_get (v := .ref (ad 14 b)) K fd_X3_9 (W_12 (by first | exact hb | exact hk | exact hj | exact hw | omega | assumption)) rfl rfl dX3_volumeBefore_24 ?_
        refine r_iload_n K dX3_volumeBefore_27 1 rfl rfl ?_
        refine r_iald (j := c) (v := nI (σ 2 b c)) K (W_14 (by first | exact hb | exact hk | exact hj | exact hw | omega | assumption)) rfl rfl (by omega) (by decide) rfl dX3_volumeBefore_28 ?_
        refine r_aload_n K dX3_volumeBefore_29 0 rfl rfl ?_
        refine r_get (v := .ref (ad 14 b)) K fd_X3_9 (W_12 (by first | exact hb | exact hk | exact hj | exact hw | omega | assumption)) rfl rfl dX3_volumeBefore_30 ?_
        refine r_iload_n K dX3_volumeBefore_33 3 rfl rfl ?_
        refine r_iald (j := i) (v := nI (σ 2 b i)) K (W_14 (by first | exact hb | exact hk | exact hj | exact hw | omega | assumption)) rfl rfl (by omega) (by decide) rfl dX3_volumeBefore_34 ?_
        refine r_isub (v := nI (σ 2 b c) - nI (σ 2 b i)) K dX3_volumeBefore_35 rfl ?_
        refine r_iconst (v := nI 0) K dX3_volumeBefore_36 (by decide) ?_
        refine r_mmax (v := nI (σ 2 b c - σ 2 b i)) K wd_623 wd_551 wd_68 wd_552 (Nat.le_of_ble_eq_true rfl) (msubN (by omega) (by omega)) (by decide) (by decide) dX3_volumeBefore_37 ?_
        refine r_iadd (v := nI ((ahd (σ 2 b) (σ 2 b c) c + upto (σ 2 b) (σ 2 b c) i) + (σ 2 b c - σ 2 b i))) K dX3_volumeBefore_40 (nI_add _ _) ?_
        rw [show ahd (σ 2 b) (σ 2 b c) c + upto (σ 2 b) (σ 2 b c) i + (σ 2 b c - σ 2 b i) = ahd (σ 2 b) (σ 2 b c) c + upto (σ 2 b) (σ 2 b c) (i + 1) by rw [upto, Nat.add_assoc]]
        show WW g z 4 0 0 ad (Wz z ad σ τ o) 41 [(0, .ref (ad 12 b)), (1, .int (nI c)), (2, .int (nI (ahd (σ 2 b) (σ 2 b c) c + upto (σ 2 b) (σ 2 b c) i))), (3, .int (nI i))] [.int (nI (ahd (σ 2 b) (σ 2 b c) c + upto (σ 2 b) (σ 2 b c) (i + 1)))]
        refine r_istore_n (lv' := [(2, .int (nI (ahd (σ 2 b) (σ 2 b c) c + upto (σ 2 b) (σ 2 b c) (i + 1)))), (0, .ref (ad 12 b)), (1, .int (nI c)), (3, .int (nI i))]) K dX3_volumeBefore_41 rfl (by decide) rfl ?_
        refine r_iinc (v := nI (i + 1)) (lv' := [(3, .int (nI (i + 1))), (2, .int (nI (ahd (σ 2 b) (σ 2 b c) c + upto (σ 2 b) (σ 2 b c) (i + 1)))), (0, .ref (ad 12 b)), (1, .int (nI c))]) K dX3_volumeBefore_42 3 rfl (ic_1 _) (by decide) rfl ?_
        refine r_goto K dX3_volumeBefore_45 14 (by decide) ?_
        refine r_lv (lv' := [(0, .ref (ad 12 b)), (1, .int (nI c)), (2, .int (nI (ahd (σ 2 b) (σ 2 b c) c + upto (σ 2 b) (σ 2 b c) (i + 1)))), (3, .int (nI (i + 1)))]) [2, 3, 1, 0] rfl ?_
        exact ih_lp (i + 1) (by omega) (by omega)
  refine r_lv (lv' := [(0, .ref (ad 12 b)), (1, .int (nI c)), (2, .int (nI (ahd (σ 2 b) (σ 2 b c) c))), (3, .int (nI 0))]) [2, 3, 1, 0] rfl ?_
  exact lp (σ 1 b 6 - (0) + 1) 0 (by omega) (by omega)
set_option maxRecDepth 100000 in
set_option maxHeartbeats 4000000 in
theorem k_X3_append {z : Zx} {l : Launch} {σ τ : Sg} {o : Int64 × UInt64} {ad : Nm} (hl : l.stackTraces = false) {b h : Nat} (hb : b < σ 0 0 0) (q : Stt (σ 2 b) (σ 1 b 6)) (hc : σ 1 b 6 < 8) (hh : h ≤ 30) : Ko z l yX3_append cX3_append 3 none 2 0 0 [.ref (ad 12 b), .int (nI h)] ad (Wz z ad σ τ o) (okV none ad (Wz z ad (acell σ b h) τ o)) exNo := by
  refine ko_of hl (by decide +kernel) (Nat.le_of_ble_eq_true rfl) (fun g hg K => ?_)
  subst hg
  have q8 := q.2.1
  have e2 : ∀ i, (sp (sp (su σ 1 b 6 (σ 1 b 6 + 1)) 2 b (up1 (σ 2 b) (σ 1 b 6) h)) 30 b (drs (dryF (up1 (σ 2 b) (σ 1 b 6) h) (σ 1 b 6 + 1)) i (σ 30 b))) 2 b = (up1 (σ 2 b) (σ 1 b 6) h) := fun i => by rw [sp_f (by decide), sp_s]
  have e3 : ∀ i, (sp (sp (su σ 1 b 6 (σ 1 b 6 + 1)) 2 b (up1 (σ 2 b) (σ 1 b 6) h)) 30 b (drs (dryF (up1 (σ 2 b) (σ 1 b 6) h) (σ 1 b 6 + 1)) i (σ 30 b))) 1 b 6 = σ 1 b 6 + 1 := fun i => by rw [sp_f (by decide), sp_f (by decide), su_s]
  have q2 : ∀ {i}, Stt ((sp (sp (su σ 1 b 6 (σ 1 b 6 + 1)) 2 b (up1 (σ 2 b) (σ 1 b 6) h)) 30 b (drs (dryF (up1 (σ 2 b) (σ 1 b 6) h) (σ 1 b 6 + 1)) i (σ 30 b))) 2 b) ((sp (sp (su σ 1 b 6 (σ 1 b 6 + 1)) 2 b (up1 (σ 2 b) (σ 1 b 6) h)) 30 b (drs (dryF (up1 (σ 2 b) (σ 1 b 6) h) (σ 1 b 6 + 1)) i (σ 30 b))) 1 b 6) := fun {i} => by rw [e2, e3]; exact q.add hc hh
  show WW g z 3 0 0 ad (Wz z ad σ τ o) 0 [(0, .ref (ad 12 b)), (1, .int (nI h))] []
  refine r_aload_n K dX3_append_0 0 rfl rfl ?_
  refine r_get (v := .ref (ad 14 b)) K fd_X3_9 (W_12 (by first | exact hb | exact hk | exact hj | exact hw | omega | assumption)) rfl rfl dX3_append_1 ?_
  refine r_aload_n K dX3_append_4 0 rfl rfl ?_
  refine r_get (v := .int (nI (σ 1 b 6))) K fd_X3_15 (W_12 (by first | exact hb | exact hk | exact hj | exact hw | omega | assumption)) rfl rfl dX3_append_5 ?_
  refine r_iload_n K dX3_append_8 1 rfl rfl ?_
  refine r_iast (j := σ 1 b 6) K (W_14 hb) rfl rfl (by omega) (by decide) rfl dX3_append_9 ?_
  refine r_mu (u_14 hb) ?_
  rw [su_sp1]
  show WW g z 3 0 0 ad (Wz z ad (sp σ 2 b (up1 (σ 2 b) (σ 1 b 6) h)) τ o) 10 [(0, .ref (ad 12 b)), (1, .int (nI h))] []
  refine r_aload_n K dX3_append_10 0 rfl rfl ?_
  refine r_dup K dX3_append_11 rfl ?_
  refine r_get (v := .int (nI ((sp σ 2 b (up1 (σ 2 b) (σ 1 b 6) h)) 1 b 6))) K fd_X3_15 (W_12 (by first | exact hb | exact hk | exact hj | exact hw | omega | assumption)) rfl rfl dX3_append_12 ?_
  refine r_iconst (v := nI 1) K dX3_append_15 (by decide) ?_
  refine r_iadd (v := nI (((sp σ 2 b (up1 (σ 2 b) (σ 1 b 6) h)) 1 b 6) + 1)) K dX3_append_16 (nI_add _ _) ?_
  refine r_put K fd_X3_15 (W_12 hb) rfl rfl rfl (Nat.le_of_ble_eq_true rfl) rfl dX3_append_17 ?_
  refine r_mu (u_12_4 (v := σ 1 b 6 + 1) hb) ?_
  have e0 : su (sp σ 2 b (up1 (σ 2 b) (σ 1 b 6) h)) 1 b 6 (σ 1 b 6 + 1) = (sp (sp (su σ 1 b 6 (σ 1 b 6 + 1)) 2 b (up1 (σ 2 b) (σ 1 b 6) h)) 30 b (drs (dryF (up1 (σ 2 b) (σ 1 b 6) h) (σ 1 b 6 + 1)) 0 (σ 30 b))) := by rw [drs_0, su_sp2 (by decide)]; exact sp_id.symm
  rw [e0]
  show WW g z 3 0 0 ad (Wz z ad (sp (sp (su σ 1 b 6 (σ 1 b 6 + 1)) 2 b (up1 (σ 2 b) (σ 1 b 6) h)) 30 b (drs (dryF (up1 (σ 2 b) (σ 1 b 6) h) (σ 1 b 6 + 1)) 0 (σ 30 b))) τ o) 20 [(0, .ref (ad 12 b)), (1, .int (nI h))] []
  refine r_iconst (v := nI 0) K dX3_append_20 (by decide) ?_
  refine r_istore_n (lv' := [(2, .int (nI 0)), (0, .ref (ad 12 b)), (1, .int (nI h))]) K dX3_append_21 rfl (by decide) rfl ?_
  have lp : ∀ (fuel : Nat) (i : Nat), σ 1 b 6 + 1 - i < fuel → i ≤ σ 1 b 6 + 1 → WW g z 3 0 0 ad (Wz z ad (sp (sp (su σ 1 b 6 (σ 1 b 6 + 1)) 2 b (up1 (σ 2 b) (σ 1 b 6) h)) 30 b (drs (dryF (up1 (σ 2 b) (σ 1 b 6) h) (σ 1 b 6 + 1)) i (σ 30 b))) τ o) 22 [(0, .ref (ad 12 b)), (1, .int (nI h)), (2, .int (nI i))] [] := by
    intro fuel
    induction fuel with
    | zero => intro i hf h1; exact absurd hf (Nat.not_lt_zero _)
    | succ fuel ih_lp =>
      intro i hf h1
      refine r_iload_n K dX3_append_22 2 rfl rfl ?_
      refine r_aload_n K dX3_append_23 0 rfl rfl ?_
      refine r_get (v := .int (nI (σ 1 b 6 + 1))) K fd_X3_15 (W_12 hb) rfl (by show some (Value.int (nI (su σ 1 b 6 (σ 1 b 6 + 1) 1 b 6))) = _; rw [su_s]) dX3_append_24 ?_
      refine r_icmp_ge K dX3_append_27 47 (σ 1 b 6 + 1 ≤ i) (nI_leI (by omega) (by omega)) (by decide) (fun c_27 => ?_) (fun c_27 => ?_)
      · skip
        exact r_vret K (by decide) (by decide) ⟨rfl, rfl, by rw [show i = σ 1 b 6 + 1 by omega]; rfl⟩ dX3_append_47
      · skip
        refine r_aload_n K dX3_append_30 0 rfl rfl ?_
        refine r_get (v := .ref (ad 15 b)) K fd_X3_19 (W_12 (by first | exact hb | exact hk | exact hj | exact hw | omega | assumption)) rfl rfl dX3_append_31 ?_
        refine r_iload_n K dX3_append_34 2 rfl rfl ?_
        refine r_aload_n K dX3_append_35 0 rfl rfl ?_
        refine r_iload_n K dX3_append_36 2 rfl rfl ?_
        refine r_callV (st := [.int (nI i), .ref (ad 15 b)]) K (k_X3_volumeBefore (σ := (sp (sp (su σ 1 b 6 (σ 1 b 6 + 1)) 2 b (up1 (σ 2 b) (σ 1 b 6) h)) 30 b (drs (dryF (up1 (σ 2 b) (σ 1 b 6) h) (σ 1 b 6 + 1)) i (σ 30 b)))) (c := i) hl hb q2 (by show i < su σ 1 b 6 (σ 1 b 6 + 1) 1 b 6; rw [su_s]; omega)) cw_X3_28 wd_617 wd_13 (by decide) (by decide) (W_12 (by first | exact hb | exact hk | exact hj | exact hw | omega | assumption)) rfl rfl rfl (Nat.le_of_ble_eq_true rfl) (by decide) (by decide) dX3_append_37 ?_
        rintro _ _ _ ⟨rfl, rfl, rfl⟩
        refine r_eq (st' := [.int (nI (dryF (up1 (σ 2 b) (σ 1 b 6) h) (σ 1 b 6 + 1) i)), .int (nI i), .ref (ad 15 b)]) rfl rfl rfl (by rw [e2, e3]; rfl) ?_
        show WW g z 3 0 0 ad (Wz z ad (sp (sp (su σ 1 b 6 (σ 1 b 6 + 1)) 2 b (up1 (σ 2 b) (σ 1 b 6) h)) 30 b (drs (dryF (up1 (σ 2 b) (σ 1 b 6) h) (σ 1 b 6 + 1)) i (σ 30 b))) τ o) 40 [(0, .ref (ad 12 b)), (1, .int (nI h)), (2, .int (nI i))] [.int (nI (dryF (up1 (σ 2 b) (σ 1 b 6) h) (σ 1 b 6 + 1) i)), .int (nI i), .ref (ad 15 b)]
        refine r_iast (j := i) K (W_15 hb) rfl rfl (by omega) (by decide) rfl dX3_append_40 ?_
        refine r_mu (u_15 hb) ?_
        rw [su_sp, drs_1]
        show WW g z 3 0 0 ad (Wz z ad (sp (sp (su σ 1 b 6 (σ 1 b 6 + 1)) 2 b (up1 (σ 2 b) (σ 1 b 6) h)) 30 b (drs (dryF (up1 (σ 2 b) (σ 1 b 6) h) (σ 1 b 6 + 1)) (i + 1) (σ 30 b))) τ o) 41 [(0, .ref (ad 12 b)), (1, .int (nI h)), (2, .int (nI i))] []
        refine r_iinc (v := nI (i + 1)) (lv' := [(2, .int (nI (i + 1))), (0, .ref (ad 12 b)), (1, .int (nI h))]) K dX3_append_41 2 rfl (ic_1 _) (by decide) rfl ?_
        refine r_goto K dX3_append_44 22 (by decide) ?_
        refine r_lv (lv' := [(0, .ref (ad 12 b)), (1, .int (nI h)), (2, .int (nI (i + 1)))]) [1, 2, 0] rfl ?_
        exact ih_lp (i + 1) (by omega) (by omega)
  refine r_lv (lv' := [(0, .ref (ad 12 b)), (1, .int (nI h)), (2, .int (nI 0))]) [1, 2, 0] rfl ?_
  exact lp (σ 1 b 6 + 1 - (0) + 1) 0 (by omega) (by omega)
