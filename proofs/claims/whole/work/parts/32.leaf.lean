set_option maxRecDepth 100000 in
set_option maxHeartbeats 4000000 in
theorem k_X4_clear {z : Zx} {l : Launch} {σ τ : Sg} {o : Int64 × UInt64} {ad : Nm} (hl : l.stackTraces = false) {w : Nat} (hw : w < 2) : Ko z l yX4_clear cX4_clear 1 none 1 0 0 [.ref (ad 3 w)] ad (Wz z ad σ τ o) (okV none ad (Wz z ad (zer σ w) τ o)) exNo := by
  refine ko_of hl (by decide +kernel) (Nat.le_of_ble_eq_true rfl) (fun g hg K => ?_)
  subst hg
  show WW g z 1 0 0 ad (Wz z ad σ τ o) 0 [(0, .ref (ad 3 w))] []
  refine r_aload_n K dX4_clear_0 0 rfl rfl ?_
  refine r_get (v := .ref (ad 4 w)) K fd_X4_9 (W_3 (by first | exact hb | exact hk | exact hj | exact hw | omega | assumption)) rfl rfl dX4_clear_1 ?_
  refine r_iconst (v := nI 0) K dX4_clear_4 (by decide) ?_
  refine r_callS (st := []) K (k_J7_fill_53178 (g0 := fun j => σ 3 j w) hl (W_4 hw) (by decide)) cw_X4_21 wd_277 (by decide) (by decide) rfl (Nat.le_of_ble_eq_true rfl) (by decide) (by decide) dX4_clear_5 ?_
  rintro _ _ _ ⟨rfl, rfl, rfl⟩
  refine r_mu (w_4 hw) ?_
  show WW g z 1 0 0 ad (Wz z ad (sc σ 3 w (fil 6 0 (fun j => σ 3 j w))) τ o) 8 [(0, .ref (ad 3 w))] []
  refine r_aload_n K dX4_clear_8 0 rfl rfl ?_
  refine r_get (v := .ref (ad 5 w)) K fd_X4_15 (W_3 (by first | exact hb | exact hk | exact hj | exact hw | omega | assumption)) rfl rfl dX4_clear_9 ?_
  refine r_iconst (v := nI 0) K dX4_clear_12 (by decide) ?_
  refine r_callS (st := []) K (k_J7_fill_53178 (g0 := fun j => σ 4 j w) hl (W_5 hw) (by decide)) cw_X4_21 wd_277 (by decide) (by decide) rfl (Nat.le_of_ble_eq_true rfl) (by decide) (by decide) dX4_clear_13 ?_
  rintro _ _ _ ⟨rfl, rfl, rfl⟩
  refine r_mu (w_5 hw) ?_
  show WW g z 1 0 0 ad (Wz z ad (sc (sc σ 3 w (fil 6 0 (fun j => σ 3 j w))) 4 w (fil 6 0 (fun j => σ 4 j w))) τ o) 16 [(0, .ref (ad 3 w))] []
  refine r_aload_n K dX4_clear_16 0 rfl rfl ?_
  refine r_iconst (v := nI 0) K dX4_clear_17 (by decide) ?_
  refine r_put K fd_X4_27 (W_3 (by first | exact hb | exact hk | exact hj | exact hw | omega | assumption)) rfl rfl rfl (Nat.le_of_ble_eq_true rfl) rfl dX4_clear_18 ?_
  refine r_mu (u_3_3 (by first | exact hb | exact hk | exact hj | exact hw | omega | assumption)) ?_
  show WW g z 1 0 0 ad (Wz z ad (su (sc (sc σ 3 w (fil 6 0 (fun j => σ 3 j w))) 4 w (fil 6 0 (fun j => σ 4 j w))) 6 0 w 0) τ o) 21 [(0, .ref (ad 3 w))] []
  exact r_vret K (by decide) (by decide) ⟨rfl, rfl, rfl⟩ dX4_clear_21
set_option maxRecDepth 100000 in
set_option maxHeartbeats 4000000 in
theorem k_X4_held {z : Zx} {l : Launch} {σ τ : Sg} {o : Int64 × UInt64} {ad : Nm} (hl : l.stackTraces = false) {w : Nat} (hw : w < 2) : Ko z l yX4_held cX4_held 3 (some .int) 0 0 0 [.ref (ad 3 w)] ad (Wz z ad σ τ o) (okV (some (.int (nI (hld σ w 6)))) ad (Wz z ad σ τ o)) exNo := by
  refine ko_of hl (by decide +kernel) (Nat.le_of_ble_eq_true rfl) (fun g hg K => ?_)
  subst hg
  show WW g z 3 0 0 ad (Wz z ad σ τ o) 0 [(0, .ref (ad 3 w))] []
  refine r_iconst (v := nI 0) K dX4_held_0 (by decide) ?_
  refine r_istore_n (lv' := [(1, .int (nI 0)), (0, .ref (ad 3 w))]) K dX4_held_1 rfl (by decide) rfl ?_
  refine r_iconst (v := nI 0) K dX4_held_2 (by decide) ?_
  refine r_istore_n (lv' := [(2, .int (nI 0)), (1, .int (nI 0)), (0, .ref (ad 3 w))]) K dX4_held_3 rfl (by decide) rfl ?_
  have lp : ∀ (fuel : Nat) (i : Nat), 6 - i < fuel → i ≤ 6 → WW g z 3 0 0 ad (Wz z ad σ τ o) 4 [(0, .ref (ad 3 w)), (1, .int (nI (hld σ w i))), (2, .int (nI i))] [] := by
    intro fuel
    induction fuel with
    | zero => intro i hf h1; exact absurd hf (Nat.not_lt_zero _)
    | succ fuel ih_lp =>
      intro i hf h1
      refine r_iload_n K dX4_held_4 2 rfl rfl ?_
      refine r_bipush (v := nI 6) K dX4_held_5 (by decide) ?_
      refine r_icmp_ge K dX4_held_7 32 (6 ≤ i) (nI_leI (by omega) (by omega)) (by decide) (fun c_7 => ?_) (fun c_7 => ?_)
      · skip
        refine r_iload_n K dX4_held_32 1 rfl rfl ?_
        exact r_iret K (by decide) (by decide) ⟨congrArg (fun q => some (Value.int (nI q))) (by rw [show i = 6 by omega]), rfl, rfl⟩ dX4_held_33
      · skip
        refine r_iload_n K dX4_held_10 1 rfl rfl ?_
        refine r_aload_n K dX4_held_11 0 rfl rfl ?_
        refine r_get (v := .ref (ad 4 w)) K fd_X4_9 (W_3 (by first | exact hb | exact hk | exact hj | exact hw | omega | assumption)) rfl rfl dX4_held_12 ?_
        refine r_iload_n K dX4_held_15 2 rfl rfl ?_
        refine r_iald (j := i) (v := nI (σ 3 i w)) K (W_4 (by first | exact hb | exact hk | exact hj | exact hw | omega | assumption)) rfl rfl (by omega) (by decide) rfl dX4_held_16 ?_
        refine r_aload_n K dX4_held_17 0 rfl rfl ?_
        refine r_get (v := .ref (ad 5 w)) K fd_X4_15 (W_3 (by first | exact hb | exact hk | exact hj | exact hw | omega | assumption)) rfl rfl dX4_held_18 ?_
        refine r_iload_n K dX4_held_21 2 rfl rfl ?_
        refine r_iald (j := i) (v := nI (σ 4 i w)) K (W_5 (by first | exact hb | exact hk | exact hj | exact hw | omega | assumption)) rfl rfl (by omega) (by decide) rfl dX4_held_22 ?_
        refine r_iadd (v := nI ((σ 3 i w) + (σ 4 i w))) K dX4_held_23 (nI_add _ _) ?_
        refine r_iadd (v := nI ((hld σ w i) + ((σ 3 i w) + (σ 4 i w)))) K dX4_held_24 (nI_add _ _) ?_
        refine r_istore_n (lv' := [(1, .int (nI ((hld σ w i) + ((σ 3 i w) + (σ 4 i w))))), (0, .ref (ad 3 w)), (2, .int (nI i))]) K dX4_held_25 rfl (by decide) rfl ?_
        show WW g z 3 0 0 ad (Wz z ad σ τ o) 26 [(1, .int (nI (hld σ w (i + 1)))), (0, .ref (ad 3 w)), (2, .int (nI i))] []
        refine r_iinc (v := nI (i + 1)) (lv' := [(2, .int (nI (i + 1))), (1, .int (nI (hld σ w (i + 1)))), (0, .ref (ad 3 w))]) K dX4_held_26 2 rfl (ic_1 _) (by decide) rfl ?_
        refine r_goto K dX4_held_29 4 (by decide) ?_
        refine r_lv (lv' := [(0, .ref (ad 3 w)), (1, .int (nI (hld σ w (i + 1)))), (2, .int (nI (i + 1)))]) [2, 1, 0] rfl ?_
        exact ih_lp (i + 1) (by omega) (by omega)
  refine r_lv (lv' := [(0, .ref (ad 3 w)), (1, .int (nI 0)), (2, .int (nI 0))]) [2, 1, 0] rfl ?_
  exact lp (6 - (0) + 1) 0 (by omega) (by omega)
set_option maxRecDepth 100000 in
set_option maxHeartbeats 4000000 in
theorem k_X4_runThroughGate {z : Zx} {l : Launch} {σ τ : Sg} {o : Int64 × UInt64} {ad : Nm} (hl : l.stackTraces = false) {w i x : Nat} (hw : w < 2) (hi : i < 6) (hx : x ≤ 6) (hxi : x ≠ i + 1) (hle : σ 27 i w ≤ σ 3 i w) : Ko z l yX4_runThroughGate cX4_runThroughGate 3 none 0 0 0 [.ref (ad 3 w), .int (nI i), .int (bw x)] ad (Wz z ad σ τ o) (okV none ad (Wz z ad (gate σ w i x) τ o)) exNo := by
  refine ko_of hl (by decide +kernel) (Nat.le_of_ble_eq_true rfl) (fun g hg K => ?_)
  subst hg
  show WW g z 3 0 0 ad (Wz z ad σ τ o) 0 [(0, .ref (ad 3 w)), (1, .int (nI i)), (2, .int (bw x))] []
  refine r_aload_n K dX4_runThroughGate_0 0 rfl rfl ?_
  refine r_get (v := .ref (ad 4 w)) K fd_X4_9 (W_3 (by first | exact hb | exact hk | exact hj | exact hw | omega | assumption)) rfl rfl dX4_runThroughGate_1 ?_
  refine r_iload_n K dX4_runThroughGate_4 1 rfl rfl ?_
  refine r_dup2 K dX4_runThroughGate_5 rfl rfl ?_
  refine r_iald (j := i) (v := nI (σ 3 i w)) K (W_4 (by first | exact hb | exact hk | exact hj | exact hw | omega | assumption)) rfl rfl (by omega) (by decide) rfl dX4_runThroughGate_6 ?_
  refine r_aload_n K dX4_runThroughGate_7 0 rfl rfl ?_
  refine r_get (v := .ref (ad 6 w)) K fd_X4_18 (W_3 (by first | exact hb | exact hk | exact hj | exact hw | omega | assumption)) rfl rfl dX4_runThroughGate_8 ?_
  refine r_iload_n K dX4_runThroughGate_11 1 rfl rfl ?_
  refine r_iald (j := i) (v := nI (σ 27 i w)) K (W_6 (by first | exact hb | exact hk | exact hj | exact hw | omega | assumption)) rfl rfl (by omega) (by decide) rfl dX4_runThroughGate_12 ?_
  refine r_isub (v := nI ((σ 3 i w) - (σ 27 i w))) K dX4_runThroughGate_13 (pk_sub (by omega)) ?_
  refine r_iast (j := i) K (W_4 (by first | exact hb | exact hk | exact hj | exact hw | omega | assumption)) rfl rfl (by omega) (by decide) rfl dX4_runThroughGate_14 ?_
  refine r_mu (u_4 (by first | exact hb | exact hk | exact hj | exact hw | omega | assumption)) ?_
  show WW g z 3 0 0 ad (Wz z ad (su σ 3 i w ((σ 3 i w) - (σ 27 i w))) τ o) 15 [(0, .ref (ad 3 w)), (1, .int (nI i)), (2, .int (bw x))] []
  refine r_iload_n K dX4_runThroughGate_15 2 rfl rfl ?_
  refine r_iconst (v := bw 0) K dX4_runThroughGate_16 (by decide) ?_
  refine r_icmp_ne K dX4_runThroughGate_17 38 (x = 0) (bw_eq0 (by omega)) (by decide) (fun c_17 => ?_) (fun c_17 => ?_)
  · skip
    refine r_aload_n K dX4_runThroughGate_38 0 rfl rfl ?_
    refine r_get (v := .ref (ad 4 w)) K fd_X4_9 (W_3 (by first | exact hb | exact hk | exact hj | exact hw | omega | assumption)) rfl rfl dX4_runThroughGate_39 ?_
    refine r_iload_n K dX4_runThroughGate_42 2 rfl rfl ?_
    refine r_dup2 K dX4_runThroughGate_43 rfl rfl ?_
    refine r_iald (j := x - 1) (v := nI (σ 3 (x - 1) w)) K (W_4 (by first | exact hb | exact hk | exact hj | exact hw | omega | assumption)) rfl (bw_nI (by omega)) (by omega) (by decide) (by show nI _ = nI _; first | rfl | (repeat first | rw [su_s] | rw [su_n (by omega)])) dX4_runThroughGate_44 ?_
    refine r_aload_n K dX4_runThroughGate_45 0 rfl rfl ?_
    refine r_get (v := .ref (ad 6 w)) K fd_X4_18 (W_3 (by first | exact hb | exact hk | exact hj | exact hw | omega | assumption)) rfl rfl dX4_runThroughGate_46 ?_
    refine r_iload_n K dX4_runThroughGate_49 1 rfl rfl ?_
    refine r_iald (j := i) (v := nI (σ 27 i w)) K (W_6 (by first | exact hb | exact hk | exact hj | exact hw | omega | assumption)) rfl rfl (by omega) (by decide) rfl dX4_runThroughGate_50 ?_
    refine r_iadd (v := nI ((σ 3 (x - 1) w) + (σ 27 i w))) K dX4_runThroughGate_51 (nI_add _ _) ?_
    refine r_iast (j := x - 1) K (W_4 (by first | exact hb | exact hk | exact hj | exact hw | omega | assumption)) rfl (bw_nI (by omega)) (by omega) (by decide) rfl dX4_runThroughGate_52 ?_
    refine r_mu (u_4 (by first | exact hb | exact hk | exact hj | exact hw | omega | assumption)) ?_
    show WW g z 3 0 0 ad (Wz z ad (su (su σ 3 i w ((σ 3 i w) - (σ 27 i w))) 3 (x - 1) w ((σ 3 (x - 1) w) + (σ 27 i w))) τ o) 53 [(0, .ref (ad 3 w)), (1, .int (nI i)), (2, .int (bw x))] []
    exact r_vret K (by decide) (by decide) ⟨rfl, rfl, by unfold gate; rw [if_neg c_17]⟩ dX4_runThroughGate_53
  · skip
    refine r_aload_n K dX4_runThroughGate_20 0 rfl rfl ?_
    refine r_dup K dX4_runThroughGate_21 rfl ?_
    refine r_get (v := .int (nI (σ 6 0 w))) K fd_X4_27 (W_3 (by first | exact hb | exact hk | exact hj | exact hw | omega | assumption)) rfl rfl dX4_runThroughGate_22 ?_
    refine r_aload_n K dX4_runThroughGate_25 0 rfl rfl ?_
    refine r_get (v := .ref (ad 6 w)) K fd_X4_18 (W_3 (by first | exact hb | exact hk | exact hj | exact hw | omega | assumption)) rfl rfl dX4_runThroughGate_26 ?_
    refine r_iload_n K dX4_runThroughGate_29 1 rfl rfl ?_
    refine r_iald (j := i) (v := nI (σ 27 i w)) K (W_6 (by first | exact hb | exact hk | exact hj | exact hw | omega | assumption)) rfl rfl (by omega) (by decide) rfl dX4_runThroughGate_30 ?_
    refine r_iadd (v := nI ((σ 6 0 w) + (σ 27 i w))) K dX4_runThroughGate_31 (nI_add _ _) ?_
    refine r_put K fd_X4_27 (W_3 (by first | exact hb | exact hk | exact hj | exact hw | omega | assumption)) rfl rfl rfl (Nat.le_of_ble_eq_true rfl) rfl dX4_runThroughGate_32 ?_
    refine r_mu (u_3_3 (by first | exact hb | exact hk | exact hj | exact hw | omega | assumption)) ?_
    show WW g z 3 0 0 ad (Wz z ad (su (su σ 3 i w ((σ 3 i w) - (σ 27 i w))) 6 0 w ((σ 6 0 w) + (σ 27 i w))) τ o) 35 [(0, .ref (ad 3 w)), (1, .int (nI i)), (2, .int (bw x))] []
    refine r_goto K dX4_runThroughGate_35 53 (by decide) ?_
    exact r_vret K (by decide) (by decide) ⟨rfl, rfl, by unfold gate; rw [if_pos c_17]⟩ dX4_runThroughGate_53
set_option maxRecDepth 100000 in
set_option maxHeartbeats 4000000 in
theorem k_X4_settle {z : Zx} {l : Launch} {σ τ : Sg} {o : Int64 × UInt64} {ad : Nm} (hl : l.stackTraces = false) {w i cap : Nat} (hw : w < 2) (hi : i < 6) (hv : σ 3 i w ≤ 300000) (hs : σ 4 i w ≤ 300000) (hc : cap ≤ 2000) : Ko z l yX4_settle cX4_settle 5 none 0 0 0 [.ref (ad 3 w), .int (nI i), .int (nI cap)] ad (Wz z ad σ τ o) (okV none ad (Wz z ad (stl σ w i cap) τ o)) exNo := by
  refine ko_of hl (by decide +kernel) (Nat.le_of_ble_eq_true rfl) (fun g hg K => ?_)
  subst hg
  show WW g z 5 0 0 ad (Wz z ad σ τ o) 0 [(0, .ref (ad 3 w)), (1, .int (nI i)), (2, .int (nI cap))] []
  refine r_iload_n K dX4_settle_0 2 rfl rfl ?_
  refine r_aload_n K dX4_settle_1 0 rfl rfl ?_
  refine r_get (v := .ref (ad 4 w)) K fd_X4_9 (W_3 (by first | exact hb | exact hk | exact hj | exact hw | omega | assumption)) rfl rfl dX4_settle_2 ?_
  refine r_iload_n K dX4_settle_5 1 rfl rfl ?_
  refine r_iald (j := i) (v := nI (σ 3 i w)) K (W_4 (by first | exact hb | exact hk | exact hj | exact hw | omega | assumption)) rfl rfl (by omega) (by decide) rfl dX4_settle_6 ?_
  refine r_isub (v := nI cap - nI (σ 3 i w)) K dX4_settle_7 rfl ?_
  refine r_istore_n (lv' := [(3, .int (nI cap - nI (σ 3 i w))), (0, .ref (ad 3 w)), (1, .int (nI i)), (2, .int (nI cap))]) K dX4_settle_8 rfl (by decide) rfl ?_
  refine r_iload_n K dX4_settle_9 0 rfl rfl ?_
  refine r_if_ge K dX4_settle_10 33 (σ 3 i w ≤ cap) (rge (by omega) (by omega)) (by decide) (fun c_10 => ?_) (fun c_10 => ?_)
  · skip
    rw [pk_sub c_10]
    show WW g z 5 0 0 ad (Wz z ad σ τ o) 33 [(3, .int (nI (cap - σ 3 i w))), (0, .ref (ad 3 w)), (1, .int (nI i)), (2, .int (nI cap))] []
    refine r_aload_n K dX4_settle_33 1 rfl rfl ?_
    refine r_get (v := .ref (ad 5 w)) K fd_X4_15 (W_3 (by first | exact hb | exact hk | exact hj | exact hw | omega | assumption)) rfl rfl dX4_settle_34 ?_
    refine r_iload_n K dX4_settle_37 2 rfl rfl ?_
    refine r_iald (j := i) (v := nI (σ 4 i w)) K (W_5 (by first | exact hb | exact hk | exact hj | exact hw | omega | assumption)) rfl rfl (by omega) (by decide) rfl dX4_settle_38 ?_
    refine r_iload_n K dX4_settle_39 0 rfl rfl ?_
    refine r_mmin (v := nI (min (σ 4 i w) (cap - σ 3 i w))) K wd_312 wd_298 wd_68 wd_299 (Nat.le_of_ble_eq_true rfl) (mminN (by omega) (by omega)) (by decide) (by decide) dX4_settle_40 ?_
    refine r_istore (lv' := [(4, .int (nI (min (σ 4 i w) (cap - σ 3 i w)))), (3, .int (nI (cap - σ 3 i w))), (0, .ref (ad 3 w)), (1, .int (nI i)), (2, .int (nI cap))]) K dX4_settle_43 (by decide) rfl ?_
    refine r_aload_n K dX4_settle_45 2 rfl rfl ?_
    refine r_get (v := .ref (ad 5 w)) K fd_X4_15 (W_3 (by first | exact hb | exact hk | exact hj | exact hw | omega | assumption)) rfl rfl dX4_settle_46 ?_
    refine r_iload_n K dX4_settle_49 3 rfl rfl ?_
    refine r_dup2 K dX4_settle_50 rfl rfl ?_
    refine r_iald (j := i) (v := nI (σ 4 i w)) K (W_5 (by first | exact hb | exact hk | exact hj | exact hw | omega | assumption)) rfl rfl (by omega) (by decide) rfl dX4_settle_51 ?_
    refine r_iload K dX4_settle_52 0 rfl ?_
    refine r_isub (v := nI ((σ 4 i w) - (min (σ 4 i w) (cap - σ 3 i w)))) K dX4_settle_54 (pk_sub (by omega)) ?_
    refine r_iast (j := i) K (W_5 (by first | exact hb | exact hk | exact hj | exact hw | omega | assumption)) rfl rfl (by omega) (by decide) rfl dX4_settle_55 ?_
    refine r_mu (u_5 (by first | exact hb | exact hk | exact hj | exact hw | omega | assumption)) ?_
    show WW g z 5 0 0 ad (Wz z ad (su σ 4 i w ((σ 4 i w) - (min (σ 4 i w) (cap - σ 3 i w)))) τ o) 56 [(4, .int (nI (min (σ 4 i w) (cap - σ 3 i w)))), (3, .int (nI (cap - σ 3 i w))), (0, .ref (ad 3 w)), (1, .int (nI i)), (2, .int (nI cap))] []
    refine r_aload_n K dX4_settle_56 2 rfl rfl ?_
    refine r_get (v := .ref (ad 4 w)) K fd_X4_9 (W_3 (by first | exact hb | exact hk | exact hj | exact hw | omega | assumption)) rfl rfl dX4_settle_57 ?_
    refine r_iload_n K dX4_settle_60 3 rfl rfl ?_
    refine r_dup2 K dX4_settle_61 rfl rfl ?_
    refine r_iald (j := i) (v := nI (σ 3 i w)) K (W_4 (by first | exact hb | exact hk | exact hj | exact hw | omega | assumption)) rfl rfl (by omega) (by decide) rfl dX4_settle_62 ?_
    refine r_iload K dX4_settle_63 0 rfl ?_
    refine r_iadd (v := nI ((σ 3 i w) + (min (σ 4 i w) (cap - σ 3 i w)))) K dX4_settle_65 (nI_add _ _) ?_
    refine r_iast (j := i) K (W_4 (by first | exact hb | exact hk | exact hj | exact hw | omega | assumption)) rfl rfl (by omega) (by decide) rfl dX4_settle_66 ?_
    refine r_mu (u_4 (by first | exact hb | exact hk | exact hj | exact hw | omega | assumption)) ?_
    show WW g z 5 0 0 ad (Wz z ad (su (su σ 4 i w ((σ 4 i w) - (min (σ 4 i w) (cap - σ 3 i w)))) 3 i w ((σ 3 i w) + (min (σ 4 i w) (cap - σ 3 i w)))) τ o) 67 [(4, .int (nI (min (σ 4 i w) (cap - σ 3 i w)))), (3, .int (nI (cap - σ 3 i w))), (0, .ref (ad 3 w)), (1, .int (nI i)), (2, .int (nI cap))] []
    exact r_vret K (by decide) (by decide) ⟨rfl, rfl, by unfold stl; rw [if_neg (by omega)]⟩ dX4_settle_67
  · skip
    refine r_aload_n K dX4_settle_13 1 rfl rfl ?_
    refine r_get (v := .ref (ad 5 w)) K fd_X4_15 (W_3 (by first | exact hb | exact hk | exact hj | exact hw | omega | assumption)) rfl rfl dX4_settle_14 ?_
    refine r_iload_n K dX4_settle_17 2 rfl rfl ?_
    refine r_dup2 K dX4_settle_18 rfl rfl ?_
    refine r_iald (j := i) (v := nI (σ 4 i w)) K (W_5 (by first | exact hb | exact hk | exact hj | exact hw | omega | assumption)) rfl rfl (by omega) (by decide) rfl dX4_settle_19 ?_
    refine r_iload_n K dX4_settle_20 0 rfl rfl ?_
    refine r_isub (v := nI (σ 4 i w + (σ 3 i w - cap))) K dX4_settle_21 (rsub (by omega)) ?_
    refine r_iast (j := i) K (W_5 (by first | exact hb | exact hk | exact hj | exact hw | omega | assumption)) rfl rfl (by omega) (by decide) rfl dX4_settle_22 ?_
    refine r_mu (u_5 (by first | exact hb | exact hk | exact hj | exact hw | omega | assumption)) ?_
    show WW g z 5 0 0 ad (Wz z ad (su σ 4 i w (σ 4 i w + (σ 3 i w - cap))) τ o) 23 [(3, .int (nI cap - nI (σ 3 i w))), (0, .ref (ad 3 w)), (1, .int (nI i)), (2, .int (nI cap))] []
    refine r_aload_n K dX4_settle_23 1 rfl rfl ?_
    refine r_get (v := .ref (ad 4 w)) K fd_X4_9 (W_3 (by first | exact hb | exact hk | exact hj | exact hw | omega | assumption)) rfl rfl dX4_settle_24 ?_
    refine r_iload_n K dX4_settle_27 2 rfl rfl ?_
    refine r_iload_n K dX4_settle_28 3 rfl rfl ?_
    refine r_iast (j := i) K (W_4 (by first | exact hb | exact hk | exact hj | exact hw | omega | assumption)) rfl rfl (by omega) (by decide) rfl dX4_settle_29 ?_
    refine r_mu (u_4 (by first | exact hb | exact hk | exact hj | exact hw | omega | assumption)) ?_
    show WW g z 5 0 0 ad (Wz z ad (su (su σ 4 i w (σ 4 i w + (σ 3 i w - cap))) 3 i w cap) τ o) 30 [(3, .int (nI cap - nI (σ 3 i w))), (0, .ref (ad 3 w)), (1, .int (nI i)), (2, .int (nI cap))] []
    refine r_goto K dX4_settle_30 67 (by decide) ?_
    exact r_vret K (by decide) (by decide) ⟨rfl, rfl, by unfold stl; rw [if_pos (by omega)]⟩ dX4_settle_67
set_option maxRecDepth 100000 in
set_option maxHeartbeats 4000000 in
theorem k_X0_capacity {z : Zx} {l : Launch} {σ τ : Sg} {o : Int64 × UInt64} {ad : Nm} (hl : l.stackTraces = false) {b : Nat} (hb : b < σ 0 0 0) : Ko z l yX0_capacity cX0_capacity 1 (some .int) 0 0 0 [.ref (ad 9 b)] ad (Wz z ad σ τ o) (okV (some (.int (nI (σ 1 b 0 * σ 1 b 1)))) ad (Wz z ad σ τ o)) exNo := by
  refine ko_of hl (by decide +kernel) (Nat.le_of_ble_eq_true rfl) (fun g hg K => ?_)
  subst hg
  show WW g z 1 0 0 ad (Wz z ad σ τ o) 0 [(0, .ref (ad 9 b))] []
  refine r_aload_n K dX0_capacity_0 0 rfl rfl ?_
  refine r_get (v := .int (nI (σ 1 b 0))) K fd_X0_9 (W_9 (by first | exact hb | exact hk | exact hj | exact hw | omega | assumption)) rfl rfl dX0_capacity_1 ?_
  refine r_aload_n K dX0_capacity_4 0 rfl rfl ?_
  refine r_get (v := .int (nI (σ 1 b 1))) K fd_X0_15 (W_9 (by first | exact hb | exact hk | exact hj | exact hw | omega | assumption)) rfl rfl dX0_capacity_5 ?_
  refine r_imul (v := nI ((σ 1 b 0) * (σ 1 b 1))) K dX0_capacity_8 (pk_mul _ _) ?_
  exact r_iret K (by decide) (by decide) ⟨congrArg (fun q => some (Value.int (nI q))) (by rfl), rfl, rfl⟩ dX0_capacity_9
set_option maxRecDepth 100000 in
set_option maxHeartbeats 4000000 in
theorem k_X1_isWetAt {z : Zx} {l : Launch} {σ τ : Sg} {o : Int64 × UInt64} {ad : Nm} (hl : l.stackTraces = false) {k h : Nat} (I : InvB σ) (D : InvD σ) (hk : k < σ 0 2 0) (hh : h ≤ 60) : Ko z l yX1_isWetAt cX1_isWetAt 2 (some .boolean) 1 0 0 [.ref (ad 11 k), .int (nI h)] ad (Wz z ad σ τ o) (okV (some (.int (pI (σ 30 (σ 9 k 0) (σ 9 k 1) < σ 7 (σ 9 k 0) h)))) ad (Wz z ad σ τ o)) exNo := by
  refine ko_of hl (by decide +kernel) (Nat.le_of_ble_eq_true rfl) (fun g hg K => ?_)
  subst hg
  obtain ⟨a1, a2, a3, a4, a5, a6⟩ := I.house hk
  have q8 := a2.2.1
  have a7 := a4 h
  have d1 := D _ _ a1 a3
  have d2 := dryF_le a2 a3
  show WW g z 2 0 0 ad (Wz z ad σ τ o) 0 [(0, .ref (ad 11 k)), (1, .int (nI h))] []
  refine r_aload_n K dX1_isWetAt_0 0 rfl rfl ?_
  refine r_get (v := .ref (ad 12 (σ 9 k 0))) K fd_X1_9 (W_11 (by first | exact hb | exact hk | exact hj | exact hw | omega | assumption)) rfl rfl dX1_isWetAt_1 ?_
  refine r_aload_n K dX1_isWetAt_4 0 rfl rfl ?_
  refine r_get (v := .int (nI (σ 9 k 1))) K fd_X1_15 (W_11 (by first | exact hb | exact hk | exact hj | exact hw | omega | assumption)) rfl rfl dX1_isWetAt_5 ?_
  refine r_aload_n K dX1_isWetAt_8 0 rfl rfl ?_
  refine r_get (v := .ref (ad 12 (σ 9 k 0))) K fd_X1_9 (W_11 (by first | exact hb | exact hk | exact hj | exact hw | omega | assumption)) rfl rfl dX1_isWetAt_9 ?_
  refine r_get (v := .ref (ad 17 (σ 9 k 0))) K fd_X1_29 (W_12 (by first | exact hb | exact hk | exact hj | exact hw | omega | assumption)) rfl rfl dX1_isWetAt_12 ?_
  refine r_iload_n K dX1_isWetAt_15 1 rfl rfl ?_
  refine r_iald (j := h) (v := nI (σ 7 (σ 9 k 0) h)) K (W_17 (by first | exact hb | exact hk | exact hj | exact hw | omega | assumption)) rfl rfl (by omega) (by decide) rfl dX1_isWetAt_16 ?_
  refine r_callV (st := []) K (k_X3_isWet (c := σ 9 k 1) (v := σ 7 (σ 9 k 0) h) hl (by first | exact hb | exact hk | exact hj | exact hw | omega | assumption) (by omega) (by omega) (by omega)) cw_X1_35 wd_322 wd_323 (by decide) (by decide) (W_12 (by first | exact hb | exact hk | exact hj | exact hw | omega | assumption)) rfl rfl rfl (Nat.le_of_ble_eq_true rfl) (by decide) (by decide) dX1_isWetAt_17 ?_
  rintro _ _ _ ⟨rfl, rfl, rfl⟩
  show WW g z 2 0 0 ad (Wz z ad σ τ o) 20 [(0, .ref (ad 11 k)), (1, .int (nI h))] [.int (pI (σ 30 (σ 9 k 0) (σ 9 k 1) < σ 7 (σ 9 k 0) h))]
  exact r_zret K pI_nar (by decide) (by decide) ⟨rfl, rfl, rfl⟩ dX1_isWetAt_20
set_option maxRecDepth 100000 in
set_option maxHeartbeats 4000000 in
theorem k_X1_worthAt {z : Zx} {l : Launch} {σ τ : Sg} {o : Int64 × UInt64} {ad : Nm} (hl : l.stackTraces = false) {k h : Nat} (I : InvB σ) (hk : k < σ 0 2 0) (hh : h ≤ 60) : Ko z l yX1_worthAt cX1_worthAt 2 (some .int) 3 0 0 [.ref (ad 11 k), .int (nI h)] ad (Wz z ad σ τ o) (okV (some (.int (nI (wor σ k h)))) ad (Wz z ad σ τ o)) exNo := by
  refine ko_of hl (by decide +kernel) (Nat.le_of_ble_eq_true rfl) (fun g hg K => ?_)
  subst hg
  obtain ⟨a1, a2, a3, a4, a5, a6⟩ := I.house hk
  have q8 := a2.2.1
  have a7 := a4 h
  show WW g z 2 0 0 ad (Wz z ad σ τ o) 0 [(0, .ref (ad 11 k)), (1, .int (nI h))] []
  refine r_aload_n K dX1_worthAt_0 0 rfl rfl ?_
  refine r_get (v := .int (nI (σ 9 k 2))) K fd_X1_19 (W_11 (by first | exact hb | exact hk | exact hj | exact hw | omega | assumption)) rfl rfl dX1_worthAt_1 ?_
  refine r_aload_n K dX1_worthAt_4 0 rfl rfl ?_
  refine r_get (v := .ref (ad 12 (σ 9 k 0))) K fd_X1_9 (W_11 (by first | exact hb | exact hk | exact hj | exact hw | omega | assumption)) rfl rfl dX1_worthAt_5 ?_
  refine r_aload_n K dX1_worthAt_8 0 rfl rfl ?_
  refine r_get (v := .int (nI (σ 9 k 1))) K fd_X1_15 (W_11 (by first | exact hb | exact hk | exact hj | exact hw | omega | assumption)) rfl rfl dX1_worthAt_9 ?_
  refine r_aload_n K dX1_worthAt_12 0 rfl rfl ?_
  refine r_get (v := .ref (ad 12 (σ 9 k 0))) K fd_X1_9 (W_11 (by first | exact hb | exact hk | exact hj | exact hw | omega | assumption)) rfl rfl dX1_worthAt_13 ?_
  refine r_get (v := .ref (ad 17 (σ 9 k 0))) K fd_X1_29 (W_12 (by first | exact hb | exact hk | exact hj | exact hw | omega | assumption)) rfl rfl dX1_worthAt_16 ?_
  refine r_iload_n K dX1_worthAt_19 1 rfl rfl ?_
  refine r_iald (j := h) (v := nI (σ 7 (σ 9 k 0) h)) K (W_17 (by first | exact hb | exact hk | exact hj | exact hw | omega | assumption)) rfl rfl (by omega) (by decide) rfl dX1_worthAt_20 ?_
  refine r_callV (st := [.int (nI (σ 9 k 2))]) K (k_X3_depthOf (c := σ 9 k 1) (v := σ 7 (σ 9 k 0) h) hl (by first | exact hb | exact hk | exact hj | exact hw | omega | assumption) a2 (by omega) (by omega)) cw_X1_39 wd_779 wd_780 (by decide) (by decide) (W_12 (by first | exact hb | exact hk | exact hj | exact hw | omega | assumption)) rfl rfl rfl (Nat.le_of_ble_eq_true rfl) (by decide) (by decide) dX1_worthAt_21 ?_
  rintro _ _ _ ⟨rfl, rfl, rfl⟩
  show WW g z 2 0 0 ad (Wz z ad σ τ o) 24 [(0, .ref (ad 11 k)), (1, .int (nI h))] [.int (nI (dpt (σ 2 (σ 9 k 0)) (σ 1 (σ 9 k 0) 6) (σ 9 k 1) (σ 7 (σ 9 k 0) h))), .int (nI (σ 9 k 2))]
  refine r_imul (v := nI ((σ 9 k 2) * (dpt (σ 2 (σ 9 k 0)) (σ 1 (σ 9 k 0) 6) (σ 9 k 1) (σ 7 (σ 9 k 0) h)))) K dX1_worthAt_24 (pk_mul _ _) ?_
  exact r_iret K (by decide) (by decide) ⟨congrArg (fun q => some (Value.int (nI q))) (by rfl), rfl, rfl⟩ dX1_worthAt_25
set_option maxRecDepth 100000 in
set_option maxHeartbeats 4000000 in
theorem k_X1_worstHour {z : Zx} {l : Launch} {σ τ : Sg} {o : Int64 × UInt64} {ad : Nm} (hl : l.stackTraces = false) {k c : Nat} (I : InvB σ) (hk : k < σ 0 2 0) (hc : c ≤ 60) : Ko z l yX1_worstHour cX1_worstHour 6 (some .int) 4 0 0 [.ref (ad 11 k), .int (nI c)] ad (Wz z ad σ τ o) (okV (some (.int (nI (wsh σ k c)))) ad (Wz z ad σ τ o)) exNo := by
  refine ko_of hl (by decide +kernel) (Nat.le_of_ble_eq_true rfl) (fun g hg K => ?_)
  subst hg
  have q8 := hk
  show WW g z 6 0 0 ad (Wz z ad σ τ o) 0 [(0, .ref (ad 11 k)), (1, .int (nI c))] []
  refine r_iconst (v := nI 0) K dX1_worstHour_0 (by decide) ?_
  refine r_istore_n (lv' := [(2, .int (nI 0)), (0, .ref (ad 11 k)), (1, .int (nI c))]) K dX1_worstHour_1 rfl (by decide) rfl ?_
  refine r_iconst (v := nI 0) K dX1_worstHour_2 (by decide) ?_
  refine r_istore_n (lv' := [(3, .int (nI 0)), (2, .int (nI 0)), (0, .ref (ad 11 k)), (1, .int (nI c))]) K dX1_worstHour_3 rfl (by decide) rfl ?_
  refine r_iconst (v := nI 1) K dX1_worstHour_4 (by decide) ?_
  refine r_istore (lv' := [(4, .int (nI 1)), (3, .int (nI 0)), (2, .int (nI 0)), (0, .ref (ad 11 k)), (1, .int (nI c))]) K dX1_worstHour_5 (by decide) rfl ?_
  have lp : ∀ (fuel : Nat) (i : Nat), c - i < fuel → i ≤ c → WW g z 6 0 0 ad (Wz z ad σ τ o) 7 [(0, .ref (ad 11 k)), (1, .int (nI c)), (2, .int (nI (wsh σ k i))), (3, .int (nI (wgr σ k i))), (4, .int (nI (i + 1)))] [] := by
    intro fuel
    induction fuel with
    | zero => intro i hf h1; exact absurd hf (Nat.not_lt_zero _)
    | succ fuel ih_lp =>
      intro i hf h1
      have g1 := wgr_le I hk i
      have g2 := wou_le I hk (i + 1)
      have g3 := wor_le I hk (i + 1)
      have g4 := (I.2.2.2 k hk).2 (i + 1)
      refine r_iload K dX1_worstHour_7 4 rfl ?_
      refine r_iload_n K dX1_worstHour_9 1 rfl rfl ?_
      refine r_icmp_gt K dX1_worstHour_10 53 (c < i + 1) (nI_ltI (by omega) (by omega)) (by decide) (fun c_10 => ?_) (fun c_10 => ?_)
      · skip
        refine r_iload_n K dX1_worstHour_53 2 rfl rfl ?_
        exact r_iret K (by decide) (by decide) ⟨congrArg (fun q => some (Value.int (nI q))) (by rw [show i = c by omega]), rfl, rfl⟩ dX1_worstHour_54
      · skip
        refine r_aload_n K dX1_worstHour_13 0 rfl rfl ?_
        refine r_get (v := .ref (ad 18 k)) K fd_X1_25 (W_11 (by first | exact hb | exact hk | exact hj | exact hw | omega | assumption)) rfl rfl dX1_worstHour_14 ?_
        refine r_iload K dX1_worstHour_17 4 rfl ?_
        refine r_zald (j := i + 1) (v := nI (σ 10 k (i + 1))) K (W_18 (by first | exact hb | exact hk | exact hj | exact hw | omega | assumption)) rfl rfl (by omega) (by decide) rfl dX1_worstHour_19 ?_
        refine r_if_eq K dX1_worstHour_20 27 (σ 10 k (i + 1) = 0) (n0_eq (by omega)) (by decide) (fun c_20 => ?_) (fun c_20 => ?_)
        · skip
          refine r_aload_n K dX1_worstHour_27 0 rfl rfl ?_
          refine r_iload K dX1_worstHour_28 4 rfl ?_
          refine r_callV (st := []) K (k_X1_worthAt (k := k) (h := i + 1) hl I (by omega) (by omega)) cw_X1_43 wd_894 wd_895 (by decide) (by decide) (W_11 (by first | exact hb | exact hk | exact hj | exact hw | omega | assumption)) rfl rfl rfl (Nat.le_of_ble_eq_true rfl) (by decide) (by decide) dX1_worstHour_30 ?_
          rintro _ _ _ ⟨rfl, rfl, rfl⟩
          show WW g z 6 0 0 ad (Wz z ad σ τ o) 33 [(0, .ref (ad 11 k)), (1, .int (nI c)), (2, .int (nI (wsh σ k i))), (3, .int (nI (wgr σ k i))), (4, .int (nI (i + 1)))] [.int (nI (wor σ k (i + 1)))]
          refine r_eq (st' := [.int (nI (wou σ k (i + 1)))]) rfl rfl rfl (by unfold wou; rw [if_pos (by omega)]) ?_
          refine r_istore (lv' := [(5, .int (nI (wou σ k (i + 1)))), (0, .ref (ad 11 k)), (1, .int (nI c)), (2, .int (nI (wsh σ k i))), (3, .int (nI (wgr σ k i))), (4, .int (nI (i + 1)))]) K dX1_worstHour_33 (by decide) rfl ?_
          refine r_iload K dX1_worstHour_35 0 rfl ?_
          refine r_iload_n K dX1_worstHour_37 4 rfl rfl ?_
          refine r_icmp_le K dX1_worstHour_38 47 (wou σ k (i + 1) ≤ wgr σ k i) (nI_leI (by omega) (by omega)) (by decide) (fun c_38 => ?_) (fun c_38 => ?_)
          · skip
            refine r_eq (lv' := [(5, .int (nI (wou σ k (i + 1)))), (0, .ref (ad 11 k)), (1, .int (nI c)), (2, .int (nI (wsh σ k (i + 1)))), (3, .int (nI (wgr σ k (i + 1)))), (4, .int (nI (i + 1)))]) rfl rfl (by rw [wsh, wgr, if_neg (by omega), if_neg (by omega)]) rfl ?_
            refine r_iinc (v := nI (i + 1 + 1)) (lv' := [(4, .int (nI (i + 1 + 1))), (5, .int (nI (wou σ k (i + 1)))), (0, .ref (ad 11 k)), (1, .int (nI c)), (2, .int (nI (wsh σ k (i + 1)))), (3, .int (nI (wgr σ k (i + 1))))]) K dX1_worstHour_47 5 rfl (ic_1 _) (by decide) rfl ?_
            refine r_goto K dX1_worstHour_50 7 (by decide) ?_
            refine r_lv (lv' := [(0, .ref (ad 11 k)), (1, .int (nI c)), (2, .int (nI (wsh σ k (i + 1)))), (3, .int (nI (wgr σ k (i + 1)))), (4, .int (nI (i + 1 + 1)))]) [2, 3, 4, 5, 0] rfl ?_
            exact ih_lp (i + 1) (by omega) (by omega)
          · skip
            refine r_iload K dX1_worstHour_41 0 rfl ?_
            refine r_istore_n (lv' := [(3, .int (nI (wou σ k (i + 1)))), (5, .int (nI (wou σ k (i + 1)))), (0, .ref (ad 11 k)), (1, .int (nI c)), (2, .int (nI (wsh σ k i))), (4, .int (nI (i + 1)))]) K dX1_worstHour_43 rfl (by decide) rfl ?_
            refine r_iload K dX1_worstHour_44 5 rfl ?_
            refine r_istore_n (lv' := [(2, .int (nI (i + 1))), (3, .int (nI (wou σ k (i + 1)))), (5, .int (nI (wou σ k (i + 1)))), (0, .ref (ad 11 k)), (1, .int (nI c)), (4, .int (nI (i + 1)))]) K dX1_worstHour_46 rfl (by decide) rfl ?_
            refine r_eq (lv' := [(2, .int (nI (wsh σ k (i + 1)))), (3, .int (nI (wgr σ k (i + 1)))), (5, .int (nI (wou σ k (i + 1)))), (0, .ref (ad 11 k)), (1, .int (nI c)), (4, .int (nI (i + 1)))]) rfl rfl (by rw [wsh, wgr, if_pos (by omega), if_pos (by omega)]) rfl ?_
            refine r_iinc (v := nI (i + 1 + 1)) (lv' := [(4, .int (nI (i + 1 + 1))), (2, .int (nI (wsh σ k (i + 1)))), (3, .int (nI (wgr σ k (i + 1)))), (5, .int (nI (wou σ k (i + 1)))), (0, .ref (ad 11 k)), (1, .int (nI c))]) K dX1_worstHour_47 5 rfl (ic_1 _) (by decide) rfl ?_
            refine r_goto K dX1_worstHour_50 7 (by decide) ?_
            refine r_lv (lv' := [(0, .ref (ad 11 k)), (1, .int (nI c)), (2, .int (nI (wsh σ k (i + 1)))), (3, .int (nI (wgr σ k (i + 1)))), (4, .int (nI (i + 1 + 1)))]) [4, 5, 1, 2, 0] rfl ?_
            exact ih_lp (i + 1) (by omega) (by omega)
        · skip
          refine r_iconst (v := nI 0) K dX1_worstHour_23 (by decide) ?_
          refine r_goto K dX1_worstHour_24 33 (by decide) ?_
          refine r_eq (st' := [.int (nI (wou σ k (i + 1)))]) rfl rfl rfl (by unfold wou; rw [if_neg (by omega)]) ?_
          refine r_istore (lv' := [(5, .int (nI (wou σ k (i + 1)))), (0, .ref (ad 11 k)), (1, .int (nI c)), (2, .int (nI (wsh σ k i))), (3, .int (nI (wgr σ k i))), (4, .int (nI (i + 1)))]) K dX1_worstHour_33 (by decide) rfl ?_
          refine r_iload K dX1_worstHour_35 0 rfl ?_
          refine r_iload_n K dX1_worstHour_37 4 rfl rfl ?_
          refine r_icmp_le K dX1_worstHour_38 47 (wou σ k (i + 1) ≤ wgr σ k i) (nI_leI (by omega) (by omega)) (by decide) (fun c_38 => ?_) (fun c_38 => ?_)
          · skip
            refine r_eq (lv' := [(5, .int (nI (wou σ k (i + 1)))), (0, .ref (ad 11 k)), (1, .int (nI c)), (2, .int (nI (wsh σ k (i + 1)))), (3, .int (nI (wgr σ k (i + 1)))), (4, .int (nI (i + 1)))]) rfl rfl (by rw [wsh, wgr, if_neg (by omega), if_neg (by omega)]) rfl ?_
            refine r_iinc (v := nI (i + 1 + 1)) (lv' := [(4, .int (nI (i + 1 + 1))), (5, .int (nI (wou σ k (i + 1)))), (0, .ref (ad 11 k)), (1, .int (nI c)), (2, .int (nI (wsh σ k (i + 1)))), (3, .int (nI (wgr σ k (i + 1))))]) K dX1_worstHour_47 5 rfl (ic_1 _) (by decide) rfl ?_
            refine r_goto K dX1_worstHour_50 7 (by decide) ?_
            refine r_lv (lv' := [(0, .ref (ad 11 k)), (1, .int (nI c)), (2, .int (nI (wsh σ k (i + 1)))), (3, .int (nI (wgr σ k (i + 1)))), (4, .int (nI (i + 1 + 1)))]) [2, 3, 4, 5, 0] rfl ?_
            exact ih_lp (i + 1) (by omega) (by omega)
          · skip
            refine r_iload K dX1_worstHour_41 0 rfl ?_
            refine r_istore_n (lv' := [(3, .int (nI (wou σ k (i + 1)))), (5, .int (nI (wou σ k (i + 1)))), (0, .ref (ad 11 k)), (1, .int (nI c)), (2, .int (nI (wsh σ k i))), (4, .int (nI (i + 1)))]) K dX1_worstHour_43 rfl (by decide) rfl ?_
            refine r_iload K dX1_worstHour_44 5 rfl ?_
            refine r_istore_n (lv' := [(2, .int (nI (i + 1))), (3, .int (nI (wou σ k (i + 1)))), (5, .int (nI (wou σ k (i + 1)))), (0, .ref (ad 11 k)), (1, .int (nI c)), (4, .int (nI (i + 1)))]) K dX1_worstHour_46 rfl (by decide) rfl ?_
            refine r_eq (lv' := [(2, .int (nI (wsh σ k (i + 1)))), (3, .int (nI (wgr σ k (i + 1)))), (5, .int (nI (wou σ k (i + 1)))), (0, .ref (ad 11 k)), (1, .int (nI c)), (4, .int (nI (i + 1)))]) rfl rfl (by rw [wsh, wgr, if_pos (by omega), if_pos (by omega)]) rfl ?_
            refine r_iinc (v := nI (i + 1 + 1)) (lv' := [(4, .int (nI (i + 1 + 1))), (2, .int (nI (wsh σ k (i + 1)))), (3, .int (nI (wgr σ k (i + 1)))), (5, .int (nI (wou σ k (i + 1)))), (0, .ref (ad 11 k)), (1, .int (nI c))]) K dX1_worstHour_47 5 rfl (ic_1 _) (by decide) rfl ?_
            refine r_goto K dX1_worstHour_50 7 (by decide) ?_
            refine r_lv (lv' := [(0, .ref (ad 11 k)), (1, .int (nI c)), (2, .int (nI (wsh σ k (i + 1)))), (3, .int (nI (wgr σ k (i + 1)))), (4, .int (nI (i + 1 + 1)))]) [4, 5, 1, 2, 0] rfl ?_
            exact ih_lp (i + 1) (by omega) (by omega)
  refine r_lv (lv' := [(0, .ref (ad 11 k)), (1, .int (nI c)), (2, .int (nI 0)), (3, .int (nI 0)), (4, .int (nI 1))]) [3, 4, 2, 1, 0] rfl ?_
  exact lp (c - (0) + 1) 0 (by omega) (by omega)
set_option maxRecDepth 100000 in
set_option maxHeartbeats 4000000 in
theorem k_X1_pay {z : Zx} {l : Launch} {σ τ : Sg} {o : Int64 × UInt64} {ad : Nm} (hl : l.stackTraces = false) {k h : Nat} (I : InvB σ) (hk : k < σ 0 2 0) (hh : h ≤ 60) : Ko z l yX1_pay cX1_pay 3 (some .int) 4 0 0 [.ref (ad 11 k), .int (nI h)] ad (Wz z ad σ τ o) (okV (some (.int (nI (pmt σ k h)))) ad (Wz z ad (payC σ k h) τ o)) exNo := by
  refine ko_of hl (by decide +kernel) (Nat.le_of_ble_eq_true rfl) (fun g hg K => ?_)
  subst hg
  have g3 := wor_le I hk h
  have g4 := (I.2.2.2 k hk).1.2.2.2
  show WW g z 3 0 0 ad (Wz z ad σ τ o) 0 [(0, .ref (ad 11 k)), (1, .int (nI h))] []
  refine r_aload_n K dX1_pay_0 0 rfl rfl ?_
  refine r_iload_n K dX1_pay_1 1 rfl rfl ?_
  refine r_callV (st := []) K (k_X1_worthAt (k := k) (h := h) hl I (by omega) (by omega)) cw_X1_43 wd_894 wd_895 (by decide) (by decide) (W_11 (by first | exact hb | exact hk | exact hj | exact hw | omega | assumption)) rfl rfl rfl (Nat.le_of_ble_eq_true rfl) (by decide) (by decide) dX1_pay_2 ?_
  rintro _ _ _ ⟨rfl, rfl, rfl⟩
  show WW g z 3 0 0 ad (Wz z ad σ τ o) 5 [(0, .ref (ad 11 k)), (1, .int (nI h))] [.int (nI (wor σ k h))]
  refine r_aload_n K dX1_pay_5 0 rfl rfl ?_
  refine r_get (v := .int (nI (σ 9 k 3))) K fd_X1_22 (W_11 (by first | exact hb | exact hk | exact hj | exact hw | omega | assumption)) rfl rfl dX1_pay_6 ?_
  refine r_aload_n K dX1_pay_9 0 rfl rfl ?_
  refine r_get (v := .int (nI (σ 9 k 4))) K fd_X1_47 (W_11 (by first | exact hb | exact hk | exact hj | exact hw | omega | assumption)) rfl rfl dX1_pay_10 ?_
  refine r_isub (v := nI ((σ 9 k 3) - (σ 9 k 4))) K dX1_pay_13 (pk_sub (by omega)) ?_
  refine r_mmin (v := nI (min (wor σ k h) ((σ 9 k 3) - (σ 9 k 4)))) K wd_928 wd_298 wd_68 wd_299 (Nat.le_of_ble_eq_true rfl) (mminN (by omega) (by omega)) (by decide) (by decide) dX1_pay_14 ?_
  refine r_istore_n (lv' := [(2, .int (nI (min (wor σ k h) ((σ 9 k 3) - (σ 9 k 4))))), (0, .ref (ad 11 k)), (1, .int (nI h))]) K dX1_pay_17 rfl (by decide) rfl ?_
  refine r_aload_n K dX1_pay_18 1 rfl rfl ?_
  refine r_get (v := .ref (ad 18 k)) K fd_X1_25 (W_11 (by first | exact hb | exact hk | exact hj | exact hw | omega | assumption)) rfl rfl dX1_pay_19 ?_
  refine r_iload_n K dX1_pay_22 2 rfl rfl ?_
  refine r_iconst (v := nI 1) K dX1_pay_23 (by decide) ?_
  refine r_zast (j := h) K (W_18 (by first | exact hb | exact hk | exact hj | exact hw | omega | assumption)) rfl rfl (by omega) (by decide) (congrArg (upd _ _) (zn (by omega))) dX1_pay_24 ?_
  refine r_mu (u_18 (by first | exact hb | exact hk | exact hj | exact hw | omega | assumption)) ?_
  show WW g z 3 0 0 ad (Wz z ad (su σ 10 k h 1) τ o) 25 [(2, .int (nI (min (wor σ k h) ((σ 9 k 3) - (σ 9 k 4))))), (0, .ref (ad 11 k)), (1, .int (nI h))] []
  refine r_aload_n K dX1_pay_25 1 rfl rfl ?_
  refine r_dup K dX1_pay_26 rfl ?_
  refine r_get (v := .int (nI (σ 32 k 0))) K fd_X1_55 (W_11 (by first | exact hb | exact hk | exact hj | exact hw | omega | assumption)) rfl rfl dX1_pay_27 ?_
  refine r_iconst (v := nI 1) K dX1_pay_30 (by decide) ?_
  refine r_iadd (v := nI ((σ 32 k 0) + 1)) K dX1_pay_31 (nI_add _ _) ?_
  refine r_put K fd_X1_55 (W_11 (by first | exact hb | exact hk | exact hj | exact hw | omega | assumption)) rfl rfl rfl (Nat.le_of_ble_eq_true rfl) rfl dX1_pay_32 ?_
  refine r_mu (u_11_5 (by first | exact hb | exact hk | exact hj | exact hw | omega | assumption)) ?_
  show WW g z 3 0 0 ad (Wz z ad (su (su σ 10 k h 1) 32 k 0 ((σ 32 k 0) + 1)) τ o) 35 [(2, .int (nI (min (wor σ k h) ((σ 9 k 3) - (σ 9 k 4))))), (0, .ref (ad 11 k)), (1, .int (nI h))] []
  refine r_aload_n K dX1_pay_35 1 rfl rfl ?_
  refine r_dup K dX1_pay_36 rfl ?_
  refine r_get (v := .int (nI (σ 9 k 4))) K fd_X1_47 (W_11 (by first | exact hb | exact hk | exact hj | exact hw | omega | assumption)) rfl rfl dX1_pay_37 ?_
  refine r_iload_n K dX1_pay_40 0 rfl rfl ?_
  refine r_iadd (v := nI ((σ 9 k 4) + (min (wor σ k h) ((σ 9 k 3) - (σ 9 k 4))))) K dX1_pay_41 (nI_add _ _) ?_
  refine r_put K fd_X1_47 (W_11 (by first | exact hb | exact hk | exact hj | exact hw | omega | assumption)) rfl rfl rfl (Nat.le_of_ble_eq_true rfl) rfl dX1_pay_42 ?_
  refine r_mu (u_11_6 (by first | exact hb | exact hk | exact hj | exact hw | omega | assumption)) ?_
  show WW g z 3 0 0 ad (Wz z ad (su (su (su σ 10 k h 1) 32 k 0 ((σ 32 k 0) + 1)) 9 k 4 ((σ 9 k 4) + (min (wor σ k h) ((σ 9 k 3) - (σ 9 k 4))))) τ o) 45 [(2, .int (nI (min (wor σ k h) ((σ 9 k 3) - (σ 9 k 4))))), (0, .ref (ad 11 k)), (1, .int (nI h))] []
  refine r_iload_n K dX1_pay_45 0 rfl rfl ?_
  exact r_iret K (by decide) (by decide) ⟨rfl, rfl, rfl⟩ dX1_pay_46
