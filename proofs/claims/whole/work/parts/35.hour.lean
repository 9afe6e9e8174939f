set_option maxRecDepth 100000 in
set_option maxHeartbeats 4000000 in
theorem k_X5_passOneHour {z : Zx} {l : Launch} {σ τ : Sg} {o : Int64 × UInt64} {ad : Nm} (hl : l.stackTraces = false) (I : InvB σ) (L : InvL σ) (D : InvD σ) (hc : σ 12 0 0 < 60) (hV : ∀ b, σ 3 b 0 ≤ 2000) (hS : ∀ b, σ 4 b 0 ≤ 4000 * σ 12 0 0) : Ko z l yX5_passOneHour cX5_passOneHour 4 none 7 0 0 [.ref (ad 0 0)] ad (Wz z ad σ τ o) (okV none ad (Wz z ad (hour σ) τ o)) exNo := by
  refine ko_of hl (by decide +kernel) (Nat.le_of_ble_eq_true rfl) (fun g hg K => ?_)
  subst hg
  have q0 := I.1.1
  show WW g z 4 0 0 ad (Wz z ad σ τ o) 0 [(0, .ref (ad 0 0))] []
  refine r_aload_n K dX5_passOneHour_0 0 rfl rfl ?_
  refine r_get (v := .int (nI (σ 12 0 0))) K fd_X5_151 rfl rfl rfl dX5_passOneHour_1 ?_
  refine r_iconst (v := nI 1) K dX5_passOneHour_4 (by decide) ?_
  refine r_iadd (v := nI ((σ 12 0 0) + 1)) K dX5_passOneHour_5 (nI_add _ _) ?_
  refine r_istore_n (lv' := [(1, .int (nI ((σ 12 0 0) + 1))), (0, .ref (ad 0 0))]) K dX5_passOneHour_6 rfl (by decide) rfl ?_
  refine r_iconst (v := nI 0) K dX5_passOneHour_7 (by decide) ?_
  refine r_istore_n (lv' := [(2, .int (nI 0)), (1, .int (nI ((σ 12 0 0) + 1))), (0, .ref (ad 0 0))]) K dX5_passOneHour_8 rfl (by decide) rfl ?_
  refine r_mu (μ' := Wz z ad (ra σ 0) τ o) (by rw [ra_0]) ?_
  have l1 : ∀ (fuel : Nat) (i : Nat), σ 0 0 0 - i < fuel → i ≤ σ 0 0 0 → WW g z 4 0 0 ad (Wz z ad (ra σ i) τ o) 9 [(0, .ref (ad 0 0)), (1, .int (nI (σ 12 0 0 + 1))), (2, .int (nI i))] [] := by
    intro fuel
    induction fuel with
    | zero => intro i hf h1; exact absurd hf (Nat.not_lt_zero _)
    | succ fuel ih_l1 =>
      intro i hf h1
      refine r_iload_n K dX5_passOneHour_9 2 rfl rfl ?_
      refine r_aload_n K dX5_passOneHour_10 0 rfl rfl ?_
      refine r_get (v := .ref (ad 1 0)) K fd_X5_10 rfl rfl rfl dX5_passOneHour_11 ?_
      refine r_callV (st := [.int (nI i)]) K (k_Jx4a65c_size_8abf5 (l0 := 0) hl (by decide)) cw_X5_39 wd_206 wd_207 (by decide) (by decide) (W_1 (by first | exact hb | exact hk | exact hj | exact hw | omega | assumption)) rfl rfl rfl (Nat.le_of_ble_eq_true rfl) (by decide) (by decide) dX5_passOneHour_14 ?_
      rintro _ _ _ ⟨rfl, rfl, rfl⟩
      show WW g z 4 0 0 ad (Wz z ad (ra σ i) τ o) 17 [(0, .ref (ad 0 0)), (1, .int (nI (σ 12 0 0 + 1))), (2, .int (nI i))] [.int (nI (σ 0 0 0)), .int (nI i)]
      refine r_icmp_ge K dX5_passOneHour_17 61 (σ 0 0 0 ≤ i) (nI_leI (by omega) (by omega)) (by decide) (fun c_17 => ?_) (fun c_17 => ?_)
      · skip
        refine r_mu (μ' := Wz z ad (ra σ (σ 0 0 0)) τ o) (by rw [show i = σ 0 0 0 by omega]) ?_
        show WW g z 4 0 0 ad (Wz z ad (ra σ (σ 0 0 0)) τ o) 61 [(0, .ref (ad 0 0)), (1, .int (nI (σ 12 0 0 + 1))), (2, .int (nI i))] []
        refine r_aload_n K dX5_passOneHour_61 0 rfl rfl ?_
        refine r_aload_n K dX5_passOneHour_62 0 rfl rfl ?_
        refine r_get (v := .ref (ad 3 0)) K fd_X5_25 rfl rfl rfl dX5_passOneHour_63 ?_
        refine r_iload_n K dX5_passOneHour_66 1 rfl rfl ?_
        refine r_iconst (v := bw 0) K dX5_passOneHour_67 (by decide) ?_
        refine r_iconst (v := nI 0) K dX5_passOneHour_68 (by decide) ?_
        refine r_callV (st := []) K (k_X5_moveWater (σ := ra σ (σ 0 0 0)) (w := 0) (h := σ 12 0 0 + 1) (fx := 0) (fo := 0) hl (by decide) (I.rain (Nat.le_refl _)) L (by omega) (by decide) (by decide) hV (fun b => Nat.le_trans (hS b) (by omega))) cw_X5_319 wd_281 wd_1 (by decide) (by decide) rfl rfl rfl rfl (Nat.le_of_ble_eq_true rfl) (by decide) (by decide) dX5_passOneHour_69 ?_
        rintro _ _ _ ⟨rfl, rfl, rfl⟩
        show WW g z 4 0 0 ad (Wz z ad (mv (ra σ (σ 0 0 0)) 0 0 0 (σ 12 0 0 + 1)) τ o) 72 [(0, .ref (ad 0 0)), (1, .int (nI (σ 12 0 0 + 1))), (2, .int (nI i))] []
        refine r_iconst (v := nI 0) K dX5_passOneHour_72 (by decide) ?_
        refine r_istore_n (lv' := [(2, .int (nI 0)), (0, .ref (ad 0 0)), (1, .int (nI (σ 12 0 0 + 1)))]) K dX5_passOneHour_73 rfl (by decide) rfl ?_
        refine r_mu (μ' := Wz z ad (vo (mv (ra σ (σ 0 0 0)) 0 0 0 (σ 12 0 0 + 1)) 0) τ o) (by rw [vo_0]) ?_
        have l2 : ∀ (fuel : Nat) (i : Nat), σ 0 0 0 - i < fuel → i ≤ σ 0 0 0 → WW g z 4 0 0 ad (Wz z ad (vo (mv (ra σ (σ 0 0 0)) 0 0 0 (σ 12 0 0 + 1)) i) τ o) 74 [(0, .ref (ad 0 0)), (1, .int (nI (σ 12 0 0 + 1))), (2, .int (nI i))] [] := by
          intro fuel
          induction fuel with
          | zero => intro i hf h1; exact absurd hf (Nat.not_lt_zero _)
          | succ fuel ih_l2 =>
            intro i hf h1
            refine r_iload_n K dX5_passOneHour_74 2 rfl rfl ?_
            refine r_aload_n K dX5_passOneHour_75 0 rfl rfl ?_
            refine r_get (v := .ref (ad 1 0)) K fd_X5_10 rfl rfl rfl dX5_passOneHour_76 ?_
            refine r_callV (st := [.int (nI i)]) K (k_Jx4a65c_size_8abf5 (l0 := 0) hl (by decide)) cw_X5_39 wd_206 wd_207 (by decide) (by decide) (W_1 (by first | exact hb | exact hk | exact hj | exact hw | omega | assumption)) rfl rfl rfl (Nat.le_of_ble_eq_true rfl) (by decide) (by decide) dX5_passOneHour_79 ?_
            rintro _ _ _ ⟨rfl, rfl, rfl⟩
            show WW g z 4 0 0 ad (Wz z ad (vo (mv (ra σ (σ 0 0 0)) 0 0 0 (σ 12 0 0 + 1)) i) τ o) 82 [(0, .ref (ad 0 0)), (1, .int (nI (σ 12 0 0 + 1))), (2, .int (nI i))] [.int (nI (σ 0 0 0)), .int (nI i)]
            refine r_icmp_ge K dX5_passOneHour_82 119 (σ 0 0 0 ≤ i) (nI_leI (by omega) (by omega)) (by decide) (fun c_82 => ?_) (fun c_82 => ?_)
            · skip
              refine r_mu (μ' := Wz z ad (vo (mv (ra σ (σ 0 0 0)) 0 0 0 (σ 12 0 0 + 1)) (σ 0 0 0)) τ o) (by rw [show i = σ 0 0 0 by omega]) ?_
              show WW g z 4 0 0 ad (Wz z ad (vo (mv (ra σ (σ 0 0 0)) 0 0 0 (σ 12 0 0 + 1)) (σ 0 0 0)) τ o) 119 [(0, .ref (ad 0 0)), (1, .int (nI (σ 12 0 0 + 1))), (2, .int (nI i))] []
              refine r_aload_n K dX5_passOneHour_119 0 rfl rfl ?_
              refine r_dup K dX5_passOneHour_120 rfl ?_
              refine r_get (v := .int (nI (σ 31 0 0))) K fd_X5_203 rfl rfl rfl dX5_passOneHour_121 ?_
              refine r_aload_n K dX5_passOneHour_124 0 rfl rfl ?_
              refine r_aload_n K dX5_passOneHour_125 0 rfl rfl ?_
              refine r_get (v := .ref (ad 3 0)) K fd_X5_25 rfl rfl rfl dX5_passOneHour_126 ?_
              refine r_callV (st := [.int (nI (σ 31 0 0)), .ref (ad 0 0)]) K (k_X5_wetCellsBy (σ := hourW σ) (w := 0) (S := fun b => hourW σ 4 b 0) hl (by decide) (I.hrW hV hS hc) L D rfl (fun b => by have := mvS_le (fx := 0) (fo := 0) (h := σ 12 0 0 + 1) (S := fun i => σ 4 i 0) (I.rain (Nat.le_refl (σ 0 0 0))) (Nat.zero_le 10) hV b; have h5 : (fun i => σ 4 i 0) b = σ 4 b 0 := rfl; have := hS b; show mvS (ra σ (σ 0 0 0)) 0 0 (σ 12 0 0 + 1) (fun i => σ 3 i 0) (fun i => σ 4 i 0) b ≤ _; omega)) cw_X5_323 wd_315 wd_5 (by decide) (by decide) rfl rfl rfl rfl (Nat.le_of_ble_eq_true rfl) (by decide) (by decide) dX5_passOneHour_129 ?_
              rintro _ _ _ ⟨rfl, rfl, rfl⟩
              show WW g z 4 0 0 ad (Wz z ad (vo (mv (ra σ (σ 0 0 0)) 0 0 0 (σ 12 0 0 + 1)) (σ 0 0 0)) τ o) 132 [(0, .ref (ad 0 0)), (1, .int (nI (σ 12 0 0 + 1))), (2, .int (nI i))] [.int (nI (wsm (σ 2) (σ 1) (fun b => hourW σ 4 b 0) (σ 0 0 0))), .int (nI (σ 31 0 0)), .ref (ad 0 0)]
              refine r_iadd (v := nI ((σ 31 0 0) + (wsm (σ 2) (σ 1) (fun b => hourW σ 4 b 0) (σ 0 0 0)))) K dX5_passOneHour_132 (nI_add _ _) ?_
              refine r_put K fd_X5_203 rfl rfl rfl rfl (Nat.le_of_ble_eq_true rfl) rfl dX5_passOneHour_133 ?_
              refine r_mu (u_0_8) ?_
              show WW g z 4 0 0 ad (Wz z ad (su (vo (mv (ra σ (σ 0 0 0)) 0 0 0 (σ 12 0 0 + 1)) (σ 0 0 0)) 31 0 0 ((σ 31 0 0) + (wsm (σ 2) (σ 1) (fun b => hourW σ 4 b 0) (σ 0 0 0)))) τ o) 136 [(0, .ref (ad 0 0)), (1, .int (nI (σ 12 0 0 + 1))), (2, .int (nI i))] []
              refine r_aload_n K dX5_passOneHour_136 0 rfl rfl ?_
              refine r_iload_n K dX5_passOneHour_137 1 rfl rfl ?_
              refine r_put K fd_X5_151 rfl rfl rfl rfl (Nat.le_of_ble_eq_true rfl) rfl dX5_passOneHour_138 ?_
              refine r_mu (u_0_6) ?_
              show WW g z 4 0 0 ad (Wz z ad (su (su (vo (mv (ra σ (σ 0 0 0)) 0 0 0 (σ 12 0 0 + 1)) (σ 0 0 0)) 31 0 0 ((σ 31 0 0) + (wsm (σ 2) (σ 1) (fun b => hourW σ 4 b 0) (σ 0 0 0)))) 12 0 0 (σ 12 0 0 + 1)) τ o) 141 [(0, .ref (ad 0 0)), (1, .int (nI (σ 12 0 0 + 1))), (2, .int (nI i))] []
              exact r_vret K (by decide) (by decide) ⟨rfl, rfl, rfl⟩ dX5_passOneHour_141
            · skip
              have hi : i < σ 0 0 0 := by omega
              refine r_aload_n K dX5_passOneHour_85 0 rfl rfl ?_
              refine r_get (v := .ref (ad 1 0)) K fd_X5_10 rfl rfl rfl dX5_passOneHour_86 ?_
              refine r_iload_n K dX5_passOneHour_89 2 rfl rfl ?_
              refine r_callV (st := []) K (k_Jx4a65c_get_915e3 (l0 := 0) (i := i) hl (by decide) L (by first | exact hb | exact hk | exact hj | exact hw | omega | assumption)) cw_X5_127 wd_250 wd_251 (by decide) (by decide) (W_1 (by first | exact hb | exact hk | exact hj | exact hw | omega | assumption)) rfl rfl rfl (Nat.le_of_ble_eq_true rfl) (by decide) (by decide) dX5_passOneHour_90 ?_
              rintro _ _ _ ⟨rfl, rfl, rfl⟩
              show WW g z 4 0 0 ad (Wz z ad (vo (mv (ra σ (σ 0 0 0)) 0 0 0 (σ 12 0 0 + 1)) i) τ o) 93 [(0, .ref (ad 0 0)), (1, .int (nI (σ 12 0 0 + 1))), (2, .int (nI i))] [.ref (ad 9 i)]
              refine r_castS K wd_283 rfl (W_9 (by first | exact hb | exact hk | exact hj | exact hw | omega | assumption)) rfl dX5_passOneHour_93 ?_
              refine r_get (v := .ref (ad 12 i)) K fd_X5_84 (W_9 (by first | exact hb | exact hk | exact hj | exact hw | omega | assumption)) rfl rfl dX5_passOneHour_96 ?_
              refine r_get (v := .ref (ad 17 i)) K fd_X5_192 (W_12 (by first | exact hb | exact hk | exact hj | exact hw | omega | assumption)) rfl rfl dX5_passOneHour_99 ?_
              refine r_iload_n K dX5_passOneHour_102 1 rfl rfl ?_
              refine r_aload_n K dX5_passOneHour_103 0 rfl rfl ?_
              refine r_get (v := .ref (ad 3 0)) K fd_X5_25 rfl rfl rfl dX5_passOneHour_104 ?_
              refine r_get (v := .ref (ad 5 0)) K fd_X5_166 (W_3 (by first | exact hb | exact hk | exact hj | exact hw | omega | assumption)) rfl rfl dX5_passOneHour_107 ?_
              refine r_iload_n K dX5_passOneHour_110 2 rfl rfl ?_
              refine r_iald (j := i) (v := nI ((mv (ra σ (σ 0 0 0)) 0 0 0 (σ 12 0 0 + 1)) 4 i 0)) K (W_5 (by first | exact hb | exact hk | exact hj | exact hw | omega | assumption)) rfl rfl (by omega) (by decide) rfl dX5_passOneHour_111 ?_
              refine r_iast (j := σ 12 0 0 + 1) K (W_17 (by first | exact hb | exact hk | exact hj | exact hw | omega | assumption)) rfl rfl (by omega) (by decide) rfl dX5_passOneHour_112 ?_
              refine r_mu (u_17 (by first | exact hb | exact hk | exact hj | exact hw | omega | assumption)) ?_
              show WW g z 4 0 0 ad (Wz z ad (su (vo (mv (ra σ (σ 0 0 0)) 0 0 0 (σ 12 0 0 + 1)) i) 7 i (σ 12 0 0 + 1) ((mv (ra σ (σ 0 0 0)) 0 0 0 (σ 12 0 0 + 1)) 4 i 0)) τ o) 113 [(0, .ref (ad 0 0)), (1, .int (nI (σ 12 0 0 + 1))), (2, .int (nI i))] []
              have e : su (vo (mv (ra σ (σ 0 0 0)) 0 0 0 (σ 12 0 0 + 1)) i) 7 i (σ 12 0 0 + 1) ((mv (ra σ (σ 0 0 0)) 0 0 0 (σ 12 0 0 + 1)) 4 i 0) = vo (mv (ra σ (σ 0 0 0)) 0 0 0 (σ 12 0 0 + 1)) (i + 1) := vo_1
              rw [e]
              show WW g z 4 0 0 ad (Wz z ad (vo (mv (ra σ (σ 0 0 0)) 0 0 0 (σ 12 0 0 + 1)) (i + 1)) τ o) 113 [(0, .ref (ad 0 0)), (1, .int (nI (σ 12 0 0 + 1))), (2, .int (nI i))] []
              refine r_iinc (v := nI (i + 1)) (lv' := [(2, .int (nI (i + 1))), (0, .ref (ad 0 0)), (1, .int (nI (σ 12 0 0 + 1)))]) K dX5_passOneHour_113 2 rfl (ic_1 _) (by decide) rfl ?_
              refine r_goto K dX5_passOneHour_116 74 (by decide) ?_
              refine r_lv (lv' := [(0, .ref (ad 0 0)), (1, .int (nI (σ 12 0 0 + 1))), (2, .int (nI (i + 1)))]) [1, 2, 0] rfl ?_
              exact ih_l2 (i + 1) (by omega) (by omega)
        refine r_lv (lv' := [(0, .ref (ad 0 0)), (1, .int (nI (σ 12 0 0 + 1))), (2, .int (nI 0))]) [1, 2, 0] rfl ?_
        exact l2 (σ 0 0 0 - (0) + 1) 0 (by omega) (by omega)
      · skip
        have hi : i < σ 0 0 0 := by omega
        refine r_aload_n K dX5_passOneHour_20 0 rfl rfl ?_
        refine r_get (v := .ref (ad 1 0)) K fd_X5_10 rfl rfl rfl dX5_passOneHour_21 ?_
        refine r_iload_n K dX5_passOneHour_24 2 rfl rfl ?_
        refine r_callV (st := []) K (k_Jx4a65c_get_915e3 (l0 := 0) (i := i) hl (by decide) L (by first | exact hb | exact hk | exact hj | exact hw | omega | assumption)) cw_X5_127 wd_250 wd_251 (by decide) (by decide) (W_1 (by first | exact hb | exact hk | exact hj | exact hw | omega | assumption)) rfl rfl rfl (Nat.le_of_ble_eq_true rfl) (by decide) (by decide) dX5_passOneHour_25 ?_
        rintro _ _ _ ⟨rfl, rfl, rfl⟩
        show WW g z 4 0 0 ad (Wz z ad (ra σ i) τ o) 28 [(0, .ref (ad 0 0)), (1, .int (nI (σ 12 0 0 + 1))), (2, .int (nI i))] [.ref (ad 9 i)]
        refine r_castS K wd_283 rfl (W_9 (by first | exact hb | exact hk | exact hj | exact hw | omega | assumption)) rfl dX5_passOneHour_28 ?_
        refine r_astore_n (lv' := [(3, .ref (ad 9 i)), (0, .ref (ad 0 0)), (1, .int (nI (σ 12 0 0 + 1))), (2, .int (nI i))]) K dX5_passOneHour_31 rfl (by decide) rfl ?_
        refine r_aload_n K dX5_passOneHour_32 0 rfl rfl ?_
        refine r_get (v := .ref (ad 13 i)) K fd_X5_316 (W_9 (by first | exact hb | exact hk | exact hj | exact hw | omega | assumption)) rfl rfl dX5_passOneHour_33 ?_
        refine r_iload_n K dX5_passOneHour_36 2 rfl rfl ?_
        refine r_aload_n K dX5_passOneHour_37 0 rfl rfl ?_
        refine r_get (v := .int (nI (σ 1 i 5))) K fd_X5_140 (W_9 (by first | exact hb | exact hk | exact hj | exact hw | omega | assumption)) rfl rfl dX5_passOneHour_38 ?_
        refine r_iast (j := σ 12 0 0 + 1) K (W_13 (by first | exact hb | exact hk | exact hj | exact hw | omega | assumption)) rfl rfl (by omega) (by decide) rfl dX5_passOneHour_41 ?_
        refine r_mu (u_13 (by first | exact hb | exact hk | exact hj | exact hw | omega | assumption)) ?_
        show WW g z 4 0 0 ad (Wz z ad (su (ra σ i) 5 i (σ 12 0 0 + 1) (σ 1 i 5)) τ o) 42 [(3, .ref (ad 9 i)), (0, .ref (ad 0 0)), (1, .int (nI (σ 12 0 0 + 1))), (2, .int (nI i))] []
        refine r_aload_n K dX5_passOneHour_42 1 rfl rfl ?_
        refine r_dup K dX5_passOneHour_43 rfl ?_
        refine r_get (v := .int (nI ((ra σ i) 12 1 0))) K fd_X5_169 rfl rfl rfl dX5_passOneHour_44 ?_
        refine r_aload_n K dX5_passOneHour_47 0 rfl rfl ?_
        refine r_get (v := .int (nI (σ 1 i 5))) K fd_X5_140 (W_9 (by first | exact hb | exact hk | exact hj | exact hw | omega | assumption)) rfl rfl dX5_passOneHour_48 ?_
        show WW g z 4 0 0 ad (Wz z ad (su (ra σ i) 5 i (σ 12 0 0 + 1) (σ 1 i 5)) τ o) 51 [(3, .ref (ad 9 i)), (0, .ref (ad 0 0)), (1, .int (nI (σ 12 0 0 + 1))), (2, .int (nI i))] [.int (nI (σ 1 i 5)), .int (nI (σ 12 1 0 + sumT (fun b => σ 1 b 5) i)), .ref (ad 0 0)]
        refine r_iadd (v := nI ((σ 12 1 0 + sumT (fun b => σ 1 b 5) i) + (σ 1 i 5))) K dX5_passOneHour_51 (nI_add _ _) ?_
        refine r_put K fd_X5_169 rfl rfl rfl rfl (Nat.le_of_ble_eq_true rfl) rfl dX5_passOneHour_52 ?_
        refine r_mu (u_0_7) ?_
        show WW g z 4 0 0 ad (Wz z ad (su (su (ra σ i) 5 i (σ 12 0 0 + 1) (σ 1 i 5)) 12 1 0 ((σ 12 1 0 + sumT (fun b => σ 1 b 5) i) + (σ 1 i 5))) τ o) 55 [(3, .ref (ad 9 i)), (0, .ref (ad 0 0)), (1, .int (nI (σ 12 0 0 + 1))), (2, .int (nI i))] []
        rw [ra_1]
        show WW g z 4 0 0 ad (Wz z ad (ra σ (i + 1)) τ o) 55 [(3, .ref (ad 9 i)), (0, .ref (ad 0 0)), (1, .int (nI (σ 12 0 0 + 1))), (2, .int (nI i))] []
        refine r_iinc (v := nI (i + 1)) (lv' := [(2, .int (nI (i + 1))), (3, .ref (ad 9 i)), (0, .ref (ad 0 0)), (1, .int (nI (σ 12 0 0 + 1)))]) K dX5_passOneHour_55 3 rfl (ic_1 _) (by decide) rfl ?_
        refine r_goto K dX5_passOneHour_58 9 (by decide) ?_
        refine r_lv (lv' := [(0, .ref (ad 0 0)), (1, .int (nI (σ 12 0 0 + 1))), (2, .int (nI (i + 1)))]) [2, 3, 0] rfl ?_
        exact ih_l1 (i + 1) (by omega) (by omega)
  refine r_lv (lv' := [(0, .ref (ad 0 0)), (1, .int (nI ((σ 12 0 0) + 1))), (2, .int (nI 0))]) [2, 1, 0] rfl ?_
  exact l1 (σ 0 0 0 - (0) + 1) 0 (by omega) (by omega)
set_option maxRecDepth 100000 in
set_option maxHeartbeats 4000000 in
theorem k_X5_tryPastRain {z : Zx} {l : Launch} {σ τ : Sg} {o : Int64 × UInt64} {ad : Nm} (hl : l.stackTraces = false) {fx fo : Nat} (I : InvB σ) (L : InvL σ) (D : InvD σ) (hfx : fx ≤ 6) (hfo : fo ≤ 10) (hz : ∀ b, 6 ≤ b → σ 3 b 1 = 0 ∧ σ 4 b 1 = 0) : Ko z l yX5_tryPastRain cX5_tryPastRain 5 (some .int) 7 0 0 [.ref (ad 0 0), .int (bw fx), .int (nI fo)] ad (Wz z ad σ τ o) (fun v' ad' μ' => v' = some (.int (nI (trW σ fx fo (σ 12 0 0)))) ∧ ad = ad' ∧ ∃ (V S : Nat → Nat) (r : Nat) (O : Nat → Nat), μ' = Wz z ad (sw σ 1 V S r O) τ o ∧ ∀ b, 6 ≤ b → V b = 0 ∧ S b = 0) exNo := by
  refine ko_of hl (by decide +kernel) (Nat.le_of_ble_eq_true rfl) (fun g hg K => ?_)
  subst hg
  have q0 := I.1.1
  have q1 := I.1.2.2.2.1
  show WW g z 5 0 0 ad (Wz z ad σ τ o) 0 [(0, .ref (ad 0 0)), (1, .int (bw fx)), (2, .int (nI fo))] []
  refine r_aload_n K dX5_tryPastRain_0 0 rfl rfl ?_
  refine r_get (v := .ref (ad 3 1)) K fd_X5_29 rfl rfl rfl dX5_tryPastRain_1 ?_
  refine r_callV (st := []) K (k_X4_clear (w := 1) hl (by decide)) cw_X5_327 wd_273 wd_274 (by decide) (by decide) (W_3 (by first | exact hb | exact hk | exact hj | exact hw | omega | assumption)) rfl rfl rfl (Nat.le_of_ble_eq_true rfl) (by decide) (by decide) dX5_tryPastRain_4 ?_
  rintro _ _ _ ⟨rfl, rfl, rfl⟩
  show WW g z 5 0 0 ad (Wz z ad (zer σ 1) τ o) 7 [(0, .ref (ad 0 0)), (1, .int (bw fx)), (2, .int (nI fo))] []
  refine r_iconst (v := nI 0) K dX5_tryPastRain_7 (by decide) ?_
  refine r_istore_n (lv' := [(3, .int (nI 0)), (0, .ref (ad 0 0)), (1, .int (bw fx)), (2, .int (nI fo))]) K dX5_tryPastRain_8 rfl (by decide) rfl ?_
  refine r_iconst (v := nI 1) K dX5_tryPastRain_9 (by decide) ?_
  refine r_istore (lv' := [(4, .int (nI 1)), (3, .int (nI 0)), (0, .ref (ad 0 0)), (1, .int (bw fx)), (2, .int (nI fo))]) K dX5_tryPastRain_10 (by decide) rfl ?_
  rw [zer_sw hz]
  show WW g z 5 0 0 ad (Wz z ad (sw σ 1 (fun _ => 0) (fun _ => 0) 0 (fun i => σ 27 i 1)) τ o) 12 [(4, .int (nI 1)), (3, .int (nI 0)), (0, .ref (ad 0 0)), (1, .int (bw fx)), (2, .int (nI fo))] []
  have lp : ∀ (fuel : Nat) (i : Nat) (r : Nat) (O : Nat → Nat), σ 12 0 0 - i < fuel → i ≤ σ 12 0 0 → WW g z 5 0 0 ad (Wz z ad (sw σ 1 (trP σ fx fo i).1 (trP σ fx fo i).2 r O) τ o) 12 [(0, .ref (ad 0 0)), (1, .int (bw fx)), (2, .int (nI fo)), (3, .int (nI (trW σ fx fo i))), (4, .int (nI (i + 1)))] [] := by
    intro fuel
    induction fuel with
    | zero => intro i r O hf h1; exact absurd hf (Nat.not_lt_zero _)
    | succ fuel ih_lp =>
      intro i r O hf h1
      have g1 := trP_le (fx := fx) I hfo i
      have g2 := trP_le (fx := fx) I hfo (i + 1)
      refine r_iload K dX5_tryPastRain_12 4 rfl ?_
      refine r_aload_n K dX5_tryPastRain_14 0 rfl rfl ?_
      refine r_get (v := .int (nI (σ 12 0 0))) K fd_X5_151 rfl rfl rfl dX5_tryPastRain_15 ?_
      refine r_icmp_gt K dX5_tryPastRain_18 50 (σ 12 0 0 < i + 1) (nI_ltI (by omega) (by omega)) (by decide) (fun c_18 => ?_) (fun c_18 => ?_)
      · skip
        refine r_iload_n K dX5_tryPastRain_50 3 rfl rfl ?_
        exact r_iret K (by decide) (by decide) ⟨by rw [show i = σ 12 0 0 by omega], rfl, _, _, _, _, rfl, fun b hb => trP_hi I _ b (by omega)⟩ dX5_tryPastRain_51
      · skip
        refine r_aload_n K dX5_tryPastRain_21 0 rfl rfl ?_
        refine r_aload_n K dX5_tryPastRain_22 0 rfl rfl ?_
        refine r_get (v := .ref (ad 3 1)) K fd_X5_29 rfl rfl rfl dX5_tryPastRain_23 ?_
        refine r_iload K dX5_tryPastRain_26 4 rfl ?_
        refine r_iload_n K dX5_tryPastRain_28 1 rfl rfl ?_
        refine r_iload_n K dX5_tryPastRain_29 2 rfl rfl ?_
        refine r_callV (st := []) K (k_X5_moveWater (σ := (sw σ 1 (trP σ fx fo i).1 (trP σ fx fo i).2 r O)) (w := 1) (h := i + 1) (fx := fx) (fo := fo) hl (by decide) I L (by omega) hfx hfo (fun b => by rw [sw_3]; exact (g1 b).1) (fun b => by rw [sw_4]; have := (g1 b).2; omega)) cw_X5_319 wd_281 wd_1 (by decide) (by decide) rfl rfl rfl rfl (Nat.le_of_ble_eq_true rfl) (by decide) (by decide) dX5_tryPastRain_30 ?_
        rintro _ _ _ ⟨rfl, rfl, rfl⟩
        rw [mv_sw]
        show WW g z 5 0 0 ad (Wz z ad (sw σ 1 (trP σ fx fo (i + 1)).1 (trP σ fx fo (i + 1)).2 (r + gtR (σ 1) (mvO σ fx fo (i + 1) (trP σ fx fo i).1) (σ 0 0 0)) (fst (σ 0 0 0) (mvO σ fx fo (i + 1) (trP σ fx fo i).1) O)) τ o) 33 [(0, .ref (ad 0 0)), (1, .int (bw fx)), (2, .int (nI fo)), (3, .int (nI (trW σ fx fo i))), (4, .int (nI (i + 1)))] []
        refine r_iload_n K dX5_tryPastRain_33 3 rfl rfl ?_
        refine r_aload_n K dX5_tryPastRain_34 0 rfl rfl ?_
        refine r_aload_n K dX5_tryPastRain_35 0 rfl rfl ?_
        refine r_get (v := .ref (ad 3 1)) K fd_X5_29 rfl rfl rfl dX5_tryPastRain_36 ?_
        refine r_callV (st := [.int (nI (trW σ fx fo i))]) K (k_X5_wetCellsBy (σ := (sw σ 1 (trP σ fx fo (i + 1)).1 (trP σ fx fo (i + 1)).2 (r + gtR (σ 1) (mvO σ fx fo (i + 1) (trP σ fx fo i).1) (σ 0 0 0)) (fst (σ 0 0 0) (mvO σ fx fo (i + 1) (trP σ fx fo i).1) O))) (w := 1) (S := (trP σ fx fo (i + 1)).2) hl (by decide) I L D (funext fun _ => sw_4) (fun b => by have := (g2 b).2; omega)) cw_X5_323 wd_315 wd_5 (by decide) (by decide) rfl rfl rfl rfl (Nat.le_of_ble_eq_true rfl) (by decide) (by decide) dX5_tryPastRain_39 ?_
        rintro _ _ _ ⟨rfl, rfl, rfl⟩
        show WW g z 5 0 0 ad (Wz z ad (sw σ 1 (trP σ fx fo (i + 1)).1 (trP σ fx fo (i + 1)).2 (r + gtR (σ 1) (mvO σ fx fo (i + 1) (trP σ fx fo i).1) (σ 0 0 0)) (fst (σ 0 0 0) (mvO σ fx fo (i + 1) (trP σ fx fo i).1) O)) τ o) 42 [(0, .ref (ad 0 0)), (1, .int (bw fx)), (2, .int (nI fo)), (3, .int (nI (trW σ fx fo i))), (4, .int (nI (i + 1)))] [.int (nI (wsm (σ 2) (σ 1) (trP σ fx fo (i + 1)).2 (σ 0 0 0))), .int (nI (trW σ fx fo i))]
        refine r_iadd (v := nI ((trW σ fx fo i) + (wsm (σ 2) (σ 1) (trP σ fx fo (i + 1)).2 (σ 0 0 0)))) K dX5_tryPastRain_42 (nI_add _ _) ?_
        refine r_istore_n (lv' := [(3, .int (nI ((trW σ fx fo i) + (wsm (σ 2) (σ 1) (trP σ fx fo (i + 1)).2 (σ 0 0 0))))), (0, .ref (ad 0 0)), (1, .int (bw fx)), (2, .int (nI fo)), (4, .int (nI (i + 1)))]) K dX5_tryPastRain_43 rfl (by decide) rfl ?_
        refine r_iinc (v := nI (i + 1 + 1)) (lv' := [(4, .int (nI (i + 1 + 1))), (3, .int (nI ((trW σ fx fo i) + (wsm (σ 2) (σ 1) (trP σ fx fo (i + 1)).2 (σ 0 0 0))))), (0, .ref (ad 0 0)), (1, .int (bw fx)), (2, .int (nI fo))]) K dX5_tryPastRain_44 4 rfl (ic_1 _) (by decide) rfl ?_
        refine r_goto K dX5_tryPastRain_47 12 (by decide) ?_
        refine r_lv (lv' := [(0, .ref (ad 0 0)), (1, .int (bw fx)), (2, .int (nI fo)), (3, .int (nI ((trW σ fx fo i) + (wsm (σ 2) (σ 1) (trP σ fx fo (i + 1)).2 (σ 0 0 0))))), (4, .int (nI (i + 1 + 1)))]) [2, 3, 4, 1, 0] rfl ?_
        exact ih_lp (i + 1) _ _ (by omega) (by omega)
  refine r_lv (lv' := [(0, .ref (ad 0 0)), (1, .int (bw fx)), (2, .int (nI fo)), (3, .int (nI 0)), (4, .int (nI 1))]) [2, 3, 4, 1, 0] rfl ?_
  exact lp (σ 12 0 0 - (0) + 1) 0 0 (fun i => σ 27 i 1) (by omega) (by omega)
