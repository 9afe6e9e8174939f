set_option maxRecDepth 100000 in
set_option maxHeartbeats 4000000 in
theorem k_X6_trial {z : Zx} {l : Launch} {σ τ : Sg} {o : Int64 × UInt64} {ad : Nm} (hl : l.stackTraces = false) {fx fo : Nat} (I : InvB τ) (hfx : fx ≤ 6) (hfo : fo ≤ 10) (hz : ∀ b, τ 0 0 0 ≤ b → τ 3 b 2 = 0 ∧ τ 4 b 2 = 0) : Ko z l yX6_trial cX6_trial 6 (some .int) 4 0 0 [.ref (ad 20 0), .int (bw fx), .int (nI fo)] ad (Wz z ad σ τ o) (fun v' ad' μ' => v' = some (.int (nI (trW τ fx fo (τ 12 0 0)))) ∧ ad = ad' ∧ ∃ (V S O : Nat → Nat), μ' = Wz z ad σ (su (msw (su (su τ 73 0 0 fx) 74 0 0 fo) 2 V S O) 73 0 0 0) o ∧ ∀ b, τ 0 0 0 ≤ b → V b = 0 ∧ S b = 0) exNo := by
  refine ko_of hl (by decide +kernel) (Nat.le_of_ble_eq_true rfl) (fun g hg K => ?_)
  subst hg
  have q0 := I.1.1
  have q1 := I.1.2.1
  have q2 := I.1.2.2.1
  have q3 := I.1.2.2.2.1
  have q4 := I.1.2.2.2.2.1
  show WW g z 6 0 0 ad (Wz z ad σ τ o) 0 [(0, .ref (ad 20 0)), (1, .int (bw fx)), (2, .int (nI fo))] []
  refine r_aload_n K dX6_trial_0 0 rfl rfl ?_
  refine r_iload_n K dX6_trial_1 1 rfl rfl ?_
  refine r_put K fd_X6_89 rfl rfl rfl rfl (Nat.le_of_ble_eq_true rfl) rfl dX6_trial_2 ?_
  refine r_mu (u_20_33) ?_
  show WW g z 6 0 0 ad (Wz z ad σ (su τ 73 0 0 fx) o) 5 [(0, .ref (ad 20 0)), (1, .int (bw fx)), (2, .int (nI fo))] []
  refine r_aload_n K dX6_trial_5 0 rfl rfl ?_
  refine r_iload_n K dX6_trial_6 2 rfl rfl ?_
  refine r_put K fd_X6_137 rfl rfl rfl rfl (Nat.le_of_ble_eq_true rfl) rfl dX6_trial_7 ?_
  refine r_mu (u_20_34) ?_
  show WW g z 6 0 0 ad (Wz z ad σ (su (su τ 73 0 0 fx) 74 0 0 fo) o) 10 [(0, .ref (ad 20 0)), (1, .int (bw fx)), (2, .int (nI fo))] []
  refine r_iconst (v := nI 0) K dX6_trial_10 (by decide) ?_
  refine r_istore_n (lv' := [(3, .int (nI 0)), (0, .ref (ad 20 0)), (1, .int (bw fx)), (2, .int (nI fo))]) K dX6_trial_11 rfl (by decide) rfl ?_
  refine r_mu (μ' := Wz z ad σ (msw (su (su τ 73 0 0 fx) 74 0 0 fo) 2 (fst 0 (fun _ => 0) (fun i => τ 3 i 2)) (fst 0 (fun _ => 0) (fun i => τ 4 i 2)) (fun i => τ 70 i 0)) o) (by rw [fst_0, fst_0]; exact congrArg (fun q => Wz z ad σ q o) (msw_id (τ := (su (su τ 73 0 0 fx) 74 0 0 fo)) (u := 2)).symm) ?_
  have lz : ∀ (fuel : Nat) (i : Nat), τ 0 0 0 - i < fuel → i ≤ τ 0 0 0 → WW g z 6 0 0 ad (Wz z ad σ (msw (su (su τ 73 0 0 fx) 74 0 0 fo) 2 (fst i (fun _ => 0) (fun i => τ 3 i 2)) (fst i (fun _ => 0) (fun i => τ 4 i 2)) (fun i => τ 70 i 0)) o) 12 [(0, .ref (ad 20 0)), (1, .int (bw fx)), (2, .int (nI fo)), (3, .int (nI i))] [] := by
    intro fuel
    induction fuel with
    | zero => intro i hf h1; exact absurd hf (Nat.not_lt_zero _)
    | succ fuel ih_lz =>
      intro i hf h1
      refine r_iload_n K dX6_trial_12 3 rfl rfl ?_
      refine r_aload_n K dX6_trial_13 0 rfl rfl ?_
      refine r_get (v := .int (nI (τ 0 0 0))) K fd_X6_100 rfl rfl rfl dX6_trial_14 ?_
      refine r_icmp_ge K dX6_trial_17 40 (τ 0 0 0 ≤ i) (nI_leI (by omega) (by omega)) (by decide) (fun c_17 => ?_) (fun c_17 => ?_)
      · skip
        refine r_iconst (v := nI 0) K dX6_trial_40 (by decide) ?_
        refine r_istore_n (lv' := [(3, .int (nI 0)), (0, .ref (ad 20 0)), (1, .int (bw fx)), (2, .int (nI fo))]) K dX6_trial_41 rfl (by decide) rfl ?_
        refine r_iconst (v := nI 0) K dX6_trial_42 (by decide) ?_
        refine r_istore (lv' := [(4, .int (nI 0)), (3, .int (nI 0)), (0, .ref (ad 20 0)), (1, .int (bw fx)), (2, .int (nI fo))]) K dX6_trial_43 (by decide) rfl ?_
        refine r_mu (μ' := Wz z ad σ (msw (su (su τ 73 0 0 fx) 74 0 0 fo) 2 (trP τ fx fo 0).1 (trP τ fx fo 0).2 (fun i => τ 70 i 0)) o) (by rw [show i = τ 0 0 0 by omega, fst_zero (fun b hb => (hz b hb).1), fst_zero (fun b hb => (hz b hb).2)]; rfl) ?_
        have lt : ∀ (fuel : Nat) (i : Nat) (O : Nat → Nat), τ 12 0 0 - i < fuel → i ≤ τ 12 0 0 → WW g z 6 0 0 ad (Wz z ad σ (msw (su (su τ 73 0 0 fx) 74 0 0 fo) 2 (trP τ fx fo i).1 (trP τ fx fo i).2 O) o) 45 [(0, .ref (ad 20 0)), (1, .int (bw fx)), (2, .int (nI fo)), (3, .int (nI (trW τ fx fo i))), (4, .int (nI i))] [] := by
          intro fuel
          induction fuel with
          | zero => intro i O hf h1; exact absurd hf (Nat.not_lt_zero _)
          | succ fuel ih_lt =>
            intro i O hf h1
            have g1 := trP_le (fx := fx) I hfo i
            have g2 := trP_le (fx := fx) I hfo (i + 1)
            refine r_iload K dX6_trial_45 4 rfl ?_
            refine r_aload_n K dX6_trial_47 0 rfl rfl ?_
            refine r_get (v := .int (nI (τ 12 0 0))) K fd_X6_120 rfl rfl rfl dX6_trial_48 ?_
            refine r_icmp_ge K dX6_trial_51 148 (τ 12 0 0 ≤ i) (nI_leI (by omega) (by omega)) (by decide) (fun c_51 => ?_) (fun c_51 => ?_)
            · skip
              refine r_aload_n K dX6_trial_148 0 rfl rfl ?_
              refine r_iconst (v := bw 0) K dX6_trial_149 (by decide) ?_
              refine r_put K fd_X6_89 rfl rfl rfl rfl (Nat.le_of_ble_eq_true rfl) rfl dX6_trial_150 ?_
              refine r_mu (u_20_33) ?_
              show WW g z 6 0 0 ad (Wz z ad σ (su (msw (su (su τ 73 0 0 fx) 74 0 0 fo) 2 (trP τ fx fo i).1 (trP τ fx fo i).2 O) 73 0 0 0) o) 153 [(0, .ref (ad 20 0)), (1, .int (bw fx)), (2, .int (nI fo)), (3, .int (nI (trW τ fx fo i))), (4, .int (nI i))] []
              refine r_iload_n K dX6_trial_153 3 rfl rfl ?_
              exact r_iret K (by decide) (by decide) ⟨by rw [show i = τ 12 0 0 by omega], rfl, _, _, _, rfl, fun b hb => trP_hi I _ b hb⟩ dX6_trial_154
            · skip
              refine r_iconst (v := nI 0) K dX6_trial_54 (by decide) ?_
              refine r_istore (lv' := [(5, .int (nI 0)), (0, .ref (ad 20 0)), (1, .int (bw fx)), (2, .int (nI fo)), (3, .int (nI (trW τ fx fo i))), (4, .int (nI i))]) K dX6_trial_55 (by decide) rfl ?_
              refine r_mu (μ' := Wz z ad σ (msw (su (su τ 73 0 0 fx) 74 0 0 fo) 2 (fst 0 (fun b => (trP τ fx fo i).1 b + τ 5 b (i + 1)) (trP τ fx fo i).1) (trP τ fx fo i).2 O) o) (by rw [fst_0]) ?_
              have lr : ∀ (fuel : Nat) (j : Nat), τ 0 0 0 - j < fuel → j ≤ τ 0 0 0 → WW g z 6 0 0 ad (Wz z ad σ (msw (su (su τ 73 0 0 fx) 74 0 0 fo) 2 (fst j (fun b => (trP τ fx fo i).1 b + τ 5 b (i + 1)) (trP τ fx fo i).1) (trP τ fx fo i).2 O) o) 57 [(0, .ref (ad 20 0)), (1, .int (bw fx)), (2, .int (nI fo)), (3, .int (nI (trW τ fx fo i))), (4, .int (nI i)), (5, .int (nI j))] [] := by
                intro fuel
                induction fuel with
                | zero => intro j hf h2; exact absurd hf (Nat.not_lt_zero _)
                | succ fuel ih_lr =>
                  intro j hf h2
                  refine r_iload K dX6_trial_57 5 rfl ?_
                  refine r_aload_n K dX6_trial_59 0 rfl rfl ?_
                  refine r_get (v := .int (nI (τ 0 0 0))) K fd_X6_100 rfl rfl rfl dX6_trial_60 ?_
                  refine r_icmp_ge K dX6_trial_63 95 (τ 0 0 0 ≤ j) (nI_leI (by omega) (by omega)) (by decide) (fun c_63 => ?_) (fun c_63 => ?_)
                  · skip
                    refine r_mu (μ' := Wz z ad σ (msw (su (su τ 73 0 0 fx) 74 0 0 fo) 2 (mvR τ (i + 1) (trP τ fx fo i).1) (trP τ fx fo i).2 O) o) (by rw [show j = τ 0 0 0 by omega]; rfl) ?_
                    show WW g z 6 0 0 ad (Wz z ad σ (msw (su (su τ 73 0 0 fx) 74 0 0 fo) 2 (mvR τ (i + 1) (trP τ fx fo i).1) (trP τ fx fo i).2 O) o) 95 [(0, .ref (ad 20 0)), (1, .int (bw fx)), (2, .int (nI fo)), (3, .int (nI (trW τ fx fo i))), (4, .int (nI i)), (5, .int (nI j))] []
                    refine r_aload_n K dX6_trial_95 0 rfl rfl ?_
                    refine r_aload_n K dX6_trial_96 0 rfl rfl ?_
                    refine r_get (v := .ref (ad 21 11)) K fd_X6_40 rfl rfl rfl dX6_trial_97 ?_
                    refine r_aload_n K dX6_trial_100 0 rfl rfl ?_
                    refine r_get (v := .ref (ad 21 12)) K fd_X6_43 rfl rfl rfl dX6_trial_101 ?_
                    refine r_callV (st := []) K (k_X6_flows (τ := msw (su (su τ 73 0 0 fx) 74 0 0 fo) 2 (mvR τ (i + 1) (trP τ fx fo i).1) (trP τ fx fo i).2 O) (u := 2) (V := (mvR τ (i + 1) (trP τ fx fo i).1)) (S := (trP τ fx fo i).2) hl (.inr rfl) I hfx hfo (funext fun _ => msw_3) (fun b => mvR_le I (fun b => (g1 b).1) b) (funext fun _ => msw_4) (fun b => by have := (g1 b).2; omega) (fun b => Nat.le_trans (mvG_le (fx := fx) (fo := fo) (h := i + 1) (V := (trP τ fx fo i).1) I hfo (fun b => (g1 b).1) b) (by decide))) cw_X6_154 wd_1510 wd_30 (by decide) (by decide) rfl rfl rfl rfl (Nat.le_of_ble_eq_true rfl) (by decide) (by decide) dX6_trial_104 ?_
                    rintro _ _ _ ⟨rfl, rfl, rfl⟩
                    rw [msw_msw]
                    show WW g z 6 0 0 ad (Wz z ad σ (msw (su (su τ 73 0 0 fx) 74 0 0 fo) 2 (trP τ fx fo (i + 1)).1 (trP τ fx fo (i + 1)).2 (fst (τ 0 0 0) (mvO τ fx fo (i + 1) (trP τ fx fo i).1) O)) o) 107 [(0, .ref (ad 20 0)), (1, .int (bw fx)), (2, .int (nI fo)), (3, .int (nI (trW τ fx fo i))), (4, .int (nI i)), (5, .int (nI j))] [.int (nI _)]
                    refine r_pop K dX6_trial_107 rfl ?_
                    refine r_iconst (v := nI 0) K dX6_trial_108 (by decide) ?_
                    refine r_istore (lv' := [(5, .int (nI 0)), (0, .ref (ad 20 0)), (1, .int (bw fx)), (2, .int (nI fo)), (3, .int (nI (trW τ fx fo i))), (4, .int (nI i))]) K dX6_trial_109 (by decide) rfl ?_
                    have lw : ∀ (fuel : Nat) (j : Nat), τ 0 0 0 - j < fuel → j ≤ τ 0 0 0 → WW g z 6 0 0 ad (Wz z ad σ (msw (su (su τ 73 0 0 fx) 74 0 0 fo) 2 (trP τ fx fo (i + 1)).1 (trP τ fx fo (i + 1)).2 (fst (τ 0 0 0) (mvO τ fx fo (i + 1) (trP τ fx fo i).1) O)) o) 111 [(0, .ref (ad 20 0)), (1, .int (bw fx)), (2, .int (nI fo)), (3, .int (nI (trW τ fx fo i + wsm (τ 2) (τ 1) (trP τ fx fo (i + 1)).2 j))), (4, .int (nI i)), (5, .int (nI j))] [] := by
                      intro fuel
                      induction fuel with
                      | zero => intro j hf h2; exact absurd hf (Nat.not_lt_zero _)
                      | succ fuel ih_lw =>
                        intro j hf h2
                        refine r_iload K dX6_trial_111 5 rfl ?_
                        refine r_aload_n K dX6_trial_113 0 rfl rfl ?_
                        refine r_get (v := .int (nI (τ 0 0 0))) K fd_X6_100 rfl rfl rfl dX6_trial_114 ?_
                        refine r_icmp_ge K dX6_trial_117 142 (τ 0 0 0 ≤ j) (nI_leI (by omega) (by omega)) (by decide) (fun c_117 => ?_) (fun c_117 => ?_)
                        · skip
                          refine r_eq (lv' := [(0, .ref (ad 20 0)), (1, .int (bw fx)), (2, .int (nI fo)), (3, .int (nI (trW τ fx fo (i + 1)))), (4, .int (nI i)), (5, .int (nI j))]) rfl rfl (by rw [show j = τ 0 0 0 by omega]; rfl) rfl ?_
                          refine r_iinc (v := nI (i + 1)) (lv' := [(4, .int (nI (i + 1))), (0, .ref (ad 20 0)), (1, .int (bw fx)), (2, .int (nI fo)), (3, .int (nI (trW τ fx fo (i + 1)))), (5, .int (nI j))]) K dX6_trial_142 4 rfl (ic_1 _) (by decide) rfl ?_
                          refine r_goto K dX6_trial_145 45 (by decide) ?_
                          refine r_lv (lv' := [(0, .ref (ad 20 0)), (1, .int (bw fx)), (2, .int (nI fo)), (3, .int (nI (trW τ fx fo (i + 1)))), (4, .int (nI (i + 1)))]) [1, 2, 3, 4, 0] rfl ?_
                          exact ih_lt (i + 1) _ (by omega) (by omega)
                        · skip
                          have hj : j < τ 0 0 0 := by omega
                          refine r_iload_n K dX6_trial_120 3 rfl rfl ?_
                          refine r_aload_n K dX6_trial_121 0 rfl rfl ?_
                          refine r_iload K dX6_trial_122 5 rfl ?_
                          refine r_aload_n K dX6_trial_124 0 rfl rfl ?_
                          refine r_get (v := .ref (ad 21 12)) K fd_X6_43 rfl rfl rfl dX6_trial_125 ?_
                          refine r_iload K dX6_trial_128 5 rfl ?_
                          refine r_iald (j := j) (v := nI ((trP τ fx fo (i + 1)).2 j)) K (rfl) rfl rfl (by omega) (by decide) (by show nI _ = nI _; rw [msw_4]) dX6_trial_130 ?_
                          refine r_callV (st := [.int (nI (trW τ fx fo i + wsm (τ 2) (τ 1) (trP τ fx fo (i + 1)).2 j))]) K (k_X6_wet (b := j) (v := (trP τ fx fo (i + 1)).2 j) hl I hj (by have := (g2 j).2; omega)) cw_X6_182 wd_1593 wd_38 (by decide) (by decide) rfl rfl rfl rfl (Nat.le_of_ble_eq_true rfl) (by decide) (by decide) dX6_trial_131 ?_
                          rintro _ _ _ ⟨rfl, rfl, rfl⟩
                          show WW g z 6 0 0 ad (Wz z ad σ (msw (su (su τ 73 0 0 fx) 74 0 0 fo) 2 (trP τ fx fo (i + 1)).1 (trP τ fx fo (i + 1)).2 (fst (τ 0 0 0) (mvO τ fx fo (i + 1) (trP τ fx fo i).1) O)) o) 134 [(0, .ref (ad 20 0)), (1, .int (bw fx)), (2, .int (nI fo)), (3, .int (nI (trW τ fx fo i + wsm (τ 2) (τ 1) (trP τ fx fo (i + 1)).2 j))), (4, .int (nI i)), (5, .int (nI j))] [.int (nI (wn (τ 2 j) (τ 1 j 6) ((trP τ fx fo (i + 1)).2 j) (τ 1 j 6))), .int (nI (trW τ fx fo i + wsm (τ 2) (τ 1) (trP τ fx fo (i + 1)).2 j))]
                          refine r_iadd (v := nI ((trW τ fx fo i + wsm (τ 2) (τ 1) (trP τ fx fo (i + 1)).2 j) + (wn (τ 2 j) (τ 1 j 6) ((trP τ fx fo (i + 1)).2 j) (τ 1 j 6)))) K dX6_trial_134 (nI_add _ _) ?_
                          refine r_eq (st' := [.int (nI (trW τ fx fo i + wsm (τ 2) (τ 1) (trP τ fx fo (i + 1)).2 (j + 1)))]) rfl rfl rfl (by rw [wsm, Nat.add_assoc]) ?_
                          refine r_istore_n (lv' := [(3, .int (nI (trW τ fx fo i + wsm (τ 2) (τ 1) (trP τ fx fo (i + 1)).2 (j + 1)))), (0, .ref (ad 20 0)), (1, .int (bw fx)), (2, .int (nI fo)), (4, .int (nI i)), (5, .int (nI j))]) K dX6_trial_135 rfl (by decide) rfl ?_
                          refine r_iinc (v := nI (j + 1)) (lv' := [(5, .int (nI (j + 1))), (3, .int (nI (trW τ fx fo i + wsm (τ 2) (τ 1) (trP τ fx fo (i + 1)).2 (j + 1)))), (0, .ref (ad 20 0)), (1, .int (bw fx)), (2, .int (nI fo)), (4, .int (nI i))]) K dX6_trial_136 5 rfl (ic_1 _) (by decide) rfl ?_
                          refine r_goto K dX6_trial_139 111 (by decide) ?_
                          refine r_lv (lv' := [(0, .ref (ad 20 0)), (1, .int (bw fx)), (2, .int (nI fo)), (3, .int (nI (trW τ fx fo i + wsm (τ 2) (τ 1) (trP τ fx fo (i + 1)).2 (j + 1)))), (4, .int (nI i)), (5, .int (nI (j + 1)))]) [2, 3, 4, 1, 5, 0] rfl ?_
                          exact ih_lw (j + 1) (by omega) (by omega)
                    refine r_lv (lv' := [(0, .ref (ad 20 0)), (1, .int (bw fx)), (2, .int (nI fo)), (3, .int (nI (trW τ fx fo i))), (4, .int (nI i)), (5, .int (nI 0))]) [1, 2, 3, 4, 5, 0] rfl ?_
                    exact lw (τ 0 0 0 - (0) + 1) 0 (by omega) (by omega)
                  · skip
                    have hj : j < τ 0 0 0 := by omega
                    refine r_aload_n K dX6_trial_66 0 rfl rfl ?_
                    refine r_get (v := .ref (ad 21 11)) K fd_X6_40 rfl rfl rfl dX6_trial_67 ?_
                    refine r_iload K dX6_trial_70 5 rfl ?_
                    refine r_dup2 K dX6_trial_72 rfl rfl ?_
                    refine r_iald (j := j) (v := nI ((trP τ fx fo i).1 j)) K (rfl) rfl rfl (by omega) (by decide) (by show nI _ = nI _; rw [msw_3, fst_ge (Nat.lt_irrefl j)]) dX6_trial_73 ?_
                    refine r_aload_n K dX6_trial_74 0 rfl rfl ?_
                    refine r_get (v := .ref (ad 21 23)) K fd_X6_65 rfl rfl rfl dX6_trial_75 ?_
                    refine r_bipush (v := nI 6) K dX6_trial_78 (by decide) ?_
                    refine r_iload K dX6_trial_80 4 rfl ?_
                    refine r_imul (v := nI (6 * i)) K dX6_trial_82 (pk_mul _ _) ?_
                    refine r_iload K dX6_trial_83 5 rfl ?_
                    refine r_iadd (v := nI ((6 * i) + j)) K dX6_trial_85 (nI_add _ _) ?_
                    refine r_iald (j := (6 * i) + j) (v := nI (τ 5 j (i + 1))) K rfl rfl rfl (by omega) (by decide) (by show nI _ = nI _; rw [show ((6 * i) + j) % 6 = j by omega, show ((6 * i) + j) / 6 + 1 = i + 1 by omega]; try (first | rfl | (repeat first | rw [su_s] | rw [su_n (by omega)]))) dX6_trial_86 ?_
                    refine r_iadd (v := nI (((trP τ fx fo i).1 j) + (τ 5 j (i + 1)))) K dX6_trial_87 (nI_add _ _) ?_
                    have e3 : up1 (fst j (fun b => (trP τ fx fo i).1 b + τ 5 b (i + 1)) (trP τ fx fo i).1) j ((trP τ fx fo i).1 j + τ 5 j (i + 1)) = fst (j + 1) (fun b => (trP τ fx fo i).1 b + τ 5 b (i + 1)) (trP τ fx fo i).1 := fst_1
                    refine r_iast (j := j) K rfl rfl rfl (by omega) (by decide) rfl dX6_trial_88 ?_
                    refine r_mu u_21_11 ?_
                    rw [su_msw3, e3]
                    show WW g z 6 0 0 ad (Wz z ad σ (msw (su (su τ 73 0 0 fx) 74 0 0 fo) 2 (fst (j + 1) (fun b => (trP τ fx fo i).1 b + τ 5 b (i + 1)) (trP τ fx fo i).1) (trP τ fx fo i).2 O) o) 89 [(0, .ref (ad 20 0)), (1, .int (bw fx)), (2, .int (nI fo)), (3, .int (nI (trW τ fx fo i))), (4, .int (nI i)), (5, .int (nI j))] []
                    refine r_iinc (v := nI (j + 1)) (lv' := [(5, .int (nI (j + 1))), (0, .ref (ad 20 0)), (1, .int (bw fx)), (2, .int (nI fo)), (3, .int (nI (trW τ fx fo i))), (4, .int (nI i))]) K dX6_trial_89 5 rfl (ic_1 _) (by decide) rfl ?_
                    refine r_goto K dX6_trial_92 57 (by decide) ?_
                    refine r_lv (lv' := [(0, .ref (ad 20 0)), (1, .int (bw fx)), (2, .int (nI fo)), (3, .int (nI (trW τ fx fo i))), (4, .int (nI i)), (5, .int (nI (j + 1)))]) [1, 2, 3, 4, 5, 0] rfl ?_
                    exact ih_lr (j + 1) (by omega) (by omega)
              refine r_lv (lv' := [(0, .ref (ad 20 0)), (1, .int (bw fx)), (2, .int (nI fo)), (3, .int (nI (trW τ fx fo i))), (4, .int (nI i)), (5, .int (nI 0))]) [1, 2, 3, 4, 5, 0] rfl ?_
              exact lr (τ 0 0 0 - (0) + 1) 0 (by omega) (by omega)
        refine r_lv (lv' := [(0, .ref (ad 20 0)), (1, .int (bw fx)), (2, .int (nI fo)), (3, .int (nI 0)), (4, .int (nI 0))]) [2, 3, 4, 1, 0] rfl ?_
        exact lt (τ 12 0 0 - (0) + 1) 0 (fun i => τ 70 i 0) (by omega) (by omega)
      · skip
        have hi : i < τ 0 0 0 := by omega
        refine r_aload_n K dX6_trial_20 0 rfl rfl ?_
        refine r_get (v := .ref (ad 21 11)) K fd_X6_40 rfl rfl rfl dX6_trial_21 ?_
        refine r_iload_n K dX6_trial_24 3 rfl rfl ?_
        refine r_iconst (v := nI 0) K dX6_trial_25 (by decide) ?_
        have e1 : up1 (fst i (fun _ => 0) (fun i => τ 3 i 2)) i 0 = fst (i + 1) (fun _ => 0) (fun i => τ 3 i 2) := fst_1
        refine r_iast (j := i) K rfl rfl rfl (by omega) (by decide) rfl dX6_trial_26 ?_
        refine r_mu (u_21_11 (v := 0)) ?_
        rw [su_msw3, e1]
        show WW g z 6 0 0 ad (Wz z ad σ (msw (su (su τ 73 0 0 fx) 74 0 0 fo) 2 (fst (i + 1) (fun _ => 0) (fun i => τ 3 i 2)) (fst i (fun _ => 0) (fun i => τ 4 i 2)) (fun i => τ 70 i 0)) o) 27 [(0, .ref (ad 20 0)), (1, .int (bw fx)), (2, .int (nI fo)), (3, .int (nI i))] []
        refine r_aload_n K dX6_trial_27 0 rfl rfl ?_
        refine r_get (v := .ref (ad 21 12)) K fd_X6_43 rfl rfl rfl dX6_trial_28 ?_
        refine r_iload_n K dX6_trial_31 3 rfl rfl ?_
        refine r_iconst (v := nI 0) K dX6_trial_32 (by decide) ?_
        have e2 : up1 (fst i (fun _ => 0) (fun i => τ 4 i 2)) i 0 = fst (i + 1) (fun _ => 0) (fun i => τ 4 i 2) := fst_1
        refine r_iast (j := i) K rfl rfl rfl (by omega) (by decide) rfl dX6_trial_33 ?_
        refine r_mu (u_21_12 (v := 0)) ?_
        rw [su_msw4, e2]
        show WW g z 6 0 0 ad (Wz z ad σ (msw (su (su τ 73 0 0 fx) 74 0 0 fo) 2 (fst (i + 1) (fun _ => 0) (fun i => τ 3 i 2)) (fst (i + 1) (fun _ => 0) (fun i => τ 4 i 2)) (fun i => τ 70 i 0)) o) 34 [(0, .ref (ad 20 0)), (1, .int (bw fx)), (2, .int (nI fo)), (3, .int (nI i))] []
        refine r_iinc (v := nI (i + 1)) (lv' := [(3, .int (nI (i + 1))), (0, .ref (ad 20 0)), (1, .int (bw fx)), (2, .int (nI fo))]) K dX6_trial_34 3 rfl (ic_1 _) (by decide) rfl ?_
        refine r_goto K dX6_trial_37 12 (by decide) ?_
        refine r_lv (lv' := [(0, .ref (ad 20 0)), (1, .int (bw fx)), (2, .int (nI fo)), (3, .int (nI (i + 1)))]) [1, 2, 3, 0] rfl ?_
        exact ih_lz (i + 1) (by omega) (by omega)
  refine r_lv (lv' := [(0, .ref (ad 20 0)), (1, .int (bw fx)), (2, .int (nI fo)), (3, .int (nI 0))]) [1, 2, 3, 0] rfl ?_
  exact lz (τ 0 0 0 - (0) + 1) 0 (by omega) (by omega)
