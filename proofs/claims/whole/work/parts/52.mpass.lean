set_option maxRecDepth 100000 in
set_option maxHeartbeats 4000000 in
theorem k_X6_pass {z : Zx} {l : Launch} {σ τ : Sg} {o : Int64 × UInt64} {ad : Nm} (hl : l.stackTraces = false) {x : Int32} (Q : IR τ) (Q2 : IMo τ) : Ko z l yX6_pass cX6_pass 4 (some .int) 7 0 0 [.ref (ad 20 0), .int (x)] ad (Wz z ad σ τ o) (okM z ad σ o Value.int (cP τ x) (nI (τ 12 0 0 + jN x)) (if (cP τ x) = 0 then (hrs τ (jN x)) else τ)) exNo := by
  refine ko_of hl (by decide +kernel) (Nat.le_of_ble_eq_true rfl) (fun g hg K => ?_)
  subst hg
  have I := Q.1
  have q0 := I.1.1
  have q1 := I.1.2.1
  have q2 := I.1.2.2.1
  have q3 := I.1.2.2.2.1
  have q4 := I.1.2.2.2.2.1
  show WW g z 4 0 0 ad (Wz z ad σ τ o) 0 [(0, .ref (ad 20 0)), (1, .int (x))] []
  refine r_aload_n K dX6_pass_0 0 rfl rfl ?_
  refine r_iload_n K dX6_pass_1 1 rfl rfl ?_
  refine r_iconst (v := nI 1) K dX6_pass_2 (by decide) ?_
  refine r_bipush (v := nI 24) K dX6_pass_3 (by decide) ?_
  refine r_callS (st := [.ref (ad 20 0)]) K (k_X6_in (x := x) (a := nI 1) (b := nI 24) hl) cw_X6_103 wd_1434 (by decide) (by decide) rfl (Nat.le_of_ble_eq_true rfl) (by decide) (by decide) dX6_pass_5 ?_
  rintro _ _ _ ⟨rfl, rfl, rfl⟩
  show WW g z 4 0 0 ad (Wz z ad σ τ o) 8 [(0, .ref (ad 20 0)), (1, .int (x))] [.int (pI (inR x 1 24)), .ref (ad 20 0)]
  refine r_if_ne K dX6_pass_8 15 (¬ (inR x 1 24)) pI_eq0 (by decide) (fun c_8 => ?_) (fun c_8 => ?_)
  · skip
    have q_8 := Decidable.not_not.mp c_8
    obtain ⟨p, hp, rfl⟩ := (inR_iff (by decide) (by decide)).mp q_8
    refine r_aload_n K dX6_pass_15 0 rfl rfl ?_
    refine r_get (v := .int (nI (τ 0 0 0))) K fd_X6_100 rfl rfl rfl dX6_pass_16 ?_
    refine r_if_eq K dX6_pass_19 33 (τ 0 0 0 = 0) (n0_eq (by omega)) (by decide) (fun c_19 => ?_) (fun c_19 => ?_)
    · skip
      refine r_iconst (v := nI 2) K dX6_pass_33 (by decide) ?_
      refine r_goto K dX6_pass_34 38 (by decide) ?_
      refine r_callV (st := []) K (k_X6_fails (c := 2) hl (by omega)) cw_X6_114 wd_1438 wd_24 (by decide) (by decide) rfl rfl rfl rfl (Nat.le_of_ble_eq_true rfl) (by decide) (by decide) dX6_pass_38 ?_
      rintro _ _ _ ⟨rfl, rfl, rfl⟩
      show WW g z 4 0 0 ad (Wz z ad σ (su τ 72 0 0 2) o) 41 [(0, .ref (ad 20 0)), (1, .int (nI p))] [.int (nI 1)]
      refine r_if_eq K dX6_pass_41 46 (1 = 0) (n0_eq (by omega)) (by decide) (fun c_41 => ?_) (fun c_41 => ?_)
      · skip
        exfalso; omega
      · skip
        refine r_iconst (v := nI 0) K dX6_pass_44 (by decide) ?_
        exact r_iret K (by decide) (by decide) (okM_g (c := 1) Q2 (by unfold cP; rw [if_pos q_8]; exact (if_neg (fun q => q.1 c_19)).symm)) dX6_pass_45
    · skip
      refine r_aload_n K dX6_pass_22 0 rfl rfl ?_
      refine r_get (v := .int (nI (τ 12 0 0))) K fd_X6_120 rfl rfl rfl dX6_pass_23 ?_
      refine r_iload_n K dX6_pass_26 1 rfl rfl ?_
      refine r_iadd (v := nI ((τ 12 0 0) + p)) K dX6_pass_27 (nI_add _ _) ?_
      refine r_bipush (v := nI 60) K dX6_pass_28 (by decide) ?_
      refine r_icmp_le K dX6_pass_30 37 ((τ 12 0 0) + p ≤ 60) (nI_leI (by omega) (by omega)) (by decide) (fun c_30 => ?_) (fun c_30 => ?_)
      · skip
        refine r_iconst (v := nI 0) K dX6_pass_37 (by decide) ?_
        refine r_callV (st := []) K (k_X6_fails (c := 0) hl (by omega)) cw_X6_114 wd_1438 wd_24 (by decide) (by decide) rfl rfl rfl rfl (Nat.le_of_ble_eq_true rfl) (by decide) (by decide) dX6_pass_38 ?_
        rintro _ _ _ ⟨rfl, rfl, rfl⟩
        show WW g z 4 0 0 ad (Wz z ad σ (su τ 72 0 0 0) o) 41 [(0, .ref (ad 20 0)), (1, .int (nI p))] [.int (nI 0)]
        refine r_if_eq K dX6_pass_41 46 (0 = 0) (n0_eq (by omega)) (by decide) (fun c_41 => ?_) (fun c_41 => ?_)
        · skip
          refine r_iconst (v := nI 0) K dX6_pass_46 (by decide) ?_
          refine r_istore_n (lv' := [(2, .int (nI 0)), (0, .ref (ad 20 0)), (1, .int (nI p))]) K dX6_pass_47 rfl (by decide) rfl ?_
          have lp : ∀ (fuel : Nat) (i : Nat) (τ1 : Sg), p - i < fuel → i ≤ p → agr τ1 (hrs τ i) → IMo τ1 → τ1 72 0 0 = 0 → WW g z 4 0 0 ad (Wz z ad σ τ1 o) 48 [(0, .ref (ad 20 0)), (1, .int (nI p)), (2, .int (nI i))] [] := by
            intro fuel
            induction fuel with
            | zero => intro i τ1 hf h1 hA hM h72; exact absurd hf (Nat.not_lt_zero _)
            | succ fuel ih_lp =>
              intro i τ1 hf h1 hA hM h72
              have Q1 : IR τ1 := (Q.hrs i (by omega)).agr hA
              have I1 := Q1.1
              have z0 : τ1 0 0 0 = τ 0 0 0 := (hA 0 0 0 (by decide) (fun q => by omega)).trans (hrs_nb i)
              have z12 : τ1 12 0 0 = τ 12 0 0 + i := (hA 12 0 0 (by decide) (fun q => by omega)).trans (hrs_clock i)
              refine r_iload_n K dX6_pass_48 2 rfl rfl ?_
              refine r_iload_n K dX6_pass_49 1 rfl rfl ?_
              refine r_icmp_ge K dX6_pass_50 192 (p ≤ i) (nI_leI (by omega) (by omega)) (by decide) (fun c_50 => ?_) (fun c_50 => ?_)
              · skip
                refine r_aload_n K dX6_pass_192 0 rfl rfl ?_
                refine r_get (v := .int (nI (τ1 12 0 0))) K fd_X6_120 rfl rfl rfl dX6_pass_193 ?_
                exact r_iret K (by decide) (by decide) (okM_w (by unfold cP; rw [if_pos q_8]; exact if_pos (show τ 0 0 0 ≠ 0 ∧ τ 12 0 0 + jN (nI p) ≤ 60 from ⟨c_19, by rw [jN_n (by omega)]; omega⟩)) (by rw [jN_n (by omega), z12, show i = p by omega]) (by rw [jN_n (by omega), show p = i by omega]; exact hA) hM h72) dX6_pass_196
              · skip
                refine r_iconst (v := nI 0) K dX6_pass_53 (by decide) ?_
                refine r_istore_n (lv' := [(3, .int (nI 0)), (0, .ref (ad 20 0)), (1, .int (nI p)), (2, .int (nI i))]) K dX6_pass_54 rfl (by decide) rfl ?_
                refine r_mu (μ' := Wz z ad σ (mra τ1 0) o) (by rw [mra_0]) ?_
                have lb : ∀ (fuel : Nat) (j : Nat), τ1 0 0 0 - j < fuel → j ≤ τ1 0 0 0 → WW g z 4 0 0 ad (Wz z ad σ (mra τ1 j) o) 55 [(0, .ref (ad 20 0)), (1, .int (nI p)), (2, .int (nI i)), (3, .int (nI j))] [] := by
                  intro fuel
                  induction fuel with
                  | zero => intro j hf h2; exact absurd hf (Nat.not_lt_zero _)
                  | succ fuel ih_lb =>
                    intro j hf h2
                    refine r_iload_n K dX6_pass_55 3 rfl rfl ?_
                    refine r_aload_n K dX6_pass_56 0 rfl rfl ?_
                    refine r_get (v := .int (nI (τ1 0 0 0))) K fd_X6_100 rfl rfl rfl dX6_pass_57 ?_
                    refine r_icmp_ge K dX6_pass_60 119 (τ1 0 0 0 ≤ j) (nI_leI (by omega) (by omega)) (by decide) (fun c_60 => ?_) (fun c_60 => ?_)
                    · skip
                      refine r_mu (μ' := Wz z ad σ (mra τ1 (τ1 0 0 0)) o) (by rw [show j = τ1 0 0 0 by omega]) ?_
                      show WW g z 4 0 0 ad (Wz z ad σ (mra τ1 (τ1 0 0 0)) o) 119 [(0, .ref (ad 20 0)), (1, .int (nI p)), (2, .int (nI i)), (3, .int (nI j))] []
                      refine r_aload_n K dX6_pass_119 0 rfl rfl ?_
                      refine r_dup K dX6_pass_120 rfl ?_
                      refine r_get (v := .int (nI (τ1 6 0 0))) K fd_X6_151 rfl rfl rfl dX6_pass_121 ?_
                      refine r_aload_n K dX6_pass_124 0 rfl rfl ?_
                      refine r_aload_n K dX6_pass_125 0 rfl rfl ?_
                      refine r_get (v := .ref (ad 21 9)) K fd_X6_34 rfl rfl rfl dX6_pass_126 ?_
                      refine r_aload_n K dX6_pass_129 0 rfl rfl ?_
                      refine r_get (v := .ref (ad 21 10)) K fd_X6_37 rfl rfl rfl dX6_pass_130 ?_
                      refine r_callV (st := [.int (nI (τ1 6 0 0)), .ref (ad 20 0)]) K (k_X6_flows (τ := (mra τ1 (τ1 0 0 0))) (u := 0) (V := mvR (ra τ1 (τ1 0 0 0)) (τ1 12 0 0 + 1) (fun i => τ1 3 i 0)) (S := fun i => τ1 4 i 0) hl (.inl rfl) (I1.rain (Nat.le_refl _)) (by show τ1 73 0 0 ≤ 6; rw [hM.2.1.1]; decide) hM.2.1.2 mra_V (fun b => mvR_le (I1.rain (Nat.le_refl _)) (fun b => (Q1.2.1.1 b).1) b) rfl (fun b => by have := (Q1.2.1.1 b).2; omega) (fun b => Nat.le_trans (mvG_le (σ := (ra τ1 (τ1 0 0 0))) (fx := τ1 73 0 0) (fo := τ1 74 0 0) (h := τ1 12 0 0 + 1) (V := fun i => τ1 3 i 0) (I1.rain (Nat.le_refl _)) hM.2.1.2 (fun b => (Q1.2.1.1 b).1) b) (by decide))) cw_X6_154 wd_1510 wd_30 (by decide) (by decide) rfl rfl rfl rfl (Nat.le_of_ble_eq_true rfl) (by decide) (by decide) dX6_pass_133 ?_
                      rintro _ _ _ ⟨rfl, rfl, rfl⟩
                      rw [show (mra τ1 (τ1 0 0 0)) 73 0 0 = 0 from hM.2.1.1]
                      refine r_mu (μ' := Wz z ad σ (mhF τ1) o) (by unfold mhF mhO; rw [← mvV_fo (fo := τ1 74 0 0), ← mvS_fo (fo := τ1 74 0 0), ← mvO_fo (fo := τ1 74 0 0)]; rfl) ?_
                      refine r_eq (st' := [.int (nI (mhO τ1 0)), .int (nI (τ1 6 0 0)), .ref (ad 20 0)]) rfl rfl rfl (by unfold mhO; rw [← mvO_fo (fo := τ1 74 0 0)]; exact congrArg (fun q => [Value.int (nI q), _, _]) (fst_lt (show 0 < τ1 0 0 0 by omega))) ?_
                      show WW g z 4 0 0 ad (Wz z ad σ (mhF τ1) o) 136 [(0, .ref (ad 20 0)), (1, .int (nI p)), (2, .int (nI i)), (3, .int (nI j))] [.int (nI (mhO τ1 0)), .int (nI (τ1 6 0 0)), .ref (ad 20 0)]
                      refine r_iadd (v := nI ((τ1 6 0 0) + (mhO τ1 0))) K dX6_pass_136 (nI_add _ _) ?_
                      refine r_put K fd_X6_151 rfl rfl rfl rfl (Nat.le_of_ble_eq_true rfl) rfl dX6_pass_137 ?_
                      refine r_mu (u_20_22) ?_
                      show WW g z 4 0 0 ad (Wz z ad σ (su (mhF τ1) 6 0 0 ((τ1 6 0 0) + (mhO τ1 0))) o) 140 [(0, .ref (ad 20 0)), (1, .int (nI p)), (2, .int (nI i)), (3, .int (nI j))] []
                      refine r_iconst (v := nI 0) K dX6_pass_140 (by decide) ?_
                      refine r_istore_n (lv' := [(3, .int (nI 0)), (0, .ref (ad 20 0)), (1, .int (nI p)), (2, .int (nI i))]) K dX6_pass_141 rfl (by decide) rfl ?_
                      refine r_mu (μ' := Wz z ad σ (vo (su (mhF τ1) 6 0 0 (τ1 6 0 0 + mhO τ1 0)) 0) o) (by rw [vo_0]) ?_
                      have lc : ∀ (fuel : Nat) (j : Nat), τ1 0 0 0 - j < fuel → j ≤ τ1 0 0 0 → WW g z 4 0 0 ad (Wz z ad σ (vo (su (mhF τ1) 6 0 0 (τ1 6 0 0 + mhO τ1 0)) j) o) 142 [(0, .ref (ad 20 0)), (1, .int (nI p)), (2, .int (nI i)), (3, .int (nI j))] [] := by
                        intro fuel
                        induction fuel with
                        | zero => intro j hf h2; exact absurd hf (Nat.not_lt_zero _)
                        | succ fuel ih_lc =>
                          intro j hf h2
                          refine r_iload_n K dX6_pass_142 3 rfl rfl ?_
                          refine r_aload_n K dX6_pass_143 0 rfl rfl ?_
                          refine r_get (v := .int (nI (τ1 0 0 0))) K fd_X6_100 rfl rfl rfl dX6_pass_144 ?_
                          refine r_icmp_ge K dX6_pass_147 176 (τ1 0 0 0 ≤ j) (nI_leI (by omega) (by omega)) (by decide) (fun c_147 => ?_) (fun c_147 => ?_)
                          · skip
                            refine r_mu (μ' := Wz z ad σ (vo (su (mhF τ1) 6 0 0 (τ1 6 0 0 + mhO τ1 0)) (τ1 0 0 0)) o) (by rw [show j = τ1 0 0 0 by omega]) ?_
                            show WW g z 4 0 0 ad (Wz z ad σ (vo (su (mhF τ1) 6 0 0 (τ1 6 0 0 + mhO τ1 0)) (τ1 0 0 0)) o) 176 [(0, .ref (ad 20 0)), (1, .int (nI p)), (2, .int (nI i)), (3, .int (nI j))] []
                            refine r_aload_n K dX6_pass_176 0 rfl rfl ?_
                            refine r_dup K dX6_pass_177 rfl ?_
                            refine r_get (v := .int (nI (τ1 12 0 0))) K fd_X6_120 rfl rfl rfl dX6_pass_178 ?_
                            refine r_iconst (v := nI 1) K dX6_pass_181 (by decide) ?_
                            refine r_iadd (v := nI ((τ1 12 0 0) + 1)) K dX6_pass_182 (nI_add _ _) ?_
                            refine r_put K fd_X6_120 rfl rfl rfl rfl (Nat.le_of_ble_eq_true rfl) rfl dX6_pass_183 ?_
                            refine r_mu (u_20_20) ?_
                            show WW g z 4 0 0 ad (Wz z ad σ (su (vo (su (mhF τ1) 6 0 0 (τ1 6 0 0 + mhO τ1 0)) (τ1 0 0 0)) 12 0 0 ((τ1 12 0 0) + 1)) o) 186 [(0, .ref (ad 20 0)), (1, .int (nI p)), (2, .int (nI i)), (3, .int (nI j))] []
                            show WW g z 4 0 0 ad (Wz z ad σ (mhour τ1) o) 186 [(0, .ref (ad 20 0)), (1, .int (nI p)), (2, .int (nI i)), (3, .int (nI j))] []
                            refine r_iinc (v := nI (i + 1)) (lv' := [(2, .int (nI (i + 1))), (0, .ref (ad 20 0)), (1, .int (nI p)), (3, .int (nI j))]) K dX6_pass_186 2 rfl (ic_1 _) (by decide) rfl ?_
                            refine r_goto K dX6_pass_189 48 (by decide) ?_
                            refine r_lv (lv' := [(0, .ref (ad 20 0)), (1, .int (nI p)), (2, .int (nI (i + 1)))]) [1, 2, 0] rfl ?_
                            exact ih_lp (i + 1) (mhour τ1) (by omega) (by omega) (by exact (agr_mhour I1 (by omega)).tr hA.hr) (by exact hM.mhr) (by exact h72)
                          · skip
                            refine r_aload_n K dX6_pass_150 0 rfl rfl ?_
                            refine r_get (v := .ref (ad 21 24)) K fd_X6_68 rfl rfl rfl dX6_pass_151 ?_
                            refine r_bipush (v := nI 6) K dX6_pass_154 (by decide) ?_
                            refine r_aload_n K dX6_pass_156 0 rfl rfl ?_
                            refine r_get (v := .int (nI (τ1 12 0 0))) K fd_X6_120 rfl rfl rfl dX6_pass_157 ?_
                            refine r_imul (v := nI (6 * (τ1 12 0 0))) K dX6_pass_160 (pk_mul _ _) ?_
                            refine r_iload_n K dX6_pass_161 3 rfl rfl ?_
                            refine r_iadd (v := nI ((6 * (τ1 12 0 0)) + j)) K dX6_pass_162 (nI_add _ _) ?_
                            refine r_aload_n K dX6_pass_163 0 rfl rfl ?_
                            refine r_get (v := .ref (ad 21 10)) K fd_X6_37 rfl rfl rfl dX6_pass_164 ?_
                            refine r_iload_n K dX6_pass_167 3 rfl rfl ?_
                            refine r_iald (j := j) (v := nI ((mhF τ1) 4 j 0)) K rfl rfl rfl (by omega) (by decide) rfl dX6_pass_168 ?_
                            refine r_iast (j := (6 * (τ1 12 0 0)) + j) K rfl rfl rfl (by omega) (by decide) rfl dX6_pass_169 ?_
                            refine r_mu (u_21_24 (a := j) (b := τ1 12 0 0) (by omega)) ?_
                            show WW g z 4 0 0 ad (Wz z ad σ (su (vo (su (mhF τ1) 6 0 0 (τ1 6 0 0 + mhO τ1 0)) j) 7 j (τ1 12 0 0 + 1) ((mhF τ1) 4 j 0)) o) 170 [(0, .ref (ad 20 0)), (1, .int (nI p)), (2, .int (nI i)), (3, .int (nI j))] []
                            have e : su (vo (su (mhF τ1) 6 0 0 (τ1 6 0 0 + mhO τ1 0)) j) 7 j (τ1 12 0 0 + 1) (mhF τ1 4 j 0) = vo (su (mhF τ1) 6 0 0 (τ1 6 0 0 + mhO τ1 0)) (j + 1) := vo_1
                            rw [e]
                            show WW g z 4 0 0 ad (Wz z ad σ (vo (su (mhF τ1) 6 0 0 (τ1 6 0 0 + mhO τ1 0)) (j + 1)) o) 170 [(0, .ref (ad 20 0)), (1, .int (nI p)), (2, .int (nI i)), (3, .int (nI j))] []
                            refine r_iinc (v := nI (j + 1)) (lv' := [(3, .int (nI (j + 1))), (0, .ref (ad 20 0)), (1, .int (nI p)), (2, .int (nI i))]) K dX6_pass_170 3 rfl (ic_1 _) (by decide) rfl ?_
                            refine r_goto K dX6_pass_173 142 (by decide) ?_
                            refine r_lv (lv' := [(0, .ref (ad 20 0)), (1, .int (nI p)), (2, .int (nI i)), (3, .int (nI (j + 1)))]) [1, 2, 3, 0] rfl ?_
                            exact ih_lc (j + 1) (by omega) (by omega)
                      refine r_lv (lv' := [(0, .ref (ad 20 0)), (1, .int (nI p)), (2, .int (nI i)), (3, .int (nI 0))]) [1, 2, 3, 0] rfl ?_
                      exact lc (τ1 0 0 0 - (0) + 1) 0 (by omega) (by omega)
                    · skip
                      refine r_aload_n K dX6_pass_63 0 rfl rfl ?_
                      refine r_get (v := .ref (ad 21 9)) K fd_X6_34 rfl rfl rfl dX6_pass_64 ?_
                      refine r_iload_n K dX6_pass_67 3 rfl rfl ?_
                      refine r_dup2 K dX6_pass_68 rfl rfl ?_
                      refine r_iald (j := j) (v := nI (τ1 3 j 0)) K (rfl) rfl rfl (by omega) (by decide) (by show nI _ = nI _; exact congrArg nI (if_neg (fun q => absurd q.2.1 (Nat.lt_irrefl j)))) dX6_pass_69 ?_
                      refine r_aload_n K dX6_pass_70 0 rfl rfl ?_
                      refine r_get (v := .ref (ad 21 6)) K fd_X6_25 rfl rfl rfl dX6_pass_71 ?_
                      refine r_iload_n K dX6_pass_74 3 rfl rfl ?_
                      refine r_iald (j := j) (v := nI (τ1 1 j 5)) K rfl rfl rfl (by omega) (by decide) rfl dX6_pass_75 ?_
                      refine r_iadd (v := nI ((τ1 3 j 0) + (τ1 1 j 5))) K dX6_pass_76 (nI_add _ _) ?_
                      refine r_iast (j := j) K rfl rfl rfl (by omega) (by decide) rfl dX6_pass_77 ?_
                      refine r_mu u_21_9 ?_
                      show WW g z 4 0 0 ad (Wz z ad σ (su (mra τ1 j) 3 j 0 ((τ1 3 j 0) + (τ1 1 j 5))) o) 78 [(0, .ref (ad 20 0)), (1, .int (nI p)), (2, .int (nI i)), (3, .int (nI j))] []
                      refine r_aload_n K dX6_pass_78 0 rfl rfl ?_
                      refine r_dup K dX6_pass_79 rfl ?_
                      refine r_get (v := .int (nI ((mra τ1 j) 12 1 0))) K fd_X6_148 rfl rfl rfl dX6_pass_80 ?_
                      refine r_aload_n K dX6_pass_83 0 rfl rfl ?_
                      refine r_get (v := .ref (ad 21 6)) K fd_X6_25 rfl rfl rfl dX6_pass_84 ?_
                      refine r_iload_n K dX6_pass_87 3 rfl rfl ?_
                      refine r_iald (j := j) (v := nI (τ1 1 j 5)) K rfl rfl rfl (by omega) (by decide) rfl dX6_pass_88 ?_
                      show WW g z 4 0 0 ad (Wz z ad σ (su (mra τ1 j) 3 j 0 ((τ1 3 j 0) + (τ1 1 j 5))) o) 89 [(0, .ref (ad 20 0)), (1, .int (nI p)), (2, .int (nI i)), (3, .int (nI j))] [.int (nI (τ1 1 j 5)), .int (nI (τ1 12 1 0 + sumT (fun b => τ1 1 b 5) j)), .ref (ad 20 0)]
                      refine r_iadd (v := nI ((τ1 12 1 0 + sumT (fun b => τ1 1 b 5) j) + (τ1 1 j 5))) K dX6_pass_89 (nI_add _ _) ?_
                      refine r_put K fd_X6_148 rfl rfl rfl rfl (Nat.le_of_ble_eq_true rfl) rfl dX6_pass_90 ?_
                      refine r_mu (u_20_21) ?_
                      show WW g z 4 0 0 ad (Wz z ad σ (su (su (mra τ1 j) 3 j 0 ((τ1 3 j 0) + (τ1 1 j 5))) 12 1 0 ((τ1 12 1 0 + sumT (fun b => τ1 1 b 5) j) + (τ1 1 j 5))) o) 93 [(0, .ref (ad 20 0)), (1, .int (nI p)), (2, .int (nI i)), (3, .int (nI j))] []
                      refine r_aload_n K dX6_pass_93 0 rfl rfl ?_
                      refine r_get (v := .ref (ad 21 23)) K fd_X6_65 rfl rfl rfl dX6_pass_94 ?_
                      refine r_bipush (v := nI 6) K dX6_pass_97 (by decide) ?_
                      refine r_aload_n K dX6_pass_99 0 rfl rfl ?_
                      refine r_get (v := .int (nI (τ1 12 0 0))) K fd_X6_120 rfl rfl rfl dX6_pass_100 ?_
                      refine r_imul (v := nI (6 * (τ1 12 0 0))) K dX6_pass_103 (pk_mul _ _) ?_
                      refine r_iload_n K dX6_pass_104 3 rfl rfl ?_
                      refine r_iadd (v := nI ((6 * (τ1 12 0 0)) + j)) K dX6_pass_105 (nI_add _ _) ?_
                      refine r_aload_n K dX6_pass_106 0 rfl rfl ?_
                      refine r_get (v := .ref (ad 21 6)) K fd_X6_25 rfl rfl rfl dX6_pass_107 ?_
                      refine r_iload_n K dX6_pass_110 3 rfl rfl ?_
                      refine r_iald (j := j) (v := nI (τ1 1 j 5)) K rfl rfl rfl (by omega) (by decide) rfl dX6_pass_111 ?_
                      refine r_iast (j := (6 * (τ1 12 0 0)) + j) K rfl rfl rfl (by omega) (by decide) rfl dX6_pass_112 ?_
                      refine r_mu (u_21_23 (a := j) (b := τ1 12 0 0) (by omega)) ?_
                      show WW g z 4 0 0 ad (Wz z ad σ (su (su (su (mra τ1 j) 3 j 0 ((τ1 3 j 0) + (τ1 1 j 5))) 12 1 0 ((τ1 12 1 0 + sumT (fun b => τ1 1 b 5) j) + (τ1 1 j 5))) 5 j (τ1 12 0 0 + 1) (τ1 1 j 5)) o) 113 [(0, .ref (ad 20 0)), (1, .int (nI p)), (2, .int (nI i)), (3, .int (nI j))] []
                      rw [mra_1]
                      show WW g z 4 0 0 ad (Wz z ad σ (mra τ1 (j + 1)) o) 113 [(0, .ref (ad 20 0)), (1, .int (nI p)), (2, .int (nI i)), (3, .int (nI j))] []
                      refine r_iinc (v := nI (j + 1)) (lv' := [(3, .int (nI (j + 1))), (0, .ref (ad 20 0)), (1, .int (nI p)), (2, .int (nI i))]) K dX6_pass_113 3 rfl (ic_1 _) (by decide) rfl ?_
                      refine r_goto K dX6_pass_116 55 (by decide) ?_
                      refine r_lv (lv' := [(0, .ref (ad 20 0)), (1, .int (nI p)), (2, .int (nI i)), (3, .int (nI (j + 1)))]) [1, 2, 3, 0] rfl ?_
                      exact ih_lb (j + 1) (by omega) (by omega)
                refine r_lv (lv' := [(0, .ref (ad 20 0)), (1, .int (nI p)), (2, .int (nI i)), (3, .int (nI 0))]) [1, 2, 3, 0] rfl ?_
                exact lb (τ1 0 0 0 - (0) + 1) 0 (by omega) (by omega)
          refine r_lv (lv' := [(0, .ref (ad 20 0)), (1, .int (nI p)), (2, .int (nI 0))]) [1, 2, 0] rfl ?_
          exact lp (p - (0) + 1) 0 (su τ 72 0 0 0) (by omega) (by omega) (by exact agr.rf.sx (by decide)) (by exact Q2) (by rfl)
        · skip
          exfalso; omega
      · skip
        refine r_iconst (v := nI 2) K dX6_pass_33 (by decide) ?_
        refine r_goto K dX6_pass_34 38 (by decide) ?_
        refine r_callV (st := []) K (k_X6_fails (c := 2) hl (by omega)) cw_X6_114 wd_1438 wd_24 (by decide) (by decide) rfl rfl rfl rfl (Nat.le_of_ble_eq_true rfl) (by decide) (by decide) dX6_pass_38 ?_
        rintro _ _ _ ⟨rfl, rfl, rfl⟩
        show WW g z 4 0 0 ad (Wz z ad σ (su τ 72 0 0 2) o) 41 [(0, .ref (ad 20 0)), (1, .int (nI p))] [.int (nI 1)]
        refine r_if_eq K dX6_pass_41 46 (1 = 0) (n0_eq (by omega)) (by decide) (fun c_41 => ?_) (fun c_41 => ?_)
        · skip
          exfalso; omega
        · skip
          refine r_iconst (v := nI 0) K dX6_pass_44 (by decide) ?_
          exact r_iret K (by decide) (by decide) (okM_g (c := 1) Q2 (by unfold cP; rw [if_pos q_8]; exact (if_neg (fun q => absurd q.2 (by rw [jN_n (by omega)]; omega))).symm)) dX6_pass_45
  · skip
    refine r_iconst (v := nI 1) K dX6_pass_11 (by decide) ?_
    refine r_goto K dX6_pass_12 38 (by decide) ?_
    refine r_callV (st := []) K (k_X6_fails (c := 1) hl (by omega)) cw_X6_114 wd_1438 wd_24 (by decide) (by decide) rfl rfl rfl rfl (Nat.le_of_ble_eq_true rfl) (by decide) (by decide) dX6_pass_38 ?_
    rintro _ _ _ ⟨rfl, rfl, rfl⟩
    show WW g z 4 0 0 ad (Wz z ad σ (su τ 72 0 0 1) o) 41 [(0, .ref (ad 20 0)), (1, .int (x))] [.int (nI 1)]
    refine r_if_eq K dX6_pass_41 46 (1 = 0) (n0_eq (by omega)) (by decide) (fun c_41 => ?_) (fun c_41 => ?_)
    · skip
      exfalso; omega
    · skip
      refine r_iconst (v := nI 0) K dX6_pass_44 (by decide) ?_
      exact r_iret K (by decide) (by decide) (okM_g (c := 0) Q2 (by unfold cP; exact (if_neg c_8).symm)) dX6_pass_45
