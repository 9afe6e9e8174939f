set_option maxRecDepth 100000 in
set_option maxHeartbeats 4000000 in
/-- volumeOf -/
theorem case_14 {z : Zx} {g : Gx} {tb : List ExceptionTableEntry} {mc ms n k b L i : Nat} {xs : Nat → Int32} {ad0 ad : Nm} {μ0 : Ce} {ok : OkT} {ex : String → Prop} {σ : Sg} {o : Int64 × UInt64} (K : Kn g z cL_law 9 yL_law (some .boolean) tb 12 mc ms ad0 μ0 ok ex) (hl : (gl g).stackTraces = false) (X : Scr z g b L xs) (hL : L ≤ 4000) (hi : i + 6 ≤ L) (Q : IR σ) (C : ICo σ) (M : IMo σ) (hn : n + 20 ≤ mc) (hk : k + 400 ≤ ms) (kk : ∀ ad' ρ o', IR ρ → ICo ρ → IMo ρ → WW g z 9 (n + 20) (k + 400) ad' (Wz z ad' ρ ρ o') 2423 [(0, .ref b), (1, .ref (ad' 0 0)), (2, .ref (ad' 20 0)), (3, .ref (ad' 19 0)), (4, .ref (ad' 19 1)), (5, .int (nI i))] []) : WW g z 9 n k ad (Wz z ad σ σ o) 1038 [(0, .ref b), (1, .ref (ad 0 0)), (2, .ref (ad 20 0)), (3, .ref (ad 19 0)), (4, .ref (ad 19 1)), (5, .int (nI i))] [] := by
  show WW g z 9 n k ad (Wz z ad σ σ o) 1038 [(0, .ref b), (1, .ref (ad 0 0)), (2, .ref (ad 20 0)), (3, .ref (ad 19 0)), (4, .ref (ad 19 1)), (5, .int (nI i))] []
  refine r_aload_n K dL_law_1038 1 rfl rfl ?_
  refine r_aload_n K dL_law_1039 0 rfl rfl ?_
  refine r_iload K dL_law_1040 5 rfl ?_
  refine r_iconst (v := nI 1) K dL_law_1042 (by decide) ?_
  refine r_iadd (v := nI (i + 1)) K dL_law_1043 (nI_add _ _) ?_
  refine r_sld (j := i + 1) K X rfl (by omega) (by omega) dL_law_1044 ?_
  refine r_aload_n K dL_law_1045 3 rfl rfl ?_
  refine r_callSH (st := []) K (k_L_volumeOf (σ := σ) (τ := σ) (o := o) hl Q C) wd_745 wd_47 wd_747 wd_746 ⟨by decide, by decide, (by decide +kernel : (parseMethodDescriptor yL_volumeOf.desc).map (fun d => d.parameters.length) = some 3)⟩ (by decide) (by decide) rfl (Nat.le_of_ble_eq_true rfl) (by omega) (by omega) dL_law_1046 ?_
  rintro _ ad1 _ ⟨rfl, hK1, σ1, o1, rfl, hA1, hC1, hv1⟩
  rw [ite_sg] at hA1
  refine r_eq (lv' := [(0, .ref b), (1, .ref (ad1 0 0)), (2, .ref (ad1 20 0)), (3, .ref (ad1 19 0)), (4, .ref (ad1 19 1)), (5, .int (nI i))]) rfl rfl (by rw [hK1.1, hK1.2.1, hK1.2.2.1, hK1.2.2.2]) rfl ?_
  show WW g z 9 (n + 1) (k + 6) ad1 (Wz z ad1 σ1 σ o1) 1049 [(0, .ref b), (1, .ref (ad1 0 0)), (2, .ref (ad1 20 0)), (3, .ref (ad1 19 0)), (4, .ref (ad1 19 1)), (5, .int (nI i))] [.int (nI (cB σ (xs (i + 1))))]
  refine r_istore (lv' := [(6, .int (nI (cB σ (xs (i + 1))))), (0, .ref b), (1, .ref (ad1 0 0)), (2, .ref (ad1 20 0)), (3, .ref (ad1 19 0)), (4, .ref (ad1 19 1)), (5, .int (nI i))]) K dL_law_1049 (by decide) rfl ?_
  refine r_aload_n K dL_law_1051 3 rfl rfl ?_
  refine r_aload_n K dL_law_1052 1 rfl rfl ?_
  refine r_iload K dL_law_1053 6 rfl ?_
  refine r_iconst (v := nI 1) K dL_law_1055 (by decide) ?_
  refine r_iadd (v := nI (i + 1)) K dL_law_1056 (nI_add _ _) ?_
  refine r_sld (j := i + 1) K X rfl (by omega) (by omega) dL_law_1057 ?_
  refine r_callV (st := []) K (k_X6_volumeOf (σ := σ1) (τ := σ) (o := o1) hl Q M) cw_L_185 wd_1520 wd_1521 (by decide) (by decide) rfl rfl rfl rfl (Nat.le_of_ble_eq_true rfl) (by omega) (by omega) dL_law_1058 ?_
  rintro _ _ _ ⟨x1, rfl, hx1, rfl, τ2, rfl, hA2, hM2, h72⟩
  show WW g z 9 (n + 1) (k + 6) ad1 (Wz z ad1 σ1 τ2 o1) 1061 [(6, .int (nI (cB σ (xs (i + 1))))), (0, .ref b), (1, .ref (ad1 0 0)), (2, .ref (ad1 20 0)), (3, .ref (ad1 19 0)), (4, .ref (ad1 19 1)), (5, .int (nI i))] [.int (x1)]
  refine r_istore (lv' := [(7, .int (x1)), (6, .int (nI (cB σ (xs (i + 1))))), (0, .ref b), (1, .ref (ad1 0 0)), (2, .ref (ad1 20 0)), (3, .ref (ad1 19 0)), (4, .ref (ad1 19 1)), (5, .int (nI i))]) K dL_law_1061 (by decide) rfl ?_
  refine r_aload_n K dL_law_1063 4 rfl rfl ?_
  refine r_callV (st := []) K (k_X6_thrown (σ := σ1) (τ := τ2) (o := o1) hl) cw_L_134 wd_1422 wd_1423 (by decide) (by decide) rfl rfl rfl rfl (Nat.le_of_ble_eq_true rfl) (by omega) (by omega) dL_law_1064 ?_
  rintro _ _ _ ⟨rfl, rfl, rfl⟩
  refine r_eq (st' := [.int (nI (cB σ (xs (i + 1))))]) rfl rfl rfl (by rw [h72]; rfl) ?_
  show WW g z 9 (n + 1) (k + 6) ad1 (Wz z ad1 σ1 τ2 o1) 1067 [(7, .int (x1)), (6, .int (nI (cB σ (xs (i + 1))))), (0, .ref b), (1, .ref (ad1 0 0)), (2, .ref (ad1 20 0)), (3, .ref (ad1 19 0)), (4, .ref (ad1 19 1)), (5, .int (nI i))] [.int (nI (cB σ (xs (i + 1))))]
  refine r_iload K dL_law_1067 1 rfl ?_
  refine r_icmp_eq K dL_law_1069 1074 True (iff_of_true rfl trivial) (by decide) (fun _ => ?_) (fun c => absurd trivial c)
  refine r_iload K dL_law_1074 1 rfl ?_
  have hcd : (cB σ (xs (i + 1))) < 2 ^ 31 := by unfold cB; (repeat' split) <;> decide
  refine r_if_ne K dL_law_1076 1091 ((cB σ (xs (i + 1))) = 0) (n0_eq hcd) (by decide) (fun c_1076 => ?_) (fun c_1076 => ?_)
  · skip
    refine r_goto K dL_law_1091 2423 (by decide) ?_
    have hG : IR σ := Q
    obtain ⟨ρ, hW, hQ3, hC3, hM3⟩ := mg_all (z := z) (ad := ad1) (o := o1) hG hA1 hA2 hC1 hM2
    refine r_mu hW ?_
    refine r_lv (lv' := [(0, .ref b), (1, .ref (ad1 0 0)), (2, .ref (ad1 20 0)), (3, .ref (ad1 19 0)), (4, .ref (ad1 19 1)), (5, .int (nI i))]) [2, 3, 4, 5, 6, 7] rfl ?_
    exact r_wide (by omega) (by omega) (kk ad1 ρ o1 hQ3 hC3 hM3)
  · skip
    refine r_aload_n K dL_law_1079 5 rfl rfl ?_
    refine r_iconst (v := nI 0) K dL_law_1080 (by decide) ?_
    refine r_lald (j := 0) (v := o1.1) K rfl rfl rfl (by decide) (by decide) rfl dL_law_1081 ?_
    refine r_iload K dL_law_1082 0 rfl ?_
    refine r_i2l (v := ((x1).toInt64)) K dL_law_1084 rfl ?_
    refine r_lcmpE K (by rw [hv1 c_1076, hx1 c_1076]) dL_law_1085 ?_
    refine r_if_eq K dL_law_1086 1091 (0 = 0) (n0_eq (by omega)) (by decide) (fun c_1086 => ?_) (fun c_1086 => ?_)
    · skip
      refine r_goto K dL_law_1091 2423 (by decide) ?_
      have hG : IR σ := Q
      obtain ⟨ρ, hW, hQ3, hC3, hM3⟩ := mg_all (z := z) (ad := ad1) (o := o1) hG hA1 hA2 hC1 hM2
      refine r_mu hW ?_
      refine r_lv (lv' := [(0, .ref b), (1, .ref (ad1 0 0)), (2, .ref (ad1 20 0)), (3, .ref (ad1 19 0)), (4, .ref (ad1 19 1)), (5, .int (nI i))]) [2, 3, 4, 5, 6, 7] rfl ?_
      exact r_wide (by omega) (by omega) (kk ad1 ρ o1 hQ3 hC3 hM3)
    · skip
      exfalso; omega
set_option maxRecDepth 100000 in
set_option maxHeartbeats 4000000 in
/-- levelOf -/
theorem case_15 {z : Zx} {g : Gx} {tb : List ExceptionTableEntry} {mc ms n k b L i : Nat} {xs : Nat → Int32} {ad0 ad : Nm} {μ0 : Ce} {ok : OkT} {ex : String → Prop} {σ : Sg} {o : Int64 × UInt64} (K : Kn g z cL_law 9 yL_law (some .boolean) tb 12 mc ms ad0 μ0 ok ex) (hl : (gl g).stackTraces = false) (X : Scr z g b L xs) (hL : L ≤ 4000) (hi : i + 6 ≤ L) (Q : IR σ) (C : ICo σ) (M : IMo σ) (hn : n + 20 ≤ mc) (hk : k + 400 ≤ ms) (kk : ∀ ad' ρ o', IR ρ → ICo ρ → IMo ρ → WW g z 9 (n + 20) (k + 400) ad' (Wz z ad' ρ ρ o') 2423 [(0, .ref b), (1, .ref (ad' 0 0)), (2, .ref (ad' 20 0)), (3, .ref (ad' 19 0)), (4, .ref (ad' 19 1)), (5, .int (nI i))] []) : WW g z 9 n k ad (Wz z ad σ σ o) 1094 [(0, .ref b), (1, .ref (ad 0 0)), (2, .ref (ad 20 0)), (3, .ref (ad 19 0)), (4, .ref (ad 19 1)), (5, .int (nI i))] [] := by
  show WW g z 9 n k ad (Wz z ad σ σ o) 1094 [(0, .ref b), (1, .ref (ad 0 0)), (2, .ref (ad 20 0)), (3, .ref (ad 19 0)), (4, .ref (ad 19 1)), (5, .int (nI i))] []
  refine r_aload_n K dL_law_1094 1 rfl rfl ?_
  refine r_aload_n K dL_law_1095 0 rfl rfl ?_
  refine r_iload K dL_law_1096 5 rfl ?_
  refine r_iconst (v := nI 1) K dL_law_1098 (by decide) ?_
  refine r_iadd (v := nI (i + 1)) K dL_law_1099 (nI_add _ _) ?_
  refine r_sld (j := i + 1) K X rfl (by omega) (by omega) dL_law_1100 ?_
  refine r_aload_n K dL_law_1101 3 rfl rfl ?_
  refine r_callSH (st := []) K (k_L_levelOf (σ := σ) (τ := σ) (o := o) hl Q C) wd_752 wd_47 wd_754 wd_753 ⟨by decide, by decide, (by decide +kernel : (parseMethodDescriptor yL_levelOf.desc).map (fun d => d.parameters.length) = some 3)⟩ (by decide) (by decide) rfl (Nat.le_of_ble_eq_true rfl) (by omega) (by omega) dL_law_1102 ?_
  rintro _ ad1 _ ⟨rfl, hK1, σ1, o1, rfl, hA1, hC1, hv1⟩
  rw [ite_sg] at hA1
  refine r_eq (lv' := [(0, .ref b), (1, .ref (ad1 0 0)), (2, .ref (ad1 20 0)), (3, .ref (ad1 19 0)), (4, .ref (ad1 19 1)), (5, .int (nI i))]) rfl rfl (by rw [hK1.1, hK1.2.1, hK1.2.2.1, hK1.2.2.2]) rfl ?_
  show WW g z 9 (n + 1) (k + 6) ad1 (Wz z ad1 σ1 σ o1) 1105 [(0, .ref b), (1, .ref (ad1 0 0)), (2, .ref (ad1 20 0)), (3, .ref (ad1 19 0)), (4, .ref (ad1 19 1)), (5, .int (nI i))] [.int (nI (cB σ (xs (i + 1))))]
  refine r_istore (lv' := [(6, .int (nI (cB σ (xs (i + 1))))), (0, .ref b), (1, .ref (ad1 0 0)), (2, .ref (ad1 20 0)), (3, .ref (ad1 19 0)), (4, .ref (ad1 19 1)), (5, .int (nI i))]) K dL_law_1105 (by decide) rfl ?_
  refine r_aload_n K dL_law_1107 3 rfl rfl ?_
  refine r_aload_n K dL_law_1108 1 rfl rfl ?_
  refine r_iload K dL_law_1109 6 rfl ?_
  refine r_iconst (v := nI 1) K dL_law_1111 (by decide) ?_
  refine r_iadd (v := nI (i + 1)) K dL_law_1112 (nI_add _ _) ?_
  refine r_sld (j := i + 1) K X rfl (by omega) (by omega) dL_law_1113 ?_
  refine r_callV (st := []) K (k_X6_levelOf (σ := σ1) (τ := σ) (o := o1) hl Q M) cw_L_188 wd_1524 wd_1525 (by decide) (by decide) rfl rfl rfl rfl (Nat.le_of_ble_eq_true rfl) (by omega) (by omega) dL_law_1114 ?_
  rintro _ _ _ ⟨x1, rfl, hx1, rfl, τ2, rfl, hA2, hM2, h72⟩
  show WW g z 9 (n + 1) (k + 6) ad1 (Wz z ad1 σ1 τ2 o1) 1117 [(6, .int (nI (cB σ (xs (i + 1))))), (0, .ref b), (1, .ref (ad1 0 0)), (2, .ref (ad1 20 0)), (3, .ref (ad1 19 0)), (4, .ref (ad1 19 1)), (5, .int (nI i))] [.int (x1)]
  refine r_istore (lv' := [(7, .int (x1)), (6, .int (nI (cB σ (xs (i + 1))))), (0, .ref b), (1, .ref (ad1 0 0)), (2, .ref (ad1 20 0)), (3, .ref (ad1 19 0)), (4, .ref (ad1 19 1)), (5, .int (nI i))]) K dL_law_1117 (by decide) rfl ?_
  refine r_aload_n K dL_law_1119 4 rfl rfl ?_
  refine r_callV (st := []) K (k_X6_thrown (σ := σ1) (τ := τ2) (o := o1) hl) cw_L_134 wd_1422 wd_1423 (by decide) (by decide) rfl rfl rfl rfl (Nat.le_of_ble_eq_true rfl) (by omega) (by omega) dL_law_1120 ?_
  rintro _ _ _ ⟨rfl, rfl, rfl⟩
  refine r_eq (st' := [.int (nI (cB σ (xs (i + 1))))]) rfl rfl rfl (by rw [h72]; rfl) ?_
  show WW g z 9 (n + 1) (k + 6) ad1 (Wz z ad1 σ1 τ2 o1) 1123 [(7, .int (x1)), (6, .int (nI (cB σ (xs (i + 1))))), (0, .ref b), (1, .ref (ad1 0 0)), (2, .ref (ad1 20 0)), (3, .ref (ad1 19 0)), (4, .ref (ad1 19 1)), (5, .int (nI i))] [.int (nI (cB σ (xs (i + 1))))]
  refine r_iload K dL_law_1123 1 rfl ?_
  refine r_icmp_eq K dL_law_1125 1130 True (iff_of_true rfl trivial) (by decide) (fun _ => ?_) (fun c => absurd trivial c)
  refine r_iload K dL_law_1130 1 rfl ?_
  have hcd : (cB σ (xs (i + 1))) < 2 ^ 31 := by unfold cB; (repeat' split) <;> decide
  refine r_if_ne K dL_law_1132 1147 ((cB σ (xs (i + 1))) = 0) (n0_eq hcd) (by decide) (fun c_1132 => ?_) (fun c_1132 => ?_)
  · skip
    refine r_goto K dL_law_1147 2423 (by decide) ?_
    have hG : IR σ := Q
    obtain ⟨ρ, hW, hQ3, hC3, hM3⟩ := mg_all (z := z) (ad := ad1) (o := o1) hG hA1 hA2 hC1 hM2
    refine r_mu hW ?_
    refine r_lv (lv' := [(0, .ref b), (1, .ref (ad1 0 0)), (2, .ref (ad1 20 0)), (3, .ref (ad1 19 0)), (4, .ref (ad1 19 1)), (5, .int (nI i))]) [2, 3, 4, 5, 6, 7] rfl ?_
    exact r_wide (by omega) (by omega) (kk ad1 ρ o1 hQ3 hC3 hM3)
  · skip
    refine r_aload_n K dL_law_1135 5 rfl rfl ?_
    refine r_iconst (v := nI 0) K dL_law_1136 (by decide) ?_
    refine r_lald (j := 0) (v := o1.1) K rfl rfl rfl (by decide) (by decide) rfl dL_law_1137 ?_
    refine r_iload K dL_law_1138 0 rfl ?_
    refine r_i2l (v := ((x1).toInt64)) K dL_law_1140 rfl ?_
    refine r_lcmpE K (by rw [hv1 c_1132, hx1 c_1132]) dL_law_1141 ?_
    refine r_if_eq K dL_law_1142 1147 (0 = 0) (n0_eq (by omega)) (by decide) (fun c_1142 => ?_) (fun c_1142 => ?_)
    · skip
      refine r_goto K dL_law_1147 2423 (by decide) ?_
      have hG : IR σ := Q
      obtain ⟨ρ, hW, hQ3, hC3, hM3⟩ := mg_all (z := z) (ad := ad1) (o := o1) hG hA1 hA2 hC1 hM2
      refine r_mu hW ?_
      refine r_lv (lv' := [(0, .ref b), (1, .ref (ad1 0 0)), (2, .ref (ad1 20 0)), (3, .ref (ad1 19 0)), (4, .ref (ad1 19 1)), (5, .int (nI i))]) [2, 3, 4, 5, 6, 7] rfl ?_
      exact r_wide (by omega) (by omega) (kk ad1 ρ o1 hQ3 hC3 hM3)
    · skip
      exfalso; omega
set_option maxRecDepth 100000 in
set_option maxHeartbeats 4000000 in
/-- streetVolume -/
theorem case_16 {z : Zx} {g : Gx} {tb : List ExceptionTableEntry} {mc ms n k b L i : Nat} {xs : Nat → Int32} {ad0 ad : Nm} {μ0 : Ce} {ok : OkT} {ex : String → Prop} {σ : Sg} {o : Int64 × UInt64} (K : Kn g z cL_law 9 yL_law (some .boolean) tb 12 mc ms ad0 μ0 ok ex) (hl : (gl g).stackTraces = false) (X : Scr z g b L xs) (hL : L ≤ 4000) (hi : i + 6 ≤ L) (Q : IR σ) (C : ICo σ) (M : IMo σ) (hn : n + 20 ≤ mc) (hk : k + 400 ≤ ms) (kk : ∀ ad' ρ o', IR ρ → ICo ρ → IMo ρ → WW g z 9 (n + 20) (k + 400) ad' (Wz z ad' ρ ρ o') 2423 [(0, .ref b), (1, .ref (ad' 0 0)), (2, .ref (ad' 20 0)), (3, .ref (ad' 19 0)), (4, .ref (ad' 19 1)), (5, .int (nI i))] []) : WW g z 9 n k ad (Wz z ad σ σ o) 1150 [(0, .ref b), (1, .ref (ad 0 0)), (2, .ref (ad 20 0)), (3, .ref (ad 19 0)), (4, .ref (ad 19 1)), (5, .int (nI i))] [] := by
  show WW g z 9 n k ad (Wz z ad σ σ o) 1150 [(0, .ref b), (1, .ref (ad 0 0)), (2, .ref (ad 20 0)), (3, .ref (ad 19 0)), (4, .ref (ad 19 1)), (5, .int (nI i))] []
  refine r_aload_n K dL_law_1150 1 rfl rfl ?_
  refine r_aload_n K dL_law_1151 0 rfl rfl ?_
  refine r_iload K dL_law_1152 5 rfl ?_
  refine r_iconst (v := nI 1) K dL_law_1154 (by decide) ?_
  refine r_iadd (v := nI (i + 1)) K dL_law_1155 (nI_add _ _) ?_
  refine r_sld (j := i + 1) K X rfl (by omega) (by omega) dL_law_1156 ?_
  refine r_aload_n K dL_law_1157 3 rfl rfl ?_
  refine r_callSH (st := []) K (k_L_streetVolume (σ := σ) (τ := σ) (o := o) hl Q C) wd_759 wd_47 wd_761 wd_760 ⟨by decide, by decide, (by decide +kernel : (parseMethodDescriptor yL_streetVolume.desc).map (fun d => d.parameters.length) = some 3)⟩ (by decide) (by decide) rfl (Nat.le_of_ble_eq_true rfl) (by omega) (by omega) dL_law_1158 ?_
  rintro _ ad1 _ ⟨rfl, hK1, σ1, o1, rfl, hA1, hC1, hv1⟩
  rw [ite_sg] at hA1
  refine r_eq (lv' := [(0, .ref b), (1, .ref (ad1 0 0)), (2, .ref (ad1 20 0)), (3, .ref (ad1 19 0)), (4, .ref (ad1 19 1)), (5, .int (nI i))]) rfl rfl (by rw [hK1.1, hK1.2.1, hK1.2.2.1, hK1.2.2.2]) rfl ?_
  show WW g z 9 (n + 1) (k + 6) ad1 (Wz z ad1 σ1 σ o1) 1161 [(0, .ref b), (1, .ref (ad1 0 0)), (2, .ref (ad1 20 0)), (3, .ref (ad1 19 0)), (4, .ref (ad1 19 1)), (5, .int (nI i))] [.int (nI (cB σ (xs (i + 1))))]
  refine r_istore (lv' := [(6, .int (nI (cB σ (xs (i + 1))))), (0, .ref b), (1, .ref (ad1 0 0)), (2, .ref (ad1 20 0)), (3, .ref (ad1 19 0)), (4, .ref (ad1 19 1)), (5, .int (nI i))]) K dL_law_1161 (by decide) rfl ?_
  refine r_aload_n K dL_law_1163 3 rfl rfl ?_
  refine r_aload_n K dL_law_1164 1 rfl rfl ?_
  refine r_iload K dL_law_1165 6 rfl ?_
  refine r_iconst (v := nI 1) K dL_law_1167 (by decide) ?_
  refine r_iadd (v := nI (i + 1)) K dL_law_1168 (nI_add _ _) ?_
  refine r_sld (j := i + 1) K X rfl (by omega) (by omega) dL_law_1169 ?_
  refine r_callV (st := []) K (k_X6_streetVolume (σ := σ1) (τ := σ) (o := o1) hl Q M) cw_L_191 wd_1528 wd_1529 (by decide) (by decide) rfl rfl rfl rfl (Nat.le_of_ble_eq_true rfl) (by omega) (by omega) dL_law_1170 ?_
  rintro _ _ _ ⟨x1, rfl, hx1, rfl, τ2, rfl, hA2, hM2, h72⟩
  show WW g z 9 (n + 1) (k + 6) ad1 (Wz z ad1 σ1 τ2 o1) 1173 [(6, .int (nI (cB σ (xs (i + 1))))), (0, .ref b), (1, .ref (ad1 0 0)), (2, .ref (ad1 20 0)), (3, .ref (ad1 19 0)), (4, .ref (ad1 19 1)), (5, .int (nI i))] [.int (x1)]
  refine r_istore (lv' := [(7, .int (x1)), (6, .int (nI (cB σ (xs (i + 1))))), (0, .ref b), (1, .ref (ad1 0 0)), (2, .ref (ad1 20 0)), (3, .ref (ad1 19 0)), (4, .ref (ad1 19 1)), (5, .int (nI i))]) K dL_law_1173 (by decide) rfl ?_
  refine r_aload_n K dL_law_1175 4 rfl rfl ?_
  refine r_callV (st := []) K (k_X6_thrown (σ := σ1) (τ := τ2) (o := o1) hl) cw_L_134 wd_1422 wd_1423 (by decide) (by decide) rfl rfl rfl rfl (Nat.le_of_ble_eq_true rfl) (by omega) (by omega) dL_law_1176 ?_
  rintro _ _ _ ⟨rfl, rfl, rfl⟩
  refine r_eq (st' := [.int (nI (cB σ (xs (i + 1))))]) rfl rfl rfl (by rw [h72]; rfl) ?_
  show WW g z 9 (n + 1) (k + 6) ad1 (Wz z ad1 σ1 τ2 o1) 1179 [(7, .int (x1)), (6, .int (nI (cB σ (xs (i + 1))))), (0, .ref b), (1, .ref (ad1 0 0)), (2, .ref (ad1 20 0)), (3, .ref (ad1 19 0)), (4, .ref (ad1 19 1)), (5, .int (nI i))] [.int (nI (cB σ (xs (i + 1))))]
  refine r_iload K dL_law_1179 1 rfl ?_
  refine r_icmp_eq K dL_law_1181 1186 True (iff_of_true rfl trivial) (by decide) (fun _ => ?_) (fun c => absurd trivial c)
  refine r_iload K dL_law_1186 1 rfl ?_
  have hcd : (cB σ (xs (i + 1))) < 2 ^ 31 := by unfold cB; (repeat' split) <;> decide
  refine r_if_ne K dL_law_1188 1203 ((cB σ (xs (i + 1))) = 0) (n0_eq hcd) (by decide) (fun c_1188 => ?_) (fun c_1188 => ?_)
  · skip
    refine r_goto K dL_law_1203 2423 (by decide) ?_
    have hG : IR σ := Q
    obtain ⟨ρ, hW, hQ3, hC3, hM3⟩ := mg_all (z := z) (ad := ad1) (o := o1) hG hA1 hA2 hC1 hM2
    refine r_mu hW ?_
    refine r_lv (lv' := [(0, .ref b), (1, .ref (ad1 0 0)), (2, .ref (ad1 20 0)), (3, .ref (ad1 19 0)), (4, .ref (ad1 19 1)), (5, .int (nI i))]) [2, 3, 4, 5, 6, 7] rfl ?_
    exact r_wide (by omega) (by omega) (kk ad1 ρ o1 hQ3 hC3 hM3)
  · skip
    refine r_aload_n K dL_law_1191 5 rfl rfl ?_
    refine r_iconst (v := nI 0) K dL_law_1192 (by decide) ?_
    refine r_lald (j := 0) (v := o1.1) K rfl rfl rfl (by decide) (by decide) rfl dL_law_1193 ?_
    refine r_iload K dL_law_1194 0 rfl ?_
    refine r_i2l (v := ((x1).toInt64)) K dL_law_1196 rfl ?_
    refine r_lcmpE K (by rw [hv1 c_1188, hx1 c_1188]) dL_law_1197 ?_
    refine r_if_eq K dL_law_1198 1203 (0 = 0) (n0_eq (by omega)) (by decide) (fun c_1198 => ?_) (fun c_1198 => ?_)
    · skip
      refine r_goto K dL_law_1203 2423 (by decide) ?_
      have hG : IR σ := Q
      obtain ⟨ρ, hW, hQ3, hC3, hM3⟩ := mg_all (z := z) (ad := ad1) (o := o1) hG hA1 hA2 hC1 hM2
      refine r_mu hW ?_
      refine r_lv (lv' := [(0, .ref b), (1, .ref (ad1 0 0)), (2, .ref (ad1 20 0)), (3, .ref (ad1 19 0)), (4, .ref (ad1 19 1)), (5, .int (nI i))]) [2, 3, 4, 5, 6, 7] rfl ?_
      exact r_wide (by omega) (by omega) (kk ad1 ρ o1 hQ3 hC3 hM3)
    · skip
      exfalso; omega
set_option maxRecDepth 100000 in
set_option maxHeartbeats 4000000 in
/-- rainTotal -/
theorem case_17 {z : Zx} {g : Gx} {tb : List ExceptionTableEntry} {mc ms n k b L i : Nat} {xs : Nat → Int32} {ad0 ad : Nm} {μ0 : Ce} {ok : OkT} {ex : String → Prop} {σ : Sg} {o : Int64 × UInt64} (K : Kn g z cL_law 9 yL_law (some .boolean) tb 12 mc ms ad0 μ0 ok ex) (hl : (gl g).stackTraces = false) (X : Scr z g b L xs) (hL : L ≤ 4000) (hi : i + 6 ≤ L) (Q : IR σ) (C : ICo σ) (M : IMo σ) (hn : n + 20 ≤ mc) (hk : k + 400 ≤ ms) (kk : ∀ ad' ρ o', IR ρ → ICo ρ → IMo ρ → WW g z 9 (n + 20) (k + 400) ad' (Wz z ad' ρ ρ o') 2423 [(0, .ref b), (1, .ref (ad' 0 0)), (2, .ref (ad' 20 0)), (3, .ref (ad' 19 0)), (4, .ref (ad' 19 1)), (5, .int (nI i))] []) : WW g z 9 n k ad (Wz z ad σ σ o) 1206 [(0, .ref b), (1, .ref (ad 0 0)), (2, .ref (ad 20 0)), (3, .ref (ad 19 0)), (4, .ref (ad 19 1)), (5, .int (nI i))] [] := by
  show WW g z 9 n k ad (Wz z ad σ σ o) 1206 [(0, .ref b), (1, .ref (ad 0 0)), (2, .ref (ad 20 0)), (3, .ref (ad 19 0)), (4, .ref (ad 19 1)), (5, .int (nI i))] []
  refine r_aload_n K dL_law_1206 1 rfl rfl ?_
  refine r_callV (st := []) K (k_X5_rainTotal (σ := σ) (τ := σ) (o := o) hl Q C) cw_L_192 wd_218 wd_219 (by decide) (by decide) rfl rfl rfl rfl (Nat.le_of_ble_eq_true rfl) (by omega) (by omega) dL_law_1207 ?_
  rintro _ ad1 _ ⟨-, rfl, hK1, σ1, rfl, hA1, hC1⟩
  refine r_eq (lv' := [(0, .ref b), (1, .ref (ad1 0 0)), (2, .ref (ad1 20 0)), (3, .ref (ad1 19 0)), (4, .ref (ad1 19 1)), (5, .int (nI i))]) rfl rfl (by rw [hK1.1, hK1.2.1, hK1.2.2.1, hK1.2.2.2]) rfl ?_
  show WW g z 9 n k ad1 (Wz z ad1 σ1 σ o) 1210 [(0, .ref b), (1, .ref (ad1 0 0)), (2, .ref (ad1 20 0)), (3, .ref (ad1 19 0)), (4, .ref (ad1 19 1)), (5, .int (nI i))] [.int (nI (σ 12 1 0))]
  refine r_aload_n K dL_law_1210 2 rfl rfl ?_
  refine r_callV (st := [.int (nI (σ 12 1 0))]) K (k_X6_rainTotal (σ := σ1) (τ := σ) (o := o) hl Q M) cw_L_195 wd_1532 wd_1533 (by decide) (by decide) rfl rfl rfl rfl (Nat.le_of_ble_eq_true rfl) (by omega) (by omega) dL_law_1211 ?_
  rintro _ _ _ ⟨x1, rfl, hx1, rfl, τ2, rfl, hA2, hM2, h72⟩
  show WW g z 9 n k ad1 (Wz z ad1 σ1 τ2 o) 1214 [(0, .ref b), (1, .ref (ad1 0 0)), (2, .ref (ad1 20 0)), (3, .ref (ad1 19 0)), (4, .ref (ad1 19 1)), (5, .int (nI i))] [.int (x1), .int (nI (σ 12 1 0))]
  refine r_icmp_eq K dL_law_1214 2423 True (iff_of_true (hx1 rfl).symm trivial) (by decide) (fun _ => ?_) (fun c => absurd trivial c)
  have hG : IR σ := Q
  obtain ⟨ρ, hW, hQ3, hC3, hM3⟩ := mg_all (z := z) (ad := ad1) (o := o) hG hA1 hA2 hC1 hM2
  refine r_mu hW ?_
  refine r_lv (lv' := [(0, .ref b), (1, .ref (ad1 0 0)), (2, .ref (ad1 20 0)), (3, .ref (ad1 19 0)), (4, .ref (ad1 19 1)), (5, .int (nI i))]) [0, 1, 2, 3, 4, 5] rfl ?_
  exact r_wide (by omega) (by omega) (kk ad1 ρ o hQ3 hC3 hM3)
set_option maxRecDepth 100000 in
set_option maxHeartbeats 4000000 in
/-- riverTotal -/
theorem case_18 {z : Zx} {g : Gx} {tb : List ExceptionTableEntry} {mc ms n k b L i : Nat} {xs : Nat → Int32} {ad0 ad : Nm} {μ0 : Ce} {ok : OkT} {ex : String → Prop} {σ : Sg} {o : Int64 × UInt64} (K : Kn g z cL_law 9 yL_law (some .boolean) tb 12 mc ms ad0 μ0 ok ex) (hl : (gl g).stackTraces = false) (X : Scr z g b L xs) (hL : L ≤ 4000) (hi : i + 6 ≤ L) (Q : IR σ) (C : ICo σ) (M : IMo σ) (hn : n + 20 ≤ mc) (hk : k + 400 ≤ ms) (kk : ∀ ad' ρ o', IR ρ → ICo ρ → IMo ρ → WW g z 9 (n + 20) (k + 400) ad' (Wz z ad' ρ ρ o') 2423 [(0, .ref b), (1, .ref (ad' 0 0)), (2, .ref (ad' 20 0)), (3, .ref (ad' 19 0)), (4, .ref (ad' 19 1)), (5, .int (nI i))] []) : WW g z 9 n k ad (Wz z ad σ σ o) 1219 [(0, .ref b), (1, .ref (ad 0 0)), (2, .ref (ad 20 0)), (3, .ref (ad 19 0)), (4, .ref (ad 19 1)), (5, .int (nI i))] [] := by
  show WW g z 9 n k ad (Wz z ad σ σ o) 1219 [(0, .ref b), (1, .ref (ad 0 0)), (2, .ref (ad 20 0)), (3, .ref (ad 19 0)), (4, .ref (ad 19 1)), (5, .int (nI i))] []
  refine r_aload_n K dL_law_1219 1 rfl rfl ?_
  refine r_callV (st := []) K (k_X5_riverTotal (σ := σ) (τ := σ) (o := o) hl Q C) cw_L_196 wd_222 wd_223 (by decide) (by decide) rfl rfl rfl rfl (Nat.le_of_ble_eq_true rfl) (by omega) (by omega) dL_law_1220 ?_
  rintro _ ad1 _ ⟨-, rfl, hK1, σ1, rfl, hA1, hC1⟩
  refine r_eq (lv' := [(0, .ref b), (1, .ref (ad1 0 0)), (2, .ref (ad1 20 0)), (3, .ref (ad1 19 0)), (4, .ref (ad1 19 1)), (5, .int (nI i))]) rfl rfl (by rw [hK1.1, hK1.2.1, hK1.2.2.1, hK1.2.2.2]) rfl ?_
  show WW g z 9 n k ad1 (Wz z ad1 σ1 σ o) 1223 [(0, .ref b), (1, .ref (ad1 0 0)), (2, .ref (ad1 20 0)), (3, .ref (ad1 19 0)), (4, .ref (ad1 19 1)), (5, .int (nI i))] [.int (nI (σ 6 0 0))]
  refine r_aload_n K dL_law_1223 2 rfl rfl ?_
  refine r_callV (st := [.int (nI (σ 6 0 0))]) K (k_X6_riverTotal (σ := σ1) (τ := σ) (o := o) hl Q M) cw_L_199 wd_1536 wd_1537 (by decide) (by decide) rfl rfl rfl rfl (Nat.le_of_ble_eq_true rfl) (by omega) (by omega) dL_law_1224 ?_
  rintro _ _ _ ⟨x1, rfl, hx1, rfl, τ2, rfl, hA2, hM2, h72⟩
  show WW g z 9 n k ad1 (Wz z ad1 σ1 τ2 o) 1227 [(0, .ref b), (1, .ref (ad1 0 0)), (2, .ref (ad1 20 0)), (3, .ref (ad1 19 0)), (4, .ref (ad1 19 1)), (5, .int (nI i))] [.int (x1), .int (nI (σ 6 0 0))]
  refine r_icmp_eq K dL_law_1227 2423 True (iff_of_true (hx1 rfl).symm trivial) (by decide) (fun _ => ?_) (fun c => absurd trivial c)
  have hG : IR σ := Q
  obtain ⟨ρ, hW, hQ3, hC3, hM3⟩ := mg_all (z := z) (ad := ad1) (o := o) hG hA1 hA2 hC1 hM2
  refine r_mu hW ?_
  refine r_lv (lv' := [(0, .ref b), (1, .ref (ad1 0 0)), (2, .ref (ad1 20 0)), (3, .ref (ad1 19 0)), (4, .ref (ad1 19 1)), (5, .int (nI i))]) [0, 1, 2, 3, 4, 5] rfl ?_
  exact r_wide (by omega) (by omega) (kk ad1 ρ o hQ3 hC3 hM3)
set_option maxRecDepth 100000 in
set_option maxHeartbeats 4000000 in
/-- heldTotal -/
theorem case_19 {z : Zx} {g : Gx} {tb : List ExceptionTableEntry} {mc ms n k b L i : Nat} {xs : Nat → Int32} {ad0 ad : Nm} {μ0 : Ce} {ok : OkT} {ex : String → Prop} {σ : Sg} {o : Int64 × UInt64} (K : Kn g z cL_law 9 yL_law (some .boolean) tb 12 mc ms ad0 μ0 ok ex) (hl : (gl g).stackTraces = false) (X : Scr z g b L xs) (hL : L ≤ 4000) (hi : i + 6 ≤ L) (Q : IR σ) (C : ICo σ) (M : IMo σ) (hn : n + 20 ≤ mc) (hk : k + 400 ≤ ms) (kk : ∀ ad' ρ o', IR ρ → ICo ρ → IMo ρ → WW g z 9 (n + 20) (k + 400) ad' (Wz z ad' ρ ρ o') 2423 [(0, .ref b), (1, .ref (ad' 0 0)), (2, .ref (ad' 20 0)), (3, .ref (ad' 19 0)), (4, .ref (ad' 19 1)), (5, .int (nI i))] []) : WW g z 9 n k ad (Wz z ad σ σ o) 1232 [(0, .ref b), (1, .ref (ad 0 0)), (2, .ref (ad 20 0)), (3, .ref (ad 19 0)), (4, .ref (ad 19 1)), (5, .int (nI i))] [] := by
  show WW g z 9 n k ad (Wz z ad σ σ o) 1232 [(0, .ref b), (1, .ref (ad 0 0)), (2, .ref (ad 20 0)), (3, .ref (ad 19 0)), (4, .ref (ad 19 1)), (5, .int (nI i))] []
  refine r_aload_n K dL_law_1232 1 rfl rfl ?_
  refine r_callV (st := []) K (k_X5_heldTotal (σ := σ) (τ := σ) (o := o) hl Q C) cw_L_200 wd_226 wd_227 (by decide) (by decide) rfl rfl rfl rfl (Nat.le_of_ble_eq_true rfl) (by omega) (by omega) dL_law_1233 ?_
  rintro _ ad1 _ ⟨-, rfl, hK1, σ1, rfl, hA1, hC1⟩
  refine r_eq (lv' := [(0, .ref b), (1, .ref (ad1 0 0)), (2, .ref (ad1 20 0)), (3, .ref (ad1 19 0)), (4, .ref (ad1 19 1)), (5, .int (nI i))]) rfl rfl (by rw [hK1.1, hK1.2.1, hK1.2.2.1, hK1.2.2.2]) rfl ?_
  show WW g z 9 n k ad1 (Wz z ad1 σ1 σ o) 1236 [(0, .ref b), (1, .ref (ad1 0 0)), (2, .ref (ad1 20 0)), (3, .ref (ad1 19 0)), (4, .ref (ad1 19 1)), (5, .int (nI i))] [.int (nI (hld σ 0 6))]
  refine r_aload_n K dL_law_1236 2 rfl rfl ?_
  refine r_callV (st := [.int (nI (hld σ 0 6))]) K (k_X6_heldTotal (σ := σ1) (τ := σ) (o := o) hl Q M) cw_L_203 wd_1540 wd_1541 (by decide) (by decide) rfl rfl rfl rfl (Nat.le_of_ble_eq_true rfl) (by omega) (by omega) dL_law_1237 ?_
  rintro _ _ _ ⟨x1, rfl, hx1, rfl, τ2, rfl, hA2, hM2, h72⟩
  show WW g z 9 n k ad1 (Wz z ad1 σ1 τ2 o) 1240 [(0, .ref b), (1, .ref (ad1 0 0)), (2, .ref (ad1 20 0)), (3, .ref (ad1 19 0)), (4, .ref (ad1 19 1)), (5, .int (nI i))] [.int (x1), .int (nI (hld σ 0 6))]
  refine r_icmp_eq K dL_law_1240 2423 True (iff_of_true (hx1 rfl).symm trivial) (by decide) (fun _ => ?_) (fun c => absurd trivial c)
  have hG : IR σ := Q
  obtain ⟨ρ, hW, hQ3, hC3, hM3⟩ := mg_all (z := z) (ad := ad1) (o := o) hG hA1 hA2 hC1 hM2
  refine r_mu hW ?_
  refine r_lv (lv' := [(0, .ref b), (1, .ref (ad1 0 0)), (2, .ref (ad1 20 0)), (3, .ref (ad1 19 0)), (4, .ref (ad1 19 1)), (5, .int (nI i))]) [0, 1, 2, 3, 4, 5] rfl ?_
  exact r_wide (by omega) (by omega) (kk ad1 ρ o hQ3 hC3 hM3)
set_option maxRecDepth 100000 in
set_option maxHeartbeats 4000000 in
/-- isBalanced -/
theorem case_20 {z : Zx} {g : Gx} {tb : List ExceptionTableEntry} {mc ms n k b L i : Nat} {xs : Nat → Int32} {ad0 ad : Nm} {μ0 : Ce} {ok : OkT} {ex : String → Prop} {σ : Sg} {o : Int64 × UInt64} (K : Kn g z cL_law 9 yL_law (some .boolean) tb 12 mc ms ad0 μ0 ok ex) (hl : (gl g).stackTraces = false) (X : Scr z g b L xs) (hL : L ≤ 4000) (hi : i + 6 ≤ L) (Q : IR σ) (C : ICo σ) (M : IMo σ) (hn : n + 20 ≤ mc) (hk : k + 400 ≤ ms) (kk : ∀ ad' ρ o', IR ρ → ICo ρ → IMo ρ → WW g z 9 (n + 20) (k + 400) ad' (Wz z ad' ρ ρ o') 2423 [(0, .ref b), (1, .ref (ad' 0 0)), (2, .ref (ad' 20 0)), (3, .ref (ad' 19 0)), (4, .ref (ad' 19 1)), (5, .int (nI i))] []) : WW g z 9 n k ad (Wz z ad σ σ o) 1245 [(0, .ref b), (1, .ref (ad 0 0)), (2, .ref (ad 20 0)), (3, .ref (ad 19 0)), (4, .ref (ad 19 1)), (5, .int (nI i))] [] := by
  show WW g z 9 n k ad (Wz z ad σ σ o) 1245 [(0, .ref b), (1, .ref (ad 0 0)), (2, .ref (ad 20 0)), (3, .ref (ad 19 0)), (4, .ref (ad 19 1)), (5, .int (nI i))] []
  refine r_aload_n K dL_law_1245 1 rfl rfl ?_
  refine r_callV (st := []) K (k_X5_isBalanced (σ := σ) (τ := σ) (o := o) hl Q C) cw_L_204 wd_234 wd_235 (by decide) (by decide) rfl rfl rfl rfl (Nat.le_of_ble_eq_true rfl) (by omega) (by omega) dL_law_1246 ?_
  rintro _ ad1 _ ⟨-, rfl, hK1, σ1, rfl, hA1, hC1⟩
  refine r_eq (lv' := [(0, .ref b), (1, .ref (ad1 0 0)), (2, .ref (ad1 20 0)), (3, .ref (ad1 19 0)), (4, .ref (ad1 19 1)), (5, .int (nI i))]) rfl rfl (by rw [hK1.1, hK1.2.1, hK1.2.2.1, hK1.2.2.2]) rfl ?_
  show WW g z 9 n k ad1 (Wz z ad1 σ1 σ o) 1249 [(0, .ref b), (1, .ref (ad1 0 0)), (2, .ref (ad1 20 0)), (3, .ref (ad1 19 0)), (4, .ref (ad1 19 1)), (5, .int (nI i))] [.int (pI (nI (σ 12 1 0) = nI (hld σ 0 6 + σ 6 0 0)))]
  refine r_aload_n K dL_law_1249 2 rfl rfl ?_
  refine r_callV (st := [.int (pI (nI (σ 12 1 0) = nI (hld σ 0 6 + σ 6 0 0)))]) K (k_X6_isBalanced (σ := σ1) (τ := σ) (o := o) hl Q M) cw_L_208 wd_1548 wd_1549 (by decide) (by decide) rfl rfl rfl rfl (Nat.le_of_ble_eq_true rfl) (by omega) (by omega) dL_law_1250 ?_
  rintro _ _ _ ⟨x1, rfl, hx1, rfl, τ2, rfl, hA2, hM2, h72⟩
  show WW g z 9 n k ad1 (Wz z ad1 σ1 τ2 o) 1253 [(0, .ref b), (1, .ref (ad1 0 0)), (2, .ref (ad1 20 0)), (3, .ref (ad1 19 0)), (4, .ref (ad1 19 1)), (5, .int (nI i))] [.int (x1), .int (pI (nI (σ 12 1 0) = nI (hld σ 0 6 + σ 6 0 0)))]
  refine r_icmp_eq K dL_law_1253 2423 True (iff_of_true (hx1 rfl).symm trivial) (by decide) (fun _ => ?_) (fun c => absurd trivial c)
  have hG : IR σ := Q
  obtain ⟨ρ, hW, hQ3, hC3, hM3⟩ := mg_all (z := z) (ad := ad1) (o := o) hG hA1 hA2 hC1 hM2
  refine r_mu hW ?_
  refine r_lv (lv' := [(0, .ref b), (1, .ref (ad1 0 0)), (2, .ref (ad1 20 0)), (3, .ref (ad1 19 0)), (4, .ref (ad1 19 1)), (5, .int (nI i))]) [0, 1, 2, 3, 4, 5] rfl ?_
  exact r_wide (by omega) (by omega) (kk ad1 ρ o hQ3 hC3 hM3)
set_option maxRecDepth 100000 in
set_option maxHeartbeats 4000000 in
/-- depthAt -/
theorem case_21 {z : Zx} {g : Gx} {tb : List ExceptionTableEntry} {mc ms n k b L i : Nat} {xs : Nat → Int32} {ad0 ad : Nm} {μ0 : Ce} {ok : OkT} {ex : String → Prop} {σ : Sg} {o : Int64 × UInt64} (K : Kn g z cL_law 9 yL_law (some .boolean) tb 12 mc ms ad0 μ0 ok ex) (hl : (gl g).stackTraces = false) (X : Scr z g b L xs) (hL : L ≤ 4000) (hi : i + 6 ≤ L) (Q : IR σ) (C : ICo σ) (M : IMo σ) (hn : n + 20 ≤ mc) (hk : k + 400 ≤ ms) (kk : ∀ ad' ρ o', IR ρ → ICo ρ → IMo ρ → WW g z 9 (n + 20) (k + 400) ad' (Wz z ad' ρ ρ o') 2423 [(0, .ref b), (1, .ref (ad' 0 0)), (2, .ref (ad' 20 0)), (3, .ref (ad' 19 0)), (4, .ref (ad' 19 1)), (5, .int (nI i))] []) : WW g z 9 n k ad (Wz z ad σ σ o) 1258 [(0, .ref b), (1, .ref (ad 0 0)), (2, .ref (ad 20 0)), (3, .ref (ad 19 0)), (4, .ref (ad 19 1)), (5, .int (nI i))] [] := by
  show WW g z 9 n k ad (Wz z ad σ σ o) 1258 [(0, .ref b), (1, .ref (ad 0 0)), (2, .ref (ad 20 0)), (3, .ref (ad 19 0)), (4, .ref (ad 19 1)), (5, .int (nI i))] []
  refine r_aload_n K dL_law_1258 1 rfl rfl ?_
  refine r_aload_n K dL_law_1259 0 rfl rfl ?_
  refine r_iload K dL_law_1260 5 rfl ?_
  refine r_iconst (v := nI 1) K dL_law_1262 (by decide) ?_
  refine r_iadd (v := nI (i + 1)) K dL_law_1263 (nI_add _ _) ?_
  refine r_sld (j := i + 1) K X rfl (by omega) (by omega) dL_law_1264 ?_
  refine r_aload_n K dL_law_1265 0 rfl rfl ?_
  refine r_iload K dL_law_1266 5 rfl ?_
  refine r_iconst (v := nI 2) K dL_law_1268 (by decide) ?_
  refine r_iadd (v := nI (i + 2)) K dL_law_1269 (nI_add _ _) ?_
  refine r_sld (j := i + 2) K X rfl (by omega) (by omega) dL_law_1270 ?_
  refine r_aload_n K dL_law_1271 3 rfl rfl ?_
  refine r_callSH (st := []) K (k_L_depthAt (σ := σ) (τ := σ) (o := o) hl Q C) wd_766 wd_47 wd_768 wd_767 ⟨by decide, by decide, (by decide +kernel : (parseMethodDescriptor yL_depthAt.desc).map (fun d => d.parameters.length) = some 4)⟩ (by decide) (by decide) rfl (Nat.le_of_ble_eq_true rfl) (by omega) (by omega) dL_law_1272 ?_
  rintro _ ad1 _ ⟨rfl, hK1, σ1, o1, rfl, hA1, hC1, hv1⟩
  rw [ite_sg] at hA1
  refine r_eq (lv' := [(0, .ref b), (1, .ref (ad1 0 0)), (2, .ref (ad1 20 0)), (3, .ref (ad1 19 0)), (4, .ref (ad1 19 1)), (5, .int (nI i))]) rfl rfl (by rw [hK1.1, hK1.2.1, hK1.2.2.1, hK1.2.2.2]) rfl ?_
  show WW g z 9 (n + 2) (k + 12) ad1 (Wz z ad1 σ1 σ o1) 1275 [(0, .ref b), (1, .ref (ad1 0 0)), (2, .ref (ad1 20 0)), (3, .ref (ad1 19 0)), (4, .ref (ad1 19 1)), (5, .int (nI i))] [.int (nI (cC σ (xs (i + 1)) (xs (i + 2))))]
  refine r_istore (lv' := [(6, .int (nI (cC σ (xs (i + 1)) (xs (i + 2))))), (0, .ref b), (1, .ref (ad1 0 0)), (2, .ref (ad1 20 0)), (3, .ref (ad1 19 0)), (4, .ref (ad1 19 1)), (5, .int (nI i))]) K dL_law_1275 (by decide) rfl ?_
  refine r_aload_n K dL_law_1277 3 rfl rfl ?_
  refine r_aload_n K dL_law_1278 1 rfl rfl ?_
  refine r_iload K dL_law_1279 6 rfl ?_
  refine r_iconst (v := nI 1) K dL_law_1281 (by decide) ?_
  refine r_iadd (v := nI (i + 1)) K dL_law_1282 (nI_add _ _) ?_
  refine r_sld (j := i + 1) K X rfl (by omega) (by omega) dL_law_1283 ?_
  refine r_aload_n K dL_law_1284 1 rfl rfl ?_
  refine r_iload K dL_law_1285 6 rfl ?_
  refine r_iconst (v := nI 2) K dL_law_1287 (by decide) ?_
  refine r_iadd (v := nI (i + 2)) K dL_law_1288 (nI_add _ _) ?_
  refine r_sld (j := i + 2) K X rfl (by omega) (by omega) dL_law_1289 ?_
  refine r_callV (st := []) K (k_X6_depthAt (σ := σ1) (τ := σ) (o := o1) hl Q M) cw_L_211 wd_1552 wd_1553 (by decide) (by decide) rfl rfl rfl rfl (Nat.le_of_ble_eq_true rfl) (by omega) (by omega) dL_law_1290 ?_
  rintro _ _ _ ⟨x1, rfl, hx1, rfl, τ2, rfl, hA2, hM2, h72⟩
  show WW g z 9 (n + 2) (k + 12) ad1 (Wz z ad1 σ1 τ2 o1) 1293 [(6, .int (nI (cC σ (xs (i + 1)) (xs (i + 2))))), (0, .ref b), (1, .ref (ad1 0 0)), (2, .ref (ad1 20 0)), (3, .ref (ad1 19 0)), (4, .ref (ad1 19 1)), (5, .int (nI i))] [.int (x1)]
  refine r_istore (lv' := [(7, .int (x1)), (6, .int (nI (cC σ (xs (i + 1)) (xs (i + 2))))), (0, .ref b), (1, .ref (ad1 0 0)), (2, .ref (ad1 20 0)), (3, .ref (ad1 19 0)), (4, .ref (ad1 19 1)), (5, .int (nI i))]) K dL_law_1293 (by decide) rfl ?_
  refine r_aload_n K dL_law_1295 4 rfl rfl ?_
  refine r_callV (st := []) K (k_X6_thrown (σ := σ1) (τ := τ2) (o := o1) hl) cw_L_134 wd_1422 wd_1423 (by decide) (by decide) rfl rfl rfl rfl (Nat.le_of_ble_eq_true rfl) (by omega) (by omega) dL_law_1296 ?_
  rintro _ _ _ ⟨rfl, rfl, rfl⟩
  refine r_eq (st' := [.int (nI (cC σ (xs (i + 1)) (xs (i + 2))))]) rfl rfl rfl (by rw [h72]; rfl) ?_
  show WW g z 9 (n + 2) (k + 12) ad1 (Wz z ad1 σ1 τ2 o1) 1299 [(7, .int (x1)), (6, .int (nI (cC σ (xs (i + 1)) (xs (i + 2))))), (0, .ref b), (1, .ref (ad1 0 0)), (2, .ref (ad1 20 0)), (3, .ref (ad1 19 0)), (4, .ref (ad1 19 1)), (5, .int (nI i))] [.int (nI (cC σ (xs (i + 1)) (xs (i + 2))))]
  refine r_iload K dL_law_1299 1 rfl ?_
  refine r_icmp_eq K dL_law_1301 1306 True (iff_of_true rfl trivial) (by decide) (fun _ => ?_) (fun c => absurd trivial c)
  refine r_iload K dL_law_1306 1 rfl ?_
  have hcd : (cC σ (xs (i + 1)) (xs (i + 2))) < 2 ^ 31 := by unfold cC; (repeat' split) <;> decide
  refine r_if_ne K dL_law_1308 1323 ((cC σ (xs (i + 1)) (xs (i + 2))) = 0) (n0_eq hcd) (by decide) (fun c_1308 => ?_) (fun c_1308 => ?_)
  · skip
    refine r_goto K dL_law_1323 2423 (by decide) ?_
    have hG : IR σ := Q
    obtain ⟨ρ, hW, hQ3, hC3, hM3⟩ := mg_all (z := z) (ad := ad1) (o := o1) hG hA1 hA2 hC1 hM2
    refine r_mu hW ?_
    refine r_lv (lv' := [(0, .ref b), (1, .ref (ad1 0 0)), (2, .ref (ad1 20 0)), (3, .ref (ad1 19 0)), (4, .ref (ad1 19 1)), (5, .int (nI i))]) [2, 3, 4, 5, 6, 7] rfl ?_
    exact r_wide (by omega) (by omega) (kk ad1 ρ o1 hQ3 hC3 hM3)
  · skip
    refine r_aload_n K dL_law_1311 5 rfl rfl ?_
    refine r_iconst (v := nI 0) K dL_law_1312 (by decide) ?_
    refine r_lald (j := 0) (v := o1.1) K rfl rfl rfl (by decide) (by decide) rfl dL_law_1313 ?_
    refine r_iload K dL_law_1314 0 rfl ?_
    refine r_i2l (v := ((x1).toInt64)) K dL_law_1316 rfl ?_
    refine r_lcmpE K (by rw [hv1 c_1308, hx1 c_1308]) dL_law_1317 ?_
    refine r_if_eq K dL_law_1318 1323 (0 = 0) (n0_eq (by omega)) (by decide) (fun c_1318 => ?_) (fun c_1318 => ?_)
    · skip
      refine r_goto K dL_law_1323 2423 (by decide) ?_
      have hG : IR σ := Q
      obtain ⟨ρ, hW, hQ3, hC3, hM3⟩ := mg_all (z := z) (ad := ad1) (o := o1) hG hA1 hA2 hC1 hM2
      refine r_mu hW ?_
      refine r_lv (lv' := [(0, .ref b), (1, .ref (ad1 0 0)), (2, .ref (ad1 20 0)), (3, .ref (ad1 19 0)), (4, .ref (ad1 19 1)), (5, .int (nI i))]) [2, 3, 4, 5, 6, 7] rfl ?_
      exact r_wide (by omega) (by omega) (kk ad1 ρ o1 hQ3 hC3 hM3)
    · skip
      exfalso; omega
set_option maxRecDepth 100000 in
set_option maxHeartbeats 4000000 in
/-- depthByPouring -/
theorem case_22 {z : Zx} {g : Gx} {tb : List ExceptionTableEntry} {mc ms n k b L i : Nat} {xs : Nat → Int32} {ad0 ad : Nm} {μ0 : Ce} {ok : OkT} {ex : String → Prop} {σ : Sg} {o : Int64 × UInt64} (K : Kn g z cL_law 9 yL_law (some .boolean) tb 12 mc ms ad0 μ0 ok ex) (hl : (gl g).stackTraces = false) (X : Scr z g b L xs) (hL : L ≤ 4000) (hi : i + 6 ≤ L) (Q : IR σ) (C : ICo σ) (M : IMo σ) (hn : n + 20 ≤ mc) (hk : k + 400 ≤ ms) (kk : ∀ ad' ρ o', IR ρ → ICo ρ → IMo ρ → WW g z 9 (n + 20) (k + 400) ad' (Wz z ad' ρ ρ o') 2423 [(0, .ref b), (1, .ref (ad' 0 0)), (2, .ref (ad' 20 0)), (3, .ref (ad' 19 0)), (4, .ref (ad' 19 1)), (5, .int (nI i))] []) : WW g z 9 n k ad (Wz z ad σ σ o) 1326 [(0, .ref b), (1, .ref (ad 0 0)), (2, .ref (ad 20 0)), (3, .ref (ad 19 0)), (4, .ref (ad 19 1)), (5, .int (nI i))] [] := by
  show WW g z 9 n k ad (Wz z ad σ σ o) 1326 [(0, .ref b), (1, .ref (ad 0 0)), (2, .ref (ad 20 0)), (3, .ref (ad 19 0)), (4, .ref (ad 19 1)), (5, .int (nI i))] []
  refine r_aload_n K dL_law_1326 1 rfl rfl ?_
  refine r_aload_n K dL_law_1327 0 rfl rfl ?_
  refine r_iload K dL_law_1328 5 rfl ?_
  refine r_iconst (v := nI 1) K dL_law_1330 (by decide) ?_
  refine r_iadd (v := nI (i + 1)) K dL_law_1331 (nI_add _ _) ?_
  refine r_sld (j := i + 1) K X rfl (by omega) (by omega) dL_law_1332 ?_
  refine r_aload_n K dL_law_1333 0 rfl rfl ?_
  refine r_iload K dL_law_1334 5 rfl ?_
  refine r_iconst (v := nI 2) K dL_law_1336 (by decide) ?_
  refine r_iadd (v := nI (i + 2)) K dL_law_1337 (nI_add _ _) ?_
  refine r_sld (j := i + 2) K X rfl (by omega) (by omega) dL_law_1338 ?_
  refine r_aload_n K dL_law_1339 3 rfl rfl ?_
  refine r_callSH (st := []) K (k_L_depthByPouring (σ := σ) (τ := σ) (o := o) hl Q C) wd_786 wd_47 wd_788 wd_787 ⟨by decide, by decide, (by decide +kernel : (parseMethodDescriptor yL_depthByPouring.desc).map (fun d => d.parameters.length) = some 4)⟩ (by decide) (by decide) rfl (Nat.le_of_ble_eq_true rfl) (by omega) (by omega) dL_law_1340 ?_
  rintro _ ad1 _ ⟨rfl, hK1, σ1, o1, rfl, hA1, hC1, hv1⟩
  rw [ite_sg] at hA1
  refine r_eq (lv' := [(0, .ref b), (1, .ref (ad1 0 0)), (2, .ref (ad1 20 0)), (3, .ref (ad1 19 0)), (4, .ref (ad1 19 1)), (5, .int (nI i))]) rfl rfl (by rw [hK1.1, hK1.2.1, hK1.2.2.1, hK1.2.2.2]) rfl ?_
  show WW g z 9 (n + 2) (k + 12) ad1 (Wz z ad1 σ1 σ o1) 1343 [(0, .ref b), (1, .ref (ad1 0 0)), (2, .ref (ad1 20 0)), (3, .ref (ad1 19 0)), (4, .ref (ad1 19 1)), (5, .int (nI i))] [.int (nI (cC σ (xs (i + 1)) (xs (i + 2))))]
  refine r_istore (lv' := [(6, .int (nI (cC σ (xs (i + 1)) (xs (i + 2))))), (0, .ref b), (1, .ref (ad1 0 0)), (2, .ref (ad1 20 0)), (3, .ref (ad1 19 0)), (4, .ref (ad1 19 1)), (5, .int (nI i))]) K dL_law_1343 (by decide) rfl ?_
  refine r_aload_n K dL_law_1345 3 rfl rfl ?_
  refine r_aload_n K dL_law_1346 1 rfl rfl ?_
  refine r_iload K dL_law_1347 6 rfl ?_
  refine r_iconst (v := nI 1) K dL_law_1349 (by decide) ?_
  refine r_iadd (v := nI (i + 1)) K dL_law_1350 (nI_add _ _) ?_
  refine r_sld (j := i + 1) K X rfl (by omega) (by omega) dL_law_1351 ?_
  refine r_aload_n K dL_law_1352 1 rfl rfl ?_
  refine r_iload K dL_law_1353 6 rfl ?_
  refine r_iconst (v := nI 2) K dL_law_1355 (by decide) ?_
  refine r_iadd (v := nI (i + 2)) K dL_law_1356 (nI_add _ _) ?_
  refine r_sld (j := i + 2) K X rfl (by omega) (by omega) dL_law_1357 ?_
  refine r_callV (st := []) K (k_X6_depthByPouring (σ := σ1) (τ := σ) (o := o1) hl Q M) cw_L_214 wd_1576 wd_1577 (by decide) (by decide) rfl rfl rfl rfl (Nat.le_of_ble_eq_true rfl) (by omega) (by omega) dL_law_1358 ?_
  rintro _ _ _ ⟨x1, rfl, hx1, rfl, τ2, rfl, hA2, hM2, h72⟩
  show WW g z 9 (n + 2) (k + 12) ad1 (Wz z ad1 σ1 τ2 o1) 1361 [(6, .int (nI (cC σ (xs (i + 1)) (xs (i + 2))))), (0, .ref b), (1, .ref (ad1 0 0)), (2, .ref (ad1 20 0)), (3, .ref (ad1 19 0)), (4, .ref (ad1 19 1)), (5, .int (nI i))] [.int (x1)]
  refine r_istore (lv' := [(7, .int (x1)), (6, .int (nI (cC σ (xs (i + 1)) (xs (i + 2))))), (0, .ref b), (1, .ref (ad1 0 0)), (2, .ref (ad1 20 0)), (3, .ref (ad1 19 0)), (4, .ref (ad1 19 1)), (5, .int (nI i))]) K dL_law_1361 (by decide) rfl ?_
  refine r_aload_n K dL_law_1363 4 rfl rfl ?_
  refine r_callV (st := []) K (k_X6_thrown (σ := σ1) (τ := τ2) (o := o1) hl) cw_L_134 wd_1422 wd_1423 (by decide) (by decide) rfl rfl rfl rfl (Nat.le_of_ble_eq_true rfl) (by omega) (by omega) dL_law_1364 ?_
  rintro _ _ _ ⟨rfl, rfl, rfl⟩
  refine r_eq (st' := [.int (nI (cC σ (xs (i + 1)) (xs (i + 2))))]) rfl rfl rfl (by rw [h72]; rfl) ?_
  show WW g z 9 (n + 2) (k + 12) ad1 (Wz z ad1 σ1 τ2 o1) 1367 [(7, .int (x1)), (6, .int (nI (cC σ (xs (i + 1)) (xs (i + 2))))), (0, .ref b), (1, .ref (ad1 0 0)), (2, .ref (ad1 20 0)), (3, .ref (ad1 19 0)), (4, .ref (ad1 19 1)), (5, .int (nI i))] [.int (nI (cC σ (xs (i + 1)) (xs (i + 2))))]
  refine r_iload K dL_law_1367 1 rfl ?_
  refine r_icmp_eq K dL_law_1369 1374 True (iff_of_true rfl trivial) (by decide) (fun _ => ?_) (fun c => absurd trivial c)
  refine r_iload K dL_law_1374 1 rfl ?_
  have hcd : (cC σ (xs (i + 1)) (xs (i + 2))) < 2 ^ 31 := by unfold cC; (repeat' split) <;> decide
  refine r_if_ne K dL_law_1376 1391 ((cC σ (xs (i + 1)) (xs (i + 2))) = 0) (n0_eq hcd) (by decide) (fun c_1376 => ?_) (fun c_1376 => ?_)
  · skip
    refine r_goto K dL_law_1391 2423 (by decide) ?_
    have hG : IR σ := Q
    obtain ⟨ρ, hW, hQ3, hC3, hM3⟩ := mg_all (z := z) (ad := ad1) (o := o1) hG hA1 hA2 hC1 hM2
    refine r_mu hW ?_
    refine r_lv (lv' := [(0, .ref b), (1, .ref (ad1 0 0)), (2, .ref (ad1 20 0)), (3, .ref (ad1 19 0)), (4, .ref (ad1 19 1)), (5, .int (nI i))]) [2, 3, 4, 5, 6, 7] rfl ?_
    exact r_wide (by omega) (by omega) (kk ad1 ρ o1 hQ3 hC3 hM3)
  · skip
    refine r_aload_n K dL_law_1379 5 rfl rfl ?_
    refine r_iconst (v := nI 0) K dL_law_1380 (by decide) ?_
    refine r_lald (j := 0) (v := o1.1) K rfl rfl rfl (by decide) (by decide) rfl dL_law_1381 ?_
    refine r_iload K dL_law_1382 0 rfl ?_
    refine r_i2l (v := ((x1).toInt64)) K dL_law_1384 rfl ?_
    refine r_lcmpE K (by rw [hv1 c_1376, hx1 c_1376]) dL_law_1385 ?_
    refine r_if_eq K dL_law_1386 1391 (0 = 0) (n0_eq (by omega)) (by decide) (fun c_1386 => ?_) (fun c_1386 => ?_)
    · skip
      refine r_goto K dL_law_1391 2423 (by decide) ?_
      have hG : IR σ := Q
      obtain ⟨ρ, hW, hQ3, hC3, hM3⟩ := mg_all (z := z) (ad := ad1) (o := o1) hG hA1 hA2 hC1 hM2
      refine r_mu hW ?_
      refine r_lv (lv' := [(0, .ref b), (1, .ref (ad1 0 0)), (2, .ref (ad1 20 0)), (3, .ref (ad1 19 0)), (4, .ref (ad1 19 1)), (5, .int (nI i))]) [2, 3, 4, 5, 6, 7] rfl ?_
      exact r_wide (by omega) (by omega) (kk ad1 ρ o1 hQ3 hC3 hM3)
    · skip
      exfalso; omega
set_option maxRecDepth 100000 in
set_option maxHeartbeats 4000000 in
/-- depthThen -/
theorem case_23 {z : Zx} {g : Gx} {tb : List ExceptionTableEntry} {mc ms n k b L i : Nat} {xs : Nat → Int32} {ad0 ad : Nm} {μ0 : Ce} {ok : OkT} {ex : String → Prop} {σ : Sg} {o : Int64 × UInt64} (K : Kn g z cL_law 9 yL_law (some .boolean) tb 12 mc ms ad0 μ0 ok ex) (hl : (gl g).stackTraces = false) (X : Scr z g b L xs) (hL : L ≤ 4000) (hi : i + 6 ≤ L) (Q : IR σ) (C : ICo σ) (M : IMo σ) (hn : n + 20 ≤ mc) (hk : k + 400 ≤ ms) (kk : ∀ ad' ρ o', IR ρ → ICo ρ → IMo ρ → WW g z 9 (n + 20) (k + 400) ad' (Wz z ad' ρ ρ o') 2423 [(0, .ref b), (1, .ref (ad' 0 0)), (2, .ref (ad' 20 0)), (3, .ref (ad' 19 0)), (4, .ref (ad' 19 1)), (5, .int (nI i))] []) : WW g z 9 n k ad (Wz z ad σ σ o) 1394 [(0, .ref b), (1, .ref (ad 0 0)), (2, .ref (ad 20 0)), (3, .ref (ad 19 0)), (4, .ref (ad 19 1)), (5, .int (nI i))] [] := by
  show WW g z 9 n k ad (Wz z ad σ σ o) 1394 [(0, .ref b), (1, .ref (ad 0 0)), (2, .ref (ad 20 0)), (3, .ref (ad 19 0)), (4, .ref (ad 19 1)), (5, .int (nI i))] []
  refine r_aload_n K dL_law_1394 1 rfl rfl ?_
  refine r_aload_n K dL_law_1395 0 rfl rfl ?_
  refine r_iload K dL_law_1396 5 rfl ?_
  refine r_iconst (v := nI 1) K dL_law_1398 (by decide) ?_
  refine r_iadd (v := nI (i + 1)) K dL_law_1399 (nI_add _ _) ?_
  refine r_sld (j := i + 1) K X rfl (by omega) (by omega) dL_law_1400 ?_
  refine r_aload_n K dL_law_1401 0 rfl rfl ?_
  refine r_iload K dL_law_1402 5 rfl ?_
  refine r_iconst (v := nI 2) K dL_law_1404 (by decide) ?_
  refine r_iadd (v := nI (i + 2)) K dL_law_1405 (nI_add _ _) ?_
  refine r_sld (j := i + 2) K X rfl (by omega) (by omega) dL_law_1406 ?_
  refine r_aload_n K dL_law_1407 0 rfl rfl ?_
  refine r_iload K dL_law_1408 5 rfl ?_
  refine r_iconst (v := nI 3) K dL_law_1410 (by decide) ?_
  refine r_iadd (v := nI (i + 3)) K dL_law_1411 (nI_add _ _) ?_
  refine r_sld (j := i + 3) K X rfl (by omega) (by omega) dL_law_1412 ?_
  refine r_aload_n K dL_law_1413 3 rfl rfl ?_
  refine r_callSH (st := []) K (k_L_depthThen (σ := σ) (τ := σ) (o := o) hl Q C) wd_802 wd_47 wd_804 wd_803 ⟨by decide, by decide, (by decide +kernel : (parseMethodDescriptor yL_depthThen.desc).map (fun d => d.parameters.length) = some 5)⟩ (by decide) (by decide) rfl (Nat.le_of_ble_eq_true rfl) (by omega) (by omega) dL_law_1414 ?_
  rintro _ ad1 _ ⟨rfl, hK1, σ1, o1, rfl, hA1, hC1, hv1⟩
  rw [ite_sg] at hA1
  refine r_eq (lv' := [(0, .ref b), (1, .ref (ad1 0 0)), (2, .ref (ad1 20 0)), (3, .ref (ad1 19 0)), (4, .ref (ad1 19 1)), (5, .int (nI i))]) rfl rfl (by rw [hK1.1, hK1.2.1, hK1.2.2.1, hK1.2.2.2]) rfl ?_
  show WW g z 9 (n + 3) (k + 18) ad1 (Wz z ad1 σ1 σ o1) 1417 [(0, .ref b), (1, .ref (ad1 0 0)), (2, .ref (ad1 20 0)), (3, .ref (ad1 19 0)), (4, .ref (ad1 19 1)), (5, .int (nI i))] [.int (nI (cCh σ (xs (i + 1)) (xs (i + 2)) (xs (i + 3))))]
  refine r_istore (lv' := [(6, .int (nI (cCh σ (xs (i + 1)) (xs (i + 2)) (xs (i + 3))))), (0, .ref b), (1, .ref (ad1 0 0)), (2, .ref (ad1 20 0)), (3, .ref (ad1 19 0)), (4, .ref (ad1 19 1)), (5, .int (nI i))]) K dL_law_1417 (by decide) rfl ?_
  refine r_aload_n K dL_law_1419 3 rfl rfl ?_
  refine r_aload_n K dL_law_1420 1 rfl rfl ?_
  refine r_iload K dL_law_1421 6 rfl ?_
  refine r_iconst (v := nI 1) K dL_law_1423 (by decide) ?_
  refine r_iadd (v := nI (i + 1)) K dL_law_1424 (nI_add _ _) ?_
  refine r_sld (j := i + 1) K X rfl (by omega) (by omega) dL_law_1425 ?_
  refine r_aload_n K dL_law_1426 1 rfl rfl ?_
  refine r_iload K dL_law_1427 6 rfl ?_
  refine r_iconst (v := nI 2) K dL_law_1429 (by decide) ?_
  refine r_iadd (v := nI (i + 2)) K dL_law_1430 (nI_add _ _) ?_
  refine r_sld (j := i + 2) K X rfl (by omega) (by omega) dL_law_1431 ?_
  refine r_aload_n K dL_law_1432 1 rfl rfl ?_
  refine r_iload K dL_law_1433 6 rfl ?_
  refine r_iconst (v := nI 3) K dL_law_1435 (by decide) ?_
  refine r_iadd (v := nI (i + 3)) K dL_law_1436 (nI_add _ _) ?_
  refine r_sld (j := i + 3) K X rfl (by omega) (by omega) dL_law_1437 ?_
  refine r_callV (st := []) K (k_X6_depthThen (σ := σ1) (τ := σ) (o := o1) hl Q M) cw_L_218 wd_1580 wd_1581 (by decide) (by decide) rfl rfl rfl rfl (Nat.le_of_ble_eq_true rfl) (by omega) (by omega) dL_law_1438 ?_
  rintro _ _ _ ⟨x1, rfl, hx1, rfl, τ2, rfl, hA2, hM2, h72⟩
  show WW g z 9 (n + 3) (k + 18) ad1 (Wz z ad1 σ1 τ2 o1) 1441 [(6, .int (nI (cCh σ (xs (i + 1)) (xs (i + 2)) (xs (i + 3))))), (0, .ref b), (1, .ref (ad1 0 0)), (2, .ref (ad1 20 0)), (3, .ref (ad1 19 0)), (4, .ref (ad1 19 1)), (5, .int (nI i))] [.int (x1)]
  refine r_istore (lv' := [(7, .int (x1)), (6, .int (nI (cCh σ (xs (i + 1)) (xs (i + 2)) (xs (i + 3))))), (0, .ref b), (1, .ref (ad1 0 0)), (2, .ref (ad1 20 0)), (3, .ref (ad1 19 0)), (4, .ref (ad1 19 1)), (5, .int (nI i))]) K dL_law_1441 (by decide) rfl ?_
  refine r_aload_n K dL_law_1443 4 rfl rfl ?_
  refine r_callV (st := []) K (k_X6_thrown (σ := σ1) (τ := τ2) (o := o1) hl) cw_L_134 wd_1422 wd_1423 (by decide) (by decide) rfl rfl rfl rfl (Nat.le_of_ble_eq_true rfl) (by omega) (by omega) dL_law_1444 ?_
  rintro _ _ _ ⟨rfl, rfl, rfl⟩
  refine r_eq (st' := [.int (nI (cCh σ (xs (i + 1)) (xs (i + 2)) (xs (i + 3))))]) rfl rfl rfl (by rw [h72]; rfl) ?_
  show WW g z 9 (n + 3) (k + 18) ad1 (Wz z ad1 σ1 τ2 o1) 1447 [(7, .int (x1)), (6, .int (nI (cCh σ (xs (i + 1)) (xs (i + 2)) (xs (i + 3))))), (0, .ref b), (1, .ref (ad1 0 0)), (2, .ref (ad1 20 0)), (3, .ref (ad1 19 0)), (4, .ref (ad1 19 1)), (5, .int (nI i))] [.int (nI (cCh σ (xs (i + 1)) (xs (i + 2)) (xs (i + 3))))]
  refine r_iload K dL_law_1447 1 rfl ?_
  refine r_icmp_eq K dL_law_1449 1454 True (iff_of_true rfl trivial) (by decide) (fun _ => ?_) (fun c => absurd trivial c)
  refine r_iload K dL_law_1454 1 rfl ?_
  have hcd : (cCh σ (xs (i + 1)) (xs (i + 2)) (xs (i + 3))) < 2 ^ 31 := by unfold cCh; (repeat' split) <;> decide
  refine r_if_ne K dL_law_1456 1471 ((cCh σ (xs (i + 1)) (xs (i + 2)) (xs (i + 3))) = 0) (n0_eq hcd) (by decide) (fun c_1456 => ?_) (fun c_1456 => ?_)
  · skip
    refine r_goto K dL_law_1471 2423 (by decide) ?_
    have hG : IR σ := Q
    obtain ⟨ρ, hW, hQ3, hC3, hM3⟩ := mg_all (z := z) (ad := ad1) (o := o1) hG hA1 hA2 hC1 hM2
    refine r_mu hW ?_
    refine r_lv (lv' := [(0, .ref b), (1, .ref (ad1 0 0)), (2, .ref (ad1 20 0)), (3, .ref (ad1 19 0)), (4, .ref (ad1 19 1)), (5, .int (nI i))]) [2, 3, 4, 5, 6, 7] rfl ?_
    exact r_wide (by omega) (by omega) (kk ad1 ρ o1 hQ3 hC3 hM3)
  · skip
    refine r_aload_n K dL_law_1459 5 rfl rfl ?_
    refine r_iconst (v := nI 0) K dL_law_1460 (by decide) ?_
    refine r_lald (j := 0) (v := o1.1) K rfl rfl rfl (by decide) (by decide) rfl dL_law_1461 ?_
    refine r_iload K dL_law_1462 0 rfl ?_
    refine r_i2l (v := ((x1).toInt64)) K dL_law_1464 rfl ?_
    refine r_lcmpE K (by rw [hv1 c_1456, hx1 c_1456]) dL_law_1465 ?_
    refine r_if_eq K dL_law_1466 1471 (0 = 0) (n0_eq (by omega)) (by decide) (fun c_1466 => ?_) (fun c_1466 => ?_)
    · skip
      refine r_goto K dL_law_1471 2423 (by decide) ?_
      have hG : IR σ := Q
      obtain ⟨ρ, hW, hQ3, hC3, hM3⟩ := mg_all (z := z) (ad := ad1) (o := o1) hG hA1 hA2 hC1 hM2
      refine r_mu hW ?_
      refine r_lv (lv' := [(0, .ref b), (1, .ref (ad1 0 0)), (2, .ref (ad1 20 0)), (3, .ref (ad1 19 0)), (4, .ref (ad1 19 1)), (5, .int (nI i))]) [2, 3, 4, 5, 6, 7] rfl ?_
      exact r_wide (by omega) (by omega) (kk ad1 ρ o1 hQ3 hC3 hM3)
    · skip
      exfalso; omega
set_option maxRecDepth 100000 in
set_option maxHeartbeats 4000000 in
/-- wetCells -/
theorem case_24 {z : Zx} {g : Gx} {tb : List ExceptionTableEntry} {mc ms n k b L i : Nat} {xs : Nat → Int32} {ad0 ad : Nm} {μ0 : Ce} {ok : OkT} {ex : String → Prop} {σ : Sg} {o : Int64 × UInt64} (K : Kn g z cL_law 9 yL_law (some .boolean) tb 12 mc ms ad0 μ0 ok ex) (hl : (gl g).stackTraces = false) (X : Scr z g b L xs) (hL : L ≤ 4000) (hi : i + 6 ≤ L) (Q : IR σ) (C : ICo σ) (M : IMo σ) (hn : n + 20 ≤ mc) (hk : k + 400 ≤ ms) (kk : ∀ ad' ρ o', IR ρ → ICo ρ → IMo ρ → WW g z 9 (n + 20) (k + 400) ad' (Wz z ad' ρ ρ o') 2423 [(0, .ref b), (1, .ref (ad' 0 0)), (2, .ref (ad' 20 0)), (3, .ref (ad' 19 0)), (4, .ref (ad' 19 1)), (5, .int (nI i))] []) : WW g z 9 n k ad (Wz z ad σ σ o) 1474 [(0, .ref b), (1, .ref (ad 0 0)), (2, .ref (ad 20 0)), (3, .ref (ad 19 0)), (4, .ref (ad 19 1)), (5, .int (nI i))] [] := by
  show WW g z 9 n k ad (Wz z ad σ σ o) 1474 [(0, .ref b), (1, .ref (ad 0 0)), (2, .ref (ad 20 0)), (3, .ref (ad 19 0)), (4, .ref (ad 19 1)), (5, .int (nI i))] []
  refine r_aload_n K dL_law_1474 1 rfl rfl ?_
  refine r_aload_n K dL_law_1475 0 rfl rfl ?_
  refine r_iload K dL_law_1476 5 rfl ?_
  refine r_iconst (v := nI 1) K dL_law_1478 (by decide) ?_
  refine r_iadd (v := nI (i + 1)) K dL_law_1479 (nI_add _ _) ?_
  refine r_sld (j := i + 1) K X rfl (by omega) (by omega) dL_law_1480 ?_
  refine r_aload_n K dL_law_1481 3 rfl rfl ?_
  refine r_callSH (st := []) K (k_L_wetCells (σ := σ) (τ := σ) (o := o) hl Q C) wd_814 wd_47 wd_816 wd_815 ⟨by decide, by decide, (by decide +kernel : (parseMethodDescriptor yL_wetCells.desc).map (fun d => d.parameters.length) = some 3)⟩ (by decide) (by decide) rfl (Nat.le_of_ble_eq_true rfl) (by omega) (by omega) dL_law_1482 ?_
  rintro _ ad1 _ ⟨rfl, hK1, σ1, o1, rfl, hA1, hC1, hv1⟩
  rw [ite_sg] at hA1
  refine r_eq (lv' := [(0, .ref b), (1, .ref (ad1 0 0)), (2, .ref (ad1 20 0)), (3, .ref (ad1 19 0)), (4, .ref (ad1 19 1)), (5, .int (nI i))]) rfl rfl (by rw [hK1.1, hK1.2.1, hK1.2.2.1, hK1.2.2.2]) rfl ?_
  show WW g z 9 (n + 1) (k + 6) ad1 (Wz z ad1 σ1 σ o1) 1485 [(0, .ref b), (1, .ref (ad1 0 0)), (2, .ref (ad1 20 0)), (3, .ref (ad1 19 0)), (4, .ref (ad1 19 1)), (5, .int (nI i))] [.int (nI (cB σ (xs (i + 1))))]
  refine r_istore (lv' := [(6, .int (nI (cB σ (xs (i + 1))))), (0, .ref b), (1, .ref (ad1 0 0)), (2, .ref (ad1 20 0)), (3, .ref (ad1 19 0)), (4, .ref (ad1 19 1)), (5, .int (nI i))]) K dL_law_1485 (by decide) rfl ?_
  refine r_aload_n K dL_law_1487 3 rfl rfl ?_
  refine r_aload_n K dL_law_1488 1 rfl rfl ?_
  refine r_iload K dL_law_1489 6 rfl ?_
  refine r_iconst (v := nI 1) K dL_law_1491 (by decide) ?_
  refine r_iadd (v := nI (i + 1)) K dL_law_1492 (nI_add _ _) ?_
  refine r_sld (j := i + 1) K X rfl (by omega) (by omega) dL_law_1493 ?_
  refine r_callV (st := []) K (k_X6_wetCells (σ := σ1) (τ := σ) (o := o1) hl Q M) cw_L_221 wd_1588 wd_1589 (by decide) (by decide) rfl rfl rfl rfl (Nat.le_of_ble_eq_true rfl) (by omega) (by omega) dL_law_1494 ?_
  rintro _ _ _ ⟨x1, rfl, hx1, rfl, τ2, rfl, hA2, hM2, h72⟩
  show WW g z 9 (n + 1) (k + 6) ad1 (Wz z ad1 σ1 τ2 o1) 1497 [(6, .int (nI (cB σ (xs (i + 1))))), (0, .ref b), (1, .ref (ad1 0 0)), (2, .ref (ad1 20 0)), (3, .ref (ad1 19 0)), (4, .ref (ad1 19 1)), (5, .int (nI i))] [.int (x1)]
  refine r_istore (lv' := [(7, .int (x1)), (6, .int (nI (cB σ (xs (i + 1))))), (0, .ref b), (1, .ref (ad1 0 0)), (2, .ref (ad1 20 0)), (3, .ref (ad1 19 0)), (4, .ref (ad1 19 1)), (5, .int (nI i))]) K dL_law_1497 (by decide) rfl ?_
  refine r_aload_n K dL_law_1499 4 rfl rfl ?_
  refine r_callV (st := []) K (k_X6_thrown (σ := σ1) (τ := τ2) (o := o1) hl) cw_L_134 wd_1422 wd_1423 (by decide) (by decide) rfl rfl rfl rfl (Nat.le_of_ble_eq_true rfl) (by omega) (by omega) dL_law_1500 ?_
  rintro _ _ _ ⟨rfl, rfl, rfl⟩
  refine r_eq (st' := [.int (nI (cB σ (xs (i + 1))))]) rfl rfl rfl (by rw [h72]; rfl) ?_
  show WW g z 9 (n + 1) (k + 6) ad1 (Wz z ad1 σ1 τ2 o1) 1503 [(7, .int (x1)), (6, .int (nI (cB σ (xs (i + 1))))), (0, .ref b), (1, .ref (ad1 0 0)), (2, .ref (ad1 20 0)), (3, .ref (ad1 19 0)), (4, .ref (ad1 19 1)), (5, .int (nI i))] [.int (nI (cB σ (xs (i + 1))))]
  refine r_iload K dL_law_1503 1 rfl ?_
  refine r_icmp_eq K dL_law_1505 1510 True (iff_of_true rfl trivial) (by decide) (fun _ => ?_) (fun c => absurd trivial c)
  refine r_iload K dL_law_1510 1 rfl ?_
  have hcd : (cB σ (xs (i + 1))) < 2 ^ 31 := by unfold cB; (repeat' split) <;> decide
  refine r_if_ne K dL_law_1512 1527 ((cB σ (xs (i + 1))) = 0) (n0_eq hcd) (by decide) (fun c_1512 => ?_) (fun c_1512 => ?_)
  · skip
    refine r_goto K dL_law_1527 2423 (by decide) ?_
    have hG : IR σ := Q
    obtain ⟨ρ, hW, hQ3, hC3, hM3⟩ := mg_all (z := z) (ad := ad1) (o := o1) hG hA1 hA2 hC1 hM2
    refine r_mu hW ?_
    refine r_lv (lv' := [(0, .ref b), (1, .ref (ad1 0 0)), (2, .ref (ad1 20 0)), (3, .ref (ad1 19 0)), (4, .ref (ad1 19 1)), (5, .int (nI i))]) [2, 3, 4, 5, 6, 7] rfl ?_
    exact r_wide (by omega) (by omega) (kk ad1 ρ o1 hQ3 hC3 hM3)
  · skip
    refine r_aload_n K dL_law_1515 5 rfl rfl ?_
    refine r_iconst (v := nI 0) K dL_law_1516 (by decide) ?_
    refine r_lald (j := 0) (v := o1.1) K rfl rfl rfl (by decide) (by decide) rfl dL_law_1517 ?_
    refine r_iload K dL_law_1518 0 rfl ?_
    refine r_i2l (v := ((x1).toInt64)) K dL_law_1520 rfl ?_
    refine r_lcmpE K (by rw [hv1 c_1512, hx1 c_1512]) dL_law_1521 ?_
    refine r_if_eq K dL_law_1522 1527 (0 = 0) (n0_eq (by omega)) (by decide) (fun c_1522 => ?_) (fun c_1522 => ?_)
    · skip
      refine r_goto K dL_law_1527 2423 (by decide) ?_
      have hG : IR σ := Q
      obtain ⟨ρ, hW, hQ3, hC3, hM3⟩ := mg_all (z := z) (ad := ad1) (o := o1) hG hA1 hA2 hC1 hM2
      refine r_mu hW ?_
      refine r_lv (lv' := [(0, .ref b), (1, .ref (ad1 0 0)), (2, .ref (ad1 20 0)), (3, .ref (ad1 19 0)), (4, .ref (ad1 19 1)), (5, .int (nI i))]) [2, 3, 4, 5, 6, 7] rfl ?_
      exact r_wide (by omega) (by omega) (kk ad1 ρ o1 hQ3 hC3 hM3)
    · skip
      exfalso; omega
set_option maxRecDepth 100000 in
set_option maxHeartbeats 4000000 in
/-- wetHours -/
theorem case_25 {z : Zx} {g : Gx} {tb : List ExceptionTableEntry} {mc ms n k b L i : Nat} {xs : Nat → Int32} {ad0 ad : Nm} {μ0 : Ce} {ok : OkT} {ex : String → Prop} {σ : Sg} {o : Int64 × UInt64} (K : Kn g z cL_law 9 yL_law (some .boolean) tb 12 mc ms ad0 μ0 ok ex) (hl : (gl g).stackTraces = false) (X : Scr z g b L xs) (hL : L ≤ 4000) (hi : i + 6 ≤ L) (Q : IR σ) (C : ICo σ) (M : IMo σ) (hn : n + 20 ≤ mc) (hk : k + 400 ≤ ms) (kk : ∀ ad' ρ o', IR ρ → ICo ρ → IMo ρ → WW g z 9 (n + 20) (k + 400) ad' (Wz z ad' ρ ρ o') 2423 [(0, .ref b), (1, .ref (ad' 0 0)), (2, .ref (ad' 20 0)), (3, .ref (ad' 19 0)), (4, .ref (ad' 19 1)), (5, .int (nI i))] []) : WW g z 9 n k ad (Wz z ad σ σ o) 1530 [(0, .ref b), (1, .ref (ad 0 0)), (2, .ref (ad 20 0)), (3, .ref (ad 19 0)), (4, .ref (ad 19 1)), (5, .int (nI i))] [] := by
  show WW g z 9 n k ad (Wz z ad σ σ o) 1530 [(0, .ref b), (1, .ref (ad 0 0)), (2, .ref (ad 20 0)), (3, .ref (ad 19 0)), (4, .ref (ad 19 1)), (5, .int (nI i))] []
  refine r_aload_n K dL_law_1530 1 rfl rfl ?_
  refine r_aload_n K dL_law_1531 0 rfl rfl ?_
  refine r_iload K dL_law_1532 5 rfl ?_
  refine r_iconst (v := nI 1) K dL_law_1534 (by decide) ?_
  refine r_iadd (v := nI (i + 1)) K dL_law_1535 (nI_add _ _) ?_
  refine r_sld (j := i + 1) K X rfl (by omega) (by omega) dL_law_1536 ?_
  refine r_aload_n K dL_law_1537 0 rfl rfl ?_
  refine r_iload K dL_law_1538 5 rfl ?_
  refine r_iconst (v := nI 2) K dL_law_1540 (by decide) ?_
  refine r_iadd (v := nI (i + 2)) K dL_law_1541 (nI_add _ _) ?_
  refine r_sld (j := i + 2) K X rfl (by omega) (by omega) dL_law_1542 ?_
  refine r_aload_n K dL_law_1543 3 rfl rfl ?_
  refine r_callSH (st := []) K (k_L_wetHours (σ := σ) (τ := σ) (o := o) hl Q C) wd_821 wd_47 wd_823 wd_822 ⟨by decide, by decide, (by decide +kernel : (parseMethodDescriptor yL_wetHours.desc).map (fun d => d.parameters.length) = some 4)⟩ (by decide) (by decide) rfl (Nat.le_of_ble_eq_true rfl) (by omega) (by omega) dL_law_1544 ?_
  rintro _ ad1 _ ⟨rfl, hK1, σ1, o1, rfl, hA1, hC1, hv1⟩
  rw [ite_sg] at hA1
  refine r_eq (lv' := [(0, .ref b), (1, .ref (ad1 0 0)), (2, .ref (ad1 20 0)), (3, .ref (ad1 19 0)), (4, .ref (ad1 19 1)), (5, .int (nI i))]) rfl rfl (by rw [hK1.1, hK1.2.1, hK1.2.2.1, hK1.2.2.2]) rfl ?_
  show WW g z 9 (n + 2) (k + 12) ad1 (Wz z ad1 σ1 σ o1) 1547 [(0, .ref b), (1, .ref (ad1 0 0)), (2, .ref (ad1 20 0)), (3, .ref (ad1 19 0)), (4, .ref (ad1 19 1)), (5, .int (nI i))] [.int (nI (cC σ (xs (i + 1)) (xs (i + 2))))]
  refine r_istore (lv' := [(6, .int (nI (cC σ (xs (i + 1)) (xs (i + 2))))), (0, .ref b), (1, .ref (ad1 0 0)), (2, .ref (ad1 20 0)), (3, .ref (ad1 19 0)), (4, .ref (ad1 19 1)), (5, .int (nI i))]) K dL_law_1547 (by decide) rfl ?_
  refine r_aload_n K dL_law_1549 3 rfl rfl ?_
  refine r_aload_n K dL_law_1550 1 rfl rfl ?_
  refine r_iload K dL_law_1551 6 rfl ?_
  refine r_iconst (v := nI 1) K dL_law_1553 (by decide) ?_
  refine r_iadd (v := nI (i + 1)) K dL_law_1554 (nI_add _ _) ?_
  refine r_sld (j := i + 1) K X rfl (by omega) (by omega) dL_law_1555 ?_
  refine r_aload_n K dL_law_1556 1 rfl rfl ?_
  refine r_iload K dL_law_1557 6 rfl ?_
  refine r_iconst (v := nI 2) K dL_law_1559 (by decide) ?_
  refine r_iadd (v := nI (i + 2)) K dL_law_1560 (nI_add _ _) ?_
  refine r_sld (j := i + 2) K X rfl (by omega) (by omega) dL_law_1561 ?_
  refine r_callV (st := []) K (k_X6_wetHours (σ := σ1) (τ := σ) (o := o1) hl Q M) cw_L_224 wd_1596 wd_1597 (by decide) (by decide) rfl rfl rfl rfl (Nat.le_of_ble_eq_true rfl) (by omega) (by omega) dL_law_1562 ?_
  rintro _ _ _ ⟨x1, rfl, hx1, rfl, τ2, rfl, hA2, hM2, h72⟩
  show WW g z 9 (n + 2) (k + 12) ad1 (Wz z ad1 σ1 τ2 o1) 1565 [(6, .int (nI (cC σ (xs (i + 1)) (xs (i + 2))))), (0, .ref b), (1, .ref (ad1 0 0)), (2, .ref (ad1 20 0)), (3, .ref (ad1 19 0)), (4, .ref (ad1 19 1)), (5, .int (nI i))] [.int (x1)]
  refine r_istore (lv' := [(7, .int (x1)), (6, .int (nI (cC σ (xs (i + 1)) (xs (i + 2))))), (0, .ref b), (1, .ref (ad1 0 0)), (2, .ref (ad1 20 0)), (3, .ref (ad1 19 0)), (4, .ref (ad1 19 1)), (5, .int (nI i))]) K dL_law_1565 (by decide) rfl ?_
  refine r_aload_n K dL_law_1567 4 rfl rfl ?_
  refine r_callV (st := []) K (k_X6_thrown (σ := σ1) (τ := τ2) (o := o1) hl) cw_L_134 wd_1422 wd_1423 (by decide) (by decide) rfl rfl rfl rfl (Nat.le_of_ble_eq_true rfl) (by omega) (by omega) dL_law_1568 ?_
  rintro _ _ _ ⟨rfl, rfl, rfl⟩
  refine r_eq (st' := [.int (nI (cC σ (xs (i + 1)) (xs (i + 2))))]) rfl rfl rfl (by rw [h72]; rfl) ?_
  show WW g z 9 (n + 2) (k + 12) ad1 (Wz z ad1 σ1 τ2 o1) 1571 [(7, .int (x1)), (6, .int (nI (cC σ (xs (i + 1)) (xs (i + 2))))), (0, .ref b), (1, .ref (ad1 0 0)), (2, .ref (ad1 20 0)), (3, .ref (ad1 19 0)), (4, .ref (ad1 19 1)), (5, .int (nI i))] [.int (nI (cC σ (xs (i + 1)) (xs (i + 2))))]
  refine r_iload K dL_law_1571 1 rfl ?_
  refine r_icmp_eq K dL_law_1573 1578 True (iff_of_true rfl trivial) (by decide) (fun _ => ?_) (fun c => absurd trivial c)
  refine r_iload K dL_law_1578 1 rfl ?_
  have hcd : (cC σ (xs (i + 1)) (xs (i + 2))) < 2 ^ 31 := by unfold cC; (repeat' split) <;> decide
  refine r_if_ne K dL_law_1580 1595 ((cC σ (xs (i + 1)) (xs (i + 2))) = 0) (n0_eq hcd) (by decide) (fun c_1580 => ?_) (fun c_1580 => ?_)
  · skip
    refine r_goto K dL_law_1595 2423 (by decide) ?_
    have hG : IR σ := Q
    obtain ⟨ρ, hW, hQ3, hC3, hM3⟩ := mg_all (z := z) (ad := ad1) (o := o1) hG hA1 hA2 hC1 hM2
    refine r_mu hW ?_
    refine r_lv (lv' := [(0, .ref b), (1, .ref (ad1 0 0)), (2, .ref (ad1 20 0)), (3, .ref (ad1 19 0)), (4, .ref (ad1 19 1)), (5, .int (nI i))]) [2, 3, 4, 5, 6, 7] rfl ?_
    exact r_wide (by omega) (by omega) (kk ad1 ρ o1 hQ3 hC3 hM3)
  · skip
    refine r_aload_n K dL_law_1583 5 rfl rfl ?_
    refine r_iconst (v := nI 0) K dL_law_1584 (by decide) ?_
    refine r_lald (j := 0) (v := o1.1) K rfl rfl rfl (by decide) (by decide) rfl dL_law_1585 ?_
    refine r_iload K dL_law_1586 0 rfl ?_
    refine r_i2l (v := ((x1).toInt64)) K dL_law_1588 rfl ?_
    refine r_lcmpE K (by rw [hv1 c_1580, hx1 c_1580]) dL_law_1589 ?_
    refine r_if_eq K dL_law_1590 1595 (0 = 0) (n0_eq (by omega)) (by decide) (fun c_1590 => ?_) (fun c_1590 => ?_)
    · skip
      refine r_goto K dL_law_1595 2423 (by decide) ?_
      have hG : IR σ := Q
      obtain ⟨ρ, hW, hQ3, hC3, hM3⟩ := mg_all (z := z) (ad := ad1) (o := o1) hG hA1 hA2 hC1 hM2
      refine r_mu hW ?_
      refine r_lv (lv' := [(0, .ref b), (1, .ref (ad1 0 0)), (2, .ref (ad1 20 0)), (3, .ref (ad1 19 0)), (4, .ref (ad1 19 1)), (5, .int (nI i))]) [2, 3, 4, 5, 6, 7] rfl ?_
      exact r_wide (by omega) (by omega) (kk ad1 ρ o1 hQ3 hC3 hM3)
    · skip
      exfalso; omega
set_option maxRecDepth 100000 in
set_option maxHeartbeats 4000000 in
/-- floodedSoFar -/
theorem case_26 {z : Zx} {g : Gx} {tb : List ExceptionTableEntry} {mc ms n k b L i : Nat} {xs : Nat → Int32} {ad0 ad : Nm} {μ0 : Ce} {ok : OkT} {ex : String → Prop} {σ : Sg} {o : Int64 × UInt64} (K : Kn g z cL_law 9 yL_law (some .boolean) tb 12 mc ms ad0 μ0 ok ex) (hl : (gl g).stackTraces = false) (X : Scr z g b L xs) (hL : L ≤ 4000) (hi : i + 6 ≤ L) (Q : IR σ) (C : ICo σ) (M : IMo σ) (hn : n + 20 ≤ mc) (hk : k + 400 ≤ ms) (kk : ∀ ad' ρ o', IR ρ → ICo ρ → IMo ρ → WW g z 9 (n + 20) (k + 400) ad' (Wz z ad' ρ ρ o') 2423 [(0, .ref b), (1, .ref (ad' 0 0)), (2, .ref (ad' 20 0)), (3, .ref (ad' 19 0)), (4, .ref (ad' 19 1)), (5, .int (nI i))] []) : WW g z 9 n k ad (Wz z ad σ σ o) 1598 [(0, .ref b), (1, .ref (ad 0 0)), (2, .ref (ad 20 0)), (3, .ref (ad 19 0)), (4, .ref (ad 19 1)), (5, .int (nI i))] [] := by
  show WW g z 9 n k ad (Wz z ad σ σ o) 1598 [(0, .ref b), (1, .ref (ad 0 0)), (2, .ref (ad 20 0)), (3, .ref (ad 19 0)), (4, .ref (ad 19 1)), (5, .int (nI i))] []
  refine r_aload_n K dL_law_1598 1 rfl rfl ?_
  refine r_callV (st := []) K (k_X5_floodedSoFar (σ := σ) (τ := σ) (o := o) hl Q C) cw_L_225 wd_238 wd_239 (by decide) (by decide) rfl rfl rfl rfl (Nat.le_of_ble_eq_true rfl) (by omega) (by omega) dL_law_1599 ?_
  rintro _ ad1 _ ⟨-, rfl, hK1, σ1, rfl, hA1, hC1⟩
  refine r_eq (lv' := [(0, .ref b), (1, .ref (ad1 0 0)), (2, .ref (ad1 20 0)), (3, .ref (ad1 19 0)), (4, .ref (ad1 19 1)), (5, .int (nI i))]) rfl rfl (by rw [hK1.1, hK1.2.1, hK1.2.2.1, hK1.2.2.2]) rfl ?_
  show WW g z 9 n k ad1 (Wz z ad1 σ1 σ o) 1602 [(0, .ref b), (1, .ref (ad1 0 0)), (2, .ref (ad1 20 0)), (3, .ref (ad1 19 0)), (4, .ref (ad1 19 1)), (5, .int (nI i))] [.int (nI (σ 31 0 0))]
  refine r_aload_n K dL_law_1602 2 rfl rfl ?_
  refine r_callV (st := [.int (nI (σ 31 0 0))]) K (k_X6_floodedSoFar (σ := σ1) (τ := σ) (o := o) hl Q M) cw_L_228 wd_1600 wd_1601 (by decide) (by decide) rfl rfl rfl rfl (Nat.le_of_ble_eq_true rfl) (by omega) (by omega) dL_law_1603 ?_
  rintro _ _ _ ⟨x1, rfl, hx1, rfl, τ2, rfl, hA2, hM2, h72⟩
  show WW g z 9 n k ad1 (Wz z ad1 σ1 τ2 o) 1606 [(0, .ref b), (1, .ref (ad1 0 0)), (2, .ref (ad1 20 0)), (3, .ref (ad1 19 0)), (4, .ref (ad1 19 1)), (5, .int (nI i))] [.int (x1), .int (nI (σ 31 0 0))]
  refine r_icmp_eq K dL_law_1606 2423 True (iff_of_true (by rw [hx1 rfl, C.2.2.2.1]) trivial) (by decide) (fun _ => ?_) (fun c => absurd trivial c)
  have hG : IR σ := Q
  obtain ⟨ρ, hW, hQ3, hC3, hM3⟩ := mg_all (z := z) (ad := ad1) (o := o) hG hA1 hA2 hC1 hM2
  refine r_mu hW ?_
  refine r_lv (lv' := [(0, .ref b), (1, .ref (ad1 0 0)), (2, .ref (ad1 20 0)), (3, .ref (ad1 19 0)), (4, .ref (ad1 19 1)), (5, .int (nI i))]) [0, 1, 2, 3, 4, 5] rfl ?_
  exact r_wide (by omega) (by omega) (kk ad1 ρ o hQ3 hC3 hM3)
set_option maxRecDepth 100000 in
set_option maxHeartbeats 4000000 in
/-- addHouse -/
theorem case_27 {z : Zx} {g : Gx} {tb : List ExceptionTableEntry} {mc ms n k b L i : Nat} {xs : Nat → Int32} {ad0 ad : Nm} {μ0 : Ce} {ok : OkT} {ex : String → Prop} {σ : Sg} {o : Int64 × UInt64} (K : Kn g z cL_law 9 yL_law (some .boolean) tb 12 mc ms ad0 μ0 ok ex) (hl : (gl g).stackTraces = false) (X : Scr z g b L xs) (hL : L ≤ 4000) (hi : i + 6 ≤ L) (Q : IR σ) (C : ICo σ) (M : IMo σ) (hn : n + 20 ≤ mc) (hk : k + 400 ≤ ms) (kk : ∀ ad' ρ o', IR ρ → ICo ρ → IMo ρ → WW g z 9 (n + 20) (k + 400) ad' (Wz z ad' ρ ρ o') 2423 [(0, .ref b), (1, .ref (ad' 0 0)), (2, .ref (ad' 20 0)), (3, .ref (ad' 19 0)), (4, .ref (ad' 19 1)), (5, .int (nI i))] []) : WW g z 9 n k ad (Wz z ad σ σ o) 1611 [(0, .ref b), (1, .ref (ad 0 0)), (2, .ref (ad 20 0)), (3, .ref (ad 19 0)), (4, .ref (ad 19 1)), (5, .int (nI i))] [] := by
  show WW g z 9 n k ad (Wz z ad σ σ o) 1611 [(0, .ref b), (1, .ref (ad 0 0)), (2, .ref (ad 20 0)), (3, .ref (ad 19 0)), (4, .ref (ad 19 1)), (5, .int (nI i))] []
  refine r_aload_n K dL_law_1611 1 rfl rfl ?_
  refine r_aload_n K dL_law_1612 0 rfl rfl ?_
  refine r_iload K dL_law_1613 5 rfl ?_
  refine r_iconst (v := nI 1) K dL_law_1615 (by decide) ?_
  refine r_iadd (v := nI (i + 1)) K dL_law_1616 (nI_add _ _) ?_
  refine r_sld (j := i + 1) K X rfl (by omega) (by omega) dL_law_1617 ?_
  refine r_aload_n K dL_law_1618 0 rfl rfl ?_
  refine r_iload K dL_law_1619 5 rfl ?_
  refine r_iconst (v := nI 2) K dL_law_1621 (by decide) ?_
  refine r_iadd (v := nI (i + 2)) K dL_law_1622 (nI_add _ _) ?_
  refine r_sld (j := i + 2) K X rfl (by omega) (by omega) dL_law_1623 ?_
  refine r_aload_n K dL_law_1624 0 rfl rfl ?_
  refine r_iload K dL_law_1625 5 rfl ?_
  refine r_iconst (v := nI 3) K dL_law_1627 (by decide) ?_
  refine r_iadd (v := nI (i + 3)) K dL_law_1628 (nI_add _ _) ?_
  refine r_sld (j := i + 3) K X rfl (by omega) (by omega) dL_law_1629 ?_
  refine r_aload_n K dL_law_1630 0 rfl rfl ?_
  refine r_iload K dL_law_1631 5 rfl ?_
  refine r_iconst (v := nI 4) K dL_law_1633 (by decide) ?_
  refine r_iadd (v := nI (i + 4)) K dL_law_1634 (nI_add _ _) ?_
  refine r_sld (j := i + 4) K X rfl (by omega) (by omega) dL_law_1635 ?_
  refine r_aload_n K dL_law_1636 3 rfl rfl ?_
  refine r_callSH (st := []) K (k_L_addHouse (σ := σ) (τ := σ) (o := o) hl Q C) wd_829 wd_47 wd_831 wd_830 ⟨by decide, by decide, (by decide +kernel : (parseMethodDescriptor yL_addHouse.desc).map (fun d => d.parameters.length) = some 6)⟩ (by decide) (by decide) rfl (Nat.le_of_ble_eq_true rfl) (by omega) (by omega) dL_law_1637 ?_
  rintro _ ad1 _ ⟨rfl, hK1, σ1, o1, rfl, hA1, hC1, hv1⟩
  refine r_eq (lv' := [(0, .ref b), (1, .ref (ad1 0 0)), (2, .ref (ad1 20 0)), (3, .ref (ad1 19 0)), (4, .ref (ad1 19 1)), (5, .int (nI i))]) rfl rfl (by rw [hK1.1, hK1.2.1, hK1.2.2.1, hK1.2.2.2]) rfl ?_
  show WW g z 9 (n + 5) (k + 110) ad1 (Wz z ad1 σ1 σ o1) 1640 [(0, .ref b), (1, .ref (ad1 0 0)), (2, .ref (ad1 20 0)), (3, .ref (ad1 19 0)), (4, .ref (ad1 19 1)), (5, .int (nI i))] [.int (nI (cAH σ (xs (i + 1)) (xs (i + 2)) (xs (i + 3)) (xs (i + 4))))]
  refine r_istore (lv' := [(6, .int (nI (cAH σ (xs (i + 1)) (xs (i + 2)) (xs (i + 3)) (xs (i + 4))))), (0, .ref b), (1, .ref (ad1 0 0)), (2, .ref (ad1 20 0)), (3, .ref (ad1 19 0)), (4, .ref (ad1 19 1)), (5, .int (nI i))]) K dL_law_1640 (by decide) rfl ?_
  refine r_aload_n K dL_law_1642 3 rfl rfl ?_
  refine r_aload_n K dL_law_1643 1 rfl rfl ?_
  refine r_iload K dL_law_1644 6 rfl ?_
  refine r_iconst (v := nI 1) K dL_law_1646 (by decide) ?_
  refine r_iadd (v := nI (i + 1)) K dL_law_1647 (nI_add _ _) ?_
  refine r_sld (j := i + 1) K X rfl (by omega) (by omega) dL_law_1648 ?_
  refine r_aload_n K dL_law_1649 1 rfl rfl ?_
  refine r_iload K dL_law_1650 6 rfl ?_
  refine r_iconst (v := nI 2) K dL_law_1652 (by decide) ?_
  refine r_iadd (v := nI (i + 2)) K dL_law_1653 (nI_add _ _) ?_
  refine r_sld (j := i + 2) K X rfl (by omega) (by omega) dL_law_1654 ?_
  refine r_aload_n K dL_law_1655 1 rfl rfl ?_
  refine r_iload K dL_law_1656 6 rfl ?_
  refine r_iconst (v := nI 3) K dL_law_1658 (by decide) ?_
  refine r_iadd (v := nI (i + 3)) K dL_law_1659 (nI_add _ _) ?_
  refine r_sld (j := i + 3) K X rfl (by omega) (by omega) dL_law_1660 ?_
  refine r_aload_n K dL_law_1661 1 rfl rfl ?_
  refine r_iload K dL_law_1662 6 rfl ?_
  refine r_iconst (v := nI 4) K dL_law_1664 (by decide) ?_
  refine r_iadd (v := nI (i + 4)) K dL_law_1665 (nI_add _ _) ?_
  refine r_sld (j := i + 4) K X rfl (by omega) (by omega) dL_law_1666 ?_
  refine r_callV (st := []) K (k_X6_addHouse (σ := σ1) (τ := σ) (o := o1) hl Q M) cw_L_232 wd_1604 wd_1605 (by decide) (by decide) rfl rfl rfl rfl (Nat.le_of_ble_eq_true rfl) (by omega) (by omega) dL_law_1667 ?_
  rintro _ _ _ ⟨x1, rfl, hx1, rfl, τ2, rfl, hA2, hM2, h72⟩
  show WW g z 9 (n + 5) (k + 110) ad1 (Wz z ad1 σ1 τ2 o1) 1670 [(6, .int (nI (cAH σ (xs (i + 1)) (xs (i + 2)) (xs (i + 3)) (xs (i + 4))))), (0, .ref b), (1, .ref (ad1 0 0)), (2, .ref (ad1 20 0)), (3, .ref (ad1 19 0)), (4, .ref (ad1 19 1)), (5, .int (nI i))] [.int (x1)]
  refine r_istore (lv' := [(7, .int (x1)), (6, .int (nI (cAH σ (xs (i + 1)) (xs (i + 2)) (xs (i + 3)) (xs (i + 4))))), (0, .ref b), (1, .ref (ad1 0 0)), (2, .ref (ad1 20 0)), (3, .ref (ad1 19 0)), (4, .ref (ad1 19 1)), (5, .int (nI i))]) K dL_law_1670 (by decide) rfl ?_
  refine r_aload_n K dL_law_1672 4 rfl rfl ?_
  refine r_callV (st := []) K (k_X6_thrown (σ := σ1) (τ := τ2) (o := o1) hl) cw_L_134 wd_1422 wd_1423 (by decide) (by decide) rfl rfl rfl rfl (Nat.le_of_ble_eq_true rfl) (by omega) (by omega) dL_law_1673 ?_
  rintro _ _ _ ⟨rfl, rfl, rfl⟩
  refine r_eq (st' := [.int (nI (cAH σ (xs (i + 1)) (xs (i + 2)) (xs (i + 3)) (xs (i + 4))))]) rfl rfl rfl (by rw [h72]; rfl) ?_
  show WW g z 9 (n + 5) (k + 110) ad1 (Wz z ad1 σ1 τ2 o1) 1676 [(7, .int (x1)), (6, .int (nI (cAH σ (xs (i + 1)) (xs (i + 2)) (xs (i + 3)) (xs (i + 4))))), (0, .ref b), (1, .ref (ad1 0 0)), (2, .ref (ad1 20 0)), (3, .ref (ad1 19 0)), (4, .ref (ad1 19 1)), (5, .int (nI i))] [.int (nI (cAH σ (xs (i + 1)) (xs (i + 2)) (xs (i + 3)) (xs (i + 4))))]
  refine r_iload K dL_law_1676 1 rfl ?_
  refine r_icmp_eq K dL_law_1678 1683 True (iff_of_true rfl trivial) (by decide) (fun _ => ?_) (fun c => absurd trivial c)
  refine r_iload K dL_law_1683 1 rfl ?_
  have hcd : (cAH σ (xs (i + 1)) (xs (i + 2)) (xs (i + 3)) (xs (i + 4))) < 2 ^ 31 := by unfold cAH; (repeat' split) <;> decide
  refine r_if_ne K dL_law_1685 1700 ((cAH σ (xs (i + 1)) (xs (i + 2)) (xs (i + 3)) (xs (i + 4))) = 0) (n0_eq hcd) (by decide) (fun c_1685 => ?_) (fun c_1685 => ?_)
  · skip
    refine r_goto K dL_law_1700 2423 (by decide) ?_
    have hG : IR (if (cAH σ (xs (i + 1)) (xs (i + 2)) (xs (i + 3)) (xs (i + 4))) = 0 then fHouse σ (xs (i + 1)) (xs (i + 2)) (xs (i + 3)) (xs (i + 4)) else σ) := by by_cases h0 : (cAH σ (xs (i + 1)) (xs (i + 2)) (xs (i + 3)) (xs (i + 4))) = 0; (rw [if_pos h0]; exact ir_house Q h0); (rw [if_neg h0]; exact Q)
    obtain ⟨ρ, hW, hQ3, hC3, hM3⟩ := mg_all (z := z) (ad := ad1) (o := o1) hG hA1 hA2 hC1 hM2
    refine r_mu hW ?_
    refine r_lv (lv' := [(0, .ref b), (1, .ref (ad1 0 0)), (2, .ref (ad1 20 0)), (3, .ref (ad1 19 0)), (4, .ref (ad1 19 1)), (5, .int (nI i))]) [2, 3, 4, 5, 6, 7] rfl ?_
    exact r_wide (by omega) (by omega) (kk ad1 ρ o1 hQ3 hC3 hM3)
  · skip
    refine r_aload_n K dL_law_1688 5 rfl rfl ?_
    refine r_iconst (v := nI 0) K dL_law_1689 (by decide) ?_
    refine r_lald (j := 0) (v := o1.1) K rfl rfl rfl (by decide) (by decide) rfl dL_law_1690 ?_
    refine r_iload K dL_law_1691 0 rfl ?_
    refine r_i2l (v := ((x1).toInt64)) K dL_law_1693 rfl ?_
    refine r_lcmpE K (by rw [hv1 c_1685, hx1 c_1685]) dL_law_1694 ?_
    refine r_if_eq K dL_law_1695 1700 (0 = 0) (n0_eq (by omega)) (by decide) (fun c_1695 => ?_) (fun c_1695 => ?_)
    · skip
      refine r_goto K dL_law_1700 2423 (by decide) ?_
      have hG : IR (if (cAH σ (xs (i + 1)) (xs (i + 2)) (xs (i + 3)) (xs (i + 4))) = 0 then fHouse σ (xs (i + 1)) (xs (i + 2)) (xs (i + 3)) (xs (i + 4)) else σ) := by by_cases h0 : (cAH σ (xs (i + 1)) (xs (i + 2)) (xs (i + 3)) (xs (i + 4))) = 0; (rw [if_pos h0]; exact ir_house Q h0); (rw [if_neg h0]; exact Q)
      obtain ⟨ρ, hW, hQ3, hC3, hM3⟩ := mg_all (z := z) (ad := ad1) (o := o1) hG hA1 hA2 hC1 hM2
      refine r_mu hW ?_
      refine r_lv (lv' := [(0, .ref b), (1, .ref (ad1 0 0)), (2, .ref (ad1 20 0)), (3, .ref (ad1 19 0)), (4, .ref (ad1 19 1)), (5, .int (nI i))]) [2, 3, 4, 5, 6, 7] rfl ?_
      exact r_wide (by omega) (by omega) (kk ad1 ρ o1 hQ3 hC3 hM3)
    · skip
      exfalso; omega
