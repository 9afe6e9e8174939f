set_option maxRecDepth 100000 in
set_option maxHeartbeats 4000000 in
theorem k_J5_ensureCapacityInternal_d00df {z : Zx} {l : Launch} {σ τ : Sg} {o : Int64 × UInt64} {ad : Nm} (hl : l.stackTraces = false) {n : Nat} (hn : n ≤ 16) : Ko z l yJ5_ensureCapacityInternal_d00df cJ5_ensureCapacityInternal_d00df 3 none 0 0 0 [.ref (ad 7 0), .int (nI n)] ad (Wz z ad σ τ o) (okV none ad (Wz z ad σ τ o)) exNo := by
  refine ko_of hl (by decide +kernel) (Nat.le_of_ble_eq_true rfl) (fun g hg K => ?_)
  subst hg
  show WW g z 3 0 0 ad (Wz z ad σ τ o) 0 [(0, .ref (ad 7 0)), (1, .int (nI n))] []
  refine r_aload_n K dJ5_ensureCapacityInternal_d00df_0 0 rfl rfl ?_
  refine r_get (v := .ref (ad 8 0)) K fd_J5_15 rfl rfl rfl dJ5_ensureCapacityInternal_d00df_1 ?_
  refine r_alenB K rfl rfl dJ5_ensureCapacityInternal_d00df_4 ?_
  refine r_aload_n K dJ5_ensureCapacityInternal_d00df_5 0 rfl rfl ?_
  refine r_get (v := .int (nI 0)) K fd_J5_22 rfl rfl rfl dJ5_ensureCapacityInternal_d00df_6 ?_
  refine r_ishr (v := nI 16) K dJ5_ensureCapacityInternal_d00df_9 (shr0 (by omega)) ?_
  refine r_istore_n (lv' := [(2, .int (nI 16)), (0, .ref (ad 7 0)), (1, .int (nI n))]) K dJ5_ensureCapacityInternal_d00df_10 rfl (by decide) rfl ?_
  refine r_iload_n K dJ5_ensureCapacityInternal_d00df_11 2 rfl rfl ?_
  refine r_iload_n K dJ5_ensureCapacityInternal_d00df_12 0 rfl rfl ?_
  refine r_isub (v := (nI n) - (nI 16)) K dJ5_ensureCapacityInternal_d00df_13 rfl ?_
  refine r_if_le K dJ5_ensureCapacityInternal_d00df_14 38 (n ≤ 16) (sub_le0 (by omega) (by omega)) (by decide) (fun c_14 => ?_) (fun c_14 => ?_)
  · skip
    exact r_vret K (by decide) (by decide) ⟨rfl, rfl, rfl⟩ dJ5_ensureCapacityInternal_d00df_38
  · skip
    exfalso; omega
set_option maxRecDepth 100000 in
set_option maxHeartbeats 4000000 in
theorem k_J5_isLatin1_aae02 {z : Zx} {l : Launch} {σ τ : Sg} {o : Int64 × UInt64} {ad : Nm} (hl : l.stackTraces = false)  : Ko z l yJ5_isLatin1_aae02 cJ5_isLatin1_aae02 1 (some .boolean) 0 0 0 [.ref (ad 7 0)] ad (Wz z ad σ τ o) (okV (some (.int (nI 1))) ad (Wz z ad σ τ o)) exNo := by
  refine ko_of hl (by decide +kernel) (Nat.le_of_ble_eq_true rfl) (fun g hg K => ?_)
  subst hg
  show WW g z 1 0 0 ad (Wz z ad σ τ o) 0 [(0, .ref (ad 7 0))] []
  refine r_gets (ref := "") K (kE K).2.2.2.2.2.2.1 wd_149 dJ5_isLatin1_aae02_0 ?_
  show WW g z 1 0 0 ad (Wz z ad σ τ o) 3 [(0, .ref (ad 7 0))] [.int (nI 1)]
  refine r_if_eq K dJ5_isLatin1_aae02_3 17 (1 = 0) (n0_eq (by omega)) (by decide) (fun c_3 => ?_) (fun c_3 => ?_)
  · skip
    exfalso; omega
  · skip
    refine r_aload_n K dJ5_isLatin1_aae02_6 0 rfl rfl ?_
    refine r_get (v := .int (nI 0)) K fd_J5_22 rfl rfl rfl dJ5_isLatin1_aae02_7 ?_
    refine r_if_ne K dJ5_isLatin1_aae02_10 17 (0 = 0) (n0_eq (by omega)) (by decide) (fun c_10 => ?_) (fun c_10 => ?_)
    · skip
      exfalso; omega
    · skip
      refine r_iconst (v := nI 1) K dJ5_isLatin1_aae02_13 (by decide) ?_
      refine r_goto K dJ5_isLatin1_aae02_14 18 (by decide) ?_
      exact r_zret K (by first | rfl | decide | exact pI_nar) (by decide) (by decide) ⟨rfl, rfl, rfl⟩ dJ5_isLatin1_aae02_18
set_option maxRecDepth 100000 in
set_option maxHeartbeats 4000000 in
theorem k_J1_canEncode_fc78d {z : Zx} {l : Launch} {σ τ : Sg} {o : Int64 × UInt64} {ad : Nm} (hl : l.stackTraces = false) {c : Nat} (hc : c < 128) : Ko z l yJ1_canEncode_fc78d cJ1_canEncode_fc78d 1 (some .boolean) 0 0 0 [.int (nI c)] ad (Wz z ad σ τ o) (okV (some (.int (nI 1))) ad (Wz z ad σ τ o)) exNo := by
  refine ko_of hl (by decide +kernel) (Nat.le_of_ble_eq_true rfl) (fun g hg K => ?_)
  subst hg
  show WW g z 1 0 0 ad (Wz z ad σ τ o) 0 [(0, .int (nI c))] []
  refine r_iload_n K dJ1_canEncode_fc78d_0 0 rfl rfl ?_
  refine r_sipush (v := nI 255) K dJ1_canEncode_fc78d_1 (by decide) ?_
  refine r_icmp_gt K dJ1_canEncode_fc78d_4 11 (255 < c) (nI_ltI (by omega) (by omega)) (by decide) (fun c_4 => ?_) (fun c_4 => ?_)
  · skip
    exfalso; omega
  · skip
    refine r_iconst (v := nI 1) K dJ1_canEncode_fc78d_7 (by decide) ?_
    refine r_goto K dJ1_canEncode_fc78d_8 12 (by decide) ?_
    exact r_zret K (by first | rfl | decide | exact pI_nar) (by decide) (by decide) ⟨rfl, rfl, rfl⟩ dJ1_canEncode_fc78d_12
set_option maxRecDepth 100000 in
set_option maxHeartbeats 4000000 in
theorem k_J5_append_3fe6f {z : Zx} {l : Launch} {σ τ : Sg} {o : Int64 × UInt64} {ad : Nm} (hl : l.stackTraces = false) {c : Nat} (hc : c < 128) (hl2 : σ 12 2 0 < 16) : Ko z l yJ5_append_3fe6f cJ5_append_3fe6f 2 (some (.object "java/lang/AbstractStringBuilder")) 1 0 0 [.ref (ad 7 0), .int (nI c)] ad (Wz z ad σ τ o) (okV (some (.ref (ad 7 0))) ad (Wz z ad (lput σ c) τ o)) exNo := by
  refine ko_of hl (by decide +kernel) (Nat.le_of_ble_eq_true rfl) (fun g hg K => ?_)
  subst hg
  show WW g z 2 0 0 ad (Wz z ad σ τ o) 0 [(0, .ref (ad 7 0)), (1, .int (nI c))] []
  refine r_aload_n K dJ5_append_3fe6f_0 0 rfl rfl ?_
  refine r_aload_n K dJ5_append_3fe6f_1 0 rfl rfl ?_
  refine r_get (v := .int (nI (σ 12 2 0))) K fd_J5_79 rfl rfl rfl dJ5_append_3fe6f_2 ?_
  refine r_iconst (v := nI 1) K dJ5_append_3fe6f_5 (by decide) ?_
  refine r_iadd (v := nI ((σ 12 2 0) + 1)) K dJ5_append_3fe6f_6 (nI_add _ _) ?_
  refine r_callVC (st := []) K (k_J5_ensureCapacityInternal_d00df (n := (σ 12 2 0) + 1) hl (by omega)) cw_J5_100 wd_1045 wd_x0 (by decide) (by decide) rfl rfl rfl rfl (Nat.le_of_ble_eq_true rfl) (by decide) (by decide) dJ5_append_3fe6f_7 ?_
  rintro _ _ _ ⟨rfl, rfl, rfl⟩
  show WW g z 2 0 0 ad (Wz z ad σ τ o) 10 [(0, .ref (ad 7 0)), (1, .int (nI c))] []
  refine r_aload_n K dJ5_append_3fe6f_10 0 rfl rfl ?_
  refine r_callVC (st := []) K (k_J5_isLatin1_aae02 hl) cw_J5_83 wd_1064 wd_1066 (by decide) (by decide) rfl rfl rfl rfl (Nat.le_of_ble_eq_true rfl) (by decide) (by decide) dJ5_append_3fe6f_11 ?_
  rintro _ _ _ ⟨rfl, rfl, rfl⟩
  show WW g z 2 0 0 ad (Wz z ad σ τ o) 14 [(0, .ref (ad 7 0)), (1, .int (nI c))] [.int (nI 1)]
  refine r_if_eq K dJ5_append_3fe6f_14 45 (1 = 0) (n0_eq (by omega)) (by decide) (fun c_14 => ?_) (fun c_14 => ?_)
  · skip
    exfalso; omega
  · skip
    refine r_iload_n K dJ5_append_3fe6f_17 1 rfl rfl ?_
    refine r_callS (st := []) K (k_J1_canEncode_fc78d (c := c) hl (by omega)) cw_J5_191 wd_1268 (by decide) (by decide) rfl (Nat.le_of_ble_eq_true rfl) (by decide) (by decide) dJ5_append_3fe6f_18 ?_
    rintro _ _ _ ⟨rfl, rfl, rfl⟩
    show WW g z 2 0 0 ad (Wz z ad σ τ o) 21 [(0, .ref (ad 7 0)), (1, .int (nI c))] [.int (nI 1)]
    refine r_if_eq K dJ5_append_3fe6f_21 45 (1 = 0) (n0_eq (by omega)) (by decide) (fun c_21 => ?_) (fun c_21 => ?_)
    · skip
      exfalso; omega
    · skip
      refine r_aload_n K dJ5_append_3fe6f_24 0 rfl rfl ?_
      refine r_get (v := .ref (ad 8 0)) K fd_J5_15 rfl rfl rfl dJ5_append_3fe6f_25 ?_
      refine r_aload_n K dJ5_append_3fe6f_28 0 rfl rfl ?_
      refine r_dup K dJ5_append_3fe6f_29 rfl ?_
      refine r_get (v := .int (nI (σ 12 2 0))) K fd_J5_79 rfl rfl rfl dJ5_append_3fe6f_30 ?_
      refine r_dup_x1 K dJ5_append_3fe6f_33 rfl rfl ?_
      refine r_iconst (v := nI 1) K dJ5_append_3fe6f_34 (by decide) ?_
      refine r_iadd (v := nI ((σ 12 2 0) + 1)) K dJ5_append_3fe6f_35 (nI_add _ _) ?_
      refine r_put K fd_J5_79 rfl rfl rfl rfl (Nat.le_of_ble_eq_true rfl) rfl dJ5_append_3fe6f_36 ?_
      refine r_mu (u_7_3) ?_
      show WW g z 2 0 0 ad (Wz z ad (su σ 12 2 0 ((σ 12 2 0) + 1)) τ o) 39 [(0, .ref (ad 7 0)), (1, .int (nI c))] [.int (nI (σ 12 2 0)), .ref (ad 8 0)]
      refine r_iload_n K dJ5_append_3fe6f_39 1 rfl rfl ?_
      refine r_i2b (v := nI c) K dJ5_append_3fe6f_40 (i2bN (by omega)) ?_
      refine r_bast (j := σ 12 2 0) K rfl rfl rfl (by omega) (by decide) (congrArg (upd _ _) (bn (by omega))) dJ5_append_3fe6f_41 ?_
      refine r_mu (u_8) ?_
      show WW g z 2 0 0 ad (Wz z ad (su (su σ 12 2 0 ((σ 12 2 0) + 1)) 11 0 (σ 12 2 0) c) τ o) 42 [(0, .ref (ad 7 0)), (1, .int (nI c))] []
      refine r_goto K dJ5_append_3fe6f_42 75 (by decide) ?_
      refine r_aload_n K dJ5_append_3fe6f_75 0 rfl rfl ?_
      exact r_aret K (.inl ⟨_, rfl⟩) (.inr ⟨_, rfl⟩) (by decide) (by decide) ⟨rfl, rfl, by rw [lput_c]⟩ dJ5_append_3fe6f_76
set_option maxRecDepth 100000 in
set_option maxHeartbeats 4000000 in
theorem k_J4_append_cf468 {z : Zx} {l : Launch} {σ τ : Sg} {o : Int64 × UInt64} {ad : Nm} (hl : l.stackTraces = false) {c : Nat} (hc : c < 128) (hl2 : σ 12 2 0 < 16) : Ko z l yJ4_append_cf468 cJ4_append_cf468 2 (some (.object "java/lang/StringBuilder")) 2 0 0 [.ref (ad 7 0), .int (nI c)] ad (Wz z ad σ τ o) (okV (some (.ref (ad 7 0))) ad (Wz z ad (lput σ c) τ o)) exNo := by
  refine ko_of hl (by decide +kernel) (Nat.le_of_ble_eq_true rfl) (fun g hg K => ?_)
  subst hg
  show WW g z 2 0 0 ad (Wz z ad σ τ o) 0 [(0, .ref (ad 7 0)), (1, .int (nI c))] []
  refine r_aload_n K dJ4_append_cf468_0 0 rfl rfl ?_
  refine r_iload_n K dJ4_append_cf468_1 1 rfl rfl ?_
  refine r_callSU (st := []) K (k_J5_append_3fe6f (c := c) hl (by omega) (by omega)) cw_J4_50 rfl wd_1707 wd_171 wd_1265 (by decide) (by decide) (by decide) rfl rfl rfl (Nat.le_of_ble_eq_true rfl) (by decide) (by decide) dJ4_append_cf468_2 ?_
  rintro _ _ _ ⟨rfl, rfl, rfl⟩
  show WW g z 2 0 0 ad (Wz z ad (lput σ c) τ o) 5 [(0, .ref (ad 7 0)), (1, .int (nI c))] [.ref (ad 7 0)]
  refine r_pop K dJ4_append_cf468_5 rfl ?_
  refine r_aload_n K dJ4_append_cf468_6 0 rfl rfl ?_
  exact r_aret K (.inl ⟨_, rfl⟩) (.inr ⟨_, rfl⟩) (by decide) (by decide) ⟨rfl, rfl, rfl⟩ dJ4_append_cf468_7
set_option maxRecDepth 100000 in
set_option maxHeartbeats 4000000 in
theorem k_J6_stringSize_0f7a4 {z : Zx} {l : Launch} {σ τ : Sg} {o : Int64 × UInt64} {ad : Nm} (hl : l.stackTraces = false) {v : Nat} (hv : v < 100) : Ko z l yJ6_stringSize_0f7a4 cJ6_stringSize_0f7a4 4 (some .int) 0 0 0 [.int (nI v)] ad (Wz z ad σ τ o) (okV (some (.int (nI (dg v)))) ad (Wz z ad σ τ o)) exNo := by
  refine ko_of hl (by decide +kernel) (Nat.le_of_ble_eq_true rfl) (fun g hg K => ?_)
  subst hg
  show WW g z 4 0 0 ad (Wz z ad σ τ o) 0 [(0, .int (nI v))] []
  refine r_iconst (v := nI 1) K dJ6_stringSize_0f7a4_0 (by decide) ?_
  refine r_istore_n (lv' := [(1, .int (nI 1)), (0, .int (nI v))]) K dJ6_stringSize_0f7a4_1 rfl (by decide) rfl ?_
  refine r_iload_n K dJ6_stringSize_0f7a4_2 1 rfl rfl ?_
  refine r_if_lt K dJ6_stringSize_0f7a4_3 11 (False) (n0_lt (by omega)) (by decide) (fun c_3 => ?_) (fun c_3 => ?_)
  · skip
    exfalso; exact c_3.elim
  · skip
    refine r_iconst (v := nI 0) K dJ6_stringSize_0f7a4_6 (by decide) ?_
    refine r_istore_n (lv' := [(1, .int (nI 0)), (0, .int (nI v))]) K dJ6_stringSize_0f7a4_7 rfl (by decide) rfl ?_
    refine r_iload_n K dJ6_stringSize_0f7a4_8 1 rfl rfl ?_
    refine r_ineg (v := -(nI v)) K dJ6_stringSize_0f7a4_9 rfl ?_
    refine r_istore_n (lv' := [(0, .int (-(nI v))), (1, .int (nI 0))]) K dJ6_stringSize_0f7a4_10 rfl (by decide) rfl ?_
    refine r_bipush (v := (-10)) K dJ6_stringSize_0f7a4_11 (by decide) ?_
    refine r_istore_n (lv' := [(2, .int ((-10))), (0, .int (-(nI v))), (1, .int (nI 0))]) K dJ6_stringSize_0f7a4_13 rfl (by decide) rfl ?_
    refine r_iconst (v := nI 1) K dJ6_stringSize_0f7a4_14 (by decide) ?_
    refine r_istore_n (lv' := [(3, .int (nI 1)), (2, .int ((-10))), (0, .int (-(nI v))), (1, .int (nI 0))]) K dJ6_stringSize_0f7a4_15 rfl (by decide) rfl ?_
    refine r_iload_n K dJ6_stringSize_0f7a4_16 0 rfl rfl ?_
    refine r_bipush (v := nI 10) K dJ6_stringSize_0f7a4_17 (by decide) ?_
    refine r_icmp_ge K dJ6_stringSize_0f7a4_19 42 (10 ≤ 1) (nI_leI (by omega) (by omega)) (by decide) (fun c_19 => ?_) (fun c_19 => ?_)
    · skip
      exfalso; omega
    · skip
      refine r_iload_n K dJ6_stringSize_0f7a4_22 2 rfl rfl ?_
      refine r_iload_n K dJ6_stringSize_0f7a4_23 1 rfl rfl ?_
      refine r_icmp_le K dJ6_stringSize_0f7a4_24 31 (9 < v) (ng10 v (by omega)) (by decide) (fun c_24 => ?_) (fun c_24 => ?_)
      · skip
        refine r_bipush (v := nI 10) K dJ6_stringSize_0f7a4_31 (by decide) ?_
        refine r_iload_n K dJ6_stringSize_0f7a4_33 1 rfl rfl ?_
        refine r_imul (v := (nI 10) * (-10)) K dJ6_stringSize_0f7a4_34 rfl ?_
        refine r_istore_n (lv' := [(2, .int ((nI 10) * (-10))), (3, .int (nI 1)), (0, .int (-(nI v))), (1, .int (nI 0))]) K dJ6_stringSize_0f7a4_35 rfl (by decide) rfl ?_
        refine r_iinc (v := nI (1 + 1)) (lv' := [(3, .int (nI (1 + 1))), (2, .int ((nI 10) * (-10))), (0, .int (-(nI v))), (1, .int (nI 0))]) K dJ6_stringSize_0f7a4_36 1 rfl (ic_1 _) (by decide) rfl ?_
        refine r_goto K dJ6_stringSize_0f7a4_39 16 (by decide) ?_
        refine r_iload_n K dJ6_stringSize_0f7a4_16 0 rfl rfl ?_
        refine r_bipush (v := nI 10) K dJ6_stringSize_0f7a4_17 (by decide) ?_
        refine r_icmp_ge K dJ6_stringSize_0f7a4_19 42 (10 ≤ 1 + 1) (nI_leI (by omega) (by omega)) (by decide) (fun c_19 => ?_) (fun c_19 => ?_)
        · skip
          exfalso; omega
        · skip
          refine r_iload_n K dJ6_stringSize_0f7a4_22 2 rfl rfl ?_
          refine r_iload_n K dJ6_stringSize_0f7a4_23 1 rfl rfl ?_
          refine r_icmp_le K dJ6_stringSize_0f7a4_24 31 (-(nI v) ≤ nI 10 * (-10)) Iff.rfl (by decide) (fun c => absurd c (ng100' v (by omega))) (fun _ => ?_)
          refine r_iload_n K dJ6_stringSize_0f7a4_27 0 rfl rfl ?_
          refine r_iload_n K dJ6_stringSize_0f7a4_28 3 rfl rfl ?_
          refine r_iadd (v := nI ((1 + 1) + 0)) K dJ6_stringSize_0f7a4_29 (nI_add _ _) ?_
          refine r_eq (st' := [.int (nI (dg v))]) rfl rfl rfl (by unfold dg; rw [if_neg (by omega)]) ?_
          exact r_iret K (by decide) (by decide) ⟨rfl, rfl, rfl⟩ dJ6_stringSize_0f7a4_30
      · skip
        refine r_iload_n K dJ6_stringSize_0f7a4_27 0 rfl rfl ?_
        refine r_iload_n K dJ6_stringSize_0f7a4_28 3 rfl rfl ?_
        refine r_iadd (v := nI (1 + 0)) K dJ6_stringSize_0f7a4_29 (nI_add _ _) ?_
        refine r_eq (st' := [.int (nI (dg v))]) rfl rfl rfl (by unfold dg; rw [if_pos (by omega)]) ?_
        exact r_iret K (by decide) (by decide) ⟨rfl, rfl, rfl⟩ dJ6_stringSize_0f7a4_30
set_option maxRecDepth 100000 in
set_option maxHeartbeats 4000000 in
theorem k_J6_getChars_ba4f3 {z : Zx} {l : Launch} {σ τ : Sg} {o : Int64 × UInt64} {ad : Nm} (hl : l.stackTraces = false) {v e : Nat} (hv : v < 100) (he : dg v ≤ e) (he2 : e ≤ 16) : Ko z l yJ6_getChars_ba4f3 cJ6_getChars_ba4f3 7 (some .int) 0 0 0 [.int (nI v), .int (nI e), .ref (ad 8 0)] ad (Wz z ad σ τ o) (fun v' ad' μ' => (∃ x : Int32, v' = some (.int x)) ∧ ad = ad' ∧ μ' = Wz z ad (gch σ e v) τ o) exNo := by
  refine ko_of hl (by decide +kernel) (Nat.le_of_ble_eq_true rfl) (fun g hg K => ?_)
  subst hg
  have hd1 := dg_ge v
  have hd2 : ¬ v ≤ 9 → 2 ≤ e := fun q => by unfold dg at he; rw [if_neg q] at he; exact he
  show WW g z 7 0 0 ad (Wz z ad σ τ o) 0 [(0, .int (nI v)), (1, .int (nI e)), (2, .ref (ad 8 0))] []
  refine r_iload_n K dJ6_getChars_ba4f3_0 1 rfl rfl ?_
  refine r_istore (lv' := [(5, .int (nI e)), (0, .int (nI v)), (1, .int (nI e)), (2, .ref (ad 8 0))]) K dJ6_getChars_ba4f3_1 (by decide) rfl ?_
  refine r_iload_n K dJ6_getChars_ba4f3_3 1 rfl rfl ?_
  refine r_if_ge K dJ6_getChars_ba4f3_4 11 (True) (n0_ge (by omega)) (by decide) (fun c_4 => ?_) (fun c_4 => ?_)
  · skip
    refine r_iconst (v := nI 0) K dJ6_getChars_ba4f3_11 (by decide) ?_
    refine r_istore (lv' := [(6, .int (nI 0)), (5, .int (nI e)), (0, .int (nI v)), (1, .int (nI e)), (2, .ref (ad 8 0))]) K dJ6_getChars_ba4f3_12 (by decide) rfl ?_
    refine r_iload K dJ6_getChars_ba4f3_14 0 rfl ?_
    refine r_if_ne K dJ6_getChars_ba4f3_16 22 (0 = 0) (n0_eq (by omega)) (by decide) (fun c_16 => ?_) (fun c_16 => ?_)
    · skip
      exfalso; omega
    · skip
      refine r_iload_n K dJ6_getChars_ba4f3_19 2 rfl rfl ?_
      refine r_ineg (v := -(nI v)) K dJ6_getChars_ba4f3_20 rfl ?_
      refine r_istore_n (lv' := [(0, .int (-(nI v))), (6, .int (nI 0)), (5, .int (nI e)), (1, .int (nI e)), (2, .ref (ad 8 0))]) K dJ6_getChars_ba4f3_21 rfl (by decide) rfl ?_
      refine r_iload_n K dJ6_getChars_ba4f3_22 0 rfl rfl ?_
      refine r_bipush (v := (-100)) K dJ6_getChars_ba4f3_23 (by decide) ?_
      refine r_icmp_gt K dJ6_getChars_ba4f3_25 72 ((-100) < -(nI v)) Iff.rfl (by decide) (fun _ => ?_) (fun c => absurd (ng100 v (by omega)) c)
      refine r_aload_n K dJ6_getChars_ba4f3_72 4 rfl rfl ?_
      refine r_iinc (v := nI (e - 1)) (lv' := [(5, .int (nI (e - 1))), (0, .int (-(nI v))), (6, .int (nI 0)), (1, .int (nI e)), (2, .ref (ad 8 0))]) K dJ6_getChars_ba4f3_73 2 rfl (ic_m (by omega)) (by decide) rfl ?_
      refine r_iload K dJ6_getChars_ba4f3_76 0 rfl ?_
      refine r_gets (ref := "") K (kE K).2.2.2.2.1.1 wd_1150 dJ6_getChars_ba4f3_78 ?_
      refine r_iload_n K dJ6_getChars_ba4f3_81 1 rfl rfl ?_
      refine r_ineg (v := nI v) K dJ6_getChars_ba4f3_82 (ngng v (by omega)) ?_
      refine r_tbO (j := v) (v := nI (48 + v % 10)) K rfl (by omega) rfl dJ6_getChars_ba4f3_83 ?_
      refine r_bast (j := e - 1) K rfl rfl rfl (by omega) (by decide) (congrArg (upd _ _) (bn (by omega))) dJ6_getChars_ba4f3_84 ?_
      refine r_mu (u_8) ?_
      show WW g z 7 0 0 ad (Wz z ad (su σ 11 0 (e - 1) (48 + v % 10)) τ o) 85 [(5, .int (nI (e - 1))), (0, .int (-(nI v))), (6, .int (nI 0)), (1, .int (nI e)), (2, .ref (ad 8 0))] []
      refine r_iload_n K dJ6_getChars_ba4f3_85 1 rfl rfl ?_
      refine r_bipush (v := (-9)) K dJ6_getChars_ba4f3_86 (by decide) ?_
      refine r_icmp_ge K dJ6_getChars_ba4f3_88 104 (v ≤ 9) (ng9 v (by omega)) (by decide) (fun c_88 => ?_) (fun c_88 => ?_)
      · skip
        refine r_iload K dJ6_getChars_ba4f3_104 2 rfl ?_
        refine r_if_eq K dJ6_getChars_ba4f3_106 118 (0 = 0) (n0_eq (by omega)) (by decide) (fun c_106 => ?_) (fun c_106 => ?_)
        · skip
          refine r_iload K dJ6_getChars_ba4f3_118 0 rfl ?_
          exact r_iret K (by decide) (by decide) ⟨⟨_, rfl⟩, rfl, by unfold gch; rw [if_pos (by omega)]⟩ dJ6_getChars_ba4f3_120
        · skip
          exfalso; omega
      · skip
        refine r_aload_n K dJ6_getChars_ba4f3_91 4 rfl rfl ?_
        refine r_iinc (v := nI (e - 1 - 1)) (lv' := [(5, .int (nI (e - 1 - 1))), (0, .int (-(nI v))), (6, .int (nI 0)), (1, .int (nI e)), (2, .ref (ad 8 0))]) K dJ6_getChars_ba4f3_92 0 rfl (ic_m (by omega)) (by decide) rfl ?_
        refine r_iload K dJ6_getChars_ba4f3_95 0 rfl ?_
        refine r_gets (ref := "") K (kE K).2.2.2.2.2.1.1 wd_1152 dJ6_getChars_ba4f3_97 ?_
        refine r_iload_n K dJ6_getChars_ba4f3_100 1 rfl rfl ?_
        refine r_ineg (v := nI v) K dJ6_getChars_ba4f3_101 (ngng v (by omega)) ?_
        refine r_tbT (j := v) (v := nI (48 + v / 10)) K rfl (by omega) rfl dJ6_getChars_ba4f3_102 ?_
        refine r_bast (j := e - 1 - 1) K rfl rfl rfl (by omega) (by decide) (congrArg (upd _ _) (bn (by omega))) dJ6_getChars_ba4f3_103 ?_
        refine r_mu (u_8) ?_
        show WW g z 7 0 0 ad (Wz z ad (su (su σ 11 0 (e - 1) (48 + v % 10)) 11 0 (e - 1 - 1) (48 + v / 10)) τ o) 104 [(5, .int (nI (e - 1 - 1))), (0, .int (-(nI v))), (6, .int (nI 0)), (1, .int (nI e)), (2, .ref (ad 8 0))] []
        refine r_iload K dJ6_getChars_ba4f3_104 2 rfl ?_
        refine r_if_eq K dJ6_getChars_ba4f3_106 118 (0 = 0) (n0_eq (by omega)) (by decide) (fun c_106 => ?_) (fun c_106 => ?_)
        · skip
          refine r_iload K dJ6_getChars_ba4f3_118 0 rfl ?_
          exact r_iret K (by decide) (by decide) ⟨⟨_, rfl⟩, rfl, by unfold gch; rw [if_neg (by omega)]⟩ dJ6_getChars_ba4f3_120
        · skip
          exfalso; omega
  · skip
    exfalso; exact c_4 trivial
set_option maxRecDepth 100000 in
set_option maxHeartbeats 4000000 in
theorem k_J5_append_c97b9 {z : Zx} {l : Launch} {σ τ : Sg} {o : Int64 × UInt64} {ad : Nm} (hl : l.stackTraces = false) {v : Nat} (hv : v < 100) (hl2 : σ 12 2 0 + dg v ≤ 16) : Ko z l yJ5_append_c97b9 cJ5_append_c97b9 4 (some (.object "java/lang/AbstractStringBuilder")) 1 0 0 [.ref (ad 7 0), .int (nI v)] ad (Wz z ad σ τ o) (okV (some (.ref (ad 7 0))) ad (Wz z ad (lnum σ v) τ o)) exNo := by
  refine ko_of hl (by decide +kernel) (Nat.le_of_ble_eq_true rfl) (fun g hg K => ?_)
  subst hg
  show WW g z 4 0 0 ad (Wz z ad σ τ o) 0 [(0, .ref (ad 7 0)), (1, .int (nI v))] []
  refine r_aload_n K dJ5_append_c97b9_0 0 rfl rfl ?_
  refine r_get (v := .int (nI (σ 12 2 0))) K fd_J5_79 rfl rfl rfl dJ5_append_c97b9_1 ?_
  refine r_istore_n (lv' := [(2, .int (nI (σ 12 2 0))), (0, .ref (ad 7 0)), (1, .int (nI v))]) K dJ5_append_c97b9_4 rfl (by decide) rfl ?_
  refine r_iload_n K dJ5_append_c97b9_5 0 rfl rfl ?_
  refine r_iload_n K dJ5_append_c97b9_6 2 rfl rfl ?_
  refine r_callS (st := [.int (nI (σ 12 2 0))]) K (k_J6_stringSize_0f7a4 (v := v) hl (by omega)) cw_J5_245 wd_1145 (by decide) (by decide) rfl (Nat.le_of_ble_eq_true rfl) (by decide) (by decide) dJ5_append_c97b9_7 ?_
  rintro _ _ _ ⟨rfl, rfl, rfl⟩
  show WW g z 4 0 0 ad (Wz z ad σ τ o) 10 [(2, .int (nI (σ 12 2 0))), (0, .ref (ad 7 0)), (1, .int (nI v))] [.int (nI (dg v)), .int (nI (σ 12 2 0))]
  refine r_iadd (v := nI ((σ 12 2 0) + (dg v))) K dJ5_append_c97b9_10 (nI_add _ _) ?_
  refine r_istore_n (lv' := [(3, .int (nI ((σ 12 2 0) + (dg v)))), (2, .int (nI (σ 12 2 0))), (0, .ref (ad 7 0)), (1, .int (nI v))]) K dJ5_append_c97b9_11 rfl (by decide) rfl ?_
  refine r_aload_n K dJ5_append_c97b9_12 2 rfl rfl ?_
  refine r_iload_n K dJ5_append_c97b9_13 0 rfl rfl ?_
  refine r_callVC (st := []) K (k_J5_ensureCapacityInternal_d00df (n := (σ 12 2 0) + (dg v)) hl (by omega)) cw_J5_100 wd_1045 wd_x0 (by decide) (by decide) rfl rfl rfl rfl (Nat.le_of_ble_eq_true rfl) (by decide) (by decide) dJ5_append_c97b9_14 ?_
  rintro _ _ _ ⟨rfl, rfl, rfl⟩
  show WW g z 4 0 0 ad (Wz z ad σ τ o) 17 [(3, .int (nI ((σ 12 2 0) + (dg v)))), (2, .int (nI (σ 12 2 0))), (0, .ref (ad 7 0)), (1, .int (nI v))] []
  refine r_aload_n K dJ5_append_c97b9_17 2 rfl rfl ?_
  refine r_callVC (st := []) K (k_J5_isLatin1_aae02 hl) cw_J5_83 wd_1064 wd_1066 (by decide) (by decide) rfl rfl rfl rfl (Nat.le_of_ble_eq_true rfl) (by decide) (by decide) dJ5_append_c97b9_18 ?_
  rintro _ _ _ ⟨rfl, rfl, rfl⟩
  show WW g z 4 0 0 ad (Wz z ad σ τ o) 21 [(3, .int (nI ((σ 12 2 0) + (dg v)))), (2, .int (nI (σ 12 2 0))), (0, .ref (ad 7 0)), (1, .int (nI v))] [.int (nI 1)]
  refine r_if_eq K dJ5_append_c97b9_21 37 (1 = 0) (n0_eq (by omega)) (by decide) (fun c_21 => ?_) (fun c_21 => ?_)
  · skip
    exfalso; omega
  · skip
    refine r_iload_n K dJ5_append_c97b9_24 3 rfl rfl ?_
    refine r_iload_n K dJ5_append_c97b9_25 0 rfl rfl ?_
    refine r_aload_n K dJ5_append_c97b9_26 2 rfl rfl ?_
    refine r_get (v := .ref (ad 8 0)) K fd_J5_15 rfl rfl rfl dJ5_append_c97b9_27 ?_
    refine r_callS (st := []) K (k_J6_getChars_ba4f3 (v := v) (e := (σ 12 2 0) + (dg v)) hl (by omega) (by omega) (by omega)) cw_J5_248 wd_1148 (by decide) (by decide) rfl (Nat.le_of_ble_eq_true rfl) (by decide) (by decide) dJ5_append_c97b9_30 ?_
    rintro _ _ _ ⟨⟨x_, rfl⟩, rfl, rfl⟩
    show WW g z 4 0 0 ad (Wz z ad (gch σ ((σ 12 2 0) + (dg v)) v) τ o) 33 [(3, .int (nI ((σ 12 2 0) + (dg v)))), (2, .int (nI (σ 12 2 0))), (0, .ref (ad 7 0)), (1, .int (nI v))] [.int (x_)]
    refine r_pop K dJ5_append_c97b9_33 rfl ?_
    refine r_goto K dJ5_append_c97b9_34 48 (by decide) ?_
    refine r_aload_n K dJ5_append_c97b9_48 2 rfl rfl ?_
    refine r_iload_n K dJ5_append_c97b9_49 0 rfl rfl ?_
    refine r_put K fd_J5_79 rfl rfl rfl rfl (Nat.le_of_ble_eq_true rfl) rfl dJ5_append_c97b9_50 ?_
    refine r_mu (u_7_3) ?_
    show WW g z 4 0 0 ad (Wz z ad (su (gch σ ((σ 12 2 0) + (dg v)) v) 12 2 0 ((σ 12 2 0) + (dg v))) τ o) 53 [(3, .int (nI ((σ 12 2 0) + (dg v)))), (2, .int (nI (σ 12 2 0))), (0, .ref (ad 7 0)), (1, .int (nI v))] []
    refine r_aload_n K dJ5_append_c97b9_53 2 rfl rfl ?_
    exact r_aret K (.inl ⟨_, rfl⟩) (.inr ⟨_, rfl⟩) (by decide) (by decide) ⟨rfl, rfl, by rw [lnum_c]⟩ dJ5_append_c97b9_54
set_option maxRecDepth 100000 in
set_option maxHeartbeats 4000000 in
theorem k_J4_append_bf812 {z : Zx} {l : Launch} {σ τ : Sg} {o : Int64 × UInt64} {ad : Nm} (hl : l.stackTraces = false) {v : Nat} (hv : v < 100) (hl2 : σ 12 2 0 + dg v ≤ 16) : Ko z l yJ4_append_bf812 cJ4_append_bf812 2 (some (.object "java/lang/StringBuilder")) 2 0 0 [.ref (ad 7 0), .int (nI v)] ad (Wz z ad σ τ o) (okV (some (.ref (ad 7 0))) ad (Wz z ad (lnum σ v) τ o)) exNo := by
  refine ko_of hl (by decide +kernel) (Nat.le_of_ble_eq_true rfl) (fun g hg K => ?_)
  subst hg
  show WW g z 2 0 0 ad (Wz z ad σ τ o) 0 [(0, .ref (ad 7 0)), (1, .int (nI v))] []
  refine r_aload_n K dJ4_append_bf812_0 0 rfl rfl ?_
  refine r_iload_n K dJ4_append_bf812_1 1 rfl rfl ?_
  refine r_callSU (st := []) K (k_J5_append_c97b9 (v := v) hl (by omega) (by omega)) cw_J4_53 rfl wd_1706 wd_171 wd_1142 (by decide) (by decide) (by decide) rfl rfl rfl (Nat.le_of_ble_eq_true rfl) (by decide) (by decide) dJ4_append_bf812_2 ?_
  rintro _ _ _ ⟨rfl, rfl, rfl⟩
  show WW g z 2 0 0 ad (Wz z ad (lnum σ v) τ o) 5 [(0, .ref (ad 7 0)), (1, .int (nI v))] [.ref (ad 7 0)]
  refine r_pop K dJ4_append_bf812_5 rfl ?_
  refine r_aload_n K dJ4_append_bf812_6 0 rfl rfl ?_
  exact r_aret K (.inl ⟨_, rfl⟩) (.inr ⟨_, rfl⟩) (by decide) (by decide) ⟨rfl, rfl, rfl⟩ dJ4_append_bf812_7
set_option maxRecDepth 100000 in
set_option maxHeartbeats 4000000 in
theorem k_J5_setLength_d00df {z : Zx} {l : Launch} {σ τ : Sg} {o : Int64 × UInt64} {ad : Nm} (hl : l.stackTraces = false) (hf : σ 37 0 0 ≤ 1) (hl2 : σ 12 2 0 < 16) : Ko z l yJ5_setLength_d00df cJ5_setLength_d00df 2 none 1 0 0 [.ref (ad 7 0), .int (nI 0)] ad (Wz z ad σ τ o) (fun v' ad' μ' => v' = none ∧ ad = ad' ∧ ∃ f : Nat, f ≤ 1 ∧ μ' = Wz z ad (su (su σ 37 0 0 f) 12 2 0 0) τ o) exNo := by
  refine ko_of hl (by decide +kernel) (Nat.le_of_ble_eq_true rfl) (fun g hg K => ?_)
  subst hg
  show WW g z 2 0 0 ad (Wz z ad σ τ o) 0 [(0, .ref (ad 7 0)), (1, .int (nI 0))] []
  refine r_iload_n K dJ5_setLength_d00df_0 1 rfl rfl ?_
  refine r_if_ge K dJ5_setLength_d00df_1 13 (True) (n0_ge (by omega)) (by decide) (fun c_1 => ?_) (fun c_1 => ?_)
  · skip
    refine r_aload_n K dJ5_setLength_d00df_13 0 rfl rfl ?_
    refine r_iload_n K dJ5_setLength_d00df_14 1 rfl rfl ?_
    refine r_callVC (st := []) K (k_J5_ensureCapacityInternal_d00df (n := 0) hl (by omega)) cw_J5_100 wd_1045 wd_x0 (by decide) (by decide) rfl rfl rfl rfl (Nat.le_of_ble_eq_true rfl) (by decide) (by decide) dJ5_setLength_d00df_15 ?_
    rintro _ _ _ ⟨rfl, rfl, rfl⟩
    show WW g z 2 0 0 ad (Wz z ad σ τ o) 18 [(0, .ref (ad 7 0)), (1, .int (nI 0))] []
    refine r_aload_n K dJ5_setLength_d00df_18 0 rfl rfl ?_
    refine r_get (v := .int (nI (σ 12 2 0))) K fd_J5_79 rfl rfl rfl dJ5_setLength_d00df_19 ?_
    refine r_iload_n K dJ5_setLength_d00df_22 1 rfl rfl ?_
    refine r_icmp_ge K dJ5_setLength_d00df_23 63 (0 ≤ σ 12 2 0) (nI_leI (by omega) (by omega)) (by decide) (fun c_23 => ?_) (fun c_23 => ?_)
    · skip
      refine r_aload_n K dJ5_setLength_d00df_63 0 rfl rfl ?_
      refine r_get (v := .int (nI (σ 12 2 0))) K fd_J5_79 rfl rfl rfl dJ5_setLength_d00df_64 ?_
      refine r_iload_n K dJ5_setLength_d00df_67 1 rfl rfl ?_
      refine r_icmp_le K dJ5_setLength_d00df_68 76 (σ 12 2 0 ≤ 0) (nI_leI (by omega) (by omega)) (by decide) (fun c_68 => ?_) (fun c_68 => ?_)
      · skip
        refine r_aload_n K dJ5_setLength_d00df_76 0 rfl rfl ?_
        refine r_iload_n K dJ5_setLength_d00df_77 1 rfl rfl ?_
        refine r_put K fd_J5_79 rfl rfl rfl rfl (Nat.le_of_ble_eq_true rfl) rfl dJ5_setLength_d00df_78 ?_
        refine r_mu (u_7_3) ?_
        show WW g z 2 0 0 ad (Wz z ad (su σ 12 2 0 0) τ o) 81 [(0, .ref (ad 7 0)), (1, .int (nI 0))] []
        exact r_vret K (by decide) (by decide) ⟨rfl, rfl, σ 37 0 0, hf, by rw [su_id]⟩ dJ5_setLength_d00df_81
      · skip
        refine r_aload_n K dJ5_setLength_d00df_71 0 rfl rfl ?_
        refine r_iconst (v := nI 1) K dJ5_setLength_d00df_72 (by decide) ?_
        refine r_put K fd_J5_73 rfl rfl rfl rfl (Nat.le_of_ble_eq_true rfl) rfl dJ5_setLength_d00df_73 ?_
        refine r_mu (u_7_2) ?_
        show WW g z 2 0 0 ad (Wz z ad (su σ 37 0 0 1) τ o) 76 [(0, .ref (ad 7 0)), (1, .int (nI 0))] []
        refine r_aload_n K dJ5_setLength_d00df_76 0 rfl rfl ?_
        refine r_iload_n K dJ5_setLength_d00df_77 1 rfl rfl ?_
        refine r_put K fd_J5_79 rfl rfl rfl rfl (Nat.le_of_ble_eq_true rfl) rfl dJ5_setLength_d00df_78 ?_
        refine r_mu (u_7_3) ?_
        show WW g z 2 0 0 ad (Wz z ad (su (su σ 37 0 0 1) 12 2 0 0) τ o) 81 [(0, .ref (ad 7 0)), (1, .int (nI 0))] []
        exact r_vret K (by decide) (by decide) ⟨rfl, rfl, 1, Nat.le_refl _, rfl⟩ dJ5_setLength_d00df_81
    · skip
      exfalso; omega
  · skip
    exfalso; exact c_1 trivial
set_option maxRecDepth 100000 in
set_option maxHeartbeats 4000000 in
theorem k_J4_setLength_d00df {z : Zx} {l : Launch} {σ τ : Sg} {o : Int64 × UInt64} {ad : Nm} (hl : l.stackTraces = false) (hf : σ 37 0 0 ≤ 1) (hl2 : σ 12 2 0 < 16) : Ko z l yJ4_setLength_d00df cJ4_setLength_d00df 2 none 2 0 0 [.ref (ad 7 0), .int (nI 0)] ad (Wz z ad σ τ o) (fun v' ad' μ' => v' = none ∧ ad = ad' ∧ ∃ f : Nat, f ≤ 1 ∧ μ' = Wz z ad (su (su σ 37 0 0 f) 12 2 0 0) τ o) exNo := by
  refine ko_of hl (by decide +kernel) (Nat.le_of_ble_eq_true rfl) (fun g hg K => ?_)
  subst hg
  show WW g z 2 0 0 ad (Wz z ad σ τ o) 0 [(0, .ref (ad 7 0)), (1, .int (nI 0))] []
  refine r_aload_n K dJ4_setLength_d00df_0 0 rfl rfl ?_
  refine r_iload_n K dJ4_setLength_d00df_1 1 rfl rfl ?_
  refine r_callSU (st := []) K (k_J5_setLength_d00df hl (by omega) (by omega)) cw_J4_333 rfl wd_1698 wd_171 wd_1022 (by decide) (by decide) (by decide) rfl rfl rfl (Nat.le_of_ble_eq_true rfl) (by decide) (by decide) dJ4_setLength_d00df_2 ?_
  rintro _ _ _ ⟨rfl, rfl, f, hf, rfl⟩
  show WW g z 2 0 0 ad (Wz z ad (su (su σ 37 0 0 f) 12 2 0 0) τ o) 5 [(0, .ref (ad 7 0)), (1, .int (nI 0))] []
  exact r_vret K (by decide) (by decide) ⟨rfl, rfl, f, hf, rfl⟩ dJ4_setLength_d00df_5
set_option maxRecDepth 100000 in
set_option maxHeartbeats 4000000 in
theorem k_J5_length_8abf5 {z : Zx} {l : Launch} {σ τ : Sg} {o : Int64 × UInt64} {ad : Nm} (hl : l.stackTraces = false)  : Ko z l yJ5_length_8abf5 cJ5_length_8abf5 1 (some .int) 0 0 0 [.ref (ad 7 0)] ad (Wz z ad σ τ o) (okV (some (.int (nI (σ 12 2 0)))) ad (Wz z ad σ τ o)) exNo := by
  refine ko_of hl (by decide +kernel) (Nat.le_of_ble_eq_true rfl) (fun g hg K => ?_)
  subst hg
  show WW g z 1 0 0 ad (Wz z ad σ τ o) 0 [(0, .ref (ad 7 0))] []
  refine r_aload_n K dJ5_length_8abf5_0 0 rfl rfl ?_
  refine r_get (v := .int (nI (σ 12 2 0))) K fd_J5_79 rfl rfl rfl dJ5_length_8abf5_1 ?_
  exact r_iret K (by decide) (by decide) ⟨rfl, rfl, rfl⟩ dJ5_length_8abf5_4
set_option maxRecDepth 100000 in
set_option maxHeartbeats 4000000 in
theorem k_J4_length_8abf5 {z : Zx} {l : Launch} {σ τ : Sg} {o : Int64 × UInt64} {ad : Nm} (hl : l.stackTraces = false)  : Ko z l yJ4_length_8abf5 cJ4_length_8abf5 1 (some .int) 1 0 0 [.ref (ad 7 0)] ad (Wz z ad σ τ o) (okV (some (.int (nI (σ 12 2 0)))) ad (Wz z ad σ τ o)) exNo := by
  refine ko_of hl (by decide +kernel) (Nat.le_of_ble_eq_true rfl) (fun g hg K => ?_)
  subst hg
  show WW g z 1 0 0 ad (Wz z ad σ τ o) 0 [(0, .ref (ad 7 0))] []
  refine r_aload_n K dJ4_length_8abf5_0 0 rfl rfl ?_
  refine r_callSU (st := []) K (k_J5_length_8abf5 hl) cw_J4_343 rfl wd_1181 wd_171 wd_1180 (by decide) (by decide) (by decide) rfl rfl rfl (Nat.le_of_ble_eq_true rfl) (by decide) (by decide) dJ4_length_8abf5_1 ?_
  rintro _ _ _ ⟨rfl, rfl, rfl⟩
  show WW g z 1 0 0 ad (Wz z ad σ τ o) 4 [(0, .ref (ad 7 0))] [.int (nI (σ 12 2 0))]
  exact r_iret K (by decide) (by decide) ⟨rfl, rfl, rfl⟩ dJ4_length_8abf5_4
set_option maxRecDepth 100000 in
set_option maxHeartbeats 4000000 in
theorem k_J3_checkIndex_8e157_t {z : Zx} {l : Launch} {ad : Nm} {μ : Ce} {i n : Nat} (hl : l.stackTraces = false) {t : Nat} (h : i < n) (hn : n < 2 ^ 31) : Ko z l yJ3_checkIndex_8e157 cJ3_checkIndex_8e157 3 (some .int) 0 0 0 [.int (nI i), .int (nI n), .ref t] ad μ (okV (some (.int (nI i))) ad μ) exNo := by
  refine ko_of hl (by decide +kernel) (Nat.le_of_ble_eq_true rfl) (fun g hg K => ?_)
  subst hg
  show WW g z 3 0 0 ad μ 0 [(0, .int (nI i)), (1, .int (nI n)), (2, .ref t)] []
  refine r_iload_n K dJ3_checkIndex_8e157_0 0 rfl rfl ?_
  refine r_if_lt K dJ3_checkIndex_8e157_1 9 (False) (n0_lt (by omega)) (by decide) (fun c_1 => ?_) (fun c_1 => ?_)
  · skip
    exfalso; omega
  · skip
    refine r_iload_n K dJ3_checkIndex_8e157_4 0 rfl rfl ?_
    refine r_iload_n K dJ3_checkIndex_8e157_5 1 rfl rfl ?_
    refine r_icmp_lt K dJ3_checkIndex_8e157_6 16 (i < n) (nI_ltI (by omega) (by omega)) (by decide) (fun c_6 => ?_) (fun c_6 => ?_)
    · skip
      refine r_iload_n K dJ3_checkIndex_8e157_16 0 rfl rfl ?_
      exact r_iret K (by decide) (by decide) ⟨congrArg (fun q => some (Value.int (nI q))) (by rfl), rfl, rfl⟩ dJ3_checkIndex_8e157_17
    · skip
      exfalso; omega
set_option maxRecDepth 100000 in
set_option maxHeartbeats 4000000 in
theorem k_J0_checkIndex_df160 {z : Zx} {l : Launch} {ad : Nm} {μ : Ce} {i n : Nat} (hl : l.stackTraces = false) (h : i < n) (hn : n < 2 ^ 31) : Ko z l yJ0_checkIndex_df160 cJ0_checkIndex_df160 2 none 1 0 0 [.int (nI i), .int (nI n)] ad μ (okV none ad μ) exNo := by
  refine ko_of hl (by decide +kernel) (Nat.le_of_ble_eq_true rfl) (fun g hg K => ?_)
  subst hg
  show WW g z 2 0 0 ad μ 0 [(0, .int (nI i)), (1, .int (nI n))] []
  refine r_iload_n K dJ0_checkIndex_df160_0 0 rfl rfl ?_
  refine r_iload_n K dJ0_checkIndex_df160_1 1 rfl rfl ?_
  refine r_getsq K (kE K).2.2.2.2.2.2.2.1 wd_1080 dJ0_checkIndex_df160_2 ?_ (fun t => ?_)
  · skip
    refine r_callS (st := []) K (k_J3_checkIndex_8e157 hl h hn) cw_J0_1059 wd_257 (by decide) (by decide) rfl (Nat.le_of_ble_eq_true rfl) (by decide) (by decide) dJ0_checkIndex_df160_5 ?_
    rintro _ _ _ ⟨rfl, rfl, rfl⟩
    show WW g z 2 0 0 ad μ 8 [(0, .int (nI i)), (1, .int (nI n))] [.int (nI i)]
    refine r_pop K dJ0_checkIndex_df160_8 rfl ?_
    exact r_vret K (by decide) (by decide) ⟨rfl, rfl, rfl⟩ dJ0_checkIndex_df160_9
  · skip
    refine r_callS (st := []) K (k_J3_checkIndex_8e157_t hl h hn) cw_J0_1059 wd_257 (by decide) (by decide) rfl (Nat.le_of_ble_eq_true rfl) (by decide) (by decide) dJ0_checkIndex_df160_5 ?_
    rintro _ _ _ ⟨rfl, rfl, rfl⟩
    show WW g z 2 0 0 ad μ 8 [(0, .int (nI i)), (1, .int (nI n))] [.int (nI i)]
    refine r_pop K dJ0_checkIndex_df160_8 rfl ?_
    exact r_vret K (by decide) (by decide) ⟨rfl, rfl, rfl⟩ dJ0_checkIndex_df160_9
set_option maxRecDepth 100000 in
set_option maxHeartbeats 4000000 in
theorem k_J5_charAt_5068e {z : Zx} {l : Launch} {σ τ : Sg} {o : Int64 × UInt64} {ad : Nm} (hl : l.stackTraces = false) {i : Nat} (hi : i < σ 12 2 0) (h9 : σ 12 2 0 ≤ 9) (hc : σ 11 0 i < 128) : Ko z l yJ5_charAt_5068e cJ5_charAt_5068e 5 (some .char) 2 0 0 [.ref (ad 7 0), .int (nI i)] ad (Wz z ad σ τ o) (okV (some (.int (nI (σ 11 0 i)))) ad (Wz z ad σ τ o)) exNo := by
  refine ko_of hl (by decide +kernel) (Nat.le_of_ble_eq_true rfl) (fun g hg K => ?_)
  subst hg
  show WW g z 5 0 0 ad (Wz z ad σ τ o) 0 [(0, .ref (ad 7 0)), (1, .int (nI i))] []
  refine r_aload_n K dJ5_charAt_5068e_0 0 rfl rfl ?_
  refine r_get (v := .int (nI 0)) K fd_J5_22 rfl rfl rfl dJ5_charAt_5068e_1 ?_
  refine r_istore_n (lv' := [(2, .int (nI 0)), (0, .ref (ad 7 0)), (1, .int (nI i))]) K dJ5_charAt_5068e_4 rfl (by decide) rfl ?_
  refine r_aload_n K dJ5_charAt_5068e_5 1 rfl rfl ?_
  refine r_get (v := .ref (ad 8 0)) K fd_J5_15 rfl rfl rfl dJ5_charAt_5068e_6 ?_
  refine r_astore_n (lv' := [(3, .ref (ad 8 0)), (2, .int (nI 0)), (0, .ref (ad 7 0)), (1, .int (nI i))]) K dJ5_charAt_5068e_9 rfl (by decide) rfl ?_
  refine r_aload_n K dJ5_charAt_5068e_10 2 rfl rfl ?_
  refine r_get (v := .int (nI (σ 12 2 0))) K fd_J5_79 rfl rfl rfl dJ5_charAt_5068e_11 ?_
  refine r_aload_n K dJ5_charAt_5068e_14 0 rfl rfl ?_
  refine r_alenB K rfl rfl dJ5_charAt_5068e_15 ?_
  refine r_iload_n K dJ5_charAt_5068e_16 1 rfl rfl ?_
  refine r_ishr (v := nI 16) K dJ5_charAt_5068e_17 (shr0 (by omega)) ?_
  refine r_mmin (v := nI (σ 12 2 0)) K wd_1296 wd_298 wd_68 wd_299 (Nat.le_of_ble_eq_true rfl) ((mminN (by omega) (by omega)).trans (by rw [Nat.min_eq_left (by omega)])) (by decide) (by decide) dJ5_charAt_5068e_18 ?_
  refine r_istore (lv' := [(4, .int (nI (σ 12 2 0))), (3, .ref (ad 8 0)), (2, .int (nI 0)), (0, .ref (ad 7 0)), (1, .int (nI i))]) K dJ5_charAt_5068e_21 (by decide) rfl ?_
  refine r_iload_n K dJ5_charAt_5068e_23 4 rfl rfl ?_
  refine r_iload K dJ5_charAt_5068e_24 0 rfl ?_
  refine r_callS (st := []) K (k_J0_checkIndex_df160 (i := i) (n := σ 12 2 0) hl (by omega) (by omega)) cw_J5_144 wd_1277 (by decide) (by decide) rfl (Nat.le_of_ble_eq_true rfl) (by decide) (by decide) dJ5_charAt_5068e_26 ?_
  rintro _ _ _ ⟨rfl, rfl, rfl⟩
  show WW g z 5 0 0 ad (Wz z ad σ τ o) 29 [(4, .int (nI (σ 12 2 0))), (3, .ref (ad 8 0)), (2, .int (nI 0)), (0, .ref (ad 7 0)), (1, .int (nI i))] []
  refine r_iload_n K dJ5_charAt_5068e_29 2 rfl rfl ?_
  refine r_if_ne K dJ5_charAt_5068e_30 42 (0 = 0) (n0_eq (by omega)) (by decide) (fun c_30 => ?_) (fun c_30 => ?_)
  · skip
    exfalso; omega
  · skip
    refine r_aload_n K dJ5_charAt_5068e_33 1 rfl rfl ?_
    refine r_iload_n K dJ5_charAt_5068e_34 4 rfl rfl ?_
    refine r_bald (j := i) (v := nI (σ 11 0 i)) K rfl rfl rfl (by omega) (by decide) rfl dJ5_charAt_5068e_35 ?_
    refine r_sipush (v := nI 255) K dJ5_charAt_5068e_36 (by decide) ?_
    refine r_iand (v := nI (σ 11 0 i)) K dJ5_charAt_5068e_39 (and255 _ (by omega)) ?_
    refine r_i2c (v := nI (σ 11 0 i)) K dJ5_charAt_5068e_40 (i2cN (by omega)) ?_
    exact r_cret K (crN (by omega)) (by decide) (by decide) ⟨rfl, rfl, rfl⟩ dJ5_charAt_5068e_41
set_option maxRecDepth 100000 in
set_option maxHeartbeats 4000000 in
theorem k_J4_charAt_5068e {z : Zx} {l : Launch} {σ τ : Sg} {o : Int64 × UInt64} {ad : Nm} (hl : l.stackTraces = false) {i : Nat} (hi : i < σ 12 2 0) (h9 : σ 12 2 0 ≤ 9) (hc : σ 11 0 i < 128) : Ko z l yJ4_charAt_5068e cJ4_charAt_5068e 2 (some .char) 3 0 0 [.ref (ad 7 0), .int (nI i)] ad (Wz z ad σ τ o) (okV (some (.int (nI (σ 11 0 i)))) ad (Wz z ad σ τ o)) exNo := by
  refine ko_of hl (by decide +kernel) (Nat.le_of_ble_eq_true rfl) (fun g hg K => ?_)
  subst hg
  show WW g z 2 0 0 ad (Wz z ad σ τ o) 0 [(0, .ref (ad 7 0)), (1, .int (nI i))] []
  refine r_aload_n K dJ4_charAt_5068e_0 0 rfl rfl ?_
  refine r_iload_n K dJ4_charAt_5068e_1 1 rfl rfl ?_
  refine r_callSU (st := []) K (k_J5_charAt_5068e (i := i) hl (by first | exact hb | exact hk | exact hj | exact hw | omega | assumption) (by omega) (by first | exact hb | exact hk | exact hj | exact hw | omega | assumption)) cw_J4_329 rfl wd_1709 wd_171 wd_1294 (by decide) (by decide) (by decide) rfl rfl rfl (Nat.le_of_ble_eq_true rfl) (by decide) (by decide) dJ4_charAt_5068e_2 ?_
  rintro _ _ _ ⟨rfl, rfl, rfl⟩
  show WW g z 2 0 0 ad (Wz z ad σ τ o) 5 [(0, .ref (ad 7 0)), (1, .int (nI i))] [.int (nI (σ 11 0 i))]
  exact r_cret K (crN (by omega)) (by decide) (by decide) ⟨rfl, rfl, rfl⟩ dJ4_charAt_5068e_5
