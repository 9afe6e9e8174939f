set_option maxRecDepth 100000 in
set_option maxHeartbeats 4000000 in
theorem k_J3_checkIndex_8e157 {z : Zx} {l : Launch} {ad : Nm} {μ : Ce} {i n : Nat} (hl : l.stackTraces = false) (h : i < n) (hn : n < 2 ^ 31) : Ko z l yJ3_checkIndex_8e157 cJ3_checkIndex_8e157 3 (some .int) 0 0 0 [.int (nI i), .int (nI n), .null] ad μ (okV (some (.int (nI i))) ad μ) exNo := by
  refine ko_of hl (by decide +kernel) (Nat.le_of_ble_eq_true rfl) (fun g hg K => ?_)
  subst hg
  show WW g z 3 0 0 ad μ 0 [(0, .int (nI i)), (1, .int (nI n)), (2, .null)] []
  refine r_iload_n K dJ3_checkIndex_8e157_0 0 rfl rfl ?_
  refine r_if_lt K dJ3_checkIndex_8e157_1 9 (False) (n0_lt (by omega)) (by decide) (fun c_1 => ?_) (fun c_1 => ?_)
  · skip
    exfalso; omega
  · skip
    refine r_iload_n K dJ3_checkIndex_8e157_4 0 rfl rfl ?_
    refine r_iload_n K dJ3_checkIndex_8e157_5 1 rfl rfl ?_
    refine r_icmp_lt K dJ3_checkIndex_8e157_6 16 (i < n) (nI_ltI (by omega) (by omega)) (by decide) (fun c_6 => ?_) (fun c_6 => ?_)
    · skip
      refine r_iload_n K dJ3_checkIndex_8e157_16 0 rfl rfl ?_
      exact r_iret K (by decide) (by decide) ⟨congrArg (fun q => some (Value.int (nI q))) (by rfl), rfl, rfl⟩ dJ3_checkIndex_8e157_17
    · skip
      exfalso; omega
set_option maxRecDepth 100000 in
set_option maxHeartbeats 4000000 in
theorem k_J15_checkIndex_7cf53 {z : Zx} {l : Launch} {ad : Nm} {μ : Ce} {i n : Nat} (hl : l.stackTraces = false) (h : i < n) (hn : n < 2 ^ 31) : Ko z l yJ15_checkIndex_7cf53 cJ15_checkIndex_7cf53 2 (some .int) 1 0 0 [.int (nI i), .int (nI n)] ad μ (okV (some (.int (nI i))) ad μ) exNo := by
  refine ko_of hl (by decide +kernel) (Nat.le_of_ble_eq_true rfl) (fun g hg K => ?_)
  subst hg
  show WW g z 2 0 0 ad μ 0 [(0, .int (nI i)), (1, .int (nI n))] []
  refine r_iload_n K dJ15_checkIndex_7cf53_0 0 rfl rfl ?_
  refine r_iload_n K dJ15_checkIndex_7cf53_1 1 rfl rfl ?_
  refine r_null K dJ15_checkIndex_7cf53_2 ?_
  refine r_callS (st := []) K (k_J3_checkIndex_8e157 hl h hn) cw_J15_105 wd_257 (by decide) (by decide) rfl (Nat.le_of_ble_eq_true rfl) (by decide) (by decide) dJ15_checkIndex_7cf53_3 ?_
  rintro _ _ _ ⟨rfl, rfl, rfl⟩
  show WW g z 2 0 0 ad μ 6 [(0, .int (nI i)), (1, .int (nI n))] [.int (nI i)]
  exact r_iret K (by decide) (by decide) ⟨congrArg (fun q => some (Value.int (nI q))) (by rfl), rfl, rfl⟩ dJ15_checkIndex_7cf53_6
set_option maxRecDepth 100000 in
set_option maxHeartbeats 4000000 in
theorem k_Jx4a65c_size_8abf5 {z : Zx} {l : Launch} {σ τ : Sg} {o : Int64 × UInt64} {ad : Nm} (hl : l.stackTraces = false) {l0 : Nat} (hl3 : l0 < 3) : Ko z l yJx4a65c_size_8abf5 cJx4a65c_size_8abf5 1 (some .int) 0 0 0 [.ref (ad 1 l0)] ad (Wz z ad σ τ o) (okV (some (.int (nI (σ 0 l0 0)))) ad (Wz z ad σ τ o)) exNo := by
  refine ko_of hl (by decide +kernel) (Nat.le_of_ble_eq_true rfl) (fun g hg K => ?_)
  subst hg
  show WW g z 1 0 0 ad (Wz z ad σ τ o) 0 [(0, .ref (ad 1 l0))] []
  refine r_aload_n K dJx4a65c_size_8abf5_0 0 rfl rfl ?_
  refine r_get (v := .int (nI (σ 0 l0 0))) K fd_Jx4a65c_48 (W_1 (by first | exact hb | exact hk | exact hj | exact hw | omega | assumption)) rfl rfl dJx4a65c_size_8abf5_1 ?_
  exact r_iret K (by decide) (by decide) ⟨congrArg (fun q => some (Value.int (nI q))) (by rfl), rfl, rfl⟩ dJx4a65c_size_8abf5_4
set_option maxRecDepth 100000 in
set_option maxHeartbeats 4000000 in
theorem k_Jx4a65c_isEmpty_aae02 {z : Zx} {l : Launch} {σ τ : Sg} {o : Int64 × UInt64} {ad : Nm} (hl : l.stackTraces = false) {l0 : Nat} (hl3 : l0 < 3) (L : InvL σ) : Ko z l yJx4a65c_isEmpty_aae02 cJx4a65c_isEmpty_aae02 1 (some .boolean) 0 0 0 [.ref (ad 1 l0)] ad (Wz z ad σ τ o) (okV (some (.int (pI (σ 0 l0 0 = 0)))) ad (Wz z ad σ τ o)) exNo := by
  refine ko_of hl (by decide +kernel) (Nat.le_of_ble_eq_true rfl) (fun g hg K => ?_)
  subst hg
  show WW g z 1 0 0 ad (Wz z ad σ τ o) 0 [(0, .ref (ad 1 l0))] []
  refine r_aload_n K dJx4a65c_isEmpty_aae02_0 0 rfl rfl ?_
  refine r_get (v := .int (nI (σ 0 l0 0))) K fd_Jx4a65c_48 (W_1 (by first | exact hb | exact hk | exact hj | exact hw | omega | assumption)) rfl rfl dJx4a65c_isEmpty_aae02_1 ?_
  have hL := L l0 hl3
  refine r_if_ne K dJx4a65c_isEmpty_aae02_4 11 (σ 0 l0 0 = 0) (n0_eq (by omega)) (by decide) (fun c_4 => ?_) (fun c_4 => ?_)
  · skip
    refine r_iconst (v := nI 0) K dJx4a65c_isEmpty_aae02_11 (by decide) ?_
    exact r_zret K (by first | rfl | decide | exact pI_nar) (by decide) (by decide) ⟨congrArg (fun x => some (Value.int x)) (pI_f (by omega)), rfl, rfl⟩ dJx4a65c_isEmpty_aae02_12
  · skip
    refine r_iconst (v := nI 1) K dJx4a65c_isEmpty_aae02_7 (by decide) ?_
    refine r_goto K dJx4a65c_isEmpty_aae02_8 12 (by decide) ?_
    exact r_zret K (by first | rfl | decide | exact pI_nar) (by decide) (by decide) ⟨congrArg (fun x => some (Value.int x)) (pI_t (by omega)), rfl, rfl⟩ dJx4a65c_isEmpty_aae02_12
set_option maxRecDepth 100000 in
set_option maxHeartbeats 4000000 in
theorem k_Jx4a65c_elementData_915e3 {z : Zx} {l : Launch} {σ τ : Sg} {o : Int64 × UInt64} {ad : Nm} (hl : l.stackTraces = false) {l0 i : Nat} (hl3 : l0 < 3) (L : InvL σ) (hi : i < σ 0 l0 0) : Ko z l yJx4a65c_elementData_915e3 cJx4a65c_elementData_915e3 2 (some (.object "java/lang/Object")) 0 0 0 [.ref (ad 1 l0), .int (nI i)] ad (Wz z ad σ τ o) (okV (some (.ref (ad (9 + l0) i))) ad (Wz z ad σ τ o)) exNo := by
  refine ko_of hl (by decide +kernel) (Nat.le_of_ble_eq_true rfl) (fun g hg K => ?_)
  subst hg
  have hL := L l0 hl3
  show WW g z 2 0 0 ad (Wz z ad σ τ o) 0 [(0, .ref (ad 1 l0)), (1, .int (nI i))] []
  refine r_aload_n K dJx4a65c_elementData_915e3_0 0 rfl rfl ?_
  refine r_get (v := .ref (ad 2 l0)) K fd_Jx4a65c_9 (W_1 hl3) rfl (by rw [if_neg (show ¬ σ 34 l0 0 = 0 by omega)]; rfl) dJx4a65c_elementData_915e3_1 ?_
  refine r_iload_n K dJx4a65c_elementData_915e3_4 1 rfl rfl ?_
  refine r_aald (j := i) (q := ad (9 + l0) i) K (W_2 ⟨hl3, by omega⟩) rfl rfl (by omega) (by omega) (if_pos (by omega)) dJx4a65c_elementData_915e3_5 ?_
  exact r_aret K (.inl ⟨_, rfl⟩) (.inr ⟨_, rfl⟩) (by decide) (by decide) ⟨rfl, rfl, rfl⟩ dJx4a65c_elementData_915e3_6
set_option maxRecDepth 100000 in
set_option maxHeartbeats 4000000 in
theorem k_Jx4a65c_get_915e3 {z : Zx} {l : Launch} {σ τ : Sg} {o : Int64 × UInt64} {ad : Nm} (hl : l.stackTraces = false) {l0 i : Nat} (hl3 : l0 < 3) (L : InvL σ) (hi : i < σ 0 l0 0) : Ko z l yJx4a65c_get_915e3 cJx4a65c_get_915e3 2 (some (.object "java/lang/Object")) 2 0 0 [.ref (ad 1 l0), .int (nI i)] ad (Wz z ad σ τ o) (okV (some (.ref (ad (9 + l0) i))) ad (Wz z ad σ τ o)) exNo := by
  refine ko_of hl (by decide +kernel) (Nat.le_of_ble_eq_true rfl) (fun g hg K => ?_)
  subst hg
  have hL := L l0 hl3
  show WW g z 2 0 0 ad (Wz z ad σ τ o) 0 [(0, .ref (ad 1 l0)), (1, .int (nI i))] []
  refine r_iload_n K dJx4a65c_get_915e3_0 1 rfl rfl ?_
  refine r_aload_n K dJx4a65c_get_915e3_1 0 rfl rfl ?_
  refine r_get (v := .int (nI (σ 0 l0 0))) K fd_Jx4a65c_48 (W_1 (by first | exact hb | exact hk | exact hj | exact hw | omega | assumption)) rfl rfl dJx4a65c_get_915e3_2 ?_
  refine r_callS (st := []) K (k_J15_checkIndex_7cf53 (i := i) (n := σ 0 l0 0) hl (by omega) (by omega)) cw_Jx4a65c_118 wd_254 (by decide) (by decide) rfl (Nat.le_of_ble_eq_true rfl) (by decide) (by decide) dJx4a65c_get_915e3_5 ?_
  rintro _ _ _ ⟨rfl, rfl, rfl⟩
  show WW g z 2 0 0 ad (Wz z ad σ τ o) 8 [(0, .ref (ad 1 l0)), (1, .int (nI i))] [.int (nI i)]
  refine r_pop K dJx4a65c_get_915e3_8 rfl ?_
  refine r_aload_n K dJx4a65c_get_915e3_9 0 rfl rfl ?_
  refine r_iload_n K dJx4a65c_get_915e3_10 1 rfl rfl ?_
  refine r_callV (st := []) K (k_Jx4a65c_elementData_915e3 hl hl3 L hi) cw_Jx4a65c_123 wd_260 wd_261 (by decide) (by decide) (W_1 (by first | exact hb | exact hk | exact hj | exact hw | omega | assumption)) rfl rfl rfl (Nat.le_of_ble_eq_true rfl) (by decide) (by decide) dJx4a65c_get_915e3_11 ?_
  rintro _ _ _ ⟨rfl, rfl, rfl⟩
  show WW g z 2 0 0 ad (Wz z ad σ τ o) 14 [(0, .ref (ad 1 l0)), (1, .int (nI i))] [.ref (ad (9 + l0) i)]
  exact r_aret K (.inl ⟨_, rfl⟩) (.inr ⟨_, rfl⟩) (by decide) (by decide) ⟨rfl, rfl, rfl⟩ dJx4a65c_get_915e3_14
