set_option maxRecDepth 100000 in
set_option maxHeartbeats 4000000 in
theorem k_L_addBasin {z : Zx} {l : Launch} {σ τ : Sg} {o : Int64 × UInt64} {ad : Nm} (hl : l.stackTraces = false) {a d w b0 h : Int32} (Q : IR σ) (C : ICo σ) : KoH z l yL_addBasin cL_addBasin 8 (some .int) [(0, 16, 19, 13), (0, 16, 23, 15), (0, 16, 27, 17)] 10 10 201 [.ref (ad 0 0), .int (a), .int (d), .int (w), .int (b0), .int (h), .ref (ad 19 0)] ad (Wz z ad σ τ o) (okL z ad σ τ (cAB σ a d w b0 h) (((nI (σ 0 0 0))).toInt64) (fBasin σ a d w b0 h)) exNo := by
  refine koH_of hl (by decide +kernel) (Nat.le_of_ble_eq_true rfl) (fun g hg K => ?_)
  subst hg
  show WW g z 8 0 0 ad (Wz z ad σ τ o) 0 [(0, .ref (ad 0 0)), (1, .int (a)), (2, .int (d)), (3, .int (w)), (4, .int (b0)), (5, .int (h)), (6, .ref (ad 19 0))] []
  refine r_aload K dL_addBasin_0 6 rfl ?_
  refine r_iconst (v := nI 0) K dL_addBasin_2 (by decide) ?_
  refine r_aload_n K dL_addBasin_3 0 rfl rfl ?_
  refine r_iload_n K dL_addBasin_4 1 rfl rfl ?_
  refine r_iload_n K dL_addBasin_5 2 rfl rfl ?_
  refine r_iload_n K dL_addBasin_6 3 rfl rfl ?_
  refine r_iload K dL_addBasin_7 4 rfl ?_
  refine r_iload K dL_addBasin_9 5 rfl ?_
  refine r_callVh (st := [.int (nI 0), .ref (ad 19 0)]) K (k_X5_addBasin (σ := σ) (τ := τ) (o := o) hl Q C) cw_L_7 wd_411 wd_412 (by decide) (by decide) rfl rfl rfl rfl (Nat.le_of_ble_eq_true rfl) (by decide) (by decide) dL_addBasin_11 ?_ ?_
  · rintro E ⟨c, hc, hE⟩
    rcases c with _ | _ | _ | c
    · cases hE
      refine r_catch K [] ⟨0, 16, 19, 13⟩ [⟨0, 16, 23, 15⟩, ⟨0, 16, 27, 17⟩] rfl (fun t ht => absurd ht List.not_mem_nil) rfl (by decide) wd_328 (by decide +kernel) (fun q => ?_)
      show WW g z 8 10 201 ad (Wz z ad σ τ o) 19 [(0, .ref (ad 0 0)), (1, .int (a)), (2, .int (d)), (3, .int (w)), (4, .int (b0)), (5, .int (h)), (6, .ref (ad 19 0))] [.ref q]
      refine r_astore (lv' := [(7, .ref q), (0, .ref (ad 0 0)), (1, .int (a)), (2, .int (d)), (3, .int (w)), (4, .int (b0)), (5, .int (h)), (6, .ref (ad 19 0))]) K dL_addBasin_19 (by decide) rfl ?_
      refine r_iconst (v := nI 1) K dL_addBasin_21 (by decide) ?_
      exact r_iret K (by decide) (by decide) (okL_x (c := 0) hc C) dL_addBasin_22
    · cases hE
      have hp : ∀ t ∈ ([⟨0, 16, 19, 13⟩] : List ExceptionTableEntry), t.catchType ≠ 0 ∧ ∃ nm, Cond.classLink yL_addBasin.cls t.catchType nm ∈ WALL ∧ ("java/lang/IllegalArgumentException", nm) ∈ ncsZ := by
        intro t ht; simp only [List.mem_cons, List.not_mem_nil, or_false] at ht
        rcases ht with rfl
        · exact ⟨by decide, "java/lang/IndexOutOfBoundsException", wd_328, by decide +kernel⟩
      refine r_catch K [⟨0, 16, 19, 13⟩] ⟨0, 16, 23, 15⟩ [⟨0, 16, 27, 17⟩] rfl hp rfl (by decide) wd_408 (by decide +kernel) (fun q => ?_)
      show WW g z 8 10 201 ad (Wz z ad σ τ o) 23 [(0, .ref (ad 0 0)), (1, .int (a)), (2, .int (d)), (3, .int (w)), (4, .int (b0)), (5, .int (h)), (6, .ref (ad 19 0))] [.ref q]
      refine r_astore (lv' := [(7, .ref q), (0, .ref (ad 0 0)), (1, .int (a)), (2, .int (d)), (3, .int (w)), (4, .int (b0)), (5, .int (h)), (6, .ref (ad 19 0))]) K dL_addBasin_23 (by decide) rfl ?_
      refine r_iconst (v := nI 2) K dL_addBasin_25 (by decide) ?_
      exact r_iret K (by decide) (by decide) (okL_x (c := 1) hc C) dL_addBasin_26
    · cases hE
      have hp : ∀ t ∈ ([⟨0, 16, 19, 13⟩, ⟨0, 16, 23, 15⟩] : List ExceptionTableEntry), t.catchType ≠ 0 ∧ ∃ nm, Cond.classLink yL_addBasin.cls t.catchType nm ∈ WALL ∧ ("java/lang/IllegalStateException", nm) ∈ ncsZ := by
        intro t ht; simp only [List.mem_cons, List.not_mem_nil, or_false] at ht
        rcases ht with rfl | rfl
        · exact ⟨by decide, "java/lang/IndexOutOfBoundsException", wd_328, by decide +kernel⟩
        · exact ⟨by decide, "java/lang/IllegalArgumentException", wd_408, by decide +kernel⟩
      refine r_catch K [⟨0, 16, 19, 13⟩, ⟨0, 16, 23, 15⟩] ⟨0, 16, 27, 17⟩ [] rfl hp rfl (by decide) wd_409 (by decide +kernel) (fun q => ?_)
      show WW g z 8 10 201 ad (Wz z ad σ τ o) 27 [(0, .ref (ad 0 0)), (1, .int (a)), (2, .int (d)), (3, .int (w)), (4, .int (b0)), (5, .int (h)), (6, .ref (ad 19 0))] [.ref q]
      refine r_astore (lv' := [(7, .ref q), (0, .ref (ad 0 0)), (1, .int (a)), (2, .int (d)), (3, .int (w)), (4, .int (b0)), (5, .int (h)), (6, .ref (ad 19 0))]) K dL_addBasin_27 (by decide) rfl ?_
      refine r_iconst (v := nI 3) K dL_addBasin_29 (by decide) ?_
      exact r_iret K (by decide) (by decide) (okL_x (c := 2) hc C) dL_addBasin_30
    · simp at hE
  · rintro _ ad1 _ ⟨hcd, rfl, hK, σ1, rfl, hA, hC⟩
    show WW g z 8 10 201 ad1 (Wz z ad1 σ1 τ o) 14 [(0, .ref (ad 0 0)), (1, .int (a)), (2, .int (d)), (3, .int (w)), (4, .int (b0)), (5, .int (h)), (6, .ref (ad 19 0))] [.int (nI (σ 0 0 0)), .int (nI 0), .ref (ad 19 0)]
    refine r_i2l (v := ((nI (σ 0 0 0)).toInt64)) K dL_addBasin_14 rfl ?_
    refine r_outJ K hK.2.2.1 rfl dL_addBasin_15 ?_
    show WW g z 8 10 201 ad1 (Wz z ad1 σ1 τ (((nI (σ 0 0 0))).toInt64, o.2)) 16 [(0, .ref (ad 0 0)), (1, .int (a)), (2, .int (d)), (3, .int (w)), (4, .int (b0)), (5, .int (h)), (6, .ref (ad 19 0))] []
    refine r_goto K dL_addBasin_16 31 (by decide) ?_
    refine r_iconst (v := nI 0) K dL_addBasin_31 (by decide) ?_
    exact r_iret K (by decide) (by decide) (okL_0 hcd hK hA hC) dL_addBasin_32
set_option maxRecDepth 100000 in
set_option maxHeartbeats 4000000 in
theorem k_L_addCell {z : Zx} {l : Launch} {σ τ : Sg} {o : Int64 × UInt64} {ad : Nm} (hl : l.stackTraces = false) {x y : Int32} (Q : IR σ) (C : ICo σ) : KoH z l yL_addCell cL_addCell 5 (some .int) [(0, 10, 13, 13), (0, 10, 17, 15), (0, 10, 21, 17)] 10 3 18 [.ref (ad 0 0), .int (x), .int (y), .ref (ad 19 0)] ad (Wz z ad σ τ o) (okL z ad σ τ (cAC σ x y) (((nI (σ 1 (jN x) 6 + 1))).toInt64) (fCell σ x y)) exNo := by
  refine koH_of hl (by decide +kernel) (Nat.le_of_ble_eq_true rfl) (fun g hg K => ?_)
  subst hg
  show WW g z 5 0 0 ad (Wz z ad σ τ o) 0 [(0, .ref (ad 0 0)), (1, .int (x)), (2, .int (y)), (3, .ref (ad 19 0))] []
  refine r_aload_n K dL_addCell_0 3 rfl rfl ?_
  refine r_iconst (v := nI 0) K dL_addCell_1 (by decide) ?_
  refine r_aload_n K dL_addCell_2 0 rfl rfl ?_
  refine r_iload_n K dL_addCell_3 1 rfl rfl ?_
  refine r_iload_n K dL_addCell_4 2 rfl rfl ?_
  refine r_callVh (st := [.int (nI 0), .ref (ad 19 0)]) K (k_X5_addCell (σ := σ) (τ := τ) (o := o) hl Q C) cw_L_19 wd_598 wd_599 (by decide) (by decide) rfl rfl rfl rfl (Nat.le_of_ble_eq_true rfl) (by decide) (by decide) dL_addCell_5 ?_ ?_
  · rintro E ⟨c, hc, hE⟩
    rcases c with _ | _ | _ | c
    · cases hE
      refine r_catch K [] ⟨0, 10, 13, 13⟩ [⟨0, 10, 17, 15⟩, ⟨0, 10, 21, 17⟩] rfl (fun t ht => absurd ht List.not_mem_nil) rfl (by decide) wd_328 (by decide +kernel) (fun q => ?_)
      show WW g z 5 3 18 ad (Wz z ad σ τ o) 13 [(0, .ref (ad 0 0)), (1, .int (x)), (2, .int (y)), (3, .ref (ad 19 0))] [.ref q]
      refine r_astore (lv' := [(4, .ref q), (0, .ref (ad 0 0)), (1, .int (x)), (2, .int (y)), (3, .ref (ad 19 0))]) K dL_addCell_13 (by decide) rfl ?_
      refine r_iconst (v := nI 1) K dL_addCell_15 (by decide) ?_
      exact r_iret K (by decide) (by decide) (okL_x (c := 0) hc C) dL_addCell_16
    · cases hE
      have hp : ∀ t ∈ ([⟨0, 10, 13, 13⟩] : List ExceptionTableEntry), t.catchType ≠ 0 ∧ ∃ nm, Cond.classLink yL_addCell.cls t.catchType nm ∈ WALL ∧ ("java/lang/IllegalArgumentException", nm) ∈ ncsZ := by
        intro t ht; simp only [List.mem_cons, List.not_mem_nil, or_false] at ht
        rcases ht with rfl
        · exact ⟨by decide, "java/lang/IndexOutOfBoundsException", wd_328, by decide +kernel⟩
      refine r_catch K [⟨0, 10, 13, 13⟩] ⟨0, 10, 17, 15⟩ [⟨0, 10, 21, 17⟩] rfl hp rfl (by decide) wd_408 (by decide +kernel) (fun q => ?_)
      show WW g z 5 3 18 ad (Wz z ad σ τ o) 17 [(0, .ref (ad 0 0)), (1, .int (x)), (2, .int (y)), (3, .ref (ad 19 0))] [.ref q]
      refine r_astore (lv' := [(4, .ref q), (0, .ref (ad 0 0)), (1, .int (x)), (2, .int (y)), (3, .ref (ad 19 0))]) K dL_addCell_17 (by decide) rfl ?_
      refine r_iconst (v := nI 2) K dL_addCell_19 (by decide) ?_
      exact r_iret K (by decide) (by decide) (okL_x (c := 1) hc C) dL_addCell_20
    · cases hE
      have hp : ∀ t ∈ ([⟨0, 10, 13, 13⟩, ⟨0, 10, 17, 15⟩] : List ExceptionTableEntry), t.catchType ≠ 0 ∧ ∃ nm, Cond.classLink yL_addCell.cls t.catchType nm ∈ WALL ∧ ("java/lang/IllegalStateException", nm) ∈ ncsZ := by
        intro t ht; simp only [List.mem_cons, List.not_mem_nil, or_false] at ht
        rcases ht with rfl | rfl
        · exact ⟨by decide, "java/lang/IndexOutOfBoundsException", wd_328, by decide +kernel⟩
        · exact ⟨by decide, "java/lang/IllegalArgumentException", wd_408, by decide +kernel⟩
      refine r_catch K [⟨0, 10, 13, 13⟩, ⟨0, 10, 17, 15⟩] ⟨0, 10, 21, 17⟩ [] rfl hp rfl (by decide) wd_409 (by decide +kernel) (fun q => ?_)
      show WW g z 5 3 18 ad (Wz z ad σ τ o) 21 [(0, .ref (ad 0 0)), (1, .int (x)), (2, .int (y)), (3, .ref (ad 19 0))] [.ref q]
      refine r_astore (lv' := [(4, .ref q), (0, .ref (ad 0 0)), (1, .int (x)), (2, .int (y)), (3, .ref (ad 19 0))]) K dL_addCell_21 (by decide) rfl ?_
      refine r_iconst (v := nI 3) K dL_addCell_23 (by decide) ?_
      exact r_iret K (by decide) (by decide) (okL_x (c := 2) hc C) dL_addCell_24
    · simp at hE
  · rintro _ ad1 _ ⟨hcd, rfl, hK, σ1, rfl, hA, hC⟩
    show WW g z 5 3 18 ad1 (Wz z ad1 σ1 τ o) 8 [(0, .ref (ad 0 0)), (1, .int (x)), (2, .int (y)), (3, .ref (ad 19 0))] [.int (nI (σ 1 (jN x) 6 + 1)), .int (nI 0), .ref (ad 19 0)]
    refine r_i2l (v := ((nI (σ 1 (jN x) 6 + 1)).toInt64)) K dL_addCell_8 rfl ?_
    refine r_outJ K hK.2.2.1 rfl dL_addCell_9 ?_
    show WW g z 5 3 18 ad1 (Wz z ad1 σ1 τ (((nI (σ 1 (jN x) 6 + 1))).toInt64, o.2)) 10 [(0, .ref (ad 0 0)), (1, .int (x)), (2, .int (y)), (3, .ref (ad 19 0))] []
    refine r_goto K dL_addCell_10 25 (by decide) ?_
    refine r_iconst (v := nI 0) K dL_addCell_25 (by decide) ?_
    exact r_iret K (by decide) (by decide) (okL_0 hcd hK hA hC) dL_addCell_26
set_option maxRecDepth 100000 in
set_option maxHeartbeats 4000000 in
theorem k_L_cellCount {z : Zx} {l : Launch} {σ τ : Sg} {o : Int64 × UInt64} {ad : Nm} (hl : l.stackTraces = false) {x : Int32} (Q : IR σ) (C : ICo σ) : KoH z l yL_cellCount cL_cellCount 4 (some .int) [(0, 9, 12, 13)] 10 1 6 [.ref (ad 0 0), .int (x), .ref (ad 19 0)] ad (Wz z ad σ τ o) (okL z ad σ τ (cB σ x) (((nI (σ 1 (jN x) 6))).toInt64) (σ)) exNo := by
  refine koH_of hl (by decide +kernel) (Nat.le_of_ble_eq_true rfl) (fun g hg K => ?_)
  subst hg
  show WW g z 4 0 0 ad (Wz z ad σ τ o) 0 [(0, .ref (ad 0 0)), (1, .int (x)), (2, .ref (ad 19 0))] []
  refine r_aload_n K dL_cellCount_0 2 rfl rfl ?_
  refine r_iconst (v := nI 0) K dL_cellCount_1 (by decide) ?_
  refine r_aload_n K dL_cellCount_2 0 rfl rfl ?_
  refine r_iload_n K dL_cellCount_3 1 rfl rfl ?_
  refine r_callVh (st := [.int (nI 0), .ref (ad 19 0)]) K (k_X5_cellCount (σ := σ) (τ := τ) (o := o) hl Q C) cw_L_23 wd_628 wd_629 (by decide) (by decide) rfl rfl rfl rfl (Nat.le_of_ble_eq_true rfl) (by decide) (by decide) dL_cellCount_4 ?_ ?_
  · rintro E ⟨c, hc, hE⟩
    rcases c with _ | c
    · cases hE
      refine r_catch K [] ⟨0, 9, 12, 13⟩ [] rfl (fun t ht => absurd ht List.not_mem_nil) rfl (by decide) wd_328 (by decide +kernel) (fun q => ?_)
      show WW g z 4 1 6 ad (Wz z ad σ τ o) 12 [(0, .ref (ad 0 0)), (1, .int (x)), (2, .ref (ad 19 0))] [.ref q]
      refine r_astore_n (lv' := [(3, .ref q), (0, .ref (ad 0 0)), (1, .int (x)), (2, .ref (ad 19 0))]) K dL_cellCount_12 rfl (by decide) rfl ?_
      refine r_iconst (v := nI 1) K dL_cellCount_13 (by decide) ?_
      exact r_iret K (by decide) (by decide) (okL_x (c := 0) hc C) dL_cellCount_14
    · simp at hE
  · rintro _ ad1 _ ⟨hcd, rfl, hK, σ1, rfl, hA, hC⟩
    show WW g z 4 1 6 ad1 (Wz z ad1 σ1 τ o) 7 [(0, .ref (ad 0 0)), (1, .int (x)), (2, .ref (ad 19 0))] [.int (nI (σ 1 (jN x) 6)), .int (nI 0), .ref (ad 19 0)]
    refine r_i2l (v := ((nI (σ 1 (jN x) 6)).toInt64)) K dL_cellCount_7 rfl ?_
    refine r_outJ K hK.2.2.1 rfl dL_cellCount_8 ?_
    show WW g z 4 1 6 ad1 (Wz z ad1 σ1 τ (((nI (σ 1 (jN x) 6))).toInt64, o.2)) 9 [(0, .ref (ad 0 0)), (1, .int (x)), (2, .ref (ad 19 0))] []
    refine r_goto K dL_cellCount_9 15 (by decide) ?_
    refine r_iconst (v := nI 0) K dL_cellCount_15 (by decide) ?_
    exact r_iret K (by decide) (by decide) (okL_0 hcd hK hA hC) dL_cellCount_16
set_option maxRecDepth 100000 in
set_option maxHeartbeats 4000000 in
theorem k_L_capacityOf {z : Zx} {l : Launch} {σ τ : Sg} {o : Int64 × UInt64} {ad : Nm} (hl : l.stackTraces = false) {x : Int32} (Q : IR σ) (C : ICo σ) : KoH z l yL_capacityOf cL_capacityOf 4 (some .int) [(0, 9, 12, 13)] 10 1 6 [.ref (ad 0 0), .int (x), .ref (ad 19 0)] ad (Wz z ad σ τ o) (okL z ad σ τ (cB σ x) (((nI (σ 1 (jN x) 0 * σ 1 (jN x) 1))).toInt64) (σ)) exNo := by
  refine koH_of hl (by decide +kernel) (Nat.le_of_ble_eq_true rfl) (fun g hg K => ?_)
  subst hg
  show WW g z 4 0 0 ad (Wz z ad σ τ o) 0 [(0, .ref (ad 0 0)), (1, .int (x)), (2, .ref (ad 19 0))] []
  refine r_aload_n K dL_capacityOf_0 2 rfl rfl ?_
  refine r_iconst (v := nI 0) K dL_capacityOf_1 (by decide) ?_
  refine r_aload_n K dL_capacityOf_2 0 rfl rfl ?_
  refine r_iload_n K dL_capacityOf_3 1 rfl rfl ?_
  refine r_callVh (st := [.int (nI 0), .ref (ad 19 0)]) K (k_X5_capacityOf (σ := σ) (τ := τ) (o := o) hl Q C) cw_L_27 wd_635 wd_636 (by decide) (by decide) rfl rfl rfl rfl (Nat.le_of_ble_eq_true rfl) (by decide) (by decide) dL_capacityOf_4 ?_ ?_
  · rintro E ⟨c, hc, hE⟩
    rcases c with _ | c
    · cases hE
      refine r_catch K [] ⟨0, 9, 12, 13⟩ [] rfl (fun t ht => absurd ht List.not_mem_nil) rfl (by decide) wd_328 (by decide +kernel) (fun q => ?_)
      show WW g z 4 1 6 ad (Wz z ad σ τ o) 12 [(0, .ref (ad 0 0)), (1, .int (x)), (2, .ref (ad 19 0))] [.ref q]
      refine r_astore_n (lv' := [(3, .ref q), (0, .ref (ad 0 0)), (1, .int (x)), (2, .ref (ad 19 0))]) K dL_capacityOf_12 rfl (by decide) rfl ?_
      refine r_iconst (v := nI 1) K dL_capacityOf_13 (by decide) ?_
      exact r_iret K (by decide) (by decide) (okL_x (c := 0) hc C) dL_capacityOf_14
    · simp at hE
  · rintro _ ad1 _ ⟨hcd, rfl, hK, σ1, rfl, hA, hC⟩
    show WW g z 4 1 6 ad1 (Wz z ad1 σ1 τ o) 7 [(0, .ref (ad 0 0)), (1, .int (x)), (2, .ref (ad 19 0))] [.int (nI (σ 1 (jN x) 0 * σ 1 (jN x) 1)), .int (nI 0), .ref (ad 19 0)]
    refine r_i2l (v := ((nI (σ 1 (jN x) 0 * σ 1 (jN x) 1)).toInt64)) K dL_capacityOf_7 rfl ?_
    refine r_outJ K hK.2.2.1 rfl dL_capacityOf_8 ?_
    show WW g z 4 1 6 ad1 (Wz z ad1 σ1 τ (((nI (σ 1 (jN x) 0 * σ 1 (jN x) 1))).toInt64, o.2)) 9 [(0, .ref (ad 0 0)), (1, .int (x)), (2, .ref (ad 19 0))] []
    refine r_goto K dL_capacityOf_9 15 (by decide) ?_
    refine r_iconst (v := nI 0) K dL_capacityOf_15 (by decide) ?_
    exact r_iret K (by decide) (by decide) (okL_0 hcd hK hA hC) dL_capacityOf_16
set_option maxRecDepth 100000 in
set_option maxHeartbeats 4000000 in
theorem k_L_setHand {z : Zx} {l : Launch} {σ τ : Sg} {o : Int64 × UInt64} {ad : Nm} (hl : l.stackTraces = false) {x y : Int32} (Q : IR σ) (C : ICo σ) : KoH z l yL_setHand cL_setHand 5 (some .int) [(0, 10, 13, 13), (0, 10, 17, 15)] 10 2 12 [.ref (ad 0 0), .int (x), .int (y), .ref (ad 19 0)] ad (Wz z ad σ τ o) (okL z ad σ τ (cBx σ 10 x y) (((nI (σ 1 (jN x) 4))).toInt64) (fHand σ x y)) exNo := by
  refine koH_of hl (by decide +kernel) (Nat.le_of_ble_eq_true rfl) (fun g hg K => ?_)
  subst hg
  show WW g z 5 0 0 ad (Wz z ad σ τ o) 0 [(0, .ref (ad 0 0)), (1, .int (x)), (2, .int (y)), (3, .ref (ad 19 0))] []
  refine r_aload_n K dL_setHand_0 3 rfl rfl ?_
  refine r_iconst (v := nI 0) K dL_setHand_1 (by decide) ?_
  refine r_aload_n K dL_setHand_2 0 rfl rfl ?_
  refine r_iload_n K dL_setHand_3 1 rfl rfl ?_
  refine r_iload_n K dL_setHand_4 2 rfl rfl ?_
  refine r_callVh (st := [.int (nI 0), .ref (ad 19 0)]) K (k_X5_setHand (σ := σ) (τ := τ) (o := o) hl Q C) cw_L_30 wd_642 wd_643 (by decide) (by decide) rfl rfl rfl rfl (Nat.le_of_ble_eq_true rfl) (by decide) (by decide) dL_setHand_5 ?_ ?_
  · rintro E ⟨c, hc, hE⟩
    rcases c with _ | _ | c
    · cases hE
      refine r_catch K [] ⟨0, 10, 13, 13⟩ [⟨0, 10, 17, 15⟩] rfl (fun t ht => absurd ht List.not_mem_nil) rfl (by decide) wd_328 (by decide +kernel) (fun q => ?_)
      show WW g z 5 2 12 ad (Wz z ad σ τ o) 13 [(0, .ref (ad 0 0)), (1, .int (x)), (2, .int (y)), (3, .ref (ad 19 0))] [.ref q]
      refine r_astore (lv' := [(4, .ref q), (0, .ref (ad 0 0)), (1, .int (x)), (2, .int (y)), (3, .ref (ad 19 0))]) K dL_setHand_13 (by decide) rfl ?_
      refine r_iconst (v := nI 1) K dL_setHand_15 (by decide) ?_
      exact r_iret K (by decide) (by decide) (okL_x (c := 0) hc C) dL_setHand_16
    · cases hE
      have hp : ∀ t ∈ ([⟨0, 10, 13, 13⟩] : List ExceptionTableEntry), t.catchType ≠ 0 ∧ ∃ nm, Cond.classLink yL_setHand.cls t.catchType nm ∈ WALL ∧ ("java/lang/IllegalArgumentException", nm) ∈ ncsZ := by
        intro t ht; simp only [List.mem_cons, List.not_mem_nil, or_false] at ht
        rcases ht with rfl
        · exact ⟨by decide, "java/lang/IndexOutOfBoundsException", wd_328, by decide +kernel⟩
      refine r_catch K [⟨0, 10, 13, 13⟩] ⟨0, 10, 17, 15⟩ [] rfl hp rfl (by decide) wd_408 (by decide +kernel) (fun q => ?_)
      show WW g z 5 2 12 ad (Wz z ad σ τ o) 17 [(0, .ref (ad 0 0)), (1, .int (x)), (2, .int (y)), (3, .ref (ad 19 0))] [.ref q]
      refine r_astore (lv' := [(4, .ref q), (0, .ref (ad 0 0)), (1, .int (x)), (2, .int (y)), (3, .ref (ad 19 0))]) K dL_setHand_17 (by decide) rfl ?_
      refine r_iconst (v := nI 2) K dL_setHand_19 (by decide) ?_
      exact r_iret K (by decide) (by decide) (okL_x (c := 1) hc C) dL_setHand_20
    · simp at hE
  · rintro _ ad1 _ ⟨hcd, rfl, hK, σ1, rfl, hA, hC⟩
    show WW g z 5 2 12 ad1 (Wz z ad1 σ1 τ o) 8 [(0, .ref (ad 0 0)), (1, .int (x)), (2, .int (y)), (3, .ref (ad 19 0))] [.int (nI (σ 1 (jN x) 4)), .int (nI 0), .ref (ad 19 0)]
    refine r_i2l (v := ((nI (σ 1 (jN x) 4)).toInt64)) K dL_setHand_8 rfl ?_
    refine r_outJ K hK.2.2.1 rfl dL_setHand_9 ?_
    show WW g z 5 2 12 ad1 (Wz z ad1 σ1 τ (((nI (σ 1 (jN x) 4))).toInt64, o.2)) 10 [(0, .ref (ad 0 0)), (1, .int (x)), (2, .int (y)), (3, .ref (ad 19 0))] []
    refine r_goto K dL_setHand_10 21 (by decide) ?_
    refine r_iconst (v := nI 0) K dL_setHand_21 (by decide) ?_
    exact r_iret K (by decide) (by decide) (okL_0 hcd hK hA hC) dL_setHand_22
set_option maxRecDepth 100000 in
set_option maxHeartbeats 4000000 in
theorem k_L_addRule {z : Zx} {l : Launch} {σ τ : Sg} {o : Int64 × UInt64} {ad : Nm} (hl : l.stackTraces = false) {x y e0 p0 : Int32} (Q : IR σ) (C : ICo σ) {fr : Nat} (hfr : fr ≤ 1) : KoH z l yL_addRule cL_addRule 8 (some .int) [(0, 16, 19, 13), (0, 16, 23, 15), (0, 16, 27, 17)] 10 5 53 [.ref (ad 0 0), .int (x), .int (y), .int (nI fr), .int (e0), .int (p0), .ref (ad 19 0)] ad (Wz z ad σ τ o) (okL z ad σ τ (cAR σ x y e0 p0) (((nI (σ 0 1 0 + 1))).toInt64) (fRule σ x y fr e0 p0)) exNo := by
  refine koH_of hl (by decide +kernel) (Nat.le_of_ble_eq_true rfl) (fun g hg K => ?_)
  subst hg
  show WW g z 8 0 0 ad (Wz z ad σ τ o) 0 [(0, .ref (ad 0 0)), (1, .int (x)), (2, .int (y)), (3, .int (nI fr)), (4, .int (e0)), (5, .int (p0)), (6, .ref (ad 19 0))] []
  refine r_aload K dL_addRule_0 6 rfl ?_
  refine r_iconst (v := nI 0) K dL_addRule_2 (by decide) ?_
  refine r_aload_n K dL_addRule_3 0 rfl rfl ?_
  refine r_iload_n K dL_addRule_4 1 rfl rfl ?_
  refine r_iload_n K dL_addRule_5 2 rfl rfl ?_
  refine r_iload_n K dL_addRule_6 3 rfl rfl ?_
  refine r_iload K dL_addRule_7 4 rfl ?_
  refine r_iload K dL_addRule_9 5 rfl ?_
  refine r_callVh (st := [.int (nI 0), .ref (ad 19 0)]) K (k_X5_addRule (σ := σ) (τ := τ) (o := o) hl Q C hfr) cw_L_33 wd_653 wd_654 (by decide) (by decide) rfl rfl rfl rfl (Nat.le_of_ble_eq_true rfl) (by decide) (by decide) dL_addRule_11 ?_ ?_
  · rintro E ⟨c, hc, hE⟩
    rcases c with _ | _ | _ | c
    · cases hE
      refine r_catch K [] ⟨0, 16, 19, 13⟩ [⟨0, 16, 23, 15⟩, ⟨0, 16, 27, 17⟩] rfl (fun t ht => absurd ht List.not_mem_nil) rfl (by decide) wd_328 (by decide +kernel) (fun q => ?_)
      show WW g z 8 5 53 ad (Wz z ad σ τ o) 19 [(0, .ref (ad 0 0)), (1, .int (x)), (2, .int (y)), (3, .int (nI fr)), (4, .int (e0)), (5, .int (p0)), (6, .ref (ad 19 0))] [.ref q]
      refine r_astore (lv' := [(7, .ref q), (0, .ref (ad 0 0)), (1, .int (x)), (2, .int (y)), (3, .int (nI fr)), (4, .int (e0)), (5, .int (p0)), (6, .ref (ad 19 0))]) K dL_addRule_19 (by decide) rfl ?_
      refine r_iconst (v := nI 1) K dL_addRule_21 (by decide) ?_
      exact r_iret K (by decide) (by decide) (okL_x (c := 0) hc C) dL_addRule_22
    · cases hE
      have hp : ∀ t ∈ ([⟨0, 16, 19, 13⟩] : List ExceptionTableEntry), t.catchType ≠ 0 ∧ ∃ nm, Cond.classLink yL_addRule.cls t.catchType nm ∈ WALL ∧ ("java/lang/IllegalArgumentException", nm) ∈ ncsZ := by
        intro t ht; simp only [List.mem_cons, List.not_mem_nil, or_false] at ht
        rcases ht with rfl
        · exact ⟨by decide, "java/lang/IndexOutOfBoundsException", wd_328, by decide +kernel⟩
      refine r_catch K [⟨0, 16, 19, 13⟩] ⟨0, 16, 23, 15⟩ [⟨0, 16, 27, 17⟩] rfl hp rfl (by decide) wd_408 (by decide +kernel) (fun q => ?_)
      show WW g z 8 5 53 ad (Wz z ad σ τ o) 23 [(0, .ref (ad 0 0)), (1, .int (x)), (2, .int (y)), (3, .int (nI fr)), (4, .int (e0)), (5, .int (p0)), (6, .ref (ad 19 0))] [.ref q]
      refine r_astore (lv' := [(7, .ref q), (0, .ref (ad 0 0)), (1, .int (x)), (2, .int (y)), (3, .int (nI fr)), (4, .int (e0)), (5, .int (p0)), (6, .ref (ad 19 0))]) K dL_addRule_23 (by decide) rfl ?_
      refine r_iconst (v := nI 2) K dL_addRule_25 (by decide) ?_
      exact r_iret K (by decide) (by decide) (okL_x (c := 1) hc C) dL_addRule_26
    · cases hE
      have hp : ∀ t ∈ ([⟨0, 16, 19, 13⟩, ⟨0, 16, 23, 15⟩] : List ExceptionTableEntry), t.catchType ≠ 0 ∧ ∃ nm, Cond.classLink yL_addRule.cls t.catchType nm ∈ WALL ∧ ("java/lang/IllegalStateException", nm) ∈ ncsZ := by
        intro t ht; simp only [List.mem_cons, List.not_mem_nil, or_false] at ht
        rcases ht with rfl | rfl
        · exact ⟨by decide, "java/lang/IndexOutOfBoundsException", wd_328, by decide +kernel⟩
        · exact ⟨by decide, "java/lang/IllegalArgumentException", wd_408, by decide +kernel⟩
      refine r_catch K [⟨0, 16, 19, 13⟩, ⟨0, 16, 23, 15⟩] ⟨0, 16, 27, 17⟩ [] rfl hp rfl (by decide) wd_409 (by decide +kernel) (fun q => ?_)
      show WW g z 8 5 53 ad (Wz z ad σ τ o) 27 [(0, .ref (ad 0 0)), (1, .int (x)), (2, .int (y)), (3, .int (nI fr)), (4, .int (e0)), (5, .int (p0)), (6, .ref (ad 19 0))] [.ref q]
      refine r_astore (lv' := [(7, .ref q), (0, .ref (ad 0 0)), (1, .int (x)), (2, .int (y)), (3, .int (nI fr)), (4, .int (e0)), (5, .int (p0)), (6, .ref (ad 19 0))]) K dL_addRule_27 (by decide) rfl ?_
      refine r_iconst (v := nI 3) K dL_addRule_29 (by decide) ?_
      exact r_iret K (by decide) (by decide) (okL_x (c := 2) hc C) dL_addRule_30
    · simp at hE
  · rintro _ ad1 _ ⟨hcd, rfl, hK, σ1, rfl, hA, hC⟩
    show WW g z 8 5 53 ad1 (Wz z ad1 σ1 τ o) 14 [(0, .ref (ad 0 0)), (1, .int (x)), (2, .int (y)), (3, .int (nI fr)), (4, .int (e0)), (5, .int (p0)), (6, .ref (ad 19 0))] [.int (nI (σ 0 1 0 + 1)), .int (nI 0), .ref (ad 19 0)]
    refine r_i2l (v := ((nI (σ 0 1 0 + 1)).toInt64)) K dL_addRule_14 rfl ?_
    refine r_outJ K hK.2.2.1 rfl dL_addRule_15 ?_
    show WW g z 8 5 53 ad1 (Wz z ad1 σ1 τ (((nI (σ 0 1 0 + 1))).toInt64, o.2)) 16 [(0, .ref (ad 0 0)), (1, .int (x)), (2, .int (y)), (3, .int (nI fr)), (4, .int (e0)), (5, .int (p0)), (6, .ref (ad 19 0))] []
    refine r_goto K dL_addRule_16 31 (by decide) ?_
    refine r_iconst (v := nI 0) K dL_addRule_31 (by decide) ?_
    exact r_iret K (by decide) (by decide) (okL_0 hcd hK hA hC) dL_addRule_32
set_option maxRecDepth 100000 in
set_option maxHeartbeats 4000000 in
theorem k_L_removeRule {z : Zx} {l : Launch} {σ τ : Sg} {o : Int64 × UInt64} {ad : Nm} (hl : l.stackTraces = false) {x : Int32} (Q : IR σ) (C : ICo σ) : KoH z l yL_removeRule cL_removeRule 4 (some .int) [(0, 9, 12, 13)] 10 1 6 [.ref (ad 0 0), .int (x), .ref (ad 19 0)] ad (Wz z ad σ τ o) (okL z ad σ τ (cR σ x) (((nI (σ 0 1 0 - 1))).toInt64) (fRem σ x)) exNo := by
  refine koH_of hl (by decide +kernel) (Nat.le_of_ble_eq_true rfl) (fun g hg K => ?_)
  subst hg
  show WW g z 4 0 0 ad (Wz z ad σ τ o) 0 [(0, .ref (ad 0 0)), (1, .int (x)), (2, .ref (ad 19 0))] []
  refine r_aload_n K dL_removeRule_0 2 rfl rfl ?_
  refine r_iconst (v := nI 0) K dL_removeRule_1 (by decide) ?_
  refine r_aload_n K dL_removeRule_2 0 rfl rfl ?_
  refine r_iload_n K dL_removeRule_3 1 rfl rfl ?_
  refine r_callVh (st := [.int (nI 0), .ref (ad 19 0)]) K (k_X5_removeRule (σ := σ) (τ := τ) (o := o) hl Q C) cw_L_37 wd_688 wd_689 (by decide) (by decide) rfl rfl rfl rfl (Nat.le_of_ble_eq_true rfl) (by decide) (by decide) dL_removeRule_4 ?_ ?_
  · rintro E ⟨c, hc, hE⟩
    rcases c with _ | c
    · cases hE
      refine r_catch K [] ⟨0, 9, 12, 13⟩ [] rfl (fun t ht => absurd ht List.not_mem_nil) rfl (by decide) wd_328 (by decide +kernel) (fun q => ?_)
      show WW g z 4 1 6 ad (Wz z ad σ τ o) 12 [(0, .ref (ad 0 0)), (1, .int (x)), (2, .ref (ad 19 0))] [.ref q]
      refine r_astore_n (lv' := [(3, .ref q), (0, .ref (ad 0 0)), (1, .int (x)), (2, .ref (ad 19 0))]) K dL_removeRule_12 rfl (by decide) rfl ?_
      refine r_iconst (v := nI 1) K dL_removeRule_13 (by decide) ?_
      exact r_iret K (by decide) (by decide) (okL_x (c := 0) hc C) dL_removeRule_14
    · simp at hE
  · rintro _ ad1 _ ⟨hcd, rfl, hK, σ1, rfl, hA, hC⟩
    show WW g z 4 1 6 ad1 (Wz z ad1 σ1 τ o) 7 [(0, .ref (ad 0 0)), (1, .int (x)), (2, .ref (ad 19 0))] [.int (nI (σ 0 1 0 - 1)), .int (nI 0), .ref (ad 19 0)]
    refine r_i2l (v := ((nI (σ 0 1 0 - 1)).toInt64)) K dL_removeRule_7 rfl ?_
    refine r_outJ K hK.2.2.1 rfl dL_removeRule_8 ?_
    show WW g z 4 1 6 ad1 (Wz z ad1 σ1 τ (((nI (σ 0 1 0 - 1))).toInt64, o.2)) 9 [(0, .ref (ad 0 0)), (1, .int (x)), (2, .ref (ad 19 0))] []
    refine r_goto K dL_removeRule_9 15 (by decide) ?_
    refine r_iconst (v := nI 0) K dL_removeRule_15 (by decide) ?_
    exact r_iret K (by decide) (by decide) (okL_0 hcd hK hA hC) dL_removeRule_16
set_option maxRecDepth 100000 in
set_option maxHeartbeats 4000000 in
theorem k_L_doesHold {z : Zx} {l : Launch} {σ τ : Sg} {o : Int64 × UInt64} {ad : Nm} (hl : l.stackTraces = false) {x : Int32} (Q : IR σ) (C : ICo σ) : KoH z l yL_doesHold cL_doesHold 4 (some .int) [(0, 16, 19, 13)] 10 1 6 [.ref (ad 0 0), .int (x), .ref (ad 19 0)] ad (Wz z ad σ τ o) (okL z ad σ τ (cR σ x) (((nI (hldN (σ 8) (σ 1) (fun i => σ 3 i 0) (jN x)))).toInt64) (σ)) exNo := by
  refine koH_of hl (by decide +kernel) (Nat.le_of_ble_eq_true rfl) (fun g hg K => ?_)
  subst hg
  show WW g z 4 0 0 ad (Wz z ad σ τ o) 0 [(0, .ref (ad 0 0)), (1, .int (x)), (2, .ref (ad 19 0))] []
  refine r_aload_n K dL_doesHold_0 2 rfl rfl ?_
  refine r_iconst (v := nI 0) K dL_doesHold_1 (by decide) ?_
  refine r_aload_n K dL_doesHold_2 0 rfl rfl ?_
  refine r_iload_n K dL_doesHold_3 1 rfl rfl ?_
  refine r_callVh (st := [.int (nI 0), .ref (ad 19 0)]) K (k_X5_doesHold (σ := σ) (τ := τ) (o := o) hl Q C) cw_L_40 wd_709 wd_710 (by decide) (by decide) rfl rfl rfl rfl (Nat.le_of_ble_eq_true rfl) (by decide) (by decide) dL_doesHold_4 ?_ ?_
  · rintro E ⟨c, hc, hE⟩
    rcases c with _ | c
    · cases hE
      refine r_catch K [] ⟨0, 16, 19, 13⟩ [] rfl (fun t ht => absurd ht List.not_mem_nil) rfl (by decide) wd_328 (by decide +kernel) (fun q => ?_)
      show WW g z 4 1 6 ad (Wz z ad σ τ o) 19 [(0, .ref (ad 0 0)), (1, .int (x)), (2, .ref (ad 19 0))] [.ref q]
      refine r_astore_n (lv' := [(3, .ref q), (0, .ref (ad 0 0)), (1, .int (x)), (2, .ref (ad 19 0))]) K dL_doesHold_19 rfl (by decide) rfl ?_
      refine r_iconst (v := nI 1) K dL_doesHold_20 (by decide) ?_
      exact r_iret K (by decide) (by decide) (okL_x (c := 0) hc C) dL_doesHold_21
    · simp at hE
  · rintro _ ad1 _ ⟨hcd, rfl, hK, σ1, rfl, hA, hC⟩
    show WW g z 4 1 6 ad1 (Wz z ad1 σ1 τ o) 7 [(0, .ref (ad 0 0)), (1, .int (x)), (2, .ref (ad 19 0))] [.int (nI (hldN (σ 8) (σ 1) (fun i => σ 3 i 0) (jN x))), .int (nI 0), .ref (ad 19 0)]
    refine r_if_eq K dL_doesHold_7 14 (nI (hldN (σ 8) (σ 1) (fun i => σ 3 i 0) (jN x)) = 0) Iff.rfl (by decide) (fun c_7 => ?_) (fun c_7 => ?_)
    · skip
      refine r_lconst (v := nJ (0)) K dL_doesHold_14 rfl ?_
      refine r_eq (st' := [.long (((nI (hldN (σ 8) (σ 1) (fun i => σ 3 i 0) (jN x)))).toInt64), .int (nI 0), .ref (ad 19 0)]) rfl rfl rfl (by rw [show (nI (hldN (σ 8) (σ 1) (fun i => σ 3 i 0) (jN x))) = 0 from c_7]; rfl) ?_
      refine r_outJ K hK.2.2.1 rfl dL_doesHold_15 ?_
      show WW g z 4 1 6 ad1 (Wz z ad1 σ1 τ (((nI (hldN (σ 8) (σ 1) (fun i => σ 3 i 0) (jN x)))).toInt64, o.2)) 16 [(0, .ref (ad 0 0)), (1, .int (x)), (2, .ref (ad 19 0))] []
      refine r_goto K dL_doesHold_16 22 (by decide) ?_
      refine r_iconst (v := nI 0) K dL_doesHold_22 (by decide) ?_
      exact r_iret K (by decide) (by decide) (okL_0 hcd hK hA hC) dL_doesHold_23
    · skip
      refine r_lconst (v := nJ (1)) K dL_doesHold_10 rfl ?_
      refine r_goto K dL_doesHold_11 15 (by decide) ?_
      refine r_eq (st' := [.long (((nI (hldN (σ 8) (σ 1) (fun i => σ 3 i 0) (jN x)))).toInt64), .int (nI 0), .ref (ad 19 0)]) rfl rfl rfl (by rw [show (nI (hldN (σ 8) (σ 1) (fun i => σ 3 i 0) (jN x))) = 1 from (by rcases (show hldN (σ 8) (σ 1) (fun i => σ 3 i 0) (jN x) = 0 ∨ hldN (σ 8) (σ 1) (fun i => σ 3 i 0) (jN x) = 1 by have := hldN_le (σ 8) (σ 1) (fun i => σ 3 i 0) (jN x); omega) with e | e <;> rw [e] at c_7 ⊢ <;> first | rfl | exact absurd rfl c_7)]; rfl) ?_
      refine r_outJ K hK.2.2.1 rfl dL_doesHold_15 ?_
      show WW g z 4 1 6 ad1 (Wz z ad1 σ1 τ (((nI (hldN (σ 8) (σ 1) (fun i => σ 3 i 0) (jN x)))).toInt64, o.2)) 16 [(0, .ref (ad 0 0)), (1, .int (x)), (2, .ref (ad 19 0))] []
      refine r_goto K dL_doesHold_16 22 (by decide) ?_
      refine r_iconst (v := nI 0) K dL_doesHold_22 (by decide) ?_
      exact r_iret K (by decide) (by decide) (okL_0 hcd hK hA hC) dL_doesHold_23
set_option maxRecDepth 100000 in
set_option maxHeartbeats 4000000 in
theorem k_L_openingNow {z : Zx} {l : Launch} {σ τ : Sg} {o : Int64 × UInt64} {ad : Nm} (hl : l.stackTraces = false) {x : Int32} (Q : IR σ) (C : ICo σ) : KoH z l yL_openingNow cL_openingNow 4 (some .int) [(0, 9, 12, 13)] 10 1 6 [.ref (ad 0 0), .int (x), .ref (ad 19 0)] ad (Wz z ad σ τ o) (okL z ad σ τ (cB σ x) (((nI (opn (σ 8) (σ 1) (fun i => σ 3 i 0) (jN x) (σ 0 1 0)))).toInt64) (σ)) exNo := by
  refine koH_of hl (by decide +kernel) (Nat.le_of_ble_eq_true rfl) (fun g hg K => ?_)
  subst hg
  show WW g z 4 0 0 ad (Wz z ad σ τ o) 0 [(0, .ref (ad 0 0)), (1, .int (x)), (2, .ref (ad 19 0))] []
  refine r_aload_n K dL_openingNow_0 2 rfl rfl ?_
  refine r_iconst (v := nI 0) K dL_openingNow_1 (by decide) ?_
  refine r_aload_n K dL_openingNow_2 0 rfl rfl ?_
  refine r_iload_n K dL_openingNow_3 1 rfl rfl ?_
  refine r_callVh (st := [.int (nI 0), .ref (ad 19 0)]) K (k_X5_openingNow (σ := σ) (τ := τ) (o := o) hl Q C) cw_L_44 wd_716 wd_717 (by decide) (by decide) rfl rfl rfl rfl (Nat.le_of_ble_eq_true rfl) (by decide) (by decide) dL_openingNow_4 ?_ ?_
  · rintro E ⟨c, hc, hE⟩
    rcases c with _ | c
    · cases hE
      refine r_catch K [] ⟨0, 9, 12, 13⟩ [] rfl (fun t ht => absurd ht List.not_mem_nil) rfl (by decide) wd_328 (by decide +kernel) (fun q => ?_)
      show WW g z 4 1 6 ad (Wz z ad σ τ o) 12 [(0, .ref (ad 0 0)), (1, .int (x)), (2, .ref (ad 19 0))] [.ref q]
      refine r_astore_n (lv' := [(3, .ref q), (0, .ref (ad 0 0)), (1, .int (x)), (2, .ref (ad 19 0))]) K dL_openingNow_12 rfl (by decide) rfl ?_
      refine r_iconst (v := nI 1) K dL_openingNow_13 (by decide) ?_
      exact r_iret K (by decide) (by decide) (okL_x (c := 0) hc C) dL_openingNow_14
    · simp at hE
  · rintro _ ad1 _ ⟨hcd, rfl, hK, σ1, rfl, hA, hC⟩
    show WW g z 4 1 6 ad1 (Wz z ad1 σ1 τ o) 7 [(0, .ref (ad 0 0)), (1, .int (x)), (2, .ref (ad 19 0))] [.int (nI (opn (σ 8) (σ 1) (fun i => σ 3 i 0) (jN x) (σ 0 1 0))), .int (nI 0), .ref (ad 19 0)]
    refine r_i2l (v := ((nI (opn (σ 8) (σ 1) (fun i => σ 3 i 0) (jN x) (σ 0 1 0))).toInt64)) K dL_openingNow_7 rfl ?_
    refine r_outJ K hK.2.2.1 rfl dL_openingNow_8 ?_
    show WW g z 4 1 6 ad1 (Wz z ad1 σ1 τ (((nI (opn (σ 8) (σ 1) (fun i => σ 3 i 0) (jN x) (σ 0 1 0)))).toInt64, o.2)) 9 [(0, .ref (ad 0 0)), (1, .int (x)), (2, .ref (ad 19 0))] []
    refine r_goto K dL_openingNow_9 15 (by decide) ?_
    refine r_iconst (v := nI 0) K dL_openingNow_15 (by decide) ?_
    exact r_iret K (by decide) (by decide) (okL_0 hcd hK hA hC) dL_openingNow_16
set_option maxRecDepth 100000 in
set_option maxHeartbeats 4000000 in
theorem k_L_setRain {z : Zx} {l : Launch} {σ τ : Sg} {o : Int64 × UInt64} {ad : Nm} (hl : l.stackTraces = false) {x y : Int32} (Q : IR σ) (C : ICo σ) : KoH z l yL_setRain cL_setRain 5 (some .int) [(0, 10, 13, 13), (0, 10, 17, 15)] 10 2 12 [.ref (ad 0 0), .int (x), .int (y), .ref (ad 19 0)] ad (Wz z ad σ τ o) (okL z ad σ τ (cBx σ 500 x y) (((nI (σ 1 (jN x) 5))).toInt64) (fRain σ x y)) exNo := by
  refine koH_of hl (by decide +kernel) (Nat.le_of_ble_eq_true rfl) (fun g hg K => ?_)
  subst hg
  show WW g z 5 0 0 ad (Wz z ad σ τ o) 0 [(0, .ref (ad 0 0)), (1, .int (x)), (2, .int (y)), (3, .ref (ad 19 0))] []
  refine r_aload_n K dL_setRain_0 3 rfl rfl ?_
  refine r_iconst (v := nI 0) K dL_setRain_1 (by decide) ?_
  refine r_aload_n K dL_setRain_2 0 rfl rfl ?_
  refine r_iload_n K dL_setRain_3 1 rfl rfl ?_
  refine r_iload_n K dL_setRain_4 2 rfl rfl ?_
  refine r_callVh (st := [.int (nI 0), .ref (ad 19 0)]) K (k_X5_setRain (σ := σ) (τ := τ) (o := o) hl Q C) cw_L_47 wd_723 wd_724 (by decide) (by decide) rfl rfl rfl rfl (Nat.le_of_ble_eq_true rfl) (by decide) (by decide) dL_setRain_5 ?_ ?_
  · rintro E ⟨c, hc, hE⟩
    rcases c with _ | _ | c
    · cases hE
      refine r_catch K [] ⟨0, 10, 13, 13⟩ [⟨0, 10, 17, 15⟩] rfl (fun t ht => absurd ht List.not_mem_nil) rfl (by decide) wd_328 (by decide +kernel) (fun q => ?_)
      show WW g z 5 2 12 ad (Wz z ad σ τ o) 13 [(0, .ref (ad 0 0)), (1, .int (x)), (2, .int (y)), (3, .ref (ad 19 0))] [.ref q]
      refine r_astore (lv' := [(4, .ref q), (0, .ref (ad 0 0)), (1, .int (x)), (2, .int (y)), (3, .ref (ad 19 0))]) K dL_setRain_13 (by decide) rfl ?_
      refine r_iconst (v := nI 1) K dL_setRain_15 (by decide) ?_
      exact r_iret K (by decide) (by decide) (okL_x (c := 0) hc C) dL_setRain_16
    · cases hE
      have hp : ∀ t ∈ ([⟨0, 10, 13, 13⟩] : List ExceptionTableEntry), t.catchType ≠ 0 ∧ ∃ nm, Cond.classLink yL_setRain.cls t.catchType nm ∈ WALL ∧ ("java/lang/IllegalArgumentException", nm) ∈ ncsZ := by
        intro t ht; simp only [List.mem_cons, List.not_mem_nil, or_false] at ht
        rcases ht with rfl
        · exact ⟨by decide, "java/lang/IndexOutOfBoundsException", wd_328, by decide +kernel⟩
      refine r_catch K [⟨0, 10, 13, 13⟩] ⟨0, 10, 17, 15⟩ [] rfl hp rfl (by decide) wd_408 (by decide +kernel) (fun q => ?_)
      show WW g z 5 2 12 ad (Wz z ad σ τ o) 17 [(0, .ref (ad 0 0)), (1, .int (x)), (2, .int (y)), (3, .ref (ad 19 0))] [.ref q]
      refine r_astore (lv' := [(4, .ref q), (0, .ref (ad 0 0)), (1, .int (x)), (2, .int (y)), (3, .ref (ad 19 0))]) K dL_setRain_17 (by decide) rfl ?_
      refine r_iconst (v := nI 2) K dL_setRain_19 (by decide) ?_
      exact r_iret K (by decide) (by decide) (okL_x (c := 1) hc C) dL_setRain_20
    · simp at hE
  · rintro _ ad1 _ ⟨hcd, rfl, hK, σ1, rfl, hA, hC⟩
    show WW g z 5 2 12 ad1 (Wz z ad1 σ1 τ o) 8 [(0, .ref (ad 0 0)), (1, .int (x)), (2, .int (y)), (3, .ref (ad 19 0))] [.int (nI (σ 1 (jN x) 5)), .int (nI 0), .ref (ad 19 0)]
    refine r_i2l (v := ((nI (σ 1 (jN x) 5)).toInt64)) K dL_setRain_8 rfl ?_
    refine r_outJ K hK.2.2.1 rfl dL_setRain_9 ?_
    show WW g z 5 2 12 ad1 (Wz z ad1 σ1 τ (((nI (σ 1 (jN x) 5))).toInt64, o.2)) 10 [(0, .ref (ad 0 0)), (1, .int (x)), (2, .int (y)), (3, .ref (ad 19 0))] []
    refine r_goto K dL_setRain_10 21 (by decide) ?_
    refine r_iconst (v := nI 0) K dL_setRain_21 (by decide) ?_
    exact r_iret K (by decide) (by decide) (okL_0 hcd hK hA hC) dL_setRain_22
set_option maxRecDepth 100000 in
set_option maxHeartbeats 4000000 in
theorem k_L_pass {z : Zx} {l : Launch} {σ τ : Sg} {o : Int64 × UInt64} {ad : Nm} (hl : l.stackTraces = false) {x : Int32} (Q : IR σ) (C : ICo σ) : KoH z l yL_pass cL_pass 4 (some .int) [(0, 9, 12, 15), (0, 9, 15, 17)] 10 1 6 [.ref (ad 0 0), .int (x), .ref (ad 19 0)] ad (Wz z ad σ τ o) (okL z ad σ τ (cP σ x) (((nI (σ 12 0 0 + jN x))).toInt64) (hrs σ (jN x))) exNo := by
  refine koH_of hl (by decide +kernel) (Nat.le_of_ble_eq_true rfl) (fun g hg K => ?_)
  subst hg
  show WW g z 4 0 0 ad (Wz z ad σ τ o) 0 [(0, .ref (ad 0 0)), (1, .int (x)), (2, .ref (ad 19 0))] []
  refine r_aload_n K dL_pass_0 2 rfl rfl ?_
  refine r_iconst (v := nI 0) K dL_pass_1 (by decide) ?_
  refine r_aload_n K dL_pass_2 0 rfl rfl ?_
  refine r_iload_n K dL_pass_3 1 rfl rfl ?_
  refine r_callVh (st := [.int (nI 0), .ref (ad 19 0)]) K (k_X5_pass (σ := σ) (τ := τ) (o := o) hl Q C) cw_L_50 wd_731 wd_732 (by decide) (by decide) rfl rfl rfl rfl (Nat.le_of_ble_eq_true rfl) (by decide) (by decide) dL_pass_4 ?_ ?_
  · rintro E ⟨c, hc, hE⟩
    rcases c with _ | _ | c
    · cases hE
      refine r_catch K [] ⟨0, 9, 12, 15⟩ [⟨0, 9, 15, 17⟩] rfl (fun t ht => absurd ht List.not_mem_nil) rfl (by decide) wd_408 (by decide +kernel) (fun q => ?_)
      show WW g z 4 1 6 ad (Wz z ad σ τ o) 12 [(0, .ref (ad 0 0)), (1, .int (x)), (2, .ref (ad 19 0))] [.ref q]
      refine r_astore_n (lv' := [(3, .ref q), (0, .ref (ad 0 0)), (1, .int (x)), (2, .ref (ad 19 0))]) K dL_pass_12 rfl (by decide) rfl ?_
      refine r_iconst (v := nI 1) K dL_pass_13 (by decide) ?_
      exact r_iret K (by decide) (by decide) (okL_x (c := 0) hc C) dL_pass_14
    · cases hE
      have hp : ∀ t ∈ ([⟨0, 9, 12, 15⟩] : List ExceptionTableEntry), t.catchType ≠ 0 ∧ ∃ nm, Cond.classLink yL_pass.cls t.catchType nm ∈ WALL ∧ ("java/lang/IllegalStateException", nm) ∈ ncsZ := by
        intro t ht; simp only [List.mem_cons, List.not_mem_nil, or_false] at ht
        rcases ht with rfl
        · exact ⟨by decide, "java/lang/IllegalArgumentException", wd_408, by decide +kernel⟩
      refine r_catch K [⟨0, 9, 12, 15⟩] ⟨0, 9, 15, 17⟩ [] rfl hp rfl (by decide) wd_409 (by decide +kernel) (fun q => ?_)
      show WW g z 4 1 6 ad (Wz z ad σ τ o) 15 [(0, .ref (ad 0 0)), (1, .int (x)), (2, .ref (ad 19 0))] [.ref q]
      refine r_astore_n (lv' := [(3, .ref q), (0, .ref (ad 0 0)), (1, .int (x)), (2, .ref (ad 19 0))]) K dL_pass_15 rfl (by decide) rfl ?_
      refine r_iconst (v := nI 2) K dL_pass_16 (by decide) ?_
      exact r_iret K (by decide) (by decide) (okL_x (c := 1) hc C) dL_pass_17
    · simp at hE
  · rintro _ ad1 _ ⟨hcd, rfl, hK, σ1, rfl, hA, hC⟩
    show WW g z 4 1 6 ad1 (Wz z ad1 σ1 τ o) 7 [(0, .ref (ad 0 0)), (1, .int (x)), (2, .ref (ad 19 0))] [.int (nI (σ 12 0 0 + jN x)), .int (nI 0), .ref (ad 19 0)]
    refine r_i2l (v := ((nI (σ 12 0 0 + jN x)).toInt64)) K dL_pass_7 rfl ?_
    refine r_outJ K hK.2.2.1 rfl dL_pass_8 ?_
    show WW g z 4 1 6 ad1 (Wz z ad1 σ1 τ (((nI (σ 12 0 0 + jN x))).toInt64, o.2)) 9 [(0, .ref (ad 0 0)), (1, .int (x)), (2, .ref (ad 19 0))] []
    refine r_goto K dL_pass_9 18 (by decide) ?_
    refine r_iconst (v := nI 0) K dL_pass_18 (by decide) ?_
    exact r_iret K (by decide) (by decide) (okL_0 hcd hK hA hC) dL_pass_19
set_option maxRecDepth 100000 in
set_option maxHeartbeats 4000000 in
theorem k_L_volumeOf {z : Zx} {l : Launch} {σ τ : Sg} {o : Int64 × UInt64} {ad : Nm} (hl : l.stackTraces = false) {x : Int32} (Q : IR σ) (C : ICo σ) : KoH z l yL_volumeOf cL_volumeOf 4 (some .int) [(0, 9, 12, 13)] 10 1 6 [.ref (ad 0 0), .int (x), .ref (ad 19 0)] ad (Wz z ad σ τ o) (okL z ad σ τ (cB σ x) (((nI (σ 3 (jN x) 0))).toInt64) (σ)) exNo := by
  refine koH_of hl (by decide +kernel) (Nat.le_of_ble_eq_true rfl) (fun g hg K => ?_)
  subst hg
  show WW g z 4 0 0 ad (Wz z ad σ τ o) 0 [(0, .ref (ad 0 0)), (1, .int (x)), (2, .ref (ad 19 0))] []
  refine r_aload_n K dL_volumeOf_0 2 rfl rfl ?_
  refine r_iconst (v := nI 0) K dL_volumeOf_1 (by decide) ?_
  refine r_aload_n K dL_volumeOf_2 0 rfl rfl ?_
  refine r_iload_n K dL_volumeOf_3 1 rfl rfl ?_
  refine r_callVh (st := [.int (nI 0), .ref (ad 19 0)]) K (k_X5_volumeOf (σ := σ) (τ := τ) (o := o) hl Q C) cw_L_53 wd_749 wd_750 (by decide) (by decide) rfl rfl rfl rfl (Nat.le_of_ble_eq_true rfl) (by decide) (by decide) dL_volumeOf_4 ?_ ?_
  · rintro E ⟨c, hc, hE⟩
    rcases c with _ | c
    · cases hE
      refine r_catch K [] ⟨0, 9, 12, 13⟩ [] rfl (fun t ht => absurd ht List.not_mem_nil) rfl (by decide) wd_328 (by decide +kernel) (fun q => ?_)
      show WW g z 4 1 6 ad (Wz z ad σ τ o) 12 [(0, .ref (ad 0 0)), (1, .int (x)), (2, .ref (ad 19 0))] [.ref q]
      refine r_astore_n (lv' := [(3, .ref q), (0, .ref (ad 0 0)), (1, .int (x)), (2, .ref (ad 19 0))]) K dL_volumeOf_12 rfl (by decide) rfl ?_
      refine r_iconst (v := nI 1) K dL_volumeOf_13 (by decide) ?_
      exact r_iret K (by decide) (by decide) (okL_x (c := 0) hc C) dL_volumeOf_14
    · simp at hE
  · rintro _ ad1 _ ⟨hcd, rfl, hK, σ1, rfl, hA, hC⟩
    show WW g z 4 1 6 ad1 (Wz z ad1 σ1 τ o) 7 [(0, .ref (ad 0 0)), (1, .int (x)), (2, .ref (ad 19 0))] [.int (nI (σ 3 (jN x) 0)), .int (nI 0), .ref (ad 19 0)]
    refine r_i2l (v := ((nI (σ 3 (jN x) 0)).toInt64)) K dL_volumeOf_7 rfl ?_
    refine r_outJ K hK.2.2.1 rfl dL_volumeOf_8 ?_
    show WW g z 4 1 6 ad1 (Wz z ad1 σ1 τ (((nI (σ 3 (jN x) 0))).toInt64, o.2)) 9 [(0, .ref (ad 0 0)), (1, .int (x)), (2, .ref (ad 19 0))] []
    refine r_goto K dL_volumeOf_9 15 (by decide) ?_
    refine r_iconst (v := nI 0) K dL_volumeOf_15 (by decide) ?_
    exact r_iret K (by decide) (by decide) (okL_0 hcd hK hA hC) dL_volumeOf_16
set_option maxRecDepth 100000 in
set_option maxHeartbeats 4000000 in
theorem k_L_levelOf {z : Zx} {l : Launch} {σ τ : Sg} {o : Int64 × UInt64} {ad : Nm} (hl : l.stackTraces = false) {x : Int32} (Q : IR σ) (C : ICo σ) : KoH z l yL_levelOf cL_levelOf 4 (some .int) [(0, 9, 12, 13)] 10 1 6 [.ref (ad 0 0), .int (x), .ref (ad 19 0)] ad (Wz z ad σ τ o) (okL z ad σ τ (cB σ x) (((nI (σ 3 (jN x) 0 / σ 1 (jN x) 0))).toInt64) (σ)) exNo := by
  refine koH_of hl (by decide +kernel) (Nat.le_of_ble_eq_true rfl) (fun g hg K => ?_)
  subst hg
  show WW g z 4 0 0 ad (Wz z ad σ τ o) 0 [(0, .ref (ad 0 0)), (1, .int (x)), (2, .ref (ad 19 0))] []
  refine r_aload_n K dL_levelOf_0 2 rfl rfl ?_
  refine r_iconst (v := nI 0) K dL_levelOf_1 (by decide) ?_
  refine r_aload_n K dL_levelOf_2 0 rfl rfl ?_
  refine r_iload_n K dL_levelOf_3 1 rfl rfl ?_
  refine r_callVh (st := [.int (nI 0), .ref (ad 19 0)]) K (k_X5_levelOf (σ := σ) (τ := τ) (o := o) hl Q C) cw_L_56 wd_756 wd_757 (by decide) (by decide) rfl rfl rfl rfl (Nat.le_of_ble_eq_true rfl) (by decide) (by decide) dL_levelOf_4 ?_ ?_
  · rintro E ⟨c, hc, hE⟩
    rcases c with _ | c
    · cases hE
      refine r_catch K [] ⟨0, 9, 12, 13⟩ [] rfl (fun t ht => absurd ht List.not_mem_nil) rfl (by decide) wd_328 (by decide +kernel) (fun q => ?_)
      show WW g z 4 1 6 ad (Wz z ad σ τ o) 12 [(0, .ref (ad 0 0)), (1, .int (x)), (2, .ref (ad 19 0))] [.ref q]
      refine r_astore_n (lv' := [(3, .ref q), (0, .ref (ad 0 0)), (1, .int (x)), (2, .ref (ad 19 0))]) K dL_levelOf_12 rfl (by decide) rfl ?_
      refine r_iconst (v := nI 1) K dL_levelOf_13 (by decide) ?_
      exact r_iret K (by decide) (by decide) (okL_x (c := 0) hc C) dL_levelOf_14
    · simp at hE
  · rintro _ ad1 _ ⟨hcd, rfl, hK, σ1, rfl, hA, hC⟩
    show WW g z 4 1 6 ad1 (Wz z ad1 σ1 τ o) 7 [(0, .ref (ad 0 0)), (1, .int (x)), (2, .ref (ad 19 0))] [.int (nI (σ 3 (jN x) 0 / σ 1 (jN x) 0)), .int (nI 0), .ref (ad 19 0)]
    refine r_i2l (v := ((nI (σ 3 (jN x) 0 / σ 1 (jN x) 0)).toInt64)) K dL_levelOf_7 rfl ?_
    refine r_outJ K hK.2.2.1 rfl dL_levelOf_8 ?_
    show WW g z 4 1 6 ad1 (Wz z ad1 σ1 τ (((nI (σ 3 (jN x) 0 / σ 1 (jN x) 0))).toInt64, o.2)) 9 [(0, .ref (ad 0 0)), (1, .int (x)), (2, .ref (ad 19 0))] []
    refine r_goto K dL_levelOf_9 15 (by decide) ?_
    refine r_iconst (v := nI 0) K dL_levelOf_15 (by decide) ?_
    exact r_iret K (by decide) (by decide) (okL_0 hcd hK hA hC) dL_levelOf_16
set_option maxRecDepth 100000 in
set_option maxHeartbeats 4000000 in
theorem k_L_streetVolume {z : Zx} {l : Launch} {σ τ : Sg} {o : Int64 × UInt64} {ad : Nm} (hl : l.stackTraces = false) {x : Int32} (Q : IR σ) (C : ICo σ) : KoH z l yL_streetVolume cL_streetVolume 4 (some .int) [(0, 9, 12, 13)] 10 1 6 [.ref (ad 0 0), .int (x), .ref (ad 19 0)] ad (Wz z ad σ τ o) (okL z ad σ τ (cB σ x) (((nI (σ 4 (jN x) 0))).toInt64) (σ)) exNo := by
  refine koH_of hl (by decide +kernel) (Nat.le_of_ble_eq_true rfl) (fun g hg K => ?_)
  subst hg
  show WW g z 4 0 0 ad (Wz z ad σ τ o) 0 [(0, .ref (ad 0 0)), (1, .int (x)), (2, .ref (ad 19 0))] []
  refine r_aload_n K dL_streetVolume_0 2 rfl rfl ?_
  refine r_iconst (v := nI 0) K dL_streetVolume_1 (by decide) ?_
  refine r_aload_n K dL_streetVolume_2 0 rfl rfl ?_
  refine r_iload_n K dL_streetVolume_3 1 rfl rfl ?_
  refine r_callVh (st := [.int (nI 0), .ref (ad 19 0)]) K (k_X5_streetVolume (σ := σ) (τ := τ) (o := o) hl Q C) cw_L_59 wd_763 wd_764 (by decide) (by decide) rfl rfl rfl rfl (Nat.le_of_ble_eq_true rfl) (by decide) (by decide) dL_streetVolume_4 ?_ ?_
  · rintro E ⟨c, hc, hE⟩
    rcases c with _ | c
    · cases hE
      refine r_catch K [] ⟨0, 9, 12, 13⟩ [] rfl (fun t ht => absurd ht List.not_mem_nil) rfl (by decide) wd_328 (by decide +kernel) (fun q => ?_)
      show WW g z 4 1 6 ad (Wz z ad σ τ o) 12 [(0, .ref (ad 0 0)), (1, .int (x)), (2, .ref (ad 19 0))] [.ref q]
      refine r_astore_n (lv' := [(3, .ref q), (0, .ref (ad 0 0)), (1, .int (x)), (2, .ref (ad 19 0))]) K dL_streetVolume_12 rfl (by decide) rfl ?_
      refine r_iconst (v := nI 1) K dL_streetVolume_13 (by decide) ?_
      exact r_iret K (by decide) (by decide) (okL_x (c := 0) hc C) dL_streetVolume_14
    · simp at hE
  · rintro _ ad1 _ ⟨hcd, rfl, hK, σ1, rfl, hA, hC⟩
    show WW g z 4 1 6 ad1 (Wz z ad1 σ1 τ o) 7 [(0, .ref (ad 0 0)), (1, .int (x)), (2, .ref (ad 19 0))] [.int (nI (σ 4 (jN x) 0)), .int (nI 0), .ref (ad 19 0)]
    refine r_i2l (v := ((nI (σ 4 (jN x) 0)).toInt64)) K dL_streetVolume_7 rfl ?_
    refine r_outJ K hK.2.2.1 rfl dL_streetVolume_8 ?_
    show WW g z 4 1 6 ad1 (Wz z ad1 σ1 τ (((nI (σ 4 (jN x) 0))).toInt64, o.2)) 9 [(0, .ref (ad 0 0)), (1, .int (x)), (2, .ref (ad 19 0))] []
    refine r_goto K dL_streetVolume_9 15 (by decide) ?_
    refine r_iconst (v := nI 0) K dL_streetVolume_15 (by decide) ?_
    exact r_iret K (by decide) (by decide) (okL_0 hcd hK hA hC) dL_streetVolume_16
set_option maxRecDepth 100000 in
set_option maxHeartbeats 4000000 in
theorem k_L_depthAt {z : Zx} {l : Launch} {σ τ : Sg} {o : Int64 × UInt64} {ad : Nm} (hl : l.stackTraces = false) {x y : Int32} (Q : IR σ) (C : ICo σ) : KoH z l yL_depthAt cL_depthAt 5 (some .int) [(0, 10, 13, 13)] 10 2 12 [.ref (ad 0 0), .int (x), .int (y), .ref (ad 19 0)] ad (Wz z ad σ τ o) (okL z ad σ τ (cC σ x y) (((nI (dpC σ (jN x) (jN y) (σ 4 (jN x) 0)))).toInt64) (σ)) exNo := by
  refine koH_of hl (by decide +kernel) (Nat.le_of_ble_eq_true rfl) (fun g hg K => ?_)
  subst hg
  show WW g z 5 0 0 ad (Wz z ad σ τ o) 0 [(0, .ref (ad 0 0)), (1, .int (x)), (2, .int (y)), (3, .ref (ad 19 0))] []
  refine r_aload_n K dL_depthAt_0 3 rfl rfl ?_
  refine r_iconst (v := nI 0) K dL_depthAt_1 (by decide) ?_
  refine r_aload_n K dL_depthAt_2 0 rfl rfl ?_
  refine r_iload_n K dL_depthAt_3 1 rfl rfl ?_
  refine r_iload_n K dL_depthAt_4 2 rfl rfl ?_
  refine r_callVh (st := [.int (nI 0), .ref (ad 19 0)]) K (k_X5_depthAt (σ := σ) (τ := τ) (o := o) hl Q C) cw_L_62 wd_770 wd_771 (by decide) (by decide) rfl rfl rfl rfl (Nat.le_of_ble_eq_true rfl) (by decide) (by decide) dL_depthAt_5 ?_ ?_
  · rintro E ⟨c, hc, hE⟩
    rcases c with _ | c
    · cases hE
      refine r_catch K [] ⟨0, 10, 13, 13⟩ [] rfl (fun t ht => absurd ht List.not_mem_nil) rfl (by decide) wd_328 (by decide +kernel) (fun q => ?_)
      show WW g z 5 2 12 ad (Wz z ad σ τ o) 13 [(0, .ref (ad 0 0)), (1, .int (x)), (2, .int (y)), (3, .ref (ad 19 0))] [.ref q]
      refine r_astore (lv' := [(4, .ref q), (0, .ref (ad 0 0)), (1, .int (x)), (2, .int (y)), (3, .ref (ad 19 0))]) K dL_depthAt_13 (by decide) rfl ?_
      refine r_iconst (v := nI 1) K dL_depthAt_15 (by decide) ?_
      exact r_iret K (by decide) (by decide) (okL_x (c := 0) hc C) dL_depthAt_16
    · simp at hE
  · rintro _ ad1 _ ⟨hcd, rfl, hK, σ1, rfl, hA, hC⟩
    show WW g z 5 2 12 ad1 (Wz z ad1 σ1 τ o) 8 [(0, .ref (ad 0 0)), (1, .int (x)), (2, .int (y)), (3, .ref (ad 19 0))] [.int (nI (dpC σ (jN x) (jN y) (σ 4 (jN x) 0))), .int (nI 0), .ref (ad 19 0)]
    refine r_i2l (v := ((nI (dpC σ (jN x) (jN y) (σ 4 (jN x) 0))).toInt64)) K dL_depthAt_8 rfl ?_
    refine r_outJ K hK.2.2.1 rfl dL_depthAt_9 ?_
    show WW g z 5 2 12 ad1 (Wz z ad1 σ1 τ (((nI (dpC σ (jN x) (jN y) (σ 4 (jN x) 0)))).toInt64, o.2)) 10 [(0, .ref (ad 0 0)), (1, .int (x)), (2, .int (y)), (3, .ref (ad 19 0))] []
    refine r_goto K dL_depthAt_10 17 (by decide) ?_
    refine r_iconst (v := nI 0) K dL_depthAt_17 (by decide) ?_
    exact r_iret K (by decide) (by decide) (okL_0 hcd hK hA hC) dL_depthAt_18
set_option maxRecDepth 100000 in
set_option maxHeartbeats 4000000 in
theorem k_L_depthByPouring {z : Zx} {l : Launch} {σ τ : Sg} {o : Int64 × UInt64} {ad : Nm} (hl : l.stackTraces = false) {x y : Int32} (Q : IR σ) (C : ICo σ) : KoH z l yL_depthByPouring cL_depthByPouring 5 (some .int) [(0, 10, 13, 13)] 10 2 12 [.ref (ad 0 0), .int (x), .int (y), .ref (ad 19 0)] ad (Wz z ad σ τ o) (okL z ad σ τ (cC σ x y) (((nI (dpC σ (jN x) (jN y) (σ 4 (jN x) 0)))).toInt64) (σ)) exNo := by
  refine koH_of hl (by decide +kernel) (Nat.le_of_ble_eq_true rfl) (fun g hg K => ?_)
  subst hg
  show WW g z 5 0 0 ad (Wz z ad σ τ o) 0 [(0, .ref (ad 0 0)), (1, .int (x)), (2, .int (y)), (3, .ref (ad 19 0))] []
  refine r_aload_n K dL_depthByPouring_0 3 rfl rfl ?_
  refine r_iconst (v := nI 0) K dL_depthByPouring_1 (by decide) ?_
  refine r_aload_n K dL_depthByPouring_2 0 rfl rfl ?_
  refine r_iload_n K dL_depthByPouring_3 1 rfl rfl ?_
  refine r_iload_n K dL_depthByPouring_4 2 rfl rfl ?_
  refine r_callVh (st := [.int (nI 0), .ref (ad 19 0)]) K (k_X5_depthByPouring (σ := σ) (τ := τ) (o := o) hl Q C) cw_L_65 wd_790 wd_791 (by decide) (by decide) rfl rfl rfl rfl (Nat.le_of_ble_eq_true rfl) (by decide) (by decide) dL_depthByPouring_5 ?_ ?_
  · rintro E ⟨c, hc, hE⟩
    rcases c with _ | c
    · cases hE
      refine r_catch K [] ⟨0, 10, 13, 13⟩ [] rfl (fun t ht => absurd ht List.not_mem_nil) rfl (by decide) wd_328 (by decide +kernel) (fun q => ?_)
      show WW g z 5 2 12 ad (Wz z ad σ τ o) 13 [(0, .ref (ad 0 0)), (1, .int (x)), (2, .int (y)), (3, .ref (ad 19 0))] [.ref q]
      refine r_astore (lv' := [(4, .ref q), (0, .ref (ad 0 0)), (1, .int (x)), (2, .int (y)), (3, .ref (ad 19 0))]) K dL_depthByPouring_13 (by decide) rfl ?_
      refine r_iconst (v := nI 1) K dL_depthByPouring_15 (by decide) ?_
      exact r_iret K (by decide) (by decide) (okL_x (c := 0) hc C) dL_depthByPouring_16
    · simp at hE
  · rintro _ ad1 _ ⟨hcd, rfl, hK, σ1, rfl, hA, hC⟩
    show WW g z 5 2 12 ad1 (Wz z ad1 σ1 τ o) 8 [(0, .ref (ad 0 0)), (1, .int (x)), (2, .int (y)), (3, .ref (ad 19 0))] [.int (nI (dpC σ (jN x) (jN y) (σ 4 (jN x) 0))), .int (nI 0), .ref (ad 19 0)]
    refine r_i2l (v := ((nI (dpC σ (jN x) (jN y) (σ 4 (jN x) 0))).toInt64)) K dL_depthByPouring_8 rfl ?_
    refine r_outJ K hK.2.2.1 rfl dL_depthByPouring_9 ?_
    show WW g z 5 2 12 ad1 (Wz z ad1 σ1 τ (((nI (dpC σ (jN x) (jN y) (σ 4 (jN x) 0)))).toInt64, o.2)) 10 [(0, .ref (ad 0 0)), (1, .int (x)), (2, .int (y)), (3, .ref (ad 19 0))] []
    refine r_goto K dL_depthByPouring_10 17 (by decide) ?_
    refine r_iconst (v := nI 0) K dL_depthByPouring_17 (by decide) ?_
    exact r_iret K (by decide) (by decide) (okL_0 hcd hK hA hC) dL_depthByPouring_18
set_option maxRecDepth 100000 in
set_option maxHeartbeats 4000000 in
theorem k_L_depthThen {z : Zx} {l : Launch} {σ τ : Sg} {o : Int64 × UInt64} {ad : Nm} (hl : l.stackTraces = false) {x y t : Int32} (Q : IR σ) (C : ICo σ) : KoH z l yL_depthThen cL_depthThen 6 (some .int) [(0, 12, 15, 13), (0, 12, 19, 15)] 10 3 18 [.ref (ad 0 0), .int (x), .int (y), .int (t), .ref (ad 19 0)] ad (Wz z ad σ τ o) (okL z ad σ τ (cCh σ x y t) (((nI (dpC σ (jN x) (jN y) (σ 7 (jN x) (jN t))))).toInt64) (σ)) exNo := by
  refine koH_of hl (by decide +kernel) (Nat.le_of_ble_eq_true rfl) (fun g hg K => ?_)
  subst hg
  show WW g z 6 0 0 ad (Wz z ad σ τ o) 0 [(0, .ref (ad 0 0)), (1, .int (x)), (2, .int (y)), (3, .int (t)), (4, .ref (ad 19 0))] []
  refine r_aload K dL_depthThen_0 4 rfl ?_
  refine r_iconst (v := nI 0) K dL_depthThen_2 (by decide) ?_
  refine r_aload_n K dL_depthThen_3 0 rfl rfl ?_
  refine r_iload_n K dL_depthThen_4 1 rfl rfl ?_
  refine r_iload_n K dL_depthThen_5 2 rfl rfl ?_
  refine r_iload_n K dL_depthThen_6 3 rfl rfl ?_
  refine r_callVh (st := [.int (nI 0), .ref (ad 19 0)]) K (k_X5_depthThen (σ := σ) (τ := τ) (o := o) hl Q C) cw_L_68 wd_806 wd_807 (by decide) (by decide) rfl rfl rfl rfl (Nat.le_of_ble_eq_true rfl) (by decide) (by decide) dL_depthThen_7 ?_ ?_
  · rintro E ⟨c, hc, hE⟩
    rcases c with _ | _ | c
    · cases hE
      refine r_catch K [] ⟨0, 12, 15, 13⟩ [⟨0, 12, 19, 15⟩] rfl (fun t ht => absurd ht List.not_mem_nil) rfl (by decide) wd_328 (by decide +kernel) (fun q => ?_)
      show WW g z 6 3 18 ad (Wz z ad σ τ o) 15 [(0, .ref (ad 0 0)), (1, .int (x)), (2, .int (y)), (3, .int (t)), (4, .ref (ad 19 0))] [.ref q]
      refine r_astore (lv' := [(5, .ref q), (0, .ref (ad 0 0)), (1, .int (x)), (2, .int (y)), (3, .int (t)), (4, .ref (ad 19 0))]) K dL_depthThen_15 (by decide) rfl ?_
      refine r_iconst (v := nI 1) K dL_depthThen_17 (by decide) ?_
      exact r_iret K (by decide) (by decide) (okL_x (c := 0) hc C) dL_depthThen_18
    · cases hE
      have hp : ∀ t ∈ ([⟨0, 12, 15, 13⟩] : List ExceptionTableEntry), t.catchType ≠ 0 ∧ ∃ nm, Cond.classLink yL_depthThen.cls t.catchType nm ∈ WALL ∧ ("java/lang/IllegalArgumentException", nm) ∈ ncsZ := by
        intro t ht; simp only [List.mem_cons, List.not_mem_nil, or_false] at ht
        rcases ht with rfl
        · exact ⟨by decide, "java/lang/IndexOutOfBoundsException", wd_328, by decide +kernel⟩
      refine r_catch K [⟨0, 12, 15, 13⟩] ⟨0, 12, 19, 15⟩ [] rfl hp rfl (by decide) wd_408 (by decide +kernel) (fun q => ?_)
      show WW g z 6 3 18 ad (Wz z ad σ τ o) 19 [(0, .ref (ad 0 0)), (1, .int (x)), (2, .int (y)), (3, .int (t)), (4, .ref (ad 19 0))] [.ref q]
      refine r_astore (lv' := [(5, .ref q), (0, .ref (ad 0 0)), (1, .int (x)), (2, .int (y)), (3, .int (t)), (4, .ref (ad 19 0))]) K dL_depthThen_19 (by decide) rfl ?_
      refine r_iconst (v := nI 2) K dL_depthThen_21 (by decide) ?_
      exact r_iret K (by decide) (by decide) (okL_x (c := 1) hc C) dL_depthThen_22
    · simp at hE
  · rintro _ ad1 _ ⟨hcd, rfl, hK, σ1, rfl, hA, hC⟩
    show WW g z 6 3 18 ad1 (Wz z ad1 σ1 τ o) 10 [(0, .ref (ad 0 0)), (1, .int (x)), (2, .int (y)), (3, .int (t)), (4, .ref (ad 19 0))] [.int (nI (dpC σ (jN x) (jN y) (σ 7 (jN x) (jN t)))), .int (nI 0), .ref (ad 19 0)]
    refine r_i2l (v := ((nI (dpC σ (jN x) (jN y) (σ 7 (jN x) (jN t)))).toInt64)) K dL_depthThen_10 rfl ?_
    refine r_outJ K hK.2.2.1 rfl dL_depthThen_11 ?_
    show WW g z 6 3 18 ad1 (Wz z ad1 σ1 τ (((nI (dpC σ (jN x) (jN y) (σ 7 (jN x) (jN t))))).toInt64, o.2)) 12 [(0, .ref (ad 0 0)), (1, .int (x)), (2, .int (y)), (3, .int (t)), (4, .ref (ad 19 0))] []
    refine r_goto K dL_depthThen_12 23 (by decide) ?_
    refine r_iconst (v := nI 0) K dL_depthThen_23 (by decide) ?_
    exact r_iret K (by decide) (by decide) (okL_0 hcd hK hA hC) dL_depthThen_24
set_option maxRecDepth 100000 in
set_option maxHeartbeats 4000000 in
theorem k_L_wetCells {z : Zx} {l : Launch} {σ τ : Sg} {o : Int64 × UInt64} {ad : Nm} (hl : l.stackTraces = false) {x : Int32} (Q : IR σ) (C : ICo σ) : KoH z l yL_wetCells cL_wetCells 4 (some .int) [(0, 9, 12, 13)] 10 1 6 [.ref (ad 0 0), .int (x), .ref (ad 19 0)] ad (Wz z ad σ τ o) (okL z ad σ τ (cB σ x) (((nI (wn (σ 2 (jN x)) (σ 1 (jN x) 6) (σ 4 (jN x) 0) (σ 1 (jN x) 6)))).toInt64) (σ)) exNo := by
  refine koH_of hl (by decide +kernel) (Nat.le_of_ble_eq_true rfl) (fun g hg K => ?_)
  subst hg
  show WW g z 4 0 0 ad (Wz z ad σ τ o) 0 [(0, .ref (ad 0 0)), (1, .int (x)), (2, .ref (ad 19 0))] []
  refine r_aload_n K dL_wetCells_0 2 rfl rfl ?_
  refine r_iconst (v := nI 0) K dL_wetCells_1 (by decide) ?_
  refine r_aload_n K dL_wetCells_2 0 rfl rfl ?_
  refine r_iload_n K dL_wetCells_3 1 rfl rfl ?_
  refine r_callVh (st := [.int (nI 0), .ref (ad 19 0)]) K (k_X5_wetCells (σ := σ) (τ := τ) (o := o) hl Q C) cw_L_72 wd_818 wd_819 (by decide) (by decide) rfl rfl rfl rfl (Nat.le_of_ble_eq_true rfl) (by decide) (by decide) dL_wetCells_4 ?_ ?_
  · rintro E ⟨c, hc, hE⟩
    rcases c with _ | c
    · cases hE
      refine r_catch K [] ⟨0, 9, 12, 13⟩ [] rfl (fun t ht => absurd ht List.not_mem_nil) rfl (by decide) wd_328 (by decide +kernel) (fun q => ?_)
      show WW g z 4 1 6 ad (Wz z ad σ τ o) 12 [(0, .ref (ad 0 0)), (1, .int (x)), (2, .ref (ad 19 0))] [.ref q]
      refine r_astore_n (lv' := [(3, .ref q), (0, .ref (ad 0 0)), (1, .int (x)), (2, .ref (ad 19 0))]) K dL_wetCells_12 rfl (by decide) rfl ?_
      refine r_iconst (v := nI 1) K dL_wetCells_13 (by decide) ?_
      exact r_iret K (by decide) (by decide) (okL_x (c := 0) hc C) dL_wetCells_14
    · simp at hE
  · rintro _ ad1 _ ⟨hcd, rfl, hK, σ1, rfl, hA, hC⟩
    show WW g z 4 1 6 ad1 (Wz z ad1 σ1 τ o) 7 [(0, .ref (ad 0 0)), (1, .int (x)), (2, .ref (ad 19 0))] [.int (nI (wn (σ 2 (jN x)) (σ 1 (jN x) 6) (σ 4 (jN x) 0) (σ 1 (jN x) 6))), .int (nI 0), .ref (ad 19 0)]
    refine r_i2l (v := ((nI (wn (σ 2 (jN x)) (σ 1 (jN x) 6) (σ 4 (jN x) 0) (σ 1 (jN x) 6))).toInt64)) K dL_wetCells_7 rfl ?_
    refine r_outJ K hK.2.2.1 rfl dL_wetCells_8 ?_
    show WW g z 4 1 6 ad1 (Wz z ad1 σ1 τ (((nI (wn (σ 2 (jN x)) (σ 1 (jN x) 6) (σ 4 (jN x) 0) (σ 1 (jN x) 6)))).toInt64, o.2)) 9 [(0, .ref (ad 0 0)), (1, .int (x)), (2, .ref (ad 19 0))] []
    refine r_goto K dL_wetCells_9 15 (by decide) ?_
    refine r_iconst (v := nI 0) K dL_wetCells_15 (by decide) ?_
    exact r_iret K (by decide) (by decide) (okL_0 hcd hK hA hC) dL_wetCells_16
set_option maxRecDepth 100000 in
set_option maxHeartbeats 4000000 in
theorem k_L_wetHours {z : Zx} {l : Launch} {σ τ : Sg} {o : Int64 × UInt64} {ad : Nm} (hl : l.stackTraces = false) {x y : Int32} (Q : IR σ) (C : ICo σ) : KoH z l yL_wetHours cL_wetHours 5 (some .int) [(0, 10, 13, 13)] 10 2 12 [.ref (ad 0 0), .int (x), .int (y), .ref (ad 19 0)] ad (Wz z ad σ τ o) (okL z ad σ τ (cC σ x y) (((nI (whr σ (jN x) (jN y) (σ 12 0 0)))).toInt64) (σ)) exNo := by
  refine koH_of hl (by decide +kernel) (Nat.le_of_ble_eq_true rfl) (fun g hg K => ?_)
  subst hg
  show WW g z 5 0 0 ad (Wz z ad σ τ o) 0 [(0, .ref (ad 0 0)), (1, .int (x)), (2, .int (y)), (3, .ref (ad 19 0))] []
  refine r_aload_n K dL_wetHours_0 3 rfl rfl ?_
  refine r_iconst (v := nI 0) K dL_wetHours_1 (by decide) ?_
  refine r_aload_n K dL_wetHours_2 0 rfl rfl ?_
  refine r_iload_n K dL_wetHours_3 1 rfl rfl ?_
  refine r_iload_n K dL_wetHours_4 2 rfl rfl ?_
  refine r_callVh (st := [.int (nI 0), .ref (ad 19 0)]) K (k_X5_wetHours (σ := σ) (τ := τ) (o := o) hl Q C) cw_L_75 wd_825 wd_826 (by decide) (by decide) rfl rfl rfl rfl (Nat.le_of_ble_eq_true rfl) (by decide) (by decide) dL_wetHours_5 ?_ ?_
  · rintro E ⟨c, hc, hE⟩
    rcases c with _ | c
    · cases hE
      refine r_catch K [] ⟨0, 10, 13, 13⟩ [] rfl (fun t ht => absurd ht List.not_mem_nil) rfl (by decide) wd_328 (by decide +kernel) (fun q => ?_)
      show WW g z 5 2 12 ad (Wz z ad σ τ o) 13 [(0, .ref (ad 0 0)), (1, .int (x)), (2, .int (y)), (3, .ref (ad 19 0))] [.ref q]
      refine r_astore (lv' := [(4, .ref q), (0, .ref (ad 0 0)), (1, .int (x)), (2, .int (y)), (3, .ref (ad 19 0))]) K dL_wetHours_13 (by decide) rfl ?_
      refine r_iconst (v := nI 1) K dL_wetHours_15 (by decide) ?_
      exact r_iret K (by decide) (by decide) (okL_x (c := 0) hc C) dL_wetHours_16
    · simp at hE
  · rintro _ ad1 _ ⟨hcd, rfl, hK, σ1, rfl, hA, hC⟩
    show WW g z 5 2 12 ad1 (Wz z ad1 σ1 τ o) 8 [(0, .ref (ad 0 0)), (1, .int (x)), (2, .int (y)), (3, .ref (ad 19 0))] [.int (nI (whr σ (jN x) (jN y) (σ 12 0 0))), .int (nI 0), .ref (ad 19 0)]
    refine r_i2l (v := ((nI (whr σ (jN x) (jN y) (σ 12 0 0))).toInt64)) K dL_wetHours_8 rfl ?_
    refine r_outJ K hK.2.2.1 rfl dL_wetHours_9 ?_
    show WW g z 5 2 12 ad1 (Wz z ad1 σ1 τ (((nI (whr σ (jN x) (jN y) (σ 12 0 0)))).toInt64, o.2)) 10 [(0, .ref (ad 0 0)), (1, .int (x)), (2, .int (y)), (3, .ref (ad 19 0))] []
    refine r_goto K dL_wetHours_10 17 (by decide) ?_
    refine r_iconst (v := nI 0) K dL_wetHours_17 (by decide) ?_
    exact r_iret K (by decide) (by decide) (okL_0 hcd hK hA hC) dL_wetHours_18
set_option maxRecDepth 100000 in
set_option maxHeartbeats 4000000 in
theorem k_L_addHouse {z : Zx} {l : Launch} {σ τ : Sg} {o : Int64 × UInt64} {ad : Nm} (hl : l.stackTraces = false) {x y r c0 : Int32} (Q : IR σ) (C : ICo σ) : KoH z l yL_addHouse cL_addHouse 7 (some .int) [(0, 14, 17, 13), (0, 14, 21, 15), (0, 14, 25, 17)] 10 5 110 [.ref (ad 0 0), .int (x), .int (y), .int (r), .int (c0), .ref (ad 19 0)] ad (Wz z ad σ τ o) (okL z ad σ τ (cAH σ x y r c0) (((nI (σ 0 2 0))).toInt64) (fHouse σ x y r c0)) exNo := by
  refine koH_of hl (by decide +kernel) (Nat.le_of_ble_eq_true rfl) (fun g hg K => ?_)
  subst hg
  show WW g z 7 0 0 ad (Wz z ad σ τ o) 0 [(0, .ref (ad 0 0)), (1, .int (x)), (2, .int (y)), (3, .int (r)), (4, .int (c0)), (5, .ref (ad 19 0))] []
  refine r_aload K dL_addHouse_0 5 rfl ?_
  refine r_iconst (v := nI 0) K dL_addHouse_2 (by decide) ?_
  refine r_aload_n K dL_addHouse_3 0 rfl rfl ?_
  refine r_iload_n K dL_addHouse_4 1 rfl rfl ?_
  refine r_iload_n K dL_addHouse_5 2 rfl rfl ?_
  refine r_iload_n K dL_addHouse_6 3 rfl rfl ?_
  refine r_iload K dL_addHouse_7 4 rfl ?_
  refine r_callVh (st := [.int (nI 0), .ref (ad 19 0)]) K (k_X5_addHouse (σ := σ) (τ := τ) (o := o) hl Q C) cw_L_78 wd_833 wd_834 (by decide) (by decide) rfl rfl rfl rfl (Nat.le_of_ble_eq_true rfl) (by decide) (by decide) dL_addHouse_9 ?_ ?_
  · rintro E ⟨c, hc, hE⟩
    rcases c with _ | _ | _ | c
    · cases hE
      refine r_catch K [] ⟨0, 14, 17, 13⟩ [⟨0, 14, 21, 15⟩, ⟨0, 14, 25, 17⟩] rfl (fun t ht => absurd ht List.not_mem_nil) rfl (by decide) wd_328 (by decide +kernel) (fun q => ?_)
      show WW g z 7 5 110 ad (Wz z ad σ τ o) 17 [(0, .ref (ad 0 0)), (1, .int (x)), (2, .int (y)), (3, .int (r)), (4, .int (c0)), (5, .ref (ad 19 0))] [.ref q]
      refine r_astore (lv' := [(6, .ref q), (0, .ref (ad 0 0)), (1, .int (x)), (2, .int (y)), (3, .int (r)), (4, .int (c0)), (5, .ref (ad 19 0))]) K dL_addHouse_17 (by decide) rfl ?_
      refine r_iconst (v := nI 1) K dL_addHouse_19 (by decide) ?_
      exact r_iret K (by decide) (by decide) (okL_x (c := 0) hc C) dL_addHouse_20
    · cases hE
      have hp : ∀ t ∈ ([⟨0, 14, 17, 13⟩] : List ExceptionTableEntry), t.catchType ≠ 0 ∧ ∃ nm, Cond.classLink yL_addHouse.cls t.catchType nm ∈ WALL ∧ ("java/lang/IllegalArgumentException", nm) ∈ ncsZ := by
        intro t ht; simp only [List.mem_cons, List.not_mem_nil, or_false] at ht
        rcases ht with rfl
        · exact ⟨by decide, "java/lang/IndexOutOfBoundsException", wd_328, by decide +kernel⟩
      refine r_catch K [⟨0, 14, 17, 13⟩] ⟨0, 14, 21, 15⟩ [⟨0, 14, 25, 17⟩] rfl hp rfl (by decide) wd_408 (by decide +kernel) (fun q => ?_)
      show WW g z 7 5 110 ad (Wz z ad σ τ o) 21 [(0, .ref (ad 0 0)), (1, .int (x)), (2, .int (y)), (3, .int (r)), (4, .int (c0)), (5, .ref (ad 19 0))] [.ref q]
      refine r_astore (lv' := [(6, .ref q), (0, .ref (ad 0 0)), (1, .int (x)), (2, .int (y)), (3, .int (r)), (4, .int (c0)), (5, .ref (ad 19 0))]) K dL_addHouse_21 (by decide) rfl ?_
      refine r_iconst (v := nI 2) K dL_addHouse_23 (by decide) ?_
      exact r_iret K (by decide) (by decide) (okL_x (c := 1) hc C) dL_addHouse_24
    · cases hE
      have hp : ∀ t ∈ ([⟨0, 14, 17, 13⟩, ⟨0, 14, 21, 15⟩] : List ExceptionTableEntry), t.catchType ≠ 0 ∧ ∃ nm, Cond.classLink yL_addHouse.cls t.catchType nm ∈ WALL ∧ ("java/lang/IllegalStateException", nm) ∈ ncsZ := by
        intro t ht; simp only [List.mem_cons, List.not_mem_nil, or_false] at ht
        rcases ht with rfl | rfl
        · exact ⟨by decide, "java/lang/IndexOutOfBoundsException", wd_328, by decide +kernel⟩
        · exact ⟨by decide, "java/lang/IllegalArgumentException", wd_408, by decide +kernel⟩
      refine r_catch K [⟨0, 14, 17, 13⟩, ⟨0, 14, 21, 15⟩] ⟨0, 14, 25, 17⟩ [] rfl hp rfl (by decide) wd_409 (by decide +kernel) (fun q => ?_)
      show WW g z 7 5 110 ad (Wz z ad σ τ o) 25 [(0, .ref (ad 0 0)), (1, .int (x)), (2, .int (y)), (3, .int (r)), (4, .int (c0)), (5, .ref (ad 19 0))] [.ref q]
      refine r_astore (lv' := [(6, .ref q), (0, .ref (ad 0 0)), (1, .int (x)), (2, .int (y)), (3, .int (r)), (4, .int (c0)), (5, .ref (ad 19 0))]) K dL_addHouse_25 (by decide) rfl ?_
      refine r_iconst (v := nI 3) K dL_addHouse_27 (by decide) ?_
      exact r_iret K (by decide) (by decide) (okL_x (c := 2) hc C) dL_addHouse_28
    · simp at hE
  · rintro _ ad1 _ ⟨hcd, rfl, hK, σ1, rfl, hA, hC⟩
    show WW g z 7 5 110 ad1 (Wz z ad1 σ1 τ o) 12 [(0, .ref (ad 0 0)), (1, .int (x)), (2, .int (y)), (3, .int (r)), (4, .int (c0)), (5, .ref (ad 19 0))] [.int (nI (σ 0 2 0)), .int (nI 0), .ref (ad 19 0)]
    refine r_i2l (v := ((nI (σ 0 2 0)).toInt64)) K dL_addHouse_12 rfl ?_
    refine r_outJ K hK.2.2.1 rfl dL_addHouse_13 ?_
    show WW g z 7 5 110 ad1 (Wz z ad1 σ1 τ (((nI (σ 0 2 0))).toInt64, o.2)) 14 [(0, .ref (ad 0 0)), (1, .int (x)), (2, .int (y)), (3, .int (r)), (4, .int (c0)), (5, .ref (ad 19 0))] []
    refine r_goto K dL_addHouse_14 29 (by decide) ?_
    refine r_iconst (v := nI 0) K dL_addHouse_29 (by decide) ?_
    exact r_iret K (by decide) (by decide) (okL_0 hcd hK hA hC) dL_addHouse_30
set_option maxRecDepth 100000 in
set_option maxHeartbeats 4000000 in
theorem k_L_wasWet {z : Zx} {l : Launch} {σ τ : Sg} {o : Int64 × UInt64} {ad : Nm} (hl : l.stackTraces = false) {x t : Int32} (Q : IR σ) (C : ICo σ) : KoH z l yL_wasWet cL_wasWet 5 (some .int) [(0, 17, 20, 13), (0, 17, 24, 15)] 10 2 12 [.ref (ad 0 0), .int (x), .int (t), .ref (ad 19 0)] ad (Wz z ad σ τ o) (okL z ad σ τ (cKh σ x t) (((pI (0 < dpC σ (σ 9 (jN x) 0) (σ 9 (jN x) 1) (σ 7 (σ 9 (jN x) 0) (jN t))))).toInt64) (σ)) exNo := by
  refine koH_of hl (by decide +kernel) (Nat.le_of_ble_eq_true rfl) (fun g hg K => ?_)
  subst hg
  show WW g z 5 0 0 ad (Wz z ad σ τ o) 0 [(0, .ref (ad 0 0)), (1, .int (x)), (2, .int (t)), (3, .ref (ad 19 0))] []
  refine r_aload_n K dL_wasWet_0 3 rfl rfl ?_
  refine r_iconst (v := nI 0) K dL_wasWet_1 (by decide) ?_
  refine r_aload_n K dL_wasWet_2 0 rfl rfl ?_
  refine r_iload_n K dL_wasWet_3 1 rfl rfl ?_
  refine r_iload_n K dL_wasWet_4 2 rfl rfl ?_
  refine r_callVh (st := [.int (nI 0), .ref (ad 19 0)]) K (k_X5_wasWet (σ := σ) (τ := τ) (o := o) hl Q C) cw_L_82 wd_873 wd_874 (by decide) (by decide) rfl rfl rfl rfl (Nat.le_of_ble_eq_true rfl) (by decide) (by decide) dL_wasWet_5 ?_ ?_
  · rintro E ⟨c, hc, hE⟩
    rcases c with _ | _ | c
    · cases hE
      refine r_catch K [] ⟨0, 17, 20, 13⟩ [⟨0, 17, 24, 15⟩] rfl (fun t ht => absurd ht List.not_mem_nil) rfl (by decide) wd_328 (by decide +kernel) (fun q => ?_)
      show WW g z 5 2 12 ad (Wz z ad σ τ o) 20 [(0, .ref (ad 0 0)), (1, .int (x)), (2, .int (t)), (3, .ref (ad 19 0))] [.ref q]
      refine r_astore (lv' := [(4, .ref q), (0, .ref (ad 0 0)), (1, .int (x)), (2, .int (t)), (3, .ref (ad 19 0))]) K dL_wasWet_20 (by decide) rfl ?_
      refine r_iconst (v := nI 1) K dL_wasWet_22 (by decide) ?_
      exact r_iret K (by decide) (by decide) (okL_x (c := 0) hc C) dL_wasWet_23
    · cases hE
      have hp : ∀ t ∈ ([⟨0, 17, 20, 13⟩] : List ExceptionTableEntry), t.catchType ≠ 0 ∧ ∃ nm, Cond.classLink yL_wasWet.cls t.catchType nm ∈ WALL ∧ ("java/lang/IllegalArgumentException", nm) ∈ ncsZ := by
        intro t ht; simp only [List.mem_cons, List.not_mem_nil, or_false] at ht
        rcases ht with rfl
        · exact ⟨by decide, "java/lang/IndexOutOfBoundsException", wd_328, by decide +kernel⟩
      refine r_catch K [⟨0, 17, 20, 13⟩] ⟨0, 17, 24, 15⟩ [] rfl hp rfl (by decide) wd_408 (by decide +kernel) (fun q => ?_)
      show WW g z 5 2 12 ad (Wz z ad σ τ o) 24 [(0, .ref (ad 0 0)), (1, .int (x)), (2, .int (t)), (3, .ref (ad 19 0))] [.ref q]
      refine r_astore (lv' := [(4, .ref q), (0, .ref (ad 0 0)), (1, .int (x)), (2, .int (t)), (3, .ref (ad 19 0))]) K dL_wasWet_24 (by decide) rfl ?_
      refine r_iconst (v := nI 2) K dL_wasWet_26 (by decide) ?_
      exact r_iret K (by decide) (by decide) (okL_x (c := 1) hc C) dL_wasWet_27
    · simp at hE
  · rintro _ ad1 _ ⟨hcd, rfl, hK, σ1, rfl, hA, hC⟩
    show WW g z 5 2 12 ad1 (Wz z ad1 σ1 τ o) 8 [(0, .ref (ad 0 0)), (1, .int (x)), (2, .int (t)), (3, .ref (ad 19 0))] [.int (pI (0 < dpC σ (σ 9 (jN x) 0) (σ 9 (jN x) 1) (σ 7 (σ 9 (jN x) 0) (jN t)))), .int (nI 0), .ref (ad 19 0)]
    refine r_if_eq K dL_wasWet_8 15 (pI (0 < dpC σ (σ 9 (jN x) 0) (σ 9 (jN x) 1) (σ 7 (σ 9 (jN x) 0) (jN t))) = 0) Iff.rfl (by decide) (fun c_8 => ?_) (fun c_8 => ?_)
    · skip
      refine r_lconst (v := nJ (0)) K dL_wasWet_15 rfl ?_
      refine r_eq (st' := [.long (((pI (0 < dpC σ (σ 9 (jN x) 0) (σ 9 (jN x) 1) (σ 7 (σ 9 (jN x) 0) (jN t))))).toInt64), .int (nI 0), .ref (ad 19 0)]) rfl rfl rfl (by rw [show (pI (0 < dpC σ (σ 9 (jN x) 0) (σ 9 (jN x) 1) (σ 7 (σ 9 (jN x) 0) (jN t)))) = 0 from c_8]; rfl) ?_
      refine r_outJ K hK.2.2.1 rfl dL_wasWet_16 ?_
      show WW g z 5 2 12 ad1 (Wz z ad1 σ1 τ (((pI (0 < dpC σ (σ 9 (jN x) 0) (σ 9 (jN x) 1) (σ 7 (σ 9 (jN x) 0) (jN t))))).toInt64, o.2)) 17 [(0, .ref (ad 0 0)), (1, .int (x)), (2, .int (t)), (3, .ref (ad 19 0))] []
      refine r_goto K dL_wasWet_17 28 (by decide) ?_
      refine r_iconst (v := nI 0) K dL_wasWet_28 (by decide) ?_
      exact r_iret K (by decide) (by decide) (okL_0 hcd hK hA hC) dL_wasWet_29
    · skip
      refine r_lconst (v := nJ (1)) K dL_wasWet_11 rfl ?_
      refine r_goto K dL_wasWet_12 16 (by decide) ?_
      refine r_eq (st' := [.long (((pI (0 < dpC σ (σ 9 (jN x) 0) (σ 9 (jN x) 1) (σ 7 (σ 9 (jN x) 0) (jN t))))).toInt64), .int (nI 0), .ref (ad 19 0)]) rfl rfl rfl (by rw [show (pI (0 < dpC σ (σ 9 (jN x) 0) (σ 9 (jN x) 1) (σ 7 (σ 9 (jN x) 0) (jN t)))) = 1 from (pI_ne c_8)]; rfl) ?_
      refine r_outJ K hK.2.2.1 rfl dL_wasWet_16 ?_
      show WW g z 5 2 12 ad1 (Wz z ad1 σ1 τ (((pI (0 < dpC σ (σ 9 (jN x) 0) (σ 9 (jN x) 1) (σ 7 (σ 9 (jN x) 0) (jN t))))).toInt64, o.2)) 17 [(0, .ref (ad 0 0)), (1, .int (x)), (2, .int (t)), (3, .ref (ad 19 0))] []
      refine r_goto K dL_wasWet_17 28 (by decide) ?_
      refine r_iconst (v := nI 0) K dL_wasWet_28 (by decide) ?_
      exact r_iret K (by decide) (by decide) (okL_0 hcd hK hA hC) dL_wasWet_29
set_option maxRecDepth 100000 in
set_option maxHeartbeats 4000000 in
theorem k_L_worthOf {z : Zx} {l : Launch} {σ τ : Sg} {o : Int64 × UInt64} {ad : Nm} (hl : l.stackTraces = false) {x t : Int32} (Q : IR σ) (C : ICo σ) : KoH z l yL_worthOf cL_worthOf 5 (some .int) [(0, 10, 13, 13), (0, 10, 17, 15)] 10 2 12 [.ref (ad 0 0), .int (x), .int (t), .ref (ad 19 0)] ad (Wz z ad σ τ o) (okL z ad σ τ (cKh σ x t) (((nI (wor σ (jN x) (jN t)))).toInt64) (σ)) exNo := by
  refine koH_of hl (by decide +kernel) (Nat.le_of_ble_eq_true rfl) (fun g hg K => ?_)
  subst hg
  show WW g z 5 0 0 ad (Wz z ad σ τ o) 0 [(0, .ref (ad 0 0)), (1, .int (x)), (2, .int (t)), (3, .ref (ad 19 0))] []
  refine r_aload_n K dL_worthOf_0 3 rfl rfl ?_
  refine r_iconst (v := nI 0) K dL_worthOf_1 (by decide) ?_
  refine r_aload_n K dL_worthOf_2 0 rfl rfl ?_
  refine r_iload_n K dL_worthOf_3 1 rfl rfl ?_
  refine r_iload_n K dL_worthOf_4 2 rfl rfl ?_
  refine r_callVh (st := [.int (nI 0), .ref (ad 19 0)]) K (k_X5_worthOf (σ := σ) (τ := τ) (o := o) hl Q C) cw_L_86 wd_890 wd_891 (by decide) (by decide) rfl rfl rfl rfl (Nat.le_of_ble_eq_true rfl) (by decide) (by decide) dL_worthOf_5 ?_ ?_
  · rintro E ⟨c, hc, hE⟩
    rcases c with _ | _ | c
    · cases hE
      refine r_catch K [] ⟨0, 10, 13, 13⟩ [⟨0, 10, 17, 15⟩] rfl (fun t ht => absurd ht List.not_mem_nil) rfl (by decide) wd_328 (by decide +kernel) (fun q => ?_)
      show WW g z 5 2 12 ad (Wz z ad σ τ o) 13 [(0, .ref (ad 0 0)), (1, .int (x)), (2, .int (t)), (3, .ref (ad 19 0))] [.ref q]
      refine r_astore (lv' := [(4, .ref q), (0, .ref (ad 0 0)), (1, .int (x)), (2, .int (t)), (3, .ref (ad 19 0))]) K dL_worthOf_13 (by decide) rfl ?_
      refine r_iconst (v := nI 1) K dL_worthOf_15 (by decide) ?_
      exact r_iret K (by decide) (by decide) (okL_x (c := 0) hc C) dL_worthOf_16
    · cases hE
      have hp : ∀ t ∈ ([⟨0, 10, 13, 13⟩] : List ExceptionTableEntry), t.catchType ≠ 0 ∧ ∃ nm, Cond.classLink yL_worthOf.cls t.catchType nm ∈ WALL ∧ ("java/lang/IllegalArgumentException", nm) ∈ ncsZ := by
        intro t ht; simp only [List.mem_cons, List.not_mem_nil, or_false] at ht
        rcases ht with rfl
        · exact ⟨by decide, "java/lang/IndexOutOfBoundsException", wd_328, by decide +kernel⟩
      refine r_catch K [⟨0, 10, 13, 13⟩] ⟨0, 10, 17, 15⟩ [] rfl hp rfl (by decide) wd_408 (by decide +kernel) (fun q => ?_)
      show WW g z 5 2 12 ad (Wz z ad σ τ o) 17 [(0, .ref (ad 0 0)), (1, .int (x)), (2, .int (t)), (3, .ref (ad 19 0))] [.ref q]
      refine r_astore (lv' := [(4, .ref q), (0, .ref (ad 0 0)), (1, .int (x)), (2, .int (t)), (3, .ref (ad 19 0))]) K dL_worthOf_17 (by decide) rfl ?_
      refine r_iconst (v := nI 2) K dL_worthOf_19 (by decide) ?_
      exact r_iret K (by decide) (by decide) (okL_x (c := 1) hc C) dL_worthOf_20
    · simp at hE
  · rintro _ ad1 _ ⟨hcd, rfl, hK, σ1, rfl, hA, hC⟩
    show WW g z 5 2 12 ad1 (Wz z ad1 σ1 τ o) 8 [(0, .ref (ad 0 0)), (1, .int (x)), (2, .int (t)), (3, .ref (ad 19 0))] [.int (nI (wor σ (jN x) (jN t))), .int (nI 0), .ref (ad 19 0)]
    refine r_i2l (v := ((nI (wor σ (jN x) (jN t))).toInt64)) K dL_worthOf_8 rfl ?_
    refine r_outJ K hK.2.2.1 rfl dL_worthOf_9 ?_
    show WW g z 5 2 12 ad1 (Wz z ad1 σ1 τ (((nI (wor σ (jN x) (jN t)))).toInt64, o.2)) 10 [(0, .ref (ad 0 0)), (1, .int (x)), (2, .int (t)), (3, .ref (ad 19 0))] []
    refine r_goto K dL_worthOf_10 21 (by decide) ?_
    refine r_iconst (v := nI 0) K dL_worthOf_21 (by decide) ?_
    exact r_iret K (by decide) (by decide) (okL_0 hcd hK hA hC) dL_worthOf_22
set_option maxRecDepth 100000 in
set_option maxHeartbeats 4000000 in
theorem k_L_claim {z : Zx} {l : Launch} {σ τ : Sg} {o : Int64 × UInt64} {ad : Nm} (hl : l.stackTraces = false) {x t : Int32} (Q : IR σ) (C : ICo σ) : KoH z l yL_claim cL_claim 5 (some .int) [(0, 10, 13, 13), (0, 10, 17, 15), (0, 10, 21, 92), (0, 10, 25, 17)] 10 3 18 [.ref (ad 0 0), .int (x), .int (t), .ref (ad 19 0)] ad (Wz z ad σ τ o) (okL z ad σ τ (cCl σ x t) (((nI (pmt σ (jN x) (jN t)))).toInt64) (fPay σ (jN x) (jN t))) exNo := by
  refine koH_of hl (by decide +kernel) (Nat.le_of_ble_eq_true rfl) (fun g hg K => ?_)
  subst hg
  show WW g z 5 0 0 ad (Wz z ad σ τ o) 0 [(0, .ref (ad 0 0)), (1, .int (x)), (2, .int (t)), (3, .ref (ad 19 0))] []
  refine r_aload_n K dL_claim_0 3 rfl rfl ?_
  refine r_iconst (v := nI 0) K dL_claim_1 (by decide) ?_
  refine r_aload_n K dL_claim_2 0 rfl rfl ?_
  refine r_iload_n K dL_claim_3 1 rfl rfl ?_
  refine r_iload_n K dL_claim_4 2 rfl rfl ?_
  refine r_callVh (st := [.int (nI 0), .ref (ad 19 0)]) K (k_X5_claim (σ := σ) (τ := τ) (o := o) hl Q C) cw_L_89 wd_903 wd_904 (by decide) (by decide) rfl rfl rfl rfl (Nat.le_of_ble_eq_true rfl) (by decide) (by decide) dL_claim_5 ?_ ?_
  · rintro E ⟨c, hc, hE⟩
    rcases c with _ | _ | _ | _ | c
    · cases hE
      refine r_catch K [] ⟨0, 10, 13, 13⟩ [⟨0, 10, 17, 15⟩, ⟨0, 10, 21, 92⟩, ⟨0, 10, 25, 17⟩] rfl (fun t ht => absurd ht List.not_mem_nil) rfl (by decide) wd_328 (by decide +kernel) (fun q => ?_)
      show WW g z 5 3 18 ad (Wz z ad σ τ o) 13 [(0, .ref (ad 0 0)), (1, .int (x)), (2, .int (t)), (3, .ref (ad 19 0))] [.ref q]
      refine r_astore (lv' := [(4, .ref q), (0, .ref (ad 0 0)), (1, .int (x)), (2, .int (t)), (3, .ref (ad 19 0))]) K dL_claim_13 (by decide) rfl ?_
      refine r_iconst (v := nI 1) K dL_claim_15 (by decide) ?_
      exact r_iret K (by decide) (by decide) (okL_x (c := 0) hc C) dL_claim_16
    · cases hE
      have hp : ∀ t ∈ ([⟨0, 10, 13, 13⟩] : List ExceptionTableEntry), t.catchType ≠ 0 ∧ ∃ nm, Cond.classLink yL_claim.cls t.catchType nm ∈ WALL ∧ ("java/lang/IllegalArgumentException", nm) ∈ ncsZ := by
        intro t ht; simp only [List.mem_cons, List.not_mem_nil, or_false] at ht
        rcases ht with rfl
        · exact ⟨by decide, "java/lang/IndexOutOfBoundsException", wd_328, by decide +kernel⟩
      refine r_catch K [⟨0, 10, 13, 13⟩] ⟨0, 10, 17, 15⟩ [⟨0, 10, 21, 92⟩, ⟨0, 10, 25, 17⟩] rfl hp rfl (by decide) wd_408 (by decide +kernel) (fun q => ?_)
      show WW g z 5 3 18 ad (Wz z ad σ τ o) 17 [(0, .ref (ad 0 0)), (1, .int (x)), (2, .int (t)), (3, .ref (ad 19 0))] [.ref q]
      refine r_astore (lv' := [(4, .ref q), (0, .ref (ad 0 0)), (1, .int (x)), (2, .int (t)), (3, .ref (ad 19 0))]) K dL_claim_17 (by decide) rfl ?_
      refine r_iconst (v := nI 2) K dL_claim_19 (by decide) ?_
      exact r_iret K (by decide) (by decide) (okL_x (c := 1) hc C) dL_claim_20
    · cases hE
      have hp : ∀ t ∈ ([⟨0, 10, 13, 13⟩, ⟨0, 10, 17, 15⟩] : List ExceptionTableEntry), t.catchType ≠ 0 ∧ ∃ nm, Cond.classLink yL_claim.cls t.catchType nm ∈ WALL ∧ ("java/lang/UnsupportedOperationException", nm) ∈ ncsZ := by
        intro t ht; simp only [List.mem_cons, List.not_mem_nil, or_false] at ht
        rcases ht with rfl | rfl
        · exact ⟨by decide, "java/lang/IndexOutOfBoundsException", wd_328, by decide +kernel⟩
        · exact ⟨by decide, "java/lang/IllegalArgumentException", wd_408, by decide +kernel⟩
      refine r_catch K [⟨0, 10, 13, 13⟩, ⟨0, 10, 17, 15⟩] ⟨0, 10, 21, 92⟩ [⟨0, 10, 25, 17⟩] rfl hp rfl (by decide) wd_901 (by decide +kernel) (fun q => ?_)
      show WW g z 5 3 18 ad (Wz z ad σ τ o) 21 [(0, .ref (ad 0 0)), (1, .int (x)), (2, .int (t)), (3, .ref (ad 19 0))] [.ref q]
      refine r_astore (lv' := [(4, .ref q), (0, .ref (ad 0 0)), (1, .int (x)), (2, .int (t)), (3, .ref (ad 19 0))]) K dL_claim_21 (by decide) rfl ?_
      refine r_iconst (v := nI 3) K dL_claim_23 (by decide) ?_
      exact r_iret K (by decide) (by decide) (okL_x (c := 2) hc C) dL_claim_24
    · cases hE
      have hp : ∀ t ∈ ([⟨0, 10, 13, 13⟩, ⟨0, 10, 17, 15⟩, ⟨0, 10, 21, 92⟩] : List ExceptionTableEntry), t.catchType ≠ 0 ∧ ∃ nm, Cond.classLink yL_claim.cls t.catchType nm ∈ WALL ∧ ("java/lang/IllegalStateException", nm) ∈ ncsZ := by
        intro t ht; simp only [List.mem_cons, List.not_mem_nil, or_false] at ht
        rcases ht with rfl | rfl | rfl
        · exact ⟨by decide, "java/lang/IndexOutOfBoundsException", wd_328, by decide +kernel⟩
        · exact ⟨by decide, "java/lang/IllegalArgumentException", wd_408, by decide +kernel⟩
        · exact ⟨by decide, "java/lang/UnsupportedOperationException", wd_901, by decide +kernel⟩
      refine r_catch K [⟨0, 10, 13, 13⟩, ⟨0, 10, 17, 15⟩, ⟨0, 10, 21, 92⟩] ⟨0, 10, 25, 17⟩ [] rfl hp rfl (by decide) wd_409 (by decide +kernel) (fun q => ?_)
      show WW g z 5 3 18 ad (Wz z ad σ τ o) 25 [(0, .ref (ad 0 0)), (1, .int (x)), (2, .int (t)), (3, .ref (ad 19 0))] [.ref q]
      refine r_astore (lv' := [(4, .ref q), (0, .ref (ad 0 0)), (1, .int (x)), (2, .int (t)), (3, .ref (ad 19 0))]) K dL_claim_25 (by decide) rfl ?_
      refine r_iconst (v := nI 4) K dL_claim_27 (by decide) ?_
      exact r_iret K (by decide) (by decide) (okL_x (c := 3) hc C) dL_claim_28
    · simp at hE
  · rintro _ ad1 _ ⟨hcd, rfl, hK, σ1, rfl, hA, hC⟩
    show WW g z 5 3 18 ad1 (Wz z ad1 σ1 τ o) 8 [(0, .ref (ad 0 0)), (1, .int (x)), (2, .int (t)), (3, .ref (ad 19 0))] [.int (nI (pmt σ (jN x) (jN t))), .int (nI 0), .ref (ad 19 0)]
    refine r_i2l (v := ((nI (pmt σ (jN x) (jN t))).toInt64)) K dL_claim_8 rfl ?_
    refine r_outJ K hK.2.2.1 rfl dL_claim_9 ?_
    show WW g z 5 3 18 ad1 (Wz z ad1 σ1 τ (((nI (pmt σ (jN x) (jN t)))).toInt64, o.2)) 10 [(0, .ref (ad 0 0)), (1, .int (x)), (2, .int (t)), (3, .ref (ad 19 0))] []
    refine r_goto K dL_claim_10 29 (by decide) ?_
    refine r_iconst (v := nI 0) K dL_claim_29 (by decide) ?_
    exact r_iret K (by decide) (by decide) (okL_0 hcd hK hA hC) dL_claim_30
set_option maxRecDepth 100000 in
set_option maxHeartbeats 4000000 in
theorem k_L_claimWorst {z : Zx} {l : Launch} {σ τ : Sg} {o : Int64 × UInt64} {ad : Nm} (hl : l.stackTraces = false) {x : Int32} (Q : IR σ) (C : ICo σ) : KoH z l yL_claimWorst cL_claimWorst 4 (some .int) [(0, 9, 12, 13), (0, 9, 15, 97)] 10 2 12 [.ref (ad 0 0), .int (x), .ref (ad 19 0)] ad (Wz z ad σ τ o) (okL z ad σ τ (cCW σ x) (((nI (pmt σ (jN x) (wsh σ (jN x) (σ 12 0 0))))).toInt64) (fPay σ (jN x) (wsh σ (jN x) (σ 12 0 0)))) exNo := by
  refine koH_of hl (by decide +kernel) (Nat.le_of_ble_eq_true rfl) (fun g hg K => ?_)
  subst hg
  show WW g z 4 0 0 ad (Wz z ad σ τ o) 0 [(0, .ref (ad 0 0)), (1, .int (x)), (2, .ref (ad 19 0))] []
  refine r_aload_n K dL_claimWorst_0 2 rfl rfl ?_
  refine r_iconst (v := nI 0) K dL_claimWorst_1 (by decide) ?_
  refine r_aload_n K dL_claimWorst_2 0 rfl rfl ?_
  refine r_iload_n K dL_claimWorst_3 1 rfl rfl ?_
  refine r_callVh (st := [.int (nI 0), .ref (ad 19 0)]) K (k_X5_claimWorst (σ := σ) (τ := τ) (o := o) hl Q C) cw_L_94 wd_934 wd_935 (by decide) (by decide) rfl rfl rfl rfl (Nat.le_of_ble_eq_true rfl) (by decide) (by decide) dL_claimWorst_4 ?_ ?_
  · rintro E ⟨c, hc, hE⟩
    rcases c with _ | _ | c
    · cases hE
      refine r_catch K [] ⟨0, 9, 12, 13⟩ [⟨0, 9, 15, 97⟩] rfl (fun t ht => absurd ht List.not_mem_nil) rfl (by decide) wd_328 (by decide +kernel) (fun q => ?_)
      show WW g z 4 2 12 ad (Wz z ad σ τ o) 12 [(0, .ref (ad 0 0)), (1, .int (x)), (2, .ref (ad 19 0))] [.ref q]
      refine r_astore_n (lv' := [(3, .ref q), (0, .ref (ad 0 0)), (1, .int (x)), (2, .ref (ad 19 0))]) K dL_claimWorst_12 rfl (by decide) rfl ?_
      refine r_iconst (v := nI 1) K dL_claimWorst_13 (by decide) ?_
      exact r_iret K (by decide) (by decide) (okL_x (c := 0) hc C) dL_claimWorst_14
    · cases hE
      have hp : ∀ t ∈ ([⟨0, 9, 12, 13⟩] : List ExceptionTableEntry), t.catchType ≠ 0 ∧ ∃ nm, Cond.classLink yL_claimWorst.cls t.catchType nm ∈ WALL ∧ ("java/util/NoSuchElementException", nm) ∈ ncsZ := by
        intro t ht; simp only [List.mem_cons, List.not_mem_nil, or_false] at ht
        rcases ht with rfl
        · exact ⟨by decide, "java/lang/IndexOutOfBoundsException", wd_328, by decide +kernel⟩
      refine r_catch K [⟨0, 9, 12, 13⟩] ⟨0, 9, 15, 97⟩ [] rfl hp rfl (by decide) wd_932 (by decide +kernel) (fun q => ?_)
      show WW g z 4 2 12 ad (Wz z ad σ τ o) 15 [(0, .ref (ad 0 0)), (1, .int (x)), (2, .ref (ad 19 0))] [.ref q]
      refine r_astore_n (lv' := [(3, .ref q), (0, .ref (ad 0 0)), (1, .int (x)), (2, .ref (ad 19 0))]) K dL_claimWorst_15 rfl (by decide) rfl ?_
      refine r_iconst (v := nI 2) K dL_claimWorst_16 (by decide) ?_
      exact r_iret K (by decide) (by decide) (okL_x (c := 1) hc C) dL_claimWorst_17
    · simp at hE
  · rintro _ ad1 _ ⟨hcd, rfl, hK, σ1, rfl, hA, hC⟩
    show WW g z 4 2 12 ad1 (Wz z ad1 σ1 τ o) 7 [(0, .ref (ad 0 0)), (1, .int (x)), (2, .ref (ad 19 0))] [.int (nI (pmt σ (jN x) (wsh σ (jN x) (σ 12 0 0)))), .int (nI 0), .ref (ad 19 0)]
    refine r_i2l (v := ((nI (pmt σ (jN x) (wsh σ (jN x) (σ 12 0 0)))).toInt64)) K dL_claimWorst_7 rfl ?_
    refine r_outJ K hK.2.2.1 rfl dL_claimWorst_8 ?_
    show WW g z 4 2 12 ad1 (Wz z ad1 σ1 τ (((nI (pmt σ (jN x) (wsh σ (jN x) (σ 12 0 0))))).toInt64, o.2)) 9 [(0, .ref (ad 0 0)), (1, .int (x)), (2, .ref (ad 19 0))] []
    refine r_goto K dL_claimWorst_9 18 (by decide) ?_
    refine r_iconst (v := nI 0) K dL_claimWorst_18 (by decide) ?_
    exact r_iret K (by decide) (by decide) (okL_0 hcd hK hA hC) dL_claimWorst_19
set_option maxRecDepth 100000 in
set_option maxHeartbeats 4000000 in
theorem k_L_claimCount {z : Zx} {l : Launch} {σ τ : Sg} {o : Int64 × UInt64} {ad : Nm} (hl : l.stackTraces = false) {x : Int32} (Q : IR σ) (C : ICo σ) : KoH z l yL_claimCount cL_claimCount 4 (some .int) [(0, 9, 12, 13)] 10 1 6 [.ref (ad 0 0), .int (x), .ref (ad 19 0)] ad (Wz z ad σ τ o) (okL z ad σ τ (cK σ x) (((nI (clm σ (jN x)))).toInt64) (σ)) exNo := by
  refine koH_of hl (by decide +kernel) (Nat.le_of_ble_eq_true rfl) (fun g hg K => ?_)
  subst hg
  show WW g z 4 0 0 ad (Wz z ad σ τ o) 0 [(0, .ref (ad 0 0)), (1, .int (x)), (2, .ref (ad 19 0))] []
  refine r_aload_n K dL_claimCount_0 2 rfl rfl ?_
  refine r_iconst (v := nI 0) K dL_claimCount_1 (by decide) ?_
  refine r_aload_n K dL_claimCount_2 0 rfl rfl ?_
  refine r_iload_n K dL_claimCount_3 1 rfl rfl ?_
  refine r_callVh (st := [.int (nI 0), .ref (ad 19 0)]) K (k_X5_claimCount (σ := σ) (τ := τ) (o := o) hl Q C) cw_L_99 wd_961 wd_962 (by decide) (by decide) rfl rfl rfl rfl (Nat.le_of_ble_eq_true rfl) (by decide) (by decide) dL_claimCount_4 ?_ ?_
  · rintro E ⟨c, hc, hE⟩
    rcases c with _ | c
    · cases hE
      refine r_catch K [] ⟨0, 9, 12, 13⟩ [] rfl (fun t ht => absurd ht List.not_mem_nil) rfl (by decide) wd_328 (by decide +kernel) (fun q => ?_)
      show WW g z 4 1 6 ad (Wz z ad σ τ o) 12 [(0, .ref (ad 0 0)), (1, .int (x)), (2, .ref (ad 19 0))] [.ref q]
      refine r_astore_n (lv' := [(3, .ref q), (0, .ref (ad 0 0)), (1, .int (x)), (2, .ref (ad 19 0))]) K dL_claimCount_12 rfl (by decide) rfl ?_
      refine r_iconst (v := nI 1) K dL_claimCount_13 (by decide) ?_
      exact r_iret K (by decide) (by decide) (okL_x (c := 0) hc C) dL_claimCount_14
    · simp at hE
  · rintro _ ad1 _ ⟨hcd, rfl, hK, σ1, rfl, hA, hC⟩
    show WW g z 4 1 6 ad1 (Wz z ad1 σ1 τ o) 7 [(0, .ref (ad 0 0)), (1, .int (x)), (2, .ref (ad 19 0))] [.int (nI (clm σ (jN x))), .int (nI 0), .ref (ad 19 0)]
    refine r_i2l (v := ((nI (clm σ (jN x))).toInt64)) K dL_claimCount_7 rfl ?_
    refine r_outJ K hK.2.2.1 rfl dL_claimCount_8 ?_
    show WW g z 4 1 6 ad1 (Wz z ad1 σ1 τ (((nI (clm σ (jN x)))).toInt64, o.2)) 9 [(0, .ref (ad 0 0)), (1, .int (x)), (2, .ref (ad 19 0))] []
    refine r_goto K dL_claimCount_9 15 (by decide) ?_
    refine r_iconst (v := nI 0) K dL_claimCount_15 (by decide) ?_
    exact r_iret K (by decide) (by decide) (okL_0 hcd hK hA hC) dL_claimCount_16
set_option maxRecDepth 100000 in
set_option maxHeartbeats 4000000 in
theorem k_L_paidTo {z : Zx} {l : Launch} {σ τ : Sg} {o : Int64 × UInt64} {ad : Nm} (hl : l.stackTraces = false) {x : Int32} (Q : IR σ) (C : ICo σ) : KoH z l yL_paidTo cL_paidTo 4 (some .int) [(0, 9, 12, 13)] 10 1 6 [.ref (ad 0 0), .int (x), .ref (ad 19 0)] ad (Wz z ad σ τ o) (okL z ad σ τ (cK σ x) (((nI (σ 9 (jN x) 4))).toInt64) (σ)) exNo := by
  refine koH_of hl (by decide +kernel) (Nat.le_of_ble_eq_true rfl) (fun g hg K => ?_)
  subst hg
  show WW g z 4 0 0 ad (Wz z ad σ τ o) 0 [(0, .ref (ad 0 0)), (1, .int (x)), (2, .ref (ad 19 0))] []
  refine r_aload_n K dL_paidTo_0 2 rfl rfl ?_
  refine r_iconst (v := nI 0) K dL_paidTo_1 (by decide) ?_
  refine r_aload_n K dL_paidTo_2 0 rfl rfl ?_
  refine r_iload_n K dL_paidTo_3 1 rfl rfl ?_
  refine r_callVh (st := [.int (nI 0), .ref (ad 19 0)]) K (k_X5_paidTo (σ := σ) (τ := τ) (o := o) hl Q C) cw_L_102 wd_968 wd_969 (by decide) (by decide) rfl rfl rfl rfl (Nat.le_of_ble_eq_true rfl) (by decide) (by decide) dL_paidTo_4 ?_ ?_
  · rintro E ⟨c, hc, hE⟩
    rcases c with _ | c
    · cases hE
      refine r_catch K [] ⟨0, 9, 12, 13⟩ [] rfl (fun t ht => absurd ht List.not_mem_nil) rfl (by decide) wd_328 (by decide +kernel) (fun q => ?_)
      show WW g z 4 1 6 ad (Wz z ad σ τ o) 12 [(0, .ref (ad 0 0)), (1, .int (x)), (2, .ref (ad 19 0))] [.ref q]
      refine r_astore_n (lv' := [(3, .ref q), (0, .ref (ad 0 0)), (1, .int (x)), (2, .ref (ad 19 0))]) K dL_paidTo_12 rfl (by decide) rfl ?_
      refine r_iconst (v := nI 1) K dL_paidTo_13 (by decide) ?_
      exact r_iret K (by decide) (by decide) (okL_x (c := 0) hc C) dL_paidTo_14
    · simp at hE
  · rintro _ ad1 _ ⟨hcd, rfl, hK, σ1, rfl, hA, hC⟩
    show WW g z 4 1 6 ad1 (Wz z ad1 σ1 τ o) 7 [(0, .ref (ad 0 0)), (1, .int (x)), (2, .ref (ad 19 0))] [.int (nI (σ 9 (jN x) 4)), .int (nI 0), .ref (ad 19 0)]
    refine r_i2l (v := ((nI (σ 9 (jN x) 4)).toInt64)) K dL_paidTo_7 rfl ?_
    refine r_outJ K hK.2.2.1 rfl dL_paidTo_8 ?_
    show WW g z 4 1 6 ad1 (Wz z ad1 σ1 τ (((nI (σ 9 (jN x) 4))).toInt64, o.2)) 9 [(0, .ref (ad 0 0)), (1, .int (x)), (2, .ref (ad 19 0))] []
    refine r_goto K dL_paidTo_9 15 (by decide) ?_
    refine r_iconst (v := nI 0) K dL_paidTo_15 (by decide) ?_
    exact r_iret K (by decide) (by decide) (okL_0 hcd hK hA hC) dL_paidTo_16
set_option maxRecDepth 100000 in
set_option maxHeartbeats 4000000 in
theorem k_L_meanPayment {z : Zx} {l : Launch} {σ τ : Sg} {o : Int64 × UInt64} {ad : Nm} (hl : l.stackTraces = false) (Q : IR σ) (C : ICo σ) : KoH z l yL_meanPayment cL_meanPayment 3 (some .int) [(0, 7, 10, 109)] 10 1 6 [.ref (ad 0 0), .ref (ad 19 1)] ad (Wz z ad σ τ o) (okLD z ad σ τ (cM σ) ((FP.ddiv (FP.l2d (nJ (pdT σ))) (FP.i2d (nI (clT σ))))) (σ)) exNo := by
  refine koH_of hl (by decide +kernel) (Nat.le_of_ble_eq_true rfl) (fun g hg K => ?_)
  subst hg
  show WW g z 3 0 0 ad (Wz z ad σ τ o) 0 [(0, .ref (ad 0 0)), (1, .ref (ad 19 1))] []
  refine r_aload_n K dL_meanPayment_0 1 rfl rfl ?_
  refine r_iconst (v := nI 0) K dL_meanPayment_1 (by decide) ?_
  refine r_aload_n K dL_meanPayment_2 0 rfl rfl ?_
  refine r_callVh (st := [.int (nI 0), .ref (ad 19 1)]) K (k_X5_meanPayment (σ := σ) (τ := τ) (o := o) hl Q C) cw_L_105 wd_989 wd_990 (by decide) (by decide) rfl rfl rfl rfl (Nat.le_of_ble_eq_true rfl) (by decide) (by decide) dL_meanPayment_3 ?_ ?_
  · rintro E ⟨c, hc, hE⟩
    rcases c with _ | c
    · cases hE
      refine r_catch K [] ⟨0, 7, 10, 109⟩ [] rfl (fun t ht => absurd ht List.not_mem_nil) rfl (by decide) wd_974 (by decide +kernel) (fun q => ?_)
      show WW g z 3 1 6 ad (Wz z ad σ τ o) 10 [(0, .ref (ad 0 0)), (1, .ref (ad 19 1))] [.ref q]
      refine r_astore_n (lv' := [(2, .ref q), (0, .ref (ad 0 0)), (1, .ref (ad 19 1))]) K dL_meanPayment_10 rfl (by decide) rfl ?_
      refine r_iconst (v := nI 1) K dL_meanPayment_11 (by decide) ?_
      exact r_iret K (by decide) (by decide) (okLD_x (c := 0) hc C) dL_meanPayment_12
    · simp at hE
  · rintro _ ad1 _ ⟨hcd, rfl, hK, σ1, rfl, hA, hC⟩
    show WW g z 3 1 6 ad1 (Wz z ad1 σ1 τ o) 6 [(0, .ref (ad 0 0)), (1, .ref (ad 19 1))] [.double (FP.ddiv (FP.l2d (nJ (pdT σ))) (FP.i2d (nI (clT σ)))), .int (nI 0), .ref (ad 19 1)]
    refine r_outD K hK.2.2.2 rfl dL_meanPayment_6 ?_
    show WW g z 3 1 6 ad1 (Wz z ad1 σ1 τ (o.1, FP.ddiv (FP.l2d (nJ (pdT σ))) (FP.i2d (nI (clT σ))))) 7 [(0, .ref (ad 0 0)), (1, .ref (ad 19 1))] []
    refine r_goto K dL_meanPayment_7 13 (by decide) ?_
    refine r_iconst (v := nI 0) K dL_meanPayment_13 (by decide) ?_
    exact r_iret K (by decide) (by decide) (okLD_0 hcd hK hA hC) dL_meanPayment_14
set_option maxRecDepth 100000 in
set_option maxHeartbeats 4000000 in
theorem k_L_floodedWithOpening {z : Zx} {l : Launch} {σ τ : Sg} {o : Int64 × UInt64} {ad : Nm} (hl : l.stackTraces = false) {x y : Int32} (Q : IR σ) (C : ICo σ) : KoH z l yL_floodedWithOpening cL_floodedWithOpening 5 (some .int) [(0, 10, 13, 13), (0, 10, 17, 15)] 10 2 12 [.ref (ad 0 0), .int (x), .int (y), .ref (ad 19 0)] ad (Wz z ad σ τ o) (okL z ad σ τ (cBx σ 10 x y) (((nI (trW σ (jN x + 1) (jN y) (σ 12 0 0)))).toInt64) (σ)) exNo := by
  refine koH_of hl (by decide +kernel) (Nat.le_of_ble_eq_true rfl) (fun g hg K => ?_)
  subst hg
  show WW g z 5 0 0 ad (Wz z ad σ τ o) 0 [(0, .ref (ad 0 0)), (1, .int (x)), (2, .int (y)), (3, .ref (ad 19 0))] []
  refine r_aload_n K dL_floodedWithOpening_0 3 rfl rfl ?_
  refine r_iconst (v := nI 0) K dL_floodedWithOpening_1 (by decide) ?_
  refine r_aload_n K dL_floodedWithOpening_2 0 rfl rfl ?_
  refine r_iload_n K dL_floodedWithOpening_3 1 rfl rfl ?_
  refine r_iload_n K dL_floodedWithOpening_4 2 rfl rfl ?_
  refine r_callVh (st := [.int (nI 0), .ref (ad 19 0)]) K (k_X5_floodedWithOpening (σ := σ) (τ := τ) (o := o) hl Q C) cw_L_111 wd_1000 wd_1001 (by decide) (by decide) rfl rfl rfl rfl (Nat.le_of_ble_eq_true rfl) (by decide) (by decide) dL_floodedWithOpening_5 ?_ ?_
  · rintro E ⟨c, hc, hE⟩
    rcases c with _ | _ | c
    · cases hE
      refine r_catch K [] ⟨0, 10, 13, 13⟩ [⟨0, 10, 17, 15⟩] rfl (fun t ht => absurd ht List.not_mem_nil) rfl (by decide) wd_328 (by decide +kernel) (fun q => ?_)
      show WW g z 5 2 12 ad (Wz z ad σ τ o) 13 [(0, .ref (ad 0 0)), (1, .int (x)), (2, .int (y)), (3, .ref (ad 19 0))] [.ref q]
      refine r_astore (lv' := [(4, .ref q), (0, .ref (ad 0 0)), (1, .int (x)), (2, .int (y)), (3, .ref (ad 19 0))]) K dL_floodedWithOpening_13 (by decide) rfl ?_
      refine r_iconst (v := nI 1) K dL_floodedWithOpening_15 (by decide) ?_
      exact r_iret K (by decide) (by decide) (okL_x (c := 0) hc C) dL_floodedWithOpening_16
    · cases hE
      have hp : ∀ t ∈ ([⟨0, 10, 13, 13⟩] : List ExceptionTableEntry), t.catchType ≠ 0 ∧ ∃ nm, Cond.classLink yL_floodedWithOpening.cls t.catchType nm ∈ WALL ∧ ("java/lang/IllegalArgumentException", nm) ∈ ncsZ := by
        intro t ht; simp only [List.mem_cons, List.not_mem_nil, or_false] at ht
        rcases ht with rfl
        · exact ⟨by decide, "java/lang/IndexOutOfBoundsException", wd_328, by decide +kernel⟩
      refine r_catch K [⟨0, 10, 13, 13⟩] ⟨0, 10, 17, 15⟩ [] rfl hp rfl (by decide) wd_408 (by decide +kernel) (fun q => ?_)
      show WW g z 5 2 12 ad (Wz z ad σ τ o) 17 [(0, .ref (ad 0 0)), (1, .int (x)), (2, .int (y)), (3, .ref (ad 19 0))] [.ref q]
      refine r_astore (lv' := [(4, .ref q), (0, .ref (ad 0 0)), (1, .int (x)), (2, .int (y)), (3, .ref (ad 19 0))]) K dL_floodedWithOpening_17 (by decide) rfl ?_
      refine r_iconst (v := nI 2) K dL_floodedWithOpening_19 (by decide) ?_
      exact r_iret K (by decide) (by decide) (okL_x (c := 1) hc C) dL_floodedWithOpening_20
    · simp at hE
  · rintro _ ad1 _ ⟨hcd, rfl, hK, σ1, rfl, hA, hC⟩
    show WW g z 5 2 12 ad1 (Wz z ad1 σ1 τ o) 8 [(0, .ref (ad 0 0)), (1, .int (x)), (2, .int (y)), (3, .ref (ad 19 0))] [.int (nI (trW σ (jN x + 1) (jN y) (σ 12 0 0))), .int (nI 0), .ref (ad 19 0)]
    refine r_i2l (v := ((nI (trW σ (jN x + 1) (jN y) (σ 12 0 0))).toInt64)) K dL_floodedWithOpening_8 rfl ?_
    refine r_outJ K hK.2.2.1 rfl dL_floodedWithOpening_9 ?_
    show WW g z 5 2 12 ad1 (Wz z ad1 σ1 τ (((nI (trW σ (jN x + 1) (jN y) (σ 12 0 0)))).toInt64, o.2)) 10 [(0, .ref (ad 0 0)), (1, .int (x)), (2, .int (y)), (3, .ref (ad 19 0))] []
    refine r_goto K dL_floodedWithOpening_10 21 (by decide) ?_
    refine r_iconst (v := nI 0) K dL_floodedWithOpening_21 (by decide) ?_
    exact r_iret K (by decide) (by decide) (okL_0 hcd hK hA hC) dL_floodedWithOpening_22
set_option maxRecDepth 100000 in
set_option maxHeartbeats 4000000 in
theorem k_L_bestOpening {z : Zx} {l : Launch} {σ τ : Sg} {o : Int64 × UInt64} {ad : Nm} (hl : l.stackTraces = false) {x : Int32} (Q : IR σ) (C : ICo σ) : KoH z l yL_bestOpening cL_bestOpening 4 (some .int) [(0, 9, 12, 13)] 10 1 6 [.ref (ad 0 0), .int (x), .ref (ad 19 0)] ad (Wz z ad σ τ o) (okL z ad σ τ (cB σ x) (((nI ((bsp σ (jN x) 10).1))).toInt64) (σ)) exNo := by
  refine koH_of hl (by decide +kernel) (Nat.le_of_ble_eq_true rfl) (fun g hg K => ?_)
  subst hg
  show WW g z 4 0 0 ad (Wz z ad σ τ o) 0 [(0, .ref (ad 0 0)), (1, .int (x)), (2, .ref (ad 19 0))] []
  refine r_aload_n K dL_bestOpening_0 2 rfl rfl ?_
  refine r_iconst (v := nI 0) K dL_bestOpening_1 (by decide) ?_
  refine r_aload_n K dL_bestOpening_2 0 rfl rfl ?_
  refine r_iload_n K dL_bestOpening_3 1 rfl rfl ?_
  refine r_callVh (st := [.int (nI 0), .ref (ad 19 0)]) K (k_X5_bestOpening (σ := σ) (τ := τ) (o := o) hl Q C) cw_L_114 wd_1007 wd_1008 (by decide) (by decide) rfl rfl rfl rfl (Nat.le_of_ble_eq_true rfl) (by decide) (by decide) dL_bestOpening_4 ?_ ?_
  · rintro E ⟨c, hc, hE⟩
    rcases c with _ | c
    · cases hE
      refine r_catch K [] ⟨0, 9, 12, 13⟩ [] rfl (fun t ht => absurd ht List.not_mem_nil) rfl (by decide) wd_328 (by decide +kernel) (fun q => ?_)
      show WW g z 4 1 6 ad (Wz z ad σ τ o) 12 [(0, .ref (ad 0 0)), (1, .int (x)), (2, .ref (ad 19 0))] [.ref q]
      refine r_astore_n (lv' := [(3, .ref q), (0, .ref (ad 0 0)), (1, .int (x)), (2, .ref (ad 19 0))]) K dL_bestOpening_12 rfl (by decide) rfl ?_
      refine r_iconst (v := nI 1) K dL_bestOpening_13 (by decide) ?_
      exact r_iret K (by decide) (by decide) (okL_x (c := 0) hc C) dL_bestOpening_14
    · simp at hE
  · rintro _ ad1 _ ⟨hcd, rfl, hK, σ1, rfl, hA, hC⟩
    show WW g z 4 1 6 ad1 (Wz z ad1 σ1 τ o) 7 [(0, .ref (ad 0 0)), (1, .int (x)), (2, .ref (ad 19 0))] [.int (nI ((bsp σ (jN x) 10).1)), .int (nI 0), .ref (ad 19 0)]
    refine r_i2l (v := ((nI ((bsp σ (jN x) 10).1)).toInt64)) K dL_bestOpening_7 rfl ?_
    refine r_outJ K hK.2.2.1 rfl dL_bestOpening_8 ?_
    show WW g z 4 1 6 ad1 (Wz z ad1 σ1 τ (((nI ((bsp σ (jN x) 10).1))).toInt64, o.2)) 9 [(0, .ref (ad 0 0)), (1, .int (x)), (2, .ref (ad 19 0))] []
    refine r_goto K dL_bestOpening_9 15 (by decide) ?_
    refine r_iconst (v := nI 0) K dL_bestOpening_15 (by decide) ?_
    exact r_iret K (by decide) (by decide) (okL_0 hcd hK hA hC) dL_bestOpening_16
set_option maxRecDepth 100000 in
set_option maxHeartbeats 4000000 in
theorem k_L_writeRule {z : Zx} {l : Launch} {σ τ : Sg} {o : Int64 × UInt64} {ad : Nm} (hl : l.stackTraces = false) {x : Int32} (Q : IR σ) (C : ICo σ) : KoH z l yL_writeRule cL_writeRule 4 (some .int) [(0, 9, 12, 13)] 10 1 6 [.ref (ad 0 0), .int (x), .ref (ad 19 0)] ad (Wz z ad σ τ o) (okL z ad σ τ (cR σ x) (((nI (wrl σ (σ 8 (jN x) 0) (σ 8 (jN x) 1) (σ 8 (jN x) 2) (σ 8 (jN x) 3) (σ 8 (jN x) 4) 12 2 0))).toInt64) (wrl σ (σ 8 (jN x) 0) (σ 8 (jN x) 1) (σ 8 (jN x) 2) (σ 8 (jN x) 3) (σ 8 (jN x) 4))) exNo := by
  refine koH_of hl (by decide +kernel) (Nat.le_of_ble_eq_true rfl) (fun g hg K => ?_)
  subst hg
  show WW g z 4 0 0 ad (Wz z ad σ τ o) 0 [(0, .ref (ad 0 0)), (1, .int (x)), (2, .ref (ad 19 0))] []
  refine r_aload_n K dL_writeRule_0 2 rfl rfl ?_
  refine r_iconst (v := nI 0) K dL_writeRule_1 (by decide) ?_
  refine r_aload_n K dL_writeRule_2 0 rfl rfl ?_
  refine r_iload_n K dL_writeRule_3 1 rfl rfl ?_
  refine r_callVh (st := [.int (nI 0), .ref (ad 19 0)]) K (k_X5_writeRule (σ := σ) (τ := τ) (o := o) hl Q C) cw_L_117 wd_1014 wd_1015 (by decide) (by decide) rfl rfl rfl rfl (Nat.le_of_ble_eq_true rfl) (by decide) (by decide) dL_writeRule_4 ?_ ?_
  · rintro E ⟨c, hc, hE⟩
    rcases c with _ | c
    · cases hE
      refine r_catch K [] ⟨0, 9, 12, 13⟩ [] rfl (fun t ht => absurd ht List.not_mem_nil) rfl (by decide) wd_328 (by decide +kernel) (fun q => ?_)
      show WW g z 4 1 6 ad (Wz z ad σ τ o) 12 [(0, .ref (ad 0 0)), (1, .int (x)), (2, .ref (ad 19 0))] [.ref q]
      refine r_astore_n (lv' := [(3, .ref q), (0, .ref (ad 0 0)), (1, .int (x)), (2, .ref (ad 19 0))]) K dL_writeRule_12 rfl (by decide) rfl ?_
      refine r_iconst (v := nI 1) K dL_writeRule_13 (by decide) ?_
      exact r_iret K (by decide) (by decide) (okL_x (c := 0) hc C) dL_writeRule_14
    · simp at hE
  · rintro _ ad1 _ ⟨hcd, rfl, hK, σ1, rfl, hA, hC⟩
    show WW g z 4 1 6 ad1 (Wz z ad1 σ1 τ o) 7 [(0, .ref (ad 0 0)), (1, .int (x)), (2, .ref (ad 19 0))] [.int (nI (wrl σ (σ 8 (jN x) 0) (σ 8 (jN x) 1) (σ 8 (jN x) 2) (σ 8 (jN x) 3) (σ 8 (jN x) 4) 12 2 0)), .int (nI 0), .ref (ad 19 0)]
    refine r_i2l (v := ((nI (wrl σ (σ 8 (jN x) 0) (σ 8 (jN x) 1) (σ 8 (jN x) 2) (σ 8 (jN x) 3) (σ 8 (jN x) 4) 12 2 0)).toInt64)) K dL_writeRule_7 rfl ?_
    refine r_outJ K hK.2.2.1 rfl dL_writeRule_8 ?_
    show WW g z 4 1 6 ad1 (Wz z ad1 σ1 τ (((nI (wrl σ (σ 8 (jN x) 0) (σ 8 (jN x) 1) (σ 8 (jN x) 2) (σ 8 (jN x) 3) (σ 8 (jN x) 4) 12 2 0))).toInt64, o.2)) 9 [(0, .ref (ad 0 0)), (1, .int (x)), (2, .ref (ad 19 0))] []
    refine r_goto K dL_writeRule_9 15 (by decide) ?_
    refine r_iconst (v := nI 0) K dL_writeRule_15 (by decide) ?_
    exact r_iret K (by decide) (by decide) (okL_0 hcd hK hA hC) dL_writeRule_16
set_option maxRecDepth 100000 in
set_option maxHeartbeats 4000000 in
theorem k_L_lineAt {z : Zx} {l : Launch} {σ τ : Sg} {o : Int64 × UInt64} {ad : Nm} (hl : l.stackTraces = false) {x : Int32} (Q : IR σ) (C : ICo σ) : KoH z l yL_lineAt cL_lineAt 4 (some .int) [(0, 9, 12, 13)] 10 1 6 [.ref (ad 0 0), .int (x), .ref (ad 19 0)] ad (Wz z ad σ τ o) (okL z ad σ τ (cL σ x) (((nI (σ 11 0 (jN x)))).toInt64) (σ)) exNo := by
  refine koH_of hl (by decide +kernel) (Nat.le_of_ble_eq_true rfl) (fun g hg K => ?_)
  subst hg
  show WW g z 4 0 0 ad (Wz z ad σ τ o) 0 [(0, .ref (ad 0 0)), (1, .int (x)), (2, .ref (ad 19 0))] []
  refine r_aload_n K dL_lineAt_0 2 rfl rfl ?_
  refine r_iconst (v := nI 0) K dL_lineAt_1 (by decide) ?_
  refine r_aload_n K dL_lineAt_2 0 rfl rfl ?_
  refine r_iload_n K dL_lineAt_3 1 rfl rfl ?_
  refine r_callVh (st := [.int (nI 0), .ref (ad 19 0)]) K (k_X5_lineAt (σ := σ) (τ := τ) (o := o) hl Q C) cw_L_120 wd_1285 wd_1286 (by decide) (by decide) rfl rfl rfl rfl (Nat.le_of_ble_eq_true rfl) (by decide) (by decide) dL_lineAt_4 ?_ ?_
  · rintro E ⟨c, hc, hE⟩
    rcases c with _ | c
    · cases hE
      refine r_catch K [] ⟨0, 9, 12, 13⟩ [] rfl (fun t ht => absurd ht List.not_mem_nil) rfl (by decide) wd_328 (by decide +kernel) (fun q => ?_)
      show WW g z 4 1 6 ad (Wz z ad σ τ o) 12 [(0, .ref (ad 0 0)), (1, .int (x)), (2, .ref (ad 19 0))] [.ref q]
      refine r_astore_n (lv' := [(3, .ref q), (0, .ref (ad 0 0)), (1, .int (x)), (2, .ref (ad 19 0))]) K dL_lineAt_12 rfl (by decide) rfl ?_
      refine r_iconst (v := nI 1) K dL_lineAt_13 (by decide) ?_
      exact r_iret K (by decide) (by decide) (okL_x (c := 0) hc C) dL_lineAt_14
    · simp at hE
  · rintro _ ad1 _ ⟨hcd, rfl, hK, σ1, rfl, hA, hC⟩
    show WW g z 4 1 6 ad1 (Wz z ad1 σ1 τ o) 7 [(0, .ref (ad 0 0)), (1, .int (x)), (2, .ref (ad 19 0))] [.int (nI (σ 11 0 (jN x))), .int (nI 0), .ref (ad 19 0)]
    refine r_i2l (v := ((nI (σ 11 0 (jN x))).toInt64)) K dL_lineAt_7 rfl ?_
    refine r_outJ K hK.2.2.1 rfl dL_lineAt_8 ?_
    show WW g z 4 1 6 ad1 (Wz z ad1 σ1 τ (((nI (σ 11 0 (jN x)))).toInt64, o.2)) 9 [(0, .ref (ad 0 0)), (1, .int (x)), (2, .ref (ad 19 0))] []
    refine r_goto K dL_lineAt_9 15 (by decide) ?_
    refine r_iconst (v := nI 0) K dL_lineAt_15 (by decide) ?_
    exact r_iret K (by decide) (by decide) (okL_0 hcd hK hA hC) dL_lineAt_16
