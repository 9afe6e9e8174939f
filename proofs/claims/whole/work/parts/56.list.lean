set_option maxRecDepth 100000 in
set_option maxHeartbeats 4000000 in
theorem k_J8_newLength_cabcc {z : Zx} {l : Launch} {ad : Nm} {μ : Ce} (hl : l.stackTraces = false) {a b c d : Nat} (hd : a + (max b c) = d) (h0 : 0 < d) (h1 : d ≤ 10000) : Ko z l yJ8_newLength_cabcc cJ8_newLength_cabcc 4 (some .int) 0 0 0 [.int (nI a), .int (nI b), .int (nI c)] ad μ (okV (some (.int (nI d))) ad μ) exNo := by
  refine ko_of hl (by decide +kernel) (Nat.le_of_ble_eq_true rfl) (fun g hg K => ?_)
  subst hg
  subst hd
  show WW g z 4 0 0 ad μ 0 [(0, .int (nI a)), (1, .int (nI b)), (2, .int (nI c))] []
  refine r_iload_n K dJ8_newLength_cabcc_0 0 rfl rfl ?_
  refine r_iload_n K dJ8_newLength_cabcc_1 1 rfl rfl ?_
  refine r_iload_n K dJ8_newLength_cabcc_2 2 rfl rfl ?_
  refine r_mmax (v := nI (max b c)) K wd_550 wd_551 wd_68 wd_552 (Nat.le_of_ble_eq_true rfl) (mmaxN (by omega) (by omega)) (by decide) (by decide) dJ8_newLength_cabcc_3 ?_
  refine r_iadd (v := nI (a + (max b c))) K dJ8_newLength_cabcc_6 (nI_add _ _) ?_
  refine r_istore_n (lv' := [(3, .int (nI (a + (max b c)))), (0, .int (nI a)), (1, .int (nI b)), (2, .int (nI c))]) K dJ8_newLength_cabcc_7 rfl (by decide) rfl ?_
  refine r_iconst (v := nI 0) K dJ8_newLength_cabcc_8 (by decide) ?_
  refine r_iload_n K dJ8_newLength_cabcc_9 0 rfl rfl ?_
  refine r_icmp_ge K dJ8_newLength_cabcc_10 21 (a + (max b c) ≤ 0) (nI_leI (by omega) (by omega)) (by decide) (fun c_10 => ?_) (fun c_10 => ?_)
  · skip
    exfalso; omega
  · skip
    refine r_iload_n K dJ8_newLength_cabcc_13 0 rfl rfl ?_
    refine r_ldc (v := nI 2147483639) K dJ8_newLength_cabcc_14 wd_553 ?_
    refine r_icmp_gt K dJ8_newLength_cabcc_16 21 (2147483639 < a + (max b c)) (nI_ltI (by omega) (by omega)) (by decide) (fun c_16 => ?_) (fun c_16 => ?_)
    · skip
      exfalso; omega
    · skip
      refine r_iload_n K dJ8_newLength_cabcc_19 0 rfl rfl ?_
      exact r_iret K (by decide) (by decide) ⟨rfl, rfl, rfl⟩ dJ8_newLength_cabcc_20
set_option maxRecDepth 100000 in
set_option maxHeartbeats 4000000 in
theorem k_J7_copyOf_6403c {z : Zx} {l : Launch} {ad : Nm} {μ : Ce} (hl : l.stackTraces = false) {li c d ci : Nat} {f : Nat → Option Nat} {r : vw_C} (h2 : μ 2 li = some (aO z c f)) (h90 : μ 90 0 = none) (hcd : c ≤ d) (hd : d ≤ 30) (hr : vwCl[ci]? = some r) (hca : (r.1, "java/lang/Object") ∈ caZ) (hel : Els ci ad μ f) (hf : ∀ j, c ≤ j → f j = none) : Ko z l yJ7_copyOf_6403c cJ7_copyOf_6403c 4 (some (.array (.object "java/lang/Object"))) 0 1 30 [.ref (ad 2 li), .int (nI d), .ref (z.2.2 3)] ad μ (fun v' ad' μ' => ∃ q : Nat, v' = some (.ref q) ∧ ad' = nmu ad 90 0 q ∧ μ' = up2 μ 90 0 (aO z d f)) exNo := by
  refine ko_of hl (by decide +kernel) (Nat.le_of_ble_eq_true rfl) (fun g hg K => ?_)
  subst hg
  show WW g z 4 0 0 ad μ 0 [(0, .ref (ad 2 li)), (1, .int (nI d)), (2, .ref (z.2.2 3))] []
  refine r_aload_n K dJ7_copyOf_6403c_0 2 rfl rfl ?_
  refine r_ldcM K wd_585 dJ7_copyOf_6403c_1 ?_
  refine r_acmp_ne K 13 dJ7_copyOf_6403c_3 (by decide) (fun c_3 => ?_) (fun c_3 => ?_)
  · skip
    exfalso; exact c_3 rfl
  · skip
    refine r_iload_n K dJ7_copyOf_6403c_6 1 rfl rfl ?_
    refine r_newq K 90 0 h90 wd_587 rfl (by omega) (Nat.le_of_ble_eq_true rfl) (by omega) dJ7_copyOf_6403c_7 (fun q_7 => ?_)
    refine r_wide (Nat.le_refl _) (show 0 + d ≤ 30 by omega) ?_
    show WW g z 4 1 30 (nmu ad 90 0 q_7) (up2 μ 90 0 (aO z d (fun _ => none))) 10 [(0, .ref (ad 2 li)), (1, .int (nI d)), (2, .ref (z.2.2 3))] [.ref (q_7)]
    refine r_goto K dJ7_copyOf_6403c_10 24 (by decide) ?_
    refine r_astore_n (lv' := [(3, .ref (q_7)), (0, .ref (ad 2 li)), (1, .int (nI d)), (2, .ref (z.2.2 3))]) K dJ7_copyOf_6403c_24 rfl (by decide) rfl ?_
    refine r_aload_n K dJ7_copyOf_6403c_25 1 rfl rfl ?_
    refine r_iconst (v := nI 0) K dJ7_copyOf_6403c_26 (by decide) ?_
    refine r_aload_n K dJ7_copyOf_6403c_27 0 rfl rfl ?_
    refine r_iconst (v := nI 0) K dJ7_copyOf_6403c_28 (by decide) ?_
    refine r_aload_n K dJ7_copyOf_6403c_29 1 rfl rfl ?_
    refine r_alenO K ((up2_n (fun q => absurd q.1 (by decide))).trans h2) (nmu_n (fun q => absurd q.1 (by decide))) dJ7_copyOf_6403c_30 ?_
    refine r_iload_n K dJ7_copyOf_6403c_31 2 rfl rfl ?_
    refine r_mmin (v := nI c) K wd_588 wd_298 wd_68 wd_299 (Nat.le_of_ble_eq_true rfl) ((mminN (by omega) (by omega)).trans (by rw [Nat.min_eq_left (by omega)])) (by decide) (by decide) dJ7_copyOf_6403c_32 ?_
    refine r_copyq (st := []) (sp := 0) (dp := 0) (w := c) K wd_589 wd_591 wd_590 wd_70 ((up2_n (fun q => absurd q.1 (by decide))).trans h2) (nmu_n (fun q => absurd q.1 (by decide))) up2_s nmu_s rfl rfl rfl (by omega) (by omega) (by omega) (by omega) hr hca (fun i _ q h => hel.new h90 (0 + i) q h) (Nat.le_of_ble_eq_true rfl) dJ7_copyOf_6403c_35 ?_
    refine r_mu up2_up ?_
    show WW g z 4 1 30 (nmu ad 90 0 q_7) (up2 μ 90 0 (aO z d (va_cpy f (fun _ => none) 0 0 c))) 38 [(3, .ref (q_7)), (0, .ref (ad 2 li)), (1, .int (nI d)), (2, .ref (z.2.2 3))] []
    refine r_aload_n K dJ7_copyOf_6403c_38 0 rfl rfl ?_
    exact r_aret K (.inr ⟨_, rfl⟩) (.inr ⟨_, rfl⟩) (by decide) (by decide) ⟨q_7, rfl, rfl, by rw [cpy_all hf]⟩ dJ7_copyOf_6403c_39
set_option maxRecDepth 100000 in
set_option maxHeartbeats 4000000 in
theorem k_J7_copyOf_1904c {z : Zx} {l : Launch} {ad : Nm} {μ : Ce} (hl : l.stackTraces = false) {li c d ci : Nat} {f : Nat → Option Nat} {r : vw_C} (h2 : μ 2 li = some (aO z c f)) (h90 : μ 90 0 = none) (hcd : c ≤ d) (hd : d ≤ 30) (hr : vwCl[ci]? = some r) (hca : (r.1, "java/lang/Object") ∈ caZ) (hel : Els ci ad μ f) (hf : ∀ j, c ≤ j → f j = none) : Ko z l yJ7_copyOf_1904c cJ7_copyOf_1904c 2 (some (.array (.object "java/lang/Object"))) 1 1 30 [.ref (ad 2 li), .int (nI d)] ad μ (fun v' ad' μ' => ∃ q : Nat, v' = some (.ref q) ∧ ad' = nmu ad 90 0 q ∧ μ' = up2 μ 90 0 (aO z d f)) exNo := by
  refine ko_of hl (by decide +kernel) (Nat.le_of_ble_eq_true rfl) (fun g hg K => ?_)
  subst hg
  show WW g z 2 0 0 ad μ 0 [(0, .ref (ad 2 li)), (1, .int (nI d))] []
  refine r_aload_n K dJ7_copyOf_1904c_0 0 rfl rfl ?_
  refine r_iload_n K dJ7_copyOf_1904c_1 1 rfl rfl ?_
  refine r_aload_n K dJ7_copyOf_1904c_2 0 rfl rfl ?_
  refine r_getC K wd_560 wd_1732 wd_561 wd_581 h2 rfl (Nat.le_of_ble_eq_true rfl) dJ7_copyOf_1904c_3 ?_
  refine r_callS (st := []) K (k_J7_copyOf_6403c (li := li) (c := c) (d := d) hl h2 h90 (by omega) (by omega) hr hca hel hf) cw_J7_300 wd_583 (by decide) (by decide) rfl (Nat.le_of_ble_eq_true rfl) (by decide) (by decide) dJ7_copyOf_1904c_6 ?_
  rintro _ _ _ ⟨q_6, rfl, rfl, rfl⟩
  show WW g z 2 1 30 (nmu ad 90 0 q_6) (up2 μ 90 0 (aO z d f)) 9 [(0, .ref (ad 2 li)), (1, .int (nI d))] [.ref (q_6)]
  exact r_aret K (.inr ⟨_, rfl⟩) (.inr ⟨_, rfl⟩) (by decide) (by decide) ⟨q_6, rfl, rfl, rfl⟩ dJ7_copyOf_1904c_9
set_option maxRecDepth 100000 in
set_option maxHeartbeats 4000000 in
theorem k_Jx4a65c_grow_92f84_E {z : Zx} {l : Launch} {ad : Nm} {μ : Ce} (hl : l.stackTraces = false) {li m : Nat} (h1 : μ 1 li = some (.inr (4, [.int (nI m), .ref (z.2.2 0), .int (nI 0)]))) (h2 : μ 2 li = none) : Ko z l yJx4a65c_grow_92f84 cJx4a65c_grow_92f84 4 (some (.array (.object "java/lang/Object"))) 2 1 30 [.ref (ad 1 li), .int (nI 1)] ad μ (fun v' ad' μ' => ∃ q : Nat, v' = some (.ref q) ∧ ad' = nmu ad 2 li q ∧ μ' = up2 (up2 μ 2 li (aO z 10 (fun _ => none))) 1 li (.inr (4, [.int (nI m), .ref q, .int (nI (0))]))) exNo := by
  refine ko_of hl (by decide +kernel) (Nat.le_of_ble_eq_true rfl) (fun g hg K => ?_)
  subst hg
  show WW g z 4 0 0 ad μ 0 [(0, .ref (ad 1 li)), (1, .int (nI 1))] []
  refine r_aload_n K dJx4a65c_grow_92f84_0 0 rfl rfl ?_
  refine r_get (v := .ref (z.2.2 0)) K fd_Jx4a65c_9 h1 rfl rfl dJx4a65c_grow_92f84_1 ?_
  refine r_alenT K dJx4a65c_grow_92f84_4 ?_
  refine r_istore_n (lv' := [(2, .int (nI 0)), (0, .ref (ad 1 li)), (1, .int (nI 1))]) K dJx4a65c_grow_92f84_5 rfl (by decide) rfl ?_
  refine r_iload_n K dJx4a65c_grow_92f84_6 0 rfl rfl ?_
  refine r_if_gt K dJx4a65c_grow_92f84_7 20 (0 < 0) (n0_gt (by omega)) (by decide) (fun c_7 => ?_) (fun c_7 => ?_)
  · skip
    exfalso; omega
  · skip
    refine r_aload_n K dJx4a65c_grow_92f84_10 1 rfl rfl ?_
    refine r_get (v := .ref (z.2.2 0)) K fd_Jx4a65c_9 h1 rfl rfl dJx4a65c_grow_92f84_11 ?_
    refine r_gets (ref := "") K (kE K).2.2.2.1.1 wd_102 dJx4a65c_grow_92f84_14 ?_
    refine r_acmp_eq K 45 dJx4a65c_grow_92f84_17 (by decide) (fun c_17 => ?_) (fun c_17 => ?_)
    · skip
      refine r_aload_n K dJx4a65c_grow_92f84_45 1 rfl rfl ?_
      refine r_bipush (v := nI 10) K dJx4a65c_grow_92f84_46 (by decide) ?_
      refine r_iload_n K dJx4a65c_grow_92f84_48 2 rfl rfl ?_
      refine r_mmax (v := nI 10) K wd_592 wd_551 wd_68 wd_552 (Nat.le_of_ble_eq_true rfl) (by decide) (by decide) (by decide) dJx4a65c_grow_92f84_49 ?_
      refine r_newq K 2 li h2 wd_593 rfl (by omega) (Nat.le_of_ble_eq_true rfl) (Nat.le_of_ble_eq_true rfl) dJx4a65c_grow_92f84_52 (fun q_52 => ?_)
      show WW g z 4 1 10 (nmu ad 2 li q_52) (up2 μ 2 li (aO z 10 (fun _ => none))) 55 [(2, .int (nI 0)), (0, .ref (ad 1 li)), (1, .int (nI 1))] [.ref (q_52), .ref (ad 1 li)]
      refine r_dup_x1 K dJx4a65c_grow_92f84_55 rfl rfl ?_
      refine r_put K fd_Jx4a65c_9 ((up2_n (fun q => absurd q.1 (by decide))).trans h1) (nmu_n (fun q => absurd q.1 (by decide))) rfl rfl (Nat.le_of_ble_eq_true rfl) rfl dJx4a65c_grow_92f84_56 ?_
      show WW g z 4 1 10 (nmu ad 2 li q_52) (up2 (up2 μ 2 li (aO z 10 (fun _ => none))) 1 li (.inr (4, [.int (nI m), .ref (q_52), .int (nI 0)]))) 59 [(2, .int (nI 0)), (0, .ref (ad 1 li)), (1, .int (nI 1))] [.ref (q_52)]
      exact r_aret K (.inr ⟨_, rfl⟩) (.inr ⟨_, rfl⟩) (by decide) (by decide) ⟨q_52, rfl, rfl, rfl⟩ dJx4a65c_grow_92f84_59
    · skip
      exfalso; exact c_17 rfl
set_option maxRecDepth 100000 in
set_option maxHeartbeats 4000000 in
theorem k_Jx4a65c_grow_92f84_F {z : Zx} {l : Launch} {ad : Nm} {μ : Ce} (hl : l.stackTraces = false) {li m c ci : Nat} {f : Nat → Option Nat} {r : vw_C} (h1 : μ 1 li = some (.inr (4, [.int (nI m), .ref (ad 2 li), .int (nI c)]))) (h2 : μ 2 li = some (aO z c f)) (hc1 : 1 ≤ c) (hc2 : c ≤ 20) (h90 : μ 90 0 = none) (h4 : 4 ≠ ci) (hr : vwCl[ci]? = some r) (hca : (r.1, "java/lang/Object") ∈ caZ) (hel : Els ci ad μ f) (hf : ∀ j, c ≤ j → f j = none) : Ko z l yJx4a65c_grow_92f84 cJx4a65c_grow_92f84 4 (some (.array (.object "java/lang/Object"))) 2 1 30 [.ref (ad 1 li), .int (nI (c + 1))] ad μ (fun v' ad' μ' => ∃ q : Nat, v' = some (.ref q) ∧ ad' = nmu ad 2 li q ∧ μ' = up2 (up2 μ 2 li (aO z (gro c) f)) 1 li (.inr (4, [.int (nI m), .ref q, .int (nI (c))]))) exNo := by
  refine ko_of hl (by decide +kernel) (Nat.le_of_ble_eq_true rfl) (fun g hg K => ?_)
  subst hg
  have hg1 := gro_lt c
  have hg2 := gro_le hc2
  show WW g z 4 0 0 ad μ 0 [(0, .ref (ad 1 li)), (1, .int (nI (c + 1)))] []
  refine r_aload_n K dJx4a65c_grow_92f84_0 0 rfl rfl ?_
  refine r_get (v := .ref (ad 2 li)) K fd_Jx4a65c_9 h1 rfl rfl dJx4a65c_grow_92f84_1 ?_
  refine r_alenO K h2 rfl dJx4a65c_grow_92f84_4 ?_
  refine r_istore_n (lv' := [(2, .int (nI c)), (0, .ref (ad 1 li)), (1, .int (nI (c + 1)))]) K dJx4a65c_grow_92f84_5 rfl (by decide) rfl ?_
  refine r_iload_n K dJx4a65c_grow_92f84_6 0 rfl rfl ?_
  refine r_if_gt K dJx4a65c_grow_92f84_7 20 (0 < c) (n0_gt (by omega)) (by decide) (fun c_7 => ?_) (fun c_7 => ?_)
  · skip
    refine r_iload_n K dJx4a65c_grow_92f84_20 0 rfl rfl ?_
    refine r_iload_n K dJx4a65c_grow_92f84_21 2 rfl rfl ?_
    refine r_iload_n K dJx4a65c_grow_92f84_22 0 rfl rfl ?_
    refine r_isub (v := nI ((c + 1) - c)) K dJx4a65c_grow_92f84_23 (pk_sub (by omega)) ?_
    refine r_iload_n K dJx4a65c_grow_92f84_24 0 rfl rfl ?_
    refine r_iconst (v := nI 1) K dJx4a65c_grow_92f84_25 (by decide) ?_
    refine r_ishr (v := nI (c / 2)) K dJx4a65c_grow_92f84_26 (shrN (by omega) 2 (by decide)) ?_
    refine r_callS (st := []) K (k_J8_newLength_cabcc (a := c) (b := (c + 1) - c) (c := c / 2) (d := gro c) hl (by unfold gro; split <;> omega) (by omega) (by omega)) cw_Jx4a65c_73 wd_548 (by decide) (by decide) rfl (Nat.le_of_ble_eq_true rfl) (by decide) (by decide) dJx4a65c_grow_92f84_27 ?_
    rintro _ _ _ ⟨rfl, rfl, rfl⟩
    show WW g z 4 0 0 ad μ 30 [(2, .int (nI c)), (0, .ref (ad 1 li)), (1, .int (nI (c + 1)))] [.int (nI (gro c))]
    refine r_istore_n (lv' := [(3, .int (nI (gro c))), (2, .int (nI c)), (0, .ref (ad 1 li)), (1, .int (nI (c + 1)))]) K dJx4a65c_grow_92f84_30 rfl (by decide) rfl ?_
    refine r_aload_n K dJx4a65c_grow_92f84_31 2 rfl rfl ?_
    refine r_aload_n K dJx4a65c_grow_92f84_32 2 rfl rfl ?_
    refine r_get (v := .ref (ad 2 li)) K fd_Jx4a65c_9 h1 rfl rfl dJx4a65c_grow_92f84_33 ?_
    refine r_iload_n K dJx4a65c_grow_92f84_36 0 rfl rfl ?_
    refine r_callS (st := [.ref (ad 1 li)]) K (k_J7_copyOf_1904c (li := li) (c := c) (d := (gro c)) hl h2 h90 (by omega) (by omega) hr hca hel hf) cw_Jx4a65c_66 wd_558 (by decide) (by decide) rfl (Nat.le_of_ble_eq_true rfl) (by decide) (by decide) dJx4a65c_grow_92f84_37 ?_
    rintro _ _ _ ⟨q_37, rfl, rfl, rfl⟩
    show WW g z 4 1 30 (nmu ad 90 0 q_37) (up2 μ 90 0 (aO z (gro c) f)) 40 [(3, .int (nI (gro c))), (2, .int (nI c)), (0, .ref (ad 1 li)), (1, .int (nI (c + 1)))] [.ref (q_37), .ref (ad 1 li)]
    refine r_dup_x1 K dJx4a65c_grow_92f84_40 rfl rfl ?_
    refine r_put K fd_Jx4a65c_9 ((up2_n (fun q => absurd q.1 (by decide))).trans h1) (nmu_n (fun q => absurd q.1 (by decide))) rfl rfl (Nat.le_of_ble_eq_true rfl) rfl dJx4a65c_grow_92f84_41 ?_
    show WW g z 4 1 30 (nmu ad 90 0 q_37) (up2 (up2 μ 90 0 (aO z (gro c) f)) 1 li (.inr (4, [.int (nI m), .ref (q_37), .int (nI c)]))) 44 [(3, .int (nI (gro c))), (2, .int (nI c)), (0, .ref (ad 1 li)), (1, .int (nI (c + 1)))] [.ref (q_37)]
    refine r_sw h90 ?_
    show WW g z 4 1 30 (nmu ad 2 li q_37) (up2 (up2 μ 2 li (aO z (gro c) f)) 1 li (.inr (4, [.int (nI m), .ref (q_37), .int (nI c)]))) 44 [(3, .int (nI (gro c))), (2, .int (nI c)), (0, .ref (ad 1 li)), (1, .int (nI (c + 1)))] [.ref (q_37)]
    exact r_aret K (.inr ⟨_, rfl⟩) (.inr ⟨_, rfl⟩) (by decide) (by decide) ⟨q_37, rfl, rfl, rfl⟩ dJx4a65c_grow_92f84_44
  · skip
    exfalso; omega
set_option maxRecDepth 100000 in
set_option maxHeartbeats 4000000 in
theorem k_Jx4a65c_grow_d5877_E {z : Zx} {l : Launch} {ad : Nm} {μ : Ce} (hl : l.stackTraces = false) {li m : Nat} (h1 : μ 1 li = some (.inr (4, [.int (nI m), .ref (z.2.2 0), .int (nI 0)]))) (h2 : μ 2 li = none) : Ko z l yJx4a65c_grow_d5877 cJx4a65c_grow_d5877 1 (some (.array (.object "java/lang/Object"))) 3 1 30 [.ref (ad 1 li)] ad μ (fun v' ad' μ' => ∃ q : Nat, v' = some (.ref q) ∧ ad' = nmu ad 2 li q ∧ μ' = up2 (up2 μ 2 li (aO z 10 (fun _ => none))) 1 li (.inr (4, [.int (nI m), .ref q, .int (nI (0))]))) exNo := by
  refine ko_of hl (by decide +kernel) (Nat.le_of_ble_eq_true rfl) (fun g hg K => ?_)
  subst hg
  show WW g z 1 0 0 ad μ 0 [(0, .ref (ad 1 li))] []
  refine r_aload_n K dJx4a65c_grow_d5877_0 0 rfl rfl ?_
  refine r_aload_n K dJx4a65c_grow_d5877_1 0 rfl rfl ?_
  refine r_get (v := .int (nI 0)) K fd_Jx4a65c_48 h1 rfl rfl dJx4a65c_grow_d5877_2 ?_
  refine r_iconst (v := nI 1) K dJx4a65c_grow_d5877_5 (by decide) ?_
  refine r_iadd (v := nI (0 + 1)) K dJx4a65c_grow_d5877_6 (nI_add _ _) ?_
  show WW g z 1 0 0 ad μ 7 [(0, .ref (ad 1 li))] [.int (nI 1), .ref (ad 1 li)]
  refine r_callV (st := []) K (k_Jx4a65c_grow_92f84_E (li := li) hl h1 h2) cw_Jx4a65c_69 wd_545 wd_10 (by decide) (by decide) h1 rfl rfl rfl (Nat.le_of_ble_eq_true rfl) (by decide) (by decide) dJx4a65c_grow_d5877_7 ?_
  rintro _ _ _ ⟨q_7, rfl, rfl, rfl⟩
  show WW g z 1 1 30 (nmu ad 2 li q_7) (up2 (up2 μ 2 li (aO z 10 (fun _ => none))) 1 li (.inr (4, [.int (nI m), .ref (q_7), .int (nI 0)]))) 10 [(0, .ref (ad 1 li))] [.ref (q_7)]
  exact r_aret K (.inr ⟨_, rfl⟩) (.inr ⟨_, rfl⟩) (by decide) (by decide) ⟨q_7, rfl, rfl, rfl⟩ dJx4a65c_grow_d5877_10
set_option maxRecDepth 100000 in
set_option maxHeartbeats 4000000 in
theorem k_Jx4a65c_grow_d5877_F {z : Zx} {l : Launch} {ad : Nm} {μ : Ce} (hl : l.stackTraces = false) {li m c ci : Nat} {f : Nat → Option Nat} {r : vw_C} (h1 : μ 1 li = some (.inr (4, [.int (nI m), .ref (ad 2 li), .int (nI c)]))) (h2 : μ 2 li = some (aO z c f)) (hc1 : 1 ≤ c) (hc2 : c ≤ 20) (h90 : μ 90 0 = none) (h4 : 4 ≠ ci) (hr : vwCl[ci]? = some r) (hca : (r.1, "java/lang/Object") ∈ caZ) (hel : Els ci ad μ f) (hf : ∀ j, c ≤ j → f j = none) : Ko z l yJx4a65c_grow_d5877 cJx4a65c_grow_d5877 1 (some (.array (.object "java/lang/Object"))) 3 1 30 [.ref (ad 1 li)] ad μ (fun v' ad' μ' => ∃ q : Nat, v' = some (.ref q) ∧ ad' = nmu ad 2 li q ∧ μ' = up2 (up2 μ 2 li (aO z (gro c) f)) 1 li (.inr (4, [.int (nI m), .ref q, .int (nI (c))]))) exNo := by
  refine ko_of hl (by decide +kernel) (Nat.le_of_ble_eq_true rfl) (fun g hg K => ?_)
  subst hg
  show WW g z 1 0 0 ad μ 0 [(0, .ref (ad 1 li))] []
  refine r_aload_n K dJx4a65c_grow_d5877_0 0 rfl rfl ?_
  refine r_aload_n K dJx4a65c_grow_d5877_1 0 rfl rfl ?_
  refine r_get (v := .int (nI c)) K fd_Jx4a65c_48 h1 rfl rfl dJx4a65c_grow_d5877_2 ?_
  refine r_iconst (v := nI 1) K dJx4a65c_grow_d5877_5 (by decide) ?_
  refine r_iadd (v := nI (c + 1)) K dJx4a65c_grow_d5877_6 (nI_add _ _) ?_
  refine r_callV (st := []) K (k_Jx4a65c_grow_92f84_F (li := li) hl h1 h2 hc1 hc2 h90 h4 hr hca hel hf) cw_Jx4a65c_69 wd_545 wd_10 (by decide) (by decide) h1 rfl rfl rfl (Nat.le_of_ble_eq_true rfl) (by decide) (by decide) dJx4a65c_grow_d5877_7 ?_
  rintro _ _ _ ⟨q_7, rfl, rfl, rfl⟩
  show WW g z 1 1 30 (nmu ad 2 li q_7) (up2 (up2 μ 2 li (aO z (gro c) f)) 1 li (.inr (4, [.int (nI m), .ref (q_7), .int (nI c)]))) 10 [(0, .ref (ad 1 li))] [.ref (q_7)]
  exact r_aret K (.inr ⟨_, rfl⟩) (.inr ⟨_, rfl⟩) (by decide) (by decide) ⟨q_7, rfl, rfl, rfl⟩ dJx4a65c_grow_d5877_10
set_option maxRecDepth 100000 in
set_option maxHeartbeats 4000000 in
theorem k_Jx4a65c_add_72be8_E {z : Zx} {l : Launch} {ad : Nm} {μ : Ce} (hl : l.stackTraces = false) {li m : Nat} (h1 : μ 1 li = some (.inr (4, [.int (nI m), .ref (z.2.2 0), .int (nI 0)]))) (h2 : μ 2 li = none) {kv iv e0 cv : Nat} {vs : List Value} (hk1 : kv ≠ 1) (hk2 : kv ≠ 2) (hv : μ kv iv = some (.inr (cv, vs))) (ha0 : ad kv iv = e0) (hcv : ∀ r : vw_C, vwCl[cv]? = some r → (r.1, "java/lang/Object") ∈ caZ) : Ko z l yJx4a65c_add_72be8 cJx4a65c_add_72be8 4 none 4 1 30 [.ref (ad 1 li), .ref e0, .ref (z.2.2 0), .int (nI 0)] ad μ (fun v' ad' μ' => ∃ q : Nat, v' = none ∧ ad' = nmu ad 2 li q ∧ μ' = up2 (up2 μ 2 li (aO z 10 (va_up (fun _ => none) 0 (some e0)))) 1 li (.inr (4, [.int (nI m), .ref q, .int (nI (0 + 1))]))) exNo := by
  refine ko_of hl (by decide +kernel) (Nat.le_of_ble_eq_true rfl) (fun g hg K => ?_)
  subst hg
  show WW g z 4 0 0 ad μ 0 [(0, .ref (ad 1 li)), (1, .ref e0), (2, .ref (z.2.2 0)), (3, .int (nI 0))] []
  refine r_iload_n K dJx4a65c_add_72be8_0 3 rfl rfl ?_
  refine r_aload_n K dJx4a65c_add_72be8_1 2 rfl rfl ?_
  refine r_alenT K dJx4a65c_add_72be8_2 ?_
  refine r_icmp_ne K dJx4a65c_add_72be8_3 11 (0 = 0) (nI_eq (by omega) (by omega)) (by decide) (fun c_3 => ?_) (fun c_3 => ?_)
  · skip
    exfalso; omega
  · skip
    refine r_aload_n K dJx4a65c_add_72be8_6 0 rfl rfl ?_
    refine r_callV (st := []) K (k_Jx4a65c_grow_d5877_E (li := li) hl h1 h2) cw_Jx4a65c_129 wd_541 wd_9 (by decide) (by decide) h1 rfl rfl rfl (Nat.le_of_ble_eq_true rfl) (by decide) (by decide) dJx4a65c_add_72be8_7 ?_
    rintro _ _ _ ⟨q_7, rfl, rfl, rfl⟩
    show WW g z 4 1 30 (nmu ad 2 li q_7) (up2 (up2 μ 2 li (aO z 10 (fun _ => none))) 1 li (.inr (4, [.int (nI m), .ref (q_7), .int (nI 0)]))) 10 [(0, .ref (ad 1 li)), (1, .ref e0), (2, .ref (z.2.2 0)), (3, .int (nI 0))] [.ref (q_7)]
    refine r_astore_n (lv' := [(2, .ref (q_7)), (0, .ref (ad 1 li)), (1, .ref e0), (3, .int (nI 0))]) K dJx4a65c_add_72be8_10 rfl (by decide) rfl ?_
    refine r_aload_n K dJx4a65c_add_72be8_11 0 rfl rfl ?_
    refine r_iload_n K dJx4a65c_add_72be8_12 3 rfl rfl ?_
    refine r_aload_n K dJx4a65c_add_72be8_13 2 rfl rfl ?_
    refine r_aast (j := 0) (f' := (va_up (fun _ => none) 0 (some e0))) K ((up2_n (fun q => absurd q.1 (by decide))).trans up2_s) nmu_s rfl (by omega) (by omega) ((up2_n (by omega)).trans ((up2_n (by omega)).trans hv)) ((nmu_n (by omega)).trans ha0) hcv rfl dJx4a65c_add_72be8_14 ?_
    refine r_mu (μ' := (up2 (up2 μ 1 li (.inr (4, [.int (nI m), .ref (q_7), .int (nI 0)]))) 2 li (aO z 10 (va_up (fun _ => none) 0 (some e0))))) (up2_ov (fun _ _ q => by simp only [up2, if_neg q])) ?_
    show WW g z 4 1 30 (nmu ad 2 li q_7) (up2 (up2 μ 1 li (.inr (4, [.int (nI m), .ref (q_7), .int (nI 0)]))) 2 li (aO z 10 (va_up (fun _ => none) 0 (some e0)))) 15 [(2, .ref (q_7)), (0, .ref (ad 1 li)), (1, .ref e0), (3, .int (nI 0))] []
    refine r_aload_n K dJx4a65c_add_72be8_15 1 rfl rfl ?_
    refine r_iload_n K dJx4a65c_add_72be8_16 3 rfl rfl ?_
    refine r_iconst (v := nI 1) K dJx4a65c_add_72be8_17 (by decide) ?_
    refine r_iadd (v := nI (0 + 1)) K dJx4a65c_add_72be8_18 (nI_add _ _) ?_
    refine r_put K fd_Jx4a65c_48 ((up2_n (fun q => absurd q.1 (by decide))).trans up2_s) (nmu_n (fun q => absurd q.1 (by decide))) rfl rfl (Nat.le_of_ble_eq_true rfl) rfl dJx4a65c_add_72be8_19 ?_
    refine r_mu (μ' := (up2 (up2 μ 2 li (aO z 10 (va_up (fun _ => none) 0 (some e0)))) 1 li (.inr (4, [.int (nI m), .ref (q_7), .int (nI (0 + 1))])))) (up2_ov (fun _ _ q => by simp only [up2, if_neg q])) ?_
    show WW g z 4 1 30 (nmu ad 2 li q_7) (up2 (up2 μ 2 li (aO z 10 (va_up (fun _ => none) 0 (some e0)))) 1 li (.inr (4, [.int (nI m), .ref (q_7), .int (nI (0 + 1))]))) 22 [(2, .ref (q_7)), (0, .ref (ad 1 li)), (1, .ref e0), (3, .int (nI 0))] []
    exact r_vret K (by decide) (by decide) ⟨q_7, rfl, rfl, rfl⟩ dJx4a65c_add_72be8_22
set_option maxRecDepth 100000 in
set_option maxHeartbeats 4000000 in
theorem k_Jx4a65c_add_72be8_F {z : Zx} {l : Launch} {ad : Nm} {μ : Ce} (hl : l.stackTraces = false) {li m c ci : Nat} {f : Nat → Option Nat} {r : vw_C} (h1 : μ 1 li = some (.inr (4, [.int (nI m), .ref (ad 2 li), .int (nI c)]))) (h2 : μ 2 li = some (aO z c f)) (hc1 : 1 ≤ c) (hc2 : c ≤ 20) (h90 : μ 90 0 = none) (h4 : 4 ≠ ci) (hr : vwCl[ci]? = some r) (hca : (r.1, "java/lang/Object") ∈ caZ) (hel : Els ci ad μ f) (hf : ∀ j, c ≤ j → f j = none) {kv iv e0 cv : Nat} {vs : List Value} (hk1 : kv ≠ 1) (hk2 : kv ≠ 2) (hv : μ kv iv = some (.inr (cv, vs))) (ha0 : ad kv iv = e0) (hcv : ∀ r : vw_C, vwCl[cv]? = some r → (r.1, "java/lang/Object") ∈ caZ) : Ko z l yJx4a65c_add_72be8 cJx4a65c_add_72be8 4 none 4 1 30 [.ref (ad 1 li), .ref e0, .ref (ad 2 li), .int (nI c)] ad μ (fun v' ad' μ' => ∃ q : Nat, v' = none ∧ ad' = nmu ad 2 li q ∧ μ' = up2 (up2 μ 2 li (aO z (gro c) (va_up f c (some e0)))) 1 li (.inr (4, [.int (nI m), .ref q, .int (nI (c + 1))]))) exNo := by
  refine ko_of hl (by decide +kernel) (Nat.le_of_ble_eq_true rfl) (fun g hg K => ?_)
  subst hg
  have hg1 := gro_lt c
  have hg2 := gro_le hc2
  show WW g z 4 0 0 ad μ 0 [(0, .ref (ad 1 li)), (1, .ref e0), (2, .ref (ad 2 li)), (3, .int (nI c))] []
  refine r_iload_n K dJx4a65c_add_72be8_0 3 rfl rfl ?_
  refine r_aload_n K dJx4a65c_add_72be8_1 2 rfl rfl ?_
  refine r_alenO K h2 rfl dJx4a65c_add_72be8_2 ?_
  refine r_icmp_ne K dJx4a65c_add_72be8_3 11 (c = c) (nI_eq (by omega) (by omega)) (by decide) (fun c_3 => ?_) (fun c_3 => ?_)
  · skip
    exfalso; omega
  · skip
    refine r_aload_n K dJx4a65c_add_72be8_6 0 rfl rfl ?_
    refine r_callV (st := []) K (k_Jx4a65c_grow_d5877_F (li := li) hl h1 h2 hc1 hc2 h90 h4 hr hca hel hf) cw_Jx4a65c_129 wd_541 wd_9 (by decide) (by decide) h1 rfl rfl rfl (Nat.le_of_ble_eq_true rfl) (by decide) (by decide) dJx4a65c_add_72be8_7 ?_
    rintro _ _ _ ⟨q_7, rfl, rfl, rfl⟩
    show WW g z 4 1 30 (nmu ad 2 li q_7) (up2 (up2 μ 2 li (aO z (gro c) f)) 1 li (.inr (4, [.int (nI m), .ref (q_7), .int (nI c)]))) 10 [(0, .ref (ad 1 li)), (1, .ref e0), (2, .ref (ad 2 li)), (3, .int (nI c))] [.ref (q_7)]
    refine r_astore_n (lv' := [(2, .ref (q_7)), (0, .ref (ad 1 li)), (1, .ref e0), (3, .int (nI c))]) K dJx4a65c_add_72be8_10 rfl (by decide) rfl ?_
    refine r_aload_n K dJx4a65c_add_72be8_11 0 rfl rfl ?_
    refine r_iload_n K dJx4a65c_add_72be8_12 3 rfl rfl ?_
    refine r_aload_n K dJx4a65c_add_72be8_13 2 rfl rfl ?_
    refine r_aast (j := c) (f' := (va_up f c (some e0))) K ((up2_n (fun q => absurd q.1 (by decide))).trans up2_s) nmu_s rfl (by omega) (by omega) ((up2_n (by omega)).trans ((up2_n (by omega)).trans hv)) ((nmu_n (by omega)).trans ha0) hcv rfl dJx4a65c_add_72be8_14 ?_
    refine r_mu (μ' := (up2 (up2 μ 1 li (.inr (4, [.int (nI m), .ref (q_7), .int (nI c)]))) 2 li (aO z (gro c) (va_up f c (some e0))))) (up2_ov (fun _ _ q => by simp only [up2, if_neg q])) ?_
    show WW g z 4 1 30 (nmu ad 2 li q_7) (up2 (up2 μ 1 li (.inr (4, [.int (nI m), .ref (q_7), .int (nI c)]))) 2 li (aO z (gro c) (va_up f c (some e0)))) 15 [(2, .ref (q_7)), (0, .ref (ad 1 li)), (1, .ref e0), (3, .int (nI c))] []
    refine r_aload_n K dJx4a65c_add_72be8_15 1 rfl rfl ?_
    refine r_iload_n K dJx4a65c_add_72be8_16 3 rfl rfl ?_
    refine r_iconst (v := nI 1) K dJx4a65c_add_72be8_17 (by decide) ?_
    refine r_iadd (v := nI (c + 1)) K dJx4a65c_add_72be8_18 (nI_add _ _) ?_
    refine r_put K fd_Jx4a65c_48 ((up2_n (fun q => absurd q.1 (by decide))).trans up2_s) (nmu_n (fun q => absurd q.1 (by decide))) rfl rfl (Nat.le_of_ble_eq_true rfl) rfl dJx4a65c_add_72be8_19 ?_
    refine r_mu (μ' := (up2 (up2 μ 2 li (aO z (gro c) (va_up f c (some e0)))) 1 li (.inr (4, [.int (nI m), .ref (q_7), .int (nI (c + 1))])))) (up2_ov (fun _ _ q => by simp only [up2, if_neg q])) ?_
    show WW g z 4 1 30 (nmu ad 2 li q_7) (up2 (up2 μ 2 li (aO z (gro c) (va_up f c (some e0)))) 1 li (.inr (4, [.int (nI m), .ref (q_7), .int (nI (c + 1))]))) 22 [(2, .ref (q_7)), (0, .ref (ad 1 li)), (1, .ref e0), (3, .int (nI c))] []
    exact r_vret K (by decide) (by decide) ⟨q_7, rfl, rfl, rfl⟩ dJx4a65c_add_72be8_22
set_option maxRecDepth 100000 in
set_option maxHeartbeats 4000000 in
theorem k_Jx4a65c_add_72be8_R {z : Zx} {l : Launch} {ad : Nm} {μ : Ce} (hl : l.stackTraces = false) {li m c n : Nat} {f : Nat → Option Nat} (h1 : μ 1 li = some (.inr (4, [.int (nI m), .ref (ad 2 li), .int (nI c)]))) (h2 : μ 2 li = some (aO z n f)) (hcn : c < n) (hn : n ≤ 100) {kv iv e0 cv : Nat} {vs : List Value} (hk1 : kv ≠ 1) (hk2 : kv ≠ 2) (hv : μ kv iv = some (.inr (cv, vs))) (ha0 : ad kv iv = e0) (hcv : ∀ r : vw_C, vwCl[cv]? = some r → (r.1, "java/lang/Object") ∈ caZ) : Ko z l yJx4a65c_add_72be8 cJx4a65c_add_72be8 4 none 4 1 30 [.ref (ad 1 li), .ref e0, .ref (ad 2 li), .int (nI c)] ad μ (fun v' ad' μ' => ∃ q : Nat, v' = none ∧ ad' = nmu ad 2 li q ∧ μ' = up2 (up2 μ 2 li (aO z n (va_up f c (some e0)))) 1 li (.inr (4, [.int (nI m), .ref q, .int (nI (c + 1))]))) exNo := by
  refine ko_of hl (by decide +kernel) (Nat.le_of_ble_eq_true rfl) (fun g hg K => ?_)
  subst hg
  show WW g z 4 0 0 ad μ 0 [(0, .ref (ad 1 li)), (1, .ref e0), (2, .ref (ad 2 li)), (3, .int (nI c))] []
  refine r_iload_n K dJx4a65c_add_72be8_0 3 rfl rfl ?_
  refine r_aload_n K dJx4a65c_add_72be8_1 2 rfl rfl ?_
  refine r_alenO K h2 rfl dJx4a65c_add_72be8_2 ?_
  refine r_icmp_ne K dJx4a65c_add_72be8_3 11 (c = n) (nI_eq (by omega) (by omega)) (by decide) (fun c_3 => ?_) (fun c_3 => ?_)
  · skip
    refine r_aload_n K dJx4a65c_add_72be8_11 2 rfl rfl ?_
    refine r_iload_n K dJx4a65c_add_72be8_12 3 rfl rfl ?_
    refine r_aload_n K dJx4a65c_add_72be8_13 1 rfl rfl ?_
    refine r_aast (j := c) (f' := (va_up f c (some e0))) K h2 rfl rfl (by omega) (by omega) hv ha0 hcv rfl dJx4a65c_add_72be8_14 ?_
    show WW g z 4 0 0 ad (up2 μ 2 li (aO z n (va_up f c (some e0)))) 15 [(0, .ref (ad 1 li)), (1, .ref e0), (2, .ref (ad 2 li)), (3, .int (nI c))] []
    refine r_aload_n K dJx4a65c_add_72be8_15 0 rfl rfl ?_
    refine r_iload_n K dJx4a65c_add_72be8_16 3 rfl rfl ?_
    refine r_iconst (v := nI 1) K dJx4a65c_add_72be8_17 (by decide) ?_
    refine r_iadd (v := nI (c + 1)) K dJx4a65c_add_72be8_18 (nI_add _ _) ?_
    refine r_put K fd_Jx4a65c_48 ((up2_n (fun q => absurd q.1 (by decide))).trans h1) rfl rfl rfl (Nat.le_of_ble_eq_true rfl) rfl dJx4a65c_add_72be8_19 ?_
    show WW g z 4 0 0 ad (up2 (up2 μ 2 li (aO z n (va_up f c (some e0)))) 1 li (.inr (4, [.int (nI m), .ref (ad 2 li), .int (nI (c + 1))]))) 22 [(0, .ref (ad 1 li)), (1, .ref e0), (2, .ref (ad 2 li)), (3, .int (nI c))] []
    exact r_vret K (by decide) (by decide) ⟨_, rfl, nmu_id.symm, rfl⟩ dJx4a65c_add_72be8_22
  · skip
    exfalso; omega
set_option maxRecDepth 100000 in
set_option maxHeartbeats 4000000 in
theorem k_Jx4a65c_add_9ea2d_E {z : Zx} {l : Launch} {ad : Nm} {μ : Ce} (hl : l.stackTraces = false) {li m : Nat} (h1 : μ 1 li = some (.inr (4, [.int (nI m), .ref (z.2.2 0), .int (nI 0)]))) (h2 : μ 2 li = none) {kv iv e0 cv : Nat} {vs : List Value} (hk1 : kv ≠ 1) (hk2 : kv ≠ 2) (hv : μ kv iv = some (.inr (cv, vs))) (ha0 : ad kv iv = e0) (hcv : ∀ r : vw_C, vwCl[cv]? = some r → (r.1, "java/lang/Object") ∈ caZ) : Ko z l yJx4a65c_add_9ea2d cJx4a65c_add_9ea2d 2 (some .boolean) 5 1 30 [.ref (ad 1 li), .ref e0] ad μ (fun v' ad' μ' => ∃ q : Nat, v' = some (.int (nI 1)) ∧ ad' = nmu ad 2 li q ∧ μ' = up2 (up2 μ 2 li (aO z 10 (va_up (fun _ => none) 0 (some e0)))) 1 li (.inr (4, [.int (nI (m + 1)), .ref q, .int (nI (0 + 1))]))) exNo := by
  refine ko_of hl (by decide +kernel) (Nat.le_of_ble_eq_true rfl) (fun g hg K => ?_)
  subst hg
  show WW g z 2 0 0 ad μ 0 [(0, .ref (ad 1 li)), (1, .ref e0)] []
  refine r_aload_n K dJx4a65c_add_9ea2d_0 0 rfl rfl ?_
  refine r_dup K dJx4a65c_add_9ea2d_1 rfl ?_
  refine r_get (v := .int (nI m)) K fd_Jx4a65c_63 h1 rfl rfl dJx4a65c_add_9ea2d_2 ?_
  refine r_iconst (v := nI 1) K dJx4a65c_add_9ea2d_5 (by decide) ?_
  refine r_iadd (v := nI (m + 1)) K dJx4a65c_add_9ea2d_6 (nI_add _ _) ?_
  refine r_put K fd_Jx4a65c_63 h1 rfl rfl rfl (Nat.le_of_ble_eq_true rfl) rfl dJx4a65c_add_9ea2d_7 ?_
  show WW g z 2 0 0 ad (up2 μ 1 li (.inr (4, [.int (nI (m + 1)), .ref (z.2.2 0), .int (nI 0)]))) 10 [(0, .ref (ad 1 li)), (1, .ref e0)] []
  refine r_aload_n K dJx4a65c_add_9ea2d_10 0 rfl rfl ?_
  refine r_aload_n K dJx4a65c_add_9ea2d_11 1 rfl rfl ?_
  refine r_aload_n K dJx4a65c_add_9ea2d_12 0 rfl rfl ?_
  refine r_get (v := .ref (z.2.2 0)) K fd_Jx4a65c_9 up2_s rfl rfl dJx4a65c_add_9ea2d_13 ?_
  refine r_aload_n K dJx4a65c_add_9ea2d_16 0 rfl rfl ?_
  refine r_get (v := .int (nI 0)) K fd_Jx4a65c_48 up2_s rfl rfl dJx4a65c_add_9ea2d_17 ?_
  refine r_callV (st := []) K (k_Jx4a65c_add_72be8_E (li := li) hl up2_s ((up2_n (fun q => absurd q.1 (by decide))).trans h2)  hk1 hk2 ((up2_n (by omega)).trans hv) ha0 hcv) cw_Jx4a65c_131 wd_537 wd_8 (by decide) (by decide) up2_s rfl rfl rfl (Nat.le_of_ble_eq_true rfl) (by decide) (by decide) dJx4a65c_add_9ea2d_20 ?_
  rintro _ _ _ ⟨q_20, rfl, rfl, rfl⟩
  refine r_mu (μ' := (up2 (up2 μ 2 li (aO z 10 (va_up (fun _ => none) 0 (some e0)))) 1 li (.inr (4, [.int (nI (m + 1)), .ref q_20, .int (nI (0 + 1))])))) (up2_ov (fun _ _ q => by simp only [up2, if_neg q])) ?_
  show WW g z 2 1 30 (nmu ad 2 li q_20) (up2 (up2 μ 2 li (aO z 10 (va_up (fun _ => none) 0 (some e0)))) 1 li (.inr (4, [.int (nI (m + 1)), .ref q_20, .int (nI (0 + 1))]))) 23 [(0, .ref (ad 1 li)), (1, .ref e0)] []
  refine r_iconst (v := nI 1) K dJx4a65c_add_9ea2d_23 (by decide) ?_
  exact r_zret K (by first | rfl | decide | exact pI_nar) (by decide) (by decide) ⟨q_20, rfl, rfl, rfl⟩ dJx4a65c_add_9ea2d_24
set_option maxRecDepth 100000 in
set_option maxHeartbeats 4000000 in
theorem k_Jx4a65c_add_9ea2d_F {z : Zx} {l : Launch} {ad : Nm} {μ : Ce} (hl : l.stackTraces = false) {li m c ci : Nat} {f : Nat → Option Nat} {r : vw_C} (h1 : μ 1 li = some (.inr (4, [.int (nI m), .ref (ad 2 li), .int (nI c)]))) (h2 : μ 2 li = some (aO z c f)) (hc1 : 1 ≤ c) (hc2 : c ≤ 20) (h90 : μ 90 0 = none) (h4 : 4 ≠ ci) (hr : vwCl[ci]? = some r) (hca : (r.1, "java/lang/Object") ∈ caZ) (hel : Els ci ad μ f) (hf : ∀ j, c ≤ j → f j = none) {kv iv e0 cv : Nat} {vs : List Value} (hk1 : kv ≠ 1) (hk2 : kv ≠ 2) (hv : μ kv iv = some (.inr (cv, vs))) (ha0 : ad kv iv = e0) (hcv : ∀ r : vw_C, vwCl[cv]? = some r → (r.1, "java/lang/Object") ∈ caZ) : Ko z l yJx4a65c_add_9ea2d cJx4a65c_add_9ea2d 2 (some .boolean) 5 1 30 [.ref (ad 1 li), .ref e0] ad μ (fun v' ad' μ' => ∃ q : Nat, v' = some (.int (nI 1)) ∧ ad' = nmu ad 2 li q ∧ μ' = up2 (up2 μ 2 li (aO z (gro c) (va_up f c (some e0)))) 1 li (.inr (4, [.int (nI (m + 1)), .ref q, .int (nI (c + 1))]))) exNo := by
  refine ko_of hl (by decide +kernel) (Nat.le_of_ble_eq_true rfl) (fun g hg K => ?_)
  subst hg
  show WW g z 2 0 0 ad μ 0 [(0, .ref (ad 1 li)), (1, .ref e0)] []
  refine r_aload_n K dJx4a65c_add_9ea2d_0 0 rfl rfl ?_
  refine r_dup K dJx4a65c_add_9ea2d_1 rfl ?_
  refine r_get (v := .int (nI m)) K fd_Jx4a65c_63 h1 rfl rfl dJx4a65c_add_9ea2d_2 ?_
  refine r_iconst (v := nI 1) K dJx4a65c_add_9ea2d_5 (by decide) ?_
  refine r_iadd (v := nI (m + 1)) K dJx4a65c_add_9ea2d_6 (nI_add _ _) ?_
  refine r_put K fd_Jx4a65c_63 h1 rfl rfl rfl (Nat.le_of_ble_eq_true rfl) rfl dJx4a65c_add_9ea2d_7 ?_
  show WW g z 2 0 0 ad (up2 μ 1 li (.inr (4, [.int (nI (m + 1)), .ref (ad 2 li), .int (nI c)]))) 10 [(0, .ref (ad 1 li)), (1, .ref e0)] []
  refine r_aload_n K dJx4a65c_add_9ea2d_10 0 rfl rfl ?_
  refine r_aload_n K dJx4a65c_add_9ea2d_11 1 rfl rfl ?_
  refine r_aload_n K dJx4a65c_add_9ea2d_12 0 rfl rfl ?_
  refine r_get (v := .ref (ad 2 li)) K fd_Jx4a65c_9 up2_s rfl rfl dJx4a65c_add_9ea2d_13 ?_
  refine r_aload_n K dJx4a65c_add_9ea2d_16 0 rfl rfl ?_
  refine r_get (v := .int (nI c)) K fd_Jx4a65c_48 up2_s rfl rfl dJx4a65c_add_9ea2d_17 ?_
  refine r_callV (st := []) K (k_Jx4a65c_add_72be8_F (li := li) hl up2_s ((up2_n (fun q => absurd q.1 (by decide))).trans h2) hc1 hc2 ((up2_n (fun q => absurd q.1 (by decide))).trans h90) h4 hr hca (hel.up h1 h4) hf hk1 hk2 ((up2_n (by omega)).trans hv) ha0 hcv) cw_Jx4a65c_131 wd_537 wd_8 (by decide) (by decide) up2_s rfl rfl rfl (Nat.le_of_ble_eq_true rfl) (by decide) (by decide) dJx4a65c_add_9ea2d_20 ?_
  rintro _ _ _ ⟨q_20, rfl, rfl, rfl⟩
  refine r_mu (μ' := (up2 (up2 μ 2 li (aO z (gro c) (va_up f c (some e0)))) 1 li (.inr (4, [.int (nI (m + 1)), .ref q_20, .int (nI (c + 1))])))) (up2_ov (fun _ _ q => by simp only [up2, if_neg q])) ?_
  show WW g z 2 1 30 (nmu ad 2 li q_20) (up2 (up2 μ 2 li (aO z (gro c) (va_up f c (some e0)))) 1 li (.inr (4, [.int (nI (m + 1)), .ref q_20, .int (nI (c + 1))]))) 23 [(0, .ref (ad 1 li)), (1, .ref e0)] []
  refine r_iconst (v := nI 1) K dJx4a65c_add_9ea2d_23 (by decide) ?_
  exact r_zret K (by first | rfl | decide | exact pI_nar) (by decide) (by decide) ⟨q_20, rfl, rfl, rfl⟩ dJx4a65c_add_9ea2d_24
set_option maxRecDepth 100000 in
set_option maxHeartbeats 4000000 in
theorem k_Jx4a65c_add_9ea2d_R {z : Zx} {l : Launch} {ad : Nm} {μ : Ce} (hl : l.stackTraces = false) {li m c n : Nat} {f : Nat → Option Nat} (h1 : μ 1 li = some (.inr (4, [.int (nI m), .ref (ad 2 li), .int (nI c)]))) (h2 : μ 2 li = some (aO z n f)) (hcn : c < n) (hn : n ≤ 100) {kv iv e0 cv : Nat} {vs : List Value} (hk1 : kv ≠ 1) (hk2 : kv ≠ 2) (hv : μ kv iv = some (.inr (cv, vs))) (ha0 : ad kv iv = e0) (hcv : ∀ r : vw_C, vwCl[cv]? = some r → (r.1, "java/lang/Object") ∈ caZ) : Ko z l yJx4a65c_add_9ea2d cJx4a65c_add_9ea2d 2 (some .boolean) 5 1 30 [.ref (ad 1 li), .ref e0] ad μ (fun v' ad' μ' => ∃ q : Nat, v' = some (.int (nI 1)) ∧ ad' = nmu ad 2 li q ∧ μ' = up2 (up2 μ 2 li (aO z n (va_up f c (some e0)))) 1 li (.inr (4, [.int (nI (m + 1)), .ref q, .int (nI (c + 1))]))) exNo := by
  refine ko_of hl (by decide +kernel) (Nat.le_of_ble_eq_true rfl) (fun g hg K => ?_)
  subst hg
  show WW g z 2 0 0 ad μ 0 [(0, .ref (ad 1 li)), (1, .ref e0)] []
  refine r_aload_n K dJx4a65c_add_9ea2d_0 0 rfl rfl ?_
  refine r_dup K dJx4a65c_add_9ea2d_1 rfl ?_
  refine r_get (v := .int (nI m)) K fd_Jx4a65c_63 h1 rfl rfl dJx4a65c_add_9ea2d_2 ?_
  refine r_iconst (v := nI 1) K dJx4a65c_add_9ea2d_5 (by decide) ?_
  refine r_iadd (v := nI (m + 1)) K dJx4a65c_add_9ea2d_6 (nI_add _ _) ?_
  refine r_put K fd_Jx4a65c_63 h1 rfl rfl rfl (Nat.le_of_ble_eq_true rfl) rfl dJx4a65c_add_9ea2d_7 ?_
  show WW g z 2 0 0 ad (up2 μ 1 li (.inr (4, [.int (nI (m + 1)), .ref (ad 2 li), .int (nI c)]))) 10 [(0, .ref (ad 1 li)), (1, .ref e0)] []
  refine r_aload_n K dJx4a65c_add_9ea2d_10 0 rfl rfl ?_
  refine r_aload_n K dJx4a65c_add_9ea2d_11 1 rfl rfl ?_
  refine r_aload_n K dJx4a65c_add_9ea2d_12 0 rfl rfl ?_
  refine r_get (v := .ref (ad 2 li)) K fd_Jx4a65c_9 up2_s rfl rfl dJx4a65c_add_9ea2d_13 ?_
  refine r_aload_n K dJx4a65c_add_9ea2d_16 0 rfl rfl ?_
  refine r_get (v := .int (nI c)) K fd_Jx4a65c_48 up2_s rfl rfl dJx4a65c_add_9ea2d_17 ?_
  refine r_callV (st := []) K (k_Jx4a65c_add_72be8_R (li := li) hl up2_s ((up2_n (fun q => absurd q.1 (by decide))).trans h2) hcn hn hk1 hk2 ((up2_n (by omega)).trans hv) ha0 hcv) cw_Jx4a65c_131 wd_537 wd_8 (by decide) (by decide) up2_s rfl rfl rfl (Nat.le_of_ble_eq_true rfl) (by decide) (by decide) dJx4a65c_add_9ea2d_20 ?_
  rintro _ _ _ ⟨q_20, rfl, rfl, rfl⟩
  refine r_mu (μ' := (up2 (up2 μ 2 li (aO z n (va_up f c (some e0)))) 1 li (.inr (4, [.int (nI (m + 1)), .ref q_20, .int (nI (c + 1))])))) (up2_ov (fun _ _ q => by simp only [up2, if_neg q])) ?_
  show WW g z 2 1 30 (nmu ad 2 li q_20) (up2 (up2 μ 2 li (aO z n (va_up f c (some e0)))) 1 li (.inr (4, [.int (nI (m + 1)), .ref q_20, .int (nI (c + 1))]))) 23 [(0, .ref (ad 1 li)), (1, .ref e0)] []
  refine r_iconst (v := nI 1) K dJx4a65c_add_9ea2d_23 (by decide) ?_
  exact r_zret K (by first | rfl | decide | exact pI_nar) (by decide) (by decide) ⟨q_20, rfl, rfl, rfl⟩ dJx4a65c_add_9ea2d_24
set_option maxRecDepth 100000 in
set_option maxHeartbeats 4000000 in
theorem k_Jx4a65c_fastRemove_b59b0 {z : Zx} {l : Launch} {ad : Nm} {μ : Ce} (hl : l.stackTraces = false) {li m c n : Nat} {f : Nat → Option Nat} (h1 : μ 1 li = some (.inr (4, [.int (nI m), .ref (ad 2 li), .int (nI c)]))) (h2 : μ 2 li = some (aO z n f)) (hcn : c ≤ n) (hn : n ≤ 100) {i ci : Nat} {r : vw_C} (hi : i < c) (h4 : 4 ≠ ci) (hr : vwCl[ci]? = some r) (hca : (r.1, "java/lang/Object") ∈ caZ) (hel : Els ci ad μ f) : Ko z l yJx4a65c_fastRemove_b59b0 cJx4a65c_fastRemove_b59b0 4 none 0 0 0 [.ref (ad 1 li), .ref (ad 2 li), .int (nI i)] ad μ (fun v' ad' μ' => v' = none ∧ ad = ad' ∧ μ' = up2 (up2 μ 2 li (aO z n (va_up (va_cpy f f (i + 1) i (c - 1 - i)) (c - 1) none))) 1 li (.inr (4, [.int (nI (m + 1)), .ref (ad 2 li), .int (nI (c - 1))]))) exNo := by
  refine ko_of hl (by decide +kernel) (Nat.le_of_ble_eq_true rfl) (fun g hg K => ?_)
  subst hg
  show WW g z 4 0 0 ad μ 0 [(0, .ref (ad 1 li)), (1, .ref (ad 2 li)), (2, .int (nI i))] []
  refine r_aload_n K dJx4a65c_fastRemove_b59b0_0 0 rfl rfl ?_
  refine r_dup K dJx4a65c_fastRemove_b59b0_1 rfl ?_
  refine r_get (v := .int (nI m)) K fd_Jx4a65c_63 h1 rfl rfl dJx4a65c_fastRemove_b59b0_2 ?_
  refine r_iconst (v := nI 1) K dJx4a65c_fastRemove_b59b0_5 (by decide) ?_
  refine r_iadd (v := nI (m + 1)) K dJx4a65c_fastRemove_b59b0_6 (nI_add _ _) ?_
  refine r_put K fd_Jx4a65c_63 h1 rfl rfl rfl (Nat.le_of_ble_eq_true rfl) rfl dJx4a65c_fastRemove_b59b0_7 ?_
  show WW g z 4 0 0 ad (up2 μ 1 li (.inr (4, [.int (nI (m + 1)), .ref (ad 2 li), .int (nI c)]))) 10 [(0, .ref (ad 1 li)), (1, .ref (ad 2 li)), (2, .int (nI i))] []
  refine r_aload_n K dJx4a65c_fastRemove_b59b0_10 0 rfl rfl ?_
  refine r_get (v := .int (nI c)) K fd_Jx4a65c_48 up2_s rfl rfl dJx4a65c_fastRemove_b59b0_11 ?_
  refine r_iconst (v := nI 1) K dJx4a65c_fastRemove_b59b0_14 (by decide) ?_
  refine r_isub (v := nI (c - 1)) K dJx4a65c_fastRemove_b59b0_15 (pk_sub (by omega)) ?_
  refine r_dup K dJx4a65c_fastRemove_b59b0_16 rfl ?_
  refine r_istore_n (lv' := [(3, .int (nI (c - 1))), (0, .ref (ad 1 li)), (1, .ref (ad 2 li)), (2, .int (nI i))]) K dJx4a65c_fastRemove_b59b0_17 rfl (by decide) rfl ?_
  refine r_iload_n K dJx4a65c_fastRemove_b59b0_18 3 rfl rfl ?_
  refine r_icmp_le K dJx4a65c_fastRemove_b59b0_19 34 (c - 1 ≤ i) (nI_leI (by omega) (by omega)) (by decide) (fun c_19 => ?_) (fun c_19 => ?_)
  · skip
    refine r_aload_n K dJx4a65c_fastRemove_b59b0_34 2 rfl rfl ?_
    refine r_aload_n K dJx4a65c_fastRemove_b59b0_35 1 rfl rfl ?_
    refine r_iload_n K dJx4a65c_fastRemove_b59b0_36 0 rfl rfl ?_
    refine r_dup_x1 K dJx4a65c_fastRemove_b59b0_37 rfl rfl ?_
    refine r_put K fd_Jx4a65c_48 up2_s rfl rfl rfl (Nat.le_of_ble_eq_true rfl) rfl dJx4a65c_fastRemove_b59b0_38 ?_
    refine r_mu up2_up ?_
    show WW g z 4 0 0 ad (up2 μ 1 li (.inr (4, [.int (nI (m + 1)), .ref (ad 2 li), .int (nI (c - 1))]))) 41 [(3, .int (nI (c - 1))), (0, .ref (ad 1 li)), (1, .ref (ad 2 li)), (2, .int (nI i))] [.int (nI (c - 1)), .ref (ad 2 li)]
    refine r_null K dJx4a65c_fastRemove_b59b0_41 ?_
    refine r_aastN (j := c - 1) (f' := (va_up f (c - 1) none)) K ((up2_n (fun q => absurd q.1 (by decide))).trans h2) rfl rfl (by omega) (by omega) rfl dJx4a65c_fastRemove_b59b0_42 ?_
    show WW g z 4 0 0 ad (up2 (up2 μ 1 li (.inr (4, [.int (nI (m + 1)), .ref (ad 2 li), .int (nI (c - 1))]))) 2 li (aO z n (va_up f (c - 1) none))) 43 [(3, .int (nI (c - 1))), (0, .ref (ad 1 li)), (1, .ref (ad 2 li)), (2, .int (nI i))] []
    exact r_vret K (by decide) (by decide) ⟨rfl, rfl, by rw [show c - 1 - i = 0 by omega, cpy_0]; exact up2_cm (by omega)⟩ dJx4a65c_fastRemove_b59b0_43
  · skip
    refine r_aload_n K dJx4a65c_fastRemove_b59b0_22 2 rfl rfl ?_
    refine r_iload_n K dJx4a65c_fastRemove_b59b0_23 3 rfl rfl ?_
    refine r_iconst (v := nI 1) K dJx4a65c_fastRemove_b59b0_24 (by decide) ?_
    refine r_iadd (v := nI (i + 1)) K dJx4a65c_fastRemove_b59b0_25 (nI_add _ _) ?_
    refine r_aload_n K dJx4a65c_fastRemove_b59b0_26 2 rfl rfl ?_
    refine r_iload_n K dJx4a65c_fastRemove_b59b0_27 3 rfl rfl ?_
    refine r_iload_n K dJx4a65c_fastRemove_b59b0_28 0 rfl rfl ?_
    refine r_iload_n K dJx4a65c_fastRemove_b59b0_29 3 rfl rfl ?_
    refine r_isub (v := nI ((c - 1) - i)) K dJx4a65c_fastRemove_b59b0_30 (pk_sub (by omega)) ?_
    refine r_copyq (st := []) (sp := i + 1) (dp := i) (w := (c - 1) - i) K wd_704 wd_591 wd_590 wd_70 ((up2_n (fun q => absurd q.1 (by decide))).trans h2) rfl ((up2_n (fun q => absurd q.1 (by decide))).trans h2) rfl rfl rfl rfl (by omega) (by omega) (by omega) (by omega) hr hca (fun i _ q h => (hel.up h1 h4) _ q h) (Nat.le_of_ble_eq_true rfl) dJx4a65c_fastRemove_b59b0_31 ?_
    show WW g z 4 0 0 ad (up2 (up2 μ 1 li (.inr (4, [.int (nI (m + 1)), .ref (ad 2 li), .int (nI c)]))) 2 li (aO z n (va_cpy f f (i + 1) i ((c - 1) - i)))) 34 [(3, .int (nI (c - 1))), (0, .ref (ad 1 li)), (1, .ref (ad 2 li)), (2, .int (nI i))] []
    refine r_aload_n K dJx4a65c_fastRemove_b59b0_34 2 rfl rfl ?_
    refine r_aload_n K dJx4a65c_fastRemove_b59b0_35 1 rfl rfl ?_
    refine r_iload_n K dJx4a65c_fastRemove_b59b0_36 0 rfl rfl ?_
    refine r_dup_x1 K dJx4a65c_fastRemove_b59b0_37 rfl rfl ?_
    refine r_put K fd_Jx4a65c_48 ((up2_n (fun q => absurd q.1 (by decide))).trans up2_s) rfl rfl rfl (Nat.le_of_ble_eq_true rfl) rfl dJx4a65c_fastRemove_b59b0_38 ?_
    refine r_mu (μ' := (up2 (up2 μ 2 li (aO z n (va_cpy f f (i + 1) i ((c - 1) - i)))) 1 li (.inr (4, [.int (nI (m + 1)), .ref (ad 2 li), .int (nI (c - 1))])))) (up2_ov (fun _ _ q => by simp only [up2, if_neg q])) ?_
    show WW g z 4 0 0 ad (up2 (up2 μ 2 li (aO z n (va_cpy f f (i + 1) i ((c - 1) - i)))) 1 li (.inr (4, [.int (nI (m + 1)), .ref (ad 2 li), .int (nI (c - 1))]))) 41 [(3, .int (nI (c - 1))), (0, .ref (ad 1 li)), (1, .ref (ad 2 li)), (2, .int (nI i))] [.int (nI (c - 1)), .ref (ad 2 li)]
    refine r_null K dJx4a65c_fastRemove_b59b0_41 ?_
    refine r_aastN (j := c - 1) (f' := (va_up (va_cpy f f (i + 1) i ((c - 1) - i)) (c - 1) none)) K ((up2_n (fun q => absurd q.1 (by decide))).trans up2_s) rfl rfl (by omega) (by omega) rfl dJx4a65c_fastRemove_b59b0_42 ?_
    refine r_mu (μ' := (up2 (up2 μ 1 li (.inr (4, [.int (nI (m + 1)), .ref (ad 2 li), .int (nI (c - 1))]))) 2 li (aO z n (va_up (va_cpy f f (i + 1) i ((c - 1) - i)) (c - 1) none)))) (up2_ov (fun _ _ q => by simp only [up2, if_neg q])) ?_
    show WW g z 4 0 0 ad (up2 (up2 μ 1 li (.inr (4, [.int (nI (m + 1)), .ref (ad 2 li), .int (nI (c - 1))]))) 2 li (aO z n (va_up (va_cpy f f (i + 1) i ((c - 1) - i)) (c - 1) none))) 43 [(3, .int (nI (c - 1))), (0, .ref (ad 1 li)), (1, .ref (ad 2 li)), (2, .int (nI i))] []
    exact r_vret K (by decide) (by decide) ⟨rfl, rfl, up2_cm (by omega)⟩ dJx4a65c_fastRemove_b59b0_43
set_option maxRecDepth 100000 in
set_option maxHeartbeats 4000000 in
theorem k_Jx4a65c_remove_915e3 {z : Zx} {l : Launch} {ad : Nm} {μ : Ce} (hl : l.stackTraces = false) {li m c n : Nat} {f : Nat → Option Nat} (h1 : μ 1 li = some (.inr (4, [.int (nI m), .ref (ad 2 li), .int (nI c)]))) (h2 : μ 2 li = some (aO z n f)) (hcn : c ≤ n) (hn : n ≤ 100) {i ci : Nat} {r : vw_C} (hi : i < c) (h4 : 4 ≠ ci) (hr : vwCl[ci]? = some r) (hca : (r.1, "java/lang/Object") ∈ caZ) (hel : Els ci ad μ f) {x0 : Nat} (hx : f i = some x0) : Ko z l yJx4a65c_remove_915e3 cJx4a65c_remove_915e3 4 (some (.object "java/lang/Object")) 2 0 0 [.ref (ad 1 li), .int (nI i)] ad μ (fun v' ad' μ' => (∃ q : Nat, v' = some (.ref q)) ∧ ad = ad' ∧ μ' = up2 (up2 μ 2 li (aO z n (va_up (va_cpy f f (i + 1) i (c - 1 - i)) (c - 1) none))) 1 li (.inr (4, [.int (nI (m + 1)), .ref (ad 2 li), .int (nI (c - 1))]))) exNo := by
  refine ko_of hl (by decide +kernel) (Nat.le_of_ble_eq_true rfl) (fun g hg K => ?_)
  subst hg
  show WW g z 4 0 0 ad μ 0 [(0, .ref (ad 1 li)), (1, .int (nI i))] []
  refine r_iload_n K dJx4a65c_remove_915e3_0 1 rfl rfl ?_
  refine r_aload_n K dJx4a65c_remove_915e3_1 0 rfl rfl ?_
  refine r_get (v := .int (nI c)) K fd_Jx4a65c_48 h1 rfl rfl dJx4a65c_remove_915e3_2 ?_
  refine r_callS (st := []) K (k_J15_checkIndex_7cf53 (i := i) (n := c) hl (by omega) (by omega)) cw_Jx4a65c_118 wd_254 (by decide) (by decide) rfl (Nat.le_of_ble_eq_true rfl) (by decide) (by decide) dJx4a65c_remove_915e3_5 ?_
  rintro _ _ _ ⟨rfl, rfl, rfl⟩
  show WW g z 4 0 0 ad μ 8 [(0, .ref (ad 1 li)), (1, .int (nI i))] [.int (nI i)]
  refine r_pop K dJx4a65c_remove_915e3_8 rfl ?_
  refine r_aload_n K dJx4a65c_remove_915e3_9 0 rfl rfl ?_
  refine r_get (v := .ref (ad 2 li)) K fd_Jx4a65c_9 h1 rfl rfl dJx4a65c_remove_915e3_10 ?_
  refine r_astore_n (lv' := [(2, .ref (ad 2 li)), (0, .ref (ad 1 li)), (1, .int (nI i))]) K dJx4a65c_remove_915e3_13 rfl (by decide) rfl ?_
  refine r_aload_n K dJx4a65c_remove_915e3_14 0 rfl rfl ?_
  refine r_iload_n K dJx4a65c_remove_915e3_15 2 rfl rfl ?_
  refine r_aald (j := i) (q := x0) K h2 rfl rfl (by omega) (by omega) hx dJx4a65c_remove_915e3_16 ?_
  refine r_astore_n (lv' := [(3, .ref x0), (2, .ref (ad 2 li)), (0, .ref (ad 1 li)), (1, .int (nI i))]) K dJx4a65c_remove_915e3_17 rfl (by decide) rfl ?_
  refine r_aload_n K dJx4a65c_remove_915e3_18 2 rfl rfl ?_
  refine r_aload_n K dJx4a65c_remove_915e3_19 1 rfl rfl ?_
  refine r_iload_n K dJx4a65c_remove_915e3_20 3 rfl rfl ?_
  refine r_callV (st := []) K (k_Jx4a65c_fastRemove_b59b0 (li := li) hl h1 h2 hcn hn hi h4 hr hca hel) cw_Jx4a65c_144 wd_702 wd_16 (by decide) (by decide) h1 rfl rfl rfl (Nat.le_of_ble_eq_true rfl) (by decide) (by decide) dJx4a65c_remove_915e3_21 ?_
  rintro _ _ _ ⟨rfl, rfl, rfl⟩
  show WW g z 4 0 0 ad (up2 (up2 μ 2 li (aO z n (va_up (va_cpy f f (i + 1) i (c - 1 - i)) (c - 1) none))) 1 li (.inr (4, [.int (nI (m + 1)), .ref (ad 2 li), .int (nI (c - 1))]))) 24 [(3, .ref x0), (2, .ref (ad 2 li)), (0, .ref (ad 1 li)), (1, .int (nI i))] []
  refine r_aload_n K dJx4a65c_remove_915e3_24 0 rfl rfl ?_
  exact r_aret K (.inl ⟨_, rfl⟩) (.inr ⟨_, rfl⟩) (by decide) (by decide) ⟨⟨_, rfl⟩, rfl, rfl⟩ dJx4a65c_remove_915e3_25
