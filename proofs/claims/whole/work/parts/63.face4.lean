set_option maxRecDepth 100000 in
set_option maxHeartbeats 4000000 in
theorem k_X5_addRule {z : Zx} {l : Launch} {σ τ : Sg} {o : Int64 × UInt64} {ad : Nm} (hl : l.stackTraces = false) {x y e0 p0 : Int32} (Q : IR σ) (C : ICo σ) {fr : Nat} (hfr : fr ≤ 1) : Ko z l yX5_addRule cX5_addRule 6 (some .int) 8 5 53 [.ref (ad 0 0), .int (x), .int (y), .int (nI fr), .int (e0), .int (p0)] ad (Wz z ad σ τ o) (okC z ad τ o (cAR σ x y e0 p0) (.int (nI (σ 0 1 0 + 1))) (fRule σ x y fr e0 p0)) (exT (cAR σ x y e0 p0) ["java/lang/IndexOutOfBoundsException", "java/lang/IllegalArgumentException", "java/lang/IllegalStateException"]) := by
  refine ko_of hl (by decide +kernel) (Nat.le_of_ble_eq_true rfl) (fun g hg K => ?_)
  subst hg
  have I := Q.1
  have L := C.1
  have D := C.2.1
  have q0 := I.1.1
  have q1 := I.1.2.1
  have q2 := I.1.2.2.1
  have q3 := I.1.2.2.2.1
  have q5 := Q.2.1
  show WW g z 6 0 0 ad (Wz z ad σ τ o) 0 [(0, .ref (ad 0 0)), (1, .int (x)), (2, .int (y)), (3, .int (nI fr)), (4, .int (e0)), (5, .int (p0))] []
  refine r_aload_n K dX5_addRule_0 0 rfl rfl ?_
  refine r_iload_n K dX5_addRule_1 1 rfl rfl ?_
  refine r_callVx (st := []) K (k_X5_requireBasin (x := x) hl) (fun E h => ⟨0, by unfold cAR; exact if_neg (fun q => h.2 q.1), by rw [h.1]; rfl⟩) cw_X5_108 wd_607 wd_12 (by decide) (by decide) rfl rfl rfl rfl (Nat.le_of_ble_eq_true rfl) (by decide) (by decide) dX5_addRule_2 ?_
  rintro _ _ _ ⟨rfl, rfl, rfl, q_2⟩
  obtain ⟨b, hb, rfl⟩ := (in0_iff (by omega)).mp q_2
  show WW g z 6 1 6 ad (Wz z ad σ τ o) 5 [(0, .ref (ad 0 0)), (1, .int (nI b)), (2, .int (y)), (3, .int (nI fr)), (4, .int (e0)), (5, .int (p0))] []
  refine r_aload_n K dX5_addRule_5 0 rfl rfl ?_
  refine r_iload_n K dX5_addRule_6 2 rfl rfl ?_
  refine r_callVx (st := []) K (k_X5_requireBasin (x := y) hl) (fun E h => ⟨0, by unfold cAR; exact if_neg (fun q => h.2 q.2), by rw [h.1]; rfl⟩) cw_X5_108 wd_607 wd_12 (by decide) (by decide) rfl rfl rfl rfl (Nat.le_of_ble_eq_true rfl) (by decide) (by decide) dX5_addRule_7 ?_
  rintro _ _ _ ⟨rfl, rfl, rfl, q_7⟩
  obtain ⟨b', hb', rfl⟩ := (in0_iff (by omega)).mp q_7
  show WW g z 6 2 12 ad (Wz z ad σ τ o) 10 [(0, .ref (ad 0 0)), (1, .int (nI b)), (2, .int (nI b')), (3, .int (nI fr)), (4, .int (e0)), (5, .int (p0))] []
  refine r_iload K dX5_addRule_10 4 rfl ?_
  refine r_iconst (v := nI 0) K dX5_addRule_12 (by decide) ?_
  refine r_bipush (v := nI 40) K dX5_addRule_13 (by decide) ?_
  refine r_callS (st := []) K (k_X5_isWithin (x := e0) (a := nI 0) (b := nI 40) hl) cw_X5_43 wd_415 (by decide) (by decide) rfl (Nat.le_of_ble_eq_true rfl) (by decide) (by decide) dX5_addRule_15 ?_
  rintro _ _ _ ⟨rfl, rfl, rfl⟩
  show WW g z 6 2 12 ad (Wz z ad σ τ o) 18 [(0, .ref (ad 0 0)), (1, .int (nI b)), (2, .int (nI b')), (3, .int (nI fr)), (4, .int (e0)), (5, .int (p0))] [.int (pI (nI 0 ≤ e0 ∧ e0 ≤ nI 40))]
  refine r_if_ne K dX5_addRule_18 31 (¬ (nI 0 ≤ e0 ∧ e0 ≤ nI 40)) pI_eq0 (by decide) (fun c_18 => ?_) (fun c_18 => ?_)
  · skip
    have q_18 := Decidable.not_not.mp c_18
    obtain ⟨v, hv, rfl⟩ := (inR_iff (by decide) (by decide)).mp q_18
    refine r_iload K dX5_addRule_31 5 rfl ?_
    refine r_callSx (st := []) K (k_X5_requireOpening (x := p0) hl) (fun E h => ⟨1, by unfold cAR; rw [if_pos ⟨q_2, q_7⟩]; exact if_neg (fun q => h.2 q.2), by rw [h.1]; rfl⟩) cw_X5_102 wd_646 (by decide) (by decide) rfl (Nat.le_of_ble_eq_true rfl) (by decide) (by decide) dX5_addRule_33 ?_
    rintro _ _ _ ⟨rfl, rfl, rfl, q_33⟩
    obtain ⟨p, hp, rfl⟩ := (inR_iff (by decide) (by decide)).mp q_33
    show WW g z 6 3 18 ad (Wz z ad σ τ o) 36 [(0, .ref (ad 0 0)), (1, .int (nI b)), (2, .int (nI b')), (3, .int (nI fr)), (4, .int (nI v)), (5, .int (nI p))] []
    refine r_aload_n K dX5_addRule_36 0 rfl rfl ?_
    refine r_get (v := .ref (ad 1 1)) K fd_X5_16 rfl rfl rfl dX5_addRule_37 ?_
    refine r_callV (st := []) K (k_Jx4a65c_size_8abf5 (l0 := 1) hl (by decide)) cw_X5_39 wd_206 wd_207 (by decide) (by decide) (W_1 (by first | exact hb | exact hk | exact hj | exact hw | omega | assumption)) rfl rfl rfl (Nat.le_of_ble_eq_true rfl) (by decide) (by decide) dX5_addRule_40 ?_
    rintro _ _ _ ⟨rfl, rfl, rfl⟩
    show WW g z 6 3 18 ad (Wz z ad σ τ o) 43 [(0, .ref (ad 0 0)), (1, .int (nI b)), (2, .int (nI b')), (3, .int (nI fr)), (4, .int (nI v)), (5, .int (nI p))] [.int (nI (σ 0 1 0))]
    refine r_bipush (v := nI 12) K dX5_addRule_43 (by decide) ?_
    refine r_icmp_lt K dX5_addRule_45 58 (σ 0 1 0 < 12) (nI_ltI (by omega) (by omega)) (by decide) (fun c_45 => ?_) (fun c_45 => ?_)
    · skip
      refine r_aload_n K dX5_addRule_58 0 rfl rfl ?_
      refine r_get (v := .ref (ad 1 1)) K fd_X5_16 rfl rfl rfl dX5_addRule_59 ?_
      refine r_new K 10 (σ 0 1 0) nw_X5_115 (if_neg (Nat.lt_irrefl _)) (Nat.le_of_ble_eq_true rfl) (Nat.le_of_ble_eq_true rfl) dX5_addRule_62 (fun q_62 => ?_)
      show WW g z 6 4 23 (nmu ad 10 (σ 0 1 0) q_62) (up2 (Wz z ad σ τ o) 10 (σ 0 1 0) (.inr (7, [.int (0), .int (0), .int (0), .int (0), .int (0)]))) 65 [(0, .ref (ad 0 0)), (1, .int (nI b)), (2, .int (nI b')), (3, .int (nI fr)), (4, .int (nI v)), (5, .int (nI p))] [.ref (q_62), .ref (ad 1 1)]
      refine r_dup K dX5_addRule_65 rfl ?_
      refine r_iload_n K dX5_addRule_66 1 rfl rfl ?_
      refine r_iload_n K dX5_addRule_67 2 rfl rfl ?_
      refine r_iload_n K dX5_addRule_68 3 rfl rfl ?_
      refine r_iload K dX5_addRule_69 4 rfl ?_
      refine r_iload K dX5_addRule_71 5 rfl ?_
      refine r_callI (st := [.ref (q_62), .ref (ad 1 1)]) K (k_X2_init (j := (σ 0 1 0)) hl nmu_s up2_s hfr) cw_X5_117 wd_660 rfl (by decide) (by decide) rfl (Nat.le_of_ble_eq_true rfl) (by decide) (by decide) dX5_addRule_73 ?_
      rintro _ _ _ ⟨rfl, rfl, rfl⟩
      refine r_mu up2_up ?_
      show WW g z 6 4 23 (nmu ad 10 (σ 0 1 0) q_62) (up2 (Wz z ad σ τ o) 10 (σ 0 1 0) (.inr (7, [.int (nI b), .int (nI b'), .int (nI fr), .int (nI v), .int (nI p)]))) 76 [(0, .ref (ad 0 0)), (1, .int (nI b)), (2, .int (nI b')), (3, .int (nI fr)), (4, .int (nI v)), (5, .int (nI p))] [.ref (q_62), .ref (ad 1 1)]
      refine r_callV (st := []) K (k_add_U (li := 1) (ci := 7) (kv := 10) (iv := σ 0 1 0) (cv := 7) (m := σ 33 1 0) (c := σ 0 1 0) (n := σ 34 1 0) (f := lsF ad 10 (σ 0 1 0)) hl ((up2_n (fun q => absurd q.1 (by decide))).trans (W_1 (by first | exact hb | exact hk | exact hj | exact hw | omega | assumption))) (((hD_W L (by decide)).mu (by omega)).nm (by omega)) (L 1 (by decide)).1 (L 1 (by decide)).2 (by omega) ((up2_n (fun q => absurd q.1 (by decide))).trans rfl) (by decide) rfl (by decide +kernel) ((el_10.mu (by omega)).nm (by omega)).els lsF_no (by decide) (by decide) up2_s nmu_s (fun r h => by cases h; decide +kernel)) cw_X5_76 wd_532 wd_533 (by decide) (by decide) ((up2_n (fun q => absurd q.1 (by decide))).trans (W_1 (by first | exact hb | exact hk | exact hj | exact hw | omega | assumption))) (nmu_n (fun q => absurd q.1 (by decide))) rfl rfl (Nat.le_of_ble_eq_true rfl) (by decide) (by decide) dX5_addRule_76 ?_
      rintro _ _ _ ⟨q_76, rfl, rfl, rfl⟩
      show WW g z 6 5 53 (nmu (nmu ad 10 (σ 0 1 0) q_62) 2 1 q_76) (up2 (up2 (up2 (Wz z ad σ τ o) 10 (σ 0 1 0) (.inr (7, [.int (nI b), .int (nI b'), .int (nI fr), .int (nI v), .int (nI p)]))) 2 1 (aO z (cap' (σ 0 1 0) (σ 34 1 0)) (va_up (lsF ad 10 (σ 0 1 0)) (σ 0 1 0) (some q_62)))) 1 1 (.inr (4, [.int (nI (σ 33 1 0 + 1)), .ref q_76, .int (nI (σ 0 1 0 + 1))]))) 79 [(0, .ref (ad 0 0)), (1, .int (nI b)), (2, .int (nI b')), (3, .int (nI fr)), (4, .int (nI v)), (5, .int (nI p))] [.int (nI 1)]
      refine r_mu (back_R L) ?_
      show WW g z 6 5 53 (nmu (nmu ad 10 (σ 0 1 0) q_62) 2 1 q_76) (Wz z (nmu (nmu ad 10 (σ 0 1 0) q_62) 2 1 q_76) (sRu σ b b' fr v p) τ o) 79 [(0, .ref ((nmu (nmu ad 10 (σ 0 1 0) q_62) 2 1 q_76) 0 0)), (1, .int (nI b)), (2, .int (nI b')), (3, .int (nI fr)), (4, .int (nI v)), (5, .int (nI p))] [.int (nI 1)]
      refine r_pop K dX5_addRule_79 rfl ?_
      refine r_aload_n K dX5_addRule_80 0 rfl rfl ?_
      refine r_get (v := .ref ((nmu (nmu ad 10 (σ 0 1 0) q_62) 2 1 q_76) 1 1)) K fd_X5_16 rfl rfl rfl dX5_addRule_81 ?_
      refine r_callV (st := []) K (k_Jx4a65c_size_8abf5 (l0 := 1) hl (by decide)) cw_X5_39 wd_206 wd_207 (by decide) (by decide) (W_1 (by first | exact hb | exact hk | exact hj | exact hw | omega | assumption)) rfl rfl rfl (Nat.le_of_ble_eq_true rfl) (by decide) (by decide) dX5_addRule_84 ?_
      rintro _ _ _ ⟨rfl, rfl, rfl⟩
      show WW g z 6 5 53 (nmu (nmu ad 10 (σ 0 1 0) q_62) 2 1 q_76) (Wz z (nmu (nmu ad 10 (σ 0 1 0) q_62) 2 1 q_76) (sRu σ b b' fr v p) τ o) 87 [(0, .ref ((nmu (nmu ad 10 (σ 0 1 0) q_62) 2 1 q_76) 0 0)), (1, .int (nI b)), (2, .int (nI b')), (3, .int (nI fr)), (4, .int (nI v)), (5, .int (nI p))] [.int (nI ((sRu σ b b' fr v p) 0 1 0))]
      exact r_iret K (by decide) (by decide) ⟨(by unfold cAR; rw [if_pos ⟨q_2, q_7⟩, if_pos ⟨q_18, q_33⟩]; exact if_pos (show σ 0 1 0 < 12 by omega)), rfl, adK.rf, _, rfl, by unfold fRule; rw [jN_n (by omega), jN_n (by omega), jN_n (by omega), jN_n (by omega)]; exact agr_rule, C.rule (by omega)⟩ dX5_addRule_87
    · skip
      exact r_throwS (text := "no more rules") K rfl (by decide +kernel) (by decide +kernel) (by decide) wd_450 wd_64 at_IllegalStateException (by decide) dX5_addRule_48 dX5_addRule_51 dX5_addRule_52 dX5_addRule_54 dX5_addRule_57 ⟨2, by unfold cAR; rw [if_pos ⟨q_2, q_7⟩, if_pos ⟨q_18, q_33⟩]; exact if_neg (by omega), rfl⟩ (Nat.le_of_ble_eq_true rfl) (by decide) (by decide)
  · skip
    exact r_throwS (text := "level out of range") K rfl (by decide +kernel) (by decide +kernel) (by decide) wd_430 wd_63 at_IllegalArgumentException (by decide) dX5_addRule_21 dX5_addRule_24 dX5_addRule_25 dX5_addRule_27 dX5_addRule_30 ⟨1, by unfold cAR; rw [if_pos ⟨q_2, q_7⟩]; exact if_neg (fun q => c_18 q.1), rfl⟩ (Nat.le_of_ble_eq_true rfl) (by decide) (by decide)
set_option maxRecDepth 100000 in
set_option maxHeartbeats 4000000 in
theorem k_X5_addHouse {z : Zx} {l : Launch} {σ τ : Sg} {o : Int64 × UInt64} {ad : Nm} (hl : l.stackTraces = false) {x y r c0 : Int32} (Q : IR σ) (C : ICo σ) : Ko z l yX5_addHouse cX5_addHouse 7 (some .int) 8 5 110 [.ref (ad 0 0), .int (x), .int (y), .int (r), .int (c0)] ad (Wz z ad σ τ o) (okC z ad τ o (cAH σ x y r c0) (.int (nI (σ 0 2 0))) (fHouse σ x y r c0)) (exT (cAH σ x y r c0) ["java/lang/IndexOutOfBoundsException", "java/lang/IllegalArgumentException", "java/lang/IllegalStateException"]) := by
  refine ko_of hl (by decide +kernel) (Nat.le_of_ble_eq_true rfl) (fun g hg K => ?_)
  subst hg
  have I := Q.1
  have L := C.1
  have D := C.2.1
  have q0 := I.1.1
  have q1 := I.1.2.1
  have q2 := I.1.2.2.1
  have q3 := I.1.2.2.2.1
  have q5 := Q.2.1
  show WW g z 7 0 0 ad (Wz z ad σ τ o) 0 [(0, .ref (ad 0 0)), (1, .int (x)), (2, .int (y)), (3, .int (r)), (4, .int (c0))] []
  refine r_aload_n K dX5_addHouse_0 0 rfl rfl ?_
  refine r_iload_n K dX5_addHouse_1 1 rfl rfl ?_
  refine r_iload_n K dX5_addHouse_2 2 rfl rfl ?_
  refine r_callVx (st := []) K (k_X5_streetWith (x := x) (y := y) hl I L) (fun E h => ⟨0, by unfold cAH; exact if_neg h.2, by rw [h.1]; rfl⟩) cw_X5_178 wd_775 wd_18 (by decide) (by decide) rfl rfl rfl rfl (Nat.le_of_ble_eq_true rfl) (by decide) (by decide) dX5_addHouse_3 ?_
  rintro _ _ _ ⟨b, c, hb, hc, rfl, rfl, rfl, rfl, rfl⟩
  obtain ⟨-, -, -, hs, hs5, hs7⟩ := I.2.1 b hb
  have q8 := hs.2.1
  have q_3 : in0 (nI b) (σ 0 0 0) ∧ in0 (nI c) (σ 1 (jN (nI b)) 6) := ⟨(in0_iff (by omega)).mpr ⟨b, hb, rfl⟩, by rw [jN_n (by omega)]; exact (in0_iff (by omega)).mpr ⟨c, hc, rfl⟩⟩
  show WW g z 7 2 12 ad (Wz z ad σ τ o) 6 [(0, .ref (ad 0 0)), (1, .int (nI b)), (2, .int (nI c)), (3, .int (r)), (4, .int (c0))] [.ref (ad 12 b)]
  refine r_astore (lv' := [(5, .ref (ad 12 b)), (0, .ref (ad 0 0)), (1, .int (nI b)), (2, .int (nI c)), (3, .int (r)), (4, .int (c0))]) K dX5_addHouse_6 (by decide) rfl ?_
  refine r_iload_n K dX5_addHouse_8 4 rfl rfl ?_
  refine r_iconst (v := nI 1) K dX5_addHouse_9 (by decide) ?_
  refine r_bipush (v := nI 100) K dX5_addHouse_10 (by decide) ?_
  refine r_callS (st := []) K (k_X5_isWithin (x := r) (a := nI 1) (b := nI 100) hl) cw_X5_43 wd_415 (by decide) (by decide) rfl (Nat.le_of_ble_eq_true rfl) (by decide) (by decide) dX5_addHouse_12 ?_
  rintro _ _ _ ⟨rfl, rfl, rfl⟩
  show WW g z 7 2 12 ad (Wz z ad σ τ o) 15 [(5, .ref (ad 12 b)), (0, .ref (ad 0 0)), (1, .int (nI b)), (2, .int (nI c)), (3, .int (r)), (4, .int (c0))] [.int (pI (nI 1 ≤ r ∧ r ≤ nI 100))]
  refine r_if_eq K dX5_addHouse_15 30 (¬ (nI 1 ≤ r ∧ r ≤ nI 100)) pI_eq0 (by decide) (fun c_15 => ?_) (fun c_15 => ?_)
  · skip
    exact r_throwS (text := "rate or cover out of range") K rfl (by decide +kernel) (by decide +kernel) (by decide) wd_430 wd_63 at_IllegalArgumentException (by decide) dX5_addHouse_30 dX5_addHouse_33 dX5_addHouse_34 dX5_addHouse_36 dX5_addHouse_39 ⟨1, by unfold cAH; rw [if_pos q_3]; exact if_neg (fun q => c_15 q.1), rfl⟩ (Nat.le_of_ble_eq_true rfl) (by decide) (by decide)
  · skip
    have q_15 := Decidable.not_not.mp c_15
    obtain ⟨v, hv, rfl⟩ := (inR_iff (by decide) (by decide)).mp q_15
    refine r_iload K dX5_addHouse_18 5 rfl ?_
    refine r_iconst (v := nI 0) K dX5_addHouse_20 (by decide) ?_
    refine r_sipush (v := nI 5000) K dX5_addHouse_21 (by decide) ?_
    refine r_callS (st := []) K (k_X5_isWithin (x := c0) (a := nI 0) (b := nI 5000) hl) cw_X5_43 wd_415 (by decide) (by decide) rfl (Nat.le_of_ble_eq_true rfl) (by decide) (by decide) dX5_addHouse_24 ?_
    rintro _ _ _ ⟨rfl, rfl, rfl⟩
    show WW g z 7 2 12 ad (Wz z ad σ τ o) 27 [(5, .ref (ad 12 b)), (0, .ref (ad 0 0)), (1, .int (nI b)), (2, .int (nI c)), (3, .int (nI v)), (4, .int (c0))] [.int (pI (nI 0 ≤ c0 ∧ c0 ≤ nI 5000))]
    refine r_if_ne K dX5_addHouse_27 40 (¬ (nI 0 ≤ c0 ∧ c0 ≤ nI 5000)) pI_eq0 (by decide) (fun c_27 => ?_) (fun c_27 => ?_)
    · skip
      have q_27 := Decidable.not_not.mp c_27
      obtain ⟨p, hp, rfl⟩ := (inR_iff (by decide) (by decide)).mp q_27
      refine r_aload_n K dX5_addHouse_40 1 rfl rfl ?_
      refine r_get (v := .ref (ad 1 2)) K fd_X5_19 rfl rfl rfl dX5_addHouse_41 ?_
      refine r_callV (st := []) K (k_Jx4a65c_size_8abf5 (l0 := 2) hl (by decide)) cw_X5_39 wd_206 wd_207 (by decide) (by decide) (W_1 (by first | exact hb | exact hk | exact hj | exact hw | omega | assumption)) rfl rfl rfl (Nat.le_of_ble_eq_true rfl) (by decide) (by decide) dX5_addHouse_44 ?_
      rintro _ _ _ ⟨rfl, rfl, rfl⟩
      show WW g z 7 2 12 ad (Wz z ad σ τ o) 47 [(5, .ref (ad 12 b)), (0, .ref (ad 0 0)), (1, .int (nI b)), (2, .int (nI c)), (3, .int (nI v)), (4, .int (nI p))] [.int (nI (σ 0 2 0))]
      refine r_istore (lv' := [(6, .int (nI (σ 0 2 0))), (5, .ref (ad 12 b)), (0, .ref (ad 0 0)), (1, .int (nI b)), (2, .int (nI c)), (3, .int (nI v)), (4, .int (nI p))]) K dX5_addHouse_47 (by decide) rfl ?_
      refine r_iload K dX5_addHouse_49 0 rfl ?_
      refine r_bipush (v := nI 10) K dX5_addHouse_51 (by decide) ?_
      refine r_icmp_lt K dX5_addHouse_53 66 (σ 0 2 0 < 10) (nI_ltI (by omega) (by omega)) (by decide) (fun c_53 => ?_) (fun c_53 => ?_)
      · skip
        refine r_aload_n K dX5_addHouse_66 2 rfl rfl ?_
        refine r_get (v := .ref (ad 1 2)) K fd_X5_19 rfl rfl rfl dX5_addHouse_67 ?_
        refine r_new K 11 (σ 0 2 0) nw_X5_210 (if_neg (Nat.lt_irrefl _)) (Nat.le_of_ble_eq_true rfl) (Nat.le_of_ble_eq_true rfl) dX5_addHouse_70 (fun q_70 => ?_)
        show WW g z 7 3 19 (nmu ad 11 (σ 0 2 0) q_70) (up2 (Wz z ad σ τ o) 11 (σ 0 2 0) (.inr (6, [.null, .int (0), .int (0), .int (0), .null, .int (0), .int (0)]))) 73 [(6, .int (nI (σ 0 2 0))), (5, .ref (ad 12 b)), (0, .ref (ad 0 0)), (1, .int (nI b)), (2, .int (nI c)), (3, .int (nI v)), (4, .int (nI p))] [.ref (q_70), .ref (ad 1 2)]
        refine r_dup K dX5_addHouse_73 rfl ?_
        refine r_aload K dX5_addHouse_74 1 rfl ?_
        refine r_iload_n K dX5_addHouse_76 4 rfl rfl ?_
        refine r_iload_n K dX5_addHouse_77 5 rfl rfl ?_
        refine r_iload K dX5_addHouse_78 6 rfl ?_
        refine r_callI (st := [.ref (q_70), .ref (ad 1 2)]) K (k_X1_init (k := (σ 0 2 0)) (s0 := ad 12 b) hl nmu_s up2_s ((up2_n (fun q => absurd q.1 (by decide))).trans (if_neg (Nat.lt_irrefl _)))) cw_X5_212 wd_840 rfl (by decide) (by decide) rfl (Nat.le_of_ble_eq_true rfl) (by decide) (by decide) dX5_addHouse_80 ?_
        rintro _ _ _ ⟨q18, rfl, rfl, rfl⟩
        refine r_mu (μ' := (up2 (up2 (Wz z ad σ τ o) 18 (σ 0 2 0) (aZ z 61 (fun _ => 0))) 11 (σ 0 2 0) (.inr (6, [.ref (ad 12 b), .int (nI c), .int (nI v), .int (nI p), .ref q18, .int (0), .int (0)])))) (up2_ov (fun _ _ q => by simp only [up2, if_neg q])) ?_
        show WW g z 7 4 80 (nmu (nmu ad 11 (σ 0 2 0) q_70) 18 (σ 0 2 0) q18) (up2 (up2 (Wz z ad σ τ o) 18 (σ 0 2 0) (aZ z 61 (fun _ => 0))) 11 (σ 0 2 0) (.inr (6, [.ref (ad 12 b), .int (nI c), .int (nI v), .int (nI p), .ref q18, .int (0), .int (0)]))) 83 [(6, .int (nI (σ 0 2 0))), (5, .ref (ad 12 b)), (0, .ref (ad 0 0)), (1, .int (nI b)), (2, .int (nI c)), (3, .int (nI v)), (4, .int (nI p))] [.ref (q_70), .ref (ad 1 2)]
        refine r_callV (st := []) K (k_add_U (li := 2) (ci := 6) (kv := 11) (iv := σ 0 2 0) (cv := 6) (m := σ 33 2 0) (c := σ 0 2 0) (n := σ 34 2 0) (f := lsF ad 11 (σ 0 2 0)) hl ((up2_n (fun q => absurd q.1 (by decide))).trans ((up2_n (fun q => absurd q.1 (by decide))).trans (W_1 (by first | exact hb | exact hk | exact hj | exact hw | omega | assumption)))) (((((hD_W L (by decide)).mu (by omega)).mu (by omega)).nm (by omega)).nm (by omega)) (L 2 (by decide)).1 (L 2 (by decide)).2 (by omega) ((up2_n (fun q => absurd q.1 (by decide))).trans ((up2_n (fun q => absurd q.1 (by decide))).trans rfl)) (by decide) rfl (by decide +kernel) ((((el_11.mu (by omega)).mu (by omega)).nm (by omega)).nm (by omega)).els lsF_no (by decide) (by decide) up2_s ((nmu_n (fun q => absurd q.1 (by decide))).trans nmu_s) (fun r h => by cases h; decide +kernel)) cw_X5_76 wd_532 wd_533 (by decide) (by decide) ((up2_n (fun q => absurd q.1 (by decide))).trans ((up2_n (fun q => absurd q.1 (by decide))).trans (W_1 (by first | exact hb | exact hk | exact hj | exact hw | omega | assumption)))) ((nmu_n (fun q => absurd q.1 (by decide))).trans (nmu_n (fun q => absurd q.1 (by decide)))) rfl rfl (Nat.le_of_ble_eq_true rfl) (by decide) (by decide) dX5_addHouse_83 ?_
        rintro _ _ _ ⟨q_83, rfl, rfl, rfl⟩
        show WW g z 7 5 110 (nmu (nmu (nmu ad 11 (σ 0 2 0) q_70) 18 (σ 0 2 0) q18) 2 2 q_83) (up2 (up2 (up2 (up2 (Wz z ad σ τ o) 18 (σ 0 2 0) (aZ z 61 (fun _ => 0))) 11 (σ 0 2 0) (.inr (6, [.ref (ad 12 b), .int (nI c), .int (nI v), .int (nI p), .ref q18, .int (0), .int (0)]))) 2 2 (aO z (cap' (σ 0 2 0) (σ 34 2 0)) (va_up (lsF ad 11 (σ 0 2 0)) (σ 0 2 0) (some q_70)))) 1 2 (.inr (4, [.int (nI (σ 33 2 0 + 1)), .ref q_83, .int (nI (σ 0 2 0 + 1))]))) 86 [(6, .int (nI (σ 0 2 0))), (5, .ref (ad 12 b)), (0, .ref (ad 0 0)), (1, .int (nI b)), (2, .int (nI c)), (3, .int (nI v)), (4, .int (nI p))] [.int (nI 1)]
        refine r_mu (back_H L ⟨(Q.2.2.2 _ (Nat.le_refl _)).2, (Q.2.2.2 _ (Nat.le_refl _)).1⟩) ?_
        show WW g z 7 5 110 (nmu (nmu (nmu ad 11 (σ 0 2 0) q_70) 18 (σ 0 2 0) q18) 2 2 q_83) (Wz z (nmu (nmu (nmu ad 11 (σ 0 2 0) q_70) 18 (σ 0 2 0) q18) 2 2 q_83) (sHo σ b c v p) τ o) 86 [(6, .int (nI (σ 0 2 0))), (5, .ref ((nmu (nmu (nmu ad 11 (σ 0 2 0) q_70) 18 (σ 0 2 0) q18) 2 2 q_83) 12 b)), (0, .ref ((nmu (nmu (nmu ad 11 (σ 0 2 0) q_70) 18 (σ 0 2 0) q18) 2 2 q_83) 0 0)), (1, .int (nI b)), (2, .int (nI c)), (3, .int (nI v)), (4, .int (nI p))] [.int (nI 1)]
        refine r_pop K dX5_addHouse_86 rfl ?_
        refine r_iload K dX5_addHouse_87 0 rfl ?_
        exact r_iret K (by decide) (by decide) ⟨(by unfold cAH; rw [if_pos q_3, if_pos ⟨q_15, q_27⟩]; exact if_pos (show σ 0 2 0 < 10 by omega)), rfl, adK.rf, _, rfl, by unfold fHouse; rw [jN_n (by omega), jN_n (by omega), jN_n (by omega), jN_n (by omega)]; exact agr_house, C.house (by omega) (Q.2.2.2 _ (Nat.le_refl _)).2⟩ dX5_addHouse_89
      · skip
        exact r_throwS (text := "no more houses") K rfl (by decide +kernel) (by decide +kernel) (by decide) wd_450 wd_64 at_IllegalStateException (by decide) dX5_addHouse_56 dX5_addHouse_59 dX5_addHouse_60 dX5_addHouse_62 dX5_addHouse_65 ⟨2, by unfold cAH; rw [if_pos q_3, if_pos ⟨q_15, q_27⟩]; exact if_neg (by omega), rfl⟩ (Nat.le_of_ble_eq_true rfl) (by decide) (by decide)
    · skip
      exact r_throwS (text := "rate or cover out of range") K rfl (by decide +kernel) (by decide +kernel) (by decide) wd_430 wd_63 at_IllegalArgumentException (by decide) dX5_addHouse_30 dX5_addHouse_33 dX5_addHouse_34 dX5_addHouse_36 dX5_addHouse_39 ⟨1, by unfold cAH; rw [if_pos q_3]; exact if_neg (fun q => c_27 q.2), rfl⟩ (Nat.le_of_ble_eq_true rfl) (by decide) (by decide)
set_option maxRecDepth 100000 in
set_option maxHeartbeats 4000000 in
theorem k_X5_addBasin {z : Zx} {l : Launch} {σ τ : Sg} {o : Int64 × UInt64} {ad : Nm} (hl : l.stackTraces = false) {a d w b0 h : Int32} (Q : IR σ) (C : ICo σ) : Ko z l yX5_addBasin cX5_addBasin 8 (some .int) 8 10 201 [.ref (ad 0 0), .int (a), .int (d), .int (w), .int (b0), .int (h)] ad (Wz z ad σ τ o) (okC z ad τ o (cAB σ a d w b0 h) (.int (nI (σ 0 0 0))) (fBasin σ a d w b0 h)) (exT (cAB σ a d w b0 h) ["java/lang/IndexOutOfBoundsException", "java/lang/IllegalArgumentException", "java/lang/IllegalStateException"]) := by
  refine ko_of hl (by decide +kernel) (Nat.le_of_ble_eq_true rfl) (fun g hg K => ?_)
  subst hg
  have I := Q.1
  have L := C.1
  have D := C.2.1
  have q0 := I.1.1
  have q1 := I.1.2.1
  have q2 := I.1.2.2.1
  have q3 := I.1.2.2.2.1
  have q5 := Q.2.1
  show WW g z 8 0 0 ad (Wz z ad σ τ o) 0 [(0, .ref (ad 0 0)), (1, .int (a)), (2, .int (d)), (3, .int (w)), (4, .int (b0)), (5, .int (h))] []
  refine r_aload_n K dX5_addBasin_0 0 rfl rfl ?_
  refine r_get (v := .ref (ad 1 0)) K fd_X5_10 rfl rfl rfl dX5_addBasin_1 ?_
  refine r_callV (st := []) K (k_Jx4a65c_size_8abf5 (l0 := 0) hl (by decide)) cw_X5_39 wd_206 wd_207 (by decide) (by decide) (W_1 (by first | exact hb | exact hk | exact hj | exact hw | omega | assumption)) rfl rfl rfl (Nat.le_of_ble_eq_true rfl) (by decide) (by decide) dX5_addBasin_4 ?_
  rintro _ _ _ ⟨rfl, rfl, rfl⟩
  show WW g z 8 0 0 ad (Wz z ad σ τ o) 7 [(0, .ref (ad 0 0)), (1, .int (a)), (2, .int (d)), (3, .int (w)), (4, .int (b0)), (5, .int (h))] [.int (nI (σ 0 0 0))]
  refine r_istore (lv' := [(6, .int (nI (σ 0 0 0))), (0, .ref (ad 0 0)), (1, .int (a)), (2, .int (d)), (3, .int (w)), (4, .int (b0)), (5, .int (h))]) K dX5_addBasin_7 (by decide) rfl ?_
  have tl38 : WW g z 8 0 0 ad (Wz z ad σ τ o) 38 [(6, .int (nI (σ 0 0 0))), (0, .ref (ad 0 0)), (1, .int (a)), (2, .int (d)), (3, .int (w)), (4, .int (b0)), (5, .int (h))] [.int (pI (blw σ b0))] := by
    refine r_istore (lv' := [(7, .int (pI (blw σ b0))), (6, .int (nI (σ 0 0 0))), (0, .ref (ad 0 0)), (1, .int (a)), (2, .int (d)), (3, .int (w)), (4, .int (b0)), (5, .int (h))]) K dX5_addBasin_38 (by decide) rfl ?_
    refine r_iload K dX5_addBasin_40 0 rfl ?_
    refine r_if_ne K dX5_addBasin_42 55 (¬ (blw σ b0)) pI_eq0 (by decide) (fun c_42 => ?_) (fun c_42 => ?_)
    · skip
      have q_42 := Decidable.not_not.mp c_42
      obtain ⟨u, hu, rfl⟩ := (blw_iff (by omega)).mp q_42
      refine r_iload_n K dX5_addBasin_55 3 rfl rfl ?_
      refine r_iconst (v := nI 1) K dX5_addBasin_56 (by decide) ?_
      refine r_bipush (v := nI 50) K dX5_addBasin_57 (by decide) ?_
      refine r_callS (st := []) K (k_X5_isWithin (x := a) (a := nI 1) (b := nI 50) hl) cw_X5_43 wd_415 (by decide) (by decide) rfl (Nat.le_of_ble_eq_true rfl) (by decide) (by decide) dX5_addBasin_59 ?_
      rintro _ _ _ ⟨rfl, rfl, rfl⟩
      show WW g z 8 0 0 ad (Wz z ad σ τ o) 62 [(7, .int (pI (blw σ (bw u)))), (6, .int (nI (σ 0 0 0))), (0, .ref (ad 0 0)), (1, .int (a)), (2, .int (d)), (3, .int (w)), (4, .int (bw u)), (5, .int (h))] [.int (pI (nI 1 ≤ a ∧ a ≤ nI 50))]
      refine r_if_eq K dX5_addBasin_62 85 (¬ (nI 1 ≤ a ∧ a ≤ nI 50)) pI_eq0 (by decide) (fun c_62 => ?_) (fun c_62 => ?_)
      · skip
        exact r_throwS (text := "area, depth or width out of range") K rfl (by decide +kernel) (by decide +kernel) (by decide) wd_430 wd_63 at_IllegalArgumentException (by decide) dX5_addBasin_85 dX5_addBasin_88 dX5_addBasin_89 dX5_addBasin_91 dX5_addBasin_94 ⟨1, by unfold cAB; rw [if_pos q_42]; exact if_neg (fun q => c_62 q.1.1), rfl⟩ (Nat.le_of_ble_eq_true rfl) (by decide) (by decide)
      · skip
        have q_62 := Decidable.not_not.mp c_62
        obtain ⟨v1, hv1, rfl⟩ := (inR_iff (by decide) (by decide)).mp q_62
        refine r_iload_n K dX5_addBasin_65 4 rfl rfl ?_
        refine r_iconst (v := nI 1) K dX5_addBasin_66 (by decide) ?_
        refine r_bipush (v := nI 40) K dX5_addBasin_67 (by decide) ?_
        refine r_callS (st := []) K (k_X5_isWithin (x := d) (a := nI 1) (b := nI 40) hl) cw_X5_43 wd_415 (by decide) (by decide) rfl (Nat.le_of_ble_eq_true rfl) (by decide) (by decide) dX5_addBasin_69 ?_
        rintro _ _ _ ⟨rfl, rfl, rfl⟩
        show WW g z 8 0 0 ad (Wz z ad σ τ o) 72 [(7, .int (pI (blw σ (bw u)))), (6, .int (nI (σ 0 0 0))), (0, .ref (ad 0 0)), (1, .int (nI v1)), (2, .int (d)), (3, .int (w)), (4, .int (bw u)), (5, .int (h))] [.int (pI (nI 1 ≤ d ∧ d ≤ nI 40))]
        refine r_if_eq K dX5_addBasin_72 85 (¬ (nI 1 ≤ d ∧ d ≤ nI 40)) pI_eq0 (by decide) (fun c_72 => ?_) (fun c_72 => ?_)
        · skip
          exact r_throwS (text := "area, depth or width out of range") K rfl (by decide +kernel) (by decide +kernel) (by decide) wd_430 wd_63 at_IllegalArgumentException (by decide) dX5_addBasin_85 dX5_addBasin_88 dX5_addBasin_89 dX5_addBasin_91 dX5_addBasin_94 ⟨1, by unfold cAB; rw [if_pos q_42]; exact if_neg (fun q => c_72 q.1.2.1), rfl⟩ (Nat.le_of_ble_eq_true rfl) (by decide) (by decide)
        · skip
          have q_72 := Decidable.not_not.mp c_72
          obtain ⟨v2, hv2, rfl⟩ := (inR_iff (by decide) (by decide)).mp q_72
          refine r_iload_n K dX5_addBasin_75 5 rfl rfl ?_
          refine r_iconst (v := nI 0) K dX5_addBasin_76 (by decide) ?_
          refine r_bipush (v := nI 20) K dX5_addBasin_77 (by decide) ?_
          refine r_callS (st := []) K (k_X5_isWithin (x := w) (a := nI 0) (b := nI 20) hl) cw_X5_43 wd_415 (by decide) (by decide) rfl (Nat.le_of_ble_eq_true rfl) (by decide) (by decide) dX5_addBasin_79 ?_
          rintro _ _ _ ⟨rfl, rfl, rfl⟩
          show WW g z 8 0 0 ad (Wz z ad σ τ o) 82 [(7, .int (pI (blw σ (bw u)))), (6, .int (nI (σ 0 0 0))), (0, .ref (ad 0 0)), (1, .int (nI v1)), (2, .int (nI v2)), (3, .int (w)), (4, .int (bw u)), (5, .int (h))] [.int (pI (nI 0 ≤ w ∧ w ≤ nI 20))]
          refine r_if_ne K dX5_addBasin_82 95 (¬ (nI 0 ≤ w ∧ w ≤ nI 20)) pI_eq0 (by decide) (fun c_82 => ?_) (fun c_82 => ?_)
          · skip
            have q_82 := Decidable.not_not.mp c_82
            obtain ⟨v3, hv3, rfl⟩ := (inR_iff (by decide) (by decide)).mp q_82
            refine r_iload K dX5_addBasin_95 7 rfl ?_
            refine r_callSx (st := []) K (k_X5_requireHeight (x := h) hl) (fun E h => ⟨1, by unfold cAB; rw [if_pos q_42]; exact if_neg (fun q => h.2 q.2), by rw [h.1]; rfl⟩) cw_X5_59 wd_447 (by decide) (by decide) rfl (Nat.le_of_ble_eq_true rfl) (by decide) (by decide) dX5_addBasin_97 ?_
            rintro _ _ _ ⟨rfl, rfl, rfl, q_97⟩
            obtain ⟨p, hp, rfl⟩ := (inR_iff (by decide) (by decide)).mp q_97
            show WW g z 8 1 6 ad (Wz z ad σ τ o) 100 [(7, .int (pI (blw σ (bw u)))), (6, .int (nI (σ 0 0 0))), (0, .ref (ad 0 0)), (1, .int (nI v1)), (2, .int (nI v2)), (3, .int (nI v3)), (4, .int (bw u)), (5, .int (nI p))] []
            refine r_iload K dX5_addBasin_100 1 rfl ?_
            refine r_bipush (v := nI 6) K dX5_addBasin_102 (by decide) ?_
            refine r_icmp_lt K dX5_addBasin_104 117 (σ 0 0 0 < 6) (nI_ltI (by omega) (by omega)) (by decide) (fun c_104 => ?_) (fun c_104 => ?_)
            · skip
              refine r_aload_n K dX5_addBasin_117 2 rfl rfl ?_
              refine r_callVx (st := []) K (k_X5_requireBeforeFirstHour hl (by omega)) (fun E h => ⟨2, by unfold cAB; rw [if_pos q_42, if_pos ⟨⟨q_62, q_72, q_82⟩, q_97⟩]; exact if_neg (fun q => h.2 q.2), by rw [h.1]; rfl⟩) cw_X5_68 wd_468 wd_7 (by decide) (by decide) rfl rfl rfl rfl (Nat.le_of_ble_eq_true rfl) (by decide) (by decide) dX5_addBasin_118 ?_
              rintro _ _ _ ⟨rfl, rfl, rfl, q_118⟩
              show WW g z 8 2 12 ad (Wz z ad σ τ o) 121 [(7, .int (pI (blw σ (bw u)))), (6, .int (nI (σ 0 0 0))), (0, .ref (ad 0 0)), (1, .int (nI v1)), (2, .int (nI v2)), (3, .int (nI v3)), (4, .int (bw u)), (5, .int (nI p))] []
              refine r_aload_n K dX5_addBasin_121 2 rfl rfl ?_
              refine r_get (v := .ref (ad 1 0)) K fd_X5_10 rfl rfl rfl dX5_addBasin_122 ?_
              refine r_new K 9 (σ 0 0 0) nw_X5_71 (if_neg (Nat.lt_irrefl _)) (Nat.le_of_ble_eq_true rfl) (Nat.le_of_ble_eq_true rfl) dX5_addBasin_125 (fun q_125 => ?_)
              show WW g z 8 3 20 (nmu ad 9 (σ 0 0 0) q_125) (up2 (Wz z ad σ τ o) 9 (σ 0 0 0) (.inr (5, [.int (0), .int (0), .int (0), .int (0), .null, .null, .int (0), .int (0)]))) 128 [(7, .int (pI (blw σ (bw u)))), (6, .int (nI (σ 0 0 0))), (0, .ref (ad 0 0)), (1, .int (nI v1)), (2, .int (nI v2)), (3, .int (nI v3)), (4, .int (bw u)), (5, .int (nI p))] [.ref (q_125), .ref (ad 1 0)]
              refine r_dup K dX5_addBasin_128 rfl ?_
              refine r_iload_n K dX5_addBasin_129 3 rfl rfl ?_
              refine r_iload_n K dX5_addBasin_130 4 rfl rfl ?_
              refine r_iload_n K dX5_addBasin_131 5 rfl rfl ?_
              refine r_iload K dX5_addBasin_132 6 rfl ?_
              refine r_iload K dX5_addBasin_134 7 rfl ?_
              refine r_callI (st := [.ref (q_125), .ref (ad 1 0)]) K (k_X0_init (b := (σ 0 0 0)) (h := p) (e4 := u) hl nmu_s up2_s ((up2_n (fun q => absurd q.1 (by decide))).trans (if_neg (Nat.lt_irrefl _))) ((up2_n (fun q => absurd q.1 (by decide))).trans (if_neg (Nat.lt_irrefl _))) ((up2_n (fun q => absurd q.1 (by decide))).trans (if_neg (Nat.lt_irrefl _))) ((up2_n (fun q => absurd q.1 (by decide))).trans (if_neg (Nat.lt_irrefl _))) ((up2_n (fun q => absurd q.1 (by decide))).trans (if_neg (Nat.lt_irrefl _))) ((up2_n (fun q => absurd q.1 (by decide))).trans (if_neg (Nat.lt_irrefl _)))) cw_X5_73 wd_473 rfl (by decide) (by decide) rfl (Nat.le_of_ble_eq_true rfl) (by decide) (by decide) dX5_addBasin_136 ?_
              rintro _ _ _ ⟨q12, q14, q15, q16, q17, q13, rfl, rfl, rfl⟩
              refine r_mu (μ' := (up2 (up2 (up2 (up2 (up2 (up2 (up2 (Wz z ad σ τ o) 14 (σ 0 0 0) (aI z 8 (upd (fun _ => 0) 0 (nI p)))) 15 (σ 0 0 0) (aI z 8 (fun _ => 0))) 16 (σ 0 0 0) (aI z 8 (fun _ => 0))) 17 (σ 0 0 0) (aI z 61 (fun _ => 0))) 12 (σ 0 0 0) (.inr (8, [.ref q14, .ref q15, .ref q16, .ref q17, .int (nI 1)]))) 13 (σ 0 0 0) (aI z 61 (fun _ => 0))) 9 (σ 0 0 0) (.inr (5, [.int (nI v1), .int (nI v2), .int (nI v3), .int (bw u), .ref q12, .ref q13, .int (0), .int (0)])))) (up2_ov (fun _ _ q => by simp only [up2, if_neg q])) ?_
              show WW g z 8 9 171 (nmu (nmu (nmu (nmu (nmu (nmu (nmu ad 9 (σ 0 0 0) q_125) 12 (σ 0 0 0) q12) 14 (σ 0 0 0) q14) 15 (σ 0 0 0) q15) 16 (σ 0 0 0) q16) 17 (σ 0 0 0) q17) 13 (σ 0 0 0) q13) (up2 (up2 (up2 (up2 (up2 (up2 (up2 (Wz z ad σ τ o) 14 (σ 0 0 0) (aI z 8 (upd (fun _ => 0) 0 (nI p)))) 15 (σ 0 0 0) (aI z 8 (fun _ => 0))) 16 (σ 0 0 0) (aI z 8 (fun _ => 0))) 17 (σ 0 0 0) (aI z 61 (fun _ => 0))) 12 (σ 0 0 0) (.inr (8, [.ref q14, .ref q15, .ref q16, .ref q17, .int (nI 1)]))) 13 (σ 0 0 0) (aI z 61 (fun _ => 0))) 9 (σ 0 0 0) (.inr (5, [.int (nI v1), .int (nI v2), .int (nI v3), .int (bw u), .ref q12, .ref q13, .int (0), .int (0)]))) 139 [(7, .int (pI (blw σ (bw u)))), (6, .int (nI (σ 0 0 0))), (0, .ref (ad 0 0)), (1, .int (nI v1)), (2, .int (nI v2)), (3, .int (nI v3)), (4, .int (bw u)), (5, .int (nI p))] [.ref (q_125), .ref (ad 1 0)]
              refine r_callV (st := []) K (k_add_U (li := 0) (ci := 5) (kv := 9) (iv := σ 0 0 0) (cv := 5) (m := σ 33 0 0) (c := σ 0 0 0) (n := σ 34 0 0) (f := lsF ad 9 (σ 0 0 0)) hl ((up2_n (fun q => absurd q.1 (by decide))).trans ((up2_n (fun q => absurd q.1 (by decide))).trans ((up2_n (fun q => absurd q.1 (by decide))).trans ((up2_n (fun q => absurd q.1 (by decide))).trans ((up2_n (fun q => absurd q.1 (by decide))).trans ((up2_n (fun q => absurd q.1 (by decide))).trans ((up2_n (fun q => absurd q.1 (by decide))).trans (W_1 (by first | exact hb | exact hk | exact hj | exact hw | omega | assumption))))))))) (((((((((((((((hD_W L (by decide)).mu (by omega)).mu (by omega)).mu (by omega)).mu (by omega)).mu (by omega)).mu (by omega)).mu (by omega)).nm (by omega)).nm (by omega)).nm (by omega)).nm (by omega)).nm (by omega)).nm (by omega)).nm (by omega)) (L 0 (by decide)).1 (L 0 (by decide)).2 (by omega) ((up2_n (fun q => absurd q.1 (by decide))).trans ((up2_n (fun q => absurd q.1 (by decide))).trans ((up2_n (fun q => absurd q.1 (by decide))).trans ((up2_n (fun q => absurd q.1 (by decide))).trans ((up2_n (fun q => absurd q.1 (by decide))).trans ((up2_n (fun q => absurd q.1 (by decide))).trans ((up2_n (fun q => absurd q.1 (by decide))).trans rfl))))))) (by decide) rfl (by decide +kernel) ((((((((((((((el_9.mu (by omega)).mu (by omega)).mu (by omega)).mu (by omega)).mu (by omega)).mu (by omega)).mu (by omega)).nm (by omega)).nm (by omega)).nm (by omega)).nm (by omega)).nm (by omega)).nm (by omega)).nm (by omega)).els lsF_no (by decide) (by decide) up2_s ((nmu_n (fun q => absurd q.1 (by decide))).trans ((nmu_n (fun q => absurd q.1 (by decide))).trans ((nmu_n (fun q => absurd q.1 (by decide))).trans ((nmu_n (fun q => absurd q.1 (by decide))).trans ((nmu_n (fun q => absurd q.1 (by decide))).trans ((nmu_n (fun q => absurd q.1 (by decide))).trans nmu_s)))))) (fun r h => by cases h; decide +kernel)) cw_X5_76 wd_532 wd_533 (by decide) (by decide) ((up2_n (fun q => absurd q.1 (by decide))).trans ((up2_n (fun q => absurd q.1 (by decide))).trans ((up2_n (fun q => absurd q.1 (by decide))).trans ((up2_n (fun q => absurd q.1 (by decide))).trans ((up2_n (fun q => absurd q.1 (by decide))).trans ((up2_n (fun q => absurd q.1 (by decide))).trans ((up2_n (fun q => absurd q.1 (by decide))).trans (W_1 (by first | exact hb | exact hk | exact hj | exact hw | omega | assumption))))))))) ((nmu_n (fun q => absurd q.1 (by decide))).trans ((nmu_n (fun q => absurd q.1 (by decide))).trans ((nmu_n (fun q => absurd q.1 (by decide))).trans ((nmu_n (fun q => absurd q.1 (by decide))).trans ((nmu_n (fun q => absurd q.1 (by decide))).trans ((nmu_n (fun q => absurd q.1 (by decide))).trans (nmu_n (fun q => absurd q.1 (by decide))))))))) rfl rfl (Nat.le_of_ble_eq_true rfl) (by decide) (by decide) dX5_addBasin_139 ?_
              rintro _ _ _ ⟨q_139, rfl, rfl, rfl⟩
              show WW g z 8 10 201 (nmu (nmu (nmu (nmu (nmu (nmu (nmu (nmu ad 9 (σ 0 0 0) q_125) 12 (σ 0 0 0) q12) 14 (σ 0 0 0) q14) 15 (σ 0 0 0) q15) 16 (σ 0 0 0) q16) 17 (σ 0 0 0) q17) 13 (σ 0 0 0) q13) 2 0 q_139) (up2 (up2 (up2 (up2 (up2 (up2 (up2 (up2 (up2 (Wz z ad σ τ o) 14 (σ 0 0 0) (aI z 8 (upd (fun _ => 0) 0 (nI p)))) 15 (σ 0 0 0) (aI z 8 (fun _ => 0))) 16 (σ 0 0 0) (aI z 8 (fun _ => 0))) 17 (σ 0 0 0) (aI z 61 (fun _ => 0))) 12 (σ 0 0 0) (.inr (8, [.ref q14, .ref q15, .ref q16, .ref q17, .int (nI 1)]))) 13 (σ 0 0 0) (aI z 61 (fun _ => 0))) 9 (σ 0 0 0) (.inr (5, [.int (nI v1), .int (nI v2), .int (nI v3), .int (bw u), .ref q12, .ref q13, .int (0), .int (0)]))) 2 0 (aO z (cap' (σ 0 0 0) (σ 34 0 0)) (va_up (lsF ad 9 (σ 0 0 0)) (σ 0 0 0) (some q_125)))) 1 0 (.inr (4, [.int (nI (σ 33 0 0 + 1)), .ref q_139, .int (nI (σ 0 0 0 + 1))]))) 142 [(7, .int (pI (blw σ (bw u)))), (6, .int (nI (σ 0 0 0))), (0, .ref (ad 0 0)), (1, .int (nI v1)), (2, .int (nI v2)), (3, .int (nI v3)), (4, .int (bw u)), (5, .int (nI p))] [.int (nI 1)]
              refine r_mu (back_B L (Q.2.2.1 _ (Nat.le_refl _)) (fun k hk => (I.2.2.2 k hk).1.1)) ?_
              show WW g z 8 10 201 (nmu (nmu (nmu (nmu (nmu (nmu (nmu (nmu ad 9 (σ 0 0 0) q_125) 12 (σ 0 0 0) q12) 14 (σ 0 0 0) q14) 15 (σ 0 0 0) q15) 16 (σ 0 0 0) q16) 17 (σ 0 0 0) q17) 13 (σ 0 0 0) q13) 2 0 q_139) (Wz z (nmu (nmu (nmu (nmu (nmu (nmu (nmu (nmu ad 9 (σ 0 0 0) q_125) 12 (σ 0 0 0) q12) 14 (σ 0 0 0) q14) 15 (σ 0 0 0) q15) 16 (σ 0 0 0) q16) 17 (σ 0 0 0) q17) 13 (σ 0 0 0) q13) 2 0 q_139) (sBa σ v1 v2 v3 u p) τ o) 142 [(7, .int (pI (blw σ (bw u)))), (6, .int (nI (σ 0 0 0))), (0, .ref ((nmu (nmu (nmu (nmu (nmu (nmu (nmu (nmu ad 9 (σ 0 0 0) q_125) 12 (σ 0 0 0) q12) 14 (σ 0 0 0) q14) 15 (σ 0 0 0) q15) 16 (σ 0 0 0) q16) 17 (σ 0 0 0) q17) 13 (σ 0 0 0) q13) 2 0 q_139) 0 0)), (1, .int (nI v1)), (2, .int (nI v2)), (3, .int (nI v3)), (4, .int (bw u)), (5, .int (nI p))] [.int (nI 1)]
              refine r_pop K dX5_addBasin_142 rfl ?_
              refine r_iload K dX5_addBasin_143 1 rfl ?_
              exact r_iret K (by decide) (by decide) ⟨(by unfold cAB; rw [if_pos ((blw_iff (by omega)).mpr ⟨u, hu, rfl⟩), if_pos ⟨⟨q_62, q_72, q_82⟩, q_97⟩]; exact if_pos (show σ 0 0 0 < 6 ∧ σ 12 0 0 = 0 from ⟨by omega, by omega⟩)), rfl, adK.rf, _, rfl, by unfold fBasin; rw [jN_n (by omega), jN_n (by omega), jN_n (by omega), jN_n (by omega), jB_b (by omega)]; exact agr_basin, C.basin (by omega) (by omega)⟩ dX5_addBasin_145
            · skip
              exact r_throwS (text := "no more basins") K rfl (by decide +kernel) (by decide +kernel) (by decide) wd_450 wd_64 at_IllegalStateException (by decide) dX5_addBasin_107 dX5_addBasin_110 dX5_addBasin_111 dX5_addBasin_113 dX5_addBasin_116 ⟨2, by unfold cAB; rw [if_pos q_42, if_pos ⟨⟨q_62, q_72, q_82⟩, q_97⟩]; exact if_neg (fun q => absurd q.1 (by omega)), rfl⟩ (Nat.le_of_ble_eq_true rfl) (by decide) (by decide)
          · skip
            exact r_throwS (text := "area, depth or width out of range") K rfl (by decide +kernel) (by decide +kernel) (by decide) wd_430 wd_63 at_IllegalArgumentException (by decide) dX5_addBasin_85 dX5_addBasin_88 dX5_addBasin_89 dX5_addBasin_91 dX5_addBasin_94 ⟨1, by unfold cAB; rw [if_pos q_42]; exact if_neg (fun q => c_82 q.1.2.2), rfl⟩ (Nat.le_of_ble_eq_true rfl) (by decide) (by decide)
    · skip
      exact r_throwS (text := "no such basin below") K rfl (by decide +kernel) (by decide +kernel) (by decide) wd_417 wd_61 at_IndexOutOfBoundsException (by decide) dX5_addBasin_45 dX5_addBasin_48 dX5_addBasin_49 dX5_addBasin_51 dX5_addBasin_54 ⟨0, by unfold cAB; exact if_neg c_42, rfl⟩ (Nat.le_of_ble_eq_true rfl) (by decide) (by decide)
  refine r_iload K dX5_addBasin_9 0 rfl ?_
  refine r_if_ne K dX5_addBasin_11 28 (σ 0 0 0 = 0) (n0_eq (by omega)) (by decide) (fun c_11 => ?_) (fun c_11 => ?_)
  · skip
    refine r_iload K dX5_addBasin_28 5 rfl ?_
    refine r_iconst (v := nI 0) K dX5_addBasin_30 (by decide) ?_
    refine r_iload K dX5_addBasin_31 0 rfl ?_
    refine r_iconst (v := nI 1) K dX5_addBasin_33 (by decide) ?_
    refine r_isub (v := (nI (σ 0 0 0)) - (nI 1)) K dX5_addBasin_34 rfl ?_
    refine r_callS (st := []) K (k_X5_isWithin (x := b0) (a := nI 0) (b := (nI (σ 0 0 0)) - (nI 1)) hl) cw_X5_43 wd_415 (by decide) (by decide) rfl (Nat.le_of_ble_eq_true rfl) (by decide) (by decide) dX5_addBasin_35 ?_
    rintro _ _ _ ⟨rfl, rfl, rfl⟩
    show WW g z 8 0 0 ad (Wz z ad σ τ o) 38 [(6, .int (nI (σ 0 0 0))), (0, .ref (ad 0 0)), (1, .int (a)), (2, .int (d)), (3, .int (w)), (4, .int (b0)), (5, .int (h))] [.int (pI (nI 0 ≤ b0 ∧ b0 ≤ (nI (σ 0 0 0)) - (nI 1)))]
    refine r_eq (st' := [.int (pI (blw σ b0))]) rfl rfl rfl (congrArg (fun q => [Value.int q]) (pI_cg (by unfold blw; rw [if_neg (by omega)]))) ?_
    refine r_lv (lv' := [(6, .int (nI (σ 0 0 0))), (0, .ref (ad 0 0)), (1, .int (a)), (2, .int (d)), (3, .int (w)), (4, .int (b0)), (5, .int (h))]) [0, 1, 2, 3, 4, 5, 6] rfl ?_
    exact tl38  
  · skip
    refine r_iload K dX5_addBasin_14 5 rfl ?_
    refine r_iconst (v := bw 0) K dX5_addBasin_16 (by decide) ?_
    refine r_icmp_ne K dX5_addBasin_17 24 (b0 = bw 0) Iff.rfl (by decide) (fun c_17 => ?_) (fun c_17 => ?_)
    · skip
      refine r_iconst (v := nI 0) K dX5_addBasin_24 (by decide) ?_
      refine r_goto K dX5_addBasin_25 38 (by decide) ?_
      refine r_eq (st' := [.int (pI (blw σ b0))]) rfl rfl rfl (by first | exact congrArg (fun q => [Value.int q]) (pI_t (by unfold blw; rw [if_pos (by omega)]; assumption)) | exact congrArg (fun q => [Value.int q]) (pI_f (by unfold blw; rw [if_pos (by omega)]; assumption))) ?_
      refine r_lv (lv' := [(6, .int (nI (σ 0 0 0))), (0, .ref (ad 0 0)), (1, .int (a)), (2, .int (d)), (3, .int (w)), (4, .int (b0)), (5, .int (h))]) [0, 1, 2, 3, 4, 5, 6] rfl ?_
      exact tl38  
    · skip
      refine r_iconst (v := nI 1) K dX5_addBasin_20 (by decide) ?_
      refine r_goto K dX5_addBasin_21 38 (by decide) ?_
      refine r_eq (st' := [.int (pI (blw σ b0))]) rfl rfl rfl (by first | exact congrArg (fun q => [Value.int q]) (pI_t (by unfold blw; rw [if_pos (by omega)]; assumption)) | exact congrArg (fun q => [Value.int q]) (pI_f (by unfold blw; rw [if_pos (by omega)]; assumption))) ?_
      refine r_lv (lv' := [(6, .int (nI (σ 0 0 0))), (0, .ref (ad 0 0)), (1, .int (a)), (2, .int (d)), (3, .int (w)), (4, .int (b0)), (5, .int (h))]) [0, 1, 2, 3, 4, 5, 6] rfl ?_
      exact tl38  
set_option maxRecDepth 100000 in
set_option maxHeartbeats 4000000 in
theorem k_X5_removeRule {z : Zx} {l : Launch} {σ τ : Sg} {o : Int64 × UInt64} {ad : Nm} (hl : l.stackTraces = false) {x : Int32} (Q : IR σ) (C : ICo σ) : Ko z l yX5_removeRule cX5_removeRule 2 (some .int) 8 1 6 [.ref (ad 0 0), .int (x)] ad (Wz z ad σ τ o) (okC z ad τ o (cR σ x) (.int (nI (σ 0 1 0 - 1))) (fRem σ x)) (exT (cR σ x) ["java/lang/IndexOutOfBoundsException"]) := by
  refine ko_of hl (by decide +kernel) (Nat.le_of_ble_eq_true rfl) (fun g hg K => ?_)
  subst hg
  have I := Q.1
  have L := C.1
  have D := C.2.1
  have q0 := I.1.1
  have q1 := I.1.2.1
  have q2 := I.1.2.2.1
  have q3 := I.1.2.2.2.1
  have q5 := Q.2.1
  show WW g z 2 0 0 ad (Wz z ad σ τ o) 0 [(0, .ref (ad 0 0)), (1, .int (x))] []
  refine r_aload_n K dX5_removeRule_0 0 rfl rfl ?_
  refine r_iload_n K dX5_removeRule_1 1 rfl rfl ?_
  refine r_callVx (st := []) K (k_X5_requireRule (x := x) hl) (fun E h => ⟨0, by unfold cR; exact if_neg h.2, by rw [h.1]; rfl⟩) cw_X5_120 wd_693 wd_15 (by decide) (by decide) rfl rfl rfl rfl (Nat.le_of_ble_eq_true rfl) (by decide) (by decide) dX5_removeRule_2 ?_
  rintro _ _ _ ⟨rfl, rfl, rfl, q_2⟩
  obtain ⟨j, hj, rfl⟩ := (in0_iff (by omega)).mp q_2
  show WW g z 2 1 6 ad (Wz z ad σ τ o) 5 [(0, .ref (ad 0 0)), (1, .int (nI j))] []
  have hL1 := L 1 (by decide)
  refine r_aload_n K dX5_removeRule_5 0 rfl rfl ?_
  refine r_get (v := .ref (ad 1 1)) K fd_X5_16 rfl rfl rfl dX5_removeRule_6 ?_
  refine r_iload_n K dX5_removeRule_9 1 rfl rfl ?_
  refine r_callV (st := []) K (k_Jx4a65c_remove_915e3 (li := 1) (i := j) (ci := 7) (m := σ 33 1 0) (c := σ 0 1 0) (n := σ 34 1 0) (f := lsF ad 10 (σ 0 1 0)) hl ((W_1 (by decide)).trans (by rw [if_neg (show ¬ σ 34 1 0 = 0 by omega)])) (W_2 ⟨by decide, by omega⟩) (L 1 (by decide)).1 (L 1 (by decide)).2 (by omega) (by decide) rfl (by decide +kernel) el_10.els (if_pos (by omega))) cw_X5_123 wd_697 wd_698 (by decide) (by decide) (W_1 (by first | exact hb | exact hk | exact hj | exact hw | omega | assumption)) rfl rfl rfl (Nat.le_of_ble_eq_true rfl) (by decide) (by decide) dX5_removeRule_10 ?_
  rintro _ _ _ ⟨⟨x_, rfl⟩, rfl, rfl⟩
  refine r_rem L (by omega) rfl ?_
  show WW g z 2 1 6 (adR ad j) (Wz z (adR ad j) (sRm σ j) τ o) 13 [(0, .ref ((adR ad j) 0 0)), (1, .int (nI j))] [.ref x_]
  refine r_pop K dX5_removeRule_13 rfl ?_
  refine r_aload_n K dX5_removeRule_14 0 rfl rfl ?_
  refine r_get (v := .ref ((adR ad j) 1 1)) K fd_X5_16 rfl rfl rfl dX5_removeRule_15 ?_
  refine r_callV (st := []) K (k_Jx4a65c_size_8abf5 (l0 := 1) hl (by decide)) cw_X5_39 wd_206 wd_207 (by decide) (by decide) (W_1 (by first | exact hb | exact hk | exact hj | exact hw | omega | assumption)) rfl rfl rfl (Nat.le_of_ble_eq_true rfl) (by decide) (by decide) dX5_removeRule_18 ?_
  rintro _ _ _ ⟨rfl, rfl, rfl⟩
  show WW g z 2 1 6 (adR ad j) (Wz z (adR ad j) (sRm σ j) τ o) 21 [(0, .ref ((adR ad j) 0 0)), (1, .int (nI j))] [.int (nI ((sRm σ j) 0 1 0))]
  exact r_iret K (by decide) (by decide) ⟨(by unfold cR; exact if_pos q_2), by rw [sRm_01], ⟨rfl, rfl, rfl, rfl⟩, _, rfl, by unfold fRem; rw [jN_n (by omega)]; exact agr_rem, C.rem⟩ dX5_removeRule_21
set_option maxRecDepth 100000 in
set_option maxHeartbeats 4000000 in
theorem k_X5_writeRule {z : Zx} {l : Launch} {σ τ : Sg} {o : Int64 × UInt64} {ad : Nm} (hl : l.stackTraces = false) {x : Int32} (Q : IR σ) (C : ICo σ) : Ko z l yX5_writeRule cX5_writeRule 3 (some .int) 8 1 6 [.ref (ad 0 0), .int (x)] ad (Wz z ad σ τ o) (okC z ad τ o (cR σ x) (.int (nI (wrl σ (σ 8 (jN x) 0) (σ 8 (jN x) 1) (σ 8 (jN x) 2) (σ 8 (jN x) 3) (σ 8 (jN x) 4) 12 2 0))) (wrl σ (σ 8 (jN x) 0) (σ 8 (jN x) 1) (σ 8 (jN x) 2) (σ 8 (jN x) 3) (σ 8 (jN x) 4))) (exT (cR σ x) ["java/lang/IndexOutOfBoundsException"]) := by
  refine ko_of hl (by decide +kernel) (Nat.le_of_ble_eq_true rfl) (fun g hg K => ?_)
  subst hg
  have I := Q.1
  have L := C.1
  have D := C.2.1
  have q0 := I.1.1
  have q1 := I.1.2.1
  have q2 := I.1.2.2.1
  have q3 := I.1.2.2.2.1
  have q5 := Q.2.1
  show WW g z 3 0 0 ad (Wz z ad σ τ o) 0 [(0, .ref (ad 0 0)), (1, .int (x))] []
  refine r_aload_n K dX5_writeRule_0 0 rfl rfl ?_
  refine r_iload_n K dX5_writeRule_1 1 rfl rfl ?_
  refine r_callVx (st := []) K (k_X5_requireRule (x := x) hl) (fun E h => ⟨0, by unfold cR; exact if_neg h.2, by rw [h.1]; rfl⟩) cw_X5_120 wd_693 wd_15 (by decide) (by decide) rfl rfl rfl rfl (Nat.le_of_ble_eq_true rfl) (by decide) (by decide) dX5_writeRule_2 ?_
  rintro _ _ _ ⟨rfl, rfl, rfl, q_2⟩
  obtain ⟨j, hj, rfl⟩ := (in0_iff (by omega)).mp q_2
  show WW g z 3 1 6 ad (Wz z ad σ τ o) 5 [(0, .ref (ad 0 0)), (1, .int (nI j))] []
  obtain ⟨r1, r2, r3, r4, r5⟩ := I.2.2.1 j hj
  have d0 := dg_le (σ 8 j 0)
  have d1 := dg_le (σ 8 j 1)
  have d3 := dg_le (σ 8 j 3)
  have d4 := dg_le (σ 8 j 4)
  have d0e := dg_1 (v := σ 8 j 0) (by omega)
  have d1e := dg_1 (v := σ 8 j 1) (by omega)
  have hl9 := I.1.2.2.2.2.1
  refine r_aload_n K dX5_writeRule_5 0 rfl rfl ?_
  refine r_get (v := .ref (ad 1 1)) K fd_X5_16 rfl rfl rfl dX5_writeRule_6 ?_
  refine r_iload_n K dX5_writeRule_9 1 rfl rfl ?_
  refine r_callV (st := []) K (k_Jx4a65c_get_915e3 (l0 := 1) (i := j) hl (by decide) L (by first | exact hb | exact hk | exact hj | exact hw | omega | assumption)) cw_X5_127 wd_250 wd_251 (by decide) (by decide) (W_1 (by first | exact hb | exact hk | exact hj | exact hw | omega | assumption)) rfl rfl rfl (Nat.le_of_ble_eq_true rfl) (by decide) (by decide) dX5_writeRule_10 ?_
  rintro _ _ _ ⟨rfl, rfl, rfl⟩
  show WW g z 3 1 6 ad (Wz z ad σ τ o) 13 [(0, .ref (ad 0 0)), (1, .int (nI j))] [.ref (ad 10 j)]
  refine r_castS K wd_288 rfl (W_10 (by first | exact hb | exact hk | exact hj | exact hw | omega | assumption)) rfl dX5_writeRule_13 ?_
  refine r_astore_n (lv' := [(2, .ref (ad 10 j)), (0, .ref (ad 0 0)), (1, .int (nI j))]) K dX5_writeRule_16 rfl (by decide) rfl ?_
  refine r_aload_n K dX5_writeRule_17 1 rfl rfl ?_
  refine r_get (v := .ref (ad 7 0)) K fd_X5_35 rfl rfl rfl dX5_writeRule_18 ?_
  refine r_iconst (v := nI 0) K dX5_writeRule_21 (by decide) ?_
  refine r_callV (st := []) K (k_J4_setLength_d00df hl C.2.2.2.2.2 (by omega)) cw_X5_266 wd_1018 wd_1019 (by decide) (by decide) rfl rfl rfl rfl (Nat.le_of_ble_eq_true rfl) (by decide) (by decide) dX5_writeRule_22 ?_
  rintro _ _ _ ⟨rfl, rfl, f, hf, rfl⟩
  show WW g z 3 1 6 ad (Wz z ad (su (su σ 37 0 0 f) 12 2 0 0) τ o) 25 [(2, .ref (ad 10 j)), (0, .ref (ad 0 0)), (1, .int (nI j))] []
  refine r_aload_n K dX5_writeRule_25 1 rfl rfl ?_
  refine r_get (v := .ref (ad 7 0)) K fd_X5_35 rfl rfl rfl dX5_writeRule_26 ?_
  refine r_aload_n K dX5_writeRule_29 0 rfl rfl ?_
  have h_30 : (su (su σ 37 0 0 f) 12 2 0 0) 8 j 0 = σ 8 j 0 := by (repeat first | rw [lnum_n (by decide) (by decide)] | rw [lput_n (by decide) (by decide)]); exact kL.wr2 8 j 0 rfl
  refine r_get (v := .int (nI (σ 8 j 0))) K fd_X5_269 (W_10 (by rw [show (su (su σ 37 0 0 f) 12 2 0 0) 0 1 0 = σ 0 1 0 from by (repeat first | rw [lnum_n (by decide) (by decide)] | rw [lput_n (by decide) (by decide)]); rfl]; exact hj)) rfl (congrArg (fun q => some (Value.int (nI q))) h_30) dX5_writeRule_30 ?_
  refine r_callV (st := []) K (k_J4_append_bf812 (v := σ 8 j 0) hl (by omega) (by simp only [lnum_l, lput_len, su_s]; omega)) cw_X5_272 wd_1138 wd_1139 (by decide) (by decide) rfl rfl rfl rfl (Nat.le_of_ble_eq_true rfl) (by decide) (by decide) dX5_writeRule_33 ?_
  rintro _ _ _ ⟨rfl, rfl, rfl⟩
  show WW g z 3 1 6 ad (Wz z ad (lnum (su (su σ 37 0 0 f) 12 2 0 0) (σ 8 j 0)) τ o) 36 [(2, .ref (ad 10 j)), (0, .ref (ad 0 0)), (1, .int (nI j))] [.ref (ad 7 0)]
  refine r_bipush (v := nI 58) K dX5_writeRule_36 (by decide) ?_
  refine r_callV (st := []) K (k_J4_append_cf468 (c := 58) hl (by omega) (by simp only [lnum_l, lput_len, su_s]; omega)) cw_X5_275 wd_1261 wd_1262 (by decide) (by decide) rfl rfl rfl rfl (Nat.le_of_ble_eq_true rfl) (by decide) (by decide) dX5_writeRule_38 ?_
  rintro _ _ _ ⟨rfl, rfl, rfl⟩
  show WW g z 3 1 6 ad (Wz z ad (lput (lnum (su (su σ 37 0 0 f) 12 2 0 0) (σ 8 j 0)) 58) τ o) 41 [(2, .ref (ad 10 j)), (0, .ref (ad 0 0)), (1, .int (nI j))] [.ref (ad 7 0)]
  refine r_aload_n K dX5_writeRule_41 0 rfl rfl ?_
  have h_42 : (lput (lnum (su (su σ 37 0 0 f) 12 2 0 0) (σ 8 j 0)) 58) 8 j 1 = σ 8 j 1 := by (repeat first | rw [lnum_n (by decide) (by decide)] | rw [lput_n (by decide) (by decide)]); exact kL.wr2 8 j 1 rfl
  refine r_get (v := .int (nI (σ 8 j 1))) K fd_X5_278 (W_10 (by rw [show (lput (lnum (su (su σ 37 0 0 f) 12 2 0 0) (σ 8 j 0)) 58) 0 1 0 = σ 0 1 0 from by (repeat first | rw [lnum_n (by decide) (by decide)] | rw [lput_n (by decide) (by decide)]); rfl]; exact hj)) rfl (congrArg (fun q => some (Value.int (nI q))) h_42) dX5_writeRule_42 ?_
  refine r_callV (st := []) K (k_J4_append_bf812 (v := σ 8 j 1) hl (by omega) (by simp only [lnum_l, lput_len, su_s]; omega)) cw_X5_272 wd_1138 wd_1139 (by decide) (by decide) rfl rfl rfl rfl (Nat.le_of_ble_eq_true rfl) (by decide) (by decide) dX5_writeRule_45 ?_
  rintro _ _ _ ⟨rfl, rfl, rfl⟩
  show WW g z 3 1 6 ad (Wz z ad (lnum (lput (lnum (su (su σ 37 0 0 f) 12 2 0 0) (σ 8 j 0)) 58) (σ 8 j 1)) τ o) 48 [(2, .ref (ad 10 j)), (0, .ref (ad 0 0)), (1, .int (nI j))] [.ref (ad 7 0)]
  refine r_pop K dX5_writeRule_48 rfl ?_
  refine r_aload_n K dX5_writeRule_49 1 rfl rfl ?_
  refine r_get (v := .ref (ad 7 0)) K fd_X5_35 rfl rfl rfl dX5_writeRule_50 ?_
  refine r_aload_n K dX5_writeRule_53 0 rfl rfl ?_
  have h_54 : (lnum (lput (lnum (su (su σ 37 0 0 f) 12 2 0 0) (σ 8 j 0)) 58) (σ 8 j 1)) 8 j 2 = σ 8 j 2 := by (repeat first | rw [lnum_n (by decide) (by decide)] | rw [lput_n (by decide) (by decide)]); exact kL.wr2 8 j 2 rfl
  refine r_get (v := .int (nI (σ 8 j 2))) K fd_X5_281 (W_10 (by rw [show (lnum (lput (lnum (su (su σ 37 0 0 f) 12 2 0 0) (σ 8 j 0)) 58) (σ 8 j 1)) 0 1 0 = σ 0 1 0 from by (repeat first | rw [lnum_n (by decide) (by decide)] | rw [lput_n (by decide) (by decide)]); rfl]; exact hj)) rfl (congrArg (fun q => some (Value.int (nI q))) h_54) dX5_writeRule_54 ?_
  refine r_if_eq K dX5_writeRule_57 65 (σ 8 j 2 = 0) (n0_eq (by omega)) (by decide) (fun c_57 => ?_) (fun c_57 => ?_)
  · skip
    refine r_bipush (v := nI 60) K dX5_writeRule_65 (by decide) ?_
    refine r_callV (st := []) K (k_J4_append_cf468 (c := 60) hl (by omega) (by simp only [lnum_l, lput_len, su_s]; omega)) cw_X5_275 wd_1261 wd_1262 (by decide) (by decide) rfl rfl rfl rfl (Nat.le_of_ble_eq_true rfl) (by decide) (by decide) dX5_writeRule_67 ?_
    rintro _ _ _ ⟨rfl, rfl, rfl⟩
    show WW g z 3 1 6 ad (Wz z ad (lput (lnum (lput (lnum (su (su σ 37 0 0 f) 12 2 0 0) (σ 8 j 0)) 58) (σ 8 j 1)) 60) τ o) 70 [(2, .ref (ad 10 j)), (0, .ref (ad 0 0)), (1, .int (nI j))] [.ref (ad 7 0)]
    refine r_aload_n K dX5_writeRule_70 0 rfl rfl ?_
    have h_71 : (lput (lnum (lput (lnum (su (su σ 37 0 0 f) 12 2 0 0) (σ 8 j 0)) 58) (σ 8 j 1)) 60) 8 j 3 = σ 8 j 3 := by (repeat first | rw [lnum_n (by decide) (by decide)] | rw [lput_n (by decide) (by decide)]); exact kL.wr2 8 j 3 rfl
    refine r_get (v := .int (nI (σ 8 j 3))) K fd_X5_285 (W_10 (by rw [show (lput (lnum (lput (lnum (su (su σ 37 0 0 f) 12 2 0 0) (σ 8 j 0)) 58) (σ 8 j 1)) 60) 0 1 0 = σ 0 1 0 from by (repeat first | rw [lnum_n (by decide) (by decide)] | rw [lput_n (by decide) (by decide)]); rfl]; exact hj)) rfl (congrArg (fun q => some (Value.int (nI q))) h_71) dX5_writeRule_71 ?_
    refine r_callV (st := []) K (k_J4_append_bf812 (v := σ 8 j 3) hl (by omega) (by simp only [lnum_l, lput_len, su_s]; omega)) cw_X5_272 wd_1138 wd_1139 (by decide) (by decide) rfl rfl rfl rfl (Nat.le_of_ble_eq_true rfl) (by decide) (by decide) dX5_writeRule_74 ?_
    rintro _ _ _ ⟨rfl, rfl, rfl⟩
    show WW g z 3 1 6 ad (Wz z ad (lnum (lput (lnum (lput (lnum (su (su σ 37 0 0 f) 12 2 0 0) (σ 8 j 0)) 58) (σ 8 j 1)) 60) (σ 8 j 3)) τ o) 77 [(2, .ref (ad 10 j)), (0, .ref (ad 0 0)), (1, .int (nI j))] [.ref (ad 7 0)]
    refine r_pop K dX5_writeRule_77 rfl ?_
    refine r_aload_n K dX5_writeRule_78 1 rfl rfl ?_
    refine r_get (v := .ref (ad 7 0)) K fd_X5_35 rfl rfl rfl dX5_writeRule_79 ?_
    refine r_bipush (v := nI 61) K dX5_writeRule_82 (by decide) ?_
    refine r_callV (st := []) K (k_J4_append_cf468 (c := 61) hl (by omega) (by simp only [lnum_l, lput_len, su_s]; omega)) cw_X5_275 wd_1261 wd_1262 (by decide) (by decide) rfl rfl rfl rfl (Nat.le_of_ble_eq_true rfl) (by decide) (by decide) dX5_writeRule_84 ?_
    rintro _ _ _ ⟨rfl, rfl, rfl⟩
    show WW g z 3 1 6 ad (Wz z ad (lput (lnum (lput (lnum (lput (lnum (su (su σ 37 0 0 f) 12 2 0 0) (σ 8 j 0)) 58) (σ 8 j 1)) 60) (σ 8 j 3)) 61) τ o) 87 [(2, .ref (ad 10 j)), (0, .ref (ad 0 0)), (1, .int (nI j))] [.ref (ad 7 0)]
    refine r_aload_n K dX5_writeRule_87 0 rfl rfl ?_
    have h_88 : (lput (lnum (lput (lnum (lput (lnum (su (su σ 37 0 0 f) 12 2 0 0) (σ 8 j 0)) 58) (σ 8 j 1)) 60) (σ 8 j 3)) 61) 8 j 4 = σ 8 j 4 := by (repeat first | rw [lnum_n (by decide) (by decide)] | rw [lput_n (by decide) (by decide)]); exact kL.wr2 8 j 4 rfl
    refine r_get (v := .int (nI (σ 8 j 4))) K fd_X5_288 (W_10 (by rw [show (lput (lnum (lput (lnum (lput (lnum (su (su σ 37 0 0 f) 12 2 0 0) (σ 8 j 0)) 58) (σ 8 j 1)) 60) (σ 8 j 3)) 61) 0 1 0 = σ 0 1 0 from by (repeat first | rw [lnum_n (by decide) (by decide)] | rw [lput_n (by decide) (by decide)]); rfl]; exact hj)) rfl (congrArg (fun q => some (Value.int (nI q))) h_88) dX5_writeRule_88 ?_
    refine r_callV (st := []) K (k_J4_append_bf812 (v := σ 8 j 4) hl (by omega) (by simp only [lnum_l, lput_len, su_s]; omega)) cw_X5_272 wd_1138 wd_1139 (by decide) (by decide) rfl rfl rfl rfl (Nat.le_of_ble_eq_true rfl) (by decide) (by decide) dX5_writeRule_91 ?_
    rintro _ _ _ ⟨rfl, rfl, rfl⟩
    show WW g z 3 1 6 ad (Wz z ad (lnum (lput (lnum (lput (lnum (lput (lnum (su (su σ 37 0 0 f) 12 2 0 0) (σ 8 j 0)) 58) (σ 8 j 1)) 60) (σ 8 j 3)) 61) (σ 8 j 4)) τ o) 94 [(2, .ref (ad 10 j)), (0, .ref (ad 0 0)), (1, .int (nI j))] [.ref (ad 7 0)]
    refine r_pop K dX5_writeRule_94 rfl ?_
    refine r_aload_n K dX5_writeRule_95 1 rfl rfl ?_
    refine r_get (v := .ref (ad 7 0)) K fd_X5_35 rfl rfl rfl dX5_writeRule_96 ?_
    refine r_callV (st := []) K (k_J4_length_8abf5 hl) cw_X5_291 wd_1183 wd_1708 (by decide) (by decide) rfl rfl rfl rfl (Nat.le_of_ble_eq_true rfl) (by decide) (by decide) dX5_writeRule_99 ?_
    rintro _ _ _ ⟨rfl, rfl, rfl⟩
    show WW g z 3 1 6 ad (Wz z ad (lnum (lput (lnum (lput (lnum (lput (lnum (su (su σ 37 0 0 f) 12 2 0 0) (σ 8 j 0)) 58) (σ 8 j 1)) 60) (σ 8 j 3)) 61) (σ 8 j 4)) τ o) 102 [(2, .ref (ad 10 j)), (0, .ref (ad 0 0)), (1, .int (nI j))] [.int (nI ((lnum (lput (lnum (lput (lnum (lput (lnum (su (su σ 37 0 0 f) 12 2 0 0) (σ 8 j 0)) 58) (σ 8 j 1)) 60) (σ 8 j 3)) 61) (σ 8 j 4)) 12 2 0))]
    have e37 : (lnum (lput (lnum (lput (lnum (lput (lnum (su (su σ 37 0 0 f) 12 2 0 0) (σ 8 j 0)) 58) (σ 8 j 1)) 60) (σ 8 j 3)) 61) (σ 8 j 4)) 37 0 0 = f := by (repeat first | rw [lnum_n (by decide) (by decide)] | rw [lput_n (by decide) (by decide)]); exact (su_n (by omega)).trans su_s
    have hag : agr (lnum (lput (lnum (lput (lnum (lput (lnum (su (su σ 37 0 0 f) 12 2 0 0) (σ 8 j 0)) 58) (σ 8 j 1)) 60) (σ 8 j 3)) 61) (σ 8 j 4)) (wrl σ (σ 8 j 0) (σ 8 j 1) (σ 8 j 2) (σ 8 j 3) (σ 8 j 4)) := by unfold wrl; rw [show isF (σ 8 j 2) = 60 by rw [c_57]; rfl]; exact ((agr.rf (σ := σ)).sx (f := 37) (by decide)).put.lnum.lput.lnum.lput.lnum.lput.lnum
    have hkl : kL (su σ 37 0 0 f) (lnum (lput (lnum (lput (lnum (lput (lnum (su (su σ 37 0 0 f) 12 2 0 0) (σ 8 j 0)) 58) (σ 8 j 1)) 60) (σ 8 j 3)) 61) (σ 8 j 4)) := ((((((kL.len.tr kL.num).tr kL.put).tr kL.num).tr kL.put).tr kL.num).tr kL.put).tr kL.num
    exact r_iret K (by decide) (by decide) ⟨(by unfold cR; exact if_pos q_2), by rw [jN_n (by omega)]; exact congrArg (fun q => some (Value.int (nI q))) (hag 12 2 0 (by decide) (fun q => by omega)), adK.rf, _, rfl, by rw [jN_n (by omega)]; exact hag, C.ln (by rw [e37]; exact hkl) (by rw [e37]; exact hf)⟩ dX5_writeRule_102
  · skip
    refine r_bipush (v := nI 62) K dX5_writeRule_60 (by decide) ?_
    refine r_goto K dX5_writeRule_62 67 (by decide) ?_
    refine r_callV (st := []) K (k_J4_append_cf468 (c := 62) hl (by omega) (by simp only [lnum_l, lput_len, su_s]; omega)) cw_X5_275 wd_1261 wd_1262 (by decide) (by decide) rfl rfl rfl rfl (Nat.le_of_ble_eq_true rfl) (by decide) (by decide) dX5_writeRule_67 ?_
    rintro _ _ _ ⟨rfl, rfl, rfl⟩
    show WW g z 3 1 6 ad (Wz z ad (lput (lnum (lput (lnum (su (su σ 37 0 0 f) 12 2 0 0) (σ 8 j 0)) 58) (σ 8 j 1)) 62) τ o) 70 [(2, .ref (ad 10 j)), (0, .ref (ad 0 0)), (1, .int (nI j))] [.ref (ad 7 0)]
    refine r_aload_n K dX5_writeRule_70 0 rfl rfl ?_
    have h_71 : (lput (lnum (lput (lnum (su (su σ 37 0 0 f) 12 2 0 0) (σ 8 j 0)) 58) (σ 8 j 1)) 62) 8 j 3 = σ 8 j 3 := by (repeat first | rw [lnum_n (by decide) (by decide)] | rw [lput_n (by decide) (by decide)]); exact kL.wr2 8 j 3 rfl
    refine r_get (v := .int (nI (σ 8 j 3))) K fd_X5_285 (W_10 (by rw [show (lput (lnum (lput (lnum (su (su σ 37 0 0 f) 12 2 0 0) (σ 8 j 0)) 58) (σ 8 j 1)) 62) 0 1 0 = σ 0 1 0 from by (repeat first | rw [lnum_n (by decide) (by decide)] | rw [lput_n (by decide) (by decide)]); rfl]; exact hj)) rfl (congrArg (fun q => some (Value.int (nI q))) h_71) dX5_writeRule_71 ?_
    refine r_callV (st := []) K (k_J4_append_bf812 (v := σ 8 j 3) hl (by omega) (by simp only [lnum_l, lput_len, su_s]; omega)) cw_X5_272 wd_1138 wd_1139 (by decide) (by decide) rfl rfl rfl rfl (Nat.le_of_ble_eq_true rfl) (by decide) (by decide) dX5_writeRule_74 ?_
    rintro _ _ _ ⟨rfl, rfl, rfl⟩
    show WW g z 3 1 6 ad (Wz z ad (lnum (lput (lnum (lput (lnum (su (su σ 37 0 0 f) 12 2 0 0) (σ 8 j 0)) 58) (σ 8 j 1)) 62) (σ 8 j 3)) τ o) 77 [(2, .ref (ad 10 j)), (0, .ref (ad 0 0)), (1, .int (nI j))] [.ref (ad 7 0)]
    refine r_pop K dX5_writeRule_77 rfl ?_
    refine r_aload_n K dX5_writeRule_78 1 rfl rfl ?_
    refine r_get (v := .ref (ad 7 0)) K fd_X5_35 rfl rfl rfl dX5_writeRule_79 ?_
    refine r_bipush (v := nI 61) K dX5_writeRule_82 (by decide) ?_
    refine r_callV (st := []) K (k_J4_append_cf468 (c := 61) hl (by omega) (by simp only [lnum_l, lput_len, su_s]; omega)) cw_X5_275 wd_1261 wd_1262 (by decide) (by decide) rfl rfl rfl rfl (Nat.le_of_ble_eq_true rfl) (by decide) (by decide) dX5_writeRule_84 ?_
    rintro _ _ _ ⟨rfl, rfl, rfl⟩
    show WW g z 3 1 6 ad (Wz z ad (lput (lnum (lput (lnum (lput (lnum (su (su σ 37 0 0 f) 12 2 0 0) (σ 8 j 0)) 58) (σ 8 j 1)) 62) (σ 8 j 3)) 61) τ o) 87 [(2, .ref (ad 10 j)), (0, .ref (ad 0 0)), (1, .int (nI j))] [.ref (ad 7 0)]
    refine r_aload_n K dX5_writeRule_87 0 rfl rfl ?_
    have h_88 : (lput (lnum (lput (lnum (lput (lnum (su (su σ 37 0 0 f) 12 2 0 0) (σ 8 j 0)) 58) (σ 8 j 1)) 62) (σ 8 j 3)) 61) 8 j 4 = σ 8 j 4 := by (repeat first | rw [lnum_n (by decide) (by decide)] | rw [lput_n (by decide) (by decide)]); exact kL.wr2 8 j 4 rfl
    refine r_get (v := .int (nI (σ 8 j 4))) K fd_X5_288 (W_10 (by rw [show (lput (lnum (lput (lnum (lput (lnum (su (su σ 37 0 0 f) 12 2 0 0) (σ 8 j 0)) 58) (σ 8 j 1)) 62) (σ 8 j 3)) 61) 0 1 0 = σ 0 1 0 from by (repeat first | rw [lnum_n (by decide) (by decide)] | rw [lput_n (by decide) (by decide)]); rfl]; exact hj)) rfl (congrArg (fun q => some (Value.int (nI q))) h_88) dX5_writeRule_88 ?_
    refine r_callV (st := []) K (k_J4_append_bf812 (v := σ 8 j 4) hl (by omega) (by simp only [lnum_l, lput_len, su_s]; omega)) cw_X5_272 wd_1138 wd_1139 (by decide) (by decide) rfl rfl rfl rfl (Nat.le_of_ble_eq_true rfl) (by decide) (by decide) dX5_writeRule_91 ?_
    rintro _ _ _ ⟨rfl, rfl, rfl⟩
    show WW g z 3 1 6 ad (Wz z ad (lnum (lput (lnum (lput (lnum (lput (lnum (su (su σ 37 0 0 f) 12 2 0 0) (σ 8 j 0)) 58) (σ 8 j 1)) 62) (σ 8 j 3)) 61) (σ 8 j 4)) τ o) 94 [(2, .ref (ad 10 j)), (0, .ref (ad 0 0)), (1, .int (nI j))] [.ref (ad 7 0)]
    refine r_pop K dX5_writeRule_94 rfl ?_
    refine r_aload_n K dX5_writeRule_95 1 rfl rfl ?_
    refine r_get (v := .ref (ad 7 0)) K fd_X5_35 rfl rfl rfl dX5_writeRule_96 ?_
    refine r_callV (st := []) K (k_J4_length_8abf5 hl) cw_X5_291 wd_1183 wd_1708 (by decide) (by decide) rfl rfl rfl rfl (Nat.le_of_ble_eq_true rfl) (by decide) (by decide) dX5_writeRule_99 ?_
    rintro _ _ _ ⟨rfl, rfl, rfl⟩
    show WW g z 3 1 6 ad (Wz z ad (lnum (lput (lnum (lput (lnum (lput (lnum (su (su σ 37 0 0 f) 12 2 0 0) (σ 8 j 0)) 58) (σ 8 j 1)) 62) (σ 8 j 3)) 61) (σ 8 j 4)) τ o) 102 [(2, .ref (ad 10 j)), (0, .ref (ad 0 0)), (1, .int (nI j))] [.int (nI ((lnum (lput (lnum (lput (lnum (lput (lnum (su (su σ 37 0 0 f) 12 2 0 0) (σ 8 j 0)) 58) (σ 8 j 1)) 62) (σ 8 j 3)) 61) (σ 8 j 4)) 12 2 0))]
    have e37 : (lnum (lput (lnum (lput (lnum (lput (lnum (su (su σ 37 0 0 f) 12 2 0 0) (σ 8 j 0)) 58) (σ 8 j 1)) 62) (σ 8 j 3)) 61) (σ 8 j 4)) 37 0 0 = f := by (repeat first | rw [lnum_n (by decide) (by decide)] | rw [lput_n (by decide) (by decide)]); exact (su_n (by omega)).trans su_s
    have hag : agr (lnum (lput (lnum (lput (lnum (lput (lnum (su (su σ 37 0 0 f) 12 2 0 0) (σ 8 j 0)) 58) (σ 8 j 1)) 62) (σ 8 j 3)) 61) (σ 8 j 4)) (wrl σ (σ 8 j 0) (σ 8 j 1) (σ 8 j 2) (σ 8 j 3) (σ 8 j 4)) := by unfold wrl; rw [isF_1 c_57]; exact ((agr.rf (σ := σ)).sx (f := 37) (by decide)).put.lnum.lput.lnum.lput.lnum.lput.lnum
    have hkl : kL (su σ 37 0 0 f) (lnum (lput (lnum (lput (lnum (lput (lnum (su (su σ 37 0 0 f) 12 2 0 0) (σ 8 j 0)) 58) (σ 8 j 1)) 62) (σ 8 j 3)) 61) (σ 8 j 4)) := ((((((kL.len.tr kL.num).tr kL.put).tr kL.num).tr kL.put).tr kL.num).tr kL.put).tr kL.num
    exact r_iret K (by decide) (by decide) ⟨(by unfold cR; exact if_pos q_2), by rw [jN_n (by omega)]; exact congrArg (fun q => some (Value.int (nI q))) (hag 12 2 0 (by decide) (fun q => by omega)), adK.rf, _, rfl, by rw [jN_n (by omega)]; exact hag, C.ln (by rw [e37]; exact hkl) (by rw [e37]; exact hf)⟩ dX5_writeRule_102
set_option maxRecDepth 100000 in
set_option maxHeartbeats 4000000 in
theorem k_X5_lineAt {z : Zx} {l : Launch} {σ τ : Sg} {o : Int64 × UInt64} {ad : Nm} (hl : l.stackTraces = false) {x : Int32} (Q : IR σ) (C : ICo σ) : Ko z l yX5_lineAt cX5_lineAt 2 (some .char) 8 1 6 [.ref (ad 0 0), .int (x)] ad (Wz z ad σ τ o) (okC z ad τ o (cL σ x) (.int (nI (σ 11 0 (jN x)))) (σ)) (exT (cL σ x) ["java/lang/IndexOutOfBoundsException"]) := by
  refine ko_of hl (by decide +kernel) (Nat.le_of_ble_eq_true rfl) (fun g hg K => ?_)
  subst hg
  have I := Q.1
  have L := C.1
  have D := C.2.1
  have q0 := I.1.1
  have q1 := I.1.2.1
  have q2 := I.1.2.2.1
  have q3 := I.1.2.2.2.1
  have q5 := Q.2.1
  show WW g z 2 0 0 ad (Wz z ad σ τ o) 0 [(0, .ref (ad 0 0)), (1, .int (x))] []
  refine r_iload_n K dX5_lineAt_0 1 rfl rfl ?_
  refine r_iconst (v := nI 0) K dX5_lineAt_1 (by decide) ?_
  refine r_aload_n K dX5_lineAt_2 0 rfl rfl ?_
  refine r_get (v := .ref (ad 7 0)) K fd_X5_35 rfl rfl rfl dX5_lineAt_3 ?_
  refine r_callV (st := [.int (nI 0), .int (x)]) K (k_J4_length_8abf5 hl) cw_X5_291 wd_1183 wd_1708 (by decide) (by decide) rfl rfl rfl rfl (Nat.le_of_ble_eq_true rfl) (by decide) (by decide) dX5_lineAt_6 ?_
  rintro _ _ _ ⟨rfl, rfl, rfl⟩
  show WW g z 2 0 0 ad (Wz z ad σ τ o) 9 [(0, .ref (ad 0 0)), (1, .int (x))] [.int (nI (σ 12 2 0)), .int (nI 0), .int (x)]
  refine r_iconst (v := nI 1) K dX5_lineAt_9 (by decide) ?_
  refine r_isub (v := (nI (σ 12 2 0)) - (nI 1)) K dX5_lineAt_10 rfl ?_
  refine r_callS (st := []) K (k_X5_isWithin (x := x) (a := nI 0) (b := (nI (σ 12 2 0)) - (nI 1)) hl) cw_X5_43 wd_415 (by decide) (by decide) rfl (Nat.le_of_ble_eq_true rfl) (by decide) (by decide) dX5_lineAt_11 ?_
  rintro _ _ _ ⟨rfl, rfl, rfl⟩
  show WW g z 2 0 0 ad (Wz z ad σ τ o) 14 [(0, .ref (ad 0 0)), (1, .int (x))] [.int (pI (nI 0 ≤ x ∧ x ≤ (nI (σ 12 2 0)) - (nI 1)))]
  refine r_if_ne K dX5_lineAt_14 28 (¬ (nI 0 ≤ x ∧ x ≤ (nI (σ 12 2 0)) - (nI 1))) pI_eq0 (by decide) (fun c_14 => ?_) (fun c_14 => ?_)
  · skip
    have q_14 := Decidable.not_not.mp c_14
    obtain ⟨v, hv, rfl⟩ := (in0_iff (by have := I.1.2.2.2.2.1; omega)).mp q_14
    have hc := I.1.2.2.2.2.2 v hv
    have hl9 := I.1.2.2.2.2.1
    refine r_aload_n K dX5_lineAt_28 0 rfl rfl ?_
    refine r_get (v := .ref (ad 7 0)) K fd_X5_35 rfl rfl rfl dX5_lineAt_29 ?_
    refine r_iload_n K dX5_lineAt_32 1 rfl rfl ?_
    refine r_callV (st := []) K (k_J4_charAt_5068e (i := v) hl hv hl9 hc) cw_X5_296 wd_1290 wd_1291 (by decide) (by decide) rfl rfl rfl rfl (Nat.le_of_ble_eq_true rfl) (by decide) (by decide) dX5_lineAt_33 ?_
    rintro _ _ _ ⟨rfl, rfl, rfl⟩
    show WW g z 2 0 0 ad (Wz z ad σ τ o) 36 [(0, .ref (ad 0 0)), (1, .int (nI v))] [.int (nI (σ 11 0 v))]
    exact r_cret K (crN (by omega)) (by decide) (by decide) (okC_rd C (by unfold cL; exact if_pos q_14) (by rw [jN_n (by omega)])) dX5_lineAt_36
  · skip
    exact r_throwSW (text := "no such character") K rfl (by decide +kernel) (by decide +kernel) (by decide) wd_417 wd_61 at_IndexOutOfBoundsException (by decide) dX5_lineAt_17 dX5_lineAt_20 dX5_lineAt_21 dX5_lineAt_24 dX5_lineAt_27 ⟨0, by unfold cL; exact if_neg c_14, rfl⟩ (Nat.le_of_ble_eq_true rfl) (by decide) (by decide)
