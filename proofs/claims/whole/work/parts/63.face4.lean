set_option maxRecDepth 100000 in
set_option maxHeartbeats 4000000 in
theorem k_X5_addRule {z : Zx} {l : Launch} {σ τ : Sg} {o : Int64 × UInt64} {ad : Nm} (hl : l.stackTraces = false) {x y e0 p0 : Int32} (Q : IR σ) (C : ICo σ) {fr : Nat} (hfr : fr ≤ 1) : Ko z l yX5_addRule cX5_addRule 6 (some .int) 8 5 53 [.ref (ad 0 0), .int (x), .int (y), .int (nI fr), .int (e0), .int (p0)] ad (Wz z ad σ τ o) (okC z ad τ o (cAR σ x y e0 p0) (.int (nI (σ 0 1 0 + 1))) (fRule σ x y fr e0 p0)) (exT (cAR σ x y e0 p0) ["java/lang/IndexOutOfBoundsException", "java/lang/IllegalArgumentException", "java/lang/IllegalStateException"]) := by
  refine ko_of hl (by decide +kernel) (Nat.le_of_ble_eq_true rfl) (fun g hg K => ?_)
  subst hg
  have I := Q.1
  have L := C.1
  have D := C.2.1
  have q0 := I.1.1
  have q1 := I.1.2.1
  have q2 := I.1.2.2.1
  have q3 := I.1.2.2.2.1
  have q5 := Q.2.1
  show WW g z 6 0 0 ad (Wz z ad σ τ o) 0 [(0, .ref (ad 0 0)), (1, .int (x)), (2, .int (y)), (3, .int (nI fr)), (4, .int (e0)), (5, .int (p0))] []
  refine r_aload_n K dX5_addRule_0 0 rfl rfl ?_
  refine r_iload_n K dX5_addRule_1 1 rfl rfl ?_
  refine r_callVx (st := []) K (k_X5_requireBasin (x := x) hl) (fun E h => ⟨0, by unfold cAR; exact if_neg (fun q => h.2 q.1), by rw [h.1]; rfl⟩) cw_X5_108 wd_607 wd_12 (by decide) (by decide) rfl rfl rfl rfl (Nat.le_of_ble_eq_true rfl) (by decide) (by decide) dX5_addRule_2 ?_
  rintro _ _ _ ⟨rfl, rfl, rfl, q_2⟩
  obtain ⟨b, hb, rfl⟩ := (in0_iff (by omega)).mp q_2
  show WW g z 6 1 6 ad (Wz z ad σ τ o) 5 [(0, .ref (ad 0 0)), (1, .int (nI b)), (2, .int (y)), (3, .int (nI fr)), (4, .int (e0)), (5, .int (p0))] []
  refine r_aload_n K dX5_addRule_5 0 rfl rfl ?_
  refine r_iload_n K dX5_addRule_6 2 rfl rfl ?_
  refine r_callVx (st := []) K (k_X5_requireBasin (x := y) hl) (fun E h => ⟨0, by unfold cAR; exact if_neg (fun q => h.2 q.2), by rw [h.1]; rfl⟩) cw_X5_108 wd_607 wd_12 (by decide) (by decide) rfl rfl rfl rfl (Nat.le_of_ble_eq_true rfl) (by decide) (by decide) dX5_addRule_7 ?_
  rintro _ _ _ ⟨rfl, rfl, rfl, q_7⟩
  obtain ⟨b', hb', rfl⟩ := (in0_iff (by omega)).mp q_7
  show WW g z 6 2 12 ad (Wz z ad σ τ o) 10 [(0, .ref (ad 0 0)), (1, .int (nI b)), (2, .int (nI b')), (3, .int (nI fr)), (4, .int (e0)), (5, .int (p0))] []
  refine r_iload K dX5_addRule_10 4 rfl ?_
  refine r_iconst (v := nI 0) K dX5_addRule_12 (by decide) ?_
  refine r_bipush (v := nI 40) K dX5_addRule_13 (by decide) ?_
  refine r_callS (st := []) K (k_X5_isWithin (x := e0) (a := nI 0) (b := nI 40) hl) cw_X5_43 wd_415 (by decide) (by decide) rfl (Nat.le_of_ble_eq_true rfl) (by decide) (by decide) dX5_addRule_15 ?_
  rintro _ _ _ ⟨rfl, rfl, rfl⟩
  show WW g z 6 2 12 ad (Wz z ad σ τ o) 18 [(0, .ref (ad 0 0)), (1, .int (nI b)), (2, .int (nI b')), (3, .int (nI fr)), (4, .int (e0)), (5, .int (p0))] [.int (pI (nI 0 ≤ e0 ∧ e0 ≤ nI 40))]
  refine r_if_ne K dX5_addRule_18 31 (¬ (nI 0 ≤ e0 ∧ e0 ≤ nI 40)) pI_eq0 (by decide) (fun c_18 => ?_) (fun c_18 => ?_)
  · skip
    have q_18 := Decidable.not_not.mp c_18
    obtain ⟨v, hv, rfl⟩ := (inR_iff (by decide) (by decide)).mp q_18
    refine r_iload K dX5_addRule_31 5 rfl ?_
    refine r_callSx (st := []) K (k_X5_requireOpening (x := p0) hl) (fun E h => ⟨1, by unfold cAR; rw [if_pos ⟨q_2, q_7⟩]; exact if_neg (fun q => h.2 q.2), by rw [h.1]; rfl⟩) cw_X5_102 wd_646 (by decide) (by decide) rfl (Nat.le_of_ble_eq_true rfl) (by decide) (by decide) dX5_addRule_33 ?_
    rintro _ _ _ ⟨rfl, rfl, rfl, q_33⟩
    obtain ⟨p, hp, rfl⟩ := (inR_iff (by decide) (by decide)).mp q_33
    show WW g z 6 3 18 ad (Wz z ad σ τ o) 36 [(0, .ref (ad 0 0)), (1, .int (nI b)), (2, .int (nI b')), (3, .int (nI fr)), (4, .int (nI v)), (5, .int (nI p))] []
    refine r_aload_n K dX5_addRule_36 0 rfl rfl ?_
    refine r_get (v := .ref (ad 1 1)) K fd_X5_16 rfl rfl rfl dX5_addRule_37 ?_
    refine r_callV (st := []) K (k_Jx4a65c_size_8abf5 (l0 := 1) hl (by decide)) cw_X5_39 wd_206 wd_207 (by decide) (by decide) (W_1 (by first | exact hb | exact hk | exact hj | exact hw | omega | assumption)) rfl rfl rfl (Nat.le_of_ble_eq_true rfl) (by decide) (by decide) dX5_addRule_40 ?_
    rintro _ _ _ ⟨rfl, rfl, rfl⟩
    show WW g z 6 3 18 ad (Wz z ad σ τ o) 43 [(0, .ref (ad 0 0)), (1, .int (nI b)), (2, .int (nI b')), (3, .int (nI fr)), (4, .int (nI v)), (5, .int (nI p))] [.int (nI (σ 0 1 0))]
    refine r_bipush (v := nI 12) K dX5_addRule_43 (by decide) ?_
    refine r_icmp_lt K dX5_addRule_45 58 (σ 0 1 0 < 12) (nI_ltI (by omega) (by omega)) (by decide) (fun c_45 => ?_) (fun c_45 => ?_)
    · skip
      refine r_aload_n K dX5_addRule_58 0 rfl rfl ?_
      refine r_get (v := .ref (ad 1 1)) K fd_X5_16 rfl rfl rfl dX5_addRule_59 ?_
      refine r_new K 10 (σ 0 1 0) nw_X5_115 (if_neg (Nat.lt_irrefl _)) (Nat.le_of_ble_eq_true rfl) (Nat.le_of_ble_eq_true rfl) dX5_addRule_62 (fun q_62 => ?_)
      show WW g z 6 4 23 (nmu ad 10 (σ 0 1 0) q_62) (up2 (Wz z ad σ τ o) 10 (σ 0 1 0) (.inr (7, [.int (0), .int (0), .int (0), .int (0), .int (0)]))) 65 [(0, .ref (ad 0 0)), (1, .int (nI b)), (2, .int (nI b')), (3, .int (nI fr)), (4, .int (nI v)), (5, .int (nI p))] [.ref (q_62), .ref (ad 1 1)]
      refine r_dup K dX5_addRule_65 rfl ?_
      refine r_iload_n K dX5_addRule_66 1 rfl rfl ?_
      refine r_iload_n K dX5_addRule_67 2 rfl rfl ?_
      refine r_iload_n K dX5_addRule_68 3 rfl rfl ?_
      refine r_iload K dX5_addRule_69 4 rfl ?_
      refine r_iload K dX5_addRule_71 5 rfl ?_
      refine r_callI (st := [.ref (q_62), .ref (ad 1 1)]) K (k_X2_init (j := (σ 0 1 0)) hl nmu_s up2_s hfr) cw_X5_117 wd_660 rfl (by decide) (by decide) rfl (Nat.le_of_ble_eq_true rfl) (by decide) (by decide) dX5_addRule_73 ?_
      rintro _ _ _ ⟨rfl, rfl, rfl⟩
      refine r_mu up2_up ?_
      show WW g z 6 4 23 (nmu ad 10 (σ 0 1 0) q_62) (up2 (Wz z ad σ τ o) 10 (σ 0 1 0) (.inr (7, [.int (nI b), .int (nI b'), .int (nI fr), .int (nI v), .int (nI p)]))) 76 [(0, .ref (ad 0 0)), (1, .int (nI b)), (2, .int (nI b')), (3, .int (nI fr)), (4, .int (nI v)), (5, .int (nI p))] [.ref (q_62), .ref (ad 1 1)]
      refine r_callV (st := []) K (k_add_U (li := 1) (ci := 7) (kv := 10) (iv := σ 0 1 0) (cv := 7) (m := σ 33 1 0) (c := σ 0 1 0) (n := σ 34 1 0) (f := lsF ad 10 (σ 0 1 0)) hl ((up2_n (fun q => absurd q.1 (by decide))).trans (W_1 (by first | exact hb | exact hk | exact hj | exact hw | omega | assumption))) (((hD_W L (by decide)).mu (by omega)).nm (by omega)) (L 1 (by decide)).1 (L 1 (by decide)).2 (by omega) ((up2_n (fun q => absurd q.1 (by decide))).trans rfl) (by decide) rfl (by decide +kernel) ((el_10.mu (by omega)).nm (by omega)).els lsF_no (by decide) (by decide) up2_s nmu_s (fun r h => by cases h; decide +kernel)) cw_X5_76 wd_532 wd_533 (by decide) (by decide) ((up2_n (fun q => absurd q.1 (by decide))).trans (W_1 (by first | exact hb | exact hk | exact hj | exact hw | omega | assumption))) (nmu_n (fun q => absurd q.1 (by decide))) rfl rfl (Nat.le_of_ble_eq_true rfl) (by decide) (by decide) dX5_addRule_76 ?_
      rintro _ _ _ ⟨q_76, rfl, rfl, rfl⟩
      show WW g z 6 5 53 (nmu (nmu ad 10 (σ 0 1 0) q_62) 2 1 q_76) (up2 (up2 (up2 (Wz z ad σ τ o) 10 (σ 0 1 0) (.inr (7, [.int (nI b), .int (nI b'), .int (nI fr), .int (nI v), .int (nI p)]))) 2 1 (aO z (cap' (σ 0 1 0) (σ 34 1 0)) (va_up (lsF ad 10 (σ 0 1 0)) (σ 0 1 0) (some q_62)))) 1 1 (.inr (4, [.int (nI (σ 33 1 0 + 1)), .ref q_76, .int (nI (σ 0 1 0 + 1))]))) 79 [(0, .ref (ad 0 0)), (1, .int (nI b)), (2, .int (nI b')), (3, .int (nI fr)), (4, .int (nI v)), (5, .int (nI p))] [.int (nI 1)]
      refine r_mu (back_R L) ?_
      show WW g z 6 5 53 (nmu (nmu ad 10 (σ 0 1 0) q_62) 2 1 q_76) (Wz z (nmu (nmu ad 10 (σ 0 1 0) q_62) 2 1 q_76) (sRu σ b b' fr v p) τ o) 79 [(0, .ref ((nmu (nmu ad 10 (σ 0 1 0) q_62) 2 1 q_76) 0 0)), (1, .int (nI b)), (2, .int (nI b')), (3, .int (nI fr)), (4, .int (nI v)), (5, .int (nI p))] [.int (nI 1)]
      refine r_pop K dX5_addRule_79 rfl ?_
      refine r_aload_n K dX5_addRule_80 0 rfl rfl ?_
      refine r_get (v := .ref ((nmu (nmu ad 10 (σ 0 1 0) q_62) 2 1 q_76) 1 1)) K fd_X5_16 rfl rfl rfl dX5_addRule_81 ?_
      refine r_callV (st := []) K (k_Jx4a65c_size_8abf5 (l0 := 1) hl (by decide)) cw_X5_39 wd_206 wd_207 (by decide) (by decide) (W_1 (by first | exact hb | exact hk | exact hj | exact hw | omega | assumption)) rfl rfl rfl (Nat.le_of_ble_eq_true rfl) (by decide) (by decide) dX5_addRule_84 ?_
      rintro _ _ _ ⟨rfl, rfl, rfl⟩
      show WW g z 6 5 53 (nmu (nmu ad 10 (σ 0 1 0) q_62) 2 1 q_76) (Wz z (nmu (nmu ad 10 (σ 0 1 0) q_62) 2 1 q_76) (sRu σ b b' fr v p) τ o) 87 [(0, .ref ((nmu (nmu ad 10 (σ 0 1 0) q_62) 2 1 q_76) 0 0)), (1, .int (nI b)), (2, .int (nI b')), (3, .int (nI fr)), (4, .int (nI v)), (5, .int (nI p))] [.int (nI ((sRu σ b b' fr v p) 0 1 0))]
      exact r_iret K (by decide) (by decide) ⟨(by unfold cAR; rw [if_pos ⟨q_2, q_7⟩, if_pos ⟨q_18, q_33⟩]; exact if_pos (show σ 0 1 0 < 12 by omega)), rfl, adK.rf, _, rfl, by unfold fRule; rw [jN_n (by omega), jN_n (by omega), jN_n (by omega), jN_n (by omega)]; exact agr_rule, C.rule (by omega)⟩ dX5_addRule_87
    · skip
      exact r_throwS (text := "no more rules") K rfl (by decide +kernel) (by decide +kernel) (by decide) wd_450 wd_64 at_IllegalStateException (by decide) dX5_addRule_48 dX5_addRule_51 dX5_addRule_52 dX5_addRule_54 dX5_addRule_57 ⟨2, by unfold cAR; rw [if_pos ⟨q_2, q_7⟩, if_pos ⟨q_18, q_33⟩]; exact if_neg (by omega), rfl⟩ (Nat.le_of_ble_eq_true rfl) (by decide) (by decide)
  · skip
    exact r_throwS (text := "level out of range") K rfl (by decide +kernel) (by decide +kernel) (by decide) wd_430 wd_63 at_IllegalArgumentException (by decide) dX5_addRule_21 dX5_addRule_24 dX5_addRule_25 dX5_addRule_27 dX5_addRule_30 ⟨1, by unfold cAR; rw [if_pos ⟨q_2, q_7⟩]; exact if_neg (fun q => c_18 q.1), rfl⟩ (Nat.le_of_ble_eq_true rfl) (by decide) (by decide)
