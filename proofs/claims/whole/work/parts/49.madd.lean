set_option maxRecDepth 100000 in
set_option maxHeartbeats 4000000 in
theorem k_X6_addRule {z : Zx} {l : Launch} {σ τ : Sg} {o : Int64 × UInt64} {ad : Nm} (hl : l.stackTraces = false) {x y e0 p0 : Int32} (Q : IR τ) (Q2 : IMo τ) {fr : Nat} (hfr : fr ≤ 1) : Ko z l yX6_addRule cX6_addRule 6 (some .int) 7 0 0 [.ref (ad 20 0), .int (x), .int (y), .int (nI fr), .int (e0), .int (p0)] ad (Wz z ad σ τ o) (okM z ad σ o Value.int (cAR τ x y e0 p0) (nI (τ 0 1 0 + 1)) (if (cAR τ x y e0 p0) = 0 then (fRule τ x y fr e0 p0) else τ)) exNo := by
  refine ko_of hl (by decide +kernel) (Nat.le_of_ble_eq_true rfl) (fun g hg K => ?_)
  subst hg
  have I := Q.1
  have q0 := I.1.1
  have q1 := I.1.2.1
  have q2 := I.1.2.2.1
  have q3 := I.1.2.2.2.1
  have q4 := I.1.2.2.2.2.1
  show WW g z 6 0 0 ad (Wz z ad σ τ o) 0 [(0, .ref (ad 20 0)), (1, .int (x)), (2, .int (y)), (3, .int (nI fr)), (4, .int (e0)), (5, .int (p0))] []
  refine r_aload_n K dX6_addRule_0 0 rfl rfl ?_
  refine r_aload_n K dX6_addRule_1 0 rfl rfl ?_
  refine r_iload_n K dX6_addRule_2 1 rfl rfl ?_
  refine r_callV (st := [.ref (ad 20 0)]) K (k_X6_isNone (x := x) hl) cw_X6_107 wd_1431 wd_23 (by decide) (by decide) rfl rfl rfl rfl (Nat.le_of_ble_eq_true rfl) (by decide) (by decide) dX6_addRule_3 ?_
  rintro _ _ _ ⟨rfl, rfl, rfl⟩
  show WW g z 6 0 0 ad (Wz z ad σ τ o) 6 [(0, .ref (ad 20 0)), (1, .int (x)), (2, .int (y)), (3, .int (nI fr)), (4, .int (e0)), (5, .int (p0))] [.int (pI (¬ in0 x (τ 0 0 0))), .ref (ad 20 0)]
  refine r_if_ne K dX6_addRule_6 17 (in0 x (τ 0 0 0)) pI_n0 (by decide) (fun c_6 => ?_) (fun c_6 => ?_)
  · skip
    refine r_iconst (v := nI 1) K dX6_addRule_17 (by decide) ?_
    refine r_goto K dX6_addRule_18 61 (by decide) ?_
    refine r_callV (st := []) K (k_X6_fails (c := 1) hl (by omega)) cw_X6_114 wd_1438 wd_24 (by decide) (by decide) rfl rfl rfl rfl (Nat.le_of_ble_eq_true rfl) (by decide) (by decide) dX6_addRule_61 ?_
    rintro _ _ _ ⟨rfl, rfl, rfl⟩
    show WW g z 6 0 0 ad (Wz z ad σ (su τ 72 0 0 1) o) 64 [(0, .ref (ad 20 0)), (1, .int (x)), (2, .int (y)), (3, .int (nI fr)), (4, .int (e0)), (5, .int (p0))] [.int (nI 1)]
    refine r_if_eq K dX6_addRule_64 69 (1 = 0) (n0_eq (by omega)) (by decide) (fun c_64 => ?_) (fun c_64 => ?_)
    · skip
      exfalso; omega
    · skip
      refine r_iconst (v := nI 0) K dX6_addRule_67 (by decide) ?_
      exact r_iret K (by decide) (by decide) (okM_g (c := 0) Q2 (by unfold cAR; exact (if_neg (fun q => c_6 q.1)).symm)) dX6_addRule_68
  · skip
    refine r_aload_n K dX6_addRule_9 0 rfl rfl ?_
    refine r_iload_n K dX6_addRule_10 2 rfl rfl ?_
    refine r_callV (st := [.ref (ad 20 0)]) K (k_X6_isNone (x := y) hl) cw_X6_107 wd_1431 wd_23 (by decide) (by decide) rfl rfl rfl rfl (Nat.le_of_ble_eq_true rfl) (by decide) (by decide) dX6_addRule_11 ?_
    rintro _ _ _ ⟨rfl, rfl, rfl⟩
    show WW g z 6 0 0 ad (Wz z ad σ τ o) 14 [(0, .ref (ad 20 0)), (1, .int (x)), (2, .int (y)), (3, .int (nI fr)), (4, .int (e0)), (5, .int (p0))] [.int (pI (¬ in0 y (τ 0 0 0))), .ref (ad 20 0)]
    refine r_if_eq K dX6_addRule_14 21 (in0 y (τ 0 0 0)) pI_n0 (by decide) (fun c_14 => ?_) (fun c_14 => ?_)
    · skip
      obtain ⟨b, hb, rfl⟩ := (in0_iff (by omega)).mp c_6
      obtain ⟨c, hc, rfl⟩ := (in0_iff (by omega)).mp c_14
      refine r_iload K dX6_addRule_21 4 rfl ?_
      refine r_iconst (v := nI 0) K dX6_addRule_23 (by decide) ?_
      refine r_bipush (v := nI 40) K dX6_addRule_24 (by decide) ?_
      refine r_callS (st := [.ref (ad 20 0)]) K (k_X6_in (x := e0) (a := nI 0) (b := nI 40) hl) cw_X6_103 wd_1434 (by decide) (by decide) rfl (Nat.le_of_ble_eq_true rfl) (by decide) (by decide) dX6_addRule_26 ?_
      rintro _ _ _ ⟨rfl, rfl, rfl⟩
      show WW g z 6 0 0 ad (Wz z ad σ τ o) 29 [(0, .ref (ad 20 0)), (1, .int (nI b)), (2, .int (nI c)), (3, .int (nI fr)), (4, .int (e0)), (5, .int (p0))] [.int (pI (inR e0 0 40)), .ref (ad 20 0)]
      refine r_if_eq K dX6_addRule_29 43 (¬ (inR e0 0 40)) pI_eq0 (by decide) (fun c_29 => ?_) (fun c_29 => ?_)
      · skip
        refine r_iconst (v := nI 2) K dX6_addRule_43 (by decide) ?_
        refine r_goto K dX6_addRule_44 61 (by decide) ?_
        refine r_callV (st := []) K (k_X6_fails (c := 2) hl (by omega)) cw_X6_114 wd_1438 wd_24 (by decide) (by decide) rfl rfl rfl rfl (Nat.le_of_ble_eq_true rfl) (by decide) (by decide) dX6_addRule_61 ?_
        rintro _ _ _ ⟨rfl, rfl, rfl⟩
        show WW g z 6 0 0 ad (Wz z ad σ (su τ 72 0 0 2) o) 64 [(0, .ref (ad 20 0)), (1, .int (nI b)), (2, .int (nI c)), (3, .int (nI fr)), (4, .int (e0)), (5, .int (p0))] [.int (nI 1)]
        refine r_if_eq K dX6_addRule_64 69 (1 = 0) (n0_eq (by omega)) (by decide) (fun c_64 => ?_) (fun c_64 => ?_)
        · skip
          exfalso; omega
        · skip
          refine r_iconst (v := nI 0) K dX6_addRule_67 (by decide) ?_
          exact r_iret K (by decide) (by decide) (okM_g (c := 1) Q2 (by unfold cAR; rw [if_pos ⟨c_6, c_14⟩]; exact (if_neg (fun q => c_29 q.1)).symm)) dX6_addRule_68
      · skip
        refine r_iload K dX6_addRule_32 5 rfl ?_
        refine r_iconst (v := nI 0) K dX6_addRule_34 (by decide) ?_
        refine r_bipush (v := nI 10) K dX6_addRule_35 (by decide) ?_
        refine r_callS (st := [.ref (ad 20 0)]) K (k_X6_in (x := p0) (a := nI 0) (b := nI 10) hl) cw_X6_103 wd_1434 (by decide) (by decide) rfl (Nat.le_of_ble_eq_true rfl) (by decide) (by decide) dX6_addRule_37 ?_
        rintro _ _ _ ⟨rfl, rfl, rfl⟩
        show WW g z 6 0 0 ad (Wz z ad σ τ o) 40 [(0, .ref (ad 20 0)), (1, .int (nI b)), (2, .int (nI c)), (3, .int (nI fr)), (4, .int (e0)), (5, .int (p0))] [.int (pI (inR p0 0 10)), .ref (ad 20 0)]
        refine r_if_ne K dX6_addRule_40 47 (¬ (inR p0 0 10)) pI_eq0 (by decide) (fun c_40 => ?_) (fun c_40 => ?_)
        · skip
          have q_29 := Decidable.not_not.mp c_29
          have q_40 := Decidable.not_not.mp c_40
          obtain ⟨v, hv, rfl⟩ := (inR_iff (by decide) (by decide)).mp q_29
          obtain ⟨p, hp, rfl⟩ := (inR_iff (by decide) (by decide)).mp q_40
          refine r_aload_n K dX6_addRule_47 0 rfl rfl ?_
          refine r_get (v := .int (nI (τ 0 1 0))) K fd_X6_111 rfl rfl rfl dX6_addRule_48 ?_
          refine r_bipush (v := nI 12) K dX6_addRule_51 (by decide) ?_
          refine r_icmp_ne K dX6_addRule_53 60 (τ 0 1 0 = 12) (nI_eq (by omega) (by omega)) (by decide) (fun c_53 => ?_) (fun c_53 => ?_)
          · skip
            refine r_iconst (v := nI 0) K dX6_addRule_60 (by decide) ?_
            refine r_callV (st := []) K (k_X6_fails (c := 0) hl (by omega)) cw_X6_114 wd_1438 wd_24 (by decide) (by decide) rfl rfl rfl rfl (Nat.le_of_ble_eq_true rfl) (by decide) (by decide) dX6_addRule_61 ?_
            rintro _ _ _ ⟨rfl, rfl, rfl⟩
            show WW g z 6 0 0 ad (Wz z ad σ (su τ 72 0 0 0) o) 64 [(0, .ref (ad 20 0)), (1, .int (nI b)), (2, .int (nI c)), (3, .int (nI fr)), (4, .int (nI v)), (5, .int (nI p))] [.int (nI 0)]
            refine r_if_eq K dX6_addRule_64 69 (0 = 0) (n0_eq (by omega)) (by decide) (fun c_64 => ?_) (fun c_64 => ?_)
            · skip
              refine r_aload_n K dX6_addRule_69 0 rfl rfl ?_
              refine r_get (v := .ref (ad 21 15)) K fd_X6_49 rfl rfl rfl dX6_addRule_70 ?_
              refine r_aload_n K dX6_addRule_73 0 rfl rfl ?_
              refine r_get (v := .int (nI (τ 0 1 0))) K fd_X6_111 rfl rfl rfl dX6_addRule_74 ?_
              refine r_iload_n K dX6_addRule_77 1 rfl rfl ?_
              refine r_iast (j := τ 0 1 0) K rfl rfl rfl (by omega) (by decide) rfl dX6_addRule_78 ?_
              refine r_mu u_21_15 ?_
              show WW g z 6 0 0 ad (Wz z ad σ (su (su τ 72 0 0 0) 8 (τ 0 1 0) 0 b) o) 79 [(0, .ref (ad 20 0)), (1, .int (nI b)), (2, .int (nI c)), (3, .int (nI fr)), (4, .int (nI v)), (5, .int (nI p))] []
              refine r_aload_n K dX6_addRule_79 0 rfl rfl ?_
              refine r_get (v := .ref (ad 21 16)) K fd_X6_52 rfl rfl rfl dX6_addRule_80 ?_
              refine r_aload_n K dX6_addRule_83 0 rfl rfl ?_
              refine r_get (v := .int (nI (τ 0 1 0))) K fd_X6_111 rfl rfl rfl dX6_addRule_84 ?_
              refine r_iload_n K dX6_addRule_87 2 rfl rfl ?_
              refine r_iast (j := τ 0 1 0) K rfl rfl rfl (by omega) (by decide) rfl dX6_addRule_88 ?_
              refine r_mu u_21_16 ?_
              show WW g z 6 0 0 ad (Wz z ad σ (su (su (su τ 72 0 0 0) 8 (τ 0 1 0) 0 b) 8 (τ 0 1 0) 1 c) o) 89 [(0, .ref (ad 20 0)), (1, .int (nI b)), (2, .int (nI c)), (3, .int (nI fr)), (4, .int (nI v)), (5, .int (nI p))] []
              refine r_aload_n K dX6_addRule_89 0 rfl rfl ?_
              refine r_get (v := .ref (ad 21 17)) K fd_X6_55 rfl rfl rfl dX6_addRule_90 ?_
              refine r_aload_n K dX6_addRule_93 0 rfl rfl ?_
              refine r_get (v := .int (nI (τ 0 1 0))) K fd_X6_111 rfl rfl rfl dX6_addRule_94 ?_
              refine r_iload_n K dX6_addRule_97 3 rfl rfl ?_
              refine r_zast (j := τ 0 1 0) K rfl rfl rfl (by omega) (by decide) (congrArg (upd _ _) (zn (by omega))) dX6_addRule_98 ?_
              refine r_mu u_21_17 ?_
              show WW g z 6 0 0 ad (Wz z ad σ (su (su (su (su τ 72 0 0 0) 8 (τ 0 1 0) 0 b) 8 (τ 0 1 0) 1 c) 8 (τ 0 1 0) 2 fr) o) 99 [(0, .ref (ad 20 0)), (1, .int (nI b)), (2, .int (nI c)), (3, .int (nI fr)), (4, .int (nI v)), (5, .int (nI p))] []
              refine r_aload_n K dX6_addRule_99 0 rfl rfl ?_
              refine r_get (v := .ref (ad 21 18)) K fd_X6_59 rfl rfl rfl dX6_addRule_100 ?_
              refine r_aload_n K dX6_addRule_103 0 rfl rfl ?_
              refine r_get (v := .int (nI (τ 0 1 0))) K fd_X6_111 rfl rfl rfl dX6_addRule_104 ?_
              refine r_iload K dX6_addRule_107 4 rfl ?_
              refine r_iast (j := τ 0 1 0) K rfl rfl rfl (by omega) (by decide) rfl dX6_addRule_109 ?_
              refine r_mu u_21_18 ?_
              show WW g z 6 0 0 ad (Wz z ad σ (su (su (su (su (su τ 72 0 0 0) 8 (τ 0 1 0) 0 b) 8 (τ 0 1 0) 1 c) 8 (τ 0 1 0) 2 fr) 8 (τ 0 1 0) 3 v) o) 110 [(0, .ref (ad 20 0)), (1, .int (nI b)), (2, .int (nI c)), (3, .int (nI fr)), (4, .int (nI v)), (5, .int (nI p))] []
              refine r_aload_n K dX6_addRule_110 0 rfl rfl ?_
              refine r_get (v := .ref (ad 21 19)) K fd_X6_62 rfl rfl rfl dX6_addRule_111 ?_
              refine r_aload_n K dX6_addRule_114 0 rfl rfl ?_
              refine r_get (v := .int (nI (τ 0 1 0))) K fd_X6_111 rfl rfl rfl dX6_addRule_115 ?_
              refine r_iload K dX6_addRule_118 5 rfl ?_
              refine r_iast (j := τ 0 1 0) K rfl rfl rfl (by omega) (by decide) rfl dX6_addRule_120 ?_
              refine r_mu u_21_19 ?_
              show WW g z 6 0 0 ad (Wz z ad σ (su (su (su (su (su (su τ 72 0 0 0) 8 (τ 0 1 0) 0 b) 8 (τ 0 1 0) 1 c) 8 (τ 0 1 0) 2 fr) 8 (τ 0 1 0) 3 v) 8 (τ 0 1 0) 4 p) o) 121 [(0, .ref (ad 20 0)), (1, .int (nI b)), (2, .int (nI c)), (3, .int (nI fr)), (4, .int (nI v)), (5, .int (nI p))] []
              refine r_aload_n K dX6_addRule_121 0 rfl rfl ?_
              refine r_dup K dX6_addRule_122 rfl ?_
              refine r_get (v := .int (nI (τ 0 1 0))) K fd_X6_111 rfl rfl rfl dX6_addRule_123 ?_
              refine r_iconst (v := nI 1) K dX6_addRule_126 (by decide) ?_
              refine r_iadd (v := nI ((τ 0 1 0) + 1)) K dX6_addRule_127 (nI_add _ _) ?_
              refine r_put K fd_X6_111 rfl rfl rfl rfl (Nat.le_of_ble_eq_true rfl) rfl dX6_addRule_128 ?_
              refine r_mu (u_20_14) ?_
              show WW g z 6 0 0 ad (Wz z ad σ (su (su (su (su (su (su (su τ 72 0 0 0) 8 (τ 0 1 0) 0 b) 8 (τ 0 1 0) 1 c) 8 (τ 0 1 0) 2 fr) 8 (τ 0 1 0) 3 v) 8 (τ 0 1 0) 4 p) 0 1 0 ((τ 0 1 0) + 1)) o) 131 [(0, .ref (ad 20 0)), (1, .int (nI b)), (2, .int (nI c)), (3, .int (nI fr)), (4, .int (nI v)), (5, .int (nI p))] []
              refine r_aload_n K dX6_addRule_131 0 rfl rfl ?_
              refine r_get (v := .int (nI ((τ 0 1 0) + 1))) K fd_X6_111 rfl rfl rfl dX6_addRule_132 ?_
              exact r_iret K (by decide) (by decide) (okM_w (by unfold cAR; rw [if_pos ⟨c_6, c_14⟩, if_pos ⟨q_29, q_40⟩]; exact if_pos (show τ 0 1 0 < 12 by omega)) rfl (by unfold fRule; rw [jN_n (by omega), jN_n (by omega), jN_n (by omega), jN_n (by omega)]; exact (agr.rf.sx (by decide)).put.put.put.put.put.put) Q2 rfl) dX6_addRule_135
            · skip
              exfalso; omega
          · skip
            refine r_iconst (v := nI 3) K dX6_addRule_56 (by decide) ?_
            refine r_goto K dX6_addRule_57 61 (by decide) ?_
            refine r_callV (st := []) K (k_X6_fails (c := 3) hl (by omega)) cw_X6_114 wd_1438 wd_24 (by decide) (by decide) rfl rfl rfl rfl (Nat.le_of_ble_eq_true rfl) (by decide) (by decide) dX6_addRule_61 ?_
            rintro _ _ _ ⟨rfl, rfl, rfl⟩
            show WW g z 6 0 0 ad (Wz z ad σ (su τ 72 0 0 3) o) 64 [(0, .ref (ad 20 0)), (1, .int (nI b)), (2, .int (nI c)), (3, .int (nI fr)), (4, .int (nI v)), (5, .int (nI p))] [.int (nI 1)]
            refine r_if_eq K dX6_addRule_64 69 (1 = 0) (n0_eq (by omega)) (by decide) (fun c_64 => ?_) (fun c_64 => ?_)
            · skip
              exfalso; omega
            · skip
              refine r_iconst (v := nI 0) K dX6_addRule_67 (by decide) ?_
              exact r_iret K (by decide) (by decide) (okM_g (c := 2) Q2 (by unfold cAR; rw [if_pos ⟨c_6, c_14⟩, if_pos ⟨q_29, q_40⟩]; exact (if_neg (by omega)).symm)) dX6_addRule_68
        · skip
          refine r_iconst (v := nI 2) K dX6_addRule_43 (by decide) ?_
          refine r_goto K dX6_addRule_44 61 (by decide) ?_
          refine r_callV (st := []) K (k_X6_fails (c := 2) hl (by omega)) cw_X6_114 wd_1438 wd_24 (by decide) (by decide) rfl rfl rfl rfl (Nat.le_of_ble_eq_true rfl) (by decide) (by decide) dX6_addRule_61 ?_
          rintro _ _ _ ⟨rfl, rfl, rfl⟩
          show WW g z 6 0 0 ad (Wz z ad σ (su τ 72 0 0 2) o) 64 [(0, .ref (ad 20 0)), (1, .int (nI b)), (2, .int (nI c)), (3, .int (nI fr)), (4, .int (e0)), (5, .int (p0))] [.int (nI 1)]
          refine r_if_eq K dX6_addRule_64 69 (1 = 0) (n0_eq (by omega)) (by decide) (fun c_64 => ?_) (fun c_64 => ?_)
          · skip
            exfalso; omega
          · skip
            refine r_iconst (v := nI 0) K dX6_addRule_67 (by decide) ?_
            exact r_iret K (by decide) (by decide) (okM_g (c := 1) Q2 (by unfold cAR; rw [if_pos ⟨c_6, c_14⟩]; exact (if_neg (fun q => c_40 q.2)).symm)) dX6_addRule_68
    · skip
      refine r_iconst (v := nI 1) K dX6_addRule_17 (by decide) ?_
      refine r_goto K dX6_addRule_18 61 (by decide) ?_
      refine r_callV (st := []) K (k_X6_fails (c := 1) hl (by omega)) cw_X6_114 wd_1438 wd_24 (by decide) (by decide) rfl rfl rfl rfl (Nat.le_of_ble_eq_true rfl) (by decide) (by decide) dX6_addRule_61 ?_
      rintro _ _ _ ⟨rfl, rfl, rfl⟩
      show WW g z 6 0 0 ad (Wz z ad σ (su τ 72 0 0 1) o) 64 [(0, .ref (ad 20 0)), (1, .int (x)), (2, .int (y)), (3, .int (nI fr)), (4, .int (e0)), (5, .int (p0))] [.int (nI 1)]
      refine r_if_eq K dX6_addRule_64 69 (1 = 0) (n0_eq (by omega)) (by decide) (fun c_64 => ?_) (fun c_64 => ?_)
      · skip
        exfalso; omega
      · skip
        refine r_iconst (v := nI 0) K dX6_addRule_67 (by decide) ?_
        exact r_iret K (by decide) (by decide) (okM_g (c := 0) Q2 (by unfold cAR; exact (if_neg (fun q => c_14 q.2)).symm)) dX6_addRule_68
set_option maxRecDepth 100000 in
set_option maxHeartbeats 4000000 in
theorem k_X6_addHouse {z : Zx} {l : Launch} {σ τ : Sg} {o : Int64 × UInt64} {ad : Nm} (hl : l.stackTraces = false) {x y r c0 : Int32} (Q : IR τ) (Q2 : IMo τ) : Ko z l yX6_addHouse cX6_addHouse 5 (some .int) 7 0 0 [.ref (ad 20 0), .int (x), .int (y), .int (r), .int (c0)] ad (Wz z ad σ τ o) (okM z ad σ o Value.int (cAH τ x y r c0) (nI (τ 0 2 0)) (if (cAH τ x y r c0) = 0 then (fHouse τ x y r c0) else τ)) exNo := by
  refine ko_of hl (by decide +kernel) (Nat.le_of_ble_eq_true rfl) (fun g hg K => ?_)
  subst hg
  have I := Q.1
  have q0 := I.1.1
  have q1 := I.1.2.1
  have q2 := I.1.2.2.1
  have q3 := I.1.2.2.2.1
  have q4 := I.1.2.2.2.2.1
  show WW g z 5 0 0 ad (Wz z ad σ τ o) 0 [(0, .ref (ad 20 0)), (1, .int (x)), (2, .int (y)), (3, .int (r)), (4, .int (c0))] []
  refine r_aload_n K dX6_addHouse_0 0 rfl rfl ?_
  refine r_aload_n K dX6_addHouse_1 0 rfl rfl ?_
  refine r_iload_n K dX6_addHouse_2 1 rfl rfl ?_
  refine r_iload_n K dX6_addHouse_3 2 rfl rfl ?_
  refine r_callV (st := [.ref (ad 20 0)]) K (k_X6_isNoCell (x := x) (y := y) hl I) cw_X6_168 wd_1561 wd_33 (by decide) (by decide) rfl rfl rfl rfl (Nat.le_of_ble_eq_true rfl) (by decide) (by decide) dX6_addHouse_4 ?_
  rintro _ _ _ ⟨rfl, rfl, rfl⟩
  show WW g z 5 0 0 ad (Wz z ad σ τ o) 7 [(0, .ref (ad 20 0)), (1, .int (x)), (2, .int (y)), (3, .int (r)), (4, .int (c0))] [.int (pI (¬ (in0 x (τ 0 0 0) ∧ in0 y (τ 1 (jN x) 6)))), .ref (ad 20 0)]
  refine r_if_eq K dX6_addHouse_7 14 ((in0 x (τ 0 0 0) ∧ in0 y (τ 1 (jN x) 6))) pI_n0 (by decide) (fun c_7 => ?_) (fun c_7 => ?_)
  · skip
    have c1 := c_7.1
    have c2 := c_7.2
    obtain ⟨b, hb, rfl⟩ := (in0_iff (by omega)).mp c1
    obtain ⟨-, -, -, hs, hs5, hs7⟩ := I.2.1 b hb
    have q8 := hs.2.1
    rw [jN_n (by omega)] at c2
    obtain ⟨c, hc, rfl⟩ := (in0_iff (by omega)).mp c2
    refine r_iload_n K dX6_addHouse_14 3 rfl rfl ?_
    refine r_iconst (v := nI 1) K dX6_addHouse_15 (by decide) ?_
    refine r_bipush (v := nI 100) K dX6_addHouse_16 (by decide) ?_
    refine r_callS (st := [.ref (ad 20 0)]) K (k_X6_in (x := r) (a := nI 1) (b := nI 100) hl) cw_X6_103 wd_1434 (by decide) (by decide) rfl (Nat.le_of_ble_eq_true rfl) (by decide) (by decide) dX6_addHouse_18 ?_
    rintro _ _ _ ⟨rfl, rfl, rfl⟩
    show WW g z 5 0 0 ad (Wz z ad σ τ o) 21 [(0, .ref (ad 20 0)), (1, .int (nI b)), (2, .int (nI c)), (3, .int (r)), (4, .int (c0))] [.int (pI (inR r 1 100)), .ref (ad 20 0)]
    refine r_if_eq K dX6_addHouse_21 36 (¬ (inR r 1 100)) pI_eq0 (by decide) (fun c_21 => ?_) (fun c_21 => ?_)
    · skip
      refine r_iconst (v := nI 2) K dX6_addHouse_36 (by decide) ?_
      refine r_goto K dX6_addHouse_37 54 (by decide) ?_
      refine r_callV (st := []) K (k_X6_fails (c := 2) hl (by omega)) cw_X6_114 wd_1438 wd_24 (by decide) (by decide) rfl rfl rfl rfl (Nat.le_of_ble_eq_true rfl) (by decide) (by decide) dX6_addHouse_54 ?_
      rintro _ _ _ ⟨rfl, rfl, rfl⟩
      show WW g z 5 0 0 ad (Wz z ad σ (su τ 72 0 0 2) o) 57 [(0, .ref (ad 20 0)), (1, .int (nI b)), (2, .int (nI c)), (3, .int (r)), (4, .int (c0))] [.int (nI 1)]
      refine r_if_eq K dX6_addHouse_57 62 (1 = 0) (n0_eq (by omega)) (by decide) (fun c_57 => ?_) (fun c_57 => ?_)
      · skip
        exfalso; omega
      · skip
        refine r_iconst (v := nI 0) K dX6_addHouse_60 (by decide) ?_
        exact r_iret K (by decide) (by decide) (okM_g (c := 1) Q2 (by unfold cAH; rw [if_pos c_7]; exact (if_neg (fun q => c_21 q.1)).symm)) dX6_addHouse_61
    · skip
      refine r_iload K dX6_addHouse_24 4 rfl ?_
      refine r_iconst (v := nI 0) K dX6_addHouse_26 (by decide) ?_
      refine r_sipush (v := nI 5000) K dX6_addHouse_27 (by decide) ?_
      refine r_callS (st := [.ref (ad 20 0)]) K (k_X6_in (x := c0) (a := nI 0) (b := nI 5000) hl) cw_X6_103 wd_1434 (by decide) (by decide) rfl (Nat.le_of_ble_eq_true rfl) (by decide) (by decide) dX6_addHouse_30 ?_
      rintro _ _ _ ⟨rfl, rfl, rfl⟩
      show WW g z 5 0 0 ad (Wz z ad σ τ o) 33 [(0, .ref (ad 20 0)), (1, .int (nI b)), (2, .int (nI c)), (3, .int (r)), (4, .int (c0))] [.int (pI (inR c0 0 5000)), .ref (ad 20 0)]
      refine r_if_ne K dX6_addHouse_33 40 (¬ (inR c0 0 5000)) pI_eq0 (by decide) (fun c_33 => ?_) (fun c_33 => ?_)
      · skip
        have q_21 := Decidable.not_not.mp c_21
        have q_33 := Decidable.not_not.mp c_33
        obtain ⟨v, hv, rfl⟩ := (inR_iff (by decide) (by decide)).mp q_21
        obtain ⟨p, hp, rfl⟩ := (inR_iff (by decide) (by decide)).mp q_33
        refine r_aload_n K dX6_addHouse_40 0 rfl rfl ?_
        refine r_get (v := .int (nI (τ 0 2 0))) K fd_X6_117 rfl rfl rfl dX6_addHouse_41 ?_
        refine r_bipush (v := nI 10) K dX6_addHouse_44 (by decide) ?_
        refine r_icmp_ne K dX6_addHouse_46 53 (τ 0 2 0 = 10) (nI_eq (by omega) (by omega)) (by decide) (fun c_46 => ?_) (fun c_46 => ?_)
        · skip
          refine r_iconst (v := nI 0) K dX6_addHouse_53 (by decide) ?_
          refine r_callV (st := []) K (k_X6_fails (c := 0) hl (by omega)) cw_X6_114 wd_1438 wd_24 (by decide) (by decide) rfl rfl rfl rfl (Nat.le_of_ble_eq_true rfl) (by decide) (by decide) dX6_addHouse_54 ?_
          rintro _ _ _ ⟨rfl, rfl, rfl⟩
          show WW g z 5 0 0 ad (Wz z ad σ (su τ 72 0 0 0) o) 57 [(0, .ref (ad 20 0)), (1, .int (nI b)), (2, .int (nI c)), (3, .int (nI v)), (4, .int (nI p))] [.int (nI 0)]
          refine r_if_eq K dX6_addHouse_57 62 (0 = 0) (n0_eq (by omega)) (by decide) (fun c_57 => ?_) (fun c_57 => ?_)
          · skip
            refine r_aload_n K dX6_addHouse_62 0 rfl rfl ?_
            refine r_get (v := .ref (ad 21 26)) K fd_X6_71 rfl rfl rfl dX6_addHouse_63 ?_
            refine r_aload_n K dX6_addHouse_66 0 rfl rfl ?_
            refine r_get (v := .int (nI (τ 0 2 0))) K fd_X6_117 rfl rfl rfl dX6_addHouse_67 ?_
            refine r_iload_n K dX6_addHouse_70 1 rfl rfl ?_
            refine r_iast (j := τ 0 2 0) K rfl rfl rfl (by omega) (by decide) rfl dX6_addHouse_71 ?_
            refine r_mu u_21_26 ?_
            show WW g z 5 0 0 ad (Wz z ad σ (su (su τ 72 0 0 0) 9 (τ 0 2 0) 0 b) o) 72 [(0, .ref (ad 20 0)), (1, .int (nI b)), (2, .int (nI c)), (3, .int (nI v)), (4, .int (nI p))] []
            refine r_aload_n K dX6_addHouse_72 0 rfl rfl ?_
            refine r_get (v := .ref (ad 21 27)) K fd_X6_74 rfl rfl rfl dX6_addHouse_73 ?_
            refine r_aload_n K dX6_addHouse_76 0 rfl rfl ?_
            refine r_get (v := .int (nI (τ 0 2 0))) K fd_X6_117 rfl rfl rfl dX6_addHouse_77 ?_
            refine r_iload_n K dX6_addHouse_80 2 rfl rfl ?_
            refine r_iast (j := τ 0 2 0) K rfl rfl rfl (by omega) (by decide) rfl dX6_addHouse_81 ?_
            refine r_mu u_21_27 ?_
            show WW g z 5 0 0 ad (Wz z ad σ (su (su (su τ 72 0 0 0) 9 (τ 0 2 0) 0 b) 9 (τ 0 2 0) 1 c) o) 82 [(0, .ref (ad 20 0)), (1, .int (nI b)), (2, .int (nI c)), (3, .int (nI v)), (4, .int (nI p))] []
            refine r_aload_n K dX6_addHouse_82 0 rfl rfl ?_
            refine r_get (v := .ref (ad 21 28)) K fd_X6_77 rfl rfl rfl dX6_addHouse_83 ?_
            refine r_aload_n K dX6_addHouse_86 0 rfl rfl ?_
            refine r_get (v := .int (nI (τ 0 2 0))) K fd_X6_117 rfl rfl rfl dX6_addHouse_87 ?_
            refine r_iload_n K dX6_addHouse_90 3 rfl rfl ?_
            refine r_iast (j := τ 0 2 0) K rfl rfl rfl (by omega) (by decide) rfl dX6_addHouse_91 ?_
            refine r_mu u_21_28 ?_
            show WW g z 5 0 0 ad (Wz z ad σ (su (su (su (su τ 72 0 0 0) 9 (τ 0 2 0) 0 b) 9 (τ 0 2 0) 1 c) 9 (τ 0 2 0) 2 v) o) 92 [(0, .ref (ad 20 0)), (1, .int (nI b)), (2, .int (nI c)), (3, .int (nI v)), (4, .int (nI p))] []
            refine r_aload_n K dX6_addHouse_92 0 rfl rfl ?_
            refine r_get (v := .ref (ad 21 29)) K fd_X6_80 rfl rfl rfl dX6_addHouse_93 ?_
            refine r_aload_n K dX6_addHouse_96 0 rfl rfl ?_
            refine r_get (v := .int (nI (τ 0 2 0))) K fd_X6_117 rfl rfl rfl dX6_addHouse_97 ?_
            refine r_iload K dX6_addHouse_100 4 rfl ?_
            refine r_iast (j := τ 0 2 0) K rfl rfl rfl (by omega) (by decide) rfl dX6_addHouse_102 ?_
            refine r_mu u_21_29 ?_
            show WW g z 5 0 0 ad (Wz z ad σ (su (su (su (su (su τ 72 0 0 0) 9 (τ 0 2 0) 0 b) 9 (τ 0 2 0) 1 c) 9 (τ 0 2 0) 2 v) 9 (τ 0 2 0) 3 p) o) 103 [(0, .ref (ad 20 0)), (1, .int (nI b)), (2, .int (nI c)), (3, .int (nI v)), (4, .int (nI p))] []
            refine r_aload_n K dX6_addHouse_103 0 rfl rfl ?_
            refine r_dup K dX6_addHouse_104 rfl ?_
            refine r_get (v := .int (nI (τ 0 2 0))) K fd_X6_117 rfl rfl rfl dX6_addHouse_105 ?_
            refine r_iconst (v := nI 1) K dX6_addHouse_108 (by decide) ?_
            refine r_iadd (v := nI ((τ 0 2 0) + 1)) K dX6_addHouse_109 (nI_add _ _) ?_
            refine r_put K fd_X6_117 rfl rfl rfl rfl (Nat.le_of_ble_eq_true rfl) rfl dX6_addHouse_110 ?_
            refine r_mu (u_20_25) ?_
            show WW g z 5 0 0 ad (Wz z ad σ (su (su (su (su (su (su τ 72 0 0 0) 9 (τ 0 2 0) 0 b) 9 (τ 0 2 0) 1 c) 9 (τ 0 2 0) 2 v) 9 (τ 0 2 0) 3 p) 0 2 0 ((τ 0 2 0) + 1)) o) 113 [(0, .ref (ad 20 0)), (1, .int (nI b)), (2, .int (nI c)), (3, .int (nI v)), (4, .int (nI p))] []
            refine r_aload_n K dX6_addHouse_113 0 rfl rfl ?_
            refine r_get (v := .int (nI ((τ 0 2 0) + 1))) K fd_X6_117 rfl rfl rfl dX6_addHouse_114 ?_
            refine r_iconst (v := nI 1) K dX6_addHouse_117 (by decide) ?_
            refine r_isub (v := nI (((τ 0 2 0) + 1) - 1)) K dX6_addHouse_118 (pk_sub (by omega)) ?_
            exact r_iret K (by decide) (by decide) (okM_w (by unfold cAH; rw [if_pos c_7, if_pos ⟨q_21, q_33⟩]; exact if_pos (show τ 0 2 0 < 10 by omega)) rfl (by unfold fHouse; rw [jN_n (by omega), jN_n (by omega), jN_n (by omega), jN_n (by omega)]; exact (agr.rf.sx (by decide)).put.put.put.put.put) ⟨Q2.1.trans (clT_1 (σ := τ) (σ' := (su (su (su (su (su (su τ 72 0 0 0) 9 (τ 0 2 0) 0 b) 9 (τ 0 2 0) 1 c) 9 (τ 0 2 0) 2 v) 9 (τ 0 2 0) 3 p) 0 2 0 ((τ 0 2 0) + 1))) (fun t => (Q.2.2.2 _ (Nat.le_refl _)).2 t) rfl rfl).symm, Q2.2⟩ rfl) dX6_addHouse_119
          · skip
            exfalso; omega
        · skip
          refine r_iconst (v := nI 3) K dX6_addHouse_49 (by decide) ?_
          refine r_goto K dX6_addHouse_50 54 (by decide) ?_
          refine r_callV (st := []) K (k_X6_fails (c := 3) hl (by omega)) cw_X6_114 wd_1438 wd_24 (by decide) (by decide) rfl rfl rfl rfl (Nat.le_of_ble_eq_true rfl) (by decide) (by decide) dX6_addHouse_54 ?_
          rintro _ _ _ ⟨rfl, rfl, rfl⟩
          show WW g z 5 0 0 ad (Wz z ad σ (su τ 72 0 0 3) o) 57 [(0, .ref (ad 20 0)), (1, .int (nI b)), (2, .int (nI c)), (3, .int (nI v)), (4, .int (nI p))] [.int (nI 1)]
          refine r_if_eq K dX6_addHouse_57 62 (1 = 0) (n0_eq (by omega)) (by decide) (fun c_57 => ?_) (fun c_57 => ?_)
          · skip
            exfalso; omega
          · skip
            refine r_iconst (v := nI 0) K dX6_addHouse_60 (by decide) ?_
            exact r_iret K (by decide) (by decide) (okM_g (c := 2) Q2 (by unfold cAH; rw [if_pos c_7, if_pos ⟨q_21, q_33⟩]; exact (if_neg (by omega)).symm)) dX6_addHouse_61
      · skip
        refine r_iconst (v := nI 2) K dX6_addHouse_36 (by decide) ?_
        refine r_goto K dX6_addHouse_37 54 (by decide) ?_
        refine r_callV (st := []) K (k_X6_fails (c := 2) hl (by omega)) cw_X6_114 wd_1438 wd_24 (by decide) (by decide) rfl rfl rfl rfl (Nat.le_of_ble_eq_true rfl) (by decide) (by decide) dX6_addHouse_54 ?_
        rintro _ _ _ ⟨rfl, rfl, rfl⟩
        show WW g z 5 0 0 ad (Wz z ad σ (su τ 72 0 0 2) o) 57 [(0, .ref (ad 20 0)), (1, .int (nI b)), (2, .int (nI c)), (3, .int (r)), (4, .int (c0))] [.int (nI 1)]
        refine r_if_eq K dX6_addHouse_57 62 (1 = 0) (n0_eq (by omega)) (by decide) (fun c_57 => ?_) (fun c_57 => ?_)
        · skip
          exfalso; omega
        · skip
          refine r_iconst (v := nI 0) K dX6_addHouse_60 (by decide) ?_
          exact r_iret K (by decide) (by decide) (okM_g (c := 1) Q2 (by unfold cAH; rw [if_pos c_7]; exact (if_neg (fun q => c_33 q.2)).symm)) dX6_addHouse_61
  · skip
    refine r_iconst (v := nI 1) K dX6_addHouse_10 (by decide) ?_
    refine r_goto K dX6_addHouse_11 54 (by decide) ?_
    refine r_callV (st := []) K (k_X6_fails (c := 1) hl (by omega)) cw_X6_114 wd_1438 wd_24 (by decide) (by decide) rfl rfl rfl rfl (Nat.le_of_ble_eq_true rfl) (by decide) (by decide) dX6_addHouse_54 ?_
    rintro _ _ _ ⟨rfl, rfl, rfl⟩
    show WW g z 5 0 0 ad (Wz z ad σ (su τ 72 0 0 1) o) 57 [(0, .ref (ad 20 0)), (1, .int (x)), (2, .int (y)), (3, .int (r)), (4, .int (c0))] [.int (nI 1)]
    refine r_if_eq K dX6_addHouse_57 62 (1 = 0) (n0_eq (by omega)) (by decide) (fun c_57 => ?_) (fun c_57 => ?_)
    · skip
      exfalso; omega
    · skip
      refine r_iconst (v := nI 0) K dX6_addHouse_60 (by decide) ?_
      exact r_iret K (by decide) (by decide) (okM_g (c := 0) Q2 (by unfold cAH; exact (if_neg c_7).symm)) dX6_addHouse_61
