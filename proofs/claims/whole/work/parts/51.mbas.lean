set_option maxRecDepth 100000 in
set_option maxHeartbeats 4000000 in
theorem k_X6_addBasin {z : Zx} {l : Launch} {σ τ : Sg} {o : Int64 × UInt64} {ad : Nm} (hl : l.stackTraces = false) {a d w b h : Int32} (Q : IR τ) (Q2 : IMo τ) : Ko z l yX6_addBasin cX6_addBasin 8 (some .int) 7 0 0 [.ref (ad 20 0), .int (a), .int (d), .int (w), .int (b), .int (h)] ad (Wz z ad σ τ o) (okM z ad σ o Value.int (cAB τ a d w b h) (nI (τ 0 0 0)) (if (cAB τ a d w b h) = 0 then (fBasin τ a d w b h) else τ)) exNo := by
  refine ko_of hl (by decide +kernel) (Nat.le_of_ble_eq_true rfl) (fun g hg K => ?_)
  subst hg
  have I := Q.1
  have q0 := I.1.1
  have q1 := I.1.2.1
  have q2 := I.1.2.2.1
  have q3 := I.1.2.2.2.1
  have q4 := I.1.2.2.2.2.1
  show WW g z 8 0 0 ad (Wz z ad σ τ o) 0 [(0, .ref (ad 20 0)), (1, .int (a)), (2, .int (d)), (3, .int (w)), (4, .int (b)), (5, .int (h))] []
  have t75 : WW g z 8 0 0 ad (Wz z ad σ τ o) 75 [(0, .ref (ad 20 0)), (1, .int (a)), (2, .int (d)), (3, .int (w)), (4, .int (b)), (5, .int (h)), (6, .int (pI (¬ blw τ b)))] [.int (pI ((inR a 1 50 ∧ inR d 1 40 ∧ inR w 0 20) ∧ inR h 0 30))] := by
    refine r_istore (lv' := [(7, .int (pI ((inR a 1 50 ∧ inR d 1 40 ∧ inR w 0 20) ∧ inR h 0 30))), (0, .ref (ad 20 0)), (1, .int (a)), (2, .int (d)), (3, .int (w)), (4, .int (b)), (5, .int (h)), (6, .int (pI (¬ blw τ b)))]) K dX6_addBasin_75 (by decide) rfl ?_
    refine r_aload_n K dX6_addBasin_77 1 rfl rfl ?_
    refine r_iload K dX6_addBasin_78 7 rfl ?_
    refine r_if_eq K dX6_addBasin_80 87 (blw τ b) pI_n0 (by decide) (fun c_80 => ?_) (fun c_80 => ?_)
    · skip
      obtain ⟨xb, hxb, rfl⟩ := (blw_iff (by omega)).mp c_80
      refine r_iload K dX6_addBasin_87 0 rfl ?_
      refine r_if_ne K dX6_addBasin_89 96 (¬ ((inR a 1 50 ∧ inR d 1 40 ∧ inR w 0 20) ∧ inR h 0 30)) pI_eq0 (by decide) (fun c_89 => ?_) (fun c_89 => ?_)
      · skip
        have q_89 := Decidable.not_not.mp c_89
        obtain ⟨⟨r1, r2, r3⟩, r4⟩ := q_89
        obtain ⟨av, hav, rfl⟩ := (inR_iff (by decide) (by decide)).mp r1
        obtain ⟨dv, hdv, rfl⟩ := (inR_iff (by decide) (by decide)).mp r2
        obtain ⟨wv, hwv, rfl⟩ := (inR_iff (by decide) (by decide)).mp r3
        obtain ⟨hv, hhv, rfl⟩ := (inR_iff (by decide) (by decide)).mp r4
        have q_89 := Decidable.not_not.mp c_89
        refine r_lv (lv' := [(0, .ref (ad 20 0)), (1, .int (nI av)), (2, .int (nI dv)), (3, .int (nI wv)), (4, .int (bw xb)), (5, .int (nI hv)), (6, .int (pI (¬ blw τ (bw xb))))]) [1, 2, 3, 4, 5, 6, 7] rfl ?_
        refine r_aload_n K dX6_addBasin_96 0 rfl rfl ?_
        refine r_get (v := .int (nI (τ 0 0 0))) K fd_X6_100 rfl rfl rfl dX6_addBasin_97 ?_
        refine r_bipush (v := nI 6) K dX6_addBasin_100 (by decide) ?_
        refine r_icmp_eq K dX6_addBasin_102 112 (τ 0 0 0 = 6) (nI_eq (by omega) (by omega)) (by decide) (fun c_102 => ?_) (fun c_102 => ?_)
        · skip
          refine r_iconst (v := nI 3) K dX6_addBasin_112 (by decide) ?_
          refine r_goto K dX6_addBasin_113 117 (by decide) ?_
          refine r_callV (st := []) K (k_X6_fails (c := 3) hl (by omega)) cw_X6_114 wd_1438 wd_24 (by decide) (by decide) rfl rfl rfl rfl (Nat.le_of_ble_eq_true rfl) (by decide) (by decide) dX6_addBasin_117 ?_
          rintro _ _ _ ⟨rfl, rfl, rfl⟩
          show WW g z 8 0 0 ad (Wz z ad σ (su τ 72 0 0 3) o) 120 [(0, .ref (ad 20 0)), (1, .int (nI av)), (2, .int (nI dv)), (3, .int (nI wv)), (4, .int (bw xb)), (5, .int (nI hv)), (6, .int (pI (¬ blw τ (bw xb))))] [.int (nI 1)]
          refine r_if_eq K dX6_addBasin_120 125 (1 = 0) (n0_eq (by omega)) (by decide) (fun c_120 => ?_) (fun c_120 => ?_)
          · skip
            exfalso; omega
          · skip
            refine r_iconst (v := nI 0) K dX6_addBasin_123 (by decide) ?_
            exact r_iret K (by decide) (by decide) (okM_g (c := 2) Q2 (by unfold cAB; rw [if_pos c_80, if_pos q_89]; exact (if_neg (by omega)).symm)) dX6_addBasin_124
        · skip
          refine r_aload_n K dX6_addBasin_105 0 rfl rfl ?_
          refine r_get (v := .int (nI (τ 12 0 0))) K fd_X6_120 rfl rfl rfl dX6_addBasin_106 ?_
          refine r_if_le K dX6_addBasin_109 116 (τ 12 0 0 = 0) (n0_le (by omega)) (by decide) (fun c_109 => ?_) (fun c_109 => ?_)
          · skip
            refine r_iconst (v := nI 0) K dX6_addBasin_116 (by decide) ?_
            refine r_callV (st := []) K (k_X6_fails (c := 0) hl (by omega)) cw_X6_114 wd_1438 wd_24 (by decide) (by decide) rfl rfl rfl rfl (Nat.le_of_ble_eq_true rfl) (by decide) (by decide) dX6_addBasin_117 ?_
            rintro _ _ _ ⟨rfl, rfl, rfl⟩
            show WW g z 8 0 0 ad (Wz z ad σ (su τ 72 0 0 0) o) 120 [(0, .ref (ad 20 0)), (1, .int (nI av)), (2, .int (nI dv)), (3, .int (nI wv)), (4, .int (bw xb)), (5, .int (nI hv)), (6, .int (pI (¬ blw τ (bw xb))))] [.int (nI 0)]
            refine r_if_eq K dX6_addBasin_120 125 (0 = 0) (n0_eq (by omega)) (by decide) (fun c_120 => ?_) (fun c_120 => ?_)
            · skip
              refine r_aload_n K dX6_addBasin_125 0 rfl rfl ?_
              refine r_get (v := .ref (ad 21 1)) K fd_X6_7 rfl rfl rfl dX6_addBasin_126 ?_
              refine r_aload_n K dX6_addBasin_129 0 rfl rfl ?_
              refine r_get (v := .int (nI (τ 0 0 0))) K fd_X6_100 rfl rfl rfl dX6_addBasin_130 ?_
              refine r_iload_n K dX6_addBasin_133 1 rfl rfl ?_
              refine r_iast (j := τ 0 0 0) K rfl rfl rfl (by omega) (by decide) rfl dX6_addBasin_134 ?_
              refine r_mu u_21_1 ?_
              show WW g z 8 0 0 ad (Wz z ad σ (su (su τ 72 0 0 0) 1 (τ 0 0 0) 0 av) o) 135 [(0, .ref (ad 20 0)), (1, .int (nI av)), (2, .int (nI dv)), (3, .int (nI wv)), (4, .int (bw xb)), (5, .int (nI hv)), (6, .int (pI (¬ blw τ (bw xb))))] []
              refine r_aload_n K dX6_addBasin_135 0 rfl rfl ?_
              refine r_get (v := .ref (ad 21 2)) K fd_X6_13 rfl rfl rfl dX6_addBasin_136 ?_
              refine r_aload_n K dX6_addBasin_139 0 rfl rfl ?_
              refine r_get (v := .int (nI (τ 0 0 0))) K fd_X6_100 rfl rfl rfl dX6_addBasin_140 ?_
              refine r_iload_n K dX6_addBasin_143 2 rfl rfl ?_
              refine r_iast (j := τ 0 0 0) K rfl rfl rfl (by omega) (by decide) rfl dX6_addBasin_144 ?_
              refine r_mu u_21_2 ?_
              show WW g z 8 0 0 ad (Wz z ad σ (su (su (su τ 72 0 0 0) 1 (τ 0 0 0) 0 av) 1 (τ 0 0 0) 1 dv) o) 145 [(0, .ref (ad 20 0)), (1, .int (nI av)), (2, .int (nI dv)), (3, .int (nI wv)), (4, .int (bw xb)), (5, .int (nI hv)), (6, .int (pI (¬ blw τ (bw xb))))] []
              refine r_aload_n K dX6_addBasin_145 0 rfl rfl ?_
              refine r_get (v := .ref (ad 21 3)) K fd_X6_16 rfl rfl rfl dX6_addBasin_146 ?_
              refine r_aload_n K dX6_addBasin_149 0 rfl rfl ?_
              refine r_get (v := .int (nI (τ 0 0 0))) K fd_X6_100 rfl rfl rfl dX6_addBasin_150 ?_
              refine r_iload_n K dX6_addBasin_153 3 rfl rfl ?_
              refine r_iast (j := τ 0 0 0) K rfl rfl rfl (by omega) (by decide) rfl dX6_addBasin_154 ?_
              refine r_mu u_21_3 ?_
              show WW g z 8 0 0 ad (Wz z ad σ (su (su (su (su τ 72 0 0 0) 1 (τ 0 0 0) 0 av) 1 (τ 0 0 0) 1 dv) 1 (τ 0 0 0) 2 wv) o) 155 [(0, .ref (ad 20 0)), (1, .int (nI av)), (2, .int (nI dv)), (3, .int (nI wv)), (4, .int (bw xb)), (5, .int (nI hv)), (6, .int (pI (¬ blw τ (bw xb))))] []
              refine r_aload_n K dX6_addBasin_155 0 rfl rfl ?_
              refine r_get (v := .ref (ad 21 4)) K fd_X6_19 rfl rfl rfl dX6_addBasin_156 ?_
              refine r_aload_n K dX6_addBasin_159 0 rfl rfl ?_
              refine r_get (v := .int (nI (τ 0 0 0))) K fd_X6_100 rfl rfl rfl dX6_addBasin_160 ?_
              refine r_iload K dX6_addBasin_163 4 rfl ?_
              refine r_iast (j := τ 0 0 0) K rfl rfl rfl (by omega) (by decide) rfl dX6_addBasin_165 ?_
              refine r_mu (y_0 (T := (su (su (su (su τ 72 0 0 0) 1 (τ 0 0 0) 0 av) 1 (τ 0 0 0) 1 dv) 1 (τ 0 0 0) 2 wv)) (n := τ 0 0 0) rfl) ?_
              show WW g z 8 0 0 ad (Wy z ad σ (su (su (su (su (su τ 72 0 0 0) 1 (τ 0 0 0) 0 av) 1 (τ 0 0 0) 1 dv) 1 (τ 0 0 0) 2 wv) 1 (τ 0 0 0) 3 xb) (τ 0 0 0) o) 166 [(0, .ref (ad 20 0)), (1, .int (nI av)), (2, .int (nI dv)), (3, .int (nI wv)), (4, .int (bw xb)), (5, .int (nI hv)), (6, .int (pI (¬ blw τ (bw xb))))] []
              refine r_aload_n K dX6_addBasin_166 0 rfl rfl ?_
              refine r_get (v := .ref (ad 21 8)) K fd_X6_31 rfl rfl rfl dX6_addBasin_167 ?_
              refine r_bipush (v := nI 8) K dX6_addBasin_170 (by decide) ?_
              refine r_aload_n K dX6_addBasin_172 0 rfl rfl ?_
              refine r_get (v := .int (nI (τ 0 0 0))) K fd_X6_100 rfl rfl rfl dX6_addBasin_173 ?_
              refine r_imul (v := nI (8 * (τ 0 0 0))) K dX6_addBasin_176 (pk_mul _ _) ?_
              refine r_iload K dX6_addBasin_177 5 rfl ?_
              refine r_eq (st' := [.int (nI hv), .int (nI (8 * τ 0 0 0 + 0)), .ref (ad 21 8)]) rfl rfl rfl rfl ?_
              refine r_iast (j := 8 * τ 0 0 0 + 0) K rfl rfl rfl (by omega) (by decide) rfl dX6_addBasin_179 ?_
              refine r_mu (y_8 (T := (su (su (su (su (su τ 72 0 0 0) 1 (τ 0 0 0) 0 av) 1 (τ 0 0 0) 1 dv) 1 (τ 0 0 0) 2 wv) 1 (τ 0 0 0) 3 xb)) (a := τ 0 0 0) (b := 0) (by decide)) ?_
              show WW g z 8 0 0 ad (Wy z ad σ (su (su (su (su (su (su τ 72 0 0 0) 1 (τ 0 0 0) 0 av) 1 (τ 0 0 0) 1 dv) 1 (τ 0 0 0) 2 wv) 1 (τ 0 0 0) 3 xb) 2 (τ 0 0 0) 0 hv) (τ 0 0 0) o) 180 [(0, .ref (ad 20 0)), (1, .int (nI av)), (2, .int (nI dv)), (3, .int (nI wv)), (4, .int (bw xb)), (5, .int (nI hv)), (6, .int (pI (¬ blw τ (bw xb))))] []
              refine r_aload_n K dX6_addBasin_180 0 rfl rfl ?_
              refine r_get (v := .ref (ad 21 7)) K fd_X6_28 rfl rfl rfl dX6_addBasin_181 ?_
              refine r_aload_n K dX6_addBasin_184 0 rfl rfl ?_
              refine r_get (v := .int (nI (τ 0 0 0))) K fd_X6_100 rfl rfl rfl dX6_addBasin_185 ?_
              refine r_iconst (v := nI 1) K dX6_addBasin_188 (by decide) ?_
              refine r_iast (j := τ 0 0 0) K rfl rfl rfl (by omega) (by decide) rfl dX6_addBasin_189 ?_
              refine r_mu (y_7 (T := (su (su (su (su (su (su τ 72 0 0 0) 1 (τ 0 0 0) 0 av) 1 (τ 0 0 0) 1 dv) 1 (τ 0 0 0) 2 wv) 1 (τ 0 0 0) 3 xb) 2 (τ 0 0 0) 0 hv)) (v := 1)) ?_
              show WW g z 8 0 0 ad (Wy z ad σ (su (su (su (su (su (su (su τ 72 0 0 0) 1 (τ 0 0 0) 0 av) 1 (τ 0 0 0) 1 dv) 1 (τ 0 0 0) 2 wv) 1 (τ 0 0 0) 3 xb) 2 (τ 0 0 0) 0 hv) 1 (τ 0 0 0) 6 1) (τ 0 0 0) o) 190 [(0, .ref (ad 20 0)), (1, .int (nI av)), (2, .int (nI dv)), (3, .int (nI wv)), (4, .int (bw xb)), (5, .int (nI hv)), (6, .int (pI (¬ blw τ (bw xb))))] []
              refine r_aload_n K dX6_addBasin_190 0 rfl rfl ?_
              refine r_dup K dX6_addBasin_191 rfl ?_
              refine r_get (v := .int (nI (τ 0 0 0))) K fd_X6_100 rfl rfl rfl dX6_addBasin_192 ?_
              refine r_iconst (v := nI 1) K dX6_addBasin_195 (by decide) ?_
              refine r_iadd (v := nI ((τ 0 0 0) + 1)) K dX6_addBasin_196 (nI_add _ _) ?_
              refine r_put K fd_X6_100 rfl rfl rfl rfl (Nat.le_of_ble_eq_true rfl) rfl dX6_addBasin_197 ?_
              refine r_mu (y_20 (T := (su (su (su (su (su (su (su τ 72 0 0 0) 1 (τ 0 0 0) 0 av) 1 (τ 0 0 0) 1 dv) 1 (τ 0 0 0) 2 wv) 1 (τ 0 0 0) 3 xb) 2 (τ 0 0 0) 0 hv) 1 (τ 0 0 0) 6 1)) (n := τ 0 0 0) rfl) ?_
              show WW g z 8 0 0 ad (Wz z ad σ (su (su (su (su (su (su (su (su τ 72 0 0 0) 1 (τ 0 0 0) 0 av) 1 (τ 0 0 0) 1 dv) 1 (τ 0 0 0) 2 wv) 1 (τ 0 0 0) 3 xb) 2 (τ 0 0 0) 0 hv) 1 (τ 0 0 0) 6 1) 0 0 0 (τ 0 0 0 + 1)) o) 200 [(0, .ref (ad 20 0)), (1, .int (nI av)), (2, .int (nI dv)), (3, .int (nI wv)), (4, .int (bw xb)), (5, .int (nI hv)), (6, .int (pI (¬ blw τ (bw xb))))] []
              refine r_aload_n K dX6_addBasin_200 0 rfl rfl ?_
              refine r_get (v := .int (nI (τ 0 0 0 + 1))) K fd_X6_100 rfl rfl rfl dX6_addBasin_201 ?_
              refine r_iconst (v := nI 1) K dX6_addBasin_204 (by decide) ?_
              refine r_isub (v := nI ((τ 0 0 0 + 1) - 1)) K dX6_addBasin_205 (pk_sub (by omega)) ?_
              exact r_iret K (by decide) (by decide) (okM_w (by unfold cAB; rw [if_pos c_80, if_pos q_89]; exact if_pos (show τ 0 0 0 < 6 ∧ τ 12 0 0 = 0 by omega)) rfl (by unfold fBasin; rw [jN_n (by omega), jN_n (by omega), jN_n (by omega), jN_n (by omega), jB_b (by omega)]; exact (agr.rf.sx (by decide)).put.put.put.put.put.put.put) ⟨Q2.1, Q2.2.1, fun b hb => Q2.2.2 b (Nat.le_of_succ_le hb)⟩ rfl) dX6_addBasin_206
            · skip
              exfalso; omega
          · skip
            refine r_iconst (v := nI 3) K dX6_addBasin_112 (by decide) ?_
            refine r_goto K dX6_addBasin_113 117 (by decide) ?_
            refine r_callV (st := []) K (k_X6_fails (c := 3) hl (by omega)) cw_X6_114 wd_1438 wd_24 (by decide) (by decide) rfl rfl rfl rfl (Nat.le_of_ble_eq_true rfl) (by decide) (by decide) dX6_addBasin_117 ?_
            rintro _ _ _ ⟨rfl, rfl, rfl⟩
            show WW g z 8 0 0 ad (Wz z ad σ (su τ 72 0 0 3) o) 120 [(0, .ref (ad 20 0)), (1, .int (nI av)), (2, .int (nI dv)), (3, .int (nI wv)), (4, .int (bw xb)), (5, .int (nI hv)), (6, .int (pI (¬ blw τ (bw xb))))] [.int (nI 1)]
            refine r_if_eq K dX6_addBasin_120 125 (1 = 0) (n0_eq (by omega)) (by decide) (fun c_120 => ?_) (fun c_120 => ?_)
            · skip
              exfalso; omega
            · skip
              refine r_iconst (v := nI 0) K dX6_addBasin_123 (by decide) ?_
              exact r_iret K (by decide) (by decide) (okM_g (c := 2) Q2 (by unfold cAB; rw [if_pos c_80, if_pos q_89]; exact (if_neg (by omega)).symm)) dX6_addBasin_124
      · skip
        refine r_iconst (v := nI 2) K dX6_addBasin_92 (by decide) ?_
        refine r_goto K dX6_addBasin_93 117 (by decide) ?_
        refine r_callV (st := []) K (k_X6_fails (c := 2) hl (by omega)) cw_X6_114 wd_1438 wd_24 (by decide) (by decide) rfl rfl rfl rfl (Nat.le_of_ble_eq_true rfl) (by decide) (by decide) dX6_addBasin_117 ?_
        rintro _ _ _ ⟨rfl, rfl, rfl⟩
        show WW g z 8 0 0 ad (Wz z ad σ (su τ 72 0 0 2) o) 120 [(7, .int (pI ((inR a 1 50 ∧ inR d 1 40 ∧ inR w 0 20) ∧ inR h 0 30))), (0, .ref (ad 20 0)), (1, .int (a)), (2, .int (d)), (3, .int (w)), (4, .int (bw xb)), (5, .int (h)), (6, .int (pI (¬ blw τ (bw xb))))] [.int (nI 1)]
        refine r_if_eq K dX6_addBasin_120 125 (1 = 0) (n0_eq (by omega)) (by decide) (fun c_120 => ?_) (fun c_120 => ?_)
        · skip
          exfalso; omega
        · skip
          refine r_iconst (v := nI 0) K dX6_addBasin_123 (by decide) ?_
          exact r_iret K (by decide) (by decide) (okM_g (c := 1) Q2 (by unfold cAB; rw [if_pos c_80]; exact (if_neg c_89).symm)) dX6_addBasin_124
    · skip
      refine r_iconst (v := nI 1) K dX6_addBasin_83 (by decide) ?_
      refine r_goto K dX6_addBasin_84 117 (by decide) ?_
      refine r_callV (st := []) K (k_X6_fails (c := 1) hl (by omega)) cw_X6_114 wd_1438 wd_24 (by decide) (by decide) rfl rfl rfl rfl (Nat.le_of_ble_eq_true rfl) (by decide) (by decide) dX6_addBasin_117 ?_
      rintro _ _ _ ⟨rfl, rfl, rfl⟩
      show WW g z 8 0 0 ad (Wz z ad σ (su τ 72 0 0 1) o) 120 [(7, .int (pI ((inR a 1 50 ∧ inR d 1 40 ∧ inR w 0 20) ∧ inR h 0 30))), (0, .ref (ad 20 0)), (1, .int (a)), (2, .int (d)), (3, .int (w)), (4, .int (b)), (5, .int (h)), (6, .int (pI (¬ blw τ b)))] [.int (nI 1)]
      refine r_if_eq K dX6_addBasin_120 125 (1 = 0) (n0_eq (by omega)) (by decide) (fun c_120 => ?_) (fun c_120 => ?_)
      · skip
        exfalso; omega
      · skip
        refine r_iconst (v := nI 0) K dX6_addBasin_123 (by decide) ?_
        exact r_iret K (by decide) (by decide) (okM_g (c := 0) Q2 (by unfold cAB; exact (if_neg c_80).symm)) dX6_addBasin_124
  have t27 : WW g z 8 0 0 ad (Wz z ad σ τ o) 27 [(0, .ref (ad 20 0)), (1, .int (a)), (2, .int (d)), (3, .int (w)), (4, .int (b)), (5, .int (h))] [.int (pI (¬ blw τ b))] := by
    refine r_istore (lv' := [(6, .int (pI (¬ blw τ b))), (0, .ref (ad 20 0)), (1, .int (a)), (2, .int (d)), (3, .int (w)), (4, .int (b)), (5, .int (h))]) K dX6_addBasin_27 (by decide) rfl ?_
    refine r_iload_n K dX6_addBasin_29 2 rfl rfl ?_
    refine r_iconst (v := nI 1) K dX6_addBasin_30 (by decide) ?_
    refine r_bipush (v := nI 50) K dX6_addBasin_31 (by decide) ?_
    refine r_callS (st := []) K (k_X6_in (x := a) (a := nI 1) (b := nI 50) hl) cw_X6_103 wd_1434 (by decide) (by decide) rfl (Nat.le_of_ble_eq_true rfl) (by decide) (by decide) dX6_addBasin_33 ?_
    rintro _ _ _ ⟨rfl, rfl, rfl⟩
    show WW g z 8 0 0 ad (Wz z ad σ τ o) 36 [(6, .int (pI (¬ blw τ b))), (0, .ref (ad 20 0)), (1, .int (a)), (2, .int (d)), (3, .int (w)), (4, .int (b)), (5, .int (h))] [.int (pI (inR a 1 50))]
    refine r_if_eq K dX6_addBasin_36 74 (¬ (inR a 1 50)) pI_eq0 (by decide) (fun c_36 => ?_) (fun c_36 => ?_)
    · skip
      refine r_iconst (v := nI 0) K dX6_addBasin_74 (by decide) ?_
      refine r_eq (st' := [.int (pI ((inR a 1 50 ∧ inR d 1 40 ∧ inR w 0 20) ∧ inR h 0 30))]) rfl rfl rfl (congrArg (fun q => [Value.int q]) (pI_f (fun q => c_36 q.1.1))) ?_
      refine r_lv (lv' := [(0, .ref (ad 20 0)), (1, .int (a)), (2, .int (d)), (3, .int (w)), (4, .int (b)), (5, .int (h)), (6, .int (pI (¬ blw τ b)))]) [1, 2, 3, 4, 5, 6, 0] rfl ?_
      exact t75  
    · skip
      refine r_iload_n K dX6_addBasin_39 3 rfl rfl ?_
      refine r_iconst (v := nI 1) K dX6_addBasin_40 (by decide) ?_
      refine r_bipush (v := nI 40) K dX6_addBasin_41 (by decide) ?_
      refine r_callS (st := []) K (k_X6_in (x := d) (a := nI 1) (b := nI 40) hl) cw_X6_103 wd_1434 (by decide) (by decide) rfl (Nat.le_of_ble_eq_true rfl) (by decide) (by decide) dX6_addBasin_43 ?_
      rintro _ _ _ ⟨rfl, rfl, rfl⟩
      show WW g z 8 0 0 ad (Wz z ad σ τ o) 46 [(6, .int (pI (¬ blw τ b))), (0, .ref (ad 20 0)), (1, .int (a)), (2, .int (d)), (3, .int (w)), (4, .int (b)), (5, .int (h))] [.int (pI (inR d 1 40))]
      refine r_if_eq K dX6_addBasin_46 74 (¬ (inR d 1 40)) pI_eq0 (by decide) (fun c_46 => ?_) (fun c_46 => ?_)
      · skip
        refine r_iconst (v := nI 0) K dX6_addBasin_74 (by decide) ?_
        refine r_eq (st' := [.int (pI ((inR a 1 50 ∧ inR d 1 40 ∧ inR w 0 20) ∧ inR h 0 30))]) rfl rfl rfl (congrArg (fun q => [Value.int q]) (pI_f (fun q => c_46 q.1.2.1))) ?_
        refine r_lv (lv' := [(0, .ref (ad 20 0)), (1, .int (a)), (2, .int (d)), (3, .int (w)), (4, .int (b)), (5, .int (h)), (6, .int (pI (¬ blw τ b)))]) [1, 2, 3, 4, 5, 6, 0] rfl ?_
        exact t75  
      · skip
        refine r_iload_n K dX6_addBasin_49 4 rfl rfl ?_
        refine r_iconst (v := nI 0) K dX6_addBasin_50 (by decide) ?_
        refine r_bipush (v := nI 20) K dX6_addBasin_51 (by decide) ?_
        refine r_callS (st := []) K (k_X6_in (x := w) (a := nI 0) (b := nI 20) hl) cw_X6_103 wd_1434 (by decide) (by decide) rfl (Nat.le_of_ble_eq_true rfl) (by decide) (by decide) dX6_addBasin_53 ?_
        rintro _ _ _ ⟨rfl, rfl, rfl⟩
        show WW g z 8 0 0 ad (Wz z ad σ τ o) 56 [(6, .int (pI (¬ blw τ b))), (0, .ref (ad 20 0)), (1, .int (a)), (2, .int (d)), (3, .int (w)), (4, .int (b)), (5, .int (h))] [.int (pI (inR w 0 20))]
        refine r_if_eq K dX6_addBasin_56 74 (¬ (inR w 0 20)) pI_eq0 (by decide) (fun c_56 => ?_) (fun c_56 => ?_)
        · skip
          refine r_iconst (v := nI 0) K dX6_addBasin_74 (by decide) ?_
          refine r_eq (st' := [.int (pI ((inR a 1 50 ∧ inR d 1 40 ∧ inR w 0 20) ∧ inR h 0 30))]) rfl rfl rfl (congrArg (fun q => [Value.int q]) (pI_f (fun q => c_56 q.1.2.2))) ?_
          refine r_lv (lv' := [(0, .ref (ad 20 0)), (1, .int (a)), (2, .int (d)), (3, .int (w)), (4, .int (b)), (5, .int (h)), (6, .int (pI (¬ blw τ b)))]) [1, 2, 3, 4, 5, 6, 0] rfl ?_
          exact t75  
        · skip
          refine r_iload K dX6_addBasin_59 6 rfl ?_
          refine r_iconst (v := nI 0) K dX6_addBasin_61 (by decide) ?_
          refine r_bipush (v := nI 30) K dX6_addBasin_62 (by decide) ?_
          refine r_callS (st := []) K (k_X6_in (x := h) (a := nI 0) (b := nI 30) hl) cw_X6_103 wd_1434 (by decide) (by decide) rfl (Nat.le_of_ble_eq_true rfl) (by decide) (by decide) dX6_addBasin_64 ?_
          rintro _ _ _ ⟨rfl, rfl, rfl⟩
          show WW g z 8 0 0 ad (Wz z ad σ τ o) 67 [(6, .int (pI (¬ blw τ b))), (0, .ref (ad 20 0)), (1, .int (a)), (2, .int (d)), (3, .int (w)), (4, .int (b)), (5, .int (h))] [.int (pI (inR h 0 30))]
          refine r_if_eq K dX6_addBasin_67 74 (¬ (inR h 0 30)) pI_eq0 (by decide) (fun c_67 => ?_) (fun c_67 => ?_)
          · skip
            refine r_iconst (v := nI 0) K dX6_addBasin_74 (by decide) ?_
            refine r_eq (st' := [.int (pI ((inR a 1 50 ∧ inR d 1 40 ∧ inR w 0 20) ∧ inR h 0 30))]) rfl rfl rfl (congrArg (fun q => [Value.int q]) (pI_f (fun q => c_67 q.2))) ?_
            refine r_lv (lv' := [(0, .ref (ad 20 0)), (1, .int (a)), (2, .int (d)), (3, .int (w)), (4, .int (b)), (5, .int (h)), (6, .int (pI (¬ blw τ b)))]) [1, 2, 3, 4, 5, 6, 0] rfl ?_
            exact t75  
          · skip
            refine r_iconst (v := nI 1) K dX6_addBasin_70 (by decide) ?_
            refine r_goto K dX6_addBasin_71 75 (by decide) ?_
            refine r_eq (st' := [.int (pI ((inR a 1 50 ∧ inR d 1 40 ∧ inR w 0 20) ∧ inR h 0 30))]) rfl rfl rfl (congrArg (fun q => [Value.int q]) (pI_t ⟨⟨(Decidable.not_not.mp c_36), (Decidable.not_not.mp c_46), (Decidable.not_not.mp c_56)⟩, (Decidable.not_not.mp c_67)⟩)) ?_
            refine r_lv (lv' := [(0, .ref (ad 20 0)), (1, .int (a)), (2, .int (d)), (3, .int (w)), (4, .int (b)), (5, .int (h)), (6, .int (pI (¬ blw τ b)))]) [1, 2, 3, 4, 5, 6, 0] rfl ?_
            exact t75  
  refine r_aload_n K dX6_addBasin_0 0 rfl rfl ?_
  refine r_get (v := .int (nI (τ 0 0 0))) K fd_X6_100 rfl rfl rfl dX6_addBasin_1 ?_
  refine r_if_ne K dX6_addBasin_4 21 (τ 0 0 0 = 0) (n0_eq (by omega)) (by decide) (fun c_4 => ?_) (fun c_4 => ?_)
  · skip
    refine r_aload_n K dX6_addBasin_21 0 rfl rfl ?_
    refine r_iload K dX6_addBasin_22 4 rfl ?_
    refine r_callV (st := []) K (k_X6_isNone (x := b) hl) cw_X6_107 wd_1431 wd_23 (by decide) (by decide) rfl rfl rfl rfl (Nat.le_of_ble_eq_true rfl) (by decide) (by decide) dX6_addBasin_24 ?_
    rintro _ _ _ ⟨rfl, rfl, rfl⟩
    show WW g z 8 0 0 ad (Wz z ad σ τ o) 27 [(0, .ref (ad 20 0)), (1, .int (a)), (2, .int (d)), (3, .int (w)), (4, .int (b)), (5, .int (h))] [.int (pI (¬ in0 b (τ 0 0 0)))]
    refine r_eq (st' := [.int (pI (¬ blw τ b))]) rfl rfl rfl (congrArg (fun q => [Value.int q]) (pI_cg (by unfold blw; rw [if_neg c_4]))) ?_
    refine r_lv (lv' := [(0, .ref (ad 20 0)), (1, .int (a)), (2, .int (d)), (3, .int (w)), (4, .int (b)), (5, .int (h))]) [0, 1, 2, 3, 4, 5] rfl ?_
    exact t27  
  · skip
    refine r_iload K dX6_addBasin_7 4 rfl ?_
    refine r_iconst (v := bw 0) K dX6_addBasin_9 (by decide) ?_
    refine r_icmp_eq K dX6_addBasin_10 17 (b = bw 0) Iff.rfl (by decide) (fun c_10 => ?_) (fun c_10 => ?_)
    · skip
      refine r_iconst (v := nI 0) K dX6_addBasin_17 (by decide) ?_
      refine r_goto K dX6_addBasin_18 27 (by decide) ?_
      refine r_eq (st' := [.int (pI (¬ blw τ b))]) rfl rfl rfl (congrArg (fun q => [Value.int q]) (pI_f (fun q => q (by unfold blw; rw [if_pos c_4]; exact c_10)))) ?_
      refine r_lv (lv' := [(0, .ref (ad 20 0)), (1, .int (a)), (2, .int (d)), (3, .int (w)), (4, .int (b)), (5, .int (h))]) [0, 1, 2, 3, 4, 5] rfl ?_
      exact t27  
    · skip
      refine r_iconst (v := nI 1) K dX6_addBasin_13 (by decide) ?_
      refine r_goto K dX6_addBasin_14 27 (by decide) ?_
      refine r_eq (st' := [.int (pI (¬ blw τ b))]) rfl rfl rfl (congrArg (fun q => [Value.int q]) (pI_t (by unfold blw; rw [if_pos c_4]; exact c_10))) ?_
      refine r_lv (lv' := [(0, .ref (ad 20 0)), (1, .int (a)), (2, .int (d)), (3, .int (w)), (4, .int (b)), (5, .int (h))]) [0, 1, 2, 3, 4, 5] rfl ?_
      exact t27  
