set_option maxRecDepth 100000 in
set_option maxHeartbeats 4000000 in
/-- houseCount -/
theorem case_28 {z : Zx} {g : Gx} {tb : List ExceptionTableEntry} {mc ms n k b L i : Nat} {xs : Nat → Int32} {ad0 ad : Nm} {μ0 : Ce} {ok : OkT} {ex : String → Prop} {σ : Sg} {o : Int64 × UInt64} (K : Kn g z cL_law 9 yL_law (some .boolean) tb 12 mc ms ad0 μ0 ok ex) (hl : (gl g).stackTraces = false) (X : Scr z g b L xs) (hL : L ≤ 4000) (hi : i + 6 ≤ L) (Q : IR σ) (C : ICo σ) (M : IMo σ) (hn : n + 20 ≤ mc) (hk : k + 400 ≤ ms) (kk : ∀ ad' ρ o', IR ρ → ICo ρ → IMo ρ → WW g z 9 (n + 20) (k + 400) ad' (Wz z ad' ρ ρ o') 2423 [(0, .ref b), (1, .ref (ad' 0 0)), (2, .ref (ad' 20 0)), (3, .ref (ad' 19 0)), (4, .ref (ad' 19 1)), (5, .int (nI i))] []) : WW g z 9 n k ad (Wz z ad σ σ o) 1703 [(0, .ref b), (1, .ref (ad 0 0)), (2, .ref (ad 20 0)), (3, .ref (ad 19 0)), (4, .ref (ad 19 1)), (5, .int (nI i))] [] := by
  show WW g z 9 n k ad (Wz z ad σ σ o) 1703 [(0, .ref b), (1, .ref (ad 0 0)), (2, .ref (ad 20 0)), (3, .ref (ad 19 0)), (4, .ref (ad 19 1)), (5, .int (nI i))] []
  refine r_aload_n K dL_law_1703 1 rfl rfl ?_
  refine r_callV (st := []) K (k_X5_houseCount (σ := σ) (τ := σ) (o := o) hl Q C) cw_L_233 wd_242 wd_243 (by decide) (by decide) rfl rfl rfl rfl (Nat.le_of_ble_eq_true rfl) (by omega) (by omega) dL_law_1704 ?_
  rintro _ ad1 _ ⟨-, rfl, hK1, σ1, rfl, hA1, hC1⟩
  refine r_eq (lv' := [(0, .ref b), (1, .ref (ad1 0 0)), (2, .ref (ad1 20 0)), (3, .ref (ad1 19 0)), (4, .ref (ad1 19 1)), (5, .int (nI i))]) rfl rfl (by rw [hK1.1, hK1.2.1, hK1.2.2.1, hK1.2.2.2]) rfl ?_
  show WW g z 9 n k ad1 (Wz z ad1 σ1 σ o) 1707 [(0, .ref b), (1, .ref (ad1 0 0)), (2, .ref (ad1 20 0)), (3, .ref (ad1 19 0)), (4, .ref (ad1 19 1)), (5, .int (nI i))] [.int (nI (σ 0 2 0))]
  refine r_aload_n K dL_law_1707 2 rfl rfl ?_
  refine r_callV (st := [.int (nI (σ 0 2 0))]) K (k_X6_houseCount (σ := σ1) (τ := σ) (o := o) hl Q M) cw_L_236 wd_1608 wd_1609 (by decide) (by decide) rfl rfl rfl rfl (Nat.le_of_ble_eq_true rfl) (by omega) (by omega) dL_law_1708 ?_
  rintro _ _ _ ⟨x1, rfl, hx1, rfl, τ2, rfl, hA2, hM2, h72⟩
  show WW g z 9 n k ad1 (Wz z ad1 σ1 τ2 o) 1711 [(0, .ref b), (1, .ref (ad1 0 0)), (2, .ref (ad1 20 0)), (3, .ref (ad1 19 0)), (4, .ref (ad1 19 1)), (5, .int (nI i))] [.int (x1), .int (nI (σ 0 2 0))]
  refine r_icmp_eq K dL_law_1711 2423 True (iff_of_true (hx1 rfl).symm trivial) (by decide) (fun _ => ?_) (fun c => absurd trivial c)
  have hG : IR σ := Q
  obtain ⟨ρ, hW, hQ3, hC3, hM3⟩ := mg_all (z := z) (ad := ad1) (o := o) hG hA1 hA2 hC1 hM2
  refine r_mu hW ?_
  refine r_lv (lv' := [(0, .ref b), (1, .ref (ad1 0 0)), (2, .ref (ad1 20 0)), (3, .ref (ad1 19 0)), (4, .ref (ad1 19 1)), (5, .int (nI i))]) [0, 1, 2, 3, 4, 5] rfl ?_
  exact r_wide (by omega) (by omega) (kk ad1 ρ o hQ3 hC3 hM3)
set_option maxRecDepth 100000 in
set_option maxHeartbeats 4000000 in
/-- wasWet -/
theorem case_29 {z : Zx} {g : Gx} {tb : List ExceptionTableEntry} {mc ms n k b L i : Nat} {xs : Nat → Int32} {ad0 ad : Nm} {μ0 : Ce} {ok : OkT} {ex : String → Prop} {σ : Sg} {o : Int64 × UInt64} (K : Kn g z cL_law 9 yL_law (some .boolean) tb 12 mc ms ad0 μ0 ok ex) (hl : (gl g).stackTraces = false) (X : Scr z g b L xs) (hL : L ≤ 4000) (hi : i + 6 ≤ L) (Q : IR σ) (C : ICo σ) (M : IMo σ) (hn : n + 20 ≤ mc) (hk : k + 400 ≤ ms) (kk : ∀ ad' ρ o', IR ρ → ICo ρ → IMo ρ → WW g z 9 (n + 20) (k + 400) ad' (Wz z ad' ρ ρ o') 2423 [(0, .ref b), (1, .ref (ad' 0 0)), (2, .ref (ad' 20 0)), (3, .ref (ad' 19 0)), (4, .ref (ad' 19 1)), (5, .int (nI i))] []) : WW g z 9 n k ad (Wz z ad σ σ o) 1716 [(0, .ref b), (1, .ref (ad 0 0)), (2, .ref (ad 20 0)), (3, .ref (ad 19 0)), (4, .ref (ad 19 1)), (5, .int (nI i))] [] := by
  show WW g z 9 n k ad (Wz z ad σ σ o) 1716 [(0, .ref b), (1, .ref (ad 0 0)), (2, .ref (ad 20 0)), (3, .ref (ad 19 0)), (4, .ref (ad 19 1)), (5, .int (nI i))] []
  refine r_aload_n K dL_law_1716 1 rfl rfl ?_
  refine r_aload_n K dL_law_1717 0 rfl rfl ?_
  refine r_iload K dL_law_1718 5 rfl ?_
  refine r_iconst (v := nI 1) K dL_law_1720 (by decide) ?_
  refine r_iadd (v := nI (i + 1)) K dL_law_1721 (nI_add _ _) ?_
  refine r_sld (j := i + 1) K X rfl (by omega) (by omega) dL_law_1722 ?_
  refine r_aload_n K dL_law_1723 0 rfl rfl ?_
  refine r_iload K dL_law_1724 5 rfl ?_
  refine r_iconst (v := nI 2) K dL_law_1726 (by decide) ?_
  refine r_iadd (v := nI (i + 2)) K dL_law_1727 (nI_add _ _) ?_
  refine r_sld (j := i + 2) K X rfl (by omega) (by omega) dL_law_1728 ?_
  refine r_aload_n K dL_law_1729 3 rfl rfl ?_
  refine r_callSH (st := []) K (k_L_wasWet (σ := σ) (τ := σ) (o := o) hl Q C) wd_869 wd_47 wd_871 wd_870 ⟨by decide, by decide, (by decide +kernel : (parseMethodDescriptor yL_wasWet.desc).map (fun d => d.parameters.length) = some 4)⟩ (by decide) (by decide) rfl (Nat.le_of_ble_eq_true rfl) (by omega) (by omega) dL_law_1730 ?_
  rintro _ ad1 _ ⟨rfl, hK1, σ1, o1, rfl, hA1, hC1, hv1⟩
  rw [ite_sg] at hA1
  refine r_eq (lv' := [(0, .ref b), (1, .ref (ad1 0 0)), (2, .ref (ad1 20 0)), (3, .ref (ad1 19 0)), (4, .ref (ad1 19 1)), (5, .int (nI i))]) rfl rfl (by rw [hK1.1, hK1.2.1, hK1.2.2.1, hK1.2.2.2]) rfl ?_
  show WW g z 9 (n + 2) (k + 12) ad1 (Wz z ad1 σ1 σ o1) 1733 [(0, .ref b), (1, .ref (ad1 0 0)), (2, .ref (ad1 20 0)), (3, .ref (ad1 19 0)), (4, .ref (ad1 19 1)), (5, .int (nI i))] [.int (nI (cKh σ (xs (i + 1)) (xs (i + 2))))]
  refine r_istore (lv' := [(6, .int (nI (cKh σ (xs (i + 1)) (xs (i + 2))))), (0, .ref b), (1, .ref (ad1 0 0)), (2, .ref (ad1 20 0)), (3, .ref (ad1 19 0)), (4, .ref (ad1 19 1)), (5, .int (nI i))]) K dL_law_1733 (by decide) rfl ?_
  refine r_aload_n K dL_law_1735 3 rfl rfl ?_
  refine r_aload_n K dL_law_1736 1 rfl rfl ?_
  refine r_iload K dL_law_1737 6 rfl ?_
  refine r_iconst (v := nI 1) K dL_law_1739 (by decide) ?_
  refine r_iadd (v := nI (i + 1)) K dL_law_1740 (nI_add _ _) ?_
  refine r_sld (j := i + 1) K X rfl (by omega) (by omega) dL_law_1741 ?_
  refine r_aload_n K dL_law_1742 1 rfl rfl ?_
  refine r_iload K dL_law_1743 6 rfl ?_
  refine r_iconst (v := nI 2) K dL_law_1745 (by decide) ?_
  refine r_iadd (v := nI (i + 2)) K dL_law_1746 (nI_add _ _) ?_
  refine r_sld (j := i + 2) K X rfl (by omega) (by omega) dL_law_1747 ?_
  refine r_callV (st := []) K (k_X6_wasWet (σ := σ1) (τ := σ) (o := o1) hl Q M) cw_L_239 wd_1612 wd_1613 (by decide) (by decide) rfl rfl rfl rfl (Nat.le_of_ble_eq_true rfl) (by omega) (by omega) dL_law_1748 ?_
  rintro _ _ _ ⟨x1, rfl, hx1, rfl, τ2, rfl, hA2, hM2, h72⟩
  have hb1 : (cKh σ (xs (i + 1)) (xs (i + 2))) = 0 → ¬ x1 = 0 → x1 = 1 := fun h q => by rw [hx1 h] at q ⊢; exact pI_ne q
  show WW g z 9 (n + 2) (k + 12) ad1 (Wz z ad1 σ1 τ2 o1) 1751 [(6, .int (nI (cKh σ (xs (i + 1)) (xs (i + 2))))), (0, .ref b), (1, .ref (ad1 0 0)), (2, .ref (ad1 20 0)), (3, .ref (ad1 19 0)), (4, .ref (ad1 19 1)), (5, .int (nI i))] [.int (x1)]
  refine r_istore (lv' := [(7, .int (x1)), (6, .int (nI (cKh σ (xs (i + 1)) (xs (i + 2))))), (0, .ref b), (1, .ref (ad1 0 0)), (2, .ref (ad1 20 0)), (3, .ref (ad1 19 0)), (4, .ref (ad1 19 1)), (5, .int (nI i))]) K dL_law_1751 (by decide) rfl ?_
  refine r_aload_n K dL_law_1753 4 rfl rfl ?_
  refine r_callV (st := []) K (k_X6_thrown (σ := σ1) (τ := τ2) (o := o1) hl) cw_L_134 wd_1422 wd_1423 (by decide) (by decide) rfl rfl rfl rfl (Nat.le_of_ble_eq_true rfl) (by omega) (by omega) dL_law_1754 ?_
  rintro _ _ _ ⟨rfl, rfl, rfl⟩
  refine r_eq (st' := [.int (nI (cKh σ (xs (i + 1)) (xs (i + 2))))]) rfl rfl rfl (by rw [h72]; rfl) ?_
  show WW g z 9 (n + 2) (k + 12) ad1 (Wz z ad1 σ1 τ2 o1) 1757 [(7, .int (x1)), (6, .int (nI (cKh σ (xs (i + 1)) (xs (i + 2))))), (0, .ref b), (1, .ref (ad1 0 0)), (2, .ref (ad1 20 0)), (3, .ref (ad1 19 0)), (4, .ref (ad1 19 1)), (5, .int (nI i))] [.int (nI (cKh σ (xs (i + 1)) (xs (i + 2))))]
  refine r_iload K dL_law_1757 1 rfl ?_
  refine r_icmp_eq K dL_law_1759 1764 True (iff_of_true rfl trivial) (by decide) (fun _ => ?_) (fun c => absurd trivial c)
  refine r_iload K dL_law_1764 1 rfl ?_
  have hcd : (cKh σ (xs (i + 1)) (xs (i + 2))) < 2 ^ 31 := by unfold cKh; (repeat' split) <;> decide
  refine r_if_ne K dL_law_1766 1788 ((cKh σ (xs (i + 1)) (xs (i + 2))) = 0) (n0_eq hcd) (by decide) (fun c_1766 => ?_) (fun c_1766 => ?_)
  · skip
    refine r_goto K dL_law_1788 2423 (by decide) ?_
    have hG : IR σ := Q
    obtain ⟨ρ, hW, hQ3, hC3, hM3⟩ := mg_all (z := z) (ad := ad1) (o := o1) hG hA1 hA2 hC1 hM2
    refine r_mu hW ?_
    refine r_lv (lv' := [(0, .ref b), (1, .ref (ad1 0 0)), (2, .ref (ad1 20 0)), (3, .ref (ad1 19 0)), (4, .ref (ad1 19 1)), (5, .int (nI i))]) [2, 3, 4, 5, 6, 7] rfl ?_
    exact r_wide (by omega) (by omega) (kk ad1 ρ o1 hQ3 hC3 hM3)
  · skip
    refine r_aload_n K dL_law_1769 5 rfl rfl ?_
    refine r_iconst (v := nI 0) K dL_law_1770 (by decide) ?_
    refine r_lald (j := 0) (v := o1.1) K rfl rfl rfl (by decide) (by decide) rfl dL_law_1771 ?_
    refine r_iload K dL_law_1772 0 rfl ?_
    refine r_if_eq K dL_law_1774 1781 (x1 = 0) Iff.rfl (by decide) (fun c_1774 => ?_) (fun c_1774 => ?_)
    · skip
      refine r_lconst (v := nJ (0)) K dL_law_1781 rfl ?_
      refine r_lcmpE K (by rw [hv1 c_1766, ← hx1 c_1766, c_1774]; rfl) dL_law_1782 ?_
      refine r_if_eq K dL_law_1783 1788 (0 = 0) (n0_eq (by omega)) (by decide) (fun c_1783 => ?_) (fun c_1783 => ?_)
      · skip
        refine r_goto K dL_law_1788 2423 (by decide) ?_
        have hG : IR σ := Q
        obtain ⟨ρ, hW, hQ3, hC3, hM3⟩ := mg_all (z := z) (ad := ad1) (o := o1) hG hA1 hA2 hC1 hM2
        refine r_mu hW ?_
        refine r_lv (lv' := [(0, .ref b), (1, .ref (ad1 0 0)), (2, .ref (ad1 20 0)), (3, .ref (ad1 19 0)), (4, .ref (ad1 19 1)), (5, .int (nI i))]) [2, 3, 4, 5, 6, 7] rfl ?_
        exact r_wide (by omega) (by omega) (kk ad1 ρ o1 hQ3 hC3 hM3)
      · skip
        exfalso; omega
    · skip
      refine r_lconst (v := nJ (1)) K dL_law_1777 rfl ?_
      refine r_goto K dL_law_1778 1782 (by decide) ?_
      refine r_lcmpE K (by rw [hv1 c_1766, ← hx1 c_1766, hb1 c_1766 c_1774]; rfl) dL_law_1782 ?_
      refine r_if_eq K dL_law_1783 1788 (0 = 0) (n0_eq (by omega)) (by decide) (fun c_1783 => ?_) (fun c_1783 => ?_)
      · skip
        refine r_goto K dL_law_1788 2423 (by decide) ?_
        have hG : IR σ := Q
        obtain ⟨ρ, hW, hQ3, hC3, hM3⟩ := mg_all (z := z) (ad := ad1) (o := o1) hG hA1 hA2 hC1 hM2
        refine r_mu hW ?_
        refine r_lv (lv' := [(0, .ref b), (1, .ref (ad1 0 0)), (2, .ref (ad1 20 0)), (3, .ref (ad1 19 0)), (4, .ref (ad1 19 1)), (5, .int (nI i))]) [2, 3, 4, 5, 6, 7] rfl ?_
        exact r_wide (by omega) (by omega) (kk ad1 ρ o1 hQ3 hC3 hM3)
      · skip
        exfalso; omega
set_option maxRecDepth 100000 in
set_option maxHeartbeats 4000000 in
/-- worthOf -/
theorem case_30 {z : Zx} {g : Gx} {tb : List ExceptionTableEntry} {mc ms n k b L i : Nat} {xs : Nat → Int32} {ad0 ad : Nm} {μ0 : Ce} {ok : OkT} {ex : String → Prop} {σ : Sg} {o : Int64 × UInt64} (K : Kn g z cL_law 9 yL_law (some .boolean) tb 12 mc ms ad0 μ0 ok ex) (hl : (gl g).stackTraces = false) (X : Scr z g b L xs) (hL : L ≤ 4000) (hi : i + 6 ≤ L) (Q : IR σ) (C : ICo σ) (M : IMo σ) (hn : n + 20 ≤ mc) (hk : k + 400 ≤ ms) (kk : ∀ ad' ρ o', IR ρ → ICo ρ → IMo ρ → WW g z 9 (n + 20) (k + 400) ad' (Wz z ad' ρ ρ o') 2423 [(0, .ref b), (1, .ref (ad' 0 0)), (2, .ref (ad' 20 0)), (3, .ref (ad' 19 0)), (4, .ref (ad' 19 1)), (5, .int (nI i))] []) : WW g z 9 n k ad (Wz z ad σ σ o) 1791 [(0, .ref b), (1, .ref (ad 0 0)), (2, .ref (ad 20 0)), (3, .ref (ad 19 0)), (4, .ref (ad 19 1)), (5, .int (nI i))] [] := by
  show WW g z 9 n k ad (Wz z ad σ σ o) 1791 [(0, .ref b), (1, .ref (ad 0 0)), (2, .ref (ad 20 0)), (3, .ref (ad 19 0)), (4, .ref (ad 19 1)), (5, .int (nI i))] []
  refine r_aload_n K dL_law_1791 1 rfl rfl ?_
  refine r_aload_n K dL_law_1792 0 rfl rfl ?_
  refine r_iload K dL_law_1793 5 rfl ?_
  refine r_iconst (v := nI 1) K dL_law_1795 (by decide) ?_
  refine r_iadd (v := nI (i + 1)) K dL_law_1796 (nI_add _ _) ?_
  refine r_sld (j := i + 1) K X rfl (by omega) (by omega) dL_law_1797 ?_
  refine r_aload_n K dL_law_1798 0 rfl rfl ?_
  refine r_iload K dL_law_1799 5 rfl ?_
  refine r_iconst (v := nI 2) K dL_law_1801 (by decide) ?_
  refine r_iadd (v := nI (i + 2)) K dL_law_1802 (nI_add _ _) ?_
  refine r_sld (j := i + 2) K X rfl (by omega) (by omega) dL_law_1803 ?_
  refine r_aload_n K dL_law_1804 3 rfl rfl ?_
  refine r_callSH (st := []) K (k_L_worthOf (σ := σ) (τ := σ) (o := o) hl Q C) wd_886 wd_47 wd_888 wd_887 ⟨by decide, by decide, (by decide +kernel : (parseMethodDescriptor yL_worthOf.desc).map (fun d => d.parameters.length) = some 4)⟩ (by decide) (by decide) rfl (Nat.le_of_ble_eq_true rfl) (by omega) (by omega) dL_law_1805 ?_
  rintro _ ad1 _ ⟨rfl, hK1, σ1, o1, rfl, hA1, hC1, hv1⟩
  rw [ite_sg] at hA1
  refine r_eq (lv' := [(0, .ref b), (1, .ref (ad1 0 0)), (2, .ref (ad1 20 0)), (3, .ref (ad1 19 0)), (4, .ref (ad1 19 1)), (5, .int (nI i))]) rfl rfl (by rw [hK1.1, hK1.2.1, hK1.2.2.1, hK1.2.2.2]) rfl ?_
  show WW g z 9 (n + 2) (k + 12) ad1 (Wz z ad1 σ1 σ o1) 1808 [(0, .ref b), (1, .ref (ad1 0 0)), (2, .ref (ad1 20 0)), (3, .ref (ad1 19 0)), (4, .ref (ad1 19 1)), (5, .int (nI i))] [.int (nI (cKh σ (xs (i + 1)) (xs (i + 2))))]
  refine r_istore (lv' := [(6, .int (nI (cKh σ (xs (i + 1)) (xs (i + 2))))), (0, .ref b), (1, .ref (ad1 0 0)), (2, .ref (ad1 20 0)), (3, .ref (ad1 19 0)), (4, .ref (ad1 19 1)), (5, .int (nI i))]) K dL_law_1808 (by decide) rfl ?_
  refine r_aload_n K dL_law_1810 3 rfl rfl ?_
  refine r_aload_n K dL_law_1811 1 rfl rfl ?_
  refine r_iload K dL_law_1812 6 rfl ?_
  refine r_iconst (v := nI 1) K dL_law_1814 (by decide) ?_
  refine r_iadd (v := nI (i + 1)) K dL_law_1815 (nI_add _ _) ?_
  refine r_sld (j := i + 1) K X rfl (by omega) (by omega) dL_law_1816 ?_
  refine r_aload_n K dL_law_1817 1 rfl rfl ?_
  refine r_iload K dL_law_1818 6 rfl ?_
  refine r_iconst (v := nI 2) K dL_law_1820 (by decide) ?_
  refine r_iadd (v := nI (i + 2)) K dL_law_1821 (nI_add _ _) ?_
  refine r_sld (j := i + 2) K X rfl (by omega) (by omega) dL_law_1822 ?_
  refine r_callV (st := []) K (k_X6_worthOf (σ := σ1) (τ := σ) (o := o1) hl Q M) cw_L_242 wd_1628 wd_1629 (by decide) (by decide) rfl rfl rfl rfl (Nat.le_of_ble_eq_true rfl) (by omega) (by omega) dL_law_1823 ?_
  rintro _ _ _ ⟨x1, rfl, hx1, rfl, τ2, rfl, hA2, hM2, h72⟩
  show WW g z 9 (n + 2) (k + 12) ad1 (Wz z ad1 σ1 τ2 o1) 1826 [(6, .int (nI (cKh σ (xs (i + 1)) (xs (i + 2))))), (0, .ref b), (1, .ref (ad1 0 0)), (2, .ref (ad1 20 0)), (3, .ref (ad1 19 0)), (4, .ref (ad1 19 1)), (5, .int (nI i))] [.int (x1)]
  refine r_istore (lv' := [(7, .int (x1)), (6, .int (nI (cKh σ (xs (i + 1)) (xs (i + 2))))), (0, .ref b), (1, .ref (ad1 0 0)), (2, .ref (ad1 20 0)), (3, .ref (ad1 19 0)), (4, .ref (ad1 19 1)), (5, .int (nI i))]) K dL_law_1826 (by decide) rfl ?_
  refine r_aload_n K dL_law_1828 4 rfl rfl ?_
  refine r_callV (st := []) K (k_X6_thrown (σ := σ1) (τ := τ2) (o := o1) hl) cw_L_134 wd_1422 wd_1423 (by decide) (by decide) rfl rfl rfl rfl (Nat.le_of_ble_eq_true rfl) (by omega) (by omega) dL_law_1829 ?_
  rintro _ _ _ ⟨rfl, rfl, rfl⟩
  refine r_eq (st' := [.int (nI (cKh σ (xs (i + 1)) (xs (i + 2))))]) rfl rfl rfl (by rw [h72]; rfl) ?_
  show WW g z 9 (n + 2) (k + 12) ad1 (Wz z ad1 σ1 τ2 o1) 1832 [(7, .int (x1)), (6, .int (nI (cKh σ (xs (i + 1)) (xs (i + 2))))), (0, .ref b), (1, .ref (ad1 0 0)), (2, .ref (ad1 20 0)), (3, .ref (ad1 19 0)), (4, .ref (ad1 19 1)), (5, .int (nI i))] [.int (nI (cKh σ (xs (i + 1)) (xs (i + 2))))]
  refine r_iload K dL_law_1832 1 rfl ?_
  refine r_icmp_eq K dL_law_1834 1839 True (iff_of_true rfl trivial) (by decide) (fun _ => ?_) (fun c => absurd trivial c)
  refine r_iload K dL_law_1839 1 rfl ?_
  have hcd : (cKh σ (xs (i + 1)) (xs (i + 2))) < 2 ^ 31 := by unfold cKh; (repeat' split) <;> decide
  refine r_if_ne K dL_law_1841 1856 ((cKh σ (xs (i + 1)) (xs (i + 2))) = 0) (n0_eq hcd) (by decide) (fun c_1841 => ?_) (fun c_1841 => ?_)
  · skip
    refine r_goto K dL_law_1856 2423 (by decide) ?_
    have hG : IR σ := Q
    obtain ⟨ρ, hW, hQ3, hC3, hM3⟩ := mg_all (z := z) (ad := ad1) (o := o1) hG hA1 hA2 hC1 hM2
    refine r_mu hW ?_
    refine r_lv (lv' := [(0, .ref b), (1, .ref (ad1 0 0)), (2, .ref (ad1 20 0)), (3, .ref (ad1 19 0)), (4, .ref (ad1 19 1)), (5, .int (nI i))]) [2, 3, 4, 5, 6, 7] rfl ?_
    exact r_wide (by omega) (by omega) (kk ad1 ρ o1 hQ3 hC3 hM3)
  · skip
    refine r_aload_n K dL_law_1844 5 rfl rfl ?_
    refine r_iconst (v := nI 0) K dL_law_1845 (by decide) ?_
    refine r_lald (j := 0) (v := o1.1) K rfl rfl rfl (by decide) (by decide) rfl dL_law_1846 ?_
    refine r_iload K dL_law_1847 0 rfl ?_
    refine r_i2l (v := ((x1).toInt64)) K dL_law_1849 rfl ?_
    refine r_lcmpE K (by rw [hv1 c_1841, hx1 c_1841]) dL_law_1850 ?_
    refine r_if_eq K dL_law_1851 1856 (0 = 0) (n0_eq (by omega)) (by decide) (fun c_1851 => ?_) (fun c_1851 => ?_)
    · skip
      refine r_goto K dL_law_1856 2423 (by decide) ?_
      have hG : IR σ := Q
      obtain ⟨ρ, hW, hQ3, hC3, hM3⟩ := mg_all (z := z) (ad := ad1) (o := o1) hG hA1 hA2 hC1 hM2
      refine r_mu hW ?_
      refine r_lv (lv' := [(0, .ref b), (1, .ref (ad1 0 0)), (2, .ref (ad1 20 0)), (3, .ref (ad1 19 0)), (4, .ref (ad1 19 1)), (5, .int (nI i))]) [2, 3, 4, 5, 6, 7] rfl ?_
      exact r_wide (by omega) (by omega) (kk ad1 ρ o1 hQ3 hC3 hM3)
    · skip
      exfalso; omega
set_option maxRecDepth 100000 in
set_option maxHeartbeats 4000000 in
/-- claim -/
theorem case_31 {z : Zx} {g : Gx} {tb : List ExceptionTableEntry} {mc ms n k b L i : Nat} {xs : Nat → Int32} {ad0 ad : Nm} {μ0 : Ce} {ok : OkT} {ex : String → Prop} {σ : Sg} {o : Int64 × UInt64} (K : Kn g z cL_law 9 yL_law (some .boolean) tb 12 mc ms ad0 μ0 ok ex) (hl : (gl g).stackTraces = false) (X : Scr z g b L xs) (hL : L ≤ 4000) (hi : i + 6 ≤ L) (Q : IR σ) (C : ICo σ) (M : IMo σ) (hn : n + 20 ≤ mc) (hk : k + 400 ≤ ms) (kk : ∀ ad' ρ o', IR ρ → ICo ρ → IMo ρ → WW g z 9 (n + 20) (k + 400) ad' (Wz z ad' ρ ρ o') 2423 [(0, .ref b), (1, .ref (ad' 0 0)), (2, .ref (ad' 20 0)), (3, .ref (ad' 19 0)), (4, .ref (ad' 19 1)), (5, .int (nI i))] []) : WW g z 9 n k ad (Wz z ad σ σ o) 1859 [(0, .ref b), (1, .ref (ad 0 0)), (2, .ref (ad 20 0)), (3, .ref (ad 19 0)), (4, .ref (ad 19 1)), (5, .int (nI i))] [] := by
  show WW g z 9 n k ad (Wz z ad σ σ o) 1859 [(0, .ref b), (1, .ref (ad 0 0)), (2, .ref (ad 20 0)), (3, .ref (ad 19 0)), (4, .ref (ad 19 1)), (5, .int (nI i))] []
  refine r_aload_n K dL_law_1859 1 rfl rfl ?_
  refine r_aload_n K dL_law_1860 0 rfl rfl ?_
  refine r_iload K dL_law_1861 5 rfl ?_
  refine r_iconst (v := nI 1) K dL_law_1863 (by decide) ?_
  refine r_iadd (v := nI (i + 1)) K dL_law_1864 (nI_add _ _) ?_
  refine r_sld (j := i + 1) K X rfl (by omega) (by omega) dL_law_1865 ?_
  refine r_aload_n K dL_law_1866 0 rfl rfl ?_
  refine r_iload K dL_law_1867 5 rfl ?_
  refine r_iconst (v := nI 2) K dL_law_1869 (by decide) ?_
  refine r_iadd (v := nI (i + 2)) K dL_law_1870 (nI_add _ _) ?_
  refine r_sld (j := i + 2) K X rfl (by omega) (by omega) dL_law_1871 ?_
  refine r_aload_n K dL_law_1872 3 rfl rfl ?_
  refine r_callSH (st := []) K (k_L_claim (σ := σ) (τ := σ) (o := o) hl Q C) wd_898 wd_47 wd_900 wd_899 ⟨by decide, by decide, (by decide +kernel : (parseMethodDescriptor yL_claim.desc).map (fun d => d.parameters.length) = some 4)⟩ (by decide) (by decide) rfl (Nat.le_of_ble_eq_true rfl) (by omega) (by omega) dL_law_1873 ?_
  rintro _ ad1 _ ⟨rfl, hK1, σ1, o1, rfl, hA1, hC1, hv1⟩
  refine r_eq (lv' := [(0, .ref b), (1, .ref (ad1 0 0)), (2, .ref (ad1 20 0)), (3, .ref (ad1 19 0)), (4, .ref (ad1 19 1)), (5, .int (nI i))]) rfl rfl (by rw [hK1.1, hK1.2.1, hK1.2.2.1, hK1.2.2.2]) rfl ?_
  show WW g z 9 (n + 3) (k + 18) ad1 (Wz z ad1 σ1 σ o1) 1876 [(0, .ref b), (1, .ref (ad1 0 0)), (2, .ref (ad1 20 0)), (3, .ref (ad1 19 0)), (4, .ref (ad1 19 1)), (5, .int (nI i))] [.int (nI (cCl σ (xs (i + 1)) (xs (i + 2))))]
  refine r_istore (lv' := [(6, .int (nI (cCl σ (xs (i + 1)) (xs (i + 2))))), (0, .ref b), (1, .ref (ad1 0 0)), (2, .ref (ad1 20 0)), (3, .ref (ad1 19 0)), (4, .ref (ad1 19 1)), (5, .int (nI i))]) K dL_law_1876 (by decide) rfl ?_
  refine r_aload_n K dL_law_1878 3 rfl rfl ?_
  refine r_aload_n K dL_law_1879 1 rfl rfl ?_
  refine r_iload K dL_law_1880 6 rfl ?_
  refine r_iconst (v := nI 1) K dL_law_1882 (by decide) ?_
  refine r_iadd (v := nI (i + 1)) K dL_law_1883 (nI_add _ _) ?_
  refine r_sld (j := i + 1) K X rfl (by omega) (by omega) dL_law_1884 ?_
  refine r_aload_n K dL_law_1885 1 rfl rfl ?_
  refine r_iload K dL_law_1886 6 rfl ?_
  refine r_iconst (v := nI 2) K dL_law_1888 (by decide) ?_
  refine r_iadd (v := nI (i + 2)) K dL_law_1889 (nI_add _ _) ?_
  refine r_sld (j := i + 2) K X rfl (by omega) (by omega) dL_law_1890 ?_
  refine r_callV (st := []) K (k_X6_claim (σ := σ1) (τ := σ) (o := o1) hl Q M) cw_L_245 wd_1632 wd_1633 (by decide) (by decide) rfl rfl rfl rfl (Nat.le_of_ble_eq_true rfl) (by omega) (by omega) dL_law_1891 ?_
  rintro _ _ _ ⟨x1, rfl, hx1, rfl, τ2, rfl, hA2, hM2, h72⟩
  show WW g z 9 (n + 3) (k + 18) ad1 (Wz z ad1 σ1 τ2 o1) 1894 [(6, .int (nI (cCl σ (xs (i + 1)) (xs (i + 2))))), (0, .ref b), (1, .ref (ad1 0 0)), (2, .ref (ad1 20 0)), (3, .ref (ad1 19 0)), (4, .ref (ad1 19 1)), (5, .int (nI i))] [.int (x1)]
  refine r_istore (lv' := [(7, .int (x1)), (6, .int (nI (cCl σ (xs (i + 1)) (xs (i + 2))))), (0, .ref b), (1, .ref (ad1 0 0)), (2, .ref (ad1 20 0)), (3, .ref (ad1 19 0)), (4, .ref (ad1 19 1)), (5, .int (nI i))]) K dL_law_1894 (by decide) rfl ?_
  refine r_aload_n K dL_law_1896 4 rfl rfl ?_
  refine r_callV (st := []) K (k_X6_thrown (σ := σ1) (τ := τ2) (o := o1) hl) cw_L_134 wd_1422 wd_1423 (by decide) (by decide) rfl rfl rfl rfl (Nat.le_of_ble_eq_true rfl) (by omega) (by omega) dL_law_1897 ?_
  rintro _ _ _ ⟨rfl, rfl, rfl⟩
  refine r_eq (st' := [.int (nI (cCl σ (xs (i + 1)) (xs (i + 2))))]) rfl rfl rfl (by rw [h72]; rfl) ?_
  show WW g z 9 (n + 3) (k + 18) ad1 (Wz z ad1 σ1 τ2 o1) 1900 [(7, .int (x1)), (6, .int (nI (cCl σ (xs (i + 1)) (xs (i + 2))))), (0, .ref b), (1, .ref (ad1 0 0)), (2, .ref (ad1 20 0)), (3, .ref (ad1 19 0)), (4, .ref (ad1 19 1)), (5, .int (nI i))] [.int (nI (cCl σ (xs (i + 1)) (xs (i + 2))))]
  refine r_iload K dL_law_1900 1 rfl ?_
  refine r_icmp_eq K dL_law_1902 1907 True (iff_of_true rfl trivial) (by decide) (fun _ => ?_) (fun c => absurd trivial c)
  refine r_iload K dL_law_1907 1 rfl ?_
  have hcd : (cCl σ (xs (i + 1)) (xs (i + 2))) < 2 ^ 31 := by unfold cCl; (repeat' split) <;> decide
  refine r_if_ne K dL_law_1909 1924 ((cCl σ (xs (i + 1)) (xs (i + 2))) = 0) (n0_eq hcd) (by decide) (fun c_1909 => ?_) (fun c_1909 => ?_)
  · skip
    refine r_goto K dL_law_1924 2423 (by decide) ?_
    have hG : IR (if (cCl σ (xs (i + 1)) (xs (i + 2))) = 0 then fPay σ (jN (xs (i + 1))) (jN (xs (i + 2))) else σ) := by by_cases h0 : (cCl σ (xs (i + 1)) (xs (i + 2))) = 0; (rw [if_pos h0]; exact ir_claim Q h0); (rw [if_neg h0]; exact Q)
    obtain ⟨ρ, hW, hQ3, hC3, hM3⟩ := mg_all (z := z) (ad := ad1) (o := o1) hG hA1 hA2 hC1 hM2
    refine r_mu hW ?_
    refine r_lv (lv' := [(0, .ref b), (1, .ref (ad1 0 0)), (2, .ref (ad1 20 0)), (3, .ref (ad1 19 0)), (4, .ref (ad1 19 1)), (5, .int (nI i))]) [2, 3, 4, 5, 6, 7] rfl ?_
    exact r_wide (by omega) (by omega) (kk ad1 ρ o1 hQ3 hC3 hM3)
  · skip
    refine r_aload_n K dL_law_1912 5 rfl rfl ?_
    refine r_iconst (v := nI 0) K dL_law_1913 (by decide) ?_
    refine r_lald (j := 0) (v := o1.1) K rfl rfl rfl (by decide) (by decide) rfl dL_law_1914 ?_
    refine r_iload K dL_law_1915 0 rfl ?_
    refine r_i2l (v := ((x1).toInt64)) K dL_law_1917 rfl ?_
    refine r_lcmpE K (by rw [hv1 c_1909, hx1 c_1909]) dL_law_1918 ?_
    refine r_if_eq K dL_law_1919 1924 (0 = 0) (n0_eq (by omega)) (by decide) (fun c_1919 => ?_) (fun c_1919 => ?_)
    · skip
      refine r_goto K dL_law_1924 2423 (by decide) ?_
      have hG : IR (if (cCl σ (xs (i + 1)) (xs (i + 2))) = 0 then fPay σ (jN (xs (i + 1))) (jN (xs (i + 2))) else σ) := by by_cases h0 : (cCl σ (xs (i + 1)) (xs (i + 2))) = 0; (rw [if_pos h0]; exact ir_claim Q h0); (rw [if_neg h0]; exact Q)
      obtain ⟨ρ, hW, hQ3, hC3, hM3⟩ := mg_all (z := z) (ad := ad1) (o := o1) hG hA1 hA2 hC1 hM2
      refine r_mu hW ?_
      refine r_lv (lv' := [(0, .ref b), (1, .ref (ad1 0 0)), (2, .ref (ad1 20 0)), (3, .ref (ad1 19 0)), (4, .ref (ad1 19 1)), (5, .int (nI i))]) [2, 3, 4, 5, 6, 7] rfl ?_
      exact r_wide (by omega) (by omega) (kk ad1 ρ o1 hQ3 hC3 hM3)
    · skip
      exfalso; omega
set_option maxRecDepth 100000 in
set_option maxHeartbeats 4000000 in
/-- claimWorst -/
theorem case_32 {z : Zx} {g : Gx} {tb : List ExceptionTableEntry} {mc ms n k b L i : Nat} {xs : Nat → Int32} {ad0 ad : Nm} {μ0 : Ce} {ok : OkT} {ex : String → Prop} {σ : Sg} {o : Int64 × UInt64} (K : Kn g z cL_law 9 yL_law (some .boolean) tb 12 mc ms ad0 μ0 ok ex) (hl : (gl g).stackTraces = false) (X : Scr z g b L xs) (hL : L ≤ 4000) (hi : i + 6 ≤ L) (Q : IR σ) (C : ICo σ) (M : IMo σ) (hn : n + 20 ≤ mc) (hk : k + 400 ≤ ms) (kk : ∀ ad' ρ o', IR ρ → ICo ρ → IMo ρ → WW g z 9 (n + 20) (k + 400) ad' (Wz z ad' ρ ρ o') 2423 [(0, .ref b), (1, .ref (ad' 0 0)), (2, .ref (ad' 20 0)), (3, .ref (ad' 19 0)), (4, .ref (ad' 19 1)), (5, .int (nI i))] []) : WW g z 9 n k ad (Wz z ad σ σ o) 1927 [(0, .ref b), (1, .ref (ad 0 0)), (2, .ref (ad 20 0)), (3, .ref (ad 19 0)), (4, .ref (ad 19 1)), (5, .int (nI i))] [] := by
  show WW g z 9 n k ad (Wz z ad σ σ o) 1927 [(0, .ref b), (1, .ref (ad 0 0)), (2, .ref (ad 20 0)), (3, .ref (ad 19 0)), (4, .ref (ad 19 1)), (5, .int (nI i))] []
  refine r_aload_n K dL_law_1927 1 rfl rfl ?_
  refine r_aload_n K dL_law_1928 0 rfl rfl ?_
  refine r_iload K dL_law_1929 5 rfl ?_
  refine r_iconst (v := nI 1) K dL_law_1931 (by decide) ?_
  refine r_iadd (v := nI (i + 1)) K dL_law_1932 (nI_add _ _) ?_
  refine r_sld (j := i + 1) K X rfl (by omega) (by omega) dL_law_1933 ?_
  refine r_aload_n K dL_law_1934 3 rfl rfl ?_
  refine r_callSH (st := []) K (k_L_claimWorst (σ := σ) (τ := σ) (o := o) hl Q C) wd_929 wd_47 wd_931 wd_930 ⟨by decide, by decide, (by decide +kernel : (parseMethodDescriptor yL_claimWorst.desc).map (fun d => d.parameters.length) = some 3)⟩ (by decide) (by decide) rfl (Nat.le_of_ble_eq_true rfl) (by omega) (by omega) dL_law_1935 ?_
  rintro _ ad1 _ ⟨rfl, hK1, σ1, o1, rfl, hA1, hC1, hv1⟩
  refine r_eq (lv' := [(0, .ref b), (1, .ref (ad1 0 0)), (2, .ref (ad1 20 0)), (3, .ref (ad1 19 0)), (4, .ref (ad1 19 1)), (5, .int (nI i))]) rfl rfl (by rw [hK1.1, hK1.2.1, hK1.2.2.1, hK1.2.2.2]) rfl ?_
  show WW g z 9 (n + 2) (k + 12) ad1 (Wz z ad1 σ1 σ o1) 1938 [(0, .ref b), (1, .ref (ad1 0 0)), (2, .ref (ad1 20 0)), (3, .ref (ad1 19 0)), (4, .ref (ad1 19 1)), (5, .int (nI i))] [.int (nI (cCW σ (xs (i + 1))))]
  refine r_istore (lv' := [(6, .int (nI (cCW σ (xs (i + 1))))), (0, .ref b), (1, .ref (ad1 0 0)), (2, .ref (ad1 20 0)), (3, .ref (ad1 19 0)), (4, .ref (ad1 19 1)), (5, .int (nI i))]) K dL_law_1938 (by decide) rfl ?_
  refine r_aload_n K dL_law_1940 3 rfl rfl ?_
  refine r_aload_n K dL_law_1941 1 rfl rfl ?_
  refine r_iload K dL_law_1942 6 rfl ?_
  refine r_iconst (v := nI 1) K dL_law_1944 (by decide) ?_
  refine r_iadd (v := nI (i + 1)) K dL_law_1945 (nI_add _ _) ?_
  refine r_sld (j := i + 1) K X rfl (by omega) (by omega) dL_law_1946 ?_
  refine r_callV (st := []) K (k_X6_claimWorst (σ := σ1) (τ := σ) (o := o1) hl Q M) cw_L_248 wd_1640 wd_1641 (by decide) (by decide) rfl rfl rfl rfl (Nat.le_of_ble_eq_true rfl) (by omega) (by omega) dL_law_1947 ?_
  rintro _ _ _ ⟨x1, rfl, hx1, rfl, τ2, rfl, hA2, hM2, h72⟩
  show WW g z 9 (n + 2) (k + 12) ad1 (Wz z ad1 σ1 τ2 o1) 1950 [(6, .int (nI (cCW σ (xs (i + 1))))), (0, .ref b), (1, .ref (ad1 0 0)), (2, .ref (ad1 20 0)), (3, .ref (ad1 19 0)), (4, .ref (ad1 19 1)), (5, .int (nI i))] [.int (x1)]
  refine r_istore (lv' := [(7, .int (x1)), (6, .int (nI (cCW σ (xs (i + 1))))), (0, .ref b), (1, .ref (ad1 0 0)), (2, .ref (ad1 20 0)), (3, .ref (ad1 19 0)), (4, .ref (ad1 19 1)), (5, .int (nI i))]) K dL_law_1950 (by decide) rfl ?_
  refine r_aload_n K dL_law_1952 4 rfl rfl ?_
  refine r_callV (st := []) K (k_X6_thrown (σ := σ1) (τ := τ2) (o := o1) hl) cw_L_134 wd_1422 wd_1423 (by decide) (by decide) rfl rfl rfl rfl (Nat.le_of_ble_eq_true rfl) (by omega) (by omega) dL_law_1953 ?_
  rintro _ _ _ ⟨rfl, rfl, rfl⟩
  refine r_eq (st' := [.int (nI (cCW σ (xs (i + 1))))]) rfl rfl rfl (by rw [h72]; rfl) ?_
  show WW g z 9 (n + 2) (k + 12) ad1 (Wz z ad1 σ1 τ2 o1) 1956 [(7, .int (x1)), (6, .int (nI (cCW σ (xs (i + 1))))), (0, .ref b), (1, .ref (ad1 0 0)), (2, .ref (ad1 20 0)), (3, .ref (ad1 19 0)), (4, .ref (ad1 19 1)), (5, .int (nI i))] [.int (nI (cCW σ (xs (i + 1))))]
  refine r_iload K dL_law_1956 1 rfl ?_
  refine r_icmp_eq K dL_law_1958 1963 True (iff_of_true rfl trivial) (by decide) (fun _ => ?_) (fun c => absurd trivial c)
  refine r_iload K dL_law_1963 1 rfl ?_
  have hcd : (cCW σ (xs (i + 1))) < 2 ^ 31 := by unfold cCW; (repeat' split) <;> decide
  refine r_if_ne K dL_law_1965 1980 ((cCW σ (xs (i + 1))) = 0) (n0_eq hcd) (by decide) (fun c_1965 => ?_) (fun c_1965 => ?_)
  · skip
    refine r_goto K dL_law_1980 2423 (by decide) ?_
    have hG : IR (if (cCW σ (xs (i + 1))) = 0 then fPay σ (jN (xs (i + 1))) (wsh σ (jN (xs (i + 1))) (σ 12 0 0)) else σ) := by by_cases h0 : (cCW σ (xs (i + 1))) = 0; (rw [if_pos h0]; exact ir_worst Q h0); (rw [if_neg h0]; exact Q)
    obtain ⟨ρ, hW, hQ3, hC3, hM3⟩ := mg_all (z := z) (ad := ad1) (o := o1) hG hA1 hA2 hC1 hM2
    refine r_mu hW ?_
    refine r_lv (lv' := [(0, .ref b), (1, .ref (ad1 0 0)), (2, .ref (ad1 20 0)), (3, .ref (ad1 19 0)), (4, .ref (ad1 19 1)), (5, .int (nI i))]) [2, 3, 4, 5, 6, 7] rfl ?_
    exact r_wide (by omega) (by omega) (kk ad1 ρ o1 hQ3 hC3 hM3)
  · skip
    refine r_aload_n K dL_law_1968 5 rfl rfl ?_
    refine r_iconst (v := nI 0) K dL_law_1969 (by decide) ?_
    refine r_lald (j := 0) (v := o1.1) K rfl rfl rfl (by decide) (by decide) rfl dL_law_1970 ?_
    refine r_iload K dL_law_1971 0 rfl ?_
    refine r_i2l (v := ((x1).toInt64)) K dL_law_1973 rfl ?_
    refine r_lcmpE K (by rw [hv1 c_1965, hx1 c_1965]) dL_law_1974 ?_
    refine r_if_eq K dL_law_1975 1980 (0 = 0) (n0_eq (by omega)) (by decide) (fun c_1975 => ?_) (fun c_1975 => ?_)
    · skip
      refine r_goto K dL_law_1980 2423 (by decide) ?_
      have hG : IR (if (cCW σ (xs (i + 1))) = 0 then fPay σ (jN (xs (i + 1))) (wsh σ (jN (xs (i + 1))) (σ 12 0 0)) else σ) := by by_cases h0 : (cCW σ (xs (i + 1))) = 0; (rw [if_pos h0]; exact ir_worst Q h0); (rw [if_neg h0]; exact Q)
      obtain ⟨ρ, hW, hQ3, hC3, hM3⟩ := mg_all (z := z) (ad := ad1) (o := o1) hG hA1 hA2 hC1 hM2
      refine r_mu hW ?_
      refine r_lv (lv' := [(0, .ref b), (1, .ref (ad1 0 0)), (2, .ref (ad1 20 0)), (3, .ref (ad1 19 0)), (4, .ref (ad1 19 1)), (5, .int (nI i))]) [2, 3, 4, 5, 6, 7] rfl ?_
      exact r_wide (by omega) (by omega) (kk ad1 ρ o1 hQ3 hC3 hM3)
    · skip
      exfalso; omega
set_option maxRecDepth 100000 in
set_option maxHeartbeats 4000000 in
/-- claimCount -/
theorem case_33 {z : Zx} {g : Gx} {tb : List ExceptionTableEntry} {mc ms n k b L i : Nat} {xs : Nat → Int32} {ad0 ad : Nm} {μ0 : Ce} {ok : OkT} {ex : String → Prop} {σ : Sg} {o : Int64 × UInt64} (K : Kn g z cL_law 9 yL_law (some .boolean) tb 12 mc ms ad0 μ0 ok ex) (hl : (gl g).stackTraces = false) (X : Scr z g b L xs) (hL : L ≤ 4000) (hi : i + 6 ≤ L) (Q : IR σ) (C : ICo σ) (M : IMo σ) (hn : n + 20 ≤ mc) (hk : k + 400 ≤ ms) (kk : ∀ ad' ρ o', IR ρ → ICo ρ → IMo ρ → WW g z 9 (n + 20) (k + 400) ad' (Wz z ad' ρ ρ o') 2423 [(0, .ref b), (1, .ref (ad' 0 0)), (2, .ref (ad' 20 0)), (3, .ref (ad' 19 0)), (4, .ref (ad' 19 1)), (5, .int (nI i))] []) : WW g z 9 n k ad (Wz z ad σ σ o) 1983 [(0, .ref b), (1, .ref (ad 0 0)), (2, .ref (ad 20 0)), (3, .ref (ad 19 0)), (4, .ref (ad 19 1)), (5, .int (nI i))] [] := by
  show WW g z 9 n k ad (Wz z ad σ σ o) 1983 [(0, .ref b), (1, .ref (ad 0 0)), (2, .ref (ad 20 0)), (3, .ref (ad 19 0)), (4, .ref (ad 19 1)), (5, .int (nI i))] []
  refine r_aload_n K dL_law_1983 1 rfl rfl ?_
  refine r_aload_n K dL_law_1984 0 rfl rfl ?_
  refine r_iload K dL_law_1985 5 rfl ?_
  refine r_iconst (v := nI 1) K dL_law_1987 (by decide) ?_
  refine r_iadd (v := nI (i + 1)) K dL_law_1988 (nI_add _ _) ?_
  refine r_sld (j := i + 1) K X rfl (by omega) (by omega) dL_law_1989 ?_
  refine r_aload_n K dL_law_1990 3 rfl rfl ?_
  refine r_callSH (st := []) K (k_L_claimCount (σ := σ) (τ := σ) (o := o) hl Q C) wd_957 wd_47 wd_959 wd_958 ⟨by decide, by decide, (by decide +kernel : (parseMethodDescriptor yL_claimCount.desc).map (fun d => d.parameters.length) = some 3)⟩ (by decide) (by decide) rfl (Nat.le_of_ble_eq_true rfl) (by omega) (by omega) dL_law_1991 ?_
  rintro _ ad1 _ ⟨rfl, hK1, σ1, o1, rfl, hA1, hC1, hv1⟩
  rw [ite_sg] at hA1
  refine r_eq (lv' := [(0, .ref b), (1, .ref (ad1 0 0)), (2, .ref (ad1 20 0)), (3, .ref (ad1 19 0)), (4, .ref (ad1 19 1)), (5, .int (nI i))]) rfl rfl (by rw [hK1.1, hK1.2.1, hK1.2.2.1, hK1.2.2.2]) rfl ?_
  show WW g z 9 (n + 1) (k + 6) ad1 (Wz z ad1 σ1 σ o1) 1994 [(0, .ref b), (1, .ref (ad1 0 0)), (2, .ref (ad1 20 0)), (3, .ref (ad1 19 0)), (4, .ref (ad1 19 1)), (5, .int (nI i))] [.int (nI (cK σ (xs (i + 1))))]
  refine r_istore (lv' := [(6, .int (nI (cK σ (xs (i + 1))))), (0, .ref b), (1, .ref (ad1 0 0)), (2, .ref (ad1 20 0)), (3, .ref (ad1 19 0)), (4, .ref (ad1 19 1)), (5, .int (nI i))]) K dL_law_1994 (by decide) rfl ?_
  refine r_aload_n K dL_law_1996 3 rfl rfl ?_
  refine r_aload_n K dL_law_1997 1 rfl rfl ?_
  refine r_iload K dL_law_1998 6 rfl ?_
  refine r_iconst (v := nI 1) K dL_law_2000 (by decide) ?_
  refine r_iadd (v := nI (i + 1)) K dL_law_2001 (nI_add _ _) ?_
  refine r_sld (j := i + 1) K X rfl (by omega) (by omega) dL_law_2002 ?_
  refine r_callV (st := []) K (k_X6_claimCount (σ := σ1) (τ := σ) (o := o1) hl Q M) cw_L_251 wd_1644 wd_1645 (by decide) (by decide) rfl rfl rfl rfl (Nat.le_of_ble_eq_true rfl) (by omega) (by omega) dL_law_2003 ?_
  rintro _ _ _ ⟨x1, rfl, hx1, rfl, τ2, rfl, hA2, hM2, h72⟩
  show WW g z 9 (n + 1) (k + 6) ad1 (Wz z ad1 σ1 τ2 o1) 2006 [(6, .int (nI (cK σ (xs (i + 1))))), (0, .ref b), (1, .ref (ad1 0 0)), (2, .ref (ad1 20 0)), (3, .ref (ad1 19 0)), (4, .ref (ad1 19 1)), (5, .int (nI i))] [.int (x1)]
  refine r_istore (lv' := [(7, .int (x1)), (6, .int (nI (cK σ (xs (i + 1))))), (0, .ref b), (1, .ref (ad1 0 0)), (2, .ref (ad1 20 0)), (3, .ref (ad1 19 0)), (4, .ref (ad1 19 1)), (5, .int (nI i))]) K dL_law_2006 (by decide) rfl ?_
  refine r_aload_n K dL_law_2008 4 rfl rfl ?_
  refine r_callV (st := []) K (k_X6_thrown (σ := σ1) (τ := τ2) (o := o1) hl) cw_L_134 wd_1422 wd_1423 (by decide) (by decide) rfl rfl rfl rfl (Nat.le_of_ble_eq_true rfl) (by omega) (by omega) dL_law_2009 ?_
  rintro _ _ _ ⟨rfl, rfl, rfl⟩
  refine r_eq (st' := [.int (nI (cK σ (xs (i + 1))))]) rfl rfl rfl (by rw [h72]; rfl) ?_
  show WW g z 9 (n + 1) (k + 6) ad1 (Wz z ad1 σ1 τ2 o1) 2012 [(7, .int (x1)), (6, .int (nI (cK σ (xs (i + 1))))), (0, .ref b), (1, .ref (ad1 0 0)), (2, .ref (ad1 20 0)), (3, .ref (ad1 19 0)), (4, .ref (ad1 19 1)), (5, .int (nI i))] [.int (nI (cK σ (xs (i + 1))))]
  refine r_iload K dL_law_2012 1 rfl ?_
  refine r_icmp_eq K dL_law_2014 2019 True (iff_of_true rfl trivial) (by decide) (fun _ => ?_) (fun c => absurd trivial c)
  refine r_iload K dL_law_2019 1 rfl ?_
  have hcd : (cK σ (xs (i + 1))) < 2 ^ 31 := by unfold cK; (repeat' split) <;> decide
  refine r_if_ne K dL_law_2021 2036 ((cK σ (xs (i + 1))) = 0) (n0_eq hcd) (by decide) (fun c_2021 => ?_) (fun c_2021 => ?_)
  · skip
    refine r_goto K dL_law_2036 2423 (by decide) ?_
    have hG : IR σ := Q
    obtain ⟨ρ, hW, hQ3, hC3, hM3⟩ := mg_all (z := z) (ad := ad1) (o := o1) hG hA1 hA2 hC1 hM2
    refine r_mu hW ?_
    refine r_lv (lv' := [(0, .ref b), (1, .ref (ad1 0 0)), (2, .ref (ad1 20 0)), (3, .ref (ad1 19 0)), (4, .ref (ad1 19 1)), (5, .int (nI i))]) [2, 3, 4, 5, 6, 7] rfl ?_
    exact r_wide (by omega) (by omega) (kk ad1 ρ o1 hQ3 hC3 hM3)
  · skip
    refine r_aload_n K dL_law_2024 5 rfl rfl ?_
    refine r_iconst (v := nI 0) K dL_law_2025 (by decide) ?_
    refine r_lald (j := 0) (v := o1.1) K rfl rfl rfl (by decide) (by decide) rfl dL_law_2026 ?_
    refine r_iload K dL_law_2027 0 rfl ?_
    refine r_i2l (v := ((x1).toInt64)) K dL_law_2029 rfl ?_
    refine r_lcmpE K (by rw [hv1 c_2021, hx1 c_2021]) dL_law_2030 ?_
    refine r_if_eq K dL_law_2031 2036 (0 = 0) (n0_eq (by omega)) (by decide) (fun c_2031 => ?_) (fun c_2031 => ?_)
    · skip
      refine r_goto K dL_law_2036 2423 (by decide) ?_
      have hG : IR σ := Q
      obtain ⟨ρ, hW, hQ3, hC3, hM3⟩ := mg_all (z := z) (ad := ad1) (o := o1) hG hA1 hA2 hC1 hM2
      refine r_mu hW ?_
      refine r_lv (lv' := [(0, .ref b), (1, .ref (ad1 0 0)), (2, .ref (ad1 20 0)), (3, .ref (ad1 19 0)), (4, .ref (ad1 19 1)), (5, .int (nI i))]) [2, 3, 4, 5, 6, 7] rfl ?_
      exact r_wide (by omega) (by omega) (kk ad1 ρ o1 hQ3 hC3 hM3)
    · skip
      exfalso; omega
set_option maxRecDepth 100000 in
set_option maxHeartbeats 4000000 in
/-- paidTo -/
theorem case_34 {z : Zx} {g : Gx} {tb : List ExceptionTableEntry} {mc ms n k b L i : Nat} {xs : Nat → Int32} {ad0 ad : Nm} {μ0 : Ce} {ok : OkT} {ex : String → Prop} {σ : Sg} {o : Int64 × UInt64} (K : Kn g z cL_law 9 yL_law (some .boolean) tb 12 mc ms ad0 μ0 ok ex) (hl : (gl g).stackTraces = false) (X : Scr z g b L xs) (hL : L ≤ 4000) (hi : i + 6 ≤ L) (Q : IR σ) (C : ICo σ) (M : IMo σ) (hn : n + 20 ≤ mc) (hk : k + 400 ≤ ms) (kk : ∀ ad' ρ o', IR ρ → ICo ρ → IMo ρ → WW g z 9 (n + 20) (k + 400) ad' (Wz z ad' ρ ρ o') 2423 [(0, .ref b), (1, .ref (ad' 0 0)), (2, .ref (ad' 20 0)), (3, .ref (ad' 19 0)), (4, .ref (ad' 19 1)), (5, .int (nI i))] []) : WW g z 9 n k ad (Wz z ad σ σ o) 2039 [(0, .ref b), (1, .ref (ad 0 0)), (2, .ref (ad 20 0)), (3, .ref (ad 19 0)), (4, .ref (ad 19 1)), (5, .int (nI i))] [] := by
  show WW g z 9 n k ad (Wz z ad σ σ o) 2039 [(0, .ref b), (1, .ref (ad 0 0)), (2, .ref (ad 20 0)), (3, .ref (ad 19 0)), (4, .ref (ad 19 1)), (5, .int (nI i))] []
  refine r_aload_n K dL_law_2039 1 rfl rfl ?_
  refine r_aload_n K dL_law_2040 0 rfl rfl ?_
  refine r_iload K dL_law_2041 5 rfl ?_
  refine r_iconst (v := nI 1) K dL_law_2043 (by decide) ?_
  refine r_iadd (v := nI (i + 1)) K dL_law_2044 (nI_add _ _) ?_
  refine r_sld (j := i + 1) K X rfl (by omega) (by omega) dL_law_2045 ?_
  refine r_aload_n K dL_law_2046 3 rfl rfl ?_
  refine r_callSH (st := []) K (k_L_paidTo (σ := σ) (τ := σ) (o := o) hl Q C) wd_964 wd_47 wd_966 wd_965 ⟨by decide, by decide, (by decide +kernel : (parseMethodDescriptor yL_paidTo.desc).map (fun d => d.parameters.length) = some 3)⟩ (by decide) (by decide) rfl (Nat.le_of_ble_eq_true rfl) (by omega) (by omega) dL_law_2047 ?_
  rintro _ ad1 _ ⟨rfl, hK1, σ1, o1, rfl, hA1, hC1, hv1⟩
  rw [ite_sg] at hA1
  refine r_eq (lv' := [(0, .ref b), (1, .ref (ad1 0 0)), (2, .ref (ad1 20 0)), (3, .ref (ad1 19 0)), (4, .ref (ad1 19 1)), (5, .int (nI i))]) rfl rfl (by rw [hK1.1, hK1.2.1, hK1.2.2.1, hK1.2.2.2]) rfl ?_
  show WW g z 9 (n + 1) (k + 6) ad1 (Wz z ad1 σ1 σ o1) 2050 [(0, .ref b), (1, .ref (ad1 0 0)), (2, .ref (ad1 20 0)), (3, .ref (ad1 19 0)), (4, .ref (ad1 19 1)), (5, .int (nI i))] [.int (nI (cK σ (xs (i + 1))))]
  refine r_istore (lv' := [(6, .int (nI (cK σ (xs (i + 1))))), (0, .ref b), (1, .ref (ad1 0 0)), (2, .ref (ad1 20 0)), (3, .ref (ad1 19 0)), (4, .ref (ad1 19 1)), (5, .int (nI i))]) K dL_law_2050 (by decide) rfl ?_
  refine r_aload_n K dL_law_2052 3 rfl rfl ?_
  refine r_aload_n K dL_law_2053 1 rfl rfl ?_
  refine r_iload K dL_law_2054 6 rfl ?_
  refine r_iconst (v := nI 1) K dL_law_2056 (by decide) ?_
  refine r_iadd (v := nI (i + 1)) K dL_law_2057 (nI_add _ _) ?_
  refine r_sld (j := i + 1) K X rfl (by omega) (by omega) dL_law_2058 ?_
  refine r_callV (st := []) K (k_X6_paidTo (σ := σ1) (τ := σ) (o := o1) hl Q M) cw_L_254 wd_1648 wd_1649 (by decide) (by decide) rfl rfl rfl rfl (Nat.le_of_ble_eq_true rfl) (by omega) (by omega) dL_law_2059 ?_
  rintro _ _ _ ⟨x1, rfl, hx1, rfl, τ2, rfl, hA2, hM2, h72⟩
  show WW g z 9 (n + 1) (k + 6) ad1 (Wz z ad1 σ1 τ2 o1) 2062 [(6, .int (nI (cK σ (xs (i + 1))))), (0, .ref b), (1, .ref (ad1 0 0)), (2, .ref (ad1 20 0)), (3, .ref (ad1 19 0)), (4, .ref (ad1 19 1)), (5, .int (nI i))] [.int (x1)]
  refine r_istore (lv' := [(7, .int (x1)), (6, .int (nI (cK σ (xs (i + 1))))), (0, .ref b), (1, .ref (ad1 0 0)), (2, .ref (ad1 20 0)), (3, .ref (ad1 19 0)), (4, .ref (ad1 19 1)), (5, .int (nI i))]) K dL_law_2062 (by decide) rfl ?_
  refine r_aload_n K dL_law_2064 4 rfl rfl ?_
  refine r_callV (st := []) K (k_X6_thrown (σ := σ1) (τ := τ2) (o := o1) hl) cw_L_134 wd_1422 wd_1423 (by decide) (by decide) rfl rfl rfl rfl (Nat.le_of_ble_eq_true rfl) (by omega) (by omega) dL_law_2065 ?_
  rintro _ _ _ ⟨rfl, rfl, rfl⟩
  refine r_eq (st' := [.int (nI (cK σ (xs (i + 1))))]) rfl rfl rfl (by rw [h72]; rfl) ?_
  show WW g z 9 (n + 1) (k + 6) ad1 (Wz z ad1 σ1 τ2 o1) 2068 [(7, .int (x1)), (6, .int (nI (cK σ (xs (i + 1))))), (0, .ref b), (1, .ref (ad1 0 0)), (2, .ref (ad1 20 0)), (3, .ref (ad1 19 0)), (4, .ref (ad1 19 1)), (5, .int (nI i))] [.int (nI (cK σ (xs (i + 1))))]
  refine r_iload K dL_law_2068 1 rfl ?_
  refine r_icmp_eq K dL_law_2070 2075 True (iff_of_true rfl trivial) (by decide) (fun _ => ?_) (fun c => absurd trivial c)
  refine r_iload K dL_law_2075 1 rfl ?_
  have hcd : (cK σ (xs (i + 1))) < 2 ^ 31 := by unfold cK; (repeat' split) <;> decide
  refine r_if_ne K dL_law_2077 2092 ((cK σ (xs (i + 1))) = 0) (n0_eq hcd) (by decide) (fun c_2077 => ?_) (fun c_2077 => ?_)
  · skip
    refine r_goto K dL_law_2092 2423 (by decide) ?_
    have hG : IR σ := Q
    obtain ⟨ρ, hW, hQ3, hC3, hM3⟩ := mg_all (z := z) (ad := ad1) (o := o1) hG hA1 hA2 hC1 hM2
    refine r_mu hW ?_
    refine r_lv (lv' := [(0, .ref b), (1, .ref (ad1 0 0)), (2, .ref (ad1 20 0)), (3, .ref (ad1 19 0)), (4, .ref (ad1 19 1)), (5, .int (nI i))]) [2, 3, 4, 5, 6, 7] rfl ?_
    exact r_wide (by omega) (by omega) (kk ad1 ρ o1 hQ3 hC3 hM3)
  · skip
    refine r_aload_n K dL_law_2080 5 rfl rfl ?_
    refine r_iconst (v := nI 0) K dL_law_2081 (by decide) ?_
    refine r_lald (j := 0) (v := o1.1) K rfl rfl rfl (by decide) (by decide) rfl dL_law_2082 ?_
    refine r_iload K dL_law_2083 0 rfl ?_
    refine r_i2l (v := ((x1).toInt64)) K dL_law_2085 rfl ?_
    refine r_lcmpE K (by rw [hv1 c_2077, hx1 c_2077]) dL_law_2086 ?_
    refine r_if_eq K dL_law_2087 2092 (0 = 0) (n0_eq (by omega)) (by decide) (fun c_2087 => ?_) (fun c_2087 => ?_)
    · skip
      refine r_goto K dL_law_2092 2423 (by decide) ?_
      have hG : IR σ := Q
      obtain ⟨ρ, hW, hQ3, hC3, hM3⟩ := mg_all (z := z) (ad := ad1) (o := o1) hG hA1 hA2 hC1 hM2
      refine r_mu hW ?_
      refine r_lv (lv' := [(0, .ref b), (1, .ref (ad1 0 0)), (2, .ref (ad1 20 0)), (3, .ref (ad1 19 0)), (4, .ref (ad1 19 1)), (5, .int (nI i))]) [2, 3, 4, 5, 6, 7] rfl ?_
      exact r_wide (by omega) (by omega) (kk ad1 ρ o1 hQ3 hC3 hM3)
    · skip
      exfalso; omega
set_option maxRecDepth 100000 in
set_option maxHeartbeats 4000000 in
/-- paidTotal -/
theorem case_35 {z : Zx} {g : Gx} {tb : List ExceptionTableEntry} {mc ms n k b L i : Nat} {xs : Nat → Int32} {ad0 ad : Nm} {μ0 : Ce} {ok : OkT} {ex : String → Prop} {σ : Sg} {o : Int64 × UInt64} (K : Kn g z cL_law 9 yL_law (some .boolean) tb 12 mc ms ad0 μ0 ok ex) (hl : (gl g).stackTraces = false) (X : Scr z g b L xs) (hL : L ≤ 4000) (hi : i + 6 ≤ L) (Q : IR σ) (C : ICo σ) (M : IMo σ) (hn : n + 20 ≤ mc) (hk : k + 400 ≤ ms) (kk : ∀ ad' ρ o', IR ρ → ICo ρ → IMo ρ → WW g z 9 (n + 20) (k + 400) ad' (Wz z ad' ρ ρ o') 2423 [(0, .ref b), (1, .ref (ad' 0 0)), (2, .ref (ad' 20 0)), (3, .ref (ad' 19 0)), (4, .ref (ad' 19 1)), (5, .int (nI i))] []) : WW g z 9 n k ad (Wz z ad σ σ o) 2095 [(0, .ref b), (1, .ref (ad 0 0)), (2, .ref (ad 20 0)), (3, .ref (ad 19 0)), (4, .ref (ad 19 1)), (5, .int (nI i))] [] := by
  show WW g z 9 n k ad (Wz z ad σ σ o) 2095 [(0, .ref b), (1, .ref (ad 0 0)), (2, .ref (ad 20 0)), (3, .ref (ad 19 0)), (4, .ref (ad 19 1)), (5, .int (nI i))] []
  refine r_aload_n K dL_law_2095 1 rfl rfl ?_
  refine r_callV (st := []) K (k_X5_paidTotal (σ := σ) (τ := σ) (o := o) hl Q C) cw_L_255 wd_246 wd_247 (by decide) (by decide) rfl rfl rfl rfl (Nat.le_of_ble_eq_true rfl) (by omega) (by omega) dL_law_2096 ?_
  rintro _ ad1 _ ⟨-, rfl, hK1, σ1, rfl, hA1, hC1⟩
  refine r_eq (lv' := [(0, .ref b), (1, .ref (ad1 0 0)), (2, .ref (ad1 20 0)), (3, .ref (ad1 19 0)), (4, .ref (ad1 19 1)), (5, .int (nI i))]) rfl rfl (by rw [hK1.1, hK1.2.1, hK1.2.2.1, hK1.2.2.2]) rfl ?_
  show WW g z 9 n k ad1 (Wz z ad1 σ1 σ o) 2099 [(0, .ref b), (1, .ref (ad1 0 0)), (2, .ref (ad1 20 0)), (3, .ref (ad1 19 0)), (4, .ref (ad1 19 1)), (5, .int (nI i))] [.long (nJ (pdT σ))]
  refine r_aload_n K dL_law_2099 2 rfl rfl ?_
  refine r_callV (st := [.long (nJ (pdT σ))]) K (k_X6_paidTotal (σ := σ1) (τ := σ) (o := o) hl Q M) cw_L_259 wd_1652 wd_1653 (by decide) (by decide) rfl rfl rfl rfl (Nat.le_of_ble_eq_true rfl) (by omega) (by omega) dL_law_2100 ?_
  rintro _ _ _ ⟨x1, rfl, hx1, rfl, τ2, rfl, hA2, hM2, h72⟩
  show WW g z 9 n k ad1 (Wz z ad1 σ1 τ2 o) 2103 [(0, .ref b), (1, .ref (ad1 0 0)), (2, .ref (ad1 20 0)), (3, .ref (ad1 19 0)), (4, .ref (ad1 19 1)), (5, .int (nI i))] [.long x1, .long (nJ (pdT σ))]
  refine r_lcmpE K (hx1 rfl).symm dL_law_2103 ?_
  refine r_if_eq K dL_law_2104 2423 (0 = 0) (n0_eq (by omega)) (by decide) (fun c_2104 => ?_) (fun c_2104 => ?_)
  · skip
    have hG : IR σ := Q
    obtain ⟨ρ, hW, hQ3, hC3, hM3⟩ := mg_all (z := z) (ad := ad1) (o := o) hG hA1 hA2 hC1 hM2
    refine r_mu hW ?_
    refine r_lv (lv' := [(0, .ref b), (1, .ref (ad1 0 0)), (2, .ref (ad1 20 0)), (3, .ref (ad1 19 0)), (4, .ref (ad1 19 1)), (5, .int (nI i))]) [0, 1, 2, 3, 4, 5] rfl ?_
    exact r_wide (by omega) (by omega) (kk ad1 ρ o hQ3 hC3 hM3)
  · skip
    exfalso; omega
set_option maxRecDepth 100000 in
set_option maxHeartbeats 4000000 in
/-- meanPayment -/
theorem case_36 {z : Zx} {g : Gx} {tb : List ExceptionTableEntry} {mc ms n k b L i : Nat} {xs : Nat → Int32} {ad0 ad : Nm} {μ0 : Ce} {ok : OkT} {ex : String → Prop} {σ : Sg} {o : Int64 × UInt64} (K : Kn g z cL_law 9 yL_law (some .boolean) tb 12 mc ms ad0 μ0 ok ex) (hl : (gl g).stackTraces = false) (X : Scr z g b L xs) (hL : L ≤ 4000) (hi : i + 6 ≤ L) (Q : IR σ) (C : ICo σ) (M : IMo σ) (hn : n + 20 ≤ mc) (hk : k + 400 ≤ ms) (kk : ∀ ad' ρ o', IR ρ → ICo ρ → IMo ρ → WW g z 9 (n + 20) (k + 400) ad' (Wz z ad' ρ ρ o') 2423 [(0, .ref b), (1, .ref (ad' 0 0)), (2, .ref (ad' 20 0)), (3, .ref (ad' 19 0)), (4, .ref (ad' 19 1)), (5, .int (nI i))] []) : WW g z 9 n k ad (Wz z ad σ σ o) 2109 [(0, .ref b), (1, .ref (ad 0 0)), (2, .ref (ad 20 0)), (3, .ref (ad 19 0)), (4, .ref (ad 19 1)), (5, .int (nI i))] [] := by
  show WW g z 9 n k ad (Wz z ad σ σ o) 2109 [(0, .ref b), (1, .ref (ad 0 0)), (2, .ref (ad 20 0)), (3, .ref (ad 19 0)), (4, .ref (ad 19 1)), (5, .int (nI i))] []
  refine r_aload_n K dL_law_2109 1 rfl rfl ?_
  refine r_aload K dL_law_2110 4 rfl ?_
  refine r_callSH (st := []) K (k_L_meanPayment (σ := σ) (τ := σ) (o := o) hl Q C) wd_971 wd_47 wd_973 wd_972 ⟨by decide, by decide, (by decide +kernel : (parseMethodDescriptor yL_meanPayment.desc).map (fun d => d.parameters.length) = some 2)⟩ (by decide) (by decide) rfl (Nat.le_of_ble_eq_true rfl) (by omega) (by omega) dL_law_2112 ?_
  rintro _ ad1 _ ⟨rfl, hK1, σ1, o1, rfl, hA1, hC1, hv1⟩
  rw [ite_sg] at hA1
  refine r_eq (lv' := [(0, .ref b), (1, .ref (ad1 0 0)), (2, .ref (ad1 20 0)), (3, .ref (ad1 19 0)), (4, .ref (ad1 19 1)), (5, .int (nI i))]) rfl rfl (by rw [hK1.1, hK1.2.1, hK1.2.2.1, hK1.2.2.2]) rfl ?_
  show WW g z 9 (n + 1) (k + 6) ad1 (Wz z ad1 σ1 σ o1) 2115 [(0, .ref b), (1, .ref (ad1 0 0)), (2, .ref (ad1 20 0)), (3, .ref (ad1 19 0)), (4, .ref (ad1 19 1)), (5, .int (nI i))] [.int (nI (cM σ))]
  refine r_istore (lv' := [(6, .int (nI (cM σ))), (0, .ref b), (1, .ref (ad1 0 0)), (2, .ref (ad1 20 0)), (3, .ref (ad1 19 0)), (4, .ref (ad1 19 1)), (5, .int (nI i))]) K dL_law_2115 (by decide) rfl ?_
  refine r_aload_n K dL_law_2117 3 rfl rfl ?_
  refine r_callV (st := []) K (k_X6_meanPayment (σ := σ1) (τ := σ) (o := o1) hl Q M) cw_L_263 wd_1660 wd_1661 (by decide) (by decide) rfl rfl rfl rfl (Nat.le_of_ble_eq_true rfl) (by omega) (by omega) dL_law_2118 ?_
  rintro _ _ _ ⟨x1, rfl, hx1, rfl, τ2, rfl, hA2, hM2, h72⟩
  show WW g z 9 (n + 1) (k + 6) ad1 (Wz z ad1 σ1 τ2 o1) 2121 [(6, .int (nI (cM σ))), (0, .ref b), (1, .ref (ad1 0 0)), (2, .ref (ad1 20 0)), (3, .ref (ad1 19 0)), (4, .ref (ad1 19 1)), (5, .int (nI i))] [.double x1]
  refine r_dstore (lv' := [(7, .double x1), (6, .int (nI (cM σ))), (0, .ref b), (1, .ref (ad1 0 0)), (2, .ref (ad1 20 0)), (3, .ref (ad1 19 0)), (4, .ref (ad1 19 1)), (5, .int (nI i))]) K dL_law_2121 (by decide) rfl ?_
  refine r_aload_n K dL_law_2123 4 rfl rfl ?_
  refine r_callV (st := []) K (k_X6_thrown (σ := σ1) (τ := τ2) (o := o1) hl) cw_L_134 wd_1422 wd_1423 (by decide) (by decide) rfl rfl rfl rfl (Nat.le_of_ble_eq_true rfl) (by omega) (by omega) dL_law_2124 ?_
  rintro _ _ _ ⟨rfl, rfl, rfl⟩
  refine r_eq (st' := [.int (nI (cM σ))]) rfl rfl rfl (by rw [h72]; rfl) ?_
  show WW g z 9 (n + 1) (k + 6) ad1 (Wz z ad1 σ1 τ2 o1) 2127 [(7, .double x1), (6, .int (nI (cM σ))), (0, .ref b), (1, .ref (ad1 0 0)), (2, .ref (ad1 20 0)), (3, .ref (ad1 19 0)), (4, .ref (ad1 19 1)), (5, .int (nI i))] [.int (nI (cM σ))]
  refine r_iload K dL_law_2127 1 rfl ?_
  refine r_icmp_eq K dL_law_2129 2134 True (iff_of_true rfl trivial) (by decide) (fun _ => ?_) (fun c => absurd trivial c)
  refine r_iload K dL_law_2134 1 rfl ?_
  have hcd : (cM σ) < 2 ^ 31 := by unfold cM; (repeat' split) <;> decide
  refine r_if_ne K dL_law_2136 2171 ((cM σ) = 0) (n0_eq hcd) (by decide) (fun c_2136 => ?_) (fun c_2136 => ?_)
  · skip
    refine r_goto K dL_law_2171 2423 (by decide) ?_
    have hG : IR σ := Q
    obtain ⟨ρ, hW, hQ3, hC3, hM3⟩ := mg_all (z := z) (ad := ad1) (o := o1) hG hA1 hA2 hC1 hM2
    refine r_mu hW ?_
    refine r_lv (lv' := [(0, .ref b), (1, .ref (ad1 0 0)), (2, .ref (ad1 20 0)), (3, .ref (ad1 19 0)), (4, .ref (ad1 19 1)), (5, .int (nI i))]) [2, 3, 4, 5, 6, 7] rfl ?_
    exact r_wide (by omega) (by omega) (kk ad1 ρ o1 hQ3 hC3 hM3)
  · skip
    refine r_aload K dL_law_2139 6 rfl ?_
    refine r_iconst (v := nI 0) K dL_law_2141 (by decide) ?_
    refine r_dald (j := 0) (v := o1.2) K rfl rfl rfl (by decide) (by decide) rfl dL_law_2142 ?_
    refine r_dload K dL_law_2143 0 rfl ?_
    have h1c : 1 ≤ clT σ := by have h := c_2136; unfold cM at h; by_cases q : clT σ = 0; (simp [q] at h); omega
    refine r_dcmpE K (by rw [hv1 c_2136, hx1 c_2136]) (by rw [hx1 c_2136]; exact (mean_cmp h1c).resolve_right (fun q => q (clT_le Q.1))) dL_law_2145 ?_
    refine r_if_eq K dL_law_2146 2171 (0 = 0) (n0_eq (by omega)) (by decide) (fun c_2146 => ?_) (fun c_2146 => ?_)
    · skip
      refine r_goto K dL_law_2171 2423 (by decide) ?_
      have hG : IR σ := Q
      obtain ⟨ρ, hW, hQ3, hC3, hM3⟩ := mg_all (z := z) (ad := ad1) (o := o1) hG hA1 hA2 hC1 hM2
      refine r_mu hW ?_
      refine r_lv (lv' := [(0, .ref b), (1, .ref (ad1 0 0)), (2, .ref (ad1 20 0)), (3, .ref (ad1 19 0)), (4, .ref (ad1 19 1)), (5, .int (nI i))]) [2, 3, 4, 5, 6, 7] rfl ?_
      exact r_wide (by omega) (by omega) (kk ad1 ρ o1 hQ3 hC3 hM3)
    · skip
      exfalso; omega
set_option maxRecDepth 100000 in
set_option maxHeartbeats 4000000 in
/-- floodedWith -/
theorem case_37 {z : Zx} {g : Gx} {tb : List ExceptionTableEntry} {mc ms n k b L i : Nat} {xs : Nat → Int32} {ad0 ad : Nm} {μ0 : Ce} {ok : OkT} {ex : String → Prop} {σ : Sg} {o : Int64 × UInt64} (K : Kn g z cL_law 9 yL_law (some .boolean) tb 12 mc ms ad0 μ0 ok ex) (hl : (gl g).stackTraces = false) (X : Scr z g b L xs) (hL : L ≤ 4000) (hi : i + 6 ≤ L) (Q : IR σ) (C : ICo σ) (M : IMo σ) (hn : n + 20 ≤ mc) (hk : k + 400 ≤ ms) (kk : ∀ ad' ρ o', IR ρ → ICo ρ → IMo ρ → WW g z 9 (n + 20) (k + 400) ad' (Wz z ad' ρ ρ o') 2423 [(0, .ref b), (1, .ref (ad' 0 0)), (2, .ref (ad' 20 0)), (3, .ref (ad' 19 0)), (4, .ref (ad' 19 1)), (5, .int (nI i))] []) : WW g z 9 n k ad (Wz z ad σ σ o) 2174 [(0, .ref b), (1, .ref (ad 0 0)), (2, .ref (ad 20 0)), (3, .ref (ad 19 0)), (4, .ref (ad 19 1)), (5, .int (nI i))] [] := by
  show WW g z 9 n k ad (Wz z ad σ σ o) 2174 [(0, .ref b), (1, .ref (ad 0 0)), (2, .ref (ad 20 0)), (3, .ref (ad 19 0)), (4, .ref (ad 19 1)), (5, .int (nI i))] []
  refine r_aload_n K dL_law_2174 1 rfl rfl ?_
  refine r_callV (st := []) K (k_X5_floodedWith (σ := σ) (τ := σ) (o := o) hl Q C) cw_L_264 wd_265 wd_266 (by decide) (by decide) rfl rfl rfl rfl (Nat.le_of_ble_eq_true rfl) (by omega) (by omega) dL_law_2175 ?_
  rintro _ ad1 _ ⟨-, rfl, hK1, σ1, rfl, hA1, hC1⟩
  refine r_eq (lv' := [(0, .ref b), (1, .ref (ad1 0 0)), (2, .ref (ad1 20 0)), (3, .ref (ad1 19 0)), (4, .ref (ad1 19 1)), (5, .int (nI i))]) rfl rfl (by rw [hK1.1, hK1.2.1, hK1.2.2.1, hK1.2.2.2]) rfl ?_
  show WW g z 9 n k ad1 (Wz z ad1 σ1 σ o) 2178 [(0, .ref b), (1, .ref (ad1 0 0)), (2, .ref (ad1 20 0)), (3, .ref (ad1 19 0)), (4, .ref (ad1 19 1)), (5, .int (nI i))] [.int (nI (trW σ 0 0 (σ 12 0 0)))]
  refine r_aload_n K dL_law_2178 2 rfl rfl ?_
  refine r_callV (st := [.int (nI (trW σ 0 0 (σ 12 0 0)))]) K (k_X6_floodedWith (σ := σ1) (τ := σ) (o := o) hl Q M) cw_L_267 wd_1664 wd_1665 (by decide) (by decide) rfl rfl rfl rfl (Nat.le_of_ble_eq_true rfl) (by omega) (by omega) dL_law_2179 ?_
  rintro _ _ _ ⟨x1, rfl, hx1, rfl, τ2, rfl, hA2, hM2, h72⟩
  show WW g z 9 n k ad1 (Wz z ad1 σ1 τ2 o) 2182 [(0, .ref b), (1, .ref (ad1 0 0)), (2, .ref (ad1 20 0)), (3, .ref (ad1 19 0)), (4, .ref (ad1 19 1)), (5, .int (nI i))] [.int (x1), .int (nI (trW σ 0 0 (σ 12 0 0)))]
  refine r_icmp_eq K dL_law_2182 2423 True (iff_of_true (hx1 rfl).symm trivial) (by decide) (fun _ => ?_) (fun c => absurd trivial c)
  have hG : IR σ := Q
  obtain ⟨ρ, hW, hQ3, hC3, hM3⟩ := mg_all (z := z) (ad := ad1) (o := o) hG hA1 hA2 hC1 hM2
  refine r_mu hW ?_
  refine r_lv (lv' := [(0, .ref b), (1, .ref (ad1 0 0)), (2, .ref (ad1 20 0)), (3, .ref (ad1 19 0)), (4, .ref (ad1 19 1)), (5, .int (nI i))]) [0, 1, 2, 3, 4, 5] rfl ?_
  exact r_wide (by omega) (by omega) (kk ad1 ρ o hQ3 hC3 hM3)
set_option maxRecDepth 100000 in
set_option maxHeartbeats 4000000 in
/-- floodedWithOpening -/
theorem case_38 {z : Zx} {g : Gx} {tb : List ExceptionTableEntry} {mc ms n k b L i : Nat} {xs : Nat → Int32} {ad0 ad : Nm} {μ0 : Ce} {ok : OkT} {ex : String → Prop} {σ : Sg} {o : Int64 × UInt64} (K : Kn g z cL_law 9 yL_law (some .boolean) tb 12 mc ms ad0 μ0 ok ex) (hl : (gl g).stackTraces = false) (X : Scr z g b L xs) (hL : L ≤ 4000) (hi : i + 6 ≤ L) (Q : IR σ) (C : ICo σ) (M : IMo σ) (hn : n + 20 ≤ mc) (hk : k + 400 ≤ ms) (kk : ∀ ad' ρ o', IR ρ → ICo ρ → IMo ρ → WW g z 9 (n + 20) (k + 400) ad' (Wz z ad' ρ ρ o') 2423 [(0, .ref b), (1, .ref (ad' 0 0)), (2, .ref (ad' 20 0)), (3, .ref (ad' 19 0)), (4, .ref (ad' 19 1)), (5, .int (nI i))] []) : WW g z 9 n k ad (Wz z ad σ σ o) 2187 [(0, .ref b), (1, .ref (ad 0 0)), (2, .ref (ad 20 0)), (3, .ref (ad 19 0)), (4, .ref (ad 19 1)), (5, .int (nI i))] [] := by
  show WW g z 9 n k ad (Wz z ad σ σ o) 2187 [(0, .ref b), (1, .ref (ad 0 0)), (2, .ref (ad 20 0)), (3, .ref (ad 19 0)), (4, .ref (ad 19 1)), (5, .int (nI i))] []
  refine r_aload_n K dL_law_2187 1 rfl rfl ?_
  refine r_aload_n K dL_law_2188 0 rfl rfl ?_
  refine r_iload K dL_law_2189 5 rfl ?_
  refine r_iconst (v := nI 1) K dL_law_2191 (by decide) ?_
  refine r_iadd (v := nI (i + 1)) K dL_law_2192 (nI_add _ _) ?_
  refine r_sld (j := i + 1) K X rfl (by omega) (by omega) dL_law_2193 ?_
  refine r_aload_n K dL_law_2194 0 rfl rfl ?_
  refine r_iload K dL_law_2195 5 rfl ?_
  refine r_iconst (v := nI 2) K dL_law_2197 (by decide) ?_
  refine r_iadd (v := nI (i + 2)) K dL_law_2198 (nI_add _ _) ?_
  refine r_sld (j := i + 2) K X rfl (by omega) (by omega) dL_law_2199 ?_
  refine r_aload_n K dL_law_2200 3 rfl rfl ?_
  refine r_callSH (st := []) K (k_L_floodedWithOpening (σ := σ) (τ := σ) (o := o) hl Q C) wd_996 wd_47 wd_998 wd_997 ⟨by decide, by decide, (by decide +kernel : (parseMethodDescriptor yL_floodedWithOpening.desc).map (fun d => d.parameters.length) = some 4)⟩ (by decide) (by decide) rfl (Nat.le_of_ble_eq_true rfl) (by omega) (by omega) dL_law_2201 ?_
  rintro _ ad1 _ ⟨rfl, hK1, σ1, o1, rfl, hA1, hC1, hv1⟩
  rw [ite_sg] at hA1
  refine r_eq (lv' := [(0, .ref b), (1, .ref (ad1 0 0)), (2, .ref (ad1 20 0)), (3, .ref (ad1 19 0)), (4, .ref (ad1 19 1)), (5, .int (nI i))]) rfl rfl (by rw [hK1.1, hK1.2.1, hK1.2.2.1, hK1.2.2.2]) rfl ?_
  show WW g z 9 (n + 2) (k + 12) ad1 (Wz z ad1 σ1 σ o1) 2204 [(0, .ref b), (1, .ref (ad1 0 0)), (2, .ref (ad1 20 0)), (3, .ref (ad1 19 0)), (4, .ref (ad1 19 1)), (5, .int (nI i))] [.int (nI (cBx σ 10 (xs (i + 1)) (xs (i + 2))))]
  refine r_istore (lv' := [(6, .int (nI (cBx σ 10 (xs (i + 1)) (xs (i + 2))))), (0, .ref b), (1, .ref (ad1 0 0)), (2, .ref (ad1 20 0)), (3, .ref (ad1 19 0)), (4, .ref (ad1 19 1)), (5, .int (nI i))]) K dL_law_2204 (by decide) rfl ?_
  refine r_aload_n K dL_law_2206 3 rfl rfl ?_
  refine r_aload_n K dL_law_2207 1 rfl rfl ?_
  refine r_iload K dL_law_2208 6 rfl ?_
  refine r_iconst (v := nI 1) K dL_law_2210 (by decide) ?_
  refine r_iadd (v := nI (i + 1)) K dL_law_2211 (nI_add _ _) ?_
  refine r_sld (j := i + 1) K X rfl (by omega) (by omega) dL_law_2212 ?_
  refine r_aload_n K dL_law_2213 1 rfl rfl ?_
  refine r_iload K dL_law_2214 6 rfl ?_
  refine r_iconst (v := nI 2) K dL_law_2216 (by decide) ?_
  refine r_iadd (v := nI (i + 2)) K dL_law_2217 (nI_add _ _) ?_
  refine r_sld (j := i + 2) K X rfl (by omega) (by omega) dL_law_2218 ?_
  refine r_callV (st := []) K (k_X6_floodedWithOpening (σ := σ1) (τ := σ) (o := o1) hl Q M) cw_L_270 wd_1672 wd_1673 (by decide) (by decide) rfl rfl rfl rfl (Nat.le_of_ble_eq_true rfl) (by omega) (by omega) dL_law_2219 ?_
  rintro _ _ _ ⟨x1, rfl, hx1, rfl, τ2, rfl, hA2, hM2, h72⟩
  show WW g z 9 (n + 2) (k + 12) ad1 (Wz z ad1 σ1 τ2 o1) 2222 [(6, .int (nI (cBx σ 10 (xs (i + 1)) (xs (i + 2))))), (0, .ref b), (1, .ref (ad1 0 0)), (2, .ref (ad1 20 0)), (3, .ref (ad1 19 0)), (4, .ref (ad1 19 1)), (5, .int (nI i))] [.int (x1)]
  refine r_istore (lv' := [(7, .int (x1)), (6, .int (nI (cBx σ 10 (xs (i + 1)) (xs (i + 2))))), (0, .ref b), (1, .ref (ad1 0 0)), (2, .ref (ad1 20 0)), (3, .ref (ad1 19 0)), (4, .ref (ad1 19 1)), (5, .int (nI i))]) K dL_law_2222 (by decide) rfl ?_
  refine r_aload_n K dL_law_2224 4 rfl rfl ?_
  refine r_callV (st := []) K (k_X6_thrown (σ := σ1) (τ := τ2) (o := o1) hl) cw_L_134 wd_1422 wd_1423 (by decide) (by decide) rfl rfl rfl rfl (Nat.le_of_ble_eq_true rfl) (by omega) (by omega) dL_law_2225 ?_
  rintro _ _ _ ⟨rfl, rfl, rfl⟩
  refine r_eq (st' := [.int (nI (cBx σ 10 (xs (i + 1)) (xs (i + 2))))]) rfl rfl rfl (by rw [h72]; rfl) ?_
  show WW g z 9 (n + 2) (k + 12) ad1 (Wz z ad1 σ1 τ2 o1) 2228 [(7, .int (x1)), (6, .int (nI (cBx σ 10 (xs (i + 1)) (xs (i + 2))))), (0, .ref b), (1, .ref (ad1 0 0)), (2, .ref (ad1 20 0)), (3, .ref (ad1 19 0)), (4, .ref (ad1 19 1)), (5, .int (nI i))] [.int (nI (cBx σ 10 (xs (i + 1)) (xs (i + 2))))]
  refine r_iload K dL_law_2228 1 rfl ?_
  refine r_icmp_eq K dL_law_2230 2235 True (iff_of_true rfl trivial) (by decide) (fun _ => ?_) (fun c => absurd trivial c)
  refine r_iload K dL_law_2235 1 rfl ?_
  have hcd : (cBx σ 10 (xs (i + 1)) (xs (i + 2))) < 2 ^ 31 := by unfold cBx; (repeat' split) <;> decide
  refine r_if_ne K dL_law_2237 2252 ((cBx σ 10 (xs (i + 1)) (xs (i + 2))) = 0) (n0_eq hcd) (by decide) (fun c_2237 => ?_) (fun c_2237 => ?_)
  · skip
    refine r_goto K dL_law_2252 2423 (by decide) ?_
    have hG : IR σ := Q
    obtain ⟨ρ, hW, hQ3, hC3, hM3⟩ := mg_all (z := z) (ad := ad1) (o := o1) hG hA1 hA2 hC1 hM2
    refine r_mu hW ?_
    refine r_lv (lv' := [(0, .ref b), (1, .ref (ad1 0 0)), (2, .ref (ad1 20 0)), (3, .ref (ad1 19 0)), (4, .ref (ad1 19 1)), (5, .int (nI i))]) [2, 3, 4, 5, 6, 7] rfl ?_
    exact r_wide (by omega) (by omega) (kk ad1 ρ o1 hQ3 hC3 hM3)
  · skip
    refine r_aload_n K dL_law_2240 5 rfl rfl ?_
    refine r_iconst (v := nI 0) K dL_law_2241 (by decide) ?_
    refine r_lald (j := 0) (v := o1.1) K rfl rfl rfl (by decide) (by decide) rfl dL_law_2242 ?_
    refine r_iload K dL_law_2243 0 rfl ?_
    refine r_i2l (v := ((x1).toInt64)) K dL_law_2245 rfl ?_
    refine r_lcmpE K (by rw [hv1 c_2237, hx1 c_2237]) dL_law_2246 ?_
    refine r_if_eq K dL_law_2247 2252 (0 = 0) (n0_eq (by omega)) (by decide) (fun c_2247 => ?_) (fun c_2247 => ?_)
    · skip
      refine r_goto K dL_law_2252 2423 (by decide) ?_
      have hG : IR σ := Q
      obtain ⟨ρ, hW, hQ3, hC3, hM3⟩ := mg_all (z := z) (ad := ad1) (o := o1) hG hA1 hA2 hC1 hM2
      refine r_mu hW ?_
      refine r_lv (lv' := [(0, .ref b), (1, .ref (ad1 0 0)), (2, .ref (ad1 20 0)), (3, .ref (ad1 19 0)), (4, .ref (ad1 19 1)), (5, .int (nI i))]) [2, 3, 4, 5, 6, 7] rfl ?_
      exact r_wide (by omega) (by omega) (kk ad1 ρ o1 hQ3 hC3 hM3)
    · skip
      exfalso; omega
set_option maxRecDepth 100000 in
set_option maxHeartbeats 4000000 in
/-- bestOpening -/
theorem case_39 {z : Zx} {g : Gx} {tb : List ExceptionTableEntry} {mc ms n k b L i : Nat} {xs : Nat → Int32} {ad0 ad : Nm} {μ0 : Ce} {ok : OkT} {ex : String → Prop} {σ : Sg} {o : Int64 × UInt64} (K : Kn g z cL_law 9 yL_law (some .boolean) tb 12 mc ms ad0 μ0 ok ex) (hl : (gl g).stackTraces = false) (X : Scr z g b L xs) (hL : L ≤ 4000) (hi : i + 6 ≤ L) (Q : IR σ) (C : ICo σ) (M : IMo σ) (hn : n + 20 ≤ mc) (hk : k + 400 ≤ ms) (kk : ∀ ad' ρ o', IR ρ → ICo ρ → IMo ρ → WW g z 9 (n + 20) (k + 400) ad' (Wz z ad' ρ ρ o') 2423 [(0, .ref b), (1, .ref (ad' 0 0)), (2, .ref (ad' 20 0)), (3, .ref (ad' 19 0)), (4, .ref (ad' 19 1)), (5, .int (nI i))] []) : WW g z 9 n k ad (Wz z ad σ σ o) 2255 [(0, .ref b), (1, .ref (ad 0 0)), (2, .ref (ad 20 0)), (3, .ref (ad 19 0)), (4, .ref (ad 19 1)), (5, .int (nI i))] [] := by
  show WW g z 9 n k ad (Wz z ad σ σ o) 2255 [(0, .ref b), (1, .ref (ad 0 0)), (2, .ref (ad 20 0)), (3, .ref (ad 19 0)), (4, .ref (ad 19 1)), (5, .int (nI i))] []
  refine r_aload_n K dL_law_2255 1 rfl rfl ?_
  refine r_aload_n K dL_law_2256 0 rfl rfl ?_
  refine r_iload K dL_law_2257 5 rfl ?_
  refine r_iconst (v := nI 1) K dL_law_2259 (by decide) ?_
  refine r_iadd (v := nI (i + 1)) K dL_law_2260 (nI_add _ _) ?_
  refine r_sld (j := i + 1) K X rfl (by omega) (by omega) dL_law_2261 ?_
  refine r_aload_n K dL_law_2262 3 rfl rfl ?_
  refine r_callSH (st := []) K (k_L_bestOpening (σ := σ) (τ := σ) (o := o) hl Q C) wd_1003 wd_47 wd_1005 wd_1004 ⟨by decide, by decide, (by decide +kernel : (parseMethodDescriptor yL_bestOpening.desc).map (fun d => d.parameters.length) = some 3)⟩ (by decide) (by decide) rfl (Nat.le_of_ble_eq_true rfl) (by omega) (by omega) dL_law_2263 ?_
  rintro _ ad1 _ ⟨rfl, hK1, σ1, o1, rfl, hA1, hC1, hv1⟩
  rw [ite_sg] at hA1
  refine r_eq (lv' := [(0, .ref b), (1, .ref (ad1 0 0)), (2, .ref (ad1 20 0)), (3, .ref (ad1 19 0)), (4, .ref (ad1 19 1)), (5, .int (nI i))]) rfl rfl (by rw [hK1.1, hK1.2.1, hK1.2.2.1, hK1.2.2.2]) rfl ?_
  show WW g z 9 (n + 1) (k + 6) ad1 (Wz z ad1 σ1 σ o1) 2266 [(0, .ref b), (1, .ref (ad1 0 0)), (2, .ref (ad1 20 0)), (3, .ref (ad1 19 0)), (4, .ref (ad1 19 1)), (5, .int (nI i))] [.int (nI (cB σ (xs (i + 1))))]
  refine r_istore (lv' := [(6, .int (nI (cB σ (xs (i + 1))))), (0, .ref b), (1, .ref (ad1 0 0)), (2, .ref (ad1 20 0)), (3, .ref (ad1 19 0)), (4, .ref (ad1 19 1)), (5, .int (nI i))]) K dL_law_2266 (by decide) rfl ?_
  refine r_aload_n K dL_law_2268 3 rfl rfl ?_
  refine r_aload_n K dL_law_2269 1 rfl rfl ?_
  refine r_iload K dL_law_2270 6 rfl ?_
  refine r_iconst (v := nI 1) K dL_law_2272 (by decide) ?_
  refine r_iadd (v := nI (i + 1)) K dL_law_2273 (nI_add _ _) ?_
  refine r_sld (j := i + 1) K X rfl (by omega) (by omega) dL_law_2274 ?_
  refine r_callV (st := []) K (k_X6_bestOpening (σ := σ1) (τ := σ) (o := o1) hl Q M) cw_L_273 wd_1676 wd_1677 (by decide) (by decide) rfl rfl rfl rfl (Nat.le_of_ble_eq_true rfl) (by omega) (by omega) dL_law_2275 ?_
  rintro _ _ _ ⟨x1, rfl, hx1, rfl, τ2, rfl, hA2, hM2, h72⟩
  show WW g z 9 (n + 1) (k + 6) ad1 (Wz z ad1 σ1 τ2 o1) 2278 [(6, .int (nI (cB σ (xs (i + 1))))), (0, .ref b), (1, .ref (ad1 0 0)), (2, .ref (ad1 20 0)), (3, .ref (ad1 19 0)), (4, .ref (ad1 19 1)), (5, .int (nI i))] [.int (x1)]
  refine r_istore (lv' := [(7, .int (x1)), (6, .int (nI (cB σ (xs (i + 1))))), (0, .ref b), (1, .ref (ad1 0 0)), (2, .ref (ad1 20 0)), (3, .ref (ad1 19 0)), (4, .ref (ad1 19 1)), (5, .int (nI i))]) K dL_law_2278 (by decide) rfl ?_
  refine r_aload_n K dL_law_2280 4 rfl rfl ?_
  refine r_callV (st := []) K (k_X6_thrown (σ := σ1) (τ := τ2) (o := o1) hl) cw_L_134 wd_1422 wd_1423 (by decide) (by decide) rfl rfl rfl rfl (Nat.le_of_ble_eq_true rfl) (by omega) (by omega) dL_law_2281 ?_
  rintro _ _ _ ⟨rfl, rfl, rfl⟩
  refine r_eq (st' := [.int (nI (cB σ (xs (i + 1))))]) rfl rfl rfl (by rw [h72]; rfl) ?_
  show WW g z 9 (n + 1) (k + 6) ad1 (Wz z ad1 σ1 τ2 o1) 2284 [(7, .int (x1)), (6, .int (nI (cB σ (xs (i + 1))))), (0, .ref b), (1, .ref (ad1 0 0)), (2, .ref (ad1 20 0)), (3, .ref (ad1 19 0)), (4, .ref (ad1 19 1)), (5, .int (nI i))] [.int (nI (cB σ (xs (i + 1))))]
  refine r_iload K dL_law_2284 1 rfl ?_
  refine r_icmp_eq K dL_law_2286 2291 True (iff_of_true rfl trivial) (by decide) (fun _ => ?_) (fun c => absurd trivial c)
  refine r_iload K dL_law_2291 1 rfl ?_
  have hcd : (cB σ (xs (i + 1))) < 2 ^ 31 := by unfold cB; (repeat' split) <;> decide
  refine r_if_ne K dL_law_2293 2308 ((cB σ (xs (i + 1))) = 0) (n0_eq hcd) (by decide) (fun c_2293 => ?_) (fun c_2293 => ?_)
  · skip
    refine r_goto K dL_law_2308 2423 (by decide) ?_
    have hG : IR σ := Q
    obtain ⟨ρ, hW, hQ3, hC3, hM3⟩ := mg_all (z := z) (ad := ad1) (o := o1) hG hA1 hA2 hC1 hM2
    refine r_mu hW ?_
    refine r_lv (lv' := [(0, .ref b), (1, .ref (ad1 0 0)), (2, .ref (ad1 20 0)), (3, .ref (ad1 19 0)), (4, .ref (ad1 19 1)), (5, .int (nI i))]) [2, 3, 4, 5, 6, 7] rfl ?_
    exact r_wide (by omega) (by omega) (kk ad1 ρ o1 hQ3 hC3 hM3)
  · skip
    refine r_aload_n K dL_law_2296 5 rfl rfl ?_
    refine r_iconst (v := nI 0) K dL_law_2297 (by decide) ?_
    refine r_lald (j := 0) (v := o1.1) K rfl rfl rfl (by decide) (by decide) rfl dL_law_2298 ?_
    refine r_iload K dL_law_2299 0 rfl ?_
    refine r_i2l (v := ((x1).toInt64)) K dL_law_2301 rfl ?_
    refine r_lcmpE K (by rw [hv1 c_2293, hx1 c_2293]) dL_law_2302 ?_
    refine r_if_eq K dL_law_2303 2308 (0 = 0) (n0_eq (by omega)) (by decide) (fun c_2303 => ?_) (fun c_2303 => ?_)
    · skip
      refine r_goto K dL_law_2308 2423 (by decide) ?_
      have hG : IR σ := Q
      obtain ⟨ρ, hW, hQ3, hC3, hM3⟩ := mg_all (z := z) (ad := ad1) (o := o1) hG hA1 hA2 hC1 hM2
      refine r_mu hW ?_
      refine r_lv (lv' := [(0, .ref b), (1, .ref (ad1 0 0)), (2, .ref (ad1 20 0)), (3, .ref (ad1 19 0)), (4, .ref (ad1 19 1)), (5, .int (nI i))]) [2, 3, 4, 5, 6, 7] rfl ?_
      exact r_wide (by omega) (by omega) (kk ad1 ρ o1 hQ3 hC3 hM3)
    · skip
      exfalso; omega
set_option maxRecDepth 100000 in
set_option maxHeartbeats 4000000 in
/-- writeRule -/
theorem case_40 {z : Zx} {g : Gx} {tb : List ExceptionTableEntry} {mc ms n k b L i : Nat} {xs : Nat → Int32} {ad0 ad : Nm} {μ0 : Ce} {ok : OkT} {ex : String → Prop} {σ : Sg} {o : Int64 × UInt64} (K : Kn g z cL_law 9 yL_law (some .boolean) tb 12 mc ms ad0 μ0 ok ex) (hl : (gl g).stackTraces = false) (X : Scr z g b L xs) (hL : L ≤ 4000) (hi : i + 6 ≤ L) (Q : IR σ) (C : ICo σ) (M : IMo σ) (hn : n + 20 ≤ mc) (hk : k + 400 ≤ ms) (kk : ∀ ad' ρ o', IR ρ → ICo ρ → IMo ρ → WW g z 9 (n + 20) (k + 400) ad' (Wz z ad' ρ ρ o') 2423 [(0, .ref b), (1, .ref (ad' 0 0)), (2, .ref (ad' 20 0)), (3, .ref (ad' 19 0)), (4, .ref (ad' 19 1)), (5, .int (nI i))] []) : WW g z 9 n k ad (Wz z ad σ σ o) 2311 [(0, .ref b), (1, .ref (ad 0 0)), (2, .ref (ad 20 0)), (3, .ref (ad 19 0)), (4, .ref (ad 19 1)), (5, .int (nI i))] [] := by
  show WW g z 9 n k ad (Wz z ad σ σ o) 2311 [(0, .ref b), (1, .ref (ad 0 0)), (2, .ref (ad 20 0)), (3, .ref (ad 19 0)), (4, .ref (ad 19 1)), (5, .int (nI i))] []
  refine r_aload_n K dL_law_2311 1 rfl rfl ?_
  refine r_aload_n K dL_law_2312 0 rfl rfl ?_
  refine r_iload K dL_law_2313 5 rfl ?_
  refine r_iconst (v := nI 1) K dL_law_2315 (by decide) ?_
  refine r_iadd (v := nI (i + 1)) K dL_law_2316 (nI_add _ _) ?_
  refine r_sld (j := i + 1) K X rfl (by omega) (by omega) dL_law_2317 ?_
  refine r_aload_n K dL_law_2318 3 rfl rfl ?_
  refine r_callSH (st := []) K (k_L_writeRule (σ := σ) (τ := σ) (o := o) hl Q C) wd_1010 wd_47 wd_1012 wd_1011 ⟨by decide, by decide, (by decide +kernel : (parseMethodDescriptor yL_writeRule.desc).map (fun d => d.parameters.length) = some 3)⟩ (by decide) (by decide) rfl (Nat.le_of_ble_eq_true rfl) (by omega) (by omega) dL_law_2319 ?_
  rintro _ ad1 _ ⟨rfl, hK1, σ1, o1, rfl, hA1, hC1, hv1⟩
  refine r_eq (lv' := [(0, .ref b), (1, .ref (ad1 0 0)), (2, .ref (ad1 20 0)), (3, .ref (ad1 19 0)), (4, .ref (ad1 19 1)), (5, .int (nI i))]) rfl rfl (by rw [hK1.1, hK1.2.1, hK1.2.2.1, hK1.2.2.2]) rfl ?_
  show WW g z 9 (n + 1) (k + 6) ad1 (Wz z ad1 σ1 σ o1) 2322 [(0, .ref b), (1, .ref (ad1 0 0)), (2, .ref (ad1 20 0)), (3, .ref (ad1 19 0)), (4, .ref (ad1 19 1)), (5, .int (nI i))] [.int (nI (cR σ (xs (i + 1))))]
  refine r_istore (lv' := [(6, .int (nI (cR σ (xs (i + 1))))), (0, .ref b), (1, .ref (ad1 0 0)), (2, .ref (ad1 20 0)), (3, .ref (ad1 19 0)), (4, .ref (ad1 19 1)), (5, .int (nI i))]) K dL_law_2322 (by decide) rfl ?_
  refine r_aload_n K dL_law_2324 3 rfl rfl ?_
  refine r_aload_n K dL_law_2325 1 rfl rfl ?_
  refine r_iload K dL_law_2326 6 rfl ?_
  refine r_iconst (v := nI 1) K dL_law_2328 (by decide) ?_
  refine r_iadd (v := nI (i + 1)) K dL_law_2329 (nI_add _ _) ?_
  refine r_sld (j := i + 1) K X rfl (by omega) (by omega) dL_law_2330 ?_
  refine r_callV (st := []) K (k_X6_writeRule (σ := σ1) (τ := σ) (o := o1) hl Q M) cw_L_276 wd_1680 wd_1681 (by decide) (by decide) rfl rfl rfl rfl (Nat.le_of_ble_eq_true rfl) (by omega) (by omega) dL_law_2331 ?_
  rintro _ _ _ ⟨x1, rfl, hx1, rfl, τ2, rfl, hA2, hM2, h72⟩
  show WW g z 9 (n + 1) (k + 6) ad1 (Wz z ad1 σ1 τ2 o1) 2334 [(6, .int (nI (cR σ (xs (i + 1))))), (0, .ref b), (1, .ref (ad1 0 0)), (2, .ref (ad1 20 0)), (3, .ref (ad1 19 0)), (4, .ref (ad1 19 1)), (5, .int (nI i))] [.int (x1)]
  refine r_istore (lv' := [(7, .int (x1)), (6, .int (nI (cR σ (xs (i + 1))))), (0, .ref b), (1, .ref (ad1 0 0)), (2, .ref (ad1 20 0)), (3, .ref (ad1 19 0)), (4, .ref (ad1 19 1)), (5, .int (nI i))]) K dL_law_2334 (by decide) rfl ?_
  refine r_aload_n K dL_law_2336 4 rfl rfl ?_
  refine r_callV (st := []) K (k_X6_thrown (σ := σ1) (τ := τ2) (o := o1) hl) cw_L_134 wd_1422 wd_1423 (by decide) (by decide) rfl rfl rfl rfl (Nat.le_of_ble_eq_true rfl) (by omega) (by omega) dL_law_2337 ?_
  rintro _ _ _ ⟨rfl, rfl, rfl⟩
  refine r_eq (st' := [.int (nI (cR σ (xs (i + 1))))]) rfl rfl rfl (by rw [h72]; rfl) ?_
  show WW g z 9 (n + 1) (k + 6) ad1 (Wz z ad1 σ1 τ2 o1) 2340 [(7, .int (x1)), (6, .int (nI (cR σ (xs (i + 1))))), (0, .ref b), (1, .ref (ad1 0 0)), (2, .ref (ad1 20 0)), (3, .ref (ad1 19 0)), (4, .ref (ad1 19 1)), (5, .int (nI i))] [.int (nI (cR σ (xs (i + 1))))]
  refine r_iload K dL_law_2340 1 rfl ?_
  refine r_icmp_eq K dL_law_2342 2347 True (iff_of_true rfl trivial) (by decide) (fun _ => ?_) (fun c => absurd trivial c)
  refine r_iload K dL_law_2347 1 rfl ?_
  have hcd : (cR σ (xs (i + 1))) < 2 ^ 31 := by unfold cR; (repeat' split) <;> decide
  refine r_if_ne K dL_law_2349 2364 ((cR σ (xs (i + 1))) = 0) (n0_eq hcd) (by decide) (fun c_2349 => ?_) (fun c_2349 => ?_)
  · skip
    refine r_goto K dL_law_2364 2423 (by decide) ?_
    have hG : IR (if (cR σ (xs (i + 1))) = 0 then wrl σ (σ 8 (jN (xs (i + 1))) 0) (σ 8 (jN (xs (i + 1))) 1) (σ 8 (jN (xs (i + 1))) 2) (σ 8 (jN (xs (i + 1))) 3) (σ 8 (jN (xs (i + 1))) 4) else σ) := by by_cases h0 : (cR σ (xs (i + 1))) = 0; (rw [if_pos h0]; exact ir_line Q h0); (rw [if_neg h0]; exact Q)
    obtain ⟨ρ, hW, hQ3, hC3, hM3⟩ := mg_all (z := z) (ad := ad1) (o := o1) hG hA1 hA2 hC1 hM2
    refine r_mu hW ?_
    refine r_lv (lv' := [(0, .ref b), (1, .ref (ad1 0 0)), (2, .ref (ad1 20 0)), (3, .ref (ad1 19 0)), (4, .ref (ad1 19 1)), (5, .int (nI i))]) [2, 3, 4, 5, 6, 7] rfl ?_
    exact r_wide (by omega) (by omega) (kk ad1 ρ o1 hQ3 hC3 hM3)
  · skip
    refine r_aload_n K dL_law_2352 5 rfl rfl ?_
    refine r_iconst (v := nI 0) K dL_law_2353 (by decide) ?_
    refine r_lald (j := 0) (v := o1.1) K rfl rfl rfl (by decide) (by decide) rfl dL_law_2354 ?_
    refine r_iload K dL_law_2355 0 rfl ?_
    refine r_i2l (v := ((x1).toInt64)) K dL_law_2357 rfl ?_
    refine r_lcmpE K (by rw [hv1 c_2349, hx1 c_2349]) dL_law_2358 ?_
    refine r_if_eq K dL_law_2359 2364 (0 = 0) (n0_eq (by omega)) (by decide) (fun c_2359 => ?_) (fun c_2359 => ?_)
    · skip
      refine r_goto K dL_law_2364 2423 (by decide) ?_
      have hG : IR (if (cR σ (xs (i + 1))) = 0 then wrl σ (σ 8 (jN (xs (i + 1))) 0) (σ 8 (jN (xs (i + 1))) 1) (σ 8 (jN (xs (i + 1))) 2) (σ 8 (jN (xs (i + 1))) 3) (σ 8 (jN (xs (i + 1))) 4) else σ) := by by_cases h0 : (cR σ (xs (i + 1))) = 0; (rw [if_pos h0]; exact ir_line Q h0); (rw [if_neg h0]; exact Q)
      obtain ⟨ρ, hW, hQ3, hC3, hM3⟩ := mg_all (z := z) (ad := ad1) (o := o1) hG hA1 hA2 hC1 hM2
      refine r_mu hW ?_
      refine r_lv (lv' := [(0, .ref b), (1, .ref (ad1 0 0)), (2, .ref (ad1 20 0)), (3, .ref (ad1 19 0)), (4, .ref (ad1 19 1)), (5, .int (nI i))]) [2, 3, 4, 5, 6, 7] rfl ?_
      exact r_wide (by omega) (by omega) (kk ad1 ρ o1 hQ3 hC3 hM3)
    · skip
      exfalso; omega
set_option maxRecDepth 100000 in
set_option maxHeartbeats 4000000 in
/-- lineAt -/
theorem case_41 {z : Zx} {g : Gx} {tb : List ExceptionTableEntry} {mc ms n k b L i : Nat} {xs : Nat → Int32} {ad0 ad : Nm} {μ0 : Ce} {ok : OkT} {ex : String → Prop} {σ : Sg} {o : Int64 × UInt64} (K : Kn g z cL_law 9 yL_law (some .boolean) tb 12 mc ms ad0 μ0 ok ex) (hl : (gl g).stackTraces = false) (X : Scr z g b L xs) (hL : L ≤ 4000) (hi : i + 6 ≤ L) (Q : IR σ) (C : ICo σ) (M : IMo σ) (hn : n + 20 ≤ mc) (hk : k + 400 ≤ ms) (kk : ∀ ad' ρ o', IR ρ → ICo ρ → IMo ρ → WW g z 9 (n + 20) (k + 400) ad' (Wz z ad' ρ ρ o') 2423 [(0, .ref b), (1, .ref (ad' 0 0)), (2, .ref (ad' 20 0)), (3, .ref (ad' 19 0)), (4, .ref (ad' 19 1)), (5, .int (nI i))] []) : WW g z 9 n k ad (Wz z ad σ σ o) 2367 [(0, .ref b), (1, .ref (ad 0 0)), (2, .ref (ad 20 0)), (3, .ref (ad 19 0)), (4, .ref (ad 19 1)), (5, .int (nI i))] [] := by
  show WW g z 9 n k ad (Wz z ad σ σ o) 2367 [(0, .ref b), (1, .ref (ad 0 0)), (2, .ref (ad 20 0)), (3, .ref (ad 19 0)), (4, .ref (ad 19 1)), (5, .int (nI i))] []
  refine r_aload_n K dL_law_2367 1 rfl rfl ?_
  refine r_aload_n K dL_law_2368 0 rfl rfl ?_
  refine r_iload K dL_law_2369 5 rfl ?_
  refine r_iconst (v := nI 1) K dL_law_2371 (by decide) ?_
  refine r_iadd (v := nI (i + 1)) K dL_law_2372 (nI_add _ _) ?_
  refine r_sld (j := i + 1) K X rfl (by omega) (by omega) dL_law_2373 ?_
  refine r_aload_n K dL_law_2374 3 rfl rfl ?_
  refine r_callSH (st := []) K (k_L_lineAt (σ := σ) (τ := σ) (o := o) hl Q C) wd_1281 wd_47 wd_1283 wd_1282 ⟨by decide, by decide, (by decide +kernel : (parseMethodDescriptor yL_lineAt.desc).map (fun d => d.parameters.length) = some 3)⟩ (by decide) (by decide) rfl (Nat.le_of_ble_eq_true rfl) (by omega) (by omega) dL_law_2375 ?_
  rintro _ ad1 _ ⟨rfl, hK1, σ1, o1, rfl, hA1, hC1, hv1⟩
  rw [ite_sg] at hA1
  refine r_eq (lv' := [(0, .ref b), (1, .ref (ad1 0 0)), (2, .ref (ad1 20 0)), (3, .ref (ad1 19 0)), (4, .ref (ad1 19 1)), (5, .int (nI i))]) rfl rfl (by rw [hK1.1, hK1.2.1, hK1.2.2.1, hK1.2.2.2]) rfl ?_
  show WW g z 9 (n + 1) (k + 6) ad1 (Wz z ad1 σ1 σ o1) 2378 [(0, .ref b), (1, .ref (ad1 0 0)), (2, .ref (ad1 20 0)), (3, .ref (ad1 19 0)), (4, .ref (ad1 19 1)), (5, .int (nI i))] [.int (nI (cL σ (xs (i + 1))))]
  refine r_istore (lv' := [(6, .int (nI (cL σ (xs (i + 1))))), (0, .ref b), (1, .ref (ad1 0 0)), (2, .ref (ad1 20 0)), (3, .ref (ad1 19 0)), (4, .ref (ad1 19 1)), (5, .int (nI i))]) K dL_law_2378 (by decide) rfl ?_
  refine r_aload_n K dL_law_2380 3 rfl rfl ?_
  refine r_aload_n K dL_law_2381 1 rfl rfl ?_
  refine r_iload K dL_law_2382 6 rfl ?_
  refine r_iconst (v := nI 1) K dL_law_2384 (by decide) ?_
  refine r_iadd (v := nI (i + 1)) K dL_law_2385 (nI_add _ _) ?_
  refine r_sld (j := i + 1) K X rfl (by omega) (by omega) dL_law_2386 ?_
  refine r_callV (st := []) K (k_X6_lineAt (σ := σ1) (τ := σ) (o := o1) hl Q M) cw_L_279 wd_1692 wd_1693 (by decide) (by decide) rfl rfl rfl rfl (Nat.le_of_ble_eq_true rfl) (by omega) (by omega) dL_law_2387 ?_
  rintro _ _ _ ⟨x1, rfl, hx1, rfl, τ2, rfl, hA2, hM2, h72⟩
  show WW g z 9 (n + 1) (k + 6) ad1 (Wz z ad1 σ1 τ2 o1) 2390 [(6, .int (nI (cL σ (xs (i + 1))))), (0, .ref b), (1, .ref (ad1 0 0)), (2, .ref (ad1 20 0)), (3, .ref (ad1 19 0)), (4, .ref (ad1 19 1)), (5, .int (nI i))] [.int (x1)]
  refine r_istore (lv' := [(7, .int (x1)), (6, .int (nI (cL σ (xs (i + 1))))), (0, .ref b), (1, .ref (ad1 0 0)), (2, .ref (ad1 20 0)), (3, .ref (ad1 19 0)), (4, .ref (ad1 19 1)), (5, .int (nI i))]) K dL_law_2390 (by decide) rfl ?_
  refine r_aload_n K dL_law_2392 4 rfl rfl ?_
  refine r_callV (st := []) K (k_X6_thrown (σ := σ1) (τ := τ2) (o := o1) hl) cw_L_134 wd_1422 wd_1423 (by decide) (by decide) rfl rfl rfl rfl (Nat.le_of_ble_eq_true rfl) (by omega) (by omega) dL_law_2393 ?_
  rintro _ _ _ ⟨rfl, rfl, rfl⟩
  refine r_eq (st' := [.int (nI (cL σ (xs (i + 1))))]) rfl rfl rfl (by rw [h72]; rfl) ?_
  show WW g z 9 (n + 1) (k + 6) ad1 (Wz z ad1 σ1 τ2 o1) 2396 [(7, .int (x1)), (6, .int (nI (cL σ (xs (i + 1))))), (0, .ref b), (1, .ref (ad1 0 0)), (2, .ref (ad1 20 0)), (3, .ref (ad1 19 0)), (4, .ref (ad1 19 1)), (5, .int (nI i))] [.int (nI (cL σ (xs (i + 1))))]
  refine r_iload K dL_law_2396 1 rfl ?_
  refine r_icmp_eq K dL_law_2398 2403 True (iff_of_true rfl trivial) (by decide) (fun _ => ?_) (fun c => absurd trivial c)
  refine r_iload K dL_law_2403 1 rfl ?_
  have hcd : (cL σ (xs (i + 1))) < 2 ^ 31 := by unfold cL; (repeat' split) <;> decide
  refine r_if_ne K dL_law_2405 2420 ((cL σ (xs (i + 1))) = 0) (n0_eq hcd) (by decide) (fun c_2405 => ?_) (fun c_2405 => ?_)
  · skip
    refine r_goto K dL_law_2420 2423 (by decide) ?_
    have hG : IR σ := Q
    obtain ⟨ρ, hW, hQ3, hC3, hM3⟩ := mg_all (z := z) (ad := ad1) (o := o1) hG hA1 hA2 hC1 hM2
    refine r_mu hW ?_
    refine r_lv (lv' := [(0, .ref b), (1, .ref (ad1 0 0)), (2, .ref (ad1 20 0)), (3, .ref (ad1 19 0)), (4, .ref (ad1 19 1)), (5, .int (nI i))]) [2, 3, 4, 5, 6, 7] rfl ?_
    exact r_wide (by omega) (by omega) (kk ad1 ρ o1 hQ3 hC3 hM3)
  · skip
    refine r_aload_n K dL_law_2408 5 rfl rfl ?_
    refine r_iconst (v := nI 0) K dL_law_2409 (by decide) ?_
    refine r_lald (j := 0) (v := o1.1) K rfl rfl rfl (by decide) (by decide) rfl dL_law_2410 ?_
    refine r_iload K dL_law_2411 0 rfl ?_
    refine r_i2l (v := ((x1).toInt64)) K dL_law_2413 rfl ?_
    refine r_lcmpE K (by rw [hv1 c_2405, hx1 c_2405]) dL_law_2414 ?_
    refine r_if_eq K dL_law_2415 2420 (0 = 0) (n0_eq (by omega)) (by decide) (fun c_2415 => ?_) (fun c_2415 => ?_)
    · skip
      refine r_goto K dL_law_2420 2423 (by decide) ?_
      have hG : IR σ := Q
      obtain ⟨ρ, hW, hQ3, hC3, hM3⟩ := mg_all (z := z) (ad := ad1) (o := o1) hG hA1 hA2 hC1 hM2
      refine r_mu hW ?_
      refine r_lv (lv' := [(0, .ref b), (1, .ref (ad1 0 0)), (2, .ref (ad1 20 0)), (3, .ref (ad1 19 0)), (4, .ref (ad1 19 1)), (5, .int (nI i))]) [2, 3, 4, 5, 6, 7] rfl ?_
      exact r_wide (by omega) (by omega) (kk ad1 ρ o1 hQ3 hC3 hM3)
    · skip
      exfalso; omega
