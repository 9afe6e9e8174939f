set_option maxRecDepth 100000 in
set_option maxHeartbeats 4000000 in
theorem law_loop {z : Zx} {g : Gx} {tb : List ExceptionTableEntry} {mc ms b L : Nat} {xs : Nat → Int32} {ad0 : Nm} {μ0 : Ce} {ok : OkT} {ex : String → Prop} (K : Kn g z cL_law 9 yL_law (some .boolean) tb 12 mc ms ad0 μ0 ok ex) (hl : (gl g).stackTraces = false) (X : Scr z g b L xs) (hL : L ≤ 3900) (hok : ∀ ad μ, ok (some (.int (nI 1))) ad μ) : ∀ (t0 i n k : Nat) (ad : Nm) (σ : Sg) (o : Int64 × UInt64), L < i + 6 * t0 + 6 → i ≤ L + 6 → n + 20 * t0 ≤ mc → k + 400 * t0 ≤ ms → IR σ → ICo σ → IMo σ → WW g z 9 n k ad (Wz z ad σ σ o) 28 [(0, .ref b), (1, .ref (ad 0 0)), (2, .ref (ad 20 0)), (3, .ref (ad 19 0)), (4, .ref (ad 19 1)), (5, .int (nI i))] [] := by
  intro t0
  induction t0 with
  | zero =>
    intro i n k ad σ o h1 h2 hn hk Q C M
    show WW g z 9 n k ad (Wz z ad σ σ o) 28 [(0, .ref b), (1, .ref (ad 0 0)), (2, .ref (ad 20 0)), (3, .ref (ad 19 0)), (4, .ref (ad 19 1)), (5, .int (nI i))] []
    refine r_iload K dL_law_28 5 rfl ?_
    refine r_aload_n K dL_law_30 0 rfl rfl ?_
    refine r_slen K X dL_law_31 ?_
    refine r_bipush (v := nI 6) K dL_law_32 (by decide) ?_
    refine r_isub (v := (nI L) - (nI 6)) K dL_law_34 rfl ?_
    refine r_icmp_gt K dL_law_35 2429 (L < i + 6) (head_le (by omega) (by omega)) (by decide) (fun c_35 => ?_) (fun c_35 => absurd (by omega) c_35)
    refine r_iconst (v := nI 1) K dL_law_2429 (by decide) ?_
    exact r_zret K (by decide) (by omega) (by omega) (hok _ _) dL_law_2430
  | succ t0 ih0 =>
    intro i n k ad σ o h1 h2 hn hk Q C M
    have ih := ih0
    show WW g z 9 n k ad (Wz z ad σ σ o) 28 [(0, .ref b), (1, .ref (ad 0 0)), (2, .ref (ad 20 0)), (3, .ref (ad 19 0)), (4, .ref (ad 19 1)), (5, .int (nI i))] []
    refine r_iload K dL_law_28 5 rfl ?_
    refine r_aload_n K dL_law_30 0 rfl rfl ?_
    refine r_slen K X dL_law_31 ?_
    refine r_bipush (v := nI 6) K dL_law_32 (by decide) ?_
    refine r_isub (v := (nI L) - (nI 6)) K dL_law_34 rfl ?_
    refine r_icmp_gt K dL_law_35 2429 (L < i + 6) (head_le (by omega) (by omega)) (by decide) (fun c_35 => ?_) (fun c_35 => ?_)
    · skip
      refine r_iconst (v := nI 1) K dL_law_2429 (by decide) ?_
      exact r_zret K (by decide) (by omega) (by omega) (hok _ _) dL_law_2430
    · skip
      refine r_aload_n K dL_law_38 0 rfl rfl ?_
      refine r_iload K dL_law_39 5 rfl ?_
      refine r_sld (j := i) K X rfl (by omega) (by omega) dL_law_41 ?_
      refine r_bipush (v := nI 63) K dL_law_42 (by decide) ?_
      obtain ⟨m, hm, hx⟩ := and63 (xs i)
      refine r_iand (v := nI m) K dL_law_44 hx ?_
      have kk : ∀ ad' ρ o', IR ρ → ICo ρ → IMo ρ → WW g z 9 (n + 20) (k + 400) ad' (Wz z ad' ρ ρ o') 2423 [(0, .ref b), (1, .ref (ad' 0 0)), (2, .ref (ad' 20 0)), (3, .ref (ad' 19 0)), (4, .ref (ad' 19 1)), (5, .int (nI i))] [] := by
        intro ad' ρ o' hQ' hC' hM'
        refine r_iinc (v := nI (i + 6)) (lv' := [(5, .int (nI (i + 6))), (0, .ref b), (1, .ref (ad' 0 0)), (2, .ref (ad' 20 0)), (3, .ref (ad' 19 0)), (4, .ref (ad' 19 1))]) K dL_law_2423 5 rfl (nI_add _ 6) (by decide) rfl ?_
        refine r_goto K dL_law_2426 28 (by decide) ?_
        refine r_lv (lv' := [(0, .ref b), (1, .ref (ad' 0 0)), (2, .ref (ad' 20 0)), (3, .ref (ad' 19 0)), (4, .ref (ad' 19 1)), (5, .int (nI (i + 6)))]) [1, 2, 3, 4, 5, 0] rfl ?_
        exact ih (i + 6) (n + 20) (k + 400) ad' ρ o' (by omega) (by omega) (by omega) (by omega) hQ' hC' hM'
      have hmi : (nI m).toInt = (m : Int) := nI_toInt (by omega)
      rcases Nat.lt_or_ge m 42 with h42 | h42
      · match m, h42, hmi with
        | 0, _, hmi => exact r_tableIn K 228 dL_law_45 (by rw [hmi]; decide) (by rw [hmi]; decide) (off := 183) (by rw [hmi]; rfl) (by decide) (case_0 K hl X (by omega) (by omega) Q C M (by omega) (by omega) kk)
        | 1, _, hmi => exact r_tableIn K 332 dL_law_45 (by rw [hmi]; decide) (by rw [hmi]; decide) (off := 287) (by rw [hmi]; rfl) (by decide) (case_1 K hl X (by omega) (by omega) Q C M (by omega) (by omega) kk)
        | 2, _, hmi => exact r_tableIn K 400 dL_law_45 (by rw [hmi]; decide) (by rw [hmi]; decide) (off := 355) (by rw [hmi]; rfl) (by decide) (case_2 K hl X (by omega) (by omega) Q C M (by omega) (by omega) kk)
        | 3, _, hmi => exact r_tableIn K 413 dL_law_45 (by rw [hmi]; decide) (by rw [hmi]; decide) (off := 368) (by rw [hmi]; rfl) (by decide) (case_3 K hl X (by omega) (by omega) Q C M (by omega) (by omega) kk)
        | 4, _, hmi => exact r_tableIn K 469 dL_law_45 (by rw [hmi]; decide) (by rw [hmi]; decide) (off := 424) (by rw [hmi]; rfl) (by decide) (case_4 K hl X (by omega) (by omega) Q C M (by omega) (by omega) kk)
        | 5, _, hmi => exact r_tableIn K 525 dL_law_45 (by rw [hmi]; decide) (by rw [hmi]; decide) (off := 480) (by rw [hmi]; rfl) (by decide) (case_5 K hl X (by omega) (by omega) Q C M (by omega) (by omega) kk)
        | 6, _, hmi => exact r_tableIn K 593 dL_law_45 (by rw [hmi]; decide) (by rw [hmi]; decide) (off := 548) (by rw [hmi]; rfl) (by decide) (case_6 K hl X (by omega) (by omega) Q C M (by omega) (by omega) kk)
        | 7, _, hmi => exact r_tableIn K 713 dL_law_45 (by rw [hmi]; decide) (by rw [hmi]; decide) (off := 668) (by rw [hmi]; rfl) (by decide) (case_7 K hl X (by omega) (by omega) Q C M (by omega) (by omega) kk)
        | 8, _, hmi => exact r_tableIn K 769 dL_law_45 (by rw [hmi]; decide) (by rw [hmi]; decide) (off := 724) (by rw [hmi]; rfl) (by decide) (case_8 K hl X (by omega) (by omega) Q C M (by omega) (by omega) kk)
        | 9, _, hmi => exact r_tableIn K 782 dL_law_45 (by rw [hmi]; decide) (by rw [hmi]; decide) (off := 737) (by rw [hmi]; rfl) (by decide) (case_9 K hl X (by omega) (by omega) Q C M (by omega) (by omega) kk)
        | 10, _, hmi => exact r_tableIn K 845 dL_law_45 (by rw [hmi]; decide) (by rw [hmi]; decide) (off := 800) (by rw [hmi]; rfl) (by decide) (case_10 K hl X (by omega) (by omega) Q C M (by omega) (by omega) kk)
        | 11, _, hmi => exact r_tableIn K 901 dL_law_45 (by rw [hmi]; decide) (by rw [hmi]; decide) (off := 856) (by rw [hmi]; rfl) (by decide) (case_11 K hl X (by omega) (by omega) Q C M (by omega) (by omega) kk)
        | 12, _, hmi => exact r_tableIn K 969 dL_law_45 (by rw [hmi]; decide) (by rw [hmi]; decide) (off := 924) (by rw [hmi]; rfl) (by decide) (case_12 K hl X (by omega) (by omega) Q C M (by omega) (by omega) kk)
        | 13, _, hmi => exact r_tableIn K 1025 dL_law_45 (by rw [hmi]; decide) (by rw [hmi]; decide) (off := 980) (by rw [hmi]; rfl) (by decide) (case_13 K hl X (by omega) (by omega) Q C M (by omega) (by omega) kk)
        | 14, _, hmi => exact r_tableIn K 1038 dL_law_45 (by rw [hmi]; decide) (by rw [hmi]; decide) (off := 993) (by rw [hmi]; rfl) (by decide) (case_14 K hl X (by omega) (by omega) Q C M (by omega) (by omega) kk)
        | 15, _, hmi => exact r_tableIn K 1094 dL_law_45 (by rw [hmi]; decide) (by rw [hmi]; decide) (off := 1049) (by rw [hmi]; rfl) (by decide) (case_15 K hl X (by omega) (by omega) Q C M (by omega) (by omega) kk)
        | 16, _, hmi => exact r_tableIn K 1150 dL_law_45 (by rw [hmi]; decide) (by rw [hmi]; decide) (off := 1105) (by rw [hmi]; rfl) (by decide) (case_16 K hl X (by omega) (by omega) Q C M (by omega) (by omega) kk)
        | 17, _, hmi => exact r_tableIn K 1206 dL_law_45 (by rw [hmi]; decide) (by rw [hmi]; decide) (off := 1161) (by rw [hmi]; rfl) (by decide) (case_17 K hl X (by omega) (by omega) Q C M (by omega) (by omega) kk)
        | 18, _, hmi => exact r_tableIn K 1219 dL_law_45 (by rw [hmi]; decide) (by rw [hmi]; decide) (off := 1174) (by rw [hmi]; rfl) (by decide) (case_18 K hl X (by omega) (by omega) Q C M (by omega) (by omega) kk)
        | 19, _, hmi => exact r_tableIn K 1232 dL_law_45 (by rw [hmi]; decide) (by rw [hmi]; decide) (off := 1187) (by rw [hmi]; rfl) (by decide) (case_19 K hl X (by omega) (by omega) Q C M (by omega) (by omega) kk)
        | 20, _, hmi => exact r_tableIn K 1245 dL_law_45 (by rw [hmi]; decide) (by rw [hmi]; decide) (off := 1200) (by rw [hmi]; rfl) (by decide) (case_20 K hl X (by omega) (by omega) Q C M (by omega) (by omega) kk)
        | 21, _, hmi => exact r_tableIn K 1258 dL_law_45 (by rw [hmi]; decide) (by rw [hmi]; decide) (off := 1213) (by rw [hmi]; rfl) (by decide) (case_21 K hl X (by omega) (by omega) Q C M (by omega) (by omega) kk)
        | 22, _, hmi => exact r_tableIn K 1326 dL_law_45 (by rw [hmi]; decide) (by rw [hmi]; decide) (off := 1281) (by rw [hmi]; rfl) (by decide) (case_22 K hl X (by omega) (by omega) Q C M (by omega) (by omega) kk)
        | 23, _, hmi => exact r_tableIn K 1394 dL_law_45 (by rw [hmi]; decide) (by rw [hmi]; decide) (off := 1349) (by rw [hmi]; rfl) (by decide) (case_23 K hl X (by omega) (by omega) Q C M (by omega) (by omega) kk)
        | 24, _, hmi => exact r_tableIn K 1474 dL_law_45 (by rw [hmi]; decide) (by rw [hmi]; decide) (off := 1429) (by rw [hmi]; rfl) (by decide) (case_24 K hl X (by omega) (by omega) Q C M (by omega) (by omega) kk)
        | 25, _, hmi => exact r_tableIn K 1530 dL_law_45 (by rw [hmi]; decide) (by rw [hmi]; decide) (off := 1485) (by rw [hmi]; rfl) (by decide) (case_25 K hl X (by omega) (by omega) Q C M (by omega) (by omega) kk)
        | 26, _, hmi => exact r_tableIn K 1598 dL_law_45 (by rw [hmi]; decide) (by rw [hmi]; decide) (off := 1553) (by rw [hmi]; rfl) (by decide) (case_26 K hl X (by omega) (by omega) Q C M (by omega) (by omega) kk)
        | 27, _, hmi => exact r_tableIn K 1611 dL_law_45 (by rw [hmi]; decide) (by rw [hmi]; decide) (off := 1566) (by rw [hmi]; rfl) (by decide) (case_27 K hl X (by omega) (by omega) Q C M (by omega) (by omega) kk)
        | 28, _, hmi => exact r_tableIn K 1703 dL_law_45 (by rw [hmi]; decide) (by rw [hmi]; decide) (off := 1658) (by rw [hmi]; rfl) (by decide) (case_28 K hl X (by omega) (by omega) Q C M (by omega) (by omega) kk)
        | 29, _, hmi => exact r_tableIn K 1716 dL_law_45 (by rw [hmi]; decide) (by rw [hmi]; decide) (off := 1671) (by rw [hmi]; rfl) (by decide) (case_29 K hl X (by omega) (by omega) Q C M (by omega) (by omega) kk)
        | 30, _, hmi => exact r_tableIn K 1791 dL_law_45 (by rw [hmi]; decide) (by rw [hmi]; decide) (off := 1746) (by rw [hmi]; rfl) (by decide) (case_30 K hl X (by omega) (by omega) Q C M (by omega) (by omega) kk)
        | 31, _, hmi => exact r_tableIn K 1859 dL_law_45 (by rw [hmi]; decide) (by rw [hmi]; decide) (off := 1814) (by rw [hmi]; rfl) (by decide) (case_31 K hl X (by omega) (by omega) Q C M (by omega) (by omega) kk)
        | 32, _, hmi => exact r_tableIn K 1927 dL_law_45 (by rw [hmi]; decide) (by rw [hmi]; decide) (off := 1882) (by rw [hmi]; rfl) (by decide) (case_32 K hl X (by omega) (by omega) Q C M (by omega) (by omega) kk)
        | 33, _, hmi => exact r_tableIn K 1983 dL_law_45 (by rw [hmi]; decide) (by rw [hmi]; decide) (off := 1938) (by rw [hmi]; rfl) (by decide) (case_33 K hl X (by omega) (by omega) Q C M (by omega) (by omega) kk)
        | 34, _, hmi => exact r_tableIn K 2039 dL_law_45 (by rw [hmi]; decide) (by rw [hmi]; decide) (off := 1994) (by rw [hmi]; rfl) (by decide) (case_34 K hl X (by omega) (by omega) Q C M (by omega) (by omega) kk)
        | 35, _, hmi => exact r_tableIn K 2095 dL_law_45 (by rw [hmi]; decide) (by rw [hmi]; decide) (off := 2050) (by rw [hmi]; rfl) (by decide) (case_35 K hl X (by omega) (by omega) Q C M (by omega) (by omega) kk)
        | 36, _, hmi => exact r_tableIn K 2109 dL_law_45 (by rw [hmi]; decide) (by rw [hmi]; decide) (off := 2064) (by rw [hmi]; rfl) (by decide) (case_36 K hl X (by omega) (by omega) Q C M (by omega) (by omega) kk)
        | 37, _, hmi => exact r_tableIn K 2174 dL_law_45 (by rw [hmi]; decide) (by rw [hmi]; decide) (off := 2129) (by rw [hmi]; rfl) (by decide) (case_37 K hl X (by omega) (by omega) Q C M (by omega) (by omega) kk)
        | 38, _, hmi => exact r_tableIn K 2187 dL_law_45 (by rw [hmi]; decide) (by rw [hmi]; decide) (off := 2142) (by rw [hmi]; rfl) (by decide) (case_38 K hl X (by omega) (by omega) Q C M (by omega) (by omega) kk)
        | 39, _, hmi => exact r_tableIn K 2255 dL_law_45 (by rw [hmi]; decide) (by rw [hmi]; decide) (off := 2210) (by rw [hmi]; rfl) (by decide) (case_39 K hl X (by omega) (by omega) Q C M (by omega) (by omega) kk)
        | 40, _, hmi => exact r_tableIn K 2311 dL_law_45 (by rw [hmi]; decide) (by rw [hmi]; decide) (off := 2266) (by rw [hmi]; rfl) (by decide) (case_40 K hl X (by omega) (by omega) Q C M (by omega) (by omega) kk)
        | 41, _, hmi => exact r_tableIn K 2367 dL_law_45 (by rw [hmi]; decide) (by rw [hmi]; decide) (off := 2322) (by rw [hmi]; rfl) (by decide) (case_41 K hl X (by omega) (by omega) Q C M (by omega) (by omega) kk)
        | n + 42, h, _ => exact absurd h (by omega)
      · refine r_tableOut K 2423 dL_law_45 (Or.inr (by rw [hmi]; omega)) (by decide) ?_
        exact r_wide (by omega) (by omega) (kk ad σ o Q C M)
theorem s0_IR : IR s0 := by
  refine ⟨⟨⟨Nat.zero_le _, Nat.zero_le _, Nat.zero_le _, Nat.zero_le _, Nat.zero_le _, fun j h => absurd h (Nat.not_lt_zero j)⟩, fun b h => absurd h (Nat.not_lt_zero b), fun b h => absurd h (Nat.not_lt_zero b), fun b h => absurd h (Nat.not_lt_zero b)⟩, ⟨fun b => ⟨Nat.zero_le _, Nat.zero_le _⟩, fun b _ => ⟨rfl, rfl⟩⟩, fun b _ => ⟨⟨rfl, rfl⟩, fun _ => ⟨rfl, rfl⟩, fun _ => rfl⟩, fun k _ => ⟨rfl, fun _ => rfl⟩⟩
theorem s0_ICo : ICo s0 := ⟨fun l _ => ⟨Nat.zero_le _, Nat.zero_le _⟩, fun b c h _ => absurd h (Nat.not_lt_zero b), fun b _ => ⟨rfl, rfl⟩, rfl, fun k h => absurd h (Nat.not_lt_zero k), Nat.zero_le _⟩
theorem s0_IMo : IMo s0 := ⟨rfl, ⟨rfl, Nat.zero_le _⟩, fun b _ => ⟨rfl, rfl⟩⟩
theorem law_all {z : Zx} {g : Gx} {tb : List ExceptionTableEntry} {mc ms b L : Nat} {xs : Nat → Int32} {ad0 ad : Nm} {μ0 : Ce} {ok : OkT} {ex : String → Prop} (K : Kn g z cL_law 9 yL_law (some .boolean) tb 12 mc ms ad0 μ0 ok ex) (hl : (gl g).stackTraces = false) (X : Scr z g b L xs) (hL : L ≤ 3072) (hok : ∀ ad μ, ok (some (.int (nI 1))) ad μ) (hmc : 20000 ≤ mc) (hms : 300000 ≤ ms) : WW g z 9 0 0 ad (fun _ _ => none) 0 [(0, .ref b)] [] :=
  law_init K hl (by omega) (by omega) (fun ad' => law_loop K hl X (by omega) hok 513 0 _ _ ad' s0 (0, 0) (by omega) (by omega) (by omega) (by omega) s0_IR s0_ICo s0_IMo)
