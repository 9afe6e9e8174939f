/-! THE MODEL'S CALLS: what they promise -/
/-- a call of the model: its code cd, its answer r if that is 0, the shared numbers become F -/
def okM {X : Type} (z : Zx) (ad : Nm) (σ : Sg) (o : Int64 × UInt64) (mk : X → Value) (cd : Nat) (r : X) (F : Sg) : OkT := fun v' ad' μ' => ∃ x : X, v' = some (mk x) ∧ (cd = 0 → x = r) ∧ ad = ad' ∧ ∃ τ', μ' = Wz z ad σ τ' o ∧ agr τ' F ∧ IMo τ' ∧ τ' 72 0 0 = cd
section ZOM
variable {X : Type} {z : Zx} {ad : Nm} {σ τ : Sg} {o : Int64 × UInt64} {mk : X → Value} {cd c : Nat} {x r : X} {F : Sg}
theorem IMo.s72 (h : IMo τ) : IMo (su τ 72 0 0 c) := h
theorem okM_r (M : IMo τ) (h : c = cd) (hv : x = r) : okM z ad σ o mk cd r τ (some (mk x)) ad (Wz z ad σ (su τ 72 0 0 c) o) := ⟨x, rfl, fun _ => hv, rfl, _, rfl, agr.rf.sx (by decide), M.s72, h⟩
theorem okM_f (M : IMo τ) (h : c + 1 = cd) : okM z ad σ o mk cd r τ (some (mk x)) ad (Wz z ad σ (su τ 72 0 0 (c + 1)) o) := ⟨x, rfl, fun q => by omega, rfl, _, rfl, agr.rf.sx (by decide), M.s72, h⟩
theorem okM_g (M : IMo τ) (h : c + 1 = cd) : okM z ad σ o mk cd r (if cd = 0 then F else τ) (some (mk x)) ad (Wz z ad σ (su τ 72 0 0 (c + 1)) o) := by
  rw [if_neg (by omega)]
  exact okM_f M h
theorem okM_w {τ' : Sg} (h : cd = 0) (hv : x = r) (hA : agr τ' F) (M : IMo τ') (h2 : τ' 72 0 0 = 0) : okM z ad σ o mk cd r (if cd = 0 then F else τ) (some (mk x)) ad (Wz z ad σ τ' o) := by
  rw [if_pos h]
  exact ⟨x, rfl, fun _ => hv, rfl, τ', rfl, hA, M, h2.trans h.symm⟩
theorem okM_t {τ' : Sg} (h : cd = 0) (hv : x = r) (hA : agr τ' τ) (M : IMo τ') (h2 : τ' 72 0 0 = 0) : okM z ad σ o mk cd r τ (some (mk x)) ad (Wz z ad σ τ' o) := ⟨x, rfl, fun _ => hv, rfl, τ', rfl, hA, M, h2.trans h.symm⟩
end ZOM
theorem hld_ge {σ : Sg} (hz : ∀ b, σ 0 0 0 ≤ b → σ 3 b 0 = 0 ∧ σ 4 b 0 = 0) : ∀ n, σ 0 0 0 ≤ n → hld σ 0 n = hld σ 0 (σ 0 0 0)
  | n, h => by
    induction n with
    | zero => rw [show σ 0 0 0 = 0 by omega]
    | succ n ih =>
      rcases Nat.lt_or_ge (σ 0 0 0) (n + 1) with g | g
      · have := hz n (by omega)
        rw [hld, ih (by omega), this.1, this.2]; rfl
      · rw [show σ 0 0 0 = n + 1 by omega]
theorem wn_t {hs : Nat → Nat} {n v c : Nat} (h : 0 < dpt hs n c v) : wn hs n v (c + 1) = wn hs n v c + 1 := by rw [wn, if_pos h]
/-- what the model alone has, after a trial -/
theorem IMo.tri {τ : Sg} (M : IMo τ) {fx fo : Nat} (hfo : fo ≤ 10) {V S O : Nat → Nat} (hz : ∀ b, τ 0 0 0 ≤ b → V b = 0 ∧ S b = 0) : IMo (su (msw (su (su τ 73 0 0 fx) 74 0 0 fo) 2 V S O) 73 0 0 0) := by
  obtain ⟨m1, m2, m3⟩ := M
  refine ⟨m1, ⟨rfl, hfo⟩, fun b hb => ?_⟩
  exact ⟨(su_n (by omega)).trans (msw_3.trans (hz b hb).1), (su_n (by omega)).trans (msw_4.trans (hz b hb).2)⟩
theorem agr.mtri {τ : Sg} {fx fo : Nat} {V S O : Nat → Nat} : agr (su (msw (su (su τ 73 0 0 fx) 74 0 0 fo) 2 V S O) 73 0 0 0) τ := by
  intro f i j hf hj
  rw [su_n (by omega)]
  unfold msw
  rw [if_neg (fun q => by have := hj (by omega); omega), if_neg (fun q => by have := hj (by omega); omega), if_neg (by omega), su_n (by omega), su_n (by omega)]
theorem hld_72 {τ : Sg} {w c : Nat} : ∀ n, hld (su τ 72 0 0 c) w n = hld τ w n
  | 0 => rfl
  | n + 1 => by rw [hld, hld, hld_72 n]; rfl
theorem trW_72 {τ : Sg} {c fx fo : Nat} (n : Nat) : trW (su τ 72 0 0 c) fx fo n = trW τ fx fo n := trW_cg (σ := τ) (σ' := su τ 72 0 0 c) rfl rfl rfl rfl rfl n
theorem whr_72 {τ : Sg} {c b k : Nat} : ∀ n, whr (su τ 72 0 0 c) b k n = whr τ b k n
  | 0 => rfl
  | n + 1 => by rw [whr, whr, whr_72 n]; rfl
theorem fld_72 {τ : Sg} {c : Nat} (n : Nat) : fld (su τ 72 0 0 c) n = fld τ n := fld_cg (σ := τ) (σ' := su τ 72 0 0 c) rfl (fun _ => rfl) rfl rfl n
theorem cKh_0 {σ : Sg} {x h : Int32} (q : cKh σ x h = 0) : in0 x (σ 0 2 0) ∧ inR h 1 (σ 12 0 0) := by
  unfold cKh at q
  by_cases c1 : in0 x (σ 0 2 0)
  · by_cases c2 : inR h 1 (σ 12 0 0)
    · exact ⟨c1, c2⟩
    · rw [if_pos c1, if_neg c2] at q; omega
  · rw [if_neg c1] at q; omega
theorem wor_pos {σ : Sg} (I : InvB σ) {k h : Nat} (hk : k < σ 0 2 0) (q : 0 < wor σ k h) : 0 < dpC σ (σ 9 k 0) (σ 9 k 1) (σ 7 (σ 9 k 0) h) := by
  rcases Nat.eq_zero_or_pos (dpC σ (σ 9 k 0) (σ 9 k 1) (σ 7 (σ 9 k 0) h)) with e | e
  · have : wor σ k h = σ 9 k 2 * dpC σ (σ 9 k 0) (σ 9 k 1) (σ 7 (σ 9 k 0) h) := rfl
    rw [this, e, Nat.mul_zero] at q
    exact absurd q (Nat.lt_irrefl 0)
  · exact e
theorem pos_wor {σ : Sg} (I : InvB σ) {k h : Nat} (hk : k < σ 0 2 0) (q : 0 < dpC σ (σ 9 k 0) (σ 9 k 1) (σ 7 (σ 9 k 0) h)) : 0 < wor σ k h := by
  obtain ⟨-, -, -, -, a5, -⟩ := I.house hk
  exact Nat.mul_pos (by omega) q
section ZR3
variable {g : Gx} {z : Zx} {cc : ByteArray} {nL : Nat} {y0 : MethodName} {ret : Option FieldType} {tb : List ExceptionTableEntry} {lev mc ms : Nat} {ad0 ad : Nm} {μ0 μ : Ce} {ok : OkT} {ex : String → Prop} {n k pc : Nat} {lv lv' : Lv} {st : List Value}
theorem r_dconst0 (K : Kn g z cc nL y0 ret tb lev mc ms ad0 μ0 ok ex) (hdg : decode cc pc = .ok (.dconst 0, 1)) (kk : WW g z nL n k ad μ (pc + 1) lv (.double FP.dconst0 :: st)) : WW g z nL n k ad μ pc lv st := fun H locs ls M S L => lv_dconst0 K.1.1 K.1.2.1 hdg (kk H locs ls M S L)
end ZR3
theorem su_su {σ : Sg} {f i j v v' : Nat} : su (su σ f i j v) f i j v' = su σ f i j v' := by
  funext a b c
  by_cases e : a = f ∧ b = i ∧ c = j
  · simp [su, e]
  · rw [su, su, if_neg e, su, if_neg e, if_neg e]
theorem cCl_h {σ : Sg} {x h : Int32} (q : ¬ (in0 x (σ 0 2 0) ∧ inR h 1 (σ 12 0 0))) : cKh σ x h = cCl σ x h ∧ cCl σ x h ≠ 0 := by
  unfold cKh cCl
  by_cases c1 : in0 x (σ 0 2 0)
  · by_cases c2 : inR h 1 (σ 12 0 0)
    · exact absurd ⟨c1, c2⟩ q
    · rw [if_pos c1, if_pos c1, if_neg c2, if_neg c2]; exact ⟨rfl, by decide⟩
  · rw [if_neg c1, if_neg c1]; exact ⟨rfl, by decide⟩
/-- the model pays -/
def mPay (τ : Sg) (k h : Nat) : Sg := su (su (su (su τ 72 0 0 0) 9 k 4 (τ 9 k 4 + pmt τ k h)) 10 k h 1) 71 0 0 (τ 71 0 0 + 1)
theorem agr.mpay {τ : Sg} {k h : Nat} : agr (mPay τ k h) (fPay τ k h) := by
  intro f i j hf hj
  unfold mPay fPay
  rw [su_n (by omega)]
  by_cases e : f = 10 ∧ i = k ∧ j = h
  · rw [e.1, e.2.1, e.2.2, su_s, su_n (by omega), su_s]
  · rw [su_n e]
    by_cases e2 : f = 9 ∧ i = k ∧ j = 4
    · rw [e2.1, e2.2.1, e2.2.2, su_s, su_s]
    · rw [su_n e2, su_n e2, su_n e, su_n (by omega)]
theorem IMo.pay {τ : Sg} (M : IMo τ) {k h : Nat} (hk : k < τ 0 2 0) (h1 : 1 ≤ h) (h2 : h ≤ 60) (hz : τ 10 k h = 0) : IMo (mPay τ k h) := by
  obtain ⟨m1, m2, m3⟩ := M
  refine ⟨?_, m2, m3⟩
  have e10 : ∀ m t, mPay τ k h 10 m t = if m = k ∧ t = h then 1 else τ 10 m t := by
    intro m t
    unfold mPay
    rw [su_n (by omega)]
    by_cases q : m = k ∧ t = h
    · rw [q.1, q.2, su_s, if_pos ⟨rfl, rfl⟩]
    · rw [su_n (by omega), if_neg q, su_n (by omega), su_n (by omega)]
  show τ 71 0 0 + 1 = sumT (fun m => clm (mPay τ k h) m) (τ 0 2 0)
  rw [m1]
  refine (sumT_up (j := k) hk (fun m _ hm => ?_) ?_).symm
  · exact clm_oth (σ := τ) (fun t => by rw [e10, if_neg (fun z => hm z.1)])
  · exact clm_pay h1 h2 hz (fun t => by rw [e10]; by_cases e : t = h <;> simp [e])
theorem agr.fn {σ σ' : Sg} (h : agr σ' σ) {f : Nat} (h1 : f < 20) (h2 : f ≠ 3) (h3 : f ≠ 4) (h4 : f ≠ 6) : σ' f = σ f := by funext i j; exact h f i j h1 (fun q => by omega)
/-- after a trial of the model -/
def mTr (τ τ1 : Sg) : Prop := agr τ1 τ ∧ IMo τ1 ∧ τ1 72 0 0 = τ 72 0 0
theorem mTr_of {τ : Sg} (M : IMo τ) {fx fo : Nat} (hfo : fo ≤ 10) {V S O : Nat → Nat} (hz : ∀ b, τ 0 0 0 ≤ b → V b = 0 ∧ S b = 0) : mTr τ (su (msw (su (su τ 73 0 0 fx) 74 0 0 fo) 2 V S O) 73 0 0 0) := ⟨agr.mtri, M.tri hfo hz, rfl⟩
theorem mTr.tr {τ τ1 : Sg} (h : mTr τ τ1) (fx fo n : Nat) : trW τ1 fx fo n = trW τ fx fo n := trW_cg (h.1.fn (by decide) (by decide) (by decide) (by decide)) (h.1.fn (by decide) (by decide) (by decide) (by decide)) (h.1.fn (by decide) (by decide) (by decide) (by decide)) (h.1.fn (by decide) (by decide) (by decide) (by decide)) (h.1.fn (by decide) (by decide) (by decide) (by decide)) n
theorem mTr.go {τ τ1 τ2 : Sg} (h : mTr τ τ1) (h' : mTr τ1 τ2) : mTr τ τ2 := ⟨h'.1.tr h.1, h'.2.1, h'.2.2.trans h.2.2⟩
theorem mTr.n {τ τ1 : Sg} (h : mTr τ τ1) : τ1 12 0 0 = τ 12 0 0 ∧ τ1 0 0 0 = τ 0 0 0 := ⟨h.1 12 0 0 (by decide) (fun q => by omega), h.1 0 0 0 (by decide) (fun q => by omega)⟩
theorem wor_72 {τ : Sg} {c k h : Nat} : wor (su τ 72 0 0 c) k h = wor τ k h := rfl
theorem agr.mcell {τ : Sg} {b p c : Nat} : agr (su (su (su τ 72 0 0 c) 2 b (τ 1 b 6) p) 1 b 6 (τ 1 b 6 + 1)) (su (su τ 1 b 6 (τ 1 b 6 + 1)) 2 b (τ 1 b 6) p) := by
  intro f i j hf hj
  by_cases e : f = 1 ∧ i = b ∧ j = 6
  · rw [e.1, e.2.1, e.2.2, su_s, su_n (by omega), su_s]
  · rw [su_n e]
    by_cases e2 : f = 2 ∧ i = b ∧ j = τ 1 b 6
    · rw [e2.1, e2.2.1, e2.2.2, su_s, su_s]
    · rw [su_n e2, su_n e2, su_n e, su_n (by omega)]
