/-! words, and how many couples books hold -/
def wdk : Nat → Nat → Prop
  | 0, _ => True
  | k + 1, n => n = 0 ∨ ((1 ≤ n % 32 ∧ n % 32 ≤ 26) ∧ wdk k (n / 32))
def isWd (v : Int64) : Prop := 1 ≤ v.toInt ∧ v.toInt < 1099511627776 ∧ wdk 8 v.toInt.toNat
theorem wdk_0 (k : Nat) : wdk k 0 := by
  cases k with
  | zero => trivial
  | succ k => exact Or.inl rfl
theorem wdk_s {k n : Nat} (hn : n ≠ 0) : wdk (k + 1) n ↔ (1 ≤ n % 32 ∧ n % 32 ≤ 26) ∧ wdk k (n / 32) := ⟨fun h => h.resolve_left hn, Or.inr⟩
noncomputable def WI (v : Int64) : Int := @ite _ (isWd v) (Classical.propDecidable _) 1 0
theorem WI_1 {v : Int64} (h : isWd v) : WI v = 1 := by
  unfold WI
  exact if_pos h
theorem WI_0 {v : Int64} (h : ¬ isWd v) : WI v = 0 := by
  unfold WI
  exact if_neg h
theorem tw_b64 (x : BitVec 64) (h : 0 ≤ x.toInt) : x.toInt = x.toNat ∧ 2 * x.toNat < 18446744073709551616 := by
  have h1 := BitVec.toInt_eq_toNat_cond x
  have h2 := x.isLt
  split at h1 <;> omega
theorem tw_b64n (x : BitVec 64) (h : 2 * x.toNat < 18446744073709551616) : x.toInt = x.toNat := by
  have h1 := BitVec.toInt_eq_toNat_cond x
  rw [if_pos (by omega)] at h1
  exact h1
theorem tw_ush5 {x z : Int64} {k : Int32} (hk : k.toInt = 5) (hx : 0 ≤ x.toInt) (h : z = (x.toUInt64 >>> (k.toInt64.toUInt64 &&& Int64.toUInt64 63)).toInt64) : z.toInt = x.toInt / 32 := by
  obtain rfl : (5 : Int32) = k := Int32.toInt_inj.mp (by rw [hk]; rfl)
  have e : ((5 : Int32).toInt64.toUInt64 &&& Int64.toUInt64 63) = 5 := by decide
  rw [h, e]
  show (x.toBitVec >>> (5#64)).toInt = x.toBitVec.toInt / 32
  have h0 := tw_b64 x.toBitVec hx
  have h3 : (x.toBitVec >>> (5#64)).toNat = x.toBitVec.toNat / 32 := by
    rw [BitVec.ushiftRight_eq', BitVec.toNat_ushiftRight, Nat.shiftRight_eq_div_pow]
    rfl
  rw [tw_b64n _ (by omega), h3]
  omega
theorem tw_ush40 {x z : Int64} {k : Int32} (hk : k.toInt = 40) (hx : 0 ≤ x.toInt) (h : z = (x.toUInt64 >>> (k.toInt64.toUInt64 &&& Int64.toUInt64 63)).toInt64) : z.toInt = x.toInt / 1099511627776 := by
  obtain rfl : (40 : Int32) = k := Int32.toInt_inj.mp (by rw [hk]; rfl)
  have e : ((40 : Int32).toInt64.toUInt64 &&& Int64.toUInt64 63) = 40 := by decide
  rw [h, e]
  show (x.toBitVec >>> (40#64)).toInt = x.toBitVec.toInt / 1099511627776
  have h0 := tw_b64 x.toBitVec hx
  have h3 : (x.toBitVec >>> (40#64)).toNat = x.toBitVec.toNat / 1099511627776 := by
    rw [BitVec.ushiftRight_eq', BitVec.toNat_ushiftRight, Nat.shiftRight_eq_div_pow]
    rfl
  rw [tw_b64n _ (by omega), h3]
  omega
theorem tw_mod32 {x y z : Int64} (hy : y.toInt = 31) (hx : 0 ≤ x.toInt) (h : z = x &&& y) : z.toInt = x.toInt % 32 := by
  obtain rfl : (31 : Int64) = y := Int64.toInt_inj.mp (by rw [hy]; rfl)
  rw [h]
  show (x.toBitVec &&& (31#64)).toInt = x.toBitVec.toInt % 32
  have h0 := tw_b64 x.toBitVec hx
  have h3 : (x.toBitVec &&& (31#64)).toNat = x.toBitVec.toNat % 32 := by
    rw [BitVec.toNat_and]
    exact Nat.and_two_pow_sub_one_eq_mod x.toBitVec.toNat 5
  rw [tw_b64n _ (by omega), h3]
  omega
/-- the class's way round: eight letters at most -/
theorem wd_c {r r1 i : Int} {W : Prop} (h : 0 ≤ r ∧ (wdk (8 - i.toNat) r.toNat ↔ W)) (hr : r ≠ 0) (h0 : 0 ≤ i) (h8 : i < 8) (hl : 1 ≤ r % 32 ∧ r % 32 ≤ 26) (h1 : r1 = r / 32) : 0 ≤ r1 ∧ (wdk (8 - (i + 1).toNat) r1.toNat ↔ W) := by
  refine ⟨by omega, ?_⟩
  rw [← h.2, show 8 - i.toNat = (8 - (i + 1).toNat) + 1 by omega, wdk_s (by omega), show r1.toNat = r.toNat / 32 by omega]
  exact ⟨fun q => ⟨by omega, q⟩, fun q => q.2⟩
theorem wd_n {r i : Int} {W : Prop} (h : 0 ≤ r ∧ (wdk (8 - i.toNat) r.toNat ↔ W)) (hr : r ≠ 0) (h8 : i < 8) (h0 : 0 ≤ i) (hl : ¬ (1 ≤ r % 32 ∧ r % 32 ≤ 26)) : ¬ W := by
  rw [← h.2, show 8 - i.toNat = (7 - i.toNat) + 1 by omega, wdk_s (by omega)]
  exact fun q => hl (by omega)
theorem wd_e {r i : Int} {W : Prop} (h : 0 ≤ r ∧ (wdk (8 - i.toNat) r.toNat ↔ W)) (he : 8 ≤ i ∨ r = 0) : W := by
  rw [← h.2]
  rcases he with he | he
  · rw [show 8 - i.toNat = 0 by omega]
    trivial
  · rw [he]
    exact wdk_0 _
/-- the model's way round: while something is left -/
def WM (W : Prop) (g r : Int) : Prop := ∃ k : Nat, k ≤ 8 ∧ r.toNat < 32 ^ k ∧ ((g = 1 ∧ wdk k r.toNat) ↔ W)
theorem wd_m0 {v : Int} (h : v < 1099511627776) : WM (wdk 8 v.toNat) 1 v := ⟨8, Nat.le_refl 8, by have : (32 : Nat) ^ 8 = 1099511627776 := rfl; omega, ⟨fun q => q.2, fun q => ⟨rfl, q⟩⟩⟩
theorem wd_m {W : Prop} {g r g1 r1 : Int} (h : WM W g r) (hr : 0 < r) (h1 : r1 = r / 32) (hg : (g1 = 1 ∧ g = 1 ∧ 1 ≤ r % 32 ∧ r % 32 ≤ 26) ∨ (g1 = 0 ∧ ¬ (g = 1 ∧ 1 ≤ r % 32 ∧ r % 32 ≤ 26))) : WM W g1 r1 := by
  obtain ⟨k, h8, hk, hw⟩ := h
  match k, h8, hk, hw with
  | 0, _, hk, _ => exact absurd hk (by simp only [Nat.pow_zero]; omega)
  | k + 1, h8, hk, hw =>
    have e : r1.toNat = r.toNat / 32 := by omega
    refine ⟨k, by omega, ?_, ?_⟩
    · rw [e]
      rw [Nat.pow_succ] at hk
      omega
    · rw [← hw, e, wdk_s (by omega)]
      constructor
      · rintro ⟨q1, q2⟩
        exact ⟨by omega, by omega, q2⟩
      · rintro ⟨q1, q2, q3⟩
        exact ⟨by omega, q3⟩
theorem wd_me {W : Prop} {g r : Int} (h : WM W g r) (h0 : r ≤ 0) : g = 1 ↔ W := by
  obtain ⟨k, -, -, hw⟩ := h
  rw [← hw, show r.toNat = 0 by omega]
  exact ⟨fun q => ⟨q, wdk_0 k⟩, fun q => q.1⟩
def mks (f : Nat → va_E) (q i : Nat) : Nat := (elq f (rfa f q 4) i).getD 0
def CB (f : Nat → va_E) (q : Nat) : Int := fi f (rfa f q 3) 6
def CK (f : Nat → va_E) (q i : Nat) : Int := fi f (mks f q i) 6
def KC (L : List Nat) (R : Nat → Nat) (o : Nat) (f f1 : Nat → va_E) : Prop := ∀ x ∈ L, R x = 0 → x ≠ o → fi f1 x 6 = fi f x 6
def BM (L : List Nat) (R : Nat → Nat) (f : Nat → va_E) (q : Nat) : Prop := (rfa f q 3 ∈ L ∧ R (rfa f q 3) = 0) ∧ (rfa f q 4 ∈ L ∧ R (rfa f q 4) = 57) ∧ ∀ i, i < 3 → elq f (rfa f q 4) i = some (mks f q i) ∧ mks f q i ∈ L ∧ R (mks f q i) = 0
section COUP
variable {D : va_G} {cy : Nat → ClassId} {A : Nat → Prop} {H0 H : Heap} {L : List Nat} {R : Nat → Nat} {f f1 f2 : Nat → va_E} {s : State} {locs : List Loc} {a q r o : Nat} {Mo : List (Nat × Nat)} {Mr : List Nat}
theorem KC.rf : KC L R o f f := fun _ _ _ _ => rfl
theorem KC.fr (h : KC L R o f f1) (hf : fr L R Mo Mr f1 f2) (d : mI Mo 0 6 = false) : KC L R o f f2 := fun x hx hr hn => (hf.efi hx hr d).trans (h x hx hr hn)
theorem BM_of (h : tS D cy A H0 L R (TT cy L R) f s H locs) (ha : a ∈ L) (hr : R a = 11) : BM L R f a := by
  obtain ⟨b, mb, rb, tb⟩ := h.rf ha hr (fun e q => (T_11 e).mp q) (k := 3) rfl
  obtain ⟨m, mm, rm, tm⟩ := h.rf ha hr (fun e q => (T_11 e).mp q) (k := 4) rfl
  have e0 := rfa_of tm
  unfold BM
  refine ⟨by rw [rfa_of tb]; exact ⟨mb, rb⟩, by rw [e0]; exact ⟨mm, rm⟩, fun i hi => ?_⟩
  obtain ⟨o, q1, q2, q3⟩ := tS_elq h mm rm (fun e q => (T_57 e).mp q) hi
  have e1 : mks f a i = o := by
    unfold mks
    rw [e0, q1]
    rfl
  rw [e0, e1]
  exact ⟨q1, q2, q3⟩
theorem BKp (h : BM L R f q) (hf : fr L R Mo Mr f f1) (mq : q ∈ L) (rq : R q = 11) (d1 : mI Mo 11 4 = false) (d2 : mR Mr 57 = false) : ∀ i, mks f1 q i = mks f q i := fun i => by
  unfold mks
  rw [hf.erf mq rq d1, hf.eelq h.2.1.1 h.2.1.2 d2]
theorem BKc (h : BM L R f q) (hf : fr L R Mo Mr f f1) (mq : q ∈ L) (rq : R q = 11) (d0 : mI Mo 11 3 = false) (d1 : mI Mo 11 4 = false) (d2 : mR Mr 57 = false) (d3 : mI Mo 0 6 = false) : CB f1 q = CB f q ∧ ∀ i, i < 3 → CK f1 q i = CK f q i := by
  unfold CB
  rw [hf.erf mq rq d0]
  refine ⟨hf.efi h.1.1 h.1.2 d3, fun i hi => ?_⟩
  unfold CK
  rw [BKp h hf mq rq d1 d2 i]
  exact hf.efi (h.2.2 i hi).2.1 (h.2.2 i hi).2.2 d3
theorem CB_of {b : Nat} (t : fld f a 3 = .ref b) : CB f a = fi f b 6 := by
  unfold CB
  rw [rfa_of t]
theorem CK_of {b i : Nat} (t : fld f a 4 = .ref b) (e : elq f b i = some o) : mks f a i = o ∧ CK f a i = fi f o 6 := by
  have q : mks f a i = o := by
    unfold mks
    rw [rfa_of t, e]
    rfl
  unfold CK
  rw [q]
  exact ⟨rfl, rfl⟩
theorem BM.fr (h : BM L R f q) (hf : fr L R Mo Mr f f1) (mq : q ∈ L) (rq : R q = 11) (d0 : mI Mo 11 3 = false) (d1 : mI Mo 11 4 = false) (d2 : mR Mr 57 = false) : BM L R f1 q := by
  unfold BM
  rw [hf.erf mq rq d0, hf.erf mq rq d1]
  refine ⟨h.1, h.2.1, fun i hi => ?_⟩
  rw [hf.eelq h.2.1.1 h.2.1.2 d2, BKp h hf mq rq d1 d2 i]
  exact h.2.2 i hi
def PB (P : Nat → Nat) (f : Nat → va_E) (q : Nat) : Prop := P (rfa f q 3) = 3 ∧ ∀ i, i < 3 → P (mks f q i) = i
theorem PB.fr {P : Nat → Nat} (hp : PB P f q) (h : BM L R f q) (hf : fr L R Mo Mr f f1) (mq : q ∈ L) (rq : R q = 11) (d0 : mI Mo 11 3 = false) (d1 : mI Mo 11 4 = false) (d2 : mR Mr 57 = false) : PB P f1 q := by
  unfold PB
  rw [hf.erf mq rq d0]
  refine ⟨hp.1, fun i hi => ?_⟩
  rw [BKp h hf mq rq d1 d2 i]
  exact hp.2 i hi
/-- a write into the book's count -/
theorem BK_one {P : Nat → Nat} (h : BM L R f q) (hp : PB P f q) (hf : fr L R Mo Mr f f1) (mq : q ∈ L) (rq : R q = 11) (d1 : mI Mo 11 4 = false) (d2 : mR Mr 57 = false) (k : KC L R (rfa f q 3) f f1) : ∀ i, i < 3 → CK f1 q i = CK f q i := fun i hi => by
  unfold CK
  rw [BKp h hf mq rq d1 d2 i]
  refine k _ (h.2.2 i hi).2.1 (h.2.2 i hi).2.2 (fun e => ?_)
  have e1 := congrArg P e
  rw [hp.2 i hi, hp.1] at e1
  omega
/-- a write into a mark's count -/
theorem BK_mk {P : Nat → Nat} {x : Int} {n : Nat} (h : BM L R f q) (hp : PB P f q) (hf : fr L R Mo Mr f f1) (mq : q ∈ L) (rq : R q = 11) (d0 : mI Mo 11 3 = false) (d1 : mI Mo 11 4 = false) (d2 : mR Mr 57 = false) (hn : n < 3) (k : KC L R (mks f q n) f f1) (e : fi f1 (mks f q n) 6 = x) : CB f1 q = CB f q ∧ ∀ i, i < 3 → (i = n ∧ CK f1 q i = x) ∨ (i ≠ n ∧ CK f1 q i = CK f q i) := by
  unfold CB
  rw [hf.erf mq rq d0]
  refine ⟨k _ h.1.1 h.1.2 (fun e => ?_), fun i hi => ?_⟩
  · have e1 := congrArg P e
    rw [hp.2 n hn, hp.1] at e1
    omega
  · unfold CK
    rw [BKp h hf mq rq d1 d2 i]
    by_cases hin : i = n
    · left
      rw [hin]
      exact ⟨rfl, e⟩
    · right
      refine ⟨hin, k _ (h.2.2 i hi).2.1 (h.2.2 i hi).2.2 (fun e => hin ?_)⟩
      have e1 := congrArg P e
      rw [hp.2 i hi, hp.2 n hn] at e1
      exact e1
end COUP
