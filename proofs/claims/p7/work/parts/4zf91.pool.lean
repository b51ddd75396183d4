/-! the trays' numbers -/
def CN (f : Nat → va_E) (q i j : Nat) : Int := elj f (rfa f (trs f q i) 0) j
def MN (f : Nat → va_E) (r i j : Nat) : Int := elj f (rfa f r 6) (60 * i + j)
def cutf (t : Int) (v : Int64) : Int := if t = 0 then v.toInt32.toInt8.toInt32.toInt else if t = 1 then v.toInt32.toInt16.toInt32.toInt else if t = 2 then v.toInt32.toInt else v.toInt
def TMn (L : List Nat) (R : Nat → Nat) (f : Nat → va_E) (q : Nat) : Prop := ∀ i, i < 4 → rfa f (trs f q i) 0 ∈ L ∧ R (rfa f (trs f q i) 0) = 54
def KN (L : List Nat) (R : Nat → Nat) (o : Nat) (f f1 : Nat → va_E) : Prop := ∀ x ∈ L, R x = 54 → x ≠ o → f1 x = f x
section TRAYN
variable {D : va_G} {cy : Nat → ClassId} {A : Nat → Prop} {H0 H : Heap} {L : List Nat} {R : Nat → Nat} {f f1 f2 : Nat → va_E} {s : State} {locs : List Loc} {a q r o : Nat} {Mo : List (Nat × Nat)} {Mr : List Nat}
theorem KN.rf : KN L R o f f := fun _ _ _ _ => rfl
theorem KN.fr (h : KN L R o f f1) (hf : fr L R Mo Mr f1 f2) (d : mR Mr 54 = false) : KN L R o f f2 := fun x hx hr hn => (hf.cell hx hr d).trans (h x hx hr hn)
theorem KN.tr (h : KN L R o f f1) (h1 : KN L R o f1 f2) : KN L R o f f2 := fun x hx hr hn => (h1 x hx hr hn).trans (h x hx hr hn)
theorem CS_le (h : tS D cy A H0 L R (TT cy L R) f s H locs) (ha : a ∈ L) (hr : R a = 11) : ∀ i, i < 4 → CS f a i ≤ 60 := fun i hi => by
  have ht := TMc_of h ha hr
  exact (h.bfi (ht.2 i hi).2.1 (ht.2 i hi).2.2 (fun e q => (T_10 e).mp q) (k := 1) rfl).2
theorem TMn_of (h : tS D cy A H0 L R (TT cy L R) f s H locs) (ht : TMc L R f q) : TMn L R f q := fun i hi => by
  obtain ⟨b, mb, rb, tb⟩ := h.rf (ht.2 i hi).2.1 (ht.2 i hi).2.2 (fun e q => (T_10 e).mp q) (k := 0) rfl
  rw [rfa_of tb]
  exact ⟨mb, rb⟩
theorem TNa (h : TMc L R f q) (hf : fr L R Mo Mr f f1) (mq : q ∈ L) (rq : R q = 11) (d1 : mI Mo 11 0 = false) (d2 : mR Mr 55 = false) (d3 : mI Mo 10 0 = false) : ∀ i, i < 4 → rfa f1 (trs f1 q i) 0 = rfa f (trs f q i) 0 := fun i hi => by
  rw [TRp h hf mq rq d1 d2 i]
  exact hf.erf (h.2 i hi).2.1 (h.2 i hi).2.2 d3
theorem TMn.fr (hn : TMn L R f q) (h : TMc L R f q) (hf : fr L R Mo Mr f f1) (mq : q ∈ L) (rq : R q = 11) (d1 : mI Mo 11 0 = false) (d2 : mR Mr 55 = false) (d3 : mI Mo 10 0 = false) : TMn L R f1 q := fun i hi => by
  rw [TNa h hf mq rq d1 d2 d3 i hi]
  exact hn i hi
theorem TNc (h : TMc L R f q) (hn : TMn L R f q) (hf : fr L R Mo Mr f f1) (mq : q ∈ L) (rq : R q = 11) (d1 : mI Mo 11 0 = false) (d2 : mR Mr 55 = false) (d3 : mI Mo 10 0 = false) (d4 : mR Mr 54 = false) : ∀ i, i < 4 → ∀ j, CN f1 q i j = CN f q i j := fun i hi j => by
  unfold CN
  rw [TNa h hf mq rq d1 d2 d3 i hi]
  exact hf.eelj (hn i hi).1 (hn i hi).2 d4 j
theorem TNm {g : Nat} (t : fld f r 6 = .ref g) (mg : g ∈ L) (rg : R g = 64) (hf : fr L R Mo Mr f f1) (mr : r ∈ L) (rr : R r = 12) (d1 : mI Mo 12 6 = false) (d2 : mR Mr 64 = false) : ∀ i j, MN f1 r i j = MN f r i j := fun i j => by
  unfold MN
  rw [hf.erf mr rr d1, rfa_of t]
  exact hf.eelj mg rg d2 _
theorem MN_of {g : Nat} (t : fld f r 6 = .ref g) (i j : Nat) : MN f r i j = elj f g (60 * i + j) := by
  unfold MN
  rw [rfa_of t]
theorem CN_of {b i : Nat} (t : fld f a 0 = .ref b) (e : elq f b i = some o) (j : Nat) : CN f a i j = elj f (rfa f o 0) j := by
  have q : trs f a i = o := by
    unfold trs
    rw [rfa_of t, e]
    rfl
  unfold CN
  rw [q]
/-- a write into the numbers of one tray -/
theorem TN_one (h : TMc L R f q) (hn : TMn L R f q) (P : Nat → Nat) (hp : ∀ i, i < 4 → P (rfa f (trs f q i) 0) = i) (hf : fr L R Mo Mr f f1) (mq : q ∈ L) (rq : R q = 11) (d1 : mI Mo 11 0 = false) (d2 : mR Mr 55 = false) (d3 : mI Mo 10 0 = false) {n : Nat} (hn4 : n < 4) (he : elq f (rfa f q 0) n = some o) (k : KN L R (rfa f o 0) f f1) {g : Nat → Int} (e1 : ∀ j, j < 60 → elj f1 (rfa f o 0) j = g j) : ∀ i, i < 4 → ∀ j, j < 60 → (i = n ∧ CN f1 q i j = g j) ∨ (i ≠ n ∧ CN f1 q i j = CN f q i j) := fun i hi j hj => by
  have eo : trs f q n = o := by
    unfold trs
    rw [he]
    rfl
  unfold CN
  rw [TNa h hf mq rq d1 d2 d3 i hi]
  by_cases hin : i = n
  · left
    rw [hin, eo]
    exact ⟨rfl, e1 j hj⟩
  · right
    refine ⟨hin, ?_⟩
    have q := k _ (hn i hi).1 (hn i hi).2 (fun e => hin ?_)
    · unfold elj
      rw [q]
    · have e3 := congrArg P e
      rw [hp i hi, ← eo, hp n hn4] at e3
      exact e3
end TRAYN
theorem two_ways {W W' : Prop} {a a1 b b1 c d : Int} (hC : (W ∧ a1 = c) ∨ (¬ W ∧ a1 = a)) (hM : (W' ∧ b1 = d) ∨ (¬ W' ∧ b1 = b)) (hW : W ↔ W') (hs : W → c = d) (h0 : ¬ W → a = b) : a1 = b1 := by
  rcases hC with ⟨w, e⟩ | ⟨w, e⟩ <;> rcases hM with ⟨w', e'⟩ | ⟨w', e'⟩
  · rw [e, e', hs w]
  · exact absurd (hW.mp w) w'
  · exact absurd (hW.mpr w') w
  · rw [e, e', h0 w]
theorem pour_W {Z : Prop} {x1 x2 x3 x4 x5 csn csi ctn cti msn msi mtn mti : Int} (h : csi = msi ∧ cti = mti) (hn : 0 ≤ x1 → x1 ≤ 3 → csn = msn ∧ ctn = mtn) : ((0 ≤ x1 ∧ x1 ≤ 3 ∧ 0 ≤ x3 ∧ x3 ≤ 3 ∧ 0 ≤ x2 ∧ 0 ≤ x4 ∧ 0 ≤ x5 ∧ ctn = cti ∧ x2 + x5 ≤ csn ∧ x4 + x5 ≤ csi) ∧ Z) ↔ ((0 ≤ x1 ∧ x1 ≤ 3 ∧ 0 ≤ x3 ∧ x3 ≤ 3 ∧ 0 ≤ x2 ∧ 0 ≤ x4 ∧ 0 ≤ x5 ∧ mtn = mti ∧ x2 + x5 ≤ msn ∧ x4 + x5 ≤ msi) ∧ Z) := by
  have g := pour_G (x2 := x2) (x4 := x4) (x5 := x5) hn (x3 := x3) (fun _ _ => h)
  exact ⟨fun w => ⟨g.mp w.1, w.2⟩, fun w => ⟨g.mpr w.1, w.2⟩⟩
