/-! the trays of class and model: how long, of what sort -/
def trs (f : Nat → va_E) (q i : Nat) : Nat := (elq f (rfa f q 0) i).getD 0
def CS (f : Nat → va_E) (q i : Nat) : Int := fi f (trs f q i) 1
def CT (f : Nat → va_E) (q i : Nat) : Int := fi f (trs f q i) 2
def MS (f : Nat → va_E) (r i : Nat) : Int := eli f (rfa f r 5) i
def MT (f : Nat → va_E) (r i : Nat) : Int := eli f (rfa f r 4) i
def TMc (L : List Nat) (R : Nat → Nat) (f : Nat → va_E) (q : Nat) : Prop := (rfa f q 0 ∈ L ∧ R (rfa f q 0) = 55) ∧ ∀ i, i < 4 → elq f (rfa f q 0) i = some (trs f q i) ∧ trs f q i ∈ L ∧ R (trs f q i) = 10
def TMm (L : List Nat) (R : Nat → Nat) (f : Nat → va_E) (r : Nat) : Prop := (rfa f r 4 ∈ L ∧ R (rfa f r 4) = 62) ∧ (rfa f r 5 ∈ L ∧ R (rfa f r 5) = 63)
def KT (L : List Nat) (R : Nat → Nat) (o : Nat) (f f1 : Nat → va_E) : Prop := ∀ x ∈ L, R x = 10 → x ≠ o → fi f1 x 1 = fi f x 1 ∧ fi f1 x 2 = fi f x 2
section TRAY
variable {D : va_G} {cy : Nat → ClassId} {A : Nat → Prop} {H0 H : Heap} {L : List Nat} {R : Nat → Nat} {f f1 f2 : Nat → va_E} {s : State} {locs : List Loc} {a q r o : Nat} {Mo : List (Nat × Nat)} {Mr : List Nat}
theorem KT.fr (h : KT L R o f f1) (hf : fr L R Mo Mr f1 f2) (d1 : mI Mo 10 1 = false) (d2 : mI Mo 10 2 = false) : KT L R o f f2 := fun x hx hr hn => by
  have q1 := h x hx hr hn
  rw [hf.efi hx hr d1, hf.efi hx hr d2]
  exact q1
theorem TMc_of (h : tS D cy A H0 L R (TT cy L R) f s H locs) (ha : a ∈ L) (hr : R a = 11) : TMc L R f a := by
  obtain ⟨b, mb, rb, tb⟩ := h.rf ha hr (fun e q => (T_11 e).mp q) (k := 0) rfl
  have e0 := rfa_of tb
  unfold TMc
  refine ⟨by rw [e0]; exact ⟨mb, rb⟩, fun i hi => ?_⟩
  obtain ⟨o, q1, q2, q3⟩ := tS_elq h mb rb (fun e q => (T_55 e).mp q) hi
  have e1 : trs f a i = o := by
    unfold trs
    rw [e0, q1]
    rfl
  rw [e0, e1]
  exact ⟨q1, q2, q3⟩
theorem TMm_of (h : tS D cy A H0 L R (TT cy L R) f s H locs) (ha : a ∈ L) (hr : R a = 12) : TMm L R f a := by
  obtain ⟨b, mb, rb, tb⟩ := h.rf ha hr (fun e q => (T_12 e).mp q) (k := 4) rfl
  obtain ⟨b', mb', rb', tb'⟩ := h.rf ha hr (fun e q => (T_12 e).mp q) (k := 5) rfl
  unfold TMm
  rw [rfa_of tb, rfa_of tb']
  exact ⟨⟨mb, rb⟩, mb', rb'⟩
theorem TRp (h : TMc L R f q) (hf : fr L R Mo Mr f f1) (mq : q ∈ L) (rq : R q = 11) (d1 : mI Mo 11 0 = false) (d2 : mR Mr 55 = false) : ∀ i, trs f1 q i = trs f q i := fun i => by
  unfold trs
  rw [hf.erf mq rq d1, hf.eelq h.1.1 h.1.2 d2]
theorem TMc.fr (h : TMc L R f q) (hf : fr L R Mo Mr f f1) (mq : q ∈ L) (rq : R q = 11) (d1 : mI Mo 11 0 = false) (d2 : mR Mr 55 = false) : TMc L R f1 q := by
  have e := hf.erf (k := 0) mq rq d1
  unfold TMc
  rw [e]
  refine ⟨h.1, fun i hi => ?_⟩
  rw [hf.eelq h.1.1 h.1.2 d2, TRp h hf mq rq d1 d2 i]
  exact h.2 i hi
theorem TRc (h : TMc L R f q) (hf : fr L R Mo Mr f f1) (mq : q ∈ L) (rq : R q = 11) (d1 : mI Mo 11 0 = false) (d2 : mR Mr 55 = false) (d3 : mI Mo 10 1 = false) (d4 : mI Mo 10 2 = false) : ∀ i, i < 4 → CS f1 q i = CS f q i ∧ CT f1 q i = CT f q i := fun i hi => by
  unfold CS CT
  rw [TRp h hf mq rq d1 d2 i]
  exact ⟨hf.efi (h.2 i hi).2.1 (h.2 i hi).2.2 d3, hf.efi (h.2 i hi).2.1 (h.2 i hi).2.2 d4⟩
theorem TRm (h : TMm L R f r) (hf : fr L R Mo Mr f f1) (mr : r ∈ L) (rr : R r = 12) (d1 : mI Mo 12 4 = false) (d2 : mI Mo 12 5 = false) (d3 : mR Mr 62 = false) (d4 : mR Mr 63 = false) : ∀ i, MS f1 r i = MS f r i ∧ MT f1 r i = MT f r i := fun i => by
  unfold MS MT
  rw [hf.erf mr rr d1, hf.erf mr rr d2]
  exact ⟨hf.eeli h.2.1 h.2.2 d4 i, hf.eeli h.1.1 h.1.2 d3 i⟩
theorem TR_make (h : TMc L R f q) (P : Nat → Nat) (hp : ∀ i, i < 4 → P (trs f q i) = i) (hf : fr L R Mo Mr f f1) (mq : q ∈ L) (rq : R q = 11) (d1 : mI Mo 11 0 = false) (d2 : mR Mr 55 = false) {n : Nat} (hn : n < 4) (he : elq f (rfa f q 0) n = some o) (k : KT L R o f f1) {x y : Int} (e1 : fi f1 o 1 = x) (e2 : fi f1 o 2 = y) : ∀ i, i < 4 → (i = n ∧ CS f1 q i = x ∧ CT f1 q i = y) ∨ (i ≠ n ∧ CS f1 q i = CS f q i ∧ CT f1 q i = CT f q i) := fun i hi => by
  have eo : trs f q n = o := by
    unfold trs
    rw [he]
    rfl
  unfold CS CT
  rw [TRp h hf mq rq d1 d2 i]
  by_cases hin : i = n
  · left
    rw [hin, eo]
    exact ⟨rfl, e1, e2⟩
  · right
    refine ⟨hin, k _ (h.2 i hi).2.1 (h.2 i hi).2.2 (fun e => hin ?_)⟩
    have e3 := congrArg P e
    rw [hp i hi, ← eo, hp n hn] at e3
    exact e3
theorem CS_of {b i : Nat} (t : fld f a 0 = .ref b) (e : elq f b i = some o) : CS f a i = fi f o 1 ∧ CT f a i = fi f o 2 := by
  have q : trs f a i = o := by
    unfold trs
    rw [rfa_of t, e]
    rfl
  unfold CS CT
  rw [q]
  exact ⟨rfl, rfl⟩
theorem MS_of {b : Nat} (t : fld f a 5 = .ref b) (i : Nat) : MS f a i = eli f b i := by
  unfold MS
  rw [rfa_of t]
theorem MT_of {b : Nat} (t : fld f a 4 = .ref b) (i : Nat) : MT f a i = eli f b i := by
  unfold MT
  rw [rfa_of t]
end TRAY
theorem yes_eq {G G' : Prop} {y y' : Int} (h : (y = 1 ∧ G) ∨ (y = 0 ∧ ¬ G)) (h' : (y' = 1 ∧ G') ∨ (y' = 0 ∧ ¬ G')) (hg : G ↔ G') : y = y' := by
  rcases h with ⟨a, b⟩ | ⟨a, b⟩ <;> rcases h' with ⟨c, d⟩ | ⟨c, d⟩
  · rw [a, c]
  · exact absurd (hg.mp b) d
  · exact absurd (hg.mpr d) b
  · rw [a, c]
theorem write_G {x1 x2 cs ms ct mt : Int} (h1 : 0 ≤ x1 → x1 ≤ 3 → cs = ms ∧ ct = mt) : (0 ≤ x1 ∧ x1 ≤ 3 ∧ 0 ≤ x2 ∧ x2 < cs) ↔ (0 ≤ x1 ∧ x1 ≤ 3 ∧ 0 ≤ x2 ∧ x2 < ms) := by
  constructor <;> intro w <;> have q := h1 w.1 w.2.1 <;> omega
theorem pour_G {x1 x2 x3 x4 x5 csn csi ctn cti msn msi mtn mti : Int} (h1 : 0 ≤ x1 → x1 ≤ 3 → csn = msn ∧ ctn = mtn) (h3 : 0 ≤ x3 → x3 ≤ 3 → csi = msi ∧ cti = mti) : (0 ≤ x1 ∧ x1 ≤ 3 ∧ 0 ≤ x3 ∧ x3 ≤ 3 ∧ 0 ≤ x2 ∧ 0 ≤ x4 ∧ 0 ≤ x5 ∧ ctn = cti ∧ x2 + x5 ≤ csn ∧ x4 + x5 ≤ csi) ↔ (0 ≤ x1 ∧ x1 ≤ 3 ∧ 0 ≤ x3 ∧ x3 ≤ 3 ∧ 0 ≤ x2 ∧ 0 ≤ x4 ∧ 0 ≤ x5 ∧ mtn = mti ∧ x2 + x5 ≤ msn ∧ x4 + x5 ≤ msi) := by
  constructor <;> intro w <;> have q := h1 w.1 w.2.1 <;> have q3 := h3 w.2.2.1 w.2.2.2.1 <;> omega
