/-! what holds between the cells of a script -/
def rfa (f : Nat → va_E) (a k : Nat) : Nat := match fld f a k with
  | .ref b => b
  | _ => 0
theorem rfa_of {f : Nat → va_E} {a k b : Nat} (h : fld f a k = .ref b) : rfa f a k = b := by
  unfold rfa
  rw [h]
def elq (f : Nat → va_E) (a j : Nat) : Option Nat := match f a with
  | .inl (_, _, .inr (.inr (.inr (.inr g)))) => g j
  | _ => none
theorem fr.eeli {L : List Nat} {R : Nat → Nat} {Mo : List (Nat × Nat)} {Mr : List Nat} {f f1 : Nat → va_E} (h : fr L R Mo Mr f f1) {a ro : Nat} (ha : a ∈ L) (hr : R a = ro) (hm : mR Mr ro = false) (j : Nat) : eli f1 a j = eli f a j := by
  unfold eli
  rw [h.cell ha hr hm]
theorem fr.eelj {L : List Nat} {R : Nat → Nat} {Mo : List (Nat × Nat)} {Mr : List Nat} {f f1 : Nat → va_E} (h : fr L R Mo Mr f f1) {a ro : Nat} (ha : a ∈ L) (hr : R a = ro) (hm : mR Mr ro = false) (j : Nat) : elj f1 a j = elj f a j := by
  unfold elj
  rw [h.cell ha hr hm]
theorem fr.eelq {L : List Nat} {R : Nat → Nat} {Mo : List (Nat × Nat)} {Mr : List Nat} {f f1 : Nat → va_E} (h : fr L R Mo Mr f f1) {a ro : Nat} (ha : a ∈ L) (hr : R a = ro) (hm : mR Mr ro = false) (j : Nat) : elq f1 a j = elq f a j := by
  unfold elq
  rw [h.cell ha hr hm]
theorem fr.erf {L : List Nat} {R : Nat → Nat} {Mo : List (Nat × Nat)} {Mr : List Nat} {f f1 : Nat → va_E} (h : fr L R Mo Mr f f1) {a k ro : Nat} (ha : a ∈ L) (hr : R a = ro) (hm : mI Mo ro k = false) : rfa f1 a k = rfa f a k := by
  unfold rfa
  rw [h.efl ha hr hm]
def sra (k : Nat) : Nat := if k = 0 then 35 else if k = 8 then 39 else if k = 9 then 40 else if k = 10 then 41 else if k = 11 then 42 else if k = 12 then 43 else 44
def sk (k : Nat) : Prop := k = 0 ∨ k = 8 ∨ k = 9 ∨ k = 10 ∨ k = 11 ∨ k = 12 ∨ k = 13
def OW (L : List Nat) (R O : Nat → Nat) (f : Nat → va_E) : Prop := ∀ a ∈ L, R a = 6 → O a = a ∧ ∀ k, sk k → fld f a k = .ref (rfa f a k) ∧ rfa f a k ∈ L ∧ R (rfa f a k) = sra k ∧ O (rfa f a k) = a
def SI (f : Nat → va_E) (a : Nat) : Prop := (∀ j, j < 24 → eli f (rfa f a 8) j + eli f (rfa f a 9) j ≤ 600) ∧ (∀ j, j < 100 → eli f (rfa f a 11) j + eli f (rfa f a 12) j ≤ 600)
def GG (L : List Nat) (R O : Nat → Nat) (f : Nat → va_E) : Prop := OW L R O f ∧ ∀ a ∈ L, R a = 6 → SI f a
def gd1 (Mo : List (Nat × Nat)) : Bool := Mo.all (fun q => !(q.1 == 6) || Nat.ble 14 q.2)
def gd2 (Mr : List Nat) : Bool := !(mR Mr 39) && !(mR Mr 40) && !(mR Mr 42) && !(mR Mr 43)
theorem gd1_k {Mo : List (Nat × Nat)} (d : gd1 Mo = true) {k : Nat} (hk : k < 14) : mI Mo 6 k = false := by
  cases hq : mI Mo 6 k with
  | false => rfl
  | true =>
    unfold mI at hq
    rw [List.any_eq_true] at hq
    obtain ⟨q, hq1, hq2⟩ := hq
    rw [Bool.and_eq_true] at hq2
    have e1 := eq_of_beq hq2.1
    have e2 := eq_of_beq hq2.2
    have h3 := List.all_eq_true.mp d q hq1
    rw [e1, e2] at h3
    have h4 : Nat.ble 14 k = true := by simpa using h3
    have := Nat.le_of_ble_eq_true h4
    omega
theorem sk_lt {k : Nat} (h : sk k) : k < 14 := by
  unfold sk at h
  omega
theorem OW.fr {L : List Nat} {R O : Nat → Nat} {f f1 : Nat → va_E} {Mo : List (Nat × Nat)} {Mr : List Nat} (h : OW L R O f) (hf : fr L R Mo Mr f f1) (d : gd1 Mo = true) : OW L R O f1 := by
  intro a ha hr
  obtain ⟨h1, h2⟩ := h a ha hr
  refine ⟨h1, fun k hk => ?_⟩
  obtain ⟨h3, h4⟩ := h2 k hk
  have e1 := hf.erf ha hr (gd1_k d (sk_lt hk))
  have e2 := hf.efl ha hr (gd1_k d (sk_lt hk))
  rw [e1, e2]
  exact ⟨h3, h4⟩
theorem GG.fr {L : List Nat} {R O : Nat → Nat} {f f1 : Nat → va_E} {Mo : List (Nat × Nat)} {Mr : List Nat} (h : GG L R O f) (hf : fr L R Mo Mr f f1) (d : gd1 Mo = true) (d2 : gd2 Mr = true) : GG L R O f1 := by
  refine ⟨h.1.fr hf d, fun a ha hr => ?_⟩
  obtain ⟨h1, h2⟩ := h.1 a ha hr
  obtain ⟨h3, h4⟩ := h.2 a ha hr
  unfold gd2 at d2
  simp only [Bool.and_eq_true, Bool.not_eq_true'] at d2
  obtain ⟨⟨⟨d39, d40⟩, d42⟩, d43⟩ := d2
  have k8 : sk 8 := by unfold sk; omega
  have k9 : sk 9 := by unfold sk; omega
  have k11 : sk 11 := by unfold sk; omega
  have k12 : sk 12 := by unfold sk; omega
  unfold SI
  rw [hf.erf ha hr (gd1_k d (sk_lt k8)), hf.erf ha hr (gd1_k d (sk_lt k9)), hf.erf ha hr (gd1_k d (sk_lt k11)), hf.erf ha hr (gd1_k d (sk_lt k12))]
  refine ⟨fun j hj => ?_, fun j hj => ?_⟩
  · rw [hf.eeli (h2 8 k8).2.1 (h2 8 k8).2.2.1 d39, hf.eeli (h2 9 k9).2.1 (h2 9 k9).2.2.1 d40]
    exact h3 j hj
  · rw [hf.eeli (h2 11 k11).2.1 (h2 11 k11).2.2.1 d42, hf.eeli (h2 12 k12).2.1 (h2 12 k12).2.2.1 d43]
    exact h4 j hj
theorem GG.it {L : List Nat} {R O : Nat → Nat} {f : Nat → va_E} (h : GG L R O f) {a s c : Nat} (ha : a ∈ L) (hr : R a = 6) (h8 : fld f a 8 = .ref s) (h9 : fld f a 9 = .ref c) {j : Nat} (hj : j < 24) : eli f s j + eli f c j ≤ 600 := by
  have := (h.2 a ha hr).1 j hj
  rw [rfa_of h8, rfa_of h9] at this
  exact this
theorem GG.an {L : List Nat} {R O : Nat → Nat} {f : Nat → va_E} (h : GG L R O f) {a s c : Nat} (ha : a ∈ L) (hr : R a = 6) (h8 : fld f a 11 = .ref s) (h9 : fld f a 12 = .ref c) {j : Nat} (hj : j < 100) : eli f s j + eli f c j ≤ 600 := by
  have := (h.2 a ha hr).2 j hj
  rw [rfa_of h8, rfa_of h9] at this
  exact this
