/-! what holds of an object between two calls -/
def INV (L : List Nat) (R O P : Nat → Nat) (f : Nat → va_E) (a : Nat) : Prop := (rfa f a 2 ∈ L ∧ R (rfa f a 2) = 3) ∧ (rfa f a 3 ∈ L ∧ R (rfa f a 3) = 0) ∧ (rfa f a 6 ∈ L ∧ R (rfa f a 6) = 7) ∧ GG L R O f ∧ IB L R O P f (rfa f a 2) ∧ SO L R O f (rfa f a 6) ∧ ∀ j st, elq f (rfa f (rfa f a 6) 12) j = some st → j < 6 → P st = j
def ivd (Mo : List (Nat × Nat)) (Mr : List Nat) : Bool := !(mI Mo 11 2) && !(mI Mo 11 3) && !(mI Mo 11 6) && !(mI Mo 7 12) && !(mR Mr 48)
theorem ivd_e {Mo : List (Nat × Nat)} {Mr : List Nat} (d : ivd Mo Mr = true) : mI Mo 11 2 = false ∧ mI Mo 11 3 = false ∧ mI Mo 11 6 = false ∧ mI Mo 7 12 = false ∧ mR Mr 48 = false := by
  unfold ivd at d
  simp only [Bool.and_eq_true, Bool.not_eq_true'] at d
  obtain ⟨⟨⟨⟨d1, d2⟩, d3⟩, d4⟩, d5⟩ := d
  exact ⟨d1, d2, d3, d4, d5⟩
section
variable {L L1 : List Nat} {R R1 O P : Nat → Nat} {f f1 : Nat → va_E} {Mo : List (Nat × Nat)} {Mr : List Nat} {a : Nat}
theorem INV.mk1 (h : INV L R O P f a) (ha : a ∈ L) (hr : R a = 11) (hf : fr L R Mo Mr f f1) (d : ivd Mo Mr = true) (hG : GG L R O f1) (hI : IB L R O P f1 (rfa f a 2)) : INV L R O P f1 a := by
  obtain ⟨h1, h2, h3, h4, h5, h6, h7⟩ := h
  obtain ⟨d1, d2, d3, d4, d5⟩ := ivd_e d
  have e2 := hf.erf ha hr d1
  have e3 := hf.erf ha hr d2
  have e6 := hf.erf ha hr d3
  have e12 := hf.erf h3.1 h3.2 d4
  unfold INV
  rw [e2, e3, e6, e12]
  exact ⟨h1, h2, h3, hG, hI, SO_fr h6 hf d4 d5 h3.1 h3.2, fun j st q hj => h7 j st (by rw [← hf.eelq h6.1 h6.2.1 d5]; exact q) hj⟩
/-- most calls -/
theorem INV.most (h : INV L R O P f a) (ha : a ∈ L) (hr : R a = 11) (hf : fr L R Mo Mr f f1) (d : ivd Mo Mr = true) (d2 : gd2 Mr = true) (d3 : ibd Mo Mr = true) (d4 : acd Mo Mr = true) (d5 : mI Mo 8 2 = false) : INV L R O P f1 a :=
  h.mk1 ha hr hf d (h.2.2.2.1.fr hf (acd_e d4).1 d2) (IB_fr h.2.2.2.2.1 h.2.2.2.1.1 hf d3 d4 d5 h.1.1 h.1.2)
/-- calls that say in states of the search -/
theorem INV.ko (h : INV L R O P f a) (ha : a ∈ L) (hr : R a = 11) (hf : fr L R Mo Mr f f1) (d : ivd Mo Mr = true) (d2 : gd2 Mr = true) (d3 : ibd Mo Mr = true) (d4 : acd Mo Mr = true) (hk : KO L R O (rfa f (rfa f a 6) 12) f f1) : INV L R O P f1 a :=
  h.mk1 ha hr hf d (h.2.2.2.1.fr hf (acd_e d4).1 d2) (IB_dp h.2.2.2.2.1 h.2.2.2.1.1 hf d3 d4 h.1.1 h.1.2 (DP_ko h.2.2.2.1.1 hf (acd_e d4).1 (acd41 d4) hk h.2.2.2.2.2.1.2.1))
/-- say -/
theorem INV.say (h : INV L R O P f a) (ha : a ∈ L) (hr : R a = 11) (hf : fr L R Mo Mr f f1) (d : ivd Mo Mr = true) (d2 : gd2 Mr = true) (d3 : ibd Mo Mr = true) (d4 : acd Mo Mr = true) {x : Int} {n : Nat} (hn : n = x.toNat) (hq : (∀ y ∈ L, R y = 8 → fld f1 y 2 = fld f y 2) ∨ (∃ st b, 0 ≤ x ∧ x ≤ 2 ∧ elq f (rfa f (rfa f a 3) 1) n = some st ∧ elq f (rfa f (rfa f a 3) 0) n = some b ∧ KS L R st f f1 ∧ DIG f1 st b)) : INV L R O P f1 a := by
  refine h.mk1 ha hr hf d (h.2.2.2.1.fr hf (acd_e d4).1 d2) (IB_dp h.2.2.2.2.1 h.2.2.2.1.1 hf d3 d4 h.1.1 h.1.2 ?_)
  rcases hq with q | ⟨st, b, x0, x2, q1, q2, q3, q4⟩
  · intro k i b st hk hrk hi w1 w2 w3 w4 hb hrb hs hrs ho hp w
    unfold DIG dg
    rw [q st hs hrs, AC0_fr h.2.2.2.1.1 hf (acd_e d4).1 (acd41 d4) hb hrb]
    exact w
  · exact DP_one h.2.2.2.2.1 h.2.2.2.1.1 hf (acd_e d4).1 (acd41 d4) h.2.1.1 h.2.1.2 (by omega) q1 q2 q3 q4
theorem INV.pi (h : INV L R O P f a) : PI L R O f a := by
  obtain ⟨h1, h2, h3, h4, h5, h6, h7⟩ := h
  obtain ⟨b1, b2, b3⟩ := h5
  obtain ⟨g1, g2, g3, g4, g5, g6, g7⟩ := b2 _ h2.1 h2.2
  refine ⟨h6, ⟨g1, g2, fun i b q hi => ?_⟩, ⟨g4, g5, fun i b st q q2 hi => ?_⟩⟩
  · obtain ⟨b', st, w1, w2, w3, w4, -⟩ := g7 i hi
    rw [q] at w1
    obtain rfl := Option.some.inj w1
    exact ⟨w2, w3, (b1 b w2 w3 w4).acc⟩
  · obtain ⟨b', st', w1, w2, w3, w4, w5, w6, w7, w8, w9, w10⟩ := g7 i hi
    rw [q] at w1
    rw [q2] at w5
    obtain rfl := Option.some.inj w1
    obtain rfl := Option.some.inj w5
    exact w10
theorem INV.grow (g : GW L L1 R R1) (h : INV L R O P f a) : INV L1 R1 O P f a := by
  obtain ⟨h1, h2, h3, h4, h5, h6, h7⟩ := h
  exact ⟨⟨(g.1 _ h1.1).1, (g.1 _ h1.1).2.trans h1.2⟩, ⟨(g.1 _ h2.1).1, (g.1 _ h2.1).2.trans h2.2⟩, ⟨(g.1 _ h3.1).1, (g.1 _ h3.1).2.trans h3.2⟩, g.gg h4, g.ib h5, g.so h6, h7⟩
end
