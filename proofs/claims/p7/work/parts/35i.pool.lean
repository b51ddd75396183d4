/-! reading: slots that go on -/
def GOd (f : Nat → va_E) (r d : Nat) : Prop := ∃ i : Nat, (i : Int) < fi f r 11 ∧ eli f (rfa f r 10) i = (d : Int)
theorem GO_fr {L : List Nat} {R : Nat → Nat} {f f1 : Nat → va_E} {Mo : List (Nat × Nat)} {Mr : List Nat} {r d g : Nat} (h : GOd f r d) (hf : fr L R Mo Mr f f1) (d1 : mI Mo 3 10 = false) (d2 : mI Mo 3 11 = false) (d3 : mR Mr 33 = false) (hr : r ∈ L) (hrr : R r = 3) (hg : fld f r 10 = .ref g) (mg : g ∈ L) (rg : R g = 33) : GOd f1 r d := by
  obtain ⟨i, h1, h2⟩ := h
  refine ⟨i, by rw [hf.efi hr hrr d2]; exact h1, ?_⟩
  rw [hf.erf hr hrr d1]
  rw [rfa_of hg] at h2 ⊢
  rw [hf.eeli mg rg d3]
  exact h2
theorem PNZ_fr {L : List Nat} {R O : Nat → Nat} {f f1 : Nat → va_E} {Mo : List (Nat × Nat)} {Mr : List Nat} {b : Nat} (h : PNZ f b) (ow : OW L R O f) (hf : fr L R Mo Mr f f1) (d1 : gd1 Mo = true) (d2 : mI Mo 6 14 = false) (d3 : mR Mr 35 = false) (hb : b ∈ L) (hr : R b = 6) : PNZ f1 b := by
  intro j
  rw [hf.efi hb hr d2, E0j ow hf d1 hb hr sk0 rfl d3]
  exact h j
theorem VSd_fr {L : List Nat} {R O : Nat → Nat} {f f1 : Nat → va_E} {Mo : List (Nat × Nat)} {Mr : List Nat} {b d : Nat} (h : VSd f b d) (ow : OW L R O f) (hf : fr L R Mo Mr f f1) (d1 : gd1 Mo = true) (d2 : fi f b 14 ≤ fi f1 b 14) (d3 : mR Mr 42 = false) (d4 : mR Mr 43 = false) (hb : b ∈ L) (hr : R b = 6) : VSd f1 b d := by
  unfold VSd at h ⊢
  rw [E0i ow hf d1 hb hr sk11 rfl d3, E0i ow hf d1 hb hr sk12 rfl d4]
  omega
