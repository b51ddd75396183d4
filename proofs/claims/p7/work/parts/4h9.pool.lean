theorem NZ_of {f : Nat → va_E} {b d : Nat} (hp : PNZ f b) (hv : VSd f b d) : NZ f b d := fun j _ h2 => hp j (by unfold VSd at hv; omega)
theorem RG_fr {L : List Nat} {R O : Nat → Nat} {f f1 : Nat → va_E} {Mo : List (Nat × Nat)} {Mr : List Nat} {r b g : Nat} (h : RG f r b) (ow : OW L R O f) (hf : fr L R Mo Mr f f1) (d1 : gd1 Mo = true) (d14 : mI Mo 6 14 = false) (d17 : mI Mo 6 17 = false) (d18 : mI Mo 6 18 = false) (d41 : mR Mr 41 = false) (d42 : mR Mr 42 = false) (d43 : mR Mr 43 = false) (d33 : mR Mr 33 = false) (d10 : mI Mo 3 10 = false) (d11 : mI Mo 3 11 = false) (hb : b ∈ L) (hr : R b = 6) (hr3 : r ∈ L) (hrr : R r = 3) (hg : fld f r 10 = .ref g) (mg : g ∈ L) (rg : R g = 33) : RG f1 r b := by
  have eA := AC0_fr ow hf d1 d41 hb hr
  have e17 := hf.efi hb hr d17
  have e18 := hf.efi hb hr d18
  have e14 := hf.efi hb hr d14
  have V : ∀ d, VSd f b d → VSd f1 b d := fun d q => VSd_fr q ow hf d1 (by omega) d42 d43 hb hr
  have Gm : ∀ d, GOd f r d → GOd f1 r d := fun d q => GO_fr q hf d10 d11 d33 hr3 hrr hg mg rg
  unfold RG
  rw [eA, e17, e18]
  exact ⟨h.1, h.2.1, fun d hd => (h.2.2.1 d hd).imp (V d) (Gm d), h.2.2.2.imp id (V 0)⟩
/-- a script that is in order: what its rule 0 gives stands below partCount -/
def AC2 (f : Nat → va_E) (b : Nat) : Prop := 1 ≤ fi f b 17 → 1 ≤ AC0 f b ∧ PNZ f b ∧ (∀ d : Nat, (d : Int) < AC0 f b → eli f (rfa f b 13) d ≠ -1 ∨ VSd f b d) ∧ (fi f b 18 % 2 = 0 ∨ VSd f b 0)
theorem AC2.acc {f : Nat → va_E} {b : Nat} (h : AC2 f b) : ACC f b := fun q => ⟨(h q).1, fun d hd => ((h q).2.2.1 d hd).imp id (NZ_of (h q).2.1), (h q).2.2.2.imp id (NZ_of (h q).2.1)⟩
theorem RG_acc {L : List Nat} {R O : Nat → Nat} {f f1 : Nat → va_E} {Mo : List (Nat × Nat)} {Mr : List Nat} {r b : Nat} (h : RG f r b) (hp : PNZ f b) (ow : OW L R O f) (hf : fr L R Mo Mr f f1) (d1 : gd4 Mo = true) (d14 : mI Mo 6 14 = false) (d17 : mI Mo 6 17 = false) (d35 : mR Mr 35 = false) (d41 : mR Mr 41 = false) (d42 : mR Mr 42 = false) (d43 : mR Mr 43 = false) (hg : ∀ d : Nat, GOd f r d → eli f1 (rfa f1 b 13) d ≠ -1) (hb : b ∈ L) (hr : R b = 6) : AC2 f1 b := by
  intro h17
  rw [hf.efi hb hr d17] at h17
  have g1 := (gd4_e d1).1
  have eA := AC0_fr ow hf g1 d41 hb hr
  have e14 := hf.efi hb hr d14
  have N : ∀ d, VSd f b d → VSd f1 b d := fun d q => VSd_fr q ow hf g1 (by omega) d42 d43 hb hr
  refine ⟨by rw [eA]; exact h.1 h17, PNZ_fr hp ow hf g1 d14 d35 hb hr, fun d hd => ?_, ?_⟩
  · rw [eA] at hd
    rcases h.2.2.1 d hd with q | q
    · exact Or.inr (N d q)
    · exact Or.inl (hg d q)
  · rw [hf.efi hb hr (gd4_e d1).2]
    exact h.2.2.2.imp id (N 0)
