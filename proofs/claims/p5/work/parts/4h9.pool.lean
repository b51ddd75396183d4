theorem NZ_of {f : Nat → va_E} {b d : Nat} (hp : PNZ f b) (hv : VSd f b d) : NZ f b d := fun j _ h2 => hp j (by unfold VSd at hv; omega)
theorem RG_fr {L : List Nat} {R O : Nat → Nat} {f f1 : Nat → va_E} {Mo : List (Nat × Nat)} {Mr : List Nat} {r b g : Nat} (h : RG f r b) (ow : OW L R O f) (hf : fr L R Mo Mr f f1) (d1 : gd1 Mo = true) (d14 : mI Mo 6 14 = false) (d17 : mI Mo 6 17 = false) (d18 : mI Mo 6 18 = false) (d41 : mR Mr 41 = false) (d42 : mR Mr 42 = false) (d43 : mR Mr 43 = false) (d33 : mR Mr 33 = false) (d10 : mI Mo 3 10 = false) (d11 : mI Mo 3 11 = false) (hb : b ∈ L) (hr : R b = 6) (hr3 : r ∈ L) (hrr : R r = 3) (hg : fld f r 10 = .ref g) (mg : g ∈ L) (rg : R g = 33) : RG f1 r b := by
  have eA := AC0_fr ow hf d1 d41 hb hr
  have e17 := hf.efi hb hr d17
  have e18 := hf.efi hb hr d18
  have e14 := hf.efi hb hr d14
  have V : ∀ d, VSd f b d → VSd f1 b d := fun d q => VSd_fr q ow hf d1 (by omega) d42 d43 hb hr
  have Gm : ∀ d, GOd f r d → GOd f1 r d := fun d q => GO_fr q hf d10 d11 d33 hr3 hrr hg mg rg
  unfold RG
  rw [eA, e17, e18]
  exact ⟨h.1, h.2.1, fun d hd => (h.2.2.1 d hd).imp (V d) (Gm d), h.2.2.2.imp id (V 0)⟩
theorem RG_acc {L : List Nat} {R O : Nat → Nat} {f f1 : Nat → va_E} {Mo : List (Nat × Nat)} {Mr : List Nat} {r b : Nat} (h : RG f r b) (hp : PNZ f b) (ow : OW L R O f) (hf : fr L R Mo Mr f f1) (d1 : gd4 Mo = true) (d17 : mI Mo 6 17 = false) (d35 : mR Mr 35 = false) (d41 : mR Mr 41 = false) (d42 : mR Mr 42 = false) (d43 : mR Mr 43 = false) (hg : ∀ d : Nat, GOd f r d → eli f1 (rfa f1 b 13) d ≠ -1) (hb : b ∈ L) (hr : R b = 6) : ACC f1 b := by
  intro h17
  rw [hf.efi hb hr d17] at h17
  have g1 := (gd4_e d1).1
  have eA := AC0_fr ow hf g1 d41 hb hr
  have N : ∀ d, VSd f b d → NZ f1 b d := fun d q j => by
    rw [E0i ow hf g1 hb hr sk11 rfl d42, E0i ow hf g1 hb hr sk12 rfl d43, E0j ow hf g1 hb hr sk0 rfl d35]
    exact NZ_of hp q j
  refine ⟨by rw [eA]; exact h.1 h17, fun d hd => ?_, ?_⟩
  · rw [eA] at hd
    rcases h.2.2.1 d hd with q | q
    · exact Or.inr (N d q)
    · exact Or.inl (hg d q)
  · rw [hf.efi hb hr (gd4_e d1).2]
    exact h.2.2.2.imp id (N 0)
