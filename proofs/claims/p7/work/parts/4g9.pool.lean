def RG (f : Nat → va_E) (r b : Nat) : Prop := (1 ≤ fi f b 17 → 1 ≤ AC0 f b) ∧ (fi f b 17 = 0 → AC0 f b = 0 ∧ fi f b 18 % 2 = 0) ∧ (∀ d : Nat, (d : Int) < AC0 f b → VSd f b d ∨ GOd f r d) ∧ (fi f b 18 % 2 = 0 ∨ VSd f b 0)
def RV (f f1 : Nat → va_E) (r b : Nat) : Prop := (∀ d, VSd f b d → VSd f1 b d) ∧ (∀ d, GOd f r d → GOd f1 r d) ∧ AC0 f1 b = AC0 f b
theorem RV_rf {f : Nat → va_E} {r b : Nat} : RV f f r b := ⟨fun _ q => q, fun _ q => q, rfl⟩
theorem RV_fr {L : List Nat} {R O : Nat → Nat} {f f1 f2 : Nat → va_E} {Mo : List (Nat × Nat)} {Mr : List Nat} {r b g : Nat} (h : RV f f1 r b) (ow : OW L R O f1) (hf : fr L R Mo Mr f1 f2) (d1 : gd1 Mo = true) (dp : fi f1 b 14 ≤ fi f2 b 14) (d41 : mR Mr 41 = false) (d42 : mR Mr 42 = false) (d43 : mR Mr 43 = false) (d33 : mR Mr 33 = false) (d10 : mI Mo 3 10 = false) (d11 : mI Mo 3 11 = false) (hb : b ∈ L) (hr : R b = 6) (hr3 : r ∈ L) (hrr : R r = 3) (hg : fld f1 r 10 = .ref g) (mg : g ∈ L) (rg : R g = 33) : RV f f2 r b :=
  ⟨fun d q => VSd_fr (h.1 d q) ow hf d1 dp d42 d43 hb hr, fun d q => GO_fr (h.2.1 d q) hf d10 d11 d33 hr3 hrr hg mg rg, (AC0_fr ow hf d1 d41 hb hr).trans h.2.2⟩
section TSE
variable {s : State} {H H0 : Heap} {locs : List Loc} {D : va_G} {cy : Nat → ClassId} {A : Nat → Prop} {L : List Nat} {R : Nat → Nat} {T : Nat → va_E → Prop} {f : Nat → va_E} {a ro : Nat}
theorem tS_eli (h : tS D cy A H0 L R T f s H locs) {n : Nat} {c : ClassId} {P : Nat → Int → Prop} {j : Nat} (ha : a ∈ L) (hr : R a = ro) (hT : ∀ e, T ro e → tI c n P e) (hj : j < n) : P j (eli f a j) := by
  obtain ⟨g, he, hg⟩ := hT _ (hr ▸ h.2 a ha)
  have := hg j hj
  unfold eli
  rw [he]
  exact this
end TSE
