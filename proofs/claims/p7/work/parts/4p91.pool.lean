/-! the model's text: a byte, words of small letters -/
def BY (f : Nat → va_E) (a : Nat) (j : Int) : Int := if j < fi f a 10 then ((Int32.ofInt (eli f (rfa f a 8) j.toNat)) &&& 255).toInt else -1
theorem BY_of {f : Nat → va_E} {a : Nat} {j : Int} {x c z : Int32} (hj : j < fi f a 10) (hx : x.toInt = eli f (rfa f a 8) j.toNat) (hc : c.toInt = 255) (hz : z = x &&& c) : z.toInt = BY f a j := by
  obtain rfl : (255 : Int32) = c := Int32.toInt_inj.mp (by rw [hc]; rfl)
  unfold BY
  rw [if_pos hj, ← hx, Int32.ofInt_toInt, hz]
theorem BY_no {f : Nat → va_E} {a : Nat} {j : Int} (hj : fi f a 10 ≤ j) : BY f a j = -1 := by
  unfold BY
  rw [if_neg (by omega)]
def smd (Mo : List (Nat × Nat)) (Mr : List Nat) : Bool := !(mI Mo 12 8) && !(mI Mo 12 10) && !(mI Mo 12 12) && !(mI Mo 12 13) && !(mR Mr 66)
theorem smd_e {Mo : List (Nat × Nat)} {Mr : List Nat} (d : smd Mo Mr = true) : mI Mo 12 8 = false ∧ mI Mo 12 10 = false ∧ mI Mo 12 12 = false ∧ mI Mo 12 13 = false ∧ mR Mr 66 = false := by
  unfold smd at d
  simp only [Bool.and_eq_true, Bool.not_eq_true'] at d
  exact ⟨d.1.1.1.1, d.1.1.1.2, d.1.1.2, d.1.2, d.2⟩
theorem BY_fr {L : List Nat} {R : Nat → Nat} {Mo : List (Nat × Nat)} {Mr : List Nat} {f f1 : Nat → va_E} {a : Nat} (hf : fr L R Mo Mr f f1) (ha : a ∈ L) (hr : R a = 12) (mt : rfa f a 8 ∈ L) (rt : R (rfa f a 8) = 66) (d8 : mI Mo 12 8 = false) (d10 : mI Mo 12 10 = false) (d66 : mR Mr 66 = false) (j : Int) : BY f1 a j = BY f a j := by
  unfold BY
  rw [hf.efi ha hr d10, hf.erf ha hr d8, hf.eeli mt rt d66]
def SM (a : Nat) (f : Nat → va_E) : Prop := ∀ j, fi f a 12 ≤ j → j < fi f a 13 → 97 ≤ BY f a j ∧ BY f a j ≤ 122
theorem SM_s {f f1 : Nat → va_E} {a : Nat} (h : SM a f) (eb : ∀ j, BY f1 a j = BY f a j) (e1 : fi f1 a 12 = fi f a 12) (e2 : fi f1 a 13 = fi f a 13 + 1) (hb : 97 ≤ BY f a (fi f a 13) ∧ BY f a (fi f a 13) ≤ 122) : SM a f1 := fun j h1 h2 => by
  rw [eb]
  by_cases c : j = fi f a 13
  · rw [c]
    exact hb
  · exact h j (by omega) (by omega)
theorem SM_fr {L : List Nat} {R : Nat → Nat} {Mo : List (Nat × Nat)} {Mr : List Nat} {f f1 : Nat → va_E} {a : Nat} (h : SM a f) (hf : fr L R Mo Mr f f1) (ha : a ∈ L) (hr : R a = 12) (mt : rfa f a 8 ∈ L) (rt : R (rfa f a 8) = 66) (d : smd Mo Mr = true) : SM a f1 := fun j h1 h2 => by
  obtain ⟨d1, d2, d3, d4, d5⟩ := smd_e d
  rw [BY_fr hf ha hr mt rt d1 d2 d5]
  rw [hf.efi ha hr d3] at h1
  rw [hf.efi ha hr d4] at h2
  exact h j h1 h2
def TW (L : List Nat) (R : Nat → Nat) (a : Nat) (f : Nat → va_E) : Prop := rfa f a 8 ∈ L ∧ R (rfa f a 8) = 66 ∧ (fi f a 11 = 2 → SM a f)
theorem TW.fm {L : List Nat} {R : Nat → Nat} {Mo : List (Nat × Nat)} {Mr : List Nat} {f f1 : Nat → va_E} {a : Nat} (h : TW L R a f) (hf : fr L R Mo Mr f f1) (ha : a ∈ L) (hr : R a = 12) (d : smd Mo Mr = true) (d11 : mI Mo 12 11 = false) : TW L R a f1 := by
  obtain ⟨d1, -, -, -, -⟩ := smd_e d
  refine ⟨by rw [hf.erf ha hr d1]; exact h.1, by rw [hf.erf ha hr d1]; exact h.2.1, fun q => ?_⟩
  rw [hf.efi ha hr d11] at q
  exact SM_fr (h.2.2 q) hf ha hr h.1 h.2.1 d
/-- words of at most eight letters -/
def WV (v n : Int) : Prop := 0 ≤ v ∧ v < 32 ^ n.toNat
theorem WV_0 {v n : Int} (hv : v = 0) (hn : n = 0) : WV v n := by
  subst hv hn
  exact ⟨by omega, by decide⟩
theorem WV_s {v x y z : Int64} {five : Int32} {n n1 : Int} (h : WV v.toInt n) (h0 : 0 ≤ n) (hn : n ≤ 7) (h5 : five.toInt = 5) (hy : y = v <<< (five.toInt64 &&& 63)) (hz : z = y ||| x) (hx : 1 ≤ x.toInt ∧ x.toInt ≤ 26) (h1 : n1 = n + 1) : WV z.toInt n1 := by
  have hb : (32 : Int) ^ n.toNat ≤ 34359738368 := by
    have q : ∀ m, m ≤ 7 → (32 : Int) ^ m ≤ 34359738368 := by decide
    exact q n.toNat (by omega)
  obtain ⟨a1, a2⟩ := h
  have e := tw_shor (v := v) (x := x) h5 a1 (by omega) (by omega) (by omega)
  rw [hz, hy, e, h1]
  refine ⟨by omega, ?_⟩
  rw [show (n + 1).toNat = n.toNat + 1 by omega]
  rw [Int.pow_succ]
  omega
