/-! marks; rows of lines; two blocks -/
theorem RBA.mk {g m a : Nat} {f f1 : Nat → va_E} (h : RBA g f) (hm : 1 ≤ m ∧ m ≤ 3) (ha : a = 5190 * m) (k : KW a (a + 5190) g f f1) (e : ∀ q : Nat, q < 5190 → elj f1 g (a + q) = elj f g (0 + q)) : RBA g f1 := fun m' s hm' hs => by
  by_cases c : m' = m
  · subst c
    refine (h 0 s (by omega) hs).cp (fun q hq => ?_)
    have w := e (1650 * s + q) (by omega)
    rw [show 5190 * m' + 1650 * s + q = a + (1650 * s + q) by omega, w, show 5190 * 0 + 1650 * s + q = 0 + (1650 * s + q) by omega]
  · refine (h m' s hm' hs).kw k ?_
    omega
theorem RBA.bk {g m a : Nat} {f f1 : Nat → va_E} (h : RBA g f) (hm : 1 ≤ m ∧ m ≤ 3) (ha : a = 5190 * m) (k : KW 0 (0 + 5190) g f f1) (e : ∀ q : Nat, q < 5190 → elj f1 g (0 + q) = elj f g (a + q)) : RBA g f1 := fun m' s hm' hs => by
  by_cases c : m' = 0
  · subst c
    refine (h m s (by omega) hs).cp (fun q hq => ?_)
    have w := e (1650 * s + q) (by omega)
    rw [show 5190 * 0 + 1650 * s + q = 0 + (1650 * s + q) by omega, w, show 5190 * m + 1650 * s + q = a + (1650 * s + q) by omega]
  · refine (h m' s hm' hs).kw k ?_
    omega
theorem RB_2 {g b : Nat} {f : Nat → va_E} (h1 : RB g 22410 f) (h2 : RB g 24060 f) (hb : b = 22410 ∨ b = 24060) : RB g b f := by
  rcases hb with e | e <;> subst e
  · exact h1
  · exact h2
def RO (g : Nat) (lo hi m : Int) (f : Nat → va_E) : Prop := ∀ q : Nat, lo < (q : Int) → (q : Int) < hi → eli f g q < m
theorem RO.st {g i : Nat} {lo lo1 hi m x : Int} {f f1 : Nat → va_E} (h : RO g lo hi m f) (e : ∀ j, eli f1 g j = if j = i then x else eli f g j) (hi' : (i : Int) = lo) (hx : x < m) (hl : lo1 = lo - 1) : RO g lo1 hi m f1 := fun q h1 h2 => by
  rw [e]
  by_cases c : q = i
  · rw [if_pos c]
    exact hx
  · rw [if_neg c]
    exact h q (by omega) h2
theorem RO.lo {g : Nat} {lo hi m : Int} {f : Nat → va_E} (h : RO g lo hi m f) (hl : lo < 0) : RO g (-1) hi m f := fun q _ h2 => h q (by omega) h2
theorem RO.fm {L : List Nat} {R : Nat → Nat} {Mo : List (Nat × Nat)} {Mr : List Nat} {g : Nat} {lo hi m : Int} {f f1 : Nat → va_E} (h : RO g lo hi m f) (hf : fr L R Mo Mr f f1) (mg : g ∈ L) (rg : R g = 81) (d : mR Mr 81 = false) : RO g lo hi m f1 := fun q h1 h2 => by
  rw [hf.eeli mg rg d]
  exact h q h1 h2
