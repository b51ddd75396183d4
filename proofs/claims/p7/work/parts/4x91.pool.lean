/-! reading a script: what of the block stays -/
theorem KW.wd {lo hi lo1 hi1 g : Nat} {f f1 : Nat → va_E} (h : KW lo hi g f f1) (q1 : lo1 ≤ lo) (q2 : hi ≤ hi1) : KW lo1 hi1 g f f1 := fun j hj => h j (by omega)
theorem RB_n {lo hi g : Nat} {f f1 : Nat → va_E} (h : RB g 20760 f) (k : KW lo hi g f f1) (hh : hi ≤ 20812) (e1 : elj f1 g 20761 = elj f g 20761) (e3 : elj f1 g 20763 = elj f g 20763) : RB g 20760 f1 := by
  refine ⟨fun r hr q => ?_, fun q => ?_⟩
  · rw [show 20760 + 1 = 20761 from rfl, e1] at q
    rw [k _ (by omega)]
    exact h.1 r hr q
  · rw [show 20760 + 3 = 20763 from rfl, e3] at q
    rw [k _ (by omega)]
    exact h.2 q
theorem RB_row {g n : Nat} {f f1 : Nat → va_E} (h : RB g 20760 f) (k : KW (20812 + 60 * n) (20872 + 60 * n) g f f1) (hn : elj f g 20761 = n) (h24 : n < 24) : RB g 20760 f1 := by
  refine ⟨fun r hr q => ?_, fun q => ?_⟩
  · rw [show 20760 + 1 = 20761 from rfl, k _ (by omega), hn] at q
    rw [k _ (by omega)]
    exact h.1 r hr (by rw [show 20760 + 1 = 20761 from rfl, hn]; exact q)
  · rw [show 20760 + 3 = 20763 from rfl, k _ (by omega)] at q
    rw [k _ (by omega)]
    exact h.2 q
theorem RB_rule {g n i : Nat} {x : Int} {f f1 f2 : Nat → va_E} (h : RB g 20760 f) (k : KW (20812 + 60 * n) (20872 + 60 * n) g f f1) (hn : elj f g 20761 = n) (h24 : n < 24) (ha : 1 ≤ elj f1 g (20823 + 60 * n)) (e : ∀ j, elj f2 g j = if j = i then x else elj f1 g j) (hi : i = 20761) (hx : x = n + 1) : RB g 20760 f2 := by
  subst hi
  have s : ∀ j, j ≠ 20761 → elj f2 g j = elj f1 g j := fun j hj => by rw [e, if_neg hj]
  refine ⟨fun r hr q => ?_, fun q => ?_⟩
  · rw [show 20760 + 1 = 20761 from rfl, e, if_pos rfl, hx] at q
    rw [s _ (by omega)]
    by_cases c : r = n
    · subst c
      rw [show 20760 + 63 + 60 * r = 20823 + 60 * r by omega]
      exact ha
    · rw [k _ (by omega)]
      exact h.1 r hr (by rw [show 20760 + 1 = 20761 from rfl, hn]; omega)
  · rw [show 20760 + 3 = 20763 from rfl, s _ (by omega), k _ (by omega)] at q
    rw [s _ (by omega), k _ (by omega)]
    exact h.2 q
theorem RB_none {g i : Nat} {x : Int} {f f1 f2 : Nat → va_E} (h : RB g 20760 f) (e : ∀ j, elj f1 g j = if j = i then x else elj f g j) (hi : i = 20763) (k : KW 22252 22302 g f1 f2) (ha : 1 ≤ elj f2 g 22252) : RB g 20760 f2 := by
  subst hi
  have s : ∀ j, j ≠ 20763 → elj f1 g j = elj f g j := fun j hj => by rw [e, if_neg hj]
  refine ⟨fun r hr q => ?_, fun _ => ha⟩
  rw [show 20760 + 1 = 20761 from rfl, k _ (by omega), s _ (by omega)] at q
  rw [k _ (by omega), s _ (by omega)]
  exact h.1 r hr q
theorem RB_ld {g a : Nat} {f f1 : Nat → va_E} (h : RB g 20760 f) (k : KW (a + 1) (a + 49) g f f1) (ha : a = 22252 ∨ (20823 ≤ a ∧ a ≤ 22203 ∧ (a - 20823) % 60 = 0)) : RB g 20760 f1 := by
  refine ⟨fun r hr q => ?_, fun q => ?_⟩
  · rw [k _ (by omega)] at q
    rw [k _ (by omega)]
    exact h.1 r hr q
  · rw [k _ (by omega)] at q
    rw [k _ (by omega)]
    exact h.2 q
theorem RB_0 {g : Nat} {f : Nat → va_E} (h : ∀ q : Nat, q < 1650 → elj f g (20760 + q) = 0) : RB g 20760 f := by
  refine ⟨fun r hr q => ?_, fun q => ?_⟩
  · rw [h 1 (by omega)] at q
    omega
  · rw [h 3 (by omega)] at q
    omega
theorem RBA.cp {g s a : Nat} {f f1 : Nat → va_E} (h : RBA g f) (hn : RB g 20760 f) (hs : s ≤ 2) (ha : a = 1650 * s) (k : KW a (a + 1650) g f f1) (e : ∀ q : Nat, q < 1650 → elj f1 g (a + q) = elj f g (20760 + q)) : RBA g f1 := fun m s' hm hs' => by
  by_cases c : m = 0 ∧ s' = s
  · obtain ⟨rfl, rfl⟩ := c
    refine hn.cp (fun q hq => ?_)
    rw [show 5190 * 0 + 1650 * s' + q = a + q by omega]
    exact e q hq
  · refine (h m s' hm hs').kw k ?_
    have : s = 0 ∨ s = 1 ∨ s = 2 := by omega
    have : s' = 0 ∨ s' = 1 ∨ s' = 2 := by omega
    rcases ‹s = 0 ∨ s = 1 ∨ s = 2› with e1 | e1 | e1 <;> rcases ‹s' = 0 ∨ s' = 1 ∨ s' = 2› with e2 | e2 | e2 <;> subst e1 <;> subst e2 <;> omega
theorem tw_negI {x : Int32} (h1 : -2147483648 < x.toInt) : (-x).toInt = -x.toInt := by
  have hb := tb_i x
  rw [Int32.toInt_neg]
  exact Int.bmod_eq_of_le (by omega) (by omega)
section T33
variable {p : Program} {l : Launch} {e : Env} {R0 : Room} {s : State} {m : MethodId} {args : Array Value} {below : List Frame} {meth : Method} {c : Code} {H H0 : Heap} {locs : List Loc} {cells slots : Nat} {Q : State → Prop} {cc : ByteArray} {nL : Nat} {own : String} {pc : Nat} {ls : Array Slot} {rest : List Value}
theorem tu_ineg (F : CallFix p m c cc nL s args wsL_law own) {x : Int32} (hdg : decode cc pc = .ok (.ineg, 1)) (h1 : -2147483648 < x.toInt) (kk : ∀ z : Int32, z.toInt = -x.toInt → W p l e R0 s m args below meth c H locs cells slots Q (F0 m (pc + 1) ls (.int z :: rest))) : W p l e R0 s m args below meth c H locs cells slots Q (F0 m pc ls (.int x :: rest)) := lv_ineg F.1 F.2.1 hdg (kk _ (tw_negI h1))
end T33
theorem tx_i2c : ∀ n, n < 40 → ((tx40.getD n 0 &&& (Int16.ofInt 255).toInt32).toUInt32 % 65536).toInt32 = tx40.getD n 0 := by decide
theorem tS_at {D : va_G} {cy : Nat → ClassId} {A : Nat → Prop} {H0 H : Heap} {L : List Nat} {R : Nat → Nat} {f : Nat → va_E} {s : State} {locs : List Loc} {a : Nat} (h : tS D cy A H0 L R (TT cy L R) f s H locs) (ha : a ∈ L) (hr : R a = 61) {j : Nat} (hj : j < 25710) : atP j (elj f a j) := by
  obtain ⟨-, hall⟩ := h
  obtain ⟨g, he, hg⟩ := (T_61 _).mp (hr ▸ hall a ha)
  unfold elj
  rw [he]
  exact hg j hj
def SU (g : Nat) (f : Nat → va_E) : Int := elj f g 20760 + elj f g 20761 + elj f g 20762 + elj f g 20763
theorem SU_le {D : va_G} {cy : Nat → ClassId} {A : Nat → Prop} {H0 H : Heap} {L : List Nat} {R : Nat → Nat} {f : Nat → va_E} {s : State} {locs : List Loc} {a : Nat} (h : tS D cy A H0 L R (TT cy L R) f s H locs) (ha : a ∈ L) (hr : R a = 61) : SU a f ≤ 49 := by
  have h0 := clP_1.mp (atb (tS_at h ha hr (j := 20760) (by omega)) (ac_c (b := 20760) 0 isB_n (by omega) rfl rfl))
  have h1 := clP_2.mp (atb (tS_at h ha hr (j := 20761) (by omega)) (ac_c (b := 20760) 1 isB_n (by omega) rfl rfl))
  have h2 := clP_1.mp (atb (tS_at h ha hr (j := 20762) (by omega)) (ac_c (b := 20760) 2 isB_n (by omega) rfl rfl))
  have h3 := clP_3.mp (atb (tS_at h ha hr (j := 20763) (by omega)) (ac_c (b := 20760) 3 isB_n (by omega) rfl rfl))
  unfold SU
  omega
theorem SU_fm {L : List Nat} {R : Nat → Nat} {Mo : List (Nat × Nat)} {Mr : List Nat} {g : Nat} {f f1 : Nat → va_E} (hf : fr L R Mo Mr f f1) (mg : g ∈ L) (rg : R g = 61) (d : mR Mr 61 = false) : SU g f1 = SU g f := by
  unfold SU
  rw [hf.eelj mg rg d, hf.eelj mg rg d, hf.eelj mg rg d, hf.eelj mg rg d]
theorem SU_of {g : Nat} {f f1 : Nat → va_E} {n : Int} (h : elj f1 g 20760 + elj f1 g 20761 + elj f1 g 20762 + elj f1 g 20763 = elj f g 20760 + elj f g 20761 + elj f g 20762 + elj f g 20763 + n) : SU g f1 = SU g f + n := h
