/-! a script that is being written -/
def PNZ (f : Nat → va_E) (b : Nat) : Prop := ∀ j : Nat, (j : Int) < fi f b 14 → elj f (rfa f b 0) j ≠ 0
def VSd (f : Nat → va_E) (b d : Nat) : Prop := eli f (rfa f b 11) d + eli f (rfa f b 12) d ≤ fi f b 14
def OBr (r : Nat) : Bool := r == 6 || r == 35 || r == 41 || r == 42 || r == 43 || r == 44
def OB (L : List Nat) (R O : Nat → Nat) (b : Nat) (f f1 : Nat → va_E) : Prop := ∀ a ∈ L, OBr (R a) = true → O a ≠ b → f1 a = f a
theorem OB_rf {L : List Nat} {R O : Nat → Nat} {b : Nat} {f : Nat → va_E} : OB L R O b f f := fun _ _ _ _ => rfl
theorem OB_tr {L : List Nat} {R O : Nat → Nat} {b : Nat} {f f1 f2 : Nat → va_E} (h : OB L R O b f f1) (h1 : OB L R O b f1 f2) : OB L R O b f f2 := fun a ha hr ho => (h1 a ha hr ho).trans (h a ha hr ho)
def obd (Mr : List Nat) : Bool := Mr.all (fun r => !(OBr r))
theorem obd_r {Mr : List Nat} (d : obd Mr = true) {r : Nat} (hr : OBr r = true) : mR Mr r = false := by
  cases hq : mR Mr r with
  | false => rfl
  | true =>
    unfold mR at hq
    rw [List.any_eq_true] at hq
    obtain ⟨q, hq1, hq2⟩ := hq
    have e1 := eq_of_beq hq2
    have h3 := List.all_eq_true.mp d q hq1
    rw [e1, hr] at h3
    exact absurd h3 (by decide)
theorem OB_fr {L : List Nat} {R O : Nat → Nat} {b : Nat} {f f1 f2 : Nat → va_E} {Mo : List (Nat × Nat)} {Mr : List Nat} (h : OB L R O b f f1) (hf : fr L R Mo Mr f1 f2) (d : obd Mr = true) : OB L R O b f f2 := fun a ha hr ho => (hf.2 a ha (obd_r d hr)).trans (h a ha hr ho)
theorem OB_o {L : List Nat} {R O : Nat → Nat} {b x : Nat} {f f1 f2 : Nat → va_E} (h : OB L R O b f f1) (ho : ∀ a', a' ≠ x → f2 a' = f1 a') (hx : O x = b) : OB L R O b f f2 := fun a ha hr hn => (ho a (fun e => hn (by rw [e, hx]))).trans (h a ha hr hn)
theorem OWa {L : List Nat} {R O : Nat → Nat} {f : Nat → va_E} (h : OW L R O f) {b k x : Nat} (hb : b ∈ L) (hr : R b = 6) (hk : sk k) (hx : fld f b k = .ref x) : O x = b := by
  have := ((h b hb hr).2 k hk).2.2.2
  rw [rfa_of hx] at this
  exact this
theorem OW_o {L : List Nat} {R O : Nat → Nat} {f f1 : Nat → va_E} {x : Nat} (h : OW L R O f) (hx : R x ≠ 6) (ho : ∀ a', a' ≠ x → f1 a' = f a') : OW L R O f1 ∧ ∀ a ∈ L, R a = 6 → ∀ k, rfa f1 a k = rfa f a k := by
  have e : ∀ a ∈ L, R a = 6 → ∀ k, fld f1 a k = fld f a k := fun a _ hr k => by
    have hn : a ≠ x := fun q => hx (by rw [← q]; exact hr)
    unfold fld
    rw [ho a hn]
  have e2 : ∀ a ∈ L, R a = 6 → ∀ k, rfa f1 a k = rfa f a k := fun a ha hr k => by
    unfold rfa
    rw [e a ha hr k]
  refine ⟨fun a ha hr => ⟨(h a ha hr).1, fun k hk => ?_⟩, e2⟩
  rw [e a ha hr k, e2 a ha hr k]
  exact (h a ha hr).2 k hk
theorem eli_o {f f1 : Nat → va_E} {x a : Nat} (ho : ∀ a', a' ≠ x → f1 a' = f a') (h : a ≠ x) (j : Nat) : eli f1 a j = eli f a j := by
  unfold eli
  rw [ho a h]
theorem elj_o {f f1 : Nat → va_E} {x a : Nat} (ho : ∀ a', a' ≠ x → f1 a' = f a') (h : a ≠ x) (j : Nat) : elj f1 a j = elj f a j := by
  unfold elj
  rw [ho a h]
theorem fi_o {f f1 : Nat → va_E} {x a : Nat} (ho : ∀ a', a' ≠ x → f1 a' = f a') (h : a ≠ x) (k : Nat) : fi f1 a k = fi f a k := by
  unfold fi fld
  rw [ho a h]
theorem rfa_o {f f1 : Nat → va_E} {x a : Nat} (ho : ∀ a', a' ≠ x → f1 a' = f a') (h : a ≠ x) (k : Nat) : rfa f1 a k = rfa f a k := by
  unfold rfa fld
  rw [ho a h]
theorem ne_r {R : Nat → Nat} {a b m n : Nat} (ha : R a = m) (hb : R b = n) (h : m ≠ n) : a ≠ b := fun e => h (by rw [← ha, ← hb, e])
def GX (L : List Nat) (R O : Nat → Nat) (f : Nat → va_E) (a i : Nat) (p : Bool) : Prop := OW L R O f ∧ (∀ a' ∈ L, R a' = 6 → a' ≠ a → SI f a') ∧ (∀ j, j < 24 → (p = true → j ≠ i) → eli f (rfa f a 8) j + eli f (rfa f a 9) j ≤ 600) ∧ (∀ j, j < 100 → (p = false → j ≠ i) → eli f (rfa f a 11) j + eli f (rfa f a 12) j ≤ 600)
theorem GX_of {L : List Nat} {R O : Nat → Nat} {f : Nat → va_E} (h : GG L R O f) {a i : Nat} {p : Bool} (ha : a ∈ L) (hr : R a = 6) : GX L R O f a i p := ⟨h.1, fun a' h1 h2 _ => h.2 a' h1 h2, fun j hj _ => (h.2 a ha hr).1 j hj, fun j hj _ => (h.2 a ha hr).2 j hj⟩
/-- other scripts don't see it -/
theorem SI_o {L : List Nat} {R O : Nat → Nat} {f f1 : Nat → va_E} {x a : Nat} (h : OW L R O f) (ho : ∀ a', a' ≠ x → f1 a' = f a') (hx6 : R x ≠ 6) (hx : O x = a) {a' : Nat} (ha : a' ∈ L) (hr : R a' = 6) (hn : a' ≠ a) (hs : SI f a') : SI f1 a' := by
  have e := (OW_o h hx6 ho).2 a' ha hr
  have k : ∀ k, sk k → rfa f a' k ≠ x := fun k hk q => hn (by
    have := ((h a' ha hr).2 k hk).2.2.2
    rw [q, hx] at this
    exact this.symm)
  unfold SI
  rw [e, e, e, e]
  refine ⟨fun j hj => ?_, fun j hj => ?_⟩
  · rw [eli_o ho (k 8 sk8), eli_o ho (k 9 sk9)]
    exact hs.1 j hj
  · rw [eli_o ho (k 11 sk11), eli_o ho (k 12 sk12)]
    exact hs.2 j hj
/-- a start is written -/
theorem GX_st1 {L : List Nat} {R O : Nat → Nat} {f f1 : Nat → va_E} {a x i : Nat} {v : Int} (h : GG L R O f) (ha : a ∈ L) (hr : R a = 6) (hx : fld f a 8 = .ref x) (ho : ∀ a', a' ≠ x → f1 a' = f a') (he : ∀ j, eli f1 x j = if j = i then v else eli f x j) : GX L R O f1 a i true := by
  obtain ⟨q1, q2, q3, q4⟩ := h.1.k ha hr sk8 (ro := 39) rfl
  rw [rfa_of hx] at q1 q2 q4
  have hx6 : R x ≠ 6 := by rw [q2]; decide
  obtain ⟨w1, w2⟩ := OW_o h.1 hx6 ho
  have n1 := h.1.k ha hr sk9 (ro := 40) rfl
  have n2 := h.1.k ha hr sk11 (ro := 42) rfl
  have n3 := h.1.k ha hr sk12 (ro := 43) rfl
  obtain ⟨s1, s2⟩ := h.2 a ha hr
  refine ⟨w1, fun a' h1 h2 h3 => SI_o h.1 ho hx6 q4 h1 h2 h3 (h.2 a' h1 h2), ?_⟩
  rw [w2 a ha hr, w2 a ha hr, w2 a ha hr, w2 a ha hr]
  exact ⟨ fun j hj hn => by
    rw [rfa_of hx, he, if_neg (hn rfl), eli_o ho (ne_r n1.2.1 q2 (by decide))]
    have := s1 j hj
    rw [rfa_of hx] at this
    exact this,
    fun j hj _ => by
    rw [eli_o ho (ne_r n2.2.1 q2 (by decide)), eli_o ho (ne_r n3.2.1 q2 (by decide))]
    exact s2 j hj⟩
/-- a count is written, and the sum is right -/
theorem GX_ct1 {L : List Nat} {R O : Nat → Nat} {f f1 : Nat → va_E} {a x i : Nat} {v : Int} (h : GX L R O f a i true) (ha : a ∈ L) (hr : R a = 6) (hx : fld f a 9 = .ref x) (ho : ∀ a', a' ≠ x → f1 a' = f a') (he : ∀ j, eli f1 x j = if j = i then v else eli f x j) (hs : eli f (rfa f a 8) i + v ≤ 600) : GG L R O f1 := by
  obtain ⟨q1, q2, q3, q4⟩ := h.1.k ha hr sk9 (ro := 40) rfl
  rw [rfa_of hx] at q1 q2 q4
  have hx6 : R x ≠ 6 := by rw [q2]; decide
  obtain ⟨w1, w2⟩ := OW_o h.1 hx6 ho
  have n1 := h.1.k ha hr sk8 (ro := 39) rfl
  have n2 := h.1.k ha hr sk11 (ro := 42) rfl
  have n3 := h.1.k ha hr sk12 (ro := 43) rfl
  refine ⟨w1, fun a' h1 h2 => ?_⟩
  by_cases c : a' = a
  · subst c
    unfold SI
    rw [w2 a' ha hr, w2 a' ha hr, w2 a' ha hr, w2 a' ha hr]
    exact ⟨fun j hj => by
      rw [eli_o ho (ne_r n1.2.1 q2 (by decide)), rfa_of hx, he]
      by_cases e : j = i
      · rw [if_pos e, e]
        exact hs
      · rw [if_neg e]
        have := h.2.2.1 j hj (fun _ => e)
        rw [rfa_of hx] at this
        exact this,
     fun j hj => by
      rw [eli_o ho (ne_r n2.2.1 q2 (by decide)), eli_o ho (ne_r n3.2.1 q2 (by decide))]
      exact h.2.2.2 j hj (fun q => absurd q (by decide))⟩
  · exact SI_o h.1 ho hx6 q4 h1 h2 c (h.2.1 a' h1 h2 c)
/-- a start is written -/
theorem GX_st2 {L : List Nat} {R O : Nat → Nat} {f f1 : Nat → va_E} {a x i : Nat} {v : Int} (h : GG L R O f) (ha : a ∈ L) (hr : R a = 6) (hx : fld f a 11 = .ref x) (ho : ∀ a', a' ≠ x → f1 a' = f a') (he : ∀ j, eli f1 x j = if j = i then v else eli f x j) : GX L R O f1 a i false := by
  obtain ⟨q1, q2, q3, q4⟩ := h.1.k ha hr sk11 (ro := 42) rfl
  rw [rfa_of hx] at q1 q2 q4
  have hx6 : R x ≠ 6 := by rw [q2]; decide
  obtain ⟨w1, w2⟩ := OW_o h.1 hx6 ho
  have n1 := h.1.k ha hr sk12 (ro := 43) rfl
  have n2 := h.1.k ha hr sk8 (ro := 39) rfl
  have n3 := h.1.k ha hr sk9 (ro := 40) rfl
  obtain ⟨s1, s2⟩ := h.2 a ha hr
  refine ⟨w1, fun a' h1 h2 h3 => SI_o h.1 ho hx6 q4 h1 h2 h3 (h.2 a' h1 h2), ?_⟩
  rw [w2 a ha hr, w2 a ha hr, w2 a ha hr, w2 a ha hr]
  exact ⟨ fun j hj _ => by
    rw [eli_o ho (ne_r n2.2.1 q2 (by decide)), eli_o ho (ne_r n3.2.1 q2 (by decide))]
    exact s1 j hj,
    fun j hj hn => by
    rw [rfa_of hx, he, if_neg (hn rfl), eli_o ho (ne_r n1.2.1 q2 (by decide))]
    have := s2 j hj
    rw [rfa_of hx] at this
    exact this⟩
/-- a count is written, and the sum is right -/
theorem GX_ct2 {L : List Nat} {R O : Nat → Nat} {f f1 : Nat → va_E} {a x i : Nat} {v : Int} (h : GX L R O f a i false) (ha : a ∈ L) (hr : R a = 6) (hx : fld f a 12 = .ref x) (ho : ∀ a', a' ≠ x → f1 a' = f a') (he : ∀ j, eli f1 x j = if j = i then v else eli f x j) (hs : eli f (rfa f a 11) i + v ≤ 600) : GG L R O f1 := by
  obtain ⟨q1, q2, q3, q4⟩ := h.1.k ha hr sk12 (ro := 43) rfl
  rw [rfa_of hx] at q1 q2 q4
  have hx6 : R x ≠ 6 := by rw [q2]; decide
  obtain ⟨w1, w2⟩ := OW_o h.1 hx6 ho
  have n1 := h.1.k ha hr sk11 (ro := 42) rfl
  have n2 := h.1.k ha hr sk8 (ro := 39) rfl
  have n3 := h.1.k ha hr sk9 (ro := 40) rfl
  refine ⟨w1, fun a' h1 h2 => ?_⟩
  by_cases c : a' = a
  · subst c
    unfold SI
    rw [w2 a' ha hr, w2 a' ha hr, w2 a' ha hr, w2 a' ha hr]
    exact ⟨fun j hj => by
      rw [eli_o ho (ne_r n2.2.1 q2 (by decide)), eli_o ho (ne_r n3.2.1 q2 (by decide))]
      exact h.2.2.1 j hj (fun q => absurd q (by decide)),
     fun j hj => by
      rw [eli_o ho (ne_r n1.2.1 q2 (by decide)), rfa_of hx, he]
      by_cases e : j = i
      · rw [if_pos e, e]
        exact hs
      · rw [if_neg e]
        have := h.2.2.2 j hj (fun _ => e)
        rw [rfa_of hx] at this
        exact this⟩
  · exact SI_o h.1 ho hx6 q4 h1 h2 c (h.2.1 a' h1 h2 c)
theorem tw_or2 {a b : Int32} (hb : b.toInt % 2 = 0) : (a ||| b).toInt % 2 = a.toInt % 2 := by
  rw [← tw_b1, ← tw_b1]
  have e3 : b &&& 1 = 0 := Int32.toInt_inj.mp (by rw [tw_b1, hb]; decide)
  have e4 : (a ||| b) &&& 1 = (a &&& 1) ||| (b &&& 1) := by
    apply Int32.toBitVec_inj.mp
    rw [Int32.toBitVec_and, Int32.toBitVec_or, Int32.toBitVec_or, Int32.toBitVec_and, Int32.toBitVec_and]
    apply BitVec.eq_of_getLsbD_eq
    intro i hi
    simp only [BitVec.getLsbD_and, BitVec.getLsbD_or, Bool.and_or_distrib_right]
  rw [e4, e3]
  simp
theorem tw_sh1 {z one r : Int32} (h : z = one <<< (r &&& 31)) (ho : one.toInt = 1) (h1 : 1 ≤ r.toInt) (h2 : r.toInt ≤ 23) : z.toInt % 2 = 0 := by
  have e1 : one = 1 := Int32.toInt_inj.mp (by rw [ho]; decide)
  rw [h, e1]
  rcases (by omega : r.toInt = 1 ∨ r.toInt = 2 ∨ r.toInt = 3 ∨ r.toInt = 4 ∨ r.toInt = 5 ∨ r.toInt = 6 ∨ r.toInt = 7 ∨ r.toInt = 8 ∨ r.toInt = 9 ∨ r.toInt = 10 ∨ r.toInt = 11 ∨ r.toInt = 12 ∨ r.toInt = 13 ∨ r.toInt = 14 ∨ r.toInt = 15 ∨ r.toInt = 16 ∨ r.toInt = 17 ∨ r.toInt = 18 ∨ r.toInt = 19 ∨ r.toInt = 20 ∨ r.toInt = 21 ∨ r.toInt = 22 ∨ r.toInt = 23) with q | q | q | q | q | q | q | q | q | q | q | q | q | q | q | q | q | q | q | q | q | q | q
  · obtain rfl : r = 1 := Int32.toInt_inj.mp (by rw [q]; decide)
    decide
  · obtain rfl : r = 2 := Int32.toInt_inj.mp (by rw [q]; decide)
    decide
  · obtain rfl : r = 3 := Int32.toInt_inj.mp (by rw [q]; decide)
    decide
  · obtain rfl : r = 4 := Int32.toInt_inj.mp (by rw [q]; decide)
    decide
  · obtain rfl : r = 5 := Int32.toInt_inj.mp (by rw [q]; decide)
    decide
  · obtain rfl : r = 6 := Int32.toInt_inj.mp (by rw [q]; decide)
    decide
  · obtain rfl : r = 7 := Int32.toInt_inj.mp (by rw [q]; decide)
    decide
  · obtain rfl : r = 8 := Int32.toInt_inj.mp (by rw [q]; decide)
    decide
  · obtain rfl : r = 9 := Int32.toInt_inj.mp (by rw [q]; decide)
    decide
  · obtain rfl : r = 10 := Int32.toInt_inj.mp (by rw [q]; decide)
    decide
  · obtain rfl : r = 11 := Int32.toInt_inj.mp (by rw [q]; decide)
    decide
  · obtain rfl : r = 12 := Int32.toInt_inj.mp (by rw [q]; decide)
    decide
  · obtain rfl : r = 13 := Int32.toInt_inj.mp (by rw [q]; decide)
    decide
  · obtain rfl : r = 14 := Int32.toInt_inj.mp (by rw [q]; decide)
    decide
  · obtain rfl : r = 15 := Int32.toInt_inj.mp (by rw [q]; decide)
    decide
  · obtain rfl : r = 16 := Int32.toInt_inj.mp (by rw [q]; decide)
    decide
  · obtain rfl : r = 17 := Int32.toInt_inj.mp (by rw [q]; decide)
    decide
  · obtain rfl : r = 18 := Int32.toInt_inj.mp (by rw [q]; decide)
    decide
  · obtain rfl : r = 19 := Int32.toInt_inj.mp (by rw [q]; decide)
    decide
  · obtain rfl : r = 20 := Int32.toInt_inj.mp (by rw [q]; decide)
    decide
  · obtain rfl : r = 21 := Int32.toInt_inj.mp (by rw [q]; decide)
    decide
  · obtain rfl : r = 22 := Int32.toInt_inj.mp (by rw [q]; decide)
    decide
  · obtain rfl : r = 23 := Int32.toInt_inj.mp (by rw [q]; decide)
    decide
