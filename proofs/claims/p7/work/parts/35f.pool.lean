/-! ears one by one; trays that hold lines; scripts of a book -/
def KE (L : List Nat) (R : Nat → Nat) (e : Nat) (f f1 : Nat → va_E) : Prop := ∀ x ∈ L, R x = 1 → x ≠ e → fld f1 x 0 = fld f x 0 ∧ fld f1 x 2 = fld f x 2
theorem KE_rf {L : List Nat} {R : Nat → Nat} {e : Nat} {f : Nat → va_E} : KE L R e f f := fun _ _ _ _ => ⟨rfl, rfl⟩
theorem KE_fr {L : List Nat} {R : Nat → Nat} {e : Nat} {f f1 f2 : Nat → va_E} {Mo : List (Nat × Nat)} {Mr : List Nat} (h : KE L R e f f1) (hf : fr L R Mo Mr f1 f2) (d : mI Mo 1 0 = false) (d2 : mI Mo 1 2 = false) : KE L R e f f2 := fun x hx hr hn => ⟨(hf.efl hx hr d).trans (h x hx hr hn).1, (hf.efl hx hr d2).trans (h x hx hr hn).2⟩
theorem KE_o {L : List Nat} {R : Nat → Nat} {e : Nat} {f f1 f2 : Nat → va_E} (h : KE L R e f f1) (ho : ∀ a', a' ≠ e → f2 a' = f1 a') : KE L R e f f2 := fun x hx hr hn => by
  have e1 : ∀ k, fld f2 x k = fld f1 x k := fun k => by
    unfold fld
    rw [ho x hn]
  rw [e1, e1]
  exact h x hx hr hn
theorem HB_0 {L : List Nat} {R : Nat → Nat} {f : Nat → va_E} {s b n a : Nat} (h : fld f s 1 = .ref a) (h1 : a ∈ L) (h2 : R a = 45) (hn : n = 0) : HB L R f s n b := by
  subst hn
  unfold HB
  rw [rfa_of h]
  exact ⟨h1, h2, fun i e _ hi => absurd hi (Nat.not_lt_zero i)⟩
theorem HB_step {L : List Nat} {R O : Nat → Nat} {f f1 : Nat → va_E} {Mo : List (Nat × Nat)} {Mr : List Nat} {s n b e : Nat} (h : HB L R f s n b) (ow : OW L R O f) (hf : fr L R Mo Mr f f1) (d1 : gd4 Mo = true) (d2 : gd3 Mr = true) (d3 : mI Mo 7 1 = false) (d7 : mR Mr 45 = false) (ke : KE L R e f f1) (he : elq f (rfa f s 1) n = some e) (h1 : fld f1 e 0 = .ref b) (h2 : fi f1 e 2 = 0 ∨ VAL f1 b) (hs : s ∈ L) (hsr : R s = 7) (hb : b ∈ L) (hr : R b = 6) (me : e ∈ L) (re : R e = 1) : HB L R f1 s (n + 1) b := by
  obtain ⟨q1, q2, q3⟩ := h
  have e0 := hf.erf hs hsr d3
  unfold HB
  rw [e0]
  refine ⟨q1, q2, fun i x hx hi => ?_⟩
  rw [hf.eelq q1 q2 d7] at hx
  by_cases c : x = e
  · subst c
    exact ⟨me, re, rfa_of h1, h2⟩
  · have hin : i < n := by
      rcases Nat.lt_or_ge i n with h | h
      · exact h
      · exfalso
        have e2 : i = n := by omega
        rw [e2, he] at hx
        cases hx
        exact c rfl
    obtain ⟨p1, p2, p3, p4⟩ := q3 i x hx hin
    obtain ⟨k0, k2⟩ := ke x p1 p2 c
    refine ⟨p1, p2, ?_, ?_⟩
    · unfold rfa at p3 ⊢
      rw [k0]
      exact p3
    · have e4 : fi f1 x 2 = fi f x 2 := by
        unfold fi
        rw [k2]
      rw [e4]
      exact p4.imp id (fun q => q.fr ow hf d1 d2 hb hr)
def LN (f : Nat → va_E) (ask t n : Nat) : Prop := ∃ tb, elq f (rfa f ask 0) t = some tb ∧ (n : Int) ≤ fi f tb 1 ∧ ∀ i : Nat, i < n → 0 ≤ elj f (rfa f tb 0) i ∧ elj f (rfa f tb 0) i ≤ 15
def ACC (f : Nat → va_E) (b : Nat) : Prop := 1 ≤ fi f b 17 → VAL f b
def BA (L : List Nat) (R : Nat → Nat) (f : Nat → va_E) (k : Nat) : Prop := rfa f k 0 ∈ L ∧ R (rfa f k 0) = 20 ∧ ∀ i b, elq f (rfa f k 0) i = some b → i < 3 → b ∈ L ∧ R b = 6 ∧ ACC f b
def BD (L : List Nat) (R : Nat → Nat) (f : Nat → va_E) (k : Nat) : Prop := rfa f k 1 ∈ L ∧ R (rfa f k 1) = 21 ∧ ∀ i b st, elq f (rfa f k 0) i = some b → elq f (rfa f k 1) i = some st → i < 3 → DIG f st b
def PI (L : List Nat) (R O : Nat → Nat) (f : Nat → va_E) (a : Nat) : Prop := SO L R O f (rfa f a 6) ∧ BA L R f (rfa f a 3) ∧ BD L R f (rfa f a 3)
section TEQ
variable {s : State} {H H0 : Heap} {locs : List Loc} {D : va_G} {cy : Nat → ClassId} {A : Nat → Prop} {L : List Nat} {R : Nat → Nat} {T : Nat → va_E → Prop} {f : Nat → va_E} {a ro : Nat}
theorem tS_elq (h : tS D cy A H0 L R T f s H locs) {n : Nat} {cA : ClassId} {ro2 j : Nat} (ha : a ∈ L) (hr : R a = ro) (hT : ∀ e, T ro e → tQ cA n (fun _ o => ∃ b, o = some b ∧ b ∈ L ∧ R b = ro2) e) (hj : j < n) : ∃ b, elq f a j = some b ∧ b ∈ L ∧ R b = ro2 := by
  obtain ⟨g, he, hg⟩ := hT _ (hr ▸ h.2 a ha)
  obtain ⟨b, h1, h2, h3⟩ := hg j hj
  refine ⟨b, ?_, h2, h3⟩
  unfold elq
  rw [he]
  exact h1
end TEQ
section TLW
variable {p : Program} {l : Launch} {e : Env} {R0 : Room} {s : State} {m : MethodId} {args : Array Value} {below : List Frame} {meth : Method} {c : Code} {H : Heap} {locs : List Loc} {cells slots : Nat} {Q : State → Prop} {cc : ByteArray} {nL : Nat} {own : String} {pc : Nat} {ls : Array Slot} {rest : List Value}
theorem tu_ldcw (F : CallFix p m c cc nL s args wsL_law own) {index : Nat} {v : Int32} {k : Int} (hm : Cond.constant own index v ∈ wsL_law) (hdg : decode cc pc = .ok (.ldc_w index, 3)) (hn : v.toInt = k) (kk : ∀ z : Int32, z.toInt = k → W p l e R0 s m args below meth c H locs cells slots Q (F0 m (pc + 3) ls (.int z :: rest))) : W p l e R0 s m args below meth c H locs cells slots Q (F0 m pc ls rest) := lv_ldcw F.1 F.2.1 F.2.2.2.1 (F.2.2.2.2 _ hm) hdg (kk v hn)
end TLW
