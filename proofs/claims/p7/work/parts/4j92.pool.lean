/-! books, their scripts and states, the reader's script -/
def BK (L : List Nat) (R O P : Nat → Nat) (f : Nat → va_E) (k x : Nat) : Prop := rfa f k 0 ∈ L ∧ R (rfa f k 0) = 20 ∧ O (rfa f k 0) = k ∧ rfa f k 1 ∈ L ∧ R (rfa f k 1) = 21 ∧ O (rfa f k 1) = k ∧ ∀ i, i < 3 → ∃ b st, elq f (rfa f k 0) i = some b ∧ b ∈ L ∧ R b = 6 ∧ b ≠ x ∧ elq f (rfa f k 1) i = some st ∧ st ∈ L ∧ R st = 8 ∧ O st = rfa f k 1 ∧ P st = i ∧ DIG f st b
def BJ (L : List Nat) (R : Nat → Nat) (f : Nat → va_E) : Prop := ∀ k ∈ L, R k = 0 → ∀ k' ∈ L, R k' = 0 → ∀ i i' b, i < 3 → i' < 3 → elq f (rfa f k 0) i = some b → elq f (rfa f k' 0) i' = some b → k = k' ∧ i = i'
def IB (L : List Nat) (R O P : Nat → Nat) (f : Nat → va_E) (rd : Nat) : Prop := (∀ b ∈ L, R b = 6 → b ≠ rfa f rd 1 → AC2 f b) ∧ (∀ k ∈ L, R k = 0 → BK L R O P f k (rfa f rd 1)) ∧ BJ L R f
def ibd (Mo : List (Nat × Nat)) (Mr : List Nat) : Bool := !(mI Mo 0 0) && !(mI Mo 0 1) && !(mI Mo 3 1) && !(mR Mr 20) && !(mR Mr 21)
theorem ibd_e {Mo : List (Nat × Nat)} {Mr : List Nat} (d : ibd Mo Mr = true) : mI Mo 0 0 = false ∧ mI Mo 0 1 = false ∧ mI Mo 3 1 = false ∧ mR Mr 20 = false ∧ mR Mr 21 = false := by
  unfold ibd at d
  simp only [Bool.and_eq_true, Bool.not_eq_true'] at d
  obtain ⟨⟨⟨⟨d1, d2⟩, d3⟩, d4⟩, d5⟩ := d
  exact ⟨d1, d2, d3, d4, d5⟩
def acd (Mo : List (Nat × Nat)) (Mr : List Nat) : Bool := gd4 Mo && gd3 Mr && !(mI Mo 6 14) && !(mI Mo 6 17)
theorem acd_e {Mo : List (Nat × Nat)} {Mr : List Nat} (d : acd Mo Mr = true) : gd1 Mo = true ∧ mI Mo 6 18 = false ∧ mI Mo 6 14 = false ∧ mI Mo 6 17 = false ∧ mR Mr 35 = false ∧ mR Mr 41 = false ∧ mR Mr 42 = false ∧ mR Mr 43 = false ∧ mR Mr 44 = false := by
  unfold acd at d
  simp only [Bool.and_eq_true, Bool.not_eq_true'] at d
  obtain ⟨⟨⟨d1, d2⟩, d3⟩, d4⟩ := d
  unfold gd3 at d2
  simp only [Bool.and_eq_true, Bool.not_eq_true'] at d2
  obtain ⟨⟨⟨⟨e1, e2⟩, e3⟩, e4⟩, e5⟩ := d2
  exact ⟨(gd4_e d1).1, (gd4_e d1).2, d3, d4, e1, e2, e3, e4, e5⟩
section
variable {L : List Nat} {R O P : Nat → Nat} {f f1 f2 : Nat → va_E} {Mo Mo2 : List (Nat × Nat)} {Mr Mr2 : List Nat} {rd : Nat}
theorem AC2_of {b : Nat} (h : AC2 f b) (e14 : fi f1 b 14 = fi f b 14) (e17 : fi f1 b 17 = fi f b 17) (e18 : fi f1 b 18 = fi f b 18) (e0 : ∀ j, elj f1 (rfa f1 b 0) j = elj f (rfa f b 0) j) (e10 : ∀ j, eli f1 (rfa f1 b 10) j = eli f (rfa f b 10) j) (e11 : ∀ j, eli f1 (rfa f1 b 11) j = eli f (rfa f b 11) j) (e12 : ∀ j, eli f1 (rfa f1 b 12) j = eli f (rfa f b 12) j) (e13 : ∀ j, eli f1 (rfa f1 b 13) j = eli f (rfa f b 13) j) : AC2 f1 b := by
  intro q
  rw [e17] at q
  obtain ⟨z1, z2, z3, z4⟩ := h q
  have eA : AC0 f1 b = AC0 f b := e10 0
  have V : ∀ d, VSd f b d → VSd f1 b d := fun d hv => by
    unfold VSd at hv ⊢
    rw [e11, e12, e14]
    exact hv
  refine ⟨by rw [eA]; exact z1, fun j hj => ?_, fun d hd => ?_, ?_⟩
  · rw [e14] at hj
    rw [e0]
    exact z2 j hj
  · rw [eA] at hd
    rw [e13]
    exact (z3 d hd).imp id (V d)
  · rw [e18]
    exact z4.imp id (V 0)
theorem AC2_fr {b : Nat} (h : AC2 f b) (ow : OW L R O f) (hf : fr L R Mo Mr f f1) (d : acd Mo Mr = true) (hb : b ∈ L) (hr : R b = 6) : AC2 f1 b := by
  obtain ⟨g1, d18, d14, d17, d35, d41, d42, d43, d44⟩ := acd_e d
  exact AC2_of h (hf.efi hb hr d14) (hf.efi hb hr d17) (hf.efi hb hr d18) (E0j ow hf g1 hb hr sk0 rfl d35) (E0i ow hf g1 hb hr sk10 rfl d41) (E0i ow hf g1 hb hr sk11 rfl d42) (E0i ow hf g1 hb hr sk12 rfl d43) (E0i ow hf g1 hb hr sk13 rfl d44)
/-- scripts that aren't the one written -/
theorem OB_cell {b x : Nat} (ow : OW L R O f) (h : OB L R O x f f1) (hb : b ∈ L) (hr : R b = 6) (hn : b ≠ x) : f1 b = f b ∧ ∀ k, sk k → k ≠ 8 → k ≠ 9 → f1 (rfa f b k) = f (rfa f b k) := by
  refine ⟨h b hb (by rw [hr]; rfl) (by rw [(ow b hb hr).1]; exact hn), fun k hk h8 h9 => ?_⟩
  obtain ⟨q1, q2, q3, q4⟩ := (ow b hb hr).2 k hk
  refine h _ q2 ?_ (by rw [q4]; exact hn)
  rw [q3]
  rcases hk with q | q | q | q | q | q | q <;> subst q <;> first | rfl | exact absurd rfl h8 | exact absurd rfl h9
theorem OB_ac {b x : Nat} (ow : OW L R O f) (h : OB L R O x f f1) (hb : b ∈ L) (hr : R b = 6) (hn : b ≠ x) : AC0 f1 b = AC0 f b ∧ (AC2 f b → AC2 f1 b) := by
  obtain ⟨c1, c2⟩ := OB_cell ow h hb hr hn
  have er : ∀ k, rfa f1 b k = rfa f b k := fun k => by unfold rfa fld; rw [c1]
  have ef : ∀ k, fi f1 b k = fi f b k := fun k => by unfold fi fld; rw [c1]
  have ei : ∀ k, sk k → k ≠ 8 → k ≠ 9 → ∀ j, eli f1 (rfa f1 b k) j = eli f (rfa f b k) j := fun k hk h8 h9 j => by rw [er]; unfold eli; rw [c2 k hk h8 h9]
  refine ⟨ei 10 sk10 (by decide) (by decide) 0, fun q => AC2_of q (ef 14) (ef 17) (ef 18) (fun j => by rw [er]; unfold elj; rw [c2 0 sk0 (by decide) (by decide)]) (ei 10 sk10 (by decide) (by decide)) (ei 11 sk11 (by decide) (by decide)) (ei 12 sk12 (by decide) (by decide)) (ei 13 sk13 (by decide) (by decide))⟩
def DP (L : List Nat) (R O P : Nat → Nat) (f f1 : Nat → va_E) : Prop := ∀ k i b st, k ∈ L → R k = 0 → i < 3 → elq f (rfa f k 0) i = some b → elq f (rfa f k 1) i = some st → R (rfa f k 1) = 21 → O (rfa f k 1) = k → b ∈ L → R b = 6 → st ∈ L → R st = 8 → O st = rfa f k 1 → P st = i → DIG f st b → DIG f1 st b
/-- books stand where they stood -/
theorem IB_go (h : IB L R O P f rd) (hf : fr L R Mo Mr f f1) (d : ibd Mo Mr = true) (hrd : rd ∈ L) (hrr : R rd = 3) (ha : ∀ b ∈ L, R b = 6 → b ≠ rfa f rd 1 → AC2 f b → AC2 f1 b) (hd : DP L R O P f f1) : IB L R O P f1 rd := by
  obtain ⟨d1, d2, d3, d4, d5⟩ := ibd_e d
  obtain ⟨h1, h2, h3⟩ := h
  have e1 := hf.erf hrd hrr d3
  have eS : ∀ k ∈ L, R k = 0 → rfa f1 k 0 = rfa f k 0 := fun k hk hr => hf.erf hk hr d1
  have eT : ∀ k ∈ L, R k = 0 → rfa f1 k 1 = rfa f k 1 := fun k hk hr => hf.erf hk hr d2
  have eQ : ∀ k ∈ L, R k = 0 → ∀ i, elq f1 (rfa f k 0) i = elq f (rfa f k 0) i := fun k hk hr i => hf.eelq (h2 k hk hr).1 (h2 k hk hr).2.1 d4 i
  have eU : ∀ k ∈ L, R k = 0 → ∀ i, elq f1 (rfa f k 1) i = elq f (rfa f k 1) i := fun k hk hr i => hf.eelq (h2 k hk hr).2.2.2.1 (h2 k hk hr).2.2.2.2.1 d5 i
  refine ⟨fun b hb hr hn => ha b hb hr (by rw [← e1]; exact hn) (h1 b hb hr (by rw [← e1]; exact hn)), fun k hk hr => ?_, fun k hk hr k' hk' hr' i i' b hi hi' hq hq' => ?_⟩
  · obtain ⟨g1, g2, g3, g4, g5, g6, g7⟩ := h2 k hk hr
    unfold BK
    rw [eS k hk hr, eT k hk hr, e1]
    refine ⟨g1, g2, g3, g4, g5, g6, fun i hi => ?_⟩
    obtain ⟨b, st, w1, w2, w3, w4, w5, w6, w7, w8, w9, w10⟩ := g7 i hi
    exact ⟨b, st, by rw [eQ k hk hr]; exact w1, w2, w3, w4, by rw [eU k hk hr]; exact w5, w6, w7, w8, w9, hd k i b st hk hr hi w1 w5 g5 g6 w2 w3 w6 w7 w8 w9 w10⟩
  · rw [eS k hk hr, eQ k hk hr] at hq
    rw [eS k' hk' hr', eQ k' hk' hr'] at hq'
    exact h3 k hk hr k' hk' hr' i i' b hi hi' hq hq'
theorem DP_fr (ow : OW L R O f) (hf : fr L R Mo Mr f f1) (d1 : gd1 Mo = true) (d2 : mR Mr 41 = false) (d3 : mI Mo 8 2 = false) : DP L R O P f f1 := fun _ _ _ _ _ _ _ _ _ _ _ hb hrb hs hrs _ _ q => q.fr ow hf d1 d2 d3 hb hrb hs hrs
theorem IB_fr (h : IB L R O P f rd) (ow : OW L R O f) (hf : fr L R Mo Mr f f1) (d : ibd Mo Mr = true) (d0 : acd Mo Mr = true) (d3 : mI Mo 8 2 = false) (hrd : rd ∈ L) (hrr : R rd = 3) : IB L R O P f1 rd :=
  IB_go h hf d hrd hrr (fun _ hb hr _ q => AC2_fr q ow hf d0 hb hr) (DP_fr ow hf (acd_e d0).1 (acd_e d0).2.2.2.2.2.1 d3)
/-- only states that no book has have changed -/
theorem DP_ko (ow : OW L R O f) (hf : fr L R Mo Mr f f1) (d1 : gd1 Mo = true) (d2 : mR Mr 41 = false) {A : Nat} (hk : KO L R O A f f1) (hA : R A = 48) : DP L R O P f f1 := fun k i b st hk0 hr0 hi q1 q2 q3 q4 hb hrb hs hrs ho hp q => by
  have e : dg f1 st = dg f st := by
    unfold dg
    rw [hk st hs hrs (fun e => by rw [← e, ho, q3] at hA; exact absurd hA (by decide))]
  unfold DIG
  rw [e, AC0_fr ow hf d1 d2 hb hrb]
  exact q
/-- a state of a book has another digit -/
theorem DP_one (h : IB L R O P f rd) (ow : OW L R O f) (hf : fr L R Mo Mr f f1) (d1 : gd1 Mo = true) (d2 : mR Mr 41 = false) {k0 i0 st0 b0 : Nat} (hk0 : k0 ∈ L) (hr0 : R k0 = 0) (hi0 : i0 < 3) (hs0 : elq f (rfa f k0 1) i0 = some st0) (hb0 : elq f (rfa f k0 0) i0 = some b0) (hk : KS L R st0 f f1) (hd : DIG f1 st0 b0) : DP L R O P f f1 := fun k i b st hkk hrk hi q1 q2 q3 q4 hb hrb hs hrs ho hp q => by
  obtain ⟨g1, g2, g3, g4, g5, g6, g7⟩ := h.2.1 k0 hk0 hr0
  obtain ⟨b', st', w1, w2, w3, w4, w5, w6, w7, w8, w9, w10⟩ := g7 i0 hi0
  rw [hs0] at w5
  obtain rfl := Option.some.inj w5
  by_cases e : st = st0
  · have ek : k = k0 := by rw [← q4, ← ho, e, w8, g6]
    subst ek
    have ei : i = i0 := by rw [← hp, e, w9]
    subst ei
    rw [hb0] at q1
    obtain rfl := Option.some.inj q1
    rw [e]
    exact hd
  · exact DIG_ks q ow hf d1 d2 hk hb hrb hs hrs e
theorem IB_copy (h : IB L R O P f rd) (ow : OW L R O f) (hf : fr L R Mo Mr f f1) (hf2 : fr L R Mo2 Mr2 f1 f2) (d : ibd Mo Mr = true) (d2 : ibd Mo2 Mr2 = true) (g1 : gd1 Mo = true) (t1 : mI Mo 8 2 = false) (d0 : acd Mo2 Mr2 = true) (hrd : rd ∈ L) (hrr : R rd = 3) {k c i s1 s2 t u : Nat} (hk : k ∈ L) (hrk : R k = 0) (hc : c ∈ L) (hrc : R c = 0) (hi : i < 3) (hs1 : elq f (rfa f k 0) i = some s1) (hs2 : elq f (rfa f c 0) i = some s2) (ht : elq f (rfa f k 1) i = some t) (hu : elq f (rfa f c 1) i = some u) (ho : OB L R O s1 f f1) (ha : AC2 f s2 → AC2 f1 s1) (he : AC0 f1 s1 = AC0 f s2) (hq : fld f2 t 2 = fld f1 u 2) (hK : KS L R t f1 f2) : IB L R O P f2 rd := by
  obtain ⟨h1, h2, h3⟩ := id h
  obtain ⟨p1, p2, p3, p4, p5, p6, p7⟩ := h2 k hk hrk
  obtain ⟨b1, st1, w1, w2, w3, w4, w5, w6, w7, w8, w9, w10⟩ := p7 i hi
  rw [hs1] at w1
  rw [ht] at w5
  obtain rfl := Option.some.inj w1
  obtain rfl := Option.some.inj w5
  obtain ⟨r1, r2, r3, r4, r5, r6, r7⟩ := h2 c hc hrc
  obtain ⟨b2, st2, v1, v2, v3, v4, v5, v6, v7, v8, v9, v10⟩ := r7 i hi
  rw [hs2] at v1
  rw [hu] at v5
  obtain rfl := Option.some.inj v1
  obtain rfl := Option.some.inj v5
  have ow1 := ow.fr hf g1
  have z41 := (acd_e d0).2.2.2.2.2.1
  have z1 := (acd_e d0).1
  have hf12 : fr L R (Mo ++ Mo2) (Mr ++ Mr2) f f2 := by
    refine ⟨fun a haL kk q => ?_, fun a haL q => ?_⟩
    · have q' : mI Mo (R a) kk = false ∧ mI Mo2 (R a) kk = false := by
        unfold mI at q ⊢
        rw [List.any_append, Bool.or_eq_false_iff] at q
        exact q
      exact (hf2.1 a haL kk q'.2).trans (hf.1 a haL kk q'.1)
    · have q' : mR Mr (R a) = false ∧ mR Mr2 (R a) = false := by
        unfold mR at q ⊢
        rw [List.any_append, Bool.or_eq_false_iff] at q
        exact q
      exact (hf2.2 a haL q'.2).trans (hf.2 a haL q'.1)
  have d12 : ibd (Mo ++ Mo2) (Mr ++ Mr2) = true := by
    obtain ⟨x1, x2, x3, x4, x5⟩ := ibd_e d
    obtain ⟨y1, y2, y3, y4, y5⟩ := ibd_e d2
    unfold mI at x1 x2 x3 y1 y2 y3
    unfold mR at x4 x5 y4 y5
    unfold ibd mI mR
    simp only [List.any_append, x1, x2, x3, x4, x5, y1, y2, y3, y4, y5]
    rfl
  refine IB_go h hf12 d12 hrd hrr (fun b hb hr hn q => ?_) ?_
  · refine AC2_fr ?_ ow1 hf2 d0 hb hr
    by_cases e : b = s1
    · rw [e]
      exact ha (h1 s2 v2 v3 v4)
    · exact (OB_ac ow ho hb hr e).2 q
  · intro k' i' b st hk' hr' hi' q1 q2 q3 q4 hb hrb hs hrs hO hP q
    by_cases e : st = t
    · have ek : k' = k := by rw [← q4, ← hO, e, w8, p6]
      subst ek
      have ei : i' = i := by rw [← hP, e, w9]
      subst ei
      rw [hs1] at q1
      obtain rfl := Option.some.inj q1
      have ed : dg f2 st = dg f u := by
        unfold dg
        rw [e, hq, hf.efl v6 v7 t1]
      unfold DIG
      rw [ed, AC0_fr ow1 hf2 z1 z41 hb hrb, he]
      exact v10
    · have hbn : b ≠ s1 := by
        intro eb
        rw [eb] at q1
        obtain ⟨a1, a2⟩ := h3 k' hk' hr' k hk hrk i' i s1 hi' hi q1 hs1
        subst a1 a2
        rw [ht] at q2
        exact e (Option.some.inj q2).symm
      have ed : dg f2 st = dg f st := by
        unfold dg
        rw [hK st hs hrs e, hf.efl hs hrs t1]
      unfold DIG
      rw [ed, AC0_fr ow1 hf2 z1 z41 hb hrb, (OB_ac ow ho hb hrb hbn).1]
      exact q
end
