/-! scripts are read, states begin anew -/
section
variable {L : List Nat} {R O P : Nat → Nat} {f f1 f2 f3 : Nat → va_E} {Mo : List (Nat × Nat)} {Mr : List Nat} {rd : Nat}
theorem acd41 (d0 : acd Mo Mr = true) : mR Mr 41 = false := (acd_e d0).2.2.2.2.2.1
theorem IB_dp (h : IB L R O P f rd) (ow : OW L R O f) (hf : fr L R Mo Mr f f1) (d : ibd Mo Mr = true) (d0 : acd Mo Mr = true) (hrd : rd ∈ L) (hrr : R rd = 3) (hd : DP L R O P f f1) : IB L R O P f1 rd :=
  IB_go h hf d hrd hrr (fun _ hb hr _ q => AC2_fr q ow hf d0 hb hr) hd
theorem IB_zero (h : IB L R O P f rd) (ow : OW L R O f) (hf : fr L R Mo Mr f f1) (d : ibd Mo Mr = true) (d0 : acd Mo Mr = true) (hrd : rd ∈ L) (hrr : R rd = 3) {k0 i0 st0 : Nat} (hk0 : k0 ∈ L) (hr0 : R k0 = 0) (hi0 : i0 < 3) (hs0 : elq f (rfa f k0 1) i0 = some st0) (hk : KS L R st0 f f1) (hz : dg f1 st0 = 0) : IB L R O P f1 rd := by
  obtain ⟨b, st, w1, -⟩ := (h.2.1 k0 hk0 hr0).2.2.2.2.2.2 i0 hi0
  exact IB_dp h ow hf d d0 hrd hrr (DP_one h ow hf (acd_e d0).1 (acd41 d0) hk0 hr0 hi0 hs0 w1 hk (Or.inl hz))
theorem IB_read (h : IB L R O P f rd) (ow : OW L R O f) (hf : fr L R Mo Mr f f1) (d : ibd Mo Mr = true) (t1 : mI Mo 8 2 = false) (hrd : rd ∈ L) (hrr : R rd = 3) (ho : OB L R O (rfa f rd 1) f f1) : IB L R O P f1 rd := by
  refine IB_go h hf d hrd hrr (fun b hb hr hn q => (OB_ac ow ho hb hr hn).2 q) ?_
  intro k i b st hk hr hi q1 q2 q3 q4 hb hrb hs hrs hO hP q
  obtain ⟨b', st', w1, w2, w3, w4, -⟩ := (h.2.1 k hk hr).2.2.2.2.2.2 i hi
  rw [q1] at w1
  obtain rfl := Option.some.inj w1
  unfold DIG dg
  rw [hf.efl hs hrs t1, (OB_ac ow ho hb hrb w4).1]
  exact q
theorem IB_swap (h : IB L R O P f rd) (ow : OW L R O f) (hrd : rd ∈ L) (hrr : R rd = 3) {k0 i0 arr rs old st0 : Nat} (hk0 : k0 ∈ L) (hr0 : R k0 = 0) (hi0 : i0 < 3) (harr : rfa f k0 0 = arr) (hold : elq f arr i0 = some old) (hrs : rfa f rd 1 = rs) (hA : AC2 f rs) (hmR : rs ∈ L) (hrR : R rs = 6) (e1 : ∀ j, elq f1 arr j = if j = i0 then some rs else elq f arr j) (o1 : ∀ a', a' ≠ arr → f1 a' = f a') (hf1 : fr L R [] [20] f f1) (e2 : fld f2 rd 1 = .ref old) (hf2 : fr L R [(3, 1)] [3] f1 f2) (hf3 : fr L R Mo Mr f2 f3) (d3 : ibd Mo Mr = true) (c3 : acd Mo Mr = true) (hst : elq f2 (rfa f2 k0 1) i0 = some st0) (hz : dg f3 st0 = 0) (hK : KS L R st0 f2 f3) : IB L R O P f3 rd := by
  obtain ⟨h1, h2, h3⟩ := id h
  obtain ⟨y1, y2, y3, y4, y5⟩ := ibd_e d3
  obtain ⟨p1, p2, p3, p4, p5, p6, p7⟩ := h2 k0 hk0 hr0
  rw [harr] at p1 p2 p3
  have ow1 := ow.fr hf1 rfl
  have ow2 := ow1.fr hf2 rfl
  have eR : rfa f3 rd 1 = old := by rw [hf3.erf hrd hrr y3, rfa_of e2]
  have eS : ∀ k ∈ L, R k = 0 → rfa f3 k 0 = rfa f k 0 := fun k hk hr => (hf3.erf hk hr y1).trans ((hf2.erf hk hr rfl).trans (hf1.erf hk hr rfl))
  have eT2 : ∀ k ∈ L, R k = 0 → rfa f2 k 1 = rfa f k 1 := fun k hk hr => (hf2.erf hk hr rfl).trans (hf1.erf hk hr rfl)
  have eT : ∀ k ∈ L, R k = 0 → rfa f3 k 1 = rfa f k 1 := fun k hk hr => (hf3.erf hk hr y2).trans (eT2 k hk hr)
  have eU2 : ∀ k ∈ L, R k = 0 → ∀ i, elq f2 (rfa f k 1) i = elq f (rfa f k 1) i := fun k hk hr i => (hf2.eelq (h2 k hk hr).2.2.2.1 (h2 k hk hr).2.2.2.2.1 rfl i).trans (hf1.eelq (h2 k hk hr).2.2.2.1 (h2 k hk hr).2.2.2.2.1 rfl i)
  have eU : ∀ k ∈ L, R k = 0 → ∀ i, elq f3 (rfa f k 1) i = elq f (rfa f k 1) i := fun k hk hr i => (hf3.eelq (h2 k hk hr).2.2.2.1 (h2 k hk hr).2.2.2.2.1 y5 i).trans (eU2 k hk hr i)
  have eQ3 : ∀ k ∈ L, R k = 0 → ∀ i, elq f3 (rfa f k 0) i = elq f1 (rfa f k 0) i := fun k hk hr i => (hf3.eelq (h2 k hk hr).1 (h2 k hk hr).2.1 y4 i).trans (hf2.eelq (h2 k hk hr).1 (h2 k hk hr).2.1 rfl i)
  have eQ0 : elq f3 (rfa f k0 0) i0 = some rs := by rw [eQ3 k0 hk0 hr0, harr, e1, if_pos rfl]
  have eQ : ∀ k ∈ L, R k = 0 → ∀ i, ¬ (k = k0 ∧ i = i0) → elq f3 (rfa f k 0) i = elq f (rfa f k 0) i := fun k hk hr i hn => by
    rw [eQ3 k hk hr]
    by_cases e : k = k0
    · subst e
      rw [harr, e1, if_neg (fun q => hn ⟨rfl, q⟩)]
    · have : rfa f k 0 ≠ arr := fun q => e (by rw [← (h2 k hk hr).2.2.1, q, p3])
      unfold elq
      rw [o1 _ this]
  have eA : ∀ b ∈ L, R b = 6 → AC2 f b → AC2 f3 b := fun b hb hr q => AC2_fr (AC2_fr (AC2_fr q ow hf1 rfl hb hr) ow1 hf2 rfl hb hr) ow2 hf3 c3 hb hr
  have eC : ∀ b ∈ L, R b = 6 → AC0 f3 b = AC0 f b := fun b hb hr => (AC0_fr ow2 hf3 (acd_e c3).1 (acd41 c3) hb hr).trans ((AC0_fr ow1 hf2 rfl rfl hb hr).trans (AC0_fr ow hf1 rfl rfl hb hr))
  obtain ⟨b0, t0, w1, w2, w3, w4, w5, w6, w7, w8, w9, w10⟩ := p7 i0 hi0
  rw [harr, hold] at w1
  obtain rfl := Option.some.inj w1
  rw [eT2 k0 hk0 hr0, eU2 k0 hk0 hr0, w5] at hst
  obtain rfl := Option.some.inj hst
  rw [hrs] at w4
  refine ⟨fun b hb hr hn => ?_, fun k hk hr => ?_, ?_⟩
  · by_cases e : b = rs
    · rw [e]
      exact eA rs hmR hrR hA
    · exact eA b hb hr (h1 b hb hr (by rw [hrs]; exact e))
  · obtain ⟨g1, g2, g3, g4, g5, g6, g7⟩ := h2 k hk hr
    unfold BK
    rw [eS k hk hr, eT k hk hr, eR]
    refine ⟨g1, g2, g3, g4, g5, g6, fun i hi => ?_⟩
    by_cases e : k = k0 ∧ i = i0
    · obtain ⟨e3, e4⟩ := e
      subst e3 e4
      exact ⟨rs, t0, eQ0, hmR, hrR, fun q => w4 q.symm, by rw [eU k hk hr]; exact w5, w6, w7, w8, w9, Or.inl hz⟩
    · obtain ⟨b, st, v1, v2, v3, v4, v5, v6, v7, v8, v9, v10⟩ := g7 i hi
      refine ⟨b, st, by rw [eQ k hk hr i e]; exact v1, v2, v3, fun q => e ?_, by rw [eU k hk hr]; exact v5, v6, v7, v8, v9, ?_⟩
      · rw [q] at v1
        exact h3 k hk hr k0 hk0 hr0 i i0 old hi hi0 v1 (by rw [harr]; exact hold)
      · have en : st ≠ t0 := fun q => e ⟨by rw [← g6, ← v8, q, w8, p6], by rw [← v9, q, w9]⟩
        have ed : dg f3 st = dg f st := by
          unfold dg
          rw [hK st v6 v7 en, hf2.efl v6 v7 rfl, hf1.efl v6 v7 rfl]
        unfold DIG
        rw [ed, eC b v2 v3]
        exact v10
  · intro k hk hr k' hk' hr' i i' b hi hi' q q'
    rw [eS k hk hr] at q
    rw [eS k' hk' hr'] at q'
    by_cases e : k = k0 ∧ i = i0 <;> by_cases e' : k' = k0 ∧ i' = i0
    · exact ⟨e.1.trans e'.1.symm, e.2.trans e'.2.symm⟩
    · exfalso
      rw [e.1, e.2, eQ0] at q
      obtain rfl := Option.some.inj q
      rw [eQ k' hk' hr' i' e'] at q'
      obtain ⟨b, st, v1, v2, v3, v4, -⟩ := (h2 k' hk' hr').2.2.2.2.2.2 i' hi'
      rw [q'] at v1
      exact v4 ((Option.some.inj v1).symm.trans hrs.symm)
    · exfalso
      rw [e'.1, e'.2, eQ0] at q'
      obtain rfl := Option.some.inj q'
      rw [eQ k hk hr i e] at q
      obtain ⟨b, st, v1, v2, v3, v4, -⟩ := (h2 k hk hr).2.2.2.2.2.2 i hi
      rw [q] at v1
      exact v4 ((Option.some.inj v1).symm.trans hrs.symm)
    · rw [eQ k hk hr i e] at q
      rw [eQ k' hk' hr' i' e'] at q'
      exact h3 k hk hr k' hk' hr' i i' b hi hi' q q'
end
