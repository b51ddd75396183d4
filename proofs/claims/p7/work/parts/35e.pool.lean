/-! ears that heard one script; states of a search: whose they are, and their digits -/
def KO (L : List Nat) (R O : Nat → Nat) (A : Nat) (f f1 : Nat → va_E) : Prop := ∀ x ∈ L, R x = 8 → O x ≠ A → fld f1 x 2 = fld f x 2
theorem KO.rf {L : List Nat} {R O : Nat → Nat} {A : Nat} {f : Nat → va_E} : KO L R O A f f := fun _ _ _ _ => rfl
theorem KO.tr {L : List Nat} {R O : Nat → Nat} {A : Nat} {f f1 f2 : Nat → va_E} (h : KO L R O A f f1) (h1 : KO L R O A f1 f2) : KO L R O A f f2 := fun x hx hr hn => (h1 x hx hr hn).trans (h x hx hr hn)
theorem KO_fr {L : List Nat} {R O : Nat → Nat} {A : Nat} {f f1 f2 : Nat → va_E} {Mo : List (Nat × Nat)} {Mr : List Nat} (h : KO L R O A f f1) (hf : fr L R Mo Mr f1 f2) (d : mI Mo 8 2 = false) : KO L R O A f f2 := fun x hx hr hn => (hf.efl hx hr d).trans (h x hx hr hn)
theorem KO_ks {L : List Nat} {R O : Nat → Nat} {A st : Nat} {f f1 f2 : Nat → va_E} (h : KO L R O A f f1) (hk : KS L R st f1 f2) (ho : O st = A) : KO L R O A f f2 := fun x hx hr hn => (hk x hx hr (fun e => hn (by rw [e, ho]))).trans (h x hx hr hn)
def DM (L : List Nat) (R : Nat → Nat) (f f1 : Nat → va_E) (b : Nat) : Prop := ∀ x ∈ L, R x = 8 → DIG f x b → DIG f1 x b
theorem DM_rf {L : List Nat} {R : Nat → Nat} {f : Nat → va_E} {b : Nat} : DM L R f f b := fun _ _ _ h => h
theorem DM_tr {L : List Nat} {R : Nat → Nat} {f f1 f2 : Nat → va_E} {b : Nat} (h : DM L R f f1 b) (h1 : DM L R f1 f2 b) : DM L R f f2 b := fun x hx hr q => h1 x hx hr (h x hx hr q)
theorem DM_fr {L : List Nat} {R O : Nat → Nat} {f f1 : Nat → va_E} {Mo : List (Nat × Nat)} {Mr : List Nat} {b : Nat} (h : OW L R O f) (hf : fr L R Mo Mr f f1) (d1 : gd1 Mo = true) (d2 : mR Mr 41 = false) (d3 : mI Mo 8 2 = false) (hb : b ∈ L) (hr : R b = 6) : DM L R f f1 b := fun _ hx hxr q => q.fr h hf d1 d2 d3 hb hr hx hxr
theorem DM_ks {L : List Nat} {R O : Nat → Nat} {f f1 : Nat → va_E} {Mo : List (Nat × Nat)} {Mr : List Nat} {b st : Nat} (h : OW L R O f) (hf : fr L R Mo Mr f f1) (d1 : gd1 Mo = true) (d2 : mR Mr 41 = false) (hk : KS L R st f f1) (hd : DIG f1 st b) (hb : b ∈ L) (hr : R b = 6) : DM L R f f1 b := by
  intro x hx hxr q
  by_cases e : x = st
  · rw [e]
    exact hd
  · exact DIG_ks q h hf d1 d2 hk hb hr hx hxr e
/-- the states of a search s -/
def SO (L : List Nat) (R O : Nat → Nat) (f : Nat → va_E) (s : Nat) : Prop := rfa f s 12 ∈ L ∧ R (rfa f s 12) = 48 ∧ ∀ j st, elq f (rfa f s 12) j = some st → j < 6 → st ∈ L ∧ R st = 8 ∧ O st = rfa f s 12
def HB (L : List Nat) (R : Nat → Nat) (f : Nat → va_E) (s n b : Nat) : Prop := rfa f s 1 ∈ L ∧ R (rfa f s 1) = 45 ∧ ∀ i e, elq f (rfa f s 1) i = some e → i < n → e ∈ L ∧ R e = 1 ∧ rfa f e 0 = b ∧ (fi f e 2 = 0 ∨ VAL f b)
def SB (L : List Nat) (R O : Nat → Nat) (f : Nat → va_E) (s n b : Nat) : Prop := SO L R O f s ∧ HB L R f s n b
def DS (f : Nat → va_E) (s d b : Nat) : Prop := ∀ st, elq f (rfa f s 12) d = some st → DIG f st b
def gd7 (Mo : List (Nat × Nat)) (Mr : List Nat) : Bool := gd4 Mo && gd3 Mr && !(mI Mo 7 1) && !(mI Mo 7 12) && !(mI Mo 1 0) && !(mI Mo 1 2) && !(mR Mr 45) && !(mR Mr 48)
theorem gd7_e {Mo : List (Nat × Nat)} {Mr : List Nat} (d : gd7 Mo Mr = true) : gd4 Mo = true ∧ gd3 Mr = true ∧ mI Mo 7 1 = false ∧ mI Mo 7 12 = false ∧ mI Mo 1 0 = false ∧ mI Mo 1 2 = false ∧ mR Mr 45 = false ∧ mR Mr 48 = false := by
  unfold gd7 at d
  simp only [Bool.and_eq_true, Bool.not_eq_true'] at d
  obtain ⟨⟨⟨⟨⟨⟨⟨d1, d2⟩, d3⟩, d4⟩, d5⟩, d6⟩, d7⟩, d8⟩ := d
  exact ⟨d1, d2, d3, d4, d5, d6, d7, d8⟩
theorem SO_fr {L : List Nat} {R O : Nat → Nat} {f f1 : Nat → va_E} {Mo : List (Nat × Nat)} {Mr : List Nat} {s : Nat} (h : SO L R O f s) (hf : fr L R Mo Mr f f1) (d4 : mI Mo 7 12 = false) (d8 : mR Mr 48 = false) (hs : s ∈ L) (hsr : R s = 7) : SO L R O f1 s := by
  obtain ⟨h1, h2, h3⟩ := h
  have e := hf.erf hs hsr d4
  unfold SO
  rw [e]
  refine ⟨h1, h2, fun j st hj => ?_⟩
  rw [hf.eelq h1 h2 d8] at hj
  exact h3 j st hj
theorem SB_fr {L : List Nat} {R O : Nat → Nat} {f f1 : Nat → va_E} {Mo : List (Nat × Nat)} {Mr : List Nat} {s n b : Nat} (h : SB L R O f s n b) (ow : OW L R O f) (hf : fr L R Mo Mr f f1) (d : gd7 Mo Mr = true) (hs : s ∈ L) (hsr : R s = 7) (hb : b ∈ L) (hr : R b = 6) : SB L R O f1 s n b := by
  obtain ⟨d1, d2, d3, d4, d5, d6, d7, d8⟩ := gd7_e d
  refine ⟨SO_fr h.1 hf d4 d8 hs hsr, ?_⟩
  obtain ⟨h1, h2, h3⟩ := h.2
  have e := hf.erf hs hsr d3
  unfold HB
  rw [e]
  refine ⟨h1, h2, fun i x hx hi => ?_⟩
  rw [hf.eelq h1 h2 d7] at hx
  obtain ⟨q1, q2, q3, q4⟩ := h3 i x hx hi
  refine ⟨q1, q2, by rw [hf.erf q1 q2 d5]; exact q3, ?_⟩
  rw [hf.efi q1 q2 d6]
  exact q4.imp id (fun q => q.fr ow hf d1 d2 hb hr)
theorem DS_dm {L : List Nat} {R O : Nat → Nat} {f f1 : Nat → va_E} {Mo : List (Nat × Nat)} {Mr : List Nat} {s d b : Nat} (h : DS f s d b) (so : SO L R O f s) (hd : d < 6) (hf : fr L R Mo Mr f f1) (d4 : mI Mo 7 12 = false) (d8 : mR Mr 48 = false) (hs : s ∈ L) (hsr : R s = 7) (hm : DM L R f f1 b) : DS f1 s d b := by
  obtain ⟨h1, h2, h3⟩ := so
  intro st hst
  rw [hf.erf hs hsr d4, hf.eelq h1 h2 d8] at hst
  obtain ⟨q1, q2, -⟩ := h3 d st hst hd
  exact hm st q1 q2 (h st hst)
/-- what an answer to the i-th ear needs -/
theorem SB_p0 {L : List Nat} {R O : Nat → Nat} {f : Nat → va_E} {s n b i e : Nat} (h : SB L R O f s n b) (he : elq f (rfa f s 1) i = some e) (hi : i < n) : fi f e 2 = 0 ∨ VAL f (rfa f e 0) := by
  obtain ⟨-, -, q3, q4⟩ := h.2.2.2 i e he hi
  rw [q3]
  exact q4
theorem SB_b {L : List Nat} {R O : Nat → Nat} {f : Nat → va_E} {s n b i e : Nat} (h : SB L R O f s n b) (he : elq f (rfa f s 1) i = some e) (hi : i < n) : rfa f e 0 = b := (h.2.2.2 i e he hi).2.2.1
theorem elq_a {f : Nat → va_E} {s k a j b : Nat} (h : fld f s k = .ref a) (he : elq f a j = some b) : elq f (rfa f s k) j = some b := by
  rw [rfa_of h]
  exact he
theorem dg0_DIG {f : Nat → va_E} {st b : Nat} (h : dg f st = 0) : DIG f st b := Or.inl h
/-- one state is as it should be: it is the d-th -/
theorem DS_one {f : Nat → va_E} {s d b st : Nat} (he : elq f (rfa f s 12) d = some st) (hd : DIG f st b) : DS f s d b := by
  intro x hx
  rw [he] at hx
  cases hx
  exact hd
theorem SB_e1 {L : List Nat} {R O : Nat → Nat} {f f1 : Nat → va_E} {Mo : List (Nat × Nat)} {Mr : List Nat} {s n b : Nat} (h : SB L R O f s n b) (hf : fr L R Mo Mr f f1) (d : gd7 Mo Mr = true) (hs : s ∈ L) (hsr : R s = 7) (j : Nat) : elq f1 (rfa f1 s 1) j = elq f (rfa f s 1) j := by
  obtain ⟨d1, d2, d3, d4, d5, d6, d7, d8⟩ := gd7_e d
  rw [hf.erf hs hsr d3]
  exact hf.eelq h.2.1 h.2.2.1 d7 j
theorem SB_e12 {L : List Nat} {R O : Nat → Nat} {f f1 : Nat → va_E} {Mo : List (Nat × Nat)} {Mr : List Nat} {s n b : Nat} (h : SB L R O f s n b) (hf : fr L R Mo Mr f f1) (d : gd7 Mo Mr = true) (hs : s ∈ L) (hsr : R s = 7) (j : Nat) : elq f1 (rfa f1 s 12) j = elq f (rfa f s 12) j := by
  obtain ⟨d1, d2, d3, d4, d5, d6, d7, d8⟩ := gd7_e d
  rw [hf.erf hs hsr d4]
  exact hf.eelq h.1.1 h.1.2.1 d8 j
