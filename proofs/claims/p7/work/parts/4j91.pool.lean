/-! a script is copied: what stands in its cells -/
def OCr (r : Nat) : Bool := OBr r || r == 39 || r == 40
def ocd (Mr : List Nat) : Bool := Mr.all (fun r => !(OCr r))
theorem ocd_r {Mr : List Nat} (d : ocd Mr = true) {r : Nat} (hr : OCr r = true) : mR Mr r = false := by
  cases hq : mR Mr r with
  | false => rfl
  | true =>
    unfold mR at hq
    rw [List.any_eq_true] at hq
    obtain ⟨q, hq1, hq2⟩ := hq
    have e1 := eq_of_beq hq2
    have h3 := List.all_eq_true.mp d q hq1
    rw [e1, hr] at h3
    exact absurd h3 (by decide)
theorem OCr_sk {k : Nat} (h : sk k) : OCr (sra k) = true := by
  rcases h with h | h | h | h | h | h | h <;> subst h <;> rfl
def CI (L : List Nat) (R O : Nat → Nat) (b c : Nat) (f0 f : Nat → va_E) (g : Nat → Nat) : Prop := OW L R O f ∧ (∀ a ∈ L, OCr (R a) = true → O a ≠ b → f a = f0 a) ∧ (∀ a ∈ L, R a = 6 → ∀ k, k < 14 → rfa f a k = rfa f0 a k) ∧ (∀ k, sk k → k ≠ 0 → ∀ j, eli f (rfa f b k) j = if j < g k then eli f0 (rfa f0 c k) j else eli f0 (rfa f0 b k) j) ∧ (∀ j, elj f (rfa f b 0) j = if j < g 0 then elj f0 (rfa f0 c 0) j else elj f0 (rfa f0 b 0) j)
section
variable {L : List Nat} {R O : Nat → Nat} {b c : Nat} {f0 f f1 : Nat → va_E} {g : Nat → Nat} {Mo : List (Nat × Nat)} {Mr : List Nat}
theorem CI_rf (h : OW L R O f0) : CI L R O b c f0 f0 (fun _ => 0) := ⟨h, fun _ _ _ _ => rfl, fun _ _ _ _ _ => rfl, fun _ _ _ j => by rw [if_neg (Nat.not_lt_zero j)], fun j => by rw [if_neg (Nat.not_lt_zero j)]⟩
theorem CI_fr (h : CI L R O b c f0 f g) (hf : fr L R Mo Mr f f1) (d1 : gd1 Mo = true) (d2 : ocd Mr = true) (hb : b ∈ L) (hr : R b = 6) : CI L R O b c f0 f1 g := by
  obtain ⟨h1, h2, h3, h4, h5⟩ := h
  refine ⟨h1.fr hf d1, fun a ha hra ho => (hf.2 a ha (ocd_r d2 hra)).trans (h2 a ha hra ho), fun a ha hra k hk => (hf.erf ha hra (gd1_k d1 hk)).trans (h3 a ha hra k hk), fun k hk hk0 j => ?_, fun j => ?_⟩
  · rw [E0i h1 hf d1 hb hr hk rfl (ocd_r d2 (OCr_sk hk))]
    exact h4 k hk hk0 j
  · rw [E0j h1 hf d1 hb hr sk0 rfl (ocd_r d2 (OCr_sk sk0))]
    exact h5 j
theorem CI_put (h : CI L R O b c f0 f g) (hf : fr L R Mo [6] f f1) (ho : ∀ a', a' ≠ b → f1 a' = f a') (d1 : gd1 Mo = true) (hb : b ∈ L) (hr : R b = 6) : CI L R O b c f0 f1 g := by
  obtain ⟨h1, h2, h3, h4, h5⟩ := h
  refine ⟨h1.fr hf d1, fun a ha hra hn => (ho a (fun e => hn (by rw [e]; exact (h1 b hb hr).1))).trans (h2 a ha hra hn), fun a ha hra k hk => (hf.erf ha hra (gd1_k d1 hk)).trans (h3 a ha hra k hk), fun k hk hk0 j => ?_, fun j => ?_⟩
  · rw [E0i h1 hf d1 hb hr hk rfl (by rcases hk with q | q | q | q | q | q | q <;> subst q <;> rfl)]
    exact h4 k hk hk0 j
  · rw [E0j h1 hf d1 hb hr sk0 rfl rfl]
    exact h5 j
theorem CI_src (h : CI L R O b c f0 f g) (h0 : OW L R O f0) (hc : c ∈ L) (hrc : R c = 6) {k : Nat} (hk : sk k) (hk0 : k ≠ 0) (j : Nat) : eli f (rfa f c k) j = eli f0 (rfa f0 c k) j := by
  obtain ⟨h1, h2, h3, h4, h5⟩ := h
  by_cases e : c = b
  · subst e
    rw [h4 k hk hk0 j]
    split <;> rfl
  · obtain ⟨q1, q2, q3, q4⟩ := (h1 c hc hrc).2 k hk
    have := h2 _ q2 (by rw [q3]; exact OCr_sk hk) (by rw [q4]; exact e)
    unfold eli
    rw [this, h3 c hc hrc k (sk_lt hk)]
theorem CI_srcj (h : CI L R O b c f0 f g) (h0 : OW L R O f0) (hc : c ∈ L) (hrc : R c = 6) (j : Nat) : elj f (rfa f c 0) j = elj f0 (rfa f0 c 0) j := by
  obtain ⟨h1, h2, h3, h4, h5⟩ := h
  by_cases e : c = b
  · subst e
    rw [h5 j]
    split <;> rfl
  · obtain ⟨q1, q2, q3, q4⟩ := (h1 c hc hrc).2 0 sk0
    have := h2 _ q2 (by rw [q3]; rfl) (by rw [q4]; exact e)
    unfold elj
    rw [this, h3 c hc hrc 0 (by decide)]
def updn (g : Nat → Nat) (k n : Nat) : Nat → Nat := fun q => if q = k then n else g q
theorem skR {k : Nat} (hk : sk k) : sra k ≠ 6 := by
  rcases hk with q | q | q | q | q | q | q <;> subst q <;> decide
theorem CI_cp (h : CI L R O b c f0 f g) (h0 : OW L R O f0) (hb : b ∈ L) (hr : R b = 6) (hc : c ∈ L) (hrc : R c = 6) {k x y : Nat} {sp dp n : Int} (hk : sk k) (hk0 : k ≠ 0) (hg : g k = 0) (hx : fld f b k = .ref x) (hy : fld f c k = .ref y) (hs : sp = 0) (hd : dp = 0) (he : ∀ j, eli f1 x j = if dp.toNat ≤ j ∧ j < dp.toNat + n.toNat then eli f y (sp.toNat + (j - dp.toNat)) else eli f x j) (ho : ∀ a', a' ≠ x → f1 a' = f a') : CI L R O b c f0 f1 (updn g k n.toNat) := by
  have hsr := CI_src h h0 hc hrc hk hk0
  obtain ⟨h1, h2, h3, h4, h5⟩ := h
  subst hs hd
  obtain ⟨q1, q2, q3, q4⟩ := (h1 b hb hr).2 k hk
  rw [rfa_of hx] at q1 q2 q3 q4
  have hx6 : R x ≠ 6 := by rw [q3]; exact skR hk
  obtain ⟨w1, w2⟩ := OW_o h1 hx6 ho
  have ne : ∀ k', sk k' → k' ≠ k → rfa f b k' ≠ x := fun k' hk' hn => by
    have := ((h1 b hb hr).2 k' hk').2.2.1
    intro e
    rw [e, q3] at this
    revert this
    rcases hk with q | q | q | q | q | q | q <;> rcases hk' with p | p | p | p | p | p | p <;> subst q <;> subst p <;> first | exact absurd rfl hn | decide
  refine ⟨w1, fun a ha hra hn => (ho a (fun e => hn (by rw [e]; exact q4))).trans (h2 a ha hra hn), fun a ha hra k' hk' => (w2 a ha hra k').trans (h3 a ha hra k' hk'), fun k' hk' hk0' j => ?_, fun j => ?_⟩
  · rw [w2 b hb hr k']
    by_cases e : k' = k
    · subst e
      have h4' := h4 k' hk' hk0' j
      rw [hg, if_neg (Nat.not_lt_zero j), rfa_of hx] at h4'
      have hsj := hsr j
      rw [rfa_of hy] at hsj
      have eg : updn g k' n.toNat k' = n.toNat := if_pos rfl
      rw [rfa_of hx, he j, eg, h4']
      by_cases hj : j < n.toNat
      · rw [if_pos hj, if_pos (by simpa using hj)]
        simpa using hsj
      · rw [if_neg hj, if_neg (by simpa using hj)]
    · have eg : updn g k n.toNat k' = g k' := if_neg e
      rw [eli_o ho (ne k' hk' e), eg]
      exact h4 k' hk' hk0' j
  · have eg : updn g k n.toNat 0 = g 0 := if_neg (fun q => hk0 q.symm)
    rw [w2 b hb hr 0, elj_o ho (ne 0 sk0 (fun q => hk0 q.symm)), eg]
    exact h5 j
theorem CI_cpj (h : CI L R O b c f0 f g) (h0 : OW L R O f0) (hb : b ∈ L) (hr : R b = 6) (hc : c ∈ L) (hrc : R c = 6) {x y : Nat} {sp dp n : Int} (hg : g 0 = 0) (hx : fld f b 0 = .ref x) (hy : fld f c 0 = .ref y) (hs : sp = 0) (hd : dp = 0) (he : ∀ j, elj f1 x j = if dp.toNat ≤ j ∧ j < dp.toNat + n.toNat then elj f y (sp.toNat + (j - dp.toNat)) else elj f x j) (ho : ∀ a', a' ≠ x → f1 a' = f a') : CI L R O b c f0 f1 (updn g 0 n.toNat) := by
  have hsr := CI_srcj h h0 hc hrc
  obtain ⟨h1, h2, h3, h4, h5⟩ := h
  subst hs hd
  obtain ⟨q1, q2, q3, q4⟩ := (h1 b hb hr).2 0 sk0
  rw [rfa_of hx] at q1 q2 q3 q4
  have hx6 : R x ≠ 6 := by rw [q3]; exact skR sk0
  obtain ⟨w1, w2⟩ := OW_o h1 hx6 ho
  have ne : ∀ k', sk k' → k' ≠ 0 → rfa f b k' ≠ x := fun k' hk' hn => by
    have := ((h1 b hb hr).2 k' hk').2.2.1
    intro e
    rw [e, q3] at this
    revert this
    rcases hk' with p | p | p | p | p | p | p <;> subst p <;> first | exact absurd rfl hn | decide
  refine ⟨w1, fun a ha hra hn => (ho a (fun e => hn (by rw [e]; exact q4))).trans (h2 a ha hra hn), fun a ha hra k' hk' => (w2 a ha hra k').trans (h3 a ha hra k' hk'), fun k' hk' hk0' j => ?_, fun j => ?_⟩
  · have eg : updn g 0 n.toNat k' = g k' := if_neg hk0'
    rw [w2 b hb hr k', eli_o ho (ne k' hk' hk0'), eg]
    exact h4 k' hk' hk0' j
  · have h5' := h5 j
    rw [hg, if_neg (Nat.not_lt_zero j), rfa_of hx] at h5'
    have hsj := hsr j
    rw [rfa_of hy] at hsj
    have eg : updn g 0 n.toNat 0 = n.toNat := if_pos rfl
    rw [w2 b hb hr 0, rfa_of hx, he j, eg, h5']
    by_cases hj : j < n.toNat
    · rw [if_pos hj, if_pos (by simpa using hj)]
      simpa using hsj
    · rw [if_neg hj, if_neg (by simpa using hj)]
theorem CI_GG (h : CI L R O b c f0 f g) (hG : GG L R O f0) (hb : b ∈ L) (hr : R b = 6) (hc : c ∈ L) (hrc : R c = 6) (h89 : g 8 = g 9) (h11 : g 11 = 100) (h12 : g 12 = 100) : GG L R O f := by
  obtain ⟨h1, h2, h3, h4, h5⟩ := h
  refine ⟨h1, fun a ha hra => ?_⟩
  by_cases e : a = b
  · subst e
    refine ⟨fun j hj => ?_, fun j hj => ?_⟩
    · rw [h4 8 sk8 (by decide) j, h4 9 sk9 (by decide) j, h89]
      by_cases q : j < g 9
      · rw [if_pos q, if_pos q]
        exact (hG.2 c hc hrc).1 j hj
      · rw [if_neg q, if_neg q]
        exact (hG.2 a ha hra).1 j hj
    · rw [h4 11 sk11 (by decide) j, h4 12 sk12 (by decide) j, h11, h12, if_pos hj, if_pos hj]
      exact (hG.2 c hc hrc).2 j hj
  · have E : ∀ k, sk k → ∀ j, eli f (rfa f a k) j = eli f0 (rfa f0 a k) j := fun k hk j => by
      obtain ⟨q1, q2, q3, q4⟩ := (h1 a ha hra).2 k hk
      have := h2 _ q2 (by rw [q3]; exact OCr_sk hk) (by rw [q4]; exact e)
      unfold eli
      rw [this, h3 a ha hra k (sk_lt hk)]
    refine ⟨fun j hj => ?_, fun j hj => ?_⟩
    · rw [E 8 sk8, E 9 sk9]
      exact (hG.2 a ha hra).1 j hj
    · rw [E 11 sk11, E 12 sk12]
      exact (hG.2 a ha hra).2 j hj
theorem CI_OB (h : CI L R O b c f0 f g) : OB L R O b f0 f := fun a ha hr ho => h.2.1 a ha (by unfold OCr; rw [hr]; rfl) ho
theorem CI_AC0 (h : CI L R O b c f0 f g) (h10 : g 10 = 25) : AC0 f b = AC0 f0 c := by
  have := h.2.2.2.1 10 sk10 (by decide) 0
  rw [h10, if_pos (by decide)] at this
  exact this
theorem CI_AC2 (h : CI L R O b c f0 f g) (h0 : AC2 f0 c) (h10 : g 10 = 25) (h11 : g 11 = 100) (h12 : g 12 = 100) (h13 : g 13 = 100) (hp : g 0 = (fi f0 c 14).toNat) (e14 : fi f b 14 = fi f0 c 14) (e17 : fi f b 17 = fi f0 c 17) (e18 : fi f b 18 = fi f0 c 18) (h4c : AC0 f0 c ≤ 4) : AC2 f b := by
  intro q
  rw [e17] at q
  obtain ⟨z1, z2, z3, z4⟩ := h0 q
  have eA := CI_AC0 h h10
  obtain ⟨h1, h2, h3, h4, h5⟩ := h
  have V : ∀ d, d < 100 → VSd f0 c d → VSd f b d := fun d hd hv => by
    unfold VSd at hv ⊢
    rw [h4 11 sk11 (by decide) d, h4 12 sk12 (by decide) d, h11, h12, if_pos hd, if_pos hd, e14]
    exact hv
  refine ⟨by rw [eA]; exact z1, fun j hj => ?_, fun d hd => ?_, ?_⟩
  · rw [e14] at hj
    rw [h5 j, hp, if_pos (by omega)]
    exact z2 j hj
  · rw [eA] at hd
    rw [h4 13 sk13 (by decide) d, h13, if_pos (by omega)]
    exact (z3 d hd).imp id (V d (by omega))
  · rw [e18]
    exact z4.imp id (V 0 (by decide))
end
