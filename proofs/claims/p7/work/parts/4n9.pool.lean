/-! three cells more: what was known of the pool stays known -/
def GW (L L1 : List Nat) (R R1 : Nat → Nat) : Prop := (∀ a ∈ L, a ∈ L1 ∧ R1 a = R a) ∧ ∀ a ∈ L1, a ∈ L ∨ R1 a = 2 ∨ R1 a = 28 ∨ R1 a = 29
section
variable {L L1 : List Nat} {R R1 O P : Nat → Nat} {f f1 : Nat → va_E} {Mo : List (Nat × Nat)} {Mr : List Nat}
theorem GW.old (g : GW L L1 R R1) {a ro : Nat} (ha : a ∈ L1) (hr : R1 a = ro) (h2 : ro ≠ 2) (h28 : ro ≠ 28) (h29 : ro ≠ 29) : a ∈ L ∧ R a = ro := by
  rcases g.2 a ha with q | q | q | q
  · exact ⟨q, (g.1 a q).2.symm.trans hr⟩
  · exact absurd (hr.symm.trans q) h2
  · exact absurd (hr.symm.trans q) h28
  · exact absurd (hr.symm.trans q) h29
theorem GW.fr (g : GW L L1 R R1) (h : fr L1 R1 Mo Mr f f1) : fr L R Mo Mr f f1 :=
  ⟨fun a ha k q => h.1 a (g.1 a ha).1 k (by rw [(g.1 a ha).2]; exact q), fun a ha q => h.2 a (g.1 a ha).1 (by rw [(g.1 a ha).2]; exact q)⟩
theorem GW.ow (g : GW L L1 R R1) (h : OW L R O f) : OW L1 R1 O f := by
  intro a ha hr
  obtain ⟨h1, h2⟩ := g.old ha hr (by decide) (by decide) (by decide)
  refine ⟨(h a h1 h2).1, fun k hk => ?_⟩
  obtain ⟨q1, q2, q3, q4⟩ := (h a h1 h2).2 k hk
  exact ⟨q1, (g.1 _ q2).1, (g.1 _ q2).2.trans q3, q4⟩
theorem GW.gg (g : GW L L1 R R1) (h : GG L R O f) : GG L1 R1 O f := ⟨g.ow h.1, fun a ha hr => by
  obtain ⟨h1, h2⟩ := g.old ha hr (by decide) (by decide) (by decide)
  exact h.2 a h1 h2⟩
theorem GW.ko (g : GW L L1 R R1) {A : Nat} (h : KO L1 R1 O A f f1) : KO L R O A f f1 := fun x hx hr ho => h x (g.1 x hx).1 ((g.1 x hx).2.trans hr) ho
theorem GW.so (g : GW L L1 R R1) {s : Nat} (h : SO L R O f s) : SO L1 R1 O f s := ⟨(g.1 _ h.1).1, (g.1 _ h.1).2.trans h.2.1, fun j st q hj => ⟨(g.1 _ (h.2.2 j st q hj).1).1, (g.1 _ (h.2.2 j st q hj).1).2.trans (h.2.2 j st q hj).2.1, (h.2.2 j st q hj).2.2⟩⟩
theorem GW.ib (g : GW L L1 R R1) {rd : Nat} (h : IB L R O P f rd) : IB L1 R1 O P f rd := by
  obtain ⟨h1, h2, h3⟩ := h
  refine ⟨fun b hb hr hn => ?_, fun k hk hr => ?_, fun k hk hr k' hk' hr' => ?_⟩
  · obtain ⟨q1, q2⟩ := g.old hb hr (by decide) (by decide) (by decide)
    exact h1 b q1 q2 hn
  · obtain ⟨q1, q2⟩ := g.old hk hr (by decide) (by decide) (by decide)
    obtain ⟨g1, g2, g3, g4, g5, g6, g7⟩ := h2 k q1 q2
    refine ⟨(g.1 _ g1).1, (g.1 _ g1).2.trans g2, g3, (g.1 _ g4).1, (g.1 _ g4).2.trans g5, g6, fun i hi => ?_⟩
    obtain ⟨b, st, w1, w2, w3, w4, w5, w6, w7, w8, w9, w10⟩ := g7 i hi
    exact ⟨b, st, w1, (g.1 _ w2).1, (g.1 _ w2).2.trans w3, w4, w5, (g.1 _ w6).1, (g.1 _ w6).2.trans w7, w8, w9, w10⟩
  · obtain ⟨q1, q2⟩ := g.old hk hr (by decide) (by decide) (by decide)
    obtain ⟨q3, q4⟩ := g.old hk' hr' (by decide) (by decide) (by decide)
    exact h3 k q1 q2 k' q3 q4
end
section
variable {s : State} {H H0 : Heap} {locs : List Loc} {D : va_G} {cy : Nat → ClassId} {A : Nat → Prop} {L : List Nat} {R : Nat → Nat} {f : Nat → va_E}
theorem x_grow {q : Nat} {u : Nat → Nat} (h : xS D cy A H0 (va_pl L f ++ pastW cy q u) s H locs) (hall : ∀ a ∈ L, TT cy L R (R a) (f a)) : ∃ (L1 : List Nat) (R1 : Nat → Nat) (f1 : Nat → va_E), tS D cy A H0 L1 R1 (TT cy L1 R1) f1 s H locs ∧ GW L L1 R R1 ∧ (∀ a ∈ L, f1 a = f a) ∧ q ∈ L1 ∧ R1 q = 2 := by
  have hD := h.2.1.1
  have hlen : (va_pl L f).length = L.length := by unfold va_pl; simp
  have w0 : (va_pl L f ++ pastW cy q u)[L.length]? = some (q, .inr (2, [.ref (u 0), .ref (u 1), .int 0, .int 0])) := by
    rw [List.getElem?_append_right (by omega), hlen, Nat.sub_self]
    rfl
  have w1 : (va_pl L f ++ pastW cy q u)[L.length + 1]? = some (u 0, .inl (cy 2, 34773, .inr (.inl (fun _ => 0)))) := by
    rw [List.getElem?_append_right (by omega), hlen, Nat.add_sub_cancel_left]
    rfl
  have w2 : (va_pl L f ++ pastW cy q u)[L.length + 2]? = some (u 1, .inl (cy 1, 202, .inl (fun _ => 0))) := by
    rw [List.getElem?_append_right (by omega), hlen, Nat.add_sub_cancel_left]
    rfl
  have wL : ∀ a ∈ L, ∃ k, k < L.length ∧ (va_pl L f ++ pastW cy q u)[k]? = some (a, f a) := fun a ha => by
    obtain ⟨k, hk, e⟩ := List.getElem_of_mem ha
    refine ⟨k, hk, ?_⟩
    rw [List.getElem?_append_left (by omega)]
    unfold va_pl
    rw [List.getElem?_map, List.getElem?_eq_getElem hk, e]
    rfl
  have nq : ∀ a ∈ L, a ≠ q := fun a ha e => by
    obtain ⟨k, hk, e2⟩ := wL a ha
    have := hD _ _ _ _ e2 w0 e
    omega
  have n0 : ∀ a ∈ L, a ≠ u 0 := fun a ha e => by
    obtain ⟨k, hk, e2⟩ := wL a ha
    have := hD _ _ _ _ e2 w1 e
    omega
  have n1 : ∀ a ∈ L, a ≠ u 1 := fun a ha e => by
    obtain ⟨k, hk, e2⟩ := wL a ha
    have := hD _ _ _ _ e2 w2 e
    omega
  have d0 : u 0 ≠ q := fun e => by have := hD _ _ _ _ w1 w0 e; omega
  have d1 : u 1 ≠ q := fun e => by have := hD _ _ _ _ w2 w0 e; omega
  have d2 : u 1 ≠ u 0 := fun e => by have := hD _ _ _ _ w2 w1 e; omega
  let f1 : Nat → va_E := fun a => if a = q then .inr (2, [.ref (u 0), .ref (u 1), .int 0, .int 0]) else if a = u 0 then .inl (cy 2, 34773, .inr (.inl (fun _ => 0))) else if a = u 1 then .inl (cy 1, 202, .inl (fun _ => 0)) else f a
  let R1 : Nat → Nat := fun a => if a = q then 2 else if a = u 0 then 28 else if a = u 1 then 29 else R a
  have ef : ∀ a ∈ L, f1 a = f a := fun a ha => by
    show (if a = q then _ else if a = u 0 then _ else if a = u 1 then _ else f a) = f a
    rw [if_neg (nq a ha), if_neg (n0 a ha), if_neg (n1 a ha)]
  have eR : ∀ a ∈ L, R1 a = R a := fun a ha => by
    show (if a = q then _ else if a = u 0 then _ else if a = u 1 then _ else R a) = R a
    rw [if_neg (nq a ha), if_neg (n0 a ha), if_neg (n1 a ha)]
  have fq : f1 q = .inr (2, [.ref (u 0), .ref (u 1), .int 0, .int 0]) := if_pos rfl
  have f0 : f1 (u 0) = .inl (cy 2, 34773, .inr (.inl (fun _ => 0))) := (if_neg d0).trans (if_pos rfl)
  have f2 : f1 (u 1) = .inl (cy 1, 202, .inl (fun _ => 0)) := (if_neg d1).trans ((if_neg d2).trans (if_pos rfl))
  have rq : R1 q = 2 := if_pos rfl
  have r0 : R1 (u 0) = 28 := (if_neg d0).trans (if_pos rfl)
  have r1 : R1 (u 1) = 29 := (if_neg d1).trans ((if_neg d2).trans (if_pos rfl))
  have ew : va_pl (L ++ [q, u 0, u 1]) f1 = va_pl L f ++ pastW cy q u := by
    unfold va_pl
    rw [List.map_append]
    congr 1
    · exact List.map_congr_left (fun a ha => by rw [ef a ha])
    · show [(q, f1 q), (u 0, f1 (u 0)), (u 1, f1 (u 1))] = pastW cy q u
      rw [fq, f0, f2]
      rfl
  have hm : ∀ a ∈ L, a ∈ L ++ [q, u 0, u 1] ∧ R1 a = R a := fun a ha => ⟨List.mem_append_left _ ha, eR a ha⟩
  have mq : q ∈ L ++ [q, u 0, u 1] := by simp
  have m0 : u 0 ∈ L ++ [q, u 0, u 1] := by simp
  have m1 : u 1 ∈ L ++ [q, u 0, u 1] := by simp
  have cs : ∀ a ∈ L ++ [q, u 0, u 1], a ∈ L ∨ a = q ∨ a = u 0 ∨ a = u 1 := fun a ha => by
    rcases List.mem_append.mp ha with z | z
    · exact Or.inl z
    · simp at z
      exact Or.inr z
  refine ⟨L ++ [q, u 0, u 1], R1, f1, ⟨by rw [ew]; exact h, fun a ha => ?_⟩, ⟨hm, fun a ha => ?_⟩, ef, mq, rq⟩
  · rcases cs a ha with z | z | z | z
    · rw [eR a z, ef a z]
      exact TT_mono hm (hall a z)
    · rw [z, rq, fq]
      refine (T_2 _).mpr ⟨_, rfl, rfl, fun k p v hp hv => ?_⟩
      match k, hp, hv with
      | 0, hp, hv => cases hp; cases hv; exact ⟨_, rfl, m0, r0⟩
      | 1, hp, hv => cases hp; cases hv; exact ⟨_, rfl, m1, r1⟩
      | 2, hp, hv => cases hp; cases hv; exact ⟨0, rfl, by decide, by decide⟩
      | 3, hp, hv => cases hp; cases hv; exact ⟨0, rfl, by decide, by decide⟩
      | k + 4, hp, hv => simp at hv
    · rw [z, r0, f0]
      exact (T_28 _).mpr ⟨_, rfl, fun _ _ => trivial⟩
    · rw [z, r1, f2]
      exact (T_29 _).mpr ⟨_, rfl, fun _ _ => ⟨by decide, by decide⟩⟩
  · rcases cs a ha with z | z | z | z
    · exact Or.inl z
    · exact Or.inr (Or.inl (by rw [z]; exact rq))
    · exact Or.inr (Or.inr (Or.inl (by rw [z]; exact r0)))
    · exact Or.inr (Or.inr (Or.inr (by rw [z]; exact r1)))
end
