section TAE
variable {p : Program} {l : Launch} {e : Env} {R0 : Room} {s : State} {m : MethodId} {args : Array Value} {below : List Frame} {meth : Method} {c : Code} {H H0 : Heap} {locs : List Loc} {cells slots : Nat} {Q : State → Prop} {cc : ByteArray} {nL : Nat} {own : String} {D : va_G} {cy : Nat → ClassId} {A : Nat → Prop} {L : List Nat} {R : Nat → Nat} {T : Nat → va_E → Prop} {f : Nat → va_E} {pc : Nat} {ls : Array Slot} {rest : List Value} {a ro : Nat}
theorem tu_aaldE (F : CallFix p m c cc nL s args wsL_law own) (h : tS D cy A H0 L R T f s H locs) {n t0 : Nat} {cA : ClassId} {C : String} {ro2 : Nat} {i : Int32} (ha : a ∈ L) (hr : R a = ro) (hT : ∀ e, T ro e → tQ cA n (fun _ o => ∃ b, o = some b ∧ b ∈ L ∧ R b = ro2) e) (ht : (xTy cy)[t0]? = some (cA, .object C)) (h1 : 0 ≤ i.toInt) (h2 : i.toInt < n) (hdg : decode cc pc = .ok (.aaload, 1))
    (kk : ∀ b : Nat, b ∈ L → R b = ro2 → elq f a i.toInt.toNat = some b → W p l e R0 s m args below meth c H locs cells slots Q (F0 m (pc + 1) ls (.ref b :: rest))) : W p l e R0 s m args below meth c H locs cells slots Q (F0 m pc ls (.int i :: .ref a :: rest)) := by
  obtain ⟨hx, hall⟩ := h
  obtain ⟨k, hk⟩ := va_pl_get (X := []) (f := f) ha
  obtain ⟨g, he, hg⟩ := hT _ (hr ▸ hall a ha)
  obtain ⟨b, hb1, hb2, hb3⟩ := hg i.toInt.toNat (by omega)
  exact x_aald F hx k t0 (by rw [← he]; exact hk) ht (tw_in h1 h2) (show va_rf (g i.toInt.toNat) = .ref b by rw [hb1]; rfl) hdg (kk b hb2 hb3 (by unfold elq; rw [he]; exact hb1))
theorem tu_aastE (F : CallFix p m c cc nL s args wsL_law own) (h : tS D cy A H0 L R T f s H locs) {n t0 b : Nat} {cA : ClassId} {ro2 ci : Nat} {ps : List (Value → Prop)} {r : vw_C} {i : Int32} (ha : a ∈ L) (hr : R a = ro) (hT : ∀ e, T ro e ↔ tQ cA n (fun _ o => ∃ b, o = some b ∧ b ∈ L ∧ R b = ro2) e) (ht : (xTy cy)[t0]? = some (cA, .object r.1)) (hb : b ∈ L) (hbr : R b = ro2) (hT2 : ∀ e, T ro2 e → tO ci ps e) (hc : vwCl[ci]? = some r) (h1 : 0 ≤ i.toInt) (h2 : i.toInt < n) (hdg : decode cc pc = .ok (.aastore, 1))
    (kk : ∀ (f1 : Nat → va_E) (H1 : Heap) (locs1 : List Loc), (∀ j, elq f1 a j = if j = i.toInt.toNat then some b else elq f a j) → (∀ a', a' ≠ a → f1 a' = f a') → fr L R [] [ro] f f1 → tS D cy A H0 L R T f1 s H1 locs1 → W p l e R0 s m args below meth c H1 locs1 cells slots Q (F0 m (pc + 1) ls rest)) : W p l e R0 s m args below meth c H locs cells slots Q (F0 m pc ls (.ref b :: .int i :: .ref a :: rest)) := by
  obtain ⟨hx, hall⟩ := h
  obtain ⟨k, hk⟩ := va_pl_get (X := []) (f := f) ha
  obtain ⟨kb, hkb⟩ := va_pl_get (X := []) (f := f) hb
  obtain ⟨g, he, hg⟩ := (hT _).mp (hr ▸ hall a ha)
  obtain ⟨vs, heb, -, -⟩ := hT2 _ (hbr ▸ hall b hb)
  refine x_aast F hx k t0 kb ci (by rw [← he]; exact hk) ht (by rw [← heb]; exact hkb) hc (tw_in h1 h2) hdg (va_pl_set (X := []) hx.2.1 ha hk) (fun H1 locs1 h3 => kk (va_up f a (.inl (cA, n, .inr (.inr (.inr (.inr (va_up g i.toNatClampNeg (some b)))))))) H1 locs1 (fun j => ?_) (fun a' ha' => va_up_ne _ _ ha') (fr.arr hr he (va_up_self ..) (fun a' ha' => va_up_ne _ _ ha')) ⟨h3, fun a' ha' => ?_⟩)
  · unfold elq
    rw [va_up_self, he]
    show va_up g i.toInt.toNat (some b) j = if j = i.toInt.toNat then some b else g j
    by_cases e2 : j = i.toInt.toNat
    · rw [if_pos e2, e2]
      exact va_up_self ..
    · rw [if_neg e2]
      exact va_up_ne _ _ e2
  by_cases e1 : a' = a
  · subst e1
    rw [va_up_self, hr]
    refine (hT _).mpr ⟨_, rfl, fun j hj => ?_⟩
    by_cases e2 : j = i.toNatClampNeg
    · subst e2
      exact ⟨b, va_up_self .., hb, hbr⟩
    · rw [va_up_ne _ _ e2]
      exact hg j hj
  · rw [va_up_ne _ _ e1]
    exact hall a' ha'
end TAE
