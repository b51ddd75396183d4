/-! trays that hold lines -/
def LT (g t n : Nat) (f : Nat → va_E) : Prop := ∀ i, i < n → 0 ≤ elj f g (60 * t + i) ∧ elj f g (60 * t + i) ≤ 15
theorem LT.fm {L : List Nat} {R : Nat → Nat} {Mo : List (Nat × Nat)} {Mr : List Nat} {g t n : Nat} {f f1 : Nat → va_E} (h : LT g t n f) (hf : fr L R Mo Mr f f1) (mg : g ∈ L) (rg : R g = 64) (d : mR Mr 64 = false) : LT g t n f1 := fun i hi => by
  rw [hf.eelj mg rg d]
  exact h i hi
theorem GZ_2 {p q i : Nat} {x y : Int} {f f1 f2 : Nat → va_E} (h : GZ p q f) (hne : p ≠ q) (e1 : ∀ j, eli f1 p j = if j = i then x else eli f p j) (o1 : ∀ a', a' ≠ p → f1 a' = f a') (e2 : ∀ j, eli f2 q j = if j = i then y else eli f1 q j) (o2 : ∀ a', a' ≠ q → f2 a' = f1 a') (hxy : x + y ≤ 12) : GZ p q f2 := fun g hg => by
  have a1 : eli f2 p g = eli f1 p g := by unfold eli; rw [o2 p hne]
  have a2 : eli f1 q g = eli f q g := by unfold eli; rw [o1 q (Ne.symm hne)]
  rw [a1, e1, e2, a2]
  by_cases e : g = i
  · rw [if_pos e, if_pos e]
    exact hxy
  · rw [if_neg e, if_neg e]
    exact h g hg
/-! patterns that fit: where a row may begin, the next one may -/
def DPr (gc ga b : Nat) (hm : Int) (i w : Nat) (f : Nat → va_E) : Prop := eli f gc (13 * i + w) = 1 → (elj f ga (b + i) = -1 ∧ ∃ u : Nat, w ≤ u ∧ (u : Int) ≤ hm ∧ eli f gc (13 * (i + 1) + u) = 1) ∨ (elj f ga (b + i) ≠ -1 ∧ (w : Int) < hm ∧ eli f gc (13 * (i + 1) + (w + 1)) = 1)
def DPA (gc ga b : Nat) (hm : Int) (n i w : Int) (f : Nat → va_E) : Prop := ∀ i' w' : Nat, ((i' : Int) = i ∧ w < w' ∨ i < i') → (i' : Int) < n → (w' : Int) ≤ hm → DPr gc ga b hm i' w' f
def DQ (gc : Nat) (hm it : Int) (i w : Nat) (f : Nat → va_E) : Prop := (it = -1 ∧ (eli f gc (13 * (i + 1) + w) = 1 ∨ ((w : Int) < hm ∧ eli f gc (13 * i + (w + 1)) = 1))) ∨ (it ≠ -1 ∧ (w : Int) < hm ∧ eli f gc (13 * (i + 1) + (w + 1)) = 1)
theorem DPA.fm {L : List Nat} {R : Nat → Nat} {Mo : List (Nat × Nat)} {Mr : List Nat} {gc ga b : Nat} {hm n i w : Int} {f f1 : Nat → va_E} (h : DPA gc ga b hm n i w f) (hf : fr L R Mo Mr f f1) (mc : gc ∈ L) (rc : R gc = 68) (mg : ga ∈ L) (rg : R ga = 61) (d : mR Mr 68 = false) (d2 : mR Mr 61 = false) : DPA gc ga b hm n i w f1 := fun i' w' h1 h2 h3 h4 => by
  have q := h i' w' h1 h2 h3
  unfold DPr at q
  rw [hf.eeli mc rc d] at h4
  rw [hf.eelj mg rg d2]
  simp only [hf.eeli mc rc d]
  exact q h4
theorem DPA_0 {gc ga b : Nat} {hm n i w : Int} {f : Nat → va_E} (hi : n ≤ i + 1) (hw : hm ≤ w) : DPA gc ga b hm n i w f := fun i' w' h1 h2 h3 => by
  exfalso
  omega
theorem DPA_row {gc ga b : Nat} {hm n i w : Int} {f : Nat → va_E} (h : DPA gc ga b hm n i w f) (hw : w < 0) : DPA gc ga b hm n (i - 1) hm f := fun i' w' h1 h2 h3 => h i' w' (by omega) h2 h3
theorem DPA_st {gc ga b : Nat} {hm n i w x it : Int} {f f1 : Nat → va_E} (h : DPA gc ga b hm n i w f) (hi : 0 ≤ i) (hw : 0 ≤ w ∧ w ≤ hm ∧ hm ≤ 12) (e : ∀ j, eli f1 gc j = if j = 13 * i.toNat + w.toNat then x else eli f gc j) (o : elj f1 ga (b + i.toNat) = elj f ga (b + i.toNat)) (og : ∀ j, elj f1 ga j = elj f ga j) (hit : i < n → it = elj f ga (b + i.toNat)) (hx : x = 1 → i < n → DQ gc hm it i.toNat w.toNat f) : DPA gc ga b hm n i (w - 1) f1 := fun i' w' h1 h2 h3 h4 => by
  have hs : ∀ j, j ≠ 13 * i.toNat + w.toNat → eli f1 gc j = eli f gc j := fun j hj => by rw [e, if_neg hj]
  by_cases hc : i' = i.toNat ∧ w' = w.toNat
  · obtain ⟨rfl, rfl⟩ := hc
    rw [e, if_pos rfl] at h4
    rw [og]
    rcases hx h4 (by omega) with ⟨q1, q2⟩ | ⟨q1, q2, q3⟩
    · left
      refine ⟨by rw [← hit (by omega)]; exact q1, ?_⟩
      rcases q2 with q2 | ⟨q2, q3⟩
      · exact ⟨w.toNat, by omega, by omega, by rw [hs _ (by omega)]; exact q2⟩
      · have q4 := h i.toNat (w.toNat + 1) (by omega) h2 (by omega) q3
        rcases q4 with ⟨-, u, u1, u2, u3⟩ | ⟨u1, -⟩
        · exact ⟨u, by omega, u2, by rw [hs _ (by omega)]; exact u3⟩
        · exact absurd (by rw [← hit (by omega)]; exact q1) u1
    · right
      refine ⟨by rw [← hit (by omega)]; exact q1, q2, by rw [hs _ (by omega)]; exact q3⟩
  · have n1 : 13 * i' + w' ≠ 13 * i.toNat + w.toNat := by omega
    have n2 : ∀ u : Nat, 13 * (i' + 1) + u ≠ 13 * i.toNat + w.toNat := fun u => by omega
    have n3 : (i' : Int) = i ∧ w < w' ∨ i < i' := by omega
    rw [hs _ n1] at h4
    rw [og]
    rcases h i' w' n3 h2 h3 h4 with ⟨q1, u, u1, u2, u3⟩ | ⟨q1, q2, q3⟩
    · exact Or.inl ⟨q1, u, u1, u2, by rw [hs _ (n2 u)]; exact u3⟩
    · exact Or.inr ⟨q1, q2, by rw [hs _ (n2 _)]; exact q3⟩
theorem tw_subL {x y : Int64} (h1 : -9223372036854775808 ≤ x.toInt - y.toInt) (h2 : x.toInt - y.toInt ≤ 9223372036854775807) : (x - y).toInt = x.toInt - y.toInt := by
  rw [Int64.toInt_sub]
  exact Int.bmod_eq_of_le (by omega) (by omega)
theorem tw_mulL {x y : Int64} (h1 : -9223372036854775808 ≤ x.toInt * y.toInt) (h2 : x.toInt * y.toInt ≤ 9223372036854775807) : (x * y).toInt = x.toInt * y.toInt := by
  rw [Int64.toInt_mul]
  exact Int.bmod_eq_of_le (by omega) (by omega)
section T28
variable {p : Program} {l : Launch} {e : Env} {R0 : Room} {s : State} {m : MethodId} {args : Array Value} {below : List Frame} {meth : Method} {c : Code} {H H0 : Heap} {locs : List Loc} {cells slots : Nat} {Q : State → Prop} {cc : ByteArray} {nL : Nat} {own : String} {pc : Nat} {ls : Array Slot} {rest : List Value}
theorem tu_lsub (F : CallFix p m c cc nL s args wsL_law own) {x y : Int64} (hdg : decode cc pc = .ok (.lsub, 1)) (h1 : -9223372036854775808 ≤ x.toInt - y.toInt ∧ x.toInt - y.toInt ≤ 9223372036854775807) (kk : ∀ z : Int64, z.toInt = x.toInt - y.toInt → W p l e R0 s m args below meth c H locs cells slots Q (F0 m (pc + 1) ls (.long z :: rest))) : W p l e R0 s m args below meth c H locs cells slots Q (F0 m pc ls (.long y :: .long x :: rest)) := lv_lsub F.1 F.2.1 hdg (kk _ (tw_subL h1.1 h1.2))
theorem tu_lmull (F : CallFix p m c cc nL s args wsL_law own) {x y : Int64} {n : Int} (hdg : decode cc pc = .ok (.lmul, 1)) (hx : x.toInt = n) (h1 : -9223372036854775808 ≤ n * y.toInt ∧ n * y.toInt ≤ 9223372036854775807) (kk : ∀ z : Int64, z.toInt = n * y.toInt → W p l e R0 s m args below meth c H locs cells slots Q (F0 m (pc + 1) ls (.long z :: rest))) : W p l e R0 s m args below meth c H locs cells slots Q (F0 m pc ls (.long y :: .long x :: rest)) := lv_lmul F.1 F.2.1 hdg (kk _ (by rw [tw_mulL (by rw [hx]; exact h1.1) (by rw [hx]; exact h1.2), hx]))
end T28
theorem DPA_e {gc ga b : Nat} {hm n i w v : Int} {f : Nat → va_E} (h : DPA gc ga b hm n i w f) (e : w = v) : DPA gc ga b hm n i v f := e ▸ h
theorem DPA_ei {gc ga b : Nat} {hm n i w k : Int} {f : Nat → va_E} (h : DPA gc ga b hm n i w f) (e : i = k) : DPA gc ga b hm n k w f := e ▸ h
theorem DP_0 {gc ga b i w : Nat} {hm x t : Int} {f : Nat → va_E} (h : DPr gc ga b hm i w f) (h1 : eli f gc (13 * i + w) = 1) (h2 : elj f ga (b + i) = -1) (hx : x = w) (ht : t = 0) : ∃ u : Nat, x + t ≤ u ∧ (u : Int) ≤ hm ∧ eli f gc (13 * (i + 1) + u) = 1 := by
  rcases h h1 with ⟨-, u, u1, u2, u3⟩ | ⟨u1, -⟩
  · exact ⟨u, by omega, u2, u3⟩
  · exact absurd h2 u1
theorem DP_1 {gc ga b i w : Nat} {hm x t : Int} {f : Nat → va_E} (h : DPr gc ga b hm i w f) (h1 : eli f gc (13 * i + w) = 1) (h2 : elj f ga (b + i) ≠ -1) (hx : x = w) (ht : t = 1) : ∃ u : Nat, x + t ≤ u ∧ (u : Int) ≤ hm ∧ eli f gc (13 * (i + 1) + u) = 1 := by
  rcases h h1 with ⟨u1, -⟩ | ⟨-, u2, u3⟩
  · exact absurd u1 h2
  · exact ⟨w + 1, by omega, by omega, u3⟩
theorem DP_s {gc i j : Nat} {hm x t t' : Int} {f : Nat → va_E} (h : ∃ u : Nat, x + t ≤ u ∧ (u : Int) ≤ hm ∧ eli f gc (13 * (i + 1) + u) = 1) (hv : eli f gc j ≠ 1) (hj : (j : Int) = 13 * (i + 1) + (x + t)) (ht : t' = t + 1) : ∃ u : Nat, x + t' ≤ u ∧ (u : Int) ≤ hm ∧ eli f gc (13 * (i + 1) + u) = 1 := by
  obtain ⟨u, h1, h2, h3⟩ := h
  by_cases e : x + t = u
  · exfalso
    apply hv
    rw [show j = 13 * (i + 1) + u by omega]
    exact h3
  · exact ⟨u, by omega, h2, h3⟩
theorem DP_b {gc i : Nat} {hm x t : Int} {f : Nat → va_E} (h : ∃ u : Nat, x + t ≤ u ∧ (u : Int) ≤ hm ∧ eli f gc (13 * (i + 1) + u) = 1) : x + t ≤ hm := by
  obtain ⟨u, h1, h2, h3⟩ := h
  omega
