section XL
variable {p : Program} {l : Launch} {e : Env} {R : Room} {s : State} {m : MethodId} {args : Array Value} {below : List Frame} {meth : Method} {c : Code} {H H0 : Heap} {locs : List Loc} {cells slots : Nat} {Q : State → Prop} {cc : ByteArray} {nL : Nat} {own : String} {D : va_G} {cy : Nat → ClassId} {A : Nat → Prop} {ws : va_W} {pc : Nat} {ls : Array Slot} {rest : List Value} {a : Nat}
/-- a loop that counts up: its world may change by g, its locals by the count -/
theorem x_loop {γ : Type} {ph : Nat} {st : List Value} (wg : γ → va_W) (N : Nat) (lv : Int32 → List (Nat × Value)) (hexit : ∀ (g : γ) (H : Heap) (locs : List Loc) (ls : Array Slot), xS D cy A H0 (wg g) s H locs → lv_has ls nL (lv (nI N)) → W p l e R s m args below meth c H locs cells slots Q (F0 m ph ls st))
    (hstep : ∀ (j : Nat) (g : γ) (H : Heap) (locs : List Loc) (ls : Array Slot), j < N → xS D cy A H0 (wg g) s H locs → lv_has ls nL (lv (nI j)) → (∀ (g : γ) (H : Heap) (locs : List Loc) (ls : Array Slot), xS D cy A H0 (wg g) s H locs → lv_has ls nL (lv (nI (j + 1))) → W p l e R s m args below meth c H locs cells slots Q (F0 m ph ls st)) → W p l e R s m args below meth c H locs cells slots Q (F0 m ph ls st)) :
    ∀ (j : Nat) (g : γ) (H : Heap) (locs : List Loc) (ls : Array Slot), j ≤ N → xS D cy A H0 (wg g) s H locs → lv_has ls nL (lv (nI j)) → W p l e R s m args below meth c H locs cells slots Q (F0 m ph ls st) := by
  have key : ∀ (k j : Nat) (g : γ) (H : Heap) (locs : List Loc) (ls : Array Slot), j + k = N → xS D cy A H0 (wg g) s H locs → lv_has ls nL (lv (nI j)) → W p l e R s m args below meth c H locs cells slots Q (F0 m ph ls st) := by
    intro k
    induction k with
    | zero =>
      intro j g H locs ls hj h hl
      obtain rfl : j = N := by omega
      exact hexit g H locs ls h hl
    | succ k ih =>
      intro j g H locs ls hj h hl
      exact hstep j g H locs ls (by omega) h hl (fun g H locs ls h hl => ih (j + 1) g H locs ls (by omega) h hl)
  intro j g H locs ls hj h hl
  exact key (N - j) j g H locs ls (by omega) h hl
theorem x_cpyl (F : CallFix p m c cc nL s args wsL_law own) (h : xS D cy A H0 ws s H locs) (hsz : ls.size = nL) {index : Nat} (m1 : Cond.methodLink own index arraycopyName ∈ wsL_law) (m2 : Cond.native arraycopyName ∈ wsL_law) (m3 : Cond.static arraycopyName ∈ wsL_law) (m4 : Cond.initialized "java/lang/System" ∈ wsL_law) (q0 q1 : Nat) {a0 : Nat} {c0 c1 : ClassId} {n0 n1 : Nat} {f g : Nat → Int64} (ha0 : ws[q0]? = some (a0, .inl (c0, n0, .inr (.inl f)))) (ha1 : ws[q1]? = some (a, .inl (c1, n1, .inr (.inl g)))) (ht0 : (xTy cy)[2]? = some (c0, .long)) (ht1 : (xTy cy)[2]? = some (c1, .long)) {sp dp n : Int32} (h1 : ¬ sp < 0) (h2 : ¬ dp < 0) (h3 : ¬ n < 0) (h4 : sp.toNatClampNeg + n.toNatClampNeg ≤ n0) (h5 : dp.toNatClampNeg + n.toNatClampNeg ≤ n1) (hfr : 1 ≤ R.frames) (hlo : (rest.map fun v => v.category).sum + (nativeFrameWords "java/lang/System" "arraycopy" 5 + 11) ≤ R.locals) (hdg : decode cc pc = .ok (.invokestatic index, 3)) {ws' : va_W} (hw : ws.set q1 (a, .inl (c1, n1, .inr (.inl (va_cpy f g sp.toNatClampNeg dp.toNatClampNeg n.toNatClampNeg)))) = ws')
    (kk : ∀ (H1 : Heap) (locs1 : List Loc), xS D cy A H0 ws' s H1 locs1 → W p l e R s m args below meth c H1 locs1 cells slots Q (F0 m (pc + 3) ls rest)) : W p l e R s m args below meth c H locs cells slots Q (F0 m pc ls (.int n :: .int dp :: .ref a :: .int sp :: .ref a0 :: rest)) :=
  va_copyl F.1 F.2.1 (by rw [F.2.2.1]; exact hsz.symm) F.2.2.2.1 (F.2.2.2.2 _ m1) (F.2.2.2.2 _ m2) (F.2.2.2.2 _ m3) (F.2.2.2.2 _ m4) h.2.2.1 h.1 h.2.1 h.2.2.2.1 q0 q1 2 2 ha0 ha1 ht0 ht1 rfl h1 h2 h3 h4 h5 (fun _ _ => rfl) hfr hlo hdg (fun H1 locs1 a1 a2 a3 => kk H1 locs1 (hw ▸ ⟨a1, a2, h.2.2.1, a3, h.2.2.2.2⟩))
theorem x_cpyi (F : CallFix p m c cc nL s args wsL_law own) (h : xS D cy A H0 ws s H locs) (hsz : ls.size = nL) {index : Nat} (m1 : Cond.methodLink own index arraycopyName ∈ wsL_law) (m2 : Cond.native arraycopyName ∈ wsL_law) (m3 : Cond.static arraycopyName ∈ wsL_law) (m4 : Cond.initialized "java/lang/System" ∈ wsL_law) (q0 q1 : Nat) {a0 : Nat} {c0 c1 : ClassId} {n0 n1 : Nat} {f g : Nat → Int32} (ha0 : ws[q0]? = some (a0, .inl (c0, n0, .inl f))) (ha1 : ws[q1]? = some (a, .inl (c1, n1, .inl g))) (ht0 : (xTy cy)[1]? = some (c0, .int)) (ht1 : (xTy cy)[1]? = some (c1, .int)) {sp dp n : Int32} (h1 : ¬ sp < 0) (h2 : ¬ dp < 0) (h3 : ¬ n < 0) (h4 : sp.toNatClampNeg + n.toNatClampNeg ≤ n0) (h5 : dp.toNatClampNeg + n.toNatClampNeg ≤ n1) (hfr : 1 ≤ R.frames) (hlo : (rest.map fun v => v.category).sum + (nativeFrameWords "java/lang/System" "arraycopy" 5 + 11) ≤ R.locals) (hdg : decode cc pc = .ok (.invokestatic index, 3)) {ws' : va_W} (hw : ws.set q1 (a, .inl (c1, n1, .inl (va_cpy f g sp.toNatClampNeg dp.toNatClampNeg n.toNatClampNeg))) = ws')
    (kk : ∀ (H1 : Heap) (locs1 : List Loc), xS D cy A H0 ws' s H1 locs1 → W p l e R s m args below meth c H1 locs1 cells slots Q (F0 m (pc + 3) ls rest)) : W p l e R s m args below meth c H locs cells slots Q (F0 m pc ls (.int n :: .int dp :: .ref a :: .int sp :: .ref a0 :: rest)) :=
  va_copyi F.1 F.2.1 (by rw [F.2.2.1]; exact hsz.symm) F.2.2.2.1 (F.2.2.2.2 _ m1) (F.2.2.2.2 _ m2) (F.2.2.2.2 _ m3) (F.2.2.2.2 _ m4) h.2.2.1 h.1 h.2.1 h.2.2.2.1 q0 q1 1 1 ha0 ha1 ht0 ht1 rfl h1 h2 h3 h4 h5 (fun _ _ => rfl) hfr hlo hdg (fun H1 locs1 a1 a2 a3 => kk H1 locs1 (hw ▸ ⟨a1, a2, h.2.2.1, a3, h.2.2.2.2⟩))
end XL
theorem x_nle {j N : Nat} (hj : j < N) (hN : N < 2 ^ 31) : ¬ nI N ≤ nI j := fun h => by
  have := (nI_leI hN (by omega)).mp h
  omega
theorem x_z (k : Nat) : vp_updL (fun _ => 0) k 0 = fun _ => 0 := by
  funext j
  unfold vp_updL
  split <;> rfl
theorem x_zi (k : Nat) : upd (fun _ => 0) k 0 = fun _ => 0 := by
  funext j
  unfold upd
  split <;> rfl
theorem x_tr {r t : Int32} {n : Nat} (h : r = if t < 0 then 0 else if nI n ≤ t then 0 else 1) : (r = 0 ∧ (t < 0 ∨ nI n ≤ t)) ∨ (r = 1 ∧ ¬ t < 0 ∧ ¬ nI n ≤ t) := by
  by_cases h1 : t < 0
  · exact Or.inl ⟨by rw [h, if_pos h1], Or.inl h1⟩
  · by_cases h2 : nI n ≤ t
    · exact Or.inl ⟨by rw [h, if_neg h1, if_pos h2], Or.inr h2⟩
    · exact Or.inr ⟨by rw [h, if_neg h1, if_neg h2], h1, h2⟩
theorem x_lt {t : Int32} {n : Nat} (hn : n < 2 ^ 31) (h1 : ¬ t < 0) (h2 : ¬ nI n ≤ t) : ∃ j, j < n ∧ t = nI j := by
  obtain ⟨j, hj, rfl⟩ := nI_of h1
  refine ⟨j, ?_, rfl⟩
  rcases Nat.lt_or_ge j n with h | h
  · exact h
  · exact absurd (nI_le h hj) h2
theorem x_c4 {t : Int32} (h1 : ¬ t < 0) (h2 : ¬ 4 ≤ t) : t = 0 ∨ t = 1 ∨ t = 2 ∨ t = 3 := by
  obtain ⟨j, hj, rfl⟩ := x_lt (n := 4) (by decide) h1 h2
  rcases (show j = 0 ∨ j = 1 ∨ j = 2 ∨ j = 3 by omega) with rfl | rfl | rfl | rfl
  · exact Or.inl rfl
  · exact Or.inr (Or.inl rfl)
  · exact Or.inr (Or.inr (Or.inl rfl))
  · exact Or.inr (Or.inr (Or.inr rfl))
theorem x_c3 {t : Int32} (h1 : ¬ t < 0) (h2 : ¬ 3 ≤ t) : t = 0 ∨ t = 1 ∨ t = 2 := by
  obtain ⟨j, hj, rfl⟩ := x_lt (n := 3) (by decide) h1 h2
  rcases (show j = 0 ∨ j = 1 ∨ j = 2 by omega) with rfl | rfl | rfl
  · exact Or.inl rfl
  · exact Or.inr (Or.inl rfl)
  · exact Or.inr (Or.inr rfl)
theorem x_0 {t : Int32} (h1 : ¬ t < 0) (h2 : ¬ 0 < t) : t = 0 := by
  obtain ⟨j, hj, rfl⟩ := nI_of h1
  rcases Nat.eq_zero_or_pos j with rfl | h
  · rfl
  · exact absurd (nI_lt (a := 0) h hj) h2
theorem x_sw4 (t : Int32) : (t = 0 ∨ t = 1 ∨ t = 2 ∨ t = 3) ∨ (t.toInt < 0 ∨ 3 < t.toInt) := by
  by_cases h1 : t < 0
  · exact Or.inr (Or.inl (by simpa [Int32.lt_iff_toInt_lt] using h1))
  · by_cases h2 : 4 ≤ t
    · exact Or.inr (Or.inr (by have h3 := Int32.le_iff_toInt_le.mp h2; simp at h3; omega))
    · exact Or.inl (x_c4 h1 h2)
theorem x_sw3 (t : Int32) : (t = 0 ∨ t = 1 ∨ t = 2) ∨ (t.toInt < 0 ∨ 2 < t.toInt) := by
  by_cases h1 : t < 0
  · exact Or.inr (Or.inl (by simpa [Int32.lt_iff_toInt_lt] using h1))
  · by_cases h2 : 3 ≤ t
    · exact Or.inr (Or.inr (by have h3 := Int32.le_iff_toInt_le.mp h2; simp at h3; omega))
    · exact Or.inl (x_c3 h1 h2)
