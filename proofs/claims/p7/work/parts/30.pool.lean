/-! a pool of cells, each of a role: what its fields and elements may be. What the cells hold beside that isn't told. -/
def vI (lo hi : Int) (v : Value) : Prop := ∃ x : Int32, v = .int x ∧ lo ≤ x.toInt ∧ x.toInt ≤ hi
def vJ (lo hi : Int) (v : Value) : Prop := ∃ x : Int64, v = .long x ∧ lo ≤ x.toInt ∧ x.toInt ≤ hi
def vR (L : List Nat) (R : Nat → Nat) (ro : Nat) (v : Value) : Prop := ∃ a, v = .ref a ∧ a ∈ L ∧ R a = ro
def vN (L : List Nat) (R : Nat → Nat) (ro : Nat) (v : Value) : Prop := v = .null ∨ vR L R ro v
def tO (ci : Nat) (ps : List (Value → Prop)) (e : va_E) : Prop := ∃ vs : List Value, e = .inr (ci, vs) ∧ vs.length = ps.length ∧ ∀ (k : Nat) (p : Value → Prop) (v : Value), ps[k]? = some p → vs[k]? = some v → p v
def tI (c : ClassId) (n : Nat) (p : Nat → Int → Prop) (e : va_E) : Prop := ∃ f : Nat → Int32, e = .inl (c, n, .inl f) ∧ ∀ j, j < n → p j (f j).toInt
def tJ (c : ClassId) (n : Nat) (p : Nat → Int → Prop) (e : va_E) : Prop := ∃ f : Nat → Int64, e = .inl (c, n, .inr (.inl f)) ∧ ∀ j, j < n → p j (f j).toInt
def tQ (c : ClassId) (n : Nat) (p : Nat → Option Nat → Prop) (e : va_E) : Prop := ∃ f : Nat → Option Nat, e = .inl (c, n, .inr (.inr (.inr (.inr f)))) ∧ ∀ j, j < n → p j (f j)
/-- the pool as it stands at a place of a method -/
def tS (D : va_G) (cy : Nat → ClassId) (A : Nat → Prop) (H0 : Heap) (L : List Nat) (R : Nat → Nat) (T : Nat → va_E → Prop) (f : Nat → va_E) (s : State) (H : Heap) (locs : List Loc) : Prop := xS D cy A H0 (va_pl L f) s H locs ∧ ∀ a ∈ L, T (R a) (f a)
def tP (D : va_G) (cy : Nat → ClassId) (L : List Nat) (R : Nat → Nat) (T : Nat → va_E → Prop) (f : Nat → va_E) (sz : Nat) (U : State) : Prop := xP D cy (va_pl L f) sz U ∧ ∀ a ∈ L, T (R a) (f a)
def tA (L : List Nat) (sz : Nat) : Nat → Prop := fun q => q ∈ L ∨ sz ≤ q
def tB (D : va_G) (A : Nat → Prop) (L : List Nat) (R : Nat → Nat) (T : Nat → va_E → Prop) (f : Nat → va_E) (t : State) : Prop := va_P D vwCl (va_pl L f) t.heap ∧ va_D A (va_pl L f) ∧ ∀ a ∈ L, T (R a) (f a)
/-- a field of an object, an element of an array, as the pool has it -/
def fld (f : Nat → va_E) (a k : Nat) : Value := match f a with
  | .inr o => o.2.getD k .null
  | .inl _ => .null
def eli (f : Nat → va_E) (a j : Nat) : Int := match f a with
  | .inl (_, _, .inl g) => (g j).toInt
  | _ => 0
def elj (f : Nat → va_E) (a j : Nat) : Int := match f a with
  | .inl (_, _, .inr (.inl g)) => (g j).toInt
  | _ => 0
/-- cells of other roles than these stay -/
def kp (L : List Nat) (R : Nat → Nat) (Mo : List Nat) (f f1 : Nat → va_E) : Prop := ∀ a ∈ L, R a ∉ Mo → f1 a = f a
theorem tA_pl {L : List Nat} {f : Nat → va_E} {sz : Nat} : va_A (va_pl L f) sz = tA L sz := by
  funext q
  apply propext
  constructor
  · rintro (⟨k, e, h⟩ | h)
    · left
      have h1 := List.mem_of_getElem? h
      simp only [va_pl, List.mem_map] at h1
      obtain ⟨a, h2, h3⟩ := h1
      cases h3
      exact h2
    · exact Or.inr h
  · rintro (h | h)
    · obtain ⟨k, hk⟩ := va_pl_get (X := []) (f := f) h
      exact Or.inl ⟨k, f q, hk⟩
    · exact Or.inr h
section TK
variable {p : Program} {l : Launch} {e : Env} {R0 : Room} {s : State} {m : MethodId} {args : Array Value} {below : List Frame} {meth : Method} {c : Code} {H H0 : Heap} {locs : List Loc} {cells slots : Nat} {Q : State → Prop} {cc : ByteArray} {nL : Nat} {own : String} {D : va_G} {cy : Nat → ClassId} {A : Nat → Prop} {L : List Nat} {R : Nat → Nat} {T : Nat → va_E → Prop} {f : Nat → va_E} {pc : Nat} {ls : Array Slot} {rest : List Value} {a ro : Nat}
theorem tw_get (F : CallFix p m c cc nL s args wsL_law own) (h : tS D cy A H0 L R T f s H locs) {C : String} {TT : u_T} {N ci index k : Nat} {ps : List (Value → Prop)} {q : Value → Prop} (ha : a ∈ L) (hr : R a = ro) (hT : ∀ e, T ro e → tO ci ps e) (hp : ps[k]? = some q) (hin : ∀ w ∈ u_ws C TT N, w ∈ wsL_law) (hc : vwCl[ci]? = some (C, TT, N)) (hk : k < N) (hm : Cond.fieldLink own index (TT k).1 (TT k).2.1 (TT k).2.2.1 ∈ wsL_law) (hdg : decode cc pc = .ok (.getfield index, 3))
    (kk : ∀ v, q v → fld f a k = v → W p l e R0 s m args below meth c H locs cells slots Q (F0 m (pc + 3) ls (v :: rest))) : W p l e R0 s m args below meth c H locs cells slots Q (F0 m pc ls (.ref a :: rest)) := by
  obtain ⟨hx, hall⟩ := h
  obtain ⟨i, hi⟩ := va_pl_get (X := []) (f := f) ha
  obtain ⟨vs, he, hlen, hv⟩ := hT _ (hr ▸ hall a ha)
  have hkl : k < vs.length := by rw [hlen]; exact (List.getElem?_eq_some_iff.mp hp).1
  have hvk : vs[k]? = some vs[k] := List.getElem?_eq_getElem hkl
  exact x_get F hx i k hin hc hk hm hdg (by rw [← he]; exact hi) hvk (kk _ (hv k q _ hp hvk) (by unfold fld; rw [he]; show vs.getD k .null = vs[k]; rw [List.getD_eq_getElem?_getD, hvk]; rfl))
theorem tw_put (F : CallFix p m c cc nL s args wsL_law own) (h : tS D cy A H0 L R T f s H locs) {C : String} {TT : u_T} {N ci index k : Nat} {ps : List (Value → Prop)} {q : Value → Prop} {v : Value} (ha : a ∈ L) (hr : R a = ro) (hT : ∀ e, T ro e ↔ tO ci ps e) (hp : ps[k]? = some q) (hv : q v) (hin : ∀ w ∈ u_ws C TT N, w ∈ wsL_law) {ty0 : Nat → FieldType} (hty : ∀ k, k < N → parseFieldDescriptor (TT k).2.2.1 = some (ty0 k)) (hnm : ∀ a, a < N → ∀ b, b < N → a ≠ b → (TT a).2.1 ≠ (TT b).2.1) (hc : vwCl[ci]? = some (C, TT, N)) (hk : k < N) (hm : Cond.fieldLink own index (TT k).1 (TT k).2.1 (TT k).2.2.1 ∈ wsL_law) (hdg : decode cc pc = .ok (.putfield index, 3)) (hfin : (TT k).2.2.2 = false) (hn : narrow (ty0 k) v = v) (hfit : fits (ty0 k) v = true)
    (kk : ∀ (f1 : Nat → va_E) (H1 : Heap) (locs1 : List Loc), fld f1 a k = v → (∀ k', k' ≠ k → fld f1 a k' = fld f a k') → (∀ a', a' ≠ a → f1 a' = f a') → tS D cy A H0 L R T f1 s H1 locs1 → W p l e R0 s m args below meth c H1 locs1 cells slots Q (F0 m (pc + 3) ls rest)) : W p l e R0 s m args below meth c H locs cells slots Q (F0 m pc ls (v :: .ref a :: rest)) := by
  obtain ⟨hx, hall⟩ := h
  obtain ⟨i, hi⟩ := va_pl_get (X := []) (f := f) ha
  obtain ⟨vs, he, hlen, hvs⟩ := (hT _).mp (hr ▸ hall a ha)
  have hkl : k < vs.length := by rw [hlen]; exact (List.getElem?_eq_some_iff.mp hp).1
  refine x_put F hx i k hin hty hnm hc hk hm hdg hfin hn hfit (by rw [← he]; exact hi) hkl (va_pl_set (X := []) hx.2.1 ha hi) (fun H1 locs1 h1 => kk (va_up f a (.inr (ci, vs.set k v))) H1 locs1 ?_ (fun k' hk' => ?_) (fun a' ha' => va_up_ne _ _ ha') ⟨h1, fun a' ha' => ?_⟩)
  · unfold fld
    rw [va_up_self]
    show (vs.set k v).getD k .null = v
    rw [List.getD_eq_getElem?_getD, List.getElem?_set_self hkl]
    rfl
  · unfold fld
    rw [va_up_self, he]
    show (vs.set k v).getD k' .null = vs.getD k' .null
    rw [List.getD_eq_getElem?_getD, List.getD_eq_getElem?_getD, List.getElem?_set_ne (Ne.symm hk')]
  by_cases e1 : a' = a
  · subst e1
    rw [va_up_self, hr]
    refine (hT _).mpr ⟨_, rfl, by rw [List.length_set]; exact hlen, fun k' p' v' hp' hv' => ?_⟩
    by_cases e2 : k = k'
    · subst e2
      rw [List.getElem?_set_self hkl] at hv'
      cases hv'
      rw [hp] at hp'
      cases hp'
      exact hv
    · rw [List.getElem?_set_ne e2] at hv'
      exact hvs k' p' v' hp' hv'
  · rw [va_up_ne _ _ e1]
    exact hall a' ha'
theorem tw_iald (F : CallFix p m c cc nL s args wsL_law own) (h : tS D cy A H0 L R T f s H locs) {n : Nat} {P : Nat → Int → Prop} {i : Int32} (ha : a ∈ L) (hr : R a = ro) (hT : ∀ e, T ro e → tI (cy 1) n P e) (h1 : 0 ≤ i.toInt) (h2 : i.toInt < n) (hdg : decode cc pc = .ok (.iaload, 1))
    (kk : ∀ x : Int32, P i.toInt.toNat x.toInt → eli f a i.toInt.toNat = x.toInt → W p l e R0 s m args below meth c H locs cells slots Q (F0 m (pc + 1) ls (.int x :: rest))) : W p l e R0 s m args below meth c H locs cells slots Q (F0 m pc ls (.int i :: .ref a :: rest)) := by
  obtain ⟨hx, hall⟩ := h
  obtain ⟨k, hk⟩ := va_pl_get (X := []) (f := f) ha
  obtain ⟨g, he, hg⟩ := hT _ (hr ▸ hall a ha)
  have hi : vp_in i n := by
    rintro (h3 | h3)
    · have := Int32.lt_iff_toInt_lt.mp h3
      have e0 : (0 : Int32).toInt = 0 := by decide
      omega
    · have e1 : i.toNatClampNeg = i.toInt.toNat := rfl
      omega
  exact x_iald F hx k (by rw [← he]; exact hk) rfl hi rfl hdg (kk _ (hg i.toInt.toNat (by omega)) (by unfold eli; rw [he]; rfl))
theorem tw_lald (F : CallFix p m c cc nL s args wsL_law own) (h : tS D cy A H0 L R T f s H locs) {n : Nat} {P : Nat → Int → Prop} {i : Int32} (ha : a ∈ L) (hr : R a = ro) (hT : ∀ e, T ro e → tJ (cy 2) n P e) (h1 : 0 ≤ i.toInt) (h2 : i.toInt < n) (hdg : decode cc pc = .ok (.laload, 1))
    (kk : ∀ x : Int64, P i.toInt.toNat x.toInt → elj f a i.toInt.toNat = x.toInt → W p l e R0 s m args below meth c H locs cells slots Q (F0 m (pc + 1) ls (.long x :: rest))) : W p l e R0 s m args below meth c H locs cells slots Q (F0 m pc ls (.int i :: .ref a :: rest)) := by
  obtain ⟨hx, hall⟩ := h
  obtain ⟨k, hk⟩ := va_pl_get (X := []) (f := f) ha
  obtain ⟨g, he, hg⟩ := hT _ (hr ▸ hall a ha)
  have hi : vp_in i n := by
    rintro (h3 | h3)
    · have := Int32.lt_iff_toInt_lt.mp h3
      have e0 : (0 : Int32).toInt = 0 := by decide
      omega
    · have e1 : i.toNatClampNeg = i.toInt.toNat := rfl
      omega
  exact x_lald F hx k (by rw [← he]; exact hk) rfl hi rfl hdg (kk _ (hg i.toInt.toNat (by omega)) (by unfold elj; rw [he]; rfl))
theorem tw_iast (F : CallFix p m c cc nL s args wsL_law own) (h : tS D cy A H0 L R T f s H locs) {n : Nat} {P : Nat → Int → Prop} {i x : Int32} (ha : a ∈ L) (hr : R a = ro) (hT : ∀ e, T ro e ↔ tI (cy 1) n P e) (h1 : 0 ≤ i.toInt) (h2 : i.toInt < n) (hv : P i.toInt.toNat x.toInt) (hdg : decode cc pc = .ok (.iastore, 1))
    (kk : ∀ (f1 : Nat → va_E) (H1 : Heap) (locs1 : List Loc), (∀ j, eli f1 a j = if j = i.toInt.toNat then x.toInt else eli f a j) → (∀ a', a' ≠ a → f1 a' = f a') → tS D cy A H0 L R T f1 s H1 locs1 → W p l e R0 s m args below meth c H1 locs1 cells slots Q (F0 m (pc + 1) ls rest)) : W p l e R0 s m args below meth c H locs cells slots Q (F0 m pc ls (.int x :: .int i :: .ref a :: rest)) := by
  obtain ⟨hx, hall⟩ := h
  obtain ⟨k, hk⟩ := va_pl_get (X := []) (f := f) ha
  obtain ⟨g, he, hg⟩ := (hT _).mp (hr ▸ hall a ha)
  have hi : vp_in i n := by
    rintro (h3 | h3)
    · have := Int32.lt_iff_toInt_lt.mp h3
      have e0 : (0 : Int32).toInt = 0 := by decide
      omega
    · have e1 : i.toNatClampNeg = i.toInt.toNat := rfl
      omega
  refine x_iast F hx k (by rw [← he]; exact hk) rfl hi hdg (va_pl_set (X := []) hx.2.1 ha hk) (fun H1 locs1 h1 => kk (va_up f a (.inl (cy 1, n, .inl (upd g i.toNatClampNeg x)))) H1 locs1 (fun j => ?_) (fun a' ha' => va_up_ne _ _ ha') ⟨h1, fun a' ha' => ?_⟩)
  · unfold eli
    rw [va_up_self, he]
    show (upd g i.toNatClampNeg x j).toInt = if j = i.toInt.toNat then x.toInt else (g j).toInt
    unfold upd
    show (if j = i.toInt.toNat then x else g j).toInt = _
    split <;> rfl
  by_cases e1 : a' = a
  · subst e1
    rw [va_up_self, hr]
    refine (hT _).mpr ⟨_, rfl, fun j hj => ?_⟩
    unfold upd
    split
    · rename_i e2
      subst e2
      exact hv
    · exact hg j hj
  · rw [va_up_ne _ _ e1]
    exact hall a' ha'
theorem tw_last (F : CallFix p m c cc nL s args wsL_law own) (h : tS D cy A H0 L R T f s H locs) {n : Nat} {P : Nat → Int → Prop} {i : Int32} {x : Int64} (ha : a ∈ L) (hr : R a = ro) (hT : ∀ e, T ro e ↔ tJ (cy 2) n P e) (h1 : 0 ≤ i.toInt) (h2 : i.toInt < n) (hv : P i.toInt.toNat x.toInt) (hdg : decode cc pc = .ok (.lastore, 1))
    (kk : ∀ (f1 : Nat → va_E) (H1 : Heap) (locs1 : List Loc), (∀ j, elj f1 a j = if j = i.toInt.toNat then x.toInt else elj f a j) → (∀ a', a' ≠ a → f1 a' = f a') → tS D cy A H0 L R T f1 s H1 locs1 → W p l e R0 s m args below meth c H1 locs1 cells slots Q (F0 m (pc + 1) ls rest)) : W p l e R0 s m args below meth c H locs cells slots Q (F0 m pc ls (.long x :: .int i :: .ref a :: rest)) := by
  obtain ⟨hx, hall⟩ := h
  obtain ⟨k, hk⟩ := va_pl_get (X := []) (f := f) ha
  obtain ⟨g, he, hg⟩ := (hT _).mp (hr ▸ hall a ha)
  have hi : vp_in i n := by
    rintro (h3 | h3)
    · have := Int32.lt_iff_toInt_lt.mp h3
      have e0 : (0 : Int32).toInt = 0 := by decide
      omega
    · have e1 : i.toNatClampNeg = i.toInt.toNat := rfl
      omega
  refine x_last F hx k (by rw [← he]; exact hk) rfl hi hdg (va_pl_set (X := []) hx.2.1 ha hk) (fun H1 locs1 h1 => kk (va_up f a (.inl (cy 2, n, .inr (.inl (vp_updL g i.toNatClampNeg x))))) H1 locs1 (fun j => ?_) (fun a' ha' => va_up_ne _ _ ha') ⟨h1, fun a' ha' => ?_⟩)
  · unfold elj
    rw [va_up_self, he]
    show (vp_updL g i.toNatClampNeg x j).toInt = if j = i.toInt.toNat then x.toInt else (g j).toInt
    unfold vp_updL
    show (if j = i.toInt.toNat then x else g j).toInt = _
    split <;> rfl
  by_cases e1 : a' = a
  · subst e1
    rw [va_up_self, hr]
    refine (hT _).mpr ⟨_, rfl, fun j hj => ?_⟩
    unfold vp_updL
    split
    · rename_i e2
      subst e2
      exact hv
    · exact hg j hj
  · rw [va_up_ne _ _ e1]
    exact hall a' ha'
theorem tw_aald (F : CallFix p m c cc nL s args wsL_law own) (h : tS D cy A H0 L R T f s H locs) {n t0 : Nat} {cA : ClassId} {C : String} {ro2 : Nat} {i : Int32} (ha : a ∈ L) (hr : R a = ro) (hT : ∀ e, T ro e → tQ cA n (fun _ o => ∃ b, o = some b ∧ b ∈ L ∧ R b = ro2) e) (ht : (xTy cy)[t0]? = some (cA, .object C)) (h1 : 0 ≤ i.toInt) (h2 : i.toInt < n) (hdg : decode cc pc = .ok (.aaload, 1))
    (kk : ∀ b : Nat, b ∈ L → R b = ro2 → W p l e R0 s m args below meth c H locs cells slots Q (F0 m (pc + 1) ls (.ref b :: rest))) : W p l e R0 s m args below meth c H locs cells slots Q (F0 m pc ls (.int i :: .ref a :: rest)) := by
  obtain ⟨hx, hall⟩ := h
  obtain ⟨k, hk⟩ := va_pl_get (X := []) (f := f) ha
  obtain ⟨g, he, hg⟩ := hT _ (hr ▸ hall a ha)
  have hi : vp_in i n := by
    rintro (h3 | h3)
    · have := Int32.lt_iff_toInt_lt.mp h3
      have e0 : (0 : Int32).toInt = 0 := by decide
      omega
    · have e1 : i.toNatClampNeg = i.toInt.toNat := rfl
      omega
  obtain ⟨b, hb1, hb2, hb3⟩ := hg i.toInt.toNat (by omega)
  exact x_aald F hx k t0 (by rw [← he]; exact hk) ht hi (show va_rf (g i.toInt.toNat) = .ref b by rw [hb1]; rfl) hdg (kk b hb2 hb3)
end TK
