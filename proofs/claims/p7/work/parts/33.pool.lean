/-- numbers of a field; what stays when cells are written: fields by (role, place), whole cells by role -/
def vi (v : Value) : Int := match v with
  | .int x => x.toInt
  | .long x => x.toInt
  | _ => 0
def fi (f : Nat → va_E) (a k : Nat) : Int := vi (fld f a k)
def mI (l : List (Nat × Nat)) (x y : Nat) : Bool := l.any (fun q => q.1 == x && q.2 == y)
def mR (l : List Nat) (x : Nat) : Bool := l.any (fun q => q == x)
def fr (L : List Nat) (R : Nat → Nat) (Mo : List (Nat × Nat)) (Mr : List Nat) (f f1 : Nat → va_E) : Prop := (∀ a ∈ L, ∀ k, mI Mo (R a) k = false → fld f1 a k = fld f a k) ∧ (∀ a ∈ L, mR Mr (R a) = false → f1 a = f a)
theorem fr.rf {L : List Nat} {R : Nat → Nat} {Mo : List (Nat × Nat)} {Mr : List Nat} {f : Nat → va_E} : fr L R Mo Mr f f := ⟨fun _ _ _ _ => rfl, fun _ _ _ => rfl⟩
def mIs (l m : List (Nat × Nat)) : Bool := l.all (fun q => mI m q.1 q.2)
def mRs (l m : List Nat) : Bool := l.all (fun q => mR m q)
theorem mI_s {l m : List (Nat × Nat)} (h : mIs l m = true) {x y : Nat} (hm : mI m x y = false) : mI l x y = false := by
  cases hq : mI l x y with
  | false => rfl
  | true =>
    unfold mI at hq
    rw [List.any_eq_true] at hq
    obtain ⟨q, hq1, hq2⟩ := hq
    rw [Bool.and_eq_true] at hq2
    have e1 := eq_of_beq hq2.1
    have e2 := eq_of_beq hq2.2
    have h3 := List.all_eq_true.mp h q hq1
    rw [e1, e2, hm] at h3
    exact h3.symm
theorem mR_s {l m : List Nat} (h : mRs l m = true) {x : Nat} (hm : mR m x = false) : mR l x = false := by
  cases hq : mR l x with
  | false => rfl
  | true =>
    unfold mR at hq
    rw [List.any_eq_true] at hq
    obtain ⟨q, hq1, hq2⟩ := hq
    have e1 := eq_of_beq hq2
    have h3 := List.all_eq_true.mp h q hq1
    rw [e1, hm] at h3
    exact h3.symm
theorem fr.tr {L : List Nat} {R : Nat → Nat} {Mo M1 : List (Nat × Nat)} {Mr R1 : List Nat} {f f1 f2 : Nat → va_E} (h : fr L R Mo Mr f f1) (h1 : fr L R M1 R1 f1 f2) (s1 : mIs M1 Mo = true) (s2 : mRs R1 Mr = true) : fr L R Mo Mr f f2 :=
  ⟨fun a ha k hk => (h1.1 a ha k (mI_s s1 hk)).trans (h.1 a ha k hk), fun a ha hk => (h1.2 a ha (mR_s s2 hk)).trans (h.2 a ha hk)⟩
theorem fr.efi {L : List Nat} {R : Nat → Nat} {Mo : List (Nat × Nat)} {Mr : List Nat} {f f1 : Nat → va_E} (h : fr L R Mo Mr f f1) {a k ro : Nat} (ha : a ∈ L) (hr : R a = ro) (hm : mI Mo ro k = false) : fi f1 a k = fi f a k := by
  unfold fi
  rw [h.1 a ha k (by rw [hr]; exact hm)]
theorem fr.efl {L : List Nat} {R : Nat → Nat} {Mo : List (Nat × Nat)} {Mr : List Nat} {f f1 : Nat → va_E} (h : fr L R Mo Mr f f1) {a k ro : Nat} (ha : a ∈ L) (hr : R a = ro) (hm : mI Mo ro k = false) : fld f1 a k = fld f a k := h.1 a ha k (by rw [hr]; exact hm)
theorem fr.cell {L : List Nat} {R : Nat → Nat} {Mo : List (Nat × Nat)} {Mr : List Nat} {f f1 : Nat → va_E} (h : fr L R Mo Mr f f1) {a ro : Nat} (ha : a ∈ L) (hr : R a = ro) (hm : mR Mr ro = false) : f1 a = f a := h.2 a ha (by rw [hr]; exact hm)
theorem fld_inj {f : Nat → va_E} {a k b b' : Nat} (h : fld f a k = .ref b) (h' : fld f a k = .ref b') : b' = b := by
  rw [h] at h'
  cases h'
  rfl
theorem fld_arr {f : Nat → va_E} {a k : Nat} {x : ClassId × vp_A} (h : f a = .inl x) : fld f a k = .null := by
  unfold fld
  rw [h]
/-- one cell is written -/
theorem fr.obj {L : List Nat} {R : Nat → Nat} {f f1 : Nat → va_E} {a k ro : Nat} (hr : R a = ro) (h1 : ∀ k', k' ≠ k → fld f1 a k' = fld f a k') (h2 : ∀ a', a' ≠ a → f1 a' = f a') : fr L R [(ro, k)] [ro] f f1 := by
  refine ⟨fun b hb j hj => ?_, fun b hb hj => ?_⟩
  · by_cases e : b = a
    · subst e
      refine h1 j (fun e2 => ?_)
      subst e2
      rw [hr] at hj
      simp [mI] at hj
    · unfold fld
      rw [h2 b e]
  · refine h2 b (fun e => ?_)
    subst e
    rw [hr] at hj
    simp [mR] at hj
theorem fr.arr {L : List Nat} {R : Nat → Nat} {f f1 : Nat → va_E} {a ro : Nat} {x y : ClassId × vp_A} (hr : R a = ro) (h0 : f a = .inl x) (h1 : f1 a = .inl y) (h2 : ∀ a', a' ≠ a → f1 a' = f a') : fr L R [] [ro] f f1 := by
  refine ⟨fun b hb j hj => ?_, fun b hb hj => ?_⟩
  · by_cases e : b = a
    · subst e
      rw [fld_arr h0, fld_arr h1]
    · unfold fld
      rw [h2 b e]
  · refine h2 b (fun e => ?_)
    subst e
    rw [hr] at hj
    simp [mR] at hj
theorem tw_in {i : Int32} {n : Nat} (h1 : 0 ≤ i.toInt) (h2 : i.toInt < n) : vp_in i n := by
  rintro (h3 | h3)
  · have := Int32.lt_iff_toInt_lt.mp h3
    have e0 : (0 : Int32).toInt = 0 := by decide
    omega
  · have e1 : i.toNatClampNeg = i.toInt.toNat := rfl
    omega
section TU
variable {p : Program} {l : Launch} {e : Env} {R0 : Room} {s : State} {m : MethodId} {args : Array Value} {below : List Frame} {meth : Method} {c : Code} {H H0 : Heap} {locs : List Loc} {cells slots : Nat} {Q : State → Prop} {cc : ByteArray} {nL : Nat} {own : String} {D : va_G} {cy : Nat → ClassId} {A : Nat → Prop} {L : List Nat} {R : Nat → Nat} {T : Nat → va_E → Prop} {f : Nat → va_E} {pc : Nat} {ls : Array Slot} {rest : List Value} {a ro : Nat}
theorem tu_geti (F : CallFix p m c cc nL s args wsL_law own) (h : tS D cy A H0 L R T f s H locs) {C : String} {TT : u_T} {N ci index k : Nat} {ps : List (Value → Prop)} {lo hi : Int} (ha : a ∈ L) (hr : R a = ro) (hT : ∀ e, T ro e → tO ci ps e) (hp : ps[k]? = some (vI lo hi)) (hin : ∀ w ∈ u_ws C TT N, w ∈ wsL_law) (hc : vwCl[ci]? = some (C, TT, N)) (hk : k < N) (hm : Cond.fieldLink own index (TT k).1 (TT k).2.1 (TT k).2.2.1 ∈ wsL_law) (hdg : decode cc pc = .ok (.getfield index, 3))
    (kk : ∀ x : Int32, x.toInt = fi f a k → lo ≤ x.toInt → x.toInt ≤ hi → W p l e R0 s m args below meth c H locs cells slots Q (F0 m (pc + 3) ls (.int x :: rest))) : W p l e R0 s m args below meth c H locs cells slots Q (F0 m pc ls (.ref a :: rest)) :=
  tw_get F h ha hr hT hp hin hc hk hm hdg (by
    rintro v ⟨x, rfl, h1, h2⟩ hf
    exact kk x (by unfold fi; rw [hf]; rfl) h1 h2)
theorem tu_getl (F : CallFix p m c cc nL s args wsL_law own) (h : tS D cy A H0 L R T f s H locs) {C : String} {TT : u_T} {N ci index k : Nat} {ps : List (Value → Prop)} {lo hi : Int} (ha : a ∈ L) (hr : R a = ro) (hT : ∀ e, T ro e → tO ci ps e) (hp : ps[k]? = some (vJ lo hi)) (hin : ∀ w ∈ u_ws C TT N, w ∈ wsL_law) (hc : vwCl[ci]? = some (C, TT, N)) (hk : k < N) (hm : Cond.fieldLink own index (TT k).1 (TT k).2.1 (TT k).2.2.1 ∈ wsL_law) (hdg : decode cc pc = .ok (.getfield index, 3))
    (kk : ∀ x : Int64, x.toInt = fi f a k → lo ≤ x.toInt → x.toInt ≤ hi → W p l e R0 s m args below meth c H locs cells slots Q (F0 m (pc + 3) ls (.long x :: rest))) : W p l e R0 s m args below meth c H locs cells slots Q (F0 m pc ls (.ref a :: rest)) :=
  tw_get F h ha hr hT hp hin hc hk hm hdg (by
    rintro v ⟨x, rfl, h1, h2⟩ hf
    exact kk x (by unfold fi; rw [hf]; rfl) h1 h2)
theorem tu_getr (F : CallFix p m c cc nL s args wsL_law own) (h : tS D cy A H0 L R T f s H locs) {C : String} {TT : u_T} {N ci index k : Nat} {ps : List (Value → Prop)} {ro2 : Nat} (ha : a ∈ L) (hr : R a = ro) (hT : ∀ e, T ro e → tO ci ps e) (hp : ps[k]? = some (vR L R ro2)) (hin : ∀ w ∈ u_ws C TT N, w ∈ wsL_law) (hc : vwCl[ci]? = some (C, TT, N)) (hk : k < N) (hm : Cond.fieldLink own index (TT k).1 (TT k).2.1 (TT k).2.2.1 ∈ wsL_law) (hdg : decode cc pc = .ok (.getfield index, 3))
    (kk : ∀ b : Nat, b ∈ L → R b = ro2 → fld f a k = .ref b → W p l e R0 s m args below meth c H locs cells slots Q (F0 m (pc + 3) ls (.ref b :: rest))) : W p l e R0 s m args below meth c H locs cells slots Q (F0 m pc ls (.ref a :: rest)) :=
  tw_get F h ha hr hT hp hin hc hk hm hdg (by
    rintro v ⟨b, rfl, h1, h2⟩ hf
    exact kk b h1 h2 hf)
theorem tu_getn (F : CallFix p m c cc nL s args wsL_law own) (h : tS D cy A H0 L R T f s H locs) {C : String} {TT : u_T} {N ci index k : Nat} {ps : List (Value → Prop)} {ro2 : Nat} (ha : a ∈ L) (hr : R a = ro) (hT : ∀ e, T ro e → tO ci ps e) (hp : ps[k]? = some (vN L R ro2)) (hin : ∀ w ∈ u_ws C TT N, w ∈ wsL_law) (hc : vwCl[ci]? = some (C, TT, N)) (hk : k < N) (hm : Cond.fieldLink own index (TT k).1 (TT k).2.1 (TT k).2.2.1 ∈ wsL_law) (hdg : decode cc pc = .ok (.getfield index, 3))
    (k0 : fld f a k = .null → W p l e R0 s m args below meth c H locs cells slots Q (F0 m (pc + 3) ls (.null :: rest)))
    (kk : ∀ b : Nat, b ∈ L → R b = ro2 → fld f a k = .ref b → W p l e R0 s m args below meth c H locs cells slots Q (F0 m (pc + 3) ls (.ref b :: rest))) : W p l e R0 s m args below meth c H locs cells slots Q (F0 m pc ls (.ref a :: rest)) :=
  tw_get F h ha hr hT hp hin hc hk hm hdg (by
    rintro v (rfl | ⟨b, rfl, h1, h2⟩) hf
    · exact k0 hf
    · exact kk b h1 h2 hf)
theorem tu_puti (F : CallFix p m c cc nL s args wsL_law own) (h : tS D cy A H0 L R T f s H locs) {C : String} {TT : u_T} {N ci index k : Nat} {ps : List (Value → Prop)} {lo hi : Int} {x : Int32} (ha : a ∈ L) (hr : R a = ro) (hT : ∀ e, T ro e ↔ tO ci ps e) (hp : ps[k]? = some (vI lo hi)) (hv1 : lo ≤ x.toInt) (hv2 : x.toInt ≤ hi) (hin : ∀ w ∈ u_ws C TT N, w ∈ wsL_law) {ty0 : Nat → FieldType} (hty : ∀ k, k < N → parseFieldDescriptor (TT k).2.2.1 = some (ty0 k)) (hnm : ∀ a, a < N → ∀ b, b < N → a ≠ b → (TT a).2.1 ≠ (TT b).2.1) (hc : vwCl[ci]? = some (C, TT, N)) (hk : k < N) (hm : Cond.fieldLink own index (TT k).1 (TT k).2.1 (TT k).2.2.1 ∈ wsL_law) (hfin : (TT k).2.2.2 = false) (hn : narrow (ty0 k) (.int x) = .int x) (hfit : fits (ty0 k) (.int x) = true) (hdg : decode cc pc = .ok (.putfield index, 3))
    (kk : ∀ (f1 : Nat → va_E) (H1 : Heap) (locs1 : List Loc), fi f1 a k = x.toInt → fr L R [(ro, k)] [ro] f f1 → tS D cy A H0 L R T f1 s H1 locs1 → W p l e R0 s m args below meth c H1 locs1 cells slots Q (F0 m (pc + 3) ls rest)) : W p l e R0 s m args below meth c H locs cells slots Q (F0 m pc ls (.int x :: .ref a :: rest)) :=
  tw_put F h ha hr hT hp ⟨x, rfl, hv1, hv2⟩ hin hty hnm hc hk hm hdg hfin hn hfit (fun f1 H1 locs1 h1 h2 h3 h4 => kk f1 H1 locs1 (by unfold fi; rw [h1]; rfl) (fr.obj hr h2 h3) h4)
theorem tu_putl (F : CallFix p m c cc nL s args wsL_law own) (h : tS D cy A H0 L R T f s H locs) {C : String} {TT : u_T} {N ci index k : Nat} {ps : List (Value → Prop)} {lo hi : Int} {x : Int64} (ha : a ∈ L) (hr : R a = ro) (hT : ∀ e, T ro e ↔ tO ci ps e) (hp : ps[k]? = some (vJ lo hi)) (hv1 : lo ≤ x.toInt) (hv2 : x.toInt ≤ hi) (hin : ∀ w ∈ u_ws C TT N, w ∈ wsL_law) {ty0 : Nat → FieldType} (hty : ∀ k, k < N → parseFieldDescriptor (TT k).2.2.1 = some (ty0 k)) (hnm : ∀ a, a < N → ∀ b, b < N → a ≠ b → (TT a).2.1 ≠ (TT b).2.1) (hc : vwCl[ci]? = some (C, TT, N)) (hk : k < N) (hm : Cond.fieldLink own index (TT k).1 (TT k).2.1 (TT k).2.2.1 ∈ wsL_law) (hfin : (TT k).2.2.2 = false) (hn : narrow (ty0 k) (.long x) = .long x) (hfit : fits (ty0 k) (.long x) = true) (hdg : decode cc pc = .ok (.putfield index, 3))
    (kk : ∀ (f1 : Nat → va_E) (H1 : Heap) (locs1 : List Loc), fi f1 a k = x.toInt → fr L R [(ro, k)] [ro] f f1 → tS D cy A H0 L R T f1 s H1 locs1 → W p l e R0 s m args below meth c H1 locs1 cells slots Q (F0 m (pc + 3) ls rest)) : W p l e R0 s m args below meth c H locs cells slots Q (F0 m pc ls (.long x :: .ref a :: rest)) :=
  tw_put F h ha hr hT hp ⟨x, rfl, hv1, hv2⟩ hin hty hnm hc hk hm hdg hfin hn hfit (fun f1 H1 locs1 h1 h2 h3 h4 => kk f1 H1 locs1 (by unfold fi; rw [h1]; rfl) (fr.obj hr h2 h3) h4)
theorem tu_putr (F : CallFix p m c cc nL s args wsL_law own) (h : tS D cy A H0 L R T f s H locs) {C : String} {TT : u_T} {N ci index k : Nat} {ps : List (Value → Prop)} {ro2 b : Nat} (ha : a ∈ L) (hr : R a = ro) (hT : ∀ e, T ro e ↔ tO ci ps e) (hp : ps[k]? = some (vR L R ro2)) (hb : b ∈ L) (hbr : R b = ro2) (hin : ∀ w ∈ u_ws C TT N, w ∈ wsL_law) {ty0 : Nat → FieldType} (hty : ∀ k, k < N → parseFieldDescriptor (TT k).2.2.1 = some (ty0 k)) (hnm : ∀ a, a < N → ∀ b, b < N → a ≠ b → (TT a).2.1 ≠ (TT b).2.1) (hc : vwCl[ci]? = some (C, TT, N)) (hk : k < N) (hm : Cond.fieldLink own index (TT k).1 (TT k).2.1 (TT k).2.2.1 ∈ wsL_law) (hfin : (TT k).2.2.2 = false) (hn : narrow (ty0 k) (.ref b) = .ref b) (hfit : fits (ty0 k) (.ref b) = true) (hdg : decode cc pc = .ok (.putfield index, 3))
    (kk : ∀ (f1 : Nat → va_E) (H1 : Heap) (locs1 : List Loc), fld f1 a k = .ref b → fr L R [(ro, k)] [ro] f f1 → tS D cy A H0 L R T f1 s H1 locs1 → W p l e R0 s m args below meth c H1 locs1 cells slots Q (F0 m (pc + 3) ls rest)) : W p l e R0 s m args below meth c H locs cells slots Q (F0 m pc ls (.ref b :: .ref a :: rest)) :=
  tw_put F h ha hr hT hp ⟨b, rfl, hb, hbr⟩ hin hty hnm hc hk hm hdg hfin hn hfit (fun f1 H1 locs1 h1 h2 h3 h4 => kk f1 H1 locs1 (h1) (fr.obj hr h2 h3) h4)
theorem tu_putn (F : CallFix p m c cc nL s args wsL_law own) (h : tS D cy A H0 L R T f s H locs) {C : String} {TT : u_T} {N ci index k : Nat} {ps : List (Value → Prop)} {ro2 b : Nat} (ha : a ∈ L) (hr : R a = ro) (hT : ∀ e, T ro e ↔ tO ci ps e) (hp : ps[k]? = some (vN L R ro2)) (hb : b ∈ L) (hbr : R b = ro2) (hin : ∀ w ∈ u_ws C TT N, w ∈ wsL_law) {ty0 : Nat → FieldType} (hty : ∀ k, k < N → parseFieldDescriptor (TT k).2.2.1 = some (ty0 k)) (hnm : ∀ a, a < N → ∀ b, b < N → a ≠ b → (TT a).2.1 ≠ (TT b).2.1) (hc : vwCl[ci]? = some (C, TT, N)) (hk : k < N) (hm : Cond.fieldLink own index (TT k).1 (TT k).2.1 (TT k).2.2.1 ∈ wsL_law) (hfin : (TT k).2.2.2 = false) (hn : narrow (ty0 k) (.ref b) = .ref b) (hfit : fits (ty0 k) (.ref b) = true) (hdg : decode cc pc = .ok (.putfield index, 3))
    (kk : ∀ (f1 : Nat → va_E) (H1 : Heap) (locs1 : List Loc), fld f1 a k = .ref b → fr L R [(ro, k)] [ro] f f1 → tS D cy A H0 L R T f1 s H1 locs1 → W p l e R0 s m args below meth c H1 locs1 cells slots Q (F0 m (pc + 3) ls rest)) : W p l e R0 s m args below meth c H locs cells slots Q (F0 m pc ls (.ref b :: .ref a :: rest)) :=
  tw_put F h ha hr hT hp (Or.inr ⟨b, rfl, hb, hbr⟩) hin hty hnm hc hk hm hdg hfin hn hfit (fun f1 H1 locs1 h1 h2 h3 h4 => kk f1 H1 locs1 (h1) (fr.obj hr h2 h3) h4)
theorem tu_iald (F : CallFix p m c cc nL s args wsL_law own) (h : tS D cy A H0 L R T f s H locs) {n : Nat} {P : Nat → Int → Prop} {i : Int32} (ha : a ∈ L) (hr : R a = ro) (hT : ∀ e, T ro e → tI (cy 1) n P e) (h1 : 0 ≤ i.toInt) (h2 : i.toInt < n) (hdg : decode cc pc = .ok (.iaload, 1))
    (kk : ∀ x : Int32, P i.toInt.toNat x.toInt → x.toInt = eli f a i.toInt.toNat → W p l e R0 s m args below meth c H locs cells slots Q (F0 m (pc + 1) ls (.int x :: rest))) : W p l e R0 s m args below meth c H locs cells slots Q (F0 m pc ls (.int i :: .ref a :: rest)) := by
  obtain ⟨hx, hall⟩ := h
  obtain ⟨k, hk⟩ := va_pl_get (X := []) (f := f) ha
  obtain ⟨g, he, hg⟩ := hT _ (hr ▸ hall a ha)
  exact va_iald F.1 F.2.1 hx.2.2.1 hx.1 k 1 (by rw [← he]; exact hk) rfl (tw_in h1 h2) hdg (kk _ (hg i.toInt.toNat (by omega)) (by unfold eli; rw [he]; rfl))
theorem tu_iast (F : CallFix p m c cc nL s args wsL_law own) (h : tS D cy A H0 L R T f s H locs) {n : Nat} {P : Nat → Int → Prop} {i x : Int32} (ha : a ∈ L) (hr : R a = ro) (hT : ∀ e, T ro e ↔ tI (cy 1) n P e) (h1 : 0 ≤ i.toInt) (h2 : i.toInt < n) (hv : P i.toInt.toNat x.toInt) (hdg : decode cc pc = .ok (.iastore, 1))
    (kk : ∀ (f1 : Nat → va_E) (H1 : Heap) (locs1 : List Loc), (∀ j, eli f1 a j = if j = i.toInt.toNat then x.toInt else eli f a j) → (∀ a', a' ≠ a → f1 a' = f a') → fr L R [] [ro] f f1 → tS D cy A H0 L R T f1 s H1 locs1 → W p l e R0 s m args below meth c H1 locs1 cells slots Q (F0 m (pc + 1) ls rest)) : W p l e R0 s m args below meth c H locs cells slots Q (F0 m pc ls (.int x :: .int i :: .ref a :: rest)) := by
  obtain ⟨hx, hall⟩ := h
  obtain ⟨k, hk⟩ := va_pl_get (X := []) (f := f) ha
  obtain ⟨g, he, hg⟩ := (hT _).mp (hr ▸ hall a ha)
  refine va_iast F.1 F.2.1 hx.2.2.1 hx.1 hx.2.1 hx.2.2.2.1 k 1 (by rw [← he]; exact hk) rfl (tw_in h1 h2) hdg (fun H1 locs1 a1 a2 a3 => ?_)
  have hset : (va_pl L f).set k (a, .inl (cy 1, n, .inl (upd g i.toNatClampNeg x))) = va_pl L (va_up f a (.inl (cy 1, n, .inl (upd g i.toNatClampNeg x)))) := va_pl_set (X := []) hx.2.1 ha hk
  refine kk (va_up f a (.inl (cy 1, n, .inl (upd g i.toNatClampNeg x)))) H1 locs1 (fun j => ?_) (fun a' ha' => va_up_ne _ _ ha') (fr.arr hr he (va_up_self ..) (fun a' ha' => va_up_ne _ _ ha')) ⟨hset ▸ ⟨a1, a2, hx.2.2.1, a3, hx.2.2.2.2⟩, fun a' ha' => ?_⟩
  · unfold eli
    rw [va_up_self, he]
    show (upd g i.toNatClampNeg x j).toInt = if j = i.toInt.toNat then x.toInt else (g j).toInt
    unfold upd
    show (if j = i.toInt.toNat then x else g j).toInt = _
    split <;> rfl
  by_cases e1 : a' = a
  · subst e1
    rw [va_up_self, hr]
    refine (hT _).mpr ⟨_, rfl, fun j hj => ?_⟩
    unfold upd
    split
    · rename_i e2
      subst e2
      exact hv
    · exact hg j hj
  · rw [va_up_ne _ _ e1]
    exact hall a' ha'
theorem tu_bald (F : CallFix p m c cc nL s args wsL_law own) (h : tS D cy A H0 L R T f s H locs) {n : Nat} {P : Nat → Int → Prop} {i : Int32} (ha : a ∈ L) (hr : R a = ro) (hT : ∀ e, T ro e → tI (cy 0) n P e) (h1 : 0 ≤ i.toInt) (h2 : i.toInt < n) (hdg : decode cc pc = .ok (.baload, 1))
    (kk : ∀ x : Int32, P i.toInt.toNat x.toInt → x.toInt = eli f a i.toInt.toNat → W p l e R0 s m args below meth c H locs cells slots Q (F0 m (pc + 1) ls (.int x :: rest))) : W p l e R0 s m args below meth c H locs cells slots Q (F0 m pc ls (.int i :: .ref a :: rest)) := by
  obtain ⟨hx, hall⟩ := h
  obtain ⟨k, hk⟩ := va_pl_get (X := []) (f := f) ha
  obtain ⟨g, he, hg⟩ := hT _ (hr ▸ hall a ha)
  exact va_bald F.1 F.2.1 hx.2.2.1 hx.1 k 0 (by rw [← he]; exact hk) rfl (tw_in h1 h2) hdg (kk _ (hg i.toInt.toNat (by omega)) (by unfold eli; rw [he]; rfl))
theorem tu_bast (F : CallFix p m c cc nL s args wsL_law own) (h : tS D cy A H0 L R T f s H locs) {n : Nat} {P : Nat → Int → Prop} {i x : Int32} (ha : a ∈ L) (hr : R a = ro) (hT : ∀ e, T ro e ↔ tI (cy 0) n P e) (h1 : 0 ≤ i.toInt) (h2 : i.toInt < n) (hv : P i.toInt.toNat (vp_nar .byte x).toInt) (hdg : decode cc pc = .ok (.bastore, 1))
    (kk : ∀ (f1 : Nat → va_E) (H1 : Heap) (locs1 : List Loc), (∀ j, eli f1 a j = if j = i.toInt.toNat then (vp_nar .byte x).toInt else eli f a j) → (∀ a', a' ≠ a → f1 a' = f a') → fr L R [] [ro] f f1 → tS D cy A H0 L R T f1 s H1 locs1 → W p l e R0 s m args below meth c H1 locs1 cells slots Q (F0 m (pc + 1) ls rest)) : W p l e R0 s m args below meth c H locs cells slots Q (F0 m pc ls (.int x :: .int i :: .ref a :: rest)) := by
  obtain ⟨hx, hall⟩ := h
  obtain ⟨k, hk⟩ := va_pl_get (X := []) (f := f) ha
  obtain ⟨g, he, hg⟩ := (hT _).mp (hr ▸ hall a ha)
  refine va_bast F.1 F.2.1 hx.2.2.1 hx.1 hx.2.1 hx.2.2.2.1 k 0 (by rw [← he]; exact hk) rfl (tw_in h1 h2) hdg (fun H1 locs1 a1 a2 a3 => ?_)
  have hset : (va_pl L f).set k (a, .inl (cy 0, n, .inl (upd g i.toNatClampNeg (vp_nar .byte x)))) = va_pl L (va_up f a (.inl (cy 0, n, .inl (upd g i.toNatClampNeg (vp_nar .byte x))))) := va_pl_set (X := []) hx.2.1 ha hk
  refine kk (va_up f a (.inl (cy 0, n, .inl (upd g i.toNatClampNeg (vp_nar .byte x))))) H1 locs1 (fun j => ?_) (fun a' ha' => va_up_ne _ _ ha') (fr.arr hr he (va_up_self ..) (fun a' ha' => va_up_ne _ _ ha')) ⟨hset ▸ ⟨a1, a2, hx.2.2.1, a3, hx.2.2.2.2⟩, fun a' ha' => ?_⟩
  · unfold eli
    rw [va_up_self, he]
    show (upd g i.toNatClampNeg (vp_nar .byte x) j).toInt = if j = i.toInt.toNat then (vp_nar .byte x).toInt else (g j).toInt
    unfold upd
    show (if j = i.toInt.toNat then (vp_nar .byte x) else g j).toInt = _
    split <;> rfl
  by_cases e1 : a' = a
  · subst e1
    rw [va_up_self, hr]
    refine (hT _).mpr ⟨_, rfl, fun j hj => ?_⟩
    unfold upd
    split
    · rename_i e2
      subst e2
      exact hv
    · exact hg j hj
  · rw [va_up_ne _ _ e1]
    exact hall a' ha'
theorem tu_zald (F : CallFix p m c cc nL s args wsL_law own) (h : tS D cy A H0 L R T f s H locs) {n : Nat} {P : Nat → Int → Prop} {i : Int32} (ha : a ∈ L) (hr : R a = ro) (hT : ∀ e, T ro e → tI (cy 3) n P e) (h1 : 0 ≤ i.toInt) (h2 : i.toInt < n) (hdg : decode cc pc = .ok (.baload, 1))
    (kk : ∀ x : Int32, P i.toInt.toNat x.toInt → x.toInt = eli f a i.toInt.toNat → W p l e R0 s m args below meth c H locs cells slots Q (F0 m (pc + 1) ls (.int x :: rest))) : W p l e R0 s m args below meth c H locs cells slots Q (F0 m pc ls (.int i :: .ref a :: rest)) := by
  obtain ⟨hx, hall⟩ := h
  obtain ⟨k, hk⟩ := va_pl_get (X := []) (f := f) ha
  obtain ⟨g, he, hg⟩ := hT _ (hr ▸ hall a ha)
  exact va_zald F.1 F.2.1 hx.2.2.1 hx.1 k 3 (by rw [← he]; exact hk) rfl (tw_in h1 h2) hdg (kk _ (hg i.toInt.toNat (by omega)) (by unfold eli; rw [he]; rfl))
theorem tu_zast (F : CallFix p m c cc nL s args wsL_law own) (h : tS D cy A H0 L R T f s H locs) {n : Nat} {P : Nat → Int → Prop} {i x : Int32} (ha : a ∈ L) (hr : R a = ro) (hT : ∀ e, T ro e ↔ tI (cy 3) n P e) (h1 : 0 ≤ i.toInt) (h2 : i.toInt < n) (hv : P i.toInt.toNat (vp_nar .boolean x).toInt) (hdg : decode cc pc = .ok (.bastore, 1))
    (kk : ∀ (f1 : Nat → va_E) (H1 : Heap) (locs1 : List Loc), (∀ j, eli f1 a j = if j = i.toInt.toNat then (vp_nar .boolean x).toInt else eli f a j) → (∀ a', a' ≠ a → f1 a' = f a') → fr L R [] [ro] f f1 → tS D cy A H0 L R T f1 s H1 locs1 → W p l e R0 s m args below meth c H1 locs1 cells slots Q (F0 m (pc + 1) ls rest)) : W p l e R0 s m args below meth c H locs cells slots Q (F0 m pc ls (.int x :: .int i :: .ref a :: rest)) := by
  obtain ⟨hx, hall⟩ := h
  obtain ⟨k, hk⟩ := va_pl_get (X := []) (f := f) ha
  obtain ⟨g, he, hg⟩ := (hT _).mp (hr ▸ hall a ha)
  refine va_zast F.1 F.2.1 hx.2.2.1 hx.1 hx.2.1 hx.2.2.2.1 k 3 (by rw [← he]; exact hk) rfl (tw_in h1 h2) hdg (fun H1 locs1 a1 a2 a3 => ?_)
  have hset : (va_pl L f).set k (a, .inl (cy 3, n, .inl (upd g i.toNatClampNeg (vp_nar .boolean x)))) = va_pl L (va_up f a (.inl (cy 3, n, .inl (upd g i.toNatClampNeg (vp_nar .boolean x))))) := va_pl_set (X := []) hx.2.1 ha hk
  refine kk (va_up f a (.inl (cy 3, n, .inl (upd g i.toNatClampNeg (vp_nar .boolean x))))) H1 locs1 (fun j => ?_) (fun a' ha' => va_up_ne _ _ ha') (fr.arr hr he (va_up_self ..) (fun a' ha' => va_up_ne _ _ ha')) ⟨hset ▸ ⟨a1, a2, hx.2.2.1, a3, hx.2.2.2.2⟩, fun a' ha' => ?_⟩
  · unfold eli
    rw [va_up_self, he]
    show (upd g i.toNatClampNeg (vp_nar .boolean x) j).toInt = if j = i.toInt.toNat then (vp_nar .boolean x).toInt else (g j).toInt
    unfold upd
    show (if j = i.toInt.toNat then (vp_nar .boolean x) else g j).toInt = _
    split <;> rfl
  by_cases e1 : a' = a
  · subst e1
    rw [va_up_self, hr]
    refine (hT _).mpr ⟨_, rfl, fun j hj => ?_⟩
    unfold upd
    split
    · rename_i e2
      subst e2
      exact hv
    · exact hg j hj
  · rw [va_up_ne _ _ e1]
    exact hall a' ha'
theorem tu_lald (F : CallFix p m c cc nL s args wsL_law own) (h : tS D cy A H0 L R T f s H locs) {n : Nat} {P : Nat → Int → Prop} {i : Int32} (ha : a ∈ L) (hr : R a = ro) (hT : ∀ e, T ro e → tJ (cy 2) n P e) (h1 : 0 ≤ i.toInt) (h2 : i.toInt < n) (hdg : decode cc pc = .ok (.laload, 1))
    (kk : ∀ x : Int64, P i.toInt.toNat x.toInt → x.toInt = elj f a i.toInt.toNat → W p l e R0 s m args below meth c H locs cells slots Q (F0 m (pc + 1) ls (.long x :: rest))) : W p l e R0 s m args below meth c H locs cells slots Q (F0 m pc ls (.int i :: .ref a :: rest)) :=
  tw_lald F h ha hr hT h1 h2 hdg (fun x h3 h4 => kk x h3 h4.symm)
theorem tu_last (F : CallFix p m c cc nL s args wsL_law own) (h : tS D cy A H0 L R T f s H locs) {n : Nat} {P : Nat → Int → Prop} {i : Int32} {x : Int64} (ha : a ∈ L) (hr : R a = ro) (hT : ∀ e, T ro e ↔ tJ (cy 2) n P e) (h1 : 0 ≤ i.toInt) (h2 : i.toInt < n) (hv : P i.toInt.toNat x.toInt) (hdg : decode cc pc = .ok (.lastore, 1))
    (kk : ∀ (f1 : Nat → va_E) (H1 : Heap) (locs1 : List Loc), (∀ j, elj f1 a j = if j = i.toInt.toNat then x.toInt else elj f a j) → (∀ a', a' ≠ a → f1 a' = f a') → fr L R [] [ro] f f1 → tS D cy A H0 L R T f1 s H1 locs1 → W p l e R0 s m args below meth c H1 locs1 cells slots Q (F0 m (pc + 1) ls rest)) : W p l e R0 s m args below meth c H locs cells slots Q (F0 m pc ls (.long x :: .int i :: .ref a :: rest)) := by
  obtain ⟨g, he, -⟩ := (hT _).mp (hr ▸ h.2 a ha)
  refine tw_last F h ha hr hT h1 h2 hv hdg (fun f1 H1 locs1 h3 h4 h5 => ?_)
  obtain ⟨g1, he1, -⟩ := (hT _).mp (hr ▸ h5.2 a ha)
  exact kk f1 H1 locs1 h3 h4 (fr.arr hr he he1 h4) h5
/-- elements that are objects -/
theorem tu_aald (F : CallFix p m c cc nL s args wsL_law own) (h : tS D cy A H0 L R T f s H locs) {n t0 : Nat} {cA : ClassId} {C : String} {ro2 : Nat} {i : Int32} (ha : a ∈ L) (hr : R a = ro) (hT : ∀ e, T ro e → tQ cA n (fun _ o => ∃ b, o = some b ∧ b ∈ L ∧ R b = ro2) e) (ht : (xTy cy)[t0]? = some (cA, .object C)) (h1 : 0 ≤ i.toInt) (h2 : i.toInt < n) (hdg : decode cc pc = .ok (.aaload, 1))
    (kk : ∀ b : Nat, b ∈ L → R b = ro2 → W p l e R0 s m args below meth c H locs cells slots Q (F0 m (pc + 1) ls (.ref b :: rest))) : W p l e R0 s m args below meth c H locs cells slots Q (F0 m pc ls (.int i :: .ref a :: rest)) :=
  tw_aald F h ha hr hT ht h1 h2 hdg kk
theorem tu_aast (F : CallFix p m c cc nL s args wsL_law own) (h : tS D cy A H0 L R T f s H locs) {n t0 b : Nat} {cA : ClassId} {ro2 ci : Nat} {ps : List (Value → Prop)} {r : vw_C} {i : Int32} (ha : a ∈ L) (hr : R a = ro) (hT : ∀ e, T ro e ↔ tQ cA n (fun _ o => ∃ b, o = some b ∧ b ∈ L ∧ R b = ro2) e) (ht : (xTy cy)[t0]? = some (cA, .object r.1)) (hb : b ∈ L) (hbr : R b = ro2) (hT2 : ∀ e, T ro2 e → tO ci ps e) (hc : vwCl[ci]? = some r) (h1 : 0 ≤ i.toInt) (h2 : i.toInt < n) (hdg : decode cc pc = .ok (.aastore, 1))
    (kk : ∀ (f1 : Nat → va_E) (H1 : Heap) (locs1 : List Loc), (∀ a', a' ≠ a → f1 a' = f a') → fr L R [] [ro] f f1 → tS D cy A H0 L R T f1 s H1 locs1 → W p l e R0 s m args below meth c H1 locs1 cells slots Q (F0 m (pc + 1) ls rest)) : W p l e R0 s m args below meth c H locs cells slots Q (F0 m pc ls (.ref b :: .int i :: .ref a :: rest)) := by
  obtain ⟨hx, hall⟩ := h
  obtain ⟨k, hk⟩ := va_pl_get (X := []) (f := f) ha
  obtain ⟨kb, hkb⟩ := va_pl_get (X := []) (f := f) hb
  obtain ⟨g, he, hg⟩ := (hT _).mp (hr ▸ hall a ha)
  obtain ⟨vs, heb, -, -⟩ := hT2 _ (hbr ▸ hall b hb)
  refine x_aast F hx k t0 kb ci (by rw [← he]; exact hk) ht (by rw [← heb]; exact hkb) hc (tw_in h1 h2) hdg (va_pl_set (X := []) hx.2.1 ha hk) (fun H1 locs1 h3 => kk (va_up f a (.inl (cA, n, .inr (.inr (.inr (.inr (va_up g i.toNatClampNeg (some b)))))))) H1 locs1 (fun a' ha' => va_up_ne _ _ ha') (fr.arr hr he (va_up_self ..) (fun a' ha' => va_up_ne _ _ ha')) ⟨h3, fun a' ha' => ?_⟩)
  by_cases e1 : a' = a
  · subst e1
    rw [va_up_self, hr]
    refine (hT _).mpr ⟨_, rfl, fun j hj => ?_⟩
    by_cases e2 : j = i.toNatClampNeg
    · subst e2
      exact ⟨b, va_up_self .., hb, hbr⟩
    · rw [va_up_ne _ _ e2]
      exact hg j hj
  · rw [va_up_ne _ _ e1]
    exact hall a' ha'
end TU
