/-! more rows: masks, products by a number, counts, copies, answers that are cells -/
theorem tw_msb32 {y : Int32} (h : 0 ≤ y.toInt) : y.toBitVec.msb = false := by
  rw [BitVec.msb_eq_toInt]
  have e : y.toBitVec.toInt = y.toInt := rfl
  rw [e]
  simp
  exact h
theorem tw_msb64 {y : Int64} (h : 0 ≤ y.toInt) : y.toBitVec.msb = false := by
  rw [BitVec.msb_eq_toInt]
  have e : y.toBitVec.toInt = y.toInt := rfl
  rw [e]
  simp
  exact h
theorem tw_and {x y : Int32} (h : 0 ≤ y.toInt) : 0 ≤ (x &&& y).toInt ∧ (x &&& y).toInt ≤ y.toInt := by
  have hy := tw_msb32 h
  have hz : (x &&& y).toBitVec.msb = false := by rw [Int32.toBitVec_and, BitVec.msb_and, hy, Bool.and_false]
  have e1 : (x &&& y).toInt = (x &&& y).toBitVec.toInt := rfl
  have e2 : y.toInt = y.toBitVec.toInt := rfl
  rw [e1, e2, BitVec.toInt_eq_toNat_of_msb hz, BitVec.toInt_eq_toNat_of_msb hy, Int32.toBitVec_and, BitVec.toNat_and]
  have := Nat.and_le_right (n := x.toBitVec.toNat) (m := y.toBitVec.toNat)
  omega
theorem tw_andL {x y : Int64} (h : 0 ≤ y.toInt) : 0 ≤ (x &&& y).toInt ∧ (x &&& y).toInt ≤ y.toInt := by
  have hy := tw_msb64 h
  have hz : (x &&& y).toBitVec.msb = false := by rw [Int64.toBitVec_and, BitVec.msb_and, hy, Bool.and_false]
  have e1 : (x &&& y).toInt = (x &&& y).toBitVec.toInt := rfl
  have e2 : y.toInt = y.toBitVec.toInt := rfl
  rw [e1, e2, BitVec.toInt_eq_toNat_of_msb hz, BitVec.toInt_eq_toNat_of_msb hy, Int64.toBitVec_and, BitVec.toNat_and]
  have := Nat.and_le_right (n := x.toBitVec.toNat) (m := y.toBitVec.toNat)
  omega
theorem tw_01 {x : Int32} (h : 0 ≤ x.toInt ∧ x.toInt ≤ 1) : x = 0 ∨ x = 1 := by
  by_cases e : x.toInt = 0
  · left
    exact Int32.toInt_inj.mp (by rw [e]; rfl)
  · right
    exact Int32.toInt_inj.mp (by
      have e1 : (1 : Int32).toInt = 1 := by decide
      rw [e1]
      omega)
theorem tw_nb {x : Int32} (h : 0 ≤ x.toInt ∧ x.toInt ≤ 1) : narrow .boolean (.int x) = .int x := by
  rcases tw_01 h with rfl | rfl <;> rfl
theorem tw_nz {x : Int32} (h : 0 ≤ x.toInt ∧ x.toInt ≤ 1) : (vp_nar .boolean x).toInt = x.toInt := by
  rcases tw_01 h with rfl | rfl <;> rfl
theorem tw_addL {x y : Int64} (h1 : -9223372036854775808 ≤ x.toInt + y.toInt) (h2 : x.toInt + y.toInt ≤ 9223372036854775807) : (x + y).toInt = x.toInt + y.toInt := by
  rw [Int64.toInt_add]
  exact Int.bmod_eq_of_le (by omega) (by omega)
theorem tw_negL {x : Int64} (h1 : -9223372036854775808 < x.toInt) : (-x).toInt = -x.toInt := by
  have e : (-x).toInt = (-x.toInt).bmod (2 ^ 64) := by
    have := Int64.toInt_neg x
    exact this
  have h2 : x.toInt ≤ 9223372036854775807 := by
    have := Int64.toInt_le x
    have e : Int64.maxValue.toInt = 9223372036854775807 := by decide
    omega
  rw [e]
  exact Int.bmod_eq_of_le (by omega) (by omega)
section TV
variable {p : Program} {l : Launch} {e : Env} {R0 : Room} {s : State} {m : MethodId} {args : Array Value} {below : List Frame} {meth : Method} {c : Code} {H H0 : Heap} {locs : List Loc} {cells slots : Nat} {Q : State → Prop} {cc : ByteArray} {nL : Nat} {own : String} {D : va_G} {cy : Nat → ClassId} {A : Nat → Prop} {L : List Nat} {R : Nat → Nat} {T : Nat → va_E → Prop} {f : Nat → va_E} {pc : Nat} {ls : Array Slot} {rest : List Value} {a ro : Nat}
theorem tu_iinc (F : CallFix p m c cc nL s args wsL_law own) {i k : Nat} {n : Int} {x : Int32} {lv : List (Nat × Value)} (hdg : decode cc pc = .ok (.iinc i n, 3)) (hl : lv_has ls nL lv) (hk : lv[k]? = some (i, .int x)) (hi : i < nL) (hn : (Int32.ofInt n).toInt = n) (h1 : -2147483648 ≤ x.toInt + n ∧ x.toInt + n ≤ 2147483647)
    (kk : ∀ (z : Int32) (ls : Array Slot), z.toInt = x.toInt + n → lv_has ls nL ((i, Value.int z) :: lv.filter (fun q => !(q.1 == i) && !(q.1 + 1 == i && q.2.category == 2))) → W p l e R0 s m args below meth c H locs cells slots Q (F0 m (pc + 3) ls rest)) : W p l e R0 s m args below meth c H locs cells slots Q (F0 m pc ls rest) :=
  lv_iinc F.1 F.2.1 hdg hl hk rfl hi rfl (fun ls hl => kk _ ls (tw_inc hn h1.1 h1.2) hl)
theorem tu_iincU (F : CallFix p m c cc nL s args wsL_law own) {i k : Nat} {n : Int} {x : Int32} {lv : List (Nat × Value)} (hdg : decode cc pc = .ok (.iinc i n, 3)) (hl : lv_has ls nL lv) (hk : lv[k]? = some (i, .int x)) (hi : i < nL)
    (kk : ∀ (z : Int32) (ls : Array Slot), lv_has ls nL ((i, Value.int z) :: lv.filter (fun q => !(q.1 == i) && !(q.1 + 1 == i && q.2.category == 2))) → W p l e R0 s m args below meth c H locs cells slots Q (F0 m (pc + 3) ls rest)) : W p l e R0 s m args below meth c H locs cells slots Q (F0 m pc ls rest) :=
  lv_iinc F.1 F.2.1 hdg hl hk rfl hi rfl (fun ls hl => kk _ ls hl)
theorem tu_lconst (F : CallFix p m c cc nL s args wsL_law own) {n : Fin 2} {k : Int} (hdg : decode cc pc = .ok (.lconst n, 1)) (hn : (Int64.ofNat (n : Nat)).toInt = k) (kk : ∀ z : Int64, z.toInt = k → W p l e R0 s m args below meth c H locs cells slots Q (F0 m (pc + 1) ls (.long z :: rest))) : W p l e R0 s m args below meth c H locs cells slots Q (F0 m pc ls rest) := lv_lconst F.1 F.2.1 hdg rfl (kk _ hn)
theorem tu_ldc (F : CallFix p m c cc nL s args wsL_law own) {index : Nat} {v : Int32} {k : Int} (hm : Cond.constant own index v ∈ wsL_law) (hdg : decode cc pc = .ok (.ldc index, 2)) (hn : v.toInt = k) (kk : ∀ z : Int32, z.toInt = k → W p l e R0 s m args below meth c H locs cells slots Q (F0 m (pc + 2) ls (.int z :: rest))) : W p l e R0 s m args below meth c H locs cells slots Q (F0 m pc ls rest) := lv_ldc F.1 F.2.1 F.2.2.2.1 (F.2.2.2.2 _ hm) hdg (kk v hn)
theorem tu_ldc2 (F : CallFix p m c cc nL s args wsL_law own) {index : Nat} {v : Int64} {k : Int} (hm : Cond.constantLong own index v ∈ wsL_law) (hdg : decode cc pc = .ok (.ldc2_w index, 3)) (hn : v.toInt = k) (kk : ∀ z : Int64, z.toInt = k → W p l e R0 s m args below meth c H locs cells slots Q (F0 m (pc + 3) ls (.long z :: rest))) : W p l e R0 s m args below meth c H locs cells slots Q (F0 m pc ls rest) := lv_ldc2 F.1 F.2.1 F.2.2.2.1 (F.2.2.2.2 _ hm) hdg (kk v hn)
theorem tu_iadd (F : CallFix p m c cc nL s args wsL_law own) {x y : Int32} (hdg : decode cc pc = .ok (.iadd, 1)) (h1 : -2147483648 ≤ x.toInt + y.toInt ∧ x.toInt + y.toInt ≤ 2147483647) (kk : ∀ z : Int32, z.toInt = x.toInt + y.toInt → W p l e R0 s m args below meth c H locs cells slots Q (F0 m (pc + 1) ls (.int z :: rest))) : W p l e R0 s m args below meth c H locs cells slots Q (F0 m pc ls (.int y :: .int x :: rest)) := tw_iadd F hdg h1.1 h1.2 kk
theorem tu_isub (F : CallFix p m c cc nL s args wsL_law own) {x y : Int32} (hdg : decode cc pc = .ok (.isub, 1)) (h1 : -2147483648 ≤ x.toInt - y.toInt ∧ x.toInt - y.toInt ≤ 2147483647) (kk : ∀ z : Int32, z.toInt = x.toInt - y.toInt → W p l e R0 s m args below meth c H locs cells slots Q (F0 m (pc + 1) ls (.int z :: rest))) : W p l e R0 s m args below meth c H locs cells slots Q (F0 m pc ls (.int y :: .int x :: rest)) := tw_isub F hdg h1.1 h1.2 kk
/-- a product by a known number, right or left -/
theorem tu_imulr (F : CallFix p m c cc nL s args wsL_law own) {x y : Int32} {n : Int} (hdg : decode cc pc = .ok (.imul, 1)) (hy : y.toInt = n) (h1 : -2147483648 ≤ x.toInt * n ∧ x.toInt * n ≤ 2147483647) (kk : ∀ z : Int32, z.toInt = x.toInt * n → W p l e R0 s m args below meth c H locs cells slots Q (F0 m (pc + 1) ls (.int z :: rest))) : W p l e R0 s m args below meth c H locs cells slots Q (F0 m pc ls (.int y :: .int x :: rest)) := by
  subst hy
  exact tw_imul F hdg h1.1 h1.2 kk
theorem tu_imull (F : CallFix p m c cc nL s args wsL_law own) {x y : Int32} {n : Int} (hdg : decode cc pc = .ok (.imul, 1)) (hx : x.toInt = n) (h1 : -2147483648 ≤ n * y.toInt ∧ n * y.toInt ≤ 2147483647) (kk : ∀ z : Int32, z.toInt = n * y.toInt → W p l e R0 s m args below meth c H locs cells slots Q (F0 m (pc + 1) ls (.int z :: rest))) : W p l e R0 s m args below meth c H locs cells slots Q (F0 m pc ls (.int y :: .int x :: rest)) := by
  subst hx
  exact tw_imul F hdg h1.1 h1.2 kk
theorem tu_iand (F : CallFix p m c cc nL s args wsL_law own) {x y : Int32} (hdg : decode cc pc = .ok (.iand, 1)) (hy : 0 ≤ y.toInt) (kk : ∀ z : Int32, 0 ≤ z.toInt → z.toInt ≤ y.toInt → W p l e R0 s m args below meth c H locs cells slots Q (F0 m (pc + 1) ls (.int z :: rest))) : W p l e R0 s m args below meth c H locs cells slots Q (F0 m pc ls (.int y :: .int x :: rest)) := lv_iand F.1 F.2.1 hdg (kk _ (tw_and hy).1 (tw_and hy).2)
theorem tu_land (F : CallFix p m c cc nL s args wsL_law own) {x y : Int64} (hdg : decode cc pc = .ok (.land, 1)) (hy : 0 ≤ y.toInt) (kk : ∀ z : Int64, 0 ≤ z.toInt → z.toInt ≤ y.toInt → W p l e R0 s m args below meth c H locs cells slots Q (F0 m (pc + 1) ls (.long z :: rest))) : W p l e R0 s m args below meth c H locs cells slots Q (F0 m pc ls (.long y :: .long x :: rest)) := lv_land F.1 F.2.1 hdg (kk _ (tw_andL hy).1 (tw_andL hy).2)
theorem tu_ladd (F : CallFix p m c cc nL s args wsL_law own) {x y : Int64} (hdg : decode cc pc = .ok (.ladd, 1)) (h1 : -9223372036854775808 ≤ x.toInt + y.toInt ∧ x.toInt + y.toInt ≤ 9223372036854775807) (kk : ∀ z : Int64, z.toInt = x.toInt + y.toInt → W p l e R0 s m args below meth c H locs cells slots Q (F0 m (pc + 1) ls (.long z :: rest))) : W p l e R0 s m args below meth c H locs cells slots Q (F0 m pc ls (.long y :: .long x :: rest)) := lv_ladd F.1 F.2.1 hdg (kk _ (tw_addL h1.1 h1.2))
theorem tu_lneg (F : CallFix p m c cc nL s args wsL_law own) {x : Int64} (hdg : decode cc pc = .ok (.lneg, 1)) (h1 : -9223372036854775808 < x.toInt) (kk : ∀ z : Int64, z.toInt = -x.toInt → W p l e R0 s m args below meth c H locs cells slots Q (F0 m (pc + 1) ls (.long z :: rest))) : W p l e R0 s m args below meth c H locs cells slots Q (F0 m pc ls (.long x :: rest)) := lv_lneg F.1 F.2.1 hdg (kk _ (tw_negL h1))
theorem tw_nlt {x : Int32} (h : 0 ≤ x.toInt) : ¬ x < 0 := fun h2 => by
  have := Int32.lt_iff_toInt_lt.mp h2
  rw [tw_i0] at this
  omega
theorem tu_cpyl (F : CallFix p m c cc nL s args wsL_law own) (h : tS D cy A H0 L R T f s H locs) (hsz : ls.size = nL) {index : Nat} (m1 : Cond.methodLink own index arraycopyName ∈ wsL_law) (m2 : Cond.native arraycopyName ∈ wsL_law) (m3 : Cond.static arraycopyName ∈ wsL_law) (m4 : Cond.initialized "java/lang/System" ∈ wsL_law) {a0 ro0 n0 n1 : Nat} {P0 P1 : Nat → Int → Prop} (ha0 : a0 ∈ L) (hr0 : R a0 = ro0) (hT0 : ∀ e, T ro0 e → tJ (cy 2) n0 P0 e) (ha : a ∈ L) (hr : R a = ro) (hT : ∀ e, T ro e ↔ tJ (cy 2) n1 P1 e) (hP : ∀ i j v, P0 i v → P1 j v) {sp dp n : Int32} (hb : 0 ≤ sp.toInt ∧ 0 ≤ dp.toInt ∧ 0 ≤ n.toInt ∧ sp.toInt + n.toInt ≤ n0 ∧ dp.toInt + n.toInt ≤ n1) (hfr : 1 ≤ R0.frames) (hlo : (rest.map fun v => v.category).sum + (nativeFrameWords "java/lang/System" "arraycopy" 5 + 11) ≤ R0.locals) (hdg : decode cc pc = .ok (.invokestatic index, 3))
    (kk : ∀ (f1 : Nat → va_E) (H1 : Heap) (locs1 : List Loc), (∀ j, elj f1 a j = if dp.toInt.toNat ≤ j ∧ j < dp.toInt.toNat + n.toInt.toNat then elj f a0 (sp.toInt.toNat + (j - dp.toInt.toNat)) else elj f a j) → (∀ a', a' ≠ a → f1 a' = f a') → fr L R [] [ro] f f1 → tS D cy A H0 L R T f1 s H1 locs1 → W p l e R0 s m args below meth c H1 locs1 cells slots Q (F0 m (pc + 3) ls rest)) : W p l e R0 s m args below meth c H locs cells slots Q (F0 m pc ls (.int n :: .int dp :: .ref a :: .int sp :: .ref a0 :: rest)) := by
  obtain ⟨hx, hall⟩ := h
  obtain ⟨b1, b2, b3, b4, b5⟩ := hb
  obtain ⟨k, hk⟩ := va_pl_get (X := []) (f := f) ha
  obtain ⟨k0, hk0⟩ := va_pl_get (X := []) (f := f) ha0
  obtain ⟨g, he, hg⟩ := (hT _).mp (hr ▸ hall a ha)
  obtain ⟨g0, he0, hg0⟩ := hT0 _ (hr0 ▸ hall a0 ha0)
  have e1 : sp.toNatClampNeg = sp.toInt.toNat := rfl
  have e2 : dp.toNatClampNeg = dp.toInt.toNat := rfl
  have e3 : n.toNatClampNeg = n.toInt.toNat := rfl
  refine x_cpyl F hx hsz m1 m2 m3 m4 k0 k (by rw [← he0]; exact hk0) (by rw [← he]; exact hk) rfl rfl (tw_nlt b1) (tw_nlt b2) (tw_nlt b3) (by omega) (by omega) hfr hlo hdg (va_pl_set (X := []) hx.2.1 ha hk) (fun H1 locs1 h1 => kk (va_up f a (.inl (cy 2, n1, .inr (.inl (va_cpy g0 g sp.toNatClampNeg dp.toNatClampNeg n.toNatClampNeg))))) H1 locs1 (fun j => ?_) (fun a' ha' => va_up_ne _ _ ha') (fr.arr hr he (va_up_self ..) (fun a' ha' => va_up_ne _ _ ha')) ⟨h1, fun a' ha' => ?_⟩)
  · unfold elj
    rw [va_up_self, he, he0]
    show (va_cpy g0 g sp.toInt.toNat dp.toInt.toNat n.toInt.toNat j).toInt = _
    unfold va_cpy
    split <;> rfl
  by_cases q : a' = a
  · subst q
    rw [va_up_self, hr]
    refine (hT _).mpr ⟨_, rfl, fun j hj => ?_⟩
    rw [e1, e2, e3]
    unfold va_cpy
    split
    · exact hP _ j _ (hg0 (sp.toInt.toNat + (j - dp.toInt.toNat)) (by omega))
    · exact hg j hj
  · rw [va_up_ne _ _ q]
    exact hall a' ha'
theorem tu_cpyi (F : CallFix p m c cc nL s args wsL_law own) (h : tS D cy A H0 L R T f s H locs) (hsz : ls.size = nL) {index : Nat} (m1 : Cond.methodLink own index arraycopyName ∈ wsL_law) (m2 : Cond.native arraycopyName ∈ wsL_law) (m3 : Cond.static arraycopyName ∈ wsL_law) (m4 : Cond.initialized "java/lang/System" ∈ wsL_law) {a0 ro0 n0 n1 : Nat} {P0 P1 : Nat → Int → Prop} (ha0 : a0 ∈ L) (hr0 : R a0 = ro0) (hT0 : ∀ e, T ro0 e → tI (cy 1) n0 P0 e) (ha : a ∈ L) (hr : R a = ro) (hT : ∀ e, T ro e ↔ tI (cy 1) n1 P1 e) (hP : ∀ i j v, P0 i v → P1 j v) {sp dp n : Int32} (hb : 0 ≤ sp.toInt ∧ 0 ≤ dp.toInt ∧ 0 ≤ n.toInt ∧ sp.toInt + n.toInt ≤ n0 ∧ dp.toInt + n.toInt ≤ n1) (hfr : 1 ≤ R0.frames) (hlo : (rest.map fun v => v.category).sum + (nativeFrameWords "java/lang/System" "arraycopy" 5 + 11) ≤ R0.locals) (hdg : decode cc pc = .ok (.invokestatic index, 3))
    (kk : ∀ (f1 : Nat → va_E) (H1 : Heap) (locs1 : List Loc), (∀ j, eli f1 a j = if dp.toInt.toNat ≤ j ∧ j < dp.toInt.toNat + n.toInt.toNat then eli f a0 (sp.toInt.toNat + (j - dp.toInt.toNat)) else eli f a j) → (∀ a', a' ≠ a → f1 a' = f a') → fr L R [] [ro] f f1 → tS D cy A H0 L R T f1 s H1 locs1 → W p l e R0 s m args below meth c H1 locs1 cells slots Q (F0 m (pc + 3) ls rest)) : W p l e R0 s m args below meth c H locs cells slots Q (F0 m pc ls (.int n :: .int dp :: .ref a :: .int sp :: .ref a0 :: rest)) := by
  obtain ⟨hx, hall⟩ := h
  obtain ⟨b1, b2, b3, b4, b5⟩ := hb
  obtain ⟨k, hk⟩ := va_pl_get (X := []) (f := f) ha
  obtain ⟨k0, hk0⟩ := va_pl_get (X := []) (f := f) ha0
  obtain ⟨g, he, hg⟩ := (hT _).mp (hr ▸ hall a ha)
  obtain ⟨g0, he0, hg0⟩ := hT0 _ (hr0 ▸ hall a0 ha0)
  have e1 : sp.toNatClampNeg = sp.toInt.toNat := rfl
  have e2 : dp.toNatClampNeg = dp.toInt.toNat := rfl
  have e3 : n.toNatClampNeg = n.toInt.toNat := rfl
  refine x_cpyi F hx hsz m1 m2 m3 m4 k0 k (by rw [← he0]; exact hk0) (by rw [← he]; exact hk) rfl rfl (tw_nlt b1) (tw_nlt b2) (tw_nlt b3) (by omega) (by omega) hfr hlo hdg (va_pl_set (X := []) hx.2.1 ha hk) (fun H1 locs1 h1 => kk (va_up f a (.inl (cy 1, n1, .inl (va_cpy g0 g sp.toNatClampNeg dp.toNatClampNeg n.toNatClampNeg)))) H1 locs1 (fun j => ?_) (fun a' ha' => va_up_ne _ _ ha') (fr.arr hr he (va_up_self ..) (fun a' ha' => va_up_ne _ _ ha')) ⟨h1, fun a' ha' => ?_⟩)
  · unfold eli
    rw [va_up_self, he, he0]
    show (va_cpy g0 g sp.toInt.toNat dp.toInt.toNat n.toInt.toNat j).toInt = _
    unfold va_cpy
    split <;> rfl
  by_cases q : a' = a
  · subst q
    rw [va_up_self, hr]
    refine (hT _).mpr ⟨_, rfl, fun j hj => ?_⟩
    rw [e1, e2, e3]
    unfold va_cpy
    split
    · exact hP _ j _ (hg0 (sp.toInt.toNat + (j - dp.toInt.toNat)) (by omega))
    · exact hg j hj
  · rw [va_up_ne _ _ q]
    exact hall a' ha'
/-- what a cell's kind says of its fields -/
theorem tS.bfi (h : tS D cy A H0 L R T f s H locs) {ci k : Nat} {ps : List (Value → Prop)} {lo hi : Int} (ha : a ∈ L) (hr : R a = ro) (hT : ∀ e, T ro e → tO ci ps e) (hp : ps[k]? = some (vI lo hi)) : lo ≤ fi f a k ∧ fi f a k ≤ hi := by
  obtain ⟨vs, he, hlen, hv⟩ := hT _ (hr ▸ h.2 a ha)
  have hkl : k < vs.length := by rw [hlen]; exact (List.getElem?_eq_some_iff.mp hp).1
  have hvk : vs[k]? = some vs[k] := List.getElem?_eq_getElem hkl
  obtain ⟨x, hx, h1, h2⟩ := hv k _ _ hp hvk
  have e1 : fi f a k = x.toInt := by
    unfold fi fld
    rw [he]
    show vi (vs.getD k .null) = x.toInt
    rw [List.getD_eq_getElem?_getD, hvk, hx]
    rfl
  rw [e1]
  exact ⟨h1, h2⟩
theorem tS.rf (h : tS D cy A H0 L R T f s H locs) {ci k ro2 : Nat} {ps : List (Value → Prop)} (ha : a ∈ L) (hr : R a = ro) (hT : ∀ e, T ro e → tO ci ps e) (hp : ps[k]? = some (vR L R ro2)) : ∃ b, b ∈ L ∧ R b = ro2 ∧ fld f a k = .ref b := by
  obtain ⟨vs, he, hlen, hv⟩ := hT _ (hr ▸ h.2 a ha)
  have hkl : k < vs.length := by rw [hlen]; exact (List.getElem?_eq_some_iff.mp hp).1
  have hvk : vs[k]? = some vs[k] := List.getElem?_eq_getElem hkl
  obtain ⟨b, hx, h1, h2⟩ := hv k _ _ hp hvk
  refine ⟨b, h1, h2, ?_⟩
  unfold fld
  rw [he]
  show vs.getD k .null = .ref b
  rw [List.getD_eq_getElem?_getD, hvk, hx]
  rfl
end TV
section TVE
variable {l : Launch} {y : MethodName} {bytes : ByteArray} {maxL : Nat} {rm : Room} {D : va_G} {cy : Nat → ClassId} {av : List Value} {own : String} {L : List Nat} {R : Nat → Nat} {T : Nat → va_E → Prop} {f : Nat → va_E}
theorem tw_enterr {C : String} {post : Nat → (Nat → va_E) → Prop} (hy : plainName y.cls = true) (hcls : y.cls = own) (hlen : (lg_sl av).length ≤ maxL)
    (body : ∀ (p : Program) (e : Env) (s : State) (m : MethodId) (below : List Frame) (meth : Method) (c : Code) (A : Nat → Prop) (ls : Array Slot) (args : Array Value) (Q : State → Prop), CallFix p m c bytes maxL s args wsL_law own → tZ A s s.heap → tS D cy A s.heap L R T f s s.heap [] → lv_has ls maxL (lv_args 0 av) → (∀ (f1 : Nat → va_E) (H : Heap) (locs : List Loc) (pc : Nat) (ls : Array Slot) (v : Nat), decode bytes pc = .ok (.areturn, 1) → post v f1 → tS D cy A s.heap L R T f1 s H locs → W p l e rm s m args below meth c H locs 0 0 Q (F0 m pc ls [.ref v])) → W p l e rm s m args below meth c s.heap [] 0 0 Q (F0 m 0 ls [])) :
    ∀ sz, Met l y (Cond.code y bytes maxL (some (.object C)) :: wsL_law) rm (va_Pc av (tPZ D cy L R T f sz)) (va_Qr (fun _ => True) (fun (f1 : Nat → va_E) v t => post v f1 ∧ tB D (tA L sz) L R T f1 t) (tA L sz)) 0 0 (tA L sz) := by
  intro sz
  refine Met.ofW (cc := bytes) (maxL := maxL) (ret := some (.object C)) hy rfl ?_
  intro p e s m args below meth c s₁ B hml hv
  obtain ⟨rfl, ⟨⟨hsz, hP, hK, hD0, hE⟩, hall⟩, hZ⟩ := hv
  have hts := atoms_spec (ws := Cond.code y bytes maxL (some (.object C)) :: wsL_law) B.pre
  have hown : s.vm.findClass own = some m.cls := by rw [← hcls]; exact findClass_of_methodNamed B.named
  subst hsz
  have hD := hD0.self (sz := s.heap.size)
  rw [tA_pl] at hD
  have hl := lv_entry av hlen
  rw [lg_entry_eq]
  have F : CallFix p m c bytes maxL s av.toArray wsL_law own := ⟨B.exec, B.bytes, hml, hown, fun w h => hts w (List.mem_cons_of_mem _ h)⟩
  refine body p e s m below meth c (tA L s.heap.size) _ _ _ F hZ ⟨⟨hP, hD, hK, va_S.rf, fun q h => Or.inr h, hE⟩, hall⟩ hl (fun f1 H locs pc ls v hdg hpost h => ?_)
  obtain ⟨hx1, hall1⟩ := h
  exact W.aret F.1 F.2.1 B.returns (Or.inl ⟨C, rfl⟩) (Or.inr ⟨v, rfl⟩) (fun t ht _ => ⟨⟨f1, v, rfl, trivial, hpost, by rw [ht]; exact hx1.1, hx1.2.1, hall1⟩, hx1.2.2.2.1.F ht⟩) hx1.2.2.2.1.2.2 hdg B.notSynchronized
end TVE
section TVC
variable {p : Program} {l : Launch} {e : Env} {R0 : Room} {s : State} {m : MethodId} {args : Array Value} {below : List Frame} {meth : Method} {c : Code} {H H0 : Heap} {locs : List Loc} {cells slots : Nat} {Q : State → Prop} {cc : ByteArray} {nL : Nat} {own : String} {D : va_G} {cy : Nat → ClassId} {A : Nat → Prop} {L : List Nat} {R : Nat → Nat} {T : Nat → va_E → Prop} {f : Nat → va_E} {pc : Nat} {ls : Array Slot} {rest : List Value}
  {y : MethodName} {C : String} {bytes : ByteArray} {maxL : Nat} {ret : Option FieldType} {rm : Room} {b ro : Nat} {As st : List Value} {ci N index : Nat} {TT : u_T} {ps : List (Value → Prop)}
theorem tw_Vr {post : Nat → (Nat → va_E) → Prop} (F : CallFix p m c cc nL s args wsL_law own) (hZ : tZ A s s.heap) (h : tS D cy A s.heap L R T f s H locs) (hY : xY y C bytes maxL ret As.length) (hl : Cond.methodLink own index y ∈ wsL_law) (hi : Cond.instanceMethod y ∈ wsL_law) (hs : Cond.selects C y y ∈ wsL_law) (hM : ∀ sz, Met l y (Cond.code y bytes maxL ret :: wsL_law) rm (va_Pc (.ref b :: As) (tPZ D cy L R T f sz)) (va_Qr (fun _ => True) (fun (f1 : Nat → va_E) v t => post v f1 ∧ tB D (tA L sz) L R T f1 t) (tA L sz)) 0 0 (tA L sz)) (hrc : rm.cells = 0) (hrs : rm.slots = 0) (hb : b ∈ L) (hro : R b = ro) (hT : ∀ e, T ro e → tO ci ps e) (hcl : vwCl[ci]? = some (C, TT, N)) (hsz : ls.size = nL) (hst : st = As.reverse ++ .ref b :: rest) (hr8 : (rest.map fun v => v.category).sum ≤ 8) (hRm : rm.frames + 1 ≤ R0.frames ∧ 8 + (maxL + 11) + rm.locals ≤ R0.locals) (hf : cells ≤ R0.cells ∧ slots ≤ R0.slots) (hdg : decode cc pc = .ok (.invokevirtual index, 3))
    (kk : ∀ (r : Nat) (f1 : Nat → va_E) (H1 : Heap) (locs1 : List Loc), post r f1 → tS D cy A s.heap L R T f1 s H1 locs1 → W p l e R0 s m args below meth c H1 locs1 cells slots Q (F0 m (pc + 3) ls (.ref r :: rest))) : W p l e R0 s m args below meth c H locs cells slots Q (F0 m pc ls st) := by
  subst hst
  have hp := h.pre hZ (av := .ref b :: As)
  have hB := x_cB (rm := rm) (R := R0) F hY hl hRm
  rw [hrc, hrs] at hB
  exact va_callr (va_runV (As := As) (rest := rest) F (hM H.size) ⟨hB, F.2.2.2.2 _ hi, F.2.2.2.2 _ hs⟩ ⟨hp.1, h.recv hb hro hT hcl, hp.2⟩ rfl rfl hsz rfl (lv_room hr8) hdg hf) h.dd.2.2 (fun q _ hh => h.free q hh) h.free (fun u ra t H1 locs ht _ _ hB _ _ hS => kk ra u H1 locs hB.1 (h.back ht hB.2 hS))
end TVC
