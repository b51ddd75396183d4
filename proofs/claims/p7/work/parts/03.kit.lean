/-! the words of the whole system, once for all methods -/
theorem xw_all : wsL_law.all goodWord = true := by decide +kernel
theorem xw_good (w : Cond) (h : w ∈ wsL_law) : (w.onTables && w.keeps) = true ∨ ∃ ty, w = .arrayClass ty := good_of_word (List.all_eq_true.mp xw_all w h)
theorem xw_in {y : MethodName} {b : ByteArray} {n : Nat} {r : Option FieldType} (h : Cond.code y b n r ∈ wsL_law) : GoodIn wsL_law (Cond.code y b n r :: wsL_law) := fun w hw => (List.mem_cons.mp hw).elim (fun e => by subst e; exact ⟨h, xw_good _ h⟩) (fun h => ⟨h, xw_good _ h⟩)
/-- what the tables say beside the words: arrays of objects, constructors of nest mates -/
def xE (U : State) : Prop := (va_AO "AskBack$Book" U ∧ va_AO "AskBack$Ear" U ∧ va_AO "AskBack$Row" U ∧ va_AO "AskBack$Script" U ∧ va_AO "AskBack$State" U ∧ va_AO "AskBack$Tray" U) ∧ (va_Nw (.methodLinkNest RX11 21 yX3_init "AskBack") U ∧ va_Nw (.methodLinkNest RX11 53 yX4_init "AskBack") U ∧ va_Nw (.methodLinkNest RX11 89 yX10_init "AskBack") U ∧ va_Nw (.methodLinkNest RX0 43 yX6_init "AskBack") U ∧ va_Nw (.methodLinkNest RX0 45 yX4_init "AskBack") U ∧ va_Nw (.methodLinkNest RX3 11 yX4_init "AskBack") U ∧ va_Nw (.methodLinkNest RX3 20 yX6_init "AskBack") U ∧ va_Nw (.methodLinkNest RX5 11 yX4_init "AskBack") U ∧ va_Nw (.methodLinkNest RX7 64 yX4_init "AskBack") U ∧ va_Nw (.methodLinkNest RX7 75 yX6_init "AskBack") U ∧ va_Nw (.methodLinkNest RX8 25 yX4_init "AskBack") U ∧ va_Nw (.methodLinkNest RX9 32 yX4_init "AskBack") U ∧ va_Nw (.methodLinkNest RX7 132 yX2_init "AskBack") U)
theorem xE.warm {s U : State} (hW : s.WarmedH U.vm) (h : xE s) : xE U := by
  obtain ⟨⟨a1, a2, a3, a4, a5, a6⟩, b1, b2, b3, b4, b5, b6, b7, b8, b9, b10, b11, b12, b13⟩ := h
  exact ⟨⟨a1.moved hW.alike, a2.moved hW.alike, a3.moved hW.alike, a4.moved hW.alike, a5.moved hW.alike, a6.moved hW.alike⟩, b1.warmM hW, b2.warmM hW, b3.warmM hW, b4.warmM hW, b5.warmM hW, b6.warmM hW, b7.warmM hW, b8.warmM hW, b9.warmM hW, b10.warmM hW, b11.warmM hW, b12.warmM hW, b13.warmM hW⟩
theorem xE.calling {U : State} {g : JFrame} {mk : MethodId} {a : Array Value} (h : xE U) : xE (U.calling g mk a) := by
  obtain ⟨⟨a1, a2, a3, a4, a5, a6⟩, b1, b2, b3, b4, b5, b6, b7, b8, b9, b10, b11, b12, b13⟩ := h
  have r : U.vm.Alike (U.calling g mk a).vm := Vm.Alike.refl U.vm
  have q : U.vm = (U.calling g mk a).vm := rfl
  exact ⟨⟨a1.moved r, a2.moved r, a3.moved r, a4.moved r, a5.moved r, a6.moved r⟩, b1.same rfl q, b2.same rfl q, b3.same rfl q, b4.same rfl q, b5.same rfl q, b6.same rfl q, b7.same rfl q, b8.same rfl q, b9.same rfl q, b10.same rfl q, b11.same rfl q, b12.same rfl q, b13.same rfl q⟩
/-- the array classes -/
abbrev xTy (cy : Nat → ClassId) : List (ClassId × FieldType) := [(cy 0, .byte), (cy 1, .int), (cy 2, .long), (cy 3, .boolean), (cy 4, .object "AskBack$Book"), (cy 5, .object "AskBack$Ear"), (cy 6, .object "AskBack$Row"), (cy 7, .object "AskBack$Script"), (cy 8, .object "AskBack$State"), (cy 9, .object "AskBack$Tray")]
/-- the world at a place of a method: its cells, apart; the tables; nothing else touched -/
def xS (D : va_G) (cy : Nat → ClassId) (A : Nat → Prop) (H0 : Heap) (ws : va_W) (s : State) (H : Heap) (locs : List Loc) : Prop := va_P D vwCl ws H ∧ va_D A ws ∧ va_K D vwCl (xTy cy) s ∧ va_S A H0 H locs ∧ (∀ q, H0.size ≤ q → A q) ∧ xE s
def xP (D : va_G) (cy : Nat → ClassId) (ws : va_W) (sz : Nat) (U : State) : Prop := U.heap.size = sz ∧ va_P D vwCl ws U.heap ∧ va_K D vwCl (xTy cy) U ∧ va_D (fun _ => True) ws ∧ xE U
def xB (D : va_G) (A : Nat → Prop) (w : (Nat → Nat) → va_W) (u : Nat → Nat) (t : State) : Prop := va_P D vwCl (w u) t.heap ∧ va_D A (w u)
theorem xfm {α β : Type} {f : α → Option β} : ∀ (is : List α) (ws : List β), is.map f = ws.map some → is.filterMap f = ws := by
  intro is
  induction is with
  | nil => intro ws h; cases ws with
    | nil => rfl
    | cons a t => simp at h
  | cons i t ih => intro ws h; cases ws with
    | nil => simp at h
    | cons a t' =>
      simp only [List.map_cons, List.cons.injEq] at h
      rw [List.filterMap_cons, h.1]
      show a :: t.filterMap f = a :: t'
      rw [ih _ h.2]
/-- what a method that can be called is, in the words -/
def xY (y : MethodName) (C : String) (bytes : ByteArray) (maxL : Nat) (ret : Option FieldType) (n : Nat) : Prop := (y.cls = C ∧ y.cls ≠ "java/lang/invoke/MethodHandle" ∧ y.cls ≠ "java/lang/invoke/VarHandle" ∧ (parseMethodDescriptor y.desc).map (fun d => d.parameters.length) = some n) ∧ Cond.initialized C ∈ wsL_law ∧ Cond.code y bytes maxL ret ∈ wsL_law
section XK
variable {p : Program} {l : Launch} {e : Env} {R : Room} {s : State} {m : MethodId} {args : Array Value} {below : List Frame} {meth : Method} {c : Code} {H H0 : Heap} {locs : List Loc} {cells slots : Nat} {Q : State → Prop} {cc : ByteArray} {nL : Nat} {own : String} {D : va_G} {cy : Nat → ClassId} {A : Nat → Prop} {ws : va_W} {pc : Nat} {ls : Array Slot} {rest : List Value} {a : Nat}
theorem xS.sub (h : xS D cy A H0 ws s H locs) {ws' : va_W} (is : List Nat) (hn : va_nd is = true) (hs : is.map (fun i => ws[i]?) = ws'.map some) : xS D cy A H0 ws' s H locs := ⟨h.1.sub is (xfm _ _ hs), h.2.1.sub is hn hs, h.2.2⟩
theorem xS.preS (h : xS D cy A H0 ws s H locs) {wc : va_W} {av : List Value} (is : List Nat) (hn : va_nd is = true) (hs : is.map (fun i => ws[i]?) = wc.map some) : PreS s H (va_Pc av (xP D cy wc H.size)) av :=
  ⟨fun a U g mk q => ⟨q.1, q.2.1, q.2.2.1, va_K.moved (u := U) (U := U.calling g mk a) (Vm.Alike.refl U.vm) q.2.2.2.1, q.2.2.2.2.1, q.2.2.2.2.2.calling⟩,
   fun U hU hW => ⟨rfl, by rw [hU], by rw [hU]; exact (h.sub is hn hs).1, va_K.moved hW.alike h.2.2.1, (h.sub is hn hs).2.1.weaken (fun _ _ _ _ => trivial), h.2.2.2.2.2.warm hW⟩⟩
theorem xS.join (h : xS D cy A H0 ws s H locs) {wc wr : va_W} {w : (Nat → Nat) → va_W} {u : Nat → Nat} (isC isR : List Nat) (hC : isC.map (fun i => ws[i]?) = wc.map some) (hR : isR.map (fun i => ws[i]?) = wr.map some) (hn : va_nd isR = true) (hdis : ∀ i ∈ isR, i ∉ isC) {t : State} {H1 : Heap} {locs1 : List Loc} (ht : t.heap = H1) (hB : xB D (va_A wc H.size) w u t) (hk : ∀ q : Nat, q < H.size → ¬ va_A wc H.size q → H1[q]? = H[q]?) (hS : va_S A H0 H1 locs1) : xS D cy A H0 (wr ++ w u) s H1 locs1 := by
  have hF := va_free h.2.1 h.2.2.2.1 h.2.2.2.2.1 isC hC
  obtain ⟨hP1, hD1⟩ := hB
  rw [ht] at hP1
  obtain ⟨hP, hD⟩ := va_join h.1 h.2.1 isC isR hC hR hn hdis hk hF hP1 hD1
  exact ⟨hP, hD, h.2.2.1, hS, h.2.2.2.2.1, h.2.2.2.2.2⟩
theorem x_get (F : CallFix p m c cc nL s args wsL_law own) (h : xS D cy A H0 ws s H locs) {C : String} {T : u_T} {N ci index : Nat} {fs : List Value} {v : Value} (q0 k : Nat) (hin : ∀ w ∈ u_ws C T N, w ∈ wsL_law) (hc : vwCl[ci]? = some (C, T, N)) (hk : k < N) (hm : Cond.fieldLink own index (T k).1 (T k).2.1 (T k).2.2.1 ∈ wsL_law) (hdg : decode cc pc = .ok (.getfield index, 3)) (he : ws[q0]? = some (a, .inr (ci, fs))) (hv : fs[k]? = some v)
    (kk : W p l e R s m args below meth c H locs cells slots Q (F0 m (pc + 3) ls (v :: rest))) : W p l e R s m args below meth c H locs cells slots Q (F0 m pc ls (.ref a :: rest)) :=
  va_get F.1 F.2.1 F.2.2.2.2 hin F.2.2.2.1 h.2.2.1 h.1 q0 he hc k hk (F.2.2.2.2 _ hm) (fun _ h => h) hv hdg kk
theorem x_put (F : CallFix p m c cc nL s args wsL_law own) (h : xS D cy A H0 ws s H locs) {C : String} {T : u_T} {N ci index : Nat} {fs : List Value} {v : Value} (q0 k : Nat) (hin : ∀ w ∈ u_ws C T N, w ∈ wsL_law) {ty0 : Nat → FieldType} (hty : ∀ k, k < N → parseFieldDescriptor (T k).2.2.1 = some (ty0 k)) (hnm : ∀ a, a < N → ∀ b, b < N → a ≠ b → (T a).2.1 ≠ (T b).2.1) (hc : vwCl[ci]? = some (C, T, N)) (hk : k < N) (hm : Cond.fieldLink own index (T k).1 (T k).2.1 (T k).2.2.1 ∈ wsL_law) (hdg : decode cc pc = .ok (.putfield index, 3)) (hfin : (T k).2.2.2 = false) (hn : narrow (ty0 k) v = v) (hfit : fits (ty0 k) v = true) (he : ws[q0]? = some (a, .inr (ci, fs))) (hl : k < fs.length) {ws' : va_W} (hw : ws.set q0 (a, .inr (ci, fs.set k v)) = ws')
    (kk : ∀ (H1 : Heap) (locs1 : List Loc), xS D cy A H0 ws' s H1 locs1 → W p l e R s m args below meth c H1 locs1 cells slots Q (F0 m (pc + 3) ls rest)) : W p l e R s m args below meth c H locs cells slots Q (F0 m pc ls (v :: .ref a :: rest)) :=
  va_put F.1 F.2.1 F.2.2.2.2 hin ty0 hty hnm F.2.2.2.1 h.2.2.1 h.1 h.2.1 h.2.2.2.1 q0 he hc k hk (F.2.2.2.2 _ hm) (fun _ h => h) hfin (hty k hk) hn hfit hl hdg (fun H1 locs1 a1 a2 a3 => kk H1 locs1 (hw ▸ ⟨a1, a2, h.2.2.1, a3, h.2.2.2.2⟩))
theorem x_putF (F : CallFix p m c cc nL s args wsL_law own) (h : xS D cy A H0 ws s H locs) (hin2 : meth.name = "<init>") {C : String} {T : u_T} {N ci index : Nat} {fs : List Value} {v : Value} (q0 k : Nat) (hin : ∀ w ∈ u_ws C T N, w ∈ wsL_law) {ty0 : Nat → FieldType} (hty : ∀ k, k < N → parseFieldDescriptor (T k).2.2.1 = some (ty0 k)) (hnm : ∀ a, a < N → ∀ b, b < N → a ≠ b → (T a).2.1 ≠ (T b).2.1) (hc : vwCl[ci]? = some (C, T, N)) (hk : k < N) (hm : Cond.fieldLink own index (T k).1 (T k).2.1 (T k).2.2.1 ∈ wsL_law) (hdg : decode cc pc = .ok (.putfield index, 3)) (hfin : (T k).2.2.2 = true) (hdecl : (T k).1 = own) (hn : narrow (ty0 k) v = v) (hfit : fits (ty0 k) v = true) (he : ws[q0]? = some (a, .inr (ci, fs))) (hl : k < fs.length) {ws' : va_W} (hw : ws.set q0 (a, .inr (ci, fs.set k v)) = ws')
    (kk : ∀ (H1 : Heap) (locs1 : List Loc), xS D cy A H0 ws' s H1 locs1 → W p l e R s m args below meth c H1 locs1 cells slots Q (F0 m (pc + 3) ls rest)) : W p l e R s m args below meth c H locs cells slots Q (F0 m pc ls (v :: .ref a :: rest)) :=
  va_putF F.1 F.2.1 F.2.2.2.2 hin ty0 hty hnm F.2.2.2.1 h.2.2.1 h.1 h.2.1 h.2.2.2.1 q0 he hc k hk (F.2.2.2.2 _ hm) (fun _ h => h) hfin hin2 hdecl (hty k hk) hn hfit hl hdg (fun H1 locs1 a1 a2 a3 => kk H1 locs1 (hw ▸ ⟨a1, a2, h.2.2.1, a3, h.2.2.2.2⟩))
theorem x_new (F : CallFix p m c cc nL s args wsL_law own) (h : xS D cy A H0 ws s H locs) {C : String} {T : u_T} {N ci index : Nat} {fs : List Value} (hin : ∀ w ∈ u_ws C T N, w ∈ wsL_law) {ty0 : Nat → FieldType} (hty : ∀ k, k < N → parseFieldDescriptor (T k).2.2.1 = some (ty0 k)) (hfs : ∀ j, j < N → defaultValue (ty0 j) = vp_V fs j) (hc : vwCl[ci]? = some (C, T, N)) (m1 : Cond.classLink own index C ∈ wsL_law) (m2 : Cond.instantiable C N ∈ wsL_law) (m3 : Cond.initialized C ∈ wsL_law) (hdg : decode cc pc = .ok (.new index, 3)) (hcells : cells + 1 ≤ R.cells) (hslots : slots + N ≤ R.slots) {ws' : Nat → va_W} (hw : ∀ q, ws ++ [(q, .inr (ci, fs))] = ws' q)
    (kk : ∀ (q : Nat) (H1 : Heap), xS D cy A H0 (ws' q) s H1 locs → W p l e R s m args below meth c H1 locs (cells + 1) (slots + N) Q (F0 m (pc + 3) ls (.ref q :: rest))) : W p l e R s m args below meth c H locs cells slots Q (F0 m pc ls rest) :=
  va_new F.1 F.2.1 F.2.2.2.2 hin ty0 hty F.2.2.2.1 (F.2.2.2.2 _ m1) (F.2.2.2.2 _ m2) (F.2.2.2.2 _ m3) h.2.2.1 h.1 h.2.1 h.2.2.2.1 h.2.2.2.2.1 hc hfs hcells hslots hdg (fun q H1 a1 a2 a3 => kk q H1 (hw q ▸ ⟨a1, a2, h.2.2.1, a3, h.2.2.2.2⟩))
theorem x_cA {tys : List (ClassId × FieldType)} {D : va_G} {cl : List vw_C} {cA cB : ClassId} {ty : FieldType} {k : Nat} (hK : va_K D cl (tys ++ [(cA, ty)]) s) (hk : tys[k]? = some (cB, ty)) : cA = cB := by
  have hlt := (List.getElem?_eq_some_iff.mp hk).1
  have h1 := (hK.2 k (cB, ty) (by rw [List.getElem?_append_left hlt]; exact hk)).2
  have h2 := (hK.2 tys.length (cA, ty) (by simp)).2
  cases ty <;> first
    | exact Option.some.inj (h2.symm.trans h1)
    | (obtain ⟨-, -, -, -, -, e1⟩ := h1
       obtain ⟨-, -, -, -, -, e2⟩ := h2
       exact Option.some.inj (e2.symm.trans e1))
theorem x_newa (F : CallFix p m c cc nL s args wsL_law own) (h : xS D cy A H0 ws s H locs) {atype : ArrayType} {ty : FieldType} {k : Nat} {cB : ClassId} (hty : newarray.typeOf atype = ty) (hk : (xTy cy)[k]? = some (cB, ty)) (m1 : Cond.arrayClass ty ∈ wsL_law) {n : Int32} {N' : Nat} {a0 : vp_A} (ha : ∀ cA : ClassId, vp_cell cA a0 = arrV cA N' (fun _ => defaultValue ty)) (hn : ¬ n < 0) (hN : n.toNatClampNeg = N') (hbytes : N' * componentBytes ty ≤ 536870912) (hcells : cells + 1 ≤ R.cells) (hslots : slots + N' ≤ R.slots) (hdg : decode cc pc = .ok (.newarray atype, 2)) {ws' : Nat → va_W} (hw : ∀ q, ws ++ [(q, .inl (cB, a0))] = ws' q)
    (kk : ∀ (q : Nat) (H1 : Heap), xS D cy A H0 (ws' q) s H1 locs → W p l e R s m args below meth c H1 locs (cells + 1) (slots + N') Q (F0 m (pc + 2) ls (.ref q :: rest))) : W p l e R s m args below meth c H locs cells slots Q (F0 m pc ls (.int n :: rest)) :=
  va_newa F.1 F.2.1 (by rw [hty]; exact F.2.2.2.2 _ m1) hty h.2.2.1 h.1 h.2.1 h.2.2.2.1 h.2.2.2.2.1 ha hn hN hbytes hcells hslots hdg (fun q cA H1 a0' a1 a2 a3 => by
    obtain rfl := x_cA a0' hk
    exact kk q H1 (hw q ▸ ⟨a1, a2, h.2.2.1, a3, h.2.2.2.2⟩))
theorem x_newq (F : CallFix p m c cc nL s args wsL_law own) (h : xS D cy A H0 ws s H locs) {C : String} {index : Nat} {k : Nat} {cB : ClassId} (hk : (xTy cy)[k]? = some (cB, .object C)) (m1 : Cond.classLink own index C ∈ wsL_law) (hover : va_AO C s) {n : Int32} {N' : Nat} (hn : ¬ n < 0) (hN : n.toNatClampNeg = N') (hbytes : N' * 4 ≤ 536870912) (hcells : cells + 1 ≤ R.cells) (hslots : slots + N' ≤ R.slots) (hdg : decode cc pc = .ok (.anewarray index, 3)) {ws' : Nat → va_W} (hw : ∀ q, ws ++ [(q, .inl (cB, N', .inr (.inr (.inr (.inr (fun _ => none))))))] = ws' q)
    (kk : ∀ (q : Nat) (H1 : Heap), xS D cy A H0 (ws' q) s H1 locs → W p l e R s m args below meth c H1 locs (cells + 1) (slots + N') Q (F0 m (pc + 3) ls (.ref q :: rest))) : W p l e R s m args below meth c H locs cells slots Q (F0 m pc ls (.int n :: rest)) :=
  va_newq F.1 F.2.1 F.2.2.2.1 (F.2.2.2.2 _ m1) hover h.2.2.1 h.1 h.2.1 h.2.2.2.1 h.2.2.2.2.1 hn hN hbytes hcells hslots hdg (fun q cA H1 a0' a1 a2 a3 => by
    obtain rfl := x_cA a0' hk
    exact kk q H1 (hw q ▸ ⟨a1, a2, h.2.2.1, a3, h.2.2.2.2⟩))
theorem x_aald (F : CallFix p m c cc nL s args wsL_law own) (h : xS D cy A H0 ws s H locs) (q0 t0 : Nat) {cA : ClassId} {C : String} {n : Nat} {f : Nat → Option Nat} {i : Int32} {v : Value} (ha : ws[q0]? = some (a, .inl (cA, n, .inr (.inr (.inr (.inr f)))))) (ht : (xTy cy)[t0]? = some (cA, .object C)) (hin : vp_in i n) (hv : va_rf (f i.toNatClampNeg) = v) (hdg : decode cc pc = .ok (.aaload, 1))
    (kk : W p l e R s m args below meth c H locs cells slots Q (F0 m (pc + 1) ls (v :: rest))) : W p l e R s m args below meth c H locs cells slots Q (F0 m pc ls (.int i :: .ref a :: rest)) :=
  va_aldq F.1 F.2.1 h.2.2.1 h.1 q0 t0 ha ht hin hdg (hv ▸ kk)
theorem x_aast (F : CallFix p m c cc nL s args wsL_law own) (h : xS D cy A H0 ws s H locs) (q0 t0 qk ci : Nat) {cA : ClassId} {r : vw_C} {n v : Nat} {vs : List Value} {f : Nat → Option Nat} {i : Int32} (ha : ws[q0]? = some (a, .inl (cA, n, .inr (.inr (.inr (.inr f)))))) (ht : (xTy cy)[t0]? = some (cA, .object r.1)) (hv : ws[qk]? = some (v, .inr (ci, vs))) (hc : vwCl[ci]? = some r) (hin : vp_in i n) (hdg : decode cc pc = .ok (.aastore, 1)) {ws' : va_W} (hw : ws.set q0 (a, .inl (cA, n, .inr (.inr (.inr (.inr (va_up f i.toNatClampNeg (some v))))))) = ws')
    (kk : ∀ (H1 : Heap) (locs1 : List Loc), xS D cy A H0 ws' s H1 locs1 → W p l e R s m args below meth c H1 locs1 cells slots Q (F0 m (pc + 1) ls rest)) : W p l e R s m args below meth c H locs cells slots Q (F0 m pc ls (.ref v :: .int i :: .ref a :: rest)) :=
  va_astq F.1 F.2.1 h.2.2.1 h.1 h.2.1 h.2.2.2.1 q0 t0 qk ci ha ht hv hc hin hdg (fun H1 locs1 a1 a2 a3 => kk H1 locs1 (hw ▸ ⟨a1, a2, h.2.2.1, a3, h.2.2.2.2⟩))
theorem x_lald (F : CallFix p m c cc nL s args wsL_law own) (h : xS D cy A H0 ws s H locs) (q0 : Nat) {cA : ClassId} {n : Nat} {f : Nat → Int64} {i : Int32} {v : Int64} (ha : ws[q0]? = some (a, .inl (cA, n, .inr (.inl f)))) (ht : (xTy cy)[2]? = some (cA, .long)) (hin : vp_in i n) (hv : f i.toNatClampNeg = v) (hdg : decode cc pc = .ok (.laload, 1))
    (kk : W p l e R s m args below meth c H locs cells slots Q (F0 m (pc + 1) ls (.long v :: rest))) : W p l e R s m args below meth c H locs cells slots Q (F0 m pc ls (.int i :: .ref a :: rest)) :=
  va_lald F.1 F.2.1 h.2.2.1 h.1 q0 2 ha ht hin hdg (hv ▸ kk)
theorem x_last (F : CallFix p m c cc nL s args wsL_law own) (h : xS D cy A H0 ws s H locs) (q0 : Nat) {cA : ClassId} {n : Nat} {f : Nat → Int64} {i : Int32} {x : Int64} (ha : ws[q0]? = some (a, .inl (cA, n, .inr (.inl f)))) (ht : (xTy cy)[2]? = some (cA, .long)) (hin : vp_in i n) (hdg : decode cc pc = .ok (.lastore, 1)) {ws' : va_W} (hw : ws.set q0 (a, .inl (cA, n, .inr (.inl (vp_updL f i.toNatClampNeg x)))) = ws')
    (kk : ∀ (H1 : Heap) (locs1 : List Loc), xS D cy A H0 ws' s H1 locs1 → W p l e R s m args below meth c H1 locs1 cells slots Q (F0 m (pc + 1) ls rest)) : W p l e R s m args below meth c H locs cells slots Q (F0 m pc ls (.long x :: .int i :: .ref a :: rest)) :=
  va_last F.1 F.2.1 h.2.2.1 h.1 h.2.1 h.2.2.2.1 q0 2 ha ht hin hdg (fun H1 locs1 a1 a2 a3 => kk H1 locs1 (hw ▸ ⟨a1, a2, h.2.2.1, a3, h.2.2.2.2⟩))
theorem x_iald (F : CallFix p m c cc nL s args wsL_law own) (h : xS D cy A H0 ws s H locs) (q0 : Nat) {cA : ClassId} {n : Nat} {f : Nat → Int32} {i v : Int32} (ha : ws[q0]? = some (a, .inl (cA, n, .inl f))) (ht : (xTy cy)[1]? = some (cA, .int)) (hin : vp_in i n) (hv : f i.toNatClampNeg = v) (hdg : decode cc pc = .ok (.iaload, 1))
    (kk : W p l e R s m args below meth c H locs cells slots Q (F0 m (pc + 1) ls (.int v :: rest))) : W p l e R s m args below meth c H locs cells slots Q (F0 m pc ls (.int i :: .ref a :: rest)) :=
  va_iald F.1 F.2.1 h.2.2.1 h.1 q0 1 ha ht hin hdg (hv ▸ kk)
theorem x_iast (F : CallFix p m c cc nL s args wsL_law own) (h : xS D cy A H0 ws s H locs) (q0 : Nat) {cA : ClassId} {n : Nat} {f : Nat → Int32} {i x : Int32} (ha : ws[q0]? = some (a, .inl (cA, n, .inl f))) (ht : (xTy cy)[1]? = some (cA, .int)) (hin : vp_in i n) (hdg : decode cc pc = .ok (.iastore, 1)) {ws' : va_W} (hw : ws.set q0 (a, .inl (cA, n, .inl (upd f i.toNatClampNeg x))) = ws')
    (kk : ∀ (H1 : Heap) (locs1 : List Loc), xS D cy A H0 ws' s H1 locs1 → W p l e R s m args below meth c H1 locs1 cells slots Q (F0 m (pc + 1) ls rest)) : W p l e R s m args below meth c H locs cells slots Q (F0 m pc ls (.int x :: .int i :: .ref a :: rest)) :=
  va_iast F.1 F.2.1 h.2.2.1 h.1 h.2.1 h.2.2.2.1 q0 1 ha ht hin hdg (fun H1 locs1 a1 a2 a3 => kk H1 locs1 (hw ▸ ⟨a1, a2, h.2.2.1, a3, h.2.2.2.2⟩))
theorem x_bast (F : CallFix p m c cc nL s args wsL_law own) (h : xS D cy A H0 ws s H locs) (q0 : Nat) {cA : ClassId} {n : Nat} {f : Nat → Int32} {i x : Int32} (ha : ws[q0]? = some (a, .inl (cA, n, .inl f))) (ht : (xTy cy)[0]? = some (cA, .byte)) (hin : vp_in i n) (hdg : decode cc pc = .ok (.bastore, 1)) {ws' : va_W} (hw : ws.set q0 (a, .inl (cA, n, .inl (upd f i.toNatClampNeg (vp_nar .byte x)))) = ws')
    (kk : ∀ (H1 : Heap) (locs1 : List Loc), xS D cy A H0 ws' s H1 locs1 → W p l e R s m args below meth c H1 locs1 cells slots Q (F0 m (pc + 1) ls rest)) : W p l e R s m args below meth c H locs cells slots Q (F0 m pc ls (.int x :: .int i :: .ref a :: rest)) :=
  va_bast F.1 F.2.1 h.2.2.1 h.1 h.2.1 h.2.2.2.1 q0 0 ha ht hin hdg (fun H1 locs1 a1 a2 a3 => kk H1 locs1 (hw ▸ ⟨a1, a2, h.2.2.1, a3, h.2.2.2.2⟩))
theorem x_alen (F : CallFix p m c cc nL s args wsL_law own) (h : xS D cy A H0 ws s H locs) (q0 t0 : Nat) {cA : ClassId} {x : vp_A} {ty : FieldType} {v : Int32} (ha : ws[q0]? = some (a, .inl (cA, x))) (ht : (xTy cy)[t0]? = some (cA, ty)) (hv : Int32.ofNat x.1 = v) (hdg : decode cc pc = .ok (.arraylength, 1))
    (kk : W p l e R s m args below meth c H locs cells slots Q (F0 m (pc + 1) ls (.int v :: rest))) : W p l e R s m args below meth c H locs cells slots Q (F0 m pc ls (.ref a :: rest)) :=
  va_alen F.1 F.2.1 h.2.2.1 h.1 q0 t0 ha ht hv hdg kk
end XK
