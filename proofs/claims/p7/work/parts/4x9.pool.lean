/-! the text that is given: what of it a method may use -/
def tx40 : List Int32 := [32, 116, 117, 114, 110, 32, 107, 101, 121, 32, 114, 97, 110, 107, 32, 119, 104, 101, 110, 32, 115, 97, 121, 32, 107, 101, 101, 112, 32, 110, 111, 110, 101, 32, 111, 114, 32, 103, 111, 32]
def tK (k v : Nat) (A : Nat → Prop) (U : State) (H : Heap) : Prop := va_O "java/lang/String" k A U H ∧ va_OF "java/lang/String" "coder" "B" (.int 0) k A U H ∧ va_OF "java/lang/String" "value" "[B" (.ref v) k A U H ∧ va_T .byte v 40 (fun j => .int (tx40.getD j 0)) A U H
theorem tK.call {k v : Nat} {A B : Nat → Prop} {s U : State} {H : Heap} {locs : List Loc} (h : tK k v A s s.heap) (hS : va_S A s.heap H locs) (hB : ∀ q, B q → A q) (hU : U.heap = H) (hW : s.WarmedH U.vm) : tK k v B U U.heap := by
  obtain ⟨h1, h2, h3, h4⟩ := h
  rw [hU]
  have hq : ∀ a : Nat, a < s.heap.size → ¬ A a → H[a]? = s.heap[a]? := hS.2.1
  exact ⟨((h1.moved hW.alike).kept hq).narrow hB, ((h2.moved hW.alike).kept hq).narrow hB, ((h3.moved hW.alike).kept hq).narrow hB, ((h4.moved hW.alike).kept hq).narrow hB⟩
theorem tK.calling {k v : Nat} {B : Nat → Prop} {U : State} {g : JFrame} {mk : MethodId} {a : Array Value} (h : tK k v B U U.heap) : tK k v B (U.calling g mk a) (U.calling g mk a).heap := by
  obtain ⟨h1, h2, h3, h4⟩ := h
  have r : U.vm.Alike (U.calling g mk a).vm := Vm.Alike.refl U.vm
  exact ⟨h1.moved r, h2.moved r, h3.moved r, h4.moved r⟩
def tPK (k v : Nat) (D : va_G) (cy : Nat → ClassId) (L : List Nat) (R : Nat → Nat) (T : Nat → va_E → Prop) (f : Nat → va_E) (sz : Nat) (U : State) : Prop := tPZ D cy L R T f sz U ∧ tK k v (tA L sz) U U.heap
section TKK
variable {l : Launch} {y : MethodName} {bytes : ByteArray} {maxL : Nat} {rm : Room} {D : va_G} {cy : Nat → ClassId} {av : List Value} {own : String} {L : List Nat} {R : Nat → Nat} {T : Nat → va_E → Prop} {f : Nat → va_E} {k v : Nat}
theorem tS.preK {A : Nat → Prop} {H : Heap} {s : State} {locs : List Loc} (h : tS D cy A s.heap L R T f s H locs) (hZ : tZ A s s.heap) (hK : tK k v A s s.heap) {av : List Value} : PreS s H (va_Pc av (tPK k v D cy L R T f H.size)) av := by
  have hp := h.pre hZ (av := av)
  refine ⟨fun a U g mk q => ?_, fun U hU hW => ?_⟩
  · obtain ⟨q1, q2, q3⟩ := q
    have w := hp.1 a U g mk ⟨q1, q2⟩
    exact ⟨w.1, w.2, q3.calling⟩
  · have w := hp.2 U hU hW
    exact ⟨w.1, w.2, hK.call h.dd.2.2 h.free hU hW⟩

theorem tw_enteriK {ty : FieldType} {post : Int32 → (Nat → va_E) → Prop} (hy : plainName y.cls = true) (hcls : y.cls = own) (hlen : (lg_sl av).length ≤ maxL)
    (body : ∀ (p : Program) (e : Env) (s : State) (m : MethodId) (below : List Frame) (meth : Method) (c : Code) (A : Nat → Prop) (ls : Array Slot) (args : Array Value) (Q : State → Prop), CallFix p m c bytes maxL s args wsL_law own → tZ A s s.heap → tK k v A s s.heap → tS D cy A s.heap L R T f s s.heap [] → lv_has ls maxL (lv_args 0 av) → (∀ (f1 : Nat → va_E) (H : Heap) (locs : List Loc) (pc : Nat) (ls : Array Slot) (r0 : Int32), decode bytes pc = .ok (.ireturn, 1) → narrow ty (.int r0) = .int r0 → post r0 f1 → tS D cy A s.heap L R T f1 s H locs → W p l e rm s m args below meth c H locs 0 0 Q (F0 m pc ls [.int r0])) → W p l e rm s m args below meth c s.heap [] 0 0 Q (F0 m 0 ls [])) :
    ∀ sz, Met l y (Cond.code y bytes maxL (some ty) :: wsL_law) rm (va_Pc av (tPK k v D cy L R T f sz)) (va_Qi post (tB D (tA L sz) L R T) (tA L sz)) 0 0 (tA L sz) := by
  intro sz
  refine Met.ofW (cc := bytes) (maxL := maxL) (ret := some ty) hy rfl ?_
  intro p e s m args below meth c s₁ B hml hv
  obtain ⟨rfl, ⟨⟨⟨hsz, hP, hK, hD0, hE⟩, hall⟩, hZ⟩, hKK⟩ := hv
  have hts := atoms_spec (ws := Cond.code y bytes maxL (some ty) :: wsL_law) B.pre
  have hown : s.vm.findClass own = some m.cls := by rw [← hcls]; exact findClass_of_methodNamed B.named
  subst hsz
  have hD := hD0.self (sz := s.heap.size)
  rw [tA_pl] at hD
  have hl := lv_entry av hlen
  rw [lg_entry_eq]
  have F : CallFix p m c bytes maxL s av.toArray wsL_law own := ⟨B.exec, B.bytes, hml, hown, fun w h => hts w (List.mem_cons_of_mem _ h)⟩
  refine body p e s m below meth c (tA L s.heap.size) _ _ _ F hZ hKK ⟨⟨hP, hD, hK, va_S.rf, fun q h => Or.inr h, hE⟩, hall⟩ hl (fun f1 H locs pc ls v hdg hn hpost h => ?_)
  obtain ⟨hx1, hall1⟩ := h
  exact W.zret F.1 F.2.1 B.returns hn (fun t ht _ => ⟨⟨v, f1, rfl, hpost, by rw [ht]; exact hx1.1, hx1.2.1, hall1⟩, hx1.2.2.2.1.F ht⟩) hx1.2.2.2.1.2.2 hdg B.notSynchronized

theorem tw_entervK {post : (Nat → va_E) → Prop} (hy : plainName y.cls = true) (hcls : y.cls = own) (hlen : (lg_sl av).length ≤ maxL)
    (body : ∀ (p : Program) (e : Env) (s : State) (m : MethodId) (below : List Frame) (meth : Method) (c : Code) (A : Nat → Prop) (ls : Array Slot) (args : Array Value) (Q : State → Prop), CallFix p m c bytes maxL s args wsL_law own → tZ A s s.heap → tK k v A s s.heap → tS D cy A s.heap L R T f s s.heap [] → lv_has ls maxL (lv_args 0 av) → (∀ (f1 : Nat → va_E) (H : Heap) (locs : List Loc) (pc : Nat) (ls : Array Slot), decode bytes pc = .ok (.return_, 1) → post f1 → tS D cy A s.heap L R T f1 s H locs → W p l e rm s m args below meth c H locs 0 0 Q (F0 m pc ls [])) → W p l e rm s m args below meth c s.heap [] 0 0 Q (F0 m 0 ls [])) :
    ∀ sz, Met l y (Cond.code y bytes maxL none :: wsL_law) rm (va_Pc av (tPK k v D cy L R T f sz)) (va_Qv post (tB D (tA L sz) L R T) (tA L sz)) 0 0 (tA L sz) := by
  intro sz
  refine Met.ofW (cc := bytes) (maxL := maxL) (ret := none) hy rfl ?_
  intro p e s m args below meth c s₁ B hml hv
  obtain ⟨rfl, ⟨⟨⟨hsz, hP, hK, hD0, hE⟩, hall⟩, hZ⟩, hKK⟩ := hv
  have hts := atoms_spec (ws := Cond.code y bytes maxL none :: wsL_law) B.pre
  have hown : s.vm.findClass own = some m.cls := by rw [← hcls]; exact findClass_of_methodNamed B.named
  subst hsz
  have hD := hD0.self (sz := s.heap.size)
  rw [tA_pl] at hD
  have hl := lv_entry av hlen
  rw [lg_entry_eq]
  have F : CallFix p m c bytes maxL s av.toArray wsL_law own := ⟨B.exec, B.bytes, hml, hown, fun w h => hts w (List.mem_cons_of_mem _ h)⟩
  refine body p e s m below meth c (tA L s.heap.size) _ _ _ F hZ hKK ⟨⟨hP, hD, hK, va_S.rf, fun q h => Or.inr h, hE⟩, hall⟩ hl (fun f1 H locs pc ls hdg hpost h => ?_)
  obtain ⟨hx1, hall1⟩ := h
  exact W.vret F.1 F.2.1 B.returns (fun t ht _ => ⟨⟨f1, rfl, hpost, by rw [ht]; exact hx1.1, hx1.2.1, hall1⟩, hx1.2.2.2.1.F ht⟩) hx1.2.2.2.1.2.2 hdg B.notSynchronized

end TKK
section TCK
variable {p : Program} {l : Launch} {e : Env} {R0 : Room} {s : State} {m : MethodId} {args : Array Value} {below : List Frame} {meth : Method} {c : Code} {H H0 : Heap} {locs : List Loc} {cells slots : Nat} {Q : State → Prop} {cc : ByteArray} {nL : Nat} {own : String} {D : va_G} {cy : Nat → ClassId} {A : Nat → Prop} {L : List Nat} {R : Nat → Nat} {T : Nat → va_E → Prop} {f : Nat → va_E} {pc : Nat} {ls : Array Slot} {rest : List Value}
  {y : MethodName} {C : String} {bytes : ByteArray} {maxL : Nat} {ret : Option FieldType} {rm : Room} {b ro : Nat} {As st : List Value} {ci N index : Nat} {TT : u_T} {ps : List (Value → Prop)} {k v : Nat}
theorem tw_ViK {post : Int32 → (Nat → va_E) → Prop} (F : CallFix p m c cc nL s args wsL_law own) (hZ : tZ A s s.heap) (hKK : tK k v A s s.heap) (h : tS D cy A s.heap L R T f s H locs) (hY : xY y "java/lang/String" bytes maxL ret As.length) (hl : Cond.methodLink own index y ∈ wsL_law) (hi : Cond.instanceMethod y ∈ wsL_law) (hs : Cond.selects "java/lang/String" y y ∈ wsL_law) (hM : ∀ sz, Met l y (Cond.code y bytes maxL ret :: wsL_law) rm (va_Pc (.ref k :: As) (tPK k v D cy L R T f sz)) (va_Qi post (tB D (tA L sz) L R T) (tA L sz)) 0 0 (tA L sz)) (hrc : rm.cells = 0) (hrs : rm.slots = 0) (hsz : ls.size = nL) (hst : st = As.reverse ++ .ref k :: rest) (hr8 : (rest.map fun v => v.category).sum ≤ 8) (hRm : rm.frames + 1 ≤ R0.frames ∧ 8 + (maxL + 11) + rm.locals ≤ R0.locals) (hf : cells ≤ R0.cells ∧ slots ≤ R0.slots) (hdg : decode cc pc = .ok (.invokevirtual index, 3))
    (kk : ∀ (r : Int32) (f1 : Nat → va_E) (H1 : Heap) (locs1 : List Loc), post r f1 → tS D cy A s.heap L R T f1 s H1 locs1 → W p l e R0 s m args below meth c H1 locs1 cells slots Q (F0 m (pc + 3) ls (.int r :: rest))) : W p l e R0 s m args below meth c H locs cells slots Q (F0 m pc ls st) := by
  subst hst
  have hrv : ∃ cell : Cell, H[k]? = some cell ∧ cell.vm.isStatics = false ∧ s.vm.findClass "java/lang/String" = some cell.cls := by
    obtain ⟨cell, h1, h2, h3, -⟩ := hKK.1.kept h.dd.2.2.2.1
    exact ⟨cell, h1, h2, h3⟩
  have hp := h.preK hZ hKK (av := .ref k :: As)
  have hB := x_cB (rm := rm) (R := R0) F hY hl hRm
  rw [hrc, hrs] at hB
  exact va_calli (va_runV (As := As) (rest := rest) F (hM H.size) ⟨hB, F.2.2.2.2 _ hi, F.2.2.2.2 _ hs⟩ ⟨hp.1, hrv, hp.2⟩ rfl rfl hsz rfl (lv_room hr8) hdg hf) h.dd.2.2 (fun q _ hh => h.free q hh) h.free (fun r u t H1 locs ht _ hw hB _ _ hS => kk r u H1 locs hw (h.back ht hB hS))

theorem tw_SiK {post : Int32 → (Nat → va_E) → Prop} (F : CallFix p m c cc nL s args wsL_law own) (hZ : tZ A s s.heap) (hKK : tK k v A s s.heap) (h : tS D cy A s.heap L R T f s H locs) (hY : xY y C bytes maxL ret As.length) (hl : Cond.methodLink own index y ∈ wsL_law) (hi : Cond.static y ∈ wsL_law) (hM : ∀ sz, Met l y (Cond.code y bytes maxL ret :: wsL_law) rm (va_Pc As (tPK k v D cy L R T f sz)) (va_Qi post (tB D (tA L sz) L R T) (tA L sz)) 0 0 (tA L sz)) (hrc : rm.cells = 0) (hrs : rm.slots = 0) (hsz : ls.size = nL) (hst : st = As.reverse ++ rest) (hr8 : (rest.map fun v => v.category).sum ≤ 8) (hRm : rm.frames + 1 ≤ R0.frames ∧ 8 + (maxL + 11) + rm.locals ≤ R0.locals) (hf : cells ≤ R0.cells ∧ slots ≤ R0.slots) (hdg : decode cc pc = .ok (.invokestatic index, 3))
    (kk : ∀ (r : Int32) (f1 : Nat → va_E) (H1 : Heap) (locs1 : List Loc), post r f1 → tS D cy A s.heap L R T f1 s H1 locs1 → W p l e R0 s m args below meth c H1 locs1 cells slots Q (F0 m (pc + 3) ls (.int r :: rest))) : W p l e R0 s m args below meth c H locs cells slots Q (F0 m pc ls st) := by
  subst hst
  have hp := h.preK hZ hKK (av := As)
  have hB := x_cB (rm := rm) (R := R0) F hY hl hRm
  rw [hrc, hrs] at hB
  exact va_calli (va_runS (As := As) (rest := rest) F (hM H.size) ⟨hB, F.2.2.2.2 _ hi⟩ hp rfl rfl hsz rfl (lv_room hr8) hdg hf) h.dd.2.2 (fun q _ hh => h.free q hh) h.free (fun r u t H1 locs ht _ hw hB _ _ hS => kk r u H1 locs hw (h.back ht hB hS))

theorem tw_SvK {post : (Nat → va_E) → Prop} (F : CallFix p m c cc nL s args wsL_law own) (hZ : tZ A s s.heap) (hKK : tK k v A s s.heap) (h : tS D cy A s.heap L R T f s H locs) (hY : xY y C bytes maxL ret As.length) (hl : Cond.methodLink own index y ∈ wsL_law) (hi : Cond.static y ∈ wsL_law) (hM : ∀ sz, Met l y (Cond.code y bytes maxL ret :: wsL_law) rm (va_Pc As (tPK k v D cy L R T f sz)) (va_Qv post (tB D (tA L sz) L R T) (tA L sz)) 0 0 (tA L sz)) (hrc : rm.cells = 0) (hrs : rm.slots = 0) (hsz : ls.size = nL) (hst : st = As.reverse ++ rest) (hr8 : (rest.map fun v => v.category).sum ≤ 8) (hRm : rm.frames + 1 ≤ R0.frames ∧ 8 + (maxL + 11) + rm.locals ≤ R0.locals) (hf : cells ≤ R0.cells ∧ slots ≤ R0.slots) (hdg : decode cc pc = .ok (.invokestatic index, 3))
    (kk : ∀ (f1 : Nat → va_E) (H1 : Heap) (locs1 : List Loc), post f1 → tS D cy A s.heap L R T f1 s H1 locs1 → W p l e R0 s m args below meth c H1 locs1 cells slots Q (F0 m (pc + 3) ls rest)) : W p l e R0 s m args below meth c H locs cells slots Q (F0 m pc ls st) := by
  subst hst
  have hp := h.preK hZ hKK (av := As)
  have hB := x_cB (rm := rm) (R := R0) F hY hl hRm
  rw [hrc, hrs] at hB
  exact va_callv (va_runS (As := As) (rest := rest) F (hM H.size) ⟨hB, F.2.2.2.2 _ hi⟩ hp rfl rfl hsz rfl (lv_room hr8) hdg hf) h.dd.2.2 (fun q _ hh => h.free q hh) h.free (fun u t H1 locs ht _ hw hB _ _ hS => kk u H1 locs hw (h.back ht hB hS))

end TCK
