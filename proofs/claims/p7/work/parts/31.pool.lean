/-! what is given and never written: the names that are no names (a static row), the model's text -/
def tZ (A : Nat → Prop) (U : State) (H : Heap) : Prop := (∃ q : Nat, va_Z "AskBack$Reader" "NO_NAMES" "[J" (.ref q) A U H ∧ va_T .long q 9 (fun j => .long (([677454, 11449, 591307, 762030, 19513, 365744, 474565, 498, 239] : List Int64).getD j 0)) A U H) ∧ (∃ adK adV : Nat → Nat, vk_R "AskBackModel" 220 " turn key rank when say keep none or go " (adK 0) U ∧ vk_S 1 [40] [[32, 116, 117, 114, 110, 32, 107, 101, 121, 32, 114, 97, 110, 107, 32, 119, 104, 101, 110, 32, 115, 97, 121, 32, 107, 101, 101, 112, 32, 110, 111, 110, 101, 32, 111, 114, 32, 103, 111, 32]] adK adV A U H) ∧ va_Z "java/lang/String" "COMPACT_STRINGS" "Z" (.int 1) A U H ∧ va_Zq "jdk/internal/util/Preconditions" "SIOOBE_FORMATTER" "Ljava/util/function/BiFunction;" A U H
theorem tZ.call {A B : Nat → Prop} {s U : State} {H : Heap} {locs : List Loc} (h : tZ A s s.heap) (hS : va_S A s.heap H locs) (hB : ∀ q, B q → A q) (hU : U.heap = H) (hW : s.WarmedH U.vm) : tZ B U U.heap := by
  obtain ⟨⟨q, h1, h2⟩, ⟨k, v, h3, h4⟩, h5, h6⟩ := h
  rw [hU]
  have hq : ∀ a : Nat, a < s.heap.size → ¬ A a → H[a]? = s.heap[a]? := hS.2.1
  exact ⟨⟨q, ((h1.moved hW.alike).kept hq).narrow hB, ((h2.moved hW.alike).kept hq).narrow hB⟩, ⟨k, v, h3.warm hW, ((h4.moved hW.alike).kept hq).narrow hB⟩, ((h5.moved hW.alike).kept hq).narrow hB, ((h6.moved hW.alike).kept hq).narrow hB⟩
theorem tZ.calling {B : Nat → Prop} {U : State} {g : JFrame} {mk : MethodId} {a : Array Value} (h : tZ B U U.heap) : tZ B (U.calling g mk a) (U.calling g mk a).heap := by
  obtain ⟨⟨q, h1, h2⟩, ⟨k, v, h3, h4⟩, h5, h6⟩ := h
  have r : U.vm.Alike (U.calling g mk a).vm := Vm.Alike.refl U.vm
  exact ⟨⟨q, h1.moved r, h2.moved r⟩, ⟨k, v, h3.same rfl, h4.moved r⟩, h5.moved r, h6.moved r⟩
def tPZ (D : va_G) (cy : Nat → ClassId) (L : List Nat) (R : Nat → Nat) (T : Nat → va_E → Prop) (f : Nat → va_E) (sz : Nat) (U : State) : Prop := tP D cy L R T f sz U ∧ tZ (tA L sz) U U.heap
section TE
variable {l : Launch} {y : MethodName} {bytes : ByteArray} {maxL : Nat} {rm : Room} {D : va_G} {cy : Nat → ClassId} {av : List Value} {own : String} {L : List Nat} {R : Nat → Nat} {T : Nat → va_E → Prop} {f : Nat → va_E}
theorem tS.dd {A : Nat → Prop} {H0 H : Heap} {s : State} {locs : List Loc} (h : tS D cy A H0 L R T f s H locs) : (∀ q ∈ L, A q) ∧ (∀ q, H0.size ≤ q → A q) ∧ va_S A H0 H locs := by
  obtain ⟨hx, -⟩ := h
  refine ⟨fun q hq => ?_, hx.2.2.2.2.1, hx.2.2.2.1⟩
  obtain ⟨k, hk⟩ := va_pl_get (X := []) (f := f) hq
  exact hx.2.1.2 k _ hk
theorem tS.free {A : Nat → Prop} {H0 H : Heap} {s : State} {locs : List Loc} (h : tS D cy A H0 L R T f s H locs) : ∀ q, tA L H.size q → A q := by
  rintro q (hq | hq)
  · exact h.dd.1 q hq
  · exact h.dd.2.1 q (Nat.le_trans h.dd.2.2.1 hq)
theorem tS.pre {A : Nat → Prop} {H : Heap} {s : State} {locs : List Loc} (h : tS D cy A s.heap L R T f s H locs) (hZ : tZ A s s.heap) {av : List Value} : PreS s H (va_Pc av (tPZ D cy L R T f H.size)) av := by
  have hF := h.free
  refine ⟨fun a U g mk q => ?_, fun U hU hW => ?_⟩
  · obtain ⟨q1, ⟨⟨q2, q3, q4, q5, q6⟩, q7⟩, q8⟩ := q
    exact ⟨q1, ⟨⟨q2, q3, va_K.moved (u := U) (U := U.calling g mk a) (Vm.Alike.refl U.vm) q4, q5, q6.calling⟩, q7⟩, q8.calling⟩
  · obtain ⟨hx, hall⟩ := h
    exact ⟨rfl, ⟨⟨by rw [hU], by rw [hU]; exact hx.1, va_K.moved hW.alike hx.2.2.1, hx.2.1.weaken (fun _ _ _ _ => trivial), hx.2.2.2.2.2.warm hW⟩, hall⟩, hZ.call hx.2.2.2.1 hF hU hW⟩
theorem tS.back {A : Nat → Prop} {H0 H H1 : Heap} {s t : State} {locs locs1 : List Loc} (h : tS D cy A H0 L R T f s H locs) (ht : t.heap = H1) {f1 : Nat → va_E} (hB : tB D (tA L H.size) L R T f1 t) (hS : va_S A H0 H1 locs1) : tS D cy A H0 L R T f1 s H1 locs1 := by
  have hF := h.free
  obtain ⟨hx, -⟩ := h
  obtain ⟨hP1, hD1, hall1⟩ := hB
  rw [ht] at hP1
  exact ⟨⟨hP1, hD1.weaken (fun _ q _ hq => hF q.1 hq), hx.2.2.1, hS, hx.2.2.2.2⟩, hall1⟩
/-- contracts out of walks; Q stays unknown: a walk ends by 'hret' -/
theorem tw_enteri {ty : FieldType} {post : Int32 → (Nat → va_E) → Prop} (hy : plainName y.cls = true) (hcls : y.cls = own) (hlen : (lg_sl av).length ≤ maxL)
    (body : ∀ (p : Program) (e : Env) (s : State) (m : MethodId) (below : List Frame) (meth : Method) (c : Code) (A : Nat → Prop) (ls : Array Slot) (args : Array Value) (Q : State → Prop), CallFix p m c bytes maxL s args wsL_law own → tZ A s s.heap → tS D cy A s.heap L R T f s s.heap [] → lv_has ls maxL (lv_args 0 av) → (∀ (f1 : Nat → va_E) (H : Heap) (locs : List Loc) (pc : Nat) (ls : Array Slot) (v : Int32), decode bytes pc = .ok (.ireturn, 1) → narrow ty (.int v) = .int v → post v f1 → tS D cy A s.heap L R T f1 s H locs → W p l e rm s m args below meth c H locs 0 0 Q (F0 m pc ls [.int v])) → W p l e rm s m args below meth c s.heap [] 0 0 Q (F0 m 0 ls [])) :
    ∀ sz, Met l y (Cond.code y bytes maxL (some ty) :: wsL_law) rm (va_Pc av (tPZ D cy L R T f sz)) (va_Qi post (tB D (tA L sz) L R T) (tA L sz)) 0 0 (tA L sz) := by
  intro sz
  refine Met.ofW (cc := bytes) (maxL := maxL) (ret := some ty) hy rfl ?_
  intro p e s m args below meth c s₁ B hml hv
  obtain ⟨rfl, ⟨⟨hsz, hP, hK, hD0, hE⟩, hall⟩, hZ⟩ := hv
  have hts := atoms_spec (ws := Cond.code y bytes maxL (some ty) :: wsL_law) B.pre
  have hown : s.vm.findClass own = some m.cls := by rw [← hcls]; exact findClass_of_methodNamed B.named
  subst hsz
  have hD := hD0.self (sz := s.heap.size)
  rw [tA_pl] at hD
  have hl := lv_entry av hlen
  rw [lg_entry_eq]
  have F : CallFix p m c bytes maxL s av.toArray wsL_law own := ⟨B.exec, B.bytes, hml, hown, fun w h => hts w (List.mem_cons_of_mem _ h)⟩
  refine body p e s m below meth c (tA L s.heap.size) _ _ _ F hZ ⟨⟨hP, hD, hK, va_S.rf, fun q h => Or.inr h, hE⟩, hall⟩ hl (fun f1 H locs pc ls v hdg hn hpost h => ?_)
  obtain ⟨hx1, hall1⟩ := h
  exact W.zret F.1 F.2.1 B.returns hn (fun t ht _ => ⟨⟨v, f1, rfl, hpost, by rw [ht]; exact hx1.1, hx1.2.1, hall1⟩, hx1.2.2.2.1.F ht⟩) hx1.2.2.2.1.2.2 hdg B.notSynchronized
theorem tw_enterl {post : Int64 → (Nat → va_E) → Prop} (hy : plainName y.cls = true) (hcls : y.cls = own) (hlen : (lg_sl av).length ≤ maxL)
    (body : ∀ (p : Program) (e : Env) (s : State) (m : MethodId) (below : List Frame) (meth : Method) (c : Code) (A : Nat → Prop) (ls : Array Slot) (args : Array Value) (Q : State → Prop), CallFix p m c bytes maxL s args wsL_law own → tZ A s s.heap → tS D cy A s.heap L R T f s s.heap [] → lv_has ls maxL (lv_args 0 av) → (∀ (f1 : Nat → va_E) (H : Heap) (locs : List Loc) (pc : Nat) (ls : Array Slot) (v : Int64), decode bytes pc = .ok (.lreturn, 1) → post v f1 → tS D cy A s.heap L R T f1 s H locs → W p l e rm s m args below meth c H locs 0 0 Q (F0 m pc ls [.long v])) → W p l e rm s m args below meth c s.heap [] 0 0 Q (F0 m 0 ls [])) :
    ∀ sz, Met l y (Cond.code y bytes maxL (some .long) :: wsL_law) rm (va_Pc av (tPZ D cy L R T f sz)) (va_Ql post (tB D (tA L sz) L R T) (tA L sz)) 0 0 (tA L sz) := by
  intro sz
  refine Met.ofW (cc := bytes) (maxL := maxL) (ret := some .long) hy rfl ?_
  intro p e s m args below meth c s₁ B hml hv
  obtain ⟨rfl, ⟨⟨hsz, hP, hK, hD0, hE⟩, hall⟩, hZ⟩ := hv
  have hts := atoms_spec (ws := Cond.code y bytes maxL (some .long) :: wsL_law) B.pre
  have hown : s.vm.findClass own = some m.cls := by rw [← hcls]; exact findClass_of_methodNamed B.named
  subst hsz
  have hD := hD0.self (sz := s.heap.size)
  rw [tA_pl] at hD
  have hl := lv_entry av hlen
  rw [lg_entry_eq]
  have F : CallFix p m c bytes maxL s av.toArray wsL_law own := ⟨B.exec, B.bytes, hml, hown, fun w h => hts w (List.mem_cons_of_mem _ h)⟩
  refine body p e s m below meth c (tA L s.heap.size) _ _ _ F hZ ⟨⟨hP, hD, hK, va_S.rf, fun q h => Or.inr h, hE⟩, hall⟩ hl (fun f1 H locs pc ls v hdg hpost h => ?_)
  obtain ⟨hx1, hall1⟩ := h
  exact W.lret F.1 F.2.1 B.returns (fun t ht _ => ⟨⟨v, f1, rfl, hpost, by rw [ht]; exact hx1.1, hx1.2.1, hall1⟩, hx1.2.2.2.1.F ht⟩) hx1.2.2.2.1.2.2 hdg B.notSynchronized
theorem tw_enterv {post : (Nat → va_E) → Prop} (hy : plainName y.cls = true) (hcls : y.cls = own) (hlen : (lg_sl av).length ≤ maxL)
    (body : ∀ (p : Program) (e : Env) (s : State) (m : MethodId) (below : List Frame) (meth : Method) (c : Code) (A : Nat → Prop) (ls : Array Slot) (args : Array Value) (Q : State → Prop), CallFix p m c bytes maxL s args wsL_law own → tZ A s s.heap → tS D cy A s.heap L R T f s s.heap [] → lv_has ls maxL (lv_args 0 av) → (∀ (f1 : Nat → va_E) (H : Heap) (locs : List Loc) (pc : Nat) (ls : Array Slot), decode bytes pc = .ok (.return_, 1) → post f1 → tS D cy A s.heap L R T f1 s H locs → W p l e rm s m args below meth c H locs 0 0 Q (F0 m pc ls [])) → W p l e rm s m args below meth c s.heap [] 0 0 Q (F0 m 0 ls [])) :
    ∀ sz, Met l y (Cond.code y bytes maxL none :: wsL_law) rm (va_Pc av (tPZ D cy L R T f sz)) (va_Qv post (tB D (tA L sz) L R T) (tA L sz)) 0 0 (tA L sz) := by
  intro sz
  refine Met.ofW (cc := bytes) (maxL := maxL) (ret := none) hy rfl ?_
  intro p e s m args below meth c s₁ B hml hv
  obtain ⟨rfl, ⟨⟨hsz, hP, hK, hD0, hE⟩, hall⟩, hZ⟩ := hv
  have hts := atoms_spec (ws := Cond.code y bytes maxL none :: wsL_law) B.pre
  have hown : s.vm.findClass own = some m.cls := by rw [← hcls]; exact findClass_of_methodNamed B.named
  subst hsz
  have hD := hD0.self (sz := s.heap.size)
  rw [tA_pl] at hD
  have hl := lv_entry av hlen
  rw [lg_entry_eq]
  have F : CallFix p m c bytes maxL s av.toArray wsL_law own := ⟨B.exec, B.bytes, hml, hown, fun w h => hts w (List.mem_cons_of_mem _ h)⟩
  refine body p e s m below meth c (tA L s.heap.size) _ _ _ F hZ ⟨⟨hP, hD, hK, va_S.rf, fun q h => Or.inr h, hE⟩, hall⟩ hl (fun f1 H locs pc ls hdg hpost h => ?_)
  obtain ⟨hx1, hall1⟩ := h
  exact W.vret F.1 F.2.1 B.returns (fun t ht _ => ⟨⟨f1, rfl, hpost, by rw [ht]; exact hx1.1, hx1.2.1, hall1⟩, hx1.2.2.2.1.F ht⟩) hx1.2.2.2.1.2.2 hdg B.notSynchronized
end TE
section TC
variable {p : Program} {l : Launch} {e : Env} {R0 : Room} {s : State} {m : MethodId} {args : Array Value} {below : List Frame} {meth : Method} {c : Code} {H H0 : Heap} {locs : List Loc} {cells slots : Nat} {Q : State → Prop} {cc : ByteArray} {nL : Nat} {own : String} {D : va_G} {cy : Nat → ClassId} {A : Nat → Prop} {L : List Nat} {R : Nat → Nat} {T : Nat → va_E → Prop} {f : Nat → va_E} {pc : Nat} {ls : Array Slot} {rest : List Value}
  {y : MethodName} {C : String} {bytes : ByteArray} {maxL : Nat} {ret : Option FieldType} {rm : Room} {b ro : Nat} {As st : List Value} {ci N index : Nat} {TT : u_T} {ps : List (Value → Prop)}
theorem tS.recv (h : tS D cy A H0 L R T f s H locs) (hb : b ∈ L) (hro : R b = ro) (hT : ∀ e, T ro e → tO ci ps e) (hcl : vwCl[ci]? = some (C, TT, N)) : ∃ cell : Cell, H[b]? = some cell ∧ cell.vm.isStatics = false ∧ s.vm.findClass C = some cell.cls := by
  obtain ⟨hx, hall⟩ := h
  obtain ⟨k, hk⟩ := va_pl_get (X := []) (f := f) hb
  obtain ⟨vs, he, -, -⟩ := hT _ (hro ▸ hall b hb)
  exact va_recv hx.2.2.1 hx.1 hcl (show (va_pl L f)[k]? = some (b, .inr (ci, vs)) by rw [← he]; exact hk)
theorem tw_Vi {post : Int32 → (Nat → va_E) → Prop} (F : CallFix p m c cc nL s args wsL_law own) (hZ : tZ A s s.heap) (h : tS D cy A s.heap L R T f s H locs) (hY : xY y C bytes maxL ret As.length) (hl : Cond.methodLink own index y ∈ wsL_law) (hi : Cond.instanceMethod y ∈ wsL_law) (hs : Cond.selects C y y ∈ wsL_law) (hM : ∀ sz, Met l y (Cond.code y bytes maxL ret :: wsL_law) rm (va_Pc (.ref b :: As) (tPZ D cy L R T f sz)) (va_Qi post (tB D (tA L sz) L R T) (tA L sz)) 0 0 (tA L sz)) (hrc : rm.cells = 0) (hrs : rm.slots = 0) (hb : b ∈ L) (hro : R b = ro) (hT : ∀ e, T ro e → tO ci ps e) (hcl : vwCl[ci]? = some (C, TT, N)) (hsz : ls.size = nL) (hst : st = As.reverse ++ .ref b :: rest) (hr8 : (rest.map fun v => v.category).sum ≤ 8) (hRm : rm.frames + 1 ≤ R0.frames ∧ 8 + (maxL + 11) + rm.locals ≤ R0.locals) (hf : cells ≤ R0.cells ∧ slots ≤ R0.slots) (hdg : decode cc pc = .ok (.invokevirtual index, 3))
    (kk : ∀ (r : Int32) (f1 : Nat → va_E) (H1 : Heap) (locs1 : List Loc), post r f1 → tS D cy A s.heap L R T f1 s H1 locs1 → W p l e R0 s m args below meth c H1 locs1 cells slots Q (F0 m (pc + 3) ls (.int r :: rest))) : W p l e R0 s m args below meth c H locs cells slots Q (F0 m pc ls st) := by
  subst hst
  have hp := h.pre hZ (av := .ref b :: As)
  have hB := x_cB (rm := rm) (R := R0) F hY hl hRm
  rw [hrc, hrs] at hB
  exact va_calli (va_runV (As := As) (rest := rest) F (hM H.size) ⟨hB, F.2.2.2.2 _ hi, F.2.2.2.2 _ hs⟩ ⟨hp.1, h.recv hb hro hT hcl, hp.2⟩ rfl rfl hsz rfl (lv_room hr8) hdg hf) h.dd.2.2 (fun q _ hh => h.free q hh) h.free (fun r u t H1 locs ht _ hw hB _ _ hS => kk r u H1 locs hw (h.back ht hB hS))
theorem tw_Vl {post : Int64 → (Nat → va_E) → Prop} (F : CallFix p m c cc nL s args wsL_law own) (hZ : tZ A s s.heap) (h : tS D cy A s.heap L R T f s H locs) (hY : xY y C bytes maxL ret As.length) (hl : Cond.methodLink own index y ∈ wsL_law) (hi : Cond.instanceMethod y ∈ wsL_law) (hs : Cond.selects C y y ∈ wsL_law) (hM : ∀ sz, Met l y (Cond.code y bytes maxL ret :: wsL_law) rm (va_Pc (.ref b :: As) (tPZ D cy L R T f sz)) (va_Ql post (tB D (tA L sz) L R T) (tA L sz)) 0 0 (tA L sz)) (hrc : rm.cells = 0) (hrs : rm.slots = 0) (hb : b ∈ L) (hro : R b = ro) (hT : ∀ e, T ro e → tO ci ps e) (hcl : vwCl[ci]? = some (C, TT, N)) (hsz : ls.size = nL) (hst : st = As.reverse ++ .ref b :: rest) (hr8 : (rest.map fun v => v.category).sum ≤ 8) (hRm : rm.frames + 1 ≤ R0.frames ∧ 8 + (maxL + 11) + rm.locals ≤ R0.locals) (hf : cells ≤ R0.cells ∧ slots ≤ R0.slots) (hdg : decode cc pc = .ok (.invokevirtual index, 3))
    (kk : ∀ (r : Int64) (f1 : Nat → va_E) (H1 : Heap) (locs1 : List Loc), post r f1 → tS D cy A s.heap L R T f1 s H1 locs1 → W p l e R0 s m args below meth c H1 locs1 cells slots Q (F0 m (pc + 3) ls (.long r :: rest))) : W p l e R0 s m args below meth c H locs cells slots Q (F0 m pc ls st) := by
  subst hst
  have hp := h.pre hZ (av := .ref b :: As)
  have hB := x_cB (rm := rm) (R := R0) F hY hl hRm
  rw [hrc, hrs] at hB
  exact va_calll (va_runV (As := As) (rest := rest) F (hM H.size) ⟨hB, F.2.2.2.2 _ hi, F.2.2.2.2 _ hs⟩ ⟨hp.1, h.recv hb hro hT hcl, hp.2⟩ rfl rfl hsz rfl (lv_room hr8) hdg hf) h.dd.2.2 (fun q _ hh => h.free q hh) h.free (fun r u t H1 locs ht _ hw hB _ _ hS => kk r u H1 locs hw (h.back ht hB hS))
theorem tw_Vv {post : (Nat → va_E) → Prop} (F : CallFix p m c cc nL s args wsL_law own) (hZ : tZ A s s.heap) (h : tS D cy A s.heap L R T f s H locs) (hY : xY y C bytes maxL ret As.length) (hl : Cond.methodLink own index y ∈ wsL_law) (hi : Cond.instanceMethod y ∈ wsL_law) (hs : Cond.selects C y y ∈ wsL_law) (hM : ∀ sz, Met l y (Cond.code y bytes maxL ret :: wsL_law) rm (va_Pc (.ref b :: As) (tPZ D cy L R T f sz)) (va_Qv post (tB D (tA L sz) L R T) (tA L sz)) 0 0 (tA L sz)) (hrc : rm.cells = 0) (hrs : rm.slots = 0) (hb : b ∈ L) (hro : R b = ro) (hT : ∀ e, T ro e → tO ci ps e) (hcl : vwCl[ci]? = some (C, TT, N)) (hsz : ls.size = nL) (hst : st = As.reverse ++ .ref b :: rest) (hr8 : (rest.map fun v => v.category).sum ≤ 8) (hRm : rm.frames + 1 ≤ R0.frames ∧ 8 + (maxL + 11) + rm.locals ≤ R0.locals) (hf : cells ≤ R0.cells ∧ slots ≤ R0.slots) (hdg : decode cc pc = .ok (.invokevirtual index, 3))
    (kk : ∀ (f1 : Nat → va_E) (H1 : Heap) (locs1 : List Loc), post f1 → tS D cy A s.heap L R T f1 s H1 locs1 → W p l e R0 s m args below meth c H1 locs1 cells slots Q (F0 m (pc + 3) ls rest)) : W p l e R0 s m args below meth c H locs cells slots Q (F0 m pc ls st) := by
  subst hst
  have hp := h.pre hZ (av := .ref b :: As)
  have hB := x_cB (rm := rm) (R := R0) F hY hl hRm
  rw [hrc, hrs] at hB
  exact va_callv (va_runV (As := As) (rest := rest) F (hM H.size) ⟨hB, F.2.2.2.2 _ hi, F.2.2.2.2 _ hs⟩ ⟨hp.1, h.recv hb hro hT hcl, hp.2⟩ rfl rfl hsz rfl (lv_room hr8) hdg hf) h.dd.2.2 (fun q _ hh => h.free q hh) h.free (fun u t H1 locs ht _ hw hB _ _ hS => kk u H1 locs hw (h.back ht hB hS))
theorem tw_Si {post : Int32 → (Nat → va_E) → Prop} (F : CallFix p m c cc nL s args wsL_law own) (hZ : tZ A s s.heap) (h : tS D cy A s.heap L R T f s H locs) (hY : xY y C bytes maxL ret As.length) (hl : Cond.methodLink own index y ∈ wsL_law) (hi : Cond.static y ∈ wsL_law) (hM : ∀ sz, Met l y (Cond.code y bytes maxL ret :: wsL_law) rm (va_Pc As (tPZ D cy L R T f sz)) (va_Qi post (tB D (tA L sz) L R T) (tA L sz)) 0 0 (tA L sz)) (hrc : rm.cells = 0) (hrs : rm.slots = 0) (hsz : ls.size = nL) (hst : st = As.reverse ++ rest) (hr8 : (rest.map fun v => v.category).sum ≤ 8) (hRm : rm.frames + 1 ≤ R0.frames ∧ 8 + (maxL + 11) + rm.locals ≤ R0.locals) (hf : cells ≤ R0.cells ∧ slots ≤ R0.slots) (hdg : decode cc pc = .ok (.invokestatic index, 3))
    (kk : ∀ (r : Int32) (f1 : Nat → va_E) (H1 : Heap) (locs1 : List Loc), post r f1 → tS D cy A s.heap L R T f1 s H1 locs1 → W p l e R0 s m args below meth c H1 locs1 cells slots Q (F0 m (pc + 3) ls (.int r :: rest))) : W p l e R0 s m args below meth c H locs cells slots Q (F0 m pc ls st) := by
  subst hst
  have hp := h.pre hZ (av := As)
  have hB := x_cB (rm := rm) (R := R0) F hY hl hRm
  rw [hrc, hrs] at hB
  exact va_calli (va_runS (As := As) (rest := rest) F (hM H.size) ⟨hB, F.2.2.2.2 _ hi⟩ hp rfl rfl hsz rfl (lv_room hr8) hdg hf) h.dd.2.2 (fun q _ hh => h.free q hh) h.free (fun r u t H1 locs ht _ hw hB _ _ hS => kk r u H1 locs hw (h.back ht hB hS))
theorem tw_Sl {post : Int64 → (Nat → va_E) → Prop} (F : CallFix p m c cc nL s args wsL_law own) (hZ : tZ A s s.heap) (h : tS D cy A s.heap L R T f s H locs) (hY : xY y C bytes maxL ret As.length) (hl : Cond.methodLink own index y ∈ wsL_law) (hi : Cond.static y ∈ wsL_law) (hM : ∀ sz, Met l y (Cond.code y bytes maxL ret :: wsL_law) rm (va_Pc As (tPZ D cy L R T f sz)) (va_Ql post (tB D (tA L sz) L R T) (tA L sz)) 0 0 (tA L sz)) (hrc : rm.cells = 0) (hrs : rm.slots = 0) (hsz : ls.size = nL) (hst : st = As.reverse ++ rest) (hr8 : (rest.map fun v => v.category).sum ≤ 8) (hRm : rm.frames + 1 ≤ R0.frames ∧ 8 + (maxL + 11) + rm.locals ≤ R0.locals) (hf : cells ≤ R0.cells ∧ slots ≤ R0.slots) (hdg : decode cc pc = .ok (.invokestatic index, 3))
    (kk : ∀ (r : Int64) (f1 : Nat → va_E) (H1 : Heap) (locs1 : List Loc), post r f1 → tS D cy A s.heap L R T f1 s H1 locs1 → W p l e R0 s m args below meth c H1 locs1 cells slots Q (F0 m (pc + 3) ls (.long r :: rest))) : W p l e R0 s m args below meth c H locs cells slots Q (F0 m pc ls st) := by
  subst hst
  have hp := h.pre hZ (av := As)
  have hB := x_cB (rm := rm) (R := R0) F hY hl hRm
  rw [hrc, hrs] at hB
  exact va_calll (va_runS (As := As) (rest := rest) F (hM H.size) ⟨hB, F.2.2.2.2 _ hi⟩ hp rfl rfl hsz rfl (lv_room hr8) hdg hf) h.dd.2.2 (fun q _ hh => h.free q hh) h.free (fun r u t H1 locs ht _ hw hB _ _ hS => kk r u H1 locs hw (h.back ht hB hS))
theorem tw_Sv {post : (Nat → va_E) → Prop} (F : CallFix p m c cc nL s args wsL_law own) (hZ : tZ A s s.heap) (h : tS D cy A s.heap L R T f s H locs) (hY : xY y C bytes maxL ret As.length) (hl : Cond.methodLink own index y ∈ wsL_law) (hi : Cond.static y ∈ wsL_law) (hM : ∀ sz, Met l y (Cond.code y bytes maxL ret :: wsL_law) rm (va_Pc As (tPZ D cy L R T f sz)) (va_Qv post (tB D (tA L sz) L R T) (tA L sz)) 0 0 (tA L sz)) (hrc : rm.cells = 0) (hrs : rm.slots = 0) (hsz : ls.size = nL) (hst : st = As.reverse ++ rest) (hr8 : (rest.map fun v => v.category).sum ≤ 8) (hRm : rm.frames + 1 ≤ R0.frames ∧ 8 + (maxL + 11) + rm.locals ≤ R0.locals) (hf : cells ≤ R0.cells ∧ slots ≤ R0.slots) (hdg : decode cc pc = .ok (.invokestatic index, 3))
    (kk : ∀ (f1 : Nat → va_E) (H1 : Heap) (locs1 : List Loc), post f1 → tS D cy A s.heap L R T f1 s H1 locs1 → W p l e R0 s m args below meth c H1 locs1 cells slots Q (F0 m (pc + 3) ls rest)) : W p l e R0 s m args below meth c H locs cells slots Q (F0 m pc ls st) := by
  subst hst
  have hp := h.pre hZ (av := As)
  have hB := x_cB (rm := rm) (R := R0) F hY hl hRm
  rw [hrc, hrs] at hB
  exact va_callv (va_runS (As := As) (rest := rest) F (hM H.size) ⟨hB, F.2.2.2.2 _ hi⟩ hp rfl rfl hsz rfl (lv_room hr8) hdg hf) h.dd.2.2 (fun q _ hh => h.free q hh) h.free (fun u t H1 locs ht _ hw hB _ _ hS => kk u H1 locs hw (h.back ht hB hS))
/-! numbers: every int has a name; what is known of it is told of its toInt -/
theorem tw_iconst (F : CallFix p m c cc nL s args wsL_law own) {n : Int} (hdg : decode cc pc = .ok (.iconst n, 1)) (hn : (Int32.ofInt n).toInt = n) (kk : ∀ z : Int32, z.toInt = n → W p l e R0 s m args below meth c H locs cells slots Q (F0 m (pc + 1) ls (.int z :: rest))) : W p l e R0 s m args below meth c H locs cells slots Q (F0 m pc ls rest) := lv_iconst F.1 F.2.1 hdg rfl (kk _ hn)
theorem tw_bipush (F : CallFix p m c cc nL s args wsL_law own) {n : Int} (hdg : decode cc pc = .ok (.bipush n, 2)) (hn : (Int8.ofInt n).toInt32.toInt = n) (kk : ∀ z : Int32, z.toInt = n → W p l e R0 s m args below meth c H locs cells slots Q (F0 m (pc + 2) ls (.int z :: rest))) : W p l e R0 s m args below meth c H locs cells slots Q (F0 m pc ls rest) := lv_bipush F.1 F.2.1 hdg rfl (kk _ hn)
theorem tw_sipush (F : CallFix p m c cc nL s args wsL_law own) {n : Int} (hdg : decode cc pc = .ok (.sipush n, 3)) (hn : (Int16.ofInt n).toInt32.toInt = n) (kk : ∀ z : Int32, z.toInt = n → W p l e R0 s m args below meth c H locs cells slots Q (F0 m (pc + 3) ls (.int z :: rest))) : W p l e R0 s m args below meth c H locs cells slots Q (F0 m pc ls rest) := lv_sipush F.1 F.2.1 hdg rfl (kk _ hn)
theorem tw_add {x y : Int32} (h1 : -2147483648 ≤ x.toInt + y.toInt) (h2 : x.toInt + y.toInt ≤ 2147483647) : (x + y).toInt = x.toInt + y.toInt := by
  rw [Int32.toInt_add]
  exact Int.bmod_eq_of_le (by omega) (by omega)
theorem tw_sub {x y : Int32} (h1 : -2147483648 ≤ x.toInt - y.toInt) (h2 : x.toInt - y.toInt ≤ 2147483647) : (x - y).toInt = x.toInt - y.toInt := by
  rw [Int32.toInt_sub]
  exact Int.bmod_eq_of_le (by omega) (by omega)
theorem tw_mul {x y : Int32} (h1 : -2147483648 ≤ x.toInt * y.toInt) (h2 : x.toInt * y.toInt ≤ 2147483647) : (x * y).toInt = x.toInt * y.toInt := by
  rw [Int32.toInt_mul]
  exact Int.bmod_eq_of_le (by omega) (by omega)
theorem tw_iadd (F : CallFix p m c cc nL s args wsL_law own) {x y : Int32} (hdg : decode cc pc = .ok (.iadd, 1)) (h1 : -2147483648 ≤ x.toInt + y.toInt) (h2 : x.toInt + y.toInt ≤ 2147483647) (kk : ∀ z : Int32, z.toInt = x.toInt + y.toInt → W p l e R0 s m args below meth c H locs cells slots Q (F0 m (pc + 1) ls (.int z :: rest))) : W p l e R0 s m args below meth c H locs cells slots Q (F0 m pc ls (.int y :: .int x :: rest)) := lv_iadd F.1 F.2.1 hdg (kk _ (tw_add h1 h2))
theorem tw_isub (F : CallFix p m c cc nL s args wsL_law own) {x y : Int32} (hdg : decode cc pc = .ok (.isub, 1)) (h1 : -2147483648 ≤ x.toInt - y.toInt) (h2 : x.toInt - y.toInt ≤ 2147483647) (kk : ∀ z : Int32, z.toInt = x.toInt - y.toInt → W p l e R0 s m args below meth c H locs cells slots Q (F0 m (pc + 1) ls (.int z :: rest))) : W p l e R0 s m args below meth c H locs cells slots Q (F0 m pc ls (.int y :: .int x :: rest)) := lv_isub F.1 F.2.1 hdg (kk _ (tw_sub h1 h2))
theorem tw_i0 : (0 : Int32).toInt = 0 := by decide
theorem tw_if_lt (F : CallFix p m c cc nL s args wsL_law own) {x : Int32} {off : Int} {tgt : Nat} (hdg : decode cc pc = .ok (.ifCond .lt off, 3)) (ht : (pc : Int) + off = (tgt : Int)) (kt : x.toInt < 0 → W p l e R0 s m args below meth c H locs cells slots Q (F0 m tgt ls rest)) (kf : 0 ≤ x.toInt → W p l e R0 s m args below meth c H locs cells slots Q (F0 m (pc + 3) ls rest)) : W p l e R0 s m args below meth c H locs cells slots Q (F0 m pc ls (.int x :: rest)) :=
  lv_if_lt F.1 F.2.1 hdg ht (fun h => kt (by have := Int32.lt_iff_toInt_lt.mp h; rw [tw_i0] at this; exact this)) (fun h => kf (by
    have h2 : ¬ x.toInt < (0 : Int32).toInt := fun h3 => h (Int32.lt_iff_toInt_lt.mpr h3)
    rw [tw_i0] at h2
    omega))
theorem tw_icmp_ge (F : CallFix p m c cc nL s args wsL_law own) {x y : Int32} {off : Int} {tgt : Nat} (hdg : decode cc pc = .ok (.if_icmp .ge off, 3)) (ht : (pc : Int) + off = (tgt : Int)) (kt : y.toInt ≤ x.toInt → W p l e R0 s m args below meth c H locs cells slots Q (F0 m tgt ls rest)) (kf : x.toInt < y.toInt → W p l e R0 s m args below meth c H locs cells slots Q (F0 m (pc + 3) ls rest)) : W p l e R0 s m args below meth c H locs cells slots Q (F0 m pc ls (.int y :: .int x :: rest)) :=
  lv_icmp_ge F.1 F.2.1 hdg ht (fun h => kt (Int32.le_iff_toInt_le.mp h)) (fun h => kf (by
    have h2 : ¬ y.toInt ≤ x.toInt := fun h3 => h (Int32.le_iff_toInt_le.mpr h3)
    omega))
end TC
