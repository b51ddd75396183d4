/-! the pool grows: two scripts meet for the first time -/
def tX : Type := (Nat → va_E) × List Nat × (Nat → Nat)
def tX.f (x : tX) : Nat → va_E := x.1
def tX.L (x : tX) : List Nat := x.2.1
def tX.R (x : tX) : Nat → Nat := x.2.2
def tBX (D : va_G) (cy : Nat → ClassId) (A : Nat → Prop) (x : tX) (t : State) : Prop := tB D A x.L x.R (TT cy x.L x.R) x.f t
section TG
variable {l : Launch} {y : MethodName} {bytes : ByteArray} {maxL : Nat} {rm : Room} {D : va_G} {cy : Nat → ClassId} {av : List Value} {own : String} {L : List Nat} {R : Nat → Nat} {f : Nat → va_E}
theorem tS.backG {T : Nat → va_E → Prop} {A : Nat → Prop} {H0 H H1 : Heap} {s t : State} {locs locs1 : List Loc} (h : tS D cy A H0 L R T f s H locs) (ht : t.heap = H1) {x : tX} (hB : tBX D cy (tA L H.size) x t) (hS : va_S A H0 H1 locs1) : tS D cy A H0 x.L x.R (TT cy x.L x.R) x.f s H1 locs1 := by
  have hF := h.free
  obtain ⟨hx, -⟩ := h
  obtain ⟨hP1, hD1, hall1⟩ := hB
  rw [ht] at hP1
  exact ⟨⟨hP1, hD1.weaken (fun _ q _ hq => hF q.1 hq), hx.2.2.1, hS, hx.2.2.2.2⟩, hall1⟩
theorem tw_enteriG {ty : FieldType} {post : Int32 → tX → Prop} {cs sl : Nat} (hy : plainName y.cls = true) (hcls : y.cls = own) (hlen : (lg_sl av).length ≤ maxL)
    (body : ∀ (p : Program) (e : Env) (s : State) (m : MethodId) (below : List Frame) (meth : Method) (c : Code) (A : Nat → Prop) (ls : Array Slot) (args : Array Value) (Q : State → Prop), CallFix p m c bytes maxL s args wsL_law own → tZ A s s.heap → tS D cy A s.heap L R (TT cy L R) f s s.heap [] → lv_has ls maxL (lv_args 0 av) → (∀ (c1 s1 : Nat), c1 ≤ cs → s1 ≤ sl → ∀ (x : tX) (H : Heap) (locs : List Loc) (pc : Nat) (ls : Array Slot) (v : Int32), decode bytes pc = .ok (.ireturn, 1) → narrow ty (.int v) = .int v → post v x → tS D cy A s.heap x.L x.R (TT cy x.L x.R) x.f s H locs → W p l e rm s m args below meth c H locs c1 s1 Q (F0 m pc ls [.int v])) → W p l e rm s m args below meth c s.heap [] 0 0 Q (F0 m 0 ls [])) :
    ∀ sz, Met l y (Cond.code y bytes maxL (some ty) :: wsL_law) rm (va_Pc av (tPZ D cy L R (TT cy L R) f sz)) (va_Qi post (tBX D cy (tA L sz)) (tA L sz)) cs sl (tA L sz) := by
  intro sz
  refine Met.ofW (cc := bytes) (maxL := maxL) (ret := some ty) hy rfl ?_
  intro p e s m args below meth c s₁ B hml hv
  obtain ⟨rfl, ⟨⟨hsz, hP, hK, hD0, hE⟩, hall⟩, hZ⟩ := hv
  have hts := atoms_spec (ws := Cond.code y bytes maxL (some ty) :: wsL_law) B.pre
  have hown : s.vm.findClass own = some m.cls := by rw [← hcls]; exact findClass_of_methodNamed B.named
  subst hsz
  have hD := hD0.self (sz := s.heap.size)
  rw [tA_pl] at hD
  have hl := lv_entry av hlen
  rw [lg_entry_eq]
  have F : CallFix p m c bytes maxL s av.toArray wsL_law own := ⟨B.exec, B.bytes, hml, hown, fun w h => hts w (List.mem_cons_of_mem _ h)⟩
  refine body p e s m below meth c (tA L s.heap.size) _ _ _ F hZ ⟨⟨hP, hD, hK, va_S.rf, fun q h => Or.inr h, hE⟩, hall⟩ hl (fun c1 s1 hc1 hs1 x H locs pc ls v hdg hn hpost h => ?_)
  obtain ⟨hx1, hall1⟩ := h
  exact W.widen hc1 hs1 (W.zret F.1 F.2.1 B.returns hn (fun t ht _ => ⟨⟨v, x, rfl, hpost, by rw [ht]; exact hx1.1, hx1.2.1, hall1⟩, hx1.2.2.2.1.F ht⟩) hx1.2.2.2.1.2.2 hdg B.notSynchronized)
end TG
section TGV
variable {p : Program} {l : Launch} {e : Env} {R0 : Room} {s : State} {m : MethodId} {args : Array Value} {below : List Frame} {meth : Method} {c : Code} {H H0 : Heap} {locs : List Loc} {cells slots : Nat} {Q : State → Prop} {cc : ByteArray} {nL : Nat} {D : va_G} {cy : Nat → ClassId} {A : Nat → Prop} {L : List Nat} {R : Nat → Nat} {f : Nat → va_E} {pc : Nat} {ls : Array Slot} {rest st As : List Value} {own C : String} {y : MethodName} {bytes : ByteArray} {maxL index b ro ci N : Nat} {ret : Option FieldType} {rm : Room} {ps : List (Value → Prop)} {TU : u_T}
theorem tw_ViG {post : Int32 → tX → Prop} (F : CallFix p m c cc nL s args wsL_law own) (hZ : tZ A s s.heap) (h : tS D cy A s.heap L R (TT cy L R) f s H locs) (hY : xY y C bytes maxL ret As.length) (hl : Cond.methodLink own index y ∈ wsL_law) (hi : Cond.instanceMethod y ∈ wsL_law) (hs : Cond.selects C y y ∈ wsL_law) (hM : ∀ sz, Met l y (Cond.code y bytes maxL ret :: wsL_law) rm (va_Pc (.ref b :: As) (tPZ D cy L R (TT cy L R) f sz)) (va_Qi post (tBX D cy (tA L sz)) (tA L sz)) rm.cells rm.slots (tA L sz)) (hb : b ∈ L) (hro : R b = ro) (hT : ∀ e, TT cy L R ro e → tO ci ps e) (hcl : vwCl[ci]? = some (C, TU, N)) (hsz : ls.size = nL) (hst : st = As.reverse ++ .ref b :: rest) (hr8 : (rest.map fun v => v.category).sum ≤ 8) (hRm : rm.frames + 1 ≤ R0.frames ∧ 8 + (maxL + 11) + rm.locals ≤ R0.locals) (hf : cells + rm.cells ≤ R0.cells ∧ slots + rm.slots ≤ R0.slots) (hdg : decode cc pc = .ok (.invokevirtual index, 3))
    (kk : ∀ (r : Int32) (x : tX) (H1 : Heap) (locs1 : List Loc), post r x → tS D cy A s.heap x.L x.R (TT cy x.L x.R) x.f s H1 locs1 → W p l e R0 s m args below meth c H1 locs1 (cells + rm.cells) (slots + rm.slots) Q (F0 m (pc + 3) ls (.int r :: rest))) : W p l e R0 s m args below meth c H locs cells slots Q (F0 m pc ls st) := by
  subst hst
  have hp := h.pre hZ (av := .ref b :: As)
  have hB := x_cB (rm := rm) (R := R0) F hY hl hRm
  exact va_calli (va_runV (As := As) (rest := rest) F (hM H.size) ⟨hB, F.2.2.2.2 _ hi, F.2.2.2.2 _ hs⟩ ⟨hp.1, h.recv hb hro hT hcl, hp.2⟩ rfl rfl hsz rfl (lv_room hr8) hdg hf) h.dd.2.2 (fun q _ hh => h.free q hh) h.free (fun r u t H1 locs ht _ hw hB _ _ hS => kk r u H1 locs hw (h.backG ht hB hS))
end TGV
def Im2 {α : Type} : List (α → Prop) → List (α → Prop) → Prop
  | [], [] => True
  | p :: ps, q :: qs => (∀ e, p e → q e) ∧ Im2 ps qs
  | _, _ => False
theorem Im2.cons {α : Type} {p q : α → Prop} {ps qs : List (α → Prop)} (h : ∀ e, p e → q e) (h2 : Im2 ps qs) : Im2 (p :: ps) (q :: qs) := ⟨h, h2⟩
theorem Im2.nil {α : Type} : Im2 ([] : List (α → Prop)) [] := trivial
theorem Im2.len {α : Type} : ∀ {ps qs : List (α → Prop)}, Im2 ps qs → ps.length = qs.length
  | [], [], _ => rfl
  | _ :: _, _ :: _, h => by simp [h.2.len]
  | [], _ :: _, h => h.elim
  | _ :: _, [], h => h.elim
theorem Im2.get {α : Type} : ∀ {ps qs : List (α → Prop)}, Im2 ps qs → ∀ (k : Nat) (q : α → Prop), qs[k]? = some q → ∃ p, ps[k]? = some p ∧ ∀ e, p e → q e
  | [], [], _, k, q, hq => by simp at hq
  | p :: ps, q' :: qs, h, 0, q, hq => ⟨p, rfl, by
      have : q' = q := by simpa using hq
      rw [← this]
      exact h.1⟩
  | p :: ps, q' :: qs, h, k + 1, q, hq => by
      obtain ⟨p', h1, h2⟩ := h.2.get k q (by simpa using hq)
      exact ⟨p', by simpa using h1, h2⟩
  | [], _ :: _, h, _, _, _ => h.elim
  | _ :: _, [], h, _, _, _ => h.elim
theorem Im2.getD {α : Type} {d : α → Prop} : ∀ {ps qs : List (α → Prop)}, Im2 ps qs → ∀ (k : Nat) e, ps.getD k d e → qs.getD k d e
  | [], [], _, k, e, h => h
  | p :: ps, q :: qs, h, 0, e, h2 => h.1 e h2
  | p :: ps, q :: qs, h, k + 1, e, h2 => by
      have h3 : ps.getD k d e := by simpa using h2
      simpa using h.2.getD k e h3
  | [], _ :: _, h, _, _, _ => h.elim
  | _ :: _, [], h, _, _, _ => h.elim
section MONO
variable {L L1 : List Nat} {R R1 : Nat → Nat}
theorem vR_mono (h : ∀ a ∈ L, a ∈ L1 ∧ R1 a = R a) {ro : Nat} (v : Value) (q : vR L R ro v) : vR L1 R1 ro v := by
  obtain ⟨a, h1, h2, h3⟩ := q
  exact ⟨a, h1, (h a h2).1, (h a h2).2.trans h3⟩
theorem vN_mono (h : ∀ a ∈ L, a ∈ L1 ∧ R1 a = R a) {ro : Nat} (v : Value) (q : vN L R ro v) : vN L1 R1 ro v := q.imp id (vR_mono h v)
theorem tO_mono {ci : Nat} {ps qs : List (Value → Prop)} (h : Im2 ps qs) (e : va_E) (q : tO ci ps e) : tO ci qs e := by
  obtain ⟨vs, h1, h2, h3⟩ := q
  refine ⟨vs, h1, h2.trans h.len, fun k q v hq hv => ?_⟩
  obtain ⟨p, hp, hi⟩ := h.get k q hq
  exact hi v (h3 k p v hp hv)
theorem tQ_mono (h : ∀ a ∈ L, a ∈ L1 ∧ R1 a = R a) {c : ClassId} {n ro : Nat} (e : va_E) (q : tQ c n (fun _ o => ∃ b, o = some b ∧ b ∈ L ∧ R b = ro) e) : tQ c n (fun _ o => ∃ b, o = some b ∧ b ∈ L1 ∧ R1 b = ro) e := by
  obtain ⟨g, h1, h2⟩ := q
  refine ⟨g, h1, fun j hj => ?_⟩
  obtain ⟨b, e1, e2, e3⟩ := h2 j hj
  exact ⟨b, e1, (h b e2).1, (h b e2).2.trans e3⟩
end MONO
theorem TTl_mono {cy : Nat → ClassId} {L L1 : List Nat} {R R1 : Nat → Nat} (h : ∀ a ∈ L, a ∈ L1 ∧ R1 a = R a) : Im2 (TTl cy L R) (TTl cy L1 R1) := (Im2.cons (tO_mono (Im2.cons (vR_mono h) (Im2.cons (vR_mono h) (Im2.cons (vR_mono h) (Im2.cons (vR_mono h) (Im2.cons (vR_mono h) (Im2.cons (fun _ q => q) (Im2.cons (fun _ q => q) Im2.nil)))))))) (Im2.cons (tO_mono (Im2.cons (vR_mono h) (Im2.cons (vR_mono h) (Im2.cons (fun _ q => q) (Im2.cons (fun _ q => q) (Im2.cons (vR_mono h) (Im2.cons (fun _ q => q) (Im2.cons (vR_mono h) (Im2.cons (vR_mono h) (Im2.cons (vR_mono h) Im2.nil)))))))))) (Im2.cons (tO_mono (Im2.cons (vR_mono h) (Im2.cons (vR_mono h) (Im2.cons (fun _ q => q) (Im2.cons (fun _ q => q) Im2.nil))))) (Im2.cons (tO_mono (Im2.cons (vR_mono h) (Im2.cons (vR_mono h) (Im2.cons (fun _ q => q) (Im2.cons (fun _ q => q) (Im2.cons (vR_mono h) (Im2.cons (vR_mono h) (Im2.cons (vR_mono h) (Im2.cons (vR_mono h) (Im2.cons (fun _ q => q) (Im2.cons (vR_mono h) (Im2.cons (vR_mono h) (Im2.cons (fun _ q => q) (Im2.cons (fun _ q => q) (Im2.cons (fun _ q => q) Im2.nil))))))))))))))) (Im2.cons (tO_mono (Im2.cons (vR_mono h) (Im2.cons (fun _ q => q) Im2.nil))) (Im2.cons (tO_mono (Im2.cons (vR_mono h) (Im2.cons (vR_mono h) (Im2.cons (fun _ q => q) (Im2.cons (fun _ q => q) (Im2.cons (vR_mono h) (Im2.cons (vR_mono h) (Im2.cons (vR_mono h) (Im2.cons (fun _ q => q) Im2.nil))))))))) (Im2.cons (tO_mono (Im2.cons (vR_mono h) (Im2.cons (vR_mono h) (Im2.cons (vR_mono h) (Im2.cons (vR_mono h) (Im2.cons (vR_mono h) (Im2.cons (vR_mono h) (Im2.cons (vR_mono h) (Im2.cons (vR_mono h) (Im2.cons (vR_mono h) (Im2.cons (vR_mono h) (Im2.cons (vR_mono h) (Im2.cons (vR_mono h) (Im2.cons (vR_mono h) (Im2.cons (vR_mono h) (Im2.cons (fun _ q => q) (Im2.cons (fun _ q => q) (Im2.cons (fun _ q => q) (Im2.cons (fun _ q => q) (Im2.cons (fun _ q => q) Im2.nil)))))))))))))))))))) (Im2.cons (tO_mono (Im2.cons (vR_mono h) (Im2.cons (vR_mono h) (Im2.cons (vR_mono h) (Im2.cons (vR_mono h) (Im2.cons (fun _ q => q) (Im2.cons (fun _ q => q) (Im2.cons (fun _ q => q) (Im2.cons (fun _ q => q) (Im2.cons (fun _ q => q) (Im2.cons (fun _ q => q) (Im2.cons (fun _ q => q) (Im2.cons (vR_mono h) (Im2.cons (vR_mono h) (Im2.cons (vR_mono h) (Im2.cons (vR_mono h) (Im2.cons (vR_mono h) (Im2.cons (vN_mono h) Im2.nil)))))))))))))))))) (Im2.cons (tO_mono (Im2.cons (vR_mono h) (Im2.cons (fun _ q => q) (Im2.cons (fun _ q => q) Im2.nil)))) (Im2.cons (tO_mono (Im2.cons (vR_mono h) (Im2.cons (vR_mono h) (Im2.cons (vR_mono h) (Im2.cons (vR_mono h) (Im2.cons (fun _ q => q) Im2.nil)))))) (Im2.cons (tO_mono (Im2.cons (vR_mono h) (Im2.cons (fun _ q => q) (Im2.cons (fun _ q => q) Im2.nil)))) (Im2.cons (tO_mono (Im2.cons (vR_mono h) (Im2.cons (vR_mono h) (Im2.cons (vR_mono h) (Im2.cons (vR_mono h) (Im2.cons (vR_mono h) (Im2.cons (vR_mono h) (Im2.cons (vR_mono h) (Im2.cons (vR_mono h) (Im2.cons (vR_mono h) (Im2.cons (vR_mono h) (Im2.cons (fun _ q => q) (Im2.cons (fun _ q => q) (Im2.cons (fun _ q => q) (Im2.cons (fun _ q => q) (Im2.cons (fun _ q => q) (Im2.cons (fun _ q => q) (Im2.cons (fun _ q => q) Im2.nil)))))))))))))))))) (Im2.cons (tO_mono (Im2.cons (vR_mono h) (Im2.cons (fun _ q => q) (Im2.cons (fun _ q => q) (Im2.cons (fun _ q => q) (Im2.cons (vR_mono h) (Im2.cons (vR_mono h) (Im2.cons (vR_mono h) (Im2.cons (vR_mono h) (Im2.cons (vR_mono h) (Im2.cons (fun _ q => q) (Im2.cons (fun _ q => q) (Im2.cons (fun _ q => q) (Im2.cons (fun _ q => q) (Im2.cons (fun _ q => q) (Im2.cons (fun _ q => q) (Im2.cons (fun _ q => q) (Im2.cons (fun _ q => q) (Im2.cons (fun _ q => q) (Im2.cons (vR_mono h) (Im2.cons (fun _ q => q) (Im2.cons (fun _ q => q) (Im2.cons (vR_mono h) (Im2.cons (vR_mono h) (Im2.cons (vR_mono h) (Im2.cons (vR_mono h) (Im2.cons (vR_mono h) (Im2.cons (vR_mono h) (Im2.cons (vR_mono h) (Im2.cons (fun _ q => q) (Im2.cons (fun _ q => q) (Im2.cons (fun _ q => q) (Im2.cons (fun _ q => q) (Im2.cons (fun _ q => q) (Im2.cons (fun _ q => q) (Im2.cons (vR_mono h) (Im2.cons (fun _ q => q) (Im2.cons (fun _ q => q) (Im2.cons (fun _ q => q) (Im2.cons (fun _ q => q) (Im2.cons (fun _ q => q) (Im2.cons (vR_mono h) (Im2.cons (vR_mono h) (Im2.cons (fun _ q => q) (Im2.cons (fun _ q => q) (Im2.cons (fun _ q => q) (Im2.cons (fun _ q => q) (Im2.cons (fun _ q => q) (Im2.cons (fun _ q => q) (Im2.cons (vR_mono h) (Im2.cons (vR_mono h) (Im2.cons (vR_mono h) (Im2.cons (fun _ q => q) (Im2.cons (vR_mono h) (Im2.cons (vR_mono h) (Im2.cons (fun _ q => q) (Im2.cons (vR_mono h) (Im2.cons (fun _ q => q) (Im2.cons (fun _ q => q) (Im2.cons (vR_mono h) (Im2.cons (fun _ q => q) (Im2.cons (fun _ q => q) (Im2.cons (fun _ q => q) (Im2.cons (vR_mono h) (Im2.cons (vR_mono h) (Im2.cons (fun _ q => q) Im2.nil)))))))))))))))))))))))))))))))))))))))))))))))))))))))))))))))))) (Im2.cons (fun _ q => q) (Im2.cons (fun _ q => q) (Im2.cons (fun _ q => q) (Im2.cons (fun _ q => q) (Im2.cons (fun _ q => q) (Im2.cons (fun _ q => q) (Im2.cons (fun _ q => q) (Im2.cons (tQ_mono h) (Im2.cons (tQ_mono h) (Im2.cons (tQ_mono h) (Im2.cons (fun _ q => q) (Im2.cons (fun _ q => q) (Im2.cons (fun _ q => q) (Im2.cons (fun _ q => q) (Im2.cons (fun _ q => q) (Im2.cons (fun _ q => q) (Im2.cons (fun _ q => q) (Im2.cons (fun _ q => q) (Im2.cons (fun _ q => q) (Im2.cons (fun _ q => q) (Im2.cons (fun _ q => q) (Im2.cons (fun _ q => q) (Im2.cons (fun _ q => q) (Im2.cons (fun _ q => q) (Im2.cons (fun _ q => q) (Im2.cons (fun _ q => q) (Im2.cons (fun _ q => q) (Im2.cons (fun _ q => q) (Im2.cons (fun _ q => q) (Im2.cons (fun _ q => q) (Im2.cons (fun _ q => q) (Im2.cons (fun _ q => q) (Im2.cons (tQ_mono h) (Im2.cons (fun _ q => q) (Im2.cons (fun _ q => q) (Im2.cons (tQ_mono h) (Im2.cons (tQ_mono h) (Im2.cons (fun _ q => q) (Im2.cons (tQ_mono h) (Im2.cons (fun _ q => q) (Im2.cons (fun _ q => q) (Im2.cons (fun _ q => q) (Im2.cons (tQ_mono h) (Im2.cons (fun _ q => q) (Im2.cons (tQ_mono h) (Im2.cons (fun _ q => q) (Im2.cons (fun _ q => q) (Im2.cons (fun _ q => q) (Im2.cons (fun _ q => q) (Im2.cons (fun _ q => q) (Im2.cons (fun _ q => q) (Im2.cons (fun _ q => q) (Im2.cons (fun _ q => q) (Im2.cons (fun _ q => q) (Im2.cons (fun _ q => q) (Im2.cons (fun _ q => q) (Im2.cons (fun _ q => q) (Im2.cons (fun _ q => q) (Im2.cons (fun _ q => q) (Im2.cons (fun _ q => q) (Im2.cons (fun _ q => q) (Im2.cons (fun _ q => q) (Im2.cons (fun _ q => q) (Im2.cons (fun _ q => q) (Im2.cons (fun _ q => q) (Im2.cons (fun _ q => q) (Im2.cons (fun _ q => q) (Im2.cons (fun _ q => q) (Im2.cons (fun _ q => q) (Im2.cons (fun _ q => q) (Im2.cons (fun _ q => q) (Im2.cons (fun _ q => q) (Im2.cons (fun _ q => q) (Im2.cons (fun _ q => q) Im2.nil)))))))))))))))))))))))))))))))))))))))))))))))))))))))))))))))))))))))))))))))))))))))
theorem TT_mono {cy : Nat → ClassId} {L L1 : List Nat} {R R1 : Nat → Nat} (h : ∀ a ∈ L, a ∈ L1 ∧ R1 a = R a) {ro : Nat} {e : va_E} (q : TT cy L R ro e) : TT cy L1 R1 ro e := (TTl_mono h).getD ro e q
