section XM
variable {p : Program} {l : Launch} {e : Env} {R : Room} {s : State} {m : MethodId} {args : Array Value} {below : List Frame} {meth : Method} {c : Code} {H : Heap} {locs : List Loc} {cells slots : Nat} {Q : State → Prop} {pc : Nat} {ls : Array Slot} {rest : List Value}
theorem x_topi {x y : Int32} (h : x = y) (k : W p l e R s m args below meth c H locs cells slots Q (F0 m pc ls (.int y :: rest))) : W p l e R s m args below meth c H locs cells slots Q (F0 m pc ls (.int x :: rest)) := h ▸ k
theorem x_topl {x y : Int64} (h : x = y) (k : W p l e R s m args below meth c H locs cells slots Q (F0 m pc ls (.long y :: rest))) : W p l e R s m args below meth c H locs cells slots Q (F0 m pc ls (.long x :: rest)) := h ▸ k
end XM
theorem x_in {i : Int32} {n : Nat} (h : decide (¬ (i < 0 ∨ n ≤ i.toNatClampNeg)) = true) : vp_in i n := by
  have h2 : ¬ (i < 0 ∨ n ≤ i.toNatClampNeg) := of_decide_eq_true h
  exact h2
theorem xr_nd : ∀ l : List Nat, l.Nodup → va_nd l = true
  | [], _ => rfl
  | a :: l, h => by
    rw [List.nodup_cons] at h
    simp only [va_nd, Bool.and_eq_true, decide_eq_true_eq]
    exact ⟨h.1, xr_nd l h.2⟩
theorem xr_1 (wr wc : va_W) : (List.range' 0 wr.length).map (fun i => (wr ++ wc)[i]?) = wr.map some := by
  apply List.ext_getElem?
  intro i
  rw [List.getElem?_map, List.getElem?_map]
  by_cases h : i < wr.length
  · rw [List.getElem?_range' h, List.getElem?_eq_getElem h]
    simp [List.getElem?_append_left h, List.getElem?_eq_getElem h]
  · rw [List.getElem?_eq_none (by simp; omega), List.getElem?_eq_none (by omega)]
    rfl
theorem xr_2 (wr wc : va_W) : (List.range' wr.length wc.length).map (fun i => (wr ++ wc)[i]?) = wc.map some := by
  apply List.ext_getElem?
  intro i
  rw [List.getElem?_map, List.getElem?_map]
  by_cases h : i < wc.length
  · rw [List.getElem?_range' h, List.getElem?_eq_getElem h]
    simp [List.getElem?_append_right, List.getElem?_eq_getElem h]
  · rw [List.getElem?_eq_none (by simp; omega), List.getElem?_eq_none (by omega)]
    rfl
theorem xr_3 (a b : Nat) : ∀ i ∈ List.range' 0 a, i ∉ List.range' a b := by
  intro i h1 h2
  rw [List.mem_range'] at h1 h2
  obtain ⟨x, h3, h4⟩ := h1
  obtain ⟨y, h5, h6⟩ := h2
  omega
section XT
variable {p : Program} {l : Launch} {e : Env} {R : Room} {s : State} {m : MethodId} {args : Array Value} {below : List Frame} {meth : Method} {c : Code} {H H0 : Heap} {locs : List Loc} {cells slots : Nat} {Q : State → Prop} {cc : ByteArray} {nL : Nat} {own : String} {D : va_G} {cy : Nat → ClassId} {A : Nat → Prop} {ws : va_W} {pc : Nat} {ls : Array Slot} {rest : List Value} {a : Nat}
  {y : MethodName} {C : String} {bytes : ByteArray} {maxL : Nat} {ret : Option FieldType} {rm : Room} {w : (Nat → Nat) → va_W} {b : Nat} {As st : List Value} {wc wr : va_W} {ci N index : Nat} {T : u_T} {fs : List Value}
theorem x_It {post : (Nat → Nat) → Prop} (F : CallFix p m c cc nL s args wsL_law own) (h : xS D cy A H0 ws s H locs) (hY : xY y C bytes maxL none As.length) (hl : Cond.methodLink own index y ∈ wsL_law) (hi : Cond.instanceMethod y ∈ wsL_law) (hy1 : y.name = "<init>") (hM : ∀ sz, Met l y (Cond.code y bytes maxL none :: wsL_law) rm (va_Pc (.ref b :: As) (xP D cy wc sz)) (va_Qv post (xB D (va_A wc sz) w) (va_A wc sz)) rm.cells rm.slots (va_A wc sz)) (hws : ws = wr ++ wc) (hsz : ls.size = nL) (hst : st = As.reverse ++ .ref b :: rest) (hro : (rest.map fun v => v.category).sum ≤ 8) (hRm : rm.frames + 1 ≤ R.frames ∧ 8 + (maxL + 11) + rm.locals ≤ R.locals) (hf : cells + rm.cells ≤ R.cells ∧ slots + rm.slots ≤ R.slots) (hdg : decode cc pc = .ok (.invokespecial index, 3))
    (kk : ∀ (u : Nat → Nat) (H1 : Heap) (locs1 : List Loc), post u → xS D cy A H0 (wr ++ w u) s H1 locs1 → W p l e R s m args below meth c H1 locs1 (cells + rm.cells) (slots + rm.slots) Q (F0 m (pc + 3) ls rest)) : W p l e R s m args below meth c H locs cells slots Q (F0 m pc ls st) := by
  subst hws
  exact x_Iv F h hY hl hi hy1 hM (List.range' wr.length wc.length) (List.range' 0 wr.length) (xr_2 wr wc) (xr_nd _ List.nodup_range') (xr_1 wr wc) (xr_nd _ List.nodup_range') (xr_3 _ _) hsz hst hro hRm hf hdg kk
theorem x_Nt {post : (Nat → Nat) → Prop} (F : CallFix p m c cc nL s args wsL_law own) (h : xS D cy A H0 ws s H locs) (hY : xY y C bytes maxL none As.length) (hl : va_Nw (.methodLinkNest own index y "AskBack") s) (hi : Cond.instanceMethod y ∈ wsL_law) (hy1 : y.name = "<init>") (hM : ∀ sz, Met l y (Cond.code y bytes maxL none :: wsL_law) rm (va_Pc (.ref b :: As) (xP D cy wc sz)) (va_Qv post (xB D (va_A wc sz) w) (va_A wc sz)) rm.cells rm.slots (va_A wc sz)) (hws : ws = wr ++ wc) (hsz : ls.size = nL) (hst : st = As.reverse ++ .ref b :: rest) (hro : (rest.map fun v => v.category).sum ≤ 8) (hRm : rm.frames + 1 ≤ R.frames ∧ 8 + (maxL + 11) + rm.locals ≤ R.locals) (hf : cells + rm.cells ≤ R.cells ∧ slots + rm.slots ≤ R.slots) (hdg : decode cc pc = .ok (.invokespecial index, 3))
    (kk : ∀ (u : Nat → Nat) (H1 : Heap) (locs1 : List Loc), post u → xS D cy A H0 (wr ++ w u) s H1 locs1 → W p l e R s m args below meth c H1 locs1 (cells + rm.cells) (slots + rm.slots) Q (F0 m (pc + 3) ls rest)) : W p l e R s m args below meth c H locs cells slots Q (F0 m pc ls st) := by
  subst hws
  exact x_Nv F h hY hl hi hy1 hM (List.range' wr.length wc.length) (List.range' 0 wr.length) (xr_2 wr wc) (xr_nd _ List.nodup_range') (xr_1 wr wc) (xr_nd _ List.nodup_range') (xr_3 _ _) hsz hst hro hRm hf hdg kk
/-- static calls leave the world as it is -/
theorem x_St {post : Int32 → (Nat → Nat) → Prop} (F : CallFix p m c cc nL s args wsL_law own) (h : xS D cy A H0 ws s H locs) (hY : xY y C bytes maxL ret As.length) (hl : Cond.methodLink own index y ∈ wsL_law) (hi : Cond.static y ∈ wsL_law) (hM : ∀ sz, Met l y (Cond.code y bytes maxL ret :: wsL_law) rm (va_Pc As (xP D cy [] sz)) (va_Qi post (xB D (va_A [] sz) (fun _ => [])) (va_A [] sz)) rm.cells rm.slots (va_A [] sz)) (hsz : ls.size = nL) (hst : st = As.reverse ++ rest) (hro : (rest.map fun v => v.category).sum ≤ 8) (hRm : rm.frames + 1 ≤ R.frames ∧ 8 + (maxL + 11) + rm.locals ≤ R.locals) (hf : cells + rm.cells ≤ R.cells ∧ slots + rm.slots ≤ R.slots) (hdg : decode cc pc = .ok (.invokestatic index, 3))
    (kk : ∀ (r : Int32) (u : Nat → Nat) (H1 : Heap) (locs1 : List Loc), post r u → xS D cy A H0 ws s H1 locs1 → W p l e R s m args below meth c H1 locs1 (cells + rm.cells) (slots + rm.slots) Q (F0 m (pc + 3) ls (.int r :: rest))) : W p l e R s m args below meth c H locs cells slots Q (F0 m pc ls st) := by
  have h1 := xr_1 ws []
  simp only [List.append_nil] at h1
  exact x_Si F h hY hl hi hM (List.range' 0 ws.length) h1 (xr_nd _ List.nodup_range') hsz hst hro hRm hf hdg kk
end XT
theorem xS.pre {D : va_G} {cy : Nat → ClassId} {A : Nat → Prop} {H0 H : Heap} {ws wr wd : va_W} {s : State} {locs : List Loc} (h : xS D cy A H0 ws s H locs) (hws : ws = wr ++ wd) : xS D cy A H0 wr s H locs := by
  subst hws
  exact h.sub (List.range' 0 wr.length) (xr_nd _ List.nodup_range') (xr_1 wr wd)
