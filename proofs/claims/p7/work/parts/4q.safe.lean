theorem dX12_status_0 : decode cX12_status 0 = .ok (.aload_n 0, 1) := by decide +kernel
theorem dX12_status_1 : decode cX12_status 1 = .ok (.getfield 121, 3) := by decide +kernel
theorem mw_246 : Cond.fieldLink RX12 121 "AskBackModel" "status" "I" ∈ wsL_law := inr_11 _ (List.mem_of_getElem? (i := 6) rfl)
section
variable {p : Program} {l : Launch} {e : Env} {R0 : Room} {s : State} {m : MethodId} {args : Array Value} {below : List Frame} {meth : Method} {c : Code} {H H0 : Heap} {locs : List Loc} {cells slots : Nat} {Q : State → Prop} {cc : ByteArray} {nL : Nat} {D : va_G} {cy : Nat → ClassId} {A : Nat → Prop} {L : List Nat} {R : Nat → Nat} {f : Nat → va_E} {pc : Nat} {ls : Array Slot} {rest : List Value} {a : Nat}
theorem g_12_121 (F : CallFix p m c cc nL s args wsL_law RX12) (h : tS D cy A H0 L R (TT cy L R) f s H locs) (ha : a ∈ L) (hr : R a = 12) (hdg : decode cc pc = .ok (.getfield 121, 3)) (kk : ∀ x : Int32, x.toInt = fi f a 1 → W p l e R0 s m args below meth c H locs cells slots Q (F0 m (pc + 3) ls (.int x :: rest))) : W p l e R0 s m args below meth c H locs cells slots Q (F0 m pc ls (.ref a :: rest)) := tu_geti F h ha hr (fun e q => (T_12 e).mp q) rfl inlX12 rfl (Nat.le_of_ble_eq_true rfl) mw_246 hdg (fun x h1 h2 h3 => kk x h1)
end
theorem dX12_status_4 : decode cX12_status 4 = .ok (.ireturn, 1) := by decide +kernel
def rm_X12_status : Room := { frames := 0, cells := 0, slots := 0, locals := 0 }
set_option maxHeartbeats 4000000 in
set_option maxRecDepth 100000 in
theorem s_X12_status (l : Launch) (D : va_G) (cy : Nat → ClassId) (L : List Nat) (R O : Nat → Nat) (f0 : Nat → va_E) (a0 : Nat) (m_a0 : a0 ∈ L) (r_a0 : R a0 = 12) : ∀ sz, Met l yX12_status (Cond.code yX12_status cX12_status 1 (some .int) :: wsL_law) rm_X12_status (va_Pc [.ref a0] (tPZ D cy L R (TT cy L R) f0 sz)) (va_Qi (fun (r : Int32) f1 => f0 = f1) (tB D (tA L sz) L R (TT cy L R)) (tA L sz)) 0 0 (tA L sz) := by
  refine tw_enteri (by decide +kernel) rfl (Nat.le_of_ble_eq_true rfl) ?_
  intro p e s m below meth c A ls args Q F hZ h hl hret
  have hl : lv_has ls 1 [(0, .ref a0)] := hl
  refine lv_aload_n F.1 F.2.1 dX12_status_0 rfl (lv_at hl 0 rfl) ?_
  refine g_12_121 F h m_a0 r_a0 dX12_status_1 (fun v1 hv1 => ?_)
  exact hret f0 _ _ _ _ v1 dX12_status_4 rfl rfl h
theorem dX12_top_0 : decode cX12_top 0 = .ok (.aload_n 0, 1) := by decide +kernel
theorem dX12_top_1 : decode cX12_top 1 = .ok (.getfield 124, 3) := by decide +kernel
theorem mw_255 : Cond.fieldLink RX12 124 "AskBackModel" "top" "J" ∈ wsL_law := inr_11 _ (List.mem_of_getElem? (i := 15) rfl)
section
variable {p : Program} {l : Launch} {e : Env} {R0 : Room} {s : State} {m : MethodId} {args : Array Value} {below : List Frame} {meth : Method} {c : Code} {H H0 : Heap} {locs : List Loc} {cells slots : Nat} {Q : State → Prop} {cc : ByteArray} {nL : Nat} {D : va_G} {cy : Nat → ClassId} {A : Nat → Prop} {L : List Nat} {R : Nat → Nat} {f : Nat → va_E} {pc : Nat} {ls : Array Slot} {rest : List Value} {a : Nat}
theorem g_12_124 (F : CallFix p m c cc nL s args wsL_law RX12) (h : tS D cy A H0 L R (TT cy L R) f s H locs) (ha : a ∈ L) (hr : R a = 12) (hdg : decode cc pc = .ok (.getfield 124, 3)) (kk : ∀ x : Int64, x.toInt = fi f a 2 → W p l e R0 s m args below meth c H locs cells slots Q (F0 m (pc + 3) ls (.long x :: rest))) : W p l e R0 s m args below meth c H locs cells slots Q (F0 m pc ls (.ref a :: rest)) := tu_getl F h ha hr (fun e q => (T_12 e).mp q) rfl inlX12 rfl (Nat.le_of_ble_eq_true rfl) mw_255 hdg (fun x h1 h2 h3 => kk x h1)
end
theorem dX12_top_4 : decode cX12_top 4 = .ok (.lreturn, 1) := by decide +kernel
def rm_X12_top : Room := { frames := 0, cells := 0, slots := 0, locals := 0 }
set_option maxHeartbeats 4000000 in
set_option maxRecDepth 100000 in
theorem s_X12_top (l : Launch) (D : va_G) (cy : Nat → ClassId) (L : List Nat) (R O : Nat → Nat) (f0 : Nat → va_E) (a0 : Nat) (m_a0 : a0 ∈ L) (r_a0 : R a0 = 12) : ∀ sz, Met l yX12_top (Cond.code yX12_top cX12_top 1 (some .long) :: wsL_law) rm_X12_top (va_Pc [.ref a0] (tPZ D cy L R (TT cy L R) f0 sz)) (va_Ql (fun (r : Int64) f1 => f0 = f1) (tB D (tA L sz) L R (TT cy L R)) (tA L sz)) 0 0 (tA L sz) := by
  refine tw_enterl (by decide +kernel) rfl (Nat.le_of_ble_eq_true rfl) ?_
  intro p e s m below meth c A ls args Q F hZ h hl hret
  have hl : lv_has ls 1 [(0, .ref a0)] := hl
  refine lv_aload_n F.1 F.2.1 dX12_top_0 rfl (lv_at hl 0 rfl) ?_
  refine g_12_124 F h m_a0 r_a0 dX12_top_1 (fun v1 hv1 => ?_)
  exact hret f0 _ _ _ _ v1 dX12_top_4 rfl h
theorem dX12_bottom_0 : decode cX12_bottom 0 = .ok (.aload_n 0, 1) := by decide +kernel
theorem dX12_bottom_1 : decode cX12_bottom 1 = .ok (.getfield 13, 3) := by decide +kernel
theorem mw_203 : Cond.fieldLink RX12 13 "AskBackModel" "bottom" "J" ∈ wsL_law := inr_9 _ (List.mem_of_getElem? (i := 11) rfl)
section
variable {p : Program} {l : Launch} {e : Env} {R0 : Room} {s : State} {m : MethodId} {args : Array Value} {below : List Frame} {meth : Method} {c : Code} {H H0 : Heap} {locs : List Loc} {cells slots : Nat} {Q : State → Prop} {cc : ByteArray} {nL : Nat} {D : va_G} {cy : Nat → ClassId} {A : Nat → Prop} {L : List Nat} {R : Nat → Nat} {f : Nat → va_E} {pc : Nat} {ls : Array Slot} {rest : List Value} {a : Nat}
theorem g_12_13 (F : CallFix p m c cc nL s args wsL_law RX12) (h : tS D cy A H0 L R (TT cy L R) f s H locs) (ha : a ∈ L) (hr : R a = 12) (hdg : decode cc pc = .ok (.getfield 13, 3)) (kk : ∀ x : Int64, x.toInt = fi f a 3 → W p l e R0 s m args below meth c H locs cells slots Q (F0 m (pc + 3) ls (.long x :: rest))) : W p l e R0 s m args below meth c H locs cells slots Q (F0 m pc ls (.ref a :: rest)) := tu_getl F h ha hr (fun e q => (T_12 e).mp q) rfl inlX12 rfl (Nat.le_of_ble_eq_true rfl) mw_203 hdg (fun x h1 h2 h3 => kk x h1)
end
theorem dX12_bottom_4 : decode cX12_bottom 4 = .ok (.lreturn, 1) := by decide +kernel
def rm_X12_bottom : Room := { frames := 0, cells := 0, slots := 0, locals := 0 }
set_option maxHeartbeats 4000000 in
set_option maxRecDepth 100000 in
theorem s_X12_bottom (l : Launch) (D : va_G) (cy : Nat → ClassId) (L : List Nat) (R O : Nat → Nat) (f0 : Nat → va_E) (a0 : Nat) (m_a0 : a0 ∈ L) (r_a0 : R a0 = 12) : ∀ sz, Met l yX12_bottom (Cond.code yX12_bottom cX12_bottom 1 (some .long) :: wsL_law) rm_X12_bottom (va_Pc [.ref a0] (tPZ D cy L R (TT cy L R) f0 sz)) (va_Ql (fun (r : Int64) f1 => f0 = f1) (tB D (tA L sz) L R (TT cy L R)) (tA L sz)) 0 0 (tA L sz) := by
  refine tw_enterl (by decide +kernel) rfl (Nat.le_of_ble_eq_true rfl) ?_
  intro p e s m below meth c A ls args Q F hZ h hl hret
  have hl : lv_has ls 1 [(0, .ref a0)] := hl
  refine lv_aload_n F.1 F.2.1 dX12_bottom_0 rfl (lv_at hl 0 rfl) ?_
  refine g_12_13 F h m_a0 r_a0 dX12_bottom_1 (fun v1 hv1 => ?_)
  exact hret f0 _ _ _ _ v1 dX12_bottom_4 rfl h
theorem dX12_is_0 : decode cX12_is 0 = .ok (.aload_n 0, 1) := by decide +kernel
theorem dX12_is_1 : decode cX12_is 1 = .ok (.iload_n 1, 1) := by decide +kernel
theorem dX12_is_2 : decode cX12_is 2 = .ok (.putfield 121, 3) := by decide +kernel
section
variable {p : Program} {l : Launch} {e : Env} {R0 : Room} {s : State} {m : MethodId} {args : Array Value} {below : List Frame} {meth : Method} {c : Code} {H H0 : Heap} {locs : List Loc} {cells slots : Nat} {Q : State → Prop} {cc : ByteArray} {nL : Nat} {D : va_G} {cy : Nat → ClassId} {A : Nat → Prop} {L : List Nat} {R : Nat → Nat} {f : Nat → va_E} {pc : Nat} {ls : Array Slot} {rest : List Value} {a : Nat}
theorem p_12_121 (F : CallFix p m c cc nL s args wsL_law RX12) (h : tS D cy A H0 L R (TT cy L R) f s H locs) {x : Int32} (ha : a ∈ L) (hr : R a = 12) (hdg : decode cc pc = .ok (.putfield 121, 3)) (kk : ∀ (f1 : Nat → va_E) (H1 : Heap) (locs1 : List Loc), fi f1 a 1 = x.toInt → fr L R [(12, 1)] [12] f f1 → tS D cy A H0 L R (TT cy L R) f1 s H1 locs1 → W p l e R0 s m args below meth c H1 locs1 cells slots Q (F0 m (pc + 3) ls (rest))) : W p l e R0 s m args below meth c H locs cells slots Q (F0 m pc ls (.int x :: .ref a :: rest)) := tu_puti (k := 1) F h ha hr T_12 rfl (tb_i x).1 (tb_i x).2 inlX12 tyX12_ok nmX12 rfl (Nat.le_of_ble_eq_true rfl) mw_246 rfl rfl rfl hdg kk
end
theorem dX12_is_5 : decode cX12_is 5 = .ok (.iload_n 1, 1) := by decide +kernel
theorem dX12_is_6 : decode cX12_is 6 = .ok (.ifCond .ne 7, 3) := by decide +kernel
theorem dX12_is_13 : decode cX12_is 13 = .ok (.iconst 0, 1) := by decide +kernel
theorem dX12_is_14 : decode cX12_is 14 = .ok (.ireturn, 1) := by decide +kernel
theorem dX12_is_9 : decode cX12_is 9 = .ok (.iconst 1, 1) := by decide +kernel
theorem dX12_is_10 : decode cX12_is 10 = .ok (.goto 4, 3) := by decide +kernel
def rm_X12_is : Room := { frames := 0, cells := 0, slots := 0, locals := 0 }
set_option maxHeartbeats 4000000 in
set_option maxRecDepth 100000 in
theorem s_X12_is (l : Launch) (D : va_G) (cy : Nat → ClassId) (L : List Nat) (R O : Nat → Nat) (f0 : Nat → va_E) (a0 : Nat) (m_a0 : a0 ∈ L) (r_a0 : R a0 = 12) (x1 : Int32) (b1 : 0 ≤ x1.toInt ∧ x1.toInt ≤ 8) : ∀ sz, Met l yX12_is (Cond.code yX12_is cX12_is 2 (some .boolean) :: wsL_law) rm_X12_is (va_Pc [.ref a0, .int x1] (tPZ D cy L R (TT cy L R) f0 sz)) (va_Qi (fun (r : Int32) f1 => fr L R [(12, 1)] [12] f0 f1 ∧ 0 ≤ r.toInt ∧ r.toInt ≤ 1 ∧ ((r.toInt = 1 ∧ x1.toInt = 0) ∨ (r.toInt = 0 ∧ x1.toInt ≠ 0))) (tB D (tA L sz) L R (TT cy L R)) (tA L sz)) 0 0 (tA L sz) := by
  refine tw_enteri (by decide +kernel) rfl (Nat.le_of_ble_eq_true rfl) ?_
  intro p e s m below meth c A ls args Q F hZ h hl hret
  have hl : lv_has ls 2 [(0, .ref a0), (1, .int x1)] := hl
  have hk : fr L R [(12, 1)] [12] f0 f0 := fr.rf
  refine lv_aload_n F.1 F.2.1 dX12_is_0 rfl (lv_at hl 0 rfl) ?_
  refine lv_iload_n F.1 F.2.1 dX12_is_1 rfl (lv_at hl 1 rfl) ?_
  refine p_12_121 F h m_a0 r_a0 dX12_is_2 (fun f1 H locs e1p hf1 h => ?_)
  have hk : fr L R [(12, 1)] [12] f0 f1 := hk.tr hf1 rfl rfl
  refine lv_iload_n F.1 F.2.1 dX12_is_5 rfl (lv_at hl 1 rfl) ?_
  refine tw_if_ne (tgt := 13) F dX12_is_6 (by decide) (fun b2 => ?_) (fun b2 => ?_)
  · refine tw_iconst F dX12_is_13 ki_0 (fun z3 hz3 => ?_)
    exact hret f1 _ _ _ _ z3 dX12_is_14 (tw_nb (by omega)) ⟨hk, by omega, by omega, by omega⟩ h
  · refine tw_iconst F dX12_is_9 ki_1 (fun z4 hz4 => ?_)
    refine lv_goto (tgt := 14) F.1 F.2.1 dX12_is_10 (by decide) ?_
    exact hret f1 _ _ _ _ z4 dX12_is_14 (tw_nb (by omega)) ⟨hk, by omega, by omega, by omega⟩ h
theorem dX12_refuse_0 : decode cX12_refuse 0 = .ok (.aload_n 0, 1) := by decide +kernel
theorem dX12_refuse_1 : decode cX12_refuse 1 = .ok (.iload_n 1, 1) := by decide +kernel
theorem dX12_refuse_2 : decode cX12_refuse 2 = .ok (.putfield 121, 3) := by decide +kernel
theorem dX12_refuse_5 : decode cX12_refuse 5 = .ok (.iconst (-1), 1) := by decide +kernel
theorem dX12_refuse_6 : decode cX12_refuse 6 = .ok (.ireturn, 1) := by decide +kernel
def rm_X12_refuse : Room := { frames := 0, cells := 0, slots := 0, locals := 0 }
set_option maxHeartbeats 4000000 in
set_option maxRecDepth 100000 in
theorem s_X12_refuse (l : Launch) (D : va_G) (cy : Nat → ClassId) (L : List Nat) (R O : Nat → Nat) (f0 : Nat → va_E) (a0 : Nat) (m_a0 : a0 ∈ L) (r_a0 : R a0 = 12) (x1 : Int32) (b1 : 1 ≤ x1.toInt ∧ x1.toInt ≤ 9) : ∀ sz, Met l yX12_refuse (Cond.code yX12_refuse cX12_refuse 2 (some .int) :: wsL_law) rm_X12_refuse (va_Pc [.ref a0, .int x1] (tPZ D cy L R (TT cy L R) f0 sz)) (va_Qi (fun (r : Int32) f1 => fr L R [(12, 1)] [12] f0 f1 ∧ (-1) ≤ r.toInt ∧ r.toInt ≤ (-1)) (tB D (tA L sz) L R (TT cy L R)) (tA L sz)) 0 0 (tA L sz) := by
  refine tw_enteri (by decide +kernel) rfl (Nat.le_of_ble_eq_true rfl) ?_
  intro p e s m below meth c A ls args Q F hZ h hl hret
  have hl : lv_has ls 2 [(0, .ref a0), (1, .int x1)] := hl
  have hk : fr L R [(12, 1)] [12] f0 f0 := fr.rf
  refine lv_aload_n F.1 F.2.1 dX12_refuse_0 rfl (lv_at hl 0 rfl) ?_
  refine lv_iload_n F.1 F.2.1 dX12_refuse_1 rfl (lv_at hl 1 rfl) ?_
  refine p_12_121 F h m_a0 r_a0 dX12_refuse_2 (fun f1 H locs e1p hf1 h => ?_)
  have hk : fr L R [(12, 1)] [12] f0 f1 := hk.tr hf1 rfl rfl
  refine tw_iconst F dX12_refuse_5 ki_m1 (fun z2 hz2 => ?_)
  exact hret f1 _ _ _ _ z2 dX12_refuse_6 rfl ⟨hk, by omega, by omega⟩ h
theorem dX12_gives_0 : decode cX12_gives 0 = .ok (.aload_n 0, 1) := by decide +kernel
theorem dX12_gives_1 : decode cX12_gives 1 = .ok (.iconst 0, 1) := by decide +kernel
theorem dX12_gives_2 : decode cX12_gives 2 = .ok (.putfield 121, 3) := by decide +kernel
theorem dX12_gives_5 : decode cX12_gives 5 = .ok (.iload_n 1, 1) := by decide +kernel
theorem dX12_gives_6 : decode cX12_gives 6 = .ok (.ireturn, 1) := by decide +kernel
def rm_X12_gives : Room := { frames := 0, cells := 0, slots := 0, locals := 0 }
set_option maxHeartbeats 4000000 in
set_option maxRecDepth 100000 in
theorem s_X12_gives (l : Launch) (D : va_G) (cy : Nat → ClassId) (L : List Nat) (R O : Nat → Nat) (f0 : Nat → va_E) (a0 : Nat) (m_a0 : a0 ∈ L) (r_a0 : R a0 = 12) (x1 : Int32) : ∀ sz, Met l yX12_gives (Cond.code yX12_gives cX12_gives 2 (some .int) :: wsL_law) rm_X12_gives (va_Pc [.ref a0, .int x1] (tPZ D cy L R (TT cy L R) f0 sz)) (va_Qi (fun (r : Int32) f1 => fr L R [(12, 1)] [12] f0 f1) (tB D (tA L sz) L R (TT cy L R)) (tA L sz)) 0 0 (tA L sz) := by
  refine tw_enteri (by decide +kernel) rfl (Nat.le_of_ble_eq_true rfl) ?_
  intro p e s m below meth c A ls args Q F hZ h hl hret
  have hl : lv_has ls 2 [(0, .ref a0), (1, .int x1)] := hl
  have hk : fr L R [(12, 1)] [12] f0 f0 := fr.rf
  refine lv_aload_n F.1 F.2.1 dX12_gives_0 rfl (lv_at hl 0 rfl) ?_
  refine tw_iconst F dX12_gives_1 ki_0 (fun z1 hz1 => ?_)
  refine p_12_121 F h m_a0 r_a0 dX12_gives_2 (fun f2 H locs e2p hf2 h => ?_)
  have hk : fr L R [(12, 1)] [12] f0 f2 := hk.tr hf2 rfl rfl
  refine lv_iload_n F.1 F.2.1 dX12_gives_5 rfl (lv_at hl 1 rfl) ?_
  exact hret f2 _ _ _ _ x1 dX12_gives_6 rfl hk h
theorem dX12_givesLong_0 : decode cX12_givesLong 0 = .ok (.aload_n 0, 1) := by decide +kernel
theorem dX12_givesLong_1 : decode cX12_givesLong 1 = .ok (.iconst 0, 1) := by decide +kernel
theorem dX12_givesLong_2 : decode cX12_givesLong 2 = .ok (.putfield 121, 3) := by decide +kernel
theorem dX12_givesLong_5 : decode cX12_givesLong 5 = .ok (.lload_n 1, 1) := by decide +kernel
theorem dX12_givesLong_6 : decode cX12_givesLong 6 = .ok (.lreturn, 1) := by decide +kernel
def rm_X12_givesLong : Room := { frames := 0, cells := 0, slots := 0, locals := 0 }
set_option maxHeartbeats 4000000 in
set_option maxRecDepth 100000 in
theorem s_X12_givesLong (l : Launch) (D : va_G) (cy : Nat → ClassId) (L : List Nat) (R O : Nat → Nat) (f0 : Nat → va_E) (a0 : Nat) (m_a0 : a0 ∈ L) (r_a0 : R a0 = 12) (x1 : Int64) : ∀ sz, Met l yX12_givesLong (Cond.code yX12_givesLong cX12_givesLong 3 (some .long) :: wsL_law) rm_X12_givesLong (va_Pc [.ref a0, .long x1] (tPZ D cy L R (TT cy L R) f0 sz)) (va_Ql (fun (r : Int64) f1 => fr L R [(12, 1)] [12] f0 f1) (tB D (tA L sz) L R (TT cy L R)) (tA L sz)) 0 0 (tA L sz) := by
  refine tw_enterl (by decide +kernel) rfl (Nat.le_of_ble_eq_true rfl) ?_
  intro p e s m below meth c A ls args Q F hZ h hl hret
  have hl : lv_has ls 3 [(0, .ref a0), (1, .long x1)] := hl
  have hk : fr L R [(12, 1)] [12] f0 f0 := fr.rf
  refine lv_aload_n F.1 F.2.1 dX12_givesLong_0 rfl (lv_at hl 0 rfl) ?_
  refine tw_iconst F dX12_givesLong_1 ki_0 (fun z1 hz1 => ?_)
  refine p_12_121 F h m_a0 r_a0 dX12_givesLong_2 (fun f2 H locs e2p hf2 h => ?_)
  have hk : fr L R [(12, 1)] [12] f0 f2 := hk.tr hf2 rfl rfl
  refine lv_lload_n F.1 F.2.1 dX12_givesLong_5 rfl (lv_at hl 1 rfl) ?_
  exact hret f2 _ _ _ _ x1 dX12_givesLong_6 hk h
theorem dX12_isTray_0 : decode cX12_isTray 0 = .ok (.iload_n 0, 1) := by decide +kernel
theorem dX12_isTray_1 : decode cX12_isTray 1 = .ok (.ifCond .lt 12, 3) := by decide +kernel
theorem dX12_isTray_13 : decode cX12_isTray 13 = .ok (.iconst 0, 1) := by decide +kernel
theorem dX12_isTray_14 : decode cX12_isTray 14 = .ok (.ireturn, 1) := by decide +kernel
theorem dX12_isTray_4 : decode cX12_isTray 4 = .ok (.iload_n 0, 1) := by decide +kernel
theorem dX12_isTray_5 : decode cX12_isTray 5 = .ok (.iconst 4, 1) := by decide +kernel
theorem dX12_isTray_6 : decode cX12_isTray 6 = .ok (.if_icmp .ge 7, 3) := by decide +kernel
theorem dX12_isTray_9 : decode cX12_isTray 9 = .ok (.iconst 1, 1) := by decide +kernel
theorem dX12_isTray_10 : decode cX12_isTray 10 = .ok (.goto 4, 3) := by decide +kernel
def rm_X12_isTray : Room := { frames := 0, cells := 0, slots := 0, locals := 0 }
set_option maxHeartbeats 4000000 in
set_option maxRecDepth 100000 in
theorem s_X12_isTray (l : Launch) (D : va_G) (cy : Nat → ClassId) (L : List Nat) (R O : Nat → Nat) (f0 : Nat → va_E) (x0 : Int32) : ∀ sz, Met l yX12_isTray (Cond.code yX12_isTray cX12_isTray 1 (some .boolean) :: wsL_law) rm_X12_isTray (va_Pc [.int x0] (tPZ D cy L R (TT cy L R) f0 sz)) (va_Qi (fun (r : Int32) f1 => f0 = f1 ∧ 0 ≤ r.toInt ∧ r.toInt ≤ 1 ∧ ((r.toInt = 1 ∧ 0 ≤ x0.toInt ∧ x0.toInt ≤ 3) ∨ (r.toInt = 0 ∧ (x0.toInt < 0 ∨ 3 < x0.toInt)))) (tB D (tA L sz) L R (TT cy L R)) (tA L sz)) 0 0 (tA L sz) := by
  refine tw_enteri (by decide +kernel) rfl (Nat.le_of_ble_eq_true rfl) ?_
  intro p e s m below meth c A ls args Q F hZ h hl hret
  have hl : lv_has ls 1 [(0, .int x0)] := hl
  refine lv_iload_n F.1 F.2.1 dX12_isTray_0 rfl (lv_at hl 0 rfl) ?_
  refine tw_if_lt (tgt := 13) F dX12_isTray_1 (by decide) (fun b1 => ?_) (fun b1 => ?_)
  · refine tw_iconst F dX12_isTray_13 ki_0 (fun z2 hz2 => ?_)
    exact hret f0 _ _ _ _ z2 dX12_isTray_14 (tw_nb (by omega)) ⟨rfl, by omega, by omega, by omega⟩ h
  · refine lv_iload_n F.1 F.2.1 dX12_isTray_4 rfl (lv_at hl 0 rfl) ?_
    refine tw_iconst F dX12_isTray_5 ki_4 (fun z3 hz3 => ?_)
    refine tw_icmp_ge (tgt := 13) F dX12_isTray_6 (by decide) (fun b4 => ?_) (fun b4 => ?_)
    · refine tw_iconst F dX12_isTray_13 ki_0 (fun z5 hz5 => ?_)
      exact hret f0 _ _ _ _ z5 dX12_isTray_14 (tw_nb (by omega)) ⟨rfl, by omega, by omega, by omega⟩ h
    · refine tw_iconst F dX12_isTray_9 ki_1 (fun z6 hz6 => ?_)
      refine lv_goto (tgt := 14) F.1 F.2.1 dX12_isTray_10 (by decide) ?_
      exact hret f0 _ _ _ _ z6 dX12_isTray_14 (tw_nb (by omega)) ⟨rfl, by omega, by omega, by omega⟩ h
theorem dX12_cut_0 : decode cX12_cut 0 = .ok (.iload_n 2, 1) := by decide +kernel
theorem dX12_cut_1 : decode cX12_cut 1 = .ok (.ifCond .ne 10, 3) := by decide +kernel
theorem dX12_cut_11 : decode cX12_cut 11 = .ok (.iload_n 2, 1) := by decide +kernel
theorem dX12_cut_12 : decode cX12_cut 12 = .ok (.iconst 1, 1) := by decide +kernel
theorem dX12_cut_13 : decode cX12_cut 13 = .ok (.if_icmp .ne 10, 3) := by decide +kernel
theorem dX12_cut_23 : decode cX12_cut 23 = .ok (.iload_n 2, 1) := by decide +kernel
theorem dX12_cut_24 : decode cX12_cut 24 = .ok (.iconst 2, 1) := by decide +kernel
theorem dX12_cut_25 : decode cX12_cut 25 = .ok (.if_icmp .ne 9, 3) := by decide +kernel
theorem dX12_cut_34 : decode cX12_cut 34 = .ok (.lload_n 0, 1) := by decide +kernel
theorem dX12_cut_35 : decode cX12_cut 35 = .ok (.lreturn, 1) := by decide +kernel
theorem dX12_cut_28 : decode cX12_cut 28 = .ok (.lload_n 0, 1) := by decide +kernel
theorem dX12_cut_29 : decode cX12_cut 29 = .ok (.l2i, 1) := by decide +kernel
theorem dX12_cut_30 : decode cX12_cut 30 = .ok (.i2l, 1) := by decide +kernel
theorem dX12_cut_31 : decode cX12_cut 31 = .ok (.goto 4, 3) := by decide +kernel
theorem dX12_cut_16 : decode cX12_cut 16 = .ok (.lload_n 0, 1) := by decide +kernel
theorem dX12_cut_17 : decode cX12_cut 17 = .ok (.l2i, 1) := by decide +kernel
theorem dX12_cut_18 : decode cX12_cut 18 = .ok (.i2s, 1) := by decide +kernel
theorem dX12_cut_19 : decode cX12_cut 19 = .ok (.i2l, 1) := by decide +kernel
theorem dX12_cut_20 : decode cX12_cut 20 = .ok (.goto 15, 3) := by decide +kernel
theorem dX12_cut_4 : decode cX12_cut 4 = .ok (.lload_n 0, 1) := by decide +kernel
theorem dX12_cut_5 : decode cX12_cut 5 = .ok (.l2i, 1) := by decide +kernel
theorem dX12_cut_6 : decode cX12_cut 6 = .ok (.i2b, 1) := by decide +kernel
theorem dX12_cut_7 : decode cX12_cut 7 = .ok (.i2l, 1) := by decide +kernel
theorem dX12_cut_8 : decode cX12_cut 8 = .ok (.goto 27, 3) := by decide +kernel
def rm_X12_cut : Room := { frames := 0, cells := 0, slots := 0, locals := 0 }
set_option maxHeartbeats 4000000 in
set_option maxRecDepth 100000 in
theorem s_X12_cut (l : Launch) (D : va_G) (cy : Nat → ClassId) (L : List Nat) (R O : Nat → Nat) (f0 : Nat → va_E) (x0 : Int64) (x2 : Int32) : ∀ sz, Met l yX12_cut (Cond.code yX12_cut cX12_cut 3 (some .long) :: wsL_law) rm_X12_cut (va_Pc [.long x0, .int x2] (tPZ D cy L R (TT cy L R) f0 sz)) (va_Ql (fun (r : Int64) f1 => f0 = f1) (tB D (tA L sz) L R (TT cy L R)) (tA L sz)) 0 0 (tA L sz) := by
  refine tw_enterl (by decide +kernel) rfl (Nat.le_of_ble_eq_true rfl) ?_
  intro p e s m below meth c A ls args Q F hZ h hl hret
  have hl : lv_has ls 3 [(0, .long x0), (2, .int x2)] := hl
  refine lv_iload_n F.1 F.2.1 dX12_cut_0 rfl (lv_at hl 1 rfl) ?_
  refine tw_if_ne (tgt := 11) F dX12_cut_1 (by decide) (fun b1 => ?_) (fun b1 => ?_)
  · refine lv_iload_n F.1 F.2.1 dX12_cut_11 rfl (lv_at hl 1 rfl) ?_
    refine tw_iconst F dX12_cut_12 ki_1 (fun z2 hz2 => ?_)
    refine tw_icmp_ne (tgt := 23) F dX12_cut_13 (by decide) (fun b3 => ?_) (fun b3 => ?_)
    · refine lv_iload_n F.1 F.2.1 dX12_cut_23 rfl (lv_at hl 1 rfl) ?_
      refine tw_iconst F dX12_cut_24 ki_2 (fun z4 hz4 => ?_)
      refine tw_icmp_ne (tgt := 34) F dX12_cut_25 (by decide) (fun b5 => ?_) (fun b5 => ?_)
      · refine lv_lload_n F.1 F.2.1 dX12_cut_34 rfl (lv_at hl 0 rfl) ?_
        exact hret f0 _ _ _ _ x0 dX12_cut_35 rfl h
      · refine lv_lload_n F.1 F.2.1 dX12_cut_28 rfl (lv_at hl 0 rfl) ?_
        refine lv_l2i F.1 F.2.1 dX12_cut_29 rfl ?_
        refine lv_topi (fun z6 _ => ?_)
        refine tu_i2l F dX12_cut_30 (fun z7 hz7 hz7a hz7b => ?_)
        refine lv_goto (tgt := 35) F.1 F.2.1 dX12_cut_31 (by decide) ?_
        exact hret f0 _ _ _ _ z7 dX12_cut_35 rfl h
    · refine lv_lload_n F.1 F.2.1 dX12_cut_16 rfl (lv_at hl 0 rfl) ?_
      refine lv_l2i F.1 F.2.1 dX12_cut_17 rfl ?_
      refine lv_topi (fun z8 _ => ?_)
      refine lv_i2s F.1 F.2.1 dX12_cut_18 rfl ?_
      refine lv_topi (fun z9 _ => ?_)
      refine tw_i2l F dX12_cut_19 (fun z10 hz10 => ?_)
      refine lv_goto (tgt := 35) F.1 F.2.1 dX12_cut_20 (by decide) ?_
      exact hret f0 _ _ _ _ z10 dX12_cut_35 rfl h
  · refine lv_lload_n F.1 F.2.1 dX12_cut_4 rfl (lv_at hl 0 rfl) ?_
    refine lv_l2i F.1 F.2.1 dX12_cut_5 rfl ?_
    refine lv_topi (fun z11 _ => ?_)
    refine lv_i2b F.1 F.2.1 dX12_cut_6 rfl ?_
    refine lv_topi (fun z12 _ => ?_)
    refine tw_i2l F dX12_cut_7 (fun z13 hz13 => ?_)
    refine lv_goto (tgt := 35) F.1 F.2.1 dX12_cut_8 (by decide) ?_
    exact hret f0 _ _ _ _ z13 dX12_cut_35 rfl h
theorem dX12_tray_0 : decode cX12_tray 0 = .ok (.iload_n 1, 1) := by decide +kernel
theorem dX12_tray_1 : decode cX12_tray 1 = .ok (.invokestatic 127, 3) := by decide +kernel
theorem mw_283 : Cond.methodLink RX12 127 yX12_isTray ∈ wsL_law := inr_12 _ (List.mem_of_getElem? (i := 19) rfl)
theorem mw_5 : Cond.initialized RX12 ∈ wsL_law := inr_1 _ (List.mem_of_getElem? (i := 5) rfl)
theorem mw_285 : Cond.code yX12_isTray cX12_isTray 1 (some .boolean) ∈ wsL_law := inr_12 _ (List.mem_of_getElem? (i := 21) rfl)
theorem yk_X12_isTray : xY yX12_isTray RX12 cX12_isTray 1 (some .boolean) 1 := ⟨⟨rfl, by decide +kernel, by decide +kernel, by decide +kernel⟩, mw_5, mw_285⟩
theorem mw_284 : Cond.static yX12_isTray ∈ wsL_law := inr_12 _ (List.mem_of_getElem? (i := 20) rfl)
theorem dX12_tray_4 : decode cX12_tray 4 = .ok (.ifCond .eq 22, 3) := by decide +kernel
theorem dX12_tray_26 : decode cX12_tray 26 = .ok (.aload_n 0, 1) := by decide +kernel
theorem dX12_tray_27 : decode cX12_tray 27 = .ok (.iconst 1, 1) := by decide +kernel
theorem dX12_tray_28 : decode cX12_tray 28 = .ok (.invokevirtual 131, 3) := by decide +kernel
theorem mw_286 : Cond.methodLink RX12 131 yX12_is ∈ wsL_law := inr_12 _ (List.mem_of_getElem? (i := 22) rfl)
theorem mw_289 : Cond.code yX12_is cX12_is 2 (some .boolean) ∈ wsL_law := inr_13 _ (List.mem_of_getElem? (i := 1) rfl)
theorem yk_X12_is : xY yX12_is RX12 cX12_is 2 (some .boolean) 1 := ⟨⟨rfl, by decide +kernel, by decide +kernel, by decide +kernel⟩, mw_5, mw_289⟩
theorem mw_287 : Cond.instanceMethod yX12_is ∈ wsL_law := inr_12 _ (List.mem_of_getElem? (i := 23) rfl)
theorem mw_288 : Cond.selects RX12 yX12_is yX12_is ∈ wsL_law := inr_13 _ (List.mem_of_getElem? (i := 0) rfl)
theorem dX12_tray_31 : decode cX12_tray 31 = .ok (.ireturn, 1) := by decide +kernel
theorem dX12_tray_7 : decode cX12_tray 7 = .ok (.iload_n 2, 1) := by decide +kernel
theorem dX12_tray_8 : decode cX12_tray 8 = .ok (.ifCond .lt 18, 3) := by decide +kernel
theorem dX12_tray_11 : decode cX12_tray 11 = .ok (.iload_n 2, 1) := by decide +kernel
theorem dX12_tray_12 : decode cX12_tray 12 = .ok (.iconst 3, 1) := by decide +kernel
theorem dX12_tray_13 : decode cX12_tray 13 = .ok (.if_icmp .gt 13, 3) := by decide +kernel
theorem dX12_tray_16 : decode cX12_tray 16 = .ok (.iload_n 3, 1) := by decide +kernel
theorem dX12_tray_17 : decode cX12_tray 17 = .ok (.ifCond .lt 9, 3) := by decide +kernel
theorem dX12_tray_20 : decode cX12_tray 20 = .ok (.iload_n 3, 1) := by decide +kernel
theorem dX12_tray_21 : decode cX12_tray 21 = .ok (.bipush 60, 2) := by decide +kernel
theorem dX12_tray_23 : decode cX12_tray 23 = .ok (.if_icmp .le 9, 3) := by decide +kernel
theorem dX12_tray_32 : decode cX12_tray 32 = .ok (.aload_n 0, 1) := by decide +kernel
theorem dX12_tray_33 : decode cX12_tray 33 = .ok (.getfield 17, 3) := by decide +kernel
theorem mw_204 : Cond.fieldLink RX12 17 "AskBackModel" "sort" "[I" ∈ wsL_law := inr_9 _ (List.mem_of_getElem? (i := 12) rfl)
section
variable {p : Program} {l : Launch} {e : Env} {R0 : Room} {s : State} {m : MethodId} {args : Array Value} {below : List Frame} {meth : Method} {c : Code} {H H0 : Heap} {locs : List Loc} {cells slots : Nat} {Q : State → Prop} {cc : ByteArray} {nL : Nat} {D : va_G} {cy : Nat → ClassId} {A : Nat → Prop} {L : List Nat} {R : Nat → Nat} {f : Nat → va_E} {pc : Nat} {ls : Array Slot} {rest : List Value} {a : Nat}
theorem g_12_17 (F : CallFix p m c cc nL s args wsL_law RX12) (h : tS D cy A H0 L R (TT cy L R) f s H locs) (ha : a ∈ L) (hr : R a = 12) (hdg : decode cc pc = .ok (.getfield 17, 3)) (kk : ∀ b : Nat, b ∈ L → R b = 62 → fld f a 4 = .ref b → W p l e R0 s m args below meth c H locs cells slots Q (F0 m (pc + 3) ls (.ref b :: rest))) : W p l e R0 s m args below meth c H locs cells slots Q (F0 m pc ls (.ref a :: rest)) := tu_getr F h ha hr (fun e q => (T_12 e).mp q) rfl inlX12 rfl (Nat.le_of_ble_eq_true rfl) mw_204 hdg kk
end
theorem dX12_tray_36 : decode cX12_tray 36 = .ok (.iload_n 1, 1) := by decide +kernel
theorem dX12_tray_37 : decode cX12_tray 37 = .ok (.iload_n 2, 1) := by decide +kernel
theorem dX12_tray_38 : decode cX12_tray 38 = .ok (.iastore, 1) := by decide +kernel
section
variable {p : Program} {l : Launch} {e : Env} {R0 : Room} {s : State} {m : MethodId} {args : Array Value} {below : List Frame} {meth : Method} {c : Code} {H H0 : Heap} {locs : List Loc} {cells slots : Nat} {Q : State → Prop} {cc : ByteArray} {nL : Nat} {D : va_G} {cy : Nat → ClassId} {A : Nat → Prop} {L : List Nat} {R : Nat → Nat} {f : Nat → va_E} {pc : Nat} {ls : Array Slot} {rest : List Value} {a : Nat}
theorem st_62 {own : String} (F : CallFix p m c cc nL s args wsL_law own) (h : tS D cy A H0 L R (TT cy L R) f s H locs) {i : Int32} {x : Int32} (ha : a ∈ L) (hr : R a = 62) (hb : 0 ≤ i.toInt ∧ i.toInt < 4) (hdg : decode cc pc = .ok (.iastore, 1)) (kk : ∀ (f1 : Nat → va_E) (H1 : Heap) (locs1 : List Loc), fr L R [] [62] f f1 → tS D cy A H0 L R (TT cy L R) f1 s H1 locs1 → W p l e R0 s m args below meth c H1 locs1 cells slots Q (F0 m (pc + 1) ls (rest))) : W p l e R0 s m args below meth c H locs cells slots Q (F0 m pc ls (.int x :: .int i :: .ref a :: rest)) := tu_iast F h ha hr T_62 hb.1 hb.2 trivial hdg (fun f1 H1 locs1 h1 h2 h3 h4 => kk f1 H1 locs1 h3 h4)
end
theorem dX12_tray_39 : decode cX12_tray 39 = .ok (.aload_n 0, 1) := by decide +kernel
theorem dX12_tray_40 : decode cX12_tray 40 = .ok (.getfield 21, 3) := by decide +kernel
theorem mw_205 : Cond.fieldLink RX12 21 "AskBackModel" "trayMany" "[I" ∈ wsL_law := inr_9 _ (List.mem_of_getElem? (i := 13) rfl)
section
variable {p : Program} {l : Launch} {e : Env} {R0 : Room} {s : State} {m : MethodId} {args : Array Value} {below : List Frame} {meth : Method} {c : Code} {H H0 : Heap} {locs : List Loc} {cells slots : Nat} {Q : State → Prop} {cc : ByteArray} {nL : Nat} {D : va_G} {cy : Nat → ClassId} {A : Nat → Prop} {L : List Nat} {R : Nat → Nat} {f : Nat → va_E} {pc : Nat} {ls : Array Slot} {rest : List Value} {a : Nat}
theorem g_12_21 (F : CallFix p m c cc nL s args wsL_law RX12) (h : tS D cy A H0 L R (TT cy L R) f s H locs) (ha : a ∈ L) (hr : R a = 12) (hdg : decode cc pc = .ok (.getfield 21, 3)) (kk : ∀ b : Nat, b ∈ L → R b = 63 → fld f a 5 = .ref b → W p l e R0 s m args below meth c H locs cells slots Q (F0 m (pc + 3) ls (.ref b :: rest))) : W p l e R0 s m args below meth c H locs cells slots Q (F0 m pc ls (.ref a :: rest)) := tu_getr F h ha hr (fun e q => (T_12 e).mp q) rfl inlX12 rfl (Nat.le_of_ble_eq_true rfl) mw_205 hdg kk
end
theorem dX12_tray_43 : decode cX12_tray 43 = .ok (.iload_n 1, 1) := by decide +kernel
theorem dX12_tray_44 : decode cX12_tray 44 = .ok (.iload_n 3, 1) := by decide +kernel
theorem dX12_tray_45 : decode cX12_tray 45 = .ok (.iastore, 1) := by decide +kernel
section
variable {p : Program} {l : Launch} {e : Env} {R0 : Room} {s : State} {m : MethodId} {args : Array Value} {below : List Frame} {meth : Method} {c : Code} {H H0 : Heap} {locs : List Loc} {cells slots : Nat} {Q : State → Prop} {cc : ByteArray} {nL : Nat} {D : va_G} {cy : Nat → ClassId} {A : Nat → Prop} {L : List Nat} {R : Nat → Nat} {f : Nat → va_E} {pc : Nat} {ls : Array Slot} {rest : List Value} {a : Nat}
theorem st_63 {own : String} (F : CallFix p m c cc nL s args wsL_law own) (h : tS D cy A H0 L R (TT cy L R) f s H locs) {i : Int32} {x : Int32} (ha : a ∈ L) (hr : R a = 63) (hb : 0 ≤ i.toInt ∧ i.toInt < 4) (hv : (-1) ≤ x.toInt ∧ x.toInt ≤ 60) (hdg : decode cc pc = .ok (.iastore, 1)) (kk : ∀ (f1 : Nat → va_E) (H1 : Heap) (locs1 : List Loc), fr L R [] [63] f f1 → tS D cy A H0 L R (TT cy L R) f1 s H1 locs1 → W p l e R0 s m args below meth c H1 locs1 cells slots Q (F0 m (pc + 1) ls (rest))) : W p l e R0 s m args below meth c H locs cells slots Q (F0 m pc ls (.int x :: .int i :: .ref a :: rest)) := tu_iast F h ha hr T_63 hb.1 hb.2 hv hdg (fun f1 H1 locs1 h1 h2 h3 h4 => kk f1 H1 locs1 h3 h4)
end
theorem dX12_tray_46 : decode cX12_tray 46 = .ok (.iconst 0, 1) := by decide +kernel
theorem dX12_tray_47 : decode cX12_tray 47 = .ok (.istore 4, 2) := by decide +kernel
theorem dX12_tray_49 : decode cX12_tray 49 = .ok (.iload 4, 2) := by decide +kernel
theorem dX12_tray_51 : decode cX12_tray 51 = .ok (.iload_n 3, 1) := by decide +kernel
theorem dX12_tray_52 : decode cX12_tray 52 = .ok (.if_icmp .ge 22, 3) := by decide +kernel
theorem dX12_tray_74 : decode cX12_tray 74 = .ok (.aload_n 0, 1) := by decide +kernel
theorem dX12_tray_75 : decode cX12_tray 75 = .ok (.iconst 0, 1) := by decide +kernel
theorem dX12_tray_76 : decode cX12_tray 76 = .ok (.invokevirtual 131, 3) := by decide +kernel
theorem dX12_tray_79 : decode cX12_tray 79 = .ok (.ireturn, 1) := by decide +kernel
theorem dX12_tray_55 : decode cX12_tray 55 = .ok (.aload_n 0, 1) := by decide +kernel
theorem dX12_tray_56 : decode cX12_tray 56 = .ok (.getfield 24, 3) := by decide +kernel
theorem mw_206 : Cond.fieldLink RX12 24 "AskBackModel" "trays" "[J" ∈ wsL_law := inr_9 _ (List.mem_of_getElem? (i := 14) rfl)
section
variable {p : Program} {l : Launch} {e : Env} {R0 : Room} {s : State} {m : MethodId} {args : Array Value} {below : List Frame} {meth : Method} {c : Code} {H H0 : Heap} {locs : List Loc} {cells slots : Nat} {Q : State → Prop} {cc : ByteArray} {nL : Nat} {D : va_G} {cy : Nat → ClassId} {A : Nat → Prop} {L : List Nat} {R : Nat → Nat} {f : Nat → va_E} {pc : Nat} {ls : Array Slot} {rest : List Value} {a : Nat}
theorem g_12_24 (F : CallFix p m c cc nL s args wsL_law RX12) (h : tS D cy A H0 L R (TT cy L R) f s H locs) (ha : a ∈ L) (hr : R a = 12) (hdg : decode cc pc = .ok (.getfield 24, 3)) (kk : ∀ b : Nat, b ∈ L → R b = 64 → fld f a 6 = .ref b → W p l e R0 s m args below meth c H locs cells slots Q (F0 m (pc + 3) ls (.ref b :: rest))) : W p l e R0 s m args below meth c H locs cells slots Q (F0 m pc ls (.ref a :: rest)) := tu_getr F h ha hr (fun e q => (T_12 e).mp q) rfl inlX12 rfl (Nat.le_of_ble_eq_true rfl) mw_206 hdg kk
end
theorem dX12_tray_59 : decode cX12_tray 59 = .ok (.bipush 60, 2) := by decide +kernel
theorem dX12_tray_61 : decode cX12_tray 61 = .ok (.iload_n 1, 1) := by decide +kernel
theorem dX12_tray_62 : decode cX12_tray 62 = .ok (.imul, 1) := by decide +kernel
theorem dX12_tray_63 : decode cX12_tray 63 = .ok (.iload 4, 2) := by decide +kernel
theorem dX12_tray_65 : decode cX12_tray 65 = .ok (.iadd, 1) := by decide +kernel
theorem dX12_tray_66 : decode cX12_tray 66 = .ok (.lconst 0, 1) := by decide +kernel
theorem dX12_tray_67 : decode cX12_tray 67 = .ok (.lastore, 1) := by decide +kernel
section
variable {p : Program} {l : Launch} {e : Env} {R0 : Room} {s : State} {m : MethodId} {args : Array Value} {below : List Frame} {meth : Method} {c : Code} {H H0 : Heap} {locs : List Loc} {cells slots : Nat} {Q : State → Prop} {cc : ByteArray} {nL : Nat} {D : va_G} {cy : Nat → ClassId} {A : Nat → Prop} {L : List Nat} {R : Nat → Nat} {f : Nat → va_E} {pc : Nat} {ls : Array Slot} {rest : List Value} {a : Nat}
theorem st_64 {own : String} (F : CallFix p m c cc nL s args wsL_law own) (h : tS D cy A H0 L R (TT cy L R) f s H locs) {i : Int32} {x : Int64} (ha : a ∈ L) (hr : R a = 64) (hb : 0 ≤ i.toInt ∧ i.toInt < 240) (hdg : decode cc pc = .ok (.lastore, 1)) (kk : ∀ (f1 : Nat → va_E) (H1 : Heap) (locs1 : List Loc), fr L R [] [64] f f1 → tS D cy A H0 L R (TT cy L R) f1 s H1 locs1 → W p l e R0 s m args below meth c H1 locs1 cells slots Q (F0 m (pc + 1) ls (rest))) : W p l e R0 s m args below meth c H locs cells slots Q (F0 m pc ls (.long x :: .int i :: .ref a :: rest)) := tu_last F h ha hr T_64 hb.1 hb.2 trivial hdg (fun f1 H1 locs1 h1 h2 h3 h4 => kk f1 H1 locs1 h3 h4)
end
theorem dX12_tray_68 : decode cX12_tray 68 = .ok (.iinc 4 1, 3) := by decide +kernel
theorem dX12_tray_71 : decode cX12_tray 71 = .ok (.goto (-22), 3) := by decide +kernel
def rm_X12_tray : Room := { frames := 1, cells := 0, slots := 0, locals := 21 }
set_option maxHeartbeats 4000000 in
set_option maxRecDepth 100000 in
theorem s_X12_tray (l : Launch) (D : va_G) (cy : Nat → ClassId) (L : List Nat) (R O : Nat → Nat) (f0 : Nat → va_E) (a0 : Nat) (m_a0 : a0 ∈ L) (r_a0 : R a0 = 12) (x1 : Int32) (x2 : Int32) (x3 : Int32) : ∀ sz, Met l yX12_tray (Cond.code yX12_tray cX12_tray 5 (some .boolean) :: wsL_law) rm_X12_tray (va_Pc [.ref a0, .int x1, .int x2, .int x3] (tPZ D cy L R (TT cy L R) f0 sz)) (va_Qi (fun (r : Int32) f1 => fr L R [(12, 1)] [12, 62, 63, 64] f0 f1 ∧ 0 ≤ r.toInt ∧ r.toInt ≤ 1 ∧ ((r.toInt = 1 ∧ (0 ≤ x1.toInt ∧ x1.toInt ≤ 3 ∧ 0 ≤ x2.toInt ∧ x2.toInt ≤ 3 ∧ 0 ≤ x3.toInt ∧ x3.toInt ≤ 60)) ∨ (r.toInt = 0 ∧ ¬ (0 ≤ x1.toInt ∧ x1.toInt ≤ 3 ∧ 0 ≤ x2.toInt ∧ x2.toInt ≤ 3 ∧ 0 ≤ x3.toInt ∧ x3.toInt ≤ 60)))) (tB D (tA L sz) L R (TT cy L R)) (tA L sz)) 0 0 (tA L sz) := by
  refine tw_enteri (by decide +kernel) rfl (Nat.le_of_ble_eq_true rfl) ?_
  intro p e s m below meth c A ls args Q F hZ h hl hret
  have hl : lv_has ls 5 [(0, .ref a0), (1, .int x1), (2, .int x2), (3, .int x3)] := hl
  have hk : fr L R [(12, 1)] [12, 62, 63, 64] f0 f0 := fr.rf
  refine lv_iload_n F.1 F.2.1 dX12_tray_0 rfl (lv_at hl 1 rfl) ?_
  refine tw_Si (As := [.int x1]) F hZ h yk_X12_isTray mw_283 mw_284 (s_X12_isTray l D cy L R O f0 x1) rfl rfl hl.1 rfl (Nat.le_of_ble_eq_true rfl) ⟨Nat.le_of_ble_eq_true rfl, Nat.le_of_ble_eq_true rfl⟩ ⟨Nat.le_of_ble_eq_true rfl, Nat.le_of_ble_eq_true rfl⟩ dX12_tray_1 (fun v2 f1 H locs hp1 h => ?_)
  obtain ⟨rfl, hv2a, hv2b, hv2p0⟩ := hp1
  refine tw_if_eq (tgt := 26) F dX12_tray_4 (by decide) (fun b3 => ?_) (fun b3 => ?_)
  · refine lv_aload_n F.1 F.2.1 dX12_tray_26 rfl (lv_at hl 0 rfl) ?_
    refine tw_iconst F dX12_tray_27 ki_1 (fun z4 hz4 => ?_)
    refine tw_Vi (As := [.int z4]) F hZ h yk_X12_is mw_286 mw_287 mw_288 (s_X12_is l D cy L R O f0 a0 m_a0 r_a0 z4 ⟨by omega, by omega⟩) rfl rfl m_a0 r_a0 (fun e q => (T_12 e).mp q) rfl hl.1 rfl (Nat.le_of_ble_eq_true rfl) ⟨Nat.le_of_ble_eq_true rfl, Nat.le_of_ble_eq_true rfl⟩ ⟨Nat.le_of_ble_eq_true rfl, Nat.le_of_ble_eq_true rfl⟩ dX12_tray_28 (fun v6 f5 H locs hp5 h => ?_)
    obtain ⟨hf5, hv6a, hv6b, hv6p0⟩ := hp5
    have hk : fr L R [(12, 1)] [12, 62, 63, 64] f0 f5 := hk.tr hf5 rfl rfl
    exact hret f5 _ _ _ _ v6 dX12_tray_31 (tw_nb (by omega)) ⟨hk, by omega, by omega, by omega⟩ h
  · refine lv_iload_n F.1 F.2.1 dX12_tray_7 rfl (lv_at hl 2 rfl) ?_
    refine tw_if_lt (tgt := 26) F dX12_tray_8 (by decide) (fun b7 => ?_) (fun b7 => ?_)
    · refine lv_aload_n F.1 F.2.1 dX12_tray_26 rfl (lv_at hl 0 rfl) ?_
      refine tw_iconst F dX12_tray_27 ki_1 (fun z8 hz8 => ?_)
      refine tw_Vi (As := [.int z8]) F hZ h yk_X12_is mw_286 mw_287 mw_288 (s_X12_is l D cy L R O f0 a0 m_a0 r_a0 z8 ⟨by omega, by omega⟩) rfl rfl m_a0 r_a0 (fun e q => (T_12 e).mp q) rfl hl.1 rfl (Nat.le_of_ble_eq_true rfl) ⟨Nat.le_of_ble_eq_true rfl, Nat.le_of_ble_eq_true rfl⟩ ⟨Nat.le_of_ble_eq_true rfl, Nat.le_of_ble_eq_true rfl⟩ dX12_tray_28 (fun v10 f9 H locs hp9 h => ?_)
      obtain ⟨hf9, hv10a, hv10b, hv10p0⟩ := hp9
      have hk : fr L R [(12, 1)] [12, 62, 63, 64] f0 f9 := hk.tr hf9 rfl rfl
      exact hret f9 _ _ _ _ v10 dX12_tray_31 (tw_nb (by omega)) ⟨hk, by omega, by omega, by omega⟩ h
    · refine lv_iload_n F.1 F.2.1 dX12_tray_11 rfl (lv_at hl 2 rfl) ?_
      refine tw_iconst F dX12_tray_12 ki_3 (fun z11 hz11 => ?_)
      refine tw_icmp_gt (tgt := 26) F dX12_tray_13 (by decide) (fun b12 => ?_) (fun b12 => ?_)
      · refine lv_aload_n F.1 F.2.1 dX12_tray_26 rfl (lv_at hl 0 rfl) ?_
        refine tw_iconst F dX12_tray_27 ki_1 (fun z13 hz13 => ?_)
        refine tw_Vi (As := [.int z13]) F hZ h yk_X12_is mw_286 mw_287 mw_288 (s_X12_is l D cy L R O f0 a0 m_a0 r_a0 z13 ⟨by omega, by omega⟩) rfl rfl m_a0 r_a0 (fun e q => (T_12 e).mp q) rfl hl.1 rfl (Nat.le_of_ble_eq_true rfl) ⟨Nat.le_of_ble_eq_true rfl, Nat.le_of_ble_eq_true rfl⟩ ⟨Nat.le_of_ble_eq_true rfl, Nat.le_of_ble_eq_true rfl⟩ dX12_tray_28 (fun v15 f14 H locs hp14 h => ?_)
        obtain ⟨hf14, hv15a, hv15b, hv15p0⟩ := hp14
        have hk : fr L R [(12, 1)] [12, 62, 63, 64] f0 f14 := hk.tr hf14 rfl rfl
        exact hret f14 _ _ _ _ v15 dX12_tray_31 (tw_nb (by omega)) ⟨hk, by omega, by omega, by omega⟩ h
      · refine lv_iload_n F.1 F.2.1 dX12_tray_16 rfl (lv_at hl 3 rfl) ?_
        refine tw_if_lt (tgt := 26) F dX12_tray_17 (by decide) (fun b16 => ?_) (fun b16 => ?_)
        · refine lv_aload_n F.1 F.2.1 dX12_tray_26 rfl (lv_at hl 0 rfl) ?_
          refine tw_iconst F dX12_tray_27 ki_1 (fun z17 hz17 => ?_)
          refine tw_Vi (As := [.int z17]) F hZ h yk_X12_is mw_286 mw_287 mw_288 (s_X12_is l D cy L R O f0 a0 m_a0 r_a0 z17 ⟨by omega, by omega⟩) rfl rfl m_a0 r_a0 (fun e q => (T_12 e).mp q) rfl hl.1 rfl (Nat.le_of_ble_eq_true rfl) ⟨Nat.le_of_ble_eq_true rfl, Nat.le_of_ble_eq_true rfl⟩ ⟨Nat.le_of_ble_eq_true rfl, Nat.le_of_ble_eq_true rfl⟩ dX12_tray_28 (fun v19 f18 H locs hp18 h => ?_)
          obtain ⟨hf18, hv19a, hv19b, hv19p0⟩ := hp18
          have hk : fr L R [(12, 1)] [12, 62, 63, 64] f0 f18 := hk.tr hf18 rfl rfl
          exact hret f18 _ _ _ _ v19 dX12_tray_31 (tw_nb (by omega)) ⟨hk, by omega, by omega, by omega⟩ h
        · refine lv_iload_n F.1 F.2.1 dX12_tray_20 rfl (lv_at hl 3 rfl) ?_
          refine tw_bipush F dX12_tray_21 kb_60 (fun z20 hz20 => ?_)
          refine tw_icmp_le (tgt := 32) F dX12_tray_23 (by decide) (fun b21 => ?_) (fun b21 => ?_)
          · refine lv_aload_n F.1 F.2.1 dX12_tray_32 rfl (lv_at hl 0 rfl) ?_
            refine g_12_17 F h m_a0 r_a0 dX12_tray_33 (fun o22 m_o22 r_o22 ho22 => ?_)
            refine lv_iload_n F.1 F.2.1 dX12_tray_36 rfl (lv_at hl 1 rfl) ?_
            refine lv_iload_n F.1 F.2.1 dX12_tray_37 rfl (lv_at hl 2 rfl) ?_
            refine st_62 F h m_o22 r_o22 (by omega) dX12_tray_38 (fun f23 H locs hf23 h => ?_)
            have hk : fr L R [(12, 1)] [12, 62, 63, 64] f0 f23 := hk.tr hf23 rfl rfl
            refine lv_aload_n F.1 F.2.1 dX12_tray_39 rfl (lv_at hl 0 rfl) ?_
            refine g_12_21 F h m_a0 r_a0 dX12_tray_40 (fun o24 m_o24 r_o24 ho24 => ?_)
            refine lv_iload_n F.1 F.2.1 dX12_tray_43 rfl (lv_at hl 1 rfl) ?_
            refine lv_iload_n F.1 F.2.1 dX12_tray_44 rfl (lv_at hl 3 rfl) ?_
            refine st_63 F h m_o24 r_o24 (by omega) (by omega) dX12_tray_45 (fun f25 H locs hf25 h => ?_)
            have hk : fr L R [(12, 1)] [12, 62, 63, 64] f0 f25 := hk.tr hf25 rfl rfl
            refine tw_iconst F dX12_tray_46 ki_0 (fun z26 hz26 => ?_)
            refine lv_istore (lv' := [(4, .int z26), (0, .ref a0), (1, .int x1), (2, .int x2), (3, .int x3)]) F.1 F.2.1 dX12_tray_47 hl (by decide) rfl (fun ls hl => ?_)
            have j_49 : ∀ (n49 : Nat) (f27 : Nat → va_E) (H : Heap) (locs : List Loc) (ls : Array Slot) (x4_49 : Int32), 0 ≤ x4_49.toInt → x4_49.toInt ≤ 60 → ((60 - x4_49.toInt)).toNat < n49 → tS D cy A s.heap L R (TT cy L R) f27 s H locs → fr L R [(12, 1)] [12, 62, 63, 64] f0 f27 → lv_has ls 5 [(0, .ref a0), (1, .int x1), (3, .int x3), (4, .int x4_49)] → W p l e rm_X12_tray s m args below meth c H locs 0 0 Q (F0 m 49 ls []) := by
              intro n49
              induction n49 with
              | zero =>
                intro f27 H locs ls x4_49 b28 b29 b30 h hk hl
                exfalso
                omega
              | succ n49 ih49 =>
                intro f27 H locs ls x4_49 b28 b29 b30 h hk hl
                refine lv_iload F.1 F.2.1 dX12_tray_49 (lv_at hl 3 rfl) ?_
                refine lv_iload_n F.1 F.2.1 dX12_tray_51 rfl (lv_at hl 2 rfl) ?_
                refine tw_icmp_ge (tgt := 74) F dX12_tray_52 (by decide) (fun b31 => ?_) (fun b31 => ?_)
                · refine lv_aload_n F.1 F.2.1 dX12_tray_74 rfl (lv_at hl 0 rfl) ?_
                  refine tw_iconst F dX12_tray_75 ki_0 (fun z32 hz32 => ?_)
                  refine tw_Vi (As := [.int z32]) F hZ h yk_X12_is mw_286 mw_287 mw_288 (s_X12_is l D cy L R O f27 a0 m_a0 r_a0 z32 ⟨by omega, by omega⟩) rfl rfl m_a0 r_a0 (fun e q => (T_12 e).mp q) rfl hl.1 rfl (Nat.le_of_ble_eq_true rfl) ⟨Nat.le_of_ble_eq_true rfl, Nat.le_of_ble_eq_true rfl⟩ ⟨Nat.le_of_ble_eq_true rfl, Nat.le_of_ble_eq_true rfl⟩ dX12_tray_76 (fun v34 f33 H locs hp33 h => ?_)
                  obtain ⟨hf33, hv34a, hv34b, hv34p0⟩ := hp33
                  have hk : fr L R [(12, 1)] [12, 62, 63, 64] f0 f33 := hk.tr hf33 rfl rfl
                  exact hret f33 _ _ _ _ v34 dX12_tray_79 (tw_nb (by omega)) ⟨hk, by omega, by omega, by omega⟩ h
                · refine lv_aload_n F.1 F.2.1 dX12_tray_55 rfl (lv_at hl 0 rfl) ?_
                  refine g_12_24 F h m_a0 r_a0 dX12_tray_56 (fun o35 m_o35 r_o35 ho35 => ?_)
                  refine tw_bipush F dX12_tray_59 kb_60 (fun z36 hz36 => ?_)
                  refine lv_iload_n F.1 F.2.1 dX12_tray_61 rfl (lv_at hl 1 rfl) ?_
                  refine tu_imull F dX12_tray_62 hz36 (by omega) (fun z37 hz37 => ?_)
                  refine lv_iload F.1 F.2.1 dX12_tray_63 (lv_at hl 3 rfl) ?_
                  refine tu_iadd F dX12_tray_65 (by omega) (fun z38 hz38 => ?_)
                  refine tu_lconst F dX12_tray_66 (by decide) (fun z39 (hz39 : z39.toInt = 0) => ?_)
                  refine st_64 F h m_o35 r_o35 (by omega) dX12_tray_67 (fun f40 H locs hf40 h => ?_)
                  have hk : fr L R [(12, 1)] [12, 62, 63, 64] f0 f40 := hk.tr hf40 rfl rfl
                  refine tu_iinc F dX12_tray_68 hl (k := 3) rfl (by decide) ki_1 (by omega) (fun z41 ls hz41 hl => ?_)
                  have hl : lv_has ls 5 [(4, .int z41), (0, .ref a0), (1, .int x1), (3, .int x3)] := hl
                  refine lv_goto (tgt := 49) F.1 F.2.1 dX12_tray_71 (by decide) ?_
                  exact ih49 f40 _ _ _ z41 (by omega) (by omega) (by omega) h hk (lv_sub hl [1, 2, 3, 0] rfl)
            exact j_49 (((60 - z26.toInt)).toNat + 1) f25 _ _ _ z26 (by omega) (by omega) (by omega) h hk (lv_sub hl [1, 2, 4, 0] rfl)
          · refine lv_aload_n F.1 F.2.1 dX12_tray_26 rfl (lv_at hl 0 rfl) ?_
            refine tw_iconst F dX12_tray_27 ki_1 (fun z42 hz42 => ?_)
            refine tw_Vi (As := [.int z42]) F hZ h yk_X12_is mw_286 mw_287 mw_288 (s_X12_is l D cy L R O f0 a0 m_a0 r_a0 z42 ⟨by omega, by omega⟩) rfl rfl m_a0 r_a0 (fun e q => (T_12 e).mp q) rfl hl.1 rfl (Nat.le_of_ble_eq_true rfl) ⟨Nat.le_of_ble_eq_true rfl, Nat.le_of_ble_eq_true rfl⟩ ⟨Nat.le_of_ble_eq_true rfl, Nat.le_of_ble_eq_true rfl⟩ dX12_tray_28 (fun v44 f43 H locs hp43 h => ?_)
            obtain ⟨hf43, hv44a, hv44b, hv44p0⟩ := hp43
            have hk : fr L R [(12, 1)] [12, 62, 63, 64] f0 f43 := hk.tr hf43 rfl rfl
            exact hret f43 _ _ _ _ v44 dX12_tray_31 (tw_nb (by omega)) ⟨hk, by omega, by omega, by omega⟩ h
theorem dX12_wrongPlace_0 : decode cX12_wrongPlace 0 = .ok (.iload_n 1, 1) := by decide +kernel
theorem dX12_wrongPlace_1 : decode cX12_wrongPlace 1 = .ok (.invokestatic 127, 3) := by decide +kernel
theorem dX12_wrongPlace_4 : decode cX12_wrongPlace 4 = .ok (.ifCond .ne 7, 3) := by decide +kernel
theorem dX12_wrongPlace_11 : decode cX12_wrongPlace 11 = .ok (.aload_n 0, 1) := by decide +kernel
theorem dX12_wrongPlace_12 : decode cX12_wrongPlace 12 = .ok (.getfield 21, 3) := by decide +kernel
theorem dX12_wrongPlace_15 : decode cX12_wrongPlace 15 = .ok (.iload_n 1, 1) := by decide +kernel
theorem dX12_wrongPlace_16 : decode cX12_wrongPlace 16 = .ok (.iaload, 1) := by decide +kernel
section
variable {p : Program} {l : Launch} {e : Env} {R0 : Room} {s : State} {m : MethodId} {args : Array Value} {below : List Frame} {meth : Method} {c : Code} {H H0 : Heap} {locs : List Loc} {cells slots : Nat} {Q : State → Prop} {cc : ByteArray} {nL : Nat} {D : va_G} {cy : Nat → ClassId} {A : Nat → Prop} {L : List Nat} {R : Nat → Nat} {f : Nat → va_E} {pc : Nat} {ls : Array Slot} {rest : List Value} {a : Nat}
theorem ld_63 {own : String} (F : CallFix p m c cc nL s args wsL_law own) (h : tS D cy A H0 L R (TT cy L R) f s H locs) {i : Int32} (ha : a ∈ L) (hr : R a = 63) (hb : 0 ≤ i.toInt ∧ i.toInt < 4) (hdg : decode cc pc = .ok (.iaload, 1)) (kk : ∀ x : Int32, (-1) ≤ x.toInt → x.toInt ≤ 60 → W p l e R0 s m args below meth c H locs cells slots Q (F0 m (pc + 1) ls (.int x :: rest))) : W p l e R0 s m args below meth c H locs cells slots Q (F0 m pc ls (.int i :: .ref a :: rest)) := tu_iald F h ha hr (fun e q => (T_63 e).mp q) hb.1 hb.2 hdg (fun x h1 h2 => kk x h1.1 h1.2)
end
theorem dX12_wrongPlace_17 : decode cX12_wrongPlace 17 = .ok (.iconst (-1), 1) := by decide +kernel
theorem dX12_wrongPlace_18 : decode cX12_wrongPlace 18 = .ok (.if_icmp .ne 7, 3) := by decide +kernel
theorem dX12_wrongPlace_25 : decode cX12_wrongPlace 25 = .ok (.iload_n 2, 1) := by decide +kernel
theorem dX12_wrongPlace_26 : decode cX12_wrongPlace 26 = .ok (.ifCond .lt 13, 3) := by decide +kernel
theorem dX12_wrongPlace_39 : decode cX12_wrongPlace 39 = .ok (.iconst 3, 1) := by decide +kernel
theorem dX12_wrongPlace_40 : decode cX12_wrongPlace 40 = .ok (.goto 4, 3) := by decide +kernel
theorem dX12_wrongPlace_44 : decode cX12_wrongPlace 44 = .ok (.ireturn, 1) := by decide +kernel
theorem dX12_wrongPlace_29 : decode cX12_wrongPlace 29 = .ok (.iload_n 2, 1) := by decide +kernel
theorem dX12_wrongPlace_30 : decode cX12_wrongPlace 30 = .ok (.aload_n 0, 1) := by decide +kernel
theorem dX12_wrongPlace_31 : decode cX12_wrongPlace 31 = .ok (.getfield 21, 3) := by decide +kernel
theorem dX12_wrongPlace_34 : decode cX12_wrongPlace 34 = .ok (.iload_n 1, 1) := by decide +kernel
theorem dX12_wrongPlace_35 : decode cX12_wrongPlace 35 = .ok (.iaload, 1) := by decide +kernel
theorem dX12_wrongPlace_36 : decode cX12_wrongPlace 36 = .ok (.if_icmp .lt 7, 3) := by decide +kernel
theorem dX12_wrongPlace_43 : decode cX12_wrongPlace 43 = .ok (.iconst 0, 1) := by decide +kernel
theorem dX12_wrongPlace_21 : decode cX12_wrongPlace 21 = .ok (.iconst 2, 1) := by decide +kernel
theorem dX12_wrongPlace_22 : decode cX12_wrongPlace 22 = .ok (.goto 22, 3) := by decide +kernel
theorem dX12_wrongPlace_7 : decode cX12_wrongPlace 7 = .ok (.iconst 1, 1) := by decide +kernel
theorem dX12_wrongPlace_8 : decode cX12_wrongPlace 8 = .ok (.goto 36, 3) := by decide +kernel
def rm_X12_wrongPlace : Room := { frames := 1, cells := 0, slots := 0, locals := 20 }
set_option maxHeartbeats 4000000 in
set_option maxRecDepth 100000 in
theorem s_X12_wrongPlace (l : Launch) (D : va_G) (cy : Nat → ClassId) (L : List Nat) (R O : Nat → Nat) (f0 : Nat → va_E) (a0 : Nat) (m_a0 : a0 ∈ L) (r_a0 : R a0 = 12) (x1 : Int32) (x2 : Int32) : ∀ sz, Met l yX12_wrongPlace (Cond.code yX12_wrongPlace cX12_wrongPlace 3 (some .int) :: wsL_law) rm_X12_wrongPlace (va_Pc [.ref a0, .int x1, .int x2] (tPZ D cy L R (TT cy L R) f0 sz)) (va_Qi (fun (r : Int32) f1 => f0 = f1 ∧ 0 ≤ r.toInt ∧ r.toInt ≤ 3 ∧ (r.toInt ≠ 0 ∨ (0 ≤ x1.toInt ∧ x1.toInt ≤ 3 ∧ 0 ≤ x2.toInt ∧ x2.toInt ≤ 59))) (tB D (tA L sz) L R (TT cy L R)) (tA L sz)) 0 0 (tA L sz) := by
  refine tw_enteri (by decide +kernel) rfl (Nat.le_of_ble_eq_true rfl) ?_
  intro p e s m below meth c A ls args Q F hZ h hl hret
  have hl : lv_has ls 3 [(0, .ref a0), (1, .int x1), (2, .int x2)] := hl
  refine lv_iload_n F.1 F.2.1 dX12_wrongPlace_0 rfl (lv_at hl 1 rfl) ?_
  refine tw_Si (As := [.int x1]) F hZ h yk_X12_isTray mw_283 mw_284 (s_X12_isTray l D cy L R O f0 x1) rfl rfl hl.1 rfl (Nat.le_of_ble_eq_true rfl) ⟨Nat.le_of_ble_eq_true rfl, Nat.le_of_ble_eq_true rfl⟩ ⟨Nat.le_of_ble_eq_true rfl, Nat.le_of_ble_eq_true rfl⟩ dX12_wrongPlace_1 (fun v2 f1 H locs hp1 h => ?_)
  obtain ⟨rfl, hv2a, hv2b, hv2p0⟩ := hp1
  refine tw_if_ne (tgt := 11) F dX12_wrongPlace_4 (by decide) (fun b3 => ?_) (fun b3 => ?_)
  · refine lv_aload_n F.1 F.2.1 dX12_wrongPlace_11 rfl (lv_at hl 0 rfl) ?_
    refine g_12_21 F h m_a0 r_a0 dX12_wrongPlace_12 (fun o4 m_o4 r_o4 ho4 => ?_)
    refine lv_iload_n F.1 F.2.1 dX12_wrongPlace_15 rfl (lv_at hl 1 rfl) ?_
    refine ld_63 F h m_o4 r_o4 (by omega) dX12_wrongPlace_16 (fun v5 hv5a hv5b => ?_)
    refine tw_iconst F dX12_wrongPlace_17 ki_m1 (fun z6 hz6 => ?_)
    refine tw_icmp_ne (tgt := 25) F dX12_wrongPlace_18 (by decide) (fun b7 => ?_) (fun b7 => ?_)
    · refine lv_iload_n F.1 F.2.1 dX12_wrongPlace_25 rfl (lv_at hl 2 rfl) ?_
      refine tw_if_lt (tgt := 39) F dX12_wrongPlace_26 (by decide) (fun b8 => ?_) (fun b8 => ?_)
      · refine tw_iconst F dX12_wrongPlace_39 ki_3 (fun z9 hz9 => ?_)
        refine lv_goto (tgt := 44) F.1 F.2.1 dX12_wrongPlace_40 (by decide) ?_
        exact hret f0 _ _ _ _ z9 dX12_wrongPlace_44 rfl ⟨rfl, by omega, by omega, by omega⟩ h
      · refine lv_iload_n F.1 F.2.1 dX12_wrongPlace_29 rfl (lv_at hl 2 rfl) ?_
        refine lv_aload_n F.1 F.2.1 dX12_wrongPlace_30 rfl (lv_at hl 0 rfl) ?_
        refine g_12_21 F h m_a0 r_a0 dX12_wrongPlace_31 (fun o10 m_o10 r_o10 ho10 => ?_)
        refine lv_iload_n F.1 F.2.1 dX12_wrongPlace_34 rfl (lv_at hl 1 rfl) ?_
        refine ld_63 F h m_o10 r_o10 (by omega) dX12_wrongPlace_35 (fun v11 hv11a hv11b => ?_)
        refine tw_icmp_lt (tgt := 43) F dX12_wrongPlace_36 (by decide) (fun b12 => ?_) (fun b12 => ?_)
        · refine tw_iconst F dX12_wrongPlace_43 ki_0 (fun z13 hz13 => ?_)
          exact hret f0 _ _ _ _ z13 dX12_wrongPlace_44 rfl ⟨rfl, by omega, by omega, by omega⟩ h
        · refine tw_iconst F dX12_wrongPlace_39 ki_3 (fun z14 hz14 => ?_)
          refine lv_goto (tgt := 44) F.1 F.2.1 dX12_wrongPlace_40 (by decide) ?_
          exact hret f0 _ _ _ _ z14 dX12_wrongPlace_44 rfl ⟨rfl, by omega, by omega, by omega⟩ h
    · refine tw_iconst F dX12_wrongPlace_21 ki_2 (fun z15 hz15 => ?_)
      refine lv_goto (tgt := 44) F.1 F.2.1 dX12_wrongPlace_22 (by decide) ?_
      exact hret f0 _ _ _ _ z15 dX12_wrongPlace_44 rfl ⟨rfl, by omega, by omega, by omega⟩ h
  · refine tw_iconst F dX12_wrongPlace_7 ki_1 (fun z16 hz16 => ?_)
    refine lv_goto (tgt := 44) F.1 F.2.1 dX12_wrongPlace_8 (by decide) ?_
    exact hret f0 _ _ _ _ z16 dX12_wrongPlace_44 rfl ⟨rfl, by omega, by omega, by omega⟩ h
theorem dX12_write_0 : decode cX12_write 0 = .ok (.aload_n 0, 1) := by decide +kernel
theorem dX12_write_1 : decode cX12_write 1 = .ok (.iload_n 1, 1) := by decide +kernel
theorem dX12_write_2 : decode cX12_write 2 = .ok (.iload_n 2, 1) := by decide +kernel
theorem dX12_write_3 : decode cX12_write 3 = .ok (.invokevirtual 134, 3) := by decide +kernel
theorem mw_319 : Cond.methodLink RX12 134 yX12_wrongPlace ∈ wsL_law := inr_14 _ (List.mem_of_getElem? (i := 7) rfl)
theorem mw_322 : Cond.code yX12_wrongPlace cX12_wrongPlace 3 (some .int) ∈ wsL_law := inr_14 _ (List.mem_of_getElem? (i := 10) rfl)
theorem yk_X12_wrongPlace : xY yX12_wrongPlace RX12 cX12_wrongPlace 3 (some .int) 2 := ⟨⟨rfl, by decide +kernel, by decide +kernel, by decide +kernel⟩, mw_5, mw_322⟩
theorem mw_320 : Cond.instanceMethod yX12_wrongPlace ∈ wsL_law := inr_14 _ (List.mem_of_getElem? (i := 8) rfl)
theorem mw_321 : Cond.selects RX12 yX12_wrongPlace yX12_wrongPlace ∈ wsL_law := inr_14 _ (List.mem_of_getElem? (i := 9) rfl)
theorem dX12_write_6 : decode cX12_write 6 = .ok (.istore 5, 2) := by decide +kernel
theorem dX12_write_8 : decode cX12_write 8 = .ok (.iload 5, 2) := by decide +kernel
theorem dX12_write_10 : decode cX12_write 10 = .ok (.ifCond .ne 24, 3) := by decide +kernel
theorem dX12_write_34 : decode cX12_write 34 = .ok (.aload_n 0, 1) := by decide +kernel
theorem dX12_write_35 : decode cX12_write 35 = .ok (.iload 5, 2) := by decide +kernel
theorem dX12_write_37 : decode cX12_write 37 = .ok (.invokevirtual 131, 3) := by decide +kernel
theorem dX12_write_40 : decode cX12_write 40 = .ok (.ireturn, 1) := by decide +kernel
theorem dX12_write_13 : decode cX12_write 13 = .ok (.aload_n 0, 1) := by decide +kernel
theorem dX12_write_14 : decode cX12_write 14 = .ok (.getfield 24, 3) := by decide +kernel
theorem dX12_write_17 : decode cX12_write 17 = .ok (.bipush 60, 2) := by decide +kernel
theorem dX12_write_19 : decode cX12_write 19 = .ok (.iload_n 1, 1) := by decide +kernel
theorem dX12_write_20 : decode cX12_write 20 = .ok (.imul, 1) := by decide +kernel
theorem dX12_write_21 : decode cX12_write 21 = .ok (.iload_n 2, 1) := by decide +kernel
theorem dX12_write_22 : decode cX12_write 22 = .ok (.iadd, 1) := by decide +kernel
theorem dX12_write_23 : decode cX12_write 23 = .ok (.lload_n 3, 1) := by decide +kernel
theorem dX12_write_24 : decode cX12_write 24 = .ok (.aload_n 0, 1) := by decide +kernel
theorem dX12_write_25 : decode cX12_write 25 = .ok (.getfield 17, 3) := by decide +kernel
theorem dX12_write_28 : decode cX12_write 28 = .ok (.iload_n 1, 1) := by decide +kernel
theorem dX12_write_29 : decode cX12_write 29 = .ok (.iaload, 1) := by decide +kernel
section
variable {p : Program} {l : Launch} {e : Env} {R0 : Room} {s : State} {m : MethodId} {args : Array Value} {below : List Frame} {meth : Method} {c : Code} {H H0 : Heap} {locs : List Loc} {cells slots : Nat} {Q : State → Prop} {cc : ByteArray} {nL : Nat} {D : va_G} {cy : Nat → ClassId} {A : Nat → Prop} {L : List Nat} {R : Nat → Nat} {f : Nat → va_E} {pc : Nat} {ls : Array Slot} {rest : List Value} {a : Nat}
theorem ld_62 {own : String} (F : CallFix p m c cc nL s args wsL_law own) (h : tS D cy A H0 L R (TT cy L R) f s H locs) {i : Int32} (ha : a ∈ L) (hr : R a = 62) (hb : 0 ≤ i.toInt ∧ i.toInt < 4) (hdg : decode cc pc = .ok (.iaload, 1)) (kk : ∀ x : Int32, W p l e R0 s m args below meth c H locs cells slots Q (F0 m (pc + 1) ls (.int x :: rest))) : W p l e R0 s m args below meth c H locs cells slots Q (F0 m pc ls (.int i :: .ref a :: rest)) := tu_iald F h ha hr (fun e q => (T_62 e).mp q) hb.1 hb.2 hdg (fun x h1 h2 => kk x)
end
theorem dX12_write_30 : decode cX12_write 30 = .ok (.invokestatic 138, 3) := by decide +kernel
theorem mw_323 : Cond.methodLink RX12 138 yX12_cut ∈ wsL_law := inr_14 _ (List.mem_of_getElem? (i := 11) rfl)
theorem mw_325 : Cond.code yX12_cut cX12_cut 3 (some .long) ∈ wsL_law := inr_14 _ (List.mem_of_getElem? (i := 13) rfl)
theorem yk_X12_cut : xY yX12_cut RX12 cX12_cut 3 (some .long) 2 := ⟨⟨rfl, by decide +kernel, by decide +kernel, by decide +kernel⟩, mw_5, mw_325⟩
theorem mw_324 : Cond.static yX12_cut ∈ wsL_law := inr_14 _ (List.mem_of_getElem? (i := 12) rfl)
theorem dX12_write_33 : decode cX12_write 33 = .ok (.lastore, 1) := by decide +kernel
def rm_X12_write : Room := { frames := 2, cells := 0, slots := 0, locals := 42 }
set_option maxHeartbeats 4000000 in
set_option maxRecDepth 100000 in
theorem s_X12_write (l : Launch) (D : va_G) (cy : Nat → ClassId) (L : List Nat) (R O : Nat → Nat) (f0 : Nat → va_E) (a0 : Nat) (m_a0 : a0 ∈ L) (r_a0 : R a0 = 12) (x1 : Int32) (x2 : Int32) (x3 : Int64) : ∀ sz, Met l yX12_write (Cond.code yX12_write cX12_write 6 (some .boolean) :: wsL_law) rm_X12_write (va_Pc [.ref a0, .int x1, .int x2, .long x3] (tPZ D cy L R (TT cy L R) f0 sz)) (va_Qi (fun (r : Int32) f1 => fr L R [(12, 1)] [12, 64] f0 f1 ∧ 0 ≤ r.toInt ∧ r.toInt ≤ 1) (tB D (tA L sz) L R (TT cy L R)) (tA L sz)) 0 0 (tA L sz) := by
  refine tw_enteri (by decide +kernel) rfl (Nat.le_of_ble_eq_true rfl) ?_
  intro p e s m below meth c A ls args Q F hZ h hl hret
  have hl : lv_has ls 6 [(0, .ref a0), (1, .int x1), (2, .int x2), (3, .long x3)] := hl
  have hk : fr L R [(12, 1)] [12, 64] f0 f0 := fr.rf
  refine lv_aload_n F.1 F.2.1 dX12_write_0 rfl (lv_at hl 0 rfl) ?_
  refine lv_iload_n F.1 F.2.1 dX12_write_1 rfl (lv_at hl 1 rfl) ?_
  refine lv_iload_n F.1 F.2.1 dX12_write_2 rfl (lv_at hl 2 rfl) ?_
  refine tw_Vi (As := [.int x1, .int x2]) F hZ h yk_X12_wrongPlace mw_319 mw_320 mw_321 (s_X12_wrongPlace l D cy L R O f0 a0 m_a0 r_a0 x1 x2) rfl rfl m_a0 r_a0 (fun e q => (T_12 e).mp q) rfl hl.1 rfl (Nat.le_of_ble_eq_true rfl) ⟨Nat.le_of_ble_eq_true rfl, Nat.le_of_ble_eq_true rfl⟩ ⟨Nat.le_of_ble_eq_true rfl, Nat.le_of_ble_eq_true rfl⟩ dX12_write_3 (fun v2 f1 H locs hp1 h => ?_)
  obtain ⟨rfl, hv2a, hv2b, hv2p0⟩ := hp1
  refine lv_istore (lv' := [(5, .int v2), (0, .ref a0), (1, .int x1), (2, .int x2), (3, .long x3)]) F.1 F.2.1 dX12_write_6 hl (by decide) rfl (fun ls hl => ?_)
  refine lv_iload F.1 F.2.1 dX12_write_8 (lv_at hl 0 rfl) ?_
  refine tw_if_ne (tgt := 34) F dX12_write_10 (by decide) (fun b3 => ?_) (fun b3 => ?_)
  · refine lv_aload_n F.1 F.2.1 dX12_write_34 rfl (lv_at hl 1 rfl) ?_
    refine lv_iload F.1 F.2.1 dX12_write_35 (lv_at hl 0 rfl) ?_
    refine tw_Vi (As := [.int v2]) F hZ h yk_X12_is mw_286 mw_287 mw_288 (s_X12_is l D cy L R O f0 a0 m_a0 r_a0 v2 ⟨by omega, by omega⟩) rfl rfl m_a0 r_a0 (fun e q => (T_12 e).mp q) rfl hl.1 rfl (Nat.le_of_ble_eq_true rfl) ⟨Nat.le_of_ble_eq_true rfl, Nat.le_of_ble_eq_true rfl⟩ ⟨Nat.le_of_ble_eq_true rfl, Nat.le_of_ble_eq_true rfl⟩ dX12_write_37 (fun v5 f4 H locs hp4 h => ?_)
    obtain ⟨hf4, hv5a, hv5b, hv5p0⟩ := hp4
    have hk : fr L R [(12, 1)] [12, 64] f0 f4 := hk.tr hf4 rfl rfl
    exact hret f4 _ _ _ _ v5 dX12_write_40 (tw_nb (by omega)) ⟨hk, by omega, by omega⟩ h
  · refine lv_aload_n F.1 F.2.1 dX12_write_13 rfl (lv_at hl 1 rfl) ?_
    refine g_12_24 F h m_a0 r_a0 dX12_write_14 (fun o6 m_o6 r_o6 ho6 => ?_)
    refine tw_bipush F dX12_write_17 kb_60 (fun z7 hz7 => ?_)
    refine lv_iload_n F.1 F.2.1 dX12_write_19 rfl (lv_at hl 2 rfl) ?_
    refine tu_imull F dX12_write_20 hz7 (by omega) (fun z8 hz8 => ?_)
    refine lv_iload_n F.1 F.2.1 dX12_write_21 rfl (lv_at hl 3 rfl) ?_
    refine tu_iadd F dX12_write_22 (by omega) (fun z9 hz9 => ?_)
    refine lv_lload_n F.1 F.2.1 dX12_write_23 rfl (lv_at hl 4 rfl) ?_
    refine lv_aload_n F.1 F.2.1 dX12_write_24 rfl (lv_at hl 1 rfl) ?_
    refine g_12_17 F h m_a0 r_a0 dX12_write_25 (fun o10 m_o10 r_o10 ho10 => ?_)
    refine lv_iload_n F.1 F.2.1 dX12_write_28 rfl (lv_at hl 2 rfl) ?_
    refine ld_62 F h m_o10 r_o10 (by omega) dX12_write_29 (fun v11 => ?_)
    refine tw_Sl (As := [.long x3, .int v11]) F hZ h yk_X12_cut mw_323 mw_324 (s_X12_cut l D cy L R O f0 x3 v11) rfl rfl hl.1 rfl (Nat.le_of_ble_eq_true rfl) ⟨Nat.le_of_ble_eq_true rfl, Nat.le_of_ble_eq_true rfl⟩ ⟨Nat.le_of_ble_eq_true rfl, Nat.le_of_ble_eq_true rfl⟩ dX12_write_30 (fun v13 f12 H locs hp12 h => ?_)
    obtain rfl := hp12
    refine st_64 F h m_o6 r_o6 (by omega) dX12_write_33 (fun f14 H locs hf14 h => ?_)
    have hk : fr L R [(12, 1)] [12, 64] f0 f14 := hk.tr hf14 rfl rfl
    refine lv_aload_n F.1 F.2.1 dX12_write_34 rfl (lv_at hl 1 rfl) ?_
    refine lv_iload F.1 F.2.1 dX12_write_35 (lv_at hl 0 rfl) ?_
    refine tw_Vi (As := [.int v2]) F hZ h yk_X12_is mw_286 mw_287 mw_288 (s_X12_is l D cy L R O f14 a0 m_a0 r_a0 v2 ⟨by omega, by omega⟩) rfl rfl m_a0 r_a0 (fun e q => (T_12 e).mp q) rfl hl.1 rfl (Nat.le_of_ble_eq_true rfl) ⟨Nat.le_of_ble_eq_true rfl, Nat.le_of_ble_eq_true rfl⟩ ⟨Nat.le_of_ble_eq_true rfl, Nat.le_of_ble_eq_true rfl⟩ dX12_write_37 (fun v16 f15 H locs hp15 h => ?_)
    obtain ⟨hf15, hv16a, hv16b, hv16p0⟩ := hp15
    have hk : fr L R [(12, 1)] [12, 64] f0 f15 := hk.tr hf15 rfl rfl
    exact hret f15 _ _ _ _ v16 dX12_write_40 (tw_nb (by omega)) ⟨hk, by omega, by omega⟩ h
theorem dX12_read_0 : decode cX12_read 0 = .ok (.aload_n 0, 1) := by decide +kernel
theorem dX12_read_1 : decode cX12_read 1 = .ok (.aload_n 0, 1) := by decide +kernel
theorem dX12_read_2 : decode cX12_read 2 = .ok (.iload_n 1, 1) := by decide +kernel
theorem dX12_read_3 : decode cX12_read 3 = .ok (.iload_n 2, 1) := by decide +kernel
theorem dX12_read_4 : decode cX12_read 4 = .ok (.invokevirtual 134, 3) := by decide +kernel
theorem dX12_read_7 : decode cX12_read 7 = .ok (.putfield 121, 3) := by decide +kernel
theorem dX12_read_10 : decode cX12_read 10 = .ok (.aload_n 0, 1) := by decide +kernel
theorem dX12_read_11 : decode cX12_read 11 = .ok (.getfield 121, 3) := by decide +kernel
theorem dX12_read_14 : decode cX12_read 14 = .ok (.ifCond .le 9, 3) := by decide +kernel
theorem dX12_read_23 : decode cX12_read 23 = .ok (.aload_n 0, 1) := by decide +kernel
theorem dX12_read_24 : decode cX12_read 24 = .ok (.getfield 24, 3) := by decide +kernel
theorem dX12_read_27 : decode cX12_read 27 = .ok (.bipush 60, 2) := by decide +kernel
theorem dX12_read_29 : decode cX12_read 29 = .ok (.iload_n 1, 1) := by decide +kernel
theorem dX12_read_30 : decode cX12_read 30 = .ok (.imul, 1) := by decide +kernel
theorem dX12_read_31 : decode cX12_read 31 = .ok (.iload_n 2, 1) := by decide +kernel
theorem dX12_read_32 : decode cX12_read 32 = .ok (.iadd, 1) := by decide +kernel
theorem dX12_read_33 : decode cX12_read 33 = .ok (.laload, 1) := by decide +kernel
section
variable {p : Program} {l : Launch} {e : Env} {R0 : Room} {s : State} {m : MethodId} {args : Array Value} {below : List Frame} {meth : Method} {c : Code} {H H0 : Heap} {locs : List Loc} {cells slots : Nat} {Q : State → Prop} {cc : ByteArray} {nL : Nat} {D : va_G} {cy : Nat → ClassId} {A : Nat → Prop} {L : List Nat} {R : Nat → Nat} {f : Nat → va_E} {pc : Nat} {ls : Array Slot} {rest : List Value} {a : Nat}
theorem ld_64 {own : String} (F : CallFix p m c cc nL s args wsL_law own) (h : tS D cy A H0 L R (TT cy L R) f s H locs) {i : Int32} (ha : a ∈ L) (hr : R a = 64) (hb : 0 ≤ i.toInt ∧ i.toInt < 240) (hdg : decode cc pc = .ok (.laload, 1)) (kk : ∀ x : Int64, W p l e R0 s m args below meth c H locs cells slots Q (F0 m (pc + 1) ls (.long x :: rest))) : W p l e R0 s m args below meth c H locs cells slots Q (F0 m pc ls (.int i :: .ref a :: rest)) := tu_lald F h ha hr (fun e q => (T_64 e).mp q) hb.1 hb.2 hdg (fun x h1 h2 => kk x)
end
theorem dX12_read_34 : decode cX12_read 34 = .ok (.lreturn, 1) := by decide +kernel
theorem dX12_read_17 : decode cX12_read 17 = .ok (.ldc2_w 142, 3) := by decide +kernel
theorem mw_340 : Cond.constantLong RX12 142 (-1) ∈ wsL_law := inr_15 _ (List.mem_of_getElem? (i := 4) rfl)
theorem dX12_read_20 : decode cX12_read 20 = .ok (.goto 14, 3) := by decide +kernel
def rm_X12_read : Room := { frames := 2, cells := 0, slots := 0, locals := 42 }
set_option maxHeartbeats 4000000 in
set_option maxRecDepth 100000 in
theorem s_X12_read (l : Launch) (D : va_G) (cy : Nat → ClassId) (L : List Nat) (R O : Nat → Nat) (f0 : Nat → va_E) (a0 : Nat) (m_a0 : a0 ∈ L) (r_a0 : R a0 = 12) (x1 : Int32) (x2 : Int32) : ∀ sz, Met l yX12_read (Cond.code yX12_read cX12_read 3 (some .long) :: wsL_law) rm_X12_read (va_Pc [.ref a0, .int x1, .int x2] (tPZ D cy L R (TT cy L R) f0 sz)) (va_Ql (fun (r : Int64) f1 => fr L R [(12, 1)] [12] f0 f1) (tB D (tA L sz) L R (TT cy L R)) (tA L sz)) 0 0 (tA L sz) := by
  refine tw_enterl (by decide +kernel) rfl (Nat.le_of_ble_eq_true rfl) ?_
  intro p e s m below meth c A ls args Q F hZ h hl hret
  have hl : lv_has ls 3 [(0, .ref a0), (1, .int x1), (2, .int x2)] := hl
  have hk : fr L R [(12, 1)] [12] f0 f0 := fr.rf
  refine lv_aload_n F.1 F.2.1 dX12_read_0 rfl (lv_at hl 0 rfl) ?_
  refine lv_aload_n F.1 F.2.1 dX12_read_1 rfl (lv_at hl 0 rfl) ?_
  refine lv_iload_n F.1 F.2.1 dX12_read_2 rfl (lv_at hl 1 rfl) ?_
  refine lv_iload_n F.1 F.2.1 dX12_read_3 rfl (lv_at hl 2 rfl) ?_
  refine tw_Vi (As := [.int x1, .int x2]) F hZ h yk_X12_wrongPlace mw_319 mw_320 mw_321 (s_X12_wrongPlace l D cy L R O f0 a0 m_a0 r_a0 x1 x2) rfl rfl m_a0 r_a0 (fun e q => (T_12 e).mp q) rfl hl.1 rfl (Nat.le_of_ble_eq_true rfl) ⟨Nat.le_of_ble_eq_true rfl, Nat.le_of_ble_eq_true rfl⟩ ⟨Nat.le_of_ble_eq_true rfl, Nat.le_of_ble_eq_true rfl⟩ dX12_read_4 (fun v2 f1 H locs hp1 h => ?_)
  obtain ⟨rfl, hv2a, hv2b, hv2p0⟩ := hp1
  refine p_12_121 F h m_a0 r_a0 dX12_read_7 (fun f3 H locs e3p hf3 h => ?_)
  have hk : fr L R [(12, 1)] [12] f0 f3 := hk.tr hf3 rfl rfl
  refine lv_aload_n F.1 F.2.1 dX12_read_10 rfl (lv_at hl 0 rfl) ?_
  refine g_12_121 F h m_a0 r_a0 dX12_read_11 (fun v4 hv4 => ?_)
  refine tw_if_le (tgt := 23) F dX12_read_14 (by decide) (fun b5 => ?_) (fun b5 => ?_)
  · refine lv_aload_n F.1 F.2.1 dX12_read_23 rfl (lv_at hl 0 rfl) ?_
    refine g_12_24 F h m_a0 r_a0 dX12_read_24 (fun o6 m_o6 r_o6 ho6 => ?_)
    refine tw_bipush F dX12_read_27 kb_60 (fun z7 hz7 => ?_)
    refine lv_iload_n F.1 F.2.1 dX12_read_29 rfl (lv_at hl 1 rfl) ?_
    refine tu_imull F dX12_read_30 hz7 (by omega) (fun z8 hz8 => ?_)
    refine lv_iload_n F.1 F.2.1 dX12_read_31 rfl (lv_at hl 2 rfl) ?_
    refine tu_iadd F dX12_read_32 (by omega) (fun z9 hz9 => ?_)
    refine ld_64 F h m_o6 r_o6 (by omega) dX12_read_33 (fun v10 => ?_)
    exact hret f3 _ _ _ _ v10 dX12_read_34 hk h
  · refine tu_ldc2 F mw_340 dX12_read_17 kl_m1 (fun z11 hz11 => ?_)
    refine lv_goto (tgt := 34) F.1 F.2.1 dX12_read_20 (by decide) ?_
    exact hret f3 _ _ _ _ z11 dX12_read_34 hk h
theorem dX12_isSmall_0 : decode cX12_isSmall 0 = .ok (.iload_n 0, 1) := by decide +kernel
theorem dX12_isSmall_1 : decode cX12_isSmall 1 = .ok (.bipush 97, 2) := by decide +kernel
theorem dX12_isSmall_3 : decode cX12_isSmall 3 = .ok (.if_icmp .lt 13, 3) := by decide +kernel
theorem dX12_isSmall_16 : decode cX12_isSmall 16 = .ok (.iconst 0, 1) := by decide +kernel
theorem dX12_isSmall_17 : decode cX12_isSmall 17 = .ok (.ireturn, 1) := by decide +kernel
theorem dX12_isSmall_6 : decode cX12_isSmall 6 = .ok (.iload_n 0, 1) := by decide +kernel
theorem dX12_isSmall_7 : decode cX12_isSmall 7 = .ok (.bipush 122, 2) := by decide +kernel
theorem dX12_isSmall_9 : decode cX12_isSmall 9 = .ok (.if_icmp .gt 7, 3) := by decide +kernel
theorem dX12_isSmall_12 : decode cX12_isSmall 12 = .ok (.iconst 1, 1) := by decide +kernel
theorem dX12_isSmall_13 : decode cX12_isSmall 13 = .ok (.goto 4, 3) := by decide +kernel
def rm_X12_isSmall : Room := { frames := 0, cells := 0, slots := 0, locals := 0 }
set_option maxHeartbeats 4000000 in
set_option maxRecDepth 100000 in
theorem s_X12_isSmall (l : Launch) (D : va_G) (cy : Nat → ClassId) (L : List Nat) (R O : Nat → Nat) (f0 : Nat → va_E) (x0 : Int32) (b0 : (-1) ≤ x0.toInt ∧ x0.toInt ≤ 255) : ∀ sz, Met l yX12_isSmall (Cond.code yX12_isSmall cX12_isSmall 1 (some .boolean) :: wsL_law) rm_X12_isSmall (va_Pc [.int x0] (tPZ D cy L R (TT cy L R) f0 sz)) (va_Qi (fun (r : Int32) f1 => f0 = f1 ∧ 0 ≤ r.toInt ∧ r.toInt ≤ 1 ∧ ((r.toInt = 1 ∧ 97 ≤ x0.toInt ∧ x0.toInt ≤ 122) ∨ (r.toInt = 0 ∧ (x0.toInt < 97 ∨ 122 < x0.toInt)))) (tB D (tA L sz) L R (TT cy L R)) (tA L sz)) 0 0 (tA L sz) := by
  refine tw_enteri (by decide +kernel) rfl (Nat.le_of_ble_eq_true rfl) ?_
  intro p e s m below meth c A ls args Q F hZ h hl hret
  have hl : lv_has ls 1 [(0, .int x0)] := hl
  refine lv_iload_n F.1 F.2.1 dX12_isSmall_0 rfl (lv_at hl 0 rfl) ?_
  refine tw_bipush F dX12_isSmall_1 kb_97 (fun z1 hz1 => ?_)
  refine tw_icmp_lt (tgt := 16) F dX12_isSmall_3 (by decide) (fun b2 => ?_) (fun b2 => ?_)
  · refine tw_iconst F dX12_isSmall_16 ki_0 (fun z3 hz3 => ?_)
    exact hret f0 _ _ _ _ z3 dX12_isSmall_17 (tw_nb (by omega)) ⟨rfl, by omega, by omega, by omega⟩ h
  · refine lv_iload_n F.1 F.2.1 dX12_isSmall_6 rfl (lv_at hl 0 rfl) ?_
    refine tw_bipush F dX12_isSmall_7 kb_122 (fun z4 hz4 => ?_)
    refine tw_icmp_gt (tgt := 16) F dX12_isSmall_9 (by decide) (fun b5 => ?_) (fun b5 => ?_)
    · refine tw_iconst F dX12_isSmall_16 ki_0 (fun z6 hz6 => ?_)
      exact hret f0 _ _ _ _ z6 dX12_isSmall_17 (tw_nb (by omega)) ⟨rfl, by omega, by omega, by omega⟩ h
    · refine tw_iconst F dX12_isSmall_12 ki_1 (fun z7 hz7 => ?_)
      refine lv_goto (tgt := 17) F.1 F.2.1 dX12_isSmall_13 (by decide) ?_
      exact hret f0 _ _ _ _ z7 dX12_isSmall_17 (tw_nb (by omega)) ⟨rfl, by omega, by omega, by omega⟩ h
theorem dX12_isDigit_0 : decode cX12_isDigit 0 = .ok (.iload_n 0, 1) := by decide +kernel
theorem dX12_isDigit_1 : decode cX12_isDigit 1 = .ok (.bipush 48, 2) := by decide +kernel
theorem dX12_isDigit_3 : decode cX12_isDigit 3 = .ok (.if_icmp .lt 13, 3) := by decide +kernel
theorem dX12_isDigit_16 : decode cX12_isDigit 16 = .ok (.iconst 0, 1) := by decide +kernel
theorem dX12_isDigit_17 : decode cX12_isDigit 17 = .ok (.ireturn, 1) := by decide +kernel
theorem dX12_isDigit_6 : decode cX12_isDigit 6 = .ok (.iload_n 0, 1) := by decide +kernel
theorem dX12_isDigit_7 : decode cX12_isDigit 7 = .ok (.bipush 57, 2) := by decide +kernel
theorem dX12_isDigit_9 : decode cX12_isDigit 9 = .ok (.if_icmp .gt 7, 3) := by decide +kernel
theorem dX12_isDigit_12 : decode cX12_isDigit 12 = .ok (.iconst 1, 1) := by decide +kernel
theorem dX12_isDigit_13 : decode cX12_isDigit 13 = .ok (.goto 4, 3) := by decide +kernel
def rm_X12_isDigit : Room := { frames := 0, cells := 0, slots := 0, locals := 0 }
set_option maxHeartbeats 4000000 in
set_option maxRecDepth 100000 in
theorem s_X12_isDigit (l : Launch) (D : va_G) (cy : Nat → ClassId) (L : List Nat) (R O : Nat → Nat) (f0 : Nat → va_E) (x0 : Int32) (b0 : (-1) ≤ x0.toInt ∧ x0.toInt ≤ 255) : ∀ sz, Met l yX12_isDigit (Cond.code yX12_isDigit cX12_isDigit 1 (some .boolean) :: wsL_law) rm_X12_isDigit (va_Pc [.int x0] (tPZ D cy L R (TT cy L R) f0 sz)) (va_Qi (fun (r : Int32) f1 => f0 = f1 ∧ 0 ≤ r.toInt ∧ r.toInt ≤ 1 ∧ ((r.toInt = 1 ∧ 48 ≤ x0.toInt ∧ x0.toInt ≤ 57) ∨ (r.toInt = 0 ∧ (x0.toInt < 48 ∨ 57 < x0.toInt)))) (tB D (tA L sz) L R (TT cy L R)) (tA L sz)) 0 0 (tA L sz) := by
  refine tw_enteri (by decide +kernel) rfl (Nat.le_of_ble_eq_true rfl) ?_
  intro p e s m below meth c A ls args Q F hZ h hl hret
  have hl : lv_has ls 1 [(0, .int x0)] := hl
  refine lv_iload_n F.1 F.2.1 dX12_isDigit_0 rfl (lv_at hl 0 rfl) ?_
  refine tw_bipush F dX12_isDigit_1 kb_48 (fun z1 hz1 => ?_)
  refine tw_icmp_lt (tgt := 16) F dX12_isDigit_3 (by decide) (fun b2 => ?_) (fun b2 => ?_)
  · refine tw_iconst F dX12_isDigit_16 ki_0 (fun z3 hz3 => ?_)
    exact hret f0 _ _ _ _ z3 dX12_isDigit_17 (tw_nb (by omega)) ⟨rfl, by omega, by omega, by omega⟩ h
  · refine lv_iload_n F.1 F.2.1 dX12_isDigit_6 rfl (lv_at hl 0 rfl) ?_
    refine tw_bipush F dX12_isDigit_7 kb_57 (fun z4 hz4 => ?_)
    refine tw_icmp_gt (tgt := 16) F dX12_isDigit_9 (by decide) (fun b5 => ?_) (fun b5 => ?_)
    · refine tw_iconst F dX12_isDigit_16 ki_0 (fun z6 hz6 => ?_)
      exact hret f0 _ _ _ _ z6 dX12_isDigit_17 (tw_nb (by omega)) ⟨rfl, by omega, by omega, by omega⟩ h
    · refine tw_iconst F dX12_isDigit_12 ki_1 (fun z7 hz7 => ?_)
      refine lv_goto (tgt := 17) F.1 F.2.1 dX12_isDigit_13 (by decide) ?_
      exact hret f0 _ _ _ _ z7 dX12_isDigit_17 (tw_nb (by omega)) ⟨rfl, by omega, by omega, by omega⟩ h
theorem dX12_byteAt_0 : decode cX12_byteAt 0 = .ok (.iload_n 1, 1) := by decide +kernel
theorem dX12_byteAt_1 : decode cX12_byteAt 1 = .ok (.aload_n 0, 1) := by decide +kernel
theorem dX12_byteAt_2 : decode cX12_byteAt 2 = .ok (.getfield 151, 3) := by decide +kernel
theorem mw_460 : Cond.fieldLink RX12 151 "AskBackModel" "size" "I" ∈ wsL_law := inr_20 _ (List.mem_of_getElem? (i := 4) rfl)
section
variable {p : Program} {l : Launch} {e : Env} {R0 : Room} {s : State} {m : MethodId} {args : Array Value} {below : List Frame} {meth : Method} {c : Code} {H H0 : Heap} {locs : List Loc} {cells slots : Nat} {Q : State → Prop} {cc : ByteArray} {nL : Nat} {D : va_G} {cy : Nat → ClassId} {A : Nat → Prop} {L : List Nat} {R : Nat → Nat} {f : Nat → va_E} {pc : Nat} {ls : Array Slot} {rest : List Value} {a : Nat}
theorem g_12_151 (F : CallFix p m c cc nL s args wsL_law RX12) (h : tS D cy A H0 L R (TT cy L R) f s H locs) (ha : a ∈ L) (hr : R a = 12) (hdg : decode cc pc = .ok (.getfield 151, 3)) (kk : ∀ x : Int32, x.toInt = fi f a 10 → 0 ≤ x.toInt → x.toInt ≤ 600 → W p l e R0 s m args below meth c H locs cells slots Q (F0 m (pc + 3) ls (.int x :: rest))) : W p l e R0 s m args below meth c H locs cells slots Q (F0 m pc ls (.ref a :: rest)) := tu_geti F h ha hr (fun e q => (T_12 e).mp q) rfl inlX12 rfl (Nat.le_of_ble_eq_true rfl) mw_460 hdg (fun x h1 h2 h3 => kk x h1 h2 h3)
end
theorem dX12_byteAt_5 : decode cX12_byteAt 5 = .ok (.if_icmp .ge 16, 3) := by decide +kernel
theorem dX12_byteAt_21 : decode cX12_byteAt 21 = .ok (.iconst (-1), 1) := by decide +kernel
theorem dX12_byteAt_22 : decode cX12_byteAt 22 = .ok (.ireturn, 1) := by decide +kernel
theorem dX12_byteAt_8 : decode cX12_byteAt 8 = .ok (.aload_n 0, 1) := by decide +kernel
theorem dX12_byteAt_9 : decode cX12_byteAt 9 = .ok (.getfield 31, 3) := by decide +kernel
theorem mw_208 : Cond.fieldLink RX12 31 "AskBackModel" "text" "[B" ∈ wsL_law := inr_9 _ (List.mem_of_getElem? (i := 16) rfl)
section
variable {p : Program} {l : Launch} {e : Env} {R0 : Room} {s : State} {m : MethodId} {args : Array Value} {below : List Frame} {meth : Method} {c : Code} {H H0 : Heap} {locs : List Loc} {cells slots : Nat} {Q : State → Prop} {cc : ByteArray} {nL : Nat} {D : va_G} {cy : Nat → ClassId} {A : Nat → Prop} {L : List Nat} {R : Nat → Nat} {f : Nat → va_E} {pc : Nat} {ls : Array Slot} {rest : List Value} {a : Nat}
theorem g_12_31 (F : CallFix p m c cc nL s args wsL_law RX12) (h : tS D cy A H0 L R (TT cy L R) f s H locs) (ha : a ∈ L) (hr : R a = 12) (hdg : decode cc pc = .ok (.getfield 31, 3)) (kk : ∀ b : Nat, b ∈ L → R b = 66 → fld f a 8 = .ref b → W p l e R0 s m args below meth c H locs cells slots Q (F0 m (pc + 3) ls (.ref b :: rest))) : W p l e R0 s m args below meth c H locs cells slots Q (F0 m pc ls (.ref a :: rest)) := tu_getr F h ha hr (fun e q => (T_12 e).mp q) rfl inlX12 rfl (Nat.le_of_ble_eq_true rfl) mw_208 hdg kk
end
theorem dX12_byteAt_12 : decode cX12_byteAt 12 = .ok (.iload_n 1, 1) := by decide +kernel
theorem dX12_byteAt_13 : decode cX12_byteAt 13 = .ok (.baload, 1) := by decide +kernel
section
variable {p : Program} {l : Launch} {e : Env} {R0 : Room} {s : State} {m : MethodId} {args : Array Value} {below : List Frame} {meth : Method} {c : Code} {H H0 : Heap} {locs : List Loc} {cells slots : Nat} {Q : State → Prop} {cc : ByteArray} {nL : Nat} {D : va_G} {cy : Nat → ClassId} {A : Nat → Prop} {L : List Nat} {R : Nat → Nat} {f : Nat → va_E} {pc : Nat} {ls : Array Slot} {rest : List Value} {a : Nat}
theorem le_66 {own : String} (F : CallFix p m c cc nL s args wsL_law own) (h : tS D cy A H0 L R (TT cy L R) f s H locs) {i : Int32} (ha : a ∈ L) (hr : R a = 66) (hb : 0 ≤ i.toInt ∧ i.toInt < 600) (hdg : decode cc pc = .ok (.baload, 1)) (kk : ∀ x : Int32, x.toInt = eli f a i.toInt.toNat → W p l e R0 s m args below meth c H locs cells slots Q (F0 m (pc + 1) ls (.int x :: rest))) : W p l e R0 s m args below meth c H locs cells slots Q (F0 m pc ls (.int i :: .ref a :: rest)) := tu_bald F h ha hr (fun e q => (T_66 e).mp q) hb.1 hb.2 hdg (fun x h1 h2 => kk x h2)
end
theorem dX12_byteAt_14 : decode cX12_byteAt 14 = .ok (.sipush 255, 3) := by decide +kernel
theorem ks_255 : (Int16.ofInt 255).toInt32.toInt = 255 := by decide
theorem dX12_byteAt_17 : decode cX12_byteAt 17 = .ok (.iand, 1) := by decide +kernel
theorem dX12_byteAt_18 : decode cX12_byteAt 18 = .ok (.goto 4, 3) := by decide +kernel
def rm_X12_byteAt : Room := { frames := 0, cells := 0, slots := 0, locals := 0 }
set_option maxHeartbeats 4000000 in
set_option maxRecDepth 100000 in
theorem s_X12_byteAt (l : Launch) (D : va_G) (cy : Nat → ClassId) (L : List Nat) (R O : Nat → Nat) (f0 : Nat → va_E) (a0 : Nat) (m_a0 : a0 ∈ L) (r_a0 : R a0 = 12) (x1 : Int32) (b1 : 0 ≤ x1.toInt ∧ x1.toInt ≤ 2147483646) : ∀ sz, Met l yX12_byteAt (Cond.code yX12_byteAt cX12_byteAt 2 (some .int) :: wsL_law) rm_X12_byteAt (va_Pc [.ref a0, .int x1] (tPZ D cy L R (TT cy L R) f0 sz)) (va_Qi (fun (r : Int32) f1 => f0 = f1 ∧ (-1) ≤ r.toInt ∧ r.toInt ≤ 255 ∧ (0 ≤ r.toInt → x1.toInt < fi f0 a0 10) ∧ -1 ≤ r.toInt ∧ r.toInt ≤ 255 ∧ r.toInt = BY f0 a0 x1.toInt) (tB D (tA L sz) L R (TT cy L R)) (tA L sz)) 0 0 (tA L sz) := by
  refine tw_enteri (by decide +kernel) rfl (Nat.le_of_ble_eq_true rfl) ?_
  intro p e s m below meth c A ls args Q F hZ h hl hret
  have hl : lv_has ls 2 [(0, .ref a0), (1, .int x1)] := hl
  refine lv_iload_n F.1 F.2.1 dX12_byteAt_0 rfl (lv_at hl 1 rfl) ?_
  refine lv_aload_n F.1 F.2.1 dX12_byteAt_1 rfl (lv_at hl 0 rfl) ?_
  refine g_12_151 F h m_a0 r_a0 dX12_byteAt_2 (fun v1 hv1 hv1a hv1b => ?_)
  refine tw_icmp_ge (tgt := 21) F dX12_byteAt_5 (by decide) (fun b2 => ?_) (fun b2 => ?_)
  · refine tw_iconst F dX12_byteAt_21 ki_m1 (fun z3 hz3 => ?_)
    exact hret f0 _ _ _ _ z3 dX12_byteAt_22 rfl ⟨rfl, by omega, by omega, by omega, by omega, by omega, by rw [BY_no (by omega)]; omega⟩ h
  · refine lv_aload_n F.1 F.2.1 dX12_byteAt_8 rfl (lv_at hl 0 rfl) ?_
    refine g_12_31 F h m_a0 r_a0 dX12_byteAt_9 (fun o4 m_o4 r_o4 ho4 => ?_)
    refine lv_iload_n F.1 F.2.1 dX12_byteAt_12 rfl (lv_at hl 1 rfl) ?_
    refine le_66 F h m_o4 r_o4 (by omega) dX12_byteAt_13 (fun v5 ev5 => ?_)
    refine tw_sipush F dX12_byteAt_14 ks_255 (fun z6 hz6 => ?_)
    refine lv_iand F.1 F.2.1 dX12_byteAt_17 ?_
    refine lv_topi (fun z7 qz7 => ?_)
    have hzb := tw_and (x := v5) (y := z6) (by omega)
    rw [← qz7] at hzb
    refine lv_goto (tgt := 22) F.1 F.2.1 dX12_byteAt_18 (by decide) ?_
    exact hret f0 _ _ _ _ z7 dX12_byteAt_22 rfl ⟨rfl, by omega, by omega, by omega, by omega, by omega, BY_of (by omega) (by rw [rfa_of ho4]; exact ev5) hz6 qz7⟩ h
theorem dX12_lineAt_0 : decode cX12_lineAt 0 = .ok (.sipush 4951, 3) := by decide +kernel
theorem ks_4951 : (Int16.ofInt 4951).toInt32.toInt = 4951 := by decide
theorem dX12_lineAt_3 : decode cX12_lineAt 3 = .ok (.bipush 13, 2) := by decide +kernel
theorem kb_13 : (Int8.ofInt 13).toInt32.toInt = 13 := by decide
theorem dX12_lineAt_5 : decode cX12_lineAt 5 = .ok (.iload_n 1, 1) := by decide +kernel
theorem dX12_lineAt_6 : decode cX12_lineAt 6 = .ok (.imul, 1) := by decide +kernel
theorem dX12_lineAt_7 : decode cX12_lineAt 7 = .ok (.iadd, 1) := by decide +kernel
theorem dX12_lineAt_8 : decode cX12_lineAt 8 = .ok (.ireturn, 1) := by decide +kernel
def rm_X12_lineAt : Room := { frames := 0, cells := 0, slots := 0, locals := 0 }
set_option maxHeartbeats 4000000 in
set_option maxRecDepth 100000 in
theorem s_X12_lineAt (l : Launch) (D : va_G) (cy : Nat → ClassId) (L : List Nat) (R O : Nat → Nat) (f0 : Nat → va_E) (a0 : Nat) (m_a0 : a0 ∈ L) (r_a0 : R a0 = 12) (x1 : Int32) (b1 : 0 ≤ x1.toInt ∧ x1.toInt ≤ 15) : ∀ sz, Met l yX12_lineAt (Cond.code yX12_lineAt cX12_lineAt 2 (some .int) :: wsL_law) rm_X12_lineAt (va_Pc [.ref a0, .int x1] (tPZ D cy L R (TT cy L R) f0 sz)) (va_Qi (fun (r : Int32) f1 => f0 = f1 ∧ 4951 ≤ r.toInt ∧ r.toInt ≤ 5146 ∧ r.toInt = 4951 + 13 * x1.toInt) (tB D (tA L sz) L R (TT cy L R)) (tA L sz)) 0 0 (tA L sz) := by
  refine tw_enteri (by decide +kernel) rfl (Nat.le_of_ble_eq_true rfl) ?_
  intro p e s m below meth c A ls args Q F hZ h hl hret
  have hl : lv_has ls 2 [(0, .ref a0), (1, .int x1)] := hl
  refine tw_sipush F dX12_lineAt_0 ks_4951 (fun z1 hz1 => ?_)
  refine tw_bipush F dX12_lineAt_3 kb_13 (fun z2 hz2 => ?_)
  refine lv_iload_n F.1 F.2.1 dX12_lineAt_5 rfl (lv_at hl 1 rfl) ?_
  refine tu_imull F dX12_lineAt_6 hz2 (by omega) (fun z3 hz3 => ?_)
  refine tu_iadd F dX12_lineAt_7 (by omega) (fun z4 hz4 => ?_)
  exact hret f0 _ _ _ _ z4 dX12_lineAt_8 rfl ⟨rfl, by omega, by omega, by omega⟩ h
theorem dX12_isScript_0 : decode cX12_isScript 0 = .ok (.iload_n 1, 1) := by decide +kernel
theorem dX12_isScript_1 : decode cX12_isScript 1 = .ok (.ifCond .lt 12, 3) := by decide +kernel
theorem dX12_isScript_13 : decode cX12_isScript 13 = .ok (.iconst 0, 1) := by decide +kernel
theorem dX12_isScript_14 : decode cX12_isScript 14 = .ok (.ireturn, 1) := by decide +kernel
theorem dX12_isScript_4 : decode cX12_isScript 4 = .ok (.iload_n 1, 1) := by decide +kernel
theorem dX12_isScript_5 : decode cX12_isScript 5 = .ok (.iconst 3, 1) := by decide +kernel
theorem dX12_isScript_6 : decode cX12_isScript 6 = .ok (.if_icmp .ge 7, 3) := by decide +kernel
theorem dX12_isScript_9 : decode cX12_isScript 9 = .ok (.iconst 1, 1) := by decide +kernel
theorem dX12_isScript_10 : decode cX12_isScript 10 = .ok (.goto 4, 3) := by decide +kernel
def rm_X12_isScript : Room := { frames := 0, cells := 0, slots := 0, locals := 0 }
set_option maxHeartbeats 4000000 in
set_option maxRecDepth 100000 in
theorem s_X12_isScript (l : Launch) (D : va_G) (cy : Nat → ClassId) (L : List Nat) (R O : Nat → Nat) (f0 : Nat → va_E) (a0 : Nat) (m_a0 : a0 ∈ L) (r_a0 : R a0 = 12) (x1 : Int32) : ∀ sz, Met l yX12_isScript (Cond.code yX12_isScript cX12_isScript 2 (some .boolean) :: wsL_law) rm_X12_isScript (va_Pc [.ref a0, .int x1] (tPZ D cy L R (TT cy L R) f0 sz)) (va_Qi (fun (r : Int32) f1 => f0 = f1 ∧ 0 ≤ r.toInt ∧ r.toInt ≤ 1 ∧ ((r.toInt = 1 ∧ 0 ≤ x1.toInt ∧ x1.toInt ≤ 2) ∨ (r.toInt = 0 ∧ (x1.toInt < 0 ∨ 2 < x1.toInt)))) (tB D (tA L sz) L R (TT cy L R)) (tA L sz)) 0 0 (tA L sz) := by
  refine tw_enteri (by decide +kernel) rfl (Nat.le_of_ble_eq_true rfl) ?_
  intro p e s m below meth c A ls args Q F hZ h hl hret
  have hl : lv_has ls 2 [(0, .ref a0), (1, .int x1)] := hl
  refine lv_iload_n F.1 F.2.1 dX12_isScript_0 rfl (lv_at hl 1 rfl) ?_
  refine tw_if_lt (tgt := 13) F dX12_isScript_1 (by decide) (fun b1 => ?_) (fun b1 => ?_)
  · refine tw_iconst F dX12_isScript_13 ki_0 (fun z2 hz2 => ?_)
    exact hret f0 _ _ _ _ z2 dX12_isScript_14 (tw_nb (by omega)) ⟨rfl, by omega, by omega, by omega⟩ h
  · refine lv_iload_n F.1 F.2.1 dX12_isScript_4 rfl (lv_at hl 1 rfl) ?_
    refine tw_iconst F dX12_isScript_5 ki_3 (fun z3 hz3 => ?_)
    refine tw_icmp_ge (tgt := 13) F dX12_isScript_6 (by decide) (fun b4 => ?_) (fun b4 => ?_)
    · refine tw_iconst F dX12_isScript_13 ki_0 (fun z5 hz5 => ?_)
      exact hret f0 _ _ _ _ z5 dX12_isScript_14 (tw_nb (by omega)) ⟨rfl, by omega, by omega, by omega⟩ h
    · refine tw_iconst F dX12_isScript_9 ki_1 (fun z6 hz6 => ?_)
      refine lv_goto (tgt := 14) F.1 F.2.1 dX12_isScript_10 (by decide) ?_
      exact hret f0 _ _ _ _ z6 dX12_isScript_14 (tw_nb (by omega)) ⟨rfl, by omega, by omega, by omega⟩ h
theorem dX12_fault_0 : decode cX12_fault 0 = .ok (.iload_n 1, 1) := by decide +kernel
theorem dX12_fault_1 : decode cX12_fault 1 = .ok (.ifCond .ne 10, 3) := by decide +kernel
theorem dX12_fault_11 : decode cX12_fault 11 = .ok (.iload_n 1, 1) := by decide +kernel
theorem dX12_fault_12 : decode cX12_fault 12 = .ok (.iconst 1, 1) := by decide +kernel
theorem dX12_fault_13 : decode cX12_fault 13 = .ok (.if_icmp .ne 10, 3) := by decide +kernel
theorem dX12_fault_23 : decode cX12_fault 23 = .ok (.iconst (-1), 1) := by decide +kernel
theorem dX12_fault_24 : decode cX12_fault 24 = .ok (.ireturn, 1) := by decide +kernel
theorem dX12_fault_16 : decode cX12_fault 16 = .ok (.aload_n 0, 1) := by decide +kernel
theorem dX12_fault_17 : decode cX12_fault 17 = .ok (.getfield 38, 3) := by decide +kernel
theorem mw_210 : Cond.fieldLink RX12 38 "AskBackModel" "faultPlace" "I" ∈ wsL_law := inr_9 _ (List.mem_of_getElem? (i := 18) rfl)
section
variable {p : Program} {l : Launch} {e : Env} {R0 : Room} {s : State} {m : MethodId} {args : Array Value} {below : List Frame} {meth : Method} {c : Code} {H H0 : Heap} {locs : List Loc} {cells slots : Nat} {Q : State → Prop} {cc : ByteArray} {nL : Nat} {D : va_G} {cy : Nat → ClassId} {A : Nat → Prop} {L : List Nat} {R : Nat → Nat} {f : Nat → va_E} {pc : Nat} {ls : Array Slot} {rest : List Value} {a : Nat}
theorem g_12_38 (F : CallFix p m c cc nL s args wsL_law RX12) (h : tS D cy A H0 L R (TT cy L R) f s H locs) (ha : a ∈ L) (hr : R a = 12) (hdg : decode cc pc = .ok (.getfield 38, 3)) (kk : ∀ x : Int32, x.toInt = fi f a 16 → W p l e R0 s m args below meth c H locs cells slots Q (F0 m (pc + 3) ls (.int x :: rest))) : W p l e R0 s m args below meth c H locs cells slots Q (F0 m pc ls (.ref a :: rest)) := tu_geti F h ha hr (fun e q => (T_12 e).mp q) rfl inlX12 rfl (Nat.le_of_ble_eq_true rfl) mw_210 hdg (fun x h1 h2 h3 => kk x h1)
end
theorem dX12_fault_20 : decode cX12_fault 20 = .ok (.goto 4, 3) := by decide +kernel
theorem dX12_fault_4 : decode cX12_fault 4 = .ok (.aload_n 0, 1) := by decide +kernel
theorem dX12_fault_5 : decode cX12_fault 5 = .ok (.getfield 34, 3) := by decide +kernel
theorem mw_209 : Cond.fieldLink RX12 34 "AskBackModel" "faultKind" "I" ∈ wsL_law := inr_9 _ (List.mem_of_getElem? (i := 17) rfl)
section
variable {p : Program} {l : Launch} {e : Env} {R0 : Room} {s : State} {m : MethodId} {args : Array Value} {below : List Frame} {meth : Method} {c : Code} {H H0 : Heap} {locs : List Loc} {cells slots : Nat} {Q : State → Prop} {cc : ByteArray} {nL : Nat} {D : va_G} {cy : Nat → ClassId} {A : Nat → Prop} {L : List Nat} {R : Nat → Nat} {f : Nat → va_E} {pc : Nat} {ls : Array Slot} {rest : List Value} {a : Nat}
theorem g_12_34 (F : CallFix p m c cc nL s args wsL_law RX12) (h : tS D cy A H0 L R (TT cy L R) f s H locs) (ha : a ∈ L) (hr : R a = 12) (hdg : decode cc pc = .ok (.getfield 34, 3)) (kk : ∀ x : Int32, x.toInt = fi f a 15 → W p l e R0 s m args below meth c H locs cells slots Q (F0 m (pc + 3) ls (.int x :: rest))) : W p l e R0 s m args below meth c H locs cells slots Q (F0 m pc ls (.ref a :: rest)) := tu_geti F h ha hr (fun e q => (T_12 e).mp q) rfl inlX12 rfl (Nat.le_of_ble_eq_true rfl) mw_209 hdg (fun x h1 h2 h3 => kk x h1)
end
theorem dX12_fault_8 : decode cX12_fault 8 = .ok (.goto 16, 3) := by decide +kernel
def rm_X12_fault : Room := { frames := 0, cells := 0, slots := 0, locals := 0 }
set_option maxHeartbeats 4000000 in
set_option maxRecDepth 100000 in
theorem s_X12_fault (l : Launch) (D : va_G) (cy : Nat → ClassId) (L : List Nat) (R O : Nat → Nat) (f0 : Nat → va_E) (a0 : Nat) (m_a0 : a0 ∈ L) (r_a0 : R a0 = 12) (x1 : Int32) : ∀ sz, Met l yX12_fault (Cond.code yX12_fault cX12_fault 2 (some .int) :: wsL_law) rm_X12_fault (va_Pc [.ref a0, .int x1] (tPZ D cy L R (TT cy L R) f0 sz)) (va_Qi (fun (r : Int32) f1 => f0 = f1) (tB D (tA L sz) L R (TT cy L R)) (tA L sz)) 0 0 (tA L sz) := by
  refine tw_enteri (by decide +kernel) rfl (Nat.le_of_ble_eq_true rfl) ?_
  intro p e s m below meth c A ls args Q F hZ h hl hret
  have hl : lv_has ls 2 [(0, .ref a0), (1, .int x1)] := hl
  refine lv_iload_n F.1 F.2.1 dX12_fault_0 rfl (lv_at hl 1 rfl) ?_
  refine tw_if_ne (tgt := 11) F dX12_fault_1 (by decide) (fun b1 => ?_) (fun b1 => ?_)
  · refine lv_iload_n F.1 F.2.1 dX12_fault_11 rfl (lv_at hl 1 rfl) ?_
    refine tw_iconst F dX12_fault_12 ki_1 (fun z2 hz2 => ?_)
    refine tw_icmp_ne (tgt := 23) F dX12_fault_13 (by decide) (fun b3 => ?_) (fun b3 => ?_)
    · refine tw_iconst F dX12_fault_23 ki_m1 (fun z4 hz4 => ?_)
      exact hret f0 _ _ _ _ z4 dX12_fault_24 rfl rfl h
    · refine lv_aload_n F.1 F.2.1 dX12_fault_16 rfl (lv_at hl 0 rfl) ?_
      refine g_12_38 F h m_a0 r_a0 dX12_fault_17 (fun v5 hv5 => ?_)
      refine lv_goto (tgt := 24) F.1 F.2.1 dX12_fault_20 (by decide) ?_
      exact hret f0 _ _ _ _ v5 dX12_fault_24 rfl rfl h
  · refine lv_aload_n F.1 F.2.1 dX12_fault_4 rfl (lv_at hl 0 rfl) ?_
    refine g_12_34 F h m_a0 r_a0 dX12_fault_5 (fun v6 hv6 => ?_)
    refine lv_goto (tgt := 24) F.1 F.2.1 dX12_fault_8 (by decide) ?_
    exact hret f0 _ _ _ _ v6 dX12_fault_24 rfl rfl h
theorem dX12_gap_0 : decode cX12_gap 0 = .ok (.iload_n 2, 1) := by decide +kernel
theorem dX12_gap_1 : decode cX12_gap 1 = .ok (.ifCond .lt 13, 3) := by decide +kernel
theorem dX12_gap_14 : decode cX12_gap 14 = .ok (.aload_n 0, 1) := by decide +kernel
theorem dX12_gap_15 : decode cX12_gap 15 = .ok (.iconst 1, 1) := by decide +kernel
theorem dX12_gap_16 : decode cX12_gap 16 = .ok (.invokevirtual 194, 3) := by decide +kernel
theorem mw_452 : Cond.methodLink RX12 194 yX12_refuse ∈ wsL_law := inr_19 _ (List.mem_of_getElem? (i := 20) rfl)
theorem mw_455 : Cond.code yX12_refuse cX12_refuse 2 (some .int) ∈ wsL_law := inr_19 _ (List.mem_of_getElem? (i := 23) rfl)
theorem yk_X12_refuse : xY yX12_refuse RX12 cX12_refuse 2 (some .int) 1 := ⟨⟨rfl, by decide +kernel, by decide +kernel, by decide +kernel⟩, mw_5, mw_455⟩
theorem mw_453 : Cond.instanceMethod yX12_refuse ∈ wsL_law := inr_19 _ (List.mem_of_getElem? (i := 21) rfl)
theorem mw_454 : Cond.selects RX12 yX12_refuse yX12_refuse ∈ wsL_law := inr_19 _ (List.mem_of_getElem? (i := 22) rfl)
theorem dX12_gap_19 : decode cX12_gap 19 = .ok (.ireturn, 1) := by decide +kernel
theorem dX12_gap_4 : decode cX12_gap 4 = .ok (.iload_n 2, 1) := by decide +kernel
theorem dX12_gap_5 : decode cX12_gap 5 = .ok (.iconst 1, 1) := by decide +kernel
theorem dX12_gap_6 : decode cX12_gap 6 = .ok (.if_icmp .gt 8, 3) := by decide +kernel
theorem dX12_gap_9 : decode cX12_gap 9 = .ok (.iload_n 1, 1) := by decide +kernel
theorem dX12_gap_10 : decode cX12_gap 10 = .ok (.iconst 1, 1) := by decide +kernel
theorem dX12_gap_11 : decode cX12_gap 11 = .ok (.if_icmp .ge 9, 3) := by decide +kernel
theorem dX12_gap_20 : decode cX12_gap 20 = .ok (.iload_n 1, 1) := by decide +kernel
theorem dX12_gap_21 : decode cX12_gap 21 = .ok (.aload_n 0, 1) := by decide +kernel
theorem dX12_gap_22 : decode cX12_gap 22 = .ok (.getfield 66, 3) := by decide +kernel
theorem mw_219 : Cond.fieldLink RX12 66 "AskBackModel" "fitGaps" "I" ∈ wsL_law := inr_10 _ (List.mem_of_getElem? (i := 3) rfl)
section
variable {p : Program} {l : Launch} {e : Env} {R0 : Room} {s : State} {m : MethodId} {args : Array Value} {below : List Frame} {meth : Method} {c : Code} {H H0 : Heap} {locs : List Loc} {cells slots : Nat} {Q : State → Prop} {cc : ByteArray} {nL : Nat} {D : va_G} {cy : Nat → ClassId} {A : Nat → Prop} {L : List Nat} {R : Nat → Nat} {f : Nat → va_E} {pc : Nat} {ls : Array Slot} {rest : List Value} {a : Nat}
theorem g_12_66 (F : CallFix p m c cc nL s args wsL_law RX12) (h : tS D cy A H0 L R (TT cy L R) f s H locs) (ha : a ∈ L) (hr : R a = 12) (hdg : decode cc pc = .ok (.getfield 66, 3)) (kk : ∀ x : Int32, x.toInt = fi f a 30 → (-1) ≤ x.toInt → x.toInt ≤ 8 → W p l e R0 s m args below meth c H locs cells slots Q (F0 m (pc + 3) ls (.int x :: rest))) : W p l e R0 s m args below meth c H locs cells slots Q (F0 m pc ls (.ref a :: rest)) := tu_geti F h ha hr (fun e q => (T_12 e).mp q) rfl inlX12 rfl (Nat.le_of_ble_eq_true rfl) mw_219 hdg (fun x h1 h2 h3 => kk x h1 h2 h3)
end
theorem dX12_gap_25 : decode cX12_gap 25 = .ok (.if_icmp .le 10, 3) := by decide +kernel
theorem dX12_gap_35 : decode cX12_gap 35 = .ok (.aload_n 0, 1) := by decide +kernel
theorem dX12_gap_36 : decode cX12_gap 36 = .ok (.iload_n 2, 1) := by decide +kernel
theorem dX12_gap_37 : decode cX12_gap 37 = .ok (.ifCond .ne 14, 3) := by decide +kernel
theorem dX12_gap_51 : decode cX12_gap 51 = .ok (.aload_n 0, 1) := by decide +kernel
theorem dX12_gap_52 : decode cX12_gap 52 = .ok (.getfield 57, 3) := by decide +kernel
theorem mw_216 : Cond.fieldLink RX12 57 "AskBackModel" "fitLong" "[I" ∈ wsL_law := inr_10 _ (List.mem_of_getElem? (i := 0) rfl)
section
variable {p : Program} {l : Launch} {e : Env} {R0 : Room} {s : State} {m : MethodId} {args : Array Value} {below : List Frame} {meth : Method} {c : Code} {H H0 : Heap} {locs : List Loc} {cells slots : Nat} {Q : State → Prop} {cc : ByteArray} {nL : Nat} {D : va_G} {cy : Nat → ClassId} {A : Nat → Prop} {L : List Nat} {R : Nat → Nat} {f : Nat → va_E} {pc : Nat} {ls : Array Slot} {rest : List Value} {a : Nat}
theorem g_12_57 (F : CallFix p m c cc nL s args wsL_law RX12) (h : tS D cy A H0 L R (TT cy L R) f s H locs) (ha : a ∈ L) (hr : R a = 12) (hdg : decode cc pc = .ok (.getfield 57, 3)) (kk : ∀ b : Nat, b ∈ L → R b = 72 → fld f a 25 = .ref b → W p l e R0 s m args below meth c H locs cells slots Q (F0 m (pc + 3) ls (.ref b :: rest))) : W p l e R0 s m args below meth c H locs cells slots Q (F0 m pc ls (.ref a :: rest)) := tu_getr F h ha hr (fun e q => (T_12 e).mp q) rfl inlX12 rfl (Nat.le_of_ble_eq_true rfl) mw_216 hdg kk
end
theorem dX12_gap_55 : decode cX12_gap 55 = .ok (.iload_n 1, 1) := by decide +kernel
theorem dX12_gap_56 : decode cX12_gap 56 = .ok (.iconst 1, 1) := by decide +kernel
theorem dX12_gap_57 : decode cX12_gap 57 = .ok (.isub, 1) := by decide +kernel
theorem dX12_gap_58 : decode cX12_gap 58 = .ok (.iaload, 1) := by decide +kernel
section
variable {p : Program} {l : Launch} {e : Env} {R0 : Room} {s : State} {m : MethodId} {args : Array Value} {below : List Frame} {meth : Method} {c : Code} {H H0 : Heap} {locs : List Loc} {cells slots : Nat} {Q : State → Prop} {cc : ByteArray} {nL : Nat} {D : va_G} {cy : Nat → ClassId} {A : Nat → Prop} {L : List Nat} {R : Nat → Nat} {f : Nat → va_E} {pc : Nat} {ls : Array Slot} {rest : List Value} {a : Nat}
theorem ld_72 {own : String} (F : CallFix p m c cc nL s args wsL_law own) (h : tS D cy A H0 L R (TT cy L R) f s H locs) {i : Int32} (ha : a ∈ L) (hr : R a = 72) (hb : 0 ≤ i.toInt ∧ i.toInt < 8) (hdg : decode cc pc = .ok (.iaload, 1)) (kk : ∀ x : Int32, W p l e R0 s m args below meth c H locs cells slots Q (F0 m (pc + 1) ls (.int x :: rest))) : W p l e R0 s m args below meth c H locs cells slots Q (F0 m pc ls (.int i :: .ref a :: rest)) := tu_iald F h ha hr (fun e q => (T_72 e).mp q) hb.1 hb.2 hdg (fun x h1 h2 => kk x)
end
theorem dX12_gap_59 : decode cX12_gap 59 = .ok (.invokevirtual 209, 3) := by decide +kernel
theorem mw_499 : Cond.methodLink RX12 209 yX12_gives ∈ wsL_law := inr_21 _ (List.mem_of_getElem? (i := 19) rfl)
theorem mw_502 : Cond.code yX12_gives cX12_gives 2 (some .int) ∈ wsL_law := inr_21 _ (List.mem_of_getElem? (i := 22) rfl)
theorem yk_X12_gives : xY yX12_gives RX12 cX12_gives 2 (some .int) 1 := ⟨⟨rfl, by decide +kernel, by decide +kernel, by decide +kernel⟩, mw_5, mw_502⟩
theorem mw_500 : Cond.instanceMethod yX12_gives ∈ wsL_law := inr_21 _ (List.mem_of_getElem? (i := 20) rfl)
theorem mw_501 : Cond.selects RX12 yX12_gives yX12_gives ∈ wsL_law := inr_21 _ (List.mem_of_getElem? (i := 21) rfl)
theorem dX12_gap_62 : decode cX12_gap 62 = .ok (.ireturn, 1) := by decide +kernel
theorem dX12_gap_40 : decode cX12_gap 40 = .ok (.aload_n 0, 1) := by decide +kernel
theorem dX12_gap_41 : decode cX12_gap 41 = .ok (.getfield 54, 3) := by decide +kernel
theorem mw_215 : Cond.fieldLink RX12 54 "AskBackModel" "fitAt" "[I" ∈ wsL_law := inr_9 _ (List.mem_of_getElem? (i := 23) rfl)
section
variable {p : Program} {l : Launch} {e : Env} {R0 : Room} {s : State} {m : MethodId} {args : Array Value} {below : List Frame} {meth : Method} {c : Code} {H H0 : Heap} {locs : List Loc} {cells slots : Nat} {Q : State → Prop} {cc : ByteArray} {nL : Nat} {D : va_G} {cy : Nat → ClassId} {A : Nat → Prop} {L : List Nat} {R : Nat → Nat} {f : Nat → va_E} {pc : Nat} {ls : Array Slot} {rest : List Value} {a : Nat}
theorem g_12_54 (F : CallFix p m c cc nL s args wsL_law RX12) (h : tS D cy A H0 L R (TT cy L R) f s H locs) (ha : a ∈ L) (hr : R a = 12) (hdg : decode cc pc = .ok (.getfield 54, 3)) (kk : ∀ b : Nat, b ∈ L → R b = 71 → fld f a 24 = .ref b → W p l e R0 s m args below meth c H locs cells slots Q (F0 m (pc + 3) ls (.ref b :: rest))) : W p l e R0 s m args below meth c H locs cells slots Q (F0 m pc ls (.ref a :: rest)) := tu_getr F h ha hr (fun e q => (T_12 e).mp q) rfl inlX12 rfl (Nat.le_of_ble_eq_true rfl) mw_215 hdg kk
end
theorem dX12_gap_44 : decode cX12_gap 44 = .ok (.iload_n 1, 1) := by decide +kernel
theorem dX12_gap_45 : decode cX12_gap 45 = .ok (.iconst 1, 1) := by decide +kernel
theorem dX12_gap_46 : decode cX12_gap 46 = .ok (.isub, 1) := by decide +kernel
theorem dX12_gap_47 : decode cX12_gap 47 = .ok (.iaload, 1) := by decide +kernel
section
variable {p : Program} {l : Launch} {e : Env} {R0 : Room} {s : State} {m : MethodId} {args : Array Value} {below : List Frame} {meth : Method} {c : Code} {H H0 : Heap} {locs : List Loc} {cells slots : Nat} {Q : State → Prop} {cc : ByteArray} {nL : Nat} {D : va_G} {cy : Nat → ClassId} {A : Nat → Prop} {L : List Nat} {R : Nat → Nat} {f : Nat → va_E} {pc : Nat} {ls : Array Slot} {rest : List Value} {a : Nat}
theorem ld_71 {own : String} (F : CallFix p m c cc nL s args wsL_law own) (h : tS D cy A H0 L R (TT cy L R) f s H locs) {i : Int32} (ha : a ∈ L) (hr : R a = 71) (hb : 0 ≤ i.toInt ∧ i.toInt < 8) (hdg : decode cc pc = .ok (.iaload, 1)) (kk : ∀ x : Int32, W p l e R0 s m args below meth c H locs cells slots Q (F0 m (pc + 1) ls (.int x :: rest))) : W p l e R0 s m args below meth c H locs cells slots Q (F0 m pc ls (.int i :: .ref a :: rest)) := tu_iald F h ha hr (fun e q => (T_71 e).mp q) hb.1 hb.2 hdg (fun x h1 h2 => kk x)
end
theorem dX12_gap_48 : decode cX12_gap 48 = .ok (.goto 11, 3) := by decide +kernel
theorem dX12_gap_28 : decode cX12_gap 28 = .ok (.aload_n 0, 1) := by decide +kernel
theorem dX12_gap_29 : decode cX12_gap 29 = .ok (.bipush 6, 2) := by decide +kernel
theorem dX12_gap_31 : decode cX12_gap 31 = .ok (.invokevirtual 194, 3) := by decide +kernel
theorem dX12_gap_34 : decode cX12_gap 34 = .ok (.ireturn, 1) := by decide +kernel
def rm_X12_gap : Room := { frames := 1, cells := 0, slots := 0, locals := 21 }
set_option maxHeartbeats 4000000 in
set_option maxRecDepth 100000 in
theorem s_X12_gap (l : Launch) (D : va_G) (cy : Nat → ClassId) (L : List Nat) (R O : Nat → Nat) (f0 : Nat → va_E) (a0 : Nat) (m_a0 : a0 ∈ L) (r_a0 : R a0 = 12) (x1 : Int32) (x2 : Int32) : ∀ sz, Met l yX12_gap (Cond.code yX12_gap cX12_gap 3 (some .int) :: wsL_law) rm_X12_gap (va_Pc [.ref a0, .int x1, .int x2] (tPZ D cy L R (TT cy L R) f0 sz)) (va_Qi (fun (r : Int32) f1 => fr L R [(12, 1)] [12] f0 f1) (tB D (tA L sz) L R (TT cy L R)) (tA L sz)) 0 0 (tA L sz) := by
  refine tw_enteri (by decide +kernel) rfl (Nat.le_of_ble_eq_true rfl) ?_
  intro p e s m below meth c A ls args Q F hZ h hl hret
  have hl : lv_has ls 3 [(0, .ref a0), (1, .int x1), (2, .int x2)] := hl
  have hk : fr L R [(12, 1)] [12] f0 f0 := fr.rf
  refine lv_iload_n F.1 F.2.1 dX12_gap_0 rfl (lv_at hl 2 rfl) ?_
  refine tw_if_lt (tgt := 14) F dX12_gap_1 (by decide) (fun b1 => ?_) (fun b1 => ?_)
  · refine lv_aload_n F.1 F.2.1 dX12_gap_14 rfl (lv_at hl 0 rfl) ?_
    refine tw_iconst F dX12_gap_15 ki_1 (fun z2 hz2 => ?_)
    refine tw_Vi (As := [.int z2]) F hZ h yk_X12_refuse mw_452 mw_453 mw_454 (s_X12_refuse l D cy L R O f0 a0 m_a0 r_a0 z2 ⟨by omega, by omega⟩) rfl rfl m_a0 r_a0 (fun e q => (T_12 e).mp q) rfl hl.1 rfl (Nat.le_of_ble_eq_true rfl) ⟨Nat.le_of_ble_eq_true rfl, Nat.le_of_ble_eq_true rfl⟩ ⟨Nat.le_of_ble_eq_true rfl, Nat.le_of_ble_eq_true rfl⟩ dX12_gap_16 (fun v4 f3 H locs hp3 h => ?_)
    obtain ⟨hf3, hv4a, hv4b⟩ := hp3
    have hk : fr L R [(12, 1)] [12] f0 f3 := hk.tr hf3 rfl rfl
    exact hret f3 _ _ _ _ v4 dX12_gap_19 rfl hk h
  · refine lv_iload_n F.1 F.2.1 dX12_gap_4 rfl (lv_at hl 2 rfl) ?_
    refine tw_iconst F dX12_gap_5 ki_1 (fun z5 hz5 => ?_)
    refine tw_icmp_gt (tgt := 14) F dX12_gap_6 (by decide) (fun b6 => ?_) (fun b6 => ?_)
    · refine lv_aload_n F.1 F.2.1 dX12_gap_14 rfl (lv_at hl 0 rfl) ?_
      refine tw_iconst F dX12_gap_15 ki_1 (fun z7 hz7 => ?_)
      refine tw_Vi (As := [.int z7]) F hZ h yk_X12_refuse mw_452 mw_453 mw_454 (s_X12_refuse l D cy L R O f0 a0 m_a0 r_a0 z7 ⟨by omega, by omega⟩) rfl rfl m_a0 r_a0 (fun e q => (T_12 e).mp q) rfl hl.1 rfl (Nat.le_of_ble_eq_true rfl) ⟨Nat.le_of_ble_eq_true rfl, Nat.le_of_ble_eq_true rfl⟩ ⟨Nat.le_of_ble_eq_true rfl, Nat.le_of_ble_eq_true rfl⟩ dX12_gap_16 (fun v9 f8 H locs hp8 h => ?_)
      obtain ⟨hf8, hv9a, hv9b⟩ := hp8
      have hk : fr L R [(12, 1)] [12] f0 f8 := hk.tr hf8 rfl rfl
      exact hret f8 _ _ _ _ v9 dX12_gap_19 rfl hk h
    · refine lv_iload_n F.1 F.2.1 dX12_gap_9 rfl (lv_at hl 1 rfl) ?_
      refine tw_iconst F dX12_gap_10 ki_1 (fun z10 hz10 => ?_)
      refine tw_icmp_ge (tgt := 20) F dX12_gap_11 (by decide) (fun b11 => ?_) (fun b11 => ?_)
      · refine lv_iload_n F.1 F.2.1 dX12_gap_20 rfl (lv_at hl 1 rfl) ?_
        refine lv_aload_n F.1 F.2.1 dX12_gap_21 rfl (lv_at hl 0 rfl) ?_
        refine g_12_66 F h m_a0 r_a0 dX12_gap_22 (fun v12 hv12 hv12a hv12b => ?_)
        refine tw_icmp_le (tgt := 35) F dX12_gap_25 (by decide) (fun b13 => ?_) (fun b13 => ?_)
        · refine lv_aload_n F.1 F.2.1 dX12_gap_35 rfl (lv_at hl 0 rfl) ?_
          refine lv_iload_n F.1 F.2.1 dX12_gap_36 rfl (lv_at hl 2 rfl) ?_
          refine tw_if_ne (tgt := 51) F dX12_gap_37 (by decide) (fun b14 => ?_) (fun b14 => ?_)
          · refine lv_aload_n F.1 F.2.1 dX12_gap_51 rfl (lv_at hl 0 rfl) ?_
            refine g_12_57 F h m_a0 r_a0 dX12_gap_52 (fun o15 m_o15 r_o15 ho15 => ?_)
            refine lv_iload_n F.1 F.2.1 dX12_gap_55 rfl (lv_at hl 1 rfl) ?_
            refine tw_iconst F dX12_gap_56 ki_1 (fun z16 hz16 => ?_)
            refine tu_isub F dX12_gap_57 (by omega) (fun z17 hz17 => ?_)
            refine ld_72 F h m_o15 r_o15 (by omega) dX12_gap_58 (fun v18 => ?_)
            refine tw_Vi (As := [.int v18]) F hZ h yk_X12_gives mw_499 mw_500 mw_501 (s_X12_gives l D cy L R O f0 a0 m_a0 r_a0 v18) rfl rfl m_a0 r_a0 (fun e q => (T_12 e).mp q) rfl hl.1 rfl (Nat.le_of_ble_eq_true rfl) ⟨Nat.le_of_ble_eq_true rfl, Nat.le_of_ble_eq_true rfl⟩ ⟨Nat.le_of_ble_eq_true rfl, Nat.le_of_ble_eq_true rfl⟩ dX12_gap_59 (fun v20 f19 H locs hp19 h => ?_)
            have hf19 := hp19
            have hk : fr L R [(12, 1)] [12] f0 f19 := hk.tr hf19 rfl rfl
            exact hret f19 _ _ _ _ v20 dX12_gap_62 rfl hk h
          · refine lv_aload_n F.1 F.2.1 dX12_gap_40 rfl (lv_at hl 0 rfl) ?_
            refine g_12_54 F h m_a0 r_a0 dX12_gap_41 (fun o21 m_o21 r_o21 ho21 => ?_)
            refine lv_iload_n F.1 F.2.1 dX12_gap_44 rfl (lv_at hl 1 rfl) ?_
            refine tw_iconst F dX12_gap_45 ki_1 (fun z22 hz22 => ?_)
            refine tu_isub F dX12_gap_46 (by omega) (fun z23 hz23 => ?_)
            refine ld_71 F h m_o21 r_o21 (by omega) dX12_gap_47 (fun v24 => ?_)
            refine lv_goto (tgt := 59) F.1 F.2.1 dX12_gap_48 (by decide) ?_
            refine tw_Vi (As := [.int v24]) F hZ h yk_X12_gives mw_499 mw_500 mw_501 (s_X12_gives l D cy L R O f0 a0 m_a0 r_a0 v24) rfl rfl m_a0 r_a0 (fun e q => (T_12 e).mp q) rfl hl.1 rfl (Nat.le_of_ble_eq_true rfl) ⟨Nat.le_of_ble_eq_true rfl, Nat.le_of_ble_eq_true rfl⟩ ⟨Nat.le_of_ble_eq_true rfl, Nat.le_of_ble_eq_true rfl⟩ dX12_gap_59 (fun v26 f25 H locs hp25 h => ?_)
            have hf25 := hp25
            have hk : fr L R [(12, 1)] [12] f0 f25 := hk.tr hf25 rfl rfl
            exact hret f25 _ _ _ _ v26 dX12_gap_62 rfl hk h
        · refine lv_aload_n F.1 F.2.1 dX12_gap_28 rfl (lv_at hl 0 rfl) ?_
          refine tw_bipush F dX12_gap_29 kb_6 (fun z27 hz27 => ?_)
          refine tw_Vi (As := [.int z27]) F hZ h yk_X12_refuse mw_452 mw_453 mw_454 (s_X12_refuse l D cy L R O f0 a0 m_a0 r_a0 z27 ⟨by omega, by omega⟩) rfl rfl m_a0 r_a0 (fun e q => (T_12 e).mp q) rfl hl.1 rfl (Nat.le_of_ble_eq_true rfl) ⟨Nat.le_of_ble_eq_true rfl, Nat.le_of_ble_eq_true rfl⟩ ⟨Nat.le_of_ble_eq_true rfl, Nat.le_of_ble_eq_true rfl⟩ dX12_gap_31 (fun v29 f28 H locs hp28 h => ?_)
          obtain ⟨hf28, hv29a, hv29b⟩ := hp28
          have hk : fr L R [(12, 1)] [12] f0 f28 := hk.tr hf28 rfl rfl
          exact hret f28 _ _ _ _ v29 dX12_gap_34 rfl hk h
      · refine lv_aload_n F.1 F.2.1 dX12_gap_14 rfl (lv_at hl 0 rfl) ?_
        refine tw_iconst F dX12_gap_15 ki_1 (fun z30 hz30 => ?_)
        refine tw_Vi (As := [.int z30]) F hZ h yk_X12_refuse mw_452 mw_453 mw_454 (s_X12_refuse l D cy L R O f0 a0 m_a0 r_a0 z30 ⟨by omega, by omega⟩) rfl rfl m_a0 r_a0 (fun e q => (T_12 e).mp q) rfl hl.1 rfl (Nat.le_of_ble_eq_true rfl) ⟨Nat.le_of_ble_eq_true rfl, Nat.le_of_ble_eq_true rfl⟩ ⟨Nat.le_of_ble_eq_true rfl, Nat.le_of_ble_eq_true rfl⟩ dX12_gap_16 (fun v32 f31 H locs hp31 h => ?_)
        obtain ⟨hf31, hv32a, hv32b⟩ := hp31
        have hk : fr L R [(12, 1)] [12] f0 f31 := hk.tr hf31 rfl rfl
        exact hret f31 _ _ _ _ v32 dX12_gap_19 rfl hk h
theorem dX12_said_0 : decode cX12_said 0 = .ok (.iload_n 1, 1) := by decide +kernel
theorem dX12_said_1 : decode cX12_said 1 = .ok (.ifCond .ge 12, 3) := by decide +kernel
theorem dX12_said_13 : decode cX12_said 13 = .ok (.iload_n 1, 1) := by decide +kernel
theorem dX12_said_14 : decode cX12_said 14 = .ok (.aload_n 0, 1) := by decide +kernel
theorem dX12_said_15 : decode cX12_said 15 = .ok (.getfield 390, 3) := by decide +kernel
theorem mw_1047 : Cond.fieldLink RX12 390 "AskBackModel" "toldMany" "I" ∈ wsL_law := inr_44 _ (List.mem_of_getElem? (i := 15) rfl)
section
variable {p : Program} {l : Launch} {e : Env} {R0 : Room} {s : State} {m : MethodId} {args : Array Value} {below : List Frame} {meth : Method} {c : Code} {H H0 : Heap} {locs : List Loc} {cells slots : Nat} {Q : State → Prop} {cc : ByteArray} {nL : Nat} {D : va_G} {cy : Nat → ClassId} {A : Nat → Prop} {L : List Nat} {R : Nat → Nat} {f : Nat → va_E} {pc : Nat} {ls : Array Slot} {rest : List Value} {a : Nat}
theorem g_12_390 (F : CallFix p m c cc nL s args wsL_law RX12) (h : tS D cy A H0 L R (TT cy L R) f s H locs) (ha : a ∈ L) (hr : R a = 12) (hdg : decode cc pc = .ok (.getfield 390, 3)) (kk : ∀ x : Int32, x.toInt = fi f a 42 → 0 ≤ x.toInt → x.toInt ≤ 12 → W p l e R0 s m args below meth c H locs cells slots Q (F0 m (pc + 3) ls (.int x :: rest))) : W p l e R0 s m args below meth c H locs cells slots Q (F0 m pc ls (.ref a :: rest)) := tu_geti F h ha hr (fun e q => (T_12 e).mp q) rfl inlX12 rfl (Nat.le_of_ble_eq_true rfl) mw_1047 hdg (fun x h1 h2 h3 => kk x h1 h2 h3)
end
theorem dX12_said_18 : decode cX12_said 18 = .ok (.if_icmp .lt 13, 3) := by decide +kernel
theorem dX12_said_31 : decode cX12_said 31 = .ok (.aload_n 0, 1) := by decide +kernel
theorem dX12_said_32 : decode cX12_said 32 = .ok (.aload_n 0, 1) := by decide +kernel
theorem dX12_said_33 : decode cX12_said 33 = .ok (.getfield 78, 3) := by decide +kernel
theorem mw_223 : Cond.fieldLink RX12 78 "AskBackModel" "toldLine" "[J" ∈ wsL_law := inr_10 _ (List.mem_of_getElem? (i := 7) rfl)
section
variable {p : Program} {l : Launch} {e : Env} {R0 : Room} {s : State} {m : MethodId} {args : Array Value} {below : List Frame} {meth : Method} {c : Code} {H H0 : Heap} {locs : List Loc} {cells slots : Nat} {Q : State → Prop} {cc : ByteArray} {nL : Nat} {D : va_G} {cy : Nat → ClassId} {A : Nat → Prop} {L : List Nat} {R : Nat → Nat} {f : Nat → va_E} {pc : Nat} {ls : Array Slot} {rest : List Value} {a : Nat}
theorem g_12_78 (F : CallFix p m c cc nL s args wsL_law RX12) (h : tS D cy A H0 L R (TT cy L R) f s H locs) (ha : a ∈ L) (hr : R a = 12) (hdg : decode cc pc = .ok (.getfield 78, 3)) (kk : ∀ b : Nat, b ∈ L → R b = 77 → fld f a 41 = .ref b → W p l e R0 s m args below meth c H locs cells slots Q (F0 m (pc + 3) ls (.ref b :: rest))) : W p l e R0 s m args below meth c H locs cells slots Q (F0 m pc ls (.ref a :: rest)) := tu_getr F h ha hr (fun e q => (T_12 e).mp q) rfl inlX12 rfl (Nat.le_of_ble_eq_true rfl) mw_223 hdg kk
end
theorem dX12_said_36 : decode cX12_said 36 = .ok (.iload_n 1, 1) := by decide +kernel
theorem dX12_said_37 : decode cX12_said 37 = .ok (.laload, 1) := by decide +kernel
section
variable {p : Program} {l : Launch} {e : Env} {R0 : Room} {s : State} {m : MethodId} {args : Array Value} {below : List Frame} {meth : Method} {c : Code} {H H0 : Heap} {locs : List Loc} {cells slots : Nat} {Q : State → Prop} {cc : ByteArray} {nL : Nat} {D : va_G} {cy : Nat → ClassId} {A : Nat → Prop} {L : List Nat} {R : Nat → Nat} {f : Nat → va_E} {pc : Nat} {ls : Array Slot} {rest : List Value} {a : Nat}
theorem ld_77 {own : String} (F : CallFix p m c cc nL s args wsL_law own) (h : tS D cy A H0 L R (TT cy L R) f s H locs) {i : Int32} (ha : a ∈ L) (hr : R a = 77) (hb : 0 ≤ i.toInt ∧ i.toInt < 12) (hdg : decode cc pc = .ok (.laload, 1)) (kk : ∀ x : Int64, W p l e R0 s m args below meth c H locs cells slots Q (F0 m (pc + 1) ls (.long x :: rest))) : W p l e R0 s m args below meth c H locs cells slots Q (F0 m pc ls (.int i :: .ref a :: rest)) := tu_lald F h ha hr (fun e q => (T_77 e).mp q) hb.1 hb.2 hdg (fun x h1 h2 => kk x)
end
theorem dX12_said_38 : decode cX12_said 38 = .ok (.invokevirtual 216, 3) := by decide +kernel
theorem mw_801 : Cond.methodLink RX12 216 yX12_givesLong ∈ wsL_law := inr_34 _ (List.mem_of_getElem? (i := 9) rfl)
theorem mw_804 : Cond.code yX12_givesLong cX12_givesLong 3 (some .long) ∈ wsL_law := inr_34 _ (List.mem_of_getElem? (i := 12) rfl)
theorem yk_X12_givesLong : xY yX12_givesLong RX12 cX12_givesLong 3 (some .long) 1 := ⟨⟨rfl, by decide +kernel, by decide +kernel, by decide +kernel⟩, mw_5, mw_804⟩
theorem mw_802 : Cond.instanceMethod yX12_givesLong ∈ wsL_law := inr_34 _ (List.mem_of_getElem? (i := 10) rfl)
theorem mw_803 : Cond.selects RX12 yX12_givesLong yX12_givesLong ∈ wsL_law := inr_34 _ (List.mem_of_getElem? (i := 11) rfl)
theorem dX12_said_41 : decode cX12_said 41 = .ok (.lreturn, 1) := by decide +kernel
theorem dX12_said_21 : decode cX12_said 21 = .ok (.aload_n 0, 1) := by decide +kernel
theorem dX12_said_22 : decode cX12_said 22 = .ok (.bipush 6, 2) := by decide +kernel
theorem dX12_said_24 : decode cX12_said 24 = .ok (.invokevirtual 194, 3) := by decide +kernel
theorem dX12_said_27 : decode cX12_said 27 = .ok (.i2l, 1) := by decide +kernel
theorem dX12_said_28 : decode cX12_said 28 = .ok (.goto 13, 3) := by decide +kernel
theorem dX12_said_4 : decode cX12_said 4 = .ok (.aload_n 0, 1) := by decide +kernel
theorem dX12_said_5 : decode cX12_said 5 = .ok (.iconst 1, 1) := by decide +kernel
theorem dX12_said_6 : decode cX12_said 6 = .ok (.invokevirtual 194, 3) := by decide +kernel
theorem dX12_said_9 : decode cX12_said 9 = .ok (.i2l, 1) := by decide +kernel
theorem dX12_said_10 : decode cX12_said 10 = .ok (.goto 31, 3) := by decide +kernel
def rm_X12_said : Room := { frames := 1, cells := 0, slots := 0, locals := 22 }
set_option maxHeartbeats 4000000 in
set_option maxRecDepth 100000 in
theorem s_X12_said (l : Launch) (D : va_G) (cy : Nat → ClassId) (L : List Nat) (R O : Nat → Nat) (f0 : Nat → va_E) (a0 : Nat) (m_a0 : a0 ∈ L) (r_a0 : R a0 = 12) (x1 : Int32) : ∀ sz, Met l yX12_said (Cond.code yX12_said cX12_said 2 (some .long) :: wsL_law) rm_X12_said (va_Pc [.ref a0, .int x1] (tPZ D cy L R (TT cy L R) f0 sz)) (va_Ql (fun (r : Int64) f1 => fr L R [(12, 1)] [12] f0 f1) (tB D (tA L sz) L R (TT cy L R)) (tA L sz)) 0 0 (tA L sz) := by
  refine tw_enterl (by decide +kernel) rfl (Nat.le_of_ble_eq_true rfl) ?_
  intro p e s m below meth c A ls args Q F hZ h hl hret
  have hl : lv_has ls 2 [(0, .ref a0), (1, .int x1)] := hl
  have hk : fr L R [(12, 1)] [12] f0 f0 := fr.rf
  refine lv_iload_n F.1 F.2.1 dX12_said_0 rfl (lv_at hl 1 rfl) ?_
  refine tw_if_ge (tgt := 13) F dX12_said_1 (by decide) (fun b1 => ?_) (fun b1 => ?_)
  · refine lv_iload_n F.1 F.2.1 dX12_said_13 rfl (lv_at hl 1 rfl) ?_
    refine lv_aload_n F.1 F.2.1 dX12_said_14 rfl (lv_at hl 0 rfl) ?_
    refine g_12_390 F h m_a0 r_a0 dX12_said_15 (fun v2 hv2 hv2a hv2b => ?_)
    refine tw_icmp_lt (tgt := 31) F dX12_said_18 (by decide) (fun b3 => ?_) (fun b3 => ?_)
    · refine lv_aload_n F.1 F.2.1 dX12_said_31 rfl (lv_at hl 0 rfl) ?_
      refine lv_aload_n F.1 F.2.1 dX12_said_32 rfl (lv_at hl 0 rfl) ?_
      refine g_12_78 F h m_a0 r_a0 dX12_said_33 (fun o4 m_o4 r_o4 ho4 => ?_)
      refine lv_iload_n F.1 F.2.1 dX12_said_36 rfl (lv_at hl 1 rfl) ?_
      refine ld_77 F h m_o4 r_o4 (by omega) dX12_said_37 (fun v5 => ?_)
      refine tw_Vl (As := [.long v5]) F hZ h yk_X12_givesLong mw_801 mw_802 mw_803 (s_X12_givesLong l D cy L R O f0 a0 m_a0 r_a0 v5) rfl rfl m_a0 r_a0 (fun e q => (T_12 e).mp q) rfl hl.1 rfl (Nat.le_of_ble_eq_true rfl) ⟨Nat.le_of_ble_eq_true rfl, Nat.le_of_ble_eq_true rfl⟩ ⟨Nat.le_of_ble_eq_true rfl, Nat.le_of_ble_eq_true rfl⟩ dX12_said_38 (fun v7 f6 H locs hp6 h => ?_)
      have hf6 := hp6
      have hk : fr L R [(12, 1)] [12] f0 f6 := hk.tr hf6 rfl rfl
      exact hret f6 _ _ _ _ v7 dX12_said_41 hk h
    · refine lv_aload_n F.1 F.2.1 dX12_said_21 rfl (lv_at hl 0 rfl) ?_
      refine tw_bipush F dX12_said_22 kb_6 (fun z8 hz8 => ?_)
      refine tw_Vi (As := [.int z8]) F hZ h yk_X12_refuse mw_452 mw_453 mw_454 (s_X12_refuse l D cy L R O f0 a0 m_a0 r_a0 z8 ⟨by omega, by omega⟩) rfl rfl m_a0 r_a0 (fun e q => (T_12 e).mp q) rfl hl.1 rfl (Nat.le_of_ble_eq_true rfl) ⟨Nat.le_of_ble_eq_true rfl, Nat.le_of_ble_eq_true rfl⟩ ⟨Nat.le_of_ble_eq_true rfl, Nat.le_of_ble_eq_true rfl⟩ dX12_said_24 (fun v10 f9 H locs hp9 h => ?_)
      obtain ⟨hf9, hv10a, hv10b⟩ := hp9
      have hk : fr L R [(12, 1)] [12] f0 f9 := hk.tr hf9 rfl rfl
      refine tw_i2l F dX12_said_27 (fun z11 hz11 => ?_)
      refine lv_goto (tgt := 41) F.1 F.2.1 dX12_said_28 (by decide) ?_
      exact hret f9 _ _ _ _ z11 dX12_said_41 hk h
  · refine lv_aload_n F.1 F.2.1 dX12_said_4 rfl (lv_at hl 0 rfl) ?_
    refine tw_iconst F dX12_said_5 ki_1 (fun z12 hz12 => ?_)
    refine tw_Vi (As := [.int z12]) F hZ h yk_X12_refuse mw_452 mw_453 mw_454 (s_X12_refuse l D cy L R O f0 a0 m_a0 r_a0 z12 ⟨by omega, by omega⟩) rfl rfl m_a0 r_a0 (fun e q => (T_12 e).mp q) rfl hl.1 rfl (Nat.le_of_ble_eq_true rfl) ⟨Nat.le_of_ble_eq_true rfl, Nat.le_of_ble_eq_true rfl⟩ ⟨Nat.le_of_ble_eq_true rfl, Nat.le_of_ble_eq_true rfl⟩ dX12_said_6 (fun v14 f13 H locs hp13 h => ?_)
    obtain ⟨hf13, hv14a, hv14b⟩ := hp13
    have hk : fr L R [(12, 1)] [12] f0 f13 := hk.tr hf13 rfl rfl
    refine tw_i2l F dX12_said_9 (fun z15 hz15 => ?_)
    refine lv_goto (tgt := 41) F.1 F.2.1 dX12_said_10 (by decide) ?_
    exact hret f13 _ _ _ _ z15 dX12_said_41 hk h
theorem dX12_how_0 : decode cX12_how 0 = .ok (.iload_n 1, 1) := by decide +kernel
theorem dX12_how_1 : decode cX12_how 1 = .ok (.ifCond .lt 8, 3) := by decide +kernel
theorem dX12_how_9 : decode cX12_how 9 = .ok (.aload_n 0, 1) := by decide +kernel
theorem dX12_how_10 : decode cX12_how 10 = .ok (.iconst 1, 1) := by decide +kernel
theorem dX12_how_11 : decode cX12_how 11 = .ok (.invokevirtual 194, 3) := by decide +kernel
theorem dX12_how_14 : decode cX12_how 14 = .ok (.ireturn, 1) := by decide +kernel
theorem dX12_how_4 : decode cX12_how 4 = .ok (.iload_n 1, 1) := by decide +kernel
theorem dX12_how_5 : decode cX12_how 5 = .ok (.iconst 4, 1) := by decide +kernel
theorem dX12_how_6 : decode cX12_how 6 = .ok (.if_icmp .le 9, 3) := by decide +kernel
theorem dX12_how_15 : decode cX12_how 15 = .ok (.aload_n 0, 1) := by decide +kernel
theorem dX12_how_16 : decode cX12_how 16 = .ok (.getfield 81, 3) := by decide +kernel
theorem mw_224 : Cond.fieldLink RX12 81 "AskBackModel" "toldKind" "I" ∈ wsL_law := inr_10 _ (List.mem_of_getElem? (i := 8) rfl)
section
variable {p : Program} {l : Launch} {e : Env} {R0 : Room} {s : State} {m : MethodId} {args : Array Value} {below : List Frame} {meth : Method} {c : Code} {H H0 : Heap} {locs : List Loc} {cells slots : Nat} {Q : State → Prop} {cc : ByteArray} {nL : Nat} {D : va_G} {cy : Nat → ClassId} {A : Nat → Prop} {L : List Nat} {R : Nat → Nat} {f : Nat → va_E} {pc : Nat} {ls : Array Slot} {rest : List Value} {a : Nat}
theorem g_12_81 (F : CallFix p m c cc nL s args wsL_law RX12) (h : tS D cy A H0 L R (TT cy L R) f s H locs) (ha : a ∈ L) (hr : R a = 12) (hdg : decode cc pc = .ok (.getfield 81, 3)) (kk : ∀ x : Int32, x.toInt = fi f a 43 → W p l e R0 s m args below meth c H locs cells slots Q (F0 m (pc + 3) ls (.int x :: rest))) : W p l e R0 s m args below meth c H locs cells slots Q (F0 m pc ls (.ref a :: rest)) := tu_geti F h ha hr (fun e q => (T_12 e).mp q) rfl inlX12 rfl (Nat.le_of_ble_eq_true rfl) mw_224 hdg (fun x h1 h2 h3 => kk x h1)
end
theorem dX12_how_19 : decode cX12_how 19 = .ok (.iconst (-1), 1) := by decide +kernel
theorem dX12_how_20 : decode cX12_how 20 = .ok (.if_icmp .ne 10, 3) := by decide +kernel
theorem dX12_how_30 : decode cX12_how 30 = .ok (.iload_n 1, 1) := by decide +kernel
theorem dX12_how_81 : decode cX12_how 81 = .ok (.istore_n 2, 1) := by decide +kernel
theorem dX12_how_82 : decode cX12_how 82 = .ok (.iload_n 2, 1) := by decide +kernel
theorem dX12_how_83 : decode cX12_how 83 = .ok (.iconst (-1), 1) := by decide +kernel
theorem dX12_how_84 : decode cX12_how 84 = .ok (.if_icmp .ne 12, 3) := by decide +kernel
theorem dX12_how_96 : decode cX12_how 96 = .ok (.aload_n 0, 1) := by decide +kernel
theorem dX12_how_97 : decode cX12_how 97 = .ok (.iload_n 2, 1) := by decide +kernel
theorem dX12_how_98 : decode cX12_how 98 = .ok (.invokevirtual 209, 3) := by decide +kernel
theorem dX12_how_101 : decode cX12_how 101 = .ok (.ireturn, 1) := by decide +kernel
theorem dX12_how_87 : decode cX12_how 87 = .ok (.aload_n 0, 1) := by decide +kernel
theorem dX12_how_88 : decode cX12_how 88 = .ok (.bipush 6, 2) := by decide +kernel
theorem dX12_how_90 : decode cX12_how 90 = .ok (.invokevirtual 194, 3) := by decide +kernel
theorem dX12_how_93 : decode cX12_how 93 = .ok (.goto 8, 3) := by decide +kernel
theorem dX12_how_31 : decode cX12_how 31 = .ok (.ifCond .ne 10, 3) := by decide +kernel
theorem dX12_how_41 : decode cX12_how 41 = .ok (.iload_n 1, 1) := by decide +kernel
theorem dX12_how_42 : decode cX12_how 42 = .ok (.iconst 1, 1) := by decide +kernel
theorem dX12_how_43 : decode cX12_how 43 = .ok (.if_icmp .ne 10, 3) := by decide +kernel
theorem dX12_how_53 : decode cX12_how 53 = .ok (.iload_n 1, 1) := by decide +kernel
theorem dX12_how_54 : decode cX12_how 54 = .ok (.iconst 2, 1) := by decide +kernel
theorem dX12_how_55 : decode cX12_how 55 = .ok (.if_icmp .ne 10, 3) := by decide +kernel
theorem dX12_how_65 : decode cX12_how 65 = .ok (.iload_n 1, 1) := by decide +kernel
theorem dX12_how_66 : decode cX12_how 66 = .ok (.iconst 3, 1) := by decide +kernel
theorem dX12_how_67 : decode cX12_how 67 = .ok (.if_icmp .ne 10, 3) := by decide +kernel
theorem dX12_how_77 : decode cX12_how 77 = .ok (.aload_n 0, 1) := by decide +kernel
theorem dX12_how_78 : decode cX12_how 78 = .ok (.getfield 402, 3) := by decide +kernel
theorem mw_1056 : Cond.fieldLink RX12 402 "AskBackModel" "toldGoes" "I" ∈ wsL_law := inr_45 _ (List.mem_of_getElem? (i := 0) rfl)
section
variable {p : Program} {l : Launch} {e : Env} {R0 : Room} {s : State} {m : MethodId} {args : Array Value} {below : List Frame} {meth : Method} {c : Code} {H H0 : Heap} {locs : List Loc} {cells slots : Nat} {Q : State → Prop} {cc : ByteArray} {nL : Nat} {D : va_G} {cy : Nat → ClassId} {A : Nat → Prop} {L : List Nat} {R : Nat → Nat} {f : Nat → va_E} {pc : Nat} {ls : Array Slot} {rest : List Value} {a : Nat}
theorem g_12_402 (F : CallFix p m c cc nL s args wsL_law RX12) (h : tS D cy A H0 L R (TT cy L R) f s H locs) (ha : a ∈ L) (hr : R a = 12) (hdg : decode cc pc = .ok (.getfield 402, 3)) (kk : ∀ x : Int32, x.toInt = fi f a 47 → W p l e R0 s m args below meth c H locs cells slots Q (F0 m (pc + 3) ls (.int x :: rest))) : W p l e R0 s m args below meth c H locs cells slots Q (F0 m pc ls (.ref a :: rest)) := tu_geti F h ha hr (fun e q => (T_12 e).mp q) rfl inlX12 rfl (Nat.le_of_ble_eq_true rfl) mw_1056 hdg (fun x h1 h2 h3 => kk x h1)
end
theorem dX12_how_70 : decode cX12_how 70 = .ok (.aload_n 0, 1) := by decide +kernel
theorem dX12_how_71 : decode cX12_how 71 = .ok (.getfield 399, 3) := by decide +kernel
theorem mw_1054 : Cond.fieldLink RX12 399 "AskBackModel" "toldAnswer" "I" ∈ wsL_law := inr_44 _ (List.mem_of_getElem? (i := 22) rfl)
section
variable {p : Program} {l : Launch} {e : Env} {R0 : Room} {s : State} {m : MethodId} {args : Array Value} {below : List Frame} {meth : Method} {c : Code} {H H0 : Heap} {locs : List Loc} {cells slots : Nat} {Q : State → Prop} {cc : ByteArray} {nL : Nat} {D : va_G} {cy : Nat → ClassId} {A : Nat → Prop} {L : List Nat} {R : Nat → Nat} {f : Nat → va_E} {pc : Nat} {ls : Array Slot} {rest : List Value} {a : Nat}
theorem g_12_399 (F : CallFix p m c cc nL s args wsL_law RX12) (h : tS D cy A H0 L R (TT cy L R) f s H locs) (ha : a ∈ L) (hr : R a = 12) (hdg : decode cc pc = .ok (.getfield 399, 3)) (kk : ∀ x : Int32, x.toInt = fi f a 46 → W p l e R0 s m args below meth c H locs cells slots Q (F0 m (pc + 3) ls (.int x :: rest))) : W p l e R0 s m args below meth c H locs cells slots Q (F0 m pc ls (.ref a :: rest)) := tu_geti F h ha hr (fun e q => (T_12 e).mp q) rfl inlX12 rfl (Nat.le_of_ble_eq_true rfl) mw_1054 hdg (fun x h1 h2 h3 => kk x h1)
end
theorem dX12_how_74 : decode cX12_how 74 = .ok (.goto 7, 3) := by decide +kernel
theorem dX12_how_58 : decode cX12_how 58 = .ok (.aload_n 0, 1) := by decide +kernel
theorem dX12_how_59 : decode cX12_how 59 = .ok (.getfield 396, 3) := by decide +kernel
theorem mw_1052 : Cond.fieldLink RX12 396 "AskBackModel" "toldRule" "I" ∈ wsL_law := inr_44 _ (List.mem_of_getElem? (i := 20) rfl)
section
variable {p : Program} {l : Launch} {e : Env} {R0 : Room} {s : State} {m : MethodId} {args : Array Value} {below : List Frame} {meth : Method} {c : Code} {H H0 : Heap} {locs : List Loc} {cells slots : Nat} {Q : State → Prop} {cc : ByteArray} {nL : Nat} {D : va_G} {cy : Nat → ClassId} {A : Nat → Prop} {L : List Nat} {R : Nat → Nat} {f : Nat → va_E} {pc : Nat} {ls : Array Slot} {rest : List Value} {a : Nat}
theorem g_12_396 (F : CallFix p m c cc nL s args wsL_law RX12) (h : tS D cy A H0 L R (TT cy L R) f s H locs) (ha : a ∈ L) (hr : R a = 12) (hdg : decode cc pc = .ok (.getfield 396, 3)) (kk : ∀ x : Int32, x.toInt = fi f a 45 → W p l e R0 s m args below meth c H locs cells slots Q (F0 m (pc + 3) ls (.int x :: rest))) : W p l e R0 s m args below meth c H locs cells slots Q (F0 m pc ls (.ref a :: rest)) := tu_geti F h ha hr (fun e q => (T_12 e).mp q) rfl inlX12 rfl (Nat.le_of_ble_eq_true rfl) mw_1052 hdg (fun x h1 h2 h3 => kk x h1)
end
theorem dX12_how_62 : decode cX12_how 62 = .ok (.goto 19, 3) := by decide +kernel
theorem dX12_how_46 : decode cX12_how 46 = .ok (.aload_n 0, 1) := by decide +kernel
theorem dX12_how_47 : decode cX12_how 47 = .ok (.getfield 393, 3) := by decide +kernel
theorem mw_1050 : Cond.fieldLink RX12 393 "AskBackModel" "toldKey" "I" ∈ wsL_law := inr_44 _ (List.mem_of_getElem? (i := 18) rfl)
section
variable {p : Program} {l : Launch} {e : Env} {R0 : Room} {s : State} {m : MethodId} {args : Array Value} {below : List Frame} {meth : Method} {c : Code} {H H0 : Heap} {locs : List Loc} {cells slots : Nat} {Q : State → Prop} {cc : ByteArray} {nL : Nat} {D : va_G} {cy : Nat → ClassId} {A : Nat → Prop} {L : List Nat} {R : Nat → Nat} {f : Nat → va_E} {pc : Nat} {ls : Array Slot} {rest : List Value} {a : Nat}
theorem g_12_393 (F : CallFix p m c cc nL s args wsL_law RX12) (h : tS D cy A H0 L R (TT cy L R) f s H locs) (ha : a ∈ L) (hr : R a = 12) (hdg : decode cc pc = .ok (.getfield 393, 3)) (kk : ∀ x : Int32, x.toInt = fi f a 44 → W p l e R0 s m args below meth c H locs cells slots Q (F0 m (pc + 3) ls (.int x :: rest))) : W p l e R0 s m args below meth c H locs cells slots Q (F0 m pc ls (.ref a :: rest)) := tu_geti F h ha hr (fun e q => (T_12 e).mp q) rfl inlX12 rfl (Nat.le_of_ble_eq_true rfl) mw_1050 hdg (fun x h1 h2 h3 => kk x h1)
end
theorem dX12_how_50 : decode cX12_how 50 = .ok (.goto 31, 3) := by decide +kernel
theorem dX12_how_34 : decode cX12_how 34 = .ok (.aload_n 0, 1) := by decide +kernel
theorem dX12_how_35 : decode cX12_how 35 = .ok (.getfield 81, 3) := by decide +kernel
theorem dX12_how_38 : decode cX12_how 38 = .ok (.goto 43, 3) := by decide +kernel
theorem dX12_how_23 : decode cX12_how 23 = .ok (.aload_n 0, 1) := by decide +kernel
theorem dX12_how_24 : decode cX12_how 24 = .ok (.bipush 6, 2) := by decide +kernel
theorem dX12_how_26 : decode cX12_how 26 = .ok (.invokevirtual 194, 3) := by decide +kernel
theorem dX12_how_29 : decode cX12_how 29 = .ok (.ireturn, 1) := by decide +kernel
def rm_X12_how : Room := { frames := 1, cells := 0, slots := 0, locals := 21 }
set_option maxHeartbeats 4000000 in
set_option maxRecDepth 100000 in
theorem s_X12_how (l : Launch) (D : va_G) (cy : Nat → ClassId) (L : List Nat) (R O : Nat → Nat) (f0 : Nat → va_E) (a0 : Nat) (m_a0 : a0 ∈ L) (r_a0 : R a0 = 12) (x1 : Int32) : ∀ sz, Met l yX12_how (Cond.code yX12_how cX12_how 3 (some .int) :: wsL_law) rm_X12_how (va_Pc [.ref a0, .int x1] (tPZ D cy L R (TT cy L R) f0 sz)) (va_Qi (fun (r : Int32) f1 => fr L R [(12, 1)] [12] f0 f1) (tB D (tA L sz) L R (TT cy L R)) (tA L sz)) 0 0 (tA L sz) := by
  refine tw_enteri (by decide +kernel) rfl (Nat.le_of_ble_eq_true rfl) ?_
  intro p e s m below meth c A ls args Q F hZ h hl hret
  have hl : lv_has ls 3 [(0, .ref a0), (1, .int x1)] := hl
  have hk : fr L R [(12, 1)] [12] f0 f0 := fr.rf
  refine lv_iload_n F.1 F.2.1 dX12_how_0 rfl (lv_at hl 1 rfl) ?_
  refine tw_if_lt (tgt := 9) F dX12_how_1 (by decide) (fun b1 => ?_) (fun b1 => ?_)
  · refine lv_aload_n F.1 F.2.1 dX12_how_9 rfl (lv_at hl 0 rfl) ?_
    refine tw_iconst F dX12_how_10 ki_1 (fun z2 hz2 => ?_)
    refine tw_Vi (As := [.int z2]) F hZ h yk_X12_refuse mw_452 mw_453 mw_454 (s_X12_refuse l D cy L R O f0 a0 m_a0 r_a0 z2 ⟨by omega, by omega⟩) rfl rfl m_a0 r_a0 (fun e q => (T_12 e).mp q) rfl hl.1 rfl (Nat.le_of_ble_eq_true rfl) ⟨Nat.le_of_ble_eq_true rfl, Nat.le_of_ble_eq_true rfl⟩ ⟨Nat.le_of_ble_eq_true rfl, Nat.le_of_ble_eq_true rfl⟩ dX12_how_11 (fun v4 f3 H locs hp3 h => ?_)
    obtain ⟨hf3, hv4a, hv4b⟩ := hp3
    have hk : fr L R [(12, 1)] [12] f0 f3 := hk.tr hf3 rfl rfl
    exact hret f3 _ _ _ _ v4 dX12_how_14 rfl hk h
  · refine lv_iload_n F.1 F.2.1 dX12_how_4 rfl (lv_at hl 1 rfl) ?_
    refine tw_iconst F dX12_how_5 ki_4 (fun z5 hz5 => ?_)
    refine tw_icmp_le (tgt := 15) F dX12_how_6 (by decide) (fun b6 => ?_) (fun b6 => ?_)
    · refine lv_aload_n F.1 F.2.1 dX12_how_15 rfl (lv_at hl 0 rfl) ?_
      refine g_12_81 F h m_a0 r_a0 dX12_how_16 (fun v7 hv7 => ?_)
      refine tw_iconst F dX12_how_19 ki_m1 (fun z8 hz8 => ?_)
      refine tw_icmp_ne (tgt := 30) F dX12_how_20 (by decide) (fun b9 => ?_) (fun b9 => ?_)
      · refine lv_iload_n F.1 F.2.1 dX12_how_30 rfl (lv_at hl 1 rfl) ?_
        have j_81 : ∀ (ls : Array Slot) (y0_81 : Int32), lv_has ls 3 [(0, .ref a0)] → W p l e rm_X12_how s m args below meth c s.heap [] 0 0 Q (F0 m 81 ls [.int y0_81]) := by
          intro ls y0_81 hl
          refine lv_istore_n (lv' := [(2, .int y0_81), (0, .ref a0)]) F.1 F.2.1 dX12_how_81 rfl hl (by decide) rfl (fun ls hl => ?_)
          refine lv_iload_n F.1 F.2.1 dX12_how_82 rfl (lv_at hl 0 rfl) ?_
          refine tw_iconst F dX12_how_83 ki_m1 (fun z10 hz10 => ?_)
          refine tw_icmp_ne (tgt := 96) F dX12_how_84 (by decide) (fun b11 => ?_) (fun b11 => ?_)
          · refine lv_aload_n F.1 F.2.1 dX12_how_96 rfl (lv_at hl 1 rfl) ?_
            refine lv_iload_n F.1 F.2.1 dX12_how_97 rfl (lv_at hl 0 rfl) ?_
            refine tw_Vi (As := [.int y0_81]) F hZ h yk_X12_gives mw_499 mw_500 mw_501 (s_X12_gives l D cy L R O f0 a0 m_a0 r_a0 y0_81) rfl rfl m_a0 r_a0 (fun e q => (T_12 e).mp q) rfl hl.1 rfl (Nat.le_of_ble_eq_true rfl) ⟨Nat.le_of_ble_eq_true rfl, Nat.le_of_ble_eq_true rfl⟩ ⟨Nat.le_of_ble_eq_true rfl, Nat.le_of_ble_eq_true rfl⟩ dX12_how_98 (fun v13 f12 H locs hp12 h => ?_)
            have hf12 := hp12
            have hk : fr L R [(12, 1)] [12] f0 f12 := hk.tr hf12 rfl rfl
            have e14 : fi f12 a0 43 = fi f0 a0 43 := hf12.efi m_a0 r_a0 rfl
            exact hret f12 _ _ _ _ v13 dX12_how_101 rfl hk h
          · refine lv_aload_n F.1 F.2.1 dX12_how_87 rfl (lv_at hl 1 rfl) ?_
            refine tw_bipush F dX12_how_88 kb_6 (fun z15 hz15 => ?_)
            refine tw_Vi (As := [.int z15]) F hZ h yk_X12_refuse mw_452 mw_453 mw_454 (s_X12_refuse l D cy L R O f0 a0 m_a0 r_a0 z15 ⟨by omega, by omega⟩) rfl rfl m_a0 r_a0 (fun e q => (T_12 e).mp q) rfl hl.1 rfl (Nat.le_of_ble_eq_true rfl) ⟨Nat.le_of_ble_eq_true rfl, Nat.le_of_ble_eq_true rfl⟩ ⟨Nat.le_of_ble_eq_true rfl, Nat.le_of_ble_eq_true rfl⟩ dX12_how_90 (fun v17 f16 H locs hp16 h => ?_)
            obtain ⟨hf16, hv17a, hv17b⟩ := hp16
            have hk : fr L R [(12, 1)] [12] f0 f16 := hk.tr hf16 rfl rfl
            have e18 : fi f16 a0 43 = fi f0 a0 43 := hf16.efi m_a0 r_a0 rfl
            refine lv_goto (tgt := 101) F.1 F.2.1 dX12_how_93 (by decide) ?_
            exact hret f16 _ _ _ _ v17 dX12_how_101 rfl hk h
        refine tw_if_ne (tgt := 41) F dX12_how_31 (by decide) (fun b19 => ?_) (fun b19 => ?_)
        · refine lv_iload_n F.1 F.2.1 dX12_how_41 rfl (lv_at hl 1 rfl) ?_
          refine tw_iconst F dX12_how_42 ki_1 (fun z20 hz20 => ?_)
          refine tw_icmp_ne (tgt := 53) F dX12_how_43 (by decide) (fun b21 => ?_) (fun b21 => ?_)
          · refine lv_iload_n F.1 F.2.1 dX12_how_53 rfl (lv_at hl 1 rfl) ?_
            refine tw_iconst F dX12_how_54 ki_2 (fun z22 hz22 => ?_)
            refine tw_icmp_ne (tgt := 65) F dX12_how_55 (by decide) (fun b23 => ?_) (fun b23 => ?_)
            · refine lv_iload_n F.1 F.2.1 dX12_how_65 rfl (lv_at hl 1 rfl) ?_
              refine tw_iconst F dX12_how_66 ki_3 (fun z24 hz24 => ?_)
              refine tw_icmp_ne (tgt := 77) F dX12_how_67 (by decide) (fun b25 => ?_) (fun b25 => ?_)
              · refine lv_aload_n F.1 F.2.1 dX12_how_77 rfl (lv_at hl 0 rfl) ?_
                refine g_12_402 F h m_a0 r_a0 dX12_how_78 (fun v26 hv26 => ?_)
                exact j_81 _ v26 (lv_sub hl [0] rfl)
              · refine lv_aload_n F.1 F.2.1 dX12_how_70 rfl (lv_at hl 0 rfl) ?_
                refine g_12_399 F h m_a0 r_a0 dX12_how_71 (fun v27 hv27 => ?_)
                refine lv_goto (tgt := 81) F.1 F.2.1 dX12_how_74 (by decide) ?_
                exact j_81 _ v27 (lv_sub hl [0] rfl)
            · refine lv_aload_n F.1 F.2.1 dX12_how_58 rfl (lv_at hl 0 rfl) ?_
              refine g_12_396 F h m_a0 r_a0 dX12_how_59 (fun v28 hv28 => ?_)
              refine lv_goto (tgt := 81) F.1 F.2.1 dX12_how_62 (by decide) ?_
              exact j_81 _ v28 (lv_sub hl [0] rfl)
          · refine lv_aload_n F.1 F.2.1 dX12_how_46 rfl (lv_at hl 0 rfl) ?_
            refine g_12_393 F h m_a0 r_a0 dX12_how_47 (fun v29 hv29 => ?_)
            refine lv_goto (tgt := 81) F.1 F.2.1 dX12_how_50 (by decide) ?_
            exact j_81 _ v29 (lv_sub hl [0] rfl)
        · refine lv_aload_n F.1 F.2.1 dX12_how_34 rfl (lv_at hl 0 rfl) ?_
          refine g_12_81 F h m_a0 r_a0 dX12_how_35 (fun v30 hv30 => ?_)
          refine lv_goto (tgt := 81) F.1 F.2.1 dX12_how_38 (by decide) ?_
          exact j_81 _ v30 (lv_sub hl [0] rfl)
      · refine lv_aload_n F.1 F.2.1 dX12_how_23 rfl (lv_at hl 0 rfl) ?_
        refine tw_bipush F dX12_how_24 kb_6 (fun z31 hz31 => ?_)
        refine tw_Vi (As := [.int z31]) F hZ h yk_X12_refuse mw_452 mw_453 mw_454 (s_X12_refuse l D cy L R O f0 a0 m_a0 r_a0 z31 ⟨by omega, by omega⟩) rfl rfl m_a0 r_a0 (fun e q => (T_12 e).mp q) rfl hl.1 rfl (Nat.le_of_ble_eq_true rfl) ⟨Nat.le_of_ble_eq_true rfl, Nat.le_of_ble_eq_true rfl⟩ ⟨Nat.le_of_ble_eq_true rfl, Nat.le_of_ble_eq_true rfl⟩ dX12_how_26 (fun v33 f32 H locs hp32 h => ?_)
        obtain ⟨hf32, hv33a, hv33b⟩ := hp32
        have hk : fr L R [(12, 1)] [12] f0 f32 := hk.tr hf32 rfl rfl
        have e34 : fi f32 a0 43 = fi f0 a0 43 := hf32.efi m_a0 r_a0 rfl
        exact hret f32 _ _ _ _ v33 dX12_how_29 rfl hk h
    · refine lv_aload_n F.1 F.2.1 dX12_how_9 rfl (lv_at hl 0 rfl) ?_
      refine tw_iconst F dX12_how_10 ki_1 (fun z35 hz35 => ?_)
      refine tw_Vi (As := [.int z35]) F hZ h yk_X12_refuse mw_452 mw_453 mw_454 (s_X12_refuse l D cy L R O f0 a0 m_a0 r_a0 z35 ⟨by omega, by omega⟩) rfl rfl m_a0 r_a0 (fun e q => (T_12 e).mp q) rfl hl.1 rfl (Nat.le_of_ble_eq_true rfl) ⟨Nat.le_of_ble_eq_true rfl, Nat.le_of_ble_eq_true rfl⟩ ⟨Nat.le_of_ble_eq_true rfl, Nat.le_of_ble_eq_true rfl⟩ dX12_how_11 (fun v37 f36 H locs hp36 h => ?_)
      obtain ⟨hf36, hv37a, hv37b⟩ := hp36
      have hk : fr L R [(12, 1)] [12] f0 f36 := hk.tr hf36 rfl rfl
      exact hret f36 _ _ _ _ v37 dX12_how_14 rfl hk h
theorem dX12_led_0 : decode cX12_led 0 = .ok (.iload_n 1, 1) := by decide +kernel
theorem dX12_led_1 : decode cX12_led 1 = .ok (.ifCond .ge 11, 3) := by decide +kernel
theorem dX12_led_12 : decode cX12_led 12 = .ok (.iload_n 1, 1) := by decide +kernel
theorem dX12_led_13 : decode cX12_led 13 = .ok (.aload_n 0, 1) := by decide +kernel
theorem dX12_led_14 : decode cX12_led 14 = .ok (.getfield 422, 3) := by decide +kernel
theorem mw_1231 : Cond.fieldLink RX12 422 "AskBackModel" "ledMany" "I" ∈ wsL_law := inr_52 _ (List.mem_of_getElem? (i := 7) rfl)
section
variable {p : Program} {l : Launch} {e : Env} {R0 : Room} {s : State} {m : MethodId} {args : Array Value} {below : List Frame} {meth : Method} {c : Code} {H H0 : Heap} {locs : List Loc} {cells slots : Nat} {Q : State → Prop} {cc : ByteArray} {nL : Nat} {D : va_G} {cy : Nat → ClassId} {A : Nat → Prop} {L : List Nat} {R : Nat → Nat} {f : Nat → va_E} {pc : Nat} {ls : Array Slot} {rest : List Value} {a : Nat}
theorem g_12_422 (F : CallFix p m c cc nL s args wsL_law RX12) (h : tS D cy A H0 L R (TT cy L R) f s H locs) (ha : a ∈ L) (hr : R a = 12) (hdg : decode cc pc = .ok (.getfield 422, 3)) (kk : ∀ x : Int32, x.toInt = fi f a 54 → 0 ≤ x.toInt → x.toInt ≤ 5 → W p l e R0 s m args below meth c H locs cells slots Q (F0 m (pc + 3) ls (.int x :: rest))) : W p l e R0 s m args below meth c H locs cells slots Q (F0 m pc ls (.ref a :: rest)) := tu_geti F h ha hr (fun e q => (T_12 e).mp q) rfl inlX12 rfl (Nat.le_of_ble_eq_true rfl) mw_1231 hdg (fun x h1 h2 h3 => kk x h1 h2 h3)
end
theorem dX12_led_17 : decode cX12_led 17 = .ok (.if_icmp .lt 12, 3) := by decide +kernel
theorem dX12_led_29 : decode cX12_led 29 = .ok (.aload_n 0, 1) := by decide +kernel
theorem dX12_led_30 : decode cX12_led 30 = .ok (.aload_n 0, 1) := by decide +kernel
theorem dX12_led_31 : decode cX12_led 31 = .ok (.getfield 96, 3) := by decide +kernel
theorem mw_229 : Cond.fieldLink RX12 96 "AskBackModel" "ledRow" "[I" ∈ wsL_law := inr_10 _ (List.mem_of_getElem? (i := 13) rfl)
section
variable {p : Program} {l : Launch} {e : Env} {R0 : Room} {s : State} {m : MethodId} {args : Array Value} {below : List Frame} {meth : Method} {c : Code} {H H0 : Heap} {locs : List Loc} {cells slots : Nat} {Q : State → Prop} {cc : ByteArray} {nL : Nat} {D : va_G} {cy : Nat → ClassId} {A : Nat → Prop} {L : List Nat} {R : Nat → Nat} {f : Nat → va_E} {pc : Nat} {ls : Array Slot} {rest : List Value} {a : Nat}
theorem g_12_96 (F : CallFix p m c cc nL s args wsL_law RX12) (h : tS D cy A H0 L R (TT cy L R) f s H locs) (ha : a ∈ L) (hr : R a = 12) (hdg : decode cc pc = .ok (.getfield 96, 3)) (kk : ∀ b : Nat, b ∈ L → R b = 82 → fld f a 53 = .ref b → W p l e R0 s m args below meth c H locs cells slots Q (F0 m (pc + 3) ls (.ref b :: rest))) : W p l e R0 s m args below meth c H locs cells slots Q (F0 m pc ls (.ref a :: rest)) := tu_getr F h ha hr (fun e q => (T_12 e).mp q) rfl inlX12 rfl (Nat.le_of_ble_eq_true rfl) mw_229 hdg kk
end
theorem dX12_led_34 : decode cX12_led 34 = .ok (.iload_n 1, 1) := by decide +kernel
theorem dX12_led_35 : decode cX12_led 35 = .ok (.iaload, 1) := by decide +kernel
section
variable {p : Program} {l : Launch} {e : Env} {R0 : Room} {s : State} {m : MethodId} {args : Array Value} {below : List Frame} {meth : Method} {c : Code} {H H0 : Heap} {locs : List Loc} {cells slots : Nat} {Q : State → Prop} {cc : ByteArray} {nL : Nat} {D : va_G} {cy : Nat → ClassId} {A : Nat → Prop} {L : List Nat} {R : Nat → Nat} {f : Nat → va_E} {pc : Nat} {ls : Array Slot} {rest : List Value} {a : Nat}
theorem ld_82 {own : String} (F : CallFix p m c cc nL s args wsL_law own) (h : tS D cy A H0 L R (TT cy L R) f s H locs) {i : Int32} (ha : a ∈ L) (hr : R a = 82) (hb : 0 ≤ i.toInt ∧ i.toInt < 5) (hdg : decode cc pc = .ok (.iaload, 1)) (kk : ∀ x : Int32, W p l e R0 s m args below meth c H locs cells slots Q (F0 m (pc + 1) ls (.int x :: rest))) : W p l e R0 s m args below meth c H locs cells slots Q (F0 m pc ls (.int i :: .ref a :: rest)) := tu_iald F h ha hr (fun e q => (T_82 e).mp q) hb.1 hb.2 hdg (fun x h1 h2 => kk x)
end
theorem dX12_led_36 : decode cX12_led 36 = .ok (.invokevirtual 209, 3) := by decide +kernel
theorem dX12_led_39 : decode cX12_led 39 = .ok (.ireturn, 1) := by decide +kernel
theorem dX12_led_20 : decode cX12_led 20 = .ok (.aload_n 0, 1) := by decide +kernel
theorem dX12_led_21 : decode cX12_led 21 = .ok (.bipush 6, 2) := by decide +kernel
theorem dX12_led_23 : decode cX12_led 23 = .ok (.invokevirtual 194, 3) := by decide +kernel
theorem dX12_led_26 : decode cX12_led 26 = .ok (.goto 13, 3) := by decide +kernel
theorem dX12_led_4 : decode cX12_led 4 = .ok (.aload_n 0, 1) := by decide +kernel
theorem dX12_led_5 : decode cX12_led 5 = .ok (.iconst 1, 1) := by decide +kernel
theorem dX12_led_6 : decode cX12_led 6 = .ok (.invokevirtual 194, 3) := by decide +kernel
theorem dX12_led_9 : decode cX12_led 9 = .ok (.goto 30, 3) := by decide +kernel
def rm_X12_led : Room := { frames := 1, cells := 0, slots := 0, locals := 21 }
set_option maxHeartbeats 4000000 in
set_option maxRecDepth 100000 in
theorem s_X12_led (l : Launch) (D : va_G) (cy : Nat → ClassId) (L : List Nat) (R O : Nat → Nat) (f0 : Nat → va_E) (a0 : Nat) (m_a0 : a0 ∈ L) (r_a0 : R a0 = 12) (x1 : Int32) : ∀ sz, Met l yX12_led (Cond.code yX12_led cX12_led 2 (some .int) :: wsL_law) rm_X12_led (va_Pc [.ref a0, .int x1] (tPZ D cy L R (TT cy L R) f0 sz)) (va_Qi (fun (r : Int32) f1 => fr L R [(12, 1)] [12] f0 f1) (tB D (tA L sz) L R (TT cy L R)) (tA L sz)) 0 0 (tA L sz) := by
  refine tw_enteri (by decide +kernel) rfl (Nat.le_of_ble_eq_true rfl) ?_
  intro p e s m below meth c A ls args Q F hZ h hl hret
  have hl : lv_has ls 2 [(0, .ref a0), (1, .int x1)] := hl
  have hk : fr L R [(12, 1)] [12] f0 f0 := fr.rf
  refine lv_iload_n F.1 F.2.1 dX12_led_0 rfl (lv_at hl 1 rfl) ?_
  refine tw_if_ge (tgt := 12) F dX12_led_1 (by decide) (fun b1 => ?_) (fun b1 => ?_)
  · refine lv_iload_n F.1 F.2.1 dX12_led_12 rfl (lv_at hl 1 rfl) ?_
    refine lv_aload_n F.1 F.2.1 dX12_led_13 rfl (lv_at hl 0 rfl) ?_
    refine g_12_422 F h m_a0 r_a0 dX12_led_14 (fun v2 hv2 hv2a hv2b => ?_)
    refine tw_icmp_lt (tgt := 29) F dX12_led_17 (by decide) (fun b3 => ?_) (fun b3 => ?_)
    · refine lv_aload_n F.1 F.2.1 dX12_led_29 rfl (lv_at hl 0 rfl) ?_
      refine lv_aload_n F.1 F.2.1 dX12_led_30 rfl (lv_at hl 0 rfl) ?_
      refine g_12_96 F h m_a0 r_a0 dX12_led_31 (fun o4 m_o4 r_o4 ho4 => ?_)
      refine lv_iload_n F.1 F.2.1 dX12_led_34 rfl (lv_at hl 1 rfl) ?_
      refine ld_82 F h m_o4 r_o4 (by omega) dX12_led_35 (fun v5 => ?_)
      refine tw_Vi (As := [.int v5]) F hZ h yk_X12_gives mw_499 mw_500 mw_501 (s_X12_gives l D cy L R O f0 a0 m_a0 r_a0 v5) rfl rfl m_a0 r_a0 (fun e q => (T_12 e).mp q) rfl hl.1 rfl (Nat.le_of_ble_eq_true rfl) ⟨Nat.le_of_ble_eq_true rfl, Nat.le_of_ble_eq_true rfl⟩ ⟨Nat.le_of_ble_eq_true rfl, Nat.le_of_ble_eq_true rfl⟩ dX12_led_36 (fun v7 f6 H locs hp6 h => ?_)
      have hf6 := hp6
      have hk : fr L R [(12, 1)] [12] f0 f6 := hk.tr hf6 rfl rfl
      exact hret f6 _ _ _ _ v7 dX12_led_39 rfl hk h
    · refine lv_aload_n F.1 F.2.1 dX12_led_20 rfl (lv_at hl 0 rfl) ?_
      refine tw_bipush F dX12_led_21 kb_6 (fun z8 hz8 => ?_)
      refine tw_Vi (As := [.int z8]) F hZ h yk_X12_refuse mw_452 mw_453 mw_454 (s_X12_refuse l D cy L R O f0 a0 m_a0 r_a0 z8 ⟨by omega, by omega⟩) rfl rfl m_a0 r_a0 (fun e q => (T_12 e).mp q) rfl hl.1 rfl (Nat.le_of_ble_eq_true rfl) ⟨Nat.le_of_ble_eq_true rfl, Nat.le_of_ble_eq_true rfl⟩ ⟨Nat.le_of_ble_eq_true rfl, Nat.le_of_ble_eq_true rfl⟩ dX12_led_23 (fun v10 f9 H locs hp9 h => ?_)
      obtain ⟨hf9, hv10a, hv10b⟩ := hp9
      have hk : fr L R [(12, 1)] [12] f0 f9 := hk.tr hf9 rfl rfl
      refine lv_goto (tgt := 39) F.1 F.2.1 dX12_led_26 (by decide) ?_
      exact hret f9 _ _ _ _ v10 dX12_led_39 rfl hk h
  · refine lv_aload_n F.1 F.2.1 dX12_led_4 rfl (lv_at hl 0 rfl) ?_
    refine tw_iconst F dX12_led_5 ki_1 (fun z11 hz11 => ?_)
    refine tw_Vi (As := [.int z11]) F hZ h yk_X12_refuse mw_452 mw_453 mw_454 (s_X12_refuse l D cy L R O f0 a0 m_a0 r_a0 z11 ⟨by omega, by omega⟩) rfl rfl m_a0 r_a0 (fun e q => (T_12 e).mp q) rfl hl.1 rfl (Nat.le_of_ble_eq_true rfl) ⟨Nat.le_of_ble_eq_true rfl, Nat.le_of_ble_eq_true rfl⟩ ⟨Nat.le_of_ble_eq_true rfl, Nat.le_of_ble_eq_true rfl⟩ dX12_led_6 (fun v13 f12 H locs hp12 h => ?_)
    obtain ⟨hf12, hv13a, hv13b⟩ := hp12
    have hk : fr L R [(12, 1)] [12] f0 f12 := hk.tr hf12 rfl rfl
    refine lv_goto (tgt := 39) F.1 F.2.1 dX12_led_9 (by decide) ?_
    exact hret f12 _ _ _ _ v13 dX12_led_39 rfl hk h
theorem dX12_ring_0 : decode cX12_ring 0 = .ok (.iload_n 1, 1) := by decide +kernel
theorem dX12_ring_1 : decode cX12_ring 1 = .ok (.ifCond .lt 8, 3) := by decide +kernel
theorem dX12_ring_9 : decode cX12_ring 9 = .ok (.aload_n 0, 1) := by decide +kernel
theorem dX12_ring_10 : decode cX12_ring 10 = .ok (.iconst 1, 1) := by decide +kernel
theorem dX12_ring_11 : decode cX12_ring 11 = .ok (.invokevirtual 194, 3) := by decide +kernel
theorem dX12_ring_14 : decode cX12_ring 14 = .ok (.ireturn, 1) := by decide +kernel
theorem dX12_ring_4 : decode cX12_ring 4 = .ok (.iload_n 1, 1) := by decide +kernel
theorem dX12_ring_5 : decode cX12_ring 5 = .ok (.iconst 1, 1) := by decide +kernel
theorem dX12_ring_6 : decode cX12_ring 6 = .ok (.if_icmp .le 9, 3) := by decide +kernel
theorem dX12_ring_15 : decode cX12_ring 15 = .ok (.aload_n 0, 1) := by decide +kernel
theorem dX12_ring_16 : decode cX12_ring 16 = .ok (.getfield 103, 3) := by decide +kernel
theorem mw_232 : Cond.fieldLink RX12 103 "AskBackModel" "ringFrom" "I" ∈ wsL_law := inr_10 _ (List.mem_of_getElem? (i := 16) rfl)
section
variable {p : Program} {l : Launch} {e : Env} {R0 : Room} {s : State} {m : MethodId} {args : Array Value} {below : List Frame} {meth : Method} {c : Code} {H H0 : Heap} {locs : List Loc} {cells slots : Nat} {Q : State → Prop} {cc : ByteArray} {nL : Nat} {D : va_G} {cy : Nat → ClassId} {A : Nat → Prop} {L : List Nat} {R : Nat → Nat} {f : Nat → va_E} {pc : Nat} {ls : Array Slot} {rest : List Value} {a : Nat}
theorem g_12_103 (F : CallFix p m c cc nL s args wsL_law RX12) (h : tS D cy A H0 L R (TT cy L R) f s H locs) (ha : a ∈ L) (hr : R a = 12) (hdg : decode cc pc = .ok (.getfield 103, 3)) (kk : ∀ x : Int32, x.toInt = fi f a 56 → W p l e R0 s m args below meth c H locs cells slots Q (F0 m (pc + 3) ls (.int x :: rest))) : W p l e R0 s m args below meth c H locs cells slots Q (F0 m pc ls (.ref a :: rest)) := tu_geti F h ha hr (fun e q => (T_12 e).mp q) rfl inlX12 rfl (Nat.le_of_ble_eq_true rfl) mw_232 hdg (fun x h1 h2 h3 => kk x h1)
end
theorem dX12_ring_19 : decode cX12_ring 19 = .ok (.iconst (-1), 1) := by decide +kernel
theorem dX12_ring_20 : decode cX12_ring 20 = .ok (.if_icmp .ne 12, 3) := by decide +kernel
theorem dX12_ring_32 : decode cX12_ring 32 = .ok (.aload_n 0, 1) := by decide +kernel
theorem dX12_ring_33 : decode cX12_ring 33 = .ok (.iload_n 1, 1) := by decide +kernel
theorem dX12_ring_34 : decode cX12_ring 34 = .ok (.ifCond .ne 10, 3) := by decide +kernel
theorem dX12_ring_44 : decode cX12_ring 44 = .ok (.aload_n 0, 1) := by decide +kernel
theorem dX12_ring_45 : decode cX12_ring 45 = .ok (.getfield 431, 3) := by decide +kernel
theorem mw_1306 : Cond.fieldLink RX12 431 "AskBackModel" "ringLong" "I" ∈ wsL_law := inr_55 _ (List.mem_of_getElem? (i := 10) rfl)
section
variable {p : Program} {l : Launch} {e : Env} {R0 : Room} {s : State} {m : MethodId} {args : Array Value} {below : List Frame} {meth : Method} {c : Code} {H H0 : Heap} {locs : List Loc} {cells slots : Nat} {Q : State → Prop} {cc : ByteArray} {nL : Nat} {D : va_G} {cy : Nat → ClassId} {A : Nat → Prop} {L : List Nat} {R : Nat → Nat} {f : Nat → va_E} {pc : Nat} {ls : Array Slot} {rest : List Value} {a : Nat}
theorem g_12_431 (F : CallFix p m c cc nL s args wsL_law RX12) (h : tS D cy A H0 L R (TT cy L R) f s H locs) (ha : a ∈ L) (hr : R a = 12) (hdg : decode cc pc = .ok (.getfield 431, 3)) (kk : ∀ x : Int32, x.toInt = fi f a 57 → W p l e R0 s m args below meth c H locs cells slots Q (F0 m (pc + 3) ls (.int x :: rest))) : W p l e R0 s m args below meth c H locs cells slots Q (F0 m pc ls (.ref a :: rest)) := tu_geti F h ha hr (fun e q => (T_12 e).mp q) rfl inlX12 rfl (Nat.le_of_ble_eq_true rfl) mw_1306 hdg (fun x h1 h2 h3 => kk x h1)
end
theorem dX12_ring_48 : decode cX12_ring 48 = .ok (.invokevirtual 209, 3) := by decide +kernel
theorem dX12_ring_51 : decode cX12_ring 51 = .ok (.ireturn, 1) := by decide +kernel
theorem dX12_ring_37 : decode cX12_ring 37 = .ok (.aload_n 0, 1) := by decide +kernel
theorem dX12_ring_38 : decode cX12_ring 38 = .ok (.getfield 103, 3) := by decide +kernel
theorem dX12_ring_41 : decode cX12_ring 41 = .ok (.goto 7, 3) := by decide +kernel
theorem dX12_ring_23 : decode cX12_ring 23 = .ok (.aload_n 0, 1) := by decide +kernel
theorem dX12_ring_24 : decode cX12_ring 24 = .ok (.bipush 6, 2) := by decide +kernel
theorem dX12_ring_26 : decode cX12_ring 26 = .ok (.invokevirtual 194, 3) := by decide +kernel
theorem dX12_ring_29 : decode cX12_ring 29 = .ok (.goto 22, 3) := by decide +kernel
def rm_X12_ring : Room := { frames := 1, cells := 0, slots := 0, locals := 21 }
set_option maxHeartbeats 4000000 in
set_option maxRecDepth 100000 in
theorem s_X12_ring (l : Launch) (D : va_G) (cy : Nat → ClassId) (L : List Nat) (R O : Nat → Nat) (f0 : Nat → va_E) (a0 : Nat) (m_a0 : a0 ∈ L) (r_a0 : R a0 = 12) (x1 : Int32) : ∀ sz, Met l yX12_ring (Cond.code yX12_ring cX12_ring 2 (some .int) :: wsL_law) rm_X12_ring (va_Pc [.ref a0, .int x1] (tPZ D cy L R (TT cy L R) f0 sz)) (va_Qi (fun (r : Int32) f1 => fr L R [(12, 1)] [12] f0 f1) (tB D (tA L sz) L R (TT cy L R)) (tA L sz)) 0 0 (tA L sz) := by
  refine tw_enteri (by decide +kernel) rfl (Nat.le_of_ble_eq_true rfl) ?_
  intro p e s m below meth c A ls args Q F hZ h hl hret
  have hl : lv_has ls 2 [(0, .ref a0), (1, .int x1)] := hl
  have hk : fr L R [(12, 1)] [12] f0 f0 := fr.rf
  refine lv_iload_n F.1 F.2.1 dX12_ring_0 rfl (lv_at hl 1 rfl) ?_
  refine tw_if_lt (tgt := 9) F dX12_ring_1 (by decide) (fun b1 => ?_) (fun b1 => ?_)
  · refine lv_aload_n F.1 F.2.1 dX12_ring_9 rfl (lv_at hl 0 rfl) ?_
    refine tw_iconst F dX12_ring_10 ki_1 (fun z2 hz2 => ?_)
    refine tw_Vi (As := [.int z2]) F hZ h yk_X12_refuse mw_452 mw_453 mw_454 (s_X12_refuse l D cy L R O f0 a0 m_a0 r_a0 z2 ⟨by omega, by omega⟩) rfl rfl m_a0 r_a0 (fun e q => (T_12 e).mp q) rfl hl.1 rfl (Nat.le_of_ble_eq_true rfl) ⟨Nat.le_of_ble_eq_true rfl, Nat.le_of_ble_eq_true rfl⟩ ⟨Nat.le_of_ble_eq_true rfl, Nat.le_of_ble_eq_true rfl⟩ dX12_ring_11 (fun v4 f3 H locs hp3 h => ?_)
    obtain ⟨hf3, hv4a, hv4b⟩ := hp3
    have hk : fr L R [(12, 1)] [12] f0 f3 := hk.tr hf3 rfl rfl
    exact hret f3 _ _ _ _ v4 dX12_ring_14 rfl hk h
  · refine lv_iload_n F.1 F.2.1 dX12_ring_4 rfl (lv_at hl 1 rfl) ?_
    refine tw_iconst F dX12_ring_5 ki_1 (fun z5 hz5 => ?_)
    refine tw_icmp_le (tgt := 15) F dX12_ring_6 (by decide) (fun b6 => ?_) (fun b6 => ?_)
    · refine lv_aload_n F.1 F.2.1 dX12_ring_15 rfl (lv_at hl 0 rfl) ?_
      refine g_12_103 F h m_a0 r_a0 dX12_ring_16 (fun v7 hv7 => ?_)
      refine tw_iconst F dX12_ring_19 ki_m1 (fun z8 hz8 => ?_)
      refine tw_icmp_ne (tgt := 32) F dX12_ring_20 (by decide) (fun b9 => ?_) (fun b9 => ?_)
      · refine lv_aload_n F.1 F.2.1 dX12_ring_32 rfl (lv_at hl 0 rfl) ?_
        refine lv_iload_n F.1 F.2.1 dX12_ring_33 rfl (lv_at hl 1 rfl) ?_
        refine tw_if_ne (tgt := 44) F dX12_ring_34 (by decide) (fun b10 => ?_) (fun b10 => ?_)
        · refine lv_aload_n F.1 F.2.1 dX12_ring_44 rfl (lv_at hl 0 rfl) ?_
          refine g_12_431 F h m_a0 r_a0 dX12_ring_45 (fun v11 hv11 => ?_)
          refine tw_Vi (As := [.int v11]) F hZ h yk_X12_gives mw_499 mw_500 mw_501 (s_X12_gives l D cy L R O f0 a0 m_a0 r_a0 v11) rfl rfl m_a0 r_a0 (fun e q => (T_12 e).mp q) rfl hl.1 rfl (Nat.le_of_ble_eq_true rfl) ⟨Nat.le_of_ble_eq_true rfl, Nat.le_of_ble_eq_true rfl⟩ ⟨Nat.le_of_ble_eq_true rfl, Nat.le_of_ble_eq_true rfl⟩ dX12_ring_48 (fun v13 f12 H locs hp12 h => ?_)
          have hf12 := hp12
          have hk : fr L R [(12, 1)] [12] f0 f12 := hk.tr hf12 rfl rfl
          have e14 : fi f12 a0 56 = fi f0 a0 56 := hf12.efi m_a0 r_a0 rfl
          exact hret f12 _ _ _ _ v13 dX12_ring_51 rfl hk h
        · refine lv_aload_n F.1 F.2.1 dX12_ring_37 rfl (lv_at hl 0 rfl) ?_
          refine g_12_103 F h m_a0 r_a0 dX12_ring_38 (fun v15 hv15 => ?_)
          refine lv_goto (tgt := 48) F.1 F.2.1 dX12_ring_41 (by decide) ?_
          refine tw_Vi (As := [.int v15]) F hZ h yk_X12_gives mw_499 mw_500 mw_501 (s_X12_gives l D cy L R O f0 a0 m_a0 r_a0 v15) rfl rfl m_a0 r_a0 (fun e q => (T_12 e).mp q) rfl hl.1 rfl (Nat.le_of_ble_eq_true rfl) ⟨Nat.le_of_ble_eq_true rfl, Nat.le_of_ble_eq_true rfl⟩ ⟨Nat.le_of_ble_eq_true rfl, Nat.le_of_ble_eq_true rfl⟩ dX12_ring_48 (fun v17 f16 H locs hp16 h => ?_)
          have hf16 := hp16
          have hk : fr L R [(12, 1)] [12] f0 f16 := hk.tr hf16 rfl rfl
          have e18 : fi f16 a0 56 = fi f0 a0 56 := hf16.efi m_a0 r_a0 rfl
          exact hret f16 _ _ _ _ v17 dX12_ring_51 rfl hk h
      · refine lv_aload_n F.1 F.2.1 dX12_ring_23 rfl (lv_at hl 0 rfl) ?_
        refine tw_bipush F dX12_ring_24 kb_6 (fun z19 hz19 => ?_)
        refine tw_Vi (As := [.int z19]) F hZ h yk_X12_refuse mw_452 mw_453 mw_454 (s_X12_refuse l D cy L R O f0 a0 m_a0 r_a0 z19 ⟨by omega, by omega⟩) rfl rfl m_a0 r_a0 (fun e q => (T_12 e).mp q) rfl hl.1 rfl (Nat.le_of_ble_eq_true rfl) ⟨Nat.le_of_ble_eq_true rfl, Nat.le_of_ble_eq_true rfl⟩ ⟨Nat.le_of_ble_eq_true rfl, Nat.le_of_ble_eq_true rfl⟩ dX12_ring_26 (fun v21 f20 H locs hp20 h => ?_)
        obtain ⟨hf20, hv21a, hv21b⟩ := hp20
        have hk : fr L R [(12, 1)] [12] f0 f20 := hk.tr hf20 rfl rfl
        have e22 : fi f20 a0 56 = fi f0 a0 56 := hf20.efi m_a0 r_a0 rfl
        refine lv_goto (tgt := 51) F.1 F.2.1 dX12_ring_29 (by decide) ?_
        exact hret f20 _ _ _ _ v21 dX12_ring_51 rfl hk h
    · refine lv_aload_n F.1 F.2.1 dX12_ring_9 rfl (lv_at hl 0 rfl) ?_
      refine tw_iconst F dX12_ring_10 ki_1 (fun z23 hz23 => ?_)
      refine tw_Vi (As := [.int z23]) F hZ h yk_X12_refuse mw_452 mw_453 mw_454 (s_X12_refuse l D cy L R O f0 a0 m_a0 r_a0 z23 ⟨by omega, by omega⟩) rfl rfl m_a0 r_a0 (fun e q => (T_12 e).mp q) rfl hl.1 rfl (Nat.le_of_ble_eq_true rfl) ⟨Nat.le_of_ble_eq_true rfl, Nat.le_of_ble_eq_true rfl⟩ ⟨Nat.le_of_ble_eq_true rfl, Nat.le_of_ble_eq_true rfl⟩ dX12_ring_11 (fun v25 f24 H locs hp24 h => ?_)
      obtain ⟨hf24, hv25a, hv25b⟩ := hp24
      have hk : fr L R [(12, 1)] [12] f0 f24 := hk.tr hf24 rfl rfl
      exact hret f24 _ _ _ _ v25 dX12_ring_14 rfl hk h
theorem dX12_leastSet_0 : decode cX12_leastSet 0 = .ok (.aload_n 0, 1) := by decide +kernel
theorem dX12_leastSet_1 : decode cX12_leastSet 1 = .ok (.getfield 109, 3) := by decide +kernel
theorem mw_234 : Cond.fieldLink RX12 109 "AskBackModel" "leastTold" "I" ∈ wsL_law := inr_10 _ (List.mem_of_getElem? (i := 18) rfl)
section
variable {p : Program} {l : Launch} {e : Env} {R0 : Room} {s : State} {m : MethodId} {args : Array Value} {below : List Frame} {meth : Method} {c : Code} {H H0 : Heap} {locs : List Loc} {cells slots : Nat} {Q : State → Prop} {cc : ByteArray} {nL : Nat} {D : va_G} {cy : Nat → ClassId} {A : Nat → Prop} {L : List Nat} {R : Nat → Nat} {f : Nat → va_E} {pc : Nat} {ls : Array Slot} {rest : List Value} {a : Nat}
theorem g_12_109 (F : CallFix p m c cc nL s args wsL_law RX12) (h : tS D cy A H0 L R (TT cy L R) f s H locs) (ha : a ∈ L) (hr : R a = 12) (hdg : decode cc pc = .ok (.getfield 109, 3)) (kk : ∀ x : Int32, x.toInt = fi f a 59 → W p l e R0 s m args below meth c H locs cells slots Q (F0 m (pc + 3) ls (.int x :: rest))) : W p l e R0 s m args below meth c H locs cells slots Q (F0 m pc ls (.ref a :: rest)) := tu_geti F h ha hr (fun e q => (T_12 e).mp q) rfl inlX12 rfl (Nat.le_of_ble_eq_true rfl) mw_234 hdg (fun x h1 h2 h3 => kk x h1)
end
theorem dX12_leastSet_4 : decode cX12_leastSet 4 = .ok (.iconst (-1), 1) := by decide +kernel
theorem dX12_leastSet_5 : decode cX12_leastSet 5 = .ok (.if_icmp .ne 12, 3) := by decide +kernel
theorem dX12_leastSet_17 : decode cX12_leastSet 17 = .ok (.aload_n 0, 1) := by decide +kernel
theorem dX12_leastSet_18 : decode cX12_leastSet 18 = .ok (.aload_n 0, 1) := by decide +kernel
theorem dX12_leastSet_19 : decode cX12_leastSet 19 = .ok (.getfield 109, 3) := by decide +kernel
theorem dX12_leastSet_22 : decode cX12_leastSet 22 = .ok (.invokevirtual 209, 3) := by decide +kernel
theorem dX12_leastSet_25 : decode cX12_leastSet 25 = .ok (.ireturn, 1) := by decide +kernel
theorem dX12_leastSet_8 : decode cX12_leastSet 8 = .ok (.aload_n 0, 1) := by decide +kernel
theorem dX12_leastSet_9 : decode cX12_leastSet 9 = .ok (.bipush 6, 2) := by decide +kernel
theorem dX12_leastSet_11 : decode cX12_leastSet 11 = .ok (.invokevirtual 194, 3) := by decide +kernel
theorem dX12_leastSet_14 : decode cX12_leastSet 14 = .ok (.goto 11, 3) := by decide +kernel
def rm_X12_leastSet : Room := { frames := 1, cells := 0, slots := 0, locals := 21 }
set_option maxHeartbeats 4000000 in
set_option maxRecDepth 100000 in
theorem s_X12_leastSet (l : Launch) (D : va_G) (cy : Nat → ClassId) (L : List Nat) (R O : Nat → Nat) (f0 : Nat → va_E) (a0 : Nat) (m_a0 : a0 ∈ L) (r_a0 : R a0 = 12) : ∀ sz, Met l yX12_leastSet (Cond.code yX12_leastSet cX12_leastSet 1 (some .int) :: wsL_law) rm_X12_leastSet (va_Pc [.ref a0] (tPZ D cy L R (TT cy L R) f0 sz)) (va_Qi (fun (r : Int32) f1 => fr L R [(12, 1)] [12] f0 f1) (tB D (tA L sz) L R (TT cy L R)) (tA L sz)) 0 0 (tA L sz) := by
  refine tw_enteri (by decide +kernel) rfl (Nat.le_of_ble_eq_true rfl) ?_
  intro p e s m below meth c A ls args Q F hZ h hl hret
  have hl : lv_has ls 1 [(0, .ref a0)] := hl
  have hk : fr L R [(12, 1)] [12] f0 f0 := fr.rf
  refine lv_aload_n F.1 F.2.1 dX12_leastSet_0 rfl (lv_at hl 0 rfl) ?_
  refine g_12_109 F h m_a0 r_a0 dX12_leastSet_1 (fun v1 hv1 => ?_)
  refine tw_iconst F dX12_leastSet_4 ki_m1 (fun z2 hz2 => ?_)
  refine tw_icmp_ne (tgt := 17) F dX12_leastSet_5 (by decide) (fun b3 => ?_) (fun b3 => ?_)
  · refine lv_aload_n F.1 F.2.1 dX12_leastSet_17 rfl (lv_at hl 0 rfl) ?_
    refine lv_aload_n F.1 F.2.1 dX12_leastSet_18 rfl (lv_at hl 0 rfl) ?_
    refine g_12_109 F h m_a0 r_a0 dX12_leastSet_19 (fun v4 hv4 => ?_)
    refine tw_Vi (As := [.int v4]) F hZ h yk_X12_gives mw_499 mw_500 mw_501 (s_X12_gives l D cy L R O f0 a0 m_a0 r_a0 v4) rfl rfl m_a0 r_a0 (fun e q => (T_12 e).mp q) rfl hl.1 rfl (Nat.le_of_ble_eq_true rfl) ⟨Nat.le_of_ble_eq_true rfl, Nat.le_of_ble_eq_true rfl⟩ ⟨Nat.le_of_ble_eq_true rfl, Nat.le_of_ble_eq_true rfl⟩ dX12_leastSet_22 (fun v6 f5 H locs hp5 h => ?_)
    have hf5 := hp5
    have hk : fr L R [(12, 1)] [12] f0 f5 := hk.tr hf5 rfl rfl
    have e7 : fi f5 a0 59 = fi f0 a0 59 := hf5.efi m_a0 r_a0 rfl
    exact hret f5 _ _ _ _ v6 dX12_leastSet_25 rfl hk h
  · refine lv_aload_n F.1 F.2.1 dX12_leastSet_8 rfl (lv_at hl 0 rfl) ?_
    refine tw_bipush F dX12_leastSet_9 kb_6 (fun z8 hz8 => ?_)
    refine tw_Vi (As := [.int z8]) F hZ h yk_X12_refuse mw_452 mw_453 mw_454 (s_X12_refuse l D cy L R O f0 a0 m_a0 r_a0 z8 ⟨by omega, by omega⟩) rfl rfl m_a0 r_a0 (fun e q => (T_12 e).mp q) rfl hl.1 rfl (Nat.le_of_ble_eq_true rfl) ⟨Nat.le_of_ble_eq_true rfl, Nat.le_of_ble_eq_true rfl⟩ ⟨Nat.le_of_ble_eq_true rfl, Nat.le_of_ble_eq_true rfl⟩ dX12_leastSet_11 (fun v10 f9 H locs hp9 h => ?_)
    obtain ⟨hf9, hv10a, hv10b⟩ := hp9
    have hk : fr L R [(12, 1)] [12] f0 f9 := hk.tr hf9 rfl rfl
    have e11 : fi f9 a0 59 = fi f0 a0 59 := hf9.efi m_a0 r_a0 rfl
    refine lv_goto (tgt := 25) F.1 F.2.1 dX12_leastSet_14 (by decide) ?_
    exact hret f9 _ _ _ _ v10 dX12_leastSet_25 rfl hk h
theorem dX12_ahead_0 : decode cX12_ahead 0 = .ok (.aload_n 0, 1) := by decide +kernel
theorem dX12_ahead_1 : decode cX12_ahead 1 = .ok (.getfield 112, 3) := by decide +kernel
theorem mw_235 : Cond.fieldLink RX12 112 "AskBackModel" "orderMany" "I" ∈ wsL_law := inr_10 _ (List.mem_of_getElem? (i := 19) rfl)
section
variable {p : Program} {l : Launch} {e : Env} {R0 : Room} {s : State} {m : MethodId} {args : Array Value} {below : List Frame} {meth : Method} {c : Code} {H H0 : Heap} {locs : List Loc} {cells slots : Nat} {Q : State → Prop} {cc : ByteArray} {nL : Nat} {D : va_G} {cy : Nat → ClassId} {A : Nat → Prop} {L : List Nat} {R : Nat → Nat} {f : Nat → va_E} {pc : Nat} {ls : Array Slot} {rest : List Value} {a : Nat}
theorem g_12_112 (F : CallFix p m c cc nL s args wsL_law RX12) (h : tS D cy A H0 L R (TT cy L R) f s H locs) (ha : a ∈ L) (hr : R a = 12) (hdg : decode cc pc = .ok (.getfield 112, 3)) (kk : ∀ x : Int32, x.toInt = fi f a 60 → W p l e R0 s m args below meth c H locs cells slots Q (F0 m (pc + 3) ls (.int x :: rest))) : W p l e R0 s m args below meth c H locs cells slots Q (F0 m pc ls (.ref a :: rest)) := tu_geti F h ha hr (fun e q => (T_12 e).mp q) rfl inlX12 rfl (Nat.le_of_ble_eq_true rfl) mw_235 hdg (fun x h1 h2 h3 => kk x h1)
end
theorem dX12_ahead_4 : decode cX12_ahead 4 = .ok (.iconst (-1), 1) := by decide +kernel
theorem dX12_ahead_5 : decode cX12_ahead 5 = .ok (.if_icmp .ne 10, 3) := by decide +kernel
theorem dX12_ahead_15 : decode cX12_ahead 15 = .ok (.iload_n 1, 1) := by decide +kernel
theorem dX12_ahead_16 : decode cX12_ahead 16 = .ok (.ifCond .lt 28, 3) := by decide +kernel
theorem dX12_ahead_44 : decode cX12_ahead 44 = .ok (.aload_n 0, 1) := by decide +kernel
theorem dX12_ahead_45 : decode cX12_ahead 45 = .ok (.iconst 1, 1) := by decide +kernel
theorem dX12_ahead_46 : decode cX12_ahead 46 = .ok (.invokevirtual 194, 3) := by decide +kernel
theorem dX12_ahead_49 : decode cX12_ahead 49 = .ok (.ireturn, 1) := by decide +kernel
theorem dX12_ahead_19 : decode cX12_ahead 19 = .ok (.iload_n 1, 1) := by decide +kernel
theorem dX12_ahead_20 : decode cX12_ahead 20 = .ok (.aload_n 0, 1) := by decide +kernel
theorem dX12_ahead_21 : decode cX12_ahead 21 = .ok (.getfield 457, 3) := by decide +kernel
theorem mw_1517 : Cond.fieldLink RX12 457 "AskBackModel" "orderKeys" "I" ∈ wsL_law := inr_64 _ (List.mem_of_getElem? (i := 5) rfl)
section
variable {p : Program} {l : Launch} {e : Env} {R0 : Room} {s : State} {m : MethodId} {args : Array Value} {below : List Frame} {meth : Method} {c : Code} {H H0 : Heap} {locs : List Loc} {cells slots : Nat} {Q : State → Prop} {cc : ByteArray} {nL : Nat} {D : va_G} {cy : Nat → ClassId} {A : Nat → Prop} {L : List Nat} {R : Nat → Nat} {f : Nat → va_E} {pc : Nat} {ls : Array Slot} {rest : List Value} {a : Nat}
theorem g_12_457 (F : CallFix p m c cc nL s args wsL_law RX12) (h : tS D cy A H0 L R (TT cy L R) f s H locs) (ha : a ∈ L) (hr : R a = 12) (hdg : decode cc pc = .ok (.getfield 457, 3)) (kk : ∀ x : Int32, x.toInt = fi f a 61 → 0 ≤ x.toInt → x.toInt ≤ 6 → W p l e R0 s m args below meth c H locs cells slots Q (F0 m (pc + 3) ls (.int x :: rest))) : W p l e R0 s m args below meth c H locs cells slots Q (F0 m pc ls (.ref a :: rest)) := tu_geti F h ha hr (fun e q => (T_12 e).mp q) rfl inlX12 rfl (Nat.le_of_ble_eq_true rfl) mw_1517 hdg (fun x h1 h2 h3 => kk x h1 h2 h3)
end
theorem dX12_ahead_24 : decode cX12_ahead 24 = .ok (.if_icmp .ge 20, 3) := by decide +kernel
theorem dX12_ahead_27 : decode cX12_ahead 27 = .ok (.iload_n 2, 1) := by decide +kernel
theorem dX12_ahead_28 : decode cX12_ahead 28 = .ok (.ifCond .lt 16, 3) := by decide +kernel
theorem dX12_ahead_31 : decode cX12_ahead 31 = .ok (.iload_n 2, 1) := by decide +kernel
theorem dX12_ahead_32 : decode cX12_ahead 32 = .ok (.aload_n 0, 1) := by decide +kernel
theorem dX12_ahead_33 : decode cX12_ahead 33 = .ok (.getfield 457, 3) := by decide +kernel
theorem dX12_ahead_36 : decode cX12_ahead 36 = .ok (.if_icmp .ge 8, 3) := by decide +kernel
theorem dX12_ahead_39 : decode cX12_ahead 39 = .ok (.iload_n 1, 1) := by decide +kernel
theorem dX12_ahead_40 : decode cX12_ahead 40 = .ok (.iload_n 2, 1) := by decide +kernel
theorem dX12_ahead_41 : decode cX12_ahead 41 = .ok (.if_icmp .ne 9, 3) := by decide +kernel
theorem dX12_ahead_50 : decode cX12_ahead 50 = .ok (.aload_n 0, 1) := by decide +kernel
theorem dX12_ahead_51 : decode cX12_ahead 51 = .ok (.aload_n 0, 1) := by decide +kernel
theorem dX12_ahead_52 : decode cX12_ahead 52 = .ok (.getfield 115, 3) := by decide +kernel
theorem mw_236 : Cond.fieldLink RX12 115 "AskBackModel" "aheadOf" "[I" ∈ wsL_law := inr_10 _ (List.mem_of_getElem? (i := 20) rfl)
section
variable {p : Program} {l : Launch} {e : Env} {R0 : Room} {s : State} {m : MethodId} {args : Array Value} {below : List Frame} {meth : Method} {c : Code} {H H0 : Heap} {locs : List Loc} {cells slots : Nat} {Q : State → Prop} {cc : ByteArray} {nL : Nat} {D : va_G} {cy : Nat → ClassId} {A : Nat → Prop} {L : List Nat} {R : Nat → Nat} {f : Nat → va_E} {pc : Nat} {ls : Array Slot} {rest : List Value} {a : Nat}
theorem g_12_115 (F : CallFix p m c cc nL s args wsL_law RX12) (h : tS D cy A H0 L R (TT cy L R) f s H locs) (ha : a ∈ L) (hr : R a = 12) (hdg : decode cc pc = .ok (.getfield 115, 3)) (kk : ∀ b : Nat, b ∈ L → R b = 85 → fld f a 62 = .ref b → W p l e R0 s m args below meth c H locs cells slots Q (F0 m (pc + 3) ls (.ref b :: rest))) : W p l e R0 s m args below meth c H locs cells slots Q (F0 m pc ls (.ref a :: rest)) := tu_getr F h ha hr (fun e q => (T_12 e).mp q) rfl inlX12 rfl (Nat.le_of_ble_eq_true rfl) mw_236 hdg kk
end
theorem dX12_ahead_55 : decode cX12_ahead 55 = .ok (.bipush 6, 2) := by decide +kernel
theorem dX12_ahead_57 : decode cX12_ahead 57 = .ok (.iload_n 1, 1) := by decide +kernel
theorem dX12_ahead_58 : decode cX12_ahead 58 = .ok (.imul, 1) := by decide +kernel
theorem dX12_ahead_59 : decode cX12_ahead 59 = .ok (.iload_n 2, 1) := by decide +kernel
theorem dX12_ahead_60 : decode cX12_ahead 60 = .ok (.iadd, 1) := by decide +kernel
theorem dX12_ahead_61 : decode cX12_ahead 61 = .ok (.iaload, 1) := by decide +kernel
section
variable {p : Program} {l : Launch} {e : Env} {R0 : Room} {s : State} {m : MethodId} {args : Array Value} {below : List Frame} {meth : Method} {c : Code} {H H0 : Heap} {locs : List Loc} {cells slots : Nat} {Q : State → Prop} {cc : ByteArray} {nL : Nat} {D : va_G} {cy : Nat → ClassId} {A : Nat → Prop} {L : List Nat} {R : Nat → Nat} {f : Nat → va_E} {pc : Nat} {ls : Array Slot} {rest : List Value} {a : Nat}
theorem ld_85 {own : String} (F : CallFix p m c cc nL s args wsL_law own) (h : tS D cy A H0 L R (TT cy L R) f s H locs) {i : Int32} (ha : a ∈ L) (hr : R a = 85) (hb : 0 ≤ i.toInt ∧ i.toInt < 36) (hdg : decode cc pc = .ok (.iaload, 1)) (kk : ∀ x : Int32, W p l e R0 s m args below meth c H locs cells slots Q (F0 m (pc + 1) ls (.int x :: rest))) : W p l e R0 s m args below meth c H locs cells slots Q (F0 m pc ls (.int i :: .ref a :: rest)) := tu_iald F h ha hr (fun e q => (T_85 e).mp q) hb.1 hb.2 hdg (fun x h1 h2 => kk x)
end
theorem dX12_ahead_62 : decode cX12_ahead 62 = .ok (.invokevirtual 209, 3) := by decide +kernel
theorem dX12_ahead_65 : decode cX12_ahead 65 = .ok (.ireturn, 1) := by decide +kernel
theorem dX12_ahead_8 : decode cX12_ahead 8 = .ok (.aload_n 0, 1) := by decide +kernel
theorem dX12_ahead_9 : decode cX12_ahead 9 = .ok (.bipush 6, 2) := by decide +kernel
theorem dX12_ahead_11 : decode cX12_ahead 11 = .ok (.invokevirtual 194, 3) := by decide +kernel
theorem dX12_ahead_14 : decode cX12_ahead 14 = .ok (.ireturn, 1) := by decide +kernel
def rm_X12_ahead : Room := { frames := 1, cells := 0, slots := 0, locals := 21 }
set_option maxHeartbeats 4000000 in
set_option maxRecDepth 100000 in
theorem s_X12_ahead (l : Launch) (D : va_G) (cy : Nat → ClassId) (L : List Nat) (R O : Nat → Nat) (f0 : Nat → va_E) (a0 : Nat) (m_a0 : a0 ∈ L) (r_a0 : R a0 = 12) (x1 : Int32) (x2 : Int32) : ∀ sz, Met l yX12_ahead (Cond.code yX12_ahead cX12_ahead 3 (some .int) :: wsL_law) rm_X12_ahead (va_Pc [.ref a0, .int x1, .int x2] (tPZ D cy L R (TT cy L R) f0 sz)) (va_Qi (fun (r : Int32) f1 => fr L R [(12, 1)] [12] f0 f1) (tB D (tA L sz) L R (TT cy L R)) (tA L sz)) 0 0 (tA L sz) := by
  refine tw_enteri (by decide +kernel) rfl (Nat.le_of_ble_eq_true rfl) ?_
  intro p e s m below meth c A ls args Q F hZ h hl hret
  have hl : lv_has ls 3 [(0, .ref a0), (1, .int x1), (2, .int x2)] := hl
  have hk : fr L R [(12, 1)] [12] f0 f0 := fr.rf
  refine lv_aload_n F.1 F.2.1 dX12_ahead_0 rfl (lv_at hl 0 rfl) ?_
  refine g_12_112 F h m_a0 r_a0 dX12_ahead_1 (fun v1 hv1 => ?_)
  refine tw_iconst F dX12_ahead_4 ki_m1 (fun z2 hz2 => ?_)
  refine tw_icmp_ne (tgt := 15) F dX12_ahead_5 (by decide) (fun b3 => ?_) (fun b3 => ?_)
  · refine lv_iload_n F.1 F.2.1 dX12_ahead_15 rfl (lv_at hl 1 rfl) ?_
    refine tw_if_lt (tgt := 44) F dX12_ahead_16 (by decide) (fun b4 => ?_) (fun b4 => ?_)
    · refine lv_aload_n F.1 F.2.1 dX12_ahead_44 rfl (lv_at hl 0 rfl) ?_
      refine tw_iconst F dX12_ahead_45 ki_1 (fun z5 hz5 => ?_)
      refine tw_Vi (As := [.int z5]) F hZ h yk_X12_refuse mw_452 mw_453 mw_454 (s_X12_refuse l D cy L R O f0 a0 m_a0 r_a0 z5 ⟨by omega, by omega⟩) rfl rfl m_a0 r_a0 (fun e q => (T_12 e).mp q) rfl hl.1 rfl (Nat.le_of_ble_eq_true rfl) ⟨Nat.le_of_ble_eq_true rfl, Nat.le_of_ble_eq_true rfl⟩ ⟨Nat.le_of_ble_eq_true rfl, Nat.le_of_ble_eq_true rfl⟩ dX12_ahead_46 (fun v7 f6 H locs hp6 h => ?_)
      obtain ⟨hf6, hv7a, hv7b⟩ := hp6
      have hk : fr L R [(12, 1)] [12] f0 f6 := hk.tr hf6 rfl rfl
      exact hret f6 _ _ _ _ v7 dX12_ahead_49 rfl hk h
    · refine lv_iload_n F.1 F.2.1 dX12_ahead_19 rfl (lv_at hl 1 rfl) ?_
      refine lv_aload_n F.1 F.2.1 dX12_ahead_20 rfl (lv_at hl 0 rfl) ?_
      refine g_12_457 F h m_a0 r_a0 dX12_ahead_21 (fun v8 hv8 hv8a hv8b => ?_)
      refine tw_icmp_ge (tgt := 44) F dX12_ahead_24 (by decide) (fun b9 => ?_) (fun b9 => ?_)
      · refine lv_aload_n F.1 F.2.1 dX12_ahead_44 rfl (lv_at hl 0 rfl) ?_
        refine tw_iconst F dX12_ahead_45 ki_1 (fun z10 hz10 => ?_)
        refine tw_Vi (As := [.int z10]) F hZ h yk_X12_refuse mw_452 mw_453 mw_454 (s_X12_refuse l D cy L R O f0 a0 m_a0 r_a0 z10 ⟨by omega, by omega⟩) rfl rfl m_a0 r_a0 (fun e q => (T_12 e).mp q) rfl hl.1 rfl (Nat.le_of_ble_eq_true rfl) ⟨Nat.le_of_ble_eq_true rfl, Nat.le_of_ble_eq_true rfl⟩ ⟨Nat.le_of_ble_eq_true rfl, Nat.le_of_ble_eq_true rfl⟩ dX12_ahead_46 (fun v12 f11 H locs hp11 h => ?_)
        obtain ⟨hf11, hv12a, hv12b⟩ := hp11
        have hk : fr L R [(12, 1)] [12] f0 f11 := hk.tr hf11 rfl rfl
        have e13 : fi f11 a0 61 = fi f0 a0 61 := hf11.efi m_a0 r_a0 rfl
        exact hret f11 _ _ _ _ v12 dX12_ahead_49 rfl hk h
      · refine lv_iload_n F.1 F.2.1 dX12_ahead_27 rfl (lv_at hl 2 rfl) ?_
        refine tw_if_lt (tgt := 44) F dX12_ahead_28 (by decide) (fun b14 => ?_) (fun b14 => ?_)
        · refine lv_aload_n F.1 F.2.1 dX12_ahead_44 rfl (lv_at hl 0 rfl) ?_
          refine tw_iconst F dX12_ahead_45 ki_1 (fun z15 hz15 => ?_)
          refine tw_Vi (As := [.int z15]) F hZ h yk_X12_refuse mw_452 mw_453 mw_454 (s_X12_refuse l D cy L R O f0 a0 m_a0 r_a0 z15 ⟨by omega, by omega⟩) rfl rfl m_a0 r_a0 (fun e q => (T_12 e).mp q) rfl hl.1 rfl (Nat.le_of_ble_eq_true rfl) ⟨Nat.le_of_ble_eq_true rfl, Nat.le_of_ble_eq_true rfl⟩ ⟨Nat.le_of_ble_eq_true rfl, Nat.le_of_ble_eq_true rfl⟩ dX12_ahead_46 (fun v17 f16 H locs hp16 h => ?_)
          obtain ⟨hf16, hv17a, hv17b⟩ := hp16
          have hk : fr L R [(12, 1)] [12] f0 f16 := hk.tr hf16 rfl rfl
          have e18 : fi f16 a0 61 = fi f0 a0 61 := hf16.efi m_a0 r_a0 rfl
          exact hret f16 _ _ _ _ v17 dX12_ahead_49 rfl hk h
        · refine lv_iload_n F.1 F.2.1 dX12_ahead_31 rfl (lv_at hl 2 rfl) ?_
          refine lv_aload_n F.1 F.2.1 dX12_ahead_32 rfl (lv_at hl 0 rfl) ?_
          refine g_12_457 F h m_a0 r_a0 dX12_ahead_33 (fun v19 hv19 hv19a hv19b => ?_)
          refine tw_icmp_ge (tgt := 44) F dX12_ahead_36 (by decide) (fun b20 => ?_) (fun b20 => ?_)
          · refine lv_aload_n F.1 F.2.1 dX12_ahead_44 rfl (lv_at hl 0 rfl) ?_
            refine tw_iconst F dX12_ahead_45 ki_1 (fun z21 hz21 => ?_)
            refine tw_Vi (As := [.int z21]) F hZ h yk_X12_refuse mw_452 mw_453 mw_454 (s_X12_refuse l D cy L R O f0 a0 m_a0 r_a0 z21 ⟨by omega, by omega⟩) rfl rfl m_a0 r_a0 (fun e q => (T_12 e).mp q) rfl hl.1 rfl (Nat.le_of_ble_eq_true rfl) ⟨Nat.le_of_ble_eq_true rfl, Nat.le_of_ble_eq_true rfl⟩ ⟨Nat.le_of_ble_eq_true rfl, Nat.le_of_ble_eq_true rfl⟩ dX12_ahead_46 (fun v23 f22 H locs hp22 h => ?_)
            obtain ⟨hf22, hv23a, hv23b⟩ := hp22
            have hk : fr L R [(12, 1)] [12] f0 f22 := hk.tr hf22 rfl rfl
            have e24 : fi f22 a0 61 = fi f0 a0 61 := hf22.efi m_a0 r_a0 rfl
            exact hret f22 _ _ _ _ v23 dX12_ahead_49 rfl hk h
          · refine lv_iload_n F.1 F.2.1 dX12_ahead_39 rfl (lv_at hl 1 rfl) ?_
            refine lv_iload_n F.1 F.2.1 dX12_ahead_40 rfl (lv_at hl 2 rfl) ?_
            refine tw_icmp_ne (tgt := 50) F dX12_ahead_41 (by decide) (fun b25 => ?_) (fun b25 => ?_)
            · refine lv_aload_n F.1 F.2.1 dX12_ahead_50 rfl (lv_at hl 0 rfl) ?_
              refine lv_aload_n F.1 F.2.1 dX12_ahead_51 rfl (lv_at hl 0 rfl) ?_
              refine g_12_115 F h m_a0 r_a0 dX12_ahead_52 (fun o26 m_o26 r_o26 ho26 => ?_)
              refine tw_bipush F dX12_ahead_55 kb_6 (fun z27 hz27 => ?_)
              refine lv_iload_n F.1 F.2.1 dX12_ahead_57 rfl (lv_at hl 1 rfl) ?_
              refine tu_imull F dX12_ahead_58 hz27 (by omega) (fun z28 hz28 => ?_)
              refine lv_iload_n F.1 F.2.1 dX12_ahead_59 rfl (lv_at hl 2 rfl) ?_
              refine tu_iadd F dX12_ahead_60 (by omega) (fun z29 hz29 => ?_)
              refine ld_85 F h m_o26 r_o26 (by omega) dX12_ahead_61 (fun v30 => ?_)
              refine tw_Vi (As := [.int v30]) F hZ h yk_X12_gives mw_499 mw_500 mw_501 (s_X12_gives l D cy L R O f0 a0 m_a0 r_a0 v30) rfl rfl m_a0 r_a0 (fun e q => (T_12 e).mp q) rfl hl.1 rfl (Nat.le_of_ble_eq_true rfl) ⟨Nat.le_of_ble_eq_true rfl, Nat.le_of_ble_eq_true rfl⟩ ⟨Nat.le_of_ble_eq_true rfl, Nat.le_of_ble_eq_true rfl⟩ dX12_ahead_62 (fun v32 f31 H locs hp31 h => ?_)
              have hf31 := hp31
              have hk : fr L R [(12, 1)] [12] f0 f31 := hk.tr hf31 rfl rfl
              have e33 : fi f31 a0 61 = fi f0 a0 61 := hf31.efi m_a0 r_a0 rfl
              exact hret f31 _ _ _ _ v32 dX12_ahead_65 rfl hk h
            · refine lv_aload_n F.1 F.2.1 dX12_ahead_44 rfl (lv_at hl 0 rfl) ?_
              refine tw_iconst F dX12_ahead_45 ki_1 (fun z34 hz34 => ?_)
              refine tw_Vi (As := [.int z34]) F hZ h yk_X12_refuse mw_452 mw_453 mw_454 (s_X12_refuse l D cy L R O f0 a0 m_a0 r_a0 z34 ⟨by omega, by omega⟩) rfl rfl m_a0 r_a0 (fun e q => (T_12 e).mp q) rfl hl.1 rfl (Nat.le_of_ble_eq_true rfl) ⟨Nat.le_of_ble_eq_true rfl, Nat.le_of_ble_eq_true rfl⟩ ⟨Nat.le_of_ble_eq_true rfl, Nat.le_of_ble_eq_true rfl⟩ dX12_ahead_46 (fun v36 f35 H locs hp35 h => ?_)
              obtain ⟨hf35, hv36a, hv36b⟩ := hp35
              have hk : fr L R [(12, 1)] [12] f0 f35 := hk.tr hf35 rfl rfl
              have e37 : fi f35 a0 61 = fi f0 a0 61 := hf35.efi m_a0 r_a0 rfl
              exact hret f35 _ _ _ _ v36 dX12_ahead_49 rfl hk h
  · refine lv_aload_n F.1 F.2.1 dX12_ahead_8 rfl (lv_at hl 0 rfl) ?_
    refine tw_bipush F dX12_ahead_9 kb_6 (fun z38 hz38 => ?_)
    refine tw_Vi (As := [.int z38]) F hZ h yk_X12_refuse mw_452 mw_453 mw_454 (s_X12_refuse l D cy L R O f0 a0 m_a0 r_a0 z38 ⟨by omega, by omega⟩) rfl rfl m_a0 r_a0 (fun e q => (T_12 e).mp q) rfl hl.1 rfl (Nat.le_of_ble_eq_true rfl) ⟨Nat.le_of_ble_eq_true rfl, Nat.le_of_ble_eq_true rfl⟩ ⟨Nat.le_of_ble_eq_true rfl, Nat.le_of_ble_eq_true rfl⟩ dX12_ahead_11 (fun v40 f39 H locs hp39 h => ?_)
    obtain ⟨hf39, hv40a, hv40b⟩ := hp39
    have hk : fr L R [(12, 1)] [12] f0 f39 := hk.tr hf39 rfl rfl
    exact hret f39 _ _ _ _ v40 dX12_ahead_14 rfl hk h
theorem dX12_leave_0 : decode cX12_leave 0 = .ok (.iload_n 1, 1) := by decide +kernel
theorem dX12_leave_1 : decode cX12_leave 1 = .ok (.ifCond .lt 11, 3) := by decide +kernel
theorem dX12_leave_12 : decode cX12_leave 12 = .ok (.aload_n 0, 1) := by decide +kernel
theorem dX12_leave_13 : decode cX12_leave 13 = .ok (.iconst 1, 1) := by decide +kernel
theorem dX12_leave_14 : decode cX12_leave 14 = .ok (.invokevirtual 131, 3) := by decide +kernel
theorem dX12_leave_17 : decode cX12_leave 17 = .ok (.ireturn, 1) := by decide +kernel
theorem dX12_leave_4 : decode cX12_leave 4 = .ok (.iload_n 1, 1) := by decide +kernel
theorem dX12_leave_5 : decode cX12_leave 5 = .ok (.aload_n 0, 1) := by decide +kernel
theorem dX12_leave_6 : decode cX12_leave 6 = .ok (.getfield 416, 3) := by decide +kernel
theorem mw_773 : Cond.fieldLink RX12 416 "AskBackModel" "talkMany" "I" ∈ wsL_law := inr_33 _ (List.mem_of_getElem? (i := 5) rfl)
section
variable {p : Program} {l : Launch} {e : Env} {R0 : Room} {s : State} {m : MethodId} {args : Array Value} {below : List Frame} {meth : Method} {c : Code} {H H0 : Heap} {locs : List Loc} {cells slots : Nat} {Q : State → Prop} {cc : ByteArray} {nL : Nat} {D : va_G} {cy : Nat → ClassId} {A : Nat → Prop} {L : List Nat} {R : Nat → Nat} {f : Nat → va_E} {pc : Nat} {ls : Array Slot} {rest : List Value} {a : Nat}
theorem g_12_416 (F : CallFix p m c cc nL s args wsL_law RX12) (h : tS D cy A H0 L R (TT cy L R) f s H locs) (ha : a ∈ L) (hr : R a = 12) (hdg : decode cc pc = .ok (.getfield 416, 3)) (kk : ∀ x : Int32, x.toInt = fi f a 51 → 0 ≤ x.toInt → x.toInt ≤ 15 → W p l e R0 s m args below meth c H locs cells slots Q (F0 m (pc + 3) ls (.int x :: rest))) : W p l e R0 s m args below meth c H locs cells slots Q (F0 m pc ls (.ref a :: rest)) := tu_geti F h ha hr (fun e q => (T_12 e).mp q) rfl inlX12 rfl (Nat.le_of_ble_eq_true rfl) mw_773 hdg (fun x h1 h2 h3 => kk x h1 h2 h3)
end
theorem dX12_leave_9 : decode cX12_leave 9 = .ok (.if_icmp .lt 9, 3) := by decide +kernel
theorem dX12_leave_18 : decode cX12_leave 18 = .ok (.aload_n 0, 1) := by decide +kernel
theorem dX12_leave_19 : decode cX12_leave 19 = .ok (.getfield 90, 3) := by decide +kernel
theorem mw_227 : Cond.fieldLink RX12 90 "AskBackModel" "isLeft" "[Z" ∈ wsL_law := inr_10 _ (List.mem_of_getElem? (i := 11) rfl)
section
variable {p : Program} {l : Launch} {e : Env} {R0 : Room} {s : State} {m : MethodId} {args : Array Value} {below : List Frame} {meth : Method} {c : Code} {H H0 : Heap} {locs : List Loc} {cells slots : Nat} {Q : State → Prop} {cc : ByteArray} {nL : Nat} {D : va_G} {cy : Nat → ClassId} {A : Nat → Prop} {L : List Nat} {R : Nat → Nat} {f : Nat → va_E} {pc : Nat} {ls : Array Slot} {rest : List Value} {a : Nat}
theorem g_12_90 (F : CallFix p m c cc nL s args wsL_law RX12) (h : tS D cy A H0 L R (TT cy L R) f s H locs) (ha : a ∈ L) (hr : R a = 12) (hdg : decode cc pc = .ok (.getfield 90, 3)) (kk : ∀ b : Nat, b ∈ L → R b = 80 → fld f a 50 = .ref b → W p l e R0 s m args below meth c H locs cells slots Q (F0 m (pc + 3) ls (.ref b :: rest))) : W p l e R0 s m args below meth c H locs cells slots Q (F0 m pc ls (.ref a :: rest)) := tu_getr F h ha hr (fun e q => (T_12 e).mp q) rfl inlX12 rfl (Nat.le_of_ble_eq_true rfl) mw_227 hdg kk
end
theorem dX12_leave_22 : decode cX12_leave 22 = .ok (.iload_n 1, 1) := by decide +kernel
theorem dX12_leave_23 : decode cX12_leave 23 = .ok (.iload_n 2, 1) := by decide +kernel
theorem dX12_leave_24 : decode cX12_leave 24 = .ok (.bastore, 1) := by decide +kernel
section
variable {p : Program} {l : Launch} {e : Env} {R0 : Room} {s : State} {m : MethodId} {args : Array Value} {below : List Frame} {meth : Method} {c : Code} {H H0 : Heap} {locs : List Loc} {cells slots : Nat} {Q : State → Prop} {cc : ByteArray} {nL : Nat} {D : va_G} {cy : Nat → ClassId} {A : Nat → Prop} {L : List Nat} {R : Nat → Nat} {f : Nat → va_E} {pc : Nat} {ls : Array Slot} {rest : List Value} {a : Nat}
theorem st_80 {own : String} (F : CallFix p m c cc nL s args wsL_law own) (h : tS D cy A H0 L R (TT cy L R) f s H locs) {i : Int32} {x : Int32} (ha : a ∈ L) (hr : R a = 80) (hb : 0 ≤ i.toInt ∧ i.toInt < 20) (hv : 0 ≤ x.toInt ∧ x.toInt ≤ 1) (hdg : decode cc pc = .ok (.bastore, 1)) (kk : ∀ (f1 : Nat → va_E) (H1 : Heap) (locs1 : List Loc), fr L R [] [80] f f1 → tS D cy A H0 L R (TT cy L R) f1 s H1 locs1 → W p l e R0 s m args below meth c H1 locs1 cells slots Q (F0 m (pc + 1) ls (rest))) : W p l e R0 s m args below meth c H locs cells slots Q (F0 m pc ls (.int x :: .int i :: .ref a :: rest)) := tu_zast F h ha hr T_80 hb.1 hb.2 (by rw [tw_nz hv]; exact hv) hdg (fun f1 H1 locs1 h1 h2 h3 h4 => kk f1 H1 locs1 h3 h4)
end
theorem dX12_leave_25 : decode cX12_leave 25 = .ok (.aload_n 0, 1) := by decide +kernel
theorem dX12_leave_26 : decode cX12_leave 26 = .ok (.iconst 0, 1) := by decide +kernel
theorem dX12_leave_27 : decode cX12_leave 27 = .ok (.invokevirtual 131, 3) := by decide +kernel
theorem dX12_leave_30 : decode cX12_leave 30 = .ok (.ireturn, 1) := by decide +kernel
def rm_X12_leave : Room := { frames := 1, cells := 0, slots := 0, locals := 21 }
set_option maxHeartbeats 4000000 in
set_option maxRecDepth 100000 in
theorem s_X12_leave (l : Launch) (D : va_G) (cy : Nat → ClassId) (L : List Nat) (R O : Nat → Nat) (f0 : Nat → va_E) (a0 : Nat) (m_a0 : a0 ∈ L) (r_a0 : R a0 = 12) (x1 : Int32) (x2 : Int32) (b2 : 0 ≤ x2.toInt ∧ x2.toInt ≤ 1) : ∀ sz, Met l yX12_leave (Cond.code yX12_leave cX12_leave 3 (some .boolean) :: wsL_law) rm_X12_leave (va_Pc [.ref a0, .int x1, .int x2] (tPZ D cy L R (TT cy L R) f0 sz)) (va_Qi (fun (r : Int32) f1 => fr L R [(12, 1)] [12, 80] f0 f1 ∧ 0 ≤ r.toInt ∧ r.toInt ≤ 1) (tB D (tA L sz) L R (TT cy L R)) (tA L sz)) 0 0 (tA L sz) := by
  refine tw_enteri (by decide +kernel) rfl (Nat.le_of_ble_eq_true rfl) ?_
  intro p e s m below meth c A ls args Q F hZ h hl hret
  have hl : lv_has ls 3 [(0, .ref a0), (1, .int x1), (2, .int x2)] := hl
  have hk : fr L R [(12, 1)] [12, 80] f0 f0 := fr.rf
  refine lv_iload_n F.1 F.2.1 dX12_leave_0 rfl (lv_at hl 1 rfl) ?_
  refine tw_if_lt (tgt := 12) F dX12_leave_1 (by decide) (fun b1 => ?_) (fun b1 => ?_)
  · refine lv_aload_n F.1 F.2.1 dX12_leave_12 rfl (lv_at hl 0 rfl) ?_
    refine tw_iconst F dX12_leave_13 ki_1 (fun z2 hz2 => ?_)
    refine tw_Vi (As := [.int z2]) F hZ h yk_X12_is mw_286 mw_287 mw_288 (s_X12_is l D cy L R O f0 a0 m_a0 r_a0 z2 ⟨by omega, by omega⟩) rfl rfl m_a0 r_a0 (fun e q => (T_12 e).mp q) rfl hl.1 rfl (Nat.le_of_ble_eq_true rfl) ⟨Nat.le_of_ble_eq_true rfl, Nat.le_of_ble_eq_true rfl⟩ ⟨Nat.le_of_ble_eq_true rfl, Nat.le_of_ble_eq_true rfl⟩ dX12_leave_14 (fun v4 f3 H locs hp3 h => ?_)
    obtain ⟨hf3, hv4a, hv4b, hv4p0⟩ := hp3
    have hk : fr L R [(12, 1)] [12, 80] f0 f3 := hk.tr hf3 rfl rfl
    exact hret f3 _ _ _ _ v4 dX12_leave_17 (tw_nb (by omega)) ⟨hk, by omega, by omega⟩ h
  · refine lv_iload_n F.1 F.2.1 dX12_leave_4 rfl (lv_at hl 1 rfl) ?_
    refine lv_aload_n F.1 F.2.1 dX12_leave_5 rfl (lv_at hl 0 rfl) ?_
    refine g_12_416 F h m_a0 r_a0 dX12_leave_6 (fun v5 hv5 hv5a hv5b => ?_)
    refine tw_icmp_lt (tgt := 18) F dX12_leave_9 (by decide) (fun b6 => ?_) (fun b6 => ?_)
    · refine lv_aload_n F.1 F.2.1 dX12_leave_18 rfl (lv_at hl 0 rfl) ?_
      refine g_12_90 F h m_a0 r_a0 dX12_leave_19 (fun o7 m_o7 r_o7 ho7 => ?_)
      refine lv_iload_n F.1 F.2.1 dX12_leave_22 rfl (lv_at hl 1 rfl) ?_
      refine lv_iload_n F.1 F.2.1 dX12_leave_23 rfl (lv_at hl 2 rfl) ?_
      refine st_80 F h m_o7 r_o7 (by omega) (by omega) dX12_leave_24 (fun f8 H locs hf8 h => ?_)
      have hk : fr L R [(12, 1)] [12, 80] f0 f8 := hk.tr hf8 rfl rfl
      refine lv_aload_n F.1 F.2.1 dX12_leave_25 rfl (lv_at hl 0 rfl) ?_
      refine tw_iconst F dX12_leave_26 ki_0 (fun z9 hz9 => ?_)
      refine tw_Vi (As := [.int z9]) F hZ h yk_X12_is mw_286 mw_287 mw_288 (s_X12_is l D cy L R O f8 a0 m_a0 r_a0 z9 ⟨by omega, by omega⟩) rfl rfl m_a0 r_a0 (fun e q => (T_12 e).mp q) rfl hl.1 rfl (Nat.le_of_ble_eq_true rfl) ⟨Nat.le_of_ble_eq_true rfl, Nat.le_of_ble_eq_true rfl⟩ ⟨Nat.le_of_ble_eq_true rfl, Nat.le_of_ble_eq_true rfl⟩ dX12_leave_27 (fun v11 f10 H locs hp10 h => ?_)
      obtain ⟨hf10, hv11a, hv11b, hv11p0⟩ := hp10
      have hk : fr L R [(12, 1)] [12, 80] f0 f10 := hk.tr hf10 rfl rfl
      exact hret f10 _ _ _ _ v11 dX12_leave_30 (tw_nb (by omega)) ⟨hk, by omega, by omega⟩ h
    · refine lv_aload_n F.1 F.2.1 dX12_leave_12 rfl (lv_at hl 0 rfl) ?_
      refine tw_iconst F dX12_leave_13 ki_1 (fun z12 hz12 => ?_)
      refine tw_Vi (As := [.int z12]) F hZ h yk_X12_is mw_286 mw_287 mw_288 (s_X12_is l D cy L R O f0 a0 m_a0 r_a0 z12 ⟨by omega, by omega⟩) rfl rfl m_a0 r_a0 (fun e q => (T_12 e).mp q) rfl hl.1 rfl (Nat.le_of_ble_eq_true rfl) ⟨Nat.le_of_ble_eq_true rfl, Nat.le_of_ble_eq_true rfl⟩ ⟨Nat.le_of_ble_eq_true rfl, Nat.le_of_ble_eq_true rfl⟩ dX12_leave_14 (fun v14 f13 H locs hp13 h => ?_)
      obtain ⟨hf13, hv14a, hv14b, hv14p0⟩ := hp13
      have hk : fr L R [(12, 1)] [12, 80] f0 f13 := hk.tr hf13 rfl rfl
      exact hret f13 _ _ _ _ v14 dX12_leave_17 (tw_nb (by omega)) ⟨hk, by omega, by omega⟩ h
theorem dX12_says_0 : decode cX12_says 0 = .ok (.aload_n 0, 1) := by decide +kernel
theorem dX12_says_1 : decode cX12_says 1 = .ok (.getfield 324, 3) := by decide +kernel
theorem mw_1046 : Cond.fieldLink RX12 324 "AskBackModel" "saidMany" "I" ∈ wsL_law := inr_44 _ (List.mem_of_getElem? (i := 14) rfl)
section
variable {p : Program} {l : Launch} {e : Env} {R0 : Room} {s : State} {m : MethodId} {args : Array Value} {below : List Frame} {meth : Method} {c : Code} {H H0 : Heap} {locs : List Loc} {cells slots : Nat} {Q : State → Prop} {cc : ByteArray} {nL : Nat} {D : va_G} {cy : Nat → ClassId} {A : Nat → Prop} {L : List Nat} {R : Nat → Nat} {f : Nat → va_E} {pc : Nat} {ls : Array Slot} {rest : List Value} {a : Nat}
theorem g_12_324 (F : CallFix p m c cc nL s args wsL_law RX12) (h : tS D cy A H0 L R (TT cy L R) f s H locs) (ha : a ∈ L) (hr : R a = 12) (hdg : decode cc pc = .ok (.getfield 324, 3)) (kk : ∀ x : Int32, x.toInt = fi f a 29 → 0 ≤ x.toInt → x.toInt ≤ 12 → W p l e R0 s m args below meth c H locs cells slots Q (F0 m (pc + 3) ls (.int x :: rest))) : W p l e R0 s m args below meth c H locs cells slots Q (F0 m pc ls (.ref a :: rest)) := tu_geti F h ha hr (fun e q => (T_12 e).mp q) rfl inlX12 rfl (Nat.le_of_ble_eq_true rfl) mw_1046 hdg (fun x h1 h2 h3 => kk x h1 h2 h3)
end
theorem dX12_says_4 : decode cX12_says 4 = .ok (.bipush 12, 2) := by decide +kernel
theorem dX12_says_6 : decode cX12_says 6 = .ok (.if_icmp .ne 4, 3) := by decide +kernel
theorem dX12_says_10 : decode cX12_says 10 = .ok (.aload_n 0, 1) := by decide +kernel
theorem dX12_says_11 : decode cX12_says 11 = .ok (.getfield 63, 3) := by decide +kernel
theorem mw_218 : Cond.fieldLink RX12 63 "AskBackModel" "saidLine" "[J" ∈ wsL_law := inr_10 _ (List.mem_of_getElem? (i := 2) rfl)
section
variable {p : Program} {l : Launch} {e : Env} {R0 : Room} {s : State} {m : MethodId} {args : Array Value} {below : List Frame} {meth : Method} {c : Code} {H H0 : Heap} {locs : List Loc} {cells slots : Nat} {Q : State → Prop} {cc : ByteArray} {nL : Nat} {D : va_G} {cy : Nat → ClassId} {A : Nat → Prop} {L : List Nat} {R : Nat → Nat} {f : Nat → va_E} {pc : Nat} {ls : Array Slot} {rest : List Value} {a : Nat}
theorem g_12_63 (F : CallFix p m c cc nL s args wsL_law RX12) (h : tS D cy A H0 L R (TT cy L R) f s H locs) (ha : a ∈ L) (hr : R a = 12) (hdg : decode cc pc = .ok (.getfield 63, 3)) (kk : ∀ b : Nat, b ∈ L → R b = 74 → fld f a 27 = .ref b → W p l e R0 s m args below meth c H locs cells slots Q (F0 m (pc + 3) ls (.ref b :: rest))) : W p l e R0 s m args below meth c H locs cells slots Q (F0 m pc ls (.ref a :: rest)) := tu_getr F h ha hr (fun e q => (T_12 e).mp q) rfl inlX12 rfl (Nat.le_of_ble_eq_true rfl) mw_218 hdg kk
end
theorem dX12_says_14 : decode cX12_says 14 = .ok (.aload_n 0, 1) := by decide +kernel
theorem dX12_says_15 : decode cX12_says 15 = .ok (.getfield 324, 3) := by decide +kernel
theorem dX12_says_18 : decode cX12_says 18 = .ok (.lload_n 1, 1) := by decide +kernel
theorem dX12_says_19 : decode cX12_says 19 = .ok (.lastore, 1) := by decide +kernel
section
variable {p : Program} {l : Launch} {e : Env} {R0 : Room} {s : State} {m : MethodId} {args : Array Value} {below : List Frame} {meth : Method} {c : Code} {H H0 : Heap} {locs : List Loc} {cells slots : Nat} {Q : State → Prop} {cc : ByteArray} {nL : Nat} {D : va_G} {cy : Nat → ClassId} {A : Nat → Prop} {L : List Nat} {R : Nat → Nat} {f : Nat → va_E} {pc : Nat} {ls : Array Slot} {rest : List Value} {a : Nat}
theorem st_74 {own : String} (F : CallFix p m c cc nL s args wsL_law own) (h : tS D cy A H0 L R (TT cy L R) f s H locs) {i : Int32} {x : Int64} (ha : a ∈ L) (hr : R a = 74) (hb : 0 ≤ i.toInt ∧ i.toInt < 12) (hdg : decode cc pc = .ok (.lastore, 1)) (kk : ∀ (f1 : Nat → va_E) (H1 : Heap) (locs1 : List Loc), fr L R [] [74] f f1 → tS D cy A H0 L R (TT cy L R) f1 s H1 locs1 → W p l e R0 s m args below meth c H1 locs1 cells slots Q (F0 m (pc + 1) ls (rest))) : W p l e R0 s m args below meth c H locs cells slots Q (F0 m pc ls (.long x :: .int i :: .ref a :: rest)) := tu_last F h ha hr T_74 hb.1 hb.2 trivial hdg (fun f1 H1 locs1 h1 h2 h3 h4 => kk f1 H1 locs1 h3 h4)
end
theorem dX12_says_20 : decode cX12_says 20 = .ok (.aload_n 0, 1) := by decide +kernel
theorem dX12_says_21 : decode cX12_says 21 = .ok (.dup, 1) := by decide +kernel
theorem dX12_says_22 : decode cX12_says 22 = .ok (.getfield 324, 3) := by decide +kernel
theorem dX12_says_25 : decode cX12_says 25 = .ok (.iconst 1, 1) := by decide +kernel
theorem dX12_says_26 : decode cX12_says 26 = .ok (.iadd, 1) := by decide +kernel
theorem dX12_says_27 : decode cX12_says 27 = .ok (.putfield 324, 3) := by decide +kernel
section
variable {p : Program} {l : Launch} {e : Env} {R0 : Room} {s : State} {m : MethodId} {args : Array Value} {below : List Frame} {meth : Method} {c : Code} {H H0 : Heap} {locs : List Loc} {cells slots : Nat} {Q : State → Prop} {cc : ByteArray} {nL : Nat} {D : va_G} {cy : Nat → ClassId} {A : Nat → Prop} {L : List Nat} {R : Nat → Nat} {f : Nat → va_E} {pc : Nat} {ls : Array Slot} {rest : List Value} {a : Nat}
theorem p_12_324 (F : CallFix p m c cc nL s args wsL_law RX12) (h : tS D cy A H0 L R (TT cy L R) f s H locs) {x : Int32} (ha : a ∈ L) (hr : R a = 12) (hv : 0 ≤ x.toInt ∧ x.toInt ≤ 12) (hdg : decode cc pc = .ok (.putfield 324, 3)) (kk : ∀ (f1 : Nat → va_E) (H1 : Heap) (locs1 : List Loc), fi f1 a 29 = x.toInt → fr L R [(12, 29)] [12] f f1 → tS D cy A H0 L R (TT cy L R) f1 s H1 locs1 → W p l e R0 s m args below meth c H1 locs1 cells slots Q (F0 m (pc + 3) ls (rest))) : W p l e R0 s m args below meth c H locs cells slots Q (F0 m pc ls (.int x :: .ref a :: rest)) := tu_puti (k := 29) F h ha hr T_12 rfl hv.1 hv.2 inlX12 tyX12_ok nmX12 rfl (Nat.le_of_ble_eq_true rfl) mw_1046 rfl rfl rfl hdg kk
end
theorem dX12_says_30 : decode cX12_says 30 = .ok (.return_, 1) := by decide +kernel
theorem dX12_says_9 : decode cX12_says 9 = .ok (.return_, 1) := by decide +kernel
def rm_X12_says : Room := { frames := 0, cells := 0, slots := 0, locals := 0 }
set_option maxHeartbeats 4000000 in
set_option maxRecDepth 100000 in
theorem s_X12_says (l : Launch) (D : va_G) (cy : Nat → ClassId) (L : List Nat) (R O : Nat → Nat) (f0 : Nat → va_E) (a0 : Nat) (m_a0 : a0 ∈ L) (r_a0 : R a0 = 12) (x1 : Int64) : ∀ sz, Met l yX12_says (Cond.code yX12_says cX12_says 3 none :: wsL_law) rm_X12_says (va_Pc [.ref a0, .long x1] (tPZ D cy L R (TT cy L R) f0 sz)) (va_Qv (fun f1 => fr L R [(12, 29)] [12, 74] f0 f1) (tB D (tA L sz) L R (TT cy L R)) (tA L sz)) 0 0 (tA L sz) := by
  refine tw_enterv (by decide +kernel) rfl (Nat.le_of_ble_eq_true rfl) ?_
  intro p e s m below meth c A ls args Q F hZ h hl hret
  have hl : lv_has ls 3 [(0, .ref a0), (1, .long x1)] := hl
  have hk : fr L R [(12, 29)] [12, 74] f0 f0 := fr.rf
  refine lv_aload_n F.1 F.2.1 dX12_says_0 rfl (lv_at hl 0 rfl) ?_
  refine g_12_324 F h m_a0 r_a0 dX12_says_1 (fun v1 hv1 hv1a hv1b => ?_)
  refine tw_bipush F dX12_says_4 kb_12 (fun z2 hz2 => ?_)
  refine tw_icmp_ne (tgt := 10) F dX12_says_6 (by decide) (fun b3 => ?_) (fun b3 => ?_)
  · refine lv_aload_n F.1 F.2.1 dX12_says_10 rfl (lv_at hl 0 rfl) ?_
    refine g_12_63 F h m_a0 r_a0 dX12_says_11 (fun o4 m_o4 r_o4 ho4 => ?_)
    refine lv_aload_n F.1 F.2.1 dX12_says_14 rfl (lv_at hl 0 rfl) ?_
    refine g_12_324 F h m_a0 r_a0 dX12_says_15 (fun v5 hv5 hv5a hv5b => ?_)
    refine lv_lload_n F.1 F.2.1 dX12_says_18 rfl (lv_at hl 1 rfl) ?_
    refine st_74 F h m_o4 r_o4 (by omega) dX12_says_19 (fun f6 H locs hf6 h => ?_)
    have hk : fr L R [(12, 29)] [12, 74] f0 f6 := hk.tr hf6 rfl rfl
    have e7 : fi f6 a0 29 = fi f0 a0 29 := hf6.efi m_a0 r_a0 rfl
    refine lv_aload_n F.1 F.2.1 dX12_says_20 rfl (lv_at hl 0 rfl) ?_
    refine lv_dup F.1 F.2.1 dX12_says_21 rfl ?_
    refine g_12_324 F h m_a0 r_a0 dX12_says_22 (fun v8 hv8 hv8a hv8b => ?_)
    refine tw_iconst F dX12_says_25 ki_1 (fun z9 hz9 => ?_)
    refine tu_iadd F dX12_says_26 (by omega) (fun z10 hz10 => ?_)
    refine p_12_324 F h m_a0 r_a0 (by omega) dX12_says_27 (fun f11 H locs e11p hf11 h => ?_)
    have hk : fr L R [(12, 29)] [12, 74] f0 f11 := hk.tr hf11 rfl rfl
    exact hret f11 _ _ _ _ dX12_says_30 hk h
  · exact hret f0 _ _ _ _ dX12_says_9 hk h
theorem dX12_placeOf_0 : decode cX12_placeOf 0 = .ok (.iconst 0, 1) := by decide +kernel
theorem dX12_placeOf_1 : decode cX12_placeOf 1 = .ok (.istore_n 3, 1) := by decide +kernel
theorem dX12_placeOf_2 : decode cX12_placeOf 2 = .ok (.iload_n 3, 1) := by decide +kernel
theorem dX12_placeOf_3 : decode cX12_placeOf 3 = .ok (.aload_n 0, 1) := by decide +kernel
theorem dX12_placeOf_4 : decode cX12_placeOf 4 = .ok (.getfield 298, 3) := by decide +kernel
theorem mw_894 : Cond.fieldLink RX12 298 "AskBackModel" "heardMany" "I" ∈ wsL_law := inr_38 _ (List.mem_of_getElem? (i := 6) rfl)
section
variable {p : Program} {l : Launch} {e : Env} {R0 : Room} {s : State} {m : MethodId} {args : Array Value} {below : List Frame} {meth : Method} {c : Code} {H H0 : Heap} {locs : List Loc} {cells slots : Nat} {Q : State → Prop} {cc : ByteArray} {nL : Nat} {D : va_G} {cy : Nat → ClassId} {A : Nat → Prop} {L : List Nat} {R : Nat → Nat} {f : Nat → va_E} {pc : Nat} {ls : Array Slot} {rest : List Value} {a : Nat}
theorem g_12_298 (F : CallFix p m c cc nL s args wsL_law RX12) (h : tS D cy A H0 L R (TT cy L R) f s H locs) (ha : a ∈ L) (hr : R a = 12) (hdg : decode cc pc = .ok (.getfield 298, 3)) (kk : ∀ x : Int32, x.toInt = fi f a 28 → 0 ≤ x.toInt → x.toInt ≤ 12 → W p l e R0 s m args below meth c H locs cells slots Q (F0 m (pc + 3) ls (.int x :: rest))) : W p l e R0 s m args below meth c H locs cells slots Q (F0 m pc ls (.ref a :: rest)) := tu_geti F h ha hr (fun e q => (T_12 e).mp q) rfl inlX12 rfl (Nat.le_of_ble_eq_true rfl) mw_894 hdg (fun x h1 h2 h3 => kk x h1 h2 h3)
end
theorem dX12_placeOf_7 : decode cX12_placeOf 7 = .ok (.if_icmp .ge 22, 3) := by decide +kernel
theorem dX12_placeOf_29 : decode cX12_placeOf 29 = .ok (.iconst (-1), 1) := by decide +kernel
theorem dX12_placeOf_30 : decode cX12_placeOf 30 = .ok (.ireturn, 1) := by decide +kernel
theorem dX12_placeOf_10 : decode cX12_placeOf 10 = .ok (.aload_n 0, 1) := by decide +kernel
theorem dX12_placeOf_11 : decode cX12_placeOf 11 = .ok (.getfield 60, 3) := by decide +kernel
theorem mw_217 : Cond.fieldLink RX12 60 "AskBackModel" "heardLine" "[J" ∈ wsL_law := inr_10 _ (List.mem_of_getElem? (i := 1) rfl)
section
variable {p : Program} {l : Launch} {e : Env} {R0 : Room} {s : State} {m : MethodId} {args : Array Value} {below : List Frame} {meth : Method} {c : Code} {H H0 : Heap} {locs : List Loc} {cells slots : Nat} {Q : State → Prop} {cc : ByteArray} {nL : Nat} {D : va_G} {cy : Nat → ClassId} {A : Nat → Prop} {L : List Nat} {R : Nat → Nat} {f : Nat → va_E} {pc : Nat} {ls : Array Slot} {rest : List Value} {a : Nat}
theorem g_12_60 (F : CallFix p m c cc nL s args wsL_law RX12) (h : tS D cy A H0 L R (TT cy L R) f s H locs) (ha : a ∈ L) (hr : R a = 12) (hdg : decode cc pc = .ok (.getfield 60, 3)) (kk : ∀ b : Nat, b ∈ L → R b = 73 → fld f a 26 = .ref b → W p l e R0 s m args below meth c H locs cells slots Q (F0 m (pc + 3) ls (.ref b :: rest))) : W p l e R0 s m args below meth c H locs cells slots Q (F0 m pc ls (.ref a :: rest)) := tu_getr F h ha hr (fun e q => (T_12 e).mp q) rfl inlX12 rfl (Nat.le_of_ble_eq_true rfl) mw_217 hdg kk
end
theorem dX12_placeOf_14 : decode cX12_placeOf 14 = .ok (.iload_n 3, 1) := by decide +kernel
theorem dX12_placeOf_15 : decode cX12_placeOf 15 = .ok (.laload, 1) := by decide +kernel
section
variable {p : Program} {l : Launch} {e : Env} {R0 : Room} {s : State} {m : MethodId} {args : Array Value} {below : List Frame} {meth : Method} {c : Code} {H H0 : Heap} {locs : List Loc} {cells slots : Nat} {Q : State → Prop} {cc : ByteArray} {nL : Nat} {D : va_G} {cy : Nat → ClassId} {A : Nat → Prop} {L : List Nat} {R : Nat → Nat} {f : Nat → va_E} {pc : Nat} {ls : Array Slot} {rest : List Value} {a : Nat}
theorem ld_73 {own : String} (F : CallFix p m c cc nL s args wsL_law own) (h : tS D cy A H0 L R (TT cy L R) f s H locs) {i : Int32} (ha : a ∈ L) (hr : R a = 73) (hb : 0 ≤ i.toInt ∧ i.toInt < 12) (hdg : decode cc pc = .ok (.laload, 1)) (kk : ∀ x : Int64, W p l e R0 s m args below meth c H locs cells slots Q (F0 m (pc + 1) ls (.long x :: rest))) : W p l e R0 s m args below meth c H locs cells slots Q (F0 m pc ls (.int i :: .ref a :: rest)) := tu_lald F h ha hr (fun e q => (T_73 e).mp q) hb.1 hb.2 hdg (fun x h1 h2 => kk x)
end
theorem dX12_placeOf_16 : decode cX12_placeOf 16 = .ok (.lload_n 1, 1) := by decide +kernel
theorem dX12_placeOf_17 : decode cX12_placeOf 17 = .ok (.lcmp, 1) := by decide +kernel
theorem dX12_placeOf_18 : decode cX12_placeOf 18 = .ok (.ifCond .ne 5, 3) := by decide +kernel
theorem dX12_placeOf_23 : decode cX12_placeOf 23 = .ok (.iinc 3 1, 3) := by decide +kernel
theorem dX12_placeOf_26 : decode cX12_placeOf 26 = .ok (.goto (-24), 3) := by decide +kernel
theorem dX12_placeOf_21 : decode cX12_placeOf 21 = .ok (.iload_n 3, 1) := by decide +kernel
theorem dX12_placeOf_22 : decode cX12_placeOf 22 = .ok (.ireturn, 1) := by decide +kernel
def rm_X12_placeOf : Room := { frames := 0, cells := 0, slots := 0, locals := 0 }
set_option maxHeartbeats 4000000 in
set_option maxRecDepth 100000 in
theorem s_X12_placeOf (l : Launch) (D : va_G) (cy : Nat → ClassId) (L : List Nat) (R O : Nat → Nat) (f0 : Nat → va_E) (a0 : Nat) (m_a0 : a0 ∈ L) (r_a0 : R a0 = 12) (x1 : Int64) : ∀ sz, Met l yX12_placeOf (Cond.code yX12_placeOf cX12_placeOf 4 (some .int) :: wsL_law) rm_X12_placeOf (va_Pc [.ref a0, .long x1] (tPZ D cy L R (TT cy L R) f0 sz)) (va_Qi (fun (r : Int32) f1 => f0 = f1 ∧ (-1) ≤ r.toInt ∧ r.toInt ≤ 11) (tB D (tA L sz) L R (TT cy L R)) (tA L sz)) 0 0 (tA L sz) := by
  refine tw_enteri (by decide +kernel) rfl (Nat.le_of_ble_eq_true rfl) ?_
  intro p e s m below meth c A ls args Q F hZ h hl hret
  have hl : lv_has ls 4 [(0, .ref a0), (1, .long x1)] := hl
  refine tw_iconst F dX12_placeOf_0 ki_0 (fun z1 hz1 => ?_)
  refine lv_istore_n (lv' := [(3, .int z1), (0, .ref a0), (1, .long x1)]) F.1 F.2.1 dX12_placeOf_1 rfl hl (by decide) rfl (fun ls hl => ?_)
  have j_2 : ∀ (n2 : Nat) (ls : Array Slot) (x3_2 : Int32), 0 ≤ x3_2.toInt → x3_2.toInt ≤ 12 → ((12 - x3_2.toInt)).toNat < n2 → lv_has ls 4 [(0, .ref a0), (1, .long x1), (3, .int x3_2)] → W p l e rm_X12_placeOf s m args below meth c s.heap [] 0 0 Q (F0 m 2 ls []) := by
    intro n2
    induction n2 with
    | zero =>
      intro ls x3_2 b2 b3 b4 hl
      exfalso
      omega
    | succ n2 ih2 =>
      intro ls x3_2 b2 b3 b4 hl
      refine lv_iload_n F.1 F.2.1 dX12_placeOf_2 rfl (lv_at hl 2 rfl) ?_
      refine lv_aload_n F.1 F.2.1 dX12_placeOf_3 rfl (lv_at hl 0 rfl) ?_
      refine g_12_298 F h m_a0 r_a0 dX12_placeOf_4 (fun v5 hv5 hv5a hv5b => ?_)
      refine tw_icmp_ge (tgt := 29) F dX12_placeOf_7 (by decide) (fun b6 => ?_) (fun b6 => ?_)
      · refine tw_iconst F dX12_placeOf_29 ki_m1 (fun z7 hz7 => ?_)
        exact hret f0 _ _ _ _ z7 dX12_placeOf_30 rfl ⟨rfl, by omega, by omega⟩ h
      · refine lv_aload_n F.1 F.2.1 dX12_placeOf_10 rfl (lv_at hl 0 rfl) ?_
        refine g_12_60 F h m_a0 r_a0 dX12_placeOf_11 (fun o8 m_o8 r_o8 ho8 => ?_)
        refine lv_iload_n F.1 F.2.1 dX12_placeOf_14 rfl (lv_at hl 2 rfl) ?_
        refine ld_73 F h m_o8 r_o8 (by omega) dX12_placeOf_15 (fun v9 => ?_)
        refine lv_lload_n F.1 F.2.1 dX12_placeOf_16 rfl (lv_at hl 1 rfl) ?_
        refine tw_lcmp F dX12_placeOf_17 (fun z10 hz10 => ?_)
        refine tw_if_ne (tgt := 23) F dX12_placeOf_18 (by decide) (fun b11 => ?_) (fun b11 => ?_)
        · refine tu_iinc F dX12_placeOf_23 hl (k := 2) rfl (by decide) ki_1 (by omega) (fun z12 ls hz12 hl => ?_)
          have hl : lv_has ls 4 [(3, .int z12), (0, .ref a0), (1, .long x1)] := hl
          refine lv_goto (tgt := 2) F.1 F.2.1 dX12_placeOf_26 (by decide) ?_
          exact ih2 _ z12 (by omega) (by omega) (by omega) (lv_sub hl [1, 2, 0] rfl)
        · refine lv_iload_n F.1 F.2.1 dX12_placeOf_21 rfl (lv_at hl 2 rfl) ?_
          exact hret f0 _ _ _ _ x3_2 dX12_placeOf_22 rfl ⟨rfl, by omega, by omega⟩ h
  exact j_2 (((12 - z1.toInt)).toNat + 1) _ z1 (by omega) (by omega) (by omega) (lv_sub hl [1, 2, 0] rfl)
theorem dX12_four_0 : decode cX12_four 0 = .ok (.bipush 24, 2) := by decide +kernel
theorem dX12_four_2 : decode cX12_four 2 = .ok (.istore_n 2, 1) := by decide +kernel
theorem dX12_four_3 : decode cX12_four 3 = .ok (.iload_n 2, 1) := by decide +kernel
theorem dX12_four_4 : decode cX12_four 4 = .ok (.ifCond .lt 32, 3) := by decide +kernel
theorem dX12_four_36 : decode cX12_four 36 = .ok (.return_, 1) := by decide +kernel
theorem dX12_four_7 : decode cX12_four 7 = .ok (.aload_n 0, 1) := by decide +kernel
theorem dX12_four_8 : decode cX12_four 8 = .ok (.getfield 27, 3) := by decide +kernel
theorem mw_207 : Cond.fieldLink RX12 27 "AskBackModel" "tape" "[B" ∈ wsL_law := inr_9 _ (List.mem_of_getElem? (i := 15) rfl)
section
variable {p : Program} {l : Launch} {e : Env} {R0 : Room} {s : State} {m : MethodId} {args : Array Value} {below : List Frame} {meth : Method} {c : Code} {H H0 : Heap} {locs : List Loc} {cells slots : Nat} {Q : State → Prop} {cc : ByteArray} {nL : Nat} {D : va_G} {cy : Nat → ClassId} {A : Nat → Prop} {L : List Nat} {R : Nat → Nat} {f : Nat → va_E} {pc : Nat} {ls : Array Slot} {rest : List Value} {a : Nat}
theorem g_12_27 (F : CallFix p m c cc nL s args wsL_law RX12) (h : tS D cy A H0 L R (TT cy L R) f s H locs) (ha : a ∈ L) (hr : R a = 12) (hdg : decode cc pc = .ok (.getfield 27, 3)) (kk : ∀ b : Nat, b ∈ L → R b = 65 → fld f a 7 = .ref b → W p l e R0 s m args below meth c H locs cells slots Q (F0 m (pc + 3) ls (.ref b :: rest))) : W p l e R0 s m args below meth c H locs cells slots Q (F0 m pc ls (.ref a :: rest)) := tu_getr F h ha hr (fun e q => (T_12 e).mp q) rfl inlX12 rfl (Nat.le_of_ble_eq_true rfl) mw_207 hdg kk
end
theorem dX12_four_11 : decode cX12_four 11 = .ok (.aload_n 0, 1) := by decide +kernel
theorem dX12_four_12 : decode cX12_four 12 = .ok (.getfield 144, 3) := by decide +kernel
theorem mw_367 : Cond.fieldLink RX12 144 "AskBackModel" "taped" "I" ∈ wsL_law := inr_16 _ (List.mem_of_getElem? (i := 7) rfl)
section
variable {p : Program} {l : Launch} {e : Env} {R0 : Room} {s : State} {m : MethodId} {args : Array Value} {below : List Frame} {meth : Method} {c : Code} {H H0 : Heap} {locs : List Loc} {cells slots : Nat} {Q : State → Prop} {cc : ByteArray} {nL : Nat} {D : va_G} {cy : Nat → ClassId} {A : Nat → Prop} {L : List Nat} {R : Nat → Nat} {f : Nat → va_E} {pc : Nat} {ls : Array Slot} {rest : List Value} {a : Nat}
theorem g_12_144 (F : CallFix p m c cc nL s args wsL_law RX12) (h : tS D cy A H0 L R (TT cy L R) f s H locs) (ha : a ∈ L) (hr : R a = 12) (hdg : decode cc pc = .ok (.getfield 144, 3)) (kk : ∀ x : Int32, x.toInt = fi f a 9 → 0 ≤ x.toInt → x.toInt ≤ 600 → W p l e R0 s m args below meth c H locs cells slots Q (F0 m (pc + 3) ls (.int x :: rest))) : W p l e R0 s m args below meth c H locs cells slots Q (F0 m pc ls (.ref a :: rest)) := tu_geti F h ha hr (fun e q => (T_12 e).mp q) rfl inlX12 rfl (Nat.le_of_ble_eq_true rfl) mw_367 hdg (fun x h1 h2 h3 => kk x h1 h2 h3)
end
theorem dX12_four_15 : decode cX12_four 15 = .ok (.iload_n 1, 1) := by decide +kernel
theorem dX12_four_16 : decode cX12_four 16 = .ok (.iload_n 2, 1) := by decide +kernel
theorem dX12_four_17 : decode cX12_four 17 = .ok (.ishr, 1) := by decide +kernel
theorem dX12_four_18 : decode cX12_four 18 = .ok (.i2b, 1) := by decide +kernel
theorem dX12_four_19 : decode cX12_four 19 = .ok (.bastore, 1) := by decide +kernel
section
variable {p : Program} {l : Launch} {e : Env} {R0 : Room} {s : State} {m : MethodId} {args : Array Value} {below : List Frame} {meth : Method} {c : Code} {H H0 : Heap} {locs : List Loc} {cells slots : Nat} {Q : State → Prop} {cc : ByteArray} {nL : Nat} {D : va_G} {cy : Nat → ClassId} {A : Nat → Prop} {L : List Nat} {R : Nat → Nat} {f : Nat → va_E} {pc : Nat} {ls : Array Slot} {rest : List Value} {a : Nat}
theorem st_65 {own : String} (F : CallFix p m c cc nL s args wsL_law own) (h : tS D cy A H0 L R (TT cy L R) f s H locs) {i : Int32} {x : Int32} (ha : a ∈ L) (hr : R a = 65) (hb : 0 ≤ i.toInt ∧ i.toInt < 600) (hdg : decode cc pc = .ok (.bastore, 1)) (kk : ∀ (f1 : Nat → va_E) (H1 : Heap) (locs1 : List Loc), fr L R [] [65] f f1 → tS D cy A H0 L R (TT cy L R) f1 s H1 locs1 → W p l e R0 s m args below meth c H1 locs1 cells slots Q (F0 m (pc + 1) ls (rest))) : W p l e R0 s m args below meth c H locs cells slots Q (F0 m pc ls (.int x :: .int i :: .ref a :: rest)) := tu_bast F h ha hr T_65 hb.1 hb.2 trivial hdg (fun f1 H1 locs1 h1 h2 h3 h4 => kk f1 H1 locs1 h3 h4)
end
theorem dX12_four_20 : decode cX12_four 20 = .ok (.aload_n 0, 1) := by decide +kernel
theorem dX12_four_21 : decode cX12_four 21 = .ok (.dup, 1) := by decide +kernel
theorem dX12_four_22 : decode cX12_four 22 = .ok (.getfield 144, 3) := by decide +kernel
theorem dX12_four_25 : decode cX12_four 25 = .ok (.iconst 1, 1) := by decide +kernel
theorem dX12_four_26 : decode cX12_four 26 = .ok (.iadd, 1) := by decide +kernel
theorem dX12_four_27 : decode cX12_four 27 = .ok (.putfield 144, 3) := by decide +kernel
section
variable {p : Program} {l : Launch} {e : Env} {R0 : Room} {s : State} {m : MethodId} {args : Array Value} {below : List Frame} {meth : Method} {c : Code} {H H0 : Heap} {locs : List Loc} {cells slots : Nat} {Q : State → Prop} {cc : ByteArray} {nL : Nat} {D : va_G} {cy : Nat → ClassId} {A : Nat → Prop} {L : List Nat} {R : Nat → Nat} {f : Nat → va_E} {pc : Nat} {ls : Array Slot} {rest : List Value} {a : Nat}
theorem p_12_144 (F : CallFix p m c cc nL s args wsL_law RX12) (h : tS D cy A H0 L R (TT cy L R) f s H locs) {x : Int32} (ha : a ∈ L) (hr : R a = 12) (hv : 0 ≤ x.toInt ∧ x.toInt ≤ 600) (hdg : decode cc pc = .ok (.putfield 144, 3)) (kk : ∀ (f1 : Nat → va_E) (H1 : Heap) (locs1 : List Loc), fi f1 a 9 = x.toInt → fr L R [(12, 9)] [12] f f1 → tS D cy A H0 L R (TT cy L R) f1 s H1 locs1 → W p l e R0 s m args below meth c H1 locs1 cells slots Q (F0 m (pc + 3) ls (rest))) : W p l e R0 s m args below meth c H locs cells slots Q (F0 m pc ls (.int x :: .ref a :: rest)) := tu_puti (k := 9) F h ha hr T_12 rfl hv.1 hv.2 inlX12 tyX12_ok nmX12 rfl (Nat.le_of_ble_eq_true rfl) mw_367 rfl rfl rfl hdg kk
end
theorem dX12_four_30 : decode cX12_four 30 = .ok (.iinc 2 (-8), 3) := by decide +kernel
theorem dX12_four_33 : decode cX12_four 33 = .ok (.goto (-30), 3) := by decide +kernel
def rm_X12_four : Room := { frames := 0, cells := 0, slots := 0, locals := 0 }
set_option maxHeartbeats 4000000 in
set_option maxRecDepth 100000 in
theorem s_X12_four (l : Launch) (D : va_G) (cy : Nat → ClassId) (L : List Nat) (R O : Nat → Nat) (f0 : Nat → va_E) (a0 : Nat) (m_a0 : a0 ∈ L) (r_a0 : R a0 = 12) (x1 : Int32) (pre0 : fi f0 a0 9 ≤ 596) : ∀ sz, Met l yX12_four (Cond.code yX12_four cX12_four 3 none :: wsL_law) rm_X12_four (va_Pc [.ref a0, .int x1] (tPZ D cy L R (TT cy L R) f0 sz)) (va_Qv (fun f1 => fr L R [(12, 9)] [12, 65] f0 f1 ∧ fi f1 a0 9 = fi f0 a0 9 + 4) (tB D (tA L sz) L R (TT cy L R)) (tA L sz)) 0 0 (tA L sz) := by
  refine tw_enterv (by decide +kernel) rfl (Nat.le_of_ble_eq_true rfl) ?_
  intro p e s m below meth c A ls args Q F hZ h hl hret
  have hl : lv_has ls 3 [(0, .ref a0), (1, .int x1)] := hl
  have hk : fr L R [(12, 9)] [12, 65] f0 f0 := fr.rf
  have t_a0_taped := h.bfi m_a0 r_a0 (fun e q => (T_12 e).mp q) (k := 9) rfl
  refine tw_bipush F dX12_four_0 kb_24 (fun z1 hz1 => ?_)
  refine lv_istore_n (lv' := [(2, .int z1), (0, .ref a0), (1, .int x1)]) F.1 F.2.1 dX12_four_2 rfl hl (by decide) rfl (fun ls hl => ?_)
  have j_3 : ∀ (n3 : Nat) (f2 : Nat → va_E) (H : Heap) (locs : List Loc) (ls : Array Slot) (x2_3 : Int32), (-8) ≤ x2_3.toInt → x2_3.toInt ≤ 24 → 8 * fi f2 a0 9 + x2_3.toInt = 8 * fi f0 a0 9 + 24 → -8 ≤ x2_3.toInt → x2_3.toInt ≤ 24 → x2_3.toInt % 8 = 0 → ((x2_3.toInt - (-8))).toNat < n3 → tS D cy A s.heap L R (TT cy L R) f2 s H locs → fr L R [(12, 9)] [12, 65] f0 f2 → fr L R [(12, 9)] [12, 65] f0 f2 → lv_has ls 3 [(0, .ref a0), (1, .int x1), (2, .int x2_3)] → W p l e rm_X12_four s m args below meth c H locs 0 0 Q (F0 m 3 ls []) := by
    intro n3
    induction n3 with
    | zero =>
      intro f2 H locs ls x2_3 b3 b4 b5 b6 b7 b8 b9 h hk hb3 hl
      exfalso
      omega
    | succ n3 ih3 =>
      intro f2 H locs ls x2_3 b3 b4 b5 b6 b7 b8 b9 h hk hb3 hl
      refine lv_iload_n F.1 F.2.1 dX12_four_3 rfl (lv_at hl 2 rfl) ?_
      refine tw_if_lt (tgt := 36) F dX12_four_4 (by decide) (fun b10 => ?_) (fun b10 => ?_)
      · exact hret f2 _ _ _ _ dX12_four_36 ⟨hk, by omega⟩ h
      · refine lv_aload_n F.1 F.2.1 dX12_four_7 rfl (lv_at hl 0 rfl) ?_
        refine g_12_27 F h m_a0 r_a0 dX12_four_8 (fun o11 m_o11 r_o11 ho11 => ?_)
        refine lv_aload_n F.1 F.2.1 dX12_four_11 rfl (lv_at hl 0 rfl) ?_
        refine g_12_144 F h m_a0 r_a0 dX12_four_12 (fun v12 hv12 hv12a hv12b => ?_)
        refine lv_iload_n F.1 F.2.1 dX12_four_15 rfl (lv_at hl 1 rfl) ?_
        refine lv_iload_n F.1 F.2.1 dX12_four_16 rfl (lv_at hl 2 rfl) ?_
        refine lv_ishr F.1 F.2.1 dX12_four_17 ?_
        refine lv_topi (fun z13 _ => ?_)
        refine lv_i2b F.1 F.2.1 dX12_four_18 rfl ?_
        refine lv_topi (fun z14 _ => ?_)
        refine st_65 F h m_o11 r_o11 (by omega) dX12_four_19 (fun f15 H locs hf15 h => ?_)
        have hk : fr L R [(12, 9)] [12, 65] f0 f15 := hk.tr hf15 rfl rfl
        have hb3 : fr L R [(12, 9)] [12, 65] f0 f15 := hb3.tr hf15 rfl rfl
        have e16 : fi f15 a0 9 = fi f2 a0 9 := hf15.efi m_a0 r_a0 rfl
        refine lv_aload_n F.1 F.2.1 dX12_four_20 rfl (lv_at hl 0 rfl) ?_
        refine lv_dup F.1 F.2.1 dX12_four_21 rfl ?_
        refine g_12_144 F h m_a0 r_a0 dX12_four_22 (fun v17 hv17 hv17a hv17b => ?_)
        refine tw_iconst F dX12_four_25 ki_1 (fun z18 hz18 => ?_)
        refine tu_iadd F dX12_four_26 (by omega) (fun z19 hz19 => ?_)
        refine p_12_144 F h m_a0 r_a0 (by omega) dX12_four_27 (fun f20 H locs e20p hf20 h => ?_)
        have hk : fr L R [(12, 9)] [12, 65] f0 f20 := hk.tr hf20 rfl rfl
        have hb3 : fr L R [(12, 9)] [12, 65] f0 f20 := hb3.tr hf20 rfl rfl
        refine tu_iinc F dX12_four_30 hl (k := 2) rfl (by decide) ki_m8 (by omega) (fun z21 ls hz21 hl => ?_)
        have hl : lv_has ls 3 [(2, .int z21), (0, .ref a0), (1, .int x1)] := hl
        refine lv_goto (tgt := 3) F.1 F.2.1 dX12_four_33 (by decide) ?_
        exact ih3 f20 _ _ _ z21 (by omega) (by omega) (by omega) (by omega) (by omega) (by omega) (by omega) h hk hb3 (lv_sub hl [1, 2, 0] rfl)
  have hb3 : fr L R [(12, 9)] [12, 65] f0 f0 := fr.rf
  exact j_3 (((z1.toInt - (-8))).toNat + 1) f0 _ _ _ z1 (by omega) (by omega) (by omega) (by omega) (by omega) (by omega) (by omega) h hk hb3 (lv_sub hl [1, 2, 0] rfl)
theorem dX12_feed_0 : decode cX12_feed 0 = .ok (.aload_n 0, 1) := by decide +kernel
theorem dX12_feed_1 : decode cX12_feed 1 = .ok (.getfield 144, 3) := by decide +kernel
theorem dX12_feed_4 : decode cX12_feed 4 = .ok (.bipush 20, 2) := by decide +kernel
theorem dX12_feed_6 : decode cX12_feed 6 = .ok (.iadd, 1) := by decide +kernel
theorem dX12_feed_7 : decode cX12_feed 7 = .ok (.sipush 600, 3) := by decide +kernel
theorem dX12_feed_10 : decode cX12_feed 10 = .ok (.if_icmp .le 5, 3) := by decide +kernel
theorem dX12_feed_15 : decode cX12_feed 15 = .ok (.aload_n 0, 1) := by decide +kernel
theorem dX12_feed_16 : decode cX12_feed 16 = .ok (.iload_n 1, 1) := by decide +kernel
theorem dX12_feed_17 : decode cX12_feed 17 = .ok (.invokevirtual 147, 3) := by decide +kernel
theorem mw_368 : Cond.methodLink RX12 147 yX12_four ∈ wsL_law := inr_16 _ (List.mem_of_getElem? (i := 8) rfl)
theorem mw_371 : Cond.code yX12_four cX12_four 3 none ∈ wsL_law := inr_16 _ (List.mem_of_getElem? (i := 11) rfl)
theorem yk_X12_four : xY yX12_four RX12 cX12_four 3 none 1 := ⟨⟨rfl, by decide +kernel, by decide +kernel, by decide +kernel⟩, mw_5, mw_371⟩
theorem mw_369 : Cond.instanceMethod yX12_four ∈ wsL_law := inr_16 _ (List.mem_of_getElem? (i := 9) rfl)
theorem mw_370 : Cond.selects RX12 yX12_four yX12_four ∈ wsL_law := inr_16 _ (List.mem_of_getElem? (i := 10) rfl)
theorem dX12_feed_20 : decode cX12_feed 20 = .ok (.aload_n 0, 1) := by decide +kernel
theorem dX12_feed_21 : decode cX12_feed 21 = .ok (.iload_n 2, 1) := by decide +kernel
theorem dX12_feed_22 : decode cX12_feed 22 = .ok (.invokevirtual 147, 3) := by decide +kernel
theorem dX12_feed_25 : decode cX12_feed 25 = .ok (.aload_n 0, 1) := by decide +kernel
theorem dX12_feed_26 : decode cX12_feed 26 = .ok (.iload_n 3, 1) := by decide +kernel
theorem dX12_feed_27 : decode cX12_feed 27 = .ok (.invokevirtual 147, 3) := by decide +kernel
theorem dX12_feed_30 : decode cX12_feed 30 = .ok (.aload_n 0, 1) := by decide +kernel
theorem dX12_feed_31 : decode cX12_feed 31 = .ok (.iload 4, 2) := by decide +kernel
theorem dX12_feed_33 : decode cX12_feed 33 = .ok (.invokevirtual 147, 3) := by decide +kernel
theorem dX12_feed_36 : decode cX12_feed 36 = .ok (.aload_n 0, 1) := by decide +kernel
theorem dX12_feed_37 : decode cX12_feed 37 = .ok (.iload 5, 2) := by decide +kernel
theorem dX12_feed_39 : decode cX12_feed 39 = .ok (.invokevirtual 147, 3) := by decide +kernel
theorem dX12_feed_42 : decode cX12_feed 42 = .ok (.aload_n 0, 1) := by decide +kernel
theorem dX12_feed_43 : decode cX12_feed 43 = .ok (.getfield 144, 3) := by decide +kernel
theorem dX12_feed_46 : decode cX12_feed 46 = .ok (.ireturn, 1) := by decide +kernel
theorem dX12_feed_13 : decode cX12_feed 13 = .ok (.iconst (-1), 1) := by decide +kernel
theorem dX12_feed_14 : decode cX12_feed 14 = .ok (.ireturn, 1) := by decide +kernel
def rm_X12_feed : Room := { frames := 1, cells := 0, slots := 0, locals := 22 }
set_option maxHeartbeats 4000000 in
set_option maxRecDepth 100000 in
theorem s_X12_feed (l : Launch) (D : va_G) (cy : Nat → ClassId) (L : List Nat) (R O : Nat → Nat) (f0 : Nat → va_E) (a0 : Nat) (m_a0 : a0 ∈ L) (r_a0 : R a0 = 12) (x1 : Int32) (x2 : Int32) (x3 : Int32) (x4 : Int32) (x5 : Int32) : ∀ sz, Met l yX12_feed (Cond.code yX12_feed cX12_feed 6 (some .int) :: wsL_law) rm_X12_feed (va_Pc [.ref a0, .int x1, .int x2, .int x3, .int x4, .int x5] (tPZ D cy L R (TT cy L R) f0 sz)) (va_Qi (fun (r : Int32) f1 => fr L R [(12, 9)] [12, 65] f0 f1 ∧ (-1) ≤ r.toInt ∧ r.toInt ≤ 600) (tB D (tA L sz) L R (TT cy L R)) (tA L sz)) 0 0 (tA L sz) := by
  refine tw_enteri (by decide +kernel) rfl (Nat.le_of_ble_eq_true rfl) ?_
  intro p e s m below meth c A ls args Q F hZ h hl hret
  have hl : lv_has ls 6 [(0, .ref a0), (1, .int x1), (2, .int x2), (3, .int x3), (4, .int x4), (5, .int x5)] := hl
  have hk : fr L R [(12, 9)] [12, 65] f0 f0 := fr.rf
  have t_a0_taped := h.bfi m_a0 r_a0 (fun e q => (T_12 e).mp q) (k := 9) rfl
  refine lv_aload_n F.1 F.2.1 dX12_feed_0 rfl (lv_at hl 0 rfl) ?_
  refine g_12_144 F h m_a0 r_a0 dX12_feed_1 (fun v1 hv1 hv1a hv1b => ?_)
  refine tw_bipush F dX12_feed_4 kb_20 (fun z2 hz2 => ?_)
  refine tu_iadd F dX12_feed_6 (by omega) (fun z3 hz3 => ?_)
  refine tw_sipush F dX12_feed_7 ks_600 (fun z4 hz4 => ?_)
  refine tw_icmp_le (tgt := 15) F dX12_feed_10 (by decide) (fun b5 => ?_) (fun b5 => ?_)
  · refine lv_aload_n F.1 F.2.1 dX12_feed_15 rfl (lv_at hl 0 rfl) ?_
    refine lv_iload_n F.1 F.2.1 dX12_feed_16 rfl (lv_at hl 1 rfl) ?_
    refine tw_Vv (As := [.int x1]) F hZ h yk_X12_four mw_368 mw_369 mw_370 (s_X12_four l D cy L R O f0 a0 m_a0 r_a0 x1 (by omega)) rfl rfl m_a0 r_a0 (fun e q => (T_12 e).mp q) rfl hl.1 rfl (Nat.le_of_ble_eq_true rfl) ⟨Nat.le_of_ble_eq_true rfl, Nat.le_of_ble_eq_true rfl⟩ ⟨Nat.le_of_ble_eq_true rfl, Nat.le_of_ble_eq_true rfl⟩ dX12_feed_17 (fun f6 H locs hp6 h => ?_)
    obtain ⟨hf6, hv7p0⟩ := hp6
    have hk : fr L R [(12, 9)] [12, 65] f0 f6 := hk.tr hf6 rfl rfl
    refine lv_aload_n F.1 F.2.1 dX12_feed_20 rfl (lv_at hl 0 rfl) ?_
    refine lv_iload_n F.1 F.2.1 dX12_feed_21 rfl (lv_at hl 2 rfl) ?_
    refine tw_Vv (As := [.int x2]) F hZ h yk_X12_four mw_368 mw_369 mw_370 (s_X12_four l D cy L R O f6 a0 m_a0 r_a0 x2 (by omega)) rfl rfl m_a0 r_a0 (fun e q => (T_12 e).mp q) rfl hl.1 rfl (Nat.le_of_ble_eq_true rfl) ⟨Nat.le_of_ble_eq_true rfl, Nat.le_of_ble_eq_true rfl⟩ ⟨Nat.le_of_ble_eq_true rfl, Nat.le_of_ble_eq_true rfl⟩ dX12_feed_22 (fun f8 H locs hp8 h => ?_)
    obtain ⟨hf8, hv9p0⟩ := hp8
    have hk : fr L R [(12, 9)] [12, 65] f0 f8 := hk.tr hf8 rfl rfl
    refine lv_aload_n F.1 F.2.1 dX12_feed_25 rfl (lv_at hl 0 rfl) ?_
    refine lv_iload_n F.1 F.2.1 dX12_feed_26 rfl (lv_at hl 3 rfl) ?_
    refine tw_Vv (As := [.int x3]) F hZ h yk_X12_four mw_368 mw_369 mw_370 (s_X12_four l D cy L R O f8 a0 m_a0 r_a0 x3 (by omega)) rfl rfl m_a0 r_a0 (fun e q => (T_12 e).mp q) rfl hl.1 rfl (Nat.le_of_ble_eq_true rfl) ⟨Nat.le_of_ble_eq_true rfl, Nat.le_of_ble_eq_true rfl⟩ ⟨Nat.le_of_ble_eq_true rfl, Nat.le_of_ble_eq_true rfl⟩ dX12_feed_27 (fun f10 H locs hp10 h => ?_)
    obtain ⟨hf10, hv11p0⟩ := hp10
    have hk : fr L R [(12, 9)] [12, 65] f0 f10 := hk.tr hf10 rfl rfl
    refine lv_aload_n F.1 F.2.1 dX12_feed_30 rfl (lv_at hl 0 rfl) ?_
    refine lv_iload F.1 F.2.1 dX12_feed_31 (lv_at hl 4 rfl) ?_
    refine tw_Vv (As := [.int x4]) F hZ h yk_X12_four mw_368 mw_369 mw_370 (s_X12_four l D cy L R O f10 a0 m_a0 r_a0 x4 (by omega)) rfl rfl m_a0 r_a0 (fun e q => (T_12 e).mp q) rfl hl.1 rfl (Nat.le_of_ble_eq_true rfl) ⟨Nat.le_of_ble_eq_true rfl, Nat.le_of_ble_eq_true rfl⟩ ⟨Nat.le_of_ble_eq_true rfl, Nat.le_of_ble_eq_true rfl⟩ dX12_feed_33 (fun f12 H locs hp12 h => ?_)
    obtain ⟨hf12, hv13p0⟩ := hp12
    have hk : fr L R [(12, 9)] [12, 65] f0 f12 := hk.tr hf12 rfl rfl
    refine lv_aload_n F.1 F.2.1 dX12_feed_36 rfl (lv_at hl 0 rfl) ?_
    refine lv_iload F.1 F.2.1 dX12_feed_37 (lv_at hl 5 rfl) ?_
    refine tw_Vv (As := [.int x5]) F hZ h yk_X12_four mw_368 mw_369 mw_370 (s_X12_four l D cy L R O f12 a0 m_a0 r_a0 x5 (by omega)) rfl rfl m_a0 r_a0 (fun e q => (T_12 e).mp q) rfl hl.1 rfl (Nat.le_of_ble_eq_true rfl) ⟨Nat.le_of_ble_eq_true rfl, Nat.le_of_ble_eq_true rfl⟩ ⟨Nat.le_of_ble_eq_true rfl, Nat.le_of_ble_eq_true rfl⟩ dX12_feed_39 (fun f14 H locs hp14 h => ?_)
    obtain ⟨hf14, hv15p0⟩ := hp14
    have hk : fr L R [(12, 9)] [12, 65] f0 f14 := hk.tr hf14 rfl rfl
    refine lv_aload_n F.1 F.2.1 dX12_feed_42 rfl (lv_at hl 0 rfl) ?_
    refine g_12_144 F h m_a0 r_a0 dX12_feed_43 (fun v16 hv16 hv16a hv16b => ?_)
    exact hret f14 _ _ _ _ v16 dX12_feed_46 rfl ⟨hk, by omega, by omega⟩ h
  · refine tw_iconst F dX12_feed_13 ki_m1 (fun z17 hz17 => ?_)
    exact hret f0 _ _ _ _ z17 dX12_feed_14 rfl ⟨hk, by omega, by omega⟩ h
theorem dX12_begins_0 : decode cX12_begins 0 = .ok (.aload_n 0, 1) := by decide +kernel
theorem dX12_begins_1 : decode cX12_begins 1 = .ok (.iload_n 1, 1) := by decide +kernel
theorem dX12_begins_2 : decode cX12_begins 2 = .ok (.putfield 151, 3) := by decide +kernel
section
variable {p : Program} {l : Launch} {e : Env} {R0 : Room} {s : State} {m : MethodId} {args : Array Value} {below : List Frame} {meth : Method} {c : Code} {H H0 : Heap} {locs : List Loc} {cells slots : Nat} {Q : State → Prop} {cc : ByteArray} {nL : Nat} {D : va_G} {cy : Nat → ClassId} {A : Nat → Prop} {L : List Nat} {R : Nat → Nat} {f : Nat → va_E} {pc : Nat} {ls : Array Slot} {rest : List Value} {a : Nat}
theorem p_12_151 (F : CallFix p m c cc nL s args wsL_law RX12) (h : tS D cy A H0 L R (TT cy L R) f s H locs) {x : Int32} (ha : a ∈ L) (hr : R a = 12) (hv : 0 ≤ x.toInt ∧ x.toInt ≤ 600) (hdg : decode cc pc = .ok (.putfield 151, 3)) (kk : ∀ (f1 : Nat → va_E) (H1 : Heap) (locs1 : List Loc), fi f1 a 10 = x.toInt → fr L R [(12, 10)] [12] f f1 → tS D cy A H0 L R (TT cy L R) f1 s H1 locs1 → W p l e R0 s m args below meth c H1 locs1 cells slots Q (F0 m (pc + 3) ls (rest))) : W p l e R0 s m args below meth c H locs cells slots Q (F0 m pc ls (.int x :: .ref a :: rest)) := tu_puti (k := 10) F h ha hr T_12 rfl hv.1 hv.2 inlX12 tyX12_ok nmX12 rfl (Nat.le_of_ble_eq_true rfl) mw_460 rfl rfl rfl hdg kk
end
theorem dX12_begins_5 : decode cX12_begins 5 = .ok (.iconst 0, 1) := by decide +kernel
theorem dX12_begins_6 : decode cX12_begins 6 = .ok (.istore_n 2, 1) := by decide +kernel
theorem dX12_begins_7 : decode cX12_begins 7 = .ok (.iload_n 2, 1) := by decide +kernel
theorem dX12_begins_8 : decode cX12_begins 8 = .ok (.iload_n 1, 1) := by decide +kernel
theorem dX12_begins_9 : decode cX12_begins 9 = .ok (.if_icmp .ge 21, 3) := by decide +kernel
theorem dX12_begins_30 : decode cX12_begins 30 = .ok (.aload_n 0, 1) := by decide +kernel
theorem dX12_begins_31 : decode cX12_begins 31 = .ok (.iconst 0, 1) := by decide +kernel
theorem dX12_begins_32 : decode cX12_begins 32 = .ok (.putfield 144, 3) := by decide +kernel
theorem dX12_begins_35 : decode cX12_begins 35 = .ok (.aload_n 0, 1) := by decide +kernel
theorem dX12_begins_36 : decode cX12_begins 36 = .ok (.iconst 0, 1) := by decide +kernel
theorem dX12_begins_37 : decode cX12_begins 37 = .ok (.putfield 181, 3) := by decide +kernel
theorem mw_450 : Cond.fieldLink RX12 181 "AskBackModel" "faults" "I" ∈ wsL_law := inr_19 _ (List.mem_of_getElem? (i := 18) rfl)
section
variable {p : Program} {l : Launch} {e : Env} {R0 : Room} {s : State} {m : MethodId} {args : Array Value} {below : List Frame} {meth : Method} {c : Code} {H H0 : Heap} {locs : List Loc} {cells slots : Nat} {Q : State → Prop} {cc : ByteArray} {nL : Nat} {D : va_G} {cy : Nat → ClassId} {A : Nat → Prop} {L : List Nat} {R : Nat → Nat} {f : Nat → va_E} {pc : Nat} {ls : Array Slot} {rest : List Value} {a : Nat}
theorem p_12_181 (F : CallFix p m c cc nL s args wsL_law RX12) (h : tS D cy A H0 L R (TT cy L R) f s H locs) {x : Int32} (ha : a ∈ L) (hr : R a = 12) (hdg : decode cc pc = .ok (.putfield 181, 3)) (kk : ∀ (f1 : Nat → va_E) (H1 : Heap) (locs1 : List Loc), fi f1 a 17 = x.toInt → fr L R [(12, 17)] [12] f f1 → tS D cy A H0 L R (TT cy L R) f1 s H1 locs1 → W p l e R0 s m args below meth c H1 locs1 cells slots Q (F0 m (pc + 3) ls (rest))) : W p l e R0 s m args below meth c H locs cells slots Q (F0 m pc ls (.int x :: .ref a :: rest)) := tu_puti (k := 17) F h ha hr T_12 rfl (tb_i x).1 (tb_i x).2 inlX12 tyX12_ok nmX12 rfl (Nat.le_of_ble_eq_true rfl) mw_450 rfl rfl rfl hdg kk
end
theorem dX12_begins_40 : decode cX12_begins 40 = .ok (.aload_n 0, 1) := by decide +kernel
theorem dX12_begins_41 : decode cX12_begins 41 = .ok (.iconst (-1), 1) := by decide +kernel
theorem dX12_begins_42 : decode cX12_begins 42 = .ok (.putfield 38, 3) := by decide +kernel
section
variable {p : Program} {l : Launch} {e : Env} {R0 : Room} {s : State} {m : MethodId} {args : Array Value} {below : List Frame} {meth : Method} {c : Code} {H H0 : Heap} {locs : List Loc} {cells slots : Nat} {Q : State → Prop} {cc : ByteArray} {nL : Nat} {D : va_G} {cy : Nat → ClassId} {A : Nat → Prop} {L : List Nat} {R : Nat → Nat} {f : Nat → va_E} {pc : Nat} {ls : Array Slot} {rest : List Value} {a : Nat}
theorem p_12_38 (F : CallFix p m c cc nL s args wsL_law RX12) (h : tS D cy A H0 L R (TT cy L R) f s H locs) {x : Int32} (ha : a ∈ L) (hr : R a = 12) (hdg : decode cc pc = .ok (.putfield 38, 3)) (kk : ∀ (f1 : Nat → va_E) (H1 : Heap) (locs1 : List Loc), fi f1 a 16 = x.toInt → fr L R [(12, 16)] [12] f f1 → tS D cy A H0 L R (TT cy L R) f1 s H1 locs1 → W p l e R0 s m args below meth c H1 locs1 cells slots Q (F0 m (pc + 3) ls (rest))) : W p l e R0 s m args below meth c H locs cells slots Q (F0 m pc ls (.int x :: .ref a :: rest)) := tu_puti (k := 16) F h ha hr T_12 rfl (tb_i x).1 (tb_i x).2 inlX12 tyX12_ok nmX12 rfl (Nat.le_of_ble_eq_true rfl) mw_210 rfl rfl rfl hdg kk
end
theorem dX12_begins_45 : decode cX12_begins 45 = .ok (.aload_n 0, 1) := by decide +kernel
theorem dX12_begins_46 : decode cX12_begins 46 = .ok (.iconst 0, 1) := by decide +kernel
theorem dX12_begins_47 : decode cX12_begins 47 = .ok (.putfield 154, 3) := by decide +kernel
theorem mw_461 : Cond.fieldLink RX12 154 "AskBackModel" "end" "I" ∈ wsL_law := inr_20 _ (List.mem_of_getElem? (i := 5) rfl)
section
variable {p : Program} {l : Launch} {e : Env} {R0 : Room} {s : State} {m : MethodId} {args : Array Value} {below : List Frame} {meth : Method} {c : Code} {H H0 : Heap} {locs : List Loc} {cells slots : Nat} {Q : State → Prop} {cc : ByteArray} {nL : Nat} {D : va_G} {cy : Nat → ClassId} {A : Nat → Prop} {L : List Nat} {R : Nat → Nat} {f : Nat → va_E} {pc : Nat} {ls : Array Slot} {rest : List Value} {a : Nat}
theorem p_12_154 (F : CallFix p m c cc nL s args wsL_law RX12) (h : tS D cy A H0 L R (TT cy L R) f s H locs) {x : Int32} (ha : a ∈ L) (hr : R a = 12) (hv : 0 ≤ x.toInt ∧ x.toInt ≤ 600) (hdg : decode cc pc = .ok (.putfield 154, 3)) (kk : ∀ (f1 : Nat → va_E) (H1 : Heap) (locs1 : List Loc), fi f1 a 13 = x.toInt → fr L R [(12, 13)] [12] f f1 → tS D cy A H0 L R (TT cy L R) f1 s H1 locs1 → W p l e R0 s m args below meth c H1 locs1 cells slots Q (F0 m (pc + 3) ls (rest))) : W p l e R0 s m args below meth c H locs cells slots Q (F0 m pc ls (.int x :: .ref a :: rest)) := tu_puti (k := 13) F h ha hr T_12 rfl hv.1 hv.2 inlX12 tyX12_ok nmX12 rfl (Nat.le_of_ble_eq_true rfl) mw_461 rfl rfl rfl hdg kk
end
theorem dX12_begins_50 : decode cX12_begins 50 = .ok (.return_, 1) := by decide +kernel
theorem dX12_begins_12 : decode cX12_begins 12 = .ok (.aload_n 0, 1) := by decide +kernel
theorem dX12_begins_13 : decode cX12_begins 13 = .ok (.getfield 31, 3) := by decide +kernel
theorem dX12_begins_16 : decode cX12_begins 16 = .ok (.iload_n 2, 1) := by decide +kernel
theorem dX12_begins_17 : decode cX12_begins 17 = .ok (.aload_n 0, 1) := by decide +kernel
theorem dX12_begins_18 : decode cX12_begins 18 = .ok (.getfield 27, 3) := by decide +kernel
theorem dX12_begins_21 : decode cX12_begins 21 = .ok (.iload_n 2, 1) := by decide +kernel
theorem dX12_begins_22 : decode cX12_begins 22 = .ok (.baload, 1) := by decide +kernel
section
variable {p : Program} {l : Launch} {e : Env} {R0 : Room} {s : State} {m : MethodId} {args : Array Value} {below : List Frame} {meth : Method} {c : Code} {H H0 : Heap} {locs : List Loc} {cells slots : Nat} {Q : State → Prop} {cc : ByteArray} {nL : Nat} {D : va_G} {cy : Nat → ClassId} {A : Nat → Prop} {L : List Nat} {R : Nat → Nat} {f : Nat → va_E} {pc : Nat} {ls : Array Slot} {rest : List Value} {a : Nat}
theorem ld_65 {own : String} (F : CallFix p m c cc nL s args wsL_law own) (h : tS D cy A H0 L R (TT cy L R) f s H locs) {i : Int32} (ha : a ∈ L) (hr : R a = 65) (hb : 0 ≤ i.toInt ∧ i.toInt < 600) (hdg : decode cc pc = .ok (.baload, 1)) (kk : ∀ x : Int32, W p l e R0 s m args below meth c H locs cells slots Q (F0 m (pc + 1) ls (.int x :: rest))) : W p l e R0 s m args below meth c H locs cells slots Q (F0 m pc ls (.int i :: .ref a :: rest)) := tu_bald F h ha hr (fun e q => (T_65 e).mp q) hb.1 hb.2 hdg (fun x h1 h2 => kk x)
end
theorem dX12_begins_23 : decode cX12_begins 23 = .ok (.bastore, 1) := by decide +kernel
section
variable {p : Program} {l : Launch} {e : Env} {R0 : Room} {s : State} {m : MethodId} {args : Array Value} {below : List Frame} {meth : Method} {c : Code} {H H0 : Heap} {locs : List Loc} {cells slots : Nat} {Q : State → Prop} {cc : ByteArray} {nL : Nat} {D : va_G} {cy : Nat → ClassId} {A : Nat → Prop} {L : List Nat} {R : Nat → Nat} {f : Nat → va_E} {pc : Nat} {ls : Array Slot} {rest : List Value} {a : Nat}
theorem st_66 {own : String} (F : CallFix p m c cc nL s args wsL_law own) (h : tS D cy A H0 L R (TT cy L R) f s H locs) {i : Int32} {x : Int32} (ha : a ∈ L) (hr : R a = 66) (hb : 0 ≤ i.toInt ∧ i.toInt < 600) (hdg : decode cc pc = .ok (.bastore, 1)) (kk : ∀ (f1 : Nat → va_E) (H1 : Heap) (locs1 : List Loc), fr L R [] [66] f f1 → tS D cy A H0 L R (TT cy L R) f1 s H1 locs1 → W p l e R0 s m args below meth c H1 locs1 cells slots Q (F0 m (pc + 1) ls (rest))) : W p l e R0 s m args below meth c H locs cells slots Q (F0 m pc ls (.int x :: .int i :: .ref a :: rest)) := tu_bast F h ha hr T_66 hb.1 hb.2 trivial hdg (fun f1 H1 locs1 h1 h2 h3 h4 => kk f1 H1 locs1 h3 h4)
end
theorem dX12_begins_24 : decode cX12_begins 24 = .ok (.iinc 2 1, 3) := by decide +kernel
theorem dX12_begins_27 : decode cX12_begins 27 = .ok (.goto (-20), 3) := by decide +kernel
def rm_X12_begins : Room := { frames := 0, cells := 0, slots := 0, locals := 0 }
set_option maxHeartbeats 4000000 in
set_option maxRecDepth 100000 in
theorem s_X12_begins (l : Launch) (D : va_G) (cy : Nat → ClassId) (L : List Nat) (R O : Nat → Nat) (f0 : Nat → va_E) (a0 : Nat) (m_a0 : a0 ∈ L) (r_a0 : R a0 = 12) (x1 : Int32) (b1 : 0 ≤ x1.toInt ∧ x1.toInt ≤ 600) : ∀ sz, Met l yX12_begins (Cond.code yX12_begins cX12_begins 3 none :: wsL_law) rm_X12_begins (va_Pc [.ref a0, .int x1] (tPZ D cy L R (TT cy L R) f0 sz)) (va_Qv (fun f1 => fr L R [(12, 9), (12, 10), (12, 13), (12, 16), (12, 17)] [12, 66] f0 f1) (tB D (tA L sz) L R (TT cy L R)) (tA L sz)) 0 0 (tA L sz) := by
  refine tw_enterv (by decide +kernel) rfl (Nat.le_of_ble_eq_true rfl) ?_
  intro p e s m below meth c A ls args Q F hZ h hl hret
  have hl : lv_has ls 3 [(0, .ref a0), (1, .int x1)] := hl
  have hk : fr L R [(12, 9), (12, 10), (12, 13), (12, 16), (12, 17)] [12, 66] f0 f0 := fr.rf
  refine lv_aload_n F.1 F.2.1 dX12_begins_0 rfl (lv_at hl 0 rfl) ?_
  refine lv_iload_n F.1 F.2.1 dX12_begins_1 rfl (lv_at hl 1 rfl) ?_
  refine p_12_151 F h m_a0 r_a0 (by omega) dX12_begins_2 (fun f1 H locs e1p hf1 h => ?_)
  have hk : fr L R [(12, 9), (12, 10), (12, 13), (12, 16), (12, 17)] [12, 66] f0 f1 := hk.tr hf1 rfl rfl
  refine tw_iconst F dX12_begins_5 ki_0 (fun z2 hz2 => ?_)
  refine lv_istore_n (lv' := [(2, .int z2), (0, .ref a0), (1, .int x1)]) F.1 F.2.1 dX12_begins_6 rfl hl (by decide) rfl (fun ls hl => ?_)
  have j_7 : ∀ (n7 : Nat) (f3 : Nat → va_E) (H : Heap) (locs : List Loc) (ls : Array Slot) (x2_7 : Int32), 0 ≤ x2_7.toInt → x2_7.toInt ≤ 600 → ((600 - x2_7.toInt)).toNat < n7 → tS D cy A s.heap L R (TT cy L R) f3 s H locs → fr L R [(12, 9), (12, 10), (12, 13), (12, 16), (12, 17)] [12, 66] f0 f3 → lv_has ls 3 [(0, .ref a0), (1, .int x1), (2, .int x2_7)] → W p l e rm_X12_begins s m args below meth c H locs 0 0 Q (F0 m 7 ls []) := by
    intro n7
    induction n7 with
    | zero =>
      intro f3 H locs ls x2_7 b4 b5 b6 h hk hl
      exfalso
      omega
    | succ n7 ih7 =>
      intro f3 H locs ls x2_7 b4 b5 b6 h hk hl
      refine lv_iload_n F.1 F.2.1 dX12_begins_7 rfl (lv_at hl 2 rfl) ?_
      refine lv_iload_n F.1 F.2.1 dX12_begins_8 rfl (lv_at hl 1 rfl) ?_
      refine tw_icmp_ge (tgt := 30) F dX12_begins_9 (by decide) (fun b7 => ?_) (fun b7 => ?_)
      · refine lv_aload_n F.1 F.2.1 dX12_begins_30 rfl (lv_at hl 0 rfl) ?_
        refine tw_iconst F dX12_begins_31 ki_0 (fun z8 hz8 => ?_)
        refine p_12_144 F h m_a0 r_a0 (by omega) dX12_begins_32 (fun f9 H locs e9p hf9 h => ?_)
        have hk : fr L R [(12, 9), (12, 10), (12, 13), (12, 16), (12, 17)] [12, 66] f0 f9 := hk.tr hf9 rfl rfl
        refine lv_aload_n F.1 F.2.1 dX12_begins_35 rfl (lv_at hl 0 rfl) ?_
        refine tw_iconst F dX12_begins_36 ki_0 (fun z10 hz10 => ?_)
        refine p_12_181 F h m_a0 r_a0 dX12_begins_37 (fun f11 H locs e11p hf11 h => ?_)
        have hk : fr L R [(12, 9), (12, 10), (12, 13), (12, 16), (12, 17)] [12, 66] f0 f11 := hk.tr hf11 rfl rfl
        refine lv_aload_n F.1 F.2.1 dX12_begins_40 rfl (lv_at hl 0 rfl) ?_
        refine tw_iconst F dX12_begins_41 ki_m1 (fun z12 hz12 => ?_)
        refine p_12_38 F h m_a0 r_a0 dX12_begins_42 (fun f13 H locs e13p hf13 h => ?_)
        have hk : fr L R [(12, 9), (12, 10), (12, 13), (12, 16), (12, 17)] [12, 66] f0 f13 := hk.tr hf13 rfl rfl
        refine lv_aload_n F.1 F.2.1 dX12_begins_45 rfl (lv_at hl 0 rfl) ?_
        refine tw_iconst F dX12_begins_46 ki_0 (fun z14 hz14 => ?_)
        refine p_12_154 F h m_a0 r_a0 (by omega) dX12_begins_47 (fun f15 H locs e15p hf15 h => ?_)
        have hk : fr L R [(12, 9), (12, 10), (12, 13), (12, 16), (12, 17)] [12, 66] f0 f15 := hk.tr hf15 rfl rfl
        exact hret f15 _ _ _ _ dX12_begins_50 hk h
      · refine lv_aload_n F.1 F.2.1 dX12_begins_12 rfl (lv_at hl 0 rfl) ?_
        refine g_12_31 F h m_a0 r_a0 dX12_begins_13 (fun o16 m_o16 r_o16 ho16 => ?_)
        refine lv_iload_n F.1 F.2.1 dX12_begins_16 rfl (lv_at hl 2 rfl) ?_
        refine lv_aload_n F.1 F.2.1 dX12_begins_17 rfl (lv_at hl 0 rfl) ?_
        refine g_12_27 F h m_a0 r_a0 dX12_begins_18 (fun o17 m_o17 r_o17 ho17 => ?_)
        refine lv_iload_n F.1 F.2.1 dX12_begins_21 rfl (lv_at hl 2 rfl) ?_
        refine ld_65 F h m_o17 r_o17 (by omega) dX12_begins_22 (fun v18 => ?_)
        refine st_66 F h m_o16 r_o16 (by omega) dX12_begins_23 (fun f19 H locs hf19 h => ?_)
        have hk : fr L R [(12, 9), (12, 10), (12, 13), (12, 16), (12, 17)] [12, 66] f0 f19 := hk.tr hf19 rfl rfl
        refine tu_iinc F dX12_begins_24 hl (k := 2) rfl (by decide) ki_1 (by omega) (fun z20 ls hz20 hl => ?_)
        have hl : lv_has ls 3 [(2, .int z20), (0, .ref a0), (1, .int x1)] := hl
        refine lv_goto (tgt := 7) F.1 F.2.1 dX12_begins_27 (by decide) ?_
        exact ih7 f19 _ _ _ z20 (by omega) (by omega) (by omega) h hk (lv_sub hl [1, 2, 0] rfl)
  exact j_7 (((600 - z2.toInt)).toNat + 1) f1 _ _ _ z2 (by omega) (by omega) (by omega) h hk (lv_sub hl [1, 2, 0] rfl)
theorem dX12_wordHere_0 : decode cX12_wordHere 0 = .ok (.lconst 0, 1) := by decide +kernel
theorem dX12_wordHere_1 : decode cX12_wordHere 1 = .ok (.lstore_n 1, 1) := by decide +kernel
theorem dX12_wordHere_2 : decode cX12_wordHere 2 = .ok (.aload_n 0, 1) := by decide +kernel
theorem dX12_wordHere_3 : decode cX12_wordHere 3 = .ok (.getfield 161, 3) := by decide +kernel
theorem mw_467 : Cond.fieldLink RX12 161 "AskBackModel" "from" "I" ∈ wsL_law := inr_20 _ (List.mem_of_getElem? (i := 11) rfl)
section
variable {p : Program} {l : Launch} {e : Env} {R0 : Room} {s : State} {m : MethodId} {args : Array Value} {below : List Frame} {meth : Method} {c : Code} {H H0 : Heap} {locs : List Loc} {cells slots : Nat} {Q : State → Prop} {cc : ByteArray} {nL : Nat} {D : va_G} {cy : Nat → ClassId} {A : Nat → Prop} {L : List Nat} {R : Nat → Nat} {f : Nat → va_E} {pc : Nat} {ls : Array Slot} {rest : List Value} {a : Nat}
theorem g_12_161 (F : CallFix p m c cc nL s args wsL_law RX12) (h : tS D cy A H0 L R (TT cy L R) f s H locs) (ha : a ∈ L) (hr : R a = 12) (hdg : decode cc pc = .ok (.getfield 161, 3)) (kk : ∀ x : Int32, x.toInt = fi f a 12 → 0 ≤ x.toInt → x.toInt ≤ 600 → W p l e R0 s m args below meth c H locs cells slots Q (F0 m (pc + 3) ls (.int x :: rest))) : W p l e R0 s m args below meth c H locs cells slots Q (F0 m pc ls (.ref a :: rest)) := tu_geti F h ha hr (fun e q => (T_12 e).mp q) rfl inlX12 rfl (Nat.le_of_ble_eq_true rfl) mw_467 hdg (fun x h1 h2 h3 => kk x h1 h2 h3)
end
theorem dX12_wordHere_6 : decode cX12_wordHere 6 = .ok (.istore_n 3, 1) := by decide +kernel
theorem dX12_wordHere_7 : decode cX12_wordHere 7 = .ok (.iload_n 3, 1) := by decide +kernel
theorem dX12_wordHere_8 : decode cX12_wordHere 8 = .ok (.aload_n 0, 1) := by decide +kernel
theorem dX12_wordHere_9 : decode cX12_wordHere 9 = .ok (.getfield 154, 3) := by decide +kernel
section
variable {p : Program} {l : Launch} {e : Env} {R0 : Room} {s : State} {m : MethodId} {args : Array Value} {below : List Frame} {meth : Method} {c : Code} {H H0 : Heap} {locs : List Loc} {cells slots : Nat} {Q : State → Prop} {cc : ByteArray} {nL : Nat} {D : va_G} {cy : Nat → ClassId} {A : Nat → Prop} {L : List Nat} {R : Nat → Nat} {f : Nat → va_E} {pc : Nat} {ls : Array Slot} {rest : List Value} {a : Nat}
theorem g_12_154 (F : CallFix p m c cc nL s args wsL_law RX12) (h : tS D cy A H0 L R (TT cy L R) f s H locs) (ha : a ∈ L) (hr : R a = 12) (hdg : decode cc pc = .ok (.getfield 154, 3)) (kk : ∀ x : Int32, x.toInt = fi f a 13 → 0 ≤ x.toInt → x.toInt ≤ 600 → W p l e R0 s m args below meth c H locs cells slots Q (F0 m (pc + 3) ls (.int x :: rest))) : W p l e R0 s m args below meth c H locs cells slots Q (F0 m pc ls (.ref a :: rest)) := tu_geti F h ha hr (fun e q => (T_12 e).mp q) rfl inlX12 rfl (Nat.le_of_ble_eq_true rfl) mw_461 hdg (fun x h1 h2 h3 => kk x h1 h2 h3)
end
theorem dX12_wordHere_12 : decode cX12_wordHere 12 = .ok (.if_icmp .ge 25, 3) := by decide +kernel
theorem dX12_wordHere_37 : decode cX12_wordHere 37 = .ok (.lload_n 1, 1) := by decide +kernel
theorem dX12_wordHere_38 : decode cX12_wordHere 38 = .ok (.lreturn, 1) := by decide +kernel
theorem dX12_wordHere_15 : decode cX12_wordHere 15 = .ok (.lload_n 1, 1) := by decide +kernel
theorem dX12_wordHere_16 : decode cX12_wordHere 16 = .ok (.iconst 5, 1) := by decide +kernel
theorem dX12_wordHere_17 : decode cX12_wordHere 17 = .ok (.lshl, 1) := by decide +kernel
theorem dX12_wordHere_18 : decode cX12_wordHere 18 = .ok (.aload_n 0, 1) := by decide +kernel
theorem dX12_wordHere_19 : decode cX12_wordHere 19 = .ok (.iload_n 3, 1) := by decide +kernel
theorem dX12_wordHere_20 : decode cX12_wordHere 20 = .ok (.invokevirtual 157, 3) := by decide +kernel
theorem mw_477 : Cond.methodLink RX12 157 yX12_byteAt ∈ wsL_law := inr_20 _ (List.mem_of_getElem? (i := 21) rfl)
theorem mw_480 : Cond.code yX12_byteAt cX12_byteAt 2 (some .int) ∈ wsL_law := inr_21 _ (List.mem_of_getElem? (i := 0) rfl)
theorem yk_X12_byteAt : xY yX12_byteAt RX12 cX12_byteAt 2 (some .int) 1 := ⟨⟨rfl, by decide +kernel, by decide +kernel, by decide +kernel⟩, mw_5, mw_480⟩
theorem mw_478 : Cond.instanceMethod yX12_byteAt ∈ wsL_law := inr_20 _ (List.mem_of_getElem? (i := 22) rfl)
theorem mw_479 : Cond.selects RX12 yX12_byteAt yX12_byteAt ∈ wsL_law := inr_20 _ (List.mem_of_getElem? (i := 23) rfl)
theorem dX12_wordHere_23 : decode cX12_wordHere 23 = .ok (.bipush 97, 2) := by decide +kernel
theorem dX12_wordHere_25 : decode cX12_wordHere 25 = .ok (.isub, 1) := by decide +kernel
theorem dX12_wordHere_26 : decode cX12_wordHere 26 = .ok (.i2l, 1) := by decide +kernel
theorem dX12_wordHere_27 : decode cX12_wordHere 27 = .ok (.lconst 1, 1) := by decide +kernel
theorem dX12_wordHere_28 : decode cX12_wordHere 28 = .ok (.ladd, 1) := by decide +kernel
theorem dX12_wordHere_29 : decode cX12_wordHere 29 = .ok (.lor, 1) := by decide +kernel
theorem dX12_wordHere_30 : decode cX12_wordHere 30 = .ok (.lstore_n 1, 1) := by decide +kernel
theorem dX12_wordHere_31 : decode cX12_wordHere 31 = .ok (.iinc 3 1, 3) := by decide +kernel
theorem dX12_wordHere_34 : decode cX12_wordHere 34 = .ok (.goto (-27), 3) := by decide +kernel
def rm_X12_wordHere : Room := { frames := 1, cells := 0, slots := 0, locals := 21 }
set_option maxHeartbeats 4000000 in
set_option maxRecDepth 100000 in
theorem s_X12_wordHere (l : Launch) (D : va_G) (cy : Nat → ClassId) (L : List Nat) (R O : Nat → Nat) (f0 : Nat → va_E) (a0 : Nat) (m_a0 : a0 ∈ L) (r_a0 : R a0 = 12) : ∀ sz, Met l yX12_wordHere (Cond.code yX12_wordHere cX12_wordHere 4 (some .long) :: wsL_law) rm_X12_wordHere (va_Pc [.ref a0] (tPZ D cy L R (TT cy L R) f0 sz)) (va_Ql (fun (r : Int64) f1 => f0 = f1) (tB D (tA L sz) L R (TT cy L R)) (tA L sz)) 0 0 (tA L sz) := by
  refine tw_enterl (by decide +kernel) rfl (Nat.le_of_ble_eq_true rfl) ?_
  intro p e s m below meth c A ls args Q F hZ h hl hret
  have hl : lv_has ls 4 [(0, .ref a0)] := hl
  refine tu_lconst F dX12_wordHere_0 (by decide) (fun z1 (hz1 : z1.toInt = 0) => ?_)
  refine lv_lstore_n (lv' := [(1, .long z1), (0, .ref a0)]) F.1 F.2.1 dX12_wordHere_1 rfl hl (by decide) rfl (fun ls hl => ?_)
  refine lv_aload_n F.1 F.2.1 dX12_wordHere_2 rfl (lv_at hl 1 rfl) ?_
  refine g_12_161 F h m_a0 r_a0 dX12_wordHere_3 (fun v2 hv2 hv2a hv2b => ?_)
  refine lv_istore_n (lv' := [(3, .int v2), (1, .long z1), (0, .ref a0)]) F.1 F.2.1 dX12_wordHere_6 rfl hl (by decide) rfl (fun ls hl => ?_)
  have j_7 : ∀ (n7 : Nat) (H : Heap) (locs : List Loc) (ls : Array Slot) (x1_7 : Int64) (x3_7 : Int32), 0 ≤ x3_7.toInt → x3_7.toInt ≤ 600 → ((600 - x3_7.toInt)).toNat < n7 → tS D cy A s.heap L R (TT cy L R) f0 s H locs → lv_has ls 4 [(0, .ref a0), (1, .long x1_7), (3, .int x3_7)] → W p l e rm_X12_wordHere s m args below meth c H locs 0 0 Q (F0 m 7 ls []) := by
    intro n7
    induction n7 with
    | zero =>
      intro H locs ls x1_7 x3_7 b3 b4 b5 h hl
      exfalso
      omega
    | succ n7 ih7 =>
      intro H locs ls x1_7 x3_7 b3 b4 b5 h hl
      refine lv_iload_n F.1 F.2.1 dX12_wordHere_7 rfl (lv_at hl 2 rfl) ?_
      refine lv_aload_n F.1 F.2.1 dX12_wordHere_8 rfl (lv_at hl 0 rfl) ?_
      refine g_12_154 F h m_a0 r_a0 dX12_wordHere_9 (fun v6 hv6 hv6a hv6b => ?_)
      refine tw_icmp_ge (tgt := 37) F dX12_wordHere_12 (by decide) (fun b7 => ?_) (fun b7 => ?_)
      · refine lv_lload_n F.1 F.2.1 dX12_wordHere_37 rfl (lv_at hl 1 rfl) ?_
        exact hret f0 _ _ _ _ x1_7 dX12_wordHere_38 rfl h
      · refine lv_lload_n F.1 F.2.1 dX12_wordHere_15 rfl (lv_at hl 1 rfl) ?_
        refine tw_iconst F dX12_wordHere_16 ki_5 (fun z8 hz8 => ?_)
        refine lv_lshl F.1 F.2.1 dX12_wordHere_17 rfl ?_
        refine lv_topl (fun z9 _ => ?_)
        refine lv_aload_n F.1 F.2.1 dX12_wordHere_18 rfl (lv_at hl 0 rfl) ?_
        refine lv_iload_n F.1 F.2.1 dX12_wordHere_19 rfl (lv_at hl 2 rfl) ?_
        refine tw_Vi (As := [.int x3_7]) F hZ h yk_X12_byteAt mw_477 mw_478 mw_479 (s_X12_byteAt l D cy L R O f0 a0 m_a0 r_a0 x3_7 ⟨by omega, by omega⟩) rfl rfl m_a0 r_a0 (fun e q => (T_12 e).mp q) rfl hl.1 rfl (Nat.le_of_ble_eq_true rfl) ⟨Nat.le_of_ble_eq_true rfl, Nat.le_of_ble_eq_true rfl⟩ ⟨Nat.le_of_ble_eq_true rfl, Nat.le_of_ble_eq_true rfl⟩ dX12_wordHere_20 (fun v11 f10 H locs hp10 h => ?_)
        obtain ⟨rfl, hv11a, hv11b, hv11p0, hv11p1, hv11p2, hv11p3⟩ := hp10
        refine tw_bipush F dX12_wordHere_23 kb_97 (fun z12 hz12 => ?_)
        refine tu_isub F dX12_wordHere_25 (by omega) (fun z13 hz13 => ?_)
        refine tw_i2l F dX12_wordHere_26 (fun z14 hz14 => ?_)
        refine tu_lconst F dX12_wordHere_27 (by decide) (fun z15 (hz15 : z15.toInt = 1) => ?_)
        refine tu_ladd F dX12_wordHere_28 (by omega) (fun z16 hz16 => ?_)
        refine lv_lor F.1 F.2.1 dX12_wordHere_29 ?_
        refine lv_topl (fun z17 _ => ?_)
        refine lv_lstore_n (lv' := [(1, .long z17), (0, .ref a0), (3, .int x3_7)]) F.1 F.2.1 dX12_wordHere_30 rfl hl (by decide) rfl (fun ls hl => ?_)
        refine tu_iinc F dX12_wordHere_31 hl (k := 2) rfl (by decide) ki_1 (by omega) (fun z18 ls hz18 hl => ?_)
        have hl : lv_has ls 4 [(3, .int z18), (1, .long z17), (0, .ref a0)] := hl
        refine lv_goto (tgt := 7) F.1 F.2.1 dX12_wordHere_34 (by decide) ?_
        exact ih7 _ _ _ z17 z18 (by omega) (by omega) (by omega) h (lv_sub hl [2, 1, 0] rfl)
  exact j_7 (((600 - v2.toInt)).toNat + 1) _ _ _ z1 v2 (by omega) (by omega) (by omega) h (lv_sub hl [2, 1, 0] rfl)
theorem dX12_fails_0 : decode cX12_fails 0 = .ok (.aload_n 0, 1) := by decide +kernel
theorem dX12_fails_1 : decode cX12_fails 1 = .ok (.getfield 181, 3) := by decide +kernel
section
variable {p : Program} {l : Launch} {e : Env} {R0 : Room} {s : State} {m : MethodId} {args : Array Value} {below : List Frame} {meth : Method} {c : Code} {H H0 : Heap} {locs : List Loc} {cells slots : Nat} {Q : State → Prop} {cc : ByteArray} {nL : Nat} {D : va_G} {cy : Nat → ClassId} {A : Nat → Prop} {L : List Nat} {R : Nat → Nat} {f : Nat → va_E} {pc : Nat} {ls : Array Slot} {rest : List Value} {a : Nat}
theorem g_12_181 (F : CallFix p m c cc nL s args wsL_law RX12) (h : tS D cy A H0 L R (TT cy L R) f s H locs) (ha : a ∈ L) (hr : R a = 12) (hdg : decode cc pc = .ok (.getfield 181, 3)) (kk : ∀ x : Int32, x.toInt = fi f a 17 → W p l e R0 s m args below meth c H locs cells slots Q (F0 m (pc + 3) ls (.int x :: rest))) : W p l e R0 s m args below meth c H locs cells slots Q (F0 m pc ls (.ref a :: rest)) := tu_geti F h ha hr (fun e q => (T_12 e).mp q) rfl inlX12 rfl (Nat.le_of_ble_eq_true rfl) mw_450 hdg (fun x h1 h2 h3 => kk x h1)
end
theorem dX12_fails_4 : decode cX12_fails 4 = .ok (.ifCond .ne 28, 3) := by decide +kernel
theorem dX12_fails_32 : decode cX12_fails 32 = .ok (.iconst 0, 1) := by decide +kernel
theorem dX12_fails_33 : decode cX12_fails 33 = .ok (.ireturn, 1) := by decide +kernel
theorem dX12_fails_7 : decode cX12_fails 7 = .ok (.aload_n 0, 1) := by decide +kernel
theorem dX12_fails_8 : decode cX12_fails 8 = .ok (.aload_n 0, 1) := by decide +kernel
theorem dX12_fails_9 : decode cX12_fails 9 = .ok (.getfield 167, 3) := by decide +kernel
theorem mw_466 : Cond.fieldLink RX12 167 "AskBackModel" "token" "I" ∈ wsL_law := inr_20 _ (List.mem_of_getElem? (i := 10) rfl)
section
variable {p : Program} {l : Launch} {e : Env} {R0 : Room} {s : State} {m : MethodId} {args : Array Value} {below : List Frame} {meth : Method} {c : Code} {H H0 : Heap} {locs : List Loc} {cells slots : Nat} {Q : State → Prop} {cc : ByteArray} {nL : Nat} {D : va_G} {cy : Nat → ClassId} {A : Nat → Prop} {L : List Nat} {R : Nat → Nat} {f : Nat → va_E} {pc : Nat} {ls : Array Slot} {rest : List Value} {a : Nat}
theorem g_12_167 (F : CallFix p m c cc nL s args wsL_law RX12) (h : tS D cy A H0 L R (TT cy L R) f s H locs) (ha : a ∈ L) (hr : R a = 12) (hdg : decode cc pc = .ok (.getfield 167, 3)) (kk : ∀ x : Int32, x.toInt = fi f a 11 → 0 ≤ x.toInt → x.toInt ≤ 4 → W p l e R0 s m args below meth c H locs cells slots Q (F0 m (pc + 3) ls (.int x :: rest))) : W p l e R0 s m args below meth c H locs cells slots Q (F0 m pc ls (.ref a :: rest)) := tu_geti F h ha hr (fun e q => (T_12 e).mp q) rfl inlX12 rfl (Nat.le_of_ble_eq_true rfl) mw_466 hdg (fun x h1 h2 h3 => kk x h1 h2 h3)
end
theorem dX12_fails_12 : decode cX12_fails 12 = .ok (.iconst 1, 1) := by decide +kernel
theorem dX12_fails_21 : decode cX12_fails 21 = .ok (.putfield 181, 3) := by decide +kernel
theorem dX12_fails_24 : decode cX12_fails 24 = .ok (.aload_n 0, 1) := by decide +kernel
theorem dX12_fails_25 : decode cX12_fails 25 = .ok (.aload_n 0, 1) := by decide +kernel
theorem dX12_fails_26 : decode cX12_fails 26 = .ok (.getfield 161, 3) := by decide +kernel
theorem dX12_fails_29 : decode cX12_fails 29 = .ok (.putfield 38, 3) := by decide +kernel
theorem dX12_fails_13 : decode cX12_fails 13 = .ok (.if_icmp .ne 7, 3) := by decide +kernel
theorem dX12_fails_20 : decode cX12_fails 20 = .ok (.iload_n 1, 1) := by decide +kernel
theorem dX12_fails_16 : decode cX12_fails 16 = .ok (.iconst 1, 1) := by decide +kernel
theorem dX12_fails_17 : decode cX12_fails 17 = .ok (.goto 4, 3) := by decide +kernel
def rm_X12_fails : Room := { frames := 0, cells := 0, slots := 0, locals := 0 }
set_option maxHeartbeats 4000000 in
set_option maxRecDepth 100000 in
theorem s_X12_fails (l : Launch) (D : va_G) (cy : Nat → ClassId) (L : List Nat) (R O : Nat → Nat) (f0 : Nat → va_E) (a0 : Nat) (m_a0 : a0 ∈ L) (r_a0 : R a0 = 12) (x1 : Int32) (b1 : 1 ≤ x1.toInt ∧ x1.toInt ≤ 5) : ∀ sz, Met l yX12_fails (Cond.code yX12_fails cX12_fails 2 (some .boolean) :: wsL_law) rm_X12_fails (va_Pc [.ref a0, .int x1] (tPZ D cy L R (TT cy L R) f0 sz)) (va_Qi (fun (r : Int32) f1 => fr L R [(12, 16), (12, 17)] [12] f0 f1 ∧ 0 ≤ r.toInt ∧ r.toInt ≤ 0) (tB D (tA L sz) L R (TT cy L R)) (tA L sz)) 0 0 (tA L sz) := by
  refine tw_enteri (by decide +kernel) rfl (Nat.le_of_ble_eq_true rfl) ?_
  intro p e s m below meth c A ls args Q F hZ h hl hret
  have hl : lv_has ls 2 [(0, .ref a0), (1, .int x1)] := hl
  have hk : fr L R [(12, 16), (12, 17)] [12] f0 f0 := fr.rf
  refine lv_aload_n F.1 F.2.1 dX12_fails_0 rfl (lv_at hl 0 rfl) ?_
  refine g_12_181 F h m_a0 r_a0 dX12_fails_1 (fun v1 hv1 => ?_)
  refine tw_if_ne (tgt := 32) F dX12_fails_4 (by decide) (fun b2 => ?_) (fun b2 => ?_)
  · refine tw_iconst F dX12_fails_32 ki_0 (fun z3 hz3 => ?_)
    exact hret f0 _ _ _ _ z3 dX12_fails_33 (tw_nb (by omega)) ⟨hk, by omega, by omega⟩ h
  · refine lv_aload_n F.1 F.2.1 dX12_fails_7 rfl (lv_at hl 0 rfl) ?_
    refine lv_aload_n F.1 F.2.1 dX12_fails_8 rfl (lv_at hl 0 rfl) ?_
    refine g_12_167 F h m_a0 r_a0 dX12_fails_9 (fun v4 hv4 hv4a hv4b => ?_)
    refine tw_iconst F dX12_fails_12 ki_1 (fun z5 hz5 => ?_)
    have j_21 : ∀ (ls : Array Slot) (y0_21 : Int32), 1 ≤ y0_21.toInt → y0_21.toInt ≤ 5 → lv_has ls 2 [(0, .ref a0)] → W p l e rm_X12_fails s m args below meth c s.heap [] 0 0 Q (F0 m 21 ls [.int y0_21, .ref a0]) := by
      intro ls y0_21 b6 b7 hl
      refine p_12_181 F h m_a0 r_a0 dX12_fails_21 (fun f8 H locs e8p hf8 h => ?_)
      have hk : fr L R [(12, 16), (12, 17)] [12] f0 f8 := hk.tr hf8 rfl rfl
      refine lv_aload_n F.1 F.2.1 dX12_fails_24 rfl (lv_at hl 0 rfl) ?_
      refine lv_aload_n F.1 F.2.1 dX12_fails_25 rfl (lv_at hl 0 rfl) ?_
      refine g_12_161 F h m_a0 r_a0 dX12_fails_26 (fun v9 hv9 hv9a hv9b => ?_)
      refine p_12_38 F h m_a0 r_a0 dX12_fails_29 (fun f10 H locs e10p hf10 h => ?_)
      have hk : fr L R [(12, 16), (12, 17)] [12] f0 f10 := hk.tr hf10 rfl rfl
      refine tw_iconst F dX12_fails_32 ki_0 (fun z11 hz11 => ?_)
      exact hret f10 _ _ _ _ z11 dX12_fails_33 (tw_nb (by omega)) ⟨hk, by omega, by omega⟩ h
    refine tw_icmp_ne (tgt := 20) F dX12_fails_13 (by decide) (fun b12 => ?_) (fun b12 => ?_)
    · refine lv_iload_n F.1 F.2.1 dX12_fails_20 rfl (lv_at hl 1 rfl) ?_
      exact j_21 _ x1 (by omega) (by omega) (lv_sub hl [0] rfl)
    · refine tw_iconst F dX12_fails_16 ki_1 (fun z13 hz13 => ?_)
      refine lv_goto (tgt := 21) F.1 F.2.1 dX12_fails_17 (by decide) ?_
      exact j_21 _ z13 (by omega) (by omega) (lv_sub hl [0] rfl)
theorem dX12_isSign_0 : decode cX12_isSign 0 = .ok (.aload_n 0, 1) := by decide +kernel
theorem dX12_isSign_1 : decode cX12_isSign 1 = .ok (.getfield 167, 3) := by decide +kernel
theorem dX12_isSign_4 : decode cX12_isSign 4 = .ok (.iconst 4, 1) := by decide +kernel
theorem dX12_isSign_5 : decode cX12_isSign 5 = .ok (.if_icmp .ne 15, 3) := by decide +kernel
theorem dX12_isSign_20 : decode cX12_isSign 20 = .ok (.iconst 0, 1) := by decide +kernel
theorem dX12_isSign_21 : decode cX12_isSign 21 = .ok (.ireturn, 1) := by decide +kernel
theorem dX12_isSign_8 : decode cX12_isSign 8 = .ok (.aload_n 0, 1) := by decide +kernel
theorem dX12_isSign_9 : decode cX12_isSign 9 = .ok (.getfield 164, 3) := by decide +kernel
theorem mw_472 : Cond.fieldLink RX12 164 "AskBackModel" "value" "I" ∈ wsL_law := inr_20 _ (List.mem_of_getElem? (i := 16) rfl)
section
variable {p : Program} {l : Launch} {e : Env} {R0 : Room} {s : State} {m : MethodId} {args : Array Value} {below : List Frame} {meth : Method} {c : Code} {H H0 : Heap} {locs : List Loc} {cells slots : Nat} {Q : State → Prop} {cc : ByteArray} {nL : Nat} {D : va_G} {cy : Nat → ClassId} {A : Nat → Prop} {L : List Nat} {R : Nat → Nat} {f : Nat → va_E} {pc : Nat} {ls : Array Slot} {rest : List Value} {a : Nat}
theorem g_12_164 (F : CallFix p m c cc nL s args wsL_law RX12) (h : tS D cy A H0 L R (TT cy L R) f s H locs) (ha : a ∈ L) (hr : R a = 12) (hdg : decode cc pc = .ok (.getfield 164, 3)) (kk : ∀ x : Int32, x.toInt = fi f a 14 → W p l e R0 s m args below meth c H locs cells slots Q (F0 m (pc + 3) ls (.int x :: rest))) : W p l e R0 s m args below meth c H locs cells slots Q (F0 m pc ls (.ref a :: rest)) := tu_geti F h ha hr (fun e q => (T_12 e).mp q) rfl inlX12 rfl (Nat.le_of_ble_eq_true rfl) mw_472 hdg (fun x h1 h2 h3 => kk x h1)
end
theorem dX12_isSign_12 : decode cX12_isSign 12 = .ok (.iload_n 1, 1) := by decide +kernel
theorem dX12_isSign_13 : decode cX12_isSign 13 = .ok (.if_icmp .ne 7, 3) := by decide +kernel
theorem dX12_isSign_16 : decode cX12_isSign 16 = .ok (.iconst 1, 1) := by decide +kernel
theorem dX12_isSign_17 : decode cX12_isSign 17 = .ok (.goto 4, 3) := by decide +kernel
def rm_X12_isSign : Room := { frames := 0, cells := 0, slots := 0, locals := 0 }
set_option maxHeartbeats 4000000 in
set_option maxRecDepth 100000 in
theorem s_X12_isSign (l : Launch) (D : va_G) (cy : Nat → ClassId) (L : List Nat) (R O : Nat → Nat) (f0 : Nat → va_E) (a0 : Nat) (m_a0 : a0 ∈ L) (r_a0 : R a0 = 12) (x1 : Int32) (b1 : 42 ≤ x1.toInt ∧ x1.toInt ≤ 63) : ∀ sz, Met l yX12_isSign (Cond.code yX12_isSign cX12_isSign 2 (some .boolean) :: wsL_law) rm_X12_isSign (va_Pc [.ref a0, .int x1] (tPZ D cy L R (TT cy L R) f0 sz)) (va_Qi (fun (r : Int32) f1 => f0 = f1 ∧ 0 ≤ r.toInt ∧ r.toInt ≤ 1) (tB D (tA L sz) L R (TT cy L R)) (tA L sz)) 0 0 (tA L sz) := by
  refine tw_enteri (by decide +kernel) rfl (Nat.le_of_ble_eq_true rfl) ?_
  intro p e s m below meth c A ls args Q F hZ h hl hret
  have hl : lv_has ls 2 [(0, .ref a0), (1, .int x1)] := hl
  refine lv_aload_n F.1 F.2.1 dX12_isSign_0 rfl (lv_at hl 0 rfl) ?_
  refine g_12_167 F h m_a0 r_a0 dX12_isSign_1 (fun v1 hv1 hv1a hv1b => ?_)
  refine tw_iconst F dX12_isSign_4 ki_4 (fun z2 hz2 => ?_)
  refine tw_icmp_ne (tgt := 20) F dX12_isSign_5 (by decide) (fun b3 => ?_) (fun b3 => ?_)
  · refine tw_iconst F dX12_isSign_20 ki_0 (fun z4 hz4 => ?_)
    exact hret f0 _ _ _ _ z4 dX12_isSign_21 (tw_nb (by omega)) ⟨rfl, by omega, by omega⟩ h
  · refine lv_aload_n F.1 F.2.1 dX12_isSign_8 rfl (lv_at hl 0 rfl) ?_
    refine g_12_164 F h m_a0 r_a0 dX12_isSign_9 (fun v5 hv5 => ?_)
    refine lv_iload_n F.1 F.2.1 dX12_isSign_12 rfl (lv_at hl 1 rfl) ?_
    refine tw_icmp_ne (tgt := 20) F dX12_isSign_13 (by decide) (fun b6 => ?_) (fun b6 => ?_)
    · refine tw_iconst F dX12_isSign_20 ki_0 (fun z7 hz7 => ?_)
      exact hret f0 _ _ _ _ z7 dX12_isSign_21 (tw_nb (by omega)) ⟨rfl, by omega, by omega⟩ h
    · refine tw_iconst F dX12_isSign_16 ki_1 (fun z8 hz8 => ?_)
      refine lv_goto (tgt := 21) F.1 F.2.1 dX12_isSign_17 (by decide) ?_
      exact hret f0 _ _ _ _ z8 dX12_isSign_21 (tw_nb (by omega)) ⟨rfl, by omega, by omega⟩ h
