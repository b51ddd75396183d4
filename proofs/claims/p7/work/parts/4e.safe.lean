theorem dX3_fail_0 : decode cX3_fail 0 = .ok (.aload_n 0, 1) := by decide +kernel
theorem dX3_fail_1 : decode cX3_fail 1 = .ok (.iload_n 1, 1) := by decide +kernel
theorem dX3_fail_2 : decode cX3_fail 2 = .ok (.putfield 25, 3) := by decide +kernel
theorem mw_59 : Cond.fieldLink RX3 25 "AskBack$Reader" "faultKind" "I" ∈ wsL_law := inr_3 _ (List.mem_of_getElem? (i := 11) rfl)
section
variable {p : Program} {l : Launch} {e : Env} {R0 : Room} {s : State} {m : MethodId} {args : Array Value} {below : List Frame} {meth : Method} {c : Code} {H H0 : Heap} {locs : List Loc} {cells slots : Nat} {Q : State → Prop} {cc : ByteArray} {nL : Nat} {D : va_G} {cy : Nat → ClassId} {A : Nat → Prop} {L : List Nat} {R : Nat → Nat} {f : Nat → va_E} {pc : Nat} {ls : Array Slot} {rest : List Value} {a : Nat}
theorem p_3_25 (F : CallFix p m c cc nL s args wsL_law RX3) (h : tS D cy A H0 L R (TT cy L R) f s H locs) {x : Int32} (ha : a ∈ L) (hr : R a = 3) (hdg : decode cc pc = .ok (.putfield 25, 3)) (kk : ∀ (f1 : Nat → va_E) (H1 : Heap) (locs1 : List Loc), fi f1 a 2 = x.toInt → fr L R [(3, 2)] [3] f f1 → tS D cy A H0 L R (TT cy L R) f1 s H1 locs1 → W p l e R0 s m args below meth c H1 locs1 cells slots Q (F0 m (pc + 3) ls (rest))) : W p l e R0 s m args below meth c H locs cells slots Q (F0 m pc ls (.int x :: .ref a :: rest)) := tu_puti (k := 2) F h ha hr T_3 rfl (tb_i x).1 (tb_i x).2 inlX3 tyX3_ok nmX3 rfl (Nat.le_of_ble_eq_true rfl) mw_59 rfl rfl rfl hdg kk
end
theorem dX3_fail_5 : decode cX3_fail 5 = .ok (.aload_n 0, 1) := by decide +kernel
theorem dX3_fail_6 : decode cX3_fail 6 = .ok (.aload_n 0, 1) := by decide +kernel
theorem dX3_fail_7 : decode cX3_fail 7 = .ok (.getfield 58, 3) := by decide +kernel
theorem mw_70 : Cond.fieldLink RX3 58 "AskBack$Reader" "at" "I" ∈ wsL_law := inr_3 _ (List.mem_of_getElem? (i := 22) rfl)
section
variable {p : Program} {l : Launch} {e : Env} {R0 : Room} {s : State} {m : MethodId} {args : Array Value} {below : List Frame} {meth : Method} {c : Code} {H H0 : Heap} {locs : List Loc} {cells slots : Nat} {Q : State → Prop} {cc : ByteArray} {nL : Nat} {D : va_G} {cy : Nat → ClassId} {A : Nat → Prop} {L : List Nat} {R : Nat → Nat} {f : Nat → va_E} {pc : Nat} {ls : Array Slot} {rest : List Value} {a : Nat}
theorem g_3_58 (F : CallFix p m c cc nL s args wsL_law RX3) (h : tS D cy A H0 L R (TT cy L R) f s H locs) (ha : a ∈ L) (hr : R a = 3) (hdg : decode cc pc = .ok (.getfield 58, 3)) (kk : ∀ x : Int32, x.toInt = fi f a 12 → 0 ≤ x.toInt → x.toInt ≤ 601 → W p l e R0 s m args below meth c H locs cells slots Q (F0 m (pc + 3) ls (.int x :: rest))) : W p l e R0 s m args below meth c H locs cells slots Q (F0 m pc ls (.ref a :: rest)) := tu_geti F h ha hr (fun e q => (T_3 e).mp q) rfl inlX3 rfl (Nat.le_of_ble_eq_true rfl) mw_70 hdg (fun x h1 h2 h3 => kk x h1 h2 h3)
end
theorem dX3_fail_10 : decode cX3_fail 10 = .ok (.aload_n 0, 1) := by decide +kernel
theorem dX3_fail_11 : decode cX3_fail 11 = .ok (.getfield 46, 3) := by decide +kernel
theorem mw_66 : Cond.fieldLink RX3 46 "AskBack$Reader" "tokenCount" "I" ∈ wsL_law := inr_3 _ (List.mem_of_getElem? (i := 18) rfl)
section
variable {p : Program} {l : Launch} {e : Env} {R0 : Room} {s : State} {m : MethodId} {args : Array Value} {below : List Frame} {meth : Method} {c : Code} {H H0 : Heap} {locs : List Loc} {cells slots : Nat} {Q : State → Prop} {cc : ByteArray} {nL : Nat} {D : va_G} {cy : Nat → ClassId} {A : Nat → Prop} {L : List Nat} {R : Nat → Nat} {f : Nat → va_E} {pc : Nat} {ls : Array Slot} {rest : List Value} {a : Nat}
theorem g_3_46 (F : CallFix p m c cc nL s args wsL_law RX3) (h : tS D cy A H0 L R (TT cy L R) f s H locs) (ha : a ∈ L) (hr : R a = 3) (hdg : decode cc pc = .ok (.getfield 46, 3)) (kk : ∀ x : Int32, x.toInt = fi f a 8 → 0 ≤ x.toInt → x.toInt ≤ 600 → W p l e R0 s m args below meth c H locs cells slots Q (F0 m (pc + 3) ls (.int x :: rest))) : W p l e R0 s m args below meth c H locs cells slots Q (F0 m pc ls (.ref a :: rest)) := tu_geti F h ha hr (fun e q => (T_3 e).mp q) rfl inlX3 rfl (Nat.le_of_ble_eq_true rfl) mw_66 hdg (fun x h1 h2 h3 => kk x h1 h2 h3)
end
theorem dX3_fail_14 : decode cX3_fail 14 = .ok (.if_icmp .gt 15, 3) := by decide +kernel
theorem dX3_fail_29 : decode cX3_fail 29 = .ok (.iconst (-1), 1) := by decide +kernel
theorem dX3_fail_30 : decode cX3_fail 30 = .ok (.putfield 29, 3) := by decide +kernel
theorem mw_60 : Cond.fieldLink RX3 29 "AskBack$Reader" "faultPlace" "I" ∈ wsL_law := inr_3 _ (List.mem_of_getElem? (i := 12) rfl)
section
variable {p : Program} {l : Launch} {e : Env} {R0 : Room} {s : State} {m : MethodId} {args : Array Value} {below : List Frame} {meth : Method} {c : Code} {H H0 : Heap} {locs : List Loc} {cells slots : Nat} {Q : State → Prop} {cc : ByteArray} {nL : Nat} {D : va_G} {cy : Nat → ClassId} {A : Nat → Prop} {L : List Nat} {R : Nat → Nat} {f : Nat → va_E} {pc : Nat} {ls : Array Slot} {rest : List Value} {a : Nat}
theorem p_3_29 (F : CallFix p m c cc nL s args wsL_law RX3) (h : tS D cy A H0 L R (TT cy L R) f s H locs) {x : Int32} (ha : a ∈ L) (hr : R a = 3) (hdg : decode cc pc = .ok (.putfield 29, 3)) (kk : ∀ (f1 : Nat → va_E) (H1 : Heap) (locs1 : List Loc), fi f1 a 3 = x.toInt → fr L R [(3, 3)] [3] f f1 → tS D cy A H0 L R (TT cy L R) f1 s H1 locs1 → W p l e R0 s m args below meth c H1 locs1 cells slots Q (F0 m (pc + 3) ls (rest))) : W p l e R0 s m args below meth c H locs cells slots Q (F0 m pc ls (.int x :: .ref a :: rest)) := tu_puti (k := 3) F h ha hr T_3 rfl (tb_i x).1 (tb_i x).2 inlX3 tyX3_ok nmX3 rfl (Nat.le_of_ble_eq_true rfl) mw_60 rfl rfl rfl hdg kk
end
theorem dX3_fail_33 : decode cX3_fail 33 = .ok (.iconst 0, 1) := by decide +kernel
theorem dX3_fail_34 : decode cX3_fail 34 = .ok (.ireturn, 1) := by decide +kernel
theorem dX3_fail_17 : decode cX3_fail 17 = .ok (.aload_n 0, 1) := by decide +kernel
theorem dX3_fail_18 : decode cX3_fail 18 = .ok (.getfield 36, 3) := by decide +kernel
theorem mw_62 : Cond.fieldLink RX3 36 "AskBack$Reader" "starts" "[I" ∈ wsL_law := inr_3 _ (List.mem_of_getElem? (i := 14) rfl)
section
variable {p : Program} {l : Launch} {e : Env} {R0 : Room} {s : State} {m : MethodId} {args : Array Value} {below : List Frame} {meth : Method} {c : Code} {H H0 : Heap} {locs : List Loc} {cells slots : Nat} {Q : State → Prop} {cc : ByteArray} {nL : Nat} {D : va_G} {cy : Nat → ClassId} {A : Nat → Prop} {L : List Nat} {R : Nat → Nat} {f : Nat → va_E} {pc : Nat} {ls : Array Slot} {rest : List Value} {a : Nat}
theorem g_3_36 (F : CallFix p m c cc nL s args wsL_law RX3) (h : tS D cy A H0 L R (TT cy L R) f s H locs) (ha : a ∈ L) (hr : R a = 3) (hdg : decode cc pc = .ok (.getfield 36, 3)) (kk : ∀ b : Nat, b ∈ L → R b = 59 → fld f a 5 = .ref b → W p l e R0 s m args below meth c H locs cells slots Q (F0 m (pc + 3) ls (.ref b :: rest))) : W p l e R0 s m args below meth c H locs cells slots Q (F0 m pc ls (.ref a :: rest)) := tu_getr F h ha hr (fun e q => (T_3 e).mp q) rfl inlX3 rfl (Nat.le_of_ble_eq_true rfl) mw_62 hdg kk
end
theorem dX3_fail_21 : decode cX3_fail 21 = .ok (.aload_n 0, 1) := by decide +kernel
theorem dX3_fail_22 : decode cX3_fail 22 = .ok (.getfield 58, 3) := by decide +kernel
theorem dX3_fail_25 : decode cX3_fail 25 = .ok (.iaload, 1) := by decide +kernel
section
variable {p : Program} {l : Launch} {e : Env} {R0 : Room} {s : State} {m : MethodId} {args : Array Value} {below : List Frame} {meth : Method} {c : Code} {H H0 : Heap} {locs : List Loc} {cells slots : Nat} {Q : State → Prop} {cc : ByteArray} {nL : Nat} {D : va_G} {cy : Nat → ClassId} {A : Nat → Prop} {L : List Nat} {R : Nat → Nat} {f : Nat → va_E} {pc : Nat} {ls : Array Slot} {rest : List Value} {a : Nat}
theorem ld_59 {own : String} (F : CallFix p m c cc nL s args wsL_law own) (h : tS D cy A H0 L R (TT cy L R) f s H locs) {i : Int32} (ha : a ∈ L) (hr : R a = 59) (hb : 0 ≤ i.toInt ∧ i.toInt < 601) (hdg : decode cc pc = .ok (.iaload, 1)) (kk : ∀ x : Int32, W p l e R0 s m args below meth c H locs cells slots Q (F0 m (pc + 1) ls (.int x :: rest))) : W p l e R0 s m args below meth c H locs cells slots Q (F0 m pc ls (.int i :: .ref a :: rest)) := tu_iald F h ha hr (fun e q => (T_59 e).mp q) hb.1 hb.2 hdg (fun x h1 h2 => kk x)
end
theorem dX3_fail_26 : decode cX3_fail 26 = .ok (.goto 4, 3) := by decide +kernel
def rm_X3_fail : Room := { frames := 0, cells := 0, slots := 0, locals := 0 }
set_option maxHeartbeats 4000000 in
set_option maxRecDepth 100000 in
theorem s_X3_fail (l : Launch) (D : va_G) (cy : Nat → ClassId) (L : List Nat) (R O : Nat → Nat) (f0 : Nat → va_E) (a0 : Nat) (m_a0 : a0 ∈ L) (r_a0 : R a0 = 3) (x1 : Int32) (b1 : 1 ≤ x1.toInt ∧ x1.toInt ≤ 6) : ∀ sz, Met l yX3_fail (Cond.code yX3_fail cX3_fail 2 (some .boolean) :: wsL_law) rm_X3_fail (va_Pc [.ref a0, .int x1] (tPZ D cy L R (TT cy L R) f0 sz)) (va_Qi (fun (r : Int32) f1 => fr L R [(3, 2), (3, 3)] [3] f0 f1 ∧ 0 ≤ r.toInt ∧ r.toInt ≤ 0) (tB D (tA L sz) L R (TT cy L R)) (tA L sz)) 0 0 (tA L sz) := by
  refine tw_enteri (by decide +kernel) rfl (Nat.le_of_ble_eq_true rfl) ?_
  intro p e s m below meth c A ls args Q F hZ h hl hret
  have hl : lv_has ls 2 [(0, .ref a0), (1, .int x1)] := hl
  have hk : fr L R [(3, 2), (3, 3)] [3] f0 f0 := fr.rf
  refine lv_aload_n F.1 F.2.1 dX3_fail_0 rfl (lv_at hl 0 rfl) ?_
  refine lv_iload_n F.1 F.2.1 dX3_fail_1 rfl (lv_at hl 1 rfl) ?_
  refine p_3_25 F h m_a0 r_a0 dX3_fail_2 (fun f1 H locs e1p hf1 h => ?_)
  have hk : fr L R [(3, 2), (3, 3)] [3] f0 f1 := hk.tr hf1 rfl rfl
  refine lv_aload_n F.1 F.2.1 dX3_fail_5 rfl (lv_at hl 0 rfl) ?_
  refine lv_aload_n F.1 F.2.1 dX3_fail_6 rfl (lv_at hl 0 rfl) ?_
  refine g_3_58 F h m_a0 r_a0 dX3_fail_7 (fun v2 hv2 hv2a hv2b => ?_)
  refine lv_aload_n F.1 F.2.1 dX3_fail_10 rfl (lv_at hl 0 rfl) ?_
  refine g_3_46 F h m_a0 r_a0 dX3_fail_11 (fun v3 hv3 hv3a hv3b => ?_)
  refine tw_icmp_gt (tgt := 29) F dX3_fail_14 (by decide) (fun b4 => ?_) (fun b4 => ?_)
  · refine tw_iconst F dX3_fail_29 ki_m1 (fun z5 hz5 => ?_)
    refine p_3_29 F h m_a0 r_a0 dX3_fail_30 (fun f6 H locs e6p hf6 h => ?_)
    have hk : fr L R [(3, 2), (3, 3)] [3] f0 f6 := hk.tr hf6 rfl rfl
    have e7 : fi f6 a0 12 = fi f1 a0 12 := hf6.efi m_a0 r_a0 rfl
    refine tw_iconst F dX3_fail_33 ki_0 (fun z8 hz8 => ?_)
    exact hret f6 _ _ _ _ z8 dX3_fail_34 (tw_nb (by omega)) ⟨hk, by omega, by omega⟩ h
  · refine lv_aload_n F.1 F.2.1 dX3_fail_17 rfl (lv_at hl 0 rfl) ?_
    refine g_3_36 F h m_a0 r_a0 dX3_fail_18 (fun o9 m_o9 r_o9 ho9 => ?_)
    refine lv_aload_n F.1 F.2.1 dX3_fail_21 rfl (lv_at hl 0 rfl) ?_
    refine g_3_58 F h m_a0 r_a0 dX3_fail_22 (fun v10 hv10 hv10a hv10b => ?_)
    refine ld_59 F h m_o9 r_o9 (by omega) dX3_fail_25 (fun v11 => ?_)
    refine lv_goto (tgt := 30) F.1 F.2.1 dX3_fail_26 (by decide) ?_
    refine p_3_29 F h m_a0 r_a0 dX3_fail_30 (fun f12 H locs e12p hf12 h => ?_)
    have hk : fr L R [(3, 2), (3, 3)] [3] f0 f12 := hk.tr hf12 rfl rfl
    have e13 : fi f12 a0 12 = fi f1 a0 12 := hf12.efi m_a0 r_a0 rfl
    refine tw_iconst F dX3_fail_33 ki_0 (fun z14 hz14 => ?_)
    exact hret f12 _ _ _ _ z14 dX3_fail_34 (tw_nb (by omega)) ⟨hk, by omega, by omega⟩ h
theorem dX3_kind_0 : decode cX3_kind 0 = .ok (.aload_n 0, 1) := by decide +kernel
theorem dX3_kind_1 : decode cX3_kind 1 = .ok (.getfield 58, 3) := by decide +kernel
theorem dX3_kind_4 : decode cX3_kind 4 = .ok (.aload_n 0, 1) := by decide +kernel
theorem dX3_kind_5 : decode cX3_kind 5 = .ok (.getfield 46, 3) := by decide +kernel
theorem dX3_kind_8 : decode cX3_kind 8 = .ok (.if_icmp .ge 15, 3) := by decide +kernel
theorem dX3_kind_23 : decode cX3_kind 23 = .ok (.iconst 0, 1) := by decide +kernel
theorem dX3_kind_24 : decode cX3_kind 24 = .ok (.ireturn, 1) := by decide +kernel
theorem dX3_kind_11 : decode cX3_kind 11 = .ok (.aload_n 0, 1) := by decide +kernel
theorem dX3_kind_12 : decode cX3_kind 12 = .ok (.getfield 32, 3) := by decide +kernel
theorem mw_61 : Cond.fieldLink RX3 32 "AskBack$Reader" "kinds" "[I" ∈ wsL_law := inr_3 _ (List.mem_of_getElem? (i := 13) rfl)
section
variable {p : Program} {l : Launch} {e : Env} {R0 : Room} {s : State} {m : MethodId} {args : Array Value} {below : List Frame} {meth : Method} {c : Code} {H H0 : Heap} {locs : List Loc} {cells slots : Nat} {Q : State → Prop} {cc : ByteArray} {nL : Nat} {D : va_G} {cy : Nat → ClassId} {A : Nat → Prop} {L : List Nat} {R : Nat → Nat} {f : Nat → va_E} {pc : Nat} {ls : Array Slot} {rest : List Value} {a : Nat}
theorem g_3_32 (F : CallFix p m c cc nL s args wsL_law RX3) (h : tS D cy A H0 L R (TT cy L R) f s H locs) (ha : a ∈ L) (hr : R a = 3) (hdg : decode cc pc = .ok (.getfield 32, 3)) (kk : ∀ b : Nat, b ∈ L → R b = 30 → fld f a 4 = .ref b → W p l e R0 s m args below meth c H locs cells slots Q (F0 m (pc + 3) ls (.ref b :: rest))) : W p l e R0 s m args below meth c H locs cells slots Q (F0 m pc ls (.ref a :: rest)) := tu_getr F h ha hr (fun e q => (T_3 e).mp q) rfl inlX3 rfl (Nat.le_of_ble_eq_true rfl) mw_61 hdg kk
end
theorem dX3_kind_15 : decode cX3_kind 15 = .ok (.aload_n 0, 1) := by decide +kernel
theorem dX3_kind_16 : decode cX3_kind 16 = .ok (.getfield 58, 3) := by decide +kernel
theorem dX3_kind_19 : decode cX3_kind 19 = .ok (.iaload, 1) := by decide +kernel
section
variable {p : Program} {l : Launch} {e : Env} {R0 : Room} {s : State} {m : MethodId} {args : Array Value} {below : List Frame} {meth : Method} {c : Code} {H H0 : Heap} {locs : List Loc} {cells slots : Nat} {Q : State → Prop} {cc : ByteArray} {nL : Nat} {D : va_G} {cy : Nat → ClassId} {A : Nat → Prop} {L : List Nat} {R : Nat → Nat} {f : Nat → va_E} {pc : Nat} {ls : Array Slot} {rest : List Value} {a : Nat}
theorem le_30 {own : String} (F : CallFix p m c cc nL s args wsL_law own) (h : tS D cy A H0 L R (TT cy L R) f s H locs) {i : Int32} (ha : a ∈ L) (hr : R a = 30) (hb : 0 ≤ i.toInt ∧ i.toInt < 601) (hdg : decode cc pc = .ok (.iaload, 1)) (kk : ∀ x : Int32, x.toInt = eli f a i.toInt.toNat → W p l e R0 s m args below meth c H locs cells slots Q (F0 m (pc + 1) ls (.int x :: rest))) : W p l e R0 s m args below meth c H locs cells slots Q (F0 m pc ls (.int i :: .ref a :: rest)) := tu_iald F h ha hr (fun e q => (T_30 e).mp q) hb.1 hb.2 hdg (fun x h1 h2 => kk x h2)
end
theorem dX3_kind_20 : decode cX3_kind 20 = .ok (.goto 4, 3) := by decide +kernel
def rm_X3_kind : Room := { frames := 0, cells := 0, slots := 0, locals := 0 }
set_option maxHeartbeats 4000000 in
set_option maxRecDepth 100000 in
theorem s_X3_kind (l : Launch) (D : va_G) (cy : Nat → ClassId) (L : List Nat) (R O : Nat → Nat) (f0 : Nat → va_E) (a0 : Nat) (m_a0 : a0 ∈ L) (r_a0 : R a0 = 3) : ∀ sz, Met l yX3_kind (Cond.code yX3_kind cX3_kind 1 (some .int) :: wsL_law) rm_X3_kind (va_Pc [.ref a0] (tPZ D cy L R (TT cy L R) f0 sz)) (va_Qi (fun (r : Int32) f1 => f0 = f1 ∧ (r.toInt = 0 ∨ (fi f0 a0 12 < fi f0 a0 8 ∧ r.toInt = eli f0 (rfa f0 a0 4) (fi f0 a0 12).toNat))) (tB D (tA L sz) L R (TT cy L R)) (tA L sz)) 0 0 (tA L sz) := by
  refine tw_enteri (by decide +kernel) rfl (Nat.le_of_ble_eq_true rfl) ?_
  intro p e s m below meth c A ls args Q F hZ h hl hret
  have hl : lv_has ls 1 [(0, .ref a0)] := hl
  have t_a0_at := h.bfi m_a0 r_a0 (fun e q => (T_3 e).mp q) (k := 12) rfl
  have t_a0_tokenCount := h.bfi m_a0 r_a0 (fun e q => (T_3 e).mp q) (k := 8) rfl
  refine lv_aload_n F.1 F.2.1 dX3_kind_0 rfl (lv_at hl 0 rfl) ?_
  refine g_3_58 F h m_a0 r_a0 dX3_kind_1 (fun v1 hv1 hv1a hv1b => ?_)
  refine lv_aload_n F.1 F.2.1 dX3_kind_4 rfl (lv_at hl 0 rfl) ?_
  refine g_3_46 F h m_a0 r_a0 dX3_kind_5 (fun v2 hv2 hv2a hv2b => ?_)
  refine tw_icmp_ge (tgt := 23) F dX3_kind_8 (by decide) (fun b3 => ?_) (fun b3 => ?_)
  · refine tw_iconst F dX3_kind_23 ki_0 (fun z4 hz4 => ?_)
    exact hret f0 _ _ _ _ z4 dX3_kind_24 rfl ⟨rfl, Or.inl (by omega)⟩ h
  · refine lv_aload_n F.1 F.2.1 dX3_kind_11 rfl (lv_at hl 0 rfl) ?_
    refine g_3_32 F h m_a0 r_a0 dX3_kind_12 (fun o5 m_o5 r_o5 ho5 => ?_)
    refine lv_aload_n F.1 F.2.1 dX3_kind_15 rfl (lv_at hl 0 rfl) ?_
    refine g_3_58 F h m_a0 r_a0 dX3_kind_16 (fun v6 hv6 hv6a hv6b => ?_)
    refine le_30 F h m_o5 r_o5 (by omega) dX3_kind_19 (fun v7 ev7 => ?_)
    refine lv_goto (tgt := 24) F.1 F.2.1 dX3_kind_20 (by decide) ?_
    exact hret f0 _ _ _ _ v7 dX3_kind_24 rfl ⟨rfl, Or.inr ⟨by omega, by rw [rfa_of ho5, ← show v6.toInt = fi f0 a0 12 by omega]; omega⟩⟩ h
theorem dX3_kindOf_0 : decode cX3_kindOf 0 = .ok (.iload_n 0, 1) := by decide +kernel
theorem dX3_kindOf_1 : decode cX3_kindOf 1 = .ok (.bipush 97, 2) := by decide +kernel
theorem kb_97 : (Int8.ofInt 97).toInt32.toInt = 97 := by decide
theorem dX3_kindOf_14 : decode cX3_kindOf 14 = .ok (.iload_n 0, 1) := by decide +kernel
theorem dX3_kindOf_15 : decode cX3_kindOf 15 = .ok (.bipush 48, 2) := by decide +kernel
theorem kb_48 : (Int8.ofInt 48).toInt32.toInt = 48 := by decide
theorem dX3_kindOf_28 : decode cX3_kindOf 28 = .ok (.iload_n 0, 1) := by decide +kernel
theorem dX3_kindOf_29 : decode cX3_kindOf 29 = .ok (.lookupswitch 61 #[(10, 51), (32, 51), (42, 56), (59, 54), (63, 58)], 51) := by decide +kernel
theorem dX3_kindOf_80 : decode cX3_kindOf 80 = .ok (.bipush 8, 2) := by decide +kernel
theorem dX3_kindOf_82 : decode cX3_kindOf 82 = .ok (.ireturn, 1) := by decide +kernel
theorem dX3_kindOf_85 : decode cX3_kindOf 85 = .ok (.iconst 5, 1) := by decide +kernel
theorem dX3_kindOf_86 : decode cX3_kindOf 86 = .ok (.ireturn, 1) := by decide +kernel
theorem dX3_kindOf_83 : decode cX3_kindOf 83 = .ok (.iconst 4, 1) := by decide +kernel
theorem dX3_kindOf_84 : decode cX3_kindOf 84 = .ok (.ireturn, 1) := by decide +kernel
theorem dX3_kindOf_87 : decode cX3_kindOf 87 = .ok (.bipush 6, 2) := by decide +kernel
theorem dX3_kindOf_89 : decode cX3_kindOf 89 = .ok (.ireturn, 1) := by decide +kernel
theorem dX3_kindOf_90 : decode cX3_kindOf 90 = .ok (.bipush 7, 2) := by decide +kernel
theorem kb_7 : (Int8.ofInt 7).toInt32.toInt = 7 := by decide
theorem dX3_kindOf_92 : decode cX3_kindOf 92 = .ok (.ireturn, 1) := by decide +kernel
theorem dX3_kindOf_17 : decode cX3_kindOf 17 = .ok (.if_icmp .lt 11, 3) := by decide +kernel
theorem dX3_kindOf_20 : decode cX3_kindOf 20 = .ok (.iload_n 0, 1) := by decide +kernel
theorem dX3_kindOf_21 : decode cX3_kindOf 21 = .ok (.bipush 57, 2) := by decide +kernel
theorem kb_57 : (Int8.ofInt 57).toInt32.toInt = 57 := by decide
theorem dX3_kindOf_23 : decode cX3_kindOf 23 = .ok (.if_icmp .gt 5, 3) := by decide +kernel
theorem dX3_kindOf_26 : decode cX3_kindOf 26 = .ok (.iconst 3, 1) := by decide +kernel
theorem dX3_kindOf_27 : decode cX3_kindOf 27 = .ok (.ireturn, 1) := by decide +kernel
theorem dX3_kindOf_3 : decode cX3_kindOf 3 = .ok (.if_icmp .lt 11, 3) := by decide +kernel
theorem dX3_kindOf_6 : decode cX3_kindOf 6 = .ok (.iload_n 0, 1) := by decide +kernel
theorem dX3_kindOf_7 : decode cX3_kindOf 7 = .ok (.bipush 122, 2) := by decide +kernel
theorem kb_122 : (Int8.ofInt 122).toInt32.toInt = 122 := by decide
theorem dX3_kindOf_9 : decode cX3_kindOf 9 = .ok (.if_icmp .gt 5, 3) := by decide +kernel
theorem dX3_kindOf_12 : decode cX3_kindOf 12 = .ok (.iconst 1, 1) := by decide +kernel
theorem dX3_kindOf_13 : decode cX3_kindOf 13 = .ok (.ireturn, 1) := by decide +kernel
def rm_X3_kindOf : Room := { frames := 0, cells := 0, slots := 0, locals := 0 }
set_option maxHeartbeats 4000000 in
set_option maxRecDepth 100000 in
theorem s_X3_kindOf (l : Launch) (D : va_G) (cy : Nat → ClassId) (L : List Nat) (R O : Nat → Nat) (f0 : Nat → va_E) (x0 : Int32) : ∀ sz, Met l yX3_kindOf (Cond.code yX3_kindOf cX3_kindOf 1 (some .int) :: wsL_law) rm_X3_kindOf (va_Pc [.int x0] (tPZ D cy L R (TT cy L R) f0 sz)) (va_Qi (fun (r : Int32) f1 => f0 = f1 ∧ 1 ≤ r.toInt ∧ r.toInt ≤ 8 ∧ (r.toInt = 1 → 97 ≤ x0.toInt ∧ x0.toInt ≤ 122)) (tB D (tA L sz) L R (TT cy L R)) (tA L sz)) 0 0 (tA L sz) := by
  refine tw_enteri (by decide +kernel) rfl (Nat.le_of_ble_eq_true rfl) ?_
  intro p e s m below meth c A ls args Q F hZ h hl hret
  have hl : lv_has ls 1 [(0, .int x0)] := hl
  refine lv_iload_n F.1 F.2.1 dX3_kindOf_0 rfl (lv_at hl 0 rfl) ?_
  refine tw_bipush F dX3_kindOf_1 kb_97 (fun z1 hz1 => ?_)
  have j_14 : ∀ (ls : Array Slot), lv_has ls 1 [(0, .int x0)] → W p l e rm_X3_kindOf s m args below meth c s.heap [] 0 0 Q (F0 m 14 ls []) := by
    intro ls hl
    refine lv_iload_n F.1 F.2.1 dX3_kindOf_14 rfl (lv_at hl 0 rfl) ?_
    refine tw_bipush F dX3_kindOf_15 kb_48 (fun z2 hz2 => ?_)
    have j_28 : ∀ (ls : Array Slot), lv_has ls 1 [(0, .int x0)] → W p l e rm_X3_kindOf s m args below meth c s.heap [] 0 0 Q (F0 m 28 ls []) := by
      intro ls hl
      refine lv_iload_n F.1 F.2.1 dX3_kindOf_28 rfl (lv_at hl 0 rfl) ?_
      by_cases q3 : x0.toInt = 10
      · refine lv_lookup F.1 F.2.1 dX3_kindOf_29 (by decide) (off := 51) (by rw [q3]; rfl) (tgt := 80) (by decide) ?_
        refine tw_bipush F dX3_kindOf_80 kb_8 (fun z4 hz4 => ?_)
        exact hret f0 _ _ _ _ z4 dX3_kindOf_82 rfl ⟨rfl, by omega, by omega, by omega⟩ h
      by_cases q5 : x0.toInt = 32
      · refine lv_lookup F.1 F.2.1 dX3_kindOf_29 (by decide) (off := 51) (by rw [q5]; rfl) (tgt := 80) (by decide) ?_
        refine tw_bipush F dX3_kindOf_80 kb_8 (fun z6 hz6 => ?_)
        exact hret f0 _ _ _ _ z6 dX3_kindOf_82 rfl ⟨rfl, by omega, by omega, by omega⟩ h
      by_cases q7 : x0.toInt = 42
      · refine lv_lookup F.1 F.2.1 dX3_kindOf_29 (by decide) (off := 56) (by rw [q7]; rfl) (tgt := 85) (by decide) ?_
        refine tw_iconst F dX3_kindOf_85 ki_5 (fun z8 hz8 => ?_)
        exact hret f0 _ _ _ _ z8 dX3_kindOf_86 rfl ⟨rfl, by omega, by omega, by omega⟩ h
      by_cases q9 : x0.toInt = 59
      · refine lv_lookup F.1 F.2.1 dX3_kindOf_29 (by decide) (off := 54) (by rw [q9]; rfl) (tgt := 83) (by decide) ?_
        refine tw_iconst F dX3_kindOf_83 ki_4 (fun z10 hz10 => ?_)
        exact hret f0 _ _ _ _ z10 dX3_kindOf_84 rfl ⟨rfl, by omega, by omega, by omega⟩ h
      by_cases q11 : x0.toInt = 63
      · refine lv_lookup F.1 F.2.1 dX3_kindOf_29 (by decide) (off := 58) (by rw [q11]; rfl) (tgt := 87) (by decide) ?_
        refine tw_bipush F dX3_kindOf_87 kb_6 (fun z12 hz12 => ?_)
        exact hret f0 _ _ _ _ z12 dX3_kindOf_89 rfl ⟨rfl, by omega, by omega, by omega⟩ h
      refine lv_lookup F.1 F.2.1 dX3_kindOf_29 (by decide) (off := 61) (tw_osw [(10, 51), (32, 51), (42, 56), (59, 54), (63, 58)] _ _ (by simp; omega)) (tgt := 90) (by decide) ?_
      refine tw_bipush F dX3_kindOf_90 kb_7 (fun z13 hz13 => ?_)
      exact hret f0 _ _ _ _ z13 dX3_kindOf_92 rfl ⟨rfl, by omega, by omega, by omega⟩ h
    refine tw_icmp_lt (tgt := 28) F dX3_kindOf_17 (by decide) (fun b14 => ?_) (fun b14 => ?_)
    · exact j_28 _ (lv_sub hl [0] rfl)
    · refine lv_iload_n F.1 F.2.1 dX3_kindOf_20 rfl (lv_at hl 0 rfl) ?_
      refine tw_bipush F dX3_kindOf_21 kb_57 (fun z15 hz15 => ?_)
      refine tw_icmp_gt (tgt := 28) F dX3_kindOf_23 (by decide) (fun b16 => ?_) (fun b16 => ?_)
      · exact j_28 _ (lv_sub hl [0] rfl)
      · refine tw_iconst F dX3_kindOf_26 ki_3 (fun z17 hz17 => ?_)
        exact hret f0 _ _ _ _ z17 dX3_kindOf_27 rfl ⟨rfl, by omega, by omega, by omega⟩ h
  refine tw_icmp_lt (tgt := 14) F dX3_kindOf_3 (by decide) (fun b18 => ?_) (fun b18 => ?_)
  · exact j_14 _ (lv_sub hl [0] rfl)
  · refine lv_iload_n F.1 F.2.1 dX3_kindOf_6 rfl (lv_at hl 0 rfl) ?_
    refine tw_bipush F dX3_kindOf_7 kb_122 (fun z19 hz19 => ?_)
    refine tw_icmp_gt (tgt := 14) F dX3_kindOf_9 (by decide) (fun b20 => ?_) (fun b20 => ?_)
    · exact j_14 _ (lv_sub hl [0] rfl)
    · refine tw_iconst F dX3_kindOf_12 ki_1 (fun z21 hz21 => ?_)
      exact hret f0 _ _ _ _ z21 dX3_kindOf_13 rfl ⟨rfl, by omega, by omega, by omega⟩ h
theorem dX3_value_0 : decode cX3_value 0 = .ok (.aload_n 0, 1) := by decide +kernel
theorem dX3_value_1 : decode cX3_value 1 = .ok (.getfield 58, 3) := by decide +kernel
theorem dX3_value_4 : decode cX3_value 4 = .ok (.aload_n 0, 1) := by decide +kernel
theorem dX3_value_5 : decode cX3_value 5 = .ok (.getfield 46, 3) := by decide +kernel
theorem dX3_value_8 : decode cX3_value 8 = .ok (.if_icmp .ge 15, 3) := by decide +kernel
theorem dX3_value_23 : decode cX3_value 23 = .ok (.ldc2_w 147, 3) := by decide +kernel
theorem mw_428 : Cond.constantLong RX3 147 (-1) ∈ wsL_law := inr_18 _ (List.mem_of_getElem? (i := 20) rfl)
theorem dX3_value_26 : decode cX3_value 26 = .ok (.lreturn, 1) := by decide +kernel
theorem dX3_value_11 : decode cX3_value 11 = .ok (.aload_n 0, 1) := by decide +kernel
theorem dX3_value_12 : decode cX3_value 12 = .ok (.getfield 42, 3) := by decide +kernel
theorem mw_65 : Cond.fieldLink RX3 42 "AskBack$Reader" "values" "[J" ∈ wsL_law := inr_3 _ (List.mem_of_getElem? (i := 17) rfl)
section
variable {p : Program} {l : Launch} {e : Env} {R0 : Room} {s : State} {m : MethodId} {args : Array Value} {below : List Frame} {meth : Method} {c : Code} {H H0 : Heap} {locs : List Loc} {cells slots : Nat} {Q : State → Prop} {cc : ByteArray} {nL : Nat} {D : va_G} {cy : Nat → ClassId} {A : Nat → Prop} {L : List Nat} {R : Nat → Nat} {f : Nat → va_E} {pc : Nat} {ls : Array Slot} {rest : List Value} {a : Nat}
theorem g_3_42 (F : CallFix p m c cc nL s args wsL_law RX3) (h : tS D cy A H0 L R (TT cy L R) f s H locs) (ha : a ∈ L) (hr : R a = 3) (hdg : decode cc pc = .ok (.getfield 42, 3)) (kk : ∀ b : Nat, b ∈ L → R b = 31 → fld f a 7 = .ref b → W p l e R0 s m args below meth c H locs cells slots Q (F0 m (pc + 3) ls (.ref b :: rest))) : W p l e R0 s m args below meth c H locs cells slots Q (F0 m pc ls (.ref a :: rest)) := tu_getr F h ha hr (fun e q => (T_3 e).mp q) rfl inlX3 rfl (Nat.le_of_ble_eq_true rfl) mw_65 hdg kk
end
theorem dX3_value_15 : decode cX3_value 15 = .ok (.aload_n 0, 1) := by decide +kernel
theorem dX3_value_16 : decode cX3_value 16 = .ok (.getfield 58, 3) := by decide +kernel
theorem dX3_value_19 : decode cX3_value 19 = .ok (.laload, 1) := by decide +kernel
section
variable {p : Program} {l : Launch} {e : Env} {R0 : Room} {s : State} {m : MethodId} {args : Array Value} {below : List Frame} {meth : Method} {c : Code} {H H0 : Heap} {locs : List Loc} {cells slots : Nat} {Q : State → Prop} {cc : ByteArray} {nL : Nat} {D : va_G} {cy : Nat → ClassId} {A : Nat → Prop} {L : List Nat} {R : Nat → Nat} {f : Nat → va_E} {pc : Nat} {ls : Array Slot} {rest : List Value} {a : Nat}
theorem le_31 {own : String} (F : CallFix p m c cc nL s args wsL_law own) (h : tS D cy A H0 L R (TT cy L R) f s H locs) {i : Int32} (ha : a ∈ L) (hr : R a = 31) (hb : 0 ≤ i.toInt ∧ i.toInt < 601) (hdg : decode cc pc = .ok (.laload, 1)) (kk : ∀ x : Int64, x.toInt = elj f a i.toInt.toNat → W p l e R0 s m args below meth c H locs cells slots Q (F0 m (pc + 1) ls (.long x :: rest))) : W p l e R0 s m args below meth c H locs cells slots Q (F0 m pc ls (.int i :: .ref a :: rest)) := tu_lald F h ha hr (fun e q => (T_31 e).mp q) hb.1 hb.2 hdg (fun x h1 h2 => kk x h2)
end
theorem dX3_value_20 : decode cX3_value 20 = .ok (.goto 6, 3) := by decide +kernel
def rm_X3_value : Room := { frames := 0, cells := 0, slots := 0, locals := 0 }
set_option maxHeartbeats 4000000 in
set_option maxRecDepth 100000 in
theorem s_X3_value (l : Launch) (D : va_G) (cy : Nat → ClassId) (L : List Nat) (R O : Nat → Nat) (f0 : Nat → va_E) (a0 : Nat) (m_a0 : a0 ∈ L) (r_a0 : R a0 = 3) : ∀ sz, Met l yX3_value (Cond.code yX3_value cX3_value 1 (some .long) :: wsL_law) rm_X3_value (va_Pc [.ref a0] (tPZ D cy L R (TT cy L R) f0 sz)) (va_Ql (fun (r : Int64) f1 => f0 = f1 ∧ (fi f0 a0 12 < fi f0 a0 8 → r.toInt = elj f0 (rfa f0 a0 7) (fi f0 a0 12).toNat)) (tB D (tA L sz) L R (TT cy L R)) (tA L sz)) 0 0 (tA L sz) := by
  refine tw_enterl (by decide +kernel) rfl (Nat.le_of_ble_eq_true rfl) ?_
  intro p e s m below meth c A ls args Q F hZ h hl hret
  have hl : lv_has ls 1 [(0, .ref a0)] := hl
  have t_a0_at := h.bfi m_a0 r_a0 (fun e q => (T_3 e).mp q) (k := 12) rfl
  have t_a0_tokenCount := h.bfi m_a0 r_a0 (fun e q => (T_3 e).mp q) (k := 8) rfl
  refine lv_aload_n F.1 F.2.1 dX3_value_0 rfl (lv_at hl 0 rfl) ?_
  refine g_3_58 F h m_a0 r_a0 dX3_value_1 (fun v1 hv1 hv1a hv1b => ?_)
  refine lv_aload_n F.1 F.2.1 dX3_value_4 rfl (lv_at hl 0 rfl) ?_
  refine g_3_46 F h m_a0 r_a0 dX3_value_5 (fun v2 hv2 hv2a hv2b => ?_)
  refine tw_icmp_ge (tgt := 23) F dX3_value_8 (by decide) (fun b3 => ?_) (fun b3 => ?_)
  · refine tu_ldc2 F mw_428 dX3_value_23 kl_m1 (fun z4 hz4 => ?_)
    exact hret f0 _ _ _ _ z4 dX3_value_26 ⟨rfl, fun q => by omega⟩ h
  · refine lv_aload_n F.1 F.2.1 dX3_value_11 rfl (lv_at hl 0 rfl) ?_
    refine g_3_42 F h m_a0 r_a0 dX3_value_12 (fun o5 m_o5 r_o5 ho5 => ?_)
    refine lv_aload_n F.1 F.2.1 dX3_value_15 rfl (lv_at hl 0 rfl) ?_
    refine g_3_58 F h m_a0 r_a0 dX3_value_16 (fun v6 hv6 hv6a hv6b => ?_)
    refine le_31 F h m_o5 r_o5 (by omega) dX3_value_19 (fun v7 ev7 => ?_)
    refine lv_goto (tgt := 26) F.1 F.2.1 dX3_value_20 (by decide) ?_
    exact hret f0 _ _ _ _ v7 dX3_value_26 ⟨rfl, fun _ => by rw [rfa_of ho5, ← show v6.toInt = fi f0 a0 12 by omega]; omega⟩ h
theorem dX3_isThe_0 : decode cX3_isThe 0 = .ok (.aload_n 0, 1) := by decide +kernel
theorem dX3_isThe_1 : decode cX3_isThe 1 = .ok (.invokevirtual 71, 3) := by decide +kernel
theorem mw_416 : Cond.methodLink RX3 71 yX3_kind ∈ wsL_law := inr_18 _ (List.mem_of_getElem? (i := 8) rfl)
theorem mw_19 : Cond.initialized RX3 ∈ wsL_law := inr_1 _ (List.mem_of_getElem? (i := 19) rfl)
theorem mw_419 : Cond.code yX3_kind cX3_kind 1 (some .int) ∈ wsL_law := inr_18 _ (List.mem_of_getElem? (i := 11) rfl)
theorem yk_X3_kind : xY yX3_kind RX3 cX3_kind 1 (some .int) 0 := ⟨⟨rfl, by decide +kernel, by decide +kernel, by decide +kernel⟩, mw_19, mw_419⟩
theorem mw_417 : Cond.instanceMethod yX3_kind ∈ wsL_law := inr_18 _ (List.mem_of_getElem? (i := 9) rfl)
theorem mw_418 : Cond.selects RX3 yX3_kind yX3_kind ∈ wsL_law := inr_18 _ (List.mem_of_getElem? (i := 10) rfl)
theorem dX3_isThe_4 : decode cX3_isThe 4 = .ok (.iconst 1, 1) := by decide +kernel
theorem dX3_isThe_5 : decode cX3_isThe 5 = .ok (.if_icmp .ne 16, 3) := by decide +kernel
theorem dX3_isThe_21 : decode cX3_isThe 21 = .ok (.iconst 0, 1) := by decide +kernel
theorem dX3_isThe_22 : decode cX3_isThe 22 = .ok (.ireturn, 1) := by decide +kernel
theorem dX3_isThe_8 : decode cX3_isThe 8 = .ok (.aload_n 0, 1) := by decide +kernel
theorem dX3_isThe_9 : decode cX3_isThe 9 = .ok (.invokevirtual 82, 3) := by decide +kernel
theorem mw_424 : Cond.methodLink RX3 82 yX3_value ∈ wsL_law := inr_18 _ (List.mem_of_getElem? (i := 16) rfl)
theorem mw_427 : Cond.code yX3_value cX3_value 1 (some .long) ∈ wsL_law := inr_18 _ (List.mem_of_getElem? (i := 19) rfl)
theorem yk_X3_value : xY yX3_value RX3 cX3_value 1 (some .long) 0 := ⟨⟨rfl, by decide +kernel, by decide +kernel, by decide +kernel⟩, mw_19, mw_427⟩
theorem mw_425 : Cond.instanceMethod yX3_value ∈ wsL_law := inr_18 _ (List.mem_of_getElem? (i := 17) rfl)
theorem mw_426 : Cond.selects RX3 yX3_value yX3_value ∈ wsL_law := inr_18 _ (List.mem_of_getElem? (i := 18) rfl)
theorem dX3_isThe_12 : decode cX3_isThe 12 = .ok (.lload_n 1, 1) := by decide +kernel
theorem dX3_isThe_13 : decode cX3_isThe 13 = .ok (.lcmp, 1) := by decide +kernel
theorem dX3_isThe_14 : decode cX3_isThe 14 = .ok (.ifCond .ne 7, 3) := by decide +kernel
theorem dX3_isThe_17 : decode cX3_isThe 17 = .ok (.iconst 1, 1) := by decide +kernel
theorem dX3_isThe_18 : decode cX3_isThe 18 = .ok (.goto 4, 3) := by decide +kernel
def rm_X3_isThe : Room := { frames := 1, cells := 0, slots := 0, locals := 20 }
set_option maxHeartbeats 4000000 in
set_option maxRecDepth 100000 in
theorem s_X3_isThe (l : Launch) (D : va_G) (cy : Nat → ClassId) (L : List Nat) (R O : Nat → Nat) (f0 : Nat → va_E) (a0 : Nat) (m_a0 : a0 ∈ L) (r_a0 : R a0 = 3) (x1 : Int64) : ∀ sz, Met l yX3_isThe (Cond.code yX3_isThe cX3_isThe 3 (some .boolean) :: wsL_law) rm_X3_isThe (va_Pc [.ref a0, .long x1] (tPZ D cy L R (TT cy L R) f0 sz)) (va_Qi (fun (r : Int32) f1 => f0 = f1 ∧ 0 ≤ r.toInt ∧ r.toInt ≤ 1 ∧ (r.toInt = 0 ∨ fi f0 a0 12 < fi f0 a0 8)) (tB D (tA L sz) L R (TT cy L R)) (tA L sz)) 0 0 (tA L sz) := by
  refine tw_enteri (by decide +kernel) rfl (Nat.le_of_ble_eq_true rfl) ?_
  intro p e s m below meth c A ls args Q F hZ h hl hret
  have hl : lv_has ls 3 [(0, .ref a0), (1, .long x1)] := hl
  refine lv_aload_n F.1 F.2.1 dX3_isThe_0 rfl (lv_at hl 0 rfl) ?_
  refine tw_Vi (As := []) F hZ h yk_X3_kind mw_416 mw_417 mw_418 (s_X3_kind l D cy L R O f0 a0 m_a0 r_a0) rfl rfl m_a0 r_a0 (fun e q => (T_3 e).mp q) rfl hl.1 rfl (Nat.le_of_ble_eq_true rfl) ⟨Nat.le_of_ble_eq_true rfl, Nat.le_of_ble_eq_true rfl⟩ ⟨Nat.le_of_ble_eq_true rfl, Nat.le_of_ble_eq_true rfl⟩ dX3_isThe_1 (fun v2 f1 H locs hp1 h => ?_)
  obtain ⟨rfl, hv2p0⟩ := hp1
  refine tw_iconst F dX3_isThe_4 ki_1 (fun z3 hz3 => ?_)
  refine tw_icmp_ne (tgt := 21) F dX3_isThe_5 (by decide) (fun b4 => ?_) (fun b4 => ?_)
  · refine tw_iconst F dX3_isThe_21 ki_0 (fun z5 hz5 => ?_)
    exact hret f0 _ _ _ _ z5 dX3_isThe_22 (tw_nb (by omega)) ⟨rfl, by omega, by omega, by omega⟩ h
  · refine lv_aload_n F.1 F.2.1 dX3_isThe_8 rfl (lv_at hl 0 rfl) ?_
    refine tw_Vl (As := []) F hZ h yk_X3_value mw_424 mw_425 mw_426 (s_X3_value l D cy L R O f0 a0 m_a0 r_a0) rfl rfl m_a0 r_a0 (fun e q => (T_3 e).mp q) rfl hl.1 rfl (Nat.le_of_ble_eq_true rfl) ⟨Nat.le_of_ble_eq_true rfl, Nat.le_of_ble_eq_true rfl⟩ ⟨Nat.le_of_ble_eq_true rfl, Nat.le_of_ble_eq_true rfl⟩ dX3_isThe_9 (fun v7 f6 H locs hp6 h => ?_)
    obtain ⟨rfl, hv7p0⟩ := hp6
    refine lv_lload_n F.1 F.2.1 dX3_isThe_12 rfl (lv_at hl 1 rfl) ?_
    refine tw_lcmp F dX3_isThe_13 (fun z8 hz8 => ?_)
    refine tw_if_ne (tgt := 21) F dX3_isThe_14 (by decide) (fun b9 => ?_) (fun b9 => ?_)
    · refine tw_iconst F dX3_isThe_21 ki_0 (fun z10 hz10 => ?_)
      exact hret f0 _ _ _ _ z10 dX3_isThe_22 (tw_nb (by omega)) ⟨rfl, by omega, by omega, by omega⟩ h
    · refine tw_iconst F dX3_isThe_17 ki_1 (fun z11 hz11 => ?_)
      refine lv_goto (tgt := 22) F.1 F.2.1 dX3_isThe_18 (by decide) ?_
      exact hret f0 _ _ _ _ z11 dX3_isThe_22 (tw_nb (by omega)) ⟨rfl, by omega, by omega, by omega⟩ h
theorem dX3_isName_0 : decode cX3_isName 0 = .ok (.aload_n 0, 1) := by decide +kernel
theorem dX3_isName_1 : decode cX3_isName 1 = .ok (.invokevirtual 71, 3) := by decide +kernel
theorem dX3_isName_4 : decode cX3_isName 4 = .ok (.iconst 1, 1) := by decide +kernel
theorem dX3_isName_5 : decode cX3_isName 5 = .ok (.if_icmp .eq 5, 3) := by decide +kernel
theorem dX3_isName_10 : decode cX3_isName 10 = .ok (.iconst 0, 1) := by decide +kernel
theorem dX3_isName_11 : decode cX3_isName 11 = .ok (.istore_n 1, 1) := by decide +kernel
theorem dX3_isName_12 : decode cX3_isName 12 = .ok (.iload_n 1, 1) := by decide +kernel
theorem dX3_isName_13 : decode cX3_isName 13 = .ok (.getstatic 149, 3) := by decide +kernel
theorem mw_540 : Cond.fieldLink RX3 149 "AskBack$Reader" "NO_NAMES" "[J" ∈ wsL_law := inr_23 _ (List.mem_of_getElem? (i := 12) rfl)
theorem dX3_isName_16 : decode cX3_isName 16 = .ok (.arraylength, 1) := by decide +kernel
theorem dX3_isName_17 : decode cX3_isName 17 = .ok (.if_icmp .ge 24, 3) := by decide +kernel
theorem dX3_isName_41 : decode cX3_isName 41 = .ok (.iconst 1, 1) := by decide +kernel
theorem dX3_isName_42 : decode cX3_isName 42 = .ok (.ireturn, 1) := by decide +kernel
theorem dX3_isName_20 : decode cX3_isName 20 = .ok (.aload_n 0, 1) := by decide +kernel
theorem dX3_isName_21 : decode cX3_isName 21 = .ok (.invokevirtual 82, 3) := by decide +kernel
theorem dX3_isName_24 : decode cX3_isName 24 = .ok (.getstatic 149, 3) := by decide +kernel
theorem dX3_isName_27 : decode cX3_isName 27 = .ok (.iload_n 1, 1) := by decide +kernel
theorem dX3_isName_28 : decode cX3_isName 28 = .ok (.laload, 1) := by decide +kernel
theorem dX3_isName_29 : decode cX3_isName 29 = .ok (.lcmp, 1) := by decide +kernel
theorem dX3_isName_30 : decode cX3_isName 30 = .ok (.ifCond .ne 5, 3) := by decide +kernel
theorem dX3_isName_35 : decode cX3_isName 35 = .ok (.iinc 1 1, 3) := by decide +kernel
theorem dX3_isName_38 : decode cX3_isName 38 = .ok (.goto (-26), 3) := by decide +kernel
theorem dX3_isName_33 : decode cX3_isName 33 = .ok (.iconst 0, 1) := by decide +kernel
theorem dX3_isName_34 : decode cX3_isName 34 = .ok (.ireturn, 1) := by decide +kernel
theorem dX3_isName_8 : decode cX3_isName 8 = .ok (.iconst 0, 1) := by decide +kernel
theorem dX3_isName_9 : decode cX3_isName 9 = .ok (.ireturn, 1) := by decide +kernel
def rm_X3_isName : Room := { frames := 1, cells := 0, slots := 0, locals := 20 }
set_option maxHeartbeats 4000000 in
set_option maxRecDepth 100000 in
theorem s_X3_isName (l : Launch) (D : va_G) (cy : Nat → ClassId) (L : List Nat) (R O : Nat → Nat) (f0 : Nat → va_E) (a0 : Nat) (m_a0 : a0 ∈ L) (r_a0 : R a0 = 3) : ∀ sz, Met l yX3_isName (Cond.code yX3_isName cX3_isName 2 (some .boolean) :: wsL_law) rm_X3_isName (va_Pc [.ref a0] (tPZ D cy L R (TT cy L R) f0 sz)) (va_Qi (fun (r : Int32) f1 => f0 = f1 ∧ 0 ≤ r.toInt ∧ r.toInt ≤ 1 ∧ (r.toInt = 0 ∨ (fi f0 a0 12 < fi f0 a0 8 ∧ eli f0 (rfa f0 a0 4) (fi f0 a0 12).toNat = 1))) (tB D (tA L sz) L R (TT cy L R)) (tA L sz)) 0 0 (tA L sz) := by
  refine tw_enteri (by decide +kernel) rfl (Nat.le_of_ble_eq_true rfl) ?_
  intro p e s m below meth c A ls args Q F hZ h hl hret
  have hl : lv_has ls 2 [(0, .ref a0)] := hl
  obtain ⟨⟨nn, hn1, hn2⟩, hnz⟩ := hZ
  have hZ : tZ A s s.heap := ⟨⟨nn, hn1, hn2⟩, hnz⟩
  refine lv_aload_n F.1 F.2.1 dX3_isName_0 rfl (lv_at hl 0 rfl) ?_
  refine tw_Vi (As := []) F hZ h yk_X3_kind mw_416 mw_417 mw_418 (s_X3_kind l D cy L R O f0 a0 m_a0 r_a0) rfl rfl m_a0 r_a0 (fun e q => (T_3 e).mp q) rfl hl.1 rfl (Nat.le_of_ble_eq_true rfl) ⟨Nat.le_of_ble_eq_true rfl, Nat.le_of_ble_eq_true rfl⟩ ⟨Nat.le_of_ble_eq_true rfl, Nat.le_of_ble_eq_true rfl⟩ dX3_isName_1 (fun v2 f1 H locs hp1 h => ?_)
  obtain ⟨rfl, hv2p0⟩ := hp1
  refine tw_iconst F dX3_isName_4 ki_1 (fun z3 hz3 => ?_)
  refine tw_icmp_eq (tgt := 10) F dX3_isName_5 (by decide) (fun b4 => ?_) (fun b4 => ?_)
  · refine tw_iconst F dX3_isName_10 ki_0 (fun z5 hz5 => ?_)
    refine lv_istore_n (lv' := [(1, .int z5), (0, .ref a0)]) F.1 F.2.1 dX3_isName_11 rfl hl (by decide) rfl (fun ls hl => ?_)
    have j_12 : ∀ (n12 : Nat) (H : Heap) (locs : List Loc) (ls : Array Slot) (x1_12 : Int32), 0 ≤ x1_12.toInt → x1_12.toInt ≤ 9 → ((9 - x1_12.toInt)).toNat < n12 → tS D cy A s.heap L R (TT cy L R) f0 s H locs → lv_has ls 2 [(0, .ref a0), (1, .int x1_12)] → W p l e rm_X3_isName s m args below meth c H locs 0 0 Q (F0 m 12 ls []) := by
      intro n12
      induction n12 with
      | zero =>
        intro H locs ls x1_12 b6 b7 b8 h hl
        exfalso
        omega
      | succ n12 ih12 =>
        intro H locs ls x1_12 b6 b7 b8 h hl
        refine lv_iload_n F.1 F.2.1 dX3_isName_12 rfl (lv_at hl 1 rfl) ?_
        refine tu_nget F h hn1 mw_540 dX3_isName_13 ?_
        refine tu_nlen F h hn2 dX3_isName_16 (fun z9 hz9 => ?_)
        refine tw_icmp_ge (tgt := 41) F dX3_isName_17 (by decide) (fun b10 => ?_) (fun b10 => ?_)
        · refine tw_iconst F dX3_isName_41 ki_1 (fun z11 hz11 => ?_)
          exact hret f0 _ _ _ _ z11 dX3_isName_42 (tw_nb (by omega)) ⟨rfl, by omega, by omega, by omega⟩ h
        · refine lv_aload_n F.1 F.2.1 dX3_isName_20 rfl (lv_at hl 0 rfl) ?_
          refine tw_Vl (As := []) F hZ h yk_X3_value mw_424 mw_425 mw_426 (s_X3_value l D cy L R O f0 a0 m_a0 r_a0) rfl rfl m_a0 r_a0 (fun e q => (T_3 e).mp q) rfl hl.1 rfl (Nat.le_of_ble_eq_true rfl) ⟨Nat.le_of_ble_eq_true rfl, Nat.le_of_ble_eq_true rfl⟩ ⟨Nat.le_of_ble_eq_true rfl, Nat.le_of_ble_eq_true rfl⟩ dX3_isName_21 (fun v13 f12 H locs hp12 h => ?_)
          obtain ⟨rfl, hv13p0⟩ := hp12
          refine tu_nget F h hn1 mw_540 dX3_isName_24 ?_
          refine lv_iload_n F.1 F.2.1 dX3_isName_27 rfl (lv_at hl 1 rfl) ?_
          refine tu_nld F h hn2 (by omega) dX3_isName_28 (fun z14 => ?_)
          refine tw_lcmp F dX3_isName_29 (fun z15 hz15 => ?_)
          refine tw_if_ne (tgt := 35) F dX3_isName_30 (by decide) (fun b16 => ?_) (fun b16 => ?_)
          · refine tu_iinc F dX3_isName_35 hl (k := 1) rfl (by decide) ki_1 (by omega) (fun z17 ls hz17 hl => ?_)
            have hl : lv_has ls 2 [(1, .int z17), (0, .ref a0)] := hl
            refine lv_goto (tgt := 12) F.1 F.2.1 dX3_isName_38 (by decide) ?_
            exact ih12 _ _ _ z17 (by omega) (by omega) (by omega) h (lv_sub hl [1, 0] rfl)
          · refine tw_iconst F dX3_isName_33 ki_0 (fun z18 hz18 => ?_)
            exact hret f0 _ _ _ _ z18 dX3_isName_34 (tw_nb (by omega)) ⟨rfl, by omega, by omega, by omega⟩ h
    exact j_12 (((9 - z5.toInt)).toNat + 1) _ _ _ z5 (by omega) (by omega) (by omega) h (lv_sub hl [1, 0] rfl)
  · refine tw_iconst F dX3_isName_8 ki_0 (fun z19 hz19 => ?_)
    exact hret f0 _ _ _ _ z19 dX3_isName_9 (tw_nb (by omega)) ⟨rfl, by omega, by omega, by omega⟩ h
theorem dX3_misplaced_0 : decode cX3_misplaced 0 = .ok (.aload_n 0, 1) := by decide +kernel
theorem dX3_misplaced_1 : decode cX3_misplaced 1 = .ok (.aload_n 0, 1) := by decide +kernel
theorem dX3_misplaced_2 : decode cX3_misplaced 2 = .ok (.invokevirtual 71, 3) := by decide +kernel
theorem dX3_misplaced_5 : decode cX3_misplaced 5 = .ok (.bipush 7, 2) := by decide +kernel
theorem dX3_misplaced_7 : decode cX3_misplaced 7 = .ok (.if_icmp .ne 7, 3) := by decide +kernel
theorem dX3_misplaced_14 : decode cX3_misplaced 14 = .ok (.iconst 2, 1) := by decide +kernel
theorem dX3_misplaced_15 : decode cX3_misplaced 15 = .ok (.invokevirtual 75, 3) := by decide +kernel
theorem mw_420 : Cond.methodLink RX3 75 yX3_fail ∈ wsL_law := inr_18 _ (List.mem_of_getElem? (i := 12) rfl)
theorem mw_423 : Cond.code yX3_fail cX3_fail 2 (some .boolean) ∈ wsL_law := inr_18 _ (List.mem_of_getElem? (i := 15) rfl)
theorem yk_X3_fail : xY yX3_fail RX3 cX3_fail 2 (some .boolean) 1 := ⟨⟨rfl, by decide +kernel, by decide +kernel, by decide +kernel⟩, mw_19, mw_423⟩
theorem mw_421 : Cond.instanceMethod yX3_fail ∈ wsL_law := inr_18 _ (List.mem_of_getElem? (i := 13) rfl)
theorem mw_422 : Cond.selects RX3 yX3_fail yX3_fail ∈ wsL_law := inr_18 _ (List.mem_of_getElem? (i := 14) rfl)
theorem dX3_misplaced_18 : decode cX3_misplaced 18 = .ok (.ireturn, 1) := by decide +kernel
theorem dX3_misplaced_10 : decode cX3_misplaced 10 = .ok (.iconst 1, 1) := by decide +kernel
theorem dX3_misplaced_11 : decode cX3_misplaced 11 = .ok (.goto 4, 3) := by decide +kernel
def rm_X3_misplaced : Room := { frames := 1, cells := 0, slots := 0, locals := 21 }
set_option maxHeartbeats 4000000 in
set_option maxRecDepth 100000 in
theorem s_X3_misplaced (l : Launch) (D : va_G) (cy : Nat → ClassId) (L : List Nat) (R O : Nat → Nat) (f0 : Nat → va_E) (a0 : Nat) (m_a0 : a0 ∈ L) (r_a0 : R a0 = 3) : ∀ sz, Met l yX3_misplaced (Cond.code yX3_misplaced cX3_misplaced 1 (some .boolean) :: wsL_law) rm_X3_misplaced (va_Pc [.ref a0] (tPZ D cy L R (TT cy L R) f0 sz)) (va_Qi (fun (r : Int32) f1 => fr L R [(3, 2), (3, 3)] [3] f0 f1 ∧ 0 ≤ r.toInt ∧ r.toInt ≤ 0) (tB D (tA L sz) L R (TT cy L R)) (tA L sz)) 0 0 (tA L sz) := by
  refine tw_enteri (by decide +kernel) rfl (Nat.le_of_ble_eq_true rfl) ?_
  intro p e s m below meth c A ls args Q F hZ h hl hret
  have hl : lv_has ls 1 [(0, .ref a0)] := hl
  have hk : fr L R [(3, 2), (3, 3)] [3] f0 f0 := fr.rf
  refine lv_aload_n F.1 F.2.1 dX3_misplaced_0 rfl (lv_at hl 0 rfl) ?_
  refine lv_aload_n F.1 F.2.1 dX3_misplaced_1 rfl (lv_at hl 0 rfl) ?_
  refine tw_Vi (As := []) F hZ h yk_X3_kind mw_416 mw_417 mw_418 (s_X3_kind l D cy L R O f0 a0 m_a0 r_a0) rfl rfl m_a0 r_a0 (fun e q => (T_3 e).mp q) rfl hl.1 rfl (Nat.le_of_ble_eq_true rfl) ⟨Nat.le_of_ble_eq_true rfl, Nat.le_of_ble_eq_true rfl⟩ ⟨Nat.le_of_ble_eq_true rfl, Nat.le_of_ble_eq_true rfl⟩ dX3_misplaced_2 (fun v2 f1 H locs hp1 h => ?_)
  obtain ⟨rfl, hv2p0⟩ := hp1
  refine tw_bipush F dX3_misplaced_5 kb_7 (fun z3 hz3 => ?_)
  refine tw_icmp_ne (tgt := 14) F dX3_misplaced_7 (by decide) (fun b4 => ?_) (fun b4 => ?_)
  · refine tw_iconst F dX3_misplaced_14 ki_2 (fun z5 hz5 => ?_)
    refine tw_Vi (As := [.int z5]) F hZ h yk_X3_fail mw_420 mw_421 mw_422 (s_X3_fail l D cy L R O f0 a0 m_a0 r_a0 z5 ⟨by omega, by omega⟩) rfl rfl m_a0 r_a0 (fun e q => (T_3 e).mp q) rfl hl.1 rfl (Nat.le_of_ble_eq_true rfl) ⟨Nat.le_of_ble_eq_true rfl, Nat.le_of_ble_eq_true rfl⟩ ⟨Nat.le_of_ble_eq_true rfl, Nat.le_of_ble_eq_true rfl⟩ dX3_misplaced_15 (fun v7 f6 H locs hp6 h => ?_)
    obtain ⟨hf6, hv7a, hv7b⟩ := hp6
    have hk : fr L R [(3, 2), (3, 3)] [3] f0 f6 := hk.tr hf6 rfl rfl
    exact hret f6 _ _ _ _ v7 dX3_misplaced_18 (tw_nb (by omega)) ⟨hk, by omega, by omega⟩ h
  · refine tw_iconst F dX3_misplaced_10 ki_1 (fun z8 hz8 => ?_)
    refine lv_goto (tgt := 15) F.1 F.2.1 dX3_misplaced_11 (by decide) ?_
    refine tw_Vi (As := [.int z8]) F hZ h yk_X3_fail mw_420 mw_421 mw_422 (s_X3_fail l D cy L R O f0 a0 m_a0 r_a0 z8 ⟨by omega, by omega⟩) rfl rfl m_a0 r_a0 (fun e q => (T_3 e).mp q) rfl hl.1 rfl (Nat.le_of_ble_eq_true rfl) ⟨Nat.le_of_ble_eq_true rfl, Nat.le_of_ble_eq_true rfl⟩ ⟨Nat.le_of_ble_eq_true rfl, Nat.le_of_ble_eq_true rfl⟩ dX3_misplaced_15 (fun v10 f9 H locs hp9 h => ?_)
    obtain ⟨hf9, hv10a, hv10b⟩ := hp9
    have hk : fr L R [(3, 2), (3, 3)] [3] f0 f9 := hk.tr hf9 rfl rfl
    exact hret f9 _ _ _ _ v10 dX3_misplaced_18 (tw_nb (by omega)) ⟨hk, by omega, by omega⟩ h
theorem dX3_readEnd_0 : decode cX3_readEnd 0 = .ok (.aload_n 0, 1) := by decide +kernel
theorem dX3_readEnd_1 : decode cX3_readEnd 1 = .ok (.invokevirtual 71, 3) := by decide +kernel
theorem dX3_readEnd_4 : decode cX3_readEnd 4 = .ok (.iconst 4, 1) := by decide +kernel
theorem dX3_readEnd_5 : decode cX3_readEnd 5 = .ok (.if_icmp .eq 8, 3) := by decide +kernel
theorem dX3_readEnd_13 : decode cX3_readEnd 13 = .ok (.aload_n 0, 1) := by decide +kernel
theorem dX3_readEnd_14 : decode cX3_readEnd 14 = .ok (.dup, 1) := by decide +kernel
theorem dX3_readEnd_15 : decode cX3_readEnd 15 = .ok (.getfield 58, 3) := by decide +kernel
theorem dX3_readEnd_18 : decode cX3_readEnd 18 = .ok (.iconst 1, 1) := by decide +kernel
theorem dX3_readEnd_19 : decode cX3_readEnd 19 = .ok (.iadd, 1) := by decide +kernel
theorem dX3_readEnd_20 : decode cX3_readEnd 20 = .ok (.putfield 58, 3) := by decide +kernel
section
variable {p : Program} {l : Launch} {e : Env} {R0 : Room} {s : State} {m : MethodId} {args : Array Value} {below : List Frame} {meth : Method} {c : Code} {H H0 : Heap} {locs : List Loc} {cells slots : Nat} {Q : State → Prop} {cc : ByteArray} {nL : Nat} {D : va_G} {cy : Nat → ClassId} {A : Nat → Prop} {L : List Nat} {R : Nat → Nat} {f : Nat → va_E} {pc : Nat} {ls : Array Slot} {rest : List Value} {a : Nat}
theorem p_3_58 (F : CallFix p m c cc nL s args wsL_law RX3) (h : tS D cy A H0 L R (TT cy L R) f s H locs) {x : Int32} (ha : a ∈ L) (hr : R a = 3) (hv : 0 ≤ x.toInt ∧ x.toInt ≤ 601) (hdg : decode cc pc = .ok (.putfield 58, 3)) (kk : ∀ (f1 : Nat → va_E) (H1 : Heap) (locs1 : List Loc), fi f1 a 12 = x.toInt → fr L R [(3, 12)] [3] f f1 → tS D cy A H0 L R (TT cy L R) f1 s H1 locs1 → W p l e R0 s m args below meth c H1 locs1 cells slots Q (F0 m (pc + 3) ls (rest))) : W p l e R0 s m args below meth c H locs cells slots Q (F0 m pc ls (.int x :: .ref a :: rest)) := tu_puti (k := 12) F h ha hr T_3 rfl hv.1 hv.2 inlX3 tyX3_ok nmX3 rfl (Nat.le_of_ble_eq_true rfl) mw_70 rfl rfl rfl hdg kk
end
theorem dX3_readEnd_23 : decode cX3_readEnd 23 = .ok (.iconst 1, 1) := by decide +kernel
theorem dX3_readEnd_24 : decode cX3_readEnd 24 = .ok (.ireturn, 1) := by decide +kernel
theorem dX3_readEnd_8 : decode cX3_readEnd 8 = .ok (.aload_n 0, 1) := by decide +kernel
theorem dX3_readEnd_9 : decode cX3_readEnd 9 = .ok (.invokevirtual 119, 3) := by decide +kernel
theorem mw_541 : Cond.methodLink RX3 119 yX3_misplaced ∈ wsL_law := inr_23 _ (List.mem_of_getElem? (i := 13) rfl)
theorem mw_544 : Cond.code yX3_misplaced cX3_misplaced 1 (some .boolean) ∈ wsL_law := inr_23 _ (List.mem_of_getElem? (i := 16) rfl)
theorem yk_X3_misplaced : xY yX3_misplaced RX3 cX3_misplaced 1 (some .boolean) 0 := ⟨⟨rfl, by decide +kernel, by decide +kernel, by decide +kernel⟩, mw_19, mw_544⟩
theorem mw_542 : Cond.instanceMethod yX3_misplaced ∈ wsL_law := inr_23 _ (List.mem_of_getElem? (i := 14) rfl)
theorem mw_543 : Cond.selects RX3 yX3_misplaced yX3_misplaced ∈ wsL_law := inr_23 _ (List.mem_of_getElem? (i := 15) rfl)
theorem dX3_readEnd_12 : decode cX3_readEnd 12 = .ok (.ireturn, 1) := by decide +kernel
def rm_X3_readEnd : Room := { frames := 2, cells := 0, slots := 0, locals := 41 }
set_option maxHeartbeats 4000000 in
set_option maxRecDepth 100000 in
theorem s_X3_readEnd (l : Launch) (D : va_G) (cy : Nat → ClassId) (L : List Nat) (R O : Nat → Nat) (f0 : Nat → va_E) (a0 : Nat) (m_a0 : a0 ∈ L) (r_a0 : R a0 = 3) : ∀ sz, Met l yX3_readEnd (Cond.code yX3_readEnd cX3_readEnd 1 (some .boolean) :: wsL_law) rm_X3_readEnd (va_Pc [.ref a0] (tPZ D cy L R (TT cy L R) f0 sz)) (va_Qi (fun (r : Int32) f1 => fr L R [(3, 2), (3, 3), (3, 12)] [3] f0 f1 ∧ 0 ≤ r.toInt ∧ r.toInt ≤ 1 ∧ fi f0 a0 12 ≤ fi f1 a0 12) (tB D (tA L sz) L R (TT cy L R)) (tA L sz)) 0 0 (tA L sz) := by
  refine tw_enteri (by decide +kernel) rfl (Nat.le_of_ble_eq_true rfl) ?_
  intro p e s m below meth c A ls args Q F hZ h hl hret
  have hl : lv_has ls 1 [(0, .ref a0)] := hl
  have hk : fr L R [(3, 2), (3, 3), (3, 12)] [3] f0 f0 := fr.rf
  have t_a0_at := h.bfi m_a0 r_a0 (fun e q => (T_3 e).mp q) (k := 12) rfl
  have t_a0_tokenCount := h.bfi m_a0 r_a0 (fun e q => (T_3 e).mp q) (k := 8) rfl
  refine lv_aload_n F.1 F.2.1 dX3_readEnd_0 rfl (lv_at hl 0 rfl) ?_
  refine tw_Vi (As := []) F hZ h yk_X3_kind mw_416 mw_417 mw_418 (s_X3_kind l D cy L R O f0 a0 m_a0 r_a0) rfl rfl m_a0 r_a0 (fun e q => (T_3 e).mp q) rfl hl.1 rfl (Nat.le_of_ble_eq_true rfl) ⟨Nat.le_of_ble_eq_true rfl, Nat.le_of_ble_eq_true rfl⟩ ⟨Nat.le_of_ble_eq_true rfl, Nat.le_of_ble_eq_true rfl⟩ dX3_readEnd_1 (fun v2 f1 H locs hp1 h => ?_)
  obtain ⟨rfl, hv2p0⟩ := hp1
  refine tw_iconst F dX3_readEnd_4 ki_4 (fun z3 hz3 => ?_)
  refine tw_icmp_eq (tgt := 13) F dX3_readEnd_5 (by decide) (fun b4 => ?_) (fun b4 => ?_)
  · refine lv_aload_n F.1 F.2.1 dX3_readEnd_13 rfl (lv_at hl 0 rfl) ?_
    refine lv_dup F.1 F.2.1 dX3_readEnd_14 rfl ?_
    refine g_3_58 F h m_a0 r_a0 dX3_readEnd_15 (fun v5 hv5 hv5a hv5b => ?_)
    refine tw_iconst F dX3_readEnd_18 ki_1 (fun z6 hz6 => ?_)
    refine tu_iadd F dX3_readEnd_19 (by omega) (fun z7 hz7 => ?_)
    refine p_3_58 F h m_a0 r_a0 (by omega) dX3_readEnd_20 (fun f8 H locs e8p hf8 h => ?_)
    have hk : fr L R [(3, 2), (3, 3), (3, 12)] [3] f0 f8 := hk.tr hf8 rfl rfl
    have e9 : fi f8 a0 8 = fi f0 a0 8 := hf8.efi m_a0 r_a0 rfl
    refine tw_iconst F dX3_readEnd_23 ki_1 (fun z10 hz10 => ?_)
    exact hret f8 _ _ _ _ z10 dX3_readEnd_24 (tw_nb (by omega)) ⟨hk, by omega, by omega, by omega⟩ h
  · refine lv_aload_n F.1 F.2.1 dX3_readEnd_8 rfl (lv_at hl 0 rfl) ?_
    refine tw_Vi (As := []) F hZ h yk_X3_misplaced mw_541 mw_542 mw_543 (s_X3_misplaced l D cy L R O f0 a0 m_a0 r_a0) rfl rfl m_a0 r_a0 (fun e q => (T_3 e).mp q) rfl hl.1 rfl (Nat.le_of_ble_eq_true rfl) ⟨Nat.le_of_ble_eq_true rfl, Nat.le_of_ble_eq_true rfl⟩ ⟨Nat.le_of_ble_eq_true rfl, Nat.le_of_ble_eq_true rfl⟩ dX3_readEnd_9 (fun v12 f11 H locs hp11 h => ?_)
    obtain ⟨hf11, hv12a, hv12b⟩ := hp11
    have hk : fr L R [(3, 2), (3, 3), (3, 12)] [3] f0 f11 := hk.tr hf11 rfl rfl
    have e13 : fi f11 a0 12 = fi f0 a0 12 := hf11.efi m_a0 r_a0 rfl
    have e14 : fi f11 a0 8 = fi f0 a0 8 := hf11.efi m_a0 r_a0 rfl
    exact hret f11 _ _ _ _ v12 dX3_readEnd_12 (tw_nb (by omega)) ⟨hk, by omega, by omega, by omega⟩ h
theorem dX3_lengthenNumber_0 : decode cX3_lengthenNumber 0 = .ok (.aload_n 0, 1) := by decide +kernel
theorem dX3_lengthenNumber_1 : decode cX3_lengthenNumber 1 = .ok (.getfield 46, 3) := by decide +kernel
theorem dX3_lengthenNumber_4 : decode cX3_lengthenNumber 4 = .ok (.iconst 1, 1) := by decide +kernel
theorem dX3_lengthenNumber_5 : decode cX3_lengthenNumber 5 = .ok (.isub, 1) := by decide +kernel
theorem dX3_lengthenNumber_6 : decode cX3_lengthenNumber 6 = .ok (.istore_n 2, 1) := by decide +kernel
theorem dX3_lengthenNumber_7 : decode cX3_lengthenNumber 7 = .ok (.iload_n 2, 1) := by decide +kernel
theorem dX3_lengthenNumber_8 : decode cX3_lengthenNumber 8 = .ok (.ifCond .ge 4, 3) := by decide +kernel
theorem dX3_lengthenNumber_12 : decode cX3_lengthenNumber 12 = .ok (.aload_n 0, 1) := by decide +kernel
theorem dX3_lengthenNumber_13 : decode cX3_lengthenNumber 13 = .ok (.getfield 39, 3) := by decide +kernel
theorem mw_63 : Cond.fieldLink RX3 39 "AskBack$Reader" "sizes" "[I" ∈ wsL_law := inr_3 _ (List.mem_of_getElem? (i := 15) rfl)
section
variable {p : Program} {l : Launch} {e : Env} {R0 : Room} {s : State} {m : MethodId} {args : Array Value} {below : List Frame} {meth : Method} {c : Code} {H H0 : Heap} {locs : List Loc} {cells slots : Nat} {Q : State → Prop} {cc : ByteArray} {nL : Nat} {D : va_G} {cy : Nat → ClassId} {A : Nat → Prop} {L : List Nat} {R : Nat → Nat} {f : Nat → va_E} {pc : Nat} {ls : Array Slot} {rest : List Value} {a : Nat}
theorem g_3_39 (F : CallFix p m c cc nL s args wsL_law RX3) (h : tS D cy A H0 L R (TT cy L R) f s H locs) (ha : a ∈ L) (hr : R a = 3) (hdg : decode cc pc = .ok (.getfield 39, 3)) (kk : ∀ b : Nat, b ∈ L → R b = 60 → fld f a 6 = .ref b → W p l e R0 s m args below meth c H locs cells slots Q (F0 m (pc + 3) ls (.ref b :: rest))) : W p l e R0 s m args below meth c H locs cells slots Q (F0 m pc ls (.ref a :: rest)) := tu_getr F h ha hr (fun e q => (T_3 e).mp q) rfl inlX3 rfl (Nat.le_of_ble_eq_true rfl) mw_63 hdg kk
end
theorem dX3_lengthenNumber_16 : decode cX3_lengthenNumber 16 = .ok (.iload_n 2, 1) := by decide +kernel
theorem dX3_lengthenNumber_17 : decode cX3_lengthenNumber 17 = .ok (.dup2, 1) := by decide +kernel
theorem dX3_lengthenNumber_18 : decode cX3_lengthenNumber 18 = .ok (.iaload, 1) := by decide +kernel
section
variable {p : Program} {l : Launch} {e : Env} {R0 : Room} {s : State} {m : MethodId} {args : Array Value} {below : List Frame} {meth : Method} {c : Code} {H H0 : Heap} {locs : List Loc} {cells slots : Nat} {Q : State → Prop} {cc : ByteArray} {nL : Nat} {D : va_G} {cy : Nat → ClassId} {A : Nat → Prop} {L : List Nat} {R : Nat → Nat} {f : Nat → va_E} {pc : Nat} {ls : Array Slot} {rest : List Value} {a : Nat}
theorem le_60 {own : String} (F : CallFix p m c cc nL s args wsL_law own) (h : tS D cy A H0 L R (TT cy L R) f s H locs) {i : Int32} (ha : a ∈ L) (hr : R a = 60) (hb : 0 ≤ i.toInt ∧ i.toInt < 601) (hdg : decode cc pc = .ok (.iaload, 1)) (kk : ∀ x : Int32, x.toInt = eli f a i.toInt.toNat → W p l e R0 s m args below meth c H locs cells slots Q (F0 m (pc + 1) ls (.int x :: rest))) : W p l e R0 s m args below meth c H locs cells slots Q (F0 m pc ls (.int i :: .ref a :: rest)) := tu_iald F h ha hr (fun e q => (T_60 e).mp q) hb.1 hb.2 hdg (fun x h1 h2 => kk x h2)
end
theorem dX3_lengthenNumber_19 : decode cX3_lengthenNumber 19 = .ok (.iconst 1, 1) := by decide +kernel
theorem dX3_lengthenNumber_20 : decode cX3_lengthenNumber 20 = .ok (.iadd, 1) := by decide +kernel
theorem dX3_lengthenNumber_21 : decode cX3_lengthenNumber 21 = .ok (.iastore, 1) := by decide +kernel
section
variable {p : Program} {l : Launch} {e : Env} {R0 : Room} {s : State} {m : MethodId} {args : Array Value} {below : List Frame} {meth : Method} {c : Code} {H H0 : Heap} {locs : List Loc} {cells slots : Nat} {Q : State → Prop} {cc : ByteArray} {nL : Nat} {D : va_G} {cy : Nat → ClassId} {A : Nat → Prop} {L : List Nat} {R : Nat → Nat} {f : Nat → va_E} {pc : Nat} {ls : Array Slot} {rest : List Value} {a : Nat}
theorem se_60 {own : String} (F : CallFix p m c cc nL s args wsL_law own) (h : tS D cy A H0 L R (TT cy L R) f s H locs) {i : Int32} {x : Int32} (ha : a ∈ L) (hr : R a = 60) (hb : 0 ≤ i.toInt ∧ i.toInt < 601) (hdg : decode cc pc = .ok (.iastore, 1)) (kk : ∀ (f1 : Nat → va_E) (H1 : Heap) (locs1 : List Loc), (∀ j, eli f1 a j = if j = i.toInt.toNat then x.toInt else eli f a j) → (∀ a', a' ≠ a → f1 a' = f a') → fr L R [] [60] f f1 → tS D cy A H0 L R (TT cy L R) f1 s H1 locs1 → W p l e R0 s m args below meth c H1 locs1 cells slots Q (F0 m (pc + 1) ls (rest))) : W p l e R0 s m args below meth c H locs cells slots Q (F0 m pc ls (.int x :: .int i :: .ref a :: rest)) := tu_iast F h ha hr T_60 hb.1 hb.2 trivial hdg (fun f1 H1 locs1 h1 h2 h3 h4 => kk f1 H1 locs1 h1 h2 h3 h4)
end
theorem dX3_lengthenNumber_22 : decode cX3_lengthenNumber 22 = .ok (.aload_n 0, 1) := by decide +kernel
theorem dX3_lengthenNumber_23 : decode cX3_lengthenNumber 23 = .ok (.getfield 39, 3) := by decide +kernel
theorem dX3_lengthenNumber_26 : decode cX3_lengthenNumber 26 = .ok (.iload_n 2, 1) := by decide +kernel
theorem dX3_lengthenNumber_27 : decode cX3_lengthenNumber 27 = .ok (.iaload, 1) := by decide +kernel
section
variable {p : Program} {l : Launch} {e : Env} {R0 : Room} {s : State} {m : MethodId} {args : Array Value} {below : List Frame} {meth : Method} {c : Code} {H H0 : Heap} {locs : List Loc} {cells slots : Nat} {Q : State → Prop} {cc : ByteArray} {nL : Nat} {D : va_G} {cy : Nat → ClassId} {A : Nat → Prop} {L : List Nat} {R : Nat → Nat} {f : Nat → va_E} {pc : Nat} {ls : Array Slot} {rest : List Value} {a : Nat}
theorem ld_60 {own : String} (F : CallFix p m c cc nL s args wsL_law own) (h : tS D cy A H0 L R (TT cy L R) f s H locs) {i : Int32} (ha : a ∈ L) (hr : R a = 60) (hb : 0 ≤ i.toInt ∧ i.toInt < 601) (hdg : decode cc pc = .ok (.iaload, 1)) (kk : ∀ x : Int32, W p l e R0 s m args below meth c H locs cells slots Q (F0 m (pc + 1) ls (.int x :: rest))) : W p l e R0 s m args below meth c H locs cells slots Q (F0 m pc ls (.int i :: .ref a :: rest)) := tu_iald F h ha hr (fun e q => (T_60 e).mp q) hb.1 hb.2 hdg (fun x h1 h2 => kk x)
end
theorem dX3_lengthenNumber_28 : decode cX3_lengthenNumber 28 = .ok (.iconst 2, 1) := by decide +kernel
theorem dX3_lengthenNumber_29 : decode cX3_lengthenNumber 29 = .ok (.if_icmp .le 14, 3) := by decide +kernel
theorem dX3_lengthenNumber_43 : decode cX3_lengthenNumber 43 = .ok (.aload_n 0, 1) := by decide +kernel
theorem dX3_lengthenNumber_44 : decode cX3_lengthenNumber 44 = .ok (.getfield 42, 3) := by decide +kernel
theorem dX3_lengthenNumber_47 : decode cX3_lengthenNumber 47 = .ok (.iload_n 2, 1) := by decide +kernel
theorem dX3_lengthenNumber_48 : decode cX3_lengthenNumber 48 = .ok (.aload_n 0, 1) := by decide +kernel
theorem dX3_lengthenNumber_49 : decode cX3_lengthenNumber 49 = .ok (.getfield 42, 3) := by decide +kernel
theorem dX3_lengthenNumber_52 : decode cX3_lengthenNumber 52 = .ok (.iload_n 2, 1) := by decide +kernel
theorem dX3_lengthenNumber_53 : decode cX3_lengthenNumber 53 = .ok (.laload, 1) := by decide +kernel
section
variable {p : Program} {l : Launch} {e : Env} {R0 : Room} {s : State} {m : MethodId} {args : Array Value} {below : List Frame} {meth : Method} {c : Code} {H H0 : Heap} {locs : List Loc} {cells slots : Nat} {Q : State → Prop} {cc : ByteArray} {nL : Nat} {D : va_G} {cy : Nat → ClassId} {A : Nat → Prop} {L : List Nat} {R : Nat → Nat} {f : Nat → va_E} {pc : Nat} {ls : Array Slot} {rest : List Value} {a : Nat}
theorem ld_31 {own : String} (F : CallFix p m c cc nL s args wsL_law own) (h : tS D cy A H0 L R (TT cy L R) f s H locs) {i : Int32} (ha : a ∈ L) (hr : R a = 31) (hb : 0 ≤ i.toInt ∧ i.toInt < 601) (hdg : decode cc pc = .ok (.laload, 1)) (kk : ∀ x : Int64, W p l e R0 s m args below meth c H locs cells slots Q (F0 m (pc + 1) ls (.long x :: rest))) : W p l e R0 s m args below meth c H locs cells slots Q (F0 m pc ls (.int i :: .ref a :: rest)) := tu_lald F h ha hr (fun e q => (T_31 e).mp q) hb.1 hb.2 hdg (fun x h1 h2 => kk x)
end
theorem dX3_lengthenNumber_54 : decode cX3_lengthenNumber 54 = .ok (.ldc2_w 143, 3) := by decide +kernel
theorem mw_406 : Cond.constantLong RX3 143 (10) ∈ wsL_law := inr_17 _ (List.mem_of_getElem? (i := 22) rfl)
theorem kl_10 : (10 : Int64).toInt = 10 := by decide +kernel
theorem dX3_lengthenNumber_57 : decode cX3_lengthenNumber 57 = .ok (.lmul, 1) := by decide +kernel
theorem dX3_lengthenNumber_58 : decode cX3_lengthenNumber 58 = .ok (.iload_n 1, 1) := by decide +kernel
theorem dX3_lengthenNumber_59 : decode cX3_lengthenNumber 59 = .ok (.i2l, 1) := by decide +kernel
theorem dX3_lengthenNumber_60 : decode cX3_lengthenNumber 60 = .ok (.ladd, 1) := by decide +kernel
theorem dX3_lengthenNumber_61 : decode cX3_lengthenNumber 61 = .ok (.ldc2_w 145, 3) := by decide +kernel
theorem mw_407 : Cond.constantLong RX3 145 (48) ∈ wsL_law := inr_17 _ (List.mem_of_getElem? (i := 23) rfl)
theorem kl_48 : (48 : Int64).toInt = 48 := by decide +kernel
theorem dX3_lengthenNumber_64 : decode cX3_lengthenNumber 64 = .ok (.lsub, 1) := by decide +kernel
theorem dX3_lengthenNumber_65 : decode cX3_lengthenNumber 65 = .ok (.lastore, 1) := by decide +kernel
section
variable {p : Program} {l : Launch} {e : Env} {R0 : Room} {s : State} {m : MethodId} {args : Array Value} {below : List Frame} {meth : Method} {c : Code} {H H0 : Heap} {locs : List Loc} {cells slots : Nat} {Q : State → Prop} {cc : ByteArray} {nL : Nat} {D : va_G} {cy : Nat → ClassId} {A : Nat → Prop} {L : List Nat} {R : Nat → Nat} {f : Nat → va_E} {pc : Nat} {ls : Array Slot} {rest : List Value} {a : Nat}
theorem se_31 {own : String} (F : CallFix p m c cc nL s args wsL_law own) (h : tS D cy A H0 L R (TT cy L R) f s H locs) {i : Int32} {x : Int64} (ha : a ∈ L) (hr : R a = 31) (hb : 0 ≤ i.toInt ∧ i.toInt < 601) (hdg : decode cc pc = .ok (.lastore, 1)) (kk : ∀ (f1 : Nat → va_E) (H1 : Heap) (locs1 : List Loc), (∀ j, elj f1 a j = if j = i.toInt.toNat then x.toInt else elj f a j) → (∀ a', a' ≠ a → f1 a' = f a') → fr L R [] [31] f f1 → tS D cy A H0 L R (TT cy L R) f1 s H1 locs1 → W p l e R0 s m args below meth c H1 locs1 cells slots Q (F0 m (pc + 1) ls (rest))) : W p l e R0 s m args below meth c H locs cells slots Q (F0 m pc ls (.long x :: .int i :: .ref a :: rest)) := tu_last F h ha hr T_31 hb.1 hb.2 trivial hdg (fun f1 H1 locs1 h1 h2 h3 h4 => kk f1 H1 locs1 h1 h2 h3 h4)
end
theorem dX3_lengthenNumber_66 : decode cX3_lengthenNumber 66 = .ok (.return_, 1) := by decide +kernel
theorem dX3_lengthenNumber_32 : decode cX3_lengthenNumber 32 = .ok (.aload_n 0, 1) := by decide +kernel
theorem dX3_lengthenNumber_33 : decode cX3_lengthenNumber 33 = .ok (.getfield 32, 3) := by decide +kernel
theorem dX3_lengthenNumber_36 : decode cX3_lengthenNumber 36 = .ok (.iload_n 2, 1) := by decide +kernel
theorem dX3_lengthenNumber_37 : decode cX3_lengthenNumber 37 = .ok (.bipush 7, 2) := by decide +kernel
theorem dX3_lengthenNumber_39 : decode cX3_lengthenNumber 39 = .ok (.iastore, 1) := by decide +kernel
section
variable {p : Program} {l : Launch} {e : Env} {R0 : Room} {s : State} {m : MethodId} {args : Array Value} {below : List Frame} {meth : Method} {c : Code} {H H0 : Heap} {locs : List Loc} {cells slots : Nat} {Q : State → Prop} {cc : ByteArray} {nL : Nat} {D : va_G} {cy : Nat → ClassId} {A : Nat → Prop} {L : List Nat} {R : Nat → Nat} {f : Nat → va_E} {pc : Nat} {ls : Array Slot} {rest : List Value} {a : Nat}
theorem se_30 {own : String} (F : CallFix p m c cc nL s args wsL_law own) (h : tS D cy A H0 L R (TT cy L R) f s H locs) {i : Int32} {x : Int32} (ha : a ∈ L) (hr : R a = 30) (hb : 0 ≤ i.toInt ∧ i.toInt < 601) (hdg : decode cc pc = .ok (.iastore, 1)) (kk : ∀ (f1 : Nat → va_E) (H1 : Heap) (locs1 : List Loc), (∀ j, eli f1 a j = if j = i.toInt.toNat then x.toInt else eli f a j) → (∀ a', a' ≠ a → f1 a' = f a') → fr L R [] [30] f f1 → tS D cy A H0 L R (TT cy L R) f1 s H1 locs1 → W p l e R0 s m args below meth c H1 locs1 cells slots Q (F0 m (pc + 1) ls (rest))) : W p l e R0 s m args below meth c H locs cells slots Q (F0 m pc ls (.int x :: .int i :: .ref a :: rest)) := tu_iast F h ha hr T_30 hb.1 hb.2 trivial hdg (fun f1 H1 locs1 h1 h2 h3 h4 => kk f1 H1 locs1 h1 h2 h3 h4)
end
theorem dX3_lengthenNumber_40 : decode cX3_lengthenNumber 40 = .ok (.goto 26, 3) := by decide +kernel
theorem dX3_lengthenNumber_11 : decode cX3_lengthenNumber 11 = .ok (.return_, 1) := by decide +kernel
def rm_X3_lengthenNumber : Room := { frames := 0, cells := 0, slots := 0, locals := 0 }
set_option maxHeartbeats 4000000 in
set_option maxRecDepth 100000 in
theorem s_X3_lengthenNumber (l : Launch) (D : va_G) (cy : Nat → ClassId) (L : List Nat) (R O : Nat → Nat) (f0 : Nat → va_E) (a0 : Nat) (m_a0 : a0 ∈ L) (r_a0 : R a0 = 3) (x1 : Int32) (pre0 : TK L R f0 a0) (pre1 : (1 ≤ fi f0 a0 8 → eli f0 (rfa f0 a0 4) (fi f0 a0 8 - 1).toNat ≠ 1)) : ∀ sz, Met l yX3_lengthenNumber (Cond.code yX3_lengthenNumber cX3_lengthenNumber 3 none :: wsL_law) rm_X3_lengthenNumber (va_Pc [.ref a0, .int x1] (tPZ D cy L R (TT cy L R) f0 sz)) (va_Qv (fun f1 => fr L R [] [30, 31, 60] f0 f1 ∧ TK L R f1 a0 ∧ (1 ≤ fi f1 a0 8 → eli f1 (rfa f1 a0 4) (fi f1 a0 8 - 1).toNat ≠ 1)) (tB D (tA L sz) L R (TT cy L R)) (tA L sz)) 0 0 (tA L sz) := by
  refine tw_enterv (by decide +kernel) rfl (Nat.le_of_ble_eq_true rfl) ?_
  intro p e s m below meth c A ls args Q F hZ h hl hret
  have hl : lv_has ls 3 [(0, .ref a0), (1, .int x1)] := hl
  have hk : fr L R [] [30, 31, 60] f0 f0 := fr.rf
  have t_a0_tokenCount := h.bfi m_a0 r_a0 (fun e q => (T_3 e).mp q) (k := 8) rfl
  refine lv_aload_n F.1 F.2.1 dX3_lengthenNumber_0 rfl (lv_at hl 0 rfl) ?_
  refine g_3_46 F h m_a0 r_a0 dX3_lengthenNumber_1 (fun v1 hv1 hv1a hv1b => ?_)
  refine tw_iconst F dX3_lengthenNumber_4 ki_1 (fun z2 hz2 => ?_)
  refine tu_isub F dX3_lengthenNumber_5 (by omega) (fun z3 hz3 => ?_)
  refine lv_istore_n (lv' := [(2, .int z3), (0, .ref a0), (1, .int x1)]) F.1 F.2.1 dX3_lengthenNumber_6 rfl hl (by decide) rfl (fun ls hl => ?_)
  refine lv_iload_n F.1 F.2.1 dX3_lengthenNumber_7 rfl (lv_at hl 0 rfl) ?_
  refine tw_if_ge (tgt := 12) F dX3_lengthenNumber_8 (by decide) (fun b4 => ?_) (fun b4 => ?_)
  · refine lv_aload_n F.1 F.2.1 dX3_lengthenNumber_12 rfl (lv_at hl 1 rfl) ?_
    refine g_3_39 F h m_a0 r_a0 dX3_lengthenNumber_13 (fun o5 m_o5 r_o5 ho5 => ?_)
    have hsz0 := ho5
    refine lv_iload_n F.1 F.2.1 dX3_lengthenNumber_16 rfl (lv_at hl 0 rfl) ?_
    refine lv_dup2_11 F.1 F.2.1 dX3_lengthenNumber_17 rfl rfl ?_
    refine le_60 F h m_o5 r_o5 (by omega) dX3_lengthenNumber_18 (fun v6 ev6 => ?_)
    refine tw_iconst F dX3_lengthenNumber_19 ki_1 (fun z7 hz7 => ?_)
    refine lv_iadd F.1 F.2.1 dX3_lengthenNumber_20 ?_
    refine lv_topi (fun z8 _ => ?_)
    refine se_60 F h m_o5 r_o5 (by omega) dX3_lengthenNumber_21 (fun f9 H locs e9a e9b hf9 h => ?_)
    have hk : fr L R [] [30, 31, 60] f0 f9 := hk.tr hf9 rfl rfl
    have e10 : fi f9 a0 8 = fi f0 a0 8 := hf9.efi m_a0 r_a0 rfl
    have e11 : fld f9 a0 6 = .ref o5 := (hf9.efl m_a0 r_a0 rfl).trans ho5
    refine lv_aload_n F.1 F.2.1 dX3_lengthenNumber_22 rfl (lv_at hl 1 rfl) ?_
    refine g_3_39 F h m_a0 r_a0 dX3_lengthenNumber_23 (fun o12 m_o12 r_o12 ho12 => ?_)
    obtain rfl := (fld_inj e11 ho12).symm
    refine lv_iload_n F.1 F.2.1 dX3_lengthenNumber_26 rfl (lv_at hl 0 rfl) ?_
    refine ld_60 F h m_o5 r_o5 (by omega) dX3_lengthenNumber_27 (fun v13 => ?_)
    refine tw_iconst F dX3_lengthenNumber_28 ki_2 (fun z14 hz14 => ?_)
    refine tw_icmp_le (tgt := 43) F dX3_lengthenNumber_29 (by decide) (fun b15 => ?_) (fun b15 => ?_)
    · refine lv_aload_n F.1 F.2.1 dX3_lengthenNumber_43 rfl (lv_at hl 1 rfl) ?_
      refine g_3_42 F h m_a0 r_a0 dX3_lengthenNumber_44 (fun o16 m_o16 r_o16 ho16 => ?_)
      refine lv_iload_n F.1 F.2.1 dX3_lengthenNumber_47 rfl (lv_at hl 0 rfl) ?_
      refine lv_aload_n F.1 F.2.1 dX3_lengthenNumber_48 rfl (lv_at hl 1 rfl) ?_
      refine g_3_42 F h m_a0 r_a0 dX3_lengthenNumber_49 (fun o17 m_o17 r_o17 ho17 => ?_)
      obtain rfl := (fld_inj ho16 ho17).symm
      refine lv_iload_n F.1 F.2.1 dX3_lengthenNumber_52 rfl (lv_at hl 0 rfl) ?_
      refine ld_31 F h m_o16 r_o16 (by omega) dX3_lengthenNumber_53 (fun v18 => ?_)
      refine tu_ldc2 F mw_406 dX3_lengthenNumber_54 kl_10 (fun z19 hz19 => ?_)
      refine lv_lmul F.1 F.2.1 dX3_lengthenNumber_57 ?_
      refine lv_topl (fun z20 _ => ?_)
      refine lv_iload_n F.1 F.2.1 dX3_lengthenNumber_58 rfl (lv_at hl 2 rfl) ?_
      refine tu_i2l F dX3_lengthenNumber_59 (fun z21 hz21 hz21a hz21b => ?_)
      refine lv_ladd F.1 F.2.1 dX3_lengthenNumber_60 ?_
      refine lv_topl (fun z22 _ => ?_)
      refine tu_ldc2 F mw_407 dX3_lengthenNumber_61 kl_48 (fun z23 hz23 => ?_)
      refine lv_lsub F.1 F.2.1 dX3_lengthenNumber_64 ?_
      refine lv_topl (fun z24 _ => ?_)
      refine se_31 F h m_o16 r_o16 (by omega) dX3_lengthenNumber_65 (fun f25 H locs e25a e25b hf25 h => ?_)
      have hk : fr L R [] [30, 31, 60] f0 f25 := hk.tr hf25 rfl rfl
      have e26 : fi f25 a0 8 = fi f9 a0 8 := hf25.efi m_a0 r_a0 rfl
      have e27 : fld f25 a0 6 = .ref o5 := (hf25.efl m_a0 r_a0 rfl).trans e11
      have e28 : fld f25 a0 7 = .ref o16 := (hf25.efl m_a0 r_a0 rfl).trans ho16
      obtain ⟨t1, t2, t3, t4, t6, t7, t5⟩ := id pre0
      have n0 : a0 ≠ o16 := ne_r r_a0 r_o16 (by decide)
      have nz : a0 ≠ o5 := ne_r r_a0 r_o5 (by decide)
      have zz : rfa f0 a0 6 = o5 := rfa_of hsz0
      have g4 : rfa f25 a0 4 = rfa f0 a0 4 := by rw [rfa_o e25b n0, rfa_o e9b nz]
      have g7 : rfa f25 a0 7 = rfa f0 a0 7 := by rw [rfa_o e25b n0, rfa_o e9b nz]
      have g6 : rfa f25 a0 6 = rfa f0 a0 6 := by rw [rfa_o e25b n0, rfa_o e9b nz]
      have g8 : fi f25 a0 8 = fi f0 a0 8 := by rw [fi_o e25b n0, fi_o e9b nz]
      have nK : rfa f0 a0 4 ≠ o5 := ne_r t2 r_o5 (by decide)
      have nV : rfa f0 a0 7 ≠ o5 := ne_r t4 r_o5 (by decide)
      have nZ : o5 ≠ o16 := ne_r r_o5 r_o16 (by decide)
      have eZ : ∀ j, eli f25 (rfa f25 a0 6) j = if j = z3.toInt.toNat then z8.toInt else eli f0 (rfa f0 a0 6) j := fun j => by rw [g6, zz, eli_o e25b nZ, e9a]
      have va : rfa f0 a0 7 = o16 := by rw [← g7, rfa_o e25b n0]; exact rfa_of ho16
      have nK2 : rfa f0 a0 4 ≠ o16 := ne_r t2 r_o16 (by decide)
      have eK : ∀ j, eli f25 (rfa f25 a0 4) j = eli f0 (rfa f0 a0 4) j := fun j => by rw [g4, eli_o e25b nK2, eli_o e9b nK]
      have eV : ∀ j, elj f25 (rfa f25 a0 7) j = if j = z3.toInt.toNat then z24.toInt else elj f0 (rfa f0 a0 7) j := fun j => by rw [g7, va, e25a]; rw [va] at nV; rw [elj_o e9b nV]
      have hT : TK L R f25 a0 := by
          refine ⟨by rw [g4]; exact t1, by rw [g4]; exact t2, by rw [g7]; exact t3, by rw [g7]; exact t4, by rw [g6]; exact t6, by rw [g6]; exact t7, fun t ht => ?_⟩
          rw [eK, eV, eZ]
          by_cases q : t = z3.toInt.toNat
          · intro q1
            have q5 := pre1 (by omega)
            rw [show (fi f0 a0 8 - 1).toNat = t by omega] at q5
            exact absurd q1 q5
          · rw [if_neg q, if_neg q]
            exact t5 t (by omega)
      have hL : 1 ≤ fi f25 a0 8 → eli f25 (rfa f25 a0 4) (fi f25 a0 8 - 1).toNat ≠ 1 := fun q => by rw [eK, g8]; exact pre1 (by omega)
      exact hret f25 _ _ _ _ dX3_lengthenNumber_66 ⟨hk, hT, hL⟩ h
    · refine lv_aload_n F.1 F.2.1 dX3_lengthenNumber_32 rfl (lv_at hl 1 rfl) ?_
      refine g_3_32 F h m_a0 r_a0 dX3_lengthenNumber_33 (fun o29 m_o29 r_o29 ho29 => ?_)
      refine lv_iload_n F.1 F.2.1 dX3_lengthenNumber_36 rfl (lv_at hl 0 rfl) ?_
      refine tw_bipush F dX3_lengthenNumber_37 kb_7 (fun z30 hz30 => ?_)
      refine se_30 F h m_o29 r_o29 (by omega) dX3_lengthenNumber_39 (fun f31 H locs e31a e31b hf31 h => ?_)
      have hk : fr L R [] [30, 31, 60] f0 f31 := hk.tr hf31 rfl rfl
      have e32 : fi f31 a0 8 = fi f9 a0 8 := hf31.efi m_a0 r_a0 rfl
      have e33 : fld f31 a0 6 = .ref o5 := (hf31.efl m_a0 r_a0 rfl).trans e11
      have e34 : fld f31 a0 4 = .ref o29 := (hf31.efl m_a0 r_a0 rfl).trans ho29
      refine lv_goto (tgt := 66) F.1 F.2.1 dX3_lengthenNumber_40 (by decide) ?_
      obtain ⟨t1, t2, t3, t4, t6, t7, t5⟩ := id pre0
      have n0 : a0 ≠ o29 := ne_r r_a0 r_o29 (by decide)
      have nz : a0 ≠ o5 := ne_r r_a0 r_o5 (by decide)
      have zz : rfa f0 a0 6 = o5 := rfa_of hsz0
      have g4 : rfa f31 a0 4 = rfa f0 a0 4 := by rw [rfa_o e31b n0, rfa_o e9b nz]
      have g7 : rfa f31 a0 7 = rfa f0 a0 7 := by rw [rfa_o e31b n0, rfa_o e9b nz]
      have g6 : rfa f31 a0 6 = rfa f0 a0 6 := by rw [rfa_o e31b n0, rfa_o e9b nz]
      have g8 : fi f31 a0 8 = fi f0 a0 8 := by rw [fi_o e31b n0, fi_o e9b nz]
      have nK : rfa f0 a0 4 ≠ o5 := ne_r t2 r_o5 (by decide)
      have nV : rfa f0 a0 7 ≠ o5 := ne_r t4 r_o5 (by decide)
      have nZ : o5 ≠ o29 := ne_r r_o5 r_o29 (by decide)
      have eZ : ∀ j, eli f31 (rfa f31 a0 6) j = if j = z3.toInt.toNat then z8.toInt else eli f0 (rfa f0 a0 6) j := fun j => by rw [g6, zz, eli_o e31b nZ, e9a]
      have ka : rfa f0 a0 4 = o29 := by rw [← g4, rfa_o e31b n0]; exact rfa_of ho29
      have eK : ∀ j, eli f31 (rfa f31 a0 4) j = if j = z3.toInt.toNat then z30.toInt else eli f0 (rfa f0 a0 4) j := fun j => by rw [g4, ka, e31a]; rw [ka] at nK; rw [eli_o e9b nK]
      have nV2 : rfa f0 a0 7 ≠ o29 := ne_r t4 r_o29 (by decide)
      have eV : ∀ j, elj f31 (rfa f31 a0 7) j = elj f0 (rfa f0 a0 7) j := fun j => by rw [g7, elj_o e31b nV2, elj_o e9b nV]
      have hT : TK L R f31 a0 := by
          refine ⟨by rw [g4]; exact t1, by rw [g4]; exact t2, by rw [g7]; exact t3, by rw [g7]; exact t4, by rw [g6]; exact t6, by rw [g6]; exact t7, fun t ht => ?_⟩
          rw [eK, eV, eZ]
          by_cases q : t = z3.toInt.toNat
          · rw [if_pos q]
            intro q1
            omega
          · rw [if_neg q, if_neg (show ¬ t = z3.toInt.toNat by omega)]
            exact t5 t (by omega)
      have hL : 1 ≤ fi f31 a0 8 → eli f31 (rfa f31 a0 4) (fi f31 a0 8 - 1).toNat ≠ 1 := fun _ => by rw [eK, if_pos (by omega)]; omega
      exact hret f31 _ _ _ _ dX3_lengthenNumber_66 ⟨hk, hT, hL⟩ h
  · exact hret f0 _ _ _ _ dX3_lengthenNumber_11 ⟨hk, pre0, pre1⟩ h
theorem dX3_lengthenWord_0 : decode cX3_lengthenWord 0 = .ok (.aload_n 0, 1) := by decide +kernel
theorem dX3_lengthenWord_1 : decode cX3_lengthenWord 1 = .ok (.getfield 46, 3) := by decide +kernel
theorem dX3_lengthenWord_4 : decode cX3_lengthenWord 4 = .ok (.iconst 1, 1) := by decide +kernel
theorem dX3_lengthenWord_5 : decode cX3_lengthenWord 5 = .ok (.isub, 1) := by decide +kernel
theorem dX3_lengthenWord_6 : decode cX3_lengthenWord 6 = .ok (.istore_n 2, 1) := by decide +kernel
theorem dX3_lengthenWord_7 : decode cX3_lengthenWord 7 = .ok (.iload_n 2, 1) := by decide +kernel
theorem dX3_lengthenWord_8 : decode cX3_lengthenWord 8 = .ok (.ifCond .ge 4, 3) := by decide +kernel
theorem dX3_lengthenWord_12 : decode cX3_lengthenWord 12 = .ok (.aload_n 0, 1) := by decide +kernel
theorem dX3_lengthenWord_13 : decode cX3_lengthenWord 13 = .ok (.getfield 39, 3) := by decide +kernel
theorem dX3_lengthenWord_16 : decode cX3_lengthenWord 16 = .ok (.iload_n 2, 1) := by decide +kernel
theorem dX3_lengthenWord_17 : decode cX3_lengthenWord 17 = .ok (.dup2, 1) := by decide +kernel
theorem dX3_lengthenWord_18 : decode cX3_lengthenWord 18 = .ok (.iaload, 1) := by decide +kernel
theorem dX3_lengthenWord_19 : decode cX3_lengthenWord 19 = .ok (.iconst 1, 1) := by decide +kernel
theorem dX3_lengthenWord_20 : decode cX3_lengthenWord 20 = .ok (.iadd, 1) := by decide +kernel
theorem dX3_lengthenWord_21 : decode cX3_lengthenWord 21 = .ok (.iastore, 1) := by decide +kernel
theorem dX3_lengthenWord_22 : decode cX3_lengthenWord 22 = .ok (.aload_n 0, 1) := by decide +kernel
theorem dX3_lengthenWord_23 : decode cX3_lengthenWord 23 = .ok (.getfield 39, 3) := by decide +kernel
theorem dX3_lengthenWord_26 : decode cX3_lengthenWord 26 = .ok (.iload_n 2, 1) := by decide +kernel
theorem dX3_lengthenWord_27 : decode cX3_lengthenWord 27 = .ok (.iaload, 1) := by decide +kernel
theorem dX3_lengthenWord_28 : decode cX3_lengthenWord 28 = .ok (.bipush 8, 2) := by decide +kernel
theorem dX3_lengthenWord_30 : decode cX3_lengthenWord 30 = .ok (.if_icmp .le 13, 3) := by decide +kernel
theorem dX3_lengthenWord_43 : decode cX3_lengthenWord 43 = .ok (.aload_n 0, 1) := by decide +kernel
theorem dX3_lengthenWord_44 : decode cX3_lengthenWord 44 = .ok (.getfield 42, 3) := by decide +kernel
theorem dX3_lengthenWord_47 : decode cX3_lengthenWord 47 = .ok (.iload_n 2, 1) := by decide +kernel
theorem dX3_lengthenWord_48 : decode cX3_lengthenWord 48 = .ok (.aload_n 0, 1) := by decide +kernel
theorem dX3_lengthenWord_49 : decode cX3_lengthenWord 49 = .ok (.getfield 42, 3) := by decide +kernel
theorem dX3_lengthenWord_52 : decode cX3_lengthenWord 52 = .ok (.iload_n 2, 1) := by decide +kernel
theorem dX3_lengthenWord_53 : decode cX3_lengthenWord 53 = .ok (.laload, 1) := by decide +kernel
theorem dX3_lengthenWord_54 : decode cX3_lengthenWord 54 = .ok (.iconst 5, 1) := by decide +kernel
theorem dX3_lengthenWord_55 : decode cX3_lengthenWord 55 = .ok (.lshl, 1) := by decide +kernel
theorem dX3_lengthenWord_56 : decode cX3_lengthenWord 56 = .ok (.iload_n 1, 1) := by decide +kernel
theorem dX3_lengthenWord_57 : decode cX3_lengthenWord 57 = .ok (.bipush 97, 2) := by decide +kernel
theorem dX3_lengthenWord_59 : decode cX3_lengthenWord 59 = .ok (.isub, 1) := by decide +kernel
theorem dX3_lengthenWord_60 : decode cX3_lengthenWord 60 = .ok (.iconst 1, 1) := by decide +kernel
theorem dX3_lengthenWord_61 : decode cX3_lengthenWord 61 = .ok (.iadd, 1) := by decide +kernel
theorem dX3_lengthenWord_62 : decode cX3_lengthenWord 62 = .ok (.i2l, 1) := by decide +kernel
theorem dX3_lengthenWord_63 : decode cX3_lengthenWord 63 = .ok (.lor, 1) := by decide +kernel
theorem dX3_lengthenWord_64 : decode cX3_lengthenWord 64 = .ok (.lastore, 1) := by decide +kernel
theorem dX3_lengthenWord_65 : decode cX3_lengthenWord 65 = .ok (.return_, 1) := by decide +kernel
theorem dX3_lengthenWord_33 : decode cX3_lengthenWord 33 = .ok (.aload_n 0, 1) := by decide +kernel
theorem dX3_lengthenWord_34 : decode cX3_lengthenWord 34 = .ok (.getfield 32, 3) := by decide +kernel
theorem dX3_lengthenWord_37 : decode cX3_lengthenWord 37 = .ok (.iload_n 2, 1) := by decide +kernel
theorem dX3_lengthenWord_38 : decode cX3_lengthenWord 38 = .ok (.iconst 2, 1) := by decide +kernel
theorem dX3_lengthenWord_39 : decode cX3_lengthenWord 39 = .ok (.iastore, 1) := by decide +kernel
theorem dX3_lengthenWord_40 : decode cX3_lengthenWord 40 = .ok (.goto 25, 3) := by decide +kernel
theorem dX3_lengthenWord_11 : decode cX3_lengthenWord 11 = .ok (.return_, 1) := by decide +kernel
def rm_X3_lengthenWord : Room := { frames := 0, cells := 0, slots := 0, locals := 0 }
set_option maxHeartbeats 4000000 in
set_option maxRecDepth 100000 in
theorem s_X3_lengthenWord (l : Launch) (D : va_G) (cy : Nat → ClassId) (L : List Nat) (R O : Nat → Nat) (f0 : Nat → va_E) (a0 : Nat) (m_a0 : a0 ∈ L) (r_a0 : R a0 = 3) (x1 : Int32) (b1 : 97 ≤ x1.toInt ∧ x1.toInt ≤ 122) (pre0 : TK L R f0 a0) : ∀ sz, Met l yX3_lengthenWord (Cond.code yX3_lengthenWord cX3_lengthenWord 3 none :: wsL_law) rm_X3_lengthenWord (va_Pc [.ref a0, .int x1] (tPZ D cy L R (TT cy L R) f0 sz)) (va_Qv (fun f1 => fr L R [] [30, 31, 60] f0 f1 ∧ TK L R f1 a0) (tB D (tA L sz) L R (TT cy L R)) (tA L sz)) 0 0 (tA L sz) := by
  refine tw_enterv (by decide +kernel) rfl (Nat.le_of_ble_eq_true rfl) ?_
  intro p e s m below meth c A ls args Q F hZ h hl hret
  have hl : lv_has ls 3 [(0, .ref a0), (1, .int x1)] := hl
  have hk : fr L R [] [30, 31, 60] f0 f0 := fr.rf
  have t_a0_tokenCount := h.bfi m_a0 r_a0 (fun e q => (T_3 e).mp q) (k := 8) rfl
  refine lv_aload_n F.1 F.2.1 dX3_lengthenWord_0 rfl (lv_at hl 0 rfl) ?_
  refine g_3_46 F h m_a0 r_a0 dX3_lengthenWord_1 (fun v1 hv1 hv1a hv1b => ?_)
  refine tw_iconst F dX3_lengthenWord_4 ki_1 (fun z2 hz2 => ?_)
  refine tu_isub F dX3_lengthenWord_5 (by omega) (fun z3 hz3 => ?_)
  refine lv_istore_n (lv' := [(2, .int z3), (0, .ref a0), (1, .int x1)]) F.1 F.2.1 dX3_lengthenWord_6 rfl hl (by decide) rfl (fun ls hl => ?_)
  refine lv_iload_n F.1 F.2.1 dX3_lengthenWord_7 rfl (lv_at hl 0 rfl) ?_
  refine tw_if_ge (tgt := 12) F dX3_lengthenWord_8 (by decide) (fun b4 => ?_) (fun b4 => ?_)
  · refine lv_aload_n F.1 F.2.1 dX3_lengthenWord_12 rfl (lv_at hl 1 rfl) ?_
    refine g_3_39 F h m_a0 r_a0 dX3_lengthenWord_13 (fun o5 m_o5 r_o5 ho5 => ?_)
    have hsz0 := ho5
    refine lv_iload_n F.1 F.2.1 dX3_lengthenWord_16 rfl (lv_at hl 0 rfl) ?_
    refine lv_dup2_11 F.1 F.2.1 dX3_lengthenWord_17 rfl rfl ?_
    refine le_60 F h m_o5 r_o5 (by omega) dX3_lengthenWord_18 (fun v6 ev6 => ?_)
    refine tw_iconst F dX3_lengthenWord_19 ki_1 (fun z7 hz7 => ?_)
    refine lv_iadd F.1 F.2.1 dX3_lengthenWord_20 ?_
    refine lv_topi (fun z8 qz8 => ?_)
    refine se_60 F h m_o5 r_o5 (by omega) dX3_lengthenWord_21 (fun f9 H locs e9a e9b hf9 h => ?_)
    have hk : fr L R [] [30, 31, 60] f0 f9 := hk.tr hf9 rfl rfl
    have e10 : fi f9 a0 8 = fi f0 a0 8 := hf9.efi m_a0 r_a0 rfl
    have e11 : fld f9 a0 6 = .ref o5 := (hf9.efl m_a0 r_a0 rfl).trans ho5
    refine lv_aload_n F.1 F.2.1 dX3_lengthenWord_22 rfl (lv_at hl 1 rfl) ?_
    refine g_3_39 F h m_a0 r_a0 dX3_lengthenWord_23 (fun o12 m_o12 r_o12 ho12 => ?_)
    obtain rfl := (fld_inj e11 ho12).symm
    refine lv_iload_n F.1 F.2.1 dX3_lengthenWord_26 rfl (lv_at hl 0 rfl) ?_
    refine le_60 F h m_o5 r_o5 (by omega) dX3_lengthenWord_27 (fun v13 ev13 => ?_)
    refine tw_bipush F dX3_lengthenWord_28 kb_8 (fun z14 hz14 => ?_)
    refine tw_icmp_le (tgt := 43) F dX3_lengthenWord_30 (by decide) (fun b15 => ?_) (fun b15 => ?_)
    · refine lv_aload_n F.1 F.2.1 dX3_lengthenWord_43 rfl (lv_at hl 1 rfl) ?_
      refine g_3_42 F h m_a0 r_a0 dX3_lengthenWord_44 (fun o16 m_o16 r_o16 ho16 => ?_)
      refine lv_iload_n F.1 F.2.1 dX3_lengthenWord_47 rfl (lv_at hl 0 rfl) ?_
      refine lv_aload_n F.1 F.2.1 dX3_lengthenWord_48 rfl (lv_at hl 1 rfl) ?_
      refine g_3_42 F h m_a0 r_a0 dX3_lengthenWord_49 (fun o17 m_o17 r_o17 ho17 => ?_)
      obtain rfl := (fld_inj ho16 ho17).symm
      refine lv_iload_n F.1 F.2.1 dX3_lengthenWord_52 rfl (lv_at hl 0 rfl) ?_
      refine le_31 F h m_o16 r_o16 (by omega) dX3_lengthenWord_53 (fun v18 ev18 => ?_)
      refine tw_iconst F dX3_lengthenWord_54 ki_5 (fun z19 hz19 => ?_)
      refine lv_lshl F.1 F.2.1 dX3_lengthenWord_55 rfl ?_
      refine lv_topl (fun z20 qz20 => ?_)
      refine lv_iload_n F.1 F.2.1 dX3_lengthenWord_56 rfl (lv_at hl 2 rfl) ?_
      refine tw_bipush F dX3_lengthenWord_57 kb_97 (fun z21 hz21 => ?_)
      refine tu_isub F dX3_lengthenWord_59 (by omega) (fun z22 hz22 => ?_)
      refine tw_iconst F dX3_lengthenWord_60 ki_1 (fun z23 hz23 => ?_)
      refine tu_iadd F dX3_lengthenWord_61 (by omega) (fun z24 hz24 => ?_)
      refine tw_i2l F dX3_lengthenWord_62 (fun z25 hz25 => ?_)
      refine lv_lor F.1 F.2.1 dX3_lengthenWord_63 ?_
      refine lv_topl (fun z26 qz26 => ?_)
      refine se_31 F h m_o16 r_o16 (by omega) dX3_lengthenWord_64 (fun f27 H locs e27a e27b hf27 h => ?_)
      have hk : fr L R [] [30, 31, 60] f0 f27 := hk.tr hf27 rfl rfl
      have e28 : fi f27 a0 8 = fi f9 a0 8 := hf27.efi m_a0 r_a0 rfl
      have e29 : fld f27 a0 6 = .ref o5 := (hf27.efl m_a0 r_a0 rfl).trans e11
      have e30 : fld f27 a0 7 = .ref o16 := (hf27.efl m_a0 r_a0 rfl).trans ho16
      obtain ⟨t1, t2, t3, t4, t6, t7, t5⟩ := id pre0
      have n0 : a0 ≠ o16 := ne_r r_a0 r_o16 (by decide)
      have nz : a0 ≠ o5 := ne_r r_a0 r_o5 (by decide)
      have zz : rfa f0 a0 6 = o5 := rfa_of hsz0
      have g4 : rfa f27 a0 4 = rfa f0 a0 4 := by rw [rfa_o e27b n0, rfa_o e9b nz]
      have g7 : rfa f27 a0 7 = rfa f0 a0 7 := by rw [rfa_o e27b n0, rfa_o e9b nz]
      have g6 : rfa f27 a0 6 = rfa f0 a0 6 := by rw [rfa_o e27b n0, rfa_o e9b nz]
      have g8 : fi f27 a0 8 = fi f0 a0 8 := by rw [fi_o e27b n0, fi_o e9b nz]
      have nK : rfa f0 a0 4 ≠ o5 := ne_r t2 r_o5 (by decide)
      have nV : rfa f0 a0 7 ≠ o5 := ne_r t4 r_o5 (by decide)
      have nZ : o5 ≠ o16 := ne_r r_o5 r_o16 (by decide)
      have eZ : ∀ j, eli f27 (rfa f27 a0 6) j = if j = z3.toInt.toNat then z8.toInt else eli f0 (rfa f0 a0 6) j := fun j => by rw [g6, zz, eli_o e27b nZ, e9a]
      have va : rfa f0 a0 7 = o16 := by rw [← g7, rfa_o e27b n0]; exact rfa_of ho16
      have nK2 : rfa f0 a0 4 ≠ o16 := ne_r t2 r_o16 (by decide)
      have eK : ∀ j, eli f27 (rfa f27 a0 4) j = eli f0 (rfa f0 a0 4) j := fun j => by rw [g4, eli_o e27b nK2, eli_o e9b nK]
      have eV : ∀ j, elj f27 (rfa f27 a0 7) j = if j = z3.toInt.toNat then z26.toInt else elj f0 (rfa f0 a0 7) j := fun j => by rw [g7, va, e27a]; rw [va] at nV; rw [elj_o e9b nV]
      have e53 : v18.toInt = elj f0 (rfa f0 a0 7) z3.toInt.toNat := by rw [ev18, va]; rw [va] at nV; exact elj_o e9b nV _
      have e18 : v6.toInt = eli f0 (rfa f0 a0 6) z3.toInt.toNat := by rw [zz]; exact ev6
      have e27 : v13.toInt = z8.toInt := by rw [ev13, e9a, if_pos rfl]
      have hT : TK L R f27 a0 := by
          refine ⟨by rw [g4]; exact t1, by rw [g4]; exact t2, by rw [g7]; exact t3, by rw [g7]; exact t4, by rw [g6]; exact t6, by rw [g6]; exact t7, fun t ht => ?_⟩
          rw [eK, eV, eZ]
          by_cases q : t = z3.toInt.toNat
          · rw [if_pos q, if_pos q]
            intro q1
            have w1 := t5 t (by omega) q1
            rw [q, ← e53, ← e18] at w1
            have w0 := w1
            obtain ⟨p1, p2, p3, p4⟩ := w0
            have a20 : z8.toInt = v6.toInt + 1 := by rw [qz8, tw_add (by omega) (by omega)]; omega
            have w3 := WT_s (x := z25.toInt) w1 (by omega) (by omega) (by omega)
            rw [← a20] at w3
            have w4 := WT_lt w1 (by omega)
            rw [qz26, qz20, tw_shor hz19 (by omega) w4 (by omega) (by omega)]
            exact w3
          · rw [if_neg q, if_neg q]
            exact t5 t (by omega)
      exact hret f27 _ _ _ _ dX3_lengthenWord_65 ⟨hk, hT⟩ h
    · refine lv_aload_n F.1 F.2.1 dX3_lengthenWord_33 rfl (lv_at hl 1 rfl) ?_
      refine g_3_32 F h m_a0 r_a0 dX3_lengthenWord_34 (fun o31 m_o31 r_o31 ho31 => ?_)
      refine lv_iload_n F.1 F.2.1 dX3_lengthenWord_37 rfl (lv_at hl 0 rfl) ?_
      refine tw_iconst F dX3_lengthenWord_38 ki_2 (fun z32 hz32 => ?_)
      refine se_30 F h m_o31 r_o31 (by omega) dX3_lengthenWord_39 (fun f33 H locs e33a e33b hf33 h => ?_)
      have hk : fr L R [] [30, 31, 60] f0 f33 := hk.tr hf33 rfl rfl
      have e34 : fi f33 a0 8 = fi f9 a0 8 := hf33.efi m_a0 r_a0 rfl
      have e35 : fld f33 a0 6 = .ref o5 := (hf33.efl m_a0 r_a0 rfl).trans e11
      have e36 : fld f33 a0 4 = .ref o31 := (hf33.efl m_a0 r_a0 rfl).trans ho31
      refine lv_goto (tgt := 65) F.1 F.2.1 dX3_lengthenWord_40 (by decide) ?_
      obtain ⟨t1, t2, t3, t4, t6, t7, t5⟩ := id pre0
      have n0 : a0 ≠ o31 := ne_r r_a0 r_o31 (by decide)
      have nz : a0 ≠ o5 := ne_r r_a0 r_o5 (by decide)
      have zz : rfa f0 a0 6 = o5 := rfa_of hsz0
      have g4 : rfa f33 a0 4 = rfa f0 a0 4 := by rw [rfa_o e33b n0, rfa_o e9b nz]
      have g7 : rfa f33 a0 7 = rfa f0 a0 7 := by rw [rfa_o e33b n0, rfa_o e9b nz]
      have g6 : rfa f33 a0 6 = rfa f0 a0 6 := by rw [rfa_o e33b n0, rfa_o e9b nz]
      have g8 : fi f33 a0 8 = fi f0 a0 8 := by rw [fi_o e33b n0, fi_o e9b nz]
      have nK : rfa f0 a0 4 ≠ o5 := ne_r t2 r_o5 (by decide)
      have nV : rfa f0 a0 7 ≠ o5 := ne_r t4 r_o5 (by decide)
      have nZ : o5 ≠ o31 := ne_r r_o5 r_o31 (by decide)
      have eZ : ∀ j, eli f33 (rfa f33 a0 6) j = if j = z3.toInt.toNat then z8.toInt else eli f0 (rfa f0 a0 6) j := fun j => by rw [g6, zz, eli_o e33b nZ, e9a]
      have ka : rfa f0 a0 4 = o31 := by rw [← g4, rfa_o e33b n0]; exact rfa_of ho31
      have eK : ∀ j, eli f33 (rfa f33 a0 4) j = if j = z3.toInt.toNat then z32.toInt else eli f0 (rfa f0 a0 4) j := fun j => by rw [g4, ka, e33a]; rw [ka] at nK; rw [eli_o e9b nK]
      have nV2 : rfa f0 a0 7 ≠ o31 := ne_r t4 r_o31 (by decide)
      have eV : ∀ j, elj f33 (rfa f33 a0 7) j = elj f0 (rfa f0 a0 7) j := fun j => by rw [g7, elj_o e33b nV2, elj_o e9b nV]
      have hT : TK L R f33 a0 := by
          refine ⟨by rw [g4]; exact t1, by rw [g4]; exact t2, by rw [g7]; exact t3, by rw [g7]; exact t4, by rw [g6]; exact t6, by rw [g6]; exact t7, fun t ht => ?_⟩
          rw [eK, eV, eZ]
          by_cases q : t = z3.toInt.toNat
          · rw [if_pos q]
            intro q1
            omega
          · rw [if_neg q, if_neg (show ¬ t = z3.toInt.toNat by omega)]
            exact t5 t (by omega)
      exact hret f33 _ _ _ _ dX3_lengthenWord_65 ⟨hk, hT⟩ h
  · exact hret f0 _ _ _ _ dX3_lengthenWord_11 ⟨hk, pre0⟩ h
theorem dX3_openToken_0 : decode cX3_openToken 0 = .ok (.aload_n 0, 1) := by decide +kernel
theorem dX3_openToken_1 : decode cX3_openToken 1 = .ok (.getfield 32, 3) := by decide +kernel
theorem dX3_openToken_4 : decode cX3_openToken 4 = .ok (.aload_n 0, 1) := by decide +kernel
theorem dX3_openToken_5 : decode cX3_openToken 5 = .ok (.getfield 46, 3) := by decide +kernel
theorem dX3_openToken_8 : decode cX3_openToken 8 = .ok (.iload_n 1, 1) := by decide +kernel
theorem dX3_openToken_9 : decode cX3_openToken 9 = .ok (.iastore, 1) := by decide +kernel
theorem dX3_openToken_10 : decode cX3_openToken 10 = .ok (.aload_n 0, 1) := by decide +kernel
theorem dX3_openToken_11 : decode cX3_openToken 11 = .ok (.getfield 36, 3) := by decide +kernel
theorem dX3_openToken_14 : decode cX3_openToken 14 = .ok (.aload_n 0, 1) := by decide +kernel
theorem dX3_openToken_15 : decode cX3_openToken 15 = .ok (.getfield 46, 3) := by decide +kernel
theorem dX3_openToken_18 : decode cX3_openToken 18 = .ok (.iload_n 2, 1) := by decide +kernel
theorem dX3_openToken_19 : decode cX3_openToken 19 = .ok (.iastore, 1) := by decide +kernel
section
variable {p : Program} {l : Launch} {e : Env} {R0 : Room} {s : State} {m : MethodId} {args : Array Value} {below : List Frame} {meth : Method} {c : Code} {H H0 : Heap} {locs : List Loc} {cells slots : Nat} {Q : State → Prop} {cc : ByteArray} {nL : Nat} {D : va_G} {cy : Nat → ClassId} {A : Nat → Prop} {L : List Nat} {R : Nat → Nat} {f : Nat → va_E} {pc : Nat} {ls : Array Slot} {rest : List Value} {a : Nat}
theorem se_59 {own : String} (F : CallFix p m c cc nL s args wsL_law own) (h : tS D cy A H0 L R (TT cy L R) f s H locs) {i : Int32} {x : Int32} (ha : a ∈ L) (hr : R a = 59) (hb : 0 ≤ i.toInt ∧ i.toInt < 601) (hdg : decode cc pc = .ok (.iastore, 1)) (kk : ∀ (f1 : Nat → va_E) (H1 : Heap) (locs1 : List Loc), (∀ j, eli f1 a j = if j = i.toInt.toNat then x.toInt else eli f a j) → (∀ a', a' ≠ a → f1 a' = f a') → fr L R [] [59] f f1 → tS D cy A H0 L R (TT cy L R) f1 s H1 locs1 → W p l e R0 s m args below meth c H1 locs1 cells slots Q (F0 m (pc + 1) ls (rest))) : W p l e R0 s m args below meth c H locs cells slots Q (F0 m pc ls (.int x :: .int i :: .ref a :: rest)) := tu_iast F h ha hr T_59 hb.1 hb.2 trivial hdg (fun f1 H1 locs1 h1 h2 h3 h4 => kk f1 H1 locs1 h1 h2 h3 h4)
end
theorem dX3_openToken_20 : decode cX3_openToken 20 = .ok (.aload_n 0, 1) := by decide +kernel
theorem dX3_openToken_21 : decode cX3_openToken 21 = .ok (.getfield 39, 3) := by decide +kernel
theorem dX3_openToken_24 : decode cX3_openToken 24 = .ok (.aload_n 0, 1) := by decide +kernel
theorem dX3_openToken_25 : decode cX3_openToken 25 = .ok (.getfield 46, 3) := by decide +kernel
theorem dX3_openToken_28 : decode cX3_openToken 28 = .ok (.iconst 1, 1) := by decide +kernel
theorem dX3_openToken_29 : decode cX3_openToken 29 = .ok (.iastore, 1) := by decide +kernel
theorem dX3_openToken_30 : decode cX3_openToken 30 = .ok (.aload_n 0, 1) := by decide +kernel
theorem dX3_openToken_31 : decode cX3_openToken 31 = .ok (.getfield 42, 3) := by decide +kernel
theorem dX3_openToken_34 : decode cX3_openToken 34 = .ok (.aload_n 0, 1) := by decide +kernel
theorem dX3_openToken_35 : decode cX3_openToken 35 = .ok (.getfield 46, 3) := by decide +kernel
theorem dX3_openToken_38 : decode cX3_openToken 38 = .ok (.iload_n 1, 1) := by decide +kernel
theorem dX3_openToken_39 : decode cX3_openToken 39 = .ok (.iconst 1, 1) := by decide +kernel
theorem dX3_openToken_58 : decode cX3_openToken 58 = .ok (.lastore, 1) := by decide +kernel
theorem dX3_openToken_59 : decode cX3_openToken 59 = .ok (.aload_n 0, 1) := by decide +kernel
theorem dX3_openToken_60 : decode cX3_openToken 60 = .ok (.dup, 1) := by decide +kernel
theorem dX3_openToken_61 : decode cX3_openToken 61 = .ok (.getfield 46, 3) := by decide +kernel
theorem dX3_openToken_64 : decode cX3_openToken 64 = .ok (.iconst 1, 1) := by decide +kernel
theorem dX3_openToken_65 : decode cX3_openToken 65 = .ok (.iadd, 1) := by decide +kernel
theorem dX3_openToken_66 : decode cX3_openToken 66 = .ok (.putfield 46, 3) := by decide +kernel
section
variable {p : Program} {l : Launch} {e : Env} {R0 : Room} {s : State} {m : MethodId} {args : Array Value} {below : List Frame} {meth : Method} {c : Code} {H H0 : Heap} {locs : List Loc} {cells slots : Nat} {Q : State → Prop} {cc : ByteArray} {nL : Nat} {D : va_G} {cy : Nat → ClassId} {A : Nat → Prop} {L : List Nat} {R : Nat → Nat} {f : Nat → va_E} {pc : Nat} {ls : Array Slot} {rest : List Value} {a : Nat}
theorem pe_3_46 (F : CallFix p m c cc nL s args wsL_law RX3) (h : tS D cy A H0 L R (TT cy L R) f s H locs) {x : Int32} (ha : a ∈ L) (hr : R a = 3) (hv : 0 ≤ x.toInt ∧ x.toInt ≤ 600) (hdg : decode cc pc = .ok (.putfield 46, 3)) (kk : ∀ (f1 : Nat → va_E) (H1 : Heap) (locs1 : List Loc), fld f1 a 8 = .int x → (∀ a', a' ≠ a → f1 a' = f a') → fr L R [(3, 8)] [3] f f1 → tS D cy A H0 L R (TT cy L R) f1 s H1 locs1 → W p l e R0 s m args below meth c H1 locs1 cells slots Q (F0 m (pc + 3) ls (rest))) : W p l e R0 s m args below meth c H locs cells slots Q (F0 m pc ls (.int x :: .ref a :: rest)) := tu_putiE (k := 8) F h ha hr T_3 rfl hv.1 hv.2 inlX3 tyX3_ok nmX3 rfl (Nat.le_of_ble_eq_true rfl) mw_66 rfl rfl rfl hdg kk
end
theorem dX3_openToken_69 : decode cX3_openToken 69 = .ok (.return_, 1) := by decide +kernel
theorem dX3_openToken_40 : decode cX3_openToken 40 = .ok (.if_icmp .ne 13, 3) := by decide +kernel
theorem dX3_openToken_53 : decode cX3_openToken 53 = .ok (.iload_n 3, 1) := by decide +kernel
theorem dX3_openToken_54 : decode cX3_openToken 54 = .ok (.bipush 48, 2) := by decide +kernel
theorem dX3_openToken_56 : decode cX3_openToken 56 = .ok (.isub, 1) := by decide +kernel
theorem dX3_openToken_57 : decode cX3_openToken 57 = .ok (.i2l, 1) := by decide +kernel
theorem dX3_openToken_43 : decode cX3_openToken 43 = .ok (.iload_n 3, 1) := by decide +kernel
theorem dX3_openToken_44 : decode cX3_openToken 44 = .ok (.bipush 97, 2) := by decide +kernel
theorem dX3_openToken_46 : decode cX3_openToken 46 = .ok (.isub, 1) := by decide +kernel
theorem dX3_openToken_47 : decode cX3_openToken 47 = .ok (.iconst 1, 1) := by decide +kernel
theorem dX3_openToken_48 : decode cX3_openToken 48 = .ok (.iadd, 1) := by decide +kernel
theorem dX3_openToken_49 : decode cX3_openToken 49 = .ok (.i2l, 1) := by decide +kernel
theorem dX3_openToken_50 : decode cX3_openToken 50 = .ok (.goto 8, 3) := by decide +kernel
def rm_X3_openToken : Room := { frames := 0, cells := 0, slots := 0, locals := 0 }
set_option maxHeartbeats 4000000 in
set_option maxRecDepth 100000 in
theorem s_X3_openToken (l : Launch) (D : va_G) (cy : Nat → ClassId) (L : List Nat) (R O : Nat → Nat) (f0 : Nat → va_E) (a0 : Nat) (m_a0 : a0 ∈ L) (r_a0 : R a0 = 3) (x1 : Int32) (b1 : 1 ≤ x1.toInt ∧ x1.toInt ≤ 7) (x2 : Int32) (b2 : 0 ≤ x2.toInt ∧ x2.toInt ≤ 599) (x3 : Int32) (pre0 : fi f0 a0 8 ≤ 599) (pre1 : TK L R f0 a0) (pre2 : (x1.toInt = 1 → 97 ≤ x3.toInt ∧ x3.toInt ≤ 122)) : ∀ sz, Met l yX3_openToken (Cond.code yX3_openToken cX3_openToken 4 none :: wsL_law) rm_X3_openToken (va_Pc [.ref a0, .int x1, .int x2, .int x3] (tPZ D cy L R (TT cy L R) f0 sz)) (va_Qv (fun f1 => fr L R [(3, 8)] [3, 30, 31, 59, 60] f0 f1 ∧ TK L R f1 a0 ∧ (x1.toInt ≠ 1 → eli f1 (rfa f1 a0 4) (fi f0 a0 8).toNat ≠ 1) ∧ fi f1 a0 8 = fi f0 a0 8 + 1) (tB D (tA L sz) L R (TT cy L R)) (tA L sz)) 0 0 (tA L sz) := by
  refine tw_enterv (by decide +kernel) rfl (Nat.le_of_ble_eq_true rfl) ?_
  intro p e s m below meth c A ls args Q F hZ h hl hret
  have hl : lv_has ls 4 [(0, .ref a0), (1, .int x1), (2, .int x2), (3, .int x3)] := hl
  have hk : fr L R [(3, 8)] [3, 30, 31, 59, 60] f0 f0 := fr.rf
  have t_a0_tokenCount := h.bfi m_a0 r_a0 (fun e q => (T_3 e).mp q) (k := 8) rfl
  refine lv_aload_n F.1 F.2.1 dX3_openToken_0 rfl (lv_at hl 0 rfl) ?_
  refine g_3_32 F h m_a0 r_a0 dX3_openToken_1 (fun o1 m_o1 r_o1 ho1 => ?_)
  refine lv_aload_n F.1 F.2.1 dX3_openToken_4 rfl (lv_at hl 0 rfl) ?_
  refine g_3_46 F h m_a0 r_a0 dX3_openToken_5 (fun v2 hv2 hv2a hv2b => ?_)
  refine lv_iload_n F.1 F.2.1 dX3_openToken_8 rfl (lv_at hl 1 rfl) ?_
  refine se_30 F h m_o1 r_o1 (by omega) dX3_openToken_9 (fun f3 H locs e3a e3b hf3 h => ?_)
  have hk : fr L R [(3, 8)] [3, 30, 31, 59, 60] f0 f3 := hk.tr hf3 rfl rfl
  have e4 : fi f3 a0 8 = fi f0 a0 8 := hf3.efi m_a0 r_a0 rfl
  refine lv_aload_n F.1 F.2.1 dX3_openToken_10 rfl (lv_at hl 0 rfl) ?_
  refine g_3_36 F h m_a0 r_a0 dX3_openToken_11 (fun o5 m_o5 r_o5 ho5 => ?_)
  refine lv_aload_n F.1 F.2.1 dX3_openToken_14 rfl (lv_at hl 0 rfl) ?_
  refine g_3_46 F h m_a0 r_a0 dX3_openToken_15 (fun v6 hv6 hv6a hv6b => ?_)
  refine lv_iload_n F.1 F.2.1 dX3_openToken_18 rfl (lv_at hl 2 rfl) ?_
  refine se_59 F h m_o5 r_o5 (by omega) dX3_openToken_19 (fun f7 H locs e7a e7b hf7 h => ?_)
  have hk : fr L R [(3, 8)] [3, 30, 31, 59, 60] f0 f7 := hk.tr hf7 rfl rfl
  have e8 : fi f7 a0 8 = fi f3 a0 8 := hf7.efi m_a0 r_a0 rfl
  refine lv_aload_n F.1 F.2.1 dX3_openToken_20 rfl (lv_at hl 0 rfl) ?_
  refine g_3_39 F h m_a0 r_a0 dX3_openToken_21 (fun o9 m_o9 r_o9 ho9 => ?_)
  refine lv_aload_n F.1 F.2.1 dX3_openToken_24 rfl (lv_at hl 0 rfl) ?_
  refine g_3_46 F h m_a0 r_a0 dX3_openToken_25 (fun v10 hv10 hv10a hv10b => ?_)
  refine tw_iconst F dX3_openToken_28 ki_1 (fun z11 hz11 => ?_)
  refine se_60 F h m_o9 r_o9 (by omega) dX3_openToken_29 (fun f12 H locs e12a e12b hf12 h => ?_)
  have hk : fr L R [(3, 8)] [3, 30, 31, 59, 60] f0 f12 := hk.tr hf12 rfl rfl
  have e13 : fi f12 a0 8 = fi f7 a0 8 := hf12.efi m_a0 r_a0 rfl
  refine lv_aload_n F.1 F.2.1 dX3_openToken_30 rfl (lv_at hl 0 rfl) ?_
  refine g_3_42 F h m_a0 r_a0 dX3_openToken_31 (fun o14 m_o14 r_o14 ho14 => ?_)
  refine lv_aload_n F.1 F.2.1 dX3_openToken_34 rfl (lv_at hl 0 rfl) ?_
  refine g_3_46 F h m_a0 r_a0 dX3_openToken_35 (fun v15 hv15 hv15a hv15b => ?_)
  refine lv_iload_n F.1 F.2.1 dX3_openToken_38 rfl (lv_at hl 1 rfl) ?_
  refine tw_iconst F dX3_openToken_39 ki_1 (fun z16 hz16 => ?_)
  have j_58 : ∀ (ls : Array Slot) (y0_58 : Int64), (-2147483648) ≤ y0_58.toInt → y0_58.toInt ≤ 2147483647 → (x1.toInt = 1 → (1 ≤ y0_58.toInt ∧ y0_58.toInt ≤ 26)) → lv_has ls 4 [(0, .ref a0)] → W p l e rm_X3_openToken s m args below meth c H locs 0 0 Q (F0 m 58 ls [.long y0_58, .int v15, .ref o14]) := by
    intro ls y0_58 b17 b18 b19 hl
    refine se_31 F h m_o14 r_o14 (by omega) dX3_openToken_58 (fun f20 H locs e20a e20b hf20 h => ?_)
    have hk : fr L R [(3, 8)] [3, 30, 31, 59, 60] f0 f20 := hk.tr hf20 rfl rfl
    have e21 : fi f20 a0 8 = fi f12 a0 8 := hf20.efi m_a0 r_a0 rfl
    refine lv_aload_n F.1 F.2.1 dX3_openToken_59 rfl (lv_at hl 0 rfl) ?_
    refine lv_dup F.1 F.2.1 dX3_openToken_60 rfl ?_
    refine g_3_46 F h m_a0 r_a0 dX3_openToken_61 (fun v22 hv22 hv22a hv22b => ?_)
    refine tw_iconst F dX3_openToken_64 ki_1 (fun z23 hz23 => ?_)
    refine tu_iadd F dX3_openToken_65 (by omega) (fun z24 hz24 => ?_)
    refine pe_3_46 F h m_a0 r_a0 (by omega) dX3_openToken_66 (fun f25 H locs e25pq e25po hf25 h => ?_)
    have e25p : fi f25 a0 8 = z24.toInt := by unfold fi; rw [e25pq]; rfl
    have hk : fr L R [(3, 8)] [3, 30, 31, 59, 60] f0 f25 := hk.tr hf25 rfl rfl
    have kK : rfa f25 a0 4 = o1 := by rw [hf25.erf m_a0 r_a0 (by decide +kernel), hf20.erf m_a0 r_a0 (by decide +kernel), hf12.erf m_a0 r_a0 (by decide +kernel), hf7.erf m_a0 r_a0 (by decide +kernel), hf3.erf m_a0 r_a0 (by decide +kernel)]; exact rfa_of ho1
    have kV : rfa f25 a0 7 = o14 := by rw [hf25.erf m_a0 r_a0 (by decide +kernel), hf20.erf m_a0 r_a0 (by decide +kernel)]; exact rfa_of ho14
    have kZ : rfa f25 a0 6 = o9 := by rw [hf25.erf m_a0 r_a0 (by decide +kernel), hf20.erf m_a0 r_a0 (by decide +kernel), hf12.erf m_a0 r_a0 (by decide +kernel)]; exact rfa_of ho9
    have kV0 : rfa f0 a0 7 = o14 := by rw [← kV, hf25.erf m_a0 r_a0 (by decide +kernel), hf20.erf m_a0 r_a0 (by decide +kernel), hf12.erf m_a0 r_a0 (by decide +kernel), hf7.erf m_a0 r_a0 (by decide +kernel), hf3.erf m_a0 r_a0 (by decide +kernel)]
    have kZ0 : rfa f0 a0 6 = o9 := by rw [← kZ, hf25.erf m_a0 r_a0 (by decide +kernel), hf20.erf m_a0 r_a0 (by decide +kernel), hf12.erf m_a0 r_a0 (by decide +kernel), hf7.erf m_a0 r_a0 (by decide +kernel), hf3.erf m_a0 r_a0 (by decide +kernel)]
    have kK0 : rfa f0 a0 4 = o1 := rfa_of ho1
    have eK : ∀ t, eli f25 o1 t = if t = v2.toInt.toNat then x1.toInt else eli f0 o1 t := fun t => by rw [hf25.eeli m_o1 r_o1 (by decide +kernel), hf20.eeli m_o1 r_o1 (by decide +kernel), hf12.eeli m_o1 r_o1 (by decide +kernel), hf7.eeli m_o1 r_o1 (by decide +kernel)]; exact e3a t
    have eZ : ∀ t, eli f25 o9 t = if t = v10.toInt.toNat then z11.toInt else eli f0 o9 t := fun t => by rw [hf25.eeli m_o9 r_o9 (by decide +kernel), hf20.eeli m_o9 r_o9 (by decide +kernel), e12a t, hf7.eeli m_o9 r_o9 (by decide +kernel), hf3.eeli m_o9 r_o9 (by decide +kernel)]
    have eV : ∀ t, elj f25 o14 t = if t = v15.toInt.toNat then y0_58.toInt else elj f0 o14 t := fun t => by rw [hf25.eelj m_o14 r_o14 (by decide +kernel), e20a t, hf12.eelj m_o14 r_o14 (by decide +kernel), hf7.eelj m_o14 r_o14 (by decide +kernel), hf3.eelj m_o14 r_o14 (by decide +kernel)]
    have hT : TK L R f25 a0 := by
        obtain ⟨t1, t2, t3, t4, t6, t7, t5⟩ := id pre1
        unfold TK
        rw [kK, kV, kZ]
        rw [kK0, kV0, kZ0] at t5
        refine ⟨m_o1, r_o1, m_o14, r_o14, m_o9, r_o9, fun t ht => ?_⟩
        rw [eK, eV, eZ]
        by_cases q : t = v2.toInt.toNat
        · rw [if_pos q, if_pos (show t = v15.toInt.toNat by omega), if_pos (show t = v10.toInt.toNat by omega), show z11.toInt = 1 by omega]
          intro q1
          exact WT_1 (by omega) (by omega)
        · rw [if_neg q, if_neg (show ¬ t = v15.toInt.toNat by omega), if_neg (show ¬ t = v10.toInt.toNat by omega)]
          exact t5 t (by omega)
    have hL : x1.toInt ≠ 1 → eli f25 (rfa f25 a0 4) (fi f0 a0 8).toNat ≠ 1 := fun q => by rw [kK, eK, if_pos (by omega)]; exact q
    exact hret f25 _ _ _ _ dX3_openToken_69 ⟨hk, hT, hL, by omega⟩ h
  refine tw_icmp_ne (tgt := 53) F dX3_openToken_40 (by decide) (fun b26 => ?_) (fun b26 => ?_)
  · refine lv_iload_n F.1 F.2.1 dX3_openToken_53 rfl (lv_at hl 3 rfl) ?_
    refine tw_bipush F dX3_openToken_54 kb_48 (fun z27 hz27 => ?_)
    refine lv_isub F.1 F.2.1 dX3_openToken_56 ?_
    refine lv_topi (fun z28 _ => ?_)
    refine tu_i2l F dX3_openToken_57 (fun z29 hz29 hz29a hz29b => ?_)
    exact j_58 _ z29 (by omega) (by omega) (by omega) (lv_sub hl [0] rfl)
  · refine lv_iload_n F.1 F.2.1 dX3_openToken_43 rfl (lv_at hl 3 rfl) ?_
    refine tw_bipush F dX3_openToken_44 kb_97 (fun z30 hz30 => ?_)
    refine tu_isub F dX3_openToken_46 (by omega) (fun z31 hz31 => ?_)
    refine tw_iconst F dX3_openToken_47 ki_1 (fun z32 hz32 => ?_)
    refine tu_iadd F dX3_openToken_48 (by omega) (fun z33 hz33 => ?_)
    refine tu_i2l F dX3_openToken_49 (fun z34 hz34 hz34a hz34b => ?_)
    refine lv_goto (tgt := 58) F.1 F.2.1 dX3_openToken_50 (by decide) ?_
    exact j_58 _ z34 (by omega) (by omega) (by omega) (lv_sub hl [0] rfl)
theorem dX3_cut_0 : decode cX3_cut 0 = .ok (.bipush 8, 2) := by decide +kernel
theorem dX3_cut_2 : decode cX3_cut 2 = .ok (.istore_n 3, 1) := by decide +kernel
theorem dX3_cut_3 : decode cX3_cut 3 = .ok (.aload_n 0, 1) := by decide +kernel
theorem dX3_cut_4 : decode cX3_cut 4 = .ok (.iconst 0, 1) := by decide +kernel
theorem dX3_cut_5 : decode cX3_cut 5 = .ok (.putfield 46, 3) := by decide +kernel
theorem dX3_cut_8 : decode cX3_cut 8 = .ok (.iconst 0, 1) := by decide +kernel
theorem dX3_cut_9 : decode cX3_cut 9 = .ok (.istore 4, 2) := by decide +kernel
theorem dX3_cut_11 : decode cX3_cut 11 = .ok (.iload 4, 2) := by decide +kernel
theorem dX3_cut_13 : decode cX3_cut 13 = .ok (.iload_n 2, 1) := by decide +kernel
theorem dX3_cut_117 : decode cX3_cut 117 = .ok (.aload_n 0, 1) := by decide +kernel
theorem dX3_cut_118 : decode cX3_cut 118 = .ok (.getfield 32, 3) := by decide +kernel
theorem dX3_cut_121 : decode cX3_cut 121 = .ok (.aload_n 0, 1) := by decide +kernel
theorem dX3_cut_122 : decode cX3_cut 122 = .ok (.getfield 46, 3) := by decide +kernel
theorem dX3_cut_125 : decode cX3_cut 125 = .ok (.iconst 0, 1) := by decide +kernel
theorem dX3_cut_126 : decode cX3_cut 126 = .ok (.iastore, 1) := by decide +kernel
theorem dX3_cut_127 : decode cX3_cut 127 = .ok (.aload_n 0, 1) := by decide +kernel
theorem dX3_cut_128 : decode cX3_cut 128 = .ok (.getfield 36, 3) := by decide +kernel
theorem dX3_cut_131 : decode cX3_cut 131 = .ok (.aload_n 0, 1) := by decide +kernel
theorem dX3_cut_132 : decode cX3_cut 132 = .ok (.getfield 46, 3) := by decide +kernel
theorem dX3_cut_135 : decode cX3_cut 135 = .ok (.iload_n 2, 1) := by decide +kernel
theorem dX3_cut_136 : decode cX3_cut 136 = .ok (.iastore, 1) := by decide +kernel
section
variable {p : Program} {l : Launch} {e : Env} {R0 : Room} {s : State} {m : MethodId} {args : Array Value} {below : List Frame} {meth : Method} {c : Code} {H H0 : Heap} {locs : List Loc} {cells slots : Nat} {Q : State → Prop} {cc : ByteArray} {nL : Nat} {D : va_G} {cy : Nat → ClassId} {A : Nat → Prop} {L : List Nat} {R : Nat → Nat} {f : Nat → va_E} {pc : Nat} {ls : Array Slot} {rest : List Value} {a : Nat}
theorem st_59 {own : String} (F : CallFix p m c cc nL s args wsL_law own) (h : tS D cy A H0 L R (TT cy L R) f s H locs) {i : Int32} {x : Int32} (ha : a ∈ L) (hr : R a = 59) (hb : 0 ≤ i.toInt ∧ i.toInt < 601) (hdg : decode cc pc = .ok (.iastore, 1)) (kk : ∀ (f1 : Nat → va_E) (H1 : Heap) (locs1 : List Loc), fr L R [] [59] f f1 → tS D cy A H0 L R (TT cy L R) f1 s H1 locs1 → W p l e R0 s m args below meth c H1 locs1 cells slots Q (F0 m (pc + 1) ls (rest))) : W p l e R0 s m args below meth c H locs cells slots Q (F0 m pc ls (.int x :: .int i :: .ref a :: rest)) := tu_iast F h ha hr T_59 hb.1 hb.2 trivial hdg (fun f1 H1 locs1 h1 h2 h3 h4 => kk f1 H1 locs1 h3 h4)
end
theorem dX3_cut_137 : decode cX3_cut 137 = .ok (.return_, 1) := by decide +kernel
theorem dX3_cut_14 : decode cX3_cut 14 = .ok (.if_icmp .ge 103, 3) := by decide +kernel
theorem dX3_cut_17 : decode cX3_cut 17 = .ok (.iload 4, 2) := by decide +kernel
theorem dX3_cut_19 : decode cX3_cut 19 = .ok (.aload_n 1, 1) := by decide +kernel
theorem dX3_cut_20 : decode cX3_cut 20 = .ok (.arraylength, 1) := by decide +kernel
theorem dX3_cut_21 : decode cX3_cut 21 = .ok (.if_icmp .ge 96, 3) := by decide +kernel
theorem dX3_cut_24 : decode cX3_cut 24 = .ok (.aload_n 0, 1) := by decide +kernel
theorem dX3_cut_25 : decode cX3_cut 25 = .ok (.getfield 46, 3) := by decide +kernel
theorem dX3_cut_28 : decode cX3_cut 28 = .ok (.sipush 600, 3) := by decide +kernel
theorem dX3_cut_31 : decode cX3_cut 31 = .ok (.if_icmp .ge 86, 3) := by decide +kernel
theorem dX3_cut_34 : decode cX3_cut 34 = .ok (.aload_n 1, 1) := by decide +kernel
theorem dX3_cut_35 : decode cX3_cut 35 = .ok (.iload 4, 2) := by decide +kernel
theorem dX3_cut_37 : decode cX3_cut 37 = .ok (.baload, 1) := by decide +kernel
section
variable {p : Program} {l : Launch} {e : Env} {R0 : Room} {s : State} {m : MethodId} {args : Array Value} {below : List Frame} {meth : Method} {c : Code} {H H0 : Heap} {locs : List Loc} {cells slots : Nat} {Q : State → Prop} {cc : ByteArray} {nL : Nat} {D : va_G} {cy : Nat → ClassId} {A : Nat → Prop} {L : List Nat} {R : Nat → Nat} {f : Nat → va_E} {pc : Nat} {ls : Array Slot} {rest : List Value} {a : Nat}
theorem le_56 {own : String} (F : CallFix p m c cc nL s args wsL_law own) (h : tS D cy A H0 L R (TT cy L R) f s H locs) {i : Int32} (ha : a ∈ L) (hr : R a = 56) (hb : 0 ≤ i.toInt ∧ i.toInt < 600) (hdg : decode cc pc = .ok (.baload, 1)) (kk : ∀ x : Int32, x.toInt = eli f a i.toInt.toNat → W p l e R0 s m args below meth c H locs cells slots Q (F0 m (pc + 1) ls (.int x :: rest))) : W p l e R0 s m args below meth c H locs cells slots Q (F0 m pc ls (.int i :: .ref a :: rest)) := tu_bald F h ha hr (fun e q => (T_56 e).mp q) hb.1 hb.2 hdg (fun x h1 h2 => kk x h2)
end
theorem dX3_cut_38 : decode cX3_cut 38 = .ok (.invokestatic 128, 3) := by decide +kernel
theorem mw_395 : Cond.methodLink RX3 128 yX3_kindOf ∈ wsL_law := inr_17 _ (List.mem_of_getElem? (i := 11) rfl)
theorem mw_397 : Cond.code yX3_kindOf cX3_kindOf 1 (some .int) ∈ wsL_law := inr_17 _ (List.mem_of_getElem? (i := 13) rfl)
theorem yk_X3_kindOf : xY yX3_kindOf RX3 cX3_kindOf 1 (some .int) 1 := ⟨⟨rfl, by decide +kernel, by decide +kernel, by decide +kernel⟩, mw_19, mw_397⟩
theorem mw_396 : Cond.static yX3_kindOf ∈ wsL_law := inr_17 _ (List.mem_of_getElem? (i := 12) rfl)
theorem dX3_cut_41 : decode cX3_cut 41 = .ok (.istore 5, 2) := by decide +kernel
theorem dX3_cut_43 : decode cX3_cut 43 = .ok (.iload 5, 2) := by decide +kernel
theorem dX3_cut_45 : decode cX3_cut 45 = .ok (.iload_n 3, 1) := by decide +kernel
theorem dX3_cut_108 : decode cX3_cut 108 = .ok (.iload 5, 2) := by decide +kernel
theorem dX3_cut_110 : decode cX3_cut 110 = .ok (.istore_n 3, 1) := by decide +kernel
theorem dX3_cut_111 : decode cX3_cut 111 = .ok (.iinc 4 1, 3) := by decide +kernel
theorem dX3_cut_114 : decode cX3_cut 114 = .ok (.goto (-103), 3) := by decide +kernel
theorem dX3_cut_66 : decode cX3_cut 66 = .ok (.iload 5, 2) := by decide +kernel
theorem dX3_cut_68 : decode cX3_cut 68 = .ok (.iload_n 3, 1) := by decide +kernel
theorem dX3_cut_89 : decode cX3_cut 89 = .ok (.iload 5, 2) := by decide +kernel
theorem dX3_cut_91 : decode cX3_cut 91 = .ok (.bipush 8, 2) := by decide +kernel
theorem dX3_cut_93 : decode cX3_cut 93 = .ok (.if_icmp .eq 15, 3) := by decide +kernel
theorem dX3_cut_96 : decode cX3_cut 96 = .ok (.aload_n 0, 1) := by decide +kernel
theorem dX3_cut_97 : decode cX3_cut 97 = .ok (.iload 5, 2) := by decide +kernel
theorem dX3_cut_99 : decode cX3_cut 99 = .ok (.iload 4, 2) := by decide +kernel
theorem dX3_cut_101 : decode cX3_cut 101 = .ok (.aload_n 1, 1) := by decide +kernel
theorem dX3_cut_102 : decode cX3_cut 102 = .ok (.iload 4, 2) := by decide +kernel
theorem dX3_cut_104 : decode cX3_cut 104 = .ok (.baload, 1) := by decide +kernel
theorem dX3_cut_105 : decode cX3_cut 105 = .ok (.invokevirtual 139, 3) := by decide +kernel
theorem mw_408 : Cond.methodLink RX3 139 yX3_openToken ∈ wsL_law := inr_18 _ (List.mem_of_getElem? (i := 0) rfl)
theorem mw_411 : Cond.code yX3_openToken cX3_openToken 4 none ∈ wsL_law := inr_18 _ (List.mem_of_getElem? (i := 3) rfl)
theorem yk_X3_openToken : xY yX3_openToken RX3 cX3_openToken 4 none 3 := ⟨⟨rfl, by decide +kernel, by decide +kernel, by decide +kernel⟩, mw_19, mw_411⟩
theorem mw_409 : Cond.instanceMethod yX3_openToken ∈ wsL_law := inr_18 _ (List.mem_of_getElem? (i := 1) rfl)
theorem mw_410 : Cond.selects RX3 yX3_openToken yX3_openToken ∈ wsL_law := inr_18 _ (List.mem_of_getElem? (i := 2) rfl)
theorem dX3_cut_69 : decode cX3_cut 69 = .ok (.if_icmp .ne 20, 3) := by decide +kernel
theorem dX3_cut_72 : decode cX3_cut 72 = .ok (.iload 5, 2) := by decide +kernel
theorem dX3_cut_74 : decode cX3_cut 74 = .ok (.iconst 3, 1) := by decide +kernel
theorem dX3_cut_75 : decode cX3_cut 75 = .ok (.if_icmp .ne 14, 3) := by decide +kernel
theorem dX3_cut_78 : decode cX3_cut 78 = .ok (.aload_n 0, 1) := by decide +kernel
theorem dX3_cut_79 : decode cX3_cut 79 = .ok (.aload_n 1, 1) := by decide +kernel
theorem dX3_cut_80 : decode cX3_cut 80 = .ok (.iload 4, 2) := by decide +kernel
theorem dX3_cut_82 : decode cX3_cut 82 = .ok (.baload, 1) := by decide +kernel
theorem dX3_cut_83 : decode cX3_cut 83 = .ok (.invokevirtual 136, 3) := by decide +kernel
theorem mw_402 : Cond.methodLink RX3 136 yX3_lengthenNumber ∈ wsL_law := inr_17 _ (List.mem_of_getElem? (i := 18) rfl)
theorem mw_405 : Cond.code yX3_lengthenNumber cX3_lengthenNumber 3 none ∈ wsL_law := inr_17 _ (List.mem_of_getElem? (i := 21) rfl)
theorem yk_X3_lengthenNumber : xY yX3_lengthenNumber RX3 cX3_lengthenNumber 3 none 1 := ⟨⟨rfl, by decide +kernel, by decide +kernel, by decide +kernel⟩, mw_19, mw_405⟩
theorem mw_403 : Cond.instanceMethod yX3_lengthenNumber ∈ wsL_law := inr_17 _ (List.mem_of_getElem? (i := 19) rfl)
theorem mw_404 : Cond.selects RX3 yX3_lengthenNumber yX3_lengthenNumber ∈ wsL_law := inr_17 _ (List.mem_of_getElem? (i := 20) rfl)
theorem dX3_cut_86 : decode cX3_cut 86 = .ok (.goto 22, 3) := by decide +kernel
theorem dX3_cut_46 : decode cX3_cut 46 = .ok (.if_icmp .ne 20, 3) := by decide +kernel
theorem dX3_cut_49 : decode cX3_cut 49 = .ok (.iload 5, 2) := by decide +kernel
theorem dX3_cut_51 : decode cX3_cut 51 = .ok (.iconst 1, 1) := by decide +kernel
theorem dX3_cut_52 : decode cX3_cut 52 = .ok (.if_icmp .ne 14, 3) := by decide +kernel
theorem dX3_cut_55 : decode cX3_cut 55 = .ok (.aload_n 0, 1) := by decide +kernel
theorem dX3_cut_56 : decode cX3_cut 56 = .ok (.aload_n 1, 1) := by decide +kernel
theorem dX3_cut_57 : decode cX3_cut 57 = .ok (.iload 4, 2) := by decide +kernel
theorem dX3_cut_59 : decode cX3_cut 59 = .ok (.baload, 1) := by decide +kernel
theorem dX3_cut_60 : decode cX3_cut 60 = .ok (.invokevirtual 132, 3) := by decide +kernel
theorem mw_398 : Cond.methodLink RX3 132 yX3_lengthenWord ∈ wsL_law := inr_17 _ (List.mem_of_getElem? (i := 14) rfl)
theorem mw_401 : Cond.code yX3_lengthenWord cX3_lengthenWord 3 none ∈ wsL_law := inr_17 _ (List.mem_of_getElem? (i := 17) rfl)
theorem yk_X3_lengthenWord : xY yX3_lengthenWord RX3 cX3_lengthenWord 3 none 1 := ⟨⟨rfl, by decide +kernel, by decide +kernel, by decide +kernel⟩, mw_19, mw_401⟩
theorem mw_399 : Cond.instanceMethod yX3_lengthenWord ∈ wsL_law := inr_17 _ (List.mem_of_getElem? (i := 15) rfl)
theorem mw_400 : Cond.selects RX3 yX3_lengthenWord yX3_lengthenWord ∈ wsL_law := inr_17 _ (List.mem_of_getElem? (i := 16) rfl)
theorem dX3_cut_63 : decode cX3_cut 63 = .ok (.goto 45, 3) := by decide +kernel
def rm_X3_cut : Room := { frames := 1, cells := 0, slots := 0, locals := 23 }
set_option maxHeartbeats 4000000 in
set_option maxRecDepth 100000 in
theorem s_X3_cut (l : Launch) (D : va_G) (cy : Nat → ClassId) (L : List Nat) (R O : Nat → Nat) (f0 : Nat → va_E) (a0 : Nat) (m_a0 : a0 ∈ L) (r_a0 : R a0 = 3) (a1 : Nat) (m_a1 : a1 ∈ L) (r_a1 : R a1 = 56) (x2 : Int32) : ∀ sz, Met l yX3_cut (Cond.code yX3_cut cX3_cut 6 none :: wsL_law) rm_X3_cut (va_Pc [.ref a0, .ref a1, .int x2] (tPZ D cy L R (TT cy L R) f0 sz)) (va_Qv (fun f1 => fr L R [(3, 8)] [3, 30, 31, 59, 60] f0 f1 ∧ TK L R f1 a0) (tB D (tA L sz) L R (TT cy L R)) (tA L sz)) 0 0 (tA L sz) := by
  refine tw_enterv (by decide +kernel) rfl (Nat.le_of_ble_eq_true rfl) ?_
  intro p e s m below meth c A ls args Q F hZ h hl hret
  have hl : lv_has ls 6 [(0, .ref a0), (1, .ref a1), (2, .int x2)] := hl
  have hk : fr L R [(3, 8)] [3, 30, 31, 59, 60] f0 f0 := fr.rf
  have t_a0_tokenCount := h.bfi m_a0 r_a0 (fun e q => (T_3 e).mp q) (k := 8) rfl
  obtain ⟨a0_kinds, m_a0_kinds, r_a0_kinds, t_a0_kinds⟩ := h.rf m_a0 r_a0 (fun e q => (T_3 e).mp q) (k := 4) rfl
  obtain ⟨a0_values, m_a0_values, r_a0_values, t_a0_values⟩ := h.rf m_a0 r_a0 (fun e q => (T_3 e).mp q) (k := 7) rfl
  obtain ⟨a0_sizes, m_a0_sizes, r_a0_sizes, t_a0_sizes⟩ := h.rf m_a0 r_a0 (fun e q => (T_3 e).mp q) (k := 6) rfl
  refine tw_bipush F dX3_cut_0 kb_8 (fun z1 hz1 => ?_)
  refine lv_istore_n (lv' := [(3, .int z1), (0, .ref a0), (1, .ref a1), (2, .int x2)]) F.1 F.2.1 dX3_cut_2 rfl hl (by decide) rfl (fun ls hl => ?_)
  refine lv_aload_n F.1 F.2.1 dX3_cut_3 rfl (lv_at hl 1 rfl) ?_
  refine tw_iconst F dX3_cut_4 ki_0 (fun z2 hz2 => ?_)
  refine pe_3_46 F h m_a0 r_a0 (by omega) dX3_cut_5 (fun f3 H locs e3pq e3po hf3 h => ?_)
  have e3p : fi f3 a0 8 = z2.toInt := by unfold fi; rw [e3pq]; rfl
  have hk : fr L R [(3, 8)] [3, 30, 31, 59, 60] f0 f3 := hk.tr hf3 rfl rfl
  have e4 : fld f3 a0 4 = .ref a0_kinds := (hf3.efl m_a0 r_a0 rfl).trans t_a0_kinds
  have e5 : fld f3 a0 7 = .ref a0_values := (hf3.efl m_a0 r_a0 rfl).trans t_a0_values
  have e6 : fld f3 a0 6 = .ref a0_sizes := (hf3.efl m_a0 r_a0 rfl).trans t_a0_sizes
  have hT : TK L R f3 a0 := ⟨by rw [hf3.erf m_a0 r_a0 (by decide +kernel), rfa_of t_a0_kinds]; exact m_a0_kinds, by rw [hf3.erf m_a0 r_a0 (by decide +kernel), rfa_of t_a0_kinds]; exact r_a0_kinds, by rw [hf3.erf m_a0 r_a0 (by decide +kernel), rfa_of t_a0_values]; exact m_a0_values, by rw [hf3.erf m_a0 r_a0 (by decide +kernel), rfa_of t_a0_values]; exact r_a0_values, by rw [hf3.erf m_a0 r_a0 (by decide +kernel), rfa_of t_a0_sizes]; exact m_a0_sizes, by rw [hf3.erf m_a0 r_a0 (by decide +kernel), rfa_of t_a0_sizes]; exact r_a0_sizes, fun t ht => by omega⟩
  refine tw_iconst F dX3_cut_8 ki_0 (fun z7 hz7 => ?_)
  refine lv_istore (lv' := [(4, .int z7), (3, .int z1), (0, .ref a0), (1, .ref a1), (2, .int x2)]) F.1 F.2.1 dX3_cut_9 hl (by decide) rfl (fun ls hl => ?_)
  have j_11 : ∀ (n11 : Nat) (f8 : Nat → va_E) (H : Heap) (locs : List Loc) (ls : Array Slot) (x3_11 : Int32) (x4_11 : Int32), 1 ≤ x3_11.toInt → x3_11.toInt ≤ 8 → 0 ≤ x4_11.toInt → x4_11.toInt ≤ 600 → ((x3_11.toInt = 3 → 1 ≤ fi f8 a0 8 → eli f8 (rfa f8 a0 4) (fi f8 a0 8 - 1).toNat ≠ 1)) → ((600 - x4_11.toInt)).toNat < n11 → tS D cy A s.heap L R (TT cy L R) f8 s H locs → TK L R f8 a0 → fr L R [(3, 8)] [3, 30, 31, 59, 60] f0 f8 → fr L R [(3, 8)] [3, 30, 31, 59, 60] f3 f8 → lv_has ls 6 [(0, .ref a0), (1, .ref a1), (2, .int x2), (3, .int x3_11), (4, .int x4_11)] → W p l e rm_X3_cut s m args below meth c H locs 0 0 Q (F0 m 11 ls []) := by
    intro n11
    induction n11 with
    | zero =>
      intro f8 H locs ls x3_11 x4_11 b9 b10 b11 b12 ip11_0 b13 h hT hk hb11 hl
      exfalso
      omega
    | succ n11 ih11 =>
      intro f8 H locs ls x3_11 x4_11 b9 b10 b11 b12 ip11_0 b13 h hT hk hb11 hl
      have e14 : fld f8 a0 4 = .ref a0_kinds := (hb11.efl m_a0 r_a0 rfl).trans e4
      have e15 : fld f8 a0 7 = .ref a0_values := (hb11.efl m_a0 r_a0 rfl).trans e5
      have e16 : fld f8 a0 6 = .ref a0_sizes := (hb11.efl m_a0 r_a0 rfl).trans e6
      refine lv_iload F.1 F.2.1 dX3_cut_11 (lv_at hl 4 rfl) ?_
      refine lv_iload_n F.1 F.2.1 dX3_cut_13 rfl (lv_at hl 2 rfl) ?_
      have j_117 : ∀ (ls : Array Slot), lv_has ls 6 [(0, .ref a0), (2, .int x2)] → W p l e rm_X3_cut s m args below meth c H locs 0 0 Q (F0 m 117 ls []) := by
        intro ls hl
        refine lv_aload_n F.1 F.2.1 dX3_cut_117 rfl (lv_at hl 0 rfl) ?_
        refine g_3_32 F h m_a0 r_a0 dX3_cut_118 (fun o17 m_o17 r_o17 ho17 => ?_)
        obtain rfl := (fld_inj e14 ho17).symm
        refine lv_aload_n F.1 F.2.1 dX3_cut_121 rfl (lv_at hl 0 rfl) ?_
        refine g_3_46 F h m_a0 r_a0 dX3_cut_122 (fun v18 hv18 hv18a hv18b => ?_)
        refine tw_iconst F dX3_cut_125 ki_0 (fun z19 hz19 => ?_)
        have hTo := hT
        refine se_30 F h m_a0_kinds r_a0_kinds (by omega) dX3_cut_126 (fun f20 H locs e20a e20b hf20 h => ?_)
        have hk : fr L R [(3, 8)] [3, 30, 31, 59, 60] f0 f20 := hk.tr hf20 rfl rfl
        have hb11 : fr L R [(3, 8)] [3, 30, 31, 59, 60] f3 f20 := hb11.tr hf20 rfl rfl
        have e21 : fld f20 a0 4 = .ref a0_kinds := (hf20.efl m_a0 r_a0 rfl).trans e14
        have e22 : fld f20 a0 7 = .ref a0_values := (hf20.efl m_a0 r_a0 rfl).trans e15
        have e23 : fld f20 a0 6 = .ref a0_sizes := (hf20.efl m_a0 r_a0 rfl).trans e16
        have e24 : fi f20 a0 8 = fi f8 a0 8 := hf20.efi m_a0 r_a0 rfl
        have n0 : a0 ≠ a0_kinds := ne_r r_a0 r_a0_kinds (by decide)
        obtain ⟨u1, u2, u3, u4, u6, u7, u5⟩ := hTo
        have hT : TK L R f20 a0 := by
            unfold TK
            rw [rfa_o e20b n0, rfa_o e20b n0, rfa_o e20b n0, fi_o e20b n0]
            refine ⟨u1, u2, u3, u4, u6, u7, fun t ht => ?_⟩
            rw [rfa_of e14, e20a, if_neg (show ¬ t = v18.toInt.toNat by omega), elj_o e20b (ne_r u4 r_a0_kinds (by decide)), eli_o e20b (ne_r u7 r_a0_kinds (by decide))]
            have q2 := u5 t ht
            rw [rfa_of e14] at q2
            exact q2
        refine lv_aload_n F.1 F.2.1 dX3_cut_127 rfl (lv_at hl 0 rfl) ?_
        refine g_3_36 F h m_a0 r_a0 dX3_cut_128 (fun o25 m_o25 r_o25 ho25 => ?_)
        refine lv_aload_n F.1 F.2.1 dX3_cut_131 rfl (lv_at hl 0 rfl) ?_
        refine g_3_46 F h m_a0 r_a0 dX3_cut_132 (fun v26 hv26 hv26a hv26b => ?_)
        refine lv_iload_n F.1 F.2.1 dX3_cut_135 rfl (lv_at hl 1 rfl) ?_
        refine st_59 F h m_o25 r_o25 (by omega) dX3_cut_136 (fun f27 H locs hf27 h => ?_)
        have hT : TK L R f27 a0 := TK_fr hT hf27 (by decide +kernel) m_a0 r_a0
        have hk : fr L R [(3, 8)] [3, 30, 31, 59, 60] f0 f27 := hk.tr hf27 rfl rfl
        have hb11 : fr L R [(3, 8)] [3, 30, 31, 59, 60] f3 f27 := hb11.tr hf27 rfl rfl
        have e28 : fld f27 a0 4 = .ref a0_kinds := (hf27.efl m_a0 r_a0 rfl).trans e21
        have e29 : fld f27 a0 7 = .ref a0_values := (hf27.efl m_a0 r_a0 rfl).trans e22
        have e30 : fld f27 a0 6 = .ref a0_sizes := (hf27.efl m_a0 r_a0 rfl).trans e23
        have e31 : fi f27 a0 8 = fi f20 a0 8 := hf27.efi m_a0 r_a0 rfl
        exact hret f27 _ _ _ _ dX3_cut_137 ⟨hk, hT⟩ h
      refine tw_icmp_ge (tgt := 117) F dX3_cut_14 (by decide) (fun b32 => ?_) (fun b32 => ?_)
      · exact j_117 _ (lv_sub hl [0, 2] rfl)
      · refine lv_iload F.1 F.2.1 dX3_cut_17 (lv_at hl 4 rfl) ?_
        refine lv_aload_n F.1 F.2.1 dX3_cut_19 rfl (lv_at hl 1 rfl) ?_
        refine al_56 F h m_a1 r_a1 dX3_cut_20 (fun z33 hz33 => ?_)
        refine tw_icmp_ge (tgt := 117) F dX3_cut_21 (by decide) (fun b34 => ?_) (fun b34 => ?_)
        · exact j_117 _ (lv_sub hl [0, 2] rfl)
        · refine lv_aload_n F.1 F.2.1 dX3_cut_24 rfl (lv_at hl 0 rfl) ?_
          refine g_3_46 F h m_a0 r_a0 dX3_cut_25 (fun v35 hv35 hv35a hv35b => ?_)
          refine tw_sipush F dX3_cut_28 ks_600 (fun z36 hz36 => ?_)
          refine tw_icmp_ge (tgt := 117) F dX3_cut_31 (by decide) (fun b37 => ?_) (fun b37 => ?_)
          · exact j_117 _ (lv_sub hl [0, 2] rfl)
          · refine lv_aload_n F.1 F.2.1 dX3_cut_34 rfl (lv_at hl 1 rfl) ?_
            refine lv_iload F.1 F.2.1 dX3_cut_35 (lv_at hl 4 rfl) ?_
            refine le_56 F h m_a1 r_a1 (by omega) dX3_cut_37 (fun v38 ev38 => ?_)
            refine tw_Si (As := [.int v38]) F hZ h yk_X3_kindOf mw_395 mw_396 (s_X3_kindOf l D cy L R O f8 v38) rfl rfl hl.1 rfl (Nat.le_of_ble_eq_true rfl) ⟨Nat.le_of_ble_eq_true rfl, Nat.le_of_ble_eq_true rfl⟩ ⟨Nat.le_of_ble_eq_true rfl, Nat.le_of_ble_eq_true rfl⟩ dX3_cut_38 (fun v40 f39 H locs hp39 h => ?_)
            obtain ⟨rfl, hv40a, hv40b, hv40p0⟩ := hp39
            refine lv_istore (lv' := [(5, .int v40), (0, .ref a0), (1, .ref a1), (2, .int x2), (3, .int x3_11), (4, .int x4_11)]) F.1 F.2.1 dX3_cut_41 hl (by decide) rfl (fun ls hl => ?_)
            refine lv_iload F.1 F.2.1 dX3_cut_43 (lv_at hl 0 rfl) ?_
            refine lv_iload_n F.1 F.2.1 dX3_cut_45 rfl (lv_at hl 4 rfl) ?_
            have j_108 : ∀ (f41 : Nat → va_E) (H : Heap) (locs : List Loc) (ls : Array Slot), ((v40.toInt = 3 → 1 ≤ fi f41 a0 8 → eli f41 (rfa f41 a0 4) (fi f41 a0 8 - 1).toNat ≠ 1)) → tS D cy A s.heap L R (TT cy L R) f41 s H locs → TK L R f41 a0 → fr L R [(3, 8)] [3, 30, 31, 59, 60] f0 f41 → fr L R [(3, 8)] [3, 30, 31, 59, 60] f8 f41 → lv_has ls 6 [(0, .ref a0), (1, .ref a1), (2, .int x2), (4, .int x4_11), (5, .int v40)] → W p l e rm_X3_cut s m args below meth c H locs 0 0 Q (F0 m 108 ls []) := by
              intro f41 H locs ls ip108_0 h hT hk hb108 hl
              have hb11 : fr L R [(3, 8)] [3, 30, 31, 59, 60] f3 f41 := hb11.tr hb108 rfl rfl
              have e42 : fld f41 a0 4 = .ref a0_kinds := (hb108.efl m_a0 r_a0 rfl).trans e14
              have e43 : fld f41 a0 7 = .ref a0_values := (hb108.efl m_a0 r_a0 rfl).trans e15
              have e44 : fld f41 a0 6 = .ref a0_sizes := (hb108.efl m_a0 r_a0 rfl).trans e16
              refine lv_iload F.1 F.2.1 dX3_cut_108 (lv_at hl 4 rfl) ?_
              refine lv_istore_n (lv' := [(3, .int v40), (0, .ref a0), (1, .ref a1), (2, .int x2), (4, .int x4_11), (5, .int v40)]) F.1 F.2.1 dX3_cut_110 rfl hl (by decide) rfl (fun ls hl => ?_)
              refine tu_iinc F dX3_cut_111 hl (k := 4) rfl (by decide) ki_1 (by omega) (fun z45 ls hz45 hl => ?_)
              have hl : lv_has ls 6 [(4, .int z45), (3, .int v40), (0, .ref a0), (1, .ref a1), (2, .int x2), (5, .int v40)] := hl
              refine lv_goto (tgt := 11) F.1 F.2.1 dX3_cut_114 (by decide) ?_
              exact ih11 f41 _ _ _ v40 z45 (by omega) (by omega) (by omega) (by omega) (ip108_0) (by omega) h hT hk hb11 (lv_sub hl [2, 3, 4, 1, 0] rfl)
            have hb108 : fr L R [(3, 8)] [3, 30, 31, 59, 60] f8 f8 := fr.rf
            have j_66 : ∀ (ls : Array Slot), lv_has ls 6 [(0, .ref a0), (1, .ref a1), (2, .int x2), (3, .int x3_11), (4, .int x4_11), (5, .int v40)] → W p l e rm_X3_cut s m args below meth c H locs 0 0 Q (F0 m 66 ls []) := by
              intro ls hl
              refine lv_iload F.1 F.2.1 dX3_cut_66 (lv_at hl 5 rfl) ?_
              refine lv_iload_n F.1 F.2.1 dX3_cut_68 rfl (lv_at hl 3 rfl) ?_
              have j_89 : ∀ (ls : Array Slot), lv_has ls 6 [(0, .ref a0), (1, .ref a1), (2, .int x2), (4, .int x4_11), (5, .int v40)] → W p l e rm_X3_cut s m args below meth c H locs 0 0 Q (F0 m 89 ls []) := by
                intro ls hl
                refine lv_iload F.1 F.2.1 dX3_cut_89 (lv_at hl 4 rfl) ?_
                refine tw_bipush F dX3_cut_91 kb_8 (fun z46 hz46 => ?_)
                refine tw_icmp_eq (tgt := 108) F dX3_cut_93 (by decide) (fun b47 => ?_) (fun b47 => ?_)
                · exact j_108 f8 _ _ _ ((fun q => by omega)) h hT hk hb108 (lv_sub hl [0, 1, 2, 3, 4] rfl)
                · refine lv_aload_n F.1 F.2.1 dX3_cut_96 rfl (lv_at hl 0 rfl) ?_
                  refine lv_iload F.1 F.2.1 dX3_cut_97 (lv_at hl 4 rfl) ?_
                  refine lv_iload F.1 F.2.1 dX3_cut_99 (lv_at hl 3 rfl) ?_
                  refine lv_aload_n F.1 F.2.1 dX3_cut_101 rfl (lv_at hl 1 rfl) ?_
                  refine lv_iload F.1 F.2.1 dX3_cut_102 (lv_at hl 3 rfl) ?_
                  refine le_56 F h m_a1 r_a1 (by omega) dX3_cut_104 (fun v48 ev48 => ?_)
                  refine tw_Vv (As := [.int v40, .int x4_11, .int v48]) F hZ h yk_X3_openToken mw_408 mw_409 mw_410 (s_X3_openToken l D cy L R O f8 a0 m_a0 r_a0 v40 ⟨by omega, by omega⟩ x4_11 ⟨by omega, by omega⟩ v48 (by omega) hT (by omega)) rfl rfl m_a0 r_a0 (fun e q => (T_3 e).mp q) rfl hl.1 rfl (Nat.le_of_ble_eq_true rfl) ⟨Nat.le_of_ble_eq_true rfl, Nat.le_of_ble_eq_true rfl⟩ ⟨Nat.le_of_ble_eq_true rfl, Nat.le_of_ble_eq_true rfl⟩ dX3_cut_105 (fun f49 H locs hp49 h => ?_)
                  obtain ⟨hf49, hv50p0, hv50p1, hv50p2⟩ := hp49
                  have hk : fr L R [(3, 8)] [3, 30, 31, 59, 60] f0 f49 := hk.tr hf49 rfl rfl
                  have hb11 : fr L R [(3, 8)] [3, 30, 31, 59, 60] f3 f49 := hb11.tr hf49 rfl rfl
                  have hb108 : fr L R [(3, 8)] [3, 30, 31, 59, 60] f8 f49 := hb108.tr hf49 rfl rfl
                  have e51 : fld f49 a0 4 = .ref a0_kinds := (hf49.efl m_a0 r_a0 rfl).trans e14
                  have e52 : fld f49 a0 7 = .ref a0_values := (hf49.efl m_a0 r_a0 rfl).trans e15
                  have e53 : fld f49 a0 6 = .ref a0_sizes := (hf49.efl m_a0 r_a0 rfl).trans e16
                  have hT : TK L R f49 a0 := hv50p0
                  exact j_108 f49 _ _ _ ((fun q q1 => by have q2 := hv50p1 (by omega); rw [show (fi f49 a0 8 - 1).toNat = (fi f8 a0 8).toNat by omega]; exact q2)) h hT hk hb108 (lv_sub hl [0, 1, 2, 3, 4] rfl)
              refine tw_icmp_ne (tgt := 89) F dX3_cut_69 (by decide) (fun b54 => ?_) (fun b54 => ?_)
              · exact j_89 _ (lv_sub hl [0, 1, 2, 4, 5] rfl)
              · refine lv_iload F.1 F.2.1 dX3_cut_72 (lv_at hl 5 rfl) ?_
                refine tw_iconst F dX3_cut_74 ki_3 (fun z55 hz55 => ?_)
                refine tw_icmp_ne (tgt := 89) F dX3_cut_75 (by decide) (fun b56 => ?_) (fun b56 => ?_)
                · exact j_89 _ (lv_sub hl [0, 1, 2, 4, 5] rfl)
                · refine lv_aload_n F.1 F.2.1 dX3_cut_78 rfl (lv_at hl 0 rfl) ?_
                  refine lv_aload_n F.1 F.2.1 dX3_cut_79 rfl (lv_at hl 1 rfl) ?_
                  refine lv_iload F.1 F.2.1 dX3_cut_80 (lv_at hl 4 rfl) ?_
                  refine le_56 F h m_a1 r_a1 (by omega) dX3_cut_82 (fun v57 ev57 => ?_)
                  refine tw_Vv (As := [.int v57]) F hZ h yk_X3_lengthenNumber mw_402 mw_403 mw_404 (s_X3_lengthenNumber l D cy L R O f8 a0 m_a0 r_a0 v57 hT (ip11_0 (by omega))) rfl rfl m_a0 r_a0 (fun e q => (T_3 e).mp q) rfl hl.1 rfl (Nat.le_of_ble_eq_true rfl) ⟨Nat.le_of_ble_eq_true rfl, Nat.le_of_ble_eq_true rfl⟩ ⟨Nat.le_of_ble_eq_true rfl, Nat.le_of_ble_eq_true rfl⟩ dX3_cut_83 (fun f58 H locs hp58 h => ?_)
                  obtain ⟨hf58, hv59p0, hv59p1⟩ := hp58
                  have hk : fr L R [(3, 8)] [3, 30, 31, 59, 60] f0 f58 := hk.tr hf58 rfl rfl
                  have hb11 : fr L R [(3, 8)] [3, 30, 31, 59, 60] f3 f58 := hb11.tr hf58 rfl rfl
                  have hb108 : fr L R [(3, 8)] [3, 30, 31, 59, 60] f8 f58 := hb108.tr hf58 rfl rfl
                  have e60 : fld f58 a0 4 = .ref a0_kinds := (hf58.efl m_a0 r_a0 rfl).trans e14
                  have e61 : fld f58 a0 7 = .ref a0_values := (hf58.efl m_a0 r_a0 rfl).trans e15
                  have e62 : fld f58 a0 6 = .ref a0_sizes := (hf58.efl m_a0 r_a0 rfl).trans e16
                  have e63 : fi f58 a0 8 = fi f8 a0 8 := hf58.efi m_a0 r_a0 rfl
                  have hT : TK L R f58 a0 := hv59p0
                  refine lv_goto (tgt := 108) F.1 F.2.1 dX3_cut_86 (by decide) ?_
                  exact j_108 f58 _ _ _ ((fun _ => hv59p1)) h hT hk hb108 (lv_sub hl [0, 1, 2, 4, 5] rfl)
            refine tw_icmp_ne (tgt := 66) F dX3_cut_46 (by decide) (fun b64 => ?_) (fun b64 => ?_)
            · exact j_66 _ (lv_sub hl [1, 2, 3, 4, 5, 0] rfl)
            · refine lv_iload F.1 F.2.1 dX3_cut_49 (lv_at hl 0 rfl) ?_
              refine tw_iconst F dX3_cut_51 ki_1 (fun z65 hz65 => ?_)
              refine tw_icmp_ne (tgt := 66) F dX3_cut_52 (by decide) (fun b66 => ?_) (fun b66 => ?_)
              · exact j_66 _ (lv_sub hl [1, 2, 3, 4, 5, 0] rfl)
              · refine lv_aload_n F.1 F.2.1 dX3_cut_55 rfl (lv_at hl 1 rfl) ?_
                refine lv_aload_n F.1 F.2.1 dX3_cut_56 rfl (lv_at hl 2 rfl) ?_
                refine lv_iload F.1 F.2.1 dX3_cut_57 (lv_at hl 5 rfl) ?_
                refine le_56 F h m_a1 r_a1 (by omega) dX3_cut_59 (fun v67 ev67 => ?_)
                refine tw_Vv (As := [.int v67]) F hZ h yk_X3_lengthenWord mw_398 mw_399 mw_400 (s_X3_lengthenWord l D cy L R O f8 a0 m_a0 r_a0 v67 ⟨by omega, by omega⟩ hT) rfl rfl m_a0 r_a0 (fun e q => (T_3 e).mp q) rfl hl.1 rfl (Nat.le_of_ble_eq_true rfl) ⟨Nat.le_of_ble_eq_true rfl, Nat.le_of_ble_eq_true rfl⟩ ⟨Nat.le_of_ble_eq_true rfl, Nat.le_of_ble_eq_true rfl⟩ dX3_cut_60 (fun f68 H locs hp68 h => ?_)
                obtain ⟨hf68, hv69p0⟩ := hp68
                have hk : fr L R [(3, 8)] [3, 30, 31, 59, 60] f0 f68 := hk.tr hf68 rfl rfl
                have hb11 : fr L R [(3, 8)] [3, 30, 31, 59, 60] f3 f68 := hb11.tr hf68 rfl rfl
                have hb108 : fr L R [(3, 8)] [3, 30, 31, 59, 60] f8 f68 := hb108.tr hf68 rfl rfl
                have e70 : fld f68 a0 4 = .ref a0_kinds := (hf68.efl m_a0 r_a0 rfl).trans e14
                have e71 : fld f68 a0 7 = .ref a0_values := (hf68.efl m_a0 r_a0 rfl).trans e15
                have e72 : fld f68 a0 6 = .ref a0_sizes := (hf68.efl m_a0 r_a0 rfl).trans e16
                have e73 : fi f68 a0 8 = fi f8 a0 8 := hf68.efi m_a0 r_a0 rfl
                have hT : TK L R f68 a0 := hv69p0
                refine lv_goto (tgt := 108) F.1 F.2.1 dX3_cut_63 (by decide) ?_
                exact j_108 f68 _ _ _ ((fun q => by omega)) h hT hk hb108 (lv_sub hl [1, 2, 3, 5, 0] rfl)
  have hb11 : fr L R [(3, 8)] [3, 30, 31, 59, 60] f3 f3 := fr.rf
  exact j_11 (((600 - z7.toInt)).toNat + 1) f3 _ _ _ z1 z7 (by omega) (by omega) (by omega) (by omega) ((fun q => by omega)) (by omega) h hT hk hb11 (lv_sub hl [2, 3, 4, 1, 0] rfl)
theorem dX3_open_0 : decode cX3_open 0 = .ok (.aload_n 0, 1) := by decide +kernel
theorem dX3_open_1 : decode cX3_open 1 = .ok (.aload_n 1, 1) := by decide +kernel
theorem dX3_open_2 : decode cX3_open 2 = .ok (.iload_n 2, 1) := by decide +kernel
theorem dX3_open_3 : decode cX3_open 3 = .ok (.invokevirtual 125, 3) := by decide +kernel
theorem mw_391 : Cond.methodLink RX3 125 yX3_cut ∈ wsL_law := inr_17 _ (List.mem_of_getElem? (i := 7) rfl)
theorem mw_394 : Cond.code yX3_cut cX3_cut 6 none ∈ wsL_law := inr_17 _ (List.mem_of_getElem? (i := 10) rfl)
theorem yk_X3_cut : xY yX3_cut RX3 cX3_cut 6 none 2 := ⟨⟨rfl, by decide +kernel, by decide +kernel, by decide +kernel⟩, mw_19, mw_394⟩
theorem mw_392 : Cond.instanceMethod yX3_cut ∈ wsL_law := inr_17 _ (List.mem_of_getElem? (i := 8) rfl)
theorem mw_393 : Cond.selects RX3 yX3_cut yX3_cut ∈ wsL_law := inr_17 _ (List.mem_of_getElem? (i := 9) rfl)
theorem dX3_open_6 : decode cX3_open 6 = .ok (.aload_n 0, 1) := by decide +kernel
theorem dX3_open_7 : decode cX3_open 7 = .ok (.iconst 0, 1) := by decide +kernel
theorem dX3_open_8 : decode cX3_open 8 = .ok (.putfield 58, 3) := by decide +kernel
theorem dX3_open_11 : decode cX3_open 11 = .ok (.aload_n 0, 1) := by decide +kernel
theorem dX3_open_12 : decode cX3_open 12 = .ok (.iconst 0, 1) := by decide +kernel
theorem dX3_open_13 : decode cX3_open 13 = .ok (.putfield 25, 3) := by decide +kernel
theorem dX3_open_16 : decode cX3_open 16 = .ok (.aload_n 0, 1) := by decide +kernel
theorem dX3_open_17 : decode cX3_open 17 = .ok (.iconst (-1), 1) := by decide +kernel
theorem dX3_open_18 : decode cX3_open 18 = .ok (.putfield 29, 3) := by decide +kernel
theorem dX3_open_21 : decode cX3_open 21 = .ok (.return_, 1) := by decide +kernel
def rm_X3_open : Room := { frames := 2, cells := 0, slots := 0, locals := 48 }
set_option maxHeartbeats 4000000 in
set_option maxRecDepth 100000 in
theorem s_X3_open (l : Launch) (D : va_G) (cy : Nat → ClassId) (L : List Nat) (R O : Nat → Nat) (f0 : Nat → va_E) (a0 : Nat) (m_a0 : a0 ∈ L) (r_a0 : R a0 = 3) (a1 : Nat) (m_a1 : a1 ∈ L) (r_a1 : R a1 = 56) (x2 : Int32) : ∀ sz, Met l yX3_open (Cond.code yX3_open cX3_open 3 none :: wsL_law) rm_X3_open (va_Pc [.ref a0, .ref a1, .int x2] (tPZ D cy L R (TT cy L R) f0 sz)) (va_Qv (fun f1 => fr L R [(3, 2), (3, 3), (3, 8), (3, 12)] [3, 30, 31, 59, 60] f0 f1 ∧ TK L R f1 a0 ∧ fi f1 a0 12 = 0) (tB D (tA L sz) L R (TT cy L R)) (tA L sz)) 0 0 (tA L sz) := by
  refine tw_enterv (by decide +kernel) rfl (Nat.le_of_ble_eq_true rfl) ?_
  intro p e s m below meth c A ls args Q F hZ h hl hret
  have hl : lv_has ls 3 [(0, .ref a0), (1, .ref a1), (2, .int x2)] := hl
  have hk : fr L R [(3, 2), (3, 3), (3, 8), (3, 12)] [3, 30, 31, 59, 60] f0 f0 := fr.rf
  have t_a0_at := h.bfi m_a0 r_a0 (fun e q => (T_3 e).mp q) (k := 12) rfl
  refine lv_aload_n F.1 F.2.1 dX3_open_0 rfl (lv_at hl 0 rfl) ?_
  refine lv_aload_n F.1 F.2.1 dX3_open_1 rfl (lv_at hl 1 rfl) ?_
  refine lv_iload_n F.1 F.2.1 dX3_open_2 rfl (lv_at hl 2 rfl) ?_
  refine tw_Vv (As := [.ref a1, .int x2]) F hZ h yk_X3_cut mw_391 mw_392 mw_393 (s_X3_cut l D cy L R O f0 a0 m_a0 r_a0 a1 m_a1 r_a1 x2) rfl rfl m_a0 r_a0 (fun e q => (T_3 e).mp q) rfl hl.1 rfl (Nat.le_of_ble_eq_true rfl) ⟨Nat.le_of_ble_eq_true rfl, Nat.le_of_ble_eq_true rfl⟩ ⟨Nat.le_of_ble_eq_true rfl, Nat.le_of_ble_eq_true rfl⟩ dX3_open_3 (fun f1 H locs hp1 h => ?_)
  obtain ⟨hf1, hv2p0⟩ := hp1
  have hk : fr L R [(3, 2), (3, 3), (3, 8), (3, 12)] [3, 30, 31, 59, 60] f0 f1 := hk.tr hf1 rfl rfl
  have e3 : fi f1 a0 12 = fi f0 a0 12 := hf1.efi m_a0 r_a0 rfl
  have hT : TK L R f1 a0 := hv2p0
  refine lv_aload_n F.1 F.2.1 dX3_open_6 rfl (lv_at hl 0 rfl) ?_
  refine tw_iconst F dX3_open_7 ki_0 (fun z4 hz4 => ?_)
  refine p_3_58 F h m_a0 r_a0 (by omega) dX3_open_8 (fun f5 H locs e5p hf5 h => ?_)
  have hT : TK L R f5 a0 := TK_fr hT hf5 (by decide +kernel) m_a0 r_a0
  have hk : fr L R [(3, 2), (3, 3), (3, 8), (3, 12)] [3, 30, 31, 59, 60] f0 f5 := hk.tr hf5 rfl rfl
  refine lv_aload_n F.1 F.2.1 dX3_open_11 rfl (lv_at hl 0 rfl) ?_
  refine tw_iconst F dX3_open_12 ki_0 (fun z6 hz6 => ?_)
  refine p_3_25 F h m_a0 r_a0 dX3_open_13 (fun f7 H locs e7p hf7 h => ?_)
  have hT : TK L R f7 a0 := TK_fr hT hf7 (by decide +kernel) m_a0 r_a0
  have hk : fr L R [(3, 2), (3, 3), (3, 8), (3, 12)] [3, 30, 31, 59, 60] f0 f7 := hk.tr hf7 rfl rfl
  have e8 : fi f7 a0 12 = fi f5 a0 12 := hf7.efi m_a0 r_a0 rfl
  refine lv_aload_n F.1 F.2.1 dX3_open_16 rfl (lv_at hl 0 rfl) ?_
  refine tw_iconst F dX3_open_17 ki_m1 (fun z9 hz9 => ?_)
  refine p_3_29 F h m_a0 r_a0 dX3_open_18 (fun f10 H locs e10p hf10 h => ?_)
  have hT : TK L R f10 a0 := TK_fr hT hf10 (by decide +kernel) m_a0 r_a0
  have hk : fr L R [(3, 2), (3, 3), (3, 8), (3, 12)] [3, 30, 31, 59, 60] f0 f10 := hk.tr hf10 rfl rfl
  have e11 : fi f10 a0 12 = fi f7 a0 12 := hf10.efi m_a0 r_a0 rfl
  exact hret f10 _ _ _ _ dX3_open_21 ⟨hk, hT, by omega⟩ h
theorem dX3_readLine_0 : decode cX3_readLine 0 = .ok (.aload_n 0, 1) := by decide +kernel
theorem dX3_readLine_1 : decode cX3_readLine 1 = .ok (.aload_n 1, 1) := by decide +kernel
theorem dX3_readLine_2 : decode cX3_readLine 2 = .ok (.iload_n 2, 1) := by decide +kernel
theorem dX3_readLine_3 : decode cX3_readLine 3 = .ok (.invokevirtual 64, 3) := by decide +kernel
theorem mw_387 : Cond.methodLink RX3 64 yX3_open ∈ wsL_law := inr_17 _ (List.mem_of_getElem? (i := 3) rfl)
theorem mw_390 : Cond.code yX3_open cX3_open 3 none ∈ wsL_law := inr_17 _ (List.mem_of_getElem? (i := 6) rfl)
theorem yk_X3_open : xY yX3_open RX3 cX3_open 3 none 2 := ⟨⟨rfl, by decide +kernel, by decide +kernel, by decide +kernel⟩, mw_19, mw_390⟩
theorem mw_388 : Cond.instanceMethod yX3_open ∈ wsL_law := inr_17 _ (List.mem_of_getElem? (i := 4) rfl)
theorem mw_389 : Cond.selects RX3 yX3_open yX3_open ∈ wsL_law := inr_17 _ (List.mem_of_getElem? (i := 5) rfl)
theorem dX3_readLine_6 : decode cX3_readLine 6 = .ok (.aload_n 0, 1) := by decide +kernel
theorem dX3_readLine_7 : decode cX3_readLine 7 = .ok (.getfield 12, 3) := by decide +kernel
theorem mw_54 : Cond.fieldLink RX3 12 "AskBack$Reader" "line" "LAskBack$Row;" ∈ wsL_law := inr_3 _ (List.mem_of_getElem? (i := 6) rfl)
section
variable {p : Program} {l : Launch} {e : Env} {R0 : Room} {s : State} {m : MethodId} {args : Array Value} {below : List Frame} {meth : Method} {c : Code} {H H0 : Heap} {locs : List Loc} {cells slots : Nat} {Q : State → Prop} {cc : ByteArray} {nL : Nat} {D : va_G} {cy : Nat → ClassId} {A : Nat → Prop} {L : List Nat} {R : Nat → Nat} {f : Nat → va_E} {pc : Nat} {ls : Array Slot} {rest : List Value} {a : Nat}
theorem g_3_12 (F : CallFix p m c cc nL s args wsL_law RX3) (h : tS D cy A H0 L R (TT cy L R) f s H locs) (ha : a ∈ L) (hr : R a = 3) (hdg : decode cc pc = .ok (.getfield 12, 3)) (kk : ∀ b : Nat, b ∈ L → R b = 4 → fld f a 0 = .ref b → W p l e R0 s m args below meth c H locs cells slots Q (F0 m (pc + 3) ls (.ref b :: rest))) : W p l e R0 s m args below meth c H locs cells slots Q (F0 m pc ls (.ref a :: rest)) := tu_getr F h ha hr (fun e q => (T_3 e).mp q) rfl inlX3 rfl (Nat.le_of_ble_eq_true rfl) mw_54 hdg kk
end
theorem dX3_readLine_10 : decode cX3_readLine 10 = .ok (.invokevirtual 68, 3) := by decide +kernel
theorem mw_412 : Cond.methodLink RX3 68 yX4_clear ∈ wsL_law := inr_18 _ (List.mem_of_getElem? (i := 4) rfl)
theorem dX3_readLine_13 : decode cX3_readLine 13 = .ok (.aload_n 0, 1) := by decide +kernel
theorem dX3_readLine_14 : decode cX3_readLine 14 = .ok (.iconst 0, 1) := by decide +kernel
theorem dX3_readLine_15 : decode cX3_readLine 15 = .ok (.putfield 58, 3) := by decide +kernel
theorem dX3_readLine_18 : decode cX3_readLine 18 = .ok (.aload_n 0, 1) := by decide +kernel
theorem dX3_readLine_19 : decode cX3_readLine 19 = .ok (.getfield 58, 3) := by decide +kernel
theorem dX3_readLine_22 : decode cX3_readLine 22 = .ok (.aload_n 0, 1) := by decide +kernel
theorem dX3_readLine_23 : decode cX3_readLine 23 = .ok (.getfield 46, 3) := by decide +kernel
theorem dX3_readLine_26 : decode cX3_readLine 26 = .ok (.if_icmp .ge 73, 3) := by decide +kernel
theorem dX3_readLine_99 : decode cX3_readLine 99 = .ok (.iconst 1, 1) := by decide +kernel
theorem dX3_readLine_100 : decode cX3_readLine 100 = .ok (.ireturn, 1) := by decide +kernel
theorem dX3_readLine_29 : decode cX3_readLine 29 = .ok (.aload_n 0, 1) := by decide +kernel
theorem dX3_readLine_30 : decode cX3_readLine 30 = .ok (.invokevirtual 71, 3) := by decide +kernel
theorem dX3_readLine_33 : decode cX3_readLine 33 = .ok (.iconst 2, 1) := by decide +kernel
theorem dX3_readLine_34 : decode cX3_readLine 34 = .ok (.if_icmp .ne 9, 3) := by decide +kernel
theorem dX3_readLine_43 : decode cX3_readLine 43 = .ok (.aload_n 0, 1) := by decide +kernel
theorem dX3_readLine_44 : decode cX3_readLine 44 = .ok (.invokevirtual 71, 3) := by decide +kernel
theorem dX3_readLine_47 : decode cX3_readLine 47 = .ok (.iconst 1, 1) := by decide +kernel
theorem dX3_readLine_48 : decode cX3_readLine 48 = .ok (.if_icmp .eq 9, 3) := by decide +kernel
theorem dX3_readLine_57 : decode cX3_readLine 57 = .ok (.aload_n 0, 1) := by decide +kernel
theorem dX3_readLine_58 : decode cX3_readLine 58 = .ok (.getfield 12, 3) := by decide +kernel
theorem dX3_readLine_61 : decode cX3_readLine 61 = .ok (.getfield 79, 3) := by decide +kernel
theorem mw_386 : Cond.fieldLink RX3 79 "AskBack$Row" "size" "I" ∈ wsL_law := inr_17 _ (List.mem_of_getElem? (i := 2) rfl)
section
variable {p : Program} {l : Launch} {e : Env} {R0 : Room} {s : State} {m : MethodId} {args : Array Value} {below : List Frame} {meth : Method} {c : Code} {H H0 : Heap} {locs : List Loc} {cells slots : Nat} {Q : State → Prop} {cc : ByteArray} {nL : Nat} {D : va_G} {cy : Nat → ClassId} {A : Nat → Prop} {L : List Nat} {R : Nat → Nat} {f : Nat → va_E} {pc : Nat} {ls : Array Slot} {rest : List Value} {a : Nat}
theorem g_3_79 (F : CallFix p m c cc nL s args wsL_law RX3) (h : tS D cy A H0 L R (TT cy L R) f s H locs) (ha : a ∈ L) (hr : R a = 4) (hdg : decode cc pc = .ok (.getfield 79, 3)) (kk : ∀ x : Int32, x.toInt = fi f a 1 → 0 ≤ x.toInt → x.toInt ≤ 12 → W p l e R0 s m args below meth c H locs cells slots Q (F0 m (pc + 3) ls (.int x :: rest))) : W p l e R0 s m args below meth c H locs cells slots Q (F0 m pc ls (.ref a :: rest)) := tu_geti F h ha hr (fun e q => (T_4 e).mp q) rfl inlX4 rfl (Nat.le_of_ble_eq_true rfl) mw_386 hdg (fun x h1 h2 h3 => kk x h1 h2 h3)
end
theorem dX3_readLine_64 : decode cX3_readLine 64 = .ok (.bipush 12, 2) := by decide +kernel
theorem dX3_readLine_66 : decode cX3_readLine 66 = .ok (.if_icmp .lt 9, 3) := by decide +kernel
theorem dX3_readLine_75 : decode cX3_readLine 75 = .ok (.aload_n 0, 1) := by decide +kernel
theorem dX3_readLine_76 : decode cX3_readLine 76 = .ok (.getfield 12, 3) := by decide +kernel
theorem dX3_readLine_79 : decode cX3_readLine 79 = .ok (.aload_n 0, 1) := by decide +kernel
theorem dX3_readLine_80 : decode cX3_readLine 80 = .ok (.invokevirtual 82, 3) := by decide +kernel
theorem dX3_readLine_83 : decode cX3_readLine 83 = .ok (.invokevirtual 86, 3) := by decide +kernel
theorem mw_429 : Cond.methodLink RX3 86 yX4_add ∈ wsL_law := inr_18 _ (List.mem_of_getElem? (i := 21) rfl)
theorem dX3_readLine_86 : decode cX3_readLine 86 = .ok (.aload_n 0, 1) := by decide +kernel
theorem dX3_readLine_87 : decode cX3_readLine 87 = .ok (.dup, 1) := by decide +kernel
theorem dX3_readLine_88 : decode cX3_readLine 88 = .ok (.getfield 58, 3) := by decide +kernel
theorem dX3_readLine_91 : decode cX3_readLine 91 = .ok (.iconst 1, 1) := by decide +kernel
theorem dX3_readLine_92 : decode cX3_readLine 92 = .ok (.iadd, 1) := by decide +kernel
theorem dX3_readLine_93 : decode cX3_readLine 93 = .ok (.putfield 58, 3) := by decide +kernel
theorem dX3_readLine_96 : decode cX3_readLine 96 = .ok (.goto (-78), 3) := by decide +kernel
theorem dX3_readLine_69 : decode cX3_readLine 69 = .ok (.aload_n 0, 1) := by decide +kernel
theorem dX3_readLine_70 : decode cX3_readLine 70 = .ok (.iconst 3, 1) := by decide +kernel
theorem dX3_readLine_71 : decode cX3_readLine 71 = .ok (.invokevirtual 75, 3) := by decide +kernel
theorem dX3_readLine_74 : decode cX3_readLine 74 = .ok (.ireturn, 1) := by decide +kernel
theorem dX3_readLine_51 : decode cX3_readLine 51 = .ok (.aload_n 0, 1) := by decide +kernel
theorem dX3_readLine_52 : decode cX3_readLine 52 = .ok (.iconst 1, 1) := by decide +kernel
theorem dX3_readLine_53 : decode cX3_readLine 53 = .ok (.invokevirtual 75, 3) := by decide +kernel
theorem dX3_readLine_56 : decode cX3_readLine 56 = .ok (.ireturn, 1) := by decide +kernel
theorem dX3_readLine_37 : decode cX3_readLine 37 = .ok (.aload_n 0, 1) := by decide +kernel
theorem dX3_readLine_38 : decode cX3_readLine 38 = .ok (.iconst 2, 1) := by decide +kernel
theorem dX3_readLine_39 : decode cX3_readLine 39 = .ok (.invokevirtual 75, 3) := by decide +kernel
theorem dX3_readLine_42 : decode cX3_readLine 42 = .ok (.ireturn, 1) := by decide +kernel
def rm_X3_readLine : Room := { frames := 3, cells := 0, slots := 0, locals := 70 }
set_option maxHeartbeats 4000000 in
set_option maxRecDepth 100000 in
theorem s_X3_readLine (l : Launch) (D : va_G) (cy : Nat → ClassId) (L : List Nat) (R O : Nat → Nat) (f0 : Nat → va_E) (a0 : Nat) (m_a0 : a0 ∈ L) (r_a0 : R a0 = 3) (a1 : Nat) (m_a1 : a1 ∈ L) (r_a1 : R a1 = 56) (x2 : Int32) : ∀ sz, Met l yX3_readLine (Cond.code yX3_readLine cX3_readLine 3 (some .boolean) :: wsL_law) rm_X3_readLine (va_Pc [.ref a0, .ref a1, .int x2] (tPZ D cy L R (TT cy L R) f0 sz)) (va_Qi (fun (r : Int32) f1 => fr L R [(3, 2), (3, 3), (3, 8), (3, 12), (4, 1)] [3, 4, 23, 30, 31, 59, 60] f0 f1 ∧ 0 ≤ r.toInt ∧ r.toInt ≤ 1) (tB D (tA L sz) L R (TT cy L R)) (tA L sz)) 0 0 (tA L sz) := by
  refine tw_enteri (by decide +kernel) rfl (Nat.le_of_ble_eq_true rfl) ?_
  intro p e s m below meth c A ls args Q F hZ h hl hret
  have hl : lv_has ls 3 [(0, .ref a0), (1, .ref a1), (2, .int x2)] := hl
  have hk : fr L R [(3, 2), (3, 3), (3, 8), (3, 12), (4, 1)] [3, 4, 23, 30, 31, 59, 60] f0 f0 := fr.rf
  have t_a0_at := h.bfi m_a0 r_a0 (fun e q => (T_3 e).mp q) (k := 12) rfl
  have t_a0_tokenCount := h.bfi m_a0 r_a0 (fun e q => (T_3 e).mp q) (k := 8) rfl
  refine lv_aload_n F.1 F.2.1 dX3_readLine_0 rfl (lv_at hl 0 rfl) ?_
  refine lv_aload_n F.1 F.2.1 dX3_readLine_1 rfl (lv_at hl 1 rfl) ?_
  refine lv_iload_n F.1 F.2.1 dX3_readLine_2 rfl (lv_at hl 2 rfl) ?_
  refine tw_Vv (As := [.ref a1, .int x2]) F hZ h yk_X3_open mw_387 mw_388 mw_389 (s_X3_open l D cy L R O f0 a0 m_a0 r_a0 a1 m_a1 r_a1 x2) rfl rfl m_a0 r_a0 (fun e q => (T_3 e).mp q) rfl hl.1 rfl (Nat.le_of_ble_eq_true rfl) ⟨Nat.le_of_ble_eq_true rfl, Nat.le_of_ble_eq_true rfl⟩ ⟨Nat.le_of_ble_eq_true rfl, Nat.le_of_ble_eq_true rfl⟩ dX3_readLine_3 (fun f1 H locs hp1 h => ?_)
  obtain ⟨hf1, hv2p0, hv2p1⟩ := hp1
  have hk : fr L R [(3, 2), (3, 3), (3, 8), (3, 12), (4, 1)] [3, 4, 23, 30, 31, 59, 60] f0 f1 := hk.tr hf1 rfl rfl
  refine lv_aload_n F.1 F.2.1 dX3_readLine_6 rfl (lv_at hl 0 rfl) ?_
  refine g_3_12 F h m_a0 r_a0 dX3_readLine_7 (fun o3 m_o3 r_o3 ho3 => ?_)
  refine tw_Vv (As := []) F hZ h yk_X4_clear mw_412 mw_413 mw_414 (s_X4_clear l D cy L R O f1 o3 m_o3 r_o3) rfl rfl m_o3 r_o3 (fun e q => (T_4 e).mp q) rfl hl.1 rfl (Nat.le_of_ble_eq_true rfl) ⟨Nat.le_of_ble_eq_true rfl, Nat.le_of_ble_eq_true rfl⟩ ⟨Nat.le_of_ble_eq_true rfl, Nat.le_of_ble_eq_true rfl⟩ dX3_readLine_10 (fun f4 H locs hp4 h => ?_)
  have hf4 := hp4
  have hk : fr L R [(3, 2), (3, 3), (3, 8), (3, 12), (4, 1)] [3, 4, 23, 30, 31, 59, 60] f0 f4 := hk.tr hf4 rfl rfl
  have e6 : fi f4 a0 12 = fi f1 a0 12 := hf4.efi m_a0 r_a0 rfl
  have e7 : fi f4 a0 8 = fi f1 a0 8 := hf4.efi m_a0 r_a0 rfl
  have e8 : fld f4 a0 0 = .ref o3 := (hf4.efl m_a0 r_a0 rfl).trans ho3
  refine lv_aload_n F.1 F.2.1 dX3_readLine_13 rfl (lv_at hl 0 rfl) ?_
  refine tw_iconst F dX3_readLine_14 ki_0 (fun z9 hz9 => ?_)
  refine p_3_58 F h m_a0 r_a0 (by omega) dX3_readLine_15 (fun f10 H locs e10p hf10 h => ?_)
  have hk : fr L R [(3, 2), (3, 3), (3, 8), (3, 12), (4, 1)] [3, 4, 23, 30, 31, 59, 60] f0 f10 := hk.tr hf10 rfl rfl
  have e11 : fi f10 a0 8 = fi f4 a0 8 := hf10.efi m_a0 r_a0 rfl
  have e12 : fld f10 a0 0 = .ref o3 := (hf10.efl m_a0 r_a0 rfl).trans e8
  have j_18 : ∀ (n18 : Nat) (f13 : Nat → va_E) (H : Heap) (locs : List Loc) (ls : Array Slot), 0 ≤ fi f13 a0 12 → ((600 - fi f13 a0 12)).toNat < n18 → tS D cy A s.heap L R (TT cy L R) f13 s H locs → fr L R [(3, 2), (3, 3), (3, 8), (3, 12), (4, 1)] [3, 4, 23, 30, 31, 59, 60] f0 f13 → fr L R [(3, 12), (4, 1)] [3, 4, 23] f10 f13 → lv_has ls 3 [(0, .ref a0)] → W p l e rm_X3_readLine s m args below meth c H locs 0 0 Q (F0 m 18 ls []) := by
    intro n18
    induction n18 with
    | zero =>
      intro f13 H locs ls b14 b15 h hk hb18 hl
      exfalso
      omega
    | succ n18 ih18 =>
      intro f13 H locs ls b14 b15 h hk hb18 hl
      have e16 : fi f13 a0 8 = fi f10 a0 8 := hb18.efi m_a0 r_a0 rfl
      have e17 : fld f13 a0 0 = .ref o3 := (hb18.efl m_a0 r_a0 rfl).trans e12
      refine lv_aload_n F.1 F.2.1 dX3_readLine_18 rfl (lv_at hl 0 rfl) ?_
      refine g_3_58 F h m_a0 r_a0 dX3_readLine_19 (fun v18 hv18 hv18a hv18b => ?_)
      refine lv_aload_n F.1 F.2.1 dX3_readLine_22 rfl (lv_at hl 0 rfl) ?_
      refine g_3_46 F h m_a0 r_a0 dX3_readLine_23 (fun v19 hv19 hv19a hv19b => ?_)
      refine tw_icmp_ge (tgt := 99) F dX3_readLine_26 (by decide) (fun b20 => ?_) (fun b20 => ?_)
      · refine tw_iconst F dX3_readLine_99 ki_1 (fun z21 hz21 => ?_)
        exact hret f13 _ _ _ _ z21 dX3_readLine_100 (tw_nb (by omega)) ⟨hk, by omega, by omega⟩ h
      · refine lv_aload_n F.1 F.2.1 dX3_readLine_29 rfl (lv_at hl 0 rfl) ?_
        refine tw_Vi (As := []) F hZ h yk_X3_kind mw_416 mw_417 mw_418 (s_X3_kind l D cy L R O f13 a0 m_a0 r_a0) rfl rfl m_a0 r_a0 (fun e q => (T_3 e).mp q) rfl hl.1 rfl (Nat.le_of_ble_eq_true rfl) ⟨Nat.le_of_ble_eq_true rfl, Nat.le_of_ble_eq_true rfl⟩ ⟨Nat.le_of_ble_eq_true rfl, Nat.le_of_ble_eq_true rfl⟩ dX3_readLine_30 (fun v23 f22 H locs hp22 h => ?_)
        obtain ⟨rfl, hv23p0⟩ := hp22
        refine tw_iconst F dX3_readLine_33 ki_2 (fun z24 hz24 => ?_)
        refine tw_icmp_ne (tgt := 43) F dX3_readLine_34 (by decide) (fun b25 => ?_) (fun b25 => ?_)
        · refine lv_aload_n F.1 F.2.1 dX3_readLine_43 rfl (lv_at hl 0 rfl) ?_
          refine tw_Vi (As := []) F hZ h yk_X3_kind mw_416 mw_417 mw_418 (s_X3_kind l D cy L R O f13 a0 m_a0 r_a0) rfl rfl m_a0 r_a0 (fun e q => (T_3 e).mp q) rfl hl.1 rfl (Nat.le_of_ble_eq_true rfl) ⟨Nat.le_of_ble_eq_true rfl, Nat.le_of_ble_eq_true rfl⟩ ⟨Nat.le_of_ble_eq_true rfl, Nat.le_of_ble_eq_true rfl⟩ dX3_readLine_44 (fun v27 f26 H locs hp26 h => ?_)
          obtain ⟨rfl, hv27p0⟩ := hp26
          refine tw_iconst F dX3_readLine_47 ki_1 (fun z28 hz28 => ?_)
          refine tw_icmp_eq (tgt := 57) F dX3_readLine_48 (by decide) (fun b29 => ?_) (fun b29 => ?_)
          · refine lv_aload_n F.1 F.2.1 dX3_readLine_57 rfl (lv_at hl 0 rfl) ?_
            refine g_3_12 F h m_a0 r_a0 dX3_readLine_58 (fun o30 m_o30 r_o30 ho30 => ?_)
            obtain rfl := (fld_inj e17 ho30).symm
            refine g_3_79 F h m_o3 r_o3 dX3_readLine_61 (fun v31 hv31 hv31a hv31b => ?_)
            refine tw_bipush F dX3_readLine_64 kb_12 (fun z32 hz32 => ?_)
            refine tw_icmp_lt (tgt := 75) F dX3_readLine_66 (by decide) (fun b33 => ?_) (fun b33 => ?_)
            · refine lv_aload_n F.1 F.2.1 dX3_readLine_75 rfl (lv_at hl 0 rfl) ?_
              refine g_3_12 F h m_a0 r_a0 dX3_readLine_76 (fun o34 m_o34 r_o34 ho34 => ?_)
              obtain rfl := (fld_inj e17 ho34).symm
              refine lv_aload_n F.1 F.2.1 dX3_readLine_79 rfl (lv_at hl 0 rfl) ?_
              refine tw_Vl (As := []) F hZ h yk_X3_value mw_424 mw_425 mw_426 (s_X3_value l D cy L R O f13 a0 m_a0 r_a0) rfl rfl m_a0 r_a0 (fun e q => (T_3 e).mp q) rfl hl.1 rfl (Nat.le_of_ble_eq_true rfl) ⟨Nat.le_of_ble_eq_true rfl, Nat.le_of_ble_eq_true rfl⟩ ⟨Nat.le_of_ble_eq_true rfl, Nat.le_of_ble_eq_true rfl⟩ dX3_readLine_80 (fun v36 f35 H locs hp35 h => ?_)
              obtain ⟨rfl, hv36p0⟩ := hp35
              refine tw_Vv (As := [.long v36]) F hZ h yk_X4_add mw_429 mw_430 mw_431 (s_X4_add l D cy L R O f13 o3 m_o3 r_o3 v36) rfl rfl m_o3 r_o3 (fun e q => (T_4 e).mp q) rfl hl.1 rfl (Nat.le_of_ble_eq_true rfl) ⟨Nat.le_of_ble_eq_true rfl, Nat.le_of_ble_eq_true rfl⟩ ⟨Nat.le_of_ble_eq_true rfl, Nat.le_of_ble_eq_true rfl⟩ dX3_readLine_83 (fun f37 H locs hp37 h => ?_)
              have hf37 := hp37
              have hk : fr L R [(3, 2), (3, 3), (3, 8), (3, 12), (4, 1)] [3, 4, 23, 30, 31, 59, 60] f0 f37 := hk.tr hf37 rfl rfl
              have hb18 : fr L R [(3, 12), (4, 1)] [3, 4, 23] f10 f37 := hb18.tr hf37 rfl rfl
              have e39 : fi f37 a0 8 = fi f13 a0 8 := hf37.efi m_a0 r_a0 rfl
              have e40 : fld f37 a0 0 = .ref o3 := (hf37.efl m_a0 r_a0 rfl).trans e17
              have e41 : fi f37 a0 12 = fi f13 a0 12 := hf37.efi m_a0 r_a0 rfl
              refine lv_aload_n F.1 F.2.1 dX3_readLine_86 rfl (lv_at hl 0 rfl) ?_
              refine lv_dup F.1 F.2.1 dX3_readLine_87 rfl ?_
              refine g_3_58 F h m_a0 r_a0 dX3_readLine_88 (fun v42 hv42 hv42a hv42b => ?_)
              refine tw_iconst F dX3_readLine_91 ki_1 (fun z43 hz43 => ?_)
              refine tu_iadd F dX3_readLine_92 (by omega) (fun z44 hz44 => ?_)
              refine p_3_58 F h m_a0 r_a0 (by omega) dX3_readLine_93 (fun f45 H locs e45p hf45 h => ?_)
              have hk : fr L R [(3, 2), (3, 3), (3, 8), (3, 12), (4, 1)] [3, 4, 23, 30, 31, 59, 60] f0 f45 := hk.tr hf45 rfl rfl
              have hb18 : fr L R [(3, 12), (4, 1)] [3, 4, 23] f10 f45 := hb18.tr hf45 rfl rfl
              have e46 : fi f45 a0 8 = fi f37 a0 8 := hf45.efi m_a0 r_a0 rfl
              have e47 : fld f45 a0 0 = .ref o3 := (hf45.efl m_a0 r_a0 rfl).trans e40
              refine lv_goto (tgt := 18) F.1 F.2.1 dX3_readLine_96 (by decide) ?_
              exact ih18 f45 _ _ _ (by omega) (by omega) h hk hb18 (lv_sub hl [0] rfl)
            · refine lv_aload_n F.1 F.2.1 dX3_readLine_69 rfl (lv_at hl 0 rfl) ?_
              refine tw_iconst F dX3_readLine_70 ki_3 (fun z48 hz48 => ?_)
              refine tw_Vi (As := [.int z48]) F hZ h yk_X3_fail mw_420 mw_421 mw_422 (s_X3_fail l D cy L R O f13 a0 m_a0 r_a0 z48 ⟨by omega, by omega⟩) rfl rfl m_a0 r_a0 (fun e q => (T_3 e).mp q) rfl hl.1 rfl (Nat.le_of_ble_eq_true rfl) ⟨Nat.le_of_ble_eq_true rfl, Nat.le_of_ble_eq_true rfl⟩ ⟨Nat.le_of_ble_eq_true rfl, Nat.le_of_ble_eq_true rfl⟩ dX3_readLine_71 (fun v50 f49 H locs hp49 h => ?_)
              obtain ⟨hf49, hv50a, hv50b⟩ := hp49
              have hk : fr L R [(3, 2), (3, 3), (3, 8), (3, 12), (4, 1)] [3, 4, 23, 30, 31, 59, 60] f0 f49 := hk.tr hf49 rfl rfl
              have e51 : fi f49 a0 8 = fi f13 a0 8 := hf49.efi m_a0 r_a0 rfl
              have e52 : fld f49 a0 0 = .ref o3 := (hf49.efl m_a0 r_a0 rfl).trans e17
              have e53 : fi f49 a0 12 = fi f13 a0 12 := hf49.efi m_a0 r_a0 rfl
              exact hret f49 _ _ _ _ v50 dX3_readLine_74 (tw_nb (by omega)) ⟨hk, by omega, by omega⟩ h
          · refine lv_aload_n F.1 F.2.1 dX3_readLine_51 rfl (lv_at hl 0 rfl) ?_
            refine tw_iconst F dX3_readLine_52 ki_1 (fun z54 hz54 => ?_)
            refine tw_Vi (As := [.int z54]) F hZ h yk_X3_fail mw_420 mw_421 mw_422 (s_X3_fail l D cy L R O f13 a0 m_a0 r_a0 z54 ⟨by omega, by omega⟩) rfl rfl m_a0 r_a0 (fun e q => (T_3 e).mp q) rfl hl.1 rfl (Nat.le_of_ble_eq_true rfl) ⟨Nat.le_of_ble_eq_true rfl, Nat.le_of_ble_eq_true rfl⟩ ⟨Nat.le_of_ble_eq_true rfl, Nat.le_of_ble_eq_true rfl⟩ dX3_readLine_53 (fun v56 f55 H locs hp55 h => ?_)
            obtain ⟨hf55, hv56a, hv56b⟩ := hp55
            have hk : fr L R [(3, 2), (3, 3), (3, 8), (3, 12), (4, 1)] [3, 4, 23, 30, 31, 59, 60] f0 f55 := hk.tr hf55 rfl rfl
            have e57 : fi f55 a0 8 = fi f13 a0 8 := hf55.efi m_a0 r_a0 rfl
            have e58 : fld f55 a0 0 = .ref o3 := (hf55.efl m_a0 r_a0 rfl).trans e17
            have e59 : fi f55 a0 12 = fi f13 a0 12 := hf55.efi m_a0 r_a0 rfl
            exact hret f55 _ _ _ _ v56 dX3_readLine_56 (tw_nb (by omega)) ⟨hk, by omega, by omega⟩ h
        · refine lv_aload_n F.1 F.2.1 dX3_readLine_37 rfl (lv_at hl 0 rfl) ?_
          refine tw_iconst F dX3_readLine_38 ki_2 (fun z60 hz60 => ?_)
          refine tw_Vi (As := [.int z60]) F hZ h yk_X3_fail mw_420 mw_421 mw_422 (s_X3_fail l D cy L R O f13 a0 m_a0 r_a0 z60 ⟨by omega, by omega⟩) rfl rfl m_a0 r_a0 (fun e q => (T_3 e).mp q) rfl hl.1 rfl (Nat.le_of_ble_eq_true rfl) ⟨Nat.le_of_ble_eq_true rfl, Nat.le_of_ble_eq_true rfl⟩ ⟨Nat.le_of_ble_eq_true rfl, Nat.le_of_ble_eq_true rfl⟩ dX3_readLine_39 (fun v62 f61 H locs hp61 h => ?_)
          obtain ⟨hf61, hv62a, hv62b⟩ := hp61
          have hk : fr L R [(3, 2), (3, 3), (3, 8), (3, 12), (4, 1)] [3, 4, 23, 30, 31, 59, 60] f0 f61 := hk.tr hf61 rfl rfl
          have e63 : fi f61 a0 8 = fi f13 a0 8 := hf61.efi m_a0 r_a0 rfl
          have e64 : fld f61 a0 0 = .ref o3 := (hf61.efl m_a0 r_a0 rfl).trans e17
          have e65 : fi f61 a0 12 = fi f13 a0 12 := hf61.efi m_a0 r_a0 rfl
          exact hret f61 _ _ _ _ v62 dX3_readLine_42 (tw_nb (by omega)) ⟨hk, by omega, by omega⟩ h
  have hb18 : fr L R [(3, 12), (4, 1)] [3, 4, 23] f10 f10 := fr.rf
  exact j_18 (((600 - fi f10 a0 12)).toNat + 1) f10 _ _ _ (by omega) (by omega) h hk hb18 (lv_sub hl [0] rfl)
