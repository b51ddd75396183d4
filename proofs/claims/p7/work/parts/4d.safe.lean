theorem dX6_addKey_0 : decode cX6_addKey 0 = .ok (.aload_n 0, 1) := by decide +kernel
theorem dX6_addKey_1 : decode cX6_addKey 1 = .ok (.getfield 59, 3) := by decide +kernel
theorem mw_95 : Cond.fieldLink RX6 59 "AskBack$Script" "keyCount" "I" ∈ wsL_law := inr_4 _ (List.mem_of_getElem? (i := 23) rfl)
section
variable {p : Program} {l : Launch} {e : Env} {R0 : Room} {s : State} {m : MethodId} {args : Array Value} {below : List Frame} {meth : Method} {c : Code} {H H0 : Heap} {locs : List Loc} {cells slots : Nat} {Q : State → Prop} {cc : ByteArray} {nL : Nat} {D : va_G} {cy : Nat → ClassId} {A : Nat → Prop} {L : List Nat} {R : Nat → Nat} {f : Nat → va_E} {pc : Nat} {ls : Array Slot} {rest : List Value} {a : Nat}
theorem g_6_59 (F : CallFix p m c cc nL s args wsL_law RX6) (h : tS D cy A H0 L R (TT cy L R) f s H locs) (ha : a ∈ L) (hr : R a = 6) (hdg : decode cc pc = .ok (.getfield 59, 3)) (kk : ∀ x : Int32, x.toInt = fi f a 15 → 0 ≤ x.toInt → x.toInt ≤ 12 → W p l e R0 s m args below meth c H locs cells slots Q (F0 m (pc + 3) ls (.int x :: rest))) : W p l e R0 s m args below meth c H locs cells slots Q (F0 m pc ls (.ref a :: rest)) := tu_geti F h ha hr (fun e q => (T_6 e).mp q) rfl inlX6 rfl (Nat.le_of_ble_eq_true rfl) mw_95 hdg (fun x h1 h2 h3 => kk x h1 h2 h3)
end
theorem dX6_addKey_4 : decode cX6_addKey 4 = .ok (.bipush 12, 2) := by decide +kernel
theorem dX6_addKey_6 : decode cX6_addKey 6 = .ok (.if_icmp .ge 59, 3) := by decide +kernel
theorem dX6_addKey_65 : decode cX6_addKey 65 = .ok (.return_, 1) := by decide +kernel
theorem dX6_addKey_9 : decode cX6_addKey 9 = .ok (.aload_n 0, 1) := by decide +kernel
theorem dX6_addKey_10 : decode cX6_addKey 10 = .ok (.getfield 15, 3) := by decide +kernel
theorem mw_81 : Cond.fieldLink RX6 15 "AskBack$Script" "keyNames" "[J" ∈ wsL_law := inr_4 _ (List.mem_of_getElem? (i := 9) rfl)
section
variable {p : Program} {l : Launch} {e : Env} {R0 : Room} {s : State} {m : MethodId} {args : Array Value} {below : List Frame} {meth : Method} {c : Code} {H H0 : Heap} {locs : List Loc} {cells slots : Nat} {Q : State → Prop} {cc : ByteArray} {nL : Nat} {D : va_G} {cy : Nat → ClassId} {A : Nat → Prop} {L : List Nat} {R : Nat → Nat} {f : Nat → va_E} {pc : Nat} {ls : Array Slot} {rest : List Value} {a : Nat}
theorem g_6_15 (F : CallFix p m c cc nL s args wsL_law RX6) (h : tS D cy A H0 L R (TT cy L R) f s H locs) (ha : a ∈ L) (hr : R a = 6) (hdg : decode cc pc = .ok (.getfield 15, 3)) (kk : ∀ b : Nat, b ∈ L → R b = 23 → fld f a 1 = .ref b → W p l e R0 s m args below meth c H locs cells slots Q (F0 m (pc + 3) ls (.ref b :: rest))) : W p l e R0 s m args below meth c H locs cells slots Q (F0 m pc ls (.ref a :: rest)) := tu_getr F h ha hr (fun e q => (T_6 e).mp q) rfl inlX6 rfl (Nat.le_of_ble_eq_true rfl) mw_81 hdg kk
end
theorem dX6_addKey_13 : decode cX6_addKey 13 = .ok (.aload_n 0, 1) := by decide +kernel
theorem dX6_addKey_14 : decode cX6_addKey 14 = .ok (.getfield 59, 3) := by decide +kernel
theorem dX6_addKey_17 : decode cX6_addKey 17 = .ok (.lload_n 1, 1) := by decide +kernel
theorem dX6_addKey_18 : decode cX6_addKey 18 = .ok (.lastore, 1) := by decide +kernel
theorem dX6_addKey_19 : decode cX6_addKey 19 = .ok (.aload_n 0, 1) := by decide +kernel
theorem dX6_addKey_20 : decode cX6_addKey 20 = .ok (.getfield 18, 3) := by decide +kernel
theorem mw_82 : Cond.fieldLink RX6 18 "AskBack$Script" "keyRanks" "[I" ∈ wsL_law := inr_4 _ (List.mem_of_getElem? (i := 10) rfl)
section
variable {p : Program} {l : Launch} {e : Env} {R0 : Room} {s : State} {m : MethodId} {args : Array Value} {below : List Frame} {meth : Method} {c : Code} {H H0 : Heap} {locs : List Loc} {cells slots : Nat} {Q : State → Prop} {cc : ByteArray} {nL : Nat} {D : va_G} {cy : Nat → ClassId} {A : Nat → Prop} {L : List Nat} {R : Nat → Nat} {f : Nat → va_E} {pc : Nat} {ls : Array Slot} {rest : List Value} {a : Nat}
theorem g_6_18 (F : CallFix p m c cc nL s args wsL_law RX6) (h : tS D cy A H0 L R (TT cy L R) f s H locs) (ha : a ∈ L) (hr : R a = 6) (hdg : decode cc pc = .ok (.getfield 18, 3)) (kk : ∀ b : Nat, b ∈ L → R b = 36 → fld f a 2 = .ref b → W p l e R0 s m args below meth c H locs cells slots Q (F0 m (pc + 3) ls (.ref b :: rest))) : W p l e R0 s m args below meth c H locs cells slots Q (F0 m pc ls (.ref a :: rest)) := tu_getr F h ha hr (fun e q => (T_6 e).mp q) rfl inlX6 rfl (Nat.le_of_ble_eq_true rfl) mw_82 hdg kk
end
theorem dX6_addKey_23 : decode cX6_addKey 23 = .ok (.aload_n 0, 1) := by decide +kernel
theorem dX6_addKey_24 : decode cX6_addKey 24 = .ok (.getfield 59, 3) := by decide +kernel
theorem dX6_addKey_27 : decode cX6_addKey 27 = .ok (.iload_n 3, 1) := by decide +kernel
theorem dX6_addKey_28 : decode cX6_addKey 28 = .ok (.iastore, 1) := by decide +kernel
section
variable {p : Program} {l : Launch} {e : Env} {R0 : Room} {s : State} {m : MethodId} {args : Array Value} {below : List Frame} {meth : Method} {c : Code} {H H0 : Heap} {locs : List Loc} {cells slots : Nat} {Q : State → Prop} {cc : ByteArray} {nL : Nat} {D : va_G} {cy : Nat → ClassId} {A : Nat → Prop} {L : List Nat} {R : Nat → Nat} {f : Nat → va_E} {pc : Nat} {ls : Array Slot} {rest : List Value} {a : Nat}
theorem st_36 {own : String} (F : CallFix p m c cc nL s args wsL_law own) (h : tS D cy A H0 L R (TT cy L R) f s H locs) {i : Int32} {x : Int32} (ha : a ∈ L) (hr : R a = 36) (hb : 0 ≤ i.toInt ∧ i.toInt < 12) (hdg : decode cc pc = .ok (.iastore, 1)) (kk : ∀ (f1 : Nat → va_E) (H1 : Heap) (locs1 : List Loc), fr L R [] [36] f f1 → tS D cy A H0 L R (TT cy L R) f1 s H1 locs1 → W p l e R0 s m args below meth c H1 locs1 cells slots Q (F0 m (pc + 1) ls (rest))) : W p l e R0 s m args below meth c H locs cells slots Q (F0 m pc ls (.int x :: .int i :: .ref a :: rest)) := tu_iast F h ha hr T_36 hb.1 hb.2 trivial hdg (fun f1 H1 locs1 h1 h2 h3 h4 => kk f1 H1 locs1 h3 h4)
end
theorem dX6_addKey_29 : decode cX6_addKey 29 = .ok (.aload_n 0, 1) := by decide +kernel
theorem dX6_addKey_30 : decode cX6_addKey 30 = .ok (.getfield 22, 3) := by decide +kernel
theorem mw_83 : Cond.fieldLink RX6 22 "AskBack$Script" "keyStarts" "[I" ∈ wsL_law := inr_4 _ (List.mem_of_getElem? (i := 11) rfl)
section
variable {p : Program} {l : Launch} {e : Env} {R0 : Room} {s : State} {m : MethodId} {args : Array Value} {below : List Frame} {meth : Method} {c : Code} {H H0 : Heap} {locs : List Loc} {cells slots : Nat} {Q : State → Prop} {cc : ByteArray} {nL : Nat} {D : va_G} {cy : Nat → ClassId} {A : Nat → Prop} {L : List Nat} {R : Nat → Nat} {f : Nat → va_E} {pc : Nat} {ls : Array Slot} {rest : List Value} {a : Nat}
theorem g_6_22 (F : CallFix p m c cc nL s args wsL_law RX6) (h : tS D cy A H0 L R (TT cy L R) f s H locs) (ha : a ∈ L) (hr : R a = 6) (hdg : decode cc pc = .ok (.getfield 22, 3)) (kk : ∀ b : Nat, b ∈ L → R b = 37 → fld f a 3 = .ref b → W p l e R0 s m args below meth c H locs cells slots Q (F0 m (pc + 3) ls (.ref b :: rest))) : W p l e R0 s m args below meth c H locs cells slots Q (F0 m pc ls (.ref a :: rest)) := tu_getr F h ha hr (fun e q => (T_6 e).mp q) rfl inlX6 rfl (Nat.le_of_ble_eq_true rfl) mw_83 hdg kk
end
theorem dX6_addKey_33 : decode cX6_addKey 33 = .ok (.aload_n 0, 1) := by decide +kernel
theorem dX6_addKey_34 : decode cX6_addKey 34 = .ok (.getfield 59, 3) := by decide +kernel
theorem dX6_addKey_37 : decode cX6_addKey 37 = .ok (.aload_n 0, 1) := by decide +kernel
theorem dX6_addKey_38 : decode cX6_addKey 38 = .ok (.getfield 65, 3) := by decide +kernel
theorem mw_97 : Cond.fieldLink RX6 65 "AskBack$Script" "ruleCount" "I" ∈ wsL_law := inr_5 _ (List.mem_of_getElem? (i := 1) rfl)
section
variable {p : Program} {l : Launch} {e : Env} {R0 : Room} {s : State} {m : MethodId} {args : Array Value} {below : List Frame} {meth : Method} {c : Code} {H H0 : Heap} {locs : List Loc} {cells slots : Nat} {Q : State → Prop} {cc : ByteArray} {nL : Nat} {D : va_G} {cy : Nat → ClassId} {A : Nat → Prop} {L : List Nat} {R : Nat → Nat} {f : Nat → va_E} {pc : Nat} {ls : Array Slot} {rest : List Value} {a : Nat}
theorem g_6_65 (F : CallFix p m c cc nL s args wsL_law RX6) (h : tS D cy A H0 L R (TT cy L R) f s H locs) (ha : a ∈ L) (hr : R a = 6) (hdg : decode cc pc = .ok (.getfield 65, 3)) (kk : ∀ x : Int32, x.toInt = fi f a 17 → 0 ≤ x.toInt → x.toInt ≤ 24 → W p l e R0 s m args below meth c H locs cells slots Q (F0 m (pc + 3) ls (.int x :: rest))) : W p l e R0 s m args below meth c H locs cells slots Q (F0 m pc ls (.ref a :: rest)) := tu_geti F h ha hr (fun e q => (T_6 e).mp q) rfl inlX6 rfl (Nat.le_of_ble_eq_true rfl) mw_97 hdg (fun x h1 h2 h3 => kk x h1 h2 h3)
end
theorem dX6_addKey_41 : decode cX6_addKey 41 = .ok (.iastore, 1) := by decide +kernel
section
variable {p : Program} {l : Launch} {e : Env} {R0 : Room} {s : State} {m : MethodId} {args : Array Value} {below : List Frame} {meth : Method} {c : Code} {H H0 : Heap} {locs : List Loc} {cells slots : Nat} {Q : State → Prop} {cc : ByteArray} {nL : Nat} {D : va_G} {cy : Nat → ClassId} {A : Nat → Prop} {L : List Nat} {R : Nat → Nat} {f : Nat → va_E} {pc : Nat} {ls : Array Slot} {rest : List Value} {a : Nat}
theorem st_37 {own : String} (F : CallFix p m c cc nL s args wsL_law own) (h : tS D cy A H0 L R (TT cy L R) f s H locs) {i : Int32} {x : Int32} (ha : a ∈ L) (hr : R a = 37) (hb : 0 ≤ i.toInt ∧ i.toInt < 12) (hv : 0 ≤ x.toInt ∧ x.toInt ≤ 24) (hdg : decode cc pc = .ok (.iastore, 1)) (kk : ∀ (f1 : Nat → va_E) (H1 : Heap) (locs1 : List Loc), fr L R [] [37] f f1 → tS D cy A H0 L R (TT cy L R) f1 s H1 locs1 → W p l e R0 s m args below meth c H1 locs1 cells slots Q (F0 m (pc + 1) ls (rest))) : W p l e R0 s m args below meth c H locs cells slots Q (F0 m pc ls (.int x :: .int i :: .ref a :: rest)) := tu_iast F h ha hr T_37 hb.1 hb.2 hv hdg (fun f1 H1 locs1 h1 h2 h3 h4 => kk f1 H1 locs1 h3 h4)
end
theorem dX6_addKey_42 : decode cX6_addKey 42 = .ok (.aload_n 0, 1) := by decide +kernel
theorem dX6_addKey_43 : decode cX6_addKey 43 = .ok (.getfield 25, 3) := by decide +kernel
theorem mw_84 : Cond.fieldLink RX6 25 "AskBack$Script" "keyEnds" "[I" ∈ wsL_law := inr_4 _ (List.mem_of_getElem? (i := 12) rfl)
section
variable {p : Program} {l : Launch} {e : Env} {R0 : Room} {s : State} {m : MethodId} {args : Array Value} {below : List Frame} {meth : Method} {c : Code} {H H0 : Heap} {locs : List Loc} {cells slots : Nat} {Q : State → Prop} {cc : ByteArray} {nL : Nat} {D : va_G} {cy : Nat → ClassId} {A : Nat → Prop} {L : List Nat} {R : Nat → Nat} {f : Nat → va_E} {pc : Nat} {ls : Array Slot} {rest : List Value} {a : Nat}
theorem g_6_25 (F : CallFix p m c cc nL s args wsL_law RX6) (h : tS D cy A H0 L R (TT cy L R) f s H locs) (ha : a ∈ L) (hr : R a = 6) (hdg : decode cc pc = .ok (.getfield 25, 3)) (kk : ∀ b : Nat, b ∈ L → R b = 37 → fld f a 4 = .ref b → W p l e R0 s m args below meth c H locs cells slots Q (F0 m (pc + 3) ls (.ref b :: rest))) : W p l e R0 s m args below meth c H locs cells slots Q (F0 m pc ls (.ref a :: rest)) := tu_getr F h ha hr (fun e q => (T_6 e).mp q) rfl inlX6 rfl (Nat.le_of_ble_eq_true rfl) mw_84 hdg kk
end
theorem dX6_addKey_46 : decode cX6_addKey 46 = .ok (.aload_n 0, 1) := by decide +kernel
theorem dX6_addKey_47 : decode cX6_addKey 47 = .ok (.getfield 59, 3) := by decide +kernel
theorem dX6_addKey_50 : decode cX6_addKey 50 = .ok (.aload_n 0, 1) := by decide +kernel
theorem dX6_addKey_51 : decode cX6_addKey 51 = .ok (.getfield 65, 3) := by decide +kernel
theorem dX6_addKey_54 : decode cX6_addKey 54 = .ok (.iastore, 1) := by decide +kernel
theorem dX6_addKey_55 : decode cX6_addKey 55 = .ok (.aload_n 0, 1) := by decide +kernel
theorem dX6_addKey_56 : decode cX6_addKey 56 = .ok (.dup, 1) := by decide +kernel
theorem dX6_addKey_57 : decode cX6_addKey 57 = .ok (.getfield 59, 3) := by decide +kernel
theorem dX6_addKey_60 : decode cX6_addKey 60 = .ok (.iconst 1, 1) := by decide +kernel
theorem dX6_addKey_61 : decode cX6_addKey 61 = .ok (.iadd, 1) := by decide +kernel
theorem dX6_addKey_62 : decode cX6_addKey 62 = .ok (.putfield 59, 3) := by decide +kernel
section
variable {p : Program} {l : Launch} {e : Env} {R0 : Room} {s : State} {m : MethodId} {args : Array Value} {below : List Frame} {meth : Method} {c : Code} {H H0 : Heap} {locs : List Loc} {cells slots : Nat} {Q : State → Prop} {cc : ByteArray} {nL : Nat} {D : va_G} {cy : Nat → ClassId} {A : Nat → Prop} {L : List Nat} {R : Nat → Nat} {f : Nat → va_E} {pc : Nat} {ls : Array Slot} {rest : List Value} {a : Nat}
theorem pe_6_59 (F : CallFix p m c cc nL s args wsL_law RX6) (h : tS D cy A H0 L R (TT cy L R) f s H locs) {x : Int32} (ha : a ∈ L) (hr : R a = 6) (hv : 0 ≤ x.toInt ∧ x.toInt ≤ 12) (hdg : decode cc pc = .ok (.putfield 59, 3)) (kk : ∀ (f1 : Nat → va_E) (H1 : Heap) (locs1 : List Loc), fld f1 a 15 = .int x → (∀ a', a' ≠ a → f1 a' = f a') → fr L R [(6, 15)] [6] f f1 → tS D cy A H0 L R (TT cy L R) f1 s H1 locs1 → W p l e R0 s m args below meth c H1 locs1 cells slots Q (F0 m (pc + 3) ls (rest))) : W p l e R0 s m args below meth c H locs cells slots Q (F0 m pc ls (.int x :: .ref a :: rest)) := tu_putiE (k := 15) F h ha hr T_6 rfl hv.1 hv.2 inlX6 tyX6_ok nmX6 rfl (Nat.le_of_ble_eq_true rfl) mw_95 rfl rfl rfl hdg kk
end
def rm_X6_addKey : Room := { frames := 0, cells := 0, slots := 0, locals := 0 }
set_option maxHeartbeats 4000000 in
set_option maxRecDepth 100000 in
theorem s_X6_addKey (l : Launch) (D : va_G) (cy : Nat → ClassId) (L : List Nat) (R O : Nat → Nat) (f0 : Nat → va_E) (hG : GG L R O f0) (a0 : Nat) (m_a0 : a0 ∈ L) (r_a0 : R a0 = 6) (x1 : Int64) (x3 : Int32) : ∀ sz, Met l yX6_addKey (Cond.code yX6_addKey cX6_addKey 4 none :: wsL_law) rm_X6_addKey (va_Pc [.ref a0, .long x1, .int x3] (tPZ D cy L R (TT cy L R) f0 sz)) (va_Qv (fun f1 => fr L R [(6, 15)] [6, 23, 36, 37] f0 f1 ∧ OB L R O a0 f0 f1) (tB D (tA L sz) L R (TT cy L R)) (tA L sz)) 0 0 (tA L sz) := by
  refine tw_enterv (by decide +kernel) rfl (Nat.le_of_ble_eq_true rfl) ?_
  intro p e s m below meth c A ls args Q F hZ h hl hret
  have hl : lv_has ls 4 [(0, .ref a0), (1, .long x1), (3, .int x3)] := hl
  have hk : fr L R [(6, 15)] [6, 23, 36, 37] f0 f0 := fr.rf
  have hX : OB L R O a0 f0 f0 := OB_rf
  refine lv_aload_n F.1 F.2.1 dX6_addKey_0 rfl (lv_at hl 0 rfl) ?_
  refine g_6_59 F h m_a0 r_a0 dX6_addKey_1 (fun v1 hv1 hv1a hv1b => ?_)
  refine tw_bipush F dX6_addKey_4 kb_12 (fun z2 hz2 => ?_)
  refine tw_icmp_ge (tgt := 65) F dX6_addKey_6 (by decide) (fun b3 => ?_) (fun b3 => ?_)
  · exact hret f0 _ _ _ _ dX6_addKey_65 ⟨hk, hX⟩ h
  · refine lv_aload_n F.1 F.2.1 dX6_addKey_9 rfl (lv_at hl 0 rfl) ?_
    refine g_6_15 F h m_a0 r_a0 dX6_addKey_10 (fun o4 m_o4 r_o4 ho4 => ?_)
    refine lv_aload_n F.1 F.2.1 dX6_addKey_13 rfl (lv_at hl 0 rfl) ?_
    refine g_6_59 F h m_a0 r_a0 dX6_addKey_14 (fun v5 hv5 hv5a hv5b => ?_)
    refine lv_lload_n F.1 F.2.1 dX6_addKey_17 rfl (lv_at hl 1 rfl) ?_
    refine st_23 F h m_o4 r_o4 (by omega) dX6_addKey_18 (fun f6 H locs hf6 h => ?_)
    have hX : OB L R O a0 f0 f6 := OB_fr hX hf6 (by decide +kernel)
    have hk : fr L R [(6, 15)] [6, 23, 36, 37] f0 f6 := hk.tr hf6 rfl rfl
    have e7 : fi f6 a0 15 = fi f0 a0 15 := hf6.efi m_a0 r_a0 rfl
    refine lv_aload_n F.1 F.2.1 dX6_addKey_19 rfl (lv_at hl 0 rfl) ?_
    refine g_6_18 F h m_a0 r_a0 dX6_addKey_20 (fun o8 m_o8 r_o8 ho8 => ?_)
    refine lv_aload_n F.1 F.2.1 dX6_addKey_23 rfl (lv_at hl 0 rfl) ?_
    refine g_6_59 F h m_a0 r_a0 dX6_addKey_24 (fun v9 hv9 hv9a hv9b => ?_)
    refine lv_iload_n F.1 F.2.1 dX6_addKey_27 rfl (lv_at hl 2 rfl) ?_
    refine st_36 F h m_o8 r_o8 (by omega) dX6_addKey_28 (fun f10 H locs hf10 h => ?_)
    have hX : OB L R O a0 f0 f10 := OB_fr hX hf10 (by decide +kernel)
    have hk : fr L R [(6, 15)] [6, 23, 36, 37] f0 f10 := hk.tr hf10 rfl rfl
    have e11 : fi f10 a0 15 = fi f6 a0 15 := hf10.efi m_a0 r_a0 rfl
    refine lv_aload_n F.1 F.2.1 dX6_addKey_29 rfl (lv_at hl 0 rfl) ?_
    refine g_6_22 F h m_a0 r_a0 dX6_addKey_30 (fun o12 m_o12 r_o12 ho12 => ?_)
    refine lv_aload_n F.1 F.2.1 dX6_addKey_33 rfl (lv_at hl 0 rfl) ?_
    refine g_6_59 F h m_a0 r_a0 dX6_addKey_34 (fun v13 hv13 hv13a hv13b => ?_)
    refine lv_aload_n F.1 F.2.1 dX6_addKey_37 rfl (lv_at hl 0 rfl) ?_
    refine g_6_65 F h m_a0 r_a0 dX6_addKey_38 (fun v14 hv14 hv14a hv14b => ?_)
    refine st_37 F h m_o12 r_o12 (by omega) (by omega) dX6_addKey_41 (fun f15 H locs hf15 h => ?_)
    have hX : OB L R O a0 f0 f15 := OB_fr hX hf15 (by decide +kernel)
    have hk : fr L R [(6, 15)] [6, 23, 36, 37] f0 f15 := hk.tr hf15 rfl rfl
    have e16 : fi f15 a0 15 = fi f10 a0 15 := hf15.efi m_a0 r_a0 rfl
    have e17 : fi f15 a0 17 = fi f10 a0 17 := hf15.efi m_a0 r_a0 rfl
    refine lv_aload_n F.1 F.2.1 dX6_addKey_42 rfl (lv_at hl 0 rfl) ?_
    refine g_6_25 F h m_a0 r_a0 dX6_addKey_43 (fun o18 m_o18 r_o18 ho18 => ?_)
    refine lv_aload_n F.1 F.2.1 dX6_addKey_46 rfl (lv_at hl 0 rfl) ?_
    refine g_6_59 F h m_a0 r_a0 dX6_addKey_47 (fun v19 hv19 hv19a hv19b => ?_)
    refine lv_aload_n F.1 F.2.1 dX6_addKey_50 rfl (lv_at hl 0 rfl) ?_
    refine g_6_65 F h m_a0 r_a0 dX6_addKey_51 (fun v20 hv20 hv20a hv20b => ?_)
    refine st_37 F h m_o18 r_o18 (by omega) (by omega) dX6_addKey_54 (fun f21 H locs hf21 h => ?_)
    have hX : OB L R O a0 f0 f21 := OB_fr hX hf21 (by decide +kernel)
    have hk : fr L R [(6, 15)] [6, 23, 36, 37] f0 f21 := hk.tr hf21 rfl rfl
    have e22 : fi f21 a0 15 = fi f15 a0 15 := hf21.efi m_a0 r_a0 rfl
    have e23 : fi f21 a0 17 = fi f15 a0 17 := hf21.efi m_a0 r_a0 rfl
    refine lv_aload_n F.1 F.2.1 dX6_addKey_55 rfl (lv_at hl 0 rfl) ?_
    refine lv_dup F.1 F.2.1 dX6_addKey_56 rfl ?_
    refine g_6_59 F h m_a0 r_a0 dX6_addKey_57 (fun v24 hv24 hv24a hv24b => ?_)
    refine tw_iconst F dX6_addKey_60 ki_1 (fun z25 hz25 => ?_)
    refine tu_iadd F dX6_addKey_61 (by omega) (fun z26 hz26 => ?_)
    refine pe_6_59 F h m_a0 r_a0 (by omega) dX6_addKey_62 (fun f27 H locs e27pq e27po hf27 h => ?_)
    have e27p : fi f27 a0 15 = z26.toInt := by unfold fi; rw [e27pq]; rfl
    have hX : OB L R O a0 f0 f27 := OB_o hX e27po (hG.1 a0 m_a0 r_a0).1
    have hk : fr L R [(6, 15)] [6, 23, 36, 37] f0 f27 := hk.tr hf27 rfl rfl
    have e28 : fi f27 a0 17 = fi f21 a0 17 := hf27.efi m_a0 r_a0 rfl
    exact hret f27 _ _ _ _ dX6_addKey_65 ⟨hk, hX⟩ h
theorem dX6_addTurn_0 : decode cX6_addTurn 0 = .ok (.aload_n 0, 1) := by decide +kernel
theorem dX6_addTurn_1 : decode cX6_addTurn 1 = .ok (.getfield 62, 3) := by decide +kernel
theorem dX6_addTurn_4 : decode cX6_addTurn 4 = .ok (.bipush 12, 2) := by decide +kernel
theorem dX6_addTurn_6 : decode cX6_addTurn 6 = .ok (.if_icmp .ge 33, 3) := by decide +kernel
theorem dX6_addTurn_39 : decode cX6_addTurn 39 = .ok (.return_, 1) := by decide +kernel
theorem dX6_addTurn_9 : decode cX6_addTurn 9 = .ok (.aload_n 0, 1) := by decide +kernel
theorem dX6_addTurn_10 : decode cX6_addTurn 10 = .ok (.getfield 28, 3) := by decide +kernel
theorem dX6_addTurn_13 : decode cX6_addTurn 13 = .ok (.aload_n 0, 1) := by decide +kernel
theorem dX6_addTurn_14 : decode cX6_addTurn 14 = .ok (.getfield 62, 3) := by decide +kernel
theorem dX6_addTurn_17 : decode cX6_addTurn 17 = .ok (.lload_n 1, 1) := by decide +kernel
theorem dX6_addTurn_18 : decode cX6_addTurn 18 = .ok (.lastore, 1) := by decide +kernel
theorem dX6_addTurn_19 : decode cX6_addTurn 19 = .ok (.aload_n 0, 1) := by decide +kernel
theorem dX6_addTurn_20 : decode cX6_addTurn 20 = .ok (.getfield 31, 3) := by decide +kernel
theorem dX6_addTurn_23 : decode cX6_addTurn 23 = .ok (.aload_n 0, 1) := by decide +kernel
theorem dX6_addTurn_24 : decode cX6_addTurn 24 = .ok (.getfield 62, 3) := by decide +kernel
theorem dX6_addTurn_27 : decode cX6_addTurn 27 = .ok (.lload_n 3, 1) := by decide +kernel
theorem dX6_addTurn_28 : decode cX6_addTurn 28 = .ok (.lastore, 1) := by decide +kernel
theorem dX6_addTurn_29 : decode cX6_addTurn 29 = .ok (.aload_n 0, 1) := by decide +kernel
theorem dX6_addTurn_30 : decode cX6_addTurn 30 = .ok (.dup, 1) := by decide +kernel
theorem dX6_addTurn_31 : decode cX6_addTurn 31 = .ok (.getfield 62, 3) := by decide +kernel
theorem dX6_addTurn_34 : decode cX6_addTurn 34 = .ok (.iconst 1, 1) := by decide +kernel
theorem dX6_addTurn_35 : decode cX6_addTurn 35 = .ok (.iadd, 1) := by decide +kernel
theorem dX6_addTurn_36 : decode cX6_addTurn 36 = .ok (.putfield 62, 3) := by decide +kernel
section
variable {p : Program} {l : Launch} {e : Env} {R0 : Room} {s : State} {m : MethodId} {args : Array Value} {below : List Frame} {meth : Method} {c : Code} {H H0 : Heap} {locs : List Loc} {cells slots : Nat} {Q : State → Prop} {cc : ByteArray} {nL : Nat} {D : va_G} {cy : Nat → ClassId} {A : Nat → Prop} {L : List Nat} {R : Nat → Nat} {f : Nat → va_E} {pc : Nat} {ls : Array Slot} {rest : List Value} {a : Nat}
theorem pe_6_62 (F : CallFix p m c cc nL s args wsL_law RX6) (h : tS D cy A H0 L R (TT cy L R) f s H locs) {x : Int32} (ha : a ∈ L) (hr : R a = 6) (hv : 0 ≤ x.toInt ∧ x.toInt ≤ 12) (hdg : decode cc pc = .ok (.putfield 62, 3)) (kk : ∀ (f1 : Nat → va_E) (H1 : Heap) (locs1 : List Loc), fld f1 a 16 = .int x → (∀ a', a' ≠ a → f1 a' = f a') → fr L R [(6, 16)] [6] f f1 → tS D cy A H0 L R (TT cy L R) f1 s H1 locs1 → W p l e R0 s m args below meth c H1 locs1 cells slots Q (F0 m (pc + 3) ls (rest))) : W p l e R0 s m args below meth c H locs cells slots Q (F0 m pc ls (.int x :: .ref a :: rest)) := tu_putiE (k := 16) F h ha hr T_6 rfl hv.1 hv.2 inlX6 tyX6_ok nmX6 rfl (Nat.le_of_ble_eq_true rfl) mw_96 rfl rfl rfl hdg kk
end
def rm_X6_addTurn : Room := { frames := 0, cells := 0, slots := 0, locals := 0 }
set_option maxHeartbeats 4000000 in
set_option maxRecDepth 100000 in
theorem s_X6_addTurn (l : Launch) (D : va_G) (cy : Nat → ClassId) (L : List Nat) (R O : Nat → Nat) (f0 : Nat → va_E) (hG : GG L R O f0) (a0 : Nat) (m_a0 : a0 ∈ L) (r_a0 : R a0 = 6) (x1 : Int64) (x3 : Int64) : ∀ sz, Met l yX6_addTurn (Cond.code yX6_addTurn cX6_addTurn 5 none :: wsL_law) rm_X6_addTurn (va_Pc [.ref a0, .long x1, .long x3] (tPZ D cy L R (TT cy L R) f0 sz)) (va_Qv (fun f1 => fr L R [(6, 16)] [6, 23] f0 f1 ∧ OB L R O a0 f0 f1) (tB D (tA L sz) L R (TT cy L R)) (tA L sz)) 0 0 (tA L sz) := by
  refine tw_enterv (by decide +kernel) rfl (Nat.le_of_ble_eq_true rfl) ?_
  intro p e s m below meth c A ls args Q F hZ h hl hret
  have hl : lv_has ls 5 [(0, .ref a0), (1, .long x1), (3, .long x3)] := hl
  have hk : fr L R [(6, 16)] [6, 23] f0 f0 := fr.rf
  have hX : OB L R O a0 f0 f0 := OB_rf
  refine lv_aload_n F.1 F.2.1 dX6_addTurn_0 rfl (lv_at hl 0 rfl) ?_
  refine g_6_62 F h m_a0 r_a0 dX6_addTurn_1 (fun v1 hv1 hv1a hv1b => ?_)
  refine tw_bipush F dX6_addTurn_4 kb_12 (fun z2 hz2 => ?_)
  refine tw_icmp_ge (tgt := 39) F dX6_addTurn_6 (by decide) (fun b3 => ?_) (fun b3 => ?_)
  · exact hret f0 _ _ _ _ dX6_addTurn_39 ⟨hk, hX⟩ h
  · refine lv_aload_n F.1 F.2.1 dX6_addTurn_9 rfl (lv_at hl 0 rfl) ?_
    refine g_6_28 F h m_a0 r_a0 dX6_addTurn_10 (fun o4 m_o4 r_o4 ho4 => ?_)
    refine lv_aload_n F.1 F.2.1 dX6_addTurn_13 rfl (lv_at hl 0 rfl) ?_
    refine g_6_62 F h m_a0 r_a0 dX6_addTurn_14 (fun v5 hv5 hv5a hv5b => ?_)
    refine lv_lload_n F.1 F.2.1 dX6_addTurn_17 rfl (lv_at hl 1 rfl) ?_
    refine st_23 F h m_o4 r_o4 (by omega) dX6_addTurn_18 (fun f6 H locs hf6 h => ?_)
    have hX : OB L R O a0 f0 f6 := OB_fr hX hf6 (by decide +kernel)
    have hk : fr L R [(6, 16)] [6, 23] f0 f6 := hk.tr hf6 rfl rfl
    have e7 : fi f6 a0 16 = fi f0 a0 16 := hf6.efi m_a0 r_a0 rfl
    refine lv_aload_n F.1 F.2.1 dX6_addTurn_19 rfl (lv_at hl 0 rfl) ?_
    refine g_6_31 F h m_a0 r_a0 dX6_addTurn_20 (fun o8 m_o8 r_o8 ho8 => ?_)
    refine lv_aload_n F.1 F.2.1 dX6_addTurn_23 rfl (lv_at hl 0 rfl) ?_
    refine g_6_62 F h m_a0 r_a0 dX6_addTurn_24 (fun v9 hv9 hv9a hv9b => ?_)
    refine lv_lload_n F.1 F.2.1 dX6_addTurn_27 rfl (lv_at hl 2 rfl) ?_
    refine st_23 F h m_o8 r_o8 (by omega) dX6_addTurn_28 (fun f10 H locs hf10 h => ?_)
    have hX : OB L R O a0 f0 f10 := OB_fr hX hf10 (by decide +kernel)
    have hk : fr L R [(6, 16)] [6, 23] f0 f10 := hk.tr hf10 rfl rfl
    have e11 : fi f10 a0 16 = fi f6 a0 16 := hf10.efi m_a0 r_a0 rfl
    refine lv_aload_n F.1 F.2.1 dX6_addTurn_29 rfl (lv_at hl 0 rfl) ?_
    refine lv_dup F.1 F.2.1 dX6_addTurn_30 rfl ?_
    refine g_6_62 F h m_a0 r_a0 dX6_addTurn_31 (fun v12 hv12 hv12a hv12b => ?_)
    refine tw_iconst F dX6_addTurn_34 ki_1 (fun z13 hz13 => ?_)
    refine tu_iadd F dX6_addTurn_35 (by omega) (fun z14 hz14 => ?_)
    refine pe_6_62 F h m_a0 r_a0 (by omega) dX6_addTurn_36 (fun f15 H locs e15pq e15po hf15 h => ?_)
    have e15p : fi f15 a0 16 = z14.toInt := by unfold fi; rw [e15pq]; rfl
    have hX : OB L R O a0 f0 f15 := OB_o hX e15po (hG.1 a0 m_a0 r_a0).1
    have hk : fr L R [(6, 16)] [6, 23] f0 f15 := hk.tr hf15 rfl rfl
    exact hret f15 _ _ _ _ dX6_addTurn_39 ⟨hk, hX⟩ h
theorem dX6_turnNamed_0 : decode cX6_turnNamed 0 = .ok (.iconst 0, 1) := by decide +kernel
theorem dX6_turnNamed_1 : decode cX6_turnNamed 1 = .ok (.istore_n 3, 1) := by decide +kernel
theorem dX6_turnNamed_2 : decode cX6_turnNamed 2 = .ok (.iload_n 3, 1) := by decide +kernel
theorem dX6_turnNamed_3 : decode cX6_turnNamed 3 = .ok (.aload_n 0, 1) := by decide +kernel
theorem dX6_turnNamed_4 : decode cX6_turnNamed 4 = .ok (.getfield 62, 3) := by decide +kernel
theorem dX6_turnNamed_7 : decode cX6_turnNamed 7 = .ok (.if_icmp .ge 22, 3) := by decide +kernel
theorem dX6_turnNamed_29 : decode cX6_turnNamed 29 = .ok (.iconst (-1), 1) := by decide +kernel
theorem dX6_turnNamed_30 : decode cX6_turnNamed 30 = .ok (.ireturn, 1) := by decide +kernel
theorem dX6_turnNamed_10 : decode cX6_turnNamed 10 = .ok (.aload_n 0, 1) := by decide +kernel
theorem dX6_turnNamed_11 : decode cX6_turnNamed 11 = .ok (.getfield 28, 3) := by decide +kernel
theorem dX6_turnNamed_14 : decode cX6_turnNamed 14 = .ok (.iload_n 3, 1) := by decide +kernel
theorem dX6_turnNamed_15 : decode cX6_turnNamed 15 = .ok (.laload, 1) := by decide +kernel
theorem dX6_turnNamed_16 : decode cX6_turnNamed 16 = .ok (.lload_n 1, 1) := by decide +kernel
theorem dX6_turnNamed_17 : decode cX6_turnNamed 17 = .ok (.lcmp, 1) := by decide +kernel
theorem dX6_turnNamed_18 : decode cX6_turnNamed 18 = .ok (.ifCond .ne 5, 3) := by decide +kernel
theorem dX6_turnNamed_23 : decode cX6_turnNamed 23 = .ok (.iinc 3 1, 3) := by decide +kernel
theorem dX6_turnNamed_26 : decode cX6_turnNamed 26 = .ok (.goto (-24), 3) := by decide +kernel
theorem dX6_turnNamed_21 : decode cX6_turnNamed 21 = .ok (.iload_n 3, 1) := by decide +kernel
theorem dX6_turnNamed_22 : decode cX6_turnNamed 22 = .ok (.ireturn, 1) := by decide +kernel
def rm_X6_turnNamed : Room := { frames := 0, cells := 0, slots := 0, locals := 0 }
set_option maxHeartbeats 4000000 in
set_option maxRecDepth 100000 in
theorem s_X6_turnNamed (l : Launch) (D : va_G) (cy : Nat → ClassId) (L : List Nat) (R O : Nat → Nat) (f0 : Nat → va_E) (a0 : Nat) (m_a0 : a0 ∈ L) (r_a0 : R a0 = 6) (x1 : Int64) : ∀ sz, Met l yX6_turnNamed (Cond.code yX6_turnNamed cX6_turnNamed 4 (some .int) :: wsL_law) rm_X6_turnNamed (va_Pc [.ref a0, .long x1] (tPZ D cy L R (TT cy L R) f0 sz)) (va_Qi (fun (r : Int32) f1 => f0 = f1 ∧ (-1) ≤ r.toInt ∧ r.toInt ≤ 11) (tB D (tA L sz) L R (TT cy L R)) (tA L sz)) 0 0 (tA L sz) := by
  refine tw_enteri (by decide +kernel) rfl (Nat.le_of_ble_eq_true rfl) ?_
  intro p e s m below meth c A ls args Q F hZ h hl hret
  have hl : lv_has ls 4 [(0, .ref a0), (1, .long x1)] := hl
  refine tw_iconst F dX6_turnNamed_0 ki_0 (fun z1 hz1 => ?_)
  refine lv_istore_n (lv' := [(3, .int z1), (0, .ref a0), (1, .long x1)]) F.1 F.2.1 dX6_turnNamed_1 rfl hl (by decide) rfl (fun ls hl => ?_)
  have j_2 : ∀ (n2 : Nat) (ls : Array Slot) (x3_2 : Int32), 0 ≤ x3_2.toInt → x3_2.toInt ≤ 12 → ((12 - x3_2.toInt)).toNat < n2 → lv_has ls 4 [(0, .ref a0), (1, .long x1), (3, .int x3_2)] → W p l e rm_X6_turnNamed s m args below meth c s.heap [] 0 0 Q (F0 m 2 ls []) := by
    intro n2
    induction n2 with
    | zero =>
      intro ls x3_2 b2 b3 b4 hl
      exfalso
      omega
    | succ n2 ih2 =>
      intro ls x3_2 b2 b3 b4 hl
      refine lv_iload_n F.1 F.2.1 dX6_turnNamed_2 rfl (lv_at hl 2 rfl) ?_
      refine lv_aload_n F.1 F.2.1 dX6_turnNamed_3 rfl (lv_at hl 0 rfl) ?_
      refine g_6_62 F h m_a0 r_a0 dX6_turnNamed_4 (fun v5 hv5 hv5a hv5b => ?_)
      refine tw_icmp_ge (tgt := 29) F dX6_turnNamed_7 (by decide) (fun b6 => ?_) (fun b6 => ?_)
      · refine tw_iconst F dX6_turnNamed_29 ki_m1 (fun z7 hz7 => ?_)
        exact hret f0 _ _ _ _ z7 dX6_turnNamed_30 rfl ⟨rfl, by omega, by omega⟩ h
      · refine lv_aload_n F.1 F.2.1 dX6_turnNamed_10 rfl (lv_at hl 0 rfl) ?_
        refine g_6_28 F h m_a0 r_a0 dX6_turnNamed_11 (fun o8 m_o8 r_o8 ho8 => ?_)
        refine lv_iload_n F.1 F.2.1 dX6_turnNamed_14 rfl (lv_at hl 2 rfl) ?_
        refine ld_23 F h m_o8 r_o8 (by omega) dX6_turnNamed_15 (fun v9 => ?_)
        refine lv_lload_n F.1 F.2.1 dX6_turnNamed_16 rfl (lv_at hl 1 rfl) ?_
        refine tw_lcmp F dX6_turnNamed_17 (fun z10 hz10 => ?_)
        refine tw_if_ne (tgt := 23) F dX6_turnNamed_18 (by decide) (fun b11 => ?_) (fun b11 => ?_)
        · refine tu_iinc F dX6_turnNamed_23 hl (k := 2) rfl (by decide) ki_1 (by omega) (fun z12 ls hz12 hl => ?_)
          have hl : lv_has ls 4 [(3, .int z12), (0, .ref a0), (1, .long x1)] := hl
          refine lv_goto (tgt := 2) F.1 F.2.1 dX6_turnNamed_26 (by decide) ?_
          exact ih2 _ z12 (by omega) (by omega) (by omega) (lv_sub hl [1, 2, 0] rfl)
        · refine lv_iload_n F.1 F.2.1 dX6_turnNamed_21 rfl (lv_at hl 2 rfl) ?_
          exact hret f0 _ _ _ _ x3_2 dX6_turnNamed_22 rfl ⟨rfl, by omega, by omega⟩ h
  exact j_2 (((12 - z1.toInt)).toNat + 1) _ z1 (by omega) (by omega) (by omega) (lv_sub hl [1, 2, 0] rfl)
theorem dX6_keyNamed_0 : decode cX6_keyNamed 0 = .ok (.iconst 0, 1) := by decide +kernel
theorem dX6_keyNamed_1 : decode cX6_keyNamed 1 = .ok (.istore_n 3, 1) := by decide +kernel
theorem dX6_keyNamed_2 : decode cX6_keyNamed 2 = .ok (.iload_n 3, 1) := by decide +kernel
theorem dX6_keyNamed_3 : decode cX6_keyNamed 3 = .ok (.aload_n 0, 1) := by decide +kernel
theorem dX6_keyNamed_4 : decode cX6_keyNamed 4 = .ok (.getfield 59, 3) := by decide +kernel
theorem dX6_keyNamed_7 : decode cX6_keyNamed 7 = .ok (.if_icmp .ge 22, 3) := by decide +kernel
theorem dX6_keyNamed_29 : decode cX6_keyNamed 29 = .ok (.iconst (-1), 1) := by decide +kernel
theorem dX6_keyNamed_30 : decode cX6_keyNamed 30 = .ok (.ireturn, 1) := by decide +kernel
theorem dX6_keyNamed_10 : decode cX6_keyNamed 10 = .ok (.aload_n 0, 1) := by decide +kernel
theorem dX6_keyNamed_11 : decode cX6_keyNamed 11 = .ok (.getfield 15, 3) := by decide +kernel
theorem dX6_keyNamed_14 : decode cX6_keyNamed 14 = .ok (.iload_n 3, 1) := by decide +kernel
theorem dX6_keyNamed_15 : decode cX6_keyNamed 15 = .ok (.laload, 1) := by decide +kernel
theorem dX6_keyNamed_16 : decode cX6_keyNamed 16 = .ok (.lload_n 1, 1) := by decide +kernel
theorem dX6_keyNamed_17 : decode cX6_keyNamed 17 = .ok (.lcmp, 1) := by decide +kernel
theorem dX6_keyNamed_18 : decode cX6_keyNamed 18 = .ok (.ifCond .ne 5, 3) := by decide +kernel
theorem dX6_keyNamed_23 : decode cX6_keyNamed 23 = .ok (.iinc 3 1, 3) := by decide +kernel
theorem dX6_keyNamed_26 : decode cX6_keyNamed 26 = .ok (.goto (-24), 3) := by decide +kernel
theorem dX6_keyNamed_21 : decode cX6_keyNamed 21 = .ok (.iload_n 3, 1) := by decide +kernel
theorem dX6_keyNamed_22 : decode cX6_keyNamed 22 = .ok (.ireturn, 1) := by decide +kernel
def rm_X6_keyNamed : Room := { frames := 0, cells := 0, slots := 0, locals := 0 }
set_option maxHeartbeats 4000000 in
set_option maxRecDepth 100000 in
theorem s_X6_keyNamed (l : Launch) (D : va_G) (cy : Nat → ClassId) (L : List Nat) (R O : Nat → Nat) (f0 : Nat → va_E) (a0 : Nat) (m_a0 : a0 ∈ L) (r_a0 : R a0 = 6) (x1 : Int64) : ∀ sz, Met l yX6_keyNamed (Cond.code yX6_keyNamed cX6_keyNamed 4 (some .int) :: wsL_law) rm_X6_keyNamed (va_Pc [.ref a0, .long x1] (tPZ D cy L R (TT cy L R) f0 sz)) (va_Qi (fun (r : Int32) f1 => f0 = f1 ∧ (-1) ≤ r.toInt ∧ r.toInt ≤ 11) (tB D (tA L sz) L R (TT cy L R)) (tA L sz)) 0 0 (tA L sz) := by
  refine tw_enteri (by decide +kernel) rfl (Nat.le_of_ble_eq_true rfl) ?_
  intro p e s m below meth c A ls args Q F hZ h hl hret
  have hl : lv_has ls 4 [(0, .ref a0), (1, .long x1)] := hl
  refine tw_iconst F dX6_keyNamed_0 ki_0 (fun z1 hz1 => ?_)
  refine lv_istore_n (lv' := [(3, .int z1), (0, .ref a0), (1, .long x1)]) F.1 F.2.1 dX6_keyNamed_1 rfl hl (by decide) rfl (fun ls hl => ?_)
  have j_2 : ∀ (n2 : Nat) (ls : Array Slot) (x3_2 : Int32), 0 ≤ x3_2.toInt → x3_2.toInt ≤ 12 → ((12 - x3_2.toInt)).toNat < n2 → lv_has ls 4 [(0, .ref a0), (1, .long x1), (3, .int x3_2)] → W p l e rm_X6_keyNamed s m args below meth c s.heap [] 0 0 Q (F0 m 2 ls []) := by
    intro n2
    induction n2 with
    | zero =>
      intro ls x3_2 b2 b3 b4 hl
      exfalso
      omega
    | succ n2 ih2 =>
      intro ls x3_2 b2 b3 b4 hl
      refine lv_iload_n F.1 F.2.1 dX6_keyNamed_2 rfl (lv_at hl 2 rfl) ?_
      refine lv_aload_n F.1 F.2.1 dX6_keyNamed_3 rfl (lv_at hl 0 rfl) ?_
      refine g_6_59 F h m_a0 r_a0 dX6_keyNamed_4 (fun v5 hv5 hv5a hv5b => ?_)
      refine tw_icmp_ge (tgt := 29) F dX6_keyNamed_7 (by decide) (fun b6 => ?_) (fun b6 => ?_)
      · refine tw_iconst F dX6_keyNamed_29 ki_m1 (fun z7 hz7 => ?_)
        exact hret f0 _ _ _ _ z7 dX6_keyNamed_30 rfl ⟨rfl, by omega, by omega⟩ h
      · refine lv_aload_n F.1 F.2.1 dX6_keyNamed_10 rfl (lv_at hl 0 rfl) ?_
        refine g_6_15 F h m_a0 r_a0 dX6_keyNamed_11 (fun o8 m_o8 r_o8 ho8 => ?_)
        refine lv_iload_n F.1 F.2.1 dX6_keyNamed_14 rfl (lv_at hl 2 rfl) ?_
        refine ld_23 F h m_o8 r_o8 (by omega) dX6_keyNamed_15 (fun v9 => ?_)
        refine lv_lload_n F.1 F.2.1 dX6_keyNamed_16 rfl (lv_at hl 1 rfl) ?_
        refine tw_lcmp F dX6_keyNamed_17 (fun z10 hz10 => ?_)
        refine tw_if_ne (tgt := 23) F dX6_keyNamed_18 (by decide) (fun b11 => ?_) (fun b11 => ?_)
        · refine tu_iinc F dX6_keyNamed_23 hl (k := 2) rfl (by decide) ki_1 (by omega) (fun z12 ls hz12 hl => ?_)
          have hl : lv_has ls 4 [(3, .int z12), (0, .ref a0), (1, .long x1)] := hl
          refine lv_goto (tgt := 2) F.1 F.2.1 dX6_keyNamed_26 (by decide) ?_
          exact ih2 _ z12 (by omega) (by omega) (by omega) (lv_sub hl [1, 2, 0] rfl)
        · refine lv_iload_n F.1 F.2.1 dX6_keyNamed_21 rfl (lv_at hl 2 rfl) ?_
          exact hret f0 _ _ _ _ x3_2 dX6_keyNamed_22 rfl ⟨rfl, by omega, by omega⟩ h
  exact j_2 (((12 - z1.toInt)).toNat + 1) _ z1 (by omega) (by omega) (by omega) (lv_sub hl [1, 2, 0] rfl)
theorem dX6_clear_0 : decode cX6_clear 0 = .ok (.aload_n 0, 1) := by decide +kernel
theorem dX6_clear_1 : decode cX6_clear 1 = .ok (.iconst 0, 1) := by decide +kernel
theorem dX6_clear_2 : decode cX6_clear 2 = .ok (.putfield 55, 3) := by decide +kernel
theorem mw_94 : Cond.fieldLink RX6 55 "AskBack$Script" "partCount" "I" ∈ wsL_law := inr_4 _ (List.mem_of_getElem? (i := 22) rfl)
section
variable {p : Program} {l : Launch} {e : Env} {R0 : Room} {s : State} {m : MethodId} {args : Array Value} {below : List Frame} {meth : Method} {c : Code} {H H0 : Heap} {locs : List Loc} {cells slots : Nat} {Q : State → Prop} {cc : ByteArray} {nL : Nat} {D : va_G} {cy : Nat → ClassId} {A : Nat → Prop} {L : List Nat} {R : Nat → Nat} {f : Nat → va_E} {pc : Nat} {ls : Array Slot} {rest : List Value} {a : Nat}
theorem pe_6_55 (F : CallFix p m c cc nL s args wsL_law RX6) (h : tS D cy A H0 L R (TT cy L R) f s H locs) {x : Int32} (ha : a ∈ L) (hr : R a = 6) (hv : 0 ≤ x.toInt ∧ x.toInt ≤ 600) (hdg : decode cc pc = .ok (.putfield 55, 3)) (kk : ∀ (f1 : Nat → va_E) (H1 : Heap) (locs1 : List Loc), fld f1 a 14 = .int x → (∀ a', a' ≠ a → f1 a' = f a') → fr L R [(6, 14)] [6] f f1 → tS D cy A H0 L R (TT cy L R) f1 s H1 locs1 → W p l e R0 s m args below meth c H1 locs1 cells slots Q (F0 m (pc + 3) ls (rest))) : W p l e R0 s m args below meth c H locs cells slots Q (F0 m pc ls (.int x :: .ref a :: rest)) := tu_putiE (k := 14) F h ha hr T_6 rfl hv.1 hv.2 inlX6 tyX6_ok nmX6 rfl (Nat.le_of_ble_eq_true rfl) mw_94 rfl rfl rfl hdg kk
end
theorem dX6_clear_5 : decode cX6_clear 5 = .ok (.aload_n 0, 1) := by decide +kernel
theorem dX6_clear_6 : decode cX6_clear 6 = .ok (.iconst 0, 1) := by decide +kernel
theorem dX6_clear_7 : decode cX6_clear 7 = .ok (.putfield 59, 3) := by decide +kernel
theorem dX6_clear_10 : decode cX6_clear 10 = .ok (.aload_n 0, 1) := by decide +kernel
theorem dX6_clear_11 : decode cX6_clear 11 = .ok (.iconst 0, 1) := by decide +kernel
theorem dX6_clear_12 : decode cX6_clear 12 = .ok (.putfield 62, 3) := by decide +kernel
theorem dX6_clear_15 : decode cX6_clear 15 = .ok (.aload_n 0, 1) := by decide +kernel
theorem dX6_clear_16 : decode cX6_clear 16 = .ok (.iconst 0, 1) := by decide +kernel
theorem dX6_clear_17 : decode cX6_clear 17 = .ok (.putfield 65, 3) := by decide +kernel
section
variable {p : Program} {l : Launch} {e : Env} {R0 : Room} {s : State} {m : MethodId} {args : Array Value} {below : List Frame} {meth : Method} {c : Code} {H H0 : Heap} {locs : List Loc} {cells slots : Nat} {Q : State → Prop} {cc : ByteArray} {nL : Nat} {D : va_G} {cy : Nat → ClassId} {A : Nat → Prop} {L : List Nat} {R : Nat → Nat} {f : Nat → va_E} {pc : Nat} {ls : Array Slot} {rest : List Value} {a : Nat}
theorem pe_6_65 (F : CallFix p m c cc nL s args wsL_law RX6) (h : tS D cy A H0 L R (TT cy L R) f s H locs) {x : Int32} (ha : a ∈ L) (hr : R a = 6) (hv : 0 ≤ x.toInt ∧ x.toInt ≤ 24) (hdg : decode cc pc = .ok (.putfield 65, 3)) (kk : ∀ (f1 : Nat → va_E) (H1 : Heap) (locs1 : List Loc), fld f1 a 17 = .int x → (∀ a', a' ≠ a → f1 a' = f a') → fr L R [(6, 17)] [6] f f1 → tS D cy A H0 L R (TT cy L R) f1 s H1 locs1 → W p l e R0 s m args below meth c H1 locs1 cells slots Q (F0 m (pc + 3) ls (rest))) : W p l e R0 s m args below meth c H locs cells slots Q (F0 m pc ls (.int x :: .ref a :: rest)) := tu_putiE (k := 17) F h ha hr T_6 rfl hv.1 hv.2 inlX6 tyX6_ok nmX6 rfl (Nat.le_of_ble_eq_true rfl) mw_97 rfl rfl rfl hdg kk
end
theorem dX6_clear_20 : decode cX6_clear 20 = .ok (.aload_n 0, 1) := by decide +kernel
theorem dX6_clear_21 : decode cX6_clear 21 = .ok (.iconst 0, 1) := by decide +kernel
theorem dX6_clear_22 : decode cX6_clear 22 = .ok (.putfield 68, 3) := by decide +kernel
theorem mw_98 : Cond.fieldLink RX6 68 "AskBack$Script" "keepSet" "I" ∈ wsL_law := inr_5 _ (List.mem_of_getElem? (i := 2) rfl)
section
variable {p : Program} {l : Launch} {e : Env} {R0 : Room} {s : State} {m : MethodId} {args : Array Value} {below : List Frame} {meth : Method} {c : Code} {H H0 : Heap} {locs : List Loc} {cells slots : Nat} {Q : State → Prop} {cc : ByteArray} {nL : Nat} {D : va_G} {cy : Nat → ClassId} {A : Nat → Prop} {L : List Nat} {R : Nat → Nat} {f : Nat → va_E} {pc : Nat} {ls : Array Slot} {rest : List Value} {a : Nat}
theorem pe_6_68 (F : CallFix p m c cc nL s args wsL_law RX6) (h : tS D cy A H0 L R (TT cy L R) f s H locs) {x : Int32} (ha : a ∈ L) (hr : R a = 6) (hdg : decode cc pc = .ok (.putfield 68, 3)) (kk : ∀ (f1 : Nat → va_E) (H1 : Heap) (locs1 : List Loc), fld f1 a 18 = .int x → (∀ a', a' ≠ a → f1 a' = f a') → fr L R [(6, 18)] [6] f f1 → tS D cy A H0 L R (TT cy L R) f1 s H1 locs1 → W p l e R0 s m args below meth c H1 locs1 cells slots Q (F0 m (pc + 3) ls (rest))) : W p l e R0 s m args below meth c H locs cells slots Q (F0 m pc ls (.int x :: .ref a :: rest)) := tu_putiE (k := 18) F h ha hr T_6 rfl (tb_i x).1 (tb_i x).2 inlX6 tyX6_ok nmX6 rfl (Nat.le_of_ble_eq_true rfl) mw_98 rfl rfl rfl hdg kk
end
theorem dX6_clear_25 : decode cX6_clear 25 = .ok (.iconst 0, 1) := by decide +kernel
theorem dX6_clear_26 : decode cX6_clear 26 = .ok (.istore_n 1, 1) := by decide +kernel
theorem dX6_clear_27 : decode cX6_clear 27 = .ok (.iload_n 1, 1) := by decide +kernel
theorem dX6_clear_28 : decode cX6_clear 28 = .ok (.aload_n 0, 1) := by decide +kernel
theorem dX6_clear_29 : decode cX6_clear 29 = .ok (.getfield 43, 3) := by decide +kernel
theorem mw_90 : Cond.fieldLink RX6 43 "AskBack$Script" "answerCounts" "[I" ∈ wsL_law := inr_4 _ (List.mem_of_getElem? (i := 18) rfl)
section
variable {p : Program} {l : Launch} {e : Env} {R0 : Room} {s : State} {m : MethodId} {args : Array Value} {below : List Frame} {meth : Method} {c : Code} {H H0 : Heap} {locs : List Loc} {cells slots : Nat} {Q : State → Prop} {cc : ByteArray} {nL : Nat} {D : va_G} {cy : Nat → ClassId} {A : Nat → Prop} {L : List Nat} {R : Nat → Nat} {f : Nat → va_E} {pc : Nat} {ls : Array Slot} {rest : List Value} {a : Nat}
theorem g_6_43 (F : CallFix p m c cc nL s args wsL_law RX6) (h : tS D cy A H0 L R (TT cy L R) f s H locs) (ha : a ∈ L) (hr : R a = 6) (hdg : decode cc pc = .ok (.getfield 43, 3)) (kk : ∀ b : Nat, b ∈ L → R b = 41 → fld f a 10 = .ref b → W p l e R0 s m args below meth c H locs cells slots Q (F0 m (pc + 3) ls (.ref b :: rest))) : W p l e R0 s m args below meth c H locs cells slots Q (F0 m pc ls (.ref a :: rest)) := tu_getr F h ha hr (fun e q => (T_6 e).mp q) rfl inlX6 rfl (Nat.le_of_ble_eq_true rfl) mw_90 hdg kk
end
theorem dX6_clear_32 : decode cX6_clear 32 = .ok (.arraylength, 1) := by decide +kernel
section
variable {p : Program} {l : Launch} {e : Env} {R0 : Room} {s : State} {m : MethodId} {args : Array Value} {below : List Frame} {meth : Method} {c : Code} {H H0 : Heap} {locs : List Loc} {cells slots : Nat} {Q : State → Prop} {cc : ByteArray} {nL : Nat} {D : va_G} {cy : Nat → ClassId} {A : Nat → Prop} {L : List Nat} {R : Nat → Nat} {f : Nat → va_E} {pc : Nat} {ls : Array Slot} {rest : List Value} {a : Nat}
theorem al_41 {own : String} (F : CallFix p m c cc nL s args wsL_law own) (h : tS D cy A H0 L R (TT cy L R) f s H locs) (ha : a ∈ L) (hr : R a = 41) (hdg : decode cc pc = .ok (.arraylength, 1)) (kk : ∀ z : Int32, z.toInt = 25 → W p l e R0 s m args below meth c H locs cells slots Q (F0 m (pc + 1) ls (.int z :: rest))) : W p l e R0 s m args below meth c H locs cells slots Q (F0 m pc ls (.ref a :: rest)) := tw_alen (n := 25) (t0 := 1) F h ha hr (fun e q => by obtain ⟨g, hg, -⟩ := (T_41 e).mp q; exact ⟨_, hg⟩) rfl (by decide) hdg kk
end
theorem dX6_clear_33 : decode cX6_clear 33 = .ok (.if_icmp .ge 16, 3) := by decide +kernel
theorem dX6_clear_49 : decode cX6_clear 49 = .ok (.iconst 0, 1) := by decide +kernel
theorem dX6_clear_50 : decode cX6_clear 50 = .ok (.istore_n 1, 1) := by decide +kernel
theorem dX6_clear_51 : decode cX6_clear 51 = .ok (.iload_n 1, 1) := by decide +kernel
theorem dX6_clear_52 : decode cX6_clear 52 = .ok (.bipush 100, 2) := by decide +kernel
theorem kb_100 : (Int8.ofInt 100).toInt32.toInt = 100 := by decide
theorem dX6_clear_54 : decode cX6_clear 54 = .ok (.if_icmp .ge 16, 3) := by decide +kernel
theorem dX6_clear_70 : decode cX6_clear 70 = .ok (.return_, 1) := by decide +kernel
theorem dX6_clear_57 : decode cX6_clear 57 = .ok (.aload_n 0, 1) := by decide +kernel
theorem dX6_clear_58 : decode cX6_clear 58 = .ok (.getfield 52, 3) := by decide +kernel
theorem mw_93 : Cond.fieldLink RX6 52 "AskBack$Script" "answerGoes" "[I" ∈ wsL_law := inr_4 _ (List.mem_of_getElem? (i := 21) rfl)
section
variable {p : Program} {l : Launch} {e : Env} {R0 : Room} {s : State} {m : MethodId} {args : Array Value} {below : List Frame} {meth : Method} {c : Code} {H H0 : Heap} {locs : List Loc} {cells slots : Nat} {Q : State → Prop} {cc : ByteArray} {nL : Nat} {D : va_G} {cy : Nat → ClassId} {A : Nat → Prop} {L : List Nat} {R : Nat → Nat} {f : Nat → va_E} {pc : Nat} {ls : Array Slot} {rest : List Value} {a : Nat}
theorem g_6_52 (F : CallFix p m c cc nL s args wsL_law RX6) (h : tS D cy A H0 L R (TT cy L R) f s H locs) (ha : a ∈ L) (hr : R a = 6) (hdg : decode cc pc = .ok (.getfield 52, 3)) (kk : ∀ b : Nat, b ∈ L → R b = 44 → fld f a 13 = .ref b → W p l e R0 s m args below meth c H locs cells slots Q (F0 m (pc + 3) ls (.ref b :: rest))) : W p l e R0 s m args below meth c H locs cells slots Q (F0 m pc ls (.ref a :: rest)) := tu_getr F h ha hr (fun e q => (T_6 e).mp q) rfl inlX6 rfl (Nat.le_of_ble_eq_true rfl) mw_93 hdg kk
end
theorem dX6_clear_61 : decode cX6_clear 61 = .ok (.iload_n 1, 1) := by decide +kernel
theorem dX6_clear_62 : decode cX6_clear 62 = .ok (.iconst (-1), 1) := by decide +kernel
theorem dX6_clear_63 : decode cX6_clear 63 = .ok (.iastore, 1) := by decide +kernel
section
variable {p : Program} {l : Launch} {e : Env} {R0 : Room} {s : State} {m : MethodId} {args : Array Value} {below : List Frame} {meth : Method} {c : Code} {H H0 : Heap} {locs : List Loc} {cells slots : Nat} {Q : State → Prop} {cc : ByteArray} {nL : Nat} {D : va_G} {cy : Nat → ClassId} {A : Nat → Prop} {L : List Nat} {R : Nat → Nat} {f : Nat → va_E} {pc : Nat} {ls : Array Slot} {rest : List Value} {a : Nat}
theorem se_44 {own : String} (F : CallFix p m c cc nL s args wsL_law own) (h : tS D cy A H0 L R (TT cy L R) f s H locs) {i : Int32} {x : Int32} (ha : a ∈ L) (hr : R a = 44) (hb : 0 ≤ i.toInt ∧ i.toInt < 100) (hv : (-1) ≤ x.toInt ∧ x.toInt ≤ 11) (hdg : decode cc pc = .ok (.iastore, 1)) (kk : ∀ (f1 : Nat → va_E) (H1 : Heap) (locs1 : List Loc), (∀ j, eli f1 a j = if j = i.toInt.toNat then x.toInt else eli f a j) → (∀ a', a' ≠ a → f1 a' = f a') → fr L R [] [44] f f1 → tS D cy A H0 L R (TT cy L R) f1 s H1 locs1 → W p l e R0 s m args below meth c H1 locs1 cells slots Q (F0 m (pc + 1) ls (rest))) : W p l e R0 s m args below meth c H locs cells slots Q (F0 m pc ls (.int x :: .int i :: .ref a :: rest)) := tu_iast F h ha hr T_44 hb.1 hb.2 hv hdg (fun f1 H1 locs1 h1 h2 h3 h4 => kk f1 H1 locs1 h1 h2 h3 h4)
end
theorem dX6_clear_64 : decode cX6_clear 64 = .ok (.iinc 1 1, 3) := by decide +kernel
theorem dX6_clear_67 : decode cX6_clear 67 = .ok (.goto (-16), 3) := by decide +kernel
theorem dX6_clear_36 : decode cX6_clear 36 = .ok (.aload_n 0, 1) := by decide +kernel
theorem dX6_clear_37 : decode cX6_clear 37 = .ok (.getfield 43, 3) := by decide +kernel
theorem dX6_clear_40 : decode cX6_clear 40 = .ok (.iload_n 1, 1) := by decide +kernel
theorem dX6_clear_41 : decode cX6_clear 41 = .ok (.iconst 0, 1) := by decide +kernel
theorem dX6_clear_42 : decode cX6_clear 42 = .ok (.iastore, 1) := by decide +kernel
section
variable {p : Program} {l : Launch} {e : Env} {R0 : Room} {s : State} {m : MethodId} {args : Array Value} {below : List Frame} {meth : Method} {c : Code} {H H0 : Heap} {locs : List Loc} {cells slots : Nat} {Q : State → Prop} {cc : ByteArray} {nL : Nat} {D : va_G} {cy : Nat → ClassId} {A : Nat → Prop} {L : List Nat} {R : Nat → Nat} {f : Nat → va_E} {pc : Nat} {ls : Array Slot} {rest : List Value} {a : Nat}
theorem se_41 {own : String} (F : CallFix p m c cc nL s args wsL_law own) (h : tS D cy A H0 L R (TT cy L R) f s H locs) {i : Int32} {x : Int32} (ha : a ∈ L) (hr : R a = 41) (hb : 0 ≤ i.toInt ∧ i.toInt < 25) (hv : 0 ≤ x.toInt ∧ x.toInt ≤ 4) (hdg : decode cc pc = .ok (.iastore, 1)) (kk : ∀ (f1 : Nat → va_E) (H1 : Heap) (locs1 : List Loc), (∀ j, eli f1 a j = if j = i.toInt.toNat then x.toInt else eli f a j) → (∀ a', a' ≠ a → f1 a' = f a') → fr L R [] [41] f f1 → tS D cy A H0 L R (TT cy L R) f1 s H1 locs1 → W p l e R0 s m args below meth c H1 locs1 cells slots Q (F0 m (pc + 1) ls (rest))) : W p l e R0 s m args below meth c H locs cells slots Q (F0 m pc ls (.int x :: .int i :: .ref a :: rest)) := tu_iast F h ha hr T_41 hb.1 hb.2 hv hdg (fun f1 H1 locs1 h1 h2 h3 h4 => kk f1 H1 locs1 h1 h2 h3 h4)
end
theorem dX6_clear_43 : decode cX6_clear 43 = .ok (.iinc 1 1, 3) := by decide +kernel
theorem dX6_clear_46 : decode cX6_clear 46 = .ok (.goto (-19), 3) := by decide +kernel
def rm_X6_clear : Room := { frames := 0, cells := 0, slots := 0, locals := 0 }
set_option maxHeartbeats 4000000 in
set_option maxRecDepth 100000 in
theorem s_X6_clear (l : Launch) (D : va_G) (cy : Nat → ClassId) (L : List Nat) (R O : Nat → Nat) (f0 : Nat → va_E) (hG : GG L R O f0) (a0 : Nat) (m_a0 : a0 ∈ L) (r_a0 : R a0 = 6) : ∀ sz, Met l yX6_clear (Cond.code yX6_clear cX6_clear 2 none :: wsL_law) rm_X6_clear (va_Pc [.ref a0] (tPZ D cy L R (TT cy L R) f0 sz)) (va_Qv (fun f1 => fr L R [(6, 14), (6, 15), (6, 16), (6, 17), (6, 18)] [6, 41, 44] f0 f1 ∧ fi f1 a0 14 = 0 ∧ fi f1 a0 17 = 0 ∧ fi f1 a0 18 = 0 ∧ AC0 f1 a0 = 0 ∧ OB L R O a0 f0 f1) (tB D (tA L sz) L R (TT cy L R)) (tA L sz)) 0 0 (tA L sz) := by
  refine tw_enterv (by decide +kernel) rfl (Nat.le_of_ble_eq_true rfl) ?_
  intro p e s m below meth c A ls args Q F hZ h hl hret
  have hl : lv_has ls 2 [(0, .ref a0)] := hl
  have hk : fr L R [(6, 14), (6, 15), (6, 16), (6, 17), (6, 18)] [6, 41, 44] f0 f0 := fr.rf
  have t_a0_partCount := h.bfi m_a0 r_a0 (fun e q => (T_6 e).mp q) (k := 14) rfl
  have t_a0_ruleCount := h.bfi m_a0 r_a0 (fun e q => (T_6 e).mp q) (k := 17) rfl
  have hX : OB L R O a0 f0 f0 := OB_rf
  refine lv_aload_n F.1 F.2.1 dX6_clear_0 rfl (lv_at hl 0 rfl) ?_
  refine tw_iconst F dX6_clear_1 ki_0 (fun z1 hz1 => ?_)
  refine pe_6_55 F h m_a0 r_a0 (by omega) dX6_clear_2 (fun f2 H locs e2pq e2po hf2 h => ?_)
  have e2p : fi f2 a0 14 = z1.toInt := by unfold fi; rw [e2pq]; rfl
  have hX : OB L R O a0 f0 f2 := OB_o hX e2po (hG.1 a0 m_a0 r_a0).1
  have hk : fr L R [(6, 14), (6, 15), (6, 16), (6, 17), (6, 18)] [6, 41, 44] f0 f2 := hk.tr hf2 rfl rfl
  have e3 : fi f2 a0 17 = fi f0 a0 17 := hf2.efi m_a0 r_a0 rfl
  have e4 : fi f2 a0 18 = fi f0 a0 18 := hf2.efi m_a0 r_a0 rfl
  refine lv_aload_n F.1 F.2.1 dX6_clear_5 rfl (lv_at hl 0 rfl) ?_
  refine tw_iconst F dX6_clear_6 ki_0 (fun z5 hz5 => ?_)
  refine pe_6_59 F h m_a0 r_a0 (by omega) dX6_clear_7 (fun f6 H locs e6pq e6po hf6 h => ?_)
  have e6p : fi f6 a0 15 = z5.toInt := by unfold fi; rw [e6pq]; rfl
  have hX : OB L R O a0 f0 f6 := OB_o hX e6po (hG.1 a0 m_a0 r_a0).1
  have hk : fr L R [(6, 14), (6, 15), (6, 16), (6, 17), (6, 18)] [6, 41, 44] f0 f6 := hk.tr hf6 rfl rfl
  have e7 : fi f6 a0 17 = fi f2 a0 17 := hf6.efi m_a0 r_a0 rfl
  have e8 : fi f6 a0 18 = fi f2 a0 18 := hf6.efi m_a0 r_a0 rfl
  have e9 : fi f6 a0 14 = fi f2 a0 14 := hf6.efi m_a0 r_a0 rfl
  refine lv_aload_n F.1 F.2.1 dX6_clear_10 rfl (lv_at hl 0 rfl) ?_
  refine tw_iconst F dX6_clear_11 ki_0 (fun z10 hz10 => ?_)
  refine pe_6_62 F h m_a0 r_a0 (by omega) dX6_clear_12 (fun f11 H locs e11pq e11po hf11 h => ?_)
  have e11p : fi f11 a0 16 = z10.toInt := by unfold fi; rw [e11pq]; rfl
  have hX : OB L R O a0 f0 f11 := OB_o hX e11po (hG.1 a0 m_a0 r_a0).1
  have hk : fr L R [(6, 14), (6, 15), (6, 16), (6, 17), (6, 18)] [6, 41, 44] f0 f11 := hk.tr hf11 rfl rfl
  have e12 : fi f11 a0 17 = fi f6 a0 17 := hf11.efi m_a0 r_a0 rfl
  have e13 : fi f11 a0 18 = fi f6 a0 18 := hf11.efi m_a0 r_a0 rfl
  have e14 : fi f11 a0 14 = fi f6 a0 14 := hf11.efi m_a0 r_a0 rfl
  refine lv_aload_n F.1 F.2.1 dX6_clear_15 rfl (lv_at hl 0 rfl) ?_
  refine tw_iconst F dX6_clear_16 ki_0 (fun z15 hz15 => ?_)
  refine pe_6_65 F h m_a0 r_a0 (by omega) dX6_clear_17 (fun f16 H locs e16pq e16po hf16 h => ?_)
  have e16p : fi f16 a0 17 = z15.toInt := by unfold fi; rw [e16pq]; rfl
  have hX : OB L R O a0 f0 f16 := OB_o hX e16po (hG.1 a0 m_a0 r_a0).1
  have hk : fr L R [(6, 14), (6, 15), (6, 16), (6, 17), (6, 18)] [6, 41, 44] f0 f16 := hk.tr hf16 rfl rfl
  have e17 : fi f16 a0 18 = fi f11 a0 18 := hf16.efi m_a0 r_a0 rfl
  have e18 : fi f16 a0 14 = fi f11 a0 14 := hf16.efi m_a0 r_a0 rfl
  refine lv_aload_n F.1 F.2.1 dX6_clear_20 rfl (lv_at hl 0 rfl) ?_
  refine tw_iconst F dX6_clear_21 ki_0 (fun z19 hz19 => ?_)
  refine pe_6_68 F h m_a0 r_a0 dX6_clear_22 (fun f20 H locs e20pq e20po hf20 h => ?_)
  have e20p : fi f20 a0 18 = z19.toInt := by unfold fi; rw [e20pq]; rfl
  have hX : OB L R O a0 f0 f20 := OB_o hX e20po (hG.1 a0 m_a0 r_a0).1
  have hk : fr L R [(6, 14), (6, 15), (6, 16), (6, 17), (6, 18)] [6, 41, 44] f0 f20 := hk.tr hf20 rfl rfl
  have e21 : fi f20 a0 14 = fi f16 a0 14 := hf20.efi m_a0 r_a0 rfl
  have e22 : fi f20 a0 17 = fi f16 a0 17 := hf20.efi m_a0 r_a0 rfl
  refine tw_iconst F dX6_clear_25 ki_0 (fun z23 hz23 => ?_)
  refine lv_istore_n (lv' := [(1, .int z23), (0, .ref a0)]) F.1 F.2.1 dX6_clear_26 rfl hl (by decide) rfl (fun ls hl => ?_)
  have j_27 : ∀ (n27 : Nat) (f24 : Nat → va_E) (H : Heap) (locs : List Loc) (ls : Array Slot) (x1_27 : Int32), 0 ≤ x1_27.toInt → x1_27.toInt ≤ 25 → 0 ≤ x1_27.toInt → ((x1_27.toInt = 0 ∨ AC0 f24 a0 = 0)) → ((25 - x1_27.toInt)).toNat < n27 → tS D cy A s.heap L R (TT cy L R) f24 s H locs → OB L R O a0 f0 f24 → fr L R [(6, 14), (6, 15), (6, 16), (6, 17), (6, 18)] [6, 41, 44] f0 f24 → fr L R [] [41] f20 f24 → lv_has ls 2 [(0, .ref a0), (1, .int x1_27)] → W p l e rm_X6_clear s m args below meth c H locs 0 0 Q (F0 m 27 ls []) := by
    intro n27
    induction n27 with
    | zero =>
      intro f24 H locs ls x1_27 b25 b26 b27 ip27_0 b28 h hX hk hb27 hl
      exfalso
      omega
    | succ n27 ih27 =>
      intro f24 H locs ls x1_27 b25 b26 b27 ip27_0 b28 h hX hk hb27 hl
      have e29 : fi f24 a0 14 = fi f20 a0 14 := hb27.efi m_a0 r_a0 rfl
      have e30 : fi f24 a0 17 = fi f20 a0 17 := hb27.efi m_a0 r_a0 rfl
      have e31 : fi f24 a0 18 = fi f20 a0 18 := hb27.efi m_a0 r_a0 rfl
      refine lv_iload_n F.1 F.2.1 dX6_clear_27 rfl (lv_at hl 1 rfl) ?_
      refine lv_aload_n F.1 F.2.1 dX6_clear_28 rfl (lv_at hl 0 rfl) ?_
      refine g_6_43 F h m_a0 r_a0 dX6_clear_29 (fun o32 m_o32 r_o32 ho32 => ?_)
      refine al_41 F h m_o32 r_o32 dX6_clear_32 (fun z33 hz33 => ?_)
      refine tw_icmp_ge (tgt := 49) F dX6_clear_33 (by decide) (fun b34 => ?_) (fun b34 => ?_)
      · have hA : AC0 f24 a0 = 0 := ip27_0.resolve_left (by omega)
        refine tw_iconst F dX6_clear_49 ki_0 (fun z35 hz35 => ?_)
        refine lv_istore_n (lv' := [(1, .int z35), (0, .ref a0)]) F.1 F.2.1 dX6_clear_50 rfl hl (by decide) rfl (fun ls hl => ?_)
        have j_51 : ∀ (n51 : Nat) (f36 : Nat → va_E) (H : Heap) (locs : List Loc) (ls : Array Slot) (x1_51 : Int32), 0 ≤ x1_51.toInt → x1_51.toInt ≤ 100 → ((100 - x1_51.toInt)).toNat < n51 → tS D cy A s.heap L R (TT cy L R) f36 s H locs → OB L R O a0 f0 f36 → AC0 f36 a0 = 0 → fr L R [(6, 14), (6, 15), (6, 16), (6, 17), (6, 18)] [6, 41, 44] f0 f36 → fr L R [] [44] f24 f36 → lv_has ls 2 [(0, .ref a0), (1, .int x1_51)] → W p l e rm_X6_clear s m args below meth c H locs 0 0 Q (F0 m 51 ls []) := by
          intro n51
          induction n51 with
          | zero =>
            intro f36 H locs ls x1_51 b37 b38 b39 h hX hA hk hb51 hl
            exfalso
            omega
          | succ n51 ih51 =>
            intro f36 H locs ls x1_51 b37 b38 b39 h hX hA hk hb51 hl
            have e40 : fi f36 a0 14 = fi f24 a0 14 := hb51.efi m_a0 r_a0 rfl
            have e41 : fi f36 a0 17 = fi f24 a0 17 := hb51.efi m_a0 r_a0 rfl
            have e42 : fi f36 a0 18 = fi f24 a0 18 := hb51.efi m_a0 r_a0 rfl
            refine lv_iload_n F.1 F.2.1 dX6_clear_51 rfl (lv_at hl 1 rfl) ?_
            refine tw_bipush F dX6_clear_52 kb_100 (fun z43 hz43 => ?_)
            refine tw_icmp_ge (tgt := 70) F dX6_clear_54 (by decide) (fun b44 => ?_) (fun b44 => ?_)
            · exact hret f36 _ _ _ _ dX6_clear_70 ⟨hk, by omega, by omega, by omega, hA, hX⟩ h
            · refine lv_aload_n F.1 F.2.1 dX6_clear_57 rfl (lv_at hl 0 rfl) ?_
              refine g_6_52 F h m_a0 r_a0 dX6_clear_58 (fun o45 m_o45 r_o45 ho45 => ?_)
              refine lv_iload_n F.1 F.2.1 dX6_clear_61 rfl (lv_at hl 1 rfl) ?_
              refine tw_iconst F dX6_clear_62 ki_m1 (fun z46 hz46 => ?_)
              refine se_44 F h m_o45 r_o45 (by omega) (by omega) dX6_clear_63 (fun f47 H locs e47a e47b hf47 h => ?_)
              have hX : OB L R O a0 f0 f47 := OB_o hX e47b (OWa (hG.1.fr hk (by decide +kernel)) m_a0 r_a0 sk13 ho45)
              have hA : AC0 f47 a0 = 0 := (AC0_fr (hG.1.fr hk (by decide +kernel)) hf47 (by decide +kernel) (by decide +kernel) m_a0 r_a0).trans hA
              have hk : fr L R [(6, 14), (6, 15), (6, 16), (6, 17), (6, 18)] [6, 41, 44] f0 f47 := hk.tr hf47 rfl rfl
              have hb51 : fr L R [] [44] f24 f47 := hb51.tr hf47 rfl rfl
              have e48 : fi f47 a0 14 = fi f36 a0 14 := hf47.efi m_a0 r_a0 rfl
              have e49 : fi f47 a0 17 = fi f36 a0 17 := hf47.efi m_a0 r_a0 rfl
              have e50 : fi f47 a0 18 = fi f36 a0 18 := hf47.efi m_a0 r_a0 rfl
              refine tu_iinc F dX6_clear_64 hl (k := 1) rfl (by decide) ki_1 (by omega) (fun z51 ls hz51 hl => ?_)
              have hl : lv_has ls 2 [(1, .int z51), (0, .ref a0)] := hl
              refine lv_goto (tgt := 51) F.1 F.2.1 dX6_clear_67 (by decide) ?_
              exact ih51 f47 _ _ _ z51 (by omega) (by omega) (by omega) h hX hA hk hb51 (lv_sub hl [1, 0] rfl)
        have hb51 : fr L R [] [44] f24 f24 := fr.rf
        exact j_51 (((100 - z35.toInt)).toNat + 1) f24 _ _ _ z35 (by omega) (by omega) (by omega) h hX hA hk hb51 (lv_sub hl [1, 0] rfl)
      · refine lv_aload_n F.1 F.2.1 dX6_clear_36 rfl (lv_at hl 0 rfl) ?_
        refine g_6_43 F h m_a0 r_a0 dX6_clear_37 (fun o52 m_o52 r_o52 ho52 => ?_)
        refine lv_iload_n F.1 F.2.1 dX6_clear_40 rfl (lv_at hl 1 rfl) ?_
        refine tw_iconst F dX6_clear_41 ki_0 (fun z53 hz53 => ?_)
        refine se_41 F h m_o52 r_o52 (by omega) (by omega) dX6_clear_42 (fun f54 H locs e54a e54b hf54 h => ?_)
        have hX : OB L R O a0 f0 f54 := OB_o hX e54b (OWa (hG.1.fr hk (by decide +kernel)) m_a0 r_a0 sk10 ho52)
        have hk : fr L R [(6, 14), (6, 15), (6, 16), (6, 17), (6, 18)] [6, 41, 44] f0 f54 := hk.tr hf54 rfl rfl
        have hb27 : fr L R [] [41] f20 f54 := hb27.tr hf54 rfl rfl
        have e55 : fi f54 a0 14 = fi f24 a0 14 := hf54.efi m_a0 r_a0 rfl
        have e56 : fi f54 a0 17 = fi f24 a0 17 := hf54.efi m_a0 r_a0 rfl
        have e57 : fi f54 a0 18 = fi f24 a0 18 := hf54.efi m_a0 r_a0 rfl
        have ac : AC0 f54 a0 = 0 := if q : (0 : Nat) = x1_27.toInt.toNat then (by unfold AC0; rw [rfa_of ((hf54.efl m_a0 r_a0 (by decide +kernel)).trans ho52), e54a, if_pos q]; omega) else (by unfold AC0; rw [rfa_of ((hf54.efl m_a0 r_a0 (by decide +kernel)).trans ho52), e54a, if_neg q]; have q2 := ip27_0.resolve_left (by omega); unfold AC0 at q2; rw [rfa_of ho52] at q2; exact q2)
        refine tu_iinc F dX6_clear_43 hl (k := 1) rfl (by decide) ki_1 (by omega) (fun z58 ls hz58 hl => ?_)
        have hl : lv_has ls 2 [(1, .int z58), (0, .ref a0)] := hl
        refine lv_goto (tgt := 27) F.1 F.2.1 dX6_clear_46 (by decide) ?_
        exact ih27 f54 _ _ _ z58 (by omega) (by omega) (by omega) (Or.inr ac) (by omega) h hX hk hb27 (lv_sub hl [1, 0] rfl)
  have hb27 : fr L R [] [41] f20 f20 := fr.rf
  exact j_27 (((25 - z23.toInt)).toNat + 1) f20 _ _ _ z23 (by omega) (by omega) (by omega) (Or.inl (by omega)) (by omega) h hX hk hb27 (lv_sub hl [1, 0] rfl)
theorem dX6_addPart_0 : decode cX6_addPart 0 = .ok (.aload_n 0, 1) := by decide +kernel
theorem dX6_addPart_1 : decode cX6_addPart 1 = .ok (.getfield 55, 3) := by decide +kernel
section
variable {p : Program} {l : Launch} {e : Env} {R0 : Room} {s : State} {m : MethodId} {args : Array Value} {below : List Frame} {meth : Method} {c : Code} {H H0 : Heap} {locs : List Loc} {cells slots : Nat} {Q : State → Prop} {cc : ByteArray} {nL : Nat} {D : va_G} {cy : Nat → ClassId} {A : Nat → Prop} {L : List Nat} {R : Nat → Nat} {f : Nat → va_E} {pc : Nat} {ls : Array Slot} {rest : List Value} {a : Nat}
theorem g_6_55 (F : CallFix p m c cc nL s args wsL_law RX6) (h : tS D cy A H0 L R (TT cy L R) f s H locs) (ha : a ∈ L) (hr : R a = 6) (hdg : decode cc pc = .ok (.getfield 55, 3)) (kk : ∀ x : Int32, x.toInt = fi f a 14 → 0 ≤ x.toInt → x.toInt ≤ 600 → W p l e R0 s m args below meth c H locs cells slots Q (F0 m (pc + 3) ls (.int x :: rest))) : W p l e R0 s m args below meth c H locs cells slots Q (F0 m pc ls (.ref a :: rest)) := tu_geti F h ha hr (fun e q => (T_6 e).mp q) rfl inlX6 rfl (Nat.le_of_ble_eq_true rfl) mw_94 hdg (fun x h1 h2 h3 => kk x h1 h2 h3)
end
theorem dX6_addPart_4 : decode cX6_addPart 4 = .ok (.sipush 600, 3) := by decide +kernel
theorem dX6_addPart_7 : decode cX6_addPart 7 = .ok (.if_icmp .ge 23, 3) := by decide +kernel
theorem dX6_addPart_30 : decode cX6_addPart 30 = .ok (.return_, 1) := by decide +kernel
theorem dX6_addPart_10 : decode cX6_addPart 10 = .ok (.aload_n 0, 1) := by decide +kernel
theorem dX6_addPart_11 : decode cX6_addPart 11 = .ok (.getfield 9, 3) := by decide +kernel
theorem dX6_addPart_14 : decode cX6_addPart 14 = .ok (.aload_n 0, 1) := by decide +kernel
theorem dX6_addPart_15 : decode cX6_addPart 15 = .ok (.getfield 55, 3) := by decide +kernel
theorem dX6_addPart_18 : decode cX6_addPart 18 = .ok (.lload_n 1, 1) := by decide +kernel
theorem dX6_addPart_19 : decode cX6_addPart 19 = .ok (.lastore, 1) := by decide +kernel
section
variable {p : Program} {l : Launch} {e : Env} {R0 : Room} {s : State} {m : MethodId} {args : Array Value} {below : List Frame} {meth : Method} {c : Code} {H H0 : Heap} {locs : List Loc} {cells slots : Nat} {Q : State → Prop} {cc : ByteArray} {nL : Nat} {D : va_G} {cy : Nat → ClassId} {A : Nat → Prop} {L : List Nat} {R : Nat → Nat} {f : Nat → va_E} {pc : Nat} {ls : Array Slot} {rest : List Value} {a : Nat}
theorem se_35 {own : String} (F : CallFix p m c cc nL s args wsL_law own) (h : tS D cy A H0 L R (TT cy L R) f s H locs) {i : Int32} {x : Int64} (ha : a ∈ L) (hr : R a = 35) (hb : 0 ≤ i.toInt ∧ i.toInt < 600) (hv : (-9) ≤ x.toInt) (hdg : decode cc pc = .ok (.lastore, 1)) (kk : ∀ (f1 : Nat → va_E) (H1 : Heap) (locs1 : List Loc), (∀ j, elj f1 a j = if j = i.toInt.toNat then x.toInt else elj f a j) → (∀ a', a' ≠ a → f1 a' = f a') → fr L R [] [35] f f1 → tS D cy A H0 L R (TT cy L R) f1 s H1 locs1 → W p l e R0 s m args below meth c H1 locs1 cells slots Q (F0 m (pc + 1) ls (rest))) : W p l e R0 s m args below meth c H locs cells slots Q (F0 m pc ls (.long x :: .int i :: .ref a :: rest)) := tu_last F h ha hr T_35 hb.1 hb.2 hv hdg (fun f1 H1 locs1 h1 h2 h3 h4 => kk f1 H1 locs1 h1 h2 h3 h4)
end
theorem dX6_addPart_20 : decode cX6_addPart 20 = .ok (.aload_n 0, 1) := by decide +kernel
theorem dX6_addPart_21 : decode cX6_addPart 21 = .ok (.dup, 1) := by decide +kernel
theorem dX6_addPart_22 : decode cX6_addPart 22 = .ok (.getfield 55, 3) := by decide +kernel
theorem dX6_addPart_25 : decode cX6_addPart 25 = .ok (.iconst 1, 1) := by decide +kernel
theorem dX6_addPart_26 : decode cX6_addPart 26 = .ok (.iadd, 1) := by decide +kernel
theorem dX6_addPart_27 : decode cX6_addPart 27 = .ok (.putfield 55, 3) := by decide +kernel
def rm_X6_addPart : Room := { frames := 0, cells := 0, slots := 0, locals := 0 }
set_option maxHeartbeats 4000000 in
set_option maxRecDepth 100000 in
theorem s_X6_addPart (l : Launch) (D : va_G) (cy : Nat → ClassId) (L : List Nat) (R O : Nat → Nat) (f0 : Nat → va_E) (hG : GG L R O f0) (a0 : Nat) (m_a0 : a0 ∈ L) (r_a0 : R a0 = 6) (x1 : Int64) (b1 : (-9) ≤ x1.toInt) (pre0 : x1.toInt ≠ 0) (pre1 : PNZ f0 a0) : ∀ sz, Met l yX6_addPart (Cond.code yX6_addPart cX6_addPart 3 none :: wsL_law) rm_X6_addPart (va_Pc [.ref a0, .long x1] (tPZ D cy L R (TT cy L R) f0 sz)) (va_Qv (fun f1 => fr L R [(6, 14)] [6, 35] f0 f1 ∧ PNZ f1 a0 ∧ (fi f1 a0 14 = fi f0 a0 14 + 1 ∨ (fi f1 a0 14 = fi f0 a0 14 ∧ fi f0 a0 14 = 600)) ∧ OB L R O a0 f0 f1) (tB D (tA L sz) L R (TT cy L R)) (tA L sz)) 0 0 (tA L sz) := by
  refine tw_enterv (by decide +kernel) rfl (Nat.le_of_ble_eq_true rfl) ?_
  intro p e s m below meth c A ls args Q F hZ h hl hret
  have hl : lv_has ls 3 [(0, .ref a0), (1, .long x1)] := hl
  have hk : fr L R [(6, 14)] [6, 35] f0 f0 := fr.rf
  have t_a0_partCount := h.bfi m_a0 r_a0 (fun e q => (T_6 e).mp q) (k := 14) rfl
  have hX : OB L R O a0 f0 f0 := OB_rf
  refine lv_aload_n F.1 F.2.1 dX6_addPart_0 rfl (lv_at hl 0 rfl) ?_
  refine g_6_55 F h m_a0 r_a0 dX6_addPart_1 (fun v1 hv1 hv1a hv1b => ?_)
  refine tw_sipush F dX6_addPart_4 ks_600 (fun z2 hz2 => ?_)
  refine tw_icmp_ge (tgt := 30) F dX6_addPart_7 (by decide) (fun b3 => ?_) (fun b3 => ?_)
  · have hP : PNZ f0 a0 := pre1
    exact hret f0 _ _ _ _ dX6_addPart_30 ⟨hk, hP, by omega, hX⟩ h
  · refine lv_aload_n F.1 F.2.1 dX6_addPart_10 rfl (lv_at hl 0 rfl) ?_
    refine g_6_9 F h m_a0 r_a0 dX6_addPart_11 (fun o4 m_o4 r_o4 ho4 => ?_)
    refine lv_aload_n F.1 F.2.1 dX6_addPart_14 rfl (lv_at hl 0 rfl) ?_
    refine g_6_55 F h m_a0 r_a0 dX6_addPart_15 (fun v5 hv5 hv5a hv5b => ?_)
    refine lv_lload_n F.1 F.2.1 dX6_addPart_18 rfl (lv_at hl 1 rfl) ?_
    refine se_35 F h m_o4 r_o4 (by omega) (by omega) dX6_addPart_19 (fun f6 H locs e6a e6b hf6 h => ?_)
    have hX : OB L R O a0 f0 f6 := OB_o hX e6b (OWa hG.1 m_a0 r_a0 sk0 ho4)
    have hk : fr L R [(6, 14)] [6, 35] f0 f6 := hk.tr hf6 rfl rfl
    have e7 : fi f6 a0 14 = fi f0 a0 14 := hf6.efi m_a0 r_a0 rfl
    refine lv_aload_n F.1 F.2.1 dX6_addPart_20 rfl (lv_at hl 0 rfl) ?_
    refine lv_dup F.1 F.2.1 dX6_addPart_21 rfl ?_
    refine g_6_55 F h m_a0 r_a0 dX6_addPart_22 (fun v8 hv8 hv8a hv8b => ?_)
    refine tw_iconst F dX6_addPart_25 ki_1 (fun z9 hz9 => ?_)
    refine tu_iadd F dX6_addPart_26 (by omega) (fun z10 hz10 => ?_)
    refine pe_6_55 F h m_a0 r_a0 (by omega) dX6_addPart_27 (fun f11 H locs e11pq e11po hf11 h => ?_)
    have e11p : fi f11 a0 14 = z10.toInt := by unfold fi; rw [e11pq]; rfl
    have hX : OB L R O a0 f0 f11 := OB_o hX e11po (hG.1 a0 m_a0 r_a0).1
    have hk : fr L R [(6, 14)] [6, 35] f0 f11 := hk.tr hf11 rfl rfl
    have np : a0 ≠ o4 := ne_r r_a0 r_o4 (by decide)
    have hP : PNZ f11 a0 := fun j hj => by rw [rfa_of (((hf11.efl m_a0 r_a0 (by decide +kernel)).trans (hf6.efl m_a0 r_a0 (by decide +kernel))).trans ho4), elj_o e11po (Ne.symm np), e6a]; exact if q : j = v5.toInt.toNat then (by rw [if_pos q]; exact pre0) else (by rw [if_neg q]; have q2 := pre1 j (by omega); rw [rfa_of ho4] at q2; exact q2)
    exact hret f11 _ _ _ _ dX6_addPart_30 ⟨hk, hP, by omega, hX⟩ h
theorem dX6_addItem_0 : decode cX6_addItem 0 = .ok (.aload_n 0, 1) := by decide +kernel
theorem dX6_addItem_1 : decode cX6_addItem 1 = .ok (.lload_n 2, 1) := by decide +kernel
theorem dX6_addItem_2 : decode cX6_addItem 2 = .ok (.invokevirtual 77, 3) := by decide +kernel
theorem mw_590 : Cond.methodLink RX6 77 yX6_addPart ∈ wsL_law := inr_25 _ (List.mem_of_getElem? (i := 14) rfl)
theorem mw_593 : Cond.code yX6_addPart cX6_addPart 3 none ∈ wsL_law := inr_25 _ (List.mem_of_getElem? (i := 17) rfl)
theorem yk_X6_addPart : xY yX6_addPart RX6 cX6_addPart 3 none 1 := ⟨⟨rfl, by decide +kernel, by decide +kernel, by decide +kernel⟩, mw_57, mw_593⟩
theorem mw_591 : Cond.instanceMethod yX6_addPart ∈ wsL_law := inr_25 _ (List.mem_of_getElem? (i := 15) rfl)
theorem mw_592 : Cond.selects RX6 yX6_addPart yX6_addPart ∈ wsL_law := inr_25 _ (List.mem_of_getElem? (i := 16) rfl)
theorem dX6_addItem_5 : decode cX6_addItem 5 = .ok (.aload_n 0, 1) := by decide +kernel
theorem dX6_addItem_6 : decode cX6_addItem 6 = .ok (.getfield 40, 3) := by decide +kernel
theorem dX6_addItem_9 : decode cX6_addItem 9 = .ok (.iload_n 1, 1) := by decide +kernel
theorem dX6_addItem_10 : decode cX6_addItem 10 = .ok (.dup2, 1) := by decide +kernel
theorem dX6_addItem_11 : decode cX6_addItem 11 = .ok (.iaload, 1) := by decide +kernel
theorem dX6_addItem_12 : decode cX6_addItem 12 = .ok (.iconst 1, 1) := by decide +kernel
theorem dX6_addItem_13 : decode cX6_addItem 13 = .ok (.iadd, 1) := by decide +kernel
theorem dX6_addItem_14 : decode cX6_addItem 14 = .ok (.iastore, 1) := by decide +kernel
section
variable {p : Program} {l : Launch} {e : Env} {R0 : Room} {s : State} {m : MethodId} {args : Array Value} {below : List Frame} {meth : Method} {c : Code} {H H0 : Heap} {locs : List Loc} {cells slots : Nat} {Q : State → Prop} {cc : ByteArray} {nL : Nat} {D : va_G} {cy : Nat → ClassId} {A : Nat → Prop} {L : List Nat} {R : Nat → Nat} {f : Nat → va_E} {pc : Nat} {ls : Array Slot} {rest : List Value} {a : Nat}
theorem se_40 {own : String} (F : CallFix p m c cc nL s args wsL_law own) (h : tS D cy A H0 L R (TT cy L R) f s H locs) {i : Int32} {x : Int32} (ha : a ∈ L) (hr : R a = 40) (hb : 0 ≤ i.toInt ∧ i.toInt < 24) (hv : 0 ≤ x.toInt ∧ x.toInt ≤ 8) (hdg : decode cc pc = .ok (.iastore, 1)) (kk : ∀ (f1 : Nat → va_E) (H1 : Heap) (locs1 : List Loc), (∀ j, eli f1 a j = if j = i.toInt.toNat then x.toInt else eli f a j) → (∀ a', a' ≠ a → f1 a' = f a') → fr L R [] [40] f f1 → tS D cy A H0 L R (TT cy L R) f1 s H1 locs1 → W p l e R0 s m args below meth c H1 locs1 cells slots Q (F0 m (pc + 1) ls (rest))) : W p l e R0 s m args below meth c H locs cells slots Q (F0 m pc ls (.int x :: .int i :: .ref a :: rest)) := tu_iast F h ha hr T_40 hb.1 hb.2 hv hdg (fun f1 H1 locs1 h1 h2 h3 h4 => kk f1 H1 locs1 h1 h2 h3 h4)
end
theorem dX6_addItem_15 : decode cX6_addItem 15 = .ok (.return_, 1) := by decide +kernel
def rm_X6_addItem : Room := { frames := 1, cells := 0, slots := 0, locals := 22 }
set_option maxHeartbeats 4000000 in
set_option maxRecDepth 100000 in
theorem s_X6_addItem (l : Launch) (D : va_G) (cy : Nat → ClassId) (L : List Nat) (R O : Nat → Nat) (f0 : Nat → va_E) (hG : GG L R O f0) (a0 : Nat) (m_a0 : a0 ∈ L) (r_a0 : R a0 = 6) (x1 : Int32) (b1 : 0 ≤ x1.toInt ∧ x1.toInt ≤ 23) (x2 : Int64) (b2 : (-9) ≤ x2.toInt) (pre0 : x2.toInt ≠ 0) (pre1 : PNZ f0 a0) (pre2 : eli f0 (rfa f0 a0 9) x1.toInt.toNat ≤ 7) (pre3 : eli f0 (rfa f0 a0 8) x1.toInt.toNat + eli f0 (rfa f0 a0 9) x1.toInt.toNat ≤ 599) : ∀ sz, Met l yX6_addItem (Cond.code yX6_addItem cX6_addItem 4 none :: wsL_law) rm_X6_addItem (va_Pc [.ref a0, .int x1, .long x2] (tPZ D cy L R (TT cy L R) f0 sz)) (va_Qv (fun f1 => fr L R [(6, 14)] [6, 35, 40] f0 f1 ∧ GG L R O f1 ∧ PNZ f1 a0 ∧ (fi f1 a0 14 = fi f0 a0 14 + 1 ∨ (fi f1 a0 14 = fi f0 a0 14 ∧ fi f0 a0 14 = 600)) ∧ eli f1 (rfa f1 a0 9) x1.toInt.toNat = eli f0 (rfa f0 a0 9) x1.toInt.toNat + 1 ∧ OB L R O a0 f0 f1) (tB D (tA L sz) L R (TT cy L R)) (tA L sz)) 0 0 (tA L sz) := by
  refine tw_enterv (by decide +kernel) rfl (Nat.le_of_ble_eq_true rfl) ?_
  intro p e s m below meth c A ls args Q F hZ h hl hret
  have hl : lv_has ls 4 [(0, .ref a0), (1, .int x1), (2, .long x2)] := hl
  have hk : fr L R [(6, 14)] [6, 35, 40] f0 f0 := fr.rf
  have t_a0_partCount := h.bfi m_a0 r_a0 (fun e q => (T_6 e).mp q) (k := 14) rfl
  have hX : OB L R O a0 f0 f0 := OB_rf
  have hG0 := hG
  refine lv_aload_n F.1 F.2.1 dX6_addItem_0 rfl (lv_at hl 0 rfl) ?_
  refine lv_lload_n F.1 F.2.1 dX6_addItem_1 rfl (lv_at hl 2 rfl) ?_
  refine tw_Vv (As := [.long x2]) F hZ h yk_X6_addPart mw_590 mw_591 mw_592 (s_X6_addPart l D cy L R O f0 hG a0 m_a0 r_a0 x2 (by omega) pre0 pre1) rfl rfl m_a0 r_a0 (fun e q => (T_6 e).mp q) rfl hl.1 rfl (Nat.le_of_ble_eq_true rfl) ⟨Nat.le_of_ble_eq_true rfl, Nat.le_of_ble_eq_true rfl⟩ ⟨Nat.le_of_ble_eq_true rfl, Nat.le_of_ble_eq_true rfl⟩ dX6_addItem_2 (fun f1 H locs hp1 h => ?_)
  obtain ⟨hf1, hv2p0, hv2p1, hv2p2⟩ := hp1
  have hX : OB L R O a0 f0 f1 := OB_tr hX hv2p2
  have hG : GG L R O f1 := hG.fr hf1 (by decide +kernel) (by decide +kernel)
  have hk : fr L R [(6, 14)] [6, 35, 40] f0 f1 := hk.tr hf1 rfl rfl
  have hPc := hv2p1
  have hPz := hv2p0
  refine lv_aload_n F.1 F.2.1 dX6_addItem_5 rfl (lv_at hl 0 rfl) ?_
  refine g_6_40 F h m_a0 r_a0 dX6_addItem_6 (fun o3 m_o3 r_o3 ho3 => ?_)
  refine lv_iload_n F.1 F.2.1 dX6_addItem_9 rfl (lv_at hl 1 rfl) ?_
  refine lv_dup2_11 F.1 F.2.1 dX6_addItem_10 rfl rfl ?_
  refine le_40 F h m_o3 r_o3 (by omega) dX6_addItem_11 (fun v4 ev4 hv4a hv4b => ?_)
  have q9a : eli f1 (rfa f1 a0 9) x1.toInt.toNat = eli f0 (rfa f0 a0 9) x1.toInt.toNat := E0i hG0.1 hf1 (by decide +kernel) m_a0 r_a0 sk9 rfl (by decide +kernel) _
  rw [rfa_of ho3] at q9a
  refine tw_iconst F dX6_addItem_12 ki_1 (fun z5 hz5 => ?_)
  refine tu_iadd F dX6_addItem_13 (by omega) (fun z6 hz6 => ?_)
  have hGb := hG
  refine se_40 F h m_o3 r_o3 (by omega) (by omega) dX6_addItem_14 (fun f7 H locs e7a e7b hf7 h => ?_)
  have hX : OB L R O a0 f0 f7 := OB_fr hX hf7 (by decide +kernel)
  have hk : fr L R [(6, 14)] [6, 35, 40] f0 f7 := hk.tr hf7 rfl rfl
  have e8 : fi f7 a0 14 = fi f1 a0 14 := hf7.efi m_a0 r_a0 rfl
  have q8 := E0i (hG0).1 hf1 (by decide +kernel) m_a0 r_a0 sk8 rfl (by decide +kernel) x1.toInt.toNat
  have q9 := E0i (hG0).1 hf1 (by decide +kernel) m_a0 r_a0 sk9 rfl (by decide +kernel) x1.toInt.toNat
  have q9b := rfa_of ho3
  rw [q9b] at q9
  have hG : GG L R O f7 := GX_ct1 (GX_of hGb m_a0 r_a0) m_a0 r_a0 ho3 e7b e7a (by omega)
  have n0 : a0 ≠ o3 := ne_r r_a0 r_o3 (by decide)
  have c14 : fi f7 a0 14 = fi f1 a0 14 := fi_o e7b n0 14
  have q9c : eli f7 (rfa f7 a0 9) x1.toInt.toNat = eli f0 (rfa f0 a0 9) x1.toInt.toNat + 1 := by rw [rfa_o e7b n0, q9b, e7a, if_pos rfl]; omega
  have np : rfa f1 a0 0 ≠ o3 := ne_r (hGb.1.k m_a0 r_a0 sk0 (ro := 35) rfl).2.1 r_o3 (by decide)
  have hP : PNZ f7 a0 := fun j hj => by rw [rfa_o e7b n0, elj_o e7b np]; exact hPz j (by omega)
  exact hret f7 _ _ _ _ dX6_addItem_15 ⟨hk, hG, hP, by omega, q9c, hX⟩ h
theorem dX6_addPiece_0 : decode cX6_addPiece 0 = .ok (.aload_n 0, 1) := by decide +kernel
theorem dX6_addPiece_1 : decode cX6_addPiece 1 = .ok (.lload_n 2, 1) := by decide +kernel
theorem dX6_addPiece_2 : decode cX6_addPiece 2 = .ok (.invokevirtual 77, 3) := by decide +kernel
theorem dX6_addPiece_5 : decode cX6_addPiece 5 = .ok (.aload_n 0, 1) := by decide +kernel
theorem dX6_addPiece_6 : decode cX6_addPiece 6 = .ok (.getfield 49, 3) := by decide +kernel
theorem dX6_addPiece_9 : decode cX6_addPiece 9 = .ok (.iload_n 1, 1) := by decide +kernel
theorem dX6_addPiece_10 : decode cX6_addPiece 10 = .ok (.dup2, 1) := by decide +kernel
theorem dX6_addPiece_11 : decode cX6_addPiece 11 = .ok (.iaload, 1) := by decide +kernel
theorem dX6_addPiece_12 : decode cX6_addPiece 12 = .ok (.iconst 1, 1) := by decide +kernel
theorem dX6_addPiece_13 : decode cX6_addPiece 13 = .ok (.iadd, 1) := by decide +kernel
theorem dX6_addPiece_14 : decode cX6_addPiece 14 = .ok (.iastore, 1) := by decide +kernel
section
variable {p : Program} {l : Launch} {e : Env} {R0 : Room} {s : State} {m : MethodId} {args : Array Value} {below : List Frame} {meth : Method} {c : Code} {H H0 : Heap} {locs : List Loc} {cells slots : Nat} {Q : State → Prop} {cc : ByteArray} {nL : Nat} {D : va_G} {cy : Nat → ClassId} {A : Nat → Prop} {L : List Nat} {R : Nat → Nat} {f : Nat → va_E} {pc : Nat} {ls : Array Slot} {rest : List Value} {a : Nat}
theorem se_43 {own : String} (F : CallFix p m c cc nL s args wsL_law own) (h : tS D cy A H0 L R (TT cy L R) f s H locs) {i : Int32} {x : Int32} (ha : a ∈ L) (hr : R a = 43) (hb : 0 ≤ i.toInt ∧ i.toInt < 100) (hv : 0 ≤ x.toInt ∧ x.toInt ≤ 10) (hdg : decode cc pc = .ok (.iastore, 1)) (kk : ∀ (f1 : Nat → va_E) (H1 : Heap) (locs1 : List Loc), (∀ j, eli f1 a j = if j = i.toInt.toNat then x.toInt else eli f a j) → (∀ a', a' ≠ a → f1 a' = f a') → fr L R [] [43] f f1 → tS D cy A H0 L R (TT cy L R) f1 s H1 locs1 → W p l e R0 s m args below meth c H1 locs1 cells slots Q (F0 m (pc + 1) ls (rest))) : W p l e R0 s m args below meth c H locs cells slots Q (F0 m pc ls (.int x :: .int i :: .ref a :: rest)) := tu_iast F h ha hr T_43 hb.1 hb.2 hv hdg (fun f1 H1 locs1 h1 h2 h3 h4 => kk f1 H1 locs1 h1 h2 h3 h4)
end
theorem dX6_addPiece_15 : decode cX6_addPiece 15 = .ok (.return_, 1) := by decide +kernel
def rm_X6_addPiece : Room := { frames := 1, cells := 0, slots := 0, locals := 22 }
set_option maxHeartbeats 4000000 in
set_option maxRecDepth 100000 in
theorem s_X6_addPiece (l : Launch) (D : va_G) (cy : Nat → ClassId) (L : List Nat) (R O : Nat → Nat) (f0 : Nat → va_E) (hG : GG L R O f0) (a0 : Nat) (m_a0 : a0 ∈ L) (r_a0 : R a0 = 6) (x1 : Int32) (b1 : 0 ≤ x1.toInt ∧ x1.toInt ≤ 99) (x2 : Int64) (b2 : (-9) ≤ x2.toInt) (pre0 : x2.toInt ≠ 0) (pre1 : PNZ f0 a0) (pre2 : eli f0 (rfa f0 a0 12) x1.toInt.toNat ≤ 9) (pre3 : VSd f0 a0 x1.toInt.toNat) (pre4 : fi f0 a0 14 ≤ 599) : ∀ sz, Met l yX6_addPiece (Cond.code yX6_addPiece cX6_addPiece 4 none :: wsL_law) rm_X6_addPiece (va_Pc [.ref a0, .int x1, .long x2] (tPZ D cy L R (TT cy L R) f0 sz)) (va_Qv (fun f1 => fr L R [(6, 14)] [6, 35, 43] f0 f1 ∧ GG L R O f1 ∧ PNZ f1 a0 ∧ (fi f1 a0 14 = fi f0 a0 14 + 1 ∨ (fi f1 a0 14 = fi f0 a0 14 ∧ fi f0 a0 14 = 600)) ∧ eli f1 (rfa f1 a0 12) x1.toInt.toNat = eli f0 (rfa f0 a0 12) x1.toInt.toNat + 1 ∧ VSd f1 a0 x1.toInt.toNat ∧ (∀ d, d ≠ x1.toInt.toNat → VSd f0 a0 d → VSd f1 a0 d) ∧ OB L R O a0 f0 f1) (tB D (tA L sz) L R (TT cy L R)) (tA L sz)) 0 0 (tA L sz) := by
  refine tw_enterv (by decide +kernel) rfl (Nat.le_of_ble_eq_true rfl) ?_
  intro p e s m below meth c A ls args Q F hZ h hl hret
  have hl : lv_has ls 4 [(0, .ref a0), (1, .int x1), (2, .long x2)] := hl
  have hk : fr L R [(6, 14)] [6, 35, 43] f0 f0 := fr.rf
  have t_a0_partCount := h.bfi m_a0 r_a0 (fun e q => (T_6 e).mp q) (k := 14) rfl
  have hX : OB L R O a0 f0 f0 := OB_rf
  have hG0 := hG
  have pre3b := pre3
  unfold VSd at pre3b
  refine lv_aload_n F.1 F.2.1 dX6_addPiece_0 rfl (lv_at hl 0 rfl) ?_
  refine lv_lload_n F.1 F.2.1 dX6_addPiece_1 rfl (lv_at hl 2 rfl) ?_
  refine tw_Vv (As := [.long x2]) F hZ h yk_X6_addPart mw_590 mw_591 mw_592 (s_X6_addPart l D cy L R O f0 hG a0 m_a0 r_a0 x2 (by omega) pre0 pre1) rfl rfl m_a0 r_a0 (fun e q => (T_6 e).mp q) rfl hl.1 rfl (Nat.le_of_ble_eq_true rfl) ⟨Nat.le_of_ble_eq_true rfl, Nat.le_of_ble_eq_true rfl⟩ ⟨Nat.le_of_ble_eq_true rfl, Nat.le_of_ble_eq_true rfl⟩ dX6_addPiece_2 (fun f1 H locs hp1 h => ?_)
  obtain ⟨hf1, hv2p0, hv2p1, hv2p2⟩ := hp1
  have hX : OB L R O a0 f0 f1 := OB_tr hX hv2p2
  have hG : GG L R O f1 := hG.fr hf1 (by decide +kernel) (by decide +kernel)
  have hk : fr L R [(6, 14)] [6, 35, 43] f0 f1 := hk.tr hf1 rfl rfl
  have hPc := hv2p1
  have hPz := hv2p0
  refine lv_aload_n F.1 F.2.1 dX6_addPiece_5 rfl (lv_at hl 0 rfl) ?_
  refine g_6_49 F h m_a0 r_a0 dX6_addPiece_6 (fun o3 m_o3 r_o3 ho3 => ?_)
  refine lv_iload_n F.1 F.2.1 dX6_addPiece_9 rfl (lv_at hl 1 rfl) ?_
  refine lv_dup2_11 F.1 F.2.1 dX6_addPiece_10 rfl rfl ?_
  refine le_43 F h m_o3 r_o3 (by omega) dX6_addPiece_11 (fun v4 ev4 hv4a hv4b => ?_)
  have q9a : eli f1 (rfa f1 a0 12) x1.toInt.toNat = eli f0 (rfa f0 a0 12) x1.toInt.toNat := E0i hG0.1 hf1 (by decide +kernel) m_a0 r_a0 sk12 rfl (by decide +kernel) _
  rw [rfa_of ho3] at q9a
  refine tw_iconst F dX6_addPiece_12 ki_1 (fun z5 hz5 => ?_)
  refine tu_iadd F dX6_addPiece_13 (by omega) (fun z6 hz6 => ?_)
  have hGb := hG
  refine se_43 F h m_o3 r_o3 (by omega) (by omega) dX6_addPiece_14 (fun f7 H locs e7a e7b hf7 h => ?_)
  have hX : OB L R O a0 f0 f7 := OB_o hX e7b (OWa hG.1 m_a0 r_a0 sk12 ho3)
  have hk : fr L R [(6, 14)] [6, 35, 43] f0 f7 := hk.tr hf7 rfl rfl
  have e8 : fi f7 a0 14 = fi f1 a0 14 := hf7.efi m_a0 r_a0 rfl
  have q8 := E0i (hG0).1 hf1 (by decide +kernel) m_a0 r_a0 sk11 rfl (by decide +kernel) x1.toInt.toNat
  have q9 := E0i (hG0).1 hf1 (by decide +kernel) m_a0 r_a0 sk12 rfl (by decide +kernel) x1.toInt.toNat
  have q9b := rfa_of ho3
  rw [q9b] at q9
  have hG : GG L R O f7 := GX_ct2 (GX_of hGb m_a0 r_a0) m_a0 r_a0 ho3 e7b e7a (by omega)
  have n0 : a0 ≠ o3 := ne_r r_a0 r_o3 (by decide)
  have c14 : fi f7 a0 14 = fi f1 a0 14 := fi_o e7b n0 14
  have q9c : eli f7 (rfa f7 a0 12) x1.toInt.toNat = eli f0 (rfa f0 a0 12) x1.toInt.toNat + 1 := by rw [rfa_o e7b n0, q9b, e7a, if_pos rfl]; omega
  have np : rfa f1 a0 0 ≠ o3 := ne_r (hGb.1.k m_a0 r_a0 sk0 (ro := 35) rfl).2.1 r_o3 (by decide)
  have hP : PNZ f7 a0 := fun j hj => by rw [rfa_o e7b n0, elj_o e7b np]; exact hPz j (by omega)
  have n8 : rfa f1 a0 11 ≠ o3 := ne_r (hGb.1.k m_a0 r_a0 sk11 (ro := 42) rfl).2.1 r_o3 (by decide)
  have e8 : ∀ d, eli f7 (rfa f7 a0 11) d = eli f0 (rfa f0 a0 11) d := fun d => by rw [rfa_o e7b n0, eli_o e7b n8]; exact E0i hG0.1 hf1 (by decide +kernel) m_a0 r_a0 sk11 rfl (by decide +kernel) d
  have e9 : ∀ d, d ≠ x1.toInt.toNat → eli f7 (rfa f7 a0 12) d = eli f0 (rfa f0 a0 12) d := fun d hd => by rw [rfa_o e7b n0, q9b, e7a, if_neg hd]; have q := E0i hG0.1 hf1 (by decide +kernel) m_a0 r_a0 sk12 rfl (by decide +kernel) d; rw [q9b] at q; exact q
  have hV : VSd f7 a0 x1.toInt.toNat := by have q := pre3; unfold VSd at q ⊢; rw [e8, q9c]; omega
  have hM : ∀ d, d ≠ x1.toInt.toNat → VSd f0 a0 d → VSd f7 a0 d := fun d hd q => by unfold VSd at q ⊢; rw [e8, e9 d hd]; omega
  exact hret f7 _ _ _ _ dX6_addPiece_15 ⟨hk, hG, hP, by omega, q9c, hV, hM, hX⟩ h
theorem dX6_openAnswer_0 : decode cX6_openAnswer 0 = .ok (.aload_n 0, 1) := by decide +kernel
theorem dX6_openAnswer_1 : decode cX6_openAnswer 1 = .ok (.getfield 46, 3) := by decide +kernel
theorem dX6_openAnswer_4 : decode cX6_openAnswer 4 = .ok (.iload_n 1, 1) := by decide +kernel
theorem dX6_openAnswer_5 : decode cX6_openAnswer 5 = .ok (.aload_n 0, 1) := by decide +kernel
theorem dX6_openAnswer_6 : decode cX6_openAnswer 6 = .ok (.getfield 55, 3) := by decide +kernel
theorem dX6_openAnswer_9 : decode cX6_openAnswer 9 = .ok (.iastore, 1) := by decide +kernel
section
variable {p : Program} {l : Launch} {e : Env} {R0 : Room} {s : State} {m : MethodId} {args : Array Value} {below : List Frame} {meth : Method} {c : Code} {H H0 : Heap} {locs : List Loc} {cells slots : Nat} {Q : State → Prop} {cc : ByteArray} {nL : Nat} {D : va_G} {cy : Nat → ClassId} {A : Nat → Prop} {L : List Nat} {R : Nat → Nat} {f : Nat → va_E} {pc : Nat} {ls : Array Slot} {rest : List Value} {a : Nat}
theorem se_42 {own : String} (F : CallFix p m c cc nL s args wsL_law own) (h : tS D cy A H0 L R (TT cy L R) f s H locs) {i : Int32} {x : Int32} (ha : a ∈ L) (hr : R a = 42) (hb : 0 ≤ i.toInt ∧ i.toInt < 100) (hv : 0 ≤ x.toInt ∧ x.toInt ≤ 600) (hdg : decode cc pc = .ok (.iastore, 1)) (kk : ∀ (f1 : Nat → va_E) (H1 : Heap) (locs1 : List Loc), (∀ j, eli f1 a j = if j = i.toInt.toNat then x.toInt else eli f a j) → (∀ a', a' ≠ a → f1 a' = f a') → fr L R [] [42] f f1 → tS D cy A H0 L R (TT cy L R) f1 s H1 locs1 → W p l e R0 s m args below meth c H1 locs1 cells slots Q (F0 m (pc + 1) ls (rest))) : W p l e R0 s m args below meth c H locs cells slots Q (F0 m pc ls (.int x :: .int i :: .ref a :: rest)) := tu_iast F h ha hr T_42 hb.1 hb.2 hv hdg (fun f1 H1 locs1 h1 h2 h3 h4 => kk f1 H1 locs1 h1 h2 h3 h4)
end
theorem dX6_openAnswer_10 : decode cX6_openAnswer 10 = .ok (.aload_n 0, 1) := by decide +kernel
theorem dX6_openAnswer_11 : decode cX6_openAnswer 11 = .ok (.getfield 49, 3) := by decide +kernel
theorem dX6_openAnswer_14 : decode cX6_openAnswer 14 = .ok (.iload_n 1, 1) := by decide +kernel
theorem dX6_openAnswer_15 : decode cX6_openAnswer 15 = .ok (.iconst 0, 1) := by decide +kernel
theorem dX6_openAnswer_16 : decode cX6_openAnswer 16 = .ok (.iastore, 1) := by decide +kernel
theorem dX6_openAnswer_17 : decode cX6_openAnswer 17 = .ok (.return_, 1) := by decide +kernel
def rm_X6_openAnswer : Room := { frames := 0, cells := 0, slots := 0, locals := 0 }
set_option maxHeartbeats 4000000 in
set_option maxRecDepth 100000 in
theorem s_X6_openAnswer (l : Launch) (D : va_G) (cy : Nat → ClassId) (L : List Nat) (R O : Nat → Nat) (f0 : Nat → va_E) (hG : GG L R O f0) (a0 : Nat) (m_a0 : a0 ∈ L) (r_a0 : R a0 = 6) (x1 : Int32) (b1 : 0 ≤ x1.toInt ∧ x1.toInt ≤ 99) : ∀ sz, Met l yX6_openAnswer (Cond.code yX6_openAnswer cX6_openAnswer 2 none :: wsL_law) rm_X6_openAnswer (va_Pc [.ref a0, .int x1] (tPZ D cy L R (TT cy L R) f0 sz)) (va_Qv (fun f1 => fr L R [] [42, 43] f0 f1 ∧ GG L R O f1 ∧ eli f1 (rfa f1 a0 12) x1.toInt.toNat = 0 ∧ VSd f1 a0 x1.toInt.toNat ∧ (∀ d, d ≠ x1.toInt.toNat → VSd f0 a0 d → VSd f1 a0 d) ∧ OB L R O a0 f0 f1) (tB D (tA L sz) L R (TT cy L R)) (tA L sz)) 0 0 (tA L sz) := by
  refine tw_enterv (by decide +kernel) rfl (Nat.le_of_ble_eq_true rfl) ?_
  intro p e s m below meth c A ls args Q F hZ h hl hret
  have hl : lv_has ls 2 [(0, .ref a0), (1, .int x1)] := hl
  have hk : fr L R [] [42, 43] f0 f0 := fr.rf
  have t_a0_partCount := h.bfi m_a0 r_a0 (fun e q => (T_6 e).mp q) (k := 14) rfl
  have hX : OB L R O a0 f0 f0 := OB_rf
  refine lv_aload_n F.1 F.2.1 dX6_openAnswer_0 rfl (lv_at hl 0 rfl) ?_
  refine g_6_46 F h m_a0 r_a0 dX6_openAnswer_1 (fun o1 m_o1 r_o1 ho1 => ?_)
  refine lv_iload_n F.1 F.2.1 dX6_openAnswer_4 rfl (lv_at hl 1 rfl) ?_
  refine lv_aload_n F.1 F.2.1 dX6_openAnswer_5 rfl (lv_at hl 0 rfl) ?_
  refine g_6_55 F h m_a0 r_a0 dX6_openAnswer_6 (fun v2 hv2 hv2a hv2b => ?_)
  refine se_42 F h m_o1 r_o1 (by omega) (by omega) dX6_openAnswer_9 (fun f3 H locs e3a e3b hf3 h => ?_)
  have hX : OB L R O a0 f0 f3 := OB_o hX e3b (OWa hG.1 m_a0 r_a0 sk11 ho1)
  have hk : fr L R [] [42, 43] f0 f3 := hk.tr hf3 rfl rfl
  have e4 : fi f3 a0 14 = fi f0 a0 14 := hf3.efi m_a0 r_a0 rfl
  have hgx : GX L R O f3 a0 x1.toInt.toNat false := GX_st2 hG m_a0 r_a0 ho1 e3b e3a
  refine lv_aload_n F.1 F.2.1 dX6_openAnswer_10 rfl (lv_at hl 0 rfl) ?_
  refine g_6_49 F h m_a0 r_a0 dX6_openAnswer_11 (fun o5 m_o5 r_o5 ho5 => ?_)
  refine lv_iload_n F.1 F.2.1 dX6_openAnswer_14 rfl (lv_at hl 1 rfl) ?_
  refine tw_iconst F dX6_openAnswer_15 ki_0 (fun z6 hz6 => ?_)
  refine se_43 F h m_o5 r_o5 (by omega) (by omega) dX6_openAnswer_16 (fun f7 H locs e7a e7b hf7 h => ?_)
  have hX : OB L R O a0 f0 f7 := OB_o hX e7b (OWa hgx.1 m_a0 r_a0 sk12 ho5)
  have hk : fr L R [] [42, 43] f0 f7 := hk.tr hf7 rfl rfl
  have e8 : fi f7 a0 14 = fi f3 a0 14 := hf7.efi m_a0 r_a0 rfl
  have n0 : a0 ≠ o5 := ne_r r_a0 r_o5 (by decide)
  have n1 : a0 ≠ o1 := ne_r r_a0 r_o1 (by decide)
  have n2 : o1 ≠ o5 := ne_r r_o1 r_o5 (by decide)
  have e11 : rfa f7 a0 11 = o1 := by rw [rfa_o e7b n0, rfa_o e3b n1]; exact rfa_of ho1
  have e12 : rfa f7 a0 12 = o5 := by rw [rfa_o e7b n0]; exact rfa_of ho5
  have e12f : rfa f0 a0 12 = o5 := by rw [← rfa_o e3b n1]; exact rfa_of ho5
  have e11f : rfa f0 a0 11 = o1 := rfa_of ho1
  have s1 : eli f7 o1 x1.toInt.toNat = v2.toInt := by rw [eli_o e7b n2, e3a, if_pos rfl]
  have s2 : eli f7 o5 x1.toInt.toNat = 0 := by rw [e7a, if_pos rfl]; omega
  have hG : GG L R O f7 := GX_ct2 hgx m_a0 r_a0 ho5 e7b e7a (by rw [rfa_o e3b n1, rfa_of ho1, e3a, if_pos rfl]; omega)
  have c14 : fi f7 a0 14 = fi f0 a0 14 := by rw [fi_o e7b n0, fi_o e3b n1]
  have hV : VSd f7 a0 x1.toInt.toNat := by unfold VSd; rw [e11, e12, s1, s2]; omega
  have hz : eli f7 (rfa f7 a0 12) x1.toInt.toNat = 0 := by rw [e12]; exact s2
  have hM : ∀ d, d ≠ x1.toInt.toNat → VSd f0 a0 d → VSd f7 a0 d := fun d hd q => by unfold VSd at q ⊢; rw [e11f, e12f] at q; rw [e11, e12, eli_o e7b n2, e3a, if_neg hd, e7a, if_neg hd, c14, eli_o e3b (Ne.symm n2)]; exact q
  exact hret f7 _ _ _ _ dX6_openAnswer_17 ⟨hk, hG, hz, hV, hM, hX⟩ h
theorem dX6_addRule_0 : decode cX6_addRule 0 = .ok (.aload_n 0, 1) := by decide +kernel
theorem dX6_addRule_1 : decode cX6_addRule 1 = .ok (.getfield 65, 3) := by decide +kernel
theorem dX6_addRule_4 : decode cX6_addRule 4 = .ok (.bipush 24, 2) := by decide +kernel
theorem dX6_addRule_6 : decode cX6_addRule 6 = .ok (.if_icmp .ge 96, 3) := by decide +kernel
theorem dX6_addRule_102 : decode cX6_addRule 102 = .ok (.return_, 1) := by decide +kernel
theorem dX6_addRule_9 : decode cX6_addRule 9 = .ok (.aload_n 0, 1) := by decide +kernel
theorem dX6_addRule_10 : decode cX6_addRule 10 = .ok (.getfield 59, 3) := by decide +kernel
theorem dX6_addRule_13 : decode cX6_addRule 13 = .ok (.ifCond .le 89, 3) := by decide +kernel
theorem dX6_addRule_16 : decode cX6_addRule 16 = .ok (.aload_n 0, 1) := by decide +kernel
theorem dX6_addRule_17 : decode cX6_addRule 17 = .ok (.getfield 34, 3) := by decide +kernel
theorem mw_87 : Cond.fieldLink RX6 34 "AskBack$Script" "ruleKeys" "[I" ∈ wsL_law := inr_4 _ (List.mem_of_getElem? (i := 15) rfl)
section
variable {p : Program} {l : Launch} {e : Env} {R0 : Room} {s : State} {m : MethodId} {args : Array Value} {below : List Frame} {meth : Method} {c : Code} {H H0 : Heap} {locs : List Loc} {cells slots : Nat} {Q : State → Prop} {cc : ByteArray} {nL : Nat} {D : va_G} {cy : Nat → ClassId} {A : Nat → Prop} {L : List Nat} {R : Nat → Nat} {f : Nat → va_E} {pc : Nat} {ls : Array Slot} {rest : List Value} {a : Nat}
theorem g_6_34 (F : CallFix p m c cc nL s args wsL_law RX6) (h : tS D cy A H0 L R (TT cy L R) f s H locs) (ha : a ∈ L) (hr : R a = 6) (hdg : decode cc pc = .ok (.getfield 34, 3)) (kk : ∀ b : Nat, b ∈ L → R b = 38 → fld f a 7 = .ref b → W p l e R0 s m args below meth c H locs cells slots Q (F0 m (pc + 3) ls (.ref b :: rest))) : W p l e R0 s m args below meth c H locs cells slots Q (F0 m pc ls (.ref a :: rest)) := tu_getr F h ha hr (fun e q => (T_6 e).mp q) rfl inlX6 rfl (Nat.le_of_ble_eq_true rfl) mw_87 hdg kk
end
theorem dX6_addRule_20 : decode cX6_addRule 20 = .ok (.aload_n 0, 1) := by decide +kernel
theorem dX6_addRule_21 : decode cX6_addRule 21 = .ok (.getfield 65, 3) := by decide +kernel
theorem dX6_addRule_24 : decode cX6_addRule 24 = .ok (.aload_n 0, 1) := by decide +kernel
theorem dX6_addRule_25 : decode cX6_addRule 25 = .ok (.getfield 59, 3) := by decide +kernel
theorem dX6_addRule_28 : decode cX6_addRule 28 = .ok (.iconst 1, 1) := by decide +kernel
theorem dX6_addRule_29 : decode cX6_addRule 29 = .ok (.isub, 1) := by decide +kernel
theorem dX6_addRule_30 : decode cX6_addRule 30 = .ok (.iastore, 1) := by decide +kernel
section
variable {p : Program} {l : Launch} {e : Env} {R0 : Room} {s : State} {m : MethodId} {args : Array Value} {below : List Frame} {meth : Method} {c : Code} {H H0 : Heap} {locs : List Loc} {cells slots : Nat} {Q : State → Prop} {cc : ByteArray} {nL : Nat} {D : va_G} {cy : Nat → ClassId} {A : Nat → Prop} {L : List Nat} {R : Nat → Nat} {f : Nat → va_E} {pc : Nat} {ls : Array Slot} {rest : List Value} {a : Nat}
theorem st_38 {own : String} (F : CallFix p m c cc nL s args wsL_law own) (h : tS D cy A H0 L R (TT cy L R) f s H locs) {i : Int32} {x : Int32} (ha : a ∈ L) (hr : R a = 38) (hb : 0 ≤ i.toInt ∧ i.toInt < 24) (hv : 0 ≤ x.toInt ∧ x.toInt ≤ 11) (hdg : decode cc pc = .ok (.iastore, 1)) (kk : ∀ (f1 : Nat → va_E) (H1 : Heap) (locs1 : List Loc), fr L R [] [38] f f1 → tS D cy A H0 L R (TT cy L R) f1 s H1 locs1 → W p l e R0 s m args below meth c H1 locs1 cells slots Q (F0 m (pc + 1) ls (rest))) : W p l e R0 s m args below meth c H locs cells slots Q (F0 m pc ls (.int x :: .int i :: .ref a :: rest)) := tu_iast F h ha hr T_38 hb.1 hb.2 hv hdg (fun f1 H1 locs1 h1 h2 h3 h4 => kk f1 H1 locs1 h3 h4)
end
theorem dX6_addRule_31 : decode cX6_addRule 31 = .ok (.aload_n 0, 1) := by decide +kernel
theorem dX6_addRule_32 : decode cX6_addRule 32 = .ok (.getfield 37, 3) := by decide +kernel
theorem dX6_addRule_35 : decode cX6_addRule 35 = .ok (.aload_n 0, 1) := by decide +kernel
theorem dX6_addRule_36 : decode cX6_addRule 36 = .ok (.getfield 65, 3) := by decide +kernel
theorem dX6_addRule_39 : decode cX6_addRule 39 = .ok (.aload_n 0, 1) := by decide +kernel
theorem dX6_addRule_40 : decode cX6_addRule 40 = .ok (.getfield 55, 3) := by decide +kernel
theorem dX6_addRule_43 : decode cX6_addRule 43 = .ok (.iastore, 1) := by decide +kernel
section
variable {p : Program} {l : Launch} {e : Env} {R0 : Room} {s : State} {m : MethodId} {args : Array Value} {below : List Frame} {meth : Method} {c : Code} {H H0 : Heap} {locs : List Loc} {cells slots : Nat} {Q : State → Prop} {cc : ByteArray} {nL : Nat} {D : va_G} {cy : Nat → ClassId} {A : Nat → Prop} {L : List Nat} {R : Nat → Nat} {f : Nat → va_E} {pc : Nat} {ls : Array Slot} {rest : List Value} {a : Nat}
theorem se_39 {own : String} (F : CallFix p m c cc nL s args wsL_law own) (h : tS D cy A H0 L R (TT cy L R) f s H locs) {i : Int32} {x : Int32} (ha : a ∈ L) (hr : R a = 39) (hb : 0 ≤ i.toInt ∧ i.toInt < 24) (hv : 0 ≤ x.toInt ∧ x.toInt ≤ 600) (hdg : decode cc pc = .ok (.iastore, 1)) (kk : ∀ (f1 : Nat → va_E) (H1 : Heap) (locs1 : List Loc), (∀ j, eli f1 a j = if j = i.toInt.toNat then x.toInt else eli f a j) → (∀ a', a' ≠ a → f1 a' = f a') → fr L R [] [39] f f1 → tS D cy A H0 L R (TT cy L R) f1 s H1 locs1 → W p l e R0 s m args below meth c H1 locs1 cells slots Q (F0 m (pc + 1) ls (rest))) : W p l e R0 s m args below meth c H locs cells slots Q (F0 m pc ls (.int x :: .int i :: .ref a :: rest)) := tu_iast F h ha hr T_39 hb.1 hb.2 hv hdg (fun f1 H1 locs1 h1 h2 h3 h4 => kk f1 H1 locs1 h1 h2 h3 h4)
end
theorem dX6_addRule_44 : decode cX6_addRule 44 = .ok (.aload_n 0, 1) := by decide +kernel
theorem dX6_addRule_45 : decode cX6_addRule 45 = .ok (.getfield 40, 3) := by decide +kernel
theorem dX6_addRule_48 : decode cX6_addRule 48 = .ok (.aload_n 0, 1) := by decide +kernel
theorem dX6_addRule_49 : decode cX6_addRule 49 = .ok (.getfield 65, 3) := by decide +kernel
theorem dX6_addRule_52 : decode cX6_addRule 52 = .ok (.iconst 0, 1) := by decide +kernel
theorem dX6_addRule_53 : decode cX6_addRule 53 = .ok (.iastore, 1) := by decide +kernel
theorem dX6_addRule_54 : decode cX6_addRule 54 = .ok (.aload_n 0, 1) := by decide +kernel
theorem dX6_addRule_55 : decode cX6_addRule 55 = .ok (.dup, 1) := by decide +kernel
theorem dX6_addRule_56 : decode cX6_addRule 56 = .ok (.getfield 68, 3) := by decide +kernel
section
variable {p : Program} {l : Launch} {e : Env} {R0 : Room} {s : State} {m : MethodId} {args : Array Value} {below : List Frame} {meth : Method} {c : Code} {H H0 : Heap} {locs : List Loc} {cells slots : Nat} {Q : State → Prop} {cc : ByteArray} {nL : Nat} {D : va_G} {cy : Nat → ClassId} {A : Nat → Prop} {L : List Nat} {R : Nat → Nat} {f : Nat → va_E} {pc : Nat} {ls : Array Slot} {rest : List Value} {a : Nat}
theorem g_6_68 (F : CallFix p m c cc nL s args wsL_law RX6) (h : tS D cy A H0 L R (TT cy L R) f s H locs) (ha : a ∈ L) (hr : R a = 6) (hdg : decode cc pc = .ok (.getfield 68, 3)) (kk : ∀ x : Int32, x.toInt = fi f a 18 → W p l e R0 s m args below meth c H locs cells slots Q (F0 m (pc + 3) ls (.int x :: rest))) : W p l e R0 s m args below meth c H locs cells slots Q (F0 m pc ls (.ref a :: rest)) := tu_geti F h ha hr (fun e q => (T_6 e).mp q) rfl inlX6 rfl (Nat.le_of_ble_eq_true rfl) mw_98 hdg (fun x h1 h2 h3 => kk x h1)
end
theorem dX6_addRule_59 : decode cX6_addRule 59 = .ok (.iload_n 1, 1) := by decide +kernel
theorem dX6_addRule_73 : decode cX6_addRule 73 = .ok (.ior, 1) := by decide +kernel
theorem dX6_addRule_74 : decode cX6_addRule 74 = .ok (.putfield 68, 3) := by decide +kernel
theorem dX6_addRule_77 : decode cX6_addRule 77 = .ok (.aload_n 0, 1) := by decide +kernel
theorem dX6_addRule_78 : decode cX6_addRule 78 = .ok (.dup, 1) := by decide +kernel
theorem dX6_addRule_79 : decode cX6_addRule 79 = .ok (.getfield 65, 3) := by decide +kernel
theorem dX6_addRule_82 : decode cX6_addRule 82 = .ok (.iconst 1, 1) := by decide +kernel
theorem dX6_addRule_83 : decode cX6_addRule 83 = .ok (.iadd, 1) := by decide +kernel
theorem dX6_addRule_84 : decode cX6_addRule 84 = .ok (.putfield 65, 3) := by decide +kernel
theorem dX6_addRule_87 : decode cX6_addRule 87 = .ok (.aload_n 0, 1) := by decide +kernel
theorem dX6_addRule_88 : decode cX6_addRule 88 = .ok (.getfield 25, 3) := by decide +kernel
theorem dX6_addRule_91 : decode cX6_addRule 91 = .ok (.aload_n 0, 1) := by decide +kernel
theorem dX6_addRule_92 : decode cX6_addRule 92 = .ok (.getfield 59, 3) := by decide +kernel
theorem dX6_addRule_95 : decode cX6_addRule 95 = .ok (.iconst 1, 1) := by decide +kernel
theorem dX6_addRule_96 : decode cX6_addRule 96 = .ok (.isub, 1) := by decide +kernel
theorem dX6_addRule_97 : decode cX6_addRule 97 = .ok (.aload_n 0, 1) := by decide +kernel
theorem dX6_addRule_98 : decode cX6_addRule 98 = .ok (.getfield 65, 3) := by decide +kernel
theorem dX6_addRule_101 : decode cX6_addRule 101 = .ok (.iastore, 1) := by decide +kernel
theorem dX6_addRule_60 : decode cX6_addRule 60 = .ok (.ifCond .eq 12, 3) := by decide +kernel
theorem dX6_addRule_72 : decode cX6_addRule 72 = .ok (.iconst 0, 1) := by decide +kernel
theorem dX6_addRule_63 : decode cX6_addRule 63 = .ok (.iconst 1, 1) := by decide +kernel
theorem dX6_addRule_64 : decode cX6_addRule 64 = .ok (.aload_n 0, 1) := by decide +kernel
theorem dX6_addRule_65 : decode cX6_addRule 65 = .ok (.getfield 65, 3) := by decide +kernel
theorem dX6_addRule_68 : decode cX6_addRule 68 = .ok (.ishl, 1) := by decide +kernel
theorem dX6_addRule_69 : decode cX6_addRule 69 = .ok (.goto 4, 3) := by decide +kernel
def rm_X6_addRule : Room := { frames := 0, cells := 0, slots := 0, locals := 0 }
set_option maxHeartbeats 4000000 in
set_option maxRecDepth 100000 in
theorem s_X6_addRule (l : Launch) (D : va_G) (cy : Nat → ClassId) (L : List Nat) (R O : Nat → Nat) (f0 : Nat → va_E) (hG : GG L R O f0) (a0 : Nat) (m_a0 : a0 ∈ L) (r_a0 : R a0 = 6) (x1 : Int32) (b1 : 0 ≤ x1.toInt ∧ x1.toInt ≤ 1) (pre0 : fi f0 a0 17 ≤ 23) (pre1 : 1 ≤ fi f0 a0 15) : ∀ sz, Met l yX6_addRule (Cond.code yX6_addRule cX6_addRule 2 none :: wsL_law) rm_X6_addRule (va_Pc [.ref a0, .int x1] (tPZ D cy L R (TT cy L R) f0 sz)) (va_Qv (fun f1 => fr L R [(6, 17), (6, 18)] [6, 37, 38, 39, 40] f0 f1 ∧ GG L R O f1 ∧ (eli f1 (rfa f1 a0 8) (fi f0 a0 17).toNat = fi f0 a0 14 ∧ eli f1 (rfa f1 a0 9) (fi f0 a0 17).toNat = 0) ∧ (fi f1 a0 18 % 2 = fi f0 a0 18 % 2 ∨ (fi f0 a0 17 = 0 ∧ x1.toInt = 1)) ∧ fi f1 a0 17 = fi f0 a0 17 + 1 ∧ OB L R O a0 f0 f1) (tB D (tA L sz) L R (TT cy L R)) (tA L sz)) 0 0 (tA L sz) := by
  refine tw_enterv (by decide +kernel) rfl (Nat.le_of_ble_eq_true rfl) ?_
  intro p e s m below meth c A ls args Q F hZ h hl hret
  have hl : lv_has ls 2 [(0, .ref a0), (1, .int x1)] := hl
  have hk : fr L R [(6, 17), (6, 18)] [6, 37, 38, 39, 40] f0 f0 := fr.rf
  have t_a0_partCount := h.bfi m_a0 r_a0 (fun e q => (T_6 e).mp q) (k := 14) rfl
  have t_a0_ruleCount := h.bfi m_a0 r_a0 (fun e q => (T_6 e).mp q) (k := 17) rfl
  have t_a0_keyCount := h.bfi m_a0 r_a0 (fun e q => (T_6 e).mp q) (k := 15) rfl
  have hX : OB L R O a0 f0 f0 := OB_rf
  refine lv_aload_n F.1 F.2.1 dX6_addRule_0 rfl (lv_at hl 0 rfl) ?_
  refine g_6_65 F h m_a0 r_a0 dX6_addRule_1 (fun v1 hv1 hv1a hv1b => ?_)
  refine tw_bipush F dX6_addRule_4 kb_24 (fun z2 hz2 => ?_)
  refine tw_icmp_ge (tgt := 102) F dX6_addRule_6 (by decide) (fun b3 => ?_) (fun b3 => ?_)
  · exact hret f0 _ _ _ _ dX6_addRule_102 ⟨hk, hG, by omega, by omega, by omega, hX⟩ h
  · refine lv_aload_n F.1 F.2.1 dX6_addRule_9 rfl (lv_at hl 0 rfl) ?_
    refine g_6_59 F h m_a0 r_a0 dX6_addRule_10 (fun v4 hv4 hv4a hv4b => ?_)
    refine tw_if_le (tgt := 102) F dX6_addRule_13 (by decide) (fun b5 => ?_) (fun b5 => ?_)
    · exact hret f0 _ _ _ _ dX6_addRule_102 ⟨hk, hG, by omega, by omega, by omega, hX⟩ h
    · refine lv_aload_n F.1 F.2.1 dX6_addRule_16 rfl (lv_at hl 0 rfl) ?_
      refine g_6_34 F h m_a0 r_a0 dX6_addRule_17 (fun o6 m_o6 r_o6 ho6 => ?_)
      refine lv_aload_n F.1 F.2.1 dX6_addRule_20 rfl (lv_at hl 0 rfl) ?_
      refine g_6_65 F h m_a0 r_a0 dX6_addRule_21 (fun v7 hv7 hv7a hv7b => ?_)
      refine lv_aload_n F.1 F.2.1 dX6_addRule_24 rfl (lv_at hl 0 rfl) ?_
      refine g_6_59 F h m_a0 r_a0 dX6_addRule_25 (fun v8 hv8 hv8a hv8b => ?_)
      refine tw_iconst F dX6_addRule_28 ki_1 (fun z9 hz9 => ?_)
      refine tu_isub F dX6_addRule_29 (by omega) (fun z10 hz10 => ?_)
      refine st_38 F h m_o6 r_o6 (by omega) (by omega) dX6_addRule_30 (fun f11 H locs hf11 h => ?_)
      have hX : OB L R O a0 f0 f11 := OB_fr hX hf11 (by decide +kernel)
      have hG : GG L R O f11 := hG.fr hf11 (by decide +kernel) (by decide +kernel)
      have hk : fr L R [(6, 17), (6, 18)] [6, 37, 38, 39, 40] f0 f11 := hk.tr hf11 rfl rfl
      have e12 : fi f11 a0 14 = fi f0 a0 14 := hf11.efi m_a0 r_a0 rfl
      have e13 : fi f11 a0 17 = fi f0 a0 17 := hf11.efi m_a0 r_a0 rfl
      have e14 : fi f11 a0 15 = fi f0 a0 15 := hf11.efi m_a0 r_a0 rfl
      have e15 : fi f11 a0 18 = fi f0 a0 18 := hf11.efi m_a0 r_a0 rfl
      refine lv_aload_n F.1 F.2.1 dX6_addRule_31 rfl (lv_at hl 0 rfl) ?_
      refine g_6_37 F h m_a0 r_a0 dX6_addRule_32 (fun o16 m_o16 r_o16 ho16 => ?_)
      refine lv_aload_n F.1 F.2.1 dX6_addRule_35 rfl (lv_at hl 0 rfl) ?_
      refine g_6_65 F h m_a0 r_a0 dX6_addRule_36 (fun v17 hv17 hv17a hv17b => ?_)
      refine lv_aload_n F.1 F.2.1 dX6_addRule_39 rfl (lv_at hl 0 rfl) ?_
      refine g_6_55 F h m_a0 r_a0 dX6_addRule_40 (fun v18 hv18 hv18a hv18b => ?_)
      refine se_39 F h m_o16 r_o16 (by omega) (by omega) dX6_addRule_43 (fun f19 H locs e19a e19b hf19 h => ?_)
      have hX : OB L R O a0 f0 f19 := OB_fr hX hf19 (by decide +kernel)
      have hk : fr L R [(6, 17), (6, 18)] [6, 37, 38, 39, 40] f0 f19 := hk.tr hf19 rfl rfl
      have e20 : fi f19 a0 14 = fi f11 a0 14 := hf19.efi m_a0 r_a0 rfl
      have e21 : fi f19 a0 17 = fi f11 a0 17 := hf19.efi m_a0 r_a0 rfl
      have e22 : fi f19 a0 15 = fi f11 a0 15 := hf19.efi m_a0 r_a0 rfl
      have e23 : fi f19 a0 18 = fi f11 a0 18 := hf19.efi m_a0 r_a0 rfl
      have hgx : GX L R O f19 a0 v17.toInt.toNat true := GX_st1 hG m_a0 r_a0 ho16 e19b e19a
      refine lv_aload_n F.1 F.2.1 dX6_addRule_44 rfl (lv_at hl 0 rfl) ?_
      refine g_6_40 F h m_a0 r_a0 dX6_addRule_45 (fun o24 m_o24 r_o24 ho24 => ?_)
      refine lv_aload_n F.1 F.2.1 dX6_addRule_48 rfl (lv_at hl 0 rfl) ?_
      refine g_6_65 F h m_a0 r_a0 dX6_addRule_49 (fun v25 hv25 hv25a hv25b => ?_)
      refine tw_iconst F dX6_addRule_52 ki_0 (fun z26 hz26 => ?_)
      refine se_40 F h m_o24 r_o24 (by omega) (by omega) dX6_addRule_53 (fun f27 H locs e27a e27b hf27 h => ?_)
      have hX : OB L R O a0 f0 f27 := OB_fr hX hf27 (by decide +kernel)
      have hk : fr L R [(6, 17), (6, 18)] [6, 37, 38, 39, 40] f0 f27 := hk.tr hf27 rfl rfl
      have e28 : fi f27 a0 14 = fi f19 a0 14 := hf27.efi m_a0 r_a0 rfl
      have e29 : fi f27 a0 17 = fi f19 a0 17 := hf27.efi m_a0 r_a0 rfl
      have e30 : fi f27 a0 15 = fi f19 a0 15 := hf27.efi m_a0 r_a0 rfl
      have e31 : fi f27 a0 18 = fi f19 a0 18 := hf27.efi m_a0 r_a0 rfl
      have ei : v25.toInt.toNat = v17.toInt.toNat := by omega
      have n0 : a0 ≠ o24 := ne_r r_a0 r_o24 (by decide)
      have n1 : a0 ≠ o16 := ne_r r_a0 r_o16 (by decide)
      have n2 : o16 ≠ o24 := ne_r r_o16 r_o24 (by decide)
      have ea := e27a
      rw [ei] at ea
      have hG : GG L R O f27 := GX_ct1 hgx m_a0 r_a0 ho24 e27b ea (by rw [rfa_o e19b n1, rfa_of ho16, e19a, if_pos rfl]; omega)
      have hS : (eli f27 (rfa f27 a0 8) v17.toInt.toNat = fi f0 a0 14 ∧ eli f27 (rfa f27 a0 9) v17.toInt.toNat = 0) := ⟨by rw [rfa_o e27b n0, rfa_o e19b n1, rfa_of ho16, eli_o e27b n2, e19a, if_pos rfl]; omega, by rw [rfa_o e27b n0, rfa_of ho24, ea, if_pos rfl]; omega⟩
      refine lv_aload_n F.1 F.2.1 dX6_addRule_54 rfl (lv_at hl 0 rfl) ?_
      refine lv_dup F.1 F.2.1 dX6_addRule_55 rfl ?_
      refine g_6_68 F h m_a0 r_a0 dX6_addRule_56 (fun v32 hv32 => ?_)
      refine lv_iload_n F.1 F.2.1 dX6_addRule_59 rfl (lv_at hl 1 rfl) ?_
      have j_73 : ∀ (ls : Array Slot) (y0_73 : Int32), (y0_73.toInt % 2 = 0 ∨ (fi f0 a0 17 = 0 ∧ x1.toInt = 1)) → lv_has ls 2 [(0, .ref a0)] → W p l e rm_X6_addRule s m args below meth c H locs 0 0 Q (F0 m 73 ls [.int y0_73, .int v32, .ref a0]) := by
        intro ls y0_73 b33 hl
        refine lv_ior F.1 F.2.1 dX6_addRule_73 ?_
        refine lv_topi (fun z34 qz34 => ?_)
        have ho2 : y0_73.toInt % 2 = 0 → z34.toInt % 2 = fi f0 a0 18 % 2 := fun q => by rw [qz34, tw_or2 q]; omega
        refine pe_6_68 F h m_a0 r_a0 dX6_addRule_74 (fun f35 H locs e35pq e35po hf35 h => ?_)
        have e35p : fi f35 a0 18 = z34.toInt := by unfold fi; rw [e35pq]; rfl
        have hX : OB L R O a0 f0 f35 := OB_o hX e35po (hG.1 a0 m_a0 r_a0).1
        have hS : (eli f35 (rfa f35 a0 8) v17.toInt.toNat = fi f0 a0 14 ∧ eli f35 (rfa f35 a0 9) v17.toInt.toNat = 0) := ⟨(E0i hG.1 hf35 (by decide +kernel) m_a0 r_a0 sk8 rfl (by decide +kernel) _).trans hS.1, (E0i hG.1 hf35 (by decide +kernel) m_a0 r_a0 sk9 rfl (by decide +kernel) _).trans hS.2⟩
        have hG : GG L R O f35 := hG.fr hf35 (by decide +kernel) (by decide +kernel)
        have hk : fr L R [(6, 17), (6, 18)] [6, 37, 38, 39, 40] f0 f35 := hk.tr hf35 rfl rfl
        have e36 : fi f35 a0 14 = fi f27 a0 14 := hf35.efi m_a0 r_a0 rfl
        have e37 : fi f35 a0 17 = fi f27 a0 17 := hf35.efi m_a0 r_a0 rfl
        have e38 : fi f35 a0 15 = fi f27 a0 15 := hf35.efi m_a0 r_a0 rfl
        refine lv_aload_n F.1 F.2.1 dX6_addRule_77 rfl (lv_at hl 0 rfl) ?_
        refine lv_dup F.1 F.2.1 dX6_addRule_78 rfl ?_
        refine g_6_65 F h m_a0 r_a0 dX6_addRule_79 (fun v39 hv39 hv39a hv39b => ?_)
        refine tw_iconst F dX6_addRule_82 ki_1 (fun z40 hz40 => ?_)
        refine tu_iadd F dX6_addRule_83 (by omega) (fun z41 hz41 => ?_)
        refine pe_6_65 F h m_a0 r_a0 (by omega) dX6_addRule_84 (fun f42 H locs e42pq e42po hf42 h => ?_)
        have e42p : fi f42 a0 17 = z41.toInt := by unfold fi; rw [e42pq]; rfl
        have hX : OB L R O a0 f0 f42 := OB_o hX e42po (hG.1 a0 m_a0 r_a0).1
        have hS : (eli f42 (rfa f42 a0 8) v17.toInt.toNat = fi f0 a0 14 ∧ eli f42 (rfa f42 a0 9) v17.toInt.toNat = 0) := ⟨(E0i hG.1 hf42 (by decide +kernel) m_a0 r_a0 sk8 rfl (by decide +kernel) _).trans hS.1, (E0i hG.1 hf42 (by decide +kernel) m_a0 r_a0 sk9 rfl (by decide +kernel) _).trans hS.2⟩
        have hG : GG L R O f42 := hG.fr hf42 (by decide +kernel) (by decide +kernel)
        have hk : fr L R [(6, 17), (6, 18)] [6, 37, 38, 39, 40] f0 f42 := hk.tr hf42 rfl rfl
        have e43 : fi f42 a0 14 = fi f35 a0 14 := hf42.efi m_a0 r_a0 rfl
        have e44 : fi f42 a0 15 = fi f35 a0 15 := hf42.efi m_a0 r_a0 rfl
        have e45 : fi f42 a0 18 = fi f35 a0 18 := hf42.efi m_a0 r_a0 rfl
        refine lv_aload_n F.1 F.2.1 dX6_addRule_87 rfl (lv_at hl 0 rfl) ?_
        refine g_6_25 F h m_a0 r_a0 dX6_addRule_88 (fun o46 m_o46 r_o46 ho46 => ?_)
        refine lv_aload_n F.1 F.2.1 dX6_addRule_91 rfl (lv_at hl 0 rfl) ?_
        refine g_6_59 F h m_a0 r_a0 dX6_addRule_92 (fun v47 hv47 hv47a hv47b => ?_)
        refine tw_iconst F dX6_addRule_95 ki_1 (fun z48 hz48 => ?_)
        refine tu_isub F dX6_addRule_96 (by omega) (fun z49 hz49 => ?_)
        refine lv_aload_n F.1 F.2.1 dX6_addRule_97 rfl (lv_at hl 0 rfl) ?_
        refine g_6_65 F h m_a0 r_a0 dX6_addRule_98 (fun v50 hv50 hv50a hv50b => ?_)
        refine st_37 F h m_o46 r_o46 (by omega) (by omega) dX6_addRule_101 (fun f51 H locs hf51 h => ?_)
        have hX : OB L R O a0 f0 f51 := OB_fr hX hf51 (by decide +kernel)
        have hS : (eli f51 (rfa f51 a0 8) v17.toInt.toNat = fi f0 a0 14 ∧ eli f51 (rfa f51 a0 9) v17.toInt.toNat = 0) := ⟨(E0i hG.1 hf51 (by decide +kernel) m_a0 r_a0 sk8 rfl (by decide +kernel) _).trans hS.1, (E0i hG.1 hf51 (by decide +kernel) m_a0 r_a0 sk9 rfl (by decide +kernel) _).trans hS.2⟩
        have hG : GG L R O f51 := hG.fr hf51 (by decide +kernel) (by decide +kernel)
        have hk : fr L R [(6, 17), (6, 18)] [6, 37, 38, 39, 40] f0 f51 := hk.tr hf51 rfl rfl
        have e52 : fi f51 a0 14 = fi f42 a0 14 := hf51.efi m_a0 r_a0 rfl
        have e53 : fi f51 a0 15 = fi f42 a0 15 := hf51.efi m_a0 r_a0 rfl
        have e54 : fi f51 a0 18 = fi f42 a0 18 := hf51.efi m_a0 r_a0 rfl
        have e55 : fi f51 a0 17 = fi f42 a0 17 := hf51.efi m_a0 r_a0 rfl
        exact hret f51 _ _ _ _ dX6_addRule_102 ⟨hk, hG, by rw [show (fi f0 a0 17).toNat = v17.toInt.toNat by omega]; exact hS, by omega, by omega, hX⟩ h
      refine tw_if_eq (tgt := 72) F dX6_addRule_60 (by decide) (fun b56 => ?_) (fun b56 => ?_)
      · refine tw_iconst F dX6_addRule_72 ki_0 (fun z57 hz57 => ?_)
        exact j_73 _ z57 (by omega) (lv_sub hl [0] rfl)
      · refine tw_iconst F dX6_addRule_63 ki_1 (fun z58 hz58 => ?_)
        refine lv_aload_n F.1 F.2.1 dX6_addRule_64 rfl (lv_at hl 0 rfl) ?_
        refine g_6_65 F h m_a0 r_a0 dX6_addRule_65 (fun v59 hv59 hv59a hv59b => ?_)
        refine lv_ishl F.1 F.2.1 dX6_addRule_68 ?_
        refine lv_topi (fun z60 qz60 => ?_)
        have hs6 : 1 ≤ v59.toInt → z60.toInt % 2 = 0 := fun q => tw_sh1 qz60 hz58 q (by omega)
        refine lv_goto (tgt := 73) F.1 F.2.1 dX6_addRule_69 (by decide) ?_
        exact j_73 _ z60 (by omega) (lv_sub hl [0] rfl)
