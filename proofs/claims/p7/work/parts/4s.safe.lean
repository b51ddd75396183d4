theorem dX12_keyNamed_0 : decode cX12_keyNamed 0 = .ok (.iconst 0, 1) := by decide +kernel
theorem dX12_keyNamed_1 : decode cX12_keyNamed 1 = .ok (.istore 4, 2) := by decide +kernel
theorem dX12_keyNamed_3 : decode cX12_keyNamed 3 = .ok (.iload 4, 2) := by decide +kernel
theorem dX12_keyNamed_5 : decode cX12_keyNamed 5 = .ok (.i2l, 1) := by decide +kernel
theorem dX12_keyNamed_6 : decode cX12_keyNamed 6 = .ok (.aload_n 0, 1) := by decide +kernel
theorem dX12_keyNamed_7 : decode cX12_keyNamed 7 = .ok (.getfield 7, 3) := by decide +kernel
theorem mw_202 : Cond.fieldLink RX12 7 "AskBackModel" "at" "[J" ∈ wsL_law := inr_9 _ (List.mem_of_getElem? (i := 10) rfl)
section
variable {p : Program} {l : Launch} {e : Env} {R0 : Room} {s : State} {m : MethodId} {args : Array Value} {below : List Frame} {meth : Method} {c : Code} {H H0 : Heap} {locs : List Loc} {cells slots : Nat} {Q : State → Prop} {cc : ByteArray} {nL : Nat} {D : va_G} {cy : Nat → ClassId} {A : Nat → Prop} {L : List Nat} {R : Nat → Nat} {f : Nat → va_E} {pc : Nat} {ls : Array Slot} {rest : List Value} {a : Nat}
theorem g_12_7 (F : CallFix p m c cc nL s args wsL_law RX12) (h : tS D cy A H0 L R (TT cy L R) f s H locs) (ha : a ∈ L) (hr : R a = 12) (hdg : decode cc pc = .ok (.getfield 7, 3)) (kk : ∀ b : Nat, b ∈ L → R b = 61 → fld f a 0 = .ref b → W p l e R0 s m args below meth c H locs cells slots Q (F0 m (pc + 3) ls (.ref b :: rest))) : W p l e R0 s m args below meth c H locs cells slots Q (F0 m pc ls (.ref a :: rest)) := tu_getr F h ha hr (fun e q => (T_12 e).mp q) rfl inlX12 rfl (Nat.le_of_ble_eq_true rfl) mw_202 hdg kk
end
theorem dX12_keyNamed_10 : decode cX12_keyNamed 10 = .ok (.iload_n 1, 1) := by decide +kernel
theorem dX12_keyNamed_11 : decode cX12_keyNamed 11 = .ok (.iconst 0, 1) := by decide +kernel
theorem dX12_keyNamed_12 : decode cX12_keyNamed 12 = .ok (.iadd, 1) := by decide +kernel
theorem dX12_keyNamed_13 : decode cX12_keyNamed 13 = .ok (.laload, 1) := by decide +kernel
section
variable {p : Program} {l : Launch} {e : Env} {R0 : Room} {s : State} {m : MethodId} {args : Array Value} {below : List Frame} {meth : Method} {c : Code} {H H0 : Heap} {locs : List Loc} {cells slots : Nat} {Q : State → Prop} {cc : ByteArray} {nL : Nat} {D : va_G} {cy : Nat → ClassId} {A : Nat → Prop} {L : List Nat} {R : Nat → Nat} {f : Nat → va_E} {pc : Nat} {ls : Array Slot} {rest : List Value} {a : Nat}
theorem ld_61 {own : String} (F : CallFix p m c cc nL s args wsL_law own) (h : tS D cy A H0 L R (TT cy L R) f s H locs) {i : Int32} (ha : a ∈ L) (hr : R a = 61) (hb : 0 ≤ i.toInt ∧ i.toInt < 25710) (hdg : decode cc pc = .ok (.laload, 1)) (kk : ∀ x : Int64, atP i.toInt.toNat x.toInt → W p l e R0 s m args below meth c H locs cells slots Q (F0 m (pc + 1) ls (.long x :: rest))) : W p l e R0 s m args below meth c H locs cells slots Q (F0 m pc ls (.int i :: .ref a :: rest)) := tu_lald F h ha hr (fun e q => (T_61 e).mp q) hb.1 hb.2 hdg (fun x h1 h2 => kk x h1)
end
theorem dX12_keyNamed_14 : decode cX12_keyNamed 14 = .ok (.lcmp, 1) := by decide +kernel
theorem dX12_keyNamed_15 : decode cX12_keyNamed 15 = .ok (.ifCond .ge 30, 3) := by decide +kernel
theorem dX12_keyNamed_45 : decode cX12_keyNamed 45 = .ok (.iconst (-1), 1) := by decide +kernel
theorem dX12_keyNamed_46 : decode cX12_keyNamed 46 = .ok (.ireturn, 1) := by decide +kernel
theorem dX12_keyNamed_18 : decode cX12_keyNamed 18 = .ok (.aload_n 0, 1) := by decide +kernel
theorem dX12_keyNamed_19 : decode cX12_keyNamed 19 = .ok (.getfield 7, 3) := by decide +kernel
theorem dX12_keyNamed_22 : decode cX12_keyNamed 22 = .ok (.iload_n 1, 1) := by decide +kernel
theorem dX12_keyNamed_23 : decode cX12_keyNamed 23 = .ok (.iconst 4, 1) := by decide +kernel
theorem dX12_keyNamed_24 : decode cX12_keyNamed 24 = .ok (.iadd, 1) := by decide +kernel
theorem dX12_keyNamed_25 : decode cX12_keyNamed 25 = .ok (.iconst 2, 1) := by decide +kernel
theorem dX12_keyNamed_26 : decode cX12_keyNamed 26 = .ok (.iload 4, 2) := by decide +kernel
theorem dX12_keyNamed_28 : decode cX12_keyNamed 28 = .ok (.imul, 1) := by decide +kernel
theorem dX12_keyNamed_29 : decode cX12_keyNamed 29 = .ok (.iadd, 1) := by decide +kernel
theorem dX12_keyNamed_30 : decode cX12_keyNamed 30 = .ok (.laload, 1) := by decide +kernel
theorem dX12_keyNamed_31 : decode cX12_keyNamed 31 = .ok (.lload_n 2, 1) := by decide +kernel
theorem dX12_keyNamed_32 : decode cX12_keyNamed 32 = .ok (.lcmp, 1) := by decide +kernel
theorem dX12_keyNamed_33 : decode cX12_keyNamed 33 = .ok (.ifCond .ne 6, 3) := by decide +kernel
theorem dX12_keyNamed_39 : decode cX12_keyNamed 39 = .ok (.iinc 4 1, 3) := by decide +kernel
theorem dX12_keyNamed_42 : decode cX12_keyNamed 42 = .ok (.goto (-39), 3) := by decide +kernel
theorem dX12_keyNamed_36 : decode cX12_keyNamed 36 = .ok (.iload 4, 2) := by decide +kernel
theorem dX12_keyNamed_38 : decode cX12_keyNamed 38 = .ok (.ireturn, 1) := by decide +kernel
def rm_X12_keyNamed : Room := { frames := 0, cells := 0, slots := 0, locals := 0 }
set_option maxHeartbeats 4000000 in
set_option maxRecDepth 100000 in
theorem s_X12_keyNamed (l : Launch) (D : va_G) (cy : Nat → ClassId) (L : List Nat) (R O : Nat → Nat) (f0 : Nat → va_E) (a0 : Nat) (m_a0 : a0 ∈ L) (r_a0 : R a0 = 12) (x1 : Int32) (b1 : 0 ≤ x1.toInt ∧ x1.toInt ≤ 24060) (x2 : Int64) (pre0 : isB x1.toInt.toNat) : ∀ sz, Met l yX12_keyNamed (Cond.code yX12_keyNamed cX12_keyNamed 5 (some .int) :: wsL_law) rm_X12_keyNamed (va_Pc [.ref a0, .int x1, .long x2] (tPZ D cy L R (TT cy L R) f0 sz)) (va_Qi (fun (r : Int32) f1 => f0 = f1 ∧ (-1) ≤ r.toInt ∧ r.toInt ≤ 11) (tB D (tA L sz) L R (TT cy L R)) (tA L sz)) 0 0 (tA L sz) := by
  refine tw_enteri (by decide +kernel) rfl (Nat.le_of_ble_eq_true rfl) ?_
  intro p e s m below meth c A ls args Q F hZ h hl hret
  have hl : lv_has ls 5 [(0, .ref a0), (1, .int x1), (2, .long x2)] := hl
  have hB := pre0
  refine tw_iconst F dX12_keyNamed_0 ki_0 (fun z1 hz1 => ?_)
  refine lv_istore (lv' := [(4, .int z1), (0, .ref a0), (1, .int x1), (2, .long x2)]) F.1 F.2.1 dX12_keyNamed_1 hl (by decide) rfl (fun ls hl => ?_)
  have j_3 : ∀ (n3 : Nat) (ls : Array Slot) (x4_3 : Int32), 0 ≤ x4_3.toInt → x4_3.toInt ≤ 12 → ((12 - x4_3.toInt)).toNat < n3 → lv_has ls 5 [(0, .ref a0), (1, .int x1), (2, .long x2), (4, .int x4_3)] → W p l e rm_X12_keyNamed s m args below meth c s.heap [] 0 0 Q (F0 m 3 ls []) := by
    intro n3
    induction n3 with
    | zero =>
      intro ls x4_3 b2 b3 b4 hl
      exfalso
      omega
    | succ n3 ih3 =>
      intro ls x4_3 b2 b3 b4 hl
      refine lv_iload F.1 F.2.1 dX12_keyNamed_3 (lv_at hl 3 rfl) ?_
      refine tw_i2l F dX12_keyNamed_5 (fun z5 hz5 => ?_)
      refine lv_aload_n F.1 F.2.1 dX12_keyNamed_6 rfl (lv_at hl 0 rfl) ?_
      refine g_12_7 F h m_a0 r_a0 dX12_keyNamed_7 (fun o6 m_o6 r_o6 ho6 => ?_)
      refine lv_iload_n F.1 F.2.1 dX12_keyNamed_10 rfl (lv_at hl 1 rfl) ?_
      refine tw_iconst F dX12_keyNamed_11 ki_0 (fun z7 hz7 => ?_)
      refine tu_iadd F dX12_keyNamed_12 (by omega) (fun z8 hz8 => ?_)
      refine ld_61 F h m_o6 r_o6 (by omega) dX12_keyNamed_13 (fun v9 hv9a => ?_)
      have hv9b := clP_1.mp (atb hv9a (ac_c (b := x1.toInt.toNat) 0 hB (by decide) (by omega) rfl))
      refine tw_lcmp F dX12_keyNamed_14 (fun z10 hz10 => ?_)
      refine tw_if_ge (tgt := 45) F dX12_keyNamed_15 (by decide) (fun b11 => ?_) (fun b11 => ?_)
      · refine tw_iconst F dX12_keyNamed_45 ki_m1 (fun z12 hz12 => ?_)
        exact hret f0 _ _ _ _ z12 dX12_keyNamed_46 rfl ⟨rfl, by omega, by omega⟩ h
      · refine lv_aload_n F.1 F.2.1 dX12_keyNamed_18 rfl (lv_at hl 0 rfl) ?_
        refine g_12_7 F h m_a0 r_a0 dX12_keyNamed_19 (fun o13 m_o13 r_o13 ho13 => ?_)
        refine lv_iload_n F.1 F.2.1 dX12_keyNamed_22 rfl (lv_at hl 1 rfl) ?_
        refine tw_iconst F dX12_keyNamed_23 ki_4 (fun z14 hz14 => ?_)
        refine tu_iadd F dX12_keyNamed_24 (by omega) (fun z15 hz15 => ?_)
        refine tw_iconst F dX12_keyNamed_25 ki_2 (fun z16 hz16 => ?_)
        refine lv_iload F.1 F.2.1 dX12_keyNamed_26 (lv_at hl 3 rfl) ?_
        refine tu_imull F dX12_keyNamed_28 hz16 (by omega) (fun z17 hz17 => ?_)
        refine tu_iadd F dX12_keyNamed_29 (by omega) (fun z18 hz18 => ?_)
        refine ld_61 F h m_o13 r_o13 (by omega) dX12_keyNamed_30 (fun v19 hv19a => ?_)
        refine lv_lload_n F.1 F.2.1 dX12_keyNamed_31 rfl (lv_at hl 2 rfl) ?_
        refine tw_lcmp F dX12_keyNamed_32 (fun z20 hz20 => ?_)
        refine tw_if_ne (tgt := 39) F dX12_keyNamed_33 (by decide) (fun b21 => ?_) (fun b21 => ?_)
        · refine tu_iinc F dX12_keyNamed_39 hl (k := 3) rfl (by decide) ki_1 (by omega) (fun z22 ls hz22 hl => ?_)
          have hl : lv_has ls 5 [(4, .int z22), (0, .ref a0), (1, .int x1), (2, .long x2)] := hl
          refine lv_goto (tgt := 3) F.1 F.2.1 dX12_keyNamed_42 (by decide) ?_
          exact ih3 _ z22 (by omega) (by omega) (by omega) (lv_sub hl [1, 2, 3, 0] rfl)
        · refine lv_iload F.1 F.2.1 dX12_keyNamed_36 (lv_at hl 3 rfl) ?_
          exact hret f0 _ _ _ _ x4_3 dX12_keyNamed_38 rfl ⟨rfl, by omega, by omega⟩ h
  exact j_3 (((12 - z1.toInt)).toNat + 1) _ z1 (by omega) (by omega) (by omega) (lv_sub hl [1, 2, 3, 0] rfl)
theorem dX12_turns_0 : decode cX12_turns 0 = .ok (.iconst 0, 1) := by decide +kernel
theorem dX12_turns_1 : decode cX12_turns 1 = .ok (.istore 4, 2) := by decide +kernel
theorem dX12_turns_3 : decode cX12_turns 3 = .ok (.iload 4, 2) := by decide +kernel
theorem dX12_turns_5 : decode cX12_turns 5 = .ok (.i2l, 1) := by decide +kernel
theorem dX12_turns_6 : decode cX12_turns 6 = .ok (.aload_n 0, 1) := by decide +kernel
theorem dX12_turns_7 : decode cX12_turns 7 = .ok (.getfield 7, 3) := by decide +kernel
theorem dX12_turns_10 : decode cX12_turns 10 = .ok (.iload_n 1, 1) := by decide +kernel
theorem dX12_turns_11 : decode cX12_turns 11 = .ok (.iconst 2, 1) := by decide +kernel
theorem dX12_turns_12 : decode cX12_turns 12 = .ok (.iadd, 1) := by decide +kernel
theorem dX12_turns_13 : decode cX12_turns 13 = .ok (.laload, 1) := by decide +kernel
theorem dX12_turns_14 : decode cX12_turns 14 = .ok (.lcmp, 1) := by decide +kernel
theorem dX12_turns_15 : decode cX12_turns 15 = .ok (.ifCond .ge 54, 3) := by decide +kernel
theorem dX12_turns_69 : decode cX12_turns 69 = .ok (.lload_n 2, 1) := by decide +kernel
theorem dX12_turns_70 : decode cX12_turns 70 = .ok (.lreturn, 1) := by decide +kernel
theorem dX12_turns_18 : decode cX12_turns 18 = .ok (.iload 4, 2) := by decide +kernel
theorem dX12_turns_20 : decode cX12_turns 20 = .ok (.aload_n 0, 1) := by decide +kernel
theorem dX12_turns_21 : decode cX12_turns 21 = .ok (.getfield 69, 3) := by decide +kernel
theorem mw_220 : Cond.fieldLink RX12 69 "AskBackModel" "noTurn" "I" ∈ wsL_law := inr_10 _ (List.mem_of_getElem? (i := 4) rfl)
section
variable {p : Program} {l : Launch} {e : Env} {R0 : Room} {s : State} {m : MethodId} {args : Array Value} {below : List Frame} {meth : Method} {c : Code} {H H0 : Heap} {locs : List Loc} {cells slots : Nat} {Q : State → Prop} {cc : ByteArray} {nL : Nat} {D : va_G} {cy : Nat → ClassId} {A : Nat → Prop} {L : List Nat} {R : Nat → Nat} {f : Nat → va_E} {pc : Nat} {ls : Array Slot} {rest : List Value} {a : Nat}
theorem g_12_69 (F : CallFix p m c cc nL s args wsL_law RX12) (h : tS D cy A H0 L R (TT cy L R) f s H locs) (ha : a ∈ L) (hr : R a = 12) (hdg : decode cc pc = .ok (.getfield 69, 3)) (kk : ∀ x : Int32, x.toInt = fi f a 32 → W p l e R0 s m args below meth c H locs cells slots Q (F0 m (pc + 3) ls (.int x :: rest))) : W p l e R0 s m args below meth c H locs cells slots Q (F0 m pc ls (.ref a :: rest)) := tu_geti F h ha hr (fun e q => (T_12 e).mp q) rfl inlX12 rfl (Nat.le_of_ble_eq_true rfl) mw_220 hdg (fun x h1 h2 h3 => kk x h1)
end
theorem dX12_turns_63 : decode cX12_turns 63 = .ok (.iinc 4 1, 3) := by decide +kernel
theorem dX12_turns_66 : decode cX12_turns 66 = .ok (.goto (-63), 3) := by decide +kernel
theorem dX12_turns_24 : decode cX12_turns 24 = .ok (.if_icmp .eq 39, 3) := by decide +kernel
theorem dX12_turns_27 : decode cX12_turns 27 = .ok (.aload_n 0, 1) := by decide +kernel
theorem dX12_turns_28 : decode cX12_turns 28 = .ok (.getfield 7, 3) := by decide +kernel
theorem dX12_turns_31 : decode cX12_turns 31 = .ok (.iload_n 1, 1) := by decide +kernel
theorem dX12_turns_32 : decode cX12_turns 32 = .ok (.bipush 28, 2) := by decide +kernel
theorem kb_28 : (Int8.ofInt 28).toInt32.toInt = 28 := by decide
theorem dX12_turns_34 : decode cX12_turns 34 = .ok (.iadd, 1) := by decide +kernel
theorem dX12_turns_35 : decode cX12_turns 35 = .ok (.iconst 2, 1) := by decide +kernel
theorem dX12_turns_36 : decode cX12_turns 36 = .ok (.iload 4, 2) := by decide +kernel
theorem dX12_turns_38 : decode cX12_turns 38 = .ok (.imul, 1) := by decide +kernel
theorem dX12_turns_39 : decode cX12_turns 39 = .ok (.iadd, 1) := by decide +kernel
theorem dX12_turns_40 : decode cX12_turns 40 = .ok (.laload, 1) := by decide +kernel
theorem dX12_turns_41 : decode cX12_turns 41 = .ok (.lload_n 2, 1) := by decide +kernel
theorem dX12_turns_42 : decode cX12_turns 42 = .ok (.lcmp, 1) := by decide +kernel
theorem dX12_turns_43 : decode cX12_turns 43 = .ok (.ifCond .ne 20, 3) := by decide +kernel
theorem dX12_turns_46 : decode cX12_turns 46 = .ok (.aload_n 0, 1) := by decide +kernel
theorem dX12_turns_47 : decode cX12_turns 47 = .ok (.getfield 7, 3) := by decide +kernel
theorem dX12_turns_50 : decode cX12_turns 50 = .ok (.iload_n 1, 1) := by decide +kernel
theorem dX12_turns_51 : decode cX12_turns 51 = .ok (.bipush 28, 2) := by decide +kernel
theorem dX12_turns_53 : decode cX12_turns 53 = .ok (.iadd, 1) := by decide +kernel
theorem dX12_turns_54 : decode cX12_turns 54 = .ok (.iconst 2, 1) := by decide +kernel
theorem dX12_turns_55 : decode cX12_turns 55 = .ok (.iload 4, 2) := by decide +kernel
theorem dX12_turns_57 : decode cX12_turns 57 = .ok (.imul, 1) := by decide +kernel
theorem dX12_turns_58 : decode cX12_turns 58 = .ok (.iadd, 1) := by decide +kernel
theorem dX12_turns_59 : decode cX12_turns 59 = .ok (.iconst 1, 1) := by decide +kernel
theorem dX12_turns_60 : decode cX12_turns 60 = .ok (.iadd, 1) := by decide +kernel
theorem dX12_turns_61 : decode cX12_turns 61 = .ok (.laload, 1) := by decide +kernel
theorem dX12_turns_62 : decode cX12_turns 62 = .ok (.lreturn, 1) := by decide +kernel
def rm_X12_turns : Room := { frames := 0, cells := 0, slots := 0, locals := 0 }
set_option maxHeartbeats 4000000 in
set_option maxRecDepth 100000 in
theorem s_X12_turns (l : Launch) (D : va_G) (cy : Nat → ClassId) (L : List Nat) (R O : Nat → Nat) (f0 : Nat → va_E) (a0 : Nat) (m_a0 : a0 ∈ L) (r_a0 : R a0 = 12) (x1 : Int32) (b1 : 0 ≤ x1.toInt ∧ x1.toInt ≤ 24060) (x2 : Int64) (pre0 : isB x1.toInt.toNat) : ∀ sz, Met l yX12_turns (Cond.code yX12_turns cX12_turns 5 (some .long) :: wsL_law) rm_X12_turns (va_Pc [.ref a0, .int x1, .long x2] (tPZ D cy L R (TT cy L R) f0 sz)) (va_Ql (fun (r : Int64) f1 => f0 = f1) (tB D (tA L sz) L R (TT cy L R)) (tA L sz)) 0 0 (tA L sz) := by
  refine tw_enterl (by decide +kernel) rfl (Nat.le_of_ble_eq_true rfl) ?_
  intro p e s m below meth c A ls args Q F hZ h hl hret
  have hl : lv_has ls 5 [(0, .ref a0), (1, .int x1), (2, .long x2)] := hl
  have hB := pre0
  refine tw_iconst F dX12_turns_0 ki_0 (fun z1 hz1 => ?_)
  refine lv_istore (lv' := [(4, .int z1), (0, .ref a0), (1, .int x1), (2, .long x2)]) F.1 F.2.1 dX12_turns_1 hl (by decide) rfl (fun ls hl => ?_)
  have j_3 : ∀ (n3 : Nat) (ls : Array Slot) (x4_3 : Int32), 0 ≤ x4_3.toInt → x4_3.toInt ≤ 12 → ((12 - x4_3.toInt)).toNat < n3 → lv_has ls 5 [(0, .ref a0), (1, .int x1), (2, .long x2), (4, .int x4_3)] → W p l e rm_X12_turns s m args below meth c s.heap [] 0 0 Q (F0 m 3 ls []) := by
    intro n3
    induction n3 with
    | zero =>
      intro ls x4_3 b2 b3 b4 hl
      exfalso
      omega
    | succ n3 ih3 =>
      intro ls x4_3 b2 b3 b4 hl
      refine lv_iload F.1 F.2.1 dX12_turns_3 (lv_at hl 3 rfl) ?_
      refine tw_i2l F dX12_turns_5 (fun z5 hz5 => ?_)
      refine lv_aload_n F.1 F.2.1 dX12_turns_6 rfl (lv_at hl 0 rfl) ?_
      refine g_12_7 F h m_a0 r_a0 dX12_turns_7 (fun o6 m_o6 r_o6 ho6 => ?_)
      refine lv_iload_n F.1 F.2.1 dX12_turns_10 rfl (lv_at hl 1 rfl) ?_
      refine tw_iconst F dX12_turns_11 ki_2 (fun z7 hz7 => ?_)
      refine tu_iadd F dX12_turns_12 (by omega) (fun z8 hz8 => ?_)
      refine ld_61 F h m_o6 r_o6 (by omega) dX12_turns_13 (fun v9 hv9a => ?_)
      have hv9b := clP_1.mp (atb hv9a (ac_c (b := x1.toInt.toNat) 2 hB (by decide) (by omega) rfl))
      refine tw_lcmp F dX12_turns_14 (fun z10 hz10 => ?_)
      refine tw_if_ge (tgt := 69) F dX12_turns_15 (by decide) (fun b11 => ?_) (fun b11 => ?_)
      · refine lv_lload_n F.1 F.2.1 dX12_turns_69 rfl (lv_at hl 2 rfl) ?_
        exact hret f0 _ _ _ _ x2 dX12_turns_70 rfl h
      · refine lv_iload F.1 F.2.1 dX12_turns_18 (lv_at hl 3 rfl) ?_
        refine lv_aload_n F.1 F.2.1 dX12_turns_20 rfl (lv_at hl 0 rfl) ?_
        refine g_12_69 F h m_a0 r_a0 dX12_turns_21 (fun v12 hv12 => ?_)
        have j_63 : ∀ (ls : Array Slot), lv_has ls 5 [(0, .ref a0), (1, .int x1), (2, .long x2), (4, .int x4_3)] → W p l e rm_X12_turns s m args below meth c s.heap [] 0 0 Q (F0 m 63 ls []) := by
          intro ls hl
          refine tu_iinc F dX12_turns_63 hl (k := 3) rfl (by decide) ki_1 (by omega) (fun z13 ls hz13 hl => ?_)
          have hl : lv_has ls 5 [(4, .int z13), (0, .ref a0), (1, .int x1), (2, .long x2)] := hl
          refine lv_goto (tgt := 3) F.1 F.2.1 dX12_turns_66 (by decide) ?_
          exact ih3 _ z13 (by omega) (by omega) (by omega) (lv_sub hl [1, 2, 3, 0] rfl)
        refine tw_icmp_eq (tgt := 63) F dX12_turns_24 (by decide) (fun b14 => ?_) (fun b14 => ?_)
        · exact j_63 _ (lv_sub hl [0, 1, 2, 3] rfl)
        · refine lv_aload_n F.1 F.2.1 dX12_turns_27 rfl (lv_at hl 0 rfl) ?_
          refine g_12_7 F h m_a0 r_a0 dX12_turns_28 (fun o15 m_o15 r_o15 ho15 => ?_)
          refine lv_iload_n F.1 F.2.1 dX12_turns_31 rfl (lv_at hl 1 rfl) ?_
          refine tw_bipush F dX12_turns_32 kb_28 (fun z16 hz16 => ?_)
          refine tu_iadd F dX12_turns_34 (by omega) (fun z17 hz17 => ?_)
          refine tw_iconst F dX12_turns_35 ki_2 (fun z18 hz18 => ?_)
          refine lv_iload F.1 F.2.1 dX12_turns_36 (lv_at hl 3 rfl) ?_
          refine tu_imull F dX12_turns_38 hz18 (by omega) (fun z19 hz19 => ?_)
          refine tu_iadd F dX12_turns_39 (by omega) (fun z20 hz20 => ?_)
          refine ld_61 F h m_o15 r_o15 (by omega) dX12_turns_40 (fun v21 hv21a => ?_)
          refine lv_lload_n F.1 F.2.1 dX12_turns_41 rfl (lv_at hl 2 rfl) ?_
          refine tw_lcmp F dX12_turns_42 (fun z22 hz22 => ?_)
          refine tw_if_ne (tgt := 63) F dX12_turns_43 (by decide) (fun b23 => ?_) (fun b23 => ?_)
          · exact j_63 _ (lv_sub hl [0, 1, 2, 3] rfl)
          · refine lv_aload_n F.1 F.2.1 dX12_turns_46 rfl (lv_at hl 0 rfl) ?_
            refine g_12_7 F h m_a0 r_a0 dX12_turns_47 (fun o24 m_o24 r_o24 ho24 => ?_)
            refine lv_iload_n F.1 F.2.1 dX12_turns_50 rfl (lv_at hl 1 rfl) ?_
            refine tw_bipush F dX12_turns_51 kb_28 (fun z25 hz25 => ?_)
            refine tu_iadd F dX12_turns_53 (by omega) (fun z26 hz26 => ?_)
            refine tw_iconst F dX12_turns_54 ki_2 (fun z27 hz27 => ?_)
            refine lv_iload F.1 F.2.1 dX12_turns_55 (lv_at hl 3 rfl) ?_
            refine tu_imull F dX12_turns_57 hz27 (by omega) (fun z28 hz28 => ?_)
            refine tu_iadd F dX12_turns_58 (by omega) (fun z29 hz29 => ?_)
            refine tw_iconst F dX12_turns_59 ki_1 (fun z30 hz30 => ?_)
            refine tu_iadd F dX12_turns_60 (by omega) (fun z31 hz31 => ?_)
            refine ld_61 F h m_o24 r_o24 (by omega) dX12_turns_61 (fun v32 hv32a => ?_)
            exact hret f0 _ _ _ _ v32 dX12_turns_62 rfl h
  exact j_3 (((12 - z1.toInt)).toNat + 1) _ z1 (by omega) (by omega) (by omega) (lv_sub hl [1, 2, 3, 0] rfl)
theorem dX12_isAhead_0 : decode cX12_isAhead 0 = .ok (.aload_n 0, 1) := by decide +kernel
theorem dX12_isAhead_1 : decode cX12_isAhead 1 = .ok (.getfield 331, 3) := by decide +kernel
theorem mw_1073 : Cond.fieldLink RX12 331 "AskBackModel" "isRanked" "Z" ∈ wsL_law := inr_45 _ (List.mem_of_getElem? (i := 17) rfl)
section
variable {p : Program} {l : Launch} {e : Env} {R0 : Room} {s : State} {m : MethodId} {args : Array Value} {below : List Frame} {meth : Method} {c : Code} {H H0 : Heap} {locs : List Loc} {cells slots : Nat} {Q : State → Prop} {cc : ByteArray} {nL : Nat} {D : va_G} {cy : Nat → ClassId} {A : Nat → Prop} {L : List Nat} {R : Nat → Nat} {f : Nat → va_E} {pc : Nat} {ls : Array Slot} {rest : List Value} {a : Nat}
theorem g_12_331 (F : CallFix p m c cc nL s args wsL_law RX12) (h : tS D cy A H0 L R (TT cy L R) f s H locs) (ha : a ∈ L) (hr : R a = 12) (hdg : decode cc pc = .ok (.getfield 331, 3)) (kk : ∀ x : Int32, x.toInt = fi f a 33 → 0 ≤ x.toInt → x.toInt ≤ 1 → W p l e R0 s m args below meth c H locs cells slots Q (F0 m (pc + 3) ls (.int x :: rest))) : W p l e R0 s m args below meth c H locs cells slots Q (F0 m pc ls (.ref a :: rest)) := tu_geti F h ha hr (fun e q => (T_12 e).mp q) rfl inlX12 rfl (Nat.le_of_ble_eq_true rfl) mw_1073 hdg (fun x h1 h2 h3 => kk x h1 h2 h3)
end
theorem dX12_isAhead_4 : decode cX12_isAhead 4 = .ok (.ifCond .eq 24, 3) := by decide +kernel
theorem dX12_isAhead_28 : decode cX12_isAhead 28 = .ok (.aload_n 0, 1) := by decide +kernel
theorem dX12_isAhead_29 : decode cX12_isAhead 29 = .ok (.getfield 7, 3) := by decide +kernel
theorem dX12_isAhead_32 : decode cX12_isAhead 32 = .ok (.iload_n 1, 1) := by decide +kernel
theorem dX12_isAhead_33 : decode cX12_isAhead 33 = .ok (.iconst 4, 1) := by decide +kernel
theorem dX12_isAhead_34 : decode cX12_isAhead 34 = .ok (.iadd, 1) := by decide +kernel
theorem dX12_isAhead_35 : decode cX12_isAhead 35 = .ok (.iconst 2, 1) := by decide +kernel
theorem dX12_isAhead_36 : decode cX12_isAhead 36 = .ok (.iload_n 2, 1) := by decide +kernel
theorem dX12_isAhead_37 : decode cX12_isAhead 37 = .ok (.imul, 1) := by decide +kernel
theorem dX12_isAhead_38 : decode cX12_isAhead 38 = .ok (.iadd, 1) := by decide +kernel
theorem dX12_isAhead_39 : decode cX12_isAhead 39 = .ok (.iconst 1, 1) := by decide +kernel
theorem dX12_isAhead_40 : decode cX12_isAhead 40 = .ok (.iadd, 1) := by decide +kernel
theorem dX12_isAhead_41 : decode cX12_isAhead 41 = .ok (.laload, 1) := by decide +kernel
theorem dX12_isAhead_42 : decode cX12_isAhead 42 = .ok (.lstore 4, 2) := by decide +kernel
theorem dX12_isAhead_44 : decode cX12_isAhead 44 = .ok (.aload_n 0, 1) := by decide +kernel
theorem dX12_isAhead_45 : decode cX12_isAhead 45 = .ok (.getfield 7, 3) := by decide +kernel
theorem dX12_isAhead_48 : decode cX12_isAhead 48 = .ok (.iload_n 1, 1) := by decide +kernel
theorem dX12_isAhead_49 : decode cX12_isAhead 49 = .ok (.iconst 4, 1) := by decide +kernel
theorem dX12_isAhead_50 : decode cX12_isAhead 50 = .ok (.iadd, 1) := by decide +kernel
theorem dX12_isAhead_51 : decode cX12_isAhead 51 = .ok (.iconst 2, 1) := by decide +kernel
theorem dX12_isAhead_52 : decode cX12_isAhead 52 = .ok (.iload_n 3, 1) := by decide +kernel
theorem dX12_isAhead_53 : decode cX12_isAhead 53 = .ok (.imul, 1) := by decide +kernel
theorem dX12_isAhead_54 : decode cX12_isAhead 54 = .ok (.iadd, 1) := by decide +kernel
theorem dX12_isAhead_55 : decode cX12_isAhead 55 = .ok (.iconst 1, 1) := by decide +kernel
theorem dX12_isAhead_56 : decode cX12_isAhead 56 = .ok (.iadd, 1) := by decide +kernel
theorem dX12_isAhead_57 : decode cX12_isAhead 57 = .ok (.laload, 1) := by decide +kernel
theorem dX12_isAhead_58 : decode cX12_isAhead 58 = .ok (.lstore 6, 2) := by decide +kernel
theorem dX12_isAhead_60 : decode cX12_isAhead 60 = .ok (.lload 4, 2) := by decide +kernel
theorem dX12_isAhead_62 : decode cX12_isAhead 62 = .ok (.lload 6, 2) := by decide +kernel
theorem dX12_isAhead_64 : decode cX12_isAhead 64 = .ok (.lcmp, 1) := by decide +kernel
theorem dX12_isAhead_65 : decode cX12_isAhead 65 = .ok (.ifCond .gt 46, 3) := by decide +kernel
theorem dX12_isAhead_111 : decode cX12_isAhead 111 = .ok (.iconst 1, 1) := by decide +kernel
theorem dX12_isAhead_112 : decode cX12_isAhead 112 = .ok (.goto 4, 3) := by decide +kernel
theorem dX12_isAhead_116 : decode cX12_isAhead 116 = .ok (.ireturn, 1) := by decide +kernel
theorem dX12_isAhead_68 : decode cX12_isAhead 68 = .ok (.lload 4, 2) := by decide +kernel
theorem dX12_isAhead_70 : decode cX12_isAhead 70 = .ok (.lload 6, 2) := by decide +kernel
theorem dX12_isAhead_72 : decode cX12_isAhead 72 = .ok (.lcmp, 1) := by decide +kernel
theorem dX12_isAhead_73 : decode cX12_isAhead 73 = .ok (.ifCond .ne 42, 3) := by decide +kernel
theorem dX12_isAhead_115 : decode cX12_isAhead 115 = .ok (.iconst 0, 1) := by decide +kernel
theorem dX12_isAhead_76 : decode cX12_isAhead 76 = .ok (.aload_n 0, 1) := by decide +kernel
theorem dX12_isAhead_77 : decode cX12_isAhead 77 = .ok (.aload_n 0, 1) := by decide +kernel
theorem dX12_isAhead_78 : decode cX12_isAhead 78 = .ok (.getfield 7, 3) := by decide +kernel
theorem dX12_isAhead_81 : decode cX12_isAhead 81 = .ok (.iload_n 1, 1) := by decide +kernel
theorem dX12_isAhead_82 : decode cX12_isAhead 82 = .ok (.iconst 4, 1) := by decide +kernel
theorem dX12_isAhead_83 : decode cX12_isAhead 83 = .ok (.iadd, 1) := by decide +kernel
theorem dX12_isAhead_84 : decode cX12_isAhead 84 = .ok (.iconst 2, 1) := by decide +kernel
theorem dX12_isAhead_85 : decode cX12_isAhead 85 = .ok (.iload_n 2, 1) := by decide +kernel
theorem dX12_isAhead_86 : decode cX12_isAhead 86 = .ok (.imul, 1) := by decide +kernel
theorem dX12_isAhead_87 : decode cX12_isAhead 87 = .ok (.iadd, 1) := by decide +kernel
theorem dX12_isAhead_88 : decode cX12_isAhead 88 = .ok (.laload, 1) := by decide +kernel
theorem dX12_isAhead_89 : decode cX12_isAhead 89 = .ok (.invokevirtual 335, 3) := by decide +kernel
theorem mw_1065 : Cond.methodLink RX12 335 yX12_placeOf ∈ wsL_law := inr_45 _ (List.mem_of_getElem? (i := 9) rfl)
theorem mw_1068 : Cond.code yX12_placeOf cX12_placeOf 4 (some .int) ∈ wsL_law := inr_45 _ (List.mem_of_getElem? (i := 12) rfl)
theorem yk_X12_placeOf : xY yX12_placeOf RX12 cX12_placeOf 4 (some .int) 1 := ⟨⟨rfl, by decide +kernel, by decide +kernel, by decide +kernel⟩, mw_5, mw_1068⟩
theorem mw_1066 : Cond.instanceMethod yX12_placeOf ∈ wsL_law := inr_45 _ (List.mem_of_getElem? (i := 10) rfl)
theorem mw_1067 : Cond.selects RX12 yX12_placeOf yX12_placeOf ∈ wsL_law := inr_45 _ (List.mem_of_getElem? (i := 11) rfl)
theorem dX12_isAhead_92 : decode cX12_isAhead 92 = .ok (.aload_n 0, 1) := by decide +kernel
theorem dX12_isAhead_93 : decode cX12_isAhead 93 = .ok (.aload_n 0, 1) := by decide +kernel
theorem dX12_isAhead_94 : decode cX12_isAhead 94 = .ok (.getfield 7, 3) := by decide +kernel
theorem dX12_isAhead_97 : decode cX12_isAhead 97 = .ok (.iload_n 1, 1) := by decide +kernel
theorem dX12_isAhead_98 : decode cX12_isAhead 98 = .ok (.iconst 4, 1) := by decide +kernel
theorem dX12_isAhead_99 : decode cX12_isAhead 99 = .ok (.iadd, 1) := by decide +kernel
theorem dX12_isAhead_100 : decode cX12_isAhead 100 = .ok (.iconst 2, 1) := by decide +kernel
theorem dX12_isAhead_101 : decode cX12_isAhead 101 = .ok (.iload_n 3, 1) := by decide +kernel
theorem dX12_isAhead_102 : decode cX12_isAhead 102 = .ok (.imul, 1) := by decide +kernel
theorem dX12_isAhead_103 : decode cX12_isAhead 103 = .ok (.iadd, 1) := by decide +kernel
theorem dX12_isAhead_104 : decode cX12_isAhead 104 = .ok (.laload, 1) := by decide +kernel
theorem dX12_isAhead_105 : decode cX12_isAhead 105 = .ok (.invokevirtual 335, 3) := by decide +kernel
theorem dX12_isAhead_108 : decode cX12_isAhead 108 = .ok (.if_icmp .ge 7, 3) := by decide +kernel
theorem dX12_isAhead_7 : decode cX12_isAhead 7 = .ok (.aload_n 0, 1) := by decide +kernel
theorem dX12_isAhead_8 : decode cX12_isAhead 8 = .ok (.getfield 72, 3) := by decide +kernel
theorem mw_221 : Cond.fieldLink RX12 72 "AskBackModel" "rankBy" "[I" ∈ wsL_law := inr_10 _ (List.mem_of_getElem? (i := 5) rfl)
section
variable {p : Program} {l : Launch} {e : Env} {R0 : Room} {s : State} {m : MethodId} {args : Array Value} {below : List Frame} {meth : Method} {c : Code} {H H0 : Heap} {locs : List Loc} {cells slots : Nat} {Q : State → Prop} {cc : ByteArray} {nL : Nat} {D : va_G} {cy : Nat → ClassId} {A : Nat → Prop} {L : List Nat} {R : Nat → Nat} {f : Nat → va_E} {pc : Nat} {ls : Array Slot} {rest : List Value} {a : Nat}
theorem g_12_72 (F : CallFix p m c cc nL s args wsL_law RX12) (h : tS D cy A H0 L R (TT cy L R) f s H locs) (ha : a ∈ L) (hr : R a = 12) (hdg : decode cc pc = .ok (.getfield 72, 3)) (kk : ∀ b : Nat, b ∈ L → R b = 75 → fld f a 34 = .ref b → W p l e R0 s m args below meth c H locs cells slots Q (F0 m (pc + 3) ls (.ref b :: rest))) : W p l e R0 s m args below meth c H locs cells slots Q (F0 m pc ls (.ref a :: rest)) := tu_getr F h ha hr (fun e q => (T_12 e).mp q) rfl inlX12 rfl (Nat.le_of_ble_eq_true rfl) mw_221 hdg kk
end
theorem dX12_isAhead_11 : decode cX12_isAhead 11 = .ok (.iload_n 2, 1) := by decide +kernel
theorem dX12_isAhead_12 : decode cX12_isAhead 12 = .ok (.iaload, 1) := by decide +kernel
section
variable {p : Program} {l : Launch} {e : Env} {R0 : Room} {s : State} {m : MethodId} {args : Array Value} {below : List Frame} {meth : Method} {c : Code} {H H0 : Heap} {locs : List Loc} {cells slots : Nat} {Q : State → Prop} {cc : ByteArray} {nL : Nat} {D : va_G} {cy : Nat → ClassId} {A : Nat → Prop} {L : List Nat} {R : Nat → Nat} {f : Nat → va_E} {pc : Nat} {ls : Array Slot} {rest : List Value} {a : Nat}
theorem ld_75 {own : String} (F : CallFix p m c cc nL s args wsL_law own) (h : tS D cy A H0 L R (TT cy L R) f s H locs) {i : Int32} (ha : a ∈ L) (hr : R a = 75) (hb : 0 ≤ i.toInt ∧ i.toInt < 12) (hdg : decode cc pc = .ok (.iaload, 1)) (kk : ∀ x : Int32, W p l e R0 s m args below meth c H locs cells slots Q (F0 m (pc + 1) ls (.int x :: rest))) : W p l e R0 s m args below meth c H locs cells slots Q (F0 m pc ls (.int i :: .ref a :: rest)) := tu_iald F h ha hr (fun e q => (T_75 e).mp q) hb.1 hb.2 hdg (fun x h1 h2 => kk x)
end
theorem dX12_isAhead_13 : decode cX12_isAhead 13 = .ok (.aload_n 0, 1) := by decide +kernel
theorem dX12_isAhead_14 : decode cX12_isAhead 14 = .ok (.getfield 72, 3) := by decide +kernel
theorem dX12_isAhead_17 : decode cX12_isAhead 17 = .ok (.iload_n 3, 1) := by decide +kernel
theorem dX12_isAhead_18 : decode cX12_isAhead 18 = .ok (.iaload, 1) := by decide +kernel
theorem dX12_isAhead_19 : decode cX12_isAhead 19 = .ok (.if_icmp .le 7, 3) := by decide +kernel
theorem dX12_isAhead_26 : decode cX12_isAhead 26 = .ok (.iconst 0, 1) := by decide +kernel
theorem dX12_isAhead_27 : decode cX12_isAhead 27 = .ok (.ireturn, 1) := by decide +kernel
theorem dX12_isAhead_22 : decode cX12_isAhead 22 = .ok (.iconst 1, 1) := by decide +kernel
theorem dX12_isAhead_23 : decode cX12_isAhead 23 = .ok (.goto 4, 3) := by decide +kernel
def rm_X12_isAhead : Room := { frames := 1, cells := 0, slots := 0, locals := 23 }
set_option maxHeartbeats 4000000 in
set_option maxRecDepth 100000 in
theorem s_X12_isAhead (l : Launch) (D : va_G) (cy : Nat → ClassId) (L : List Nat) (R O : Nat → Nat) (f0 : Nat → va_E) (a0 : Nat) (m_a0 : a0 ∈ L) (r_a0 : R a0 = 12) (x1 : Int32) (b1 : 0 ≤ x1.toInt ∧ x1.toInt ≤ 24060) (x2 : Int32) (b2 : 0 ≤ x2.toInt ∧ x2.toInt ≤ 11) (x3 : Int32) (b3 : 0 ≤ x3.toInt ∧ x3.toInt ≤ 11) (pre0 : isB x1.toInt.toNat) : ∀ sz, Met l yX12_isAhead (Cond.code yX12_isAhead cX12_isAhead 8 (some .boolean) :: wsL_law) rm_X12_isAhead (va_Pc [.ref a0, .int x1, .int x2, .int x3] (tPZ D cy L R (TT cy L R) f0 sz)) (va_Qi (fun (r : Int32) f1 => f0 = f1 ∧ 0 ≤ r.toInt ∧ r.toInt ≤ 1) (tB D (tA L sz) L R (TT cy L R)) (tA L sz)) 0 0 (tA L sz) := by
  refine tw_enteri (by decide +kernel) rfl (Nat.le_of_ble_eq_true rfl) ?_
  intro p e s m below meth c A ls args Q F hZ h hl hret
  have hl : lv_has ls 8 [(0, .ref a0), (1, .int x1), (2, .int x2), (3, .int x3)] := hl
  have hB := pre0
  refine lv_aload_n F.1 F.2.1 dX12_isAhead_0 rfl (lv_at hl 0 rfl) ?_
  refine g_12_331 F h m_a0 r_a0 dX12_isAhead_1 (fun v1 hv1 hv1a hv1b => ?_)
  refine tw_if_eq (tgt := 28) F dX12_isAhead_4 (by decide) (fun b2 => ?_) (fun b2 => ?_)
  · refine lv_aload_n F.1 F.2.1 dX12_isAhead_28 rfl (lv_at hl 0 rfl) ?_
    refine g_12_7 F h m_a0 r_a0 dX12_isAhead_29 (fun o3 m_o3 r_o3 ho3 => ?_)
    refine lv_iload_n F.1 F.2.1 dX12_isAhead_32 rfl (lv_at hl 1 rfl) ?_
    refine tw_iconst F dX12_isAhead_33 ki_4 (fun z4 hz4 => ?_)
    refine tu_iadd F dX12_isAhead_34 (by omega) (fun z5 hz5 => ?_)
    refine tw_iconst F dX12_isAhead_35 ki_2 (fun z6 hz6 => ?_)
    refine lv_iload_n F.1 F.2.1 dX12_isAhead_36 rfl (lv_at hl 2 rfl) ?_
    refine tu_imull F dX12_isAhead_37 hz6 (by omega) (fun z7 hz7 => ?_)
    refine tu_iadd F dX12_isAhead_38 (by omega) (fun z8 hz8 => ?_)
    refine tw_iconst F dX12_isAhead_39 ki_1 (fun z9 hz9 => ?_)
    refine tu_iadd F dX12_isAhead_40 (by omega) (fun z10 hz10 => ?_)
    refine ld_61 F h m_o3 r_o3 (by omega) dX12_isAhead_41 (fun v11 hv11a => ?_)
    refine lv_lstore (lv' := [(4, .long v11), (0, .ref a0), (1, .int x1), (2, .int x2), (3, .int x3)]) F.1 F.2.1 dX12_isAhead_42 hl (by decide) rfl (fun ls hl => ?_)
    refine lv_aload_n F.1 F.2.1 dX12_isAhead_44 rfl (lv_at hl 1 rfl) ?_
    refine g_12_7 F h m_a0 r_a0 dX12_isAhead_45 (fun o12 m_o12 r_o12 ho12 => ?_)
    refine lv_iload_n F.1 F.2.1 dX12_isAhead_48 rfl (lv_at hl 2 rfl) ?_
    refine tw_iconst F dX12_isAhead_49 ki_4 (fun z13 hz13 => ?_)
    refine tu_iadd F dX12_isAhead_50 (by omega) (fun z14 hz14 => ?_)
    refine tw_iconst F dX12_isAhead_51 ki_2 (fun z15 hz15 => ?_)
    refine lv_iload_n F.1 F.2.1 dX12_isAhead_52 rfl (lv_at hl 4 rfl) ?_
    refine tu_imull F dX12_isAhead_53 hz15 (by omega) (fun z16 hz16 => ?_)
    refine tu_iadd F dX12_isAhead_54 (by omega) (fun z17 hz17 => ?_)
    refine tw_iconst F dX12_isAhead_55 ki_1 (fun z18 hz18 => ?_)
    refine tu_iadd F dX12_isAhead_56 (by omega) (fun z19 hz19 => ?_)
    refine ld_61 F h m_o12 r_o12 (by omega) dX12_isAhead_57 (fun v20 hv20a => ?_)
    refine lv_lstore (lv' := [(6, .long v20), (4, .long v11), (0, .ref a0), (1, .int x1), (2, .int x2), (3, .int x3)]) F.1 F.2.1 dX12_isAhead_58 hl (by decide) rfl (fun ls hl => ?_)
    refine lv_lload F.1 F.2.1 dX12_isAhead_60 (lv_at hl 1 rfl) ?_
    refine lv_lload F.1 F.2.1 dX12_isAhead_62 (lv_at hl 0 rfl) ?_
    refine tw_lcmp F dX12_isAhead_64 (fun z21 hz21 => ?_)
    refine tw_if_gt (tgt := 111) F dX12_isAhead_65 (by decide) (fun b22 => ?_) (fun b22 => ?_)
    · refine tw_iconst F dX12_isAhead_111 ki_1 (fun z23 hz23 => ?_)
      refine lv_goto (tgt := 116) F.1 F.2.1 dX12_isAhead_112 (by decide) ?_
      exact hret f0 _ _ _ _ z23 dX12_isAhead_116 (tw_nb (by omega)) ⟨rfl, by omega, by omega⟩ h
    · refine lv_lload F.1 F.2.1 dX12_isAhead_68 (lv_at hl 1 rfl) ?_
      refine lv_lload F.1 F.2.1 dX12_isAhead_70 (lv_at hl 0 rfl) ?_
      refine tw_lcmp F dX12_isAhead_72 (fun z24 hz24 => ?_)
      refine tw_if_ne (tgt := 115) F dX12_isAhead_73 (by decide) (fun b25 => ?_) (fun b25 => ?_)
      · refine tw_iconst F dX12_isAhead_115 ki_0 (fun z26 hz26 => ?_)
        exact hret f0 _ _ _ _ z26 dX12_isAhead_116 (tw_nb (by omega)) ⟨rfl, by omega, by omega⟩ h
      · refine lv_aload_n F.1 F.2.1 dX12_isAhead_76 rfl (lv_at hl 2 rfl) ?_
        refine lv_aload_n F.1 F.2.1 dX12_isAhead_77 rfl (lv_at hl 2 rfl) ?_
        refine g_12_7 F h m_a0 r_a0 dX12_isAhead_78 (fun o27 m_o27 r_o27 ho27 => ?_)
        refine lv_iload_n F.1 F.2.1 dX12_isAhead_81 rfl (lv_at hl 3 rfl) ?_
        refine tw_iconst F dX12_isAhead_82 ki_4 (fun z28 hz28 => ?_)
        refine tu_iadd F dX12_isAhead_83 (by omega) (fun z29 hz29 => ?_)
        refine tw_iconst F dX12_isAhead_84 ki_2 (fun z30 hz30 => ?_)
        refine lv_iload_n F.1 F.2.1 dX12_isAhead_85 rfl (lv_at hl 4 rfl) ?_
        refine tu_imull F dX12_isAhead_86 hz30 (by omega) (fun z31 hz31 => ?_)
        refine tu_iadd F dX12_isAhead_87 (by omega) (fun z32 hz32 => ?_)
        refine ld_61 F h m_o27 r_o27 (by omega) dX12_isAhead_88 (fun v33 hv33a => ?_)
        refine tw_Vi (As := [.long v33]) F hZ h yk_X12_placeOf mw_1065 mw_1066 mw_1067 (s_X12_placeOf l D cy L R O f0 a0 m_a0 r_a0 v33) rfl rfl m_a0 r_a0 (fun e q => (T_12 e).mp q) rfl hl.1 rfl (Nat.le_of_ble_eq_true rfl) ⟨Nat.le_of_ble_eq_true rfl, Nat.le_of_ble_eq_true rfl⟩ ⟨Nat.le_of_ble_eq_true rfl, Nat.le_of_ble_eq_true rfl⟩ dX12_isAhead_89 (fun v35 f34 H locs hp34 h => ?_)
        obtain ⟨rfl, hv35a, hv35b⟩ := hp34
        refine lv_aload_n F.1 F.2.1 dX12_isAhead_92 rfl (lv_at hl 2 rfl) ?_
        refine lv_aload_n F.1 F.2.1 dX12_isAhead_93 rfl (lv_at hl 2 rfl) ?_
        refine g_12_7 F h m_a0 r_a0 dX12_isAhead_94 (fun o36 m_o36 r_o36 ho36 => ?_)
        refine lv_iload_n F.1 F.2.1 dX12_isAhead_97 rfl (lv_at hl 3 rfl) ?_
        refine tw_iconst F dX12_isAhead_98 ki_4 (fun z37 hz37 => ?_)
        refine tu_iadd F dX12_isAhead_99 (by omega) (fun z38 hz38 => ?_)
        refine tw_iconst F dX12_isAhead_100 ki_2 (fun z39 hz39 => ?_)
        refine lv_iload_n F.1 F.2.1 dX12_isAhead_101 rfl (lv_at hl 5 rfl) ?_
        refine tu_imull F dX12_isAhead_102 hz39 (by omega) (fun z40 hz40 => ?_)
        refine tu_iadd F dX12_isAhead_103 (by omega) (fun z41 hz41 => ?_)
        refine ld_61 F h m_o36 r_o36 (by omega) dX12_isAhead_104 (fun v42 hv42a => ?_)
        refine tw_Vi (As := [.long v42]) F hZ h yk_X12_placeOf mw_1065 mw_1066 mw_1067 (s_X12_placeOf l D cy L R O f0 a0 m_a0 r_a0 v42) rfl rfl m_a0 r_a0 (fun e q => (T_12 e).mp q) rfl hl.1 rfl (Nat.le_of_ble_eq_true rfl) ⟨Nat.le_of_ble_eq_true rfl, Nat.le_of_ble_eq_true rfl⟩ ⟨Nat.le_of_ble_eq_true rfl, Nat.le_of_ble_eq_true rfl⟩ dX12_isAhead_105 (fun v44 f43 H locs hp43 h => ?_)
        obtain ⟨rfl, hv44a, hv44b⟩ := hp43
        refine tw_icmp_ge (tgt := 115) F dX12_isAhead_108 (by decide) (fun b45 => ?_) (fun b45 => ?_)
        · refine tw_iconst F dX12_isAhead_115 ki_0 (fun z46 hz46 => ?_)
          exact hret f0 _ _ _ _ z46 dX12_isAhead_116 (tw_nb (by omega)) ⟨rfl, by omega, by omega⟩ h
        · refine tw_iconst F dX12_isAhead_111 ki_1 (fun z47 hz47 => ?_)
          refine lv_goto (tgt := 116) F.1 F.2.1 dX12_isAhead_112 (by decide) ?_
          exact hret f0 _ _ _ _ z47 dX12_isAhead_116 (tw_nb (by omega)) ⟨rfl, by omega, by omega⟩ h
  · refine lv_aload_n F.1 F.2.1 dX12_isAhead_7 rfl (lv_at hl 0 rfl) ?_
    refine g_12_72 F h m_a0 r_a0 dX12_isAhead_8 (fun o48 m_o48 r_o48 ho48 => ?_)
    refine lv_iload_n F.1 F.2.1 dX12_isAhead_11 rfl (lv_at hl 2 rfl) ?_
    refine ld_75 F h m_o48 r_o48 (by omega) dX12_isAhead_12 (fun v49 => ?_)
    refine lv_aload_n F.1 F.2.1 dX12_isAhead_13 rfl (lv_at hl 0 rfl) ?_
    refine g_12_72 F h m_a0 r_a0 dX12_isAhead_14 (fun o50 m_o50 r_o50 ho50 => ?_)
    refine lv_iload_n F.1 F.2.1 dX12_isAhead_17 rfl (lv_at hl 3 rfl) ?_
    refine ld_75 F h m_o50 r_o50 (by omega) dX12_isAhead_18 (fun v51 => ?_)
    refine tw_icmp_le (tgt := 26) F dX12_isAhead_19 (by decide) (fun b52 => ?_) (fun b52 => ?_)
    · refine tw_iconst F dX12_isAhead_26 ki_0 (fun z53 hz53 => ?_)
      exact hret f0 _ _ _ _ z53 dX12_isAhead_27 (tw_nb (by omega)) ⟨rfl, by omega, by omega⟩ h
    · refine tw_iconst F dX12_isAhead_22 ki_1 (fun z54 hz54 => ?_)
      refine lv_goto (tgt := 27) F.1 F.2.1 dX12_isAhead_23 (by decide) ?_
      exact hret f0 _ _ _ _ z54 dX12_isAhead_27 (tw_nb (by omega)) ⟨rfl, by omega, by omega⟩ h
theorem dX12_keysHeard_0 : decode cX12_keysHeard 0 = .ok (.iconst 0, 1) := by decide +kernel
theorem dX12_keysHeard_1 : decode cX12_keysHeard 1 = .ok (.istore_n 2, 1) := by decide +kernel
theorem dX12_keysHeard_2 : decode cX12_keysHeard 2 = .ok (.iconst 0, 1) := by decide +kernel
theorem dX12_keysHeard_3 : decode cX12_keysHeard 3 = .ok (.istore_n 3, 1) := by decide +kernel
theorem dX12_keysHeard_4 : decode cX12_keysHeard 4 = .ok (.iload_n 3, 1) := by decide +kernel
theorem dX12_keysHeard_5 : decode cX12_keysHeard 5 = .ok (.i2l, 1) := by decide +kernel
theorem dX12_keysHeard_6 : decode cX12_keysHeard 6 = .ok (.aload_n 0, 1) := by decide +kernel
theorem dX12_keysHeard_7 : decode cX12_keysHeard 7 = .ok (.getfield 7, 3) := by decide +kernel
theorem dX12_keysHeard_10 : decode cX12_keysHeard 10 = .ok (.iload_n 1, 1) := by decide +kernel
theorem dX12_keysHeard_11 : decode cX12_keysHeard 11 = .ok (.iconst 0, 1) := by decide +kernel
theorem dX12_keysHeard_12 : decode cX12_keysHeard 12 = .ok (.iadd, 1) := by decide +kernel
theorem dX12_keysHeard_13 : decode cX12_keysHeard 13 = .ok (.laload, 1) := by decide +kernel
theorem dX12_keysHeard_14 : decode cX12_keysHeard 14 = .ok (.lcmp, 1) := by decide +kernel
theorem dX12_keysHeard_15 : decode cX12_keysHeard 15 = .ok (.ifCond .ge 91, 3) := by decide +kernel
theorem dX12_keysHeard_106 : decode cX12_keysHeard 106 = .ok (.iload_n 2, 1) := by decide +kernel
theorem dX12_keysHeard_107 : decode cX12_keysHeard 107 = .ok (.ireturn, 1) := by decide +kernel
theorem dX12_keysHeard_18 : decode cX12_keysHeard 18 = .ok (.aload_n 0, 1) := by decide +kernel
theorem dX12_keysHeard_19 : decode cX12_keysHeard 19 = .ok (.aload_n 0, 1) := by decide +kernel
theorem dX12_keysHeard_20 : decode cX12_keysHeard 20 = .ok (.getfield 7, 3) := by decide +kernel
theorem dX12_keysHeard_23 : decode cX12_keysHeard 23 = .ok (.iload_n 1, 1) := by decide +kernel
theorem dX12_keysHeard_24 : decode cX12_keysHeard 24 = .ok (.iconst 4, 1) := by decide +kernel
theorem dX12_keysHeard_25 : decode cX12_keysHeard 25 = .ok (.iadd, 1) := by decide +kernel
theorem dX12_keysHeard_26 : decode cX12_keysHeard 26 = .ok (.iconst 2, 1) := by decide +kernel
theorem dX12_keysHeard_27 : decode cX12_keysHeard 27 = .ok (.iload_n 3, 1) := by decide +kernel
theorem dX12_keysHeard_28 : decode cX12_keysHeard 28 = .ok (.imul, 1) := by decide +kernel
theorem dX12_keysHeard_29 : decode cX12_keysHeard 29 = .ok (.iadd, 1) := by decide +kernel
theorem dX12_keysHeard_30 : decode cX12_keysHeard 30 = .ok (.laload, 1) := by decide +kernel
theorem dX12_keysHeard_31 : decode cX12_keysHeard 31 = .ok (.invokevirtual 335, 3) := by decide +kernel
theorem dX12_keysHeard_34 : decode cX12_keysHeard 34 = .ok (.iconst (-1), 1) := by decide +kernel
theorem dX12_keysHeard_100 : decode cX12_keysHeard 100 = .ok (.iinc 3 1, 3) := by decide +kernel
theorem dX12_keysHeard_103 : decode cX12_keysHeard 103 = .ok (.goto (-99), 3) := by decide +kernel
theorem dX12_keysHeard_35 : decode cX12_keysHeard 35 = .ok (.if_icmp .ne 6, 3) := by decide +kernel
theorem dX12_keysHeard_41 : decode cX12_keysHeard 41 = .ok (.iload_n 2, 1) := by decide +kernel
theorem dX12_keysHeard_42 : decode cX12_keysHeard 42 = .ok (.istore 4, 2) := by decide +kernel
theorem dX12_keysHeard_44 : decode cX12_keysHeard 44 = .ok (.iload 4, 2) := by decide +kernel
theorem dX12_keysHeard_89 : decode cX12_keysHeard 89 = .ok (.aload_n 0, 1) := by decide +kernel
theorem dX12_keysHeard_90 : decode cX12_keysHeard 90 = .ok (.getfield 75, 3) := by decide +kernel
theorem mw_222 : Cond.fieldLink RX12 75 "AskBackModel" "order" "[I" ∈ wsL_law := inr_10 _ (List.mem_of_getElem? (i := 6) rfl)
section
variable {p : Program} {l : Launch} {e : Env} {R0 : Room} {s : State} {m : MethodId} {args : Array Value} {below : List Frame} {meth : Method} {c : Code} {H H0 : Heap} {locs : List Loc} {cells slots : Nat} {Q : State → Prop} {cc : ByteArray} {nL : Nat} {D : va_G} {cy : Nat → ClassId} {A : Nat → Prop} {L : List Nat} {R : Nat → Nat} {f : Nat → va_E} {pc : Nat} {ls : Array Slot} {rest : List Value} {a : Nat}
theorem g_12_75 (F : CallFix p m c cc nL s args wsL_law RX12) (h : tS D cy A H0 L R (TT cy L R) f s H locs) (ha : a ∈ L) (hr : R a = 12) (hdg : decode cc pc = .ok (.getfield 75, 3)) (kk : ∀ b : Nat, b ∈ L → R b = 76 → fld f a 40 = .ref b → W p l e R0 s m args below meth c H locs cells slots Q (F0 m (pc + 3) ls (.ref b :: rest))) : W p l e R0 s m args below meth c H locs cells slots Q (F0 m pc ls (.ref a :: rest)) := tu_getr F h ha hr (fun e q => (T_12 e).mp q) rfl inlX12 rfl (Nat.le_of_ble_eq_true rfl) mw_222 hdg kk
end
theorem dX12_keysHeard_93 : decode cX12_keysHeard 93 = .ok (.iload 4, 2) := by decide +kernel
theorem dX12_keysHeard_95 : decode cX12_keysHeard 95 = .ok (.iload_n 3, 1) := by decide +kernel
theorem dX12_keysHeard_96 : decode cX12_keysHeard 96 = .ok (.iastore, 1) := by decide +kernel
section
variable {p : Program} {l : Launch} {e : Env} {R0 : Room} {s : State} {m : MethodId} {args : Array Value} {below : List Frame} {meth : Method} {c : Code} {H H0 : Heap} {locs : List Loc} {cells slots : Nat} {Q : State → Prop} {cc : ByteArray} {nL : Nat} {D : va_G} {cy : Nat → ClassId} {A : Nat → Prop} {L : List Nat} {R : Nat → Nat} {f : Nat → va_E} {pc : Nat} {ls : Array Slot} {rest : List Value} {a : Nat}
theorem st_76 {own : String} (F : CallFix p m c cc nL s args wsL_law own) (h : tS D cy A H0 L R (TT cy L R) f s H locs) {i : Int32} {x : Int32} (ha : a ∈ L) (hr : R a = 76) (hb : 0 ≤ i.toInt ∧ i.toInt < 12) (hv : 0 ≤ x.toInt ∧ x.toInt ≤ 11) (hdg : decode cc pc = .ok (.iastore, 1)) (kk : ∀ (f1 : Nat → va_E) (H1 : Heap) (locs1 : List Loc), fr L R [] [76] f f1 → tS D cy A H0 L R (TT cy L R) f1 s H1 locs1 → W p l e R0 s m args below meth c H1 locs1 cells slots Q (F0 m (pc + 1) ls (rest))) : W p l e R0 s m args below meth c H locs cells slots Q (F0 m pc ls (.int x :: .int i :: .ref a :: rest)) := tu_iast F h ha hr T_76 hb.1 hb.2 hv hdg (fun f1 H1 locs1 h1 h2 h3 h4 => kk f1 H1 locs1 h3 h4)
end
theorem dX12_keysHeard_97 : decode cX12_keysHeard 97 = .ok (.iinc 2 1, 3) := by decide +kernel
theorem dX12_keysHeard_46 : decode cX12_keysHeard 46 = .ok (.ifCond .le 43, 3) := by decide +kernel
theorem dX12_keysHeard_49 : decode cX12_keysHeard 49 = .ok (.aload_n 0, 1) := by decide +kernel
theorem dX12_keysHeard_50 : decode cX12_keysHeard 50 = .ok (.iload_n 1, 1) := by decide +kernel
theorem dX12_keysHeard_51 : decode cX12_keysHeard 51 = .ok (.iload_n 3, 1) := by decide +kernel
theorem dX12_keysHeard_52 : decode cX12_keysHeard 52 = .ok (.aload_n 0, 1) := by decide +kernel
theorem dX12_keysHeard_53 : decode cX12_keysHeard 53 = .ok (.getfield 75, 3) := by decide +kernel
theorem dX12_keysHeard_56 : decode cX12_keysHeard 56 = .ok (.iload 4, 2) := by decide +kernel
theorem dX12_keysHeard_58 : decode cX12_keysHeard 58 = .ok (.iconst 1, 1) := by decide +kernel
theorem dX12_keysHeard_59 : decode cX12_keysHeard 59 = .ok (.isub, 1) := by decide +kernel
theorem dX12_keysHeard_60 : decode cX12_keysHeard 60 = .ok (.iaload, 1) := by decide +kernel
section
variable {p : Program} {l : Launch} {e : Env} {R0 : Room} {s : State} {m : MethodId} {args : Array Value} {below : List Frame} {meth : Method} {c : Code} {H H0 : Heap} {locs : List Loc} {cells slots : Nat} {Q : State → Prop} {cc : ByteArray} {nL : Nat} {D : va_G} {cy : Nat → ClassId} {A : Nat → Prop} {L : List Nat} {R : Nat → Nat} {f : Nat → va_E} {pc : Nat} {ls : Array Slot} {rest : List Value} {a : Nat}
theorem ld_76 {own : String} (F : CallFix p m c cc nL s args wsL_law own) (h : tS D cy A H0 L R (TT cy L R) f s H locs) {i : Int32} (ha : a ∈ L) (hr : R a = 76) (hb : 0 ≤ i.toInt ∧ i.toInt < 12) (hdg : decode cc pc = .ok (.iaload, 1)) (kk : ∀ x : Int32, 0 ≤ x.toInt → x.toInt ≤ 11 → W p l e R0 s m args below meth c H locs cells slots Q (F0 m (pc + 1) ls (.int x :: rest))) : W p l e R0 s m args below meth c H locs cells slots Q (F0 m pc ls (.int i :: .ref a :: rest)) := tu_iald F h ha hr (fun e q => (T_76 e).mp q) hb.1 hb.2 hdg (fun x h1 h2 => kk x h1.1 h1.2)
end
theorem dX12_keysHeard_61 : decode cX12_keysHeard 61 = .ok (.invokevirtual 339, 3) := by decide +kernel
theorem mw_1069 : Cond.methodLink RX12 339 yX12_isAhead ∈ wsL_law := inr_45 _ (List.mem_of_getElem? (i := 13) rfl)
theorem mw_1072 : Cond.code yX12_isAhead cX12_isAhead 8 (some .boolean) ∈ wsL_law := inr_45 _ (List.mem_of_getElem? (i := 16) rfl)
theorem yk_X12_isAhead : xY yX12_isAhead RX12 cX12_isAhead 8 (some .boolean) 3 := ⟨⟨rfl, by decide +kernel, by decide +kernel, by decide +kernel⟩, mw_5, mw_1072⟩
theorem mw_1070 : Cond.instanceMethod yX12_isAhead ∈ wsL_law := inr_45 _ (List.mem_of_getElem? (i := 14) rfl)
theorem mw_1071 : Cond.selects RX12 yX12_isAhead yX12_isAhead ∈ wsL_law := inr_45 _ (List.mem_of_getElem? (i := 15) rfl)
theorem dX12_keysHeard_64 : decode cX12_keysHeard 64 = .ok (.ifCond .eq 25, 3) := by decide +kernel
theorem dX12_keysHeard_67 : decode cX12_keysHeard 67 = .ok (.aload_n 0, 1) := by decide +kernel
theorem dX12_keysHeard_68 : decode cX12_keysHeard 68 = .ok (.getfield 75, 3) := by decide +kernel
theorem dX12_keysHeard_71 : decode cX12_keysHeard 71 = .ok (.iload 4, 2) := by decide +kernel
theorem dX12_keysHeard_73 : decode cX12_keysHeard 73 = .ok (.aload_n 0, 1) := by decide +kernel
theorem dX12_keysHeard_74 : decode cX12_keysHeard 74 = .ok (.getfield 75, 3) := by decide +kernel
theorem dX12_keysHeard_77 : decode cX12_keysHeard 77 = .ok (.iload 4, 2) := by decide +kernel
theorem dX12_keysHeard_79 : decode cX12_keysHeard 79 = .ok (.iconst 1, 1) := by decide +kernel
theorem dX12_keysHeard_80 : decode cX12_keysHeard 80 = .ok (.isub, 1) := by decide +kernel
theorem dX12_keysHeard_81 : decode cX12_keysHeard 81 = .ok (.iaload, 1) := by decide +kernel
theorem dX12_keysHeard_82 : decode cX12_keysHeard 82 = .ok (.iastore, 1) := by decide +kernel
theorem dX12_keysHeard_83 : decode cX12_keysHeard 83 = .ok (.iinc 4 (-1), 3) := by decide +kernel
theorem dX12_keysHeard_86 : decode cX12_keysHeard 86 = .ok (.goto (-42), 3) := by decide +kernel
theorem dX12_keysHeard_38 : decode cX12_keysHeard 38 = .ok (.goto 62, 3) := by decide +kernel
def rm_X12_keysHeard : Room := { frames := 2, cells := 0, slots := 0, locals := 50 }
set_option maxHeartbeats 4000000 in
set_option maxRecDepth 100000 in
theorem s_X12_keysHeard (l : Launch) (D : va_G) (cy : Nat → ClassId) (L : List Nat) (R O : Nat → Nat) (f0 : Nat → va_E) (a0 : Nat) (m_a0 : a0 ∈ L) (r_a0 : R a0 = 12) (x1 : Int32) (b1 : 0 ≤ x1.toInt ∧ x1.toInt ≤ 24060) (pre0 : isB x1.toInt.toNat) : ∀ sz, Met l yX12_keysHeard (Cond.code yX12_keysHeard cX12_keysHeard 5 (some .int) :: wsL_law) rm_X12_keysHeard (va_Pc [.ref a0, .int x1] (tPZ D cy L R (TT cy L R) f0 sz)) (va_Qi (fun (r : Int32) f1 => fr L R [] [76] f0 f1 ∧ 0 ≤ r.toInt ∧ r.toInt ≤ 12) (tB D (tA L sz) L R (TT cy L R)) (tA L sz)) 0 0 (tA L sz) := by
  refine tw_enteri (by decide +kernel) rfl (Nat.le_of_ble_eq_true rfl) ?_
  intro p e s m below meth c A ls args Q F hZ h hl hret
  have hl : lv_has ls 5 [(0, .ref a0), (1, .int x1)] := hl
  have hk : fr L R [] [76] f0 f0 := fr.rf
  have hB := pre0
  refine tw_iconst F dX12_keysHeard_0 ki_0 (fun z1 hz1 => ?_)
  refine lv_istore_n (lv' := [(2, .int z1), (0, .ref a0), (1, .int x1)]) F.1 F.2.1 dX12_keysHeard_1 rfl hl (by decide) rfl (fun ls hl => ?_)
  refine tw_iconst F dX12_keysHeard_2 ki_0 (fun z2 hz2 => ?_)
  refine lv_istore_n (lv' := [(3, .int z2), (2, .int z1), (0, .ref a0), (1, .int x1)]) F.1 F.2.1 dX12_keysHeard_3 rfl hl (by decide) rfl (fun ls hl => ?_)
  have j_4 : ∀ (n4 : Nat) (f3 : Nat → va_E) (H : Heap) (locs : List Loc) (ls : Array Slot) (x2_4 : Int32) (x3_4 : Int32), 0 ≤ x3_4.toInt → x3_4.toInt ≤ 12 → 0 ≤ x2_4.toInt → x2_4.toInt ≤ x3_4.toInt → ((12 - x3_4.toInt)).toNat < n4 → tS D cy A s.heap L R (TT cy L R) f3 s H locs → fr L R [] [76] f0 f3 → lv_has ls 5 [(0, .ref a0), (1, .int x1), (2, .int x2_4), (3, .int x3_4)] → W p l e rm_X12_keysHeard s m args below meth c H locs 0 0 Q (F0 m 4 ls []) := by
    intro n4
    induction n4 with
    | zero =>
      intro f3 H locs ls x2_4 x3_4 b4 b5 b6 b7 b8 h hk hl
      exfalso
      omega
    | succ n4 ih4 =>
      intro f3 H locs ls x2_4 x3_4 b4 b5 b6 b7 b8 h hk hl
      refine lv_iload_n F.1 F.2.1 dX12_keysHeard_4 rfl (lv_at hl 3 rfl) ?_
      refine tw_i2l F dX12_keysHeard_5 (fun z9 hz9 => ?_)
      refine lv_aload_n F.1 F.2.1 dX12_keysHeard_6 rfl (lv_at hl 0 rfl) ?_
      refine g_12_7 F h m_a0 r_a0 dX12_keysHeard_7 (fun o10 m_o10 r_o10 ho10 => ?_)
      refine lv_iload_n F.1 F.2.1 dX12_keysHeard_10 rfl (lv_at hl 1 rfl) ?_
      refine tw_iconst F dX12_keysHeard_11 ki_0 (fun z11 hz11 => ?_)
      refine tu_iadd F dX12_keysHeard_12 (by omega) (fun z12 hz12 => ?_)
      refine ld_61 F h m_o10 r_o10 (by omega) dX12_keysHeard_13 (fun v13 hv13a => ?_)
      have hv13b := clP_1.mp (atb hv13a (ac_c (b := x1.toInt.toNat) 0 hB (by decide) (by omega) rfl))
      refine tw_lcmp F dX12_keysHeard_14 (fun z14 hz14 => ?_)
      refine tw_if_ge (tgt := 106) F dX12_keysHeard_15 (by decide) (fun b15 => ?_) (fun b15 => ?_)
      · refine lv_iload_n F.1 F.2.1 dX12_keysHeard_106 rfl (lv_at hl 2 rfl) ?_
        exact hret f3 _ _ _ _ x2_4 dX12_keysHeard_107 rfl ⟨hk, by omega, by omega⟩ h
      · refine lv_aload_n F.1 F.2.1 dX12_keysHeard_18 rfl (lv_at hl 0 rfl) ?_
        refine lv_aload_n F.1 F.2.1 dX12_keysHeard_19 rfl (lv_at hl 0 rfl) ?_
        refine g_12_7 F h m_a0 r_a0 dX12_keysHeard_20 (fun o16 m_o16 r_o16 ho16 => ?_)
        refine lv_iload_n F.1 F.2.1 dX12_keysHeard_23 rfl (lv_at hl 1 rfl) ?_
        refine tw_iconst F dX12_keysHeard_24 ki_4 (fun z17 hz17 => ?_)
        refine tu_iadd F dX12_keysHeard_25 (by omega) (fun z18 hz18 => ?_)
        refine tw_iconst F dX12_keysHeard_26 ki_2 (fun z19 hz19 => ?_)
        refine lv_iload_n F.1 F.2.1 dX12_keysHeard_27 rfl (lv_at hl 3 rfl) ?_
        refine tu_imull F dX12_keysHeard_28 hz19 (by omega) (fun z20 hz20 => ?_)
        refine tu_iadd F dX12_keysHeard_29 (by omega) (fun z21 hz21 => ?_)
        refine ld_61 F h m_o16 r_o16 (by omega) dX12_keysHeard_30 (fun v22 hv22a => ?_)
        refine tw_Vi (As := [.long v22]) F hZ h yk_X12_placeOf mw_1065 mw_1066 mw_1067 (s_X12_placeOf l D cy L R O f3 a0 m_a0 r_a0 v22) rfl rfl m_a0 r_a0 (fun e q => (T_12 e).mp q) rfl hl.1 rfl (Nat.le_of_ble_eq_true rfl) ⟨Nat.le_of_ble_eq_true rfl, Nat.le_of_ble_eq_true rfl⟩ ⟨Nat.le_of_ble_eq_true rfl, Nat.le_of_ble_eq_true rfl⟩ dX12_keysHeard_31 (fun v24 f23 H locs hp23 h => ?_)
        obtain ⟨rfl, hv24a, hv24b⟩ := hp23
        refine tw_iconst F dX12_keysHeard_34 ki_m1 (fun z25 hz25 => ?_)
        have j_100 : ∀ (f26 : Nat → va_E) (H : Heap) (locs : List Loc) (ls : Array Slot) (x2_100 : Int32), 0 ≤ x2_100.toInt → x2_100.toInt ≤ x3_4.toInt + 1 → tS D cy A s.heap L R (TT cy L R) f26 s H locs → fr L R [] [76] f0 f26 → lv_has ls 5 [(0, .ref a0), (1, .int x1), (2, .int x2_100), (3, .int x3_4)] → W p l e rm_X12_keysHeard s m args below meth c H locs 0 0 Q (F0 m 100 ls []) := by
          intro f26 H locs ls x2_100 b27 b28 h hk hl
          refine tu_iinc F dX12_keysHeard_100 hl (k := 3) rfl (by decide) ki_1 (by omega) (fun z29 ls hz29 hl => ?_)
          have hl : lv_has ls 5 [(3, .int z29), (0, .ref a0), (1, .int x1), (2, .int x2_100)] := hl
          refine lv_goto (tgt := 4) F.1 F.2.1 dX12_keysHeard_103 (by decide) ?_
          exact ih4 f26 _ _ _ x2_100 z29 (by omega) (by omega) (by omega) (by omega) (by omega) h hk (lv_sub hl [1, 2, 3, 0] rfl)
        refine tw_icmp_ne (tgt := 41) F dX12_keysHeard_35 (by decide) (fun b30 => ?_) (fun b30 => ?_)
        · refine lv_iload_n F.1 F.2.1 dX12_keysHeard_41 rfl (lv_at hl 2 rfl) ?_
          refine lv_istore (lv' := [(4, .int x2_4), (0, .ref a0), (1, .int x1), (2, .int x2_4), (3, .int x3_4)]) F.1 F.2.1 dX12_keysHeard_42 hl (by decide) rfl (fun ls hl => ?_)
          have j_44 : ∀ (n44 : Nat) (f31 : Nat → va_E) (H : Heap) (locs : List Loc) (ls : Array Slot) (x4_44 : Int32), 0 ≤ x4_44.toInt → x4_44.toInt ≤ x2_4.toInt → ((x4_44.toInt + 2147483648)).toNat < n44 → tS D cy A s.heap L R (TT cy L R) f31 s H locs → fr L R [] [76] f0 f31 → lv_has ls 5 [(0, .ref a0), (1, .int x1), (2, .int x2_4), (3, .int x3_4), (4, .int x4_44)] → W p l e rm_X12_keysHeard s m args below meth c H locs 0 0 Q (F0 m 44 ls []) := by
            intro n44
            induction n44 with
            | zero =>
              intro f31 H locs ls x4_44 b32 b33 b34 h hk hl
              exfalso
              omega
            | succ n44 ih44 =>
              intro f31 H locs ls x4_44 b32 b33 b34 h hk hl
              refine lv_iload F.1 F.2.1 dX12_keysHeard_44 (lv_at hl 4 rfl) ?_
              have j_89 : ∀ (H : Heap) (locs : List Loc) (ls : Array Slot), 0 ≤ x4_44.toInt → x4_44.toInt ≤ x2_4.toInt → tS D cy A s.heap L R (TT cy L R) f31 s H locs → lv_has ls 5 [(0, .ref a0), (1, .int x1), (2, .int x2_4), (3, .int x3_4), (4, .int x4_44)] → W p l e rm_X12_keysHeard s m args below meth c H locs 0 0 Q (F0 m 89 ls []) := by
                intro H locs ls b35 b36 h hl
                refine lv_aload_n F.1 F.2.1 dX12_keysHeard_89 rfl (lv_at hl 0 rfl) ?_
                refine g_12_75 F h m_a0 r_a0 dX12_keysHeard_90 (fun o37 m_o37 r_o37 ho37 => ?_)
                refine lv_iload F.1 F.2.1 dX12_keysHeard_93 (lv_at hl 4 rfl) ?_
                refine lv_iload_n F.1 F.2.1 dX12_keysHeard_95 rfl (lv_at hl 3 rfl) ?_
                refine st_76 F h m_o37 r_o37 (by omega) (by omega) dX12_keysHeard_96 (fun f38 H locs hf38 h => ?_)
                have hk : fr L R [] [76] f0 f38 := hk.tr hf38 rfl rfl
                refine tu_iinc F dX12_keysHeard_97 hl (k := 2) rfl (by decide) ki_1 (by omega) (fun z39 ls hz39 hl => ?_)
                have hl : lv_has ls 5 [(2, .int z39), (0, .ref a0), (1, .int x1), (3, .int x3_4), (4, .int x4_44)] := hl
                exact j_100 f38 _ _ _ z39 (by omega) (by omega) h hk (lv_sub hl [1, 2, 0, 3] rfl)
              refine tw_if_le (tgt := 89) F dX12_keysHeard_46 (by decide) (fun b40 => ?_) (fun b40 => ?_)
              · exact j_89 _ _ _ (by omega) (by omega) h (lv_sub hl [0, 1, 2, 3, 4] rfl)
              · refine lv_aload_n F.1 F.2.1 dX12_keysHeard_49 rfl (lv_at hl 0 rfl) ?_
                refine lv_iload_n F.1 F.2.1 dX12_keysHeard_50 rfl (lv_at hl 1 rfl) ?_
                refine lv_iload_n F.1 F.2.1 dX12_keysHeard_51 rfl (lv_at hl 3 rfl) ?_
                refine lv_aload_n F.1 F.2.1 dX12_keysHeard_52 rfl (lv_at hl 0 rfl) ?_
                refine g_12_75 F h m_a0 r_a0 dX12_keysHeard_53 (fun o41 m_o41 r_o41 ho41 => ?_)
                refine lv_iload F.1 F.2.1 dX12_keysHeard_56 (lv_at hl 4 rfl) ?_
                refine tw_iconst F dX12_keysHeard_58 ki_1 (fun z42 hz42 => ?_)
                refine tu_isub F dX12_keysHeard_59 (by omega) (fun z43 hz43 => ?_)
                refine ld_76 F h m_o41 r_o41 (by omega) dX12_keysHeard_60 (fun v44 hv44a hv44b => ?_)
                refine tw_Vi (As := [.int x1, .int x3_4, .int v44]) F hZ h yk_X12_isAhead mw_1069 mw_1070 mw_1071 (s_X12_isAhead l D cy L R O f31 a0 m_a0 r_a0 x1 ⟨by omega, by omega⟩ x3_4 ⟨by omega, by omega⟩ v44 ⟨by omega, by omega⟩ hB) rfl rfl m_a0 r_a0 (fun e q => (T_12 e).mp q) rfl hl.1 rfl (Nat.le_of_ble_eq_true rfl) ⟨Nat.le_of_ble_eq_true rfl, Nat.le_of_ble_eq_true rfl⟩ ⟨Nat.le_of_ble_eq_true rfl, Nat.le_of_ble_eq_true rfl⟩ dX12_keysHeard_61 (fun v46 f45 H locs hp45 h => ?_)
                obtain ⟨rfl, hv46a, hv46b⟩ := hp45
                refine tw_if_eq (tgt := 89) F dX12_keysHeard_64 (by decide) (fun b47 => ?_) (fun b47 => ?_)
                · exact j_89 _ _ _ (by omega) (by omega) h (lv_sub hl [0, 1, 2, 3, 4] rfl)
                · refine lv_aload_n F.1 F.2.1 dX12_keysHeard_67 rfl (lv_at hl 0 rfl) ?_
                  refine g_12_75 F h m_a0 r_a0 dX12_keysHeard_68 (fun o48 m_o48 r_o48 ho48 => ?_)
                  refine lv_iload F.1 F.2.1 dX12_keysHeard_71 (lv_at hl 4 rfl) ?_
                  refine lv_aload_n F.1 F.2.1 dX12_keysHeard_73 rfl (lv_at hl 0 rfl) ?_
                  refine g_12_75 F h m_a0 r_a0 dX12_keysHeard_74 (fun o49 m_o49 r_o49 ho49 => ?_)
                  refine lv_iload F.1 F.2.1 dX12_keysHeard_77 (lv_at hl 4 rfl) ?_
                  refine tw_iconst F dX12_keysHeard_79 ki_1 (fun z50 hz50 => ?_)
                  refine tu_isub F dX12_keysHeard_80 (by omega) (fun z51 hz51 => ?_)
                  refine ld_76 F h m_o49 r_o49 (by omega) dX12_keysHeard_81 (fun v52 hv52a hv52b => ?_)
                  refine st_76 F h m_o48 r_o48 (by omega) (by omega) dX12_keysHeard_82 (fun f53 H locs hf53 h => ?_)
                  have hk : fr L R [] [76] f0 f53 := hk.tr hf53 rfl rfl
                  refine tu_iinc F dX12_keysHeard_83 hl (k := 4) rfl (by decide) ki_m1 (by omega) (fun z54 ls hz54 hl => ?_)
                  have hl : lv_has ls 5 [(4, .int z54), (0, .ref a0), (1, .int x1), (2, .int x2_4), (3, .int x3_4)] := hl
                  refine lv_goto (tgt := 44) F.1 F.2.1 dX12_keysHeard_86 (by decide) ?_
                  exact ih44 f53 _ _ _ z54 (by omega) (by omega) (by omega) h hk (lv_sub hl [1, 2, 3, 4, 0] rfl)
          exact j_44 (((x2_4.toInt + 2147483648)).toNat + 1) f3 _ _ _ x2_4 (by omega) (by omega) (by omega) h hk (lv_sub hl [1, 2, 3, 4, 0] rfl)
        · refine lv_goto (tgt := 100) F.1 F.2.1 dX12_keysHeard_38 (by decide) ?_
          exact j_100 f3 _ _ _ x2_4 (by omega) (by omega) h hk (lv_sub hl [0, 1, 2, 3] rfl)
  exact j_4 (((12 - z2.toInt)).toNat + 1) f0 _ _ _ z1 z2 (by omega) (by omega) (by omega) (by omega) (by omega) h hk (lv_sub hl [2, 3, 1, 0] rfl)
theorem dX12_hears_0 : decode cX12_hears 0 = .ok (.aload_n 0, 1) := by decide +kernel
theorem dX12_hears_1 : decode cX12_hears 1 = .ok (.aload_n 0, 1) := by decide +kernel
theorem dX12_hears_2 : decode cX12_hears 2 = .ok (.getfield 7, 3) := by decide +kernel
theorem dX12_hears_5 : decode cX12_hears 5 = .ok (.iload_n 1, 1) := by decide +kernel
theorem dX12_hears_6 : decode cX12_hears 6 = .ok (.laload, 1) := by decide +kernel
theorem dX12_hears_7 : decode cX12_hears 7 = .ok (.l2i, 1) := by decide +kernel
theorem dX12_hears_8 : decode cX12_hears 8 = .ok (.putfield 298, 3) := by decide +kernel
section
variable {p : Program} {l : Launch} {e : Env} {R0 : Room} {s : State} {m : MethodId} {args : Array Value} {below : List Frame} {meth : Method} {c : Code} {H H0 : Heap} {locs : List Loc} {cells slots : Nat} {Q : State → Prop} {cc : ByteArray} {nL : Nat} {D : va_G} {cy : Nat → ClassId} {A : Nat → Prop} {L : List Nat} {R : Nat → Nat} {f : Nat → va_E} {pc : Nat} {ls : Array Slot} {rest : List Value} {a : Nat}
theorem p_12_298 (F : CallFix p m c cc nL s args wsL_law RX12) (h : tS D cy A H0 L R (TT cy L R) f s H locs) {x : Int32} (ha : a ∈ L) (hr : R a = 12) (hv : 0 ≤ x.toInt ∧ x.toInt ≤ 12) (hdg : decode cc pc = .ok (.putfield 298, 3)) (kk : ∀ (f1 : Nat → va_E) (H1 : Heap) (locs1 : List Loc), fi f1 a 28 = x.toInt → fr L R [(12, 28)] [12] f f1 → tS D cy A H0 L R (TT cy L R) f1 s H1 locs1 → W p l e R0 s m args below meth c H1 locs1 cells slots Q (F0 m (pc + 3) ls (rest))) : W p l e R0 s m args below meth c H locs cells slots Q (F0 m pc ls (.int x :: .ref a :: rest)) := tu_puti (k := 28) F h ha hr T_12 rfl hv.1 hv.2 inlX12 tyX12_ok nmX12 rfl (Nat.le_of_ble_eq_true rfl) mw_894 rfl rfl rfl hdg kk
end
theorem dX12_hears_11 : decode cX12_hears 11 = .ok (.iconst 0, 1) := by decide +kernel
theorem dX12_hears_12 : decode cX12_hears 12 = .ok (.istore_n 2, 1) := by decide +kernel
theorem dX12_hears_13 : decode cX12_hears 13 = .ok (.iload_n 2, 1) := by decide +kernel
theorem dX12_hears_14 : decode cX12_hears 14 = .ok (.aload_n 0, 1) := by decide +kernel
theorem dX12_hears_15 : decode cX12_hears 15 = .ok (.getfield 298, 3) := by decide +kernel
theorem dX12_hears_18 : decode cX12_hears 18 = .ok (.if_icmp .ge 25, 3) := by decide +kernel
theorem dX12_hears_43 : decode cX12_hears 43 = .ok (.return_, 1) := by decide +kernel
theorem dX12_hears_21 : decode cX12_hears 21 = .ok (.aload_n 0, 1) := by decide +kernel
theorem dX12_hears_22 : decode cX12_hears 22 = .ok (.getfield 60, 3) := by decide +kernel
theorem dX12_hears_25 : decode cX12_hears 25 = .ok (.iload_n 2, 1) := by decide +kernel
theorem dX12_hears_26 : decode cX12_hears 26 = .ok (.aload_n 0, 1) := by decide +kernel
theorem dX12_hears_27 : decode cX12_hears 27 = .ok (.getfield 7, 3) := by decide +kernel
theorem dX12_hears_30 : decode cX12_hears 30 = .ok (.iload_n 1, 1) := by decide +kernel
theorem dX12_hears_31 : decode cX12_hears 31 = .ok (.iconst 1, 1) := by decide +kernel
theorem dX12_hears_32 : decode cX12_hears 32 = .ok (.iadd, 1) := by decide +kernel
theorem dX12_hears_33 : decode cX12_hears 33 = .ok (.iload_n 2, 1) := by decide +kernel
theorem dX12_hears_34 : decode cX12_hears 34 = .ok (.iadd, 1) := by decide +kernel
theorem dX12_hears_35 : decode cX12_hears 35 = .ok (.laload, 1) := by decide +kernel
theorem dX12_hears_36 : decode cX12_hears 36 = .ok (.lastore, 1) := by decide +kernel
section
variable {p : Program} {l : Launch} {e : Env} {R0 : Room} {s : State} {m : MethodId} {args : Array Value} {below : List Frame} {meth : Method} {c : Code} {H H0 : Heap} {locs : List Loc} {cells slots : Nat} {Q : State → Prop} {cc : ByteArray} {nL : Nat} {D : va_G} {cy : Nat → ClassId} {A : Nat → Prop} {L : List Nat} {R : Nat → Nat} {f : Nat → va_E} {pc : Nat} {ls : Array Slot} {rest : List Value} {a : Nat}
theorem st_73 {own : String} (F : CallFix p m c cc nL s args wsL_law own) (h : tS D cy A H0 L R (TT cy L R) f s H locs) {i : Int32} {x : Int64} (ha : a ∈ L) (hr : R a = 73) (hb : 0 ≤ i.toInt ∧ i.toInt < 12) (hdg : decode cc pc = .ok (.lastore, 1)) (kk : ∀ (f1 : Nat → va_E) (H1 : Heap) (locs1 : List Loc), fr L R [] [73] f f1 → tS D cy A H0 L R (TT cy L R) f1 s H1 locs1 → W p l e R0 s m args below meth c H1 locs1 cells slots Q (F0 m (pc + 1) ls (rest))) : W p l e R0 s m args below meth c H locs cells slots Q (F0 m pc ls (.long x :: .int i :: .ref a :: rest)) := tu_last F h ha hr T_73 hb.1 hb.2 trivial hdg (fun f1 H1 locs1 h1 h2 h3 h4 => kk f1 H1 locs1 h3 h4)
end
theorem dX12_hears_37 : decode cX12_hears 37 = .ok (.iinc 2 1, 3) := by decide +kernel
theorem dX12_hears_40 : decode cX12_hears 40 = .ok (.goto (-27), 3) := by decide +kernel
def rm_X12_hears : Room := { frames := 0, cells := 0, slots := 0, locals := 0 }
set_option maxHeartbeats 4000000 in
set_option maxRecDepth 100000 in
theorem s_X12_hears (l : Launch) (D : va_G) (cy : Nat → ClassId) (L : List Nat) (R O : Nat → Nat) (f0 : Nat → va_E) (a0 : Nat) (m_a0 : a0 ∈ L) (r_a0 : R a0 = 12) (x1 : Int32) (b1 : 0 ≤ x1.toInt ∧ x1.toInt ≤ 25690) (pre0 : acl x1.toInt.toNat = 10) : ∀ sz, Met l yX12_hears (Cond.code yX12_hears cX12_hears 3 none :: wsL_law) rm_X12_hears (va_Pc [.ref a0, .int x1] (tPZ D cy L R (TT cy L R) f0 sz)) (va_Qv (fun f1 => fr L R [(12, 28)] [12, 73] f0 f1) (tB D (tA L sz) L R (TT cy L R)) (tA L sz)) 0 0 (tA L sz) := by
  refine tw_enterv (by decide +kernel) rfl (Nat.le_of_ble_eq_true rfl) ?_
  intro p e s m below meth c A ls args Q F hZ h hl hret
  have hl : lv_has ls 3 [(0, .ref a0), (1, .int x1)] := hl
  have hk : fr L R [(12, 28)] [12, 73] f0 f0 := fr.rf
  have hL := pre0
  refine lv_aload_n F.1 F.2.1 dX12_hears_0 rfl (lv_at hl 0 rfl) ?_
  refine lv_aload_n F.1 F.2.1 dX12_hears_1 rfl (lv_at hl 0 rfl) ?_
  refine g_12_7 F h m_a0 r_a0 dX12_hears_2 (fun o1 m_o1 r_o1 ho1 => ?_)
  refine lv_iload_n F.1 F.2.1 dX12_hears_5 rfl (lv_at hl 1 rfl) ?_
  refine ld_61 F h m_o1 r_o1 (by omega) dX12_hears_6 (fun v2 hv2a => ?_)
  have hv2b := clP_10.mp (atb hv2a (hL))
  refine tw_l2i F dX12_hears_7 (by omega) (by omega) (fun z3 hz3 => ?_)
  refine p_12_298 F h m_a0 r_a0 (by omega) dX12_hears_8 (fun f4 H locs e4p hf4 h => ?_)
  have hk : fr L R [(12, 28)] [12, 73] f0 f4 := hk.tr hf4 rfl rfl
  refine tw_iconst F dX12_hears_11 ki_0 (fun z5 hz5 => ?_)
  refine lv_istore_n (lv' := [(2, .int z5), (0, .ref a0), (1, .int x1)]) F.1 F.2.1 dX12_hears_12 rfl hl (by decide) rfl (fun ls hl => ?_)
  have j_13 : ∀ (n13 : Nat) (f6 : Nat → va_E) (H : Heap) (locs : List Loc) (ls : Array Slot) (x2_13 : Int32), 0 ≤ x2_13.toInt → x2_13.toInt ≤ 12 → ((12 - x2_13.toInt)).toNat < n13 → tS D cy A s.heap L R (TT cy L R) f6 s H locs → fr L R [(12, 28)] [12, 73] f0 f6 → lv_has ls 3 [(0, .ref a0), (1, .int x1), (2, .int x2_13)] → W p l e rm_X12_hears s m args below meth c H locs 0 0 Q (F0 m 13 ls []) := by
    intro n13
    induction n13 with
    | zero =>
      intro f6 H locs ls x2_13 b7 b8 b9 h hk hl
      exfalso
      omega
    | succ n13 ih13 =>
      intro f6 H locs ls x2_13 b7 b8 b9 h hk hl
      refine lv_iload_n F.1 F.2.1 dX12_hears_13 rfl (lv_at hl 2 rfl) ?_
      refine lv_aload_n F.1 F.2.1 dX12_hears_14 rfl (lv_at hl 0 rfl) ?_
      refine g_12_298 F h m_a0 r_a0 dX12_hears_15 (fun v10 hv10 hv10a hv10b => ?_)
      refine tw_icmp_ge (tgt := 43) F dX12_hears_18 (by decide) (fun b11 => ?_) (fun b11 => ?_)
      · exact hret f6 _ _ _ _ dX12_hears_43 hk h
      · refine lv_aload_n F.1 F.2.1 dX12_hears_21 rfl (lv_at hl 0 rfl) ?_
        refine g_12_60 F h m_a0 r_a0 dX12_hears_22 (fun o12 m_o12 r_o12 ho12 => ?_)
        refine lv_iload_n F.1 F.2.1 dX12_hears_25 rfl (lv_at hl 2 rfl) ?_
        refine lv_aload_n F.1 F.2.1 dX12_hears_26 rfl (lv_at hl 0 rfl) ?_
        refine g_12_7 F h m_a0 r_a0 dX12_hears_27 (fun o13 m_o13 r_o13 ho13 => ?_)
        refine lv_iload_n F.1 F.2.1 dX12_hears_30 rfl (lv_at hl 1 rfl) ?_
        refine tw_iconst F dX12_hears_31 ki_1 (fun z14 hz14 => ?_)
        refine tu_iadd F dX12_hears_32 (by omega) (fun z15 hz15 => ?_)
        refine lv_iload_n F.1 F.2.1 dX12_hears_33 rfl (lv_at hl 2 rfl) ?_
        refine tu_iadd F dX12_hears_34 (by omega) (fun z16 hz16 => ?_)
        refine ld_61 F h m_o13 r_o13 (by omega) dX12_hears_35 (fun v17 hv17a => ?_)
        refine st_73 F h m_o12 r_o12 (by omega) dX12_hears_36 (fun f18 H locs hf18 h => ?_)
        have hk : fr L R [(12, 28)] [12, 73] f0 f18 := hk.tr hf18 rfl rfl
        refine tu_iinc F dX12_hears_37 hl (k := 2) rfl (by decide) ki_1 (by omega) (fun z19 ls hz19 hl => ?_)
        have hl : lv_has ls 3 [(2, .int z19), (0, .ref a0), (1, .int x1)] := hl
        refine lv_goto (tgt := 13) F.1 F.2.1 dX12_hears_40 (by decide) ?_
        exact ih13 f18 _ _ _ z19 (by omega) (by omega) (by omega) h hk (lv_sub hl [1, 2, 0] rfl)
  exact j_13 (((12 - z5.toInt)).toNat + 1) f4 _ _ _ z5 (by omega) (by omega) (by omega) h hk (lv_sub hl [1, 2, 0] rfl)
theorem dX12_isSaid_0 : decode cX12_isSaid 0 = .ok (.aload_n 0, 1) := by decide +kernel
theorem dX12_isSaid_1 : decode cX12_isSaid 1 = .ok (.getfield 324, 3) := by decide +kernel
theorem dX12_isSaid_4 : decode cX12_isSaid 4 = .ok (.i2l, 1) := by decide +kernel
theorem dX12_isSaid_5 : decode cX12_isSaid 5 = .ok (.aload_n 0, 1) := by decide +kernel
theorem dX12_isSaid_6 : decode cX12_isSaid 6 = .ok (.getfield 7, 3) := by decide +kernel
theorem dX12_isSaid_9 : decode cX12_isSaid 9 = .ok (.iload_n 1, 1) := by decide +kernel
theorem dX12_isSaid_10 : decode cX12_isSaid 10 = .ok (.laload, 1) := by decide +kernel
theorem dX12_isSaid_11 : decode cX12_isSaid 11 = .ok (.lcmp, 1) := by decide +kernel
theorem dX12_isSaid_20 : decode cX12_isSaid 20 = .ok (.istore_n 2, 1) := by decide +kernel
theorem dX12_isSaid_21 : decode cX12_isSaid 21 = .ok (.iconst 0, 1) := by decide +kernel
theorem dX12_isSaid_22 : decode cX12_isSaid 22 = .ok (.istore_n 3, 1) := by decide +kernel
theorem dX12_isSaid_23 : decode cX12_isSaid 23 = .ok (.iload_n 3, 1) := by decide +kernel
theorem dX12_isSaid_24 : decode cX12_isSaid 24 = .ok (.aload_n 0, 1) := by decide +kernel
theorem dX12_isSaid_25 : decode cX12_isSaid 25 = .ok (.getfield 324, 3) := by decide +kernel
theorem dX12_isSaid_28 : decode cX12_isSaid 28 = .ok (.if_icmp .ge 39, 3) := by decide +kernel
theorem dX12_isSaid_67 : decode cX12_isSaid 67 = .ok (.iload_n 2, 1) := by decide +kernel
theorem dX12_isSaid_68 : decode cX12_isSaid 68 = .ok (.ireturn, 1) := by decide +kernel
theorem dX12_isSaid_31 : decode cX12_isSaid 31 = .ok (.iload_n 2, 1) := by decide +kernel
theorem dX12_isSaid_32 : decode cX12_isSaid 32 = .ok (.ifCond .eq 35, 3) := by decide +kernel
theorem dX12_isSaid_35 : decode cX12_isSaid 35 = .ok (.aload_n 0, 1) := by decide +kernel
theorem dX12_isSaid_36 : decode cX12_isSaid 36 = .ok (.getfield 63, 3) := by decide +kernel
theorem dX12_isSaid_39 : decode cX12_isSaid 39 = .ok (.iload_n 3, 1) := by decide +kernel
theorem dX12_isSaid_40 : decode cX12_isSaid 40 = .ok (.laload, 1) := by decide +kernel
section
variable {p : Program} {l : Launch} {e : Env} {R0 : Room} {s : State} {m : MethodId} {args : Array Value} {below : List Frame} {meth : Method} {c : Code} {H H0 : Heap} {locs : List Loc} {cells slots : Nat} {Q : State → Prop} {cc : ByteArray} {nL : Nat} {D : va_G} {cy : Nat → ClassId} {A : Nat → Prop} {L : List Nat} {R : Nat → Nat} {f : Nat → va_E} {pc : Nat} {ls : Array Slot} {rest : List Value} {a : Nat}
theorem ld_74 {own : String} (F : CallFix p m c cc nL s args wsL_law own) (h : tS D cy A H0 L R (TT cy L R) f s H locs) {i : Int32} (ha : a ∈ L) (hr : R a = 74) (hb : 0 ≤ i.toInt ∧ i.toInt < 12) (hdg : decode cc pc = .ok (.laload, 1)) (kk : ∀ x : Int64, W p l e R0 s m args below meth c H locs cells slots Q (F0 m (pc + 1) ls (.long x :: rest))) : W p l e R0 s m args below meth c H locs cells slots Q (F0 m pc ls (.int i :: .ref a :: rest)) := tu_lald F h ha hr (fun e q => (T_74 e).mp q) hb.1 hb.2 hdg (fun x h1 h2 => kk x)
end
theorem dX12_isSaid_41 : decode cX12_isSaid 41 = .ok (.aload_n 0, 1) := by decide +kernel
theorem dX12_isSaid_42 : decode cX12_isSaid 42 = .ok (.getfield 7, 3) := by decide +kernel
theorem dX12_isSaid_45 : decode cX12_isSaid 45 = .ok (.iload_n 1, 1) := by decide +kernel
theorem dX12_isSaid_46 : decode cX12_isSaid 46 = .ok (.iconst 1, 1) := by decide +kernel
theorem dX12_isSaid_47 : decode cX12_isSaid 47 = .ok (.iadd, 1) := by decide +kernel
theorem dX12_isSaid_48 : decode cX12_isSaid 48 = .ok (.iload_n 3, 1) := by decide +kernel
theorem dX12_isSaid_49 : decode cX12_isSaid 49 = .ok (.iadd, 1) := by decide +kernel
theorem dX12_isSaid_50 : decode cX12_isSaid 50 = .ok (.laload, 1) := by decide +kernel
theorem dX12_isSaid_51 : decode cX12_isSaid 51 = .ok (.lcmp, 1) := by decide +kernel
theorem dX12_isSaid_60 : decode cX12_isSaid 60 = .ok (.istore_n 2, 1) := by decide +kernel
theorem dX12_isSaid_61 : decode cX12_isSaid 61 = .ok (.iinc 3 1, 3) := by decide +kernel
theorem dX12_isSaid_64 : decode cX12_isSaid 64 = .ok (.goto (-41), 3) := by decide +kernel
theorem dX12_isSaid_52 : decode cX12_isSaid 52 = .ok (.ifCond .ne 7, 3) := by decide +kernel
theorem dX12_isSaid_59 : decode cX12_isSaid 59 = .ok (.iconst 0, 1) := by decide +kernel
theorem dX12_isSaid_55 : decode cX12_isSaid 55 = .ok (.iconst 1, 1) := by decide +kernel
theorem dX12_isSaid_56 : decode cX12_isSaid 56 = .ok (.goto 4, 3) := by decide +kernel
theorem dX12_isSaid_12 : decode cX12_isSaid 12 = .ok (.ifCond .ne 7, 3) := by decide +kernel
theorem dX12_isSaid_19 : decode cX12_isSaid 19 = .ok (.iconst 0, 1) := by decide +kernel
theorem dX12_isSaid_15 : decode cX12_isSaid 15 = .ok (.iconst 1, 1) := by decide +kernel
theorem dX12_isSaid_16 : decode cX12_isSaid 16 = .ok (.goto 4, 3) := by decide +kernel
def rm_X12_isSaid : Room := { frames := 0, cells := 0, slots := 0, locals := 0 }
set_option maxHeartbeats 4000000 in
set_option maxRecDepth 100000 in
theorem s_X12_isSaid (l : Launch) (D : va_G) (cy : Nat → ClassId) (L : List Nat) (R O : Nat → Nat) (f0 : Nat → va_E) (a0 : Nat) (m_a0 : a0 ∈ L) (r_a0 : R a0 = 12) (x1 : Int32) (b1 : 0 ≤ x1.toInt ∧ x1.toInt ≤ 25690) (pre0 : acl x1.toInt.toNat = 10) : ∀ sz, Met l yX12_isSaid (Cond.code yX12_isSaid cX12_isSaid 4 (some .boolean) :: wsL_law) rm_X12_isSaid (va_Pc [.ref a0, .int x1] (tPZ D cy L R (TT cy L R) f0 sz)) (va_Qi (fun (r : Int32) f1 => f0 = f1 ∧ 0 ≤ r.toInt ∧ r.toInt ≤ 1) (tB D (tA L sz) L R (TT cy L R)) (tA L sz)) 0 0 (tA L sz) := by
  refine tw_enteri (by decide +kernel) rfl (Nat.le_of_ble_eq_true rfl) ?_
  intro p e s m below meth c A ls args Q F hZ h hl hret
  have hl : lv_has ls 4 [(0, .ref a0), (1, .int x1)] := hl
  have hL := pre0
  refine lv_aload_n F.1 F.2.1 dX12_isSaid_0 rfl (lv_at hl 0 rfl) ?_
  refine g_12_324 F h m_a0 r_a0 dX12_isSaid_1 (fun v1 hv1 hv1a hv1b => ?_)
  refine tw_i2l F dX12_isSaid_4 (fun z2 hz2 => ?_)
  refine lv_aload_n F.1 F.2.1 dX12_isSaid_5 rfl (lv_at hl 0 rfl) ?_
  refine g_12_7 F h m_a0 r_a0 dX12_isSaid_6 (fun o3 m_o3 r_o3 ho3 => ?_)
  refine lv_iload_n F.1 F.2.1 dX12_isSaid_9 rfl (lv_at hl 1 rfl) ?_
  refine ld_61 F h m_o3 r_o3 (by omega) dX12_isSaid_10 (fun v4 hv4a => ?_)
  have hv4b := clP_10.mp (atb hv4a (hL))
  refine tw_lcmp F dX12_isSaid_11 (fun z5 hz5 => ?_)
  have j_20 : ∀ (ls : Array Slot) (y0_20 : Int32), 0 ≤ y0_20.toInt → y0_20.toInt ≤ 1 → lv_has ls 4 [(0, .ref a0), (1, .int x1)] → W p l e rm_X12_isSaid s m args below meth c s.heap [] 0 0 Q (F0 m 20 ls [.int y0_20]) := by
    intro ls y0_20 b6 b7 hl
    refine lv_istore_n (lv' := [(2, .int y0_20), (0, .ref a0), (1, .int x1)]) F.1 F.2.1 dX12_isSaid_20 rfl hl (by decide) rfl (fun ls hl => ?_)
    refine tw_iconst F dX12_isSaid_21 ki_0 (fun z8 hz8 => ?_)
    refine lv_istore_n (lv' := [(3, .int z8), (2, .int y0_20), (0, .ref a0), (1, .int x1)]) F.1 F.2.1 dX12_isSaid_22 rfl hl (by decide) rfl (fun ls hl => ?_)
    have j_23 : ∀ (n23 : Nat) (ls : Array Slot) (x2_23 : Int32) (x3_23 : Int32), 0 ≤ x2_23.toInt → x2_23.toInt ≤ 1 → 0 ≤ x3_23.toInt → x3_23.toInt ≤ 12 → ((12 - x3_23.toInt)).toNat < n23 → lv_has ls 4 [(0, .ref a0), (1, .int x1), (2, .int x2_23), (3, .int x3_23)] → W p l e rm_X12_isSaid s m args below meth c s.heap [] 0 0 Q (F0 m 23 ls []) := by
      intro n23
      induction n23 with
      | zero =>
        intro ls x2_23 x3_23 b9 b10 b11 b12 b13 hl
        exfalso
        omega
      | succ n23 ih23 =>
        intro ls x2_23 x3_23 b9 b10 b11 b12 b13 hl
        refine lv_iload_n F.1 F.2.1 dX12_isSaid_23 rfl (lv_at hl 3 rfl) ?_
        refine lv_aload_n F.1 F.2.1 dX12_isSaid_24 rfl (lv_at hl 0 rfl) ?_
        refine g_12_324 F h m_a0 r_a0 dX12_isSaid_25 (fun v14 hv14 hv14a hv14b => ?_)
        refine tw_icmp_ge (tgt := 67) F dX12_isSaid_28 (by decide) (fun b15 => ?_) (fun b15 => ?_)
        · refine lv_iload_n F.1 F.2.1 dX12_isSaid_67 rfl (lv_at hl 2 rfl) ?_
          exact hret f0 _ _ _ _ x2_23 dX12_isSaid_68 (tw_nb (by omega)) ⟨rfl, by omega, by omega⟩ h
        · refine lv_iload_n F.1 F.2.1 dX12_isSaid_31 rfl (lv_at hl 2 rfl) ?_
          refine tw_if_eq (tgt := 67) F dX12_isSaid_32 (by decide) (fun b16 => ?_) (fun b16 => ?_)
          · refine lv_iload_n F.1 F.2.1 dX12_isSaid_67 rfl (lv_at hl 2 rfl) ?_
            exact hret f0 _ _ _ _ x2_23 dX12_isSaid_68 (tw_nb (by omega)) ⟨rfl, by omega, by omega⟩ h
          · refine lv_aload_n F.1 F.2.1 dX12_isSaid_35 rfl (lv_at hl 0 rfl) ?_
            refine g_12_63 F h m_a0 r_a0 dX12_isSaid_36 (fun o17 m_o17 r_o17 ho17 => ?_)
            refine lv_iload_n F.1 F.2.1 dX12_isSaid_39 rfl (lv_at hl 3 rfl) ?_
            refine ld_74 F h m_o17 r_o17 (by omega) dX12_isSaid_40 (fun v18 => ?_)
            refine lv_aload_n F.1 F.2.1 dX12_isSaid_41 rfl (lv_at hl 0 rfl) ?_
            refine g_12_7 F h m_a0 r_a0 dX12_isSaid_42 (fun o19 m_o19 r_o19 ho19 => ?_)
            refine lv_iload_n F.1 F.2.1 dX12_isSaid_45 rfl (lv_at hl 1 rfl) ?_
            refine tw_iconst F dX12_isSaid_46 ki_1 (fun z20 hz20 => ?_)
            refine tu_iadd F dX12_isSaid_47 (by omega) (fun z21 hz21 => ?_)
            refine lv_iload_n F.1 F.2.1 dX12_isSaid_48 rfl (lv_at hl 3 rfl) ?_
            refine tu_iadd F dX12_isSaid_49 (by omega) (fun z22 hz22 => ?_)
            refine ld_61 F h m_o19 r_o19 (by omega) dX12_isSaid_50 (fun v23 hv23a => ?_)
            refine tw_lcmp F dX12_isSaid_51 (fun z24 hz24 => ?_)
            have j_60 : ∀ (ls : Array Slot) (y0_60 : Int32), 0 ≤ y0_60.toInt → y0_60.toInt ≤ 1 → lv_has ls 4 [(0, .ref a0), (1, .int x1), (3, .int x3_23)] → W p l e rm_X12_isSaid s m args below meth c s.heap [] 0 0 Q (F0 m 60 ls [.int y0_60]) := by
              intro ls y0_60 b25 b26 hl
              refine lv_istore_n (lv' := [(2, .int y0_60), (0, .ref a0), (1, .int x1), (3, .int x3_23)]) F.1 F.2.1 dX12_isSaid_60 rfl hl (by decide) rfl (fun ls hl => ?_)
              refine tu_iinc F dX12_isSaid_61 hl (k := 3) rfl (by decide) ki_1 (by omega) (fun z27 ls hz27 hl => ?_)
              have hl : lv_has ls 4 [(3, .int z27), (2, .int y0_60), (0, .ref a0), (1, .int x1)] := hl
              refine lv_goto (tgt := 23) F.1 F.2.1 dX12_isSaid_64 (by decide) ?_
              exact ih23 _ y0_60 z27 (by omega) (by omega) (by omega) (by omega) (by omega) (lv_sub hl [2, 3, 1, 0] rfl)
            refine tw_if_ne (tgt := 59) F dX12_isSaid_52 (by decide) (fun b28 => ?_) (fun b28 => ?_)
            · refine tw_iconst F dX12_isSaid_59 ki_0 (fun z29 hz29 => ?_)
              exact j_60 _ z29 (by omega) (by omega) (lv_sub hl [0, 1, 3] rfl)
            · refine tw_iconst F dX12_isSaid_55 ki_1 (fun z30 hz30 => ?_)
              refine lv_goto (tgt := 60) F.1 F.2.1 dX12_isSaid_56 (by decide) ?_
              exact j_60 _ z30 (by omega) (by omega) (lv_sub hl [0, 1, 3] rfl)
    exact j_23 (((12 - z8.toInt)).toNat + 1) _ y0_20 z8 (by omega) (by omega) (by omega) (by omega) (by omega) (lv_sub hl [2, 3, 1, 0] rfl)
  refine tw_if_ne (tgt := 19) F dX12_isSaid_12 (by decide) (fun b31 => ?_) (fun b31 => ?_)
  · refine tw_iconst F dX12_isSaid_19 ki_0 (fun z32 hz32 => ?_)
    exact j_20 _ z32 (by omega) (by omega) (lv_sub hl [0, 1] rfl)
  · refine tw_iconst F dX12_isSaid_15 ki_1 (fun z33 hz33 => ?_)
    refine lv_goto (tgt := 20) F.1 F.2.1 dX12_isSaid_16 (by decide) ?_
    exact j_20 _ z33 (by omega) (by omega) (lv_sub hl [0, 1] rfl)
theorem dX12_isLine_0 : decode cX12_isLine 0 = .ok (.lload_n 1, 1) := by decide +kernel
theorem dX12_isLine_1 : decode cX12_isLine 1 = .ok (.lconst 0, 1) := by decide +kernel
theorem dX12_isLine_2 : decode cX12_isLine 2 = .ok (.lcmp, 1) := by decide +kernel
theorem dX12_isLine_3 : decode cX12_isLine 3 = .ok (.ifCond .lt 20, 3) := by decide +kernel
theorem dX12_isLine_23 : decode cX12_isLine 23 = .ok (.iconst 0, 1) := by decide +kernel
theorem dX12_isLine_24 : decode cX12_isLine 24 = .ok (.ireturn, 1) := by decide +kernel
theorem dX12_isLine_6 : decode cX12_isLine 6 = .ok (.lload_n 1, 1) := by decide +kernel
theorem dX12_isLine_7 : decode cX12_isLine 7 = .ok (.aload_n 0, 1) := by decide +kernel
theorem dX12_isLine_8 : decode cX12_isLine 8 = .ok (.getfield 7, 3) := by decide +kernel
theorem dX12_isLine_11 : decode cX12_isLine 11 = .ok (.sipush 4950, 3) := by decide +kernel
theorem ks_4950 : (Int16.ofInt 4950).toInt32.toInt = 4950 := by decide
theorem dX12_isLine_14 : decode cX12_isLine 14 = .ok (.laload, 1) := by decide +kernel
theorem dX12_isLine_15 : decode cX12_isLine 15 = .ok (.lcmp, 1) := by decide +kernel
theorem dX12_isLine_16 : decode cX12_isLine 16 = .ok (.ifCond .ge 7, 3) := by decide +kernel
theorem dX12_isLine_19 : decode cX12_isLine 19 = .ok (.iconst 1, 1) := by decide +kernel
theorem dX12_isLine_20 : decode cX12_isLine 20 = .ok (.goto 4, 3) := by decide +kernel
def rm_X12_isLine : Room := { frames := 0, cells := 0, slots := 0, locals := 0 }
set_option maxHeartbeats 4000000 in
set_option maxRecDepth 100000 in
theorem s_X12_isLine (l : Launch) (D : va_G) (cy : Nat → ClassId) (L : List Nat) (R O : Nat → Nat) (f0 : Nat → va_E) (a0 : Nat) (m_a0 : a0 ∈ L) (r_a0 : R a0 = 12) (x1 : Int64) : ∀ sz, Met l yX12_isLine (Cond.code yX12_isLine cX12_isLine 3 (some .boolean) :: wsL_law) rm_X12_isLine (va_Pc [.ref a0, .long x1] (tPZ D cy L R (TT cy L R) f0 sz)) (va_Qi (fun (r : Int32) f1 => f0 = f1 ∧ 0 ≤ r.toInt ∧ r.toInt ≤ 1 ∧ ((r.toInt = 1 ∧ 0 ≤ x1.toInt ∧ x1.toInt ≤ 15) ∨ r.toInt = 0)) (tB D (tA L sz) L R (TT cy L R)) (tA L sz)) 0 0 (tA L sz) := by
  refine tw_enteri (by decide +kernel) rfl (Nat.le_of_ble_eq_true rfl) ?_
  intro p e s m below meth c A ls args Q F hZ h hl hret
  have hl : lv_has ls 3 [(0, .ref a0), (1, .long x1)] := hl
  refine lv_lload_n F.1 F.2.1 dX12_isLine_0 rfl (lv_at hl 1 rfl) ?_
  refine tu_lconst F dX12_isLine_1 (by decide) (fun z1 (hz1 : z1.toInt = 0) => ?_)
  refine tw_lcmp F dX12_isLine_2 (fun z2 hz2 => ?_)
  refine tw_if_lt (tgt := 23) F dX12_isLine_3 (by decide) (fun b3 => ?_) (fun b3 => ?_)
  · refine tw_iconst F dX12_isLine_23 ki_0 (fun z4 hz4 => ?_)
    exact hret f0 _ _ _ _ z4 dX12_isLine_24 (tw_nb (by omega)) ⟨rfl, by omega, by omega, by omega⟩ h
  · refine lv_lload_n F.1 F.2.1 dX12_isLine_6 rfl (lv_at hl 1 rfl) ?_
    refine lv_aload_n F.1 F.2.1 dX12_isLine_7 rfl (lv_at hl 0 rfl) ?_
    refine g_12_7 F h m_a0 r_a0 dX12_isLine_8 (fun o5 m_o5 r_o5 ho5 => ?_)
    refine tw_sipush F dX12_isLine_11 ks_4950 (fun z6 hz6 => ?_)
    refine ld_61 F h m_o5 r_o5 (by omega) dX12_isLine_14 (fun v7 hv7a => ?_)
    have hv7b := clP_11.mp (atb hv7a (ac_s1 (by omega)))
    refine tw_lcmp F dX12_isLine_15 (fun z8 hz8 => ?_)
    refine tw_if_ge (tgt := 23) F dX12_isLine_16 (by decide) (fun b9 => ?_) (fun b9 => ?_)
    · refine tw_iconst F dX12_isLine_23 ki_0 (fun z10 hz10 => ?_)
      exact hret f0 _ _ _ _ z10 dX12_isLine_24 (tw_nb (by omega)) ⟨rfl, by omega, by omega, by omega⟩ h
    · refine tw_iconst F dX12_isLine_19 ki_1 (fun z11 hz11 => ?_)
      refine lv_goto (tgt := 24) F.1 F.2.1 dX12_isLine_20 (by decide) ?_
      exact hret f0 _ _ _ _ z11 dX12_isLine_24 (tw_nb (by omega)) ⟨rfl, by omega, by omega, by omega⟩ h
theorem dX12_wrongLines_0 : decode cX12_wrongLines 0 = .ok (.iload_n 1, 1) := by decide +kernel
theorem dX12_wrongLines_1 : decode cX12_wrongLines 1 = .ok (.ifCond .eq 21, 3) := by decide +kernel
theorem dX12_wrongLines_22 : decode cX12_wrongLines 22 = .ok (.iconst 1, 1) := by decide +kernel
theorem dX12_wrongLines_23 : decode cX12_wrongLines 23 = .ok (.ireturn, 1) := by decide +kernel
theorem dX12_wrongLines_4 : decode cX12_wrongLines 4 = .ok (.iload_n 2, 1) := by decide +kernel
theorem dX12_wrongLines_5 : decode cX12_wrongLines 5 = .ok (.invokestatic 127, 3) := by decide +kernel
theorem dX12_wrongLines_8 : decode cX12_wrongLines 8 = .ok (.ifCond .eq 14, 3) := by decide +kernel
theorem dX12_wrongLines_11 : decode cX12_wrongLines 11 = .ok (.iload_n 3, 1) := by decide +kernel
theorem dX12_wrongLines_12 : decode cX12_wrongLines 12 = .ok (.iconst 1, 1) := by decide +kernel
theorem dX12_wrongLines_13 : decode cX12_wrongLines 13 = .ok (.if_icmp .lt 9, 3) := by decide +kernel
theorem dX12_wrongLines_16 : decode cX12_wrongLines 16 = .ok (.iload_n 3, 1) := by decide +kernel
theorem dX12_wrongLines_17 : decode cX12_wrongLines 17 = .ok (.iload 4, 2) := by decide +kernel
theorem dX12_wrongLines_19 : decode cX12_wrongLines 19 = .ok (.if_icmp .le 5, 3) := by decide +kernel
theorem dX12_wrongLines_24 : decode cX12_wrongLines 24 = .ok (.aload_n 0, 1) := by decide +kernel
theorem dX12_wrongLines_25 : decode cX12_wrongLines 25 = .ok (.getfield 21, 3) := by decide +kernel
theorem dX12_wrongLines_28 : decode cX12_wrongLines 28 = .ok (.iload_n 2, 1) := by decide +kernel
theorem dX12_wrongLines_29 : decode cX12_wrongLines 29 = .ok (.iaload, 1) := by decide +kernel
theorem dX12_wrongLines_30 : decode cX12_wrongLines 30 = .ok (.iconst (-1), 1) := by decide +kernel
theorem dX12_wrongLines_31 : decode cX12_wrongLines 31 = .ok (.if_icmp .ne 5, 3) := by decide +kernel
theorem dX12_wrongLines_36 : decode cX12_wrongLines 36 = .ok (.aload_n 0, 1) := by decide +kernel
theorem dX12_wrongLines_37 : decode cX12_wrongLines 37 = .ok (.getfield 21, 3) := by decide +kernel
theorem dX12_wrongLines_40 : decode cX12_wrongLines 40 = .ok (.iload_n 2, 1) := by decide +kernel
theorem dX12_wrongLines_41 : decode cX12_wrongLines 41 = .ok (.iaload, 1) := by decide +kernel
theorem dX12_wrongLines_42 : decode cX12_wrongLines 42 = .ok (.iload_n 3, 1) := by decide +kernel
theorem dX12_wrongLines_43 : decode cX12_wrongLines 43 = .ok (.if_icmp .ge 5, 3) := by decide +kernel
theorem dX12_wrongLines_48 : decode cX12_wrongLines 48 = .ok (.iconst 1, 1) := by decide +kernel
theorem dX12_wrongLines_49 : decode cX12_wrongLines 49 = .ok (.istore 5, 2) := by decide +kernel
theorem dX12_wrongLines_51 : decode cX12_wrongLines 51 = .ok (.iconst 0, 1) := by decide +kernel
theorem dX12_wrongLines_52 : decode cX12_wrongLines 52 = .ok (.istore 6, 2) := by decide +kernel
theorem dX12_wrongLines_54 : decode cX12_wrongLines 54 = .ok (.iload 6, 2) := by decide +kernel
theorem dX12_wrongLines_56 : decode cX12_wrongLines 56 = .ok (.iload_n 3, 1) := by decide +kernel
theorem dX12_wrongLines_57 : decode cX12_wrongLines 57 = .ok (.if_icmp .ge 40, 3) := by decide +kernel
theorem dX12_wrongLines_97 : decode cX12_wrongLines 97 = .ok (.iload 5, 2) := by decide +kernel
theorem dX12_wrongLines_99 : decode cX12_wrongLines 99 = .ok (.ifCond .eq 7, 3) := by decide +kernel
theorem dX12_wrongLines_106 : decode cX12_wrongLines 106 = .ok (.iconst 1, 1) := by decide +kernel
theorem dX12_wrongLines_107 : decode cX12_wrongLines 107 = .ok (.ireturn, 1) := by decide +kernel
theorem dX12_wrongLines_102 : decode cX12_wrongLines 102 = .ok (.iconst 0, 1) := by decide +kernel
theorem dX12_wrongLines_103 : decode cX12_wrongLines 103 = .ok (.goto 4, 3) := by decide +kernel
theorem dX12_wrongLines_60 : decode cX12_wrongLines 60 = .ok (.iload 5, 2) := by decide +kernel
theorem dX12_wrongLines_89 : decode cX12_wrongLines 89 = .ok (.istore 5, 2) := by decide +kernel
theorem dX12_wrongLines_91 : decode cX12_wrongLines 91 = .ok (.iinc 6 1, 3) := by decide +kernel
theorem dX12_wrongLines_94 : decode cX12_wrongLines 94 = .ok (.goto (-40), 3) := by decide +kernel
theorem dX12_wrongLines_88 : decode cX12_wrongLines 88 = .ok (.iconst 0, 1) := by decide +kernel
theorem dX12_wrongLines_62 : decode cX12_wrongLines 62 = .ok (.ifCond .eq 26, 3) := by decide +kernel
theorem dX12_wrongLines_65 : decode cX12_wrongLines 65 = .ok (.aload_n 0, 1) := by decide +kernel
theorem dX12_wrongLines_66 : decode cX12_wrongLines 66 = .ok (.aload_n 0, 1) := by decide +kernel
theorem dX12_wrongLines_67 : decode cX12_wrongLines 67 = .ok (.getfield 24, 3) := by decide +kernel
theorem dX12_wrongLines_70 : decode cX12_wrongLines 70 = .ok (.bipush 60, 2) := by decide +kernel
theorem dX12_wrongLines_72 : decode cX12_wrongLines 72 = .ok (.iload_n 2, 1) := by decide +kernel
theorem dX12_wrongLines_73 : decode cX12_wrongLines 73 = .ok (.imul, 1) := by decide +kernel
theorem dX12_wrongLines_74 : decode cX12_wrongLines 74 = .ok (.iload 6, 2) := by decide +kernel
theorem dX12_wrongLines_76 : decode cX12_wrongLines 76 = .ok (.iadd, 1) := by decide +kernel
theorem dX12_wrongLines_77 : decode cX12_wrongLines 77 = .ok (.laload, 1) := by decide +kernel
section
variable {p : Program} {l : Launch} {e : Env} {R0 : Room} {s : State} {m : MethodId} {args : Array Value} {below : List Frame} {meth : Method} {c : Code} {H H0 : Heap} {locs : List Loc} {cells slots : Nat} {Q : State → Prop} {cc : ByteArray} {nL : Nat} {D : va_G} {cy : Nat → ClassId} {A : Nat → Prop} {L : List Nat} {R : Nat → Nat} {f : Nat → va_E} {pc : Nat} {ls : Array Slot} {rest : List Value} {a : Nat}
theorem le_64 {own : String} (F : CallFix p m c cc nL s args wsL_law own) (h : tS D cy A H0 L R (TT cy L R) f s H locs) {i : Int32} (ha : a ∈ L) (hr : R a = 64) (hb : 0 ≤ i.toInt ∧ i.toInt < 240) (hdg : decode cc pc = .ok (.laload, 1)) (kk : ∀ x : Int64, x.toInt = elj f a i.toInt.toNat → W p l e R0 s m args below meth c H locs cells slots Q (F0 m (pc + 1) ls (.long x :: rest))) : W p l e R0 s m args below meth c H locs cells slots Q (F0 m pc ls (.int i :: .ref a :: rest)) := tu_lald F h ha hr (fun e q => (T_64 e).mp q) hb.1 hb.2 hdg (fun x h1 h2 => kk x h2)
end
theorem dX12_wrongLines_78 : decode cX12_wrongLines 78 = .ok (.invokevirtual 212, 3) := by decide +kernel
theorem mw_797 : Cond.methodLink RX12 212 yX12_isLine ∈ wsL_law := inr_34 _ (List.mem_of_getElem? (i := 5) rfl)
theorem mw_800 : Cond.code yX12_isLine cX12_isLine 3 (some .boolean) ∈ wsL_law := inr_34 _ (List.mem_of_getElem? (i := 8) rfl)
theorem yk_X12_isLine : xY yX12_isLine RX12 cX12_isLine 3 (some .boolean) 1 := ⟨⟨rfl, by decide +kernel, by decide +kernel, by decide +kernel⟩, mw_5, mw_800⟩
theorem mw_798 : Cond.instanceMethod yX12_isLine ∈ wsL_law := inr_34 _ (List.mem_of_getElem? (i := 6) rfl)
theorem mw_799 : Cond.selects RX12 yX12_isLine yX12_isLine ∈ wsL_law := inr_34 _ (List.mem_of_getElem? (i := 7) rfl)
theorem dX12_wrongLines_81 : decode cX12_wrongLines 81 = .ok (.ifCond .eq 7, 3) := by decide +kernel
theorem dX12_wrongLines_84 : decode cX12_wrongLines 84 = .ok (.iconst 1, 1) := by decide +kernel
theorem dX12_wrongLines_85 : decode cX12_wrongLines 85 = .ok (.goto 4, 3) := by decide +kernel
theorem dX12_wrongLines_46 : decode cX12_wrongLines 46 = .ok (.iconst 3, 1) := by decide +kernel
theorem dX12_wrongLines_47 : decode cX12_wrongLines 47 = .ok (.ireturn, 1) := by decide +kernel
theorem dX12_wrongLines_34 : decode cX12_wrongLines 34 = .ok (.iconst 2, 1) := by decide +kernel
theorem dX12_wrongLines_35 : decode cX12_wrongLines 35 = .ok (.ireturn, 1) := by decide +kernel
def rm_X12_wrongLines : Room := { frames := 1, cells := 0, slots := 0, locals := 22 }
set_option maxHeartbeats 4000000 in
set_option maxRecDepth 100000 in
theorem s_X12_wrongLines (l : Launch) (D : va_G) (cy : Nat → ClassId) (L : List Nat) (R O : Nat → Nat) (f0 : Nat → va_E) (a0 : Nat) (m_a0 : a0 ∈ L) (r_a0 : R a0 = 12) (x1 : Int32) (b1 : 0 ≤ x1.toInt ∧ x1.toInt ≤ 1) (x2 : Int32) (x3 : Int32) (x4 : Int32) (b4 : 6 ≤ x4.toInt ∧ x4.toInt ≤ 16) (GA : Nat) (m_GA : GA ∈ L) (r_GA : R GA = 61) (t_GA : fld f0 a0 0 = .ref GA) (GP : Nat) (m_GP : GP ∈ L) (r_GP : R GP = 69) (t_GP : fld f0 a0 22 = .ref GP) (GL : Nat) (m_GL : GL ∈ L) (r_GL : R GL = 70) (t_GL : fld f0 a0 23 = .ref GL) (GT : Nat) (m_GT : GT ∈ L) (r_GT : R GT = 64) (t_GT : fld f0 a0 6 = .ref GT) : ∀ sz, Met l yX12_wrongLines (Cond.code yX12_wrongLines cX12_wrongLines 7 (some .int) :: wsL_law) rm_X12_wrongLines (va_Pc [.ref a0, .int x1, .int x2, .int x3, .int x4] (tPZ D cy L R (TT cy L R) f0 sz)) (va_Qi (fun (r : Int32) f1 => f0 = f1 ∧ 0 ≤ r.toInt ∧ r.toInt ≤ 3 ∧ Hid (r.toInt ≠ 0 ∨ LT GT x2.toInt.toNat x3.toInt.toNat f0) ∧ (r.toInt ≠ 0 ∨ (x1.toInt ≠ 0 ∧ 0 ≤ x2.toInt ∧ x2.toInt ≤ 3 ∧ 1 ≤ x3.toInt ∧ x3.toInt ≤ x4.toInt))) (tB D (tA L sz) L R (TT cy L R)) (tA L sz)) 0 0 (tA L sz) := by
  refine tw_enteri (by decide +kernel) rfl (Nat.le_of_ble_eq_true rfl) ?_
  intro p e s m below meth c A ls args Q F hZ h hl hret
  have hl : lv_has ls 7 [(0, .ref a0), (1, .int x1), (2, .int x2), (3, .int x3), (4, .int x4)] := hl
  refine lv_iload_n F.1 F.2.1 dX12_wrongLines_0 rfl (lv_at hl 1 rfl) ?_
  refine tw_if_eq (tgt := 22) F dX12_wrongLines_1 (by decide) (fun b1 => ?_) (fun b1 => ?_)
  · refine tw_iconst F dX12_wrongLines_22 ki_1 (fun z2 hz2 => ?_)
    exact hret f0 _ _ _ _ z2 dX12_wrongLines_23 rfl ⟨rfl, by omega, by omega, Hid.mk (Or.inl (by omega)), by omega⟩ h
  · refine lv_iload_n F.1 F.2.1 dX12_wrongLines_4 rfl (lv_at hl 2 rfl) ?_
    refine tw_Si (As := [.int x2]) F hZ h yk_X12_isTray mw_283 mw_284 (s_X12_isTray l D cy L R O f0 x2) rfl rfl hl.1 rfl (Nat.le_of_ble_eq_true rfl) ⟨Nat.le_of_ble_eq_true rfl, Nat.le_of_ble_eq_true rfl⟩ ⟨Nat.le_of_ble_eq_true rfl, Nat.le_of_ble_eq_true rfl⟩ dX12_wrongLines_5 (fun v4 f3 H locs hp3 h => ?_)
    obtain ⟨rfl, hv4a, hv4b, hv4p0⟩ := hp3
    refine tw_if_eq (tgt := 22) F dX12_wrongLines_8 (by decide) (fun b5 => ?_) (fun b5 => ?_)
    · refine tw_iconst F dX12_wrongLines_22 ki_1 (fun z6 hz6 => ?_)
      exact hret f0 _ _ _ _ z6 dX12_wrongLines_23 rfl ⟨rfl, by omega, by omega, Hid.mk (Or.inl (by omega)), by omega⟩ h
    · refine lv_iload_n F.1 F.2.1 dX12_wrongLines_11 rfl (lv_at hl 3 rfl) ?_
      refine tw_iconst F dX12_wrongLines_12 ki_1 (fun z7 hz7 => ?_)
      refine tw_icmp_lt (tgt := 22) F dX12_wrongLines_13 (by decide) (fun b8 => ?_) (fun b8 => ?_)
      · refine tw_iconst F dX12_wrongLines_22 ki_1 (fun z9 hz9 => ?_)
        exact hret f0 _ _ _ _ z9 dX12_wrongLines_23 rfl ⟨rfl, by omega, by omega, Hid.mk (Or.inl (by omega)), by omega⟩ h
      · refine lv_iload_n F.1 F.2.1 dX12_wrongLines_16 rfl (lv_at hl 3 rfl) ?_
        refine lv_iload F.1 F.2.1 dX12_wrongLines_17 (lv_at hl 4 rfl) ?_
        refine tw_icmp_le (tgt := 24) F dX12_wrongLines_19 (by decide) (fun b10 => ?_) (fun b10 => ?_)
        · refine lv_aload_n F.1 F.2.1 dX12_wrongLines_24 rfl (lv_at hl 0 rfl) ?_
          refine g_12_21 F h m_a0 r_a0 dX12_wrongLines_25 (fun o11 m_o11 r_o11 ho11 => ?_)
          refine lv_iload_n F.1 F.2.1 dX12_wrongLines_28 rfl (lv_at hl 2 rfl) ?_
          refine ld_63 F h m_o11 r_o11 (by omega) dX12_wrongLines_29 (fun v12 hv12a hv12b => ?_)
          refine tw_iconst F dX12_wrongLines_30 ki_m1 (fun z13 hz13 => ?_)
          refine tw_icmp_ne (tgt := 36) F dX12_wrongLines_31 (by decide) (fun b14 => ?_) (fun b14 => ?_)
          · refine lv_aload_n F.1 F.2.1 dX12_wrongLines_36 rfl (lv_at hl 0 rfl) ?_
            refine g_12_21 F h m_a0 r_a0 dX12_wrongLines_37 (fun o15 m_o15 r_o15 ho15 => ?_)
            refine lv_iload_n F.1 F.2.1 dX12_wrongLines_40 rfl (lv_at hl 2 rfl) ?_
            refine ld_63 F h m_o15 r_o15 (by omega) dX12_wrongLines_41 (fun v16 hv16a hv16b => ?_)
            refine lv_iload_n F.1 F.2.1 dX12_wrongLines_42 rfl (lv_at hl 3 rfl) ?_
            refine tw_icmp_ge (tgt := 48) F dX12_wrongLines_43 (by decide) (fun b17 => ?_) (fun b17 => ?_)
            · refine tw_iconst F dX12_wrongLines_48 ki_1 (fun z18 hz18 => ?_)
              refine lv_istore (lv' := [(5, .int z18), (0, .ref a0), (1, .int x1), (2, .int x2), (3, .int x3), (4, .int x4)]) F.1 F.2.1 dX12_wrongLines_49 hl (by decide) rfl (fun ls hl => ?_)
              refine tw_iconst F dX12_wrongLines_51 ki_0 (fun z19 hz19 => ?_)
              refine lv_istore (lv' := [(6, .int z19), (5, .int z18), (0, .ref a0), (1, .int x1), (2, .int x2), (3, .int x3), (4, .int x4)]) F.1 F.2.1 dX12_wrongLines_52 hl (by decide) rfl (fun ls hl => ?_)
              have j_54 : ∀ (n54 : Nat) (H : Heap) (locs : List Loc) (ls : Array Slot) (x5_54 : Int32) (x6_54 : Int32), 0 ≤ x5_54.toInt → x5_54.toInt ≤ 1 → 0 ≤ x6_54.toInt → x6_54.toInt ≤ 16 → (Hid (x5_54.toInt = 1 → ∀ i : Nat, (i : Int) < x6_54.toInt → 0 ≤ elj f0 GT (60 * x2.toInt.toNat + i) ∧ elj f0 GT (60 * x2.toInt.toNat + i) ≤ 15)) → ((16 - x6_54.toInt)).toNat < n54 → tS D cy A s.heap L R (TT cy L R) f0 s H locs → lv_has ls 7 [(0, .ref a0), (2, .int x2), (3, .int x3), (5, .int x5_54), (6, .int x6_54)] → W p l e rm_X12_wrongLines s m args below meth c H locs 0 0 Q (F0 m 54 ls []) := by
                intro n54
                induction n54 with
                | zero =>
                  intro H locs ls x5_54 x6_54 b20 b21 b22 b23 ip54_0 b24 h hl
                  exfalso
                  omega
                | succ n54 ih54 =>
                  intro H locs ls x5_54 x6_54 b20 b21 b22 b23 ip54_0 b24 h hl
                  refine lv_iload F.1 F.2.1 dX12_wrongLines_54 (lv_at hl 4 rfl) ?_
                  refine lv_iload_n F.1 F.2.1 dX12_wrongLines_56 rfl (lv_at hl 2 rfl) ?_
                  refine tw_icmp_ge (tgt := 97) F dX12_wrongLines_57 (by decide) (fun b25 => ?_) (fun b25 => ?_)
                  · refine lv_iload F.1 F.2.1 dX12_wrongLines_97 (lv_at hl 3 rfl) ?_
                    refine tw_if_eq (tgt := 106) F dX12_wrongLines_99 (by decide) (fun b26 => ?_) (fun b26 => ?_)
                    · refine tw_iconst F dX12_wrongLines_106 ki_1 (fun z27 hz27 => ?_)
                      exact hret f0 _ _ _ _ z27 dX12_wrongLines_107 rfl ⟨rfl, by omega, by omega, Hid.mk (Or.inl (by omega)), by omega⟩ h
                    · refine tw_iconst F dX12_wrongLines_102 ki_0 (fun z28 hz28 => ?_)
                      refine lv_goto (tgt := 107) F.1 F.2.1 dX12_wrongLines_103 (by decide) ?_
                      exact hret f0 _ _ _ _ z28 dX12_wrongLines_107 rfl ⟨rfl, by omega, by omega, Hid.mk (Or.inr (fun i hi => ip54_0.g (by omega) i (by omega))), by omega⟩ h
                  · refine lv_iload F.1 F.2.1 dX12_wrongLines_60 (lv_at hl 3 rfl) ?_
                    have j_89 : ∀ (H : Heap) (locs : List Loc) (ls : Array Slot) (y0_89 : Int32), 0 ≤ y0_89.toInt → y0_89.toInt ≤ 1 → (Hid (y0_89.toInt = 1 → x5_54.toInt = 1 ∧ 0 ≤ elj f0 GT (60 * x2.toInt.toNat + x6_54.toInt.toNat) ∧ elj f0 GT (60 * x2.toInt.toNat + x6_54.toInt.toNat) ≤ 15)) → tS D cy A s.heap L R (TT cy L R) f0 s H locs → lv_has ls 7 [(0, .ref a0), (2, .int x2), (3, .int x3), (6, .int x6_54)] → W p l e rm_X12_wrongLines s m args below meth c H locs 0 0 Q (F0 m 89 ls [.int y0_89]) := by
                      intro H locs ls y0_89 b29 b30 ip89_0 h hl
                      refine lv_istore (lv' := [(5, .int y0_89), (0, .ref a0), (2, .int x2), (3, .int x3), (6, .int x6_54)]) F.1 F.2.1 dX12_wrongLines_89 hl (by decide) rfl (fun ls hl => ?_)
                      refine tu_iinc F dX12_wrongLines_91 hl (k := 4) rfl (by decide) ki_1 (by omega) (fun z31 ls hz31 hl => ?_)
                      have hl : lv_has ls 7 [(6, .int z31), (5, .int y0_89), (0, .ref a0), (2, .int x2), (3, .int x3)] := hl
                      refine lv_goto (tgt := 54) F.1 F.2.1 dX12_wrongLines_94 (by decide) ?_
                      exact ih54 _ _ _ y0_89 z31 (by omega) (by omega) (by omega) (by omega) (Hid.mk (fun q i hi => if e : i = x6_54.toInt.toNat then (by rw [e]; exact (ip89_0.g (by omega)).2) else ip54_0.g (ip89_0.g (by omega)).1 i (by omega))) (by omega) h (lv_sub hl [2, 3, 4, 1, 0] rfl)
                    have j_88 : ∀ (H : Heap) (locs : List Loc) (ls : Array Slot), tS D cy A s.heap L R (TT cy L R) f0 s H locs → lv_has ls 7 [(0, .ref a0), (2, .int x2), (3, .int x3), (6, .int x6_54)] → W p l e rm_X12_wrongLines s m args below meth c H locs 0 0 Q (F0 m 88 ls []) := by
                      intro H locs ls h hl
                      refine tw_iconst F dX12_wrongLines_88 ki_0 (fun z32 hz32 => ?_)
                      exact j_89 _ _ _ z32 (by omega) (by omega) (Hid.mk (fun q => absurd q (by omega))) h (lv_sub hl [0, 1, 2, 3] rfl)
                    refine tw_if_eq (tgt := 88) F dX12_wrongLines_62 (by decide) (fun b33 => ?_) (fun b33 => ?_)
                    · exact j_88 _ _ _ h (lv_sub hl [0, 1, 2, 4] rfl)
                    · refine lv_aload_n F.1 F.2.1 dX12_wrongLines_65 rfl (lv_at hl 0 rfl) ?_
                      refine lv_aload_n F.1 F.2.1 dX12_wrongLines_66 rfl (lv_at hl 0 rfl) ?_
                      refine g_12_24 F h m_a0 r_a0 dX12_wrongLines_67 (fun o34 m_o34 r_o34 ho34 => ?_)
                      obtain rfl := (fld_inj t_GT ho34).symm
                      refine tw_bipush F dX12_wrongLines_70 kb_60 (fun z35 hz35 => ?_)
                      refine lv_iload_n F.1 F.2.1 dX12_wrongLines_72 rfl (lv_at hl 1 rfl) ?_
                      refine tu_imull F dX12_wrongLines_73 hz35 (by omega) (fun z36 hz36 => ?_)
                      refine lv_iload F.1 F.2.1 dX12_wrongLines_74 (lv_at hl 4 rfl) ?_
                      refine tu_iadd F dX12_wrongLines_76 (by omega) (fun z37 hz37 => ?_)
                      refine le_64 F h m_GT r_GT (by omega) dX12_wrongLines_77 (fun v38 ev38 => ?_)
                      refine tw_Vi (As := [.long v38]) F hZ h yk_X12_isLine mw_797 mw_798 mw_799 (s_X12_isLine l D cy L R O f0 a0 m_a0 r_a0 v38) rfl rfl m_a0 r_a0 (fun e q => (T_12 e).mp q) rfl hl.1 rfl (Nat.le_of_ble_eq_true rfl) ⟨Nat.le_of_ble_eq_true rfl, Nat.le_of_ble_eq_true rfl⟩ ⟨Nat.le_of_ble_eq_true rfl, Nat.le_of_ble_eq_true rfl⟩ dX12_wrongLines_78 (fun v40 f39 H locs hp39 h => ?_)
                      obtain ⟨rfl, hv40a, hv40b, hv40p0⟩ := hp39
                      refine tw_if_eq (tgt := 88) F dX12_wrongLines_81 (by decide) (fun b41 => ?_) (fun b41 => ?_)
                      · exact j_88 _ _ _ h (lv_sub hl [0, 1, 2, 4] rfl)
                      · refine tw_iconst F dX12_wrongLines_84 ki_1 (fun z42 hz42 => ?_)
                        refine lv_goto (tgt := 89) F.1 F.2.1 dX12_wrongLines_85 (by decide) ?_
                        exact j_89 _ _ _ z42 (by omega) (by omega) (Hid.mk (fun _ => ⟨by omega, by rw [show 60 * x2.toInt.toNat + x6_54.toInt.toNat = z37.toInt.toNat by omega, ← ev38]; omega, by rw [show 60 * x2.toInt.toNat + x6_54.toInt.toNat = z37.toInt.toNat by omega, ← ev38]; omega⟩)) h (lv_sub hl [0, 1, 2, 4] rfl)
              exact j_54 (((16 - z19.toInt)).toNat + 1) _ _ _ z18 z19 (by omega) (by omega) (by omega) (by omega) (Hid.mk (fun _ i hi => absurd hi (by omega))) (by omega) h (lv_sub hl [2, 4, 5, 1, 0] rfl)
            · refine tw_iconst F dX12_wrongLines_46 ki_3 (fun z43 hz43 => ?_)
              exact hret f0 _ _ _ _ z43 dX12_wrongLines_47 rfl ⟨rfl, by omega, by omega, Hid.mk (Or.inl (by omega)), by omega⟩ h
          · refine tw_iconst F dX12_wrongLines_34 ki_2 (fun z44 hz44 => ?_)
            exact hret f0 _ _ _ _ z44 dX12_wrongLines_35 rfl ⟨rfl, by omega, by omega, Hid.mk (Or.inl (by omega)), by omega⟩ h
        · refine tw_iconst F dX12_wrongLines_22 ki_1 (fun z45 hz45 => ?_)
          exact hret f0 _ _ _ _ z45 dX12_wrongLines_23 rfl ⟨rfl, by omega, by omega, Hid.mk (Or.inl (by omega)), by omega⟩ h
theorem dX12_hearsOf_0 : decode cX12_hearsOf 0 = .ok (.aload_n 0, 1) := by decide +kernel
theorem dX12_hearsOf_1 : decode cX12_hearsOf 1 = .ok (.aload_n 0, 1) := by decide +kernel
theorem dX12_hearsOf_2 : decode cX12_hearsOf 2 = .ok (.aload_n 0, 1) := by decide +kernel
theorem dX12_hearsOf_3 : decode cX12_hearsOf 3 = .ok (.getfield 24, 3) := by decide +kernel
theorem dX12_hearsOf_6 : decode cX12_hearsOf 6 = .ok (.bipush 60, 2) := by decide +kernel
theorem dX12_hearsOf_8 : decode cX12_hearsOf 8 = .ok (.iload_n 1, 1) := by decide +kernel
theorem dX12_hearsOf_9 : decode cX12_hearsOf 9 = .ok (.imul, 1) := by decide +kernel
theorem dX12_hearsOf_10 : decode cX12_hearsOf 10 = .ok (.iload_n 2, 1) := by decide +kernel
theorem dX12_hearsOf_11 : decode cX12_hearsOf 11 = .ok (.iadd, 1) := by decide +kernel
theorem dX12_hearsOf_12 : decode cX12_hearsOf 12 = .ok (.laload, 1) := by decide +kernel
theorem dX12_hearsOf_13 : decode cX12_hearsOf 13 = .ok (.l2i, 1) := by decide +kernel
theorem dX12_hearsOf_14 : decode cX12_hearsOf 14 = .ok (.invokevirtual 206, 3) := by decide +kernel
theorem mw_495 : Cond.methodLink RX12 206 yX12_lineAt ∈ wsL_law := inr_21 _ (List.mem_of_getElem? (i := 15) rfl)
theorem mw_498 : Cond.code yX12_lineAt cX12_lineAt 2 (some .int) ∈ wsL_law := inr_21 _ (List.mem_of_getElem? (i := 18) rfl)
theorem yk_X12_lineAt : xY yX12_lineAt RX12 cX12_lineAt 2 (some .int) 1 := ⟨⟨rfl, by decide +kernel, by decide +kernel, by decide +kernel⟩, mw_5, mw_498⟩
theorem mw_496 : Cond.instanceMethod yX12_lineAt ∈ wsL_law := inr_21 _ (List.mem_of_getElem? (i := 16) rfl)
theorem mw_497 : Cond.selects RX12 yX12_lineAt yX12_lineAt ∈ wsL_law := inr_21 _ (List.mem_of_getElem? (i := 17) rfl)
theorem dX12_hearsOf_17 : decode cX12_hearsOf 17 = .ok (.invokevirtual 304, 3) := by decide +kernel
theorem mw_890 : Cond.methodLink RX12 304 yX12_hears ∈ wsL_law := inr_38 _ (List.mem_of_getElem? (i := 2) rfl)
theorem mw_893 : Cond.code yX12_hears cX12_hears 3 none ∈ wsL_law := inr_38 _ (List.mem_of_getElem? (i := 5) rfl)
theorem yk_X12_hears : xY yX12_hears RX12 cX12_hears 3 none 1 := ⟨⟨rfl, by decide +kernel, by decide +kernel, by decide +kernel⟩, mw_5, mw_893⟩
theorem mw_891 : Cond.instanceMethod yX12_hears ∈ wsL_law := inr_38 _ (List.mem_of_getElem? (i := 3) rfl)
theorem mw_892 : Cond.selects RX12 yX12_hears yX12_hears ∈ wsL_law := inr_38 _ (List.mem_of_getElem? (i := 4) rfl)
theorem dX12_hearsOf_20 : decode cX12_hearsOf 20 = .ok (.return_, 1) := by decide +kernel
def rm_X12_hearsOf : Room := { frames := 1, cells := 0, slots := 0, locals := 22 }
set_option maxHeartbeats 4000000 in
set_option maxRecDepth 100000 in
theorem s_X12_hearsOf (l : Launch) (D : va_G) (cy : Nat → ClassId) (L : List Nat) (R O : Nat → Nat) (f0 : Nat → va_E) (a0 : Nat) (m_a0 : a0 ∈ L) (r_a0 : R a0 = 12) (x1 : Int32) (b1 : 0 ≤ x1.toInt ∧ x1.toInt ≤ 3) (x2 : Int32) (b2 : 0 ≤ x2.toInt ∧ x2.toInt ≤ 59) (GA : Nat) (m_GA : GA ∈ L) (r_GA : R GA = 61) (t_GA : fld f0 a0 0 = .ref GA) (GP : Nat) (m_GP : GP ∈ L) (r_GP : R GP = 69) (t_GP : fld f0 a0 22 = .ref GP) (GL : Nat) (m_GL : GL ∈ L) (r_GL : R GL = 70) (t_GL : fld f0 a0 23 = .ref GL) (GT : Nat) (m_GT : GT ∈ L) (r_GT : R GT = 64) (t_GT : fld f0 a0 6 = .ref GT) (pre0 : (0 ≤ elj f0 GT (60 * x1.toInt.toNat + x2.toInt.toNat) ∧ elj f0 GT (60 * x1.toInt.toNat + x2.toInt.toNat) ≤ 15)) : ∀ sz, Met l yX12_hearsOf (Cond.code yX12_hearsOf cX12_hearsOf 3 none :: wsL_law) rm_X12_hearsOf (va_Pc [.ref a0, .int x1, .int x2] (tPZ D cy L R (TT cy L R) f0 sz)) (va_Qv (fun f1 => fr L R [(12, 28)] [12, 73] f0 f1) (tB D (tA L sz) L R (TT cy L R)) (tA L sz)) 0 0 (tA L sz) := by
  refine tw_enterv (by decide +kernel) rfl (Nat.le_of_ble_eq_true rfl) ?_
  intro p e s m below meth c A ls args Q F hZ h hl hret
  have hl : lv_has ls 3 [(0, .ref a0), (1, .int x1), (2, .int x2)] := hl
  have hk : fr L R [(12, 28)] [12, 73] f0 f0 := fr.rf
  refine lv_aload_n F.1 F.2.1 dX12_hearsOf_0 rfl (lv_at hl 0 rfl) ?_
  refine lv_aload_n F.1 F.2.1 dX12_hearsOf_1 rfl (lv_at hl 0 rfl) ?_
  refine lv_aload_n F.1 F.2.1 dX12_hearsOf_2 rfl (lv_at hl 0 rfl) ?_
  refine g_12_24 F h m_a0 r_a0 dX12_hearsOf_3 (fun o1 m_o1 r_o1 ho1 => ?_)
  obtain rfl := (fld_inj t_GT ho1).symm
  refine tw_bipush F dX12_hearsOf_6 kb_60 (fun z2 hz2 => ?_)
  refine lv_iload_n F.1 F.2.1 dX12_hearsOf_8 rfl (lv_at hl 1 rfl) ?_
  refine tu_imull F dX12_hearsOf_9 hz2 (by omega) (fun z3 hz3 => ?_)
  refine lv_iload_n F.1 F.2.1 dX12_hearsOf_10 rfl (lv_at hl 2 rfl) ?_
  refine tu_iadd F dX12_hearsOf_11 (by omega) (fun z4 hz4 => ?_)
  refine le_64 F h m_GT r_GT (by omega) dX12_hearsOf_12 (fun v5 ev5 => ?_)
  have u12 : v5.toInt = elj f0 GT (60 * x1.toInt.toNat + x2.toInt.toNat) := by rw [ev5, show z4.toInt.toNat = 60 * x1.toInt.toNat + x2.toInt.toNat by omega]
  refine tw_l2i F dX12_hearsOf_13 (by omega) (by omega) (fun z6 hz6 => ?_)
  refine tw_Vi (As := [.int z6]) F hZ h yk_X12_lineAt mw_495 mw_496 mw_497 (s_X12_lineAt l D cy L R O f0 a0 m_a0 r_a0 z6 ⟨by omega, by omega⟩) rfl rfl m_a0 r_a0 (fun e q => (T_12 e).mp q) rfl hl.1 rfl (Nat.le_of_ble_eq_true rfl) ⟨Nat.le_of_ble_eq_true rfl, Nat.le_of_ble_eq_true rfl⟩ ⟨Nat.le_of_ble_eq_true rfl, Nat.le_of_ble_eq_true rfl⟩ dX12_hearsOf_14 (fun v8 f7 H locs hp7 h => ?_)
  obtain ⟨rfl, hv8a, hv8b, hv8p0⟩ := hp7
  refine tw_Vv (As := [.int v8]) F hZ h yk_X12_hears mw_890 mw_891 mw_892 (s_X12_hears l D cy L R O f0 a0 m_a0 r_a0 v8 ⟨by omega, by omega⟩ (ac_l (by omega))) rfl rfl m_a0 r_a0 (fun e q => (T_12 e).mp q) rfl hl.1 rfl (Nat.le_of_ble_eq_true rfl) ⟨Nat.le_of_ble_eq_true rfl, Nat.le_of_ble_eq_true rfl⟩ ⟨Nat.le_of_ble_eq_true rfl, Nat.le_of_ble_eq_true rfl⟩ dX12_hearsOf_17 (fun f9 H locs hp9 h => ?_)
  have hf9 := hp9
  have hk : fr L R [(12, 28)] [12, 73] f0 f9 := hk.tr hf9 rfl rfl
  have e11 : fld f9 a0 0 = .ref GA := (hf9.efl m_a0 r_a0 rfl).trans t_GA
  have e12 : fld f9 a0 22 = .ref GP := (hf9.efl m_a0 r_a0 rfl).trans t_GP
  have e13 : fld f9 a0 23 = .ref GL := (hf9.efl m_a0 r_a0 rfl).trans t_GL
  have e14 : fld f9 a0 6 = .ref GT := (hf9.efl m_a0 r_a0 rfl).trans t_GT
  exact hret f9 _ _ _ _ dX12_hearsOf_20 hk h
theorem dX12_breaks_0 : decode cX12_breaks 0 = .ok (.iconst 0, 1) := by decide +kernel
theorem dX12_breaks_1 : decode cX12_breaks 1 = .ok (.istore 5, 2) := by decide +kernel
theorem dX12_breaks_3 : decode cX12_breaks 3 = .ok (.iload 5, 2) := by decide +kernel
theorem dX12_breaks_5 : decode cX12_breaks 5 = .ok (.i2l, 1) := by decide +kernel
theorem dX12_breaks_6 : decode cX12_breaks 6 = .ok (.aload_n 0, 1) := by decide +kernel
theorem dX12_breaks_7 : decode cX12_breaks 7 = .ok (.getfield 7, 3) := by decide +kernel
theorem dX12_breaks_10 : decode cX12_breaks 10 = .ok (.sipush 5159, 3) := by decide +kernel
theorem ks_5159 : (Int16.ofInt 5159).toInt32.toInt = 5159 := by decide
theorem dX12_breaks_13 : decode cX12_breaks 13 = .ok (.laload, 1) := by decide +kernel
theorem dX12_breaks_14 : decode cX12_breaks 14 = .ok (.lcmp, 1) := by decide +kernel
theorem dX12_breaks_15 : decode cX12_breaks 15 = .ok (.ifCond .ge 49, 3) := by decide +kernel
theorem dX12_breaks_64 : decode cX12_breaks 64 = .ok (.iconst 0, 1) := by decide +kernel
theorem dX12_breaks_65 : decode cX12_breaks 65 = .ok (.ireturn, 1) := by decide +kernel
theorem dX12_breaks_18 : decode cX12_breaks 18 = .ok (.aload_n 0, 1) := by decide +kernel
theorem dX12_breaks_19 : decode cX12_breaks 19 = .ok (.getfield 7, 3) := by decide +kernel
theorem dX12_breaks_22 : decode cX12_breaks 22 = .ok (.sipush 5160, 3) := by decide +kernel
theorem ks_5160 : (Int16.ofInt 5160).toInt32.toInt = 5160 := by decide
theorem dX12_breaks_25 : decode cX12_breaks 25 = .ok (.iconst 2, 1) := by decide +kernel
theorem dX12_breaks_26 : decode cX12_breaks 26 = .ok (.iload 5, 2) := by decide +kernel
theorem dX12_breaks_28 : decode cX12_breaks 28 = .ok (.imul, 1) := by decide +kernel
theorem dX12_breaks_29 : decode cX12_breaks 29 = .ok (.iadd, 1) := by decide +kernel
theorem dX12_breaks_30 : decode cX12_breaks 30 = .ok (.laload, 1) := by decide +kernel
theorem dX12_breaks_31 : decode cX12_breaks 31 = .ok (.lload_n 1, 1) := by decide +kernel
theorem dX12_breaks_32 : decode cX12_breaks 32 = .ok (.lcmp, 1) := by decide +kernel
theorem dX12_breaks_58 : decode cX12_breaks 58 = .ok (.iinc 5 1, 3) := by decide +kernel
theorem dX12_breaks_61 : decode cX12_breaks 61 = .ok (.goto (-58), 3) := by decide +kernel
theorem dX12_breaks_33 : decode cX12_breaks 33 = .ok (.ifCond .ne 25, 3) := by decide +kernel
theorem dX12_breaks_36 : decode cX12_breaks 36 = .ok (.aload_n 0, 1) := by decide +kernel
theorem dX12_breaks_37 : decode cX12_breaks 37 = .ok (.getfield 7, 3) := by decide +kernel
theorem dX12_breaks_40 : decode cX12_breaks 40 = .ok (.sipush 5160, 3) := by decide +kernel
theorem dX12_breaks_43 : decode cX12_breaks 43 = .ok (.iconst 2, 1) := by decide +kernel
theorem dX12_breaks_44 : decode cX12_breaks 44 = .ok (.iload 5, 2) := by decide +kernel
theorem dX12_breaks_46 : decode cX12_breaks 46 = .ok (.imul, 1) := by decide +kernel
theorem dX12_breaks_47 : decode cX12_breaks 47 = .ok (.iadd, 1) := by decide +kernel
theorem dX12_breaks_48 : decode cX12_breaks 48 = .ok (.iconst 1, 1) := by decide +kernel
theorem dX12_breaks_49 : decode cX12_breaks 49 = .ok (.iadd, 1) := by decide +kernel
theorem dX12_breaks_50 : decode cX12_breaks 50 = .ok (.laload, 1) := by decide +kernel
theorem dX12_breaks_51 : decode cX12_breaks 51 = .ok (.lload_n 3, 1) := by decide +kernel
theorem dX12_breaks_52 : decode cX12_breaks 52 = .ok (.lcmp, 1) := by decide +kernel
theorem dX12_breaks_53 : decode cX12_breaks 53 = .ok (.ifCond .ne 5, 3) := by decide +kernel
theorem dX12_breaks_56 : decode cX12_breaks 56 = .ok (.iconst 1, 1) := by decide +kernel
theorem dX12_breaks_57 : decode cX12_breaks 57 = .ok (.ireturn, 1) := by decide +kernel
def rm_X12_breaks : Room := { frames := 0, cells := 0, slots := 0, locals := 0 }
set_option maxHeartbeats 4000000 in
set_option maxRecDepth 100000 in
theorem s_X12_breaks (l : Launch) (D : va_G) (cy : Nat → ClassId) (L : List Nat) (R O : Nat → Nat) (f0 : Nat → va_E) (a0 : Nat) (m_a0 : a0 ∈ L) (r_a0 : R a0 = 12) (x1 : Int64) (x3 : Int64) : ∀ sz, Met l yX12_breaks (Cond.code yX12_breaks cX12_breaks 6 (some .boolean) :: wsL_law) rm_X12_breaks (va_Pc [.ref a0, .long x1, .long x3] (tPZ D cy L R (TT cy L R) f0 sz)) (va_Qi (fun (r : Int32) f1 => f0 = f1 ∧ 0 ≤ r.toInt ∧ r.toInt ≤ 1) (tB D (tA L sz) L R (TT cy L R)) (tA L sz)) 0 0 (tA L sz) := by
  refine tw_enteri (by decide +kernel) rfl (Nat.le_of_ble_eq_true rfl) ?_
  intro p e s m below meth c A ls args Q F hZ h hl hret
  have hl : lv_has ls 6 [(0, .ref a0), (1, .long x1), (3, .long x3)] := hl
  refine tw_iconst F dX12_breaks_0 ki_0 (fun z1 hz1 => ?_)
  refine lv_istore (lv' := [(5, .int z1), (0, .ref a0), (1, .long x1), (3, .long x3)]) F.1 F.2.1 dX12_breaks_1 hl (by decide) rfl (fun ls hl => ?_)
  have j_3 : ∀ (n3 : Nat) (ls : Array Slot) (x5_3 : Int32), 0 ≤ x5_3.toInt → x5_3.toInt ≤ 12 → ((12 - x5_3.toInt)).toNat < n3 → lv_has ls 6 [(0, .ref a0), (1, .long x1), (3, .long x3), (5, .int x5_3)] → W p l e rm_X12_breaks s m args below meth c s.heap [] 0 0 Q (F0 m 3 ls []) := by
    intro n3
    induction n3 with
    | zero =>
      intro ls x5_3 b2 b3 b4 hl
      exfalso
      omega
    | succ n3 ih3 =>
      intro ls x5_3 b2 b3 b4 hl
      refine lv_iload F.1 F.2.1 dX12_breaks_3 (lv_at hl 3 rfl) ?_
      refine tw_i2l F dX12_breaks_5 (fun z5 hz5 => ?_)
      refine lv_aload_n F.1 F.2.1 dX12_breaks_6 rfl (lv_at hl 0 rfl) ?_
      refine g_12_7 F h m_a0 r_a0 dX12_breaks_7 (fun o6 m_o6 r_o6 ho6 => ?_)
      refine tw_sipush F dX12_breaks_10 ks_5159 (fun z7 hz7 => ?_)
      refine ld_61 F h m_o6 r_o6 (by omega) dX12_breaks_13 (fun v8 hv8a => ?_)
      have hv8b := clP_1.mp (atb hv8a (ac_s2 (by omega)))
      refine tw_lcmp F dX12_breaks_14 (fun z9 hz9 => ?_)
      refine tw_if_ge (tgt := 64) F dX12_breaks_15 (by decide) (fun b10 => ?_) (fun b10 => ?_)
      · refine tw_iconst F dX12_breaks_64 ki_0 (fun z11 hz11 => ?_)
        exact hret f0 _ _ _ _ z11 dX12_breaks_65 (tw_nb (by omega)) ⟨rfl, by omega, by omega⟩ h
      · refine lv_aload_n F.1 F.2.1 dX12_breaks_18 rfl (lv_at hl 0 rfl) ?_
        refine g_12_7 F h m_a0 r_a0 dX12_breaks_19 (fun o12 m_o12 r_o12 ho12 => ?_)
        refine tw_sipush F dX12_breaks_22 ks_5160 (fun z13 hz13 => ?_)
        refine tw_iconst F dX12_breaks_25 ki_2 (fun z14 hz14 => ?_)
        refine lv_iload F.1 F.2.1 dX12_breaks_26 (lv_at hl 3 rfl) ?_
        refine tu_imull F dX12_breaks_28 hz14 (by omega) (fun z15 hz15 => ?_)
        refine tu_iadd F dX12_breaks_29 (by omega) (fun z16 hz16 => ?_)
        refine ld_61 F h m_o12 r_o12 (by omega) dX12_breaks_30 (fun v17 hv17a => ?_)
        refine lv_lload_n F.1 F.2.1 dX12_breaks_31 rfl (lv_at hl 1 rfl) ?_
        refine tw_lcmp F dX12_breaks_32 (fun z18 hz18 => ?_)
        have j_58 : ∀ (ls : Array Slot), lv_has ls 6 [(0, .ref a0), (1, .long x1), (3, .long x3), (5, .int x5_3)] → W p l e rm_X12_breaks s m args below meth c s.heap [] 0 0 Q (F0 m 58 ls []) := by
          intro ls hl
          refine tu_iinc F dX12_breaks_58 hl (k := 3) rfl (by decide) ki_1 (by omega) (fun z19 ls hz19 hl => ?_)
          have hl : lv_has ls 6 [(5, .int z19), (0, .ref a0), (1, .long x1), (3, .long x3)] := hl
          refine lv_goto (tgt := 3) F.1 F.2.1 dX12_breaks_61 (by decide) ?_
          exact ih3 _ z19 (by omega) (by omega) (by omega) (lv_sub hl [1, 2, 3, 0] rfl)
        refine tw_if_ne (tgt := 58) F dX12_breaks_33 (by decide) (fun b20 => ?_) (fun b20 => ?_)
        · exact j_58 _ (lv_sub hl [0, 1, 2, 3] rfl)
        · refine lv_aload_n F.1 F.2.1 dX12_breaks_36 rfl (lv_at hl 0 rfl) ?_
          refine g_12_7 F h m_a0 r_a0 dX12_breaks_37 (fun o21 m_o21 r_o21 ho21 => ?_)
          refine tw_sipush F dX12_breaks_40 ks_5160 (fun z22 hz22 => ?_)
          refine tw_iconst F dX12_breaks_43 ki_2 (fun z23 hz23 => ?_)
          refine lv_iload F.1 F.2.1 dX12_breaks_44 (lv_at hl 3 rfl) ?_
          refine tu_imull F dX12_breaks_46 hz23 (by omega) (fun z24 hz24 => ?_)
          refine tu_iadd F dX12_breaks_47 (by omega) (fun z25 hz25 => ?_)
          refine tw_iconst F dX12_breaks_48 ki_1 (fun z26 hz26 => ?_)
          refine tu_iadd F dX12_breaks_49 (by omega) (fun z27 hz27 => ?_)
          refine ld_61 F h m_o21 r_o21 (by omega) dX12_breaks_50 (fun v28 hv28a => ?_)
          refine lv_lload_n F.1 F.2.1 dX12_breaks_51 rfl (lv_at hl 2 rfl) ?_
          refine tw_lcmp F dX12_breaks_52 (fun z29 hz29 => ?_)
          refine tw_if_ne (tgt := 58) F dX12_breaks_53 (by decide) (fun b30 => ?_) (fun b30 => ?_)
          · exact j_58 _ (lv_sub hl [0, 1, 2, 3] rfl)
          · refine tw_iconst F dX12_breaks_56 ki_1 (fun z31 hz31 => ?_)
            exact hret f0 _ _ _ _ z31 dX12_breaks_57 (tw_nb (by omega)) ⟨rfl, by omega, by omega⟩ h
  exact j_3 (((12 - z1.toInt)).toNat + 1) _ z1 (by omega) (by omega) (by omega) (lv_sub hl [1, 2, 3, 0] rfl)
theorem dX12_cameAt_0 : decode cX12_cameAt 0 = .ok (.iconst 0, 1) := by decide +kernel
theorem dX12_cameAt_1 : decode cX12_cameAt 1 = .ok (.istore_n 2, 1) := by decide +kernel
theorem dX12_cameAt_2 : decode cX12_cameAt 2 = .ok (.iload_n 2, 1) := by decide +kernel
theorem dX12_cameAt_3 : decode cX12_cameAt 3 = .ok (.iload_n 1, 1) := by decide +kernel
theorem dX12_cameAt_4 : decode cX12_cameAt 4 = .ok (.if_icmp .ge 74, 3) := by decide +kernel
theorem dX12_cameAt_78 : decode cX12_cameAt 78 = .ok (.iconst (-1), 1) := by decide +kernel
theorem dX12_cameAt_79 : decode cX12_cameAt 79 = .ok (.ireturn, 1) := by decide +kernel
theorem dX12_cameAt_7 : decode cX12_cameAt 7 = .ok (.iconst 1, 1) := by decide +kernel
theorem dX12_cameAt_8 : decode cX12_cameAt 8 = .ok (.istore_n 3, 1) := by decide +kernel
theorem dX12_cameAt_9 : decode cX12_cameAt 9 = .ok (.iconst 0, 1) := by decide +kernel
theorem dX12_cameAt_10 : decode cX12_cameAt 10 = .ok (.istore 4, 2) := by decide +kernel
theorem dX12_cameAt_12 : decode cX12_cameAt 12 = .ok (.iload 4, 2) := by decide +kernel
theorem dX12_cameAt_14 : decode cX12_cameAt 14 = .ok (.sipush 222, 3) := by decide +kernel
theorem ks_222 : (Int16.ofInt 222).toInt32.toInt = 222 := by decide
theorem dX12_cameAt_66 : decode cX12_cameAt 66 = .ok (.iload_n 3, 1) := by decide +kernel
theorem dX12_cameAt_67 : decode cX12_cameAt 67 = .ok (.ifCond .eq 5, 3) := by decide +kernel
theorem dX12_cameAt_72 : decode cX12_cameAt 72 = .ok (.iinc 2 1, 3) := by decide +kernel
theorem dX12_cameAt_75 : decode cX12_cameAt 75 = .ok (.goto (-73), 3) := by decide +kernel
theorem dX12_cameAt_70 : decode cX12_cameAt 70 = .ok (.iload_n 2, 1) := by decide +kernel
theorem dX12_cameAt_71 : decode cX12_cameAt 71 = .ok (.ireturn, 1) := by decide +kernel
theorem dX12_cameAt_17 : decode cX12_cameAt 17 = .ok (.if_icmp .ge 49, 3) := by decide +kernel
theorem dX12_cameAt_20 : decode cX12_cameAt 20 = .ok (.iload_n 3, 1) := by decide +kernel
theorem dX12_cameAt_21 : decode cX12_cameAt 21 = .ok (.ifCond .eq 45, 3) := by decide +kernel
theorem dX12_cameAt_24 : decode cX12_cameAt 24 = .ok (.aload_n 0, 1) := by decide +kernel
theorem dX12_cameAt_25 : decode cX12_cameAt 25 = .ok (.getfield 100, 3) := by decide +kernel
theorem mw_231 : Cond.fieldLink RX12 100 "AskBackModel" "states" "[J" ∈ wsL_law := inr_10 _ (List.mem_of_getElem? (i := 15) rfl)
section
variable {p : Program} {l : Launch} {e : Env} {R0 : Room} {s : State} {m : MethodId} {args : Array Value} {below : List Frame} {meth : Method} {c : Code} {H H0 : Heap} {locs : List Loc} {cells slots : Nat} {Q : State → Prop} {cc : ByteArray} {nL : Nat} {D : va_G} {cy : Nat → ClassId} {A : Nat → Prop} {L : List Nat} {R : Nat → Nat} {f : Nat → va_E} {pc : Nat} {ls : Array Slot} {rest : List Value} {a : Nat}
theorem g_12_100 (F : CallFix p m c cc nL s args wsL_law RX12) (h : tS D cy A H0 L R (TT cy L R) f s H locs) (ha : a ∈ L) (hr : R a = 12) (hdg : decode cc pc = .ok (.getfield 100, 3)) (kk : ∀ b : Nat, b ∈ L → R b = 83 → fld f a 55 = .ref b → W p l e R0 s m args below meth c H locs cells slots Q (F0 m (pc + 3) ls (.ref b :: rest))) : W p l e R0 s m args below meth c H locs cells slots Q (F0 m pc ls (.ref a :: rest)) := tu_getr F h ha hr (fun e q => (T_12 e).mp q) rfl inlX12 rfl (Nat.le_of_ble_eq_true rfl) mw_231 hdg kk
end
theorem dX12_cameAt_28 : decode cX12_cameAt 28 = .ok (.sipush 222, 3) := by decide +kernel
theorem dX12_cameAt_31 : decode cX12_cameAt 31 = .ok (.iload_n 2, 1) := by decide +kernel
theorem dX12_cameAt_32 : decode cX12_cameAt 32 = .ok (.imul, 1) := by decide +kernel
theorem dX12_cameAt_33 : decode cX12_cameAt 33 = .ok (.iload 4, 2) := by decide +kernel
theorem dX12_cameAt_35 : decode cX12_cameAt 35 = .ok (.iadd, 1) := by decide +kernel
theorem dX12_cameAt_36 : decode cX12_cameAt 36 = .ok (.laload, 1) := by decide +kernel
section
variable {p : Program} {l : Launch} {e : Env} {R0 : Room} {s : State} {m : MethodId} {args : Array Value} {below : List Frame} {meth : Method} {c : Code} {H H0 : Heap} {locs : List Loc} {cells slots : Nat} {Q : State → Prop} {cc : ByteArray} {nL : Nat} {D : va_G} {cy : Nat → ClassId} {A : Nat → Prop} {L : List Nat} {R : Nat → Nat} {f : Nat → va_E} {pc : Nat} {ls : Array Slot} {rest : List Value} {a : Nat}
theorem ld_83 {own : String} (F : CallFix p m c cc nL s args wsL_law own) (h : tS D cy A H0 L R (TT cy L R) f s H locs) {i : Int32} (ha : a ∈ L) (hr : R a = 83) (hb : 0 ≤ i.toInt ∧ i.toInt < 44622) (hdg : decode cc pc = .ok (.laload, 1)) (kk : ∀ x : Int64, W p l e R0 s m args below meth c H locs cells slots Q (F0 m (pc + 1) ls (.long x :: rest))) : W p l e R0 s m args below meth c H locs cells slots Q (F0 m pc ls (.int i :: .ref a :: rest)) := tu_lald F h ha hr (fun e q => (T_83 e).mp q) hb.1 hb.2 hdg (fun x h1 h2 => kk x)
end
theorem dX12_cameAt_37 : decode cX12_cameAt 37 = .ok (.aload_n 0, 1) := by decide +kernel
theorem dX12_cameAt_38 : decode cX12_cameAt 38 = .ok (.getfield 100, 3) := by decide +kernel
theorem dX12_cameAt_41 : decode cX12_cameAt 41 = .ok (.sipush 222, 3) := by decide +kernel
theorem dX12_cameAt_44 : decode cX12_cameAt 44 = .ok (.iload_n 1, 1) := by decide +kernel
theorem dX12_cameAt_45 : decode cX12_cameAt 45 = .ok (.imul, 1) := by decide +kernel
theorem dX12_cameAt_46 : decode cX12_cameAt 46 = .ok (.iload 4, 2) := by decide +kernel
theorem dX12_cameAt_48 : decode cX12_cameAt 48 = .ok (.iadd, 1) := by decide +kernel
theorem dX12_cameAt_49 : decode cX12_cameAt 49 = .ok (.laload, 1) := by decide +kernel
theorem dX12_cameAt_50 : decode cX12_cameAt 50 = .ok (.lcmp, 1) := by decide +kernel
theorem dX12_cameAt_59 : decode cX12_cameAt 59 = .ok (.istore_n 3, 1) := by decide +kernel
theorem dX12_cameAt_60 : decode cX12_cameAt 60 = .ok (.iinc 4 1, 3) := by decide +kernel
theorem dX12_cameAt_63 : decode cX12_cameAt 63 = .ok (.goto (-51), 3) := by decide +kernel
theorem dX12_cameAt_51 : decode cX12_cameAt 51 = .ok (.ifCond .ne 7, 3) := by decide +kernel
theorem dX12_cameAt_58 : decode cX12_cameAt 58 = .ok (.iconst 0, 1) := by decide +kernel
theorem dX12_cameAt_54 : decode cX12_cameAt 54 = .ok (.iconst 1, 1) := by decide +kernel
theorem dX12_cameAt_55 : decode cX12_cameAt 55 = .ok (.goto 4, 3) := by decide +kernel
def rm_X12_cameAt : Room := { frames := 0, cells := 0, slots := 0, locals := 0 }
set_option maxHeartbeats 4000000 in
set_option maxRecDepth 100000 in
theorem s_X12_cameAt (l : Launch) (D : va_G) (cy : Nat → ClassId) (L : List Nat) (R O : Nat → Nat) (f0 : Nat → va_E) (a0 : Nat) (m_a0 : a0 ∈ L) (r_a0 : R a0 = 12) (x1 : Int32) (b1 : 0 ≤ x1.toInt ∧ x1.toInt ≤ 200) : ∀ sz, Met l yX12_cameAt (Cond.code yX12_cameAt cX12_cameAt 5 (some .int) :: wsL_law) rm_X12_cameAt (va_Pc [.ref a0, .int x1] (tPZ D cy L R (TT cy L R) f0 sz)) (va_Qi (fun (r : Int32) f1 => f0 = f1 ∧ (-1) ≤ r.toInt ∧ r.toInt ≤ 201) (tB D (tA L sz) L R (TT cy L R)) (tA L sz)) 0 0 (tA L sz) := by
  refine tw_enteri (by decide +kernel) rfl (Nat.le_of_ble_eq_true rfl) ?_
  intro p e s m below meth c A ls args Q F hZ h hl hret
  have hl : lv_has ls 5 [(0, .ref a0), (1, .int x1)] := hl
  refine tw_iconst F dX12_cameAt_0 ki_0 (fun z1 hz1 => ?_)
  refine lv_istore_n (lv' := [(2, .int z1), (0, .ref a0), (1, .int x1)]) F.1 F.2.1 dX12_cameAt_1 rfl hl (by decide) rfl (fun ls hl => ?_)
  have j_2 : ∀ (n2 : Nat) (ls : Array Slot) (x2_2 : Int32), 0 ≤ x2_2.toInt → x2_2.toInt ≤ 202 → ((202 - x2_2.toInt)).toNat < n2 → lv_has ls 5 [(0, .ref a0), (1, .int x1), (2, .int x2_2)] → W p l e rm_X12_cameAt s m args below meth c s.heap [] 0 0 Q (F0 m 2 ls []) := by
    intro n2
    induction n2 with
    | zero =>
      intro ls x2_2 b2 b3 b4 hl
      exfalso
      omega
    | succ n2 ih2 =>
      intro ls x2_2 b2 b3 b4 hl
      refine lv_iload_n F.1 F.2.1 dX12_cameAt_2 rfl (lv_at hl 2 rfl) ?_
      refine lv_iload_n F.1 F.2.1 dX12_cameAt_3 rfl (lv_at hl 1 rfl) ?_
      refine tw_icmp_ge (tgt := 78) F dX12_cameAt_4 (by decide) (fun b5 => ?_) (fun b5 => ?_)
      · refine tw_iconst F dX12_cameAt_78 ki_m1 (fun z6 hz6 => ?_)
        exact hret f0 _ _ _ _ z6 dX12_cameAt_79 rfl ⟨rfl, by omega, by omega⟩ h
      · refine tw_iconst F dX12_cameAt_7 ki_1 (fun z7 hz7 => ?_)
        refine lv_istore_n (lv' := [(3, .int z7), (0, .ref a0), (1, .int x1), (2, .int x2_2)]) F.1 F.2.1 dX12_cameAt_8 rfl hl (by decide) rfl (fun ls hl => ?_)
        refine tw_iconst F dX12_cameAt_9 ki_0 (fun z8 hz8 => ?_)
        refine lv_istore (lv' := [(4, .int z8), (3, .int z7), (0, .ref a0), (1, .int x1), (2, .int x2_2)]) F.1 F.2.1 dX12_cameAt_10 hl (by decide) rfl (fun ls hl => ?_)
        have j_12 : ∀ (n12 : Nat) (ls : Array Slot) (x3_12 : Int32) (x4_12 : Int32), 0 ≤ x3_12.toInt → x3_12.toInt ≤ 1 → 0 ≤ x4_12.toInt → x4_12.toInt ≤ 222 → ((222 - x4_12.toInt)).toNat < n12 → lv_has ls 5 [(0, .ref a0), (1, .int x1), (2, .int x2_2), (3, .int x3_12), (4, .int x4_12)] → W p l e rm_X12_cameAt s m args below meth c s.heap [] 0 0 Q (F0 m 12 ls []) := by
          intro n12
          induction n12 with
          | zero =>
            intro ls x3_12 x4_12 b9 b10 b11 b12 b13 hl
            exfalso
            omega
          | succ n12 ih12 =>
            intro ls x3_12 x4_12 b9 b10 b11 b12 b13 hl
            refine lv_iload F.1 F.2.1 dX12_cameAt_12 (lv_at hl 4 rfl) ?_
            refine tw_sipush F dX12_cameAt_14 ks_222 (fun z14 hz14 => ?_)
            have j_66 : ∀ (ls : Array Slot), lv_has ls 5 [(0, .ref a0), (1, .int x1), (2, .int x2_2), (3, .int x3_12)] → W p l e rm_X12_cameAt s m args below meth c s.heap [] 0 0 Q (F0 m 66 ls []) := by
              intro ls hl
              refine lv_iload_n F.1 F.2.1 dX12_cameAt_66 rfl (lv_at hl 3 rfl) ?_
              refine tw_if_eq (tgt := 72) F dX12_cameAt_67 (by decide) (fun b15 => ?_) (fun b15 => ?_)
              · refine tu_iinc F dX12_cameAt_72 hl (k := 2) rfl (by decide) ki_1 (by omega) (fun z16 ls hz16 hl => ?_)
                have hl : lv_has ls 5 [(2, .int z16), (0, .ref a0), (1, .int x1), (3, .int x3_12)] := hl
                refine lv_goto (tgt := 2) F.1 F.2.1 dX12_cameAt_75 (by decide) ?_
                exact ih2 _ z16 (by omega) (by omega) (by omega) (lv_sub hl [1, 2, 0] rfl)
              · refine lv_iload_n F.1 F.2.1 dX12_cameAt_70 rfl (lv_at hl 2 rfl) ?_
                exact hret f0 _ _ _ _ x2_2 dX12_cameAt_71 rfl ⟨rfl, by omega, by omega⟩ h
            refine tw_icmp_ge (tgt := 66) F dX12_cameAt_17 (by decide) (fun b17 => ?_) (fun b17 => ?_)
            · exact j_66 _ (lv_sub hl [0, 1, 2, 3] rfl)
            · refine lv_iload_n F.1 F.2.1 dX12_cameAt_20 rfl (lv_at hl 3 rfl) ?_
              refine tw_if_eq (tgt := 66) F dX12_cameAt_21 (by decide) (fun b18 => ?_) (fun b18 => ?_)
              · exact j_66 _ (lv_sub hl [0, 1, 2, 3] rfl)
              · refine lv_aload_n F.1 F.2.1 dX12_cameAt_24 rfl (lv_at hl 0 rfl) ?_
                refine g_12_100 F h m_a0 r_a0 dX12_cameAt_25 (fun o19 m_o19 r_o19 ho19 => ?_)
                refine tw_sipush F dX12_cameAt_28 ks_222 (fun z20 hz20 => ?_)
                refine lv_iload_n F.1 F.2.1 dX12_cameAt_31 rfl (lv_at hl 2 rfl) ?_
                refine tu_imull F dX12_cameAt_32 hz20 (by omega) (fun z21 hz21 => ?_)
                refine lv_iload F.1 F.2.1 dX12_cameAt_33 (lv_at hl 4 rfl) ?_
                refine tu_iadd F dX12_cameAt_35 (by omega) (fun z22 hz22 => ?_)
                refine ld_83 F h m_o19 r_o19 (by omega) dX12_cameAt_36 (fun v23 => ?_)
                refine lv_aload_n F.1 F.2.1 dX12_cameAt_37 rfl (lv_at hl 0 rfl) ?_
                refine g_12_100 F h m_a0 r_a0 dX12_cameAt_38 (fun o24 m_o24 r_o24 ho24 => ?_)
                refine tw_sipush F dX12_cameAt_41 ks_222 (fun z25 hz25 => ?_)
                refine lv_iload_n F.1 F.2.1 dX12_cameAt_44 rfl (lv_at hl 1 rfl) ?_
                refine tu_imull F dX12_cameAt_45 hz25 (by omega) (fun z26 hz26 => ?_)
                refine lv_iload F.1 F.2.1 dX12_cameAt_46 (lv_at hl 4 rfl) ?_
                refine tu_iadd F dX12_cameAt_48 (by omega) (fun z27 hz27 => ?_)
                refine ld_83 F h m_o24 r_o24 (by omega) dX12_cameAt_49 (fun v28 => ?_)
                refine tw_lcmp F dX12_cameAt_50 (fun z29 hz29 => ?_)
                have j_59 : ∀ (ls : Array Slot) (y0_59 : Int32), 0 ≤ y0_59.toInt → y0_59.toInt ≤ 1 → lv_has ls 5 [(0, .ref a0), (1, .int x1), (2, .int x2_2), (4, .int x4_12)] → W p l e rm_X12_cameAt s m args below meth c s.heap [] 0 0 Q (F0 m 59 ls [.int y0_59]) := by
                  intro ls y0_59 b30 b31 hl
                  refine lv_istore_n (lv' := [(3, .int y0_59), (0, .ref a0), (1, .int x1), (2, .int x2_2), (4, .int x4_12)]) F.1 F.2.1 dX12_cameAt_59 rfl hl (by decide) rfl (fun ls hl => ?_)
                  refine tu_iinc F dX12_cameAt_60 hl (k := 4) rfl (by decide) ki_1 (by omega) (fun z32 ls hz32 hl => ?_)
                  have hl : lv_has ls 5 [(4, .int z32), (3, .int y0_59), (0, .ref a0), (1, .int x1), (2, .int x2_2)] := hl
                  refine lv_goto (tgt := 12) F.1 F.2.1 dX12_cameAt_63 (by decide) ?_
                  exact ih12 _ y0_59 z32 (by omega) (by omega) (by omega) (by omega) (by omega) (lv_sub hl [2, 3, 4, 1, 0] rfl)
                refine tw_if_ne (tgt := 58) F dX12_cameAt_51 (by decide) (fun b33 => ?_) (fun b33 => ?_)
                · refine tw_iconst F dX12_cameAt_58 ki_0 (fun z34 hz34 => ?_)
                  exact j_59 _ z34 (by omega) (by omega) (lv_sub hl [0, 1, 2, 4] rfl)
                · refine tw_iconst F dX12_cameAt_54 ki_1 (fun z35 hz35 => ?_)
                  refine lv_goto (tgt := 59) F.1 F.2.1 dX12_cameAt_55 (by decide) ?_
                  exact j_59 _ z35 (by omega) (by omega) (lv_sub hl [0, 1, 2, 4] rfl)
        exact j_12 (((222 - z8.toInt)).toNat + 1) _ z7 z8 (by omega) (by omega) (by omega) (by omega) (by omega) (lv_sub hl [2, 3, 4, 1, 0] rfl)
  exact j_2 (((202 - z1.toInt)).toNat + 1) _ z1 (by omega) (by omega) (by omega) (lv_sub hl [1, 2, 0] rfl)
theorem dX12_ahead1_0 : decode cX12_ahead1 0 = .ok (.iconst 0, 1) := by decide +kernel
theorem dX12_ahead1_1 : decode cX12_ahead1 1 = .ok (.istore_n 2, 1) := by decide +kernel
theorem dX12_ahead1_2 : decode cX12_ahead1 2 = .ok (.iconst 0, 1) := by decide +kernel
theorem dX12_ahead1_3 : decode cX12_ahead1 3 = .ok (.istore_n 3, 1) := by decide +kernel
theorem dX12_ahead1_4 : decode cX12_ahead1 4 = .ok (.iload_n 3, 1) := by decide +kernel
theorem dX12_ahead1_5 : decode cX12_ahead1 5 = .ok (.iload_n 1, 1) := by decide +kernel
theorem dX12_ahead1_6 : decode cX12_ahead1 6 = .ok (.if_icmp .ge 123, 3) := by decide +kernel
theorem dX12_ahead1_129 : decode cX12_ahead1 129 = .ok (.iload_n 2, 1) := by decide +kernel
theorem dX12_ahead1_130 : decode cX12_ahead1 130 = .ok (.ireturn, 1) := by decide +kernel
theorem dX12_ahead1_9 : decode cX12_ahead1 9 = .ok (.aload_n 0, 1) := by decide +kernel
theorem dX12_ahead1_10 : decode cX12_ahead1 10 = .ok (.getfield 87, 3) := by decide +kernel
theorem mw_226 : Cond.fieldLink RX12 87 "AskBackModel" "talkKind" "[I" ∈ wsL_law := inr_10 _ (List.mem_of_getElem? (i := 10) rfl)
section
variable {p : Program} {l : Launch} {e : Env} {R0 : Room} {s : State} {m : MethodId} {args : Array Value} {below : List Frame} {meth : Method} {c : Code} {H H0 : Heap} {locs : List Loc} {cells slots : Nat} {Q : State → Prop} {cc : ByteArray} {nL : Nat} {D : va_G} {cy : Nat → ClassId} {A : Nat → Prop} {L : List Nat} {R : Nat → Nat} {f : Nat → va_E} {pc : Nat} {ls : Array Slot} {rest : List Value} {a : Nat}
theorem g_12_87 (F : CallFix p m c cc nL s args wsL_law RX12) (h : tS D cy A H0 L R (TT cy L R) f s H locs) (ha : a ∈ L) (hr : R a = 12) (hdg : decode cc pc = .ok (.getfield 87, 3)) (kk : ∀ b : Nat, b ∈ L → R b = 79 → fld f a 49 = .ref b → W p l e R0 s m args below meth c H locs cells slots Q (F0 m (pc + 3) ls (.ref b :: rest))) : W p l e R0 s m args below meth c H locs cells slots Q (F0 m pc ls (.ref a :: rest)) := tu_getr F h ha hr (fun e q => (T_12 e).mp q) rfl inlX12 rfl (Nat.le_of_ble_eq_true rfl) mw_226 hdg kk
end
theorem dX12_ahead1_13 : decode cX12_ahead1 13 = .ok (.iload_n 1, 1) := by decide +kernel
theorem dX12_ahead1_14 : decode cX12_ahead1 14 = .ok (.iaload, 1) := by decide +kernel
section
variable {p : Program} {l : Launch} {e : Env} {R0 : Room} {s : State} {m : MethodId} {args : Array Value} {below : List Frame} {meth : Method} {c : Code} {H H0 : Heap} {locs : List Loc} {cells slots : Nat} {Q : State → Prop} {cc : ByteArray} {nL : Nat} {D : va_G} {cy : Nat → ClassId} {A : Nat → Prop} {L : List Nat} {R : Nat → Nat} {f : Nat → va_E} {pc : Nat} {ls : Array Slot} {rest : List Value} {a : Nat}
theorem ld_79 {own : String} (F : CallFix p m c cc nL s args wsL_law own) (h : tS D cy A H0 L R (TT cy L R) f s H locs) {i : Int32} (ha : a ∈ L) (hr : R a = 79) (hb : 0 ≤ i.toInt ∧ i.toInt < 20) (hdg : decode cc pc = .ok (.iaload, 1)) (kk : ∀ x : Int32, W p l e R0 s m args below meth c H locs cells slots Q (F0 m (pc + 1) ls (.int x :: rest))) : W p l e R0 s m args below meth c H locs cells slots Q (F0 m pc ls (.int i :: .ref a :: rest)) := tu_iald F h ha hr (fun e q => (T_79 e).mp q) hb.1 hb.2 hdg (fun x h1 h2 => kk x)
end
theorem dX12_ahead1_15 : decode cX12_ahead1 15 = .ok (.iconst 5, 1) := by decide +kernel
theorem dX12_ahead1_16 : decode cX12_ahead1 16 = .ok (.if_icmp .eq 113, 3) := by decide +kernel
theorem dX12_ahead1_19 : decode cX12_ahead1 19 = .ok (.aload_n 0, 1) := by decide +kernel
theorem dX12_ahead1_20 : decode cX12_ahead1 20 = .ok (.getfield 87, 3) := by decide +kernel
theorem dX12_ahead1_23 : decode cX12_ahead1 23 = .ok (.iload_n 3, 1) := by decide +kernel
theorem dX12_ahead1_24 : decode cX12_ahead1 24 = .ok (.iaload, 1) := by decide +kernel
theorem dX12_ahead1_25 : decode cX12_ahead1 25 = .ok (.iconst 5, 1) := by decide +kernel
theorem dX12_ahead1_34 : decode cX12_ahead1 34 = .ok (.istore 4, 2) := by decide +kernel
theorem dX12_ahead1_36 : decode cX12_ahead1 36 = .ok (.iconst 0, 1) := by decide +kernel
theorem dX12_ahead1_37 : decode cX12_ahead1 37 = .ok (.istore 5, 2) := by decide +kernel
theorem dX12_ahead1_39 : decode cX12_ahead1 39 = .ok (.iload 5, 2) := by decide +kernel
theorem dX12_ahead1_41 : decode cX12_ahead1 41 = .ok (.i2l, 1) := by decide +kernel
theorem dX12_ahead1_42 : decode cX12_ahead1 42 = .ok (.aload_n 0, 1) := by decide +kernel
theorem dX12_ahead1_43 : decode cX12_ahead1 43 = .ok (.getfield 84, 3) := by decide +kernel
theorem mw_225 : Cond.fieldLink RX12 84 "AskBackModel" "talk" "[J" ∈ wsL_law := inr_10 _ (List.mem_of_getElem? (i := 9) rfl)
section
variable {p : Program} {l : Launch} {e : Env} {R0 : Room} {s : State} {m : MethodId} {args : Array Value} {below : List Frame} {meth : Method} {c : Code} {H H0 : Heap} {locs : List Loc} {cells slots : Nat} {Q : State → Prop} {cc : ByteArray} {nL : Nat} {D : va_G} {cy : Nat → ClassId} {A : Nat → Prop} {L : List Nat} {R : Nat → Nat} {f : Nat → va_E} {pc : Nat} {ls : Array Slot} {rest : List Value} {a : Nat}
theorem g_12_84 (F : CallFix p m c cc nL s args wsL_law RX12) (h : tS D cy A H0 L R (TT cy L R) f s H locs) (ha : a ∈ L) (hr : R a = 12) (hdg : decode cc pc = .ok (.getfield 84, 3)) (kk : ∀ b : Nat, b ∈ L → R b = 78 → fld f a 48 = .ref b → W p l e R0 s m args below meth c H locs cells slots Q (F0 m (pc + 3) ls (.ref b :: rest))) : W p l e R0 s m args below meth c H locs cells slots Q (F0 m pc ls (.ref a :: rest)) := tu_getr F h ha hr (fun e q => (T_12 e).mp q) rfl inlX12 rfl (Nat.le_of_ble_eq_true rfl) mw_225 hdg kk
end
theorem dX12_ahead1_46 : decode cX12_ahead1 46 = .ok (.bipush 26, 2) := by decide +kernel
theorem kb_26 : (Int8.ofInt 26).toInt32.toInt = 26 := by decide
theorem dX12_ahead1_48 : decode cX12_ahead1 48 = .ok (.iload_n 1, 1) := by decide +kernel
theorem dX12_ahead1_49 : decode cX12_ahead1 49 = .ok (.imul, 1) := by decide +kernel
theorem dX12_ahead1_50 : decode cX12_ahead1 50 = .ok (.bipush 13, 2) := by decide +kernel
theorem dX12_ahead1_52 : decode cX12_ahead1 52 = .ok (.iadd, 1) := by decide +kernel
theorem dX12_ahead1_53 : decode cX12_ahead1 53 = .ok (.laload, 1) := by decide +kernel
section
variable {p : Program} {l : Launch} {e : Env} {R0 : Room} {s : State} {m : MethodId} {args : Array Value} {below : List Frame} {meth : Method} {c : Code} {H H0 : Heap} {locs : List Loc} {cells slots : Nat} {Q : State → Prop} {cc : ByteArray} {nL : Nat} {D : va_G} {cy : Nat → ClassId} {A : Nat → Prop} {L : List Nat} {R : Nat → Nat} {f : Nat → va_E} {pc : Nat} {ls : Array Slot} {rest : List Value} {a : Nat}
theorem ld_78 {own : String} (F : CallFix p m c cc nL s args wsL_law own) (h : tS D cy A H0 L R (TT cy L R) f s H locs) {i : Int32} (ha : a ∈ L) (hr : R a = 78) (hb : 0 ≤ i.toInt ∧ i.toInt < 520) (hdg : decode cc pc = .ok (.laload, 1)) (kk : ∀ x : Int64, taP i.toInt.toNat x.toInt → W p l e R0 s m args below meth c H locs cells slots Q (F0 m (pc + 1) ls (.long x :: rest))) : W p l e R0 s m args below meth c H locs cells slots Q (F0 m pc ls (.int i :: .ref a :: rest)) := tu_lald F h ha hr (fun e q => (T_78 e).mp q) hb.1 hb.2 hdg (fun x h1 h2 => kk x h1)
end
theorem dX12_ahead1_54 : decode cX12_ahead1 54 = .ok (.lcmp, 1) := by decide +kernel
theorem dX12_ahead1_55 : decode cX12_ahead1 55 = .ok (.ifCond .gt 55, 3) := by decide +kernel
theorem dX12_ahead1_110 : decode cX12_ahead1 110 = .ok (.iload_n 2, 1) := by decide +kernel
theorem dX12_ahead1_111 : decode cX12_ahead1 111 = .ok (.iload 4, 2) := by decide +kernel
theorem dX12_ahead1_121 : decode cX12_ahead1 121 = .ok (.iadd, 1) := by decide +kernel
theorem dX12_ahead1_122 : decode cX12_ahead1 122 = .ok (.istore_n 2, 1) := by decide +kernel
theorem dX12_ahead1_123 : decode cX12_ahead1 123 = .ok (.iinc 3 1, 3) := by decide +kernel
theorem dX12_ahead1_126 : decode cX12_ahead1 126 = .ok (.goto (-122), 3) := by decide +kernel
theorem dX12_ahead1_113 : decode cX12_ahead1 113 = .ok (.ifCond .eq 7, 3) := by decide +kernel
theorem dX12_ahead1_120 : decode cX12_ahead1 120 = .ok (.iconst 0, 1) := by decide +kernel
theorem dX12_ahead1_116 : decode cX12_ahead1 116 = .ok (.iconst 1, 1) := by decide +kernel
theorem dX12_ahead1_117 : decode cX12_ahead1 117 = .ok (.goto 4, 3) := by decide +kernel
theorem dX12_ahead1_58 : decode cX12_ahead1 58 = .ok (.iload 4, 2) := by decide +kernel
theorem dX12_ahead1_102 : decode cX12_ahead1 102 = .ok (.istore 4, 2) := by decide +kernel
theorem dX12_ahead1_104 : decode cX12_ahead1 104 = .ok (.iinc 5 1, 3) := by decide +kernel
theorem dX12_ahead1_107 : decode cX12_ahead1 107 = .ok (.goto (-68), 3) := by decide +kernel
theorem dX12_ahead1_101 : decode cX12_ahead1 101 = .ok (.iconst 0, 1) := by decide +kernel
theorem dX12_ahead1_60 : decode cX12_ahead1 60 = .ok (.ifCond .eq 41, 3) := by decide +kernel
theorem dX12_ahead1_63 : decode cX12_ahead1 63 = .ok (.aload_n 0, 1) := by decide +kernel
theorem dX12_ahead1_64 : decode cX12_ahead1 64 = .ok (.getfield 84, 3) := by decide +kernel
theorem dX12_ahead1_67 : decode cX12_ahead1 67 = .ok (.bipush 26, 2) := by decide +kernel
theorem dX12_ahead1_69 : decode cX12_ahead1 69 = .ok (.iload_n 3, 1) := by decide +kernel
theorem dX12_ahead1_70 : decode cX12_ahead1 70 = .ok (.imul, 1) := by decide +kernel
theorem dX12_ahead1_71 : decode cX12_ahead1 71 = .ok (.bipush 13, 2) := by decide +kernel
theorem dX12_ahead1_73 : decode cX12_ahead1 73 = .ok (.iadd, 1) := by decide +kernel
theorem dX12_ahead1_74 : decode cX12_ahead1 74 = .ok (.iload 5, 2) := by decide +kernel
theorem dX12_ahead1_76 : decode cX12_ahead1 76 = .ok (.iadd, 1) := by decide +kernel
theorem dX12_ahead1_77 : decode cX12_ahead1 77 = .ok (.laload, 1) := by decide +kernel
theorem dX12_ahead1_78 : decode cX12_ahead1 78 = .ok (.aload_n 0, 1) := by decide +kernel
theorem dX12_ahead1_79 : decode cX12_ahead1 79 = .ok (.getfield 84, 3) := by decide +kernel
theorem dX12_ahead1_82 : decode cX12_ahead1 82 = .ok (.bipush 26, 2) := by decide +kernel
theorem dX12_ahead1_84 : decode cX12_ahead1 84 = .ok (.iload_n 1, 1) := by decide +kernel
theorem dX12_ahead1_85 : decode cX12_ahead1 85 = .ok (.imul, 1) := by decide +kernel
theorem dX12_ahead1_86 : decode cX12_ahead1 86 = .ok (.bipush 13, 2) := by decide +kernel
theorem dX12_ahead1_88 : decode cX12_ahead1 88 = .ok (.iadd, 1) := by decide +kernel
theorem dX12_ahead1_89 : decode cX12_ahead1 89 = .ok (.iload 5, 2) := by decide +kernel
theorem dX12_ahead1_91 : decode cX12_ahead1 91 = .ok (.iadd, 1) := by decide +kernel
theorem dX12_ahead1_92 : decode cX12_ahead1 92 = .ok (.laload, 1) := by decide +kernel
theorem dX12_ahead1_93 : decode cX12_ahead1 93 = .ok (.lcmp, 1) := by decide +kernel
theorem dX12_ahead1_94 : decode cX12_ahead1 94 = .ok (.ifCond .ne 7, 3) := by decide +kernel
theorem dX12_ahead1_97 : decode cX12_ahead1 97 = .ok (.iconst 1, 1) := by decide +kernel
theorem dX12_ahead1_98 : decode cX12_ahead1 98 = .ok (.goto 4, 3) := by decide +kernel
theorem dX12_ahead1_26 : decode cX12_ahead1 26 = .ok (.if_icmp .eq 7, 3) := by decide +kernel
theorem dX12_ahead1_33 : decode cX12_ahead1 33 = .ok (.iconst 0, 1) := by decide +kernel
theorem dX12_ahead1_29 : decode cX12_ahead1 29 = .ok (.iconst 1, 1) := by decide +kernel
theorem dX12_ahead1_30 : decode cX12_ahead1 30 = .ok (.goto 4, 3) := by decide +kernel
def rm_X12_ahead1 : Room := { frames := 0, cells := 0, slots := 0, locals := 0 }
set_option maxHeartbeats 4000000 in
set_option maxRecDepth 100000 in
theorem s_X12_ahead1 (l : Launch) (D : va_G) (cy : Nat → ClassId) (L : List Nat) (R O : Nat → Nat) (f0 : Nat → va_E) (a0 : Nat) (m_a0 : a0 ∈ L) (r_a0 : R a0 = 12) (x1 : Int32) (b1 : 0 ≤ x1.toInt ∧ x1.toInt ≤ 14) : ∀ sz, Met l yX12_ahead1 (Cond.code yX12_ahead1 cX12_ahead1 6 (some .int) :: wsL_law) rm_X12_ahead1 (va_Pc [.ref a0, .int x1] (tPZ D cy L R (TT cy L R) f0 sz)) (va_Qi (fun (r : Int32) f1 => f0 = f1) (tB D (tA L sz) L R (TT cy L R)) (tA L sz)) 0 0 (tA L sz) := by
  refine tw_enteri (by decide +kernel) rfl (Nat.le_of_ble_eq_true rfl) ?_
  intro p e s m below meth c A ls args Q F hZ h hl hret
  have hl : lv_has ls 6 [(0, .ref a0), (1, .int x1)] := hl
  refine tw_iconst F dX12_ahead1_0 ki_0 (fun z1 hz1 => ?_)
  refine lv_istore_n (lv' := [(2, .int z1), (0, .ref a0), (1, .int x1)]) F.1 F.2.1 dX12_ahead1_1 rfl hl (by decide) rfl (fun ls hl => ?_)
  refine tw_iconst F dX12_ahead1_2 ki_0 (fun z2 hz2 => ?_)
  refine lv_istore_n (lv' := [(3, .int z2), (2, .int z1), (0, .ref a0), (1, .int x1)]) F.1 F.2.1 dX12_ahead1_3 rfl hl (by decide) rfl (fun ls hl => ?_)
  have j_4 : ∀ (n4 : Nat) (ls : Array Slot) (x2_4 : Int32) (x3_4 : Int32), 0 ≤ x3_4.toInt → x3_4.toInt ≤ 14 → ((14 - x3_4.toInt)).toNat < n4 → lv_has ls 6 [(0, .ref a0), (1, .int x1), (2, .int x2_4), (3, .int x3_4)] → W p l e rm_X12_ahead1 s m args below meth c s.heap [] 0 0 Q (F0 m 4 ls []) := by
    intro n4
    induction n4 with
    | zero =>
      intro ls x2_4 x3_4 b3 b4 b5 hl
      exfalso
      omega
    | succ n4 ih4 =>
      intro ls x2_4 x3_4 b3 b4 b5 hl
      refine lv_iload_n F.1 F.2.1 dX12_ahead1_4 rfl (lv_at hl 3 rfl) ?_
      refine lv_iload_n F.1 F.2.1 dX12_ahead1_5 rfl (lv_at hl 1 rfl) ?_
      refine tw_icmp_ge (tgt := 129) F dX12_ahead1_6 (by decide) (fun b6 => ?_) (fun b6 => ?_)
      · refine lv_iload_n F.1 F.2.1 dX12_ahead1_129 rfl (lv_at hl 2 rfl) ?_
        exact hret f0 _ _ _ _ x2_4 dX12_ahead1_130 rfl rfl h
      · refine lv_aload_n F.1 F.2.1 dX12_ahead1_9 rfl (lv_at hl 0 rfl) ?_
        refine g_12_87 F h m_a0 r_a0 dX12_ahead1_10 (fun o7 m_o7 r_o7 ho7 => ?_)
        refine lv_iload_n F.1 F.2.1 dX12_ahead1_13 rfl (lv_at hl 1 rfl) ?_
        refine ld_79 F h m_o7 r_o7 (by omega) dX12_ahead1_14 (fun v8 => ?_)
        refine tw_iconst F dX12_ahead1_15 ki_5 (fun z9 hz9 => ?_)
        refine tw_icmp_eq (tgt := 129) F dX12_ahead1_16 (by decide) (fun b10 => ?_) (fun b10 => ?_)
        · refine lv_iload_n F.1 F.2.1 dX12_ahead1_129 rfl (lv_at hl 2 rfl) ?_
          exact hret f0 _ _ _ _ x2_4 dX12_ahead1_130 rfl rfl h
        · refine lv_aload_n F.1 F.2.1 dX12_ahead1_19 rfl (lv_at hl 0 rfl) ?_
          refine g_12_87 F h m_a0 r_a0 dX12_ahead1_20 (fun o11 m_o11 r_o11 ho11 => ?_)
          refine lv_iload_n F.1 F.2.1 dX12_ahead1_23 rfl (lv_at hl 3 rfl) ?_
          refine ld_79 F h m_o11 r_o11 (by omega) dX12_ahead1_24 (fun v12 => ?_)
          refine tw_iconst F dX12_ahead1_25 ki_5 (fun z13 hz13 => ?_)
          have j_34 : ∀ (ls : Array Slot) (y0_34 : Int32), 0 ≤ y0_34.toInt → y0_34.toInt ≤ 1 → lv_has ls 6 [(0, .ref a0), (1, .int x1), (2, .int x2_4), (3, .int x3_4)] → W p l e rm_X12_ahead1 s m args below meth c s.heap [] 0 0 Q (F0 m 34 ls [.int y0_34]) := by
            intro ls y0_34 b14 b15 hl
            refine lv_istore (lv' := [(4, .int y0_34), (0, .ref a0), (1, .int x1), (2, .int x2_4), (3, .int x3_4)]) F.1 F.2.1 dX12_ahead1_34 hl (by decide) rfl (fun ls hl => ?_)
            refine tw_iconst F dX12_ahead1_36 ki_0 (fun z16 hz16 => ?_)
            refine lv_istore (lv' := [(5, .int z16), (4, .int y0_34), (0, .ref a0), (1, .int x1), (2, .int x2_4), (3, .int x3_4)]) F.1 F.2.1 dX12_ahead1_37 hl (by decide) rfl (fun ls hl => ?_)
            have j_39 : ∀ (n39 : Nat) (ls : Array Slot) (x4_39 : Int32) (x5_39 : Int32), 0 ≤ x4_39.toInt → x4_39.toInt ≤ 1 → 0 ≤ x5_39.toInt → x5_39.toInt ≤ 13 → ((13 - x5_39.toInt)).toNat < n39 → lv_has ls 6 [(0, .ref a0), (1, .int x1), (2, .int x2_4), (3, .int x3_4), (4, .int x4_39), (5, .int x5_39)] → W p l e rm_X12_ahead1 s m args below meth c s.heap [] 0 0 Q (F0 m 39 ls []) := by
              intro n39
              induction n39 with
              | zero =>
                intro ls x4_39 x5_39 b17 b18 b19 b20 b21 hl
                exfalso
                omega
              | succ n39 ih39 =>
                intro ls x4_39 x5_39 b17 b18 b19 b20 b21 hl
                refine lv_iload F.1 F.2.1 dX12_ahead1_39 (lv_at hl 5 rfl) ?_
                refine tw_i2l F dX12_ahead1_41 (fun z22 hz22 => ?_)
                refine lv_aload_n F.1 F.2.1 dX12_ahead1_42 rfl (lv_at hl 0 rfl) ?_
                refine g_12_84 F h m_a0 r_a0 dX12_ahead1_43 (fun o23 m_o23 r_o23 ho23 => ?_)
                refine tw_bipush F dX12_ahead1_46 kb_26 (fun z24 hz24 => ?_)
                refine lv_iload_n F.1 F.2.1 dX12_ahead1_48 rfl (lv_at hl 1 rfl) ?_
                refine tu_imull F dX12_ahead1_49 hz24 (by omega) (fun z25 hz25 => ?_)
                refine tw_bipush F dX12_ahead1_50 kb_13 (fun z26 hz26 => ?_)
                refine tu_iadd F dX12_ahead1_52 (by omega) (fun z27 hz27 => ?_)
                refine ld_78 F h m_o23 r_o23 (by omega) dX12_ahead1_53 (fun v28 hv28a => ?_)
                have hv28b := hv28a (by omega)
                refine tw_lcmp F dX12_ahead1_54 (fun z29 hz29 => ?_)
                refine tw_if_gt (tgt := 110) F dX12_ahead1_55 (by decide) (fun b30 => ?_) (fun b30 => ?_)
                · refine lv_iload_n F.1 F.2.1 dX12_ahead1_110 rfl (lv_at hl 2 rfl) ?_
                  refine lv_iload F.1 F.2.1 dX12_ahead1_111 (lv_at hl 4 rfl) ?_
                  have j_121 : ∀ (ls : Array Slot) (y0_121 : Int32), 0 ≤ y0_121.toInt → y0_121.toInt ≤ 1 → lv_has ls 6 [(0, .ref a0), (1, .int x1), (3, .int x3_4)] → W p l e rm_X12_ahead1 s m args below meth c s.heap [] 0 0 Q (F0 m 121 ls [.int y0_121, .int x2_4]) := by
                    intro ls y0_121 b31 b32 hl
                    refine lv_iadd F.1 F.2.1 dX12_ahead1_121 ?_
                    refine lv_topi (fun z33 _ => ?_)
                    refine lv_istore_n (lv' := [(2, .int z33), (0, .ref a0), (1, .int x1), (3, .int x3_4)]) F.1 F.2.1 dX12_ahead1_122 rfl hl (by decide) rfl (fun ls hl => ?_)
                    refine tu_iinc F dX12_ahead1_123 hl (k := 3) rfl (by decide) ki_1 (by omega) (fun z34 ls hz34 hl => ?_)
                    have hl : lv_has ls 6 [(3, .int z34), (2, .int z33), (0, .ref a0), (1, .int x1)] := hl
                    refine lv_goto (tgt := 4) F.1 F.2.1 dX12_ahead1_126 (by decide) ?_
                    exact ih4 _ z33 z34 (by omega) (by omega) (by omega) (lv_sub hl [2, 3, 1, 0] rfl)
                  refine tw_if_eq (tgt := 120) F dX12_ahead1_113 (by decide) (fun b35 => ?_) (fun b35 => ?_)
                  · refine tw_iconst F dX12_ahead1_120 ki_0 (fun z36 hz36 => ?_)
                    exact j_121 _ z36 (by omega) (by omega) (lv_sub hl [0, 1, 3] rfl)
                  · refine tw_iconst F dX12_ahead1_116 ki_1 (fun z37 hz37 => ?_)
                    refine lv_goto (tgt := 121) F.1 F.2.1 dX12_ahead1_117 (by decide) ?_
                    exact j_121 _ z37 (by omega) (by omega) (lv_sub hl [0, 1, 3] rfl)
                · refine lv_iload F.1 F.2.1 dX12_ahead1_58 (lv_at hl 4 rfl) ?_
                  have j_102 : ∀ (ls : Array Slot) (y0_102 : Int32), 0 ≤ y0_102.toInt → y0_102.toInt ≤ 1 → lv_has ls 6 [(0, .ref a0), (1, .int x1), (2, .int x2_4), (3, .int x3_4), (5, .int x5_39)] → W p l e rm_X12_ahead1 s m args below meth c s.heap [] 0 0 Q (F0 m 102 ls [.int y0_102]) := by
                    intro ls y0_102 b38 b39 hl
                    refine lv_istore (lv' := [(4, .int y0_102), (0, .ref a0), (1, .int x1), (2, .int x2_4), (3, .int x3_4), (5, .int x5_39)]) F.1 F.2.1 dX12_ahead1_102 hl (by decide) rfl (fun ls hl => ?_)
                    refine tu_iinc F dX12_ahead1_104 hl (k := 5) rfl (by decide) ki_1 (by omega) (fun z40 ls hz40 hl => ?_)
                    have hl : lv_has ls 6 [(5, .int z40), (4, .int y0_102), (0, .ref a0), (1, .int x1), (2, .int x2_4), (3, .int x3_4)] := hl
                    refine lv_goto (tgt := 39) F.1 F.2.1 dX12_ahead1_107 (by decide) ?_
                    exact ih39 _ y0_102 z40 (by omega) (by omega) (by omega) (by omega) (by omega) (lv_sub hl [2, 3, 4, 5, 1, 0] rfl)
                  have j_101 : ∀ (ls : Array Slot), lv_has ls 6 [(0, .ref a0), (1, .int x1), (2, .int x2_4), (3, .int x3_4), (5, .int x5_39)] → W p l e rm_X12_ahead1 s m args below meth c s.heap [] 0 0 Q (F0 m 101 ls []) := by
                    intro ls hl
                    refine tw_iconst F dX12_ahead1_101 ki_0 (fun z41 hz41 => ?_)
                    exact j_102 _ z41 (by omega) (by omega) (lv_sub hl [0, 1, 2, 3, 4] rfl)
                  refine tw_if_eq (tgt := 101) F dX12_ahead1_60 (by decide) (fun b42 => ?_) (fun b42 => ?_)
                  · exact j_101 _ (lv_sub hl [0, 1, 2, 3, 5] rfl)
                  · refine lv_aload_n F.1 F.2.1 dX12_ahead1_63 rfl (lv_at hl 0 rfl) ?_
                    refine g_12_84 F h m_a0 r_a0 dX12_ahead1_64 (fun o43 m_o43 r_o43 ho43 => ?_)
                    refine tw_bipush F dX12_ahead1_67 kb_26 (fun z44 hz44 => ?_)
                    refine lv_iload_n F.1 F.2.1 dX12_ahead1_69 rfl (lv_at hl 3 rfl) ?_
                    refine tu_imull F dX12_ahead1_70 hz44 (by omega) (fun z45 hz45 => ?_)
                    refine tw_bipush F dX12_ahead1_71 kb_13 (fun z46 hz46 => ?_)
                    refine tu_iadd F dX12_ahead1_73 (by omega) (fun z47 hz47 => ?_)
                    refine lv_iload F.1 F.2.1 dX12_ahead1_74 (lv_at hl 5 rfl) ?_
                    refine tu_iadd F dX12_ahead1_76 (by omega) (fun z48 hz48 => ?_)
                    refine ld_78 F h m_o43 r_o43 (by omega) dX12_ahead1_77 (fun v49 hv49a => ?_)
                    refine lv_aload_n F.1 F.2.1 dX12_ahead1_78 rfl (lv_at hl 0 rfl) ?_
                    refine g_12_84 F h m_a0 r_a0 dX12_ahead1_79 (fun o50 m_o50 r_o50 ho50 => ?_)
                    refine tw_bipush F dX12_ahead1_82 kb_26 (fun z51 hz51 => ?_)
                    refine lv_iload_n F.1 F.2.1 dX12_ahead1_84 rfl (lv_at hl 1 rfl) ?_
                    refine tu_imull F dX12_ahead1_85 hz51 (by omega) (fun z52 hz52 => ?_)
                    refine tw_bipush F dX12_ahead1_86 kb_13 (fun z53 hz53 => ?_)
                    refine tu_iadd F dX12_ahead1_88 (by omega) (fun z54 hz54 => ?_)
                    refine lv_iload F.1 F.2.1 dX12_ahead1_89 (lv_at hl 5 rfl) ?_
                    refine tu_iadd F dX12_ahead1_91 (by omega) (fun z55 hz55 => ?_)
                    refine ld_78 F h m_o50 r_o50 (by omega) dX12_ahead1_92 (fun v56 hv56a => ?_)
                    refine tw_lcmp F dX12_ahead1_93 (fun z57 hz57 => ?_)
                    refine tw_if_ne (tgt := 101) F dX12_ahead1_94 (by decide) (fun b58 => ?_) (fun b58 => ?_)
                    · exact j_101 _ (lv_sub hl [0, 1, 2, 3, 5] rfl)
                    · refine tw_iconst F dX12_ahead1_97 ki_1 (fun z59 hz59 => ?_)
                      refine lv_goto (tgt := 102) F.1 F.2.1 dX12_ahead1_98 (by decide) ?_
                      exact j_102 _ z59 (by omega) (by omega) (lv_sub hl [0, 1, 2, 3, 5] rfl)
            exact j_39 (((13 - z16.toInt)).toNat + 1) _ y0_34 z16 (by omega) (by omega) (by omega) (by omega) (by omega) (lv_sub hl [2, 3, 4, 5, 1, 0] rfl)
          refine tw_icmp_eq (tgt := 33) F dX12_ahead1_26 (by decide) (fun b60 => ?_) (fun b60 => ?_)
          · refine tw_iconst F dX12_ahead1_33 ki_0 (fun z61 hz61 => ?_)
            exact j_34 _ z61 (by omega) (by omega) (lv_sub hl [0, 1, 2, 3] rfl)
          · refine tw_iconst F dX12_ahead1_29 ki_1 (fun z62 hz62 => ?_)
            refine lv_goto (tgt := 34) F.1 F.2.1 dX12_ahead1_30 (by decide) ?_
            exact j_34 _ z62 (by omega) (by omega) (lv_sub hl [0, 1, 2, 3] rfl)
  exact j_4 (((14 - z2.toInt)).toNat + 1) _ z1 z2 (by omega) (by omega) (by omega) (lv_sub hl [2, 3, 1, 0] rfl)
theorem dX12_isAgainst_0 : decode cX12_isAgainst 0 = .ok (.bipush 26, 2) := by decide +kernel
theorem dX12_isAgainst_2 : decode cX12_isAgainst 2 = .ok (.iload_n 2, 1) := by decide +kernel
theorem dX12_isAgainst_3 : decode cX12_isAgainst 3 = .ok (.imul, 1) := by decide +kernel
theorem dX12_isAgainst_4 : decode cX12_isAgainst 4 = .ok (.bipush 13, 2) := by decide +kernel
theorem dX12_isAgainst_6 : decode cX12_isAgainst 6 = .ok (.iadd, 1) := by decide +kernel
theorem dX12_isAgainst_7 : decode cX12_isAgainst 7 = .ok (.istore_n 3, 1) := by decide +kernel
theorem dX12_isAgainst_8 : decode cX12_isAgainst 8 = .ok (.iload_n 1, 1) := by decide +kernel
theorem dX12_isAgainst_9 : decode cX12_isAgainst 9 = .ok (.ifCond .ne 19, 3) := by decide +kernel
theorem dX12_isAgainst_28 : decode cX12_isAgainst 28 = .ok (.iload_n 1, 1) := by decide +kernel
theorem dX12_isAgainst_29 : decode cX12_isAgainst 29 = .ok (.iconst 1, 1) := by decide +kernel
theorem dX12_isAgainst_30 : decode cX12_isAgainst 30 = .ok (.if_icmp .ne 17, 3) := by decide +kernel
theorem dX12_isAgainst_47 : decode cX12_isAgainst 47 = .ok (.iload_n 1, 1) := by decide +kernel
theorem dX12_isAgainst_48 : decode cX12_isAgainst 48 = .ok (.iconst 3, 1) := by decide +kernel
theorem dX12_isAgainst_49 : decode cX12_isAgainst 49 = .ok (.if_icmp .ne 38, 3) := by decide +kernel
theorem dX12_isAgainst_87 : decode cX12_isAgainst 87 = .ok (.iconst 0, 1) := by decide +kernel
theorem dX12_isAgainst_88 : decode cX12_isAgainst 88 = .ok (.istore 4, 2) := by decide +kernel
theorem dX12_isAgainst_90 : decode cX12_isAgainst 90 = .ok (.iconst 1, 1) := by decide +kernel
theorem dX12_isAgainst_91 : decode cX12_isAgainst 91 = .ok (.istore 5, 2) := by decide +kernel
theorem dX12_isAgainst_93 : decode cX12_isAgainst 93 = .ok (.iload 5, 2) := by decide +kernel
theorem dX12_isAgainst_95 : decode cX12_isAgainst 95 = .ok (.i2l, 1) := by decide +kernel
theorem dX12_isAgainst_96 : decode cX12_isAgainst 96 = .ok (.aload_n 0, 1) := by decide +kernel
theorem dX12_isAgainst_97 : decode cX12_isAgainst 97 = .ok (.getfield 84, 3) := by decide +kernel
theorem dX12_isAgainst_100 : decode cX12_isAgainst 100 = .ok (.iload_n 3, 1) := by decide +kernel
theorem dX12_isAgainst_101 : decode cX12_isAgainst 101 = .ok (.laload, 1) := by decide +kernel
theorem dX12_isAgainst_102 : decode cX12_isAgainst 102 = .ok (.lcmp, 1) := by decide +kernel
theorem dX12_isAgainst_103 : decode cX12_isAgainst 103 = .ok (.ifCond .ge 48, 3) := by decide +kernel
theorem dX12_isAgainst_151 : decode cX12_isAgainst 151 = .ok (.iload 4, 2) := by decide +kernel
theorem dX12_isAgainst_153 : decode cX12_isAgainst 153 = .ok (.ireturn, 1) := by decide +kernel
theorem dX12_isAgainst_106 : decode cX12_isAgainst 106 = .ok (.iload 4, 2) := by decide +kernel
theorem dX12_isAgainst_143 : decode cX12_isAgainst 143 = .ok (.istore 4, 2) := by decide +kernel
theorem dX12_isAgainst_145 : decode cX12_isAgainst 145 = .ok (.iinc 5 1, 3) := by decide +kernel
theorem dX12_isAgainst_148 : decode cX12_isAgainst 148 = .ok (.goto (-55), 3) := by decide +kernel
theorem dX12_isAgainst_138 : decode cX12_isAgainst 138 = .ok (.iconst 1, 1) := by decide +kernel
theorem dX12_isAgainst_139 : decode cX12_isAgainst 139 = .ok (.goto 4, 3) := by decide +kernel
theorem dX12_isAgainst_108 : decode cX12_isAgainst 108 = .ok (.ifCond .ne 30, 3) := by decide +kernel
theorem dX12_isAgainst_111 : decode cX12_isAgainst 111 = .ok (.aload_n 0, 1) := by decide +kernel
theorem dX12_isAgainst_112 : decode cX12_isAgainst 112 = .ok (.aload_n 0, 1) := by decide +kernel
theorem dX12_isAgainst_113 : decode cX12_isAgainst 113 = .ok (.getfield 84, 3) := by decide +kernel
theorem dX12_isAgainst_116 : decode cX12_isAgainst 116 = .ok (.iload_n 3, 1) := by decide +kernel
theorem dX12_isAgainst_117 : decode cX12_isAgainst 117 = .ok (.iload 5, 2) := by decide +kernel
theorem dX12_isAgainst_119 : decode cX12_isAgainst 119 = .ok (.iadd, 1) := by decide +kernel
theorem dX12_isAgainst_120 : decode cX12_isAgainst 120 = .ok (.laload, 1) := by decide +kernel
theorem dX12_isAgainst_121 : decode cX12_isAgainst 121 = .ok (.aload_n 0, 1) := by decide +kernel
theorem dX12_isAgainst_122 : decode cX12_isAgainst 122 = .ok (.getfield 84, 3) := by decide +kernel
theorem dX12_isAgainst_125 : decode cX12_isAgainst 125 = .ok (.iload_n 3, 1) := by decide +kernel
theorem dX12_isAgainst_126 : decode cX12_isAgainst 126 = .ok (.iload 5, 2) := by decide +kernel
theorem dX12_isAgainst_128 : decode cX12_isAgainst 128 = .ok (.iadd, 1) := by decide +kernel
theorem dX12_isAgainst_129 : decode cX12_isAgainst 129 = .ok (.iconst 1, 1) := by decide +kernel
theorem dX12_isAgainst_130 : decode cX12_isAgainst 130 = .ok (.iadd, 1) := by decide +kernel
theorem dX12_isAgainst_131 : decode cX12_isAgainst 131 = .ok (.laload, 1) := by decide +kernel
theorem dX12_isAgainst_132 : decode cX12_isAgainst 132 = .ok (.invokevirtual 434, 3) := by decide +kernel
theorem mw_1359 : Cond.methodLink RX12 434 yX12_breaks ∈ wsL_law := inr_57 _ (List.mem_of_getElem? (i := 15) rfl)
theorem mw_1362 : Cond.code yX12_breaks cX12_breaks 6 (some .boolean) ∈ wsL_law := inr_57 _ (List.mem_of_getElem? (i := 18) rfl)
theorem yk_X12_breaks : xY yX12_breaks RX12 cX12_breaks 6 (some .boolean) 2 := ⟨⟨rfl, by decide +kernel, by decide +kernel, by decide +kernel⟩, mw_5, mw_1362⟩
theorem mw_1360 : Cond.instanceMethod yX12_breaks ∈ wsL_law := inr_57 _ (List.mem_of_getElem? (i := 16) rfl)
theorem mw_1361 : Cond.selects RX12 yX12_breaks yX12_breaks ∈ wsL_law := inr_57 _ (List.mem_of_getElem? (i := 17) rfl)
theorem dX12_isAgainst_135 : decode cX12_isAgainst 135 = .ok (.ifCond .eq 7, 3) := by decide +kernel
theorem dX12_isAgainst_142 : decode cX12_isAgainst 142 = .ok (.iconst 0, 1) := by decide +kernel
theorem dX12_isAgainst_52 : decode cX12_isAgainst 52 = .ok (.aload_n 0, 1) := by decide +kernel
theorem dX12_isAgainst_53 : decode cX12_isAgainst 53 = .ok (.getfield 87, 3) := by decide +kernel
theorem dX12_isAgainst_56 : decode cX12_isAgainst 56 = .ok (.iload_n 2, 1) := by decide +kernel
theorem dX12_isAgainst_57 : decode cX12_isAgainst 57 = .ok (.iaload, 1) := by decide +kernel
theorem dX12_isAgainst_58 : decode cX12_isAgainst 58 = .ok (.ifCond .eq 27, 3) := by decide +kernel
theorem dX12_isAgainst_85 : decode cX12_isAgainst 85 = .ok (.iconst 0, 1) := by decide +kernel
theorem dX12_isAgainst_86 : decode cX12_isAgainst 86 = .ok (.ireturn, 1) := by decide +kernel
theorem dX12_isAgainst_61 : decode cX12_isAgainst 61 = .ok (.aload_n 0, 1) := by decide +kernel
theorem dX12_isAgainst_62 : decode cX12_isAgainst 62 = .ok (.getfield 87, 3) := by decide +kernel
theorem dX12_isAgainst_65 : decode cX12_isAgainst 65 = .ok (.iload_n 2, 1) := by decide +kernel
theorem dX12_isAgainst_66 : decode cX12_isAgainst 66 = .ok (.iaload, 1) := by decide +kernel
theorem dX12_isAgainst_67 : decode cX12_isAgainst 67 = .ok (.iconst 2, 1) := by decide +kernel
theorem dX12_isAgainst_68 : decode cX12_isAgainst 68 = .ok (.if_icmp .eq 17, 3) := by decide +kernel
theorem dX12_isAgainst_71 : decode cX12_isAgainst 71 = .ok (.aload_n 0, 1) := by decide +kernel
theorem dX12_isAgainst_72 : decode cX12_isAgainst 72 = .ok (.getfield 87, 3) := by decide +kernel
theorem dX12_isAgainst_75 : decode cX12_isAgainst 75 = .ok (.iload_n 2, 1) := by decide +kernel
theorem dX12_isAgainst_76 : decode cX12_isAgainst 76 = .ok (.iaload, 1) := by decide +kernel
theorem dX12_isAgainst_77 : decode cX12_isAgainst 77 = .ok (.iconst 3, 1) := by decide +kernel
theorem dX12_isAgainst_78 : decode cX12_isAgainst 78 = .ok (.if_icmp .eq 7, 3) := by decide +kernel
theorem dX12_isAgainst_81 : decode cX12_isAgainst 81 = .ok (.iconst 1, 1) := by decide +kernel
theorem dX12_isAgainst_82 : decode cX12_isAgainst 82 = .ok (.goto 4, 3) := by decide +kernel
theorem dX12_isAgainst_33 : decode cX12_isAgainst 33 = .ok (.aload_n 0, 1) := by decide +kernel
theorem dX12_isAgainst_34 : decode cX12_isAgainst 34 = .ok (.iload_n 2, 1) := by decide +kernel
theorem dX12_isAgainst_35 : decode cX12_isAgainst 35 = .ok (.invokevirtual 442, 3) := by decide +kernel
theorem mw_1405 : Cond.methodLink RX12 442 yX12_ahead1 ∈ wsL_law := inr_59 _ (List.mem_of_getElem? (i := 13) rfl)
theorem mw_1408 : Cond.code yX12_ahead1 cX12_ahead1 6 (some .int) ∈ wsL_law := inr_59 _ (List.mem_of_getElem? (i := 16) rfl)
theorem yk_X12_ahead1 : xY yX12_ahead1 RX12 cX12_ahead1 6 (some .int) 1 := ⟨⟨rfl, by decide +kernel, by decide +kernel, by decide +kernel⟩, mw_5, mw_1408⟩
theorem mw_1406 : Cond.instanceMethod yX12_ahead1 ∈ wsL_law := inr_59 _ (List.mem_of_getElem? (i := 14) rfl)
theorem mw_1407 : Cond.selects RX12 yX12_ahead1 yX12_ahead1 ∈ wsL_law := inr_59 _ (List.mem_of_getElem? (i := 15) rfl)
theorem dX12_isAgainst_38 : decode cX12_isAgainst 38 = .ok (.ifCond .le 7, 3) := by decide +kernel
theorem dX12_isAgainst_45 : decode cX12_isAgainst 45 = .ok (.iconst 0, 1) := by decide +kernel
theorem dX12_isAgainst_46 : decode cX12_isAgainst 46 = .ok (.ireturn, 1) := by decide +kernel
theorem dX12_isAgainst_41 : decode cX12_isAgainst 41 = .ok (.iconst 1, 1) := by decide +kernel
theorem dX12_isAgainst_42 : decode cX12_isAgainst 42 = .ok (.goto 4, 3) := by decide +kernel
theorem dX12_isAgainst_12 : decode cX12_isAgainst 12 = .ok (.aload_n 0, 1) := by decide +kernel
theorem dX12_isAgainst_13 : decode cX12_isAgainst 13 = .ok (.getfield 87, 3) := by decide +kernel
theorem dX12_isAgainst_16 : decode cX12_isAgainst 16 = .ok (.iload_n 2, 1) := by decide +kernel
theorem dX12_isAgainst_17 : decode cX12_isAgainst 17 = .ok (.iaload, 1) := by decide +kernel
theorem dX12_isAgainst_18 : decode cX12_isAgainst 18 = .ok (.iconst 5, 1) := by decide +kernel
theorem dX12_isAgainst_19 : decode cX12_isAgainst 19 = .ok (.if_icmp .ne 7, 3) := by decide +kernel
theorem dX12_isAgainst_26 : decode cX12_isAgainst 26 = .ok (.iconst 0, 1) := by decide +kernel
theorem dX12_isAgainst_27 : decode cX12_isAgainst 27 = .ok (.ireturn, 1) := by decide +kernel
theorem dX12_isAgainst_22 : decode cX12_isAgainst 22 = .ok (.iconst 1, 1) := by decide +kernel
theorem dX12_isAgainst_23 : decode cX12_isAgainst 23 = .ok (.goto 4, 3) := by decide +kernel
def rm_X12_isAgainst : Room := { frames := 1, cells := 0, slots := 0, locals := 25 }
set_option maxHeartbeats 4000000 in
set_option maxRecDepth 100000 in
theorem s_X12_isAgainst (l : Launch) (D : va_G) (cy : Nat → ClassId) (L : List Nat) (R O : Nat → Nat) (f0 : Nat → va_E) (a0 : Nat) (m_a0 : a0 ∈ L) (r_a0 : R a0 = 12) (x1 : Int32) (b1 : 0 ≤ x1.toInt ∧ x1.toInt ≤ 3) (x2 : Int32) (b2 : 0 ≤ x2.toInt ∧ x2.toInt ≤ 14) : ∀ sz, Met l yX12_isAgainst (Cond.code yX12_isAgainst cX12_isAgainst 6 (some .boolean) :: wsL_law) rm_X12_isAgainst (va_Pc [.ref a0, .int x1, .int x2] (tPZ D cy L R (TT cy L R) f0 sz)) (va_Qi (fun (r : Int32) f1 => f0 = f1 ∧ 0 ≤ r.toInt ∧ r.toInt ≤ 1) (tB D (tA L sz) L R (TT cy L R)) (tA L sz)) 0 0 (tA L sz) := by
  refine tw_enteri (by decide +kernel) rfl (Nat.le_of_ble_eq_true rfl) ?_
  intro p e s m below meth c A ls args Q F hZ h hl hret
  have hl : lv_has ls 6 [(0, .ref a0), (1, .int x1), (2, .int x2)] := hl
  refine tw_bipush F dX12_isAgainst_0 kb_26 (fun z1 hz1 => ?_)
  refine lv_iload_n F.1 F.2.1 dX12_isAgainst_2 rfl (lv_at hl 2 rfl) ?_
  refine tu_imull F dX12_isAgainst_3 hz1 (by omega) (fun z2 hz2 => ?_)
  refine tw_bipush F dX12_isAgainst_4 kb_13 (fun z3 hz3 => ?_)
  refine tu_iadd F dX12_isAgainst_6 (by omega) (fun z4 hz4 => ?_)
  refine lv_istore_n (lv' := [(3, .int z4), (0, .ref a0), (1, .int x1), (2, .int x2)]) F.1 F.2.1 dX12_isAgainst_7 rfl hl (by decide) rfl (fun ls hl => ?_)
  refine lv_iload_n F.1 F.2.1 dX12_isAgainst_8 rfl (lv_at hl 2 rfl) ?_
  refine tw_if_ne (tgt := 28) F dX12_isAgainst_9 (by decide) (fun b5 => ?_) (fun b5 => ?_)
  · refine lv_iload_n F.1 F.2.1 dX12_isAgainst_28 rfl (lv_at hl 2 rfl) ?_
    refine tw_iconst F dX12_isAgainst_29 ki_1 (fun z6 hz6 => ?_)
    refine tw_icmp_ne (tgt := 47) F dX12_isAgainst_30 (by decide) (fun b7 => ?_) (fun b7 => ?_)
    · refine lv_iload_n F.1 F.2.1 dX12_isAgainst_47 rfl (lv_at hl 2 rfl) ?_
      refine tw_iconst F dX12_isAgainst_48 ki_3 (fun z8 hz8 => ?_)
      refine tw_icmp_ne (tgt := 87) F dX12_isAgainst_49 (by decide) (fun b9 => ?_) (fun b9 => ?_)
      · refine tw_iconst F dX12_isAgainst_87 ki_0 (fun z10 hz10 => ?_)
        refine lv_istore (lv' := [(4, .int z10), (3, .int z4), (0, .ref a0), (1, .int x1), (2, .int x2)]) F.1 F.2.1 dX12_isAgainst_88 hl (by decide) rfl (fun ls hl => ?_)
        refine tw_iconst F dX12_isAgainst_90 ki_1 (fun z11 hz11 => ?_)
        refine lv_istore (lv' := [(5, .int z11), (4, .int z10), (3, .int z4), (0, .ref a0), (1, .int x1), (2, .int x2)]) F.1 F.2.1 dX12_isAgainst_91 hl (by decide) rfl (fun ls hl => ?_)
        have j_93 : ∀ (n93 : Nat) (H : Heap) (locs : List Loc) (ls : Array Slot) (x4_93 : Int32) (x5_93 : Int32), 0 ≤ x4_93.toInt → x4_93.toInt ≤ 1 → 1 ≤ x5_93.toInt → x5_93.toInt ≤ 12 → ((12 - x5_93.toInt)).toNat < n93 → tS D cy A s.heap L R (TT cy L R) f0 s H locs → lv_has ls 6 [(0, .ref a0), (3, .int z4), (4, .int x4_93), (5, .int x5_93)] → W p l e rm_X12_isAgainst s m args below meth c H locs 0 0 Q (F0 m 93 ls []) := by
          intro n93
          induction n93 with
          | zero =>
            intro H locs ls x4_93 x5_93 b12 b13 b14 b15 b16 h hl
            exfalso
            omega
          | succ n93 ih93 =>
            intro H locs ls x4_93 x5_93 b12 b13 b14 b15 b16 h hl
            refine lv_iload F.1 F.2.1 dX12_isAgainst_93 (lv_at hl 3 rfl) ?_
            refine tw_i2l F dX12_isAgainst_95 (fun z17 hz17 => ?_)
            refine lv_aload_n F.1 F.2.1 dX12_isAgainst_96 rfl (lv_at hl 0 rfl) ?_
            refine g_12_84 F h m_a0 r_a0 dX12_isAgainst_97 (fun o18 m_o18 r_o18 ho18 => ?_)
            refine lv_iload_n F.1 F.2.1 dX12_isAgainst_100 rfl (lv_at hl 1 rfl) ?_
            refine ld_78 F h m_o18 r_o18 (by omega) dX12_isAgainst_101 (fun v19 hv19a => ?_)
            have hv19b := hv19a (by omega)
            refine tw_lcmp F dX12_isAgainst_102 (fun z20 hz20 => ?_)
            refine tw_if_ge (tgt := 151) F dX12_isAgainst_103 (by decide) (fun b21 => ?_) (fun b21 => ?_)
            · refine lv_iload F.1 F.2.1 dX12_isAgainst_151 (lv_at hl 2 rfl) ?_
              exact hret f0 _ _ _ _ x4_93 dX12_isAgainst_153 (tw_nb (by omega)) ⟨rfl, by omega, by omega⟩ h
            · refine lv_iload F.1 F.2.1 dX12_isAgainst_106 (lv_at hl 2 rfl) ?_
              have j_143 : ∀ (H : Heap) (locs : List Loc) (ls : Array Slot) (y0_143 : Int32), 0 ≤ y0_143.toInt → y0_143.toInt ≤ 1 → tS D cy A s.heap L R (TT cy L R) f0 s H locs → lv_has ls 6 [(0, .ref a0), (3, .int z4), (5, .int x5_93)] → W p l e rm_X12_isAgainst s m args below meth c H locs 0 0 Q (F0 m 143 ls [.int y0_143]) := by
                intro H locs ls y0_143 b22 b23 h hl
                refine lv_istore (lv' := [(4, .int y0_143), (0, .ref a0), (3, .int z4), (5, .int x5_93)]) F.1 F.2.1 dX12_isAgainst_143 hl (by decide) rfl (fun ls hl => ?_)
                refine tu_iinc F dX12_isAgainst_145 hl (k := 3) rfl (by decide) ki_1 (by omega) (fun z24 ls hz24 hl => ?_)
                have hl : lv_has ls 6 [(5, .int z24), (4, .int y0_143), (0, .ref a0), (3, .int z4)] := hl
                refine lv_goto (tgt := 93) F.1 F.2.1 dX12_isAgainst_148 (by decide) ?_
                exact ih93 _ _ _ y0_143 z24 (by omega) (by omega) (by omega) (by omega) (by omega) h (lv_sub hl [2, 3, 1, 0] rfl)
              have j_138 : ∀ (H : Heap) (locs : List Loc) (ls : Array Slot), tS D cy A s.heap L R (TT cy L R) f0 s H locs → lv_has ls 6 [(0, .ref a0), (3, .int z4), (5, .int x5_93)] → W p l e rm_X12_isAgainst s m args below meth c H locs 0 0 Q (F0 m 138 ls []) := by
                intro H locs ls h hl
                refine tw_iconst F dX12_isAgainst_138 ki_1 (fun z25 hz25 => ?_)
                refine lv_goto (tgt := 143) F.1 F.2.1 dX12_isAgainst_139 (by decide) ?_
                exact j_143 _ _ _ z25 (by omega) (by omega) h (lv_sub hl [0, 1, 2] rfl)
              refine tw_if_ne (tgt := 138) F dX12_isAgainst_108 (by decide) (fun b26 => ?_) (fun b26 => ?_)
              · exact j_138 _ _ _ h (lv_sub hl [0, 1, 3] rfl)
              · refine lv_aload_n F.1 F.2.1 dX12_isAgainst_111 rfl (lv_at hl 0 rfl) ?_
                refine lv_aload_n F.1 F.2.1 dX12_isAgainst_112 rfl (lv_at hl 0 rfl) ?_
                refine g_12_84 F h m_a0 r_a0 dX12_isAgainst_113 (fun o27 m_o27 r_o27 ho27 => ?_)
                refine lv_iload_n F.1 F.2.1 dX12_isAgainst_116 rfl (lv_at hl 1 rfl) ?_
                refine lv_iload F.1 F.2.1 dX12_isAgainst_117 (lv_at hl 3 rfl) ?_
                refine tu_iadd F dX12_isAgainst_119 (by omega) (fun z28 hz28 => ?_)
                refine ld_78 F h m_o27 r_o27 (by omega) dX12_isAgainst_120 (fun v29 hv29a => ?_)
                refine lv_aload_n F.1 F.2.1 dX12_isAgainst_121 rfl (lv_at hl 0 rfl) ?_
                refine g_12_84 F h m_a0 r_a0 dX12_isAgainst_122 (fun o30 m_o30 r_o30 ho30 => ?_)
                refine lv_iload_n F.1 F.2.1 dX12_isAgainst_125 rfl (lv_at hl 1 rfl) ?_
                refine lv_iload F.1 F.2.1 dX12_isAgainst_126 (lv_at hl 3 rfl) ?_
                refine tu_iadd F dX12_isAgainst_128 (by omega) (fun z31 hz31 => ?_)
                refine tw_iconst F dX12_isAgainst_129 ki_1 (fun z32 hz32 => ?_)
                refine tu_iadd F dX12_isAgainst_130 (by omega) (fun z33 hz33 => ?_)
                refine ld_78 F h m_o30 r_o30 (by omega) dX12_isAgainst_131 (fun v34 hv34a => ?_)
                refine tw_Vi (As := [.long v29, .long v34]) F hZ h yk_X12_breaks mw_1359 mw_1360 mw_1361 (s_X12_breaks l D cy L R O f0 a0 m_a0 r_a0 v29 v34) rfl rfl m_a0 r_a0 (fun e q => (T_12 e).mp q) rfl hl.1 rfl (Nat.le_of_ble_eq_true rfl) ⟨Nat.le_of_ble_eq_true rfl, Nat.le_of_ble_eq_true rfl⟩ ⟨Nat.le_of_ble_eq_true rfl, Nat.le_of_ble_eq_true rfl⟩ dX12_isAgainst_132 (fun v36 f35 H locs hp35 h => ?_)
                obtain ⟨rfl, hv36a, hv36b⟩ := hp35
                refine tw_if_eq (tgt := 142) F dX12_isAgainst_135 (by decide) (fun b37 => ?_) (fun b37 => ?_)
                · refine tw_iconst F dX12_isAgainst_142 ki_0 (fun z38 hz38 => ?_)
                  exact j_143 _ _ _ z38 (by omega) (by omega) h (lv_sub hl [0, 1, 3] rfl)
                · exact j_138 _ _ _ h (lv_sub hl [0, 1, 3] rfl)
        exact j_93 (((12 - z11.toInt)).toNat + 1) _ _ _ z10 z11 (by omega) (by omega) (by omega) (by omega) (by omega) h (lv_sub hl [3, 2, 1, 0] rfl)
      · refine lv_aload_n F.1 F.2.1 dX12_isAgainst_52 rfl (lv_at hl 1 rfl) ?_
        refine g_12_87 F h m_a0 r_a0 dX12_isAgainst_53 (fun o39 m_o39 r_o39 ho39 => ?_)
        refine lv_iload_n F.1 F.2.1 dX12_isAgainst_56 rfl (lv_at hl 3 rfl) ?_
        refine ld_79 F h m_o39 r_o39 (by omega) dX12_isAgainst_57 (fun v40 => ?_)
        refine tw_if_eq (tgt := 85) F dX12_isAgainst_58 (by decide) (fun b41 => ?_) (fun b41 => ?_)
        · refine tw_iconst F dX12_isAgainst_85 ki_0 (fun z42 hz42 => ?_)
          exact hret f0 _ _ _ _ z42 dX12_isAgainst_86 (tw_nb (by omega)) ⟨rfl, by omega, by omega⟩ h
        · refine lv_aload_n F.1 F.2.1 dX12_isAgainst_61 rfl (lv_at hl 1 rfl) ?_
          refine g_12_87 F h m_a0 r_a0 dX12_isAgainst_62 (fun o43 m_o43 r_o43 ho43 => ?_)
          refine lv_iload_n F.1 F.2.1 dX12_isAgainst_65 rfl (lv_at hl 3 rfl) ?_
          refine ld_79 F h m_o43 r_o43 (by omega) dX12_isAgainst_66 (fun v44 => ?_)
          refine tw_iconst F dX12_isAgainst_67 ki_2 (fun z45 hz45 => ?_)
          refine tw_icmp_eq (tgt := 85) F dX12_isAgainst_68 (by decide) (fun b46 => ?_) (fun b46 => ?_)
          · refine tw_iconst F dX12_isAgainst_85 ki_0 (fun z47 hz47 => ?_)
            exact hret f0 _ _ _ _ z47 dX12_isAgainst_86 (tw_nb (by omega)) ⟨rfl, by omega, by omega⟩ h
          · refine lv_aload_n F.1 F.2.1 dX12_isAgainst_71 rfl (lv_at hl 1 rfl) ?_
            refine g_12_87 F h m_a0 r_a0 dX12_isAgainst_72 (fun o48 m_o48 r_o48 ho48 => ?_)
            refine lv_iload_n F.1 F.2.1 dX12_isAgainst_75 rfl (lv_at hl 3 rfl) ?_
            refine ld_79 F h m_o48 r_o48 (by omega) dX12_isAgainst_76 (fun v49 => ?_)
            refine tw_iconst F dX12_isAgainst_77 ki_3 (fun z50 hz50 => ?_)
            refine tw_icmp_eq (tgt := 85) F dX12_isAgainst_78 (by decide) (fun b51 => ?_) (fun b51 => ?_)
            · refine tw_iconst F dX12_isAgainst_85 ki_0 (fun z52 hz52 => ?_)
              exact hret f0 _ _ _ _ z52 dX12_isAgainst_86 (tw_nb (by omega)) ⟨rfl, by omega, by omega⟩ h
            · refine tw_iconst F dX12_isAgainst_81 ki_1 (fun z53 hz53 => ?_)
              refine lv_goto (tgt := 86) F.1 F.2.1 dX12_isAgainst_82 (by decide) ?_
              exact hret f0 _ _ _ _ z53 dX12_isAgainst_86 (tw_nb (by omega)) ⟨rfl, by omega, by omega⟩ h
    · refine lv_aload_n F.1 F.2.1 dX12_isAgainst_33 rfl (lv_at hl 1 rfl) ?_
      refine lv_iload_n F.1 F.2.1 dX12_isAgainst_34 rfl (lv_at hl 3 rfl) ?_
      refine tw_Vi (As := [.int x2]) F hZ h yk_X12_ahead1 mw_1405 mw_1406 mw_1407 (s_X12_ahead1 l D cy L R O f0 a0 m_a0 r_a0 x2 ⟨by omega, by omega⟩) rfl rfl m_a0 r_a0 (fun e q => (T_12 e).mp q) rfl hl.1 rfl (Nat.le_of_ble_eq_true rfl) ⟨Nat.le_of_ble_eq_true rfl, Nat.le_of_ble_eq_true rfl⟩ ⟨Nat.le_of_ble_eq_true rfl, Nat.le_of_ble_eq_true rfl⟩ dX12_isAgainst_35 (fun v55 f54 H locs hp54 h => ?_)
      obtain rfl := hp54
      refine tw_if_le (tgt := 45) F dX12_isAgainst_38 (by decide) (fun b56 => ?_) (fun b56 => ?_)
      · refine tw_iconst F dX12_isAgainst_45 ki_0 (fun z57 hz57 => ?_)
        exact hret f0 _ _ _ _ z57 dX12_isAgainst_46 (tw_nb (by omega)) ⟨rfl, by omega, by omega⟩ h
      · refine tw_iconst F dX12_isAgainst_41 ki_1 (fun z58 hz58 => ?_)
        refine lv_goto (tgt := 46) F.1 F.2.1 dX12_isAgainst_42 (by decide) ?_
        exact hret f0 _ _ _ _ z58 dX12_isAgainst_46 (tw_nb (by omega)) ⟨rfl, by omega, by omega⟩ h
  · refine lv_aload_n F.1 F.2.1 dX12_isAgainst_12 rfl (lv_at hl 1 rfl) ?_
    refine g_12_87 F h m_a0 r_a0 dX12_isAgainst_13 (fun o59 m_o59 r_o59 ho59 => ?_)
    refine lv_iload_n F.1 F.2.1 dX12_isAgainst_16 rfl (lv_at hl 3 rfl) ?_
    refine ld_79 F h m_o59 r_o59 (by omega) dX12_isAgainst_17 (fun v60 => ?_)
    refine tw_iconst F dX12_isAgainst_18 ki_5 (fun z61 hz61 => ?_)
    refine tw_icmp_ne (tgt := 26) F dX12_isAgainst_19 (by decide) (fun b62 => ?_) (fun b62 => ?_)
    · refine tw_iconst F dX12_isAgainst_26 ki_0 (fun z63 hz63 => ?_)
      exact hret f0 _ _ _ _ z63 dX12_isAgainst_27 (tw_nb (by omega)) ⟨rfl, by omega, by omega⟩ h
    · refine tw_iconst F dX12_isAgainst_22 ki_1 (fun z64 hz64 => ?_)
      refine lv_goto (tgt := 27) F.1 F.2.1 dX12_isAgainst_23 (by decide) ?_
      exact hret f0 _ _ _ _ z64 dX12_isAgainst_27 (tw_nb (by omega)) ⟨rfl, by omega, by omega⟩ h
theorem dX12_claim_0 : decode cX12_claim 0 = .ok (.iload_n 1, 1) := by decide +kernel
theorem dX12_claim_1 : decode cX12_claim 1 = .ok (.ifCond .lt 8, 3) := by decide +kernel
theorem dX12_claim_9 : decode cX12_claim 9 = .ok (.aload_n 0, 1) := by decide +kernel
theorem dX12_claim_10 : decode cX12_claim 10 = .ok (.iconst 1, 1) := by decide +kernel
theorem dX12_claim_11 : decode cX12_claim 11 = .ok (.invokevirtual 194, 3) := by decide +kernel
theorem dX12_claim_14 : decode cX12_claim 14 = .ok (.ireturn, 1) := by decide +kernel
theorem dX12_claim_4 : decode cX12_claim 4 = .ok (.iload_n 1, 1) := by decide +kernel
theorem dX12_claim_5 : decode cX12_claim 5 = .ok (.iconst 3, 1) := by decide +kernel
theorem dX12_claim_6 : decode cX12_claim 6 = .ok (.if_icmp .le 9, 3) := by decide +kernel
theorem dX12_claim_15 : decode cX12_claim 15 = .ok (.iconst 0, 1) := by decide +kernel
theorem dX12_claim_16 : decode cX12_claim 16 = .ok (.istore_n 2, 1) := by decide +kernel
theorem dX12_claim_17 : decode cX12_claim 17 = .ok (.iload_n 2, 1) := by decide +kernel
theorem dX12_claim_18 : decode cX12_claim 18 = .ok (.aload_n 0, 1) := by decide +kernel
theorem dX12_claim_19 : decode cX12_claim 19 = .ok (.getfield 416, 3) := by decide +kernel
theorem dX12_claim_22 : decode cX12_claim 22 = .ok (.if_icmp .ge 24, 3) := by decide +kernel
theorem dX12_claim_46 : decode cX12_claim 46 = .ok (.aload_n 0, 1) := by decide +kernel
theorem dX12_claim_47 : decode cX12_claim 47 = .ok (.iconst (-1), 1) := by decide +kernel
theorem dX12_claim_48 : decode cX12_claim 48 = .ok (.invokevirtual 209, 3) := by decide +kernel
theorem dX12_claim_51 : decode cX12_claim 51 = .ok (.ireturn, 1) := by decide +kernel
theorem dX12_claim_25 : decode cX12_claim 25 = .ok (.aload_n 0, 1) := by decide +kernel
theorem dX12_claim_26 : decode cX12_claim 26 = .ok (.iload_n 1, 1) := by decide +kernel
theorem dX12_claim_27 : decode cX12_claim 27 = .ok (.iload_n 2, 1) := by decide +kernel
theorem dX12_claim_28 : decode cX12_claim 28 = .ok (.invokevirtual 445, 3) := by decide +kernel
theorem mw_1442 : Cond.methodLink RX12 445 yX12_isAgainst ∈ wsL_law := inr_61 _ (List.mem_of_getElem? (i := 2) rfl)
theorem mw_1445 : Cond.code yX12_isAgainst cX12_isAgainst 6 (some .boolean) ∈ wsL_law := inr_61 _ (List.mem_of_getElem? (i := 5) rfl)
theorem yk_X12_isAgainst : xY yX12_isAgainst RX12 cX12_isAgainst 6 (some .boolean) 2 := ⟨⟨rfl, by decide +kernel, by decide +kernel, by decide +kernel⟩, mw_5, mw_1445⟩
theorem mw_1443 : Cond.instanceMethod yX12_isAgainst ∈ wsL_law := inr_61 _ (List.mem_of_getElem? (i := 3) rfl)
theorem mw_1444 : Cond.selects RX12 yX12_isAgainst yX12_isAgainst ∈ wsL_law := inr_61 _ (List.mem_of_getElem? (i := 4) rfl)
theorem dX12_claim_31 : decode cX12_claim 31 = .ok (.ifCond .eq 9, 3) := by decide +kernel
theorem dX12_claim_40 : decode cX12_claim 40 = .ok (.iinc 2 1, 3) := by decide +kernel
theorem dX12_claim_43 : decode cX12_claim 43 = .ok (.goto (-26), 3) := by decide +kernel
theorem dX12_claim_34 : decode cX12_claim 34 = .ok (.aload_n 0, 1) := by decide +kernel
theorem dX12_claim_35 : decode cX12_claim 35 = .ok (.iload_n 2, 1) := by decide +kernel
theorem dX12_claim_36 : decode cX12_claim 36 = .ok (.invokevirtual 209, 3) := by decide +kernel
theorem dX12_claim_39 : decode cX12_claim 39 = .ok (.ireturn, 1) := by decide +kernel
def rm_X12_claim : Room := { frames := 2, cells := 0, slots := 0, locals := 50 }
set_option maxHeartbeats 4000000 in
set_option maxRecDepth 100000 in
theorem s_X12_claim (l : Launch) (D : va_G) (cy : Nat → ClassId) (L : List Nat) (R O : Nat → Nat) (f0 : Nat → va_E) (a0 : Nat) (m_a0 : a0 ∈ L) (r_a0 : R a0 = 12) (x1 : Int32) : ∀ sz, Met l yX12_claim (Cond.code yX12_claim cX12_claim 3 (some .int) :: wsL_law) rm_X12_claim (va_Pc [.ref a0, .int x1] (tPZ D cy L R (TT cy L R) f0 sz)) (va_Qi (fun (r : Int32) f1 => fr L R [(12, 1)] [12] f0 f1) (tB D (tA L sz) L R (TT cy L R)) (tA L sz)) 0 0 (tA L sz) := by
  refine tw_enteri (by decide +kernel) rfl (Nat.le_of_ble_eq_true rfl) ?_
  intro p e s m below meth c A ls args Q F hZ h hl hret
  have hl : lv_has ls 3 [(0, .ref a0), (1, .int x1)] := hl
  have hk : fr L R [(12, 1)] [12] f0 f0 := fr.rf
  refine lv_iload_n F.1 F.2.1 dX12_claim_0 rfl (lv_at hl 1 rfl) ?_
  refine tw_if_lt (tgt := 9) F dX12_claim_1 (by decide) (fun b1 => ?_) (fun b1 => ?_)
  · refine lv_aload_n F.1 F.2.1 dX12_claim_9 rfl (lv_at hl 0 rfl) ?_
    refine tw_iconst F dX12_claim_10 ki_1 (fun z2 hz2 => ?_)
    refine tw_Vi (As := [.int z2]) F hZ h yk_X12_refuse mw_452 mw_453 mw_454 (s_X12_refuse l D cy L R O f0 a0 m_a0 r_a0 z2 ⟨by omega, by omega⟩) rfl rfl m_a0 r_a0 (fun e q => (T_12 e).mp q) rfl hl.1 rfl (Nat.le_of_ble_eq_true rfl) ⟨Nat.le_of_ble_eq_true rfl, Nat.le_of_ble_eq_true rfl⟩ ⟨Nat.le_of_ble_eq_true rfl, Nat.le_of_ble_eq_true rfl⟩ dX12_claim_11 (fun v4 f3 H locs hp3 h => ?_)
    obtain ⟨hf3, hv4a, hv4b⟩ := hp3
    have hk : fr L R [(12, 1)] [12] f0 f3 := hk.tr hf3 rfl rfl
    exact hret f3 _ _ _ _ v4 dX12_claim_14 rfl hk h
  · refine lv_iload_n F.1 F.2.1 dX12_claim_4 rfl (lv_at hl 1 rfl) ?_
    refine tw_iconst F dX12_claim_5 ki_3 (fun z5 hz5 => ?_)
    refine tw_icmp_le (tgt := 15) F dX12_claim_6 (by decide) (fun b6 => ?_) (fun b6 => ?_)
    · refine tw_iconst F dX12_claim_15 ki_0 (fun z7 hz7 => ?_)
      refine lv_istore_n (lv' := [(2, .int z7), (0, .ref a0), (1, .int x1)]) F.1 F.2.1 dX12_claim_16 rfl hl (by decide) rfl (fun ls hl => ?_)
      have j_17 : ∀ (n17 : Nat) (H : Heap) (locs : List Loc) (ls : Array Slot) (x2_17 : Int32), 0 ≤ x2_17.toInt → x2_17.toInt ≤ 15 → ((15 - x2_17.toInt)).toNat < n17 → tS D cy A s.heap L R (TT cy L R) f0 s H locs → lv_has ls 3 [(0, .ref a0), (1, .int x1), (2, .int x2_17)] → W p l e rm_X12_claim s m args below meth c H locs 0 0 Q (F0 m 17 ls []) := by
        intro n17
        induction n17 with
        | zero =>
          intro H locs ls x2_17 b8 b9 b10 h hl
          exfalso
          omega
        | succ n17 ih17 =>
          intro H locs ls x2_17 b8 b9 b10 h hl
          refine lv_iload_n F.1 F.2.1 dX12_claim_17 rfl (lv_at hl 2 rfl) ?_
          refine lv_aload_n F.1 F.2.1 dX12_claim_18 rfl (lv_at hl 0 rfl) ?_
          refine g_12_416 F h m_a0 r_a0 dX12_claim_19 (fun v11 hv11 hv11a hv11b => ?_)
          refine tw_icmp_ge (tgt := 46) F dX12_claim_22 (by decide) (fun b12 => ?_) (fun b12 => ?_)
          · refine lv_aload_n F.1 F.2.1 dX12_claim_46 rfl (lv_at hl 0 rfl) ?_
            refine tw_iconst F dX12_claim_47 ki_m1 (fun z13 hz13 => ?_)
            refine tw_Vi (As := [.int z13]) F hZ h yk_X12_gives mw_499 mw_500 mw_501 (s_X12_gives l D cy L R O f0 a0 m_a0 r_a0 z13) rfl rfl m_a0 r_a0 (fun e q => (T_12 e).mp q) rfl hl.1 rfl (Nat.le_of_ble_eq_true rfl) ⟨Nat.le_of_ble_eq_true rfl, Nat.le_of_ble_eq_true rfl⟩ ⟨Nat.le_of_ble_eq_true rfl, Nat.le_of_ble_eq_true rfl⟩ dX12_claim_48 (fun v15 f14 H locs hp14 h => ?_)
            have hf14 := hp14
            have hk : fr L R [(12, 1)] [12] f0 f14 := hk.tr hf14 rfl rfl
            exact hret f14 _ _ _ _ v15 dX12_claim_51 rfl hk h
          · refine lv_aload_n F.1 F.2.1 dX12_claim_25 rfl (lv_at hl 0 rfl) ?_
            refine lv_iload_n F.1 F.2.1 dX12_claim_26 rfl (lv_at hl 1 rfl) ?_
            refine lv_iload_n F.1 F.2.1 dX12_claim_27 rfl (lv_at hl 2 rfl) ?_
            refine tw_Vi (As := [.int x1, .int x2_17]) F hZ h yk_X12_isAgainst mw_1442 mw_1443 mw_1444 (s_X12_isAgainst l D cy L R O f0 a0 m_a0 r_a0 x1 ⟨by omega, by omega⟩ x2_17 ⟨by omega, by omega⟩) rfl rfl m_a0 r_a0 (fun e q => (T_12 e).mp q) rfl hl.1 rfl (Nat.le_of_ble_eq_true rfl) ⟨Nat.le_of_ble_eq_true rfl, Nat.le_of_ble_eq_true rfl⟩ ⟨Nat.le_of_ble_eq_true rfl, Nat.le_of_ble_eq_true rfl⟩ dX12_claim_28 (fun v17 f16 H locs hp16 h => ?_)
            obtain ⟨rfl, hv17a, hv17b⟩ := hp16
            refine tw_if_eq (tgt := 40) F dX12_claim_31 (by decide) (fun b18 => ?_) (fun b18 => ?_)
            · refine tu_iinc F dX12_claim_40 hl (k := 2) rfl (by decide) ki_1 (by omega) (fun z19 ls hz19 hl => ?_)
              have hl : lv_has ls 3 [(2, .int z19), (0, .ref a0), (1, .int x1)] := hl
              refine lv_goto (tgt := 17) F.1 F.2.1 dX12_claim_43 (by decide) ?_
              exact ih17 _ _ _ z19 (by omega) (by omega) (by omega) h (lv_sub hl [1, 2, 0] rfl)
            · refine lv_aload_n F.1 F.2.1 dX12_claim_34 rfl (lv_at hl 0 rfl) ?_
              refine lv_iload_n F.1 F.2.1 dX12_claim_35 rfl (lv_at hl 2 rfl) ?_
              refine tw_Vi (As := [.int x2_17]) F hZ h yk_X12_gives mw_499 mw_500 mw_501 (s_X12_gives l D cy L R O f0 a0 m_a0 r_a0 x2_17) rfl rfl m_a0 r_a0 (fun e q => (T_12 e).mp q) rfl hl.1 rfl (Nat.le_of_ble_eq_true rfl) ⟨Nat.le_of_ble_eq_true rfl, Nat.le_of_ble_eq_true rfl⟩ ⟨Nat.le_of_ble_eq_true rfl, Nat.le_of_ble_eq_true rfl⟩ dX12_claim_36 (fun v21 f20 H locs hp20 h => ?_)
              have hf20 := hp20
              have hk : fr L R [(12, 1)] [12] f0 f20 := hk.tr hf20 rfl rfl
              exact hret f20 _ _ _ _ v21 dX12_claim_39 rfl hk h
      exact j_17 (((15 - z7.toInt)).toNat + 1) _ _ _ z7 (by omega) (by omega) (by omega) h (lv_sub hl [1, 2, 0] rfl)
    · refine lv_aload_n F.1 F.2.1 dX12_claim_9 rfl (lv_at hl 0 rfl) ?_
      refine tw_iconst F dX12_claim_10 ki_1 (fun z22 hz22 => ?_)
      refine tw_Vi (As := [.int z22]) F hZ h yk_X12_refuse mw_452 mw_453 mw_454 (s_X12_refuse l D cy L R O f0 a0 m_a0 r_a0 z22 ⟨by omega, by omega⟩) rfl rfl m_a0 r_a0 (fun e q => (T_12 e).mp q) rfl hl.1 rfl (Nat.le_of_ble_eq_true rfl) ⟨Nat.le_of_ble_eq_true rfl, Nat.le_of_ble_eq_true rfl⟩ ⟨Nat.le_of_ble_eq_true rfl, Nat.le_of_ble_eq_true rfl⟩ dX12_claim_11 (fun v24 f23 H locs hp23 h => ?_)
      obtain ⟨hf23, hv24a, hv24b⟩ := hp23
      have hk : fr L R [(12, 1)] [12] f0 f23 := hk.tr hf23 rfl rfl
      exact hret f23 _ _ _ _ v24 dX12_claim_14 rfl hk h
theorem dX12_doubt_0 : decode cX12_doubt 0 = .ok (.iload_n 1, 1) := by decide +kernel
theorem dX12_doubt_1 : decode cX12_doubt 1 = .ok (.iconst 1, 1) := by decide +kernel
theorem dX12_doubt_2 : decode cX12_doubt 2 = .ok (.if_icmp .lt 9, 3) := by decide +kernel
theorem dX12_doubt_11 : decode cX12_doubt 11 = .ok (.aload_n 0, 1) := by decide +kernel
theorem dX12_doubt_12 : decode cX12_doubt 12 = .ok (.iconst 1, 1) := by decide +kernel
theorem dX12_doubt_13 : decode cX12_doubt 13 = .ok (.invokevirtual 194, 3) := by decide +kernel
theorem dX12_doubt_16 : decode cX12_doubt 16 = .ok (.ireturn, 1) := by decide +kernel
theorem dX12_doubt_5 : decode cX12_doubt 5 = .ok (.iload_n 1, 1) := by decide +kernel
theorem dX12_doubt_6 : decode cX12_doubt 6 = .ok (.bipush 9, 2) := by decide +kernel
theorem dX12_doubt_8 : decode cX12_doubt 8 = .ok (.if_icmp .le 9, 3) := by decide +kernel
theorem dX12_doubt_17 : decode cX12_doubt 17 = .ok (.iconst 0, 1) := by decide +kernel
theorem dX12_doubt_18 : decode cX12_doubt 18 = .ok (.istore_n 2, 1) := by decide +kernel
theorem dX12_doubt_19 : decode cX12_doubt 19 = .ok (.iload_n 2, 1) := by decide +kernel
theorem dX12_doubt_20 : decode cX12_doubt 20 = .ok (.aload_n 0, 1) := by decide +kernel
theorem dX12_doubt_21 : decode cX12_doubt 21 = .ok (.getfield 416, 3) := by decide +kernel
theorem dX12_doubt_24 : decode cX12_doubt 24 = .ok (.if_icmp .ge 24, 3) := by decide +kernel
theorem dX12_doubt_48 : decode cX12_doubt 48 = .ok (.aload_n 0, 1) := by decide +kernel
theorem dX12_doubt_49 : decode cX12_doubt 49 = .ok (.iconst (-1), 1) := by decide +kernel
theorem dX12_doubt_50 : decode cX12_doubt 50 = .ok (.invokevirtual 209, 3) := by decide +kernel
theorem dX12_doubt_53 : decode cX12_doubt 53 = .ok (.ireturn, 1) := by decide +kernel
theorem dX12_doubt_27 : decode cX12_doubt 27 = .ok (.aload_n 0, 1) := by decide +kernel
theorem dX12_doubt_28 : decode cX12_doubt 28 = .ok (.iload_n 2, 1) := by decide +kernel
theorem dX12_doubt_29 : decode cX12_doubt 29 = .ok (.invokevirtual 442, 3) := by decide +kernel
theorem dX12_doubt_32 : decode cX12_doubt 32 = .ok (.iload_n 1, 1) := by decide +kernel
theorem dX12_doubt_33 : decode cX12_doubt 33 = .ok (.if_icmp .ne 9, 3) := by decide +kernel
theorem dX12_doubt_42 : decode cX12_doubt 42 = .ok (.iinc 2 1, 3) := by decide +kernel
theorem dX12_doubt_45 : decode cX12_doubt 45 = .ok (.goto (-26), 3) := by decide +kernel
theorem dX12_doubt_36 : decode cX12_doubt 36 = .ok (.aload_n 0, 1) := by decide +kernel
theorem dX12_doubt_37 : decode cX12_doubt 37 = .ok (.iload_n 2, 1) := by decide +kernel
theorem dX12_doubt_38 : decode cX12_doubt 38 = .ok (.invokevirtual 209, 3) := by decide +kernel
theorem dX12_doubt_41 : decode cX12_doubt 41 = .ok (.ireturn, 1) := by decide +kernel
def rm_X12_doubt : Room := { frames := 1, cells := 0, slots := 0, locals := 25 }
set_option maxHeartbeats 4000000 in
set_option maxRecDepth 100000 in
theorem s_X12_doubt (l : Launch) (D : va_G) (cy : Nat → ClassId) (L : List Nat) (R O : Nat → Nat) (f0 : Nat → va_E) (a0 : Nat) (m_a0 : a0 ∈ L) (r_a0 : R a0 = 12) (x1 : Int32) : ∀ sz, Met l yX12_doubt (Cond.code yX12_doubt cX12_doubt 3 (some .int) :: wsL_law) rm_X12_doubt (va_Pc [.ref a0, .int x1] (tPZ D cy L R (TT cy L R) f0 sz)) (va_Qi (fun (r : Int32) f1 => fr L R [(12, 1)] [12] f0 f1) (tB D (tA L sz) L R (TT cy L R)) (tA L sz)) 0 0 (tA L sz) := by
  refine tw_enteri (by decide +kernel) rfl (Nat.le_of_ble_eq_true rfl) ?_
  intro p e s m below meth c A ls args Q F hZ h hl hret
  have hl : lv_has ls 3 [(0, .ref a0), (1, .int x1)] := hl
  have hk : fr L R [(12, 1)] [12] f0 f0 := fr.rf
  refine lv_iload_n F.1 F.2.1 dX12_doubt_0 rfl (lv_at hl 1 rfl) ?_
  refine tw_iconst F dX12_doubt_1 ki_1 (fun z1 hz1 => ?_)
  refine tw_icmp_lt (tgt := 11) F dX12_doubt_2 (by decide) (fun b2 => ?_) (fun b2 => ?_)
  · refine lv_aload_n F.1 F.2.1 dX12_doubt_11 rfl (lv_at hl 0 rfl) ?_
    refine tw_iconst F dX12_doubt_12 ki_1 (fun z3 hz3 => ?_)
    refine tw_Vi (As := [.int z3]) F hZ h yk_X12_refuse mw_452 mw_453 mw_454 (s_X12_refuse l D cy L R O f0 a0 m_a0 r_a0 z3 ⟨by omega, by omega⟩) rfl rfl m_a0 r_a0 (fun e q => (T_12 e).mp q) rfl hl.1 rfl (Nat.le_of_ble_eq_true rfl) ⟨Nat.le_of_ble_eq_true rfl, Nat.le_of_ble_eq_true rfl⟩ ⟨Nat.le_of_ble_eq_true rfl, Nat.le_of_ble_eq_true rfl⟩ dX12_doubt_13 (fun v5 f4 H locs hp4 h => ?_)
    obtain ⟨hf4, hv5a, hv5b⟩ := hp4
    have hk : fr L R [(12, 1)] [12] f0 f4 := hk.tr hf4 rfl rfl
    exact hret f4 _ _ _ _ v5 dX12_doubt_16 rfl hk h
  · refine lv_iload_n F.1 F.2.1 dX12_doubt_5 rfl (lv_at hl 1 rfl) ?_
    refine tw_bipush F dX12_doubt_6 kb_9 (fun z6 hz6 => ?_)
    refine tw_icmp_le (tgt := 17) F dX12_doubt_8 (by decide) (fun b7 => ?_) (fun b7 => ?_)
    · refine tw_iconst F dX12_doubt_17 ki_0 (fun z8 hz8 => ?_)
      refine lv_istore_n (lv' := [(2, .int z8), (0, .ref a0), (1, .int x1)]) F.1 F.2.1 dX12_doubt_18 rfl hl (by decide) rfl (fun ls hl => ?_)
      have j_19 : ∀ (n19 : Nat) (H : Heap) (locs : List Loc) (ls : Array Slot) (x2_19 : Int32), 0 ≤ x2_19.toInt → x2_19.toInt ≤ 15 → ((15 - x2_19.toInt)).toNat < n19 → tS D cy A s.heap L R (TT cy L R) f0 s H locs → lv_has ls 3 [(0, .ref a0), (1, .int x1), (2, .int x2_19)] → W p l e rm_X12_doubt s m args below meth c H locs 0 0 Q (F0 m 19 ls []) := by
        intro n19
        induction n19 with
        | zero =>
          intro H locs ls x2_19 b9 b10 b11 h hl
          exfalso
          omega
        | succ n19 ih19 =>
          intro H locs ls x2_19 b9 b10 b11 h hl
          refine lv_iload_n F.1 F.2.1 dX12_doubt_19 rfl (lv_at hl 2 rfl) ?_
          refine lv_aload_n F.1 F.2.1 dX12_doubt_20 rfl (lv_at hl 0 rfl) ?_
          refine g_12_416 F h m_a0 r_a0 dX12_doubt_21 (fun v12 hv12 hv12a hv12b => ?_)
          refine tw_icmp_ge (tgt := 48) F dX12_doubt_24 (by decide) (fun b13 => ?_) (fun b13 => ?_)
          · refine lv_aload_n F.1 F.2.1 dX12_doubt_48 rfl (lv_at hl 0 rfl) ?_
            refine tw_iconst F dX12_doubt_49 ki_m1 (fun z14 hz14 => ?_)
            refine tw_Vi (As := [.int z14]) F hZ h yk_X12_gives mw_499 mw_500 mw_501 (s_X12_gives l D cy L R O f0 a0 m_a0 r_a0 z14) rfl rfl m_a0 r_a0 (fun e q => (T_12 e).mp q) rfl hl.1 rfl (Nat.le_of_ble_eq_true rfl) ⟨Nat.le_of_ble_eq_true rfl, Nat.le_of_ble_eq_true rfl⟩ ⟨Nat.le_of_ble_eq_true rfl, Nat.le_of_ble_eq_true rfl⟩ dX12_doubt_50 (fun v16 f15 H locs hp15 h => ?_)
            have hf15 := hp15
            have hk : fr L R [(12, 1)] [12] f0 f15 := hk.tr hf15 rfl rfl
            exact hret f15 _ _ _ _ v16 dX12_doubt_53 rfl hk h
          · refine lv_aload_n F.1 F.2.1 dX12_doubt_27 rfl (lv_at hl 0 rfl) ?_
            refine lv_iload_n F.1 F.2.1 dX12_doubt_28 rfl (lv_at hl 2 rfl) ?_
            refine tw_Vi (As := [.int x2_19]) F hZ h yk_X12_ahead1 mw_1405 mw_1406 mw_1407 (s_X12_ahead1 l D cy L R O f0 a0 m_a0 r_a0 x2_19 ⟨by omega, by omega⟩) rfl rfl m_a0 r_a0 (fun e q => (T_12 e).mp q) rfl hl.1 rfl (Nat.le_of_ble_eq_true rfl) ⟨Nat.le_of_ble_eq_true rfl, Nat.le_of_ble_eq_true rfl⟩ ⟨Nat.le_of_ble_eq_true rfl, Nat.le_of_ble_eq_true rfl⟩ dX12_doubt_29 (fun v18 f17 H locs hp17 h => ?_)
            obtain rfl := hp17
            refine lv_iload_n F.1 F.2.1 dX12_doubt_32 rfl (lv_at hl 1 rfl) ?_
            refine tw_icmp_ne (tgt := 42) F dX12_doubt_33 (by decide) (fun b19 => ?_) (fun b19 => ?_)
            · refine tu_iinc F dX12_doubt_42 hl (k := 2) rfl (by decide) ki_1 (by omega) (fun z20 ls hz20 hl => ?_)
              have hl : lv_has ls 3 [(2, .int z20), (0, .ref a0), (1, .int x1)] := hl
              refine lv_goto (tgt := 19) F.1 F.2.1 dX12_doubt_45 (by decide) ?_
              exact ih19 _ _ _ z20 (by omega) (by omega) (by omega) h (lv_sub hl [1, 2, 0] rfl)
            · refine lv_aload_n F.1 F.2.1 dX12_doubt_36 rfl (lv_at hl 0 rfl) ?_
              refine lv_iload_n F.1 F.2.1 dX12_doubt_37 rfl (lv_at hl 2 rfl) ?_
              refine tw_Vi (As := [.int x2_19]) F hZ h yk_X12_gives mw_499 mw_500 mw_501 (s_X12_gives l D cy L R O f0 a0 m_a0 r_a0 x2_19) rfl rfl m_a0 r_a0 (fun e q => (T_12 e).mp q) rfl hl.1 rfl (Nat.le_of_ble_eq_true rfl) ⟨Nat.le_of_ble_eq_true rfl, Nat.le_of_ble_eq_true rfl⟩ ⟨Nat.le_of_ble_eq_true rfl, Nat.le_of_ble_eq_true rfl⟩ dX12_doubt_38 (fun v22 f21 H locs hp21 h => ?_)
              have hf21 := hp21
              have hk : fr L R [(12, 1)] [12] f0 f21 := hk.tr hf21 rfl rfl
              exact hret f21 _ _ _ _ v22 dX12_doubt_41 rfl hk h
      exact j_19 (((15 - z8.toInt)).toNat + 1) _ _ _ z8 (by omega) (by omega) (by omega) h (lv_sub hl [1, 2, 0] rfl)
    · refine lv_aload_n F.1 F.2.1 dX12_doubt_11 rfl (lv_at hl 0 rfl) ?_
      refine tw_iconst F dX12_doubt_12 ki_1 (fun z23 hz23 => ?_)
      refine tw_Vi (As := [.int z23]) F hZ h yk_X12_refuse mw_452 mw_453 mw_454 (s_X12_refuse l D cy L R O f0 a0 m_a0 r_a0 z23 ⟨by omega, by omega⟩) rfl rfl m_a0 r_a0 (fun e q => (T_12 e).mp q) rfl hl.1 rfl (Nat.le_of_ble_eq_true rfl) ⟨Nat.le_of_ble_eq_true rfl, Nat.le_of_ble_eq_true rfl⟩ ⟨Nat.le_of_ble_eq_true rfl, Nat.le_of_ble_eq_true rfl⟩ dX12_doubt_13 (fun v25 f24 H locs hp24 h => ?_)
      obtain ⟨hf24, hv25a, hv25b⟩ := hp24
      have hk : fr L R [(12, 1)] [12] f0 f24 := hk.tr hf24 rfl rfl
      exact hret f24 _ _ _ _ v25 dX12_doubt_16 rfl hk h
theorem dX12_count_0 : decode cX12_count 0 = .ok (.aload_n 0, 1) := by decide +kernel
theorem dX12_count_1 : decode cX12_count 1 = .ok (.iload_n 1, 1) := by decide +kernel
theorem dX12_count_2 : decode cX12_count 2 = .ok (.invokevirtual 282, 3) := by decide +kernel
theorem mw_635 : Cond.methodLink RX12 282 yX12_isScript ∈ wsL_law := inr_27 _ (List.mem_of_getElem? (i := 11) rfl)
theorem mw_638 : Cond.code yX12_isScript cX12_isScript 2 (some .boolean) ∈ wsL_law := inr_27 _ (List.mem_of_getElem? (i := 14) rfl)
theorem yk_X12_isScript : xY yX12_isScript RX12 cX12_isScript 2 (some .boolean) 1 := ⟨⟨rfl, by decide +kernel, by decide +kernel, by decide +kernel⟩, mw_5, mw_638⟩
theorem mw_636 : Cond.instanceMethod yX12_isScript ∈ wsL_law := inr_27 _ (List.mem_of_getElem? (i := 12) rfl)
theorem mw_637 : Cond.selects RX12 yX12_isScript yX12_isScript ∈ wsL_law := inr_27 _ (List.mem_of_getElem? (i := 13) rfl)
theorem dX12_count_5 : decode cX12_count 5 = .ok (.ifCond .eq 12, 3) := by decide +kernel
theorem dX12_count_17 : decode cX12_count 17 = .ok (.aload_n 0, 1) := by decide +kernel
theorem dX12_count_18 : decode cX12_count 18 = .ok (.iconst 1, 1) := by decide +kernel
theorem dX12_count_19 : decode cX12_count 19 = .ok (.invokevirtual 194, 3) := by decide +kernel
theorem dX12_count_22 : decode cX12_count 22 = .ok (.ireturn, 1) := by decide +kernel
theorem dX12_count_8 : decode cX12_count 8 = .ok (.iload_n 2, 1) := by decide +kernel
theorem dX12_count_9 : decode cX12_count 9 = .ok (.ifCond .lt 8, 3) := by decide +kernel
theorem dX12_count_12 : decode cX12_count 12 = .ok (.iload_n 2, 1) := by decide +kernel
theorem dX12_count_13 : decode cX12_count 13 = .ok (.iconst 3, 1) := by decide +kernel
theorem dX12_count_14 : decode cX12_count 14 = .ok (.if_icmp .le 9, 3) := by decide +kernel
theorem dX12_count_23 : decode cX12_count 23 = .ok (.aload_n 0, 1) := by decide +kernel
theorem dX12_count_24 : decode cX12_count 24 = .ok (.aload_n 0, 1) := by decide +kernel
theorem dX12_count_25 : decode cX12_count 25 = .ok (.getfield 7, 3) := by decide +kernel
theorem dX12_count_28 : decode cX12_count 28 = .ok (.sipush 1650, 3) := by decide +kernel
theorem ks_1650 : (Int16.ofInt 1650).toInt32.toInt = 1650 := by decide
theorem dX12_count_31 : decode cX12_count 31 = .ok (.iload_n 1, 1) := by decide +kernel
theorem dX12_count_32 : decode cX12_count 32 = .ok (.imul, 1) := by decide +kernel
theorem dX12_count_33 : decode cX12_count 33 = .ok (.iload_n 2, 1) := by decide +kernel
theorem dX12_count_34 : decode cX12_count 34 = .ok (.iconst 3, 1) := by decide +kernel
theorem dX12_count_35 : decode cX12_count 35 = .ok (.if_icmp .ne 9, 3) := by decide +kernel
theorem dX12_count_44 : decode cX12_count 44 = .ok (.iload_n 2, 1) := by decide +kernel
theorem dX12_count_45 : decode cX12_count 45 = .ok (.iadd, 1) := by decide +kernel
theorem dX12_count_46 : decode cX12_count 46 = .ok (.laload, 1) := by decide +kernel
theorem dX12_count_47 : decode cX12_count 47 = .ok (.l2i, 1) := by decide +kernel
theorem dX12_count_48 : decode cX12_count 48 = .ok (.invokevirtual 209, 3) := by decide +kernel
theorem dX12_count_51 : decode cX12_count 51 = .ok (.ireturn, 1) := by decide +kernel
theorem dX12_count_38 : decode cX12_count 38 = .ok (.sipush 1567, 3) := by decide +kernel
theorem ks_1567 : (Int16.ofInt 1567).toInt32.toInt = 1567 := by decide
theorem dX12_count_41 : decode cX12_count 41 = .ok (.goto 4, 3) := by decide +kernel
def rm_X12_count : Room := { frames := 1, cells := 0, slots := 0, locals := 21 }
set_option maxHeartbeats 4000000 in
set_option maxRecDepth 100000 in
theorem s_X12_count (l : Launch) (D : va_G) (cy : Nat → ClassId) (L : List Nat) (R O : Nat → Nat) (f0 : Nat → va_E) (a0 : Nat) (m_a0 : a0 ∈ L) (r_a0 : R a0 = 12) (x1 : Int32) (x2 : Int32) : ∀ sz, Met l yX12_count (Cond.code yX12_count cX12_count 3 (some .int) :: wsL_law) rm_X12_count (va_Pc [.ref a0, .int x1, .int x2] (tPZ D cy L R (TT cy L R) f0 sz)) (va_Qi (fun (r : Int32) f1 => fr L R [(12, 1)] [12] f0 f1) (tB D (tA L sz) L R (TT cy L R)) (tA L sz)) 0 0 (tA L sz) := by
  refine tw_enteri (by decide +kernel) rfl (Nat.le_of_ble_eq_true rfl) ?_
  intro p e s m below meth c A ls args Q F hZ h hl hret
  have hl : lv_has ls 3 [(0, .ref a0), (1, .int x1), (2, .int x2)] := hl
  have hk : fr L R [(12, 1)] [12] f0 f0 := fr.rf
  refine lv_aload_n F.1 F.2.1 dX12_count_0 rfl (lv_at hl 0 rfl) ?_
  refine lv_iload_n F.1 F.2.1 dX12_count_1 rfl (lv_at hl 1 rfl) ?_
  refine tw_Vi (As := [.int x1]) F hZ h yk_X12_isScript mw_635 mw_636 mw_637 (s_X12_isScript l D cy L R O f0 a0 m_a0 r_a0 x1) rfl rfl m_a0 r_a0 (fun e q => (T_12 e).mp q) rfl hl.1 rfl (Nat.le_of_ble_eq_true rfl) ⟨Nat.le_of_ble_eq_true rfl, Nat.le_of_ble_eq_true rfl⟩ ⟨Nat.le_of_ble_eq_true rfl, Nat.le_of_ble_eq_true rfl⟩ dX12_count_2 (fun v2 f1 H locs hp1 h => ?_)
  obtain ⟨rfl, hv2a, hv2b, hv2p0⟩ := hp1
  refine tw_if_eq (tgt := 17) F dX12_count_5 (by decide) (fun b3 => ?_) (fun b3 => ?_)
  · refine lv_aload_n F.1 F.2.1 dX12_count_17 rfl (lv_at hl 0 rfl) ?_
    refine tw_iconst F dX12_count_18 ki_1 (fun z4 hz4 => ?_)
    refine tw_Vi (As := [.int z4]) F hZ h yk_X12_refuse mw_452 mw_453 mw_454 (s_X12_refuse l D cy L R O f0 a0 m_a0 r_a0 z4 ⟨by omega, by omega⟩) rfl rfl m_a0 r_a0 (fun e q => (T_12 e).mp q) rfl hl.1 rfl (Nat.le_of_ble_eq_true rfl) ⟨Nat.le_of_ble_eq_true rfl, Nat.le_of_ble_eq_true rfl⟩ ⟨Nat.le_of_ble_eq_true rfl, Nat.le_of_ble_eq_true rfl⟩ dX12_count_19 (fun v6 f5 H locs hp5 h => ?_)
    obtain ⟨hf5, hv6a, hv6b⟩ := hp5
    have hk : fr L R [(12, 1)] [12] f0 f5 := hk.tr hf5 rfl rfl
    exact hret f5 _ _ _ _ v6 dX12_count_22 rfl hk h
  · refine lv_iload_n F.1 F.2.1 dX12_count_8 rfl (lv_at hl 2 rfl) ?_
    refine tw_if_lt (tgt := 17) F dX12_count_9 (by decide) (fun b7 => ?_) (fun b7 => ?_)
    · refine lv_aload_n F.1 F.2.1 dX12_count_17 rfl (lv_at hl 0 rfl) ?_
      refine tw_iconst F dX12_count_18 ki_1 (fun z8 hz8 => ?_)
      refine tw_Vi (As := [.int z8]) F hZ h yk_X12_refuse mw_452 mw_453 mw_454 (s_X12_refuse l D cy L R O f0 a0 m_a0 r_a0 z8 ⟨by omega, by omega⟩) rfl rfl m_a0 r_a0 (fun e q => (T_12 e).mp q) rfl hl.1 rfl (Nat.le_of_ble_eq_true rfl) ⟨Nat.le_of_ble_eq_true rfl, Nat.le_of_ble_eq_true rfl⟩ ⟨Nat.le_of_ble_eq_true rfl, Nat.le_of_ble_eq_true rfl⟩ dX12_count_19 (fun v10 f9 H locs hp9 h => ?_)
      obtain ⟨hf9, hv10a, hv10b⟩ := hp9
      have hk : fr L R [(12, 1)] [12] f0 f9 := hk.tr hf9 rfl rfl
      exact hret f9 _ _ _ _ v10 dX12_count_22 rfl hk h
    · refine lv_iload_n F.1 F.2.1 dX12_count_12 rfl (lv_at hl 2 rfl) ?_
      refine tw_iconst F dX12_count_13 ki_3 (fun z11 hz11 => ?_)
      refine tw_icmp_le (tgt := 23) F dX12_count_14 (by decide) (fun b12 => ?_) (fun b12 => ?_)
      · refine lv_aload_n F.1 F.2.1 dX12_count_23 rfl (lv_at hl 0 rfl) ?_
        refine lv_aload_n F.1 F.2.1 dX12_count_24 rfl (lv_at hl 0 rfl) ?_
        refine g_12_7 F h m_a0 r_a0 dX12_count_25 (fun o13 m_o13 r_o13 ho13 => ?_)
        refine tw_sipush F dX12_count_28 ks_1650 (fun z14 hz14 => ?_)
        refine lv_iload_n F.1 F.2.1 dX12_count_31 rfl (lv_at hl 1 rfl) ?_
        refine tu_imull F dX12_count_32 hz14 (by omega) (fun z15 hz15 => ?_)
        refine lv_iload_n F.1 F.2.1 dX12_count_33 rfl (lv_at hl 2 rfl) ?_
        refine tw_iconst F dX12_count_34 ki_3 (fun z16 hz16 => ?_)
        refine tw_icmp_ne (tgt := 44) F dX12_count_35 (by decide) (fun b17 => ?_) (fun b17 => ?_)
        · refine lv_iload_n F.1 F.2.1 dX12_count_44 rfl (lv_at hl 2 rfl) ?_
          refine tu_iadd F dX12_count_45 (by omega) (fun z18 hz18 => ?_)
          refine ld_61 F h m_o13 r_o13 (by omega) dX12_count_46 (fun v19 hv19a => ?_)
          refine lv_l2i F.1 F.2.1 dX12_count_47 rfl ?_
          refine lv_topi (fun z20 _ => ?_)
          refine tw_Vi (As := [.int z20]) F hZ h yk_X12_gives mw_499 mw_500 mw_501 (s_X12_gives l D cy L R O f0 a0 m_a0 r_a0 z20) rfl rfl m_a0 r_a0 (fun e q => (T_12 e).mp q) rfl hl.1 rfl (Nat.le_of_ble_eq_true rfl) ⟨Nat.le_of_ble_eq_true rfl, Nat.le_of_ble_eq_true rfl⟩ ⟨Nat.le_of_ble_eq_true rfl, Nat.le_of_ble_eq_true rfl⟩ dX12_count_48 (fun v22 f21 H locs hp21 h => ?_)
          have hf21 := hp21
          have hk : fr L R [(12, 1)] [12] f0 f21 := hk.tr hf21 rfl rfl
          exact hret f21 _ _ _ _ v22 dX12_count_51 rfl hk h
        · refine tw_sipush F dX12_count_38 ks_1567 (fun z23 hz23 => ?_)
          refine lv_goto (tgt := 45) F.1 F.2.1 dX12_count_41 (by decide) ?_
          refine tu_iadd F dX12_count_45 (by omega) (fun z24 hz24 => ?_)
          refine ld_61 F h m_o13 r_o13 (by omega) dX12_count_46 (fun v25 hv25a => ?_)
          refine lv_l2i F.1 F.2.1 dX12_count_47 rfl ?_
          refine lv_topi (fun z26 _ => ?_)
          refine tw_Vi (As := [.int z26]) F hZ h yk_X12_gives mw_499 mw_500 mw_501 (s_X12_gives l D cy L R O f0 a0 m_a0 r_a0 z26) rfl rfl m_a0 r_a0 (fun e q => (T_12 e).mp q) rfl hl.1 rfl (Nat.le_of_ble_eq_true rfl) ⟨Nat.le_of_ble_eq_true rfl, Nat.le_of_ble_eq_true rfl⟩ ⟨Nat.le_of_ble_eq_true rfl, Nat.le_of_ble_eq_true rfl⟩ dX12_count_48 (fun v28 f27 H locs hp27 h => ?_)
          have hf27 := hp27
          have hk : fr L R [(12, 1)] [12] f0 f27 := hk.tr hf27 rfl rfl
          exact hret f27 _ _ _ _ v28 dX12_count_51 rfl hk h
      · refine lv_aload_n F.1 F.2.1 dX12_count_17 rfl (lv_at hl 0 rfl) ?_
        refine tw_iconst F dX12_count_18 ki_1 (fun z29 hz29 => ?_)
        refine tw_Vi (As := [.int z29]) F hZ h yk_X12_refuse mw_452 mw_453 mw_454 (s_X12_refuse l D cy L R O f0 a0 m_a0 r_a0 z29 ⟨by omega, by omega⟩) rfl rfl m_a0 r_a0 (fun e q => (T_12 e).mp q) rfl hl.1 rfl (Nat.le_of_ble_eq_true rfl) ⟨Nat.le_of_ble_eq_true rfl, Nat.le_of_ble_eq_true rfl⟩ ⟨Nat.le_of_ble_eq_true rfl, Nat.le_of_ble_eq_true rfl⟩ dX12_count_19 (fun v31 f30 H locs hp30 h => ?_)
        obtain ⟨hf30, hv31a, hv31b⟩ := hp30
        have hk : fr L R [(12, 1)] [12] f0 f30 := hk.tr hf30 rfl rfl
        exact hret f30 _ _ _ _ v31 dX12_count_22 rfl hk h
theorem dX12_rule_0 : decode cX12_rule 0 = .ok (.aload_n 0, 1) := by decide +kernel
theorem dX12_rule_1 : decode cX12_rule 1 = .ok (.iload_n 1, 1) := by decide +kernel
theorem dX12_rule_2 : decode cX12_rule 2 = .ok (.invokevirtual 282, 3) := by decide +kernel
theorem dX12_rule_5 : decode cX12_rule 5 = .ok (.ifCond .eq 34, 3) := by decide +kernel
theorem dX12_rule_39 : decode cX12_rule 39 = .ok (.aload_n 0, 1) := by decide +kernel
theorem dX12_rule_40 : decode cX12_rule 40 = .ok (.iconst 1, 1) := by decide +kernel
theorem dX12_rule_41 : decode cX12_rule 41 = .ok (.invokevirtual 194, 3) := by decide +kernel
theorem dX12_rule_44 : decode cX12_rule 44 = .ok (.ireturn, 1) := by decide +kernel
theorem dX12_rule_8 : decode cX12_rule 8 = .ok (.iload_n 2, 1) := by decide +kernel
theorem dX12_rule_9 : decode cX12_rule 9 = .ok (.ifCond .lt 30, 3) := by decide +kernel
theorem dX12_rule_12 : decode cX12_rule 12 = .ok (.iload_n 2, 1) := by decide +kernel
theorem dX12_rule_13 : decode cX12_rule 13 = .ok (.i2l, 1) := by decide +kernel
theorem dX12_rule_14 : decode cX12_rule 14 = .ok (.aload_n 0, 1) := by decide +kernel
theorem dX12_rule_15 : decode cX12_rule 15 = .ok (.getfield 7, 3) := by decide +kernel
theorem dX12_rule_18 : decode cX12_rule 18 = .ok (.sipush 1650, 3) := by decide +kernel
theorem dX12_rule_21 : decode cX12_rule 21 = .ok (.iload_n 1, 1) := by decide +kernel
theorem dX12_rule_22 : decode cX12_rule 22 = .ok (.imul, 1) := by decide +kernel
theorem dX12_rule_23 : decode cX12_rule 23 = .ok (.iconst 1, 1) := by decide +kernel
theorem dX12_rule_24 : decode cX12_rule 24 = .ok (.iadd, 1) := by decide +kernel
theorem dX12_rule_25 : decode cX12_rule 25 = .ok (.laload, 1) := by decide +kernel
theorem dX12_rule_26 : decode cX12_rule 26 = .ok (.lcmp, 1) := by decide +kernel
theorem dX12_rule_27 : decode cX12_rule 27 = .ok (.ifCond .ge 12, 3) := by decide +kernel
theorem dX12_rule_30 : decode cX12_rule 30 = .ok (.iload_n 3, 1) := by decide +kernel
theorem dX12_rule_31 : decode cX12_rule 31 = .ok (.ifCond .lt 8, 3) := by decide +kernel
theorem dX12_rule_34 : decode cX12_rule 34 = .ok (.iload_n 3, 1) := by decide +kernel
theorem dX12_rule_35 : decode cX12_rule 35 = .ok (.iconst 3, 1) := by decide +kernel
theorem dX12_rule_36 : decode cX12_rule 36 = .ok (.if_icmp .le 9, 3) := by decide +kernel
theorem dX12_rule_45 : decode cX12_rule 45 = .ok (.sipush 1650, 3) := by decide +kernel
theorem dX12_rule_48 : decode cX12_rule 48 = .ok (.iload_n 1, 1) := by decide +kernel
theorem dX12_rule_49 : decode cX12_rule 49 = .ok (.imul, 1) := by decide +kernel
theorem dX12_rule_50 : decode cX12_rule 50 = .ok (.bipush 52, 2) := by decide +kernel
theorem kb_52 : (Int8.ofInt 52).toInt32.toInt = 52 := by decide
theorem dX12_rule_52 : decode cX12_rule 52 = .ok (.iadd, 1) := by decide +kernel
theorem dX12_rule_53 : decode cX12_rule 53 = .ok (.bipush 60, 2) := by decide +kernel
theorem dX12_rule_55 : decode cX12_rule 55 = .ok (.iload_n 2, 1) := by decide +kernel
theorem dX12_rule_56 : decode cX12_rule 56 = .ok (.imul, 1) := by decide +kernel
theorem dX12_rule_57 : decode cX12_rule 57 = .ok (.iadd, 1) := by decide +kernel
theorem dX12_rule_58 : decode cX12_rule 58 = .ok (.istore 4, 2) := by decide +kernel
theorem dX12_rule_60 : decode cX12_rule 60 = .ok (.aload_n 0, 1) := by decide +kernel
theorem dX12_rule_61 : decode cX12_rule 61 = .ok (.iload_n 3, 1) := by decide +kernel
theorem dX12_rule_62 : decode cX12_rule 62 = .ok (.ifCond .ne 13, 3) := by decide +kernel
theorem dX12_rule_75 : decode cX12_rule 75 = .ok (.iload_n 3, 1) := by decide +kernel
theorem dX12_rule_76 : decode cX12_rule 76 = .ok (.iconst 1, 1) := by decide +kernel
theorem dX12_rule_77 : decode cX12_rule 77 = .ok (.if_icmp .ne 15, 3) := by decide +kernel
theorem dX12_rule_92 : decode cX12_rule 92 = .ok (.iload_n 3, 1) := by decide +kernel
theorem dX12_rule_93 : decode cX12_rule 93 = .ok (.iconst 2, 1) := by decide +kernel
theorem dX12_rule_94 : decode cX12_rule 94 = .ok (.if_icmp .ne 16, 3) := by decide +kernel
theorem dX12_rule_110 : decode cX12_rule 110 = .ok (.aload_n 0, 1) := by decide +kernel
theorem dX12_rule_111 : decode cX12_rule 111 = .ok (.getfield 7, 3) := by decide +kernel
theorem dX12_rule_114 : decode cX12_rule 114 = .ok (.sipush 1650, 3) := by decide +kernel
theorem dX12_rule_117 : decode cX12_rule 117 = .ok (.iload_n 1, 1) := by decide +kernel
theorem dX12_rule_118 : decode cX12_rule 118 = .ok (.imul, 1) := by decide +kernel
theorem dX12_rule_119 : decode cX12_rule 119 = .ok (.sipush 1542, 3) := by decide +kernel
theorem ks_1542 : (Int16.ofInt 1542).toInt32.toInt = 1542 := by decide
theorem dX12_rule_122 : decode cX12_rule 122 = .ok (.iadd, 1) := by decide +kernel
theorem dX12_rule_123 : decode cX12_rule 123 = .ok (.iload_n 2, 1) := by decide +kernel
theorem dX12_rule_124 : decode cX12_rule 124 = .ok (.iadd, 1) := by decide +kernel
theorem dX12_rule_125 : decode cX12_rule 125 = .ok (.laload, 1) := by decide +kernel
theorem dX12_rule_126 : decode cX12_rule 126 = .ok (.l2i, 1) := by decide +kernel
theorem dX12_rule_127 : decode cX12_rule 127 = .ok (.invokevirtual 209, 3) := by decide +kernel
theorem dX12_rule_130 : decode cX12_rule 130 = .ok (.ireturn, 1) := by decide +kernel
theorem dX12_rule_97 : decode cX12_rule 97 = .ok (.aload_n 0, 1) := by decide +kernel
theorem dX12_rule_98 : decode cX12_rule 98 = .ok (.getfield 7, 3) := by decide +kernel
theorem dX12_rule_101 : decode cX12_rule 101 = .ok (.iload 4, 2) := by decide +kernel
theorem dX12_rule_103 : decode cX12_rule 103 = .ok (.bipush 11, 2) := by decide +kernel
theorem kb_11 : (Int8.ofInt 11).toInt32.toInt = 11 := by decide
theorem dX12_rule_105 : decode cX12_rule 105 = .ok (.iadd, 1) := by decide +kernel
theorem dX12_rule_106 : decode cX12_rule 106 = .ok (.laload, 1) := by decide +kernel
theorem dX12_rule_107 : decode cX12_rule 107 = .ok (.goto 19, 3) := by decide +kernel
theorem dX12_rule_80 : decode cX12_rule 80 = .ok (.aload_n 0, 1) := by decide +kernel
theorem dX12_rule_81 : decode cX12_rule 81 = .ok (.getfield 7, 3) := by decide +kernel
theorem dX12_rule_84 : decode cX12_rule 84 = .ok (.iload 4, 2) := by decide +kernel
theorem dX12_rule_86 : decode cX12_rule 86 = .ok (.iconst 1, 1) := by decide +kernel
theorem dX12_rule_87 : decode cX12_rule 87 = .ok (.iadd, 1) := by decide +kernel
theorem dX12_rule_88 : decode cX12_rule 88 = .ok (.laload, 1) := by decide +kernel
theorem dX12_rule_89 : decode cX12_rule 89 = .ok (.goto 37, 3) := by decide +kernel
theorem dX12_rule_65 : decode cX12_rule 65 = .ok (.aload_n 0, 1) := by decide +kernel
theorem dX12_rule_66 : decode cX12_rule 66 = .ok (.getfield 7, 3) := by decide +kernel
theorem dX12_rule_69 : decode cX12_rule 69 = .ok (.iload 4, 2) := by decide +kernel
theorem dX12_rule_71 : decode cX12_rule 71 = .ok (.laload, 1) := by decide +kernel
theorem dX12_rule_72 : decode cX12_rule 72 = .ok (.goto 54, 3) := by decide +kernel
def rm_X12_rule : Room := { frames := 1, cells := 0, slots := 0, locals := 21 }
set_option maxHeartbeats 4000000 in
set_option maxRecDepth 100000 in
theorem s_X12_rule (l : Launch) (D : va_G) (cy : Nat → ClassId) (L : List Nat) (R O : Nat → Nat) (f0 : Nat → va_E) (a0 : Nat) (m_a0 : a0 ∈ L) (r_a0 : R a0 = 12) (x1 : Int32) (x2 : Int32) (x3 : Int32) : ∀ sz, Met l yX12_rule (Cond.code yX12_rule cX12_rule 5 (some .int) :: wsL_law) rm_X12_rule (va_Pc [.ref a0, .int x1, .int x2, .int x3] (tPZ D cy L R (TT cy L R) f0 sz)) (va_Qi (fun (r : Int32) f1 => fr L R [(12, 1)] [12] f0 f1) (tB D (tA L sz) L R (TT cy L R)) (tA L sz)) 0 0 (tA L sz) := by
  refine tw_enteri (by decide +kernel) rfl (Nat.le_of_ble_eq_true rfl) ?_
  intro p e s m below meth c A ls args Q F hZ h hl hret
  have hl : lv_has ls 5 [(0, .ref a0), (1, .int x1), (2, .int x2), (3, .int x3)] := hl
  have hk : fr L R [(12, 1)] [12] f0 f0 := fr.rf
  refine lv_aload_n F.1 F.2.1 dX12_rule_0 rfl (lv_at hl 0 rfl) ?_
  refine lv_iload_n F.1 F.2.1 dX12_rule_1 rfl (lv_at hl 1 rfl) ?_
  refine tw_Vi (As := [.int x1]) F hZ h yk_X12_isScript mw_635 mw_636 mw_637 (s_X12_isScript l D cy L R O f0 a0 m_a0 r_a0 x1) rfl rfl m_a0 r_a0 (fun e q => (T_12 e).mp q) rfl hl.1 rfl (Nat.le_of_ble_eq_true rfl) ⟨Nat.le_of_ble_eq_true rfl, Nat.le_of_ble_eq_true rfl⟩ ⟨Nat.le_of_ble_eq_true rfl, Nat.le_of_ble_eq_true rfl⟩ dX12_rule_2 (fun v2 f1 H locs hp1 h => ?_)
  obtain ⟨rfl, hv2a, hv2b, hv2p0⟩ := hp1
  refine tw_if_eq (tgt := 39) F dX12_rule_5 (by decide) (fun b3 => ?_) (fun b3 => ?_)
  · refine lv_aload_n F.1 F.2.1 dX12_rule_39 rfl (lv_at hl 0 rfl) ?_
    refine tw_iconst F dX12_rule_40 ki_1 (fun z4 hz4 => ?_)
    refine tw_Vi (As := [.int z4]) F hZ h yk_X12_refuse mw_452 mw_453 mw_454 (s_X12_refuse l D cy L R O f0 a0 m_a0 r_a0 z4 ⟨by omega, by omega⟩) rfl rfl m_a0 r_a0 (fun e q => (T_12 e).mp q) rfl hl.1 rfl (Nat.le_of_ble_eq_true rfl) ⟨Nat.le_of_ble_eq_true rfl, Nat.le_of_ble_eq_true rfl⟩ ⟨Nat.le_of_ble_eq_true rfl, Nat.le_of_ble_eq_true rfl⟩ dX12_rule_41 (fun v6 f5 H locs hp5 h => ?_)
    obtain ⟨hf5, hv6a, hv6b⟩ := hp5
    have hk : fr L R [(12, 1)] [12] f0 f5 := hk.tr hf5 rfl rfl
    exact hret f5 _ _ _ _ v6 dX12_rule_44 rfl hk h
  · refine lv_iload_n F.1 F.2.1 dX12_rule_8 rfl (lv_at hl 2 rfl) ?_
    refine tw_if_lt (tgt := 39) F dX12_rule_9 (by decide) (fun b7 => ?_) (fun b7 => ?_)
    · refine lv_aload_n F.1 F.2.1 dX12_rule_39 rfl (lv_at hl 0 rfl) ?_
      refine tw_iconst F dX12_rule_40 ki_1 (fun z8 hz8 => ?_)
      refine tw_Vi (As := [.int z8]) F hZ h yk_X12_refuse mw_452 mw_453 mw_454 (s_X12_refuse l D cy L R O f0 a0 m_a0 r_a0 z8 ⟨by omega, by omega⟩) rfl rfl m_a0 r_a0 (fun e q => (T_12 e).mp q) rfl hl.1 rfl (Nat.le_of_ble_eq_true rfl) ⟨Nat.le_of_ble_eq_true rfl, Nat.le_of_ble_eq_true rfl⟩ ⟨Nat.le_of_ble_eq_true rfl, Nat.le_of_ble_eq_true rfl⟩ dX12_rule_41 (fun v10 f9 H locs hp9 h => ?_)
      obtain ⟨hf9, hv10a, hv10b⟩ := hp9
      have hk : fr L R [(12, 1)] [12] f0 f9 := hk.tr hf9 rfl rfl
      exact hret f9 _ _ _ _ v10 dX12_rule_44 rfl hk h
    · refine lv_iload_n F.1 F.2.1 dX12_rule_12 rfl (lv_at hl 2 rfl) ?_
      refine tu_i2l F dX12_rule_13 (fun z11 hz11 hz11a hz11b => ?_)
      refine lv_aload_n F.1 F.2.1 dX12_rule_14 rfl (lv_at hl 0 rfl) ?_
      refine g_12_7 F h m_a0 r_a0 dX12_rule_15 (fun o12 m_o12 r_o12 ho12 => ?_)
      refine tw_sipush F dX12_rule_18 ks_1650 (fun z13 hz13 => ?_)
      refine lv_iload_n F.1 F.2.1 dX12_rule_21 rfl (lv_at hl 1 rfl) ?_
      refine tu_imull F dX12_rule_22 hz13 (by omega) (fun z14 hz14 => ?_)
      refine tw_iconst F dX12_rule_23 ki_1 (fun z15 hz15 => ?_)
      refine tu_iadd F dX12_rule_24 (by omega) (fun z16 hz16 => ?_)
      refine ld_61 F h m_o12 r_o12 (by omega) dX12_rule_25 (fun v17 hv17a => ?_)
      have hv17b := clP_2.mp (atb hv17a (ac_c (b := (1650 * x1.toInt.toNat)) 1 (isB_s (show x1.toInt.toNat ≤ 2 by omega)) (by decide) (by omega) rfl))
      refine tw_lcmp F dX12_rule_26 (fun z18 hz18 => ?_)
      refine tw_if_ge (tgt := 39) F dX12_rule_27 (by decide) (fun b19 => ?_) (fun b19 => ?_)
      · refine lv_aload_n F.1 F.2.1 dX12_rule_39 rfl (lv_at hl 0 rfl) ?_
        refine tw_iconst F dX12_rule_40 ki_1 (fun z20 hz20 => ?_)
        refine tw_Vi (As := [.int z20]) F hZ h yk_X12_refuse mw_452 mw_453 mw_454 (s_X12_refuse l D cy L R O f0 a0 m_a0 r_a0 z20 ⟨by omega, by omega⟩) rfl rfl m_a0 r_a0 (fun e q => (T_12 e).mp q) rfl hl.1 rfl (Nat.le_of_ble_eq_true rfl) ⟨Nat.le_of_ble_eq_true rfl, Nat.le_of_ble_eq_true rfl⟩ ⟨Nat.le_of_ble_eq_true rfl, Nat.le_of_ble_eq_true rfl⟩ dX12_rule_41 (fun v22 f21 H locs hp21 h => ?_)
        obtain ⟨hf21, hv22a, hv22b⟩ := hp21
        have hk : fr L R [(12, 1)] [12] f0 f21 := hk.tr hf21 rfl rfl
        exact hret f21 _ _ _ _ v22 dX12_rule_44 rfl hk h
      · refine lv_iload_n F.1 F.2.1 dX12_rule_30 rfl (lv_at hl 3 rfl) ?_
        refine tw_if_lt (tgt := 39) F dX12_rule_31 (by decide) (fun b23 => ?_) (fun b23 => ?_)
        · refine lv_aload_n F.1 F.2.1 dX12_rule_39 rfl (lv_at hl 0 rfl) ?_
          refine tw_iconst F dX12_rule_40 ki_1 (fun z24 hz24 => ?_)
          refine tw_Vi (As := [.int z24]) F hZ h yk_X12_refuse mw_452 mw_453 mw_454 (s_X12_refuse l D cy L R O f0 a0 m_a0 r_a0 z24 ⟨by omega, by omega⟩) rfl rfl m_a0 r_a0 (fun e q => (T_12 e).mp q) rfl hl.1 rfl (Nat.le_of_ble_eq_true rfl) ⟨Nat.le_of_ble_eq_true rfl, Nat.le_of_ble_eq_true rfl⟩ ⟨Nat.le_of_ble_eq_true rfl, Nat.le_of_ble_eq_true rfl⟩ dX12_rule_41 (fun v26 f25 H locs hp25 h => ?_)
          obtain ⟨hf25, hv26a, hv26b⟩ := hp25
          have hk : fr L R [(12, 1)] [12] f0 f25 := hk.tr hf25 rfl rfl
          exact hret f25 _ _ _ _ v26 dX12_rule_44 rfl hk h
        · refine lv_iload_n F.1 F.2.1 dX12_rule_34 rfl (lv_at hl 3 rfl) ?_
          refine tw_iconst F dX12_rule_35 ki_3 (fun z27 hz27 => ?_)
          refine tw_icmp_le (tgt := 45) F dX12_rule_36 (by decide) (fun b28 => ?_) (fun b28 => ?_)
          · refine tw_sipush F dX12_rule_45 ks_1650 (fun z29 hz29 => ?_)
            refine lv_iload_n F.1 F.2.1 dX12_rule_48 rfl (lv_at hl 1 rfl) ?_
            refine tu_imull F dX12_rule_49 hz29 (by omega) (fun z30 hz30 => ?_)
            refine tw_bipush F dX12_rule_50 kb_52 (fun z31 hz31 => ?_)
            refine tu_iadd F dX12_rule_52 (by omega) (fun z32 hz32 => ?_)
            refine tw_bipush F dX12_rule_53 kb_60 (fun z33 hz33 => ?_)
            refine lv_iload_n F.1 F.2.1 dX12_rule_55 rfl (lv_at hl 2 rfl) ?_
            refine tu_imull F dX12_rule_56 hz33 (by omega) (fun z34 hz34 => ?_)
            refine tu_iadd F dX12_rule_57 (by omega) (fun z35 hz35 => ?_)
            refine lv_istore (lv' := [(4, .int z35), (0, .ref a0), (1, .int x1), (2, .int x2), (3, .int x3)]) F.1 F.2.1 dX12_rule_58 hl (by decide) rfl (fun ls hl => ?_)
            refine lv_aload_n F.1 F.2.1 dX12_rule_60 rfl (lv_at hl 1 rfl) ?_
            refine lv_iload_n F.1 F.2.1 dX12_rule_61 rfl (lv_at hl 4 rfl) ?_
            refine tw_if_ne (tgt := 75) F dX12_rule_62 (by decide) (fun b36 => ?_) (fun b36 => ?_)
            · refine lv_iload_n F.1 F.2.1 dX12_rule_75 rfl (lv_at hl 4 rfl) ?_
              refine tw_iconst F dX12_rule_76 ki_1 (fun z37 hz37 => ?_)
              refine tw_icmp_ne (tgt := 92) F dX12_rule_77 (by decide) (fun b38 => ?_) (fun b38 => ?_)
              · refine lv_iload_n F.1 F.2.1 dX12_rule_92 rfl (lv_at hl 4 rfl) ?_
                refine tw_iconst F dX12_rule_93 ki_2 (fun z39 hz39 => ?_)
                refine tw_icmp_ne (tgt := 110) F dX12_rule_94 (by decide) (fun b40 => ?_) (fun b40 => ?_)
                · refine lv_aload_n F.1 F.2.1 dX12_rule_110 rfl (lv_at hl 1 rfl) ?_
                  refine g_12_7 F h m_a0 r_a0 dX12_rule_111 (fun o41 m_o41 r_o41 ho41 => ?_)
                  refine tw_sipush F dX12_rule_114 ks_1650 (fun z42 hz42 => ?_)
                  refine lv_iload_n F.1 F.2.1 dX12_rule_117 rfl (lv_at hl 2 rfl) ?_
                  refine tu_imull F dX12_rule_118 hz42 (by omega) (fun z43 hz43 => ?_)
                  refine tw_sipush F dX12_rule_119 ks_1542 (fun z44 hz44 => ?_)
                  refine tu_iadd F dX12_rule_122 (by omega) (fun z45 hz45 => ?_)
                  refine lv_iload_n F.1 F.2.1 dX12_rule_123 rfl (lv_at hl 3 rfl) ?_
                  refine tu_iadd F dX12_rule_124 (by omega) (fun z46 hz46 => ?_)
                  refine ld_61 F h m_o41 r_o41 (by omega) dX12_rule_125 (fun v47 hv47a => ?_)
                  have hv47b := clP_8.mp (atb hv47a (ac_n (b := (1650 * x1.toInt.toNat)) (isB_s (show x1.toInt.toNat ≤ 2 by omega)) (by omega)))
                  refine lv_l2i F.1 F.2.1 dX12_rule_126 rfl ?_
                  refine lv_topi (fun z48 _ => ?_)
                  refine tw_Vi (As := [.int z48]) F hZ h yk_X12_gives mw_499 mw_500 mw_501 (s_X12_gives l D cy L R O f0 a0 m_a0 r_a0 z48) rfl rfl m_a0 r_a0 (fun e q => (T_12 e).mp q) rfl hl.1 rfl (Nat.le_of_ble_eq_true rfl) ⟨Nat.le_of_ble_eq_true rfl, Nat.le_of_ble_eq_true rfl⟩ ⟨Nat.le_of_ble_eq_true rfl, Nat.le_of_ble_eq_true rfl⟩ dX12_rule_127 (fun v50 f49 H locs hp49 h => ?_)
                  have hf49 := hp49
                  have hk : fr L R [(12, 1)] [12] f0 f49 := hk.tr hf49 rfl rfl
                  exact hret f49 _ _ _ _ v50 dX12_rule_130 rfl hk h
                · refine lv_aload_n F.1 F.2.1 dX12_rule_97 rfl (lv_at hl 1 rfl) ?_
                  refine g_12_7 F h m_a0 r_a0 dX12_rule_98 (fun o51 m_o51 r_o51 ho51 => ?_)
                  refine lv_iload F.1 F.2.1 dX12_rule_101 (lv_at hl 0 rfl) ?_
                  refine tw_bipush F dX12_rule_103 kb_11 (fun z52 hz52 => ?_)
                  refine tu_iadd F dX12_rule_105 (by omega) (fun z53 hz53 => ?_)
                  refine ld_61 F h m_o51 r_o51 (by omega) dX12_rule_106 (fun v54 hv54a => ?_)
                  have hv54b := clP_5.mp (atb hv54a (ac_r (b := (1650 * x1.toInt.toNat)) 11 (isB_s (show x1.toInt.toNat ≤ 2 by omega)) (by omega) rfl))
                  refine lv_goto (tgt := 126) F.1 F.2.1 dX12_rule_107 (by decide) ?_
                  refine lv_l2i F.1 F.2.1 dX12_rule_126 rfl ?_
                  refine lv_topi (fun z55 _ => ?_)
                  refine tw_Vi (As := [.int z55]) F hZ h yk_X12_gives mw_499 mw_500 mw_501 (s_X12_gives l D cy L R O f0 a0 m_a0 r_a0 z55) rfl rfl m_a0 r_a0 (fun e q => (T_12 e).mp q) rfl hl.1 rfl (Nat.le_of_ble_eq_true rfl) ⟨Nat.le_of_ble_eq_true rfl, Nat.le_of_ble_eq_true rfl⟩ ⟨Nat.le_of_ble_eq_true rfl, Nat.le_of_ble_eq_true rfl⟩ dX12_rule_127 (fun v57 f56 H locs hp56 h => ?_)
                  have hf56 := hp56
                  have hk : fr L R [(12, 1)] [12] f0 f56 := hk.tr hf56 rfl rfl
                  exact hret f56 _ _ _ _ v57 dX12_rule_130 rfl hk h
              · refine lv_aload_n F.1 F.2.1 dX12_rule_80 rfl (lv_at hl 1 rfl) ?_
                refine g_12_7 F h m_a0 r_a0 dX12_rule_81 (fun o58 m_o58 r_o58 ho58 => ?_)
                refine lv_iload F.1 F.2.1 dX12_rule_84 (lv_at hl 0 rfl) ?_
                refine tw_iconst F dX12_rule_86 ki_1 (fun z59 hz59 => ?_)
                refine tu_iadd F dX12_rule_87 (by omega) (fun z60 hz60 => ?_)
                refine ld_61 F h m_o58 r_o58 (by omega) dX12_rule_88 (fun v61 hv61a => ?_)
                refine lv_goto (tgt := 126) F.1 F.2.1 dX12_rule_89 (by decide) ?_
                refine lv_l2i F.1 F.2.1 dX12_rule_126 rfl ?_
                refine lv_topi (fun z62 _ => ?_)
                refine tw_Vi (As := [.int z62]) F hZ h yk_X12_gives mw_499 mw_500 mw_501 (s_X12_gives l D cy L R O f0 a0 m_a0 r_a0 z62) rfl rfl m_a0 r_a0 (fun e q => (T_12 e).mp q) rfl hl.1 rfl (Nat.le_of_ble_eq_true rfl) ⟨Nat.le_of_ble_eq_true rfl, Nat.le_of_ble_eq_true rfl⟩ ⟨Nat.le_of_ble_eq_true rfl, Nat.le_of_ble_eq_true rfl⟩ dX12_rule_127 (fun v64 f63 H locs hp63 h => ?_)
                have hf63 := hp63
                have hk : fr L R [(12, 1)] [12] f0 f63 := hk.tr hf63 rfl rfl
                exact hret f63 _ _ _ _ v64 dX12_rule_130 rfl hk h
            · refine lv_aload_n F.1 F.2.1 dX12_rule_65 rfl (lv_at hl 1 rfl) ?_
              refine g_12_7 F h m_a0 r_a0 dX12_rule_66 (fun o65 m_o65 r_o65 ho65 => ?_)
              refine lv_iload F.1 F.2.1 dX12_rule_69 (lv_at hl 0 rfl) ?_
              refine ld_61 F h m_o65 r_o65 (by omega) dX12_rule_71 (fun v66 hv66a => ?_)
              refine lv_goto (tgt := 126) F.1 F.2.1 dX12_rule_72 (by decide) ?_
              refine lv_l2i F.1 F.2.1 dX12_rule_126 rfl ?_
              refine lv_topi (fun z67 _ => ?_)
              refine tw_Vi (As := [.int z67]) F hZ h yk_X12_gives mw_499 mw_500 mw_501 (s_X12_gives l D cy L R O f0 a0 m_a0 r_a0 z67) rfl rfl m_a0 r_a0 (fun e q => (T_12 e).mp q) rfl hl.1 rfl (Nat.le_of_ble_eq_true rfl) ⟨Nat.le_of_ble_eq_true rfl, Nat.le_of_ble_eq_true rfl⟩ ⟨Nat.le_of_ble_eq_true rfl, Nat.le_of_ble_eq_true rfl⟩ dX12_rule_127 (fun v69 f68 H locs hp68 h => ?_)
              have hf68 := hp68
              have hk : fr L R [(12, 1)] [12] f0 f68 := hk.tr hf68 rfl rfl
              exact hret f68 _ _ _ _ v69 dX12_rule_130 rfl hk h
          · refine lv_aload_n F.1 F.2.1 dX12_rule_39 rfl (lv_at hl 0 rfl) ?_
            refine tw_iconst F dX12_rule_40 ki_1 (fun z70 hz70 => ?_)
            refine tw_Vi (As := [.int z70]) F hZ h yk_X12_refuse mw_452 mw_453 mw_454 (s_X12_refuse l D cy L R O f0 a0 m_a0 r_a0 z70 ⟨by omega, by omega⟩) rfl rfl m_a0 r_a0 (fun e q => (T_12 e).mp q) rfl hl.1 rfl (Nat.le_of_ble_eq_true rfl) ⟨Nat.le_of_ble_eq_true rfl, Nat.le_of_ble_eq_true rfl⟩ ⟨Nat.le_of_ble_eq_true rfl, Nat.le_of_ble_eq_true rfl⟩ dX12_rule_41 (fun v72 f71 H locs hp71 h => ?_)
            obtain ⟨hf71, hv72a, hv72b⟩ := hp71
            have hk : fr L R [(12, 1)] [12] f0 f71 := hk.tr hf71 rfl rfl
            exact hret f71 _ _ _ _ v72 dX12_rule_44 rfl hk h
theorem dX12_remembered_0 : decode cX12_remembered 0 = .ok (.aload_n 0, 1) := by decide +kernel
theorem dX12_remembered_1 : decode cX12_remembered 1 = .ok (.iload_n 1, 1) := by decide +kernel
theorem dX12_remembered_2 : decode cX12_remembered 2 = .ok (.invokevirtual 282, 3) := by decide +kernel
theorem dX12_remembered_5 : decode cX12_remembered 5 = .ok (.ifCond .eq 12, 3) := by decide +kernel
theorem dX12_remembered_17 : decode cX12_remembered 17 = .ok (.aload_n 0, 1) := by decide +kernel
theorem dX12_remembered_18 : decode cX12_remembered 18 = .ok (.iconst 1, 1) := by decide +kernel
theorem dX12_remembered_19 : decode cX12_remembered 19 = .ok (.invokevirtual 194, 3) := by decide +kernel
theorem dX12_remembered_22 : decode cX12_remembered 22 = .ok (.i2l, 1) := by decide +kernel
theorem dX12_remembered_23 : decode cX12_remembered 23 = .ok (.lreturn, 1) := by decide +kernel
theorem dX12_remembered_8 : decode cX12_remembered 8 = .ok (.iload_n 2, 1) := by decide +kernel
theorem dX12_remembered_9 : decode cX12_remembered 9 = .ok (.ifCond .lt 8, 3) := by decide +kernel
theorem dX12_remembered_12 : decode cX12_remembered 12 = .ok (.iload_n 3, 1) := by decide +kernel
theorem dX12_remembered_13 : decode cX12_remembered 13 = .ok (.iconst (-1), 1) := by decide +kernel
theorem dX12_remembered_14 : decode cX12_remembered 14 = .ok (.if_icmp .ge 10, 3) := by decide +kernel
theorem dX12_remembered_24 : decode cX12_remembered 24 = .ok (.sipush 1650, 3) := by decide +kernel
theorem dX12_remembered_27 : decode cX12_remembered 27 = .ok (.iload_n 1, 1) := by decide +kernel
theorem dX12_remembered_28 : decode cX12_remembered 28 = .ok (.imul, 1) := by decide +kernel
theorem dX12_remembered_29 : decode cX12_remembered 29 = .ok (.istore 4, 2) := by decide +kernel
theorem dX12_remembered_31 : decode cX12_remembered 31 = .ok (.iload 4, 2) := by decide +kernel
theorem dX12_remembered_33 : decode cX12_remembered 33 = .ok (.sipush 1568, 3) := by decide +kernel
theorem ks_1568 : (Int16.ofInt 1568).toInt32.toInt = 1568 := by decide
theorem dX12_remembered_36 : decode cX12_remembered 36 = .ok (.iadd, 1) := by decide +kernel
theorem dX12_remembered_37 : decode cX12_remembered 37 = .ok (.bipush 13, 2) := by decide +kernel
theorem dX12_remembered_39 : decode cX12_remembered 39 = .ok (.iload_n 2, 1) := by decide +kernel
theorem dX12_remembered_40 : decode cX12_remembered 40 = .ok (.imul, 1) := by decide +kernel
theorem dX12_remembered_41 : decode cX12_remembered 41 = .ok (.iadd, 1) := by decide +kernel
theorem dX12_remembered_42 : decode cX12_remembered 42 = .ok (.istore 5, 2) := by decide +kernel
theorem dX12_remembered_44 : decode cX12_remembered 44 = .ok (.iload_n 2, 1) := by decide +kernel
theorem dX12_remembered_45 : decode cX12_remembered 45 = .ok (.i2l, 1) := by decide +kernel
theorem dX12_remembered_46 : decode cX12_remembered 46 = .ok (.aload_n 0, 1) := by decide +kernel
theorem dX12_remembered_47 : decode cX12_remembered 47 = .ok (.getfield 7, 3) := by decide +kernel
theorem dX12_remembered_50 : decode cX12_remembered 50 = .ok (.iload 4, 2) := by decide +kernel
theorem dX12_remembered_52 : decode cX12_remembered 52 = .ok (.sipush 1567, 3) := by decide +kernel
theorem dX12_remembered_55 : decode cX12_remembered 55 = .ok (.iadd, 1) := by decide +kernel
theorem dX12_remembered_56 : decode cX12_remembered 56 = .ok (.laload, 1) := by decide +kernel
theorem dX12_remembered_57 : decode cX12_remembered 57 = .ok (.lcmp, 1) := by decide +kernel
theorem dX12_remembered_58 : decode cX12_remembered 58 = .ok (.ifCond .ge 16, 3) := by decide +kernel
theorem dX12_remembered_74 : decode cX12_remembered 74 = .ok (.aload_n 0, 1) := by decide +kernel
theorem dX12_remembered_75 : decode cX12_remembered 75 = .ok (.bipush 6, 2) := by decide +kernel
theorem dX12_remembered_77 : decode cX12_remembered 77 = .ok (.invokevirtual 194, 3) := by decide +kernel
theorem dX12_remembered_80 : decode cX12_remembered 80 = .ok (.i2l, 1) := by decide +kernel
theorem dX12_remembered_81 : decode cX12_remembered 81 = .ok (.lreturn, 1) := by decide +kernel
theorem dX12_remembered_61 : decode cX12_remembered 61 = .ok (.iload_n 3, 1) := by decide +kernel
theorem dX12_remembered_62 : decode cX12_remembered 62 = .ok (.i2l, 1) := by decide +kernel
theorem dX12_remembered_63 : decode cX12_remembered 63 = .ok (.aload_n 0, 1) := by decide +kernel
theorem dX12_remembered_64 : decode cX12_remembered 64 = .ok (.getfield 7, 3) := by decide +kernel
theorem dX12_remembered_67 : decode cX12_remembered 67 = .ok (.iload 5, 2) := by decide +kernel
theorem dX12_remembered_69 : decode cX12_remembered 69 = .ok (.laload, 1) := by decide +kernel
theorem dX12_remembered_70 : decode cX12_remembered 70 = .ok (.lcmp, 1) := by decide +kernel
theorem dX12_remembered_71 : decode cX12_remembered 71 = .ok (.ifCond .lt 11, 3) := by decide +kernel
theorem dX12_remembered_82 : decode cX12_remembered 82 = .ok (.aload_n 0, 1) := by decide +kernel
theorem dX12_remembered_83 : decode cX12_remembered 83 = .ok (.iload_n 3, 1) := by decide +kernel
theorem dX12_remembered_84 : decode cX12_remembered 84 = .ok (.iconst (-1), 1) := by decide +kernel
theorem dX12_remembered_85 : decode cX12_remembered 85 = .ok (.if_icmp .ne 13, 3) := by decide +kernel
theorem dX12_remembered_98 : decode cX12_remembered 98 = .ok (.aload_n 0, 1) := by decide +kernel
theorem dX12_remembered_99 : decode cX12_remembered 99 = .ok (.getfield 7, 3) := by decide +kernel
theorem dX12_remembered_102 : decode cX12_remembered 102 = .ok (.iload 5, 2) := by decide +kernel
theorem dX12_remembered_104 : decode cX12_remembered 104 = .ok (.iconst 1, 1) := by decide +kernel
theorem dX12_remembered_105 : decode cX12_remembered 105 = .ok (.iadd, 1) := by decide +kernel
theorem dX12_remembered_106 : decode cX12_remembered 106 = .ok (.iload_n 3, 1) := by decide +kernel
theorem dX12_remembered_107 : decode cX12_remembered 107 = .ok (.iadd, 1) := by decide +kernel
theorem dX12_remembered_108 : decode cX12_remembered 108 = .ok (.laload, 1) := by decide +kernel
theorem dX12_remembered_109 : decode cX12_remembered 109 = .ok (.invokevirtual 216, 3) := by decide +kernel
theorem dX12_remembered_112 : decode cX12_remembered 112 = .ok (.lreturn, 1) := by decide +kernel
theorem dX12_remembered_88 : decode cX12_remembered 88 = .ok (.aload_n 0, 1) := by decide +kernel
theorem dX12_remembered_89 : decode cX12_remembered 89 = .ok (.getfield 7, 3) := by decide +kernel
theorem dX12_remembered_92 : decode cX12_remembered 92 = .ok (.iload 5, 2) := by decide +kernel
theorem dX12_remembered_94 : decode cX12_remembered 94 = .ok (.laload, 1) := by decide +kernel
theorem dX12_remembered_95 : decode cX12_remembered 95 = .ok (.goto 14, 3) := by decide +kernel
def rm_X12_remembered : Room := { frames := 1, cells := 0, slots := 0, locals := 22 }
set_option maxHeartbeats 4000000 in
set_option maxRecDepth 100000 in
theorem s_X12_remembered (l : Launch) (D : va_G) (cy : Nat → ClassId) (L : List Nat) (R O : Nat → Nat) (f0 : Nat → va_E) (a0 : Nat) (m_a0 : a0 ∈ L) (r_a0 : R a0 = 12) (x1 : Int32) (x2 : Int32) (x3 : Int32) : ∀ sz, Met l yX12_remembered (Cond.code yX12_remembered cX12_remembered 6 (some .long) :: wsL_law) rm_X12_remembered (va_Pc [.ref a0, .int x1, .int x2, .int x3] (tPZ D cy L R (TT cy L R) f0 sz)) (va_Ql (fun (r : Int64) f1 => fr L R [(12, 1)] [12] f0 f1) (tB D (tA L sz) L R (TT cy L R)) (tA L sz)) 0 0 (tA L sz) := by
  refine tw_enterl (by decide +kernel) rfl (Nat.le_of_ble_eq_true rfl) ?_
  intro p e s m below meth c A ls args Q F hZ h hl hret
  have hl : lv_has ls 6 [(0, .ref a0), (1, .int x1), (2, .int x2), (3, .int x3)] := hl
  have hk : fr L R [(12, 1)] [12] f0 f0 := fr.rf
  refine lv_aload_n F.1 F.2.1 dX12_remembered_0 rfl (lv_at hl 0 rfl) ?_
  refine lv_iload_n F.1 F.2.1 dX12_remembered_1 rfl (lv_at hl 1 rfl) ?_
  refine tw_Vi (As := [.int x1]) F hZ h yk_X12_isScript mw_635 mw_636 mw_637 (s_X12_isScript l D cy L R O f0 a0 m_a0 r_a0 x1) rfl rfl m_a0 r_a0 (fun e q => (T_12 e).mp q) rfl hl.1 rfl (Nat.le_of_ble_eq_true rfl) ⟨Nat.le_of_ble_eq_true rfl, Nat.le_of_ble_eq_true rfl⟩ ⟨Nat.le_of_ble_eq_true rfl, Nat.le_of_ble_eq_true rfl⟩ dX12_remembered_2 (fun v2 f1 H locs hp1 h => ?_)
  obtain ⟨rfl, hv2a, hv2b, hv2p0⟩ := hp1
  refine tw_if_eq (tgt := 17) F dX12_remembered_5 (by decide) (fun b3 => ?_) (fun b3 => ?_)
  · refine lv_aload_n F.1 F.2.1 dX12_remembered_17 rfl (lv_at hl 0 rfl) ?_
    refine tw_iconst F dX12_remembered_18 ki_1 (fun z4 hz4 => ?_)
    refine tw_Vi (As := [.int z4]) F hZ h yk_X12_refuse mw_452 mw_453 mw_454 (s_X12_refuse l D cy L R O f0 a0 m_a0 r_a0 z4 ⟨by omega, by omega⟩) rfl rfl m_a0 r_a0 (fun e q => (T_12 e).mp q) rfl hl.1 rfl (Nat.le_of_ble_eq_true rfl) ⟨Nat.le_of_ble_eq_true rfl, Nat.le_of_ble_eq_true rfl⟩ ⟨Nat.le_of_ble_eq_true rfl, Nat.le_of_ble_eq_true rfl⟩ dX12_remembered_19 (fun v6 f5 H locs hp5 h => ?_)
    obtain ⟨hf5, hv6a, hv6b⟩ := hp5
    have hk : fr L R [(12, 1)] [12] f0 f5 := hk.tr hf5 rfl rfl
    refine tw_i2l F dX12_remembered_22 (fun z7 hz7 => ?_)
    exact hret f5 _ _ _ _ z7 dX12_remembered_23 hk h
  · refine lv_iload_n F.1 F.2.1 dX12_remembered_8 rfl (lv_at hl 2 rfl) ?_
    refine tw_if_lt (tgt := 17) F dX12_remembered_9 (by decide) (fun b8 => ?_) (fun b8 => ?_)
    · refine lv_aload_n F.1 F.2.1 dX12_remembered_17 rfl (lv_at hl 0 rfl) ?_
      refine tw_iconst F dX12_remembered_18 ki_1 (fun z9 hz9 => ?_)
      refine tw_Vi (As := [.int z9]) F hZ h yk_X12_refuse mw_452 mw_453 mw_454 (s_X12_refuse l D cy L R O f0 a0 m_a0 r_a0 z9 ⟨by omega, by omega⟩) rfl rfl m_a0 r_a0 (fun e q => (T_12 e).mp q) rfl hl.1 rfl (Nat.le_of_ble_eq_true rfl) ⟨Nat.le_of_ble_eq_true rfl, Nat.le_of_ble_eq_true rfl⟩ ⟨Nat.le_of_ble_eq_true rfl, Nat.le_of_ble_eq_true rfl⟩ dX12_remembered_19 (fun v11 f10 H locs hp10 h => ?_)
      obtain ⟨hf10, hv11a, hv11b⟩ := hp10
      have hk : fr L R [(12, 1)] [12] f0 f10 := hk.tr hf10 rfl rfl
      refine tw_i2l F dX12_remembered_22 (fun z12 hz12 => ?_)
      exact hret f10 _ _ _ _ z12 dX12_remembered_23 hk h
    · refine lv_iload_n F.1 F.2.1 dX12_remembered_12 rfl (lv_at hl 3 rfl) ?_
      refine tw_iconst F dX12_remembered_13 ki_m1 (fun z13 hz13 => ?_)
      refine tw_icmp_ge (tgt := 24) F dX12_remembered_14 (by decide) (fun b14 => ?_) (fun b14 => ?_)
      · refine tw_sipush F dX12_remembered_24 ks_1650 (fun z15 hz15 => ?_)
        refine lv_iload_n F.1 F.2.1 dX12_remembered_27 rfl (lv_at hl 1 rfl) ?_
        refine tu_imull F dX12_remembered_28 hz15 (by omega) (fun z16 hz16 => ?_)
        refine lv_istore (lv' := [(4, .int z16), (0, .ref a0), (1, .int x1), (2, .int x2), (3, .int x3)]) F.1 F.2.1 dX12_remembered_29 hl (by decide) rfl (fun ls hl => ?_)
        refine lv_iload F.1 F.2.1 dX12_remembered_31 (lv_at hl 0 rfl) ?_
        refine tw_sipush F dX12_remembered_33 ks_1568 (fun z17 hz17 => ?_)
        refine tu_iadd F dX12_remembered_36 (by omega) (fun z18 hz18 => ?_)
        refine tw_bipush F dX12_remembered_37 kb_13 (fun z19 hz19 => ?_)
        refine lv_iload_n F.1 F.2.1 dX12_remembered_39 rfl (lv_at hl 3 rfl) ?_
        refine lv_imul F.1 F.2.1 dX12_remembered_40 ?_
        refine lv_topi (fun z20 qz20 => ?_)
        refine lv_iadd F.1 F.2.1 dX12_remembered_41 ?_
        refine lv_topi (fun z21 qz21 => ?_)
        refine lv_istore (lv' := [(5, .int z21), (4, .int z16), (0, .ref a0), (1, .int x1), (2, .int x2), (3, .int x3)]) F.1 F.2.1 dX12_remembered_42 hl (by decide) rfl (fun ls hl => ?_)
        refine lv_iload_n F.1 F.2.1 dX12_remembered_44 rfl (lv_at hl 4 rfl) ?_
        refine tu_i2l F dX12_remembered_45 (fun z22 hz22 hz22a hz22b => ?_)
        refine lv_aload_n F.1 F.2.1 dX12_remembered_46 rfl (lv_at hl 2 rfl) ?_
        refine g_12_7 F h m_a0 r_a0 dX12_remembered_47 (fun o23 m_o23 r_o23 ho23 => ?_)
        refine lv_iload F.1 F.2.1 dX12_remembered_50 (lv_at hl 1 rfl) ?_
        refine tw_sipush F dX12_remembered_52 ks_1567 (fun z24 hz24 => ?_)
        refine tu_iadd F dX12_remembered_55 (by omega) (fun z25 hz25 => ?_)
        refine ld_61 F h m_o23 r_o23 (by omega) dX12_remembered_56 (fun v26 hv26a => ?_)
        have hv26b := clP_9.mp (atb hv26a (ac_c (b := (1650 * x1.toInt.toNat)) 1567 (isB_s (show x1.toInt.toNat ≤ 2 by omega)) (by decide) (by omega) rfl))
        refine tw_lcmp F dX12_remembered_57 (fun z27 hz27 => ?_)
        refine tw_if_ge (tgt := 74) F dX12_remembered_58 (by decide) (fun b28 => ?_) (fun b28 => ?_)
        · refine lv_aload_n F.1 F.2.1 dX12_remembered_74 rfl (lv_at hl 2 rfl) ?_
          refine tw_bipush F dX12_remembered_75 kb_6 (fun z29 hz29 => ?_)
          refine tw_Vi (As := [.int z29]) F hZ h yk_X12_refuse mw_452 mw_453 mw_454 (s_X12_refuse l D cy L R O f0 a0 m_a0 r_a0 z29 ⟨by omega, by omega⟩) rfl rfl m_a0 r_a0 (fun e q => (T_12 e).mp q) rfl hl.1 rfl (Nat.le_of_ble_eq_true rfl) ⟨Nat.le_of_ble_eq_true rfl, Nat.le_of_ble_eq_true rfl⟩ ⟨Nat.le_of_ble_eq_true rfl, Nat.le_of_ble_eq_true rfl⟩ dX12_remembered_77 (fun v31 f30 H locs hp30 h => ?_)
          obtain ⟨hf30, hv31a, hv31b⟩ := hp30
          have hk : fr L R [(12, 1)] [12] f0 f30 := hk.tr hf30 rfl rfl
          refine tw_i2l F dX12_remembered_80 (fun z32 hz32 => ?_)
          exact hret f30 _ _ _ _ z32 dX12_remembered_81 hk h
        · have hm13 : z20.toInt = 13 * x2.toInt := by rw [qz20, tw_mul (by rw [hz19]; omega) (by rw [hz19]; omega), hz19]
          have hl13 : z21.toInt = z18.toInt + z20.toInt := by rw [qz21]; exact tw_add (by omega) (by omega)
          refine lv_iload_n F.1 F.2.1 dX12_remembered_61 rfl (lv_at hl 5 rfl) ?_
          refine tu_i2l F dX12_remembered_62 (fun z33 hz33 hz33a hz33b => ?_)
          refine lv_aload_n F.1 F.2.1 dX12_remembered_63 rfl (lv_at hl 2 rfl) ?_
          refine g_12_7 F h m_a0 r_a0 dX12_remembered_64 (fun o34 m_o34 r_o34 ho34 => ?_)
          refine lv_iload F.1 F.2.1 dX12_remembered_67 (lv_at hl 0 rfl) ?_
          refine ld_61 F h m_o34 r_o34 (by omega) dX12_remembered_69 (fun v35 hv35a => ?_)
          have hv35b := clP_10.mp (atb hv35a (ac_kl (b := (1650 * x1.toInt.toNat)) (isB_s (show x1.toInt.toNat ≤ 2 by omega)) (by omega)))
          refine tw_lcmp F dX12_remembered_70 (fun z36 hz36 => ?_)
          refine tw_if_lt (tgt := 82) F dX12_remembered_71 (by decide) (fun b37 => ?_) (fun b37 => ?_)
          · refine lv_aload_n F.1 F.2.1 dX12_remembered_82 rfl (lv_at hl 2 rfl) ?_
            refine lv_iload_n F.1 F.2.1 dX12_remembered_83 rfl (lv_at hl 5 rfl) ?_
            refine tw_iconst F dX12_remembered_84 ki_m1 (fun z38 hz38 => ?_)
            refine tw_icmp_ne (tgt := 98) F dX12_remembered_85 (by decide) (fun b39 => ?_) (fun b39 => ?_)
            · refine lv_aload_n F.1 F.2.1 dX12_remembered_98 rfl (lv_at hl 2 rfl) ?_
              refine g_12_7 F h m_a0 r_a0 dX12_remembered_99 (fun o40 m_o40 r_o40 ho40 => ?_)
              refine lv_iload F.1 F.2.1 dX12_remembered_102 (lv_at hl 0 rfl) ?_
              refine tw_iconst F dX12_remembered_104 ki_1 (fun z41 hz41 => ?_)
              refine tu_iadd F dX12_remembered_105 (by omega) (fun z42 hz42 => ?_)
              refine lv_iload_n F.1 F.2.1 dX12_remembered_106 rfl (lv_at hl 5 rfl) ?_
              refine tu_iadd F dX12_remembered_107 (by omega) (fun z43 hz43 => ?_)
              refine ld_61 F h m_o40 r_o40 (by omega) dX12_remembered_108 (fun v44 hv44a => ?_)
              refine tw_Vl (As := [.long v44]) F hZ h yk_X12_givesLong mw_801 mw_802 mw_803 (s_X12_givesLong l D cy L R O f0 a0 m_a0 r_a0 v44) rfl rfl m_a0 r_a0 (fun e q => (T_12 e).mp q) rfl hl.1 rfl (Nat.le_of_ble_eq_true rfl) ⟨Nat.le_of_ble_eq_true rfl, Nat.le_of_ble_eq_true rfl⟩ ⟨Nat.le_of_ble_eq_true rfl, Nat.le_of_ble_eq_true rfl⟩ dX12_remembered_109 (fun v46 f45 H locs hp45 h => ?_)
              have hf45 := hp45
              have hk : fr L R [(12, 1)] [12] f0 f45 := hk.tr hf45 rfl rfl
              exact hret f45 _ _ _ _ v46 dX12_remembered_112 hk h
            · refine lv_aload_n F.1 F.2.1 dX12_remembered_88 rfl (lv_at hl 2 rfl) ?_
              refine g_12_7 F h m_a0 r_a0 dX12_remembered_89 (fun o47 m_o47 r_o47 ho47 => ?_)
              refine lv_iload F.1 F.2.1 dX12_remembered_92 (lv_at hl 0 rfl) ?_
              refine ld_61 F h m_o47 r_o47 (by omega) dX12_remembered_94 (fun v48 hv48a => ?_)
              have hv48b := clP_10.mp (atb hv48a (ac_kl (b := (1650 * x1.toInt.toNat)) (isB_s (show x1.toInt.toNat ≤ 2 by omega)) (by omega)))
              refine lv_goto (tgt := 109) F.1 F.2.1 dX12_remembered_95 (by decide) ?_
              refine tw_Vl (As := [.long v48]) F hZ h yk_X12_givesLong mw_801 mw_802 mw_803 (s_X12_givesLong l D cy L R O f0 a0 m_a0 r_a0 v48) rfl rfl m_a0 r_a0 (fun e q => (T_12 e).mp q) rfl hl.1 rfl (Nat.le_of_ble_eq_true rfl) ⟨Nat.le_of_ble_eq_true rfl, Nat.le_of_ble_eq_true rfl⟩ ⟨Nat.le_of_ble_eq_true rfl, Nat.le_of_ble_eq_true rfl⟩ dX12_remembered_109 (fun v50 f49 H locs hp49 h => ?_)
              have hf49 := hp49
              have hk : fr L R [(12, 1)] [12] f0 f49 := hk.tr hf49 rfl rfl
              exact hret f49 _ _ _ _ v50 dX12_remembered_112 hk h
          · refine lv_aload_n F.1 F.2.1 dX12_remembered_74 rfl (lv_at hl 2 rfl) ?_
            refine tw_bipush F dX12_remembered_75 kb_6 (fun z51 hz51 => ?_)
            refine tw_Vi (As := [.int z51]) F hZ h yk_X12_refuse mw_452 mw_453 mw_454 (s_X12_refuse l D cy L R O f0 a0 m_a0 r_a0 z51 ⟨by omega, by omega⟩) rfl rfl m_a0 r_a0 (fun e q => (T_12 e).mp q) rfl hl.1 rfl (Nat.le_of_ble_eq_true rfl) ⟨Nat.le_of_ble_eq_true rfl, Nat.le_of_ble_eq_true rfl⟩ ⟨Nat.le_of_ble_eq_true rfl, Nat.le_of_ble_eq_true rfl⟩ dX12_remembered_77 (fun v53 f52 H locs hp52 h => ?_)
            obtain ⟨hf52, hv53a, hv53b⟩ := hp52
            have hk : fr L R [(12, 1)] [12] f0 f52 := hk.tr hf52 rfl rfl
            refine tw_i2l F dX12_remembered_80 (fun z54 hz54 => ?_)
            exact hret f52 _ _ _ _ z54 dX12_remembered_81 hk h
      · refine lv_aload_n F.1 F.2.1 dX12_remembered_17 rfl (lv_at hl 0 rfl) ?_
        refine tw_iconst F dX12_remembered_18 ki_1 (fun z55 hz55 => ?_)
        refine tw_Vi (As := [.int z55]) F hZ h yk_X12_refuse mw_452 mw_453 mw_454 (s_X12_refuse l D cy L R O f0 a0 m_a0 r_a0 z55 ⟨by omega, by omega⟩) rfl rfl m_a0 r_a0 (fun e q => (T_12 e).mp q) rfl hl.1 rfl (Nat.le_of_ble_eq_true rfl) ⟨Nat.le_of_ble_eq_true rfl, Nat.le_of_ble_eq_true rfl⟩ ⟨Nat.le_of_ble_eq_true rfl, Nat.le_of_ble_eq_true rfl⟩ dX12_remembered_19 (fun v57 f56 H locs hp56 h => ?_)
        obtain ⟨hf56, hv57a, hv57b⟩ := hp56
        have hk : fr L R [(12, 1)] [12] f0 f56 := hk.tr hf56 rfl rfl
        refine tw_i2l F dX12_remembered_22 (fun z58 hz58 => ?_)
        exact hret f56 _ _ _ _ z58 dX12_remembered_23 hk h
theorem dX12_word_0 : decode cX12_word 0 = .ok (.aload_n 0, 1) := by decide +kernel
theorem dX12_word_1 : decode cX12_word 1 = .ok (.iload_n 1, 1) := by decide +kernel
theorem dX12_word_2 : decode cX12_word 2 = .ok (.i2l, 1) := by decide +kernel
theorem dX12_word_3 : decode cX12_word 3 = .ok (.invokevirtual 212, 3) := by decide +kernel
theorem dX12_word_6 : decode cX12_word 6 = .ok (.ifCond .eq 8, 3) := by decide +kernel
theorem dX12_word_14 : decode cX12_word 14 = .ok (.aload_n 0, 1) := by decide +kernel
theorem dX12_word_15 : decode cX12_word 15 = .ok (.iconst 1, 1) := by decide +kernel
theorem dX12_word_16 : decode cX12_word 16 = .ok (.invokevirtual 194, 3) := by decide +kernel
theorem dX12_word_19 : decode cX12_word 19 = .ok (.i2l, 1) := by decide +kernel
theorem dX12_word_20 : decode cX12_word 20 = .ok (.lreturn, 1) := by decide +kernel
theorem dX12_word_9 : decode cX12_word 9 = .ok (.iload_n 2, 1) := by decide +kernel
theorem dX12_word_10 : decode cX12_word 10 = .ok (.iconst (-1), 1) := by decide +kernel
theorem dX12_word_11 : decode cX12_word 11 = .ok (.if_icmp .ge 10, 3) := by decide +kernel
theorem dX12_word_21 : decode cX12_word 21 = .ok (.aload_n 0, 1) := by decide +kernel
theorem dX12_word_22 : decode cX12_word 22 = .ok (.iload_n 1, 1) := by decide +kernel
theorem dX12_word_23 : decode cX12_word 23 = .ok (.invokevirtual 206, 3) := by decide +kernel
theorem dX12_word_26 : decode cX12_word 26 = .ok (.istore_n 3, 1) := by decide +kernel
theorem dX12_word_27 : decode cX12_word 27 = .ok (.iload_n 2, 1) := by decide +kernel
theorem dX12_word_28 : decode cX12_word 28 = .ok (.iconst (-1), 1) := by decide +kernel
theorem dX12_word_29 : decode cX12_word 29 = .ok (.if_icmp .ne 14, 3) := by decide +kernel
theorem dX12_word_43 : decode cX12_word 43 = .ok (.iload_n 2, 1) := by decide +kernel
theorem dX12_word_44 : decode cX12_word 44 = .ok (.i2l, 1) := by decide +kernel
theorem dX12_word_45 : decode cX12_word 45 = .ok (.aload_n 0, 1) := by decide +kernel
theorem dX12_word_46 : decode cX12_word 46 = .ok (.getfield 7, 3) := by decide +kernel
theorem dX12_word_49 : decode cX12_word 49 = .ok (.iload_n 3, 1) := by decide +kernel
theorem dX12_word_50 : decode cX12_word 50 = .ok (.laload, 1) := by decide +kernel
theorem dX12_word_51 : decode cX12_word 51 = .ok (.lcmp, 1) := by decide +kernel
theorem dX12_word_52 : decode cX12_word 52 = .ok (.ifCond .lt 13, 3) := by decide +kernel
theorem dX12_word_65 : decode cX12_word 65 = .ok (.aload_n 0, 1) := by decide +kernel
theorem dX12_word_66 : decode cX12_word 66 = .ok (.aload_n 0, 1) := by decide +kernel
theorem dX12_word_67 : decode cX12_word 67 = .ok (.getfield 7, 3) := by decide +kernel
theorem dX12_word_70 : decode cX12_word 70 = .ok (.iload_n 3, 1) := by decide +kernel
theorem dX12_word_71 : decode cX12_word 71 = .ok (.iconst 1, 1) := by decide +kernel
theorem dX12_word_72 : decode cX12_word 72 = .ok (.iadd, 1) := by decide +kernel
theorem dX12_word_73 : decode cX12_word 73 = .ok (.iload_n 2, 1) := by decide +kernel
theorem dX12_word_74 : decode cX12_word 74 = .ok (.iadd, 1) := by decide +kernel
theorem dX12_word_75 : decode cX12_word 75 = .ok (.laload, 1) := by decide +kernel
theorem dX12_word_76 : decode cX12_word 76 = .ok (.invokevirtual 216, 3) := by decide +kernel
theorem dX12_word_79 : decode cX12_word 79 = .ok (.lreturn, 1) := by decide +kernel
theorem dX12_word_55 : decode cX12_word 55 = .ok (.aload_n 0, 1) := by decide +kernel
theorem dX12_word_56 : decode cX12_word 56 = .ok (.bipush 6, 2) := by decide +kernel
theorem dX12_word_58 : decode cX12_word 58 = .ok (.invokevirtual 194, 3) := by decide +kernel
theorem dX12_word_61 : decode cX12_word 61 = .ok (.i2l, 1) := by decide +kernel
theorem dX12_word_62 : decode cX12_word 62 = .ok (.goto 17, 3) := by decide +kernel
theorem dX12_word_32 : decode cX12_word 32 = .ok (.aload_n 0, 1) := by decide +kernel
theorem dX12_word_33 : decode cX12_word 33 = .ok (.aload_n 0, 1) := by decide +kernel
theorem dX12_word_34 : decode cX12_word 34 = .ok (.getfield 7, 3) := by decide +kernel
theorem dX12_word_37 : decode cX12_word 37 = .ok (.iload_n 3, 1) := by decide +kernel
theorem dX12_word_38 : decode cX12_word 38 = .ok (.laload, 1) := by decide +kernel
theorem dX12_word_39 : decode cX12_word 39 = .ok (.invokevirtual 216, 3) := by decide +kernel
theorem dX12_word_42 : decode cX12_word 42 = .ok (.lreturn, 1) := by decide +kernel
def rm_X12_word : Room := { frames := 1, cells := 0, slots := 0, locals := 22 }
set_option maxHeartbeats 4000000 in
set_option maxRecDepth 100000 in
theorem s_X12_word (l : Launch) (D : va_G) (cy : Nat → ClassId) (L : List Nat) (R O : Nat → Nat) (f0 : Nat → va_E) (a0 : Nat) (m_a0 : a0 ∈ L) (r_a0 : R a0 = 12) (x1 : Int32) (x2 : Int32) : ∀ sz, Met l yX12_word (Cond.code yX12_word cX12_word 4 (some .long) :: wsL_law) rm_X12_word (va_Pc [.ref a0, .int x1, .int x2] (tPZ D cy L R (TT cy L R) f0 sz)) (va_Ql (fun (r : Int64) f1 => fr L R [(12, 1)] [12] f0 f1) (tB D (tA L sz) L R (TT cy L R)) (tA L sz)) 0 0 (tA L sz) := by
  refine tw_enterl (by decide +kernel) rfl (Nat.le_of_ble_eq_true rfl) ?_
  intro p e s m below meth c A ls args Q F hZ h hl hret
  have hl : lv_has ls 4 [(0, .ref a0), (1, .int x1), (2, .int x2)] := hl
  have hk : fr L R [(12, 1)] [12] f0 f0 := fr.rf
  refine lv_aload_n F.1 F.2.1 dX12_word_0 rfl (lv_at hl 0 rfl) ?_
  refine lv_iload_n F.1 F.2.1 dX12_word_1 rfl (lv_at hl 1 rfl) ?_
  refine tu_i2l F dX12_word_2 (fun z1 hz1 hz1a hz1b => ?_)
  refine tw_Vi (As := [.long z1]) F hZ h yk_X12_isLine mw_797 mw_798 mw_799 (s_X12_isLine l D cy L R O f0 a0 m_a0 r_a0 z1) rfl rfl m_a0 r_a0 (fun e q => (T_12 e).mp q) rfl hl.1 rfl (Nat.le_of_ble_eq_true rfl) ⟨Nat.le_of_ble_eq_true rfl, Nat.le_of_ble_eq_true rfl⟩ ⟨Nat.le_of_ble_eq_true rfl, Nat.le_of_ble_eq_true rfl⟩ dX12_word_3 (fun v3 f2 H locs hp2 h => ?_)
  obtain ⟨rfl, hv3a, hv3b, hv3p0⟩ := hp2
  refine tw_if_eq (tgt := 14) F dX12_word_6 (by decide) (fun b4 => ?_) (fun b4 => ?_)
  · refine lv_aload_n F.1 F.2.1 dX12_word_14 rfl (lv_at hl 0 rfl) ?_
    refine tw_iconst F dX12_word_15 ki_1 (fun z5 hz5 => ?_)
    refine tw_Vi (As := [.int z5]) F hZ h yk_X12_refuse mw_452 mw_453 mw_454 (s_X12_refuse l D cy L R O f0 a0 m_a0 r_a0 z5 ⟨by omega, by omega⟩) rfl rfl m_a0 r_a0 (fun e q => (T_12 e).mp q) rfl hl.1 rfl (Nat.le_of_ble_eq_true rfl) ⟨Nat.le_of_ble_eq_true rfl, Nat.le_of_ble_eq_true rfl⟩ ⟨Nat.le_of_ble_eq_true rfl, Nat.le_of_ble_eq_true rfl⟩ dX12_word_16 (fun v7 f6 H locs hp6 h => ?_)
    obtain ⟨hf6, hv7a, hv7b⟩ := hp6
    have hk : fr L R [(12, 1)] [12] f0 f6 := hk.tr hf6 rfl rfl
    refine tw_i2l F dX12_word_19 (fun z8 hz8 => ?_)
    exact hret f6 _ _ _ _ z8 dX12_word_20 hk h
  · refine lv_iload_n F.1 F.2.1 dX12_word_9 rfl (lv_at hl 2 rfl) ?_
    refine tw_iconst F dX12_word_10 ki_m1 (fun z9 hz9 => ?_)
    refine tw_icmp_ge (tgt := 21) F dX12_word_11 (by decide) (fun b10 => ?_) (fun b10 => ?_)
    · refine lv_aload_n F.1 F.2.1 dX12_word_21 rfl (lv_at hl 0 rfl) ?_
      refine lv_iload_n F.1 F.2.1 dX12_word_22 rfl (lv_at hl 1 rfl) ?_
      refine tw_Vi (As := [.int x1]) F hZ h yk_X12_lineAt mw_495 mw_496 mw_497 (s_X12_lineAt l D cy L R O f0 a0 m_a0 r_a0 x1 ⟨by omega, by omega⟩) rfl rfl m_a0 r_a0 (fun e q => (T_12 e).mp q) rfl hl.1 rfl (Nat.le_of_ble_eq_true rfl) ⟨Nat.le_of_ble_eq_true rfl, Nat.le_of_ble_eq_true rfl⟩ ⟨Nat.le_of_ble_eq_true rfl, Nat.le_of_ble_eq_true rfl⟩ dX12_word_23 (fun v12 f11 H locs hp11 h => ?_)
      obtain ⟨rfl, hv12a, hv12b, hv12p0⟩ := hp11
      refine lv_istore_n (lv' := [(3, .int v12), (0, .ref a0), (1, .int x1), (2, .int x2)]) F.1 F.2.1 dX12_word_26 rfl hl (by decide) rfl (fun ls hl => ?_)
      refine lv_iload_n F.1 F.2.1 dX12_word_27 rfl (lv_at hl 3 rfl) ?_
      refine tw_iconst F dX12_word_28 ki_m1 (fun z13 hz13 => ?_)
      refine tw_icmp_ne (tgt := 43) F dX12_word_29 (by decide) (fun b14 => ?_) (fun b14 => ?_)
      · refine lv_iload_n F.1 F.2.1 dX12_word_43 rfl (lv_at hl 3 rfl) ?_
        refine tu_i2l F dX12_word_44 (fun z15 hz15 hz15a hz15b => ?_)
        refine lv_aload_n F.1 F.2.1 dX12_word_45 rfl (lv_at hl 1 rfl) ?_
        refine g_12_7 F h m_a0 r_a0 dX12_word_46 (fun o16 m_o16 r_o16 ho16 => ?_)
        refine lv_iload_n F.1 F.2.1 dX12_word_49 rfl (lv_at hl 0 rfl) ?_
        refine ld_61 F h m_o16 r_o16 (by omega) dX12_word_50 (fun v17 hv17a => ?_)
        have hv17b := clP_10.mp (atb hv17a (ac_l (by omega)))
        refine tw_lcmp F dX12_word_51 (fun z18 hz18 => ?_)
        refine tw_if_lt (tgt := 65) F dX12_word_52 (by decide) (fun b19 => ?_) (fun b19 => ?_)
        · refine lv_aload_n F.1 F.2.1 dX12_word_65 rfl (lv_at hl 1 rfl) ?_
          refine lv_aload_n F.1 F.2.1 dX12_word_66 rfl (lv_at hl 1 rfl) ?_
          refine g_12_7 F h m_a0 r_a0 dX12_word_67 (fun o20 m_o20 r_o20 ho20 => ?_)
          refine lv_iload_n F.1 F.2.1 dX12_word_70 rfl (lv_at hl 0 rfl) ?_
          refine tw_iconst F dX12_word_71 ki_1 (fun z21 hz21 => ?_)
          refine tu_iadd F dX12_word_72 (by omega) (fun z22 hz22 => ?_)
          refine lv_iload_n F.1 F.2.1 dX12_word_73 rfl (lv_at hl 3 rfl) ?_
          refine tu_iadd F dX12_word_74 (by omega) (fun z23 hz23 => ?_)
          refine ld_61 F h m_o20 r_o20 (by omega) dX12_word_75 (fun v24 hv24a => ?_)
          refine tw_Vl (As := [.long v24]) F hZ h yk_X12_givesLong mw_801 mw_802 mw_803 (s_X12_givesLong l D cy L R O f0 a0 m_a0 r_a0 v24) rfl rfl m_a0 r_a0 (fun e q => (T_12 e).mp q) rfl hl.1 rfl (Nat.le_of_ble_eq_true rfl) ⟨Nat.le_of_ble_eq_true rfl, Nat.le_of_ble_eq_true rfl⟩ ⟨Nat.le_of_ble_eq_true rfl, Nat.le_of_ble_eq_true rfl⟩ dX12_word_76 (fun v26 f25 H locs hp25 h => ?_)
          have hf25 := hp25
          have hk : fr L R [(12, 1)] [12] f0 f25 := hk.tr hf25 rfl rfl
          exact hret f25 _ _ _ _ v26 dX12_word_79 hk h
        · refine lv_aload_n F.1 F.2.1 dX12_word_55 rfl (lv_at hl 1 rfl) ?_
          refine tw_bipush F dX12_word_56 kb_6 (fun z27 hz27 => ?_)
          refine tw_Vi (As := [.int z27]) F hZ h yk_X12_refuse mw_452 mw_453 mw_454 (s_X12_refuse l D cy L R O f0 a0 m_a0 r_a0 z27 ⟨by omega, by omega⟩) rfl rfl m_a0 r_a0 (fun e q => (T_12 e).mp q) rfl hl.1 rfl (Nat.le_of_ble_eq_true rfl) ⟨Nat.le_of_ble_eq_true rfl, Nat.le_of_ble_eq_true rfl⟩ ⟨Nat.le_of_ble_eq_true rfl, Nat.le_of_ble_eq_true rfl⟩ dX12_word_58 (fun v29 f28 H locs hp28 h => ?_)
          obtain ⟨hf28, hv29a, hv29b⟩ := hp28
          have hk : fr L R [(12, 1)] [12] f0 f28 := hk.tr hf28 rfl rfl
          refine tw_i2l F dX12_word_61 (fun z30 hz30 => ?_)
          refine lv_goto (tgt := 79) F.1 F.2.1 dX12_word_62 (by decide) ?_
          exact hret f28 _ _ _ _ z30 dX12_word_79 hk h
      · refine lv_aload_n F.1 F.2.1 dX12_word_32 rfl (lv_at hl 1 rfl) ?_
        refine lv_aload_n F.1 F.2.1 dX12_word_33 rfl (lv_at hl 1 rfl) ?_
        refine g_12_7 F h m_a0 r_a0 dX12_word_34 (fun o31 m_o31 r_o31 ho31 => ?_)
        refine lv_iload_n F.1 F.2.1 dX12_word_37 rfl (lv_at hl 0 rfl) ?_
        refine ld_61 F h m_o31 r_o31 (by omega) dX12_word_38 (fun v32 hv32a => ?_)
        have hv32b := clP_10.mp (atb hv32a (ac_l (by omega)))
        refine tw_Vl (As := [.long v32]) F hZ h yk_X12_givesLong mw_801 mw_802 mw_803 (s_X12_givesLong l D cy L R O f0 a0 m_a0 r_a0 v32) rfl rfl m_a0 r_a0 (fun e q => (T_12 e).mp q) rfl hl.1 rfl (Nat.le_of_ble_eq_true rfl) ⟨Nat.le_of_ble_eq_true rfl, Nat.le_of_ble_eq_true rfl⟩ ⟨Nat.le_of_ble_eq_true rfl, Nat.le_of_ble_eq_true rfl⟩ dX12_word_39 (fun v34 f33 H locs hp33 h => ?_)
        have hf33 := hp33
        have hk : fr L R [(12, 1)] [12] f0 f33 := hk.tr hf33 rfl rfl
        exact hret f33 _ _ _ _ v34 dX12_word_42 hk h
    · refine lv_aload_n F.1 F.2.1 dX12_word_14 rfl (lv_at hl 0 rfl) ?_
      refine tw_iconst F dX12_word_15 ki_1 (fun z35 hz35 => ?_)
      refine tw_Vi (As := [.int z35]) F hZ h yk_X12_refuse mw_452 mw_453 mw_454 (s_X12_refuse l D cy L R O f0 a0 m_a0 r_a0 z35 ⟨by omega, by omega⟩) rfl rfl m_a0 r_a0 (fun e q => (T_12 e).mp q) rfl hl.1 rfl (Nat.le_of_ble_eq_true rfl) ⟨Nat.le_of_ble_eq_true rfl, Nat.le_of_ble_eq_true rfl⟩ ⟨Nat.le_of_ble_eq_true rfl, Nat.le_of_ble_eq_true rfl⟩ dX12_word_16 (fun v37 f36 H locs hp36 h => ?_)
      obtain ⟨hf36, hv37a, hv37b⟩ := hp36
      have hk : fr L R [(12, 1)] [12] f0 f36 := hk.tr hf36 rfl rfl
      refine tw_i2l F dX12_word_19 (fun z38 hz38 => ?_)
      exact hret f36 _ _ _ _ z38 dX12_word_20 hk h
theorem dX12_spoken_0 : decode cX12_spoken 0 = .ok (.iload_n 1, 1) := by decide +kernel
theorem dX12_spoken_1 : decode cX12_spoken 1 = .ok (.ifCond .lt 14, 3) := by decide +kernel
theorem dX12_spoken_15 : decode cX12_spoken 15 = .ok (.aload_n 0, 1) := by decide +kernel
theorem dX12_spoken_16 : decode cX12_spoken 16 = .ok (.iconst 1, 1) := by decide +kernel
theorem dX12_spoken_17 : decode cX12_spoken 17 = .ok (.invokevirtual 194, 3) := by decide +kernel
theorem dX12_spoken_20 : decode cX12_spoken 20 = .ok (.i2l, 1) := by decide +kernel
theorem dX12_spoken_21 : decode cX12_spoken 21 = .ok (.lreturn, 1) := by decide +kernel
theorem dX12_spoken_4 : decode cX12_spoken 4 = .ok (.iload_n 2, 1) := by decide +kernel
theorem dX12_spoken_5 : decode cX12_spoken 5 = .ok (.iconst (-1), 1) := by decide +kernel
theorem dX12_spoken_6 : decode cX12_spoken 6 = .ok (.if_icmp .lt 9, 3) := by decide +kernel
theorem dX12_spoken_9 : decode cX12_spoken 9 = .ok (.iload_n 2, 1) := by decide +kernel
theorem dX12_spoken_10 : decode cX12_spoken 10 = .ok (.bipush 11, 2) := by decide +kernel
theorem dX12_spoken_12 : decode cX12_spoken 12 = .ok (.if_icmp .le 10, 3) := by decide +kernel
theorem dX12_spoken_22 : decode cX12_spoken 22 = .ok (.iload_n 1, 1) := by decide +kernel
theorem dX12_spoken_23 : decode cX12_spoken 23 = .ok (.aload_n 0, 1) := by decide +kernel
theorem dX12_spoken_24 : decode cX12_spoken 24 = .ok (.getfield 416, 3) := by decide +kernel
theorem dX12_spoken_27 : decode cX12_spoken 27 = .ok (.if_icmp .ge 21, 3) := by decide +kernel
theorem dX12_spoken_48 : decode cX12_spoken 48 = .ok (.aload_n 0, 1) := by decide +kernel
theorem dX12_spoken_49 : decode cX12_spoken 49 = .ok (.bipush 6, 2) := by decide +kernel
theorem dX12_spoken_51 : decode cX12_spoken 51 = .ok (.invokevirtual 194, 3) := by decide +kernel
theorem dX12_spoken_54 : decode cX12_spoken 54 = .ok (.i2l, 1) := by decide +kernel
theorem dX12_spoken_55 : decode cX12_spoken 55 = .ok (.lreturn, 1) := by decide +kernel
theorem dX12_spoken_30 : decode cX12_spoken 30 = .ok (.iload_n 2, 1) := by decide +kernel
theorem dX12_spoken_31 : decode cX12_spoken 31 = .ok (.i2l, 1) := by decide +kernel
theorem dX12_spoken_32 : decode cX12_spoken 32 = .ok (.aload_n 0, 1) := by decide +kernel
theorem dX12_spoken_33 : decode cX12_spoken 33 = .ok (.getfield 84, 3) := by decide +kernel
theorem dX12_spoken_36 : decode cX12_spoken 36 = .ok (.bipush 26, 2) := by decide +kernel
theorem dX12_spoken_38 : decode cX12_spoken 38 = .ok (.iload_n 1, 1) := by decide +kernel
theorem dX12_spoken_39 : decode cX12_spoken 39 = .ok (.imul, 1) := by decide +kernel
theorem dX12_spoken_40 : decode cX12_spoken 40 = .ok (.bipush 13, 2) := by decide +kernel
theorem dX12_spoken_42 : decode cX12_spoken 42 = .ok (.iadd, 1) := by decide +kernel
theorem dX12_spoken_43 : decode cX12_spoken 43 = .ok (.laload, 1) := by decide +kernel
theorem dX12_spoken_44 : decode cX12_spoken 44 = .ok (.lcmp, 1) := by decide +kernel
theorem dX12_spoken_45 : decode cX12_spoken 45 = .ok (.ifCond .lt 11, 3) := by decide +kernel
theorem dX12_spoken_56 : decode cX12_spoken 56 = .ok (.aload_n 0, 1) := by decide +kernel
theorem dX12_spoken_57 : decode cX12_spoken 57 = .ok (.iload_n 2, 1) := by decide +kernel
theorem dX12_spoken_58 : decode cX12_spoken 58 = .ok (.iconst (-1), 1) := by decide +kernel
theorem dX12_spoken_59 : decode cX12_spoken 59 = .ok (.if_icmp .ne 18, 3) := by decide +kernel
theorem dX12_spoken_77 : decode cX12_spoken 77 = .ok (.aload_n 0, 1) := by decide +kernel
theorem dX12_spoken_78 : decode cX12_spoken 78 = .ok (.getfield 84, 3) := by decide +kernel
theorem dX12_spoken_81 : decode cX12_spoken 81 = .ok (.bipush 26, 2) := by decide +kernel
theorem dX12_spoken_83 : decode cX12_spoken 83 = .ok (.iload_n 1, 1) := by decide +kernel
theorem dX12_spoken_84 : decode cX12_spoken 84 = .ok (.imul, 1) := by decide +kernel
theorem dX12_spoken_85 : decode cX12_spoken 85 = .ok (.bipush 14, 2) := by decide +kernel
theorem kb_14 : (Int8.ofInt 14).toInt32.toInt = 14 := by decide
theorem dX12_spoken_87 : decode cX12_spoken 87 = .ok (.iadd, 1) := by decide +kernel
theorem dX12_spoken_88 : decode cX12_spoken 88 = .ok (.iload_n 2, 1) := by decide +kernel
theorem dX12_spoken_89 : decode cX12_spoken 89 = .ok (.iadd, 1) := by decide +kernel
theorem dX12_spoken_90 : decode cX12_spoken 90 = .ok (.laload, 1) := by decide +kernel
theorem dX12_spoken_91 : decode cX12_spoken 91 = .ok (.invokevirtual 216, 3) := by decide +kernel
theorem dX12_spoken_94 : decode cX12_spoken 94 = .ok (.lreturn, 1) := by decide +kernel
theorem dX12_spoken_62 : decode cX12_spoken 62 = .ok (.aload_n 0, 1) := by decide +kernel
theorem dX12_spoken_63 : decode cX12_spoken 63 = .ok (.getfield 84, 3) := by decide +kernel
theorem dX12_spoken_66 : decode cX12_spoken 66 = .ok (.bipush 26, 2) := by decide +kernel
theorem dX12_spoken_68 : decode cX12_spoken 68 = .ok (.iload_n 1, 1) := by decide +kernel
theorem dX12_spoken_69 : decode cX12_spoken 69 = .ok (.imul, 1) := by decide +kernel
theorem dX12_spoken_70 : decode cX12_spoken 70 = .ok (.bipush 13, 2) := by decide +kernel
theorem dX12_spoken_72 : decode cX12_spoken 72 = .ok (.iadd, 1) := by decide +kernel
theorem dX12_spoken_73 : decode cX12_spoken 73 = .ok (.laload, 1) := by decide +kernel
theorem dX12_spoken_74 : decode cX12_spoken 74 = .ok (.goto 17, 3) := by decide +kernel
def rm_X12_spoken : Room := { frames := 1, cells := 0, slots := 0, locals := 22 }
set_option maxHeartbeats 4000000 in
set_option maxRecDepth 100000 in
theorem s_X12_spoken (l : Launch) (D : va_G) (cy : Nat → ClassId) (L : List Nat) (R O : Nat → Nat) (f0 : Nat → va_E) (a0 : Nat) (m_a0 : a0 ∈ L) (r_a0 : R a0 = 12) (x1 : Int32) (x2 : Int32) : ∀ sz, Met l yX12_spoken (Cond.code yX12_spoken cX12_spoken 3 (some .long) :: wsL_law) rm_X12_spoken (va_Pc [.ref a0, .int x1, .int x2] (tPZ D cy L R (TT cy L R) f0 sz)) (va_Ql (fun (r : Int64) f1 => fr L R [(12, 1)] [12] f0 f1) (tB D (tA L sz) L R (TT cy L R)) (tA L sz)) 0 0 (tA L sz) := by
  refine tw_enterl (by decide +kernel) rfl (Nat.le_of_ble_eq_true rfl) ?_
  intro p e s m below meth c A ls args Q F hZ h hl hret
  have hl : lv_has ls 3 [(0, .ref a0), (1, .int x1), (2, .int x2)] := hl
  have hk : fr L R [(12, 1)] [12] f0 f0 := fr.rf
  refine lv_iload_n F.1 F.2.1 dX12_spoken_0 rfl (lv_at hl 1 rfl) ?_
  refine tw_if_lt (tgt := 15) F dX12_spoken_1 (by decide) (fun b1 => ?_) (fun b1 => ?_)
  · refine lv_aload_n F.1 F.2.1 dX12_spoken_15 rfl (lv_at hl 0 rfl) ?_
    refine tw_iconst F dX12_spoken_16 ki_1 (fun z2 hz2 => ?_)
    refine tw_Vi (As := [.int z2]) F hZ h yk_X12_refuse mw_452 mw_453 mw_454 (s_X12_refuse l D cy L R O f0 a0 m_a0 r_a0 z2 ⟨by omega, by omega⟩) rfl rfl m_a0 r_a0 (fun e q => (T_12 e).mp q) rfl hl.1 rfl (Nat.le_of_ble_eq_true rfl) ⟨Nat.le_of_ble_eq_true rfl, Nat.le_of_ble_eq_true rfl⟩ ⟨Nat.le_of_ble_eq_true rfl, Nat.le_of_ble_eq_true rfl⟩ dX12_spoken_17 (fun v4 f3 H locs hp3 h => ?_)
    obtain ⟨hf3, hv4a, hv4b⟩ := hp3
    have hk : fr L R [(12, 1)] [12] f0 f3 := hk.tr hf3 rfl rfl
    refine tw_i2l F dX12_spoken_20 (fun z5 hz5 => ?_)
    exact hret f3 _ _ _ _ z5 dX12_spoken_21 hk h
  · refine lv_iload_n F.1 F.2.1 dX12_spoken_4 rfl (lv_at hl 2 rfl) ?_
    refine tw_iconst F dX12_spoken_5 ki_m1 (fun z6 hz6 => ?_)
    refine tw_icmp_lt (tgt := 15) F dX12_spoken_6 (by decide) (fun b7 => ?_) (fun b7 => ?_)
    · refine lv_aload_n F.1 F.2.1 dX12_spoken_15 rfl (lv_at hl 0 rfl) ?_
      refine tw_iconst F dX12_spoken_16 ki_1 (fun z8 hz8 => ?_)
      refine tw_Vi (As := [.int z8]) F hZ h yk_X12_refuse mw_452 mw_453 mw_454 (s_X12_refuse l D cy L R O f0 a0 m_a0 r_a0 z8 ⟨by omega, by omega⟩) rfl rfl m_a0 r_a0 (fun e q => (T_12 e).mp q) rfl hl.1 rfl (Nat.le_of_ble_eq_true rfl) ⟨Nat.le_of_ble_eq_true rfl, Nat.le_of_ble_eq_true rfl⟩ ⟨Nat.le_of_ble_eq_true rfl, Nat.le_of_ble_eq_true rfl⟩ dX12_spoken_17 (fun v10 f9 H locs hp9 h => ?_)
      obtain ⟨hf9, hv10a, hv10b⟩ := hp9
      have hk : fr L R [(12, 1)] [12] f0 f9 := hk.tr hf9 rfl rfl
      refine tw_i2l F dX12_spoken_20 (fun z11 hz11 => ?_)
      exact hret f9 _ _ _ _ z11 dX12_spoken_21 hk h
    · refine lv_iload_n F.1 F.2.1 dX12_spoken_9 rfl (lv_at hl 2 rfl) ?_
      refine tw_bipush F dX12_spoken_10 kb_11 (fun z12 hz12 => ?_)
      refine tw_icmp_le (tgt := 22) F dX12_spoken_12 (by decide) (fun b13 => ?_) (fun b13 => ?_)
      · refine lv_iload_n F.1 F.2.1 dX12_spoken_22 rfl (lv_at hl 1 rfl) ?_
        refine lv_aload_n F.1 F.2.1 dX12_spoken_23 rfl (lv_at hl 0 rfl) ?_
        refine g_12_416 F h m_a0 r_a0 dX12_spoken_24 (fun v14 hv14 hv14a hv14b => ?_)
        refine tw_icmp_ge (tgt := 48) F dX12_spoken_27 (by decide) (fun b15 => ?_) (fun b15 => ?_)
        · refine lv_aload_n F.1 F.2.1 dX12_spoken_48 rfl (lv_at hl 0 rfl) ?_
          refine tw_bipush F dX12_spoken_49 kb_6 (fun z16 hz16 => ?_)
          refine tw_Vi (As := [.int z16]) F hZ h yk_X12_refuse mw_452 mw_453 mw_454 (s_X12_refuse l D cy L R O f0 a0 m_a0 r_a0 z16 ⟨by omega, by omega⟩) rfl rfl m_a0 r_a0 (fun e q => (T_12 e).mp q) rfl hl.1 rfl (Nat.le_of_ble_eq_true rfl) ⟨Nat.le_of_ble_eq_true rfl, Nat.le_of_ble_eq_true rfl⟩ ⟨Nat.le_of_ble_eq_true rfl, Nat.le_of_ble_eq_true rfl⟩ dX12_spoken_51 (fun v18 f17 H locs hp17 h => ?_)
          obtain ⟨hf17, hv18a, hv18b⟩ := hp17
          have hk : fr L R [(12, 1)] [12] f0 f17 := hk.tr hf17 rfl rfl
          refine tw_i2l F dX12_spoken_54 (fun z19 hz19 => ?_)
          exact hret f17 _ _ _ _ z19 dX12_spoken_55 hk h
        · refine lv_iload_n F.1 F.2.1 dX12_spoken_30 rfl (lv_at hl 2 rfl) ?_
          refine tw_i2l F dX12_spoken_31 (fun z20 hz20 => ?_)
          refine lv_aload_n F.1 F.2.1 dX12_spoken_32 rfl (lv_at hl 0 rfl) ?_
          refine g_12_84 F h m_a0 r_a0 dX12_spoken_33 (fun o21 m_o21 r_o21 ho21 => ?_)
          refine tw_bipush F dX12_spoken_36 kb_26 (fun z22 hz22 => ?_)
          refine lv_iload_n F.1 F.2.1 dX12_spoken_38 rfl (lv_at hl 1 rfl) ?_
          refine tu_imull F dX12_spoken_39 hz22 (by omega) (fun z23 hz23 => ?_)
          refine tw_bipush F dX12_spoken_40 kb_13 (fun z24 hz24 => ?_)
          refine tu_iadd F dX12_spoken_42 (by omega) (fun z25 hz25 => ?_)
          refine ld_78 F h m_o21 r_o21 (by omega) dX12_spoken_43 (fun v26 hv26a => ?_)
          have hv26b := hv26a (by omega)
          refine tw_lcmp F dX12_spoken_44 (fun z27 hz27 => ?_)
          refine tw_if_lt (tgt := 56) F dX12_spoken_45 (by decide) (fun b28 => ?_) (fun b28 => ?_)
          · refine lv_aload_n F.1 F.2.1 dX12_spoken_56 rfl (lv_at hl 0 rfl) ?_
            refine lv_iload_n F.1 F.2.1 dX12_spoken_57 rfl (lv_at hl 2 rfl) ?_
            refine tw_iconst F dX12_spoken_58 ki_m1 (fun z29 hz29 => ?_)
            refine tw_icmp_ne (tgt := 77) F dX12_spoken_59 (by decide) (fun b30 => ?_) (fun b30 => ?_)
            · refine lv_aload_n F.1 F.2.1 dX12_spoken_77 rfl (lv_at hl 0 rfl) ?_
              refine g_12_84 F h m_a0 r_a0 dX12_spoken_78 (fun o31 m_o31 r_o31 ho31 => ?_)
              refine tw_bipush F dX12_spoken_81 kb_26 (fun z32 hz32 => ?_)
              refine lv_iload_n F.1 F.2.1 dX12_spoken_83 rfl (lv_at hl 1 rfl) ?_
              refine tu_imull F dX12_spoken_84 hz32 (by omega) (fun z33 hz33 => ?_)
              refine tw_bipush F dX12_spoken_85 kb_14 (fun z34 hz34 => ?_)
              refine tu_iadd F dX12_spoken_87 (by omega) (fun z35 hz35 => ?_)
              refine lv_iload_n F.1 F.2.1 dX12_spoken_88 rfl (lv_at hl 2 rfl) ?_
              refine tu_iadd F dX12_spoken_89 (by omega) (fun z36 hz36 => ?_)
              refine ld_78 F h m_o31 r_o31 (by omega) dX12_spoken_90 (fun v37 hv37a => ?_)
              refine tw_Vl (As := [.long v37]) F hZ h yk_X12_givesLong mw_801 mw_802 mw_803 (s_X12_givesLong l D cy L R O f0 a0 m_a0 r_a0 v37) rfl rfl m_a0 r_a0 (fun e q => (T_12 e).mp q) rfl hl.1 rfl (Nat.le_of_ble_eq_true rfl) ⟨Nat.le_of_ble_eq_true rfl, Nat.le_of_ble_eq_true rfl⟩ ⟨Nat.le_of_ble_eq_true rfl, Nat.le_of_ble_eq_true rfl⟩ dX12_spoken_91 (fun v39 f38 H locs hp38 h => ?_)
              have hf38 := hp38
              have hk : fr L R [(12, 1)] [12] f0 f38 := hk.tr hf38 rfl rfl
              exact hret f38 _ _ _ _ v39 dX12_spoken_94 hk h
            · refine lv_aload_n F.1 F.2.1 dX12_spoken_62 rfl (lv_at hl 0 rfl) ?_
              refine g_12_84 F h m_a0 r_a0 dX12_spoken_63 (fun o40 m_o40 r_o40 ho40 => ?_)
              refine tw_bipush F dX12_spoken_66 kb_26 (fun z41 hz41 => ?_)
              refine lv_iload_n F.1 F.2.1 dX12_spoken_68 rfl (lv_at hl 1 rfl) ?_
              refine tu_imull F dX12_spoken_69 hz41 (by omega) (fun z42 hz42 => ?_)
              refine tw_bipush F dX12_spoken_70 kb_13 (fun z43 hz43 => ?_)
              refine tu_iadd F dX12_spoken_72 (by omega) (fun z44 hz44 => ?_)
              refine ld_78 F h m_o40 r_o40 (by omega) dX12_spoken_73 (fun v45 hv45a => ?_)
              have hv45b := hv45a (by omega)
              refine lv_goto (tgt := 91) F.1 F.2.1 dX12_spoken_74 (by decide) ?_
              refine tw_Vl (As := [.long v45]) F hZ h yk_X12_givesLong mw_801 mw_802 mw_803 (s_X12_givesLong l D cy L R O f0 a0 m_a0 r_a0 v45) rfl rfl m_a0 r_a0 (fun e q => (T_12 e).mp q) rfl hl.1 rfl (Nat.le_of_ble_eq_true rfl) ⟨Nat.le_of_ble_eq_true rfl, Nat.le_of_ble_eq_true rfl⟩ ⟨Nat.le_of_ble_eq_true rfl, Nat.le_of_ble_eq_true rfl⟩ dX12_spoken_91 (fun v47 f46 H locs hp46 h => ?_)
              have hf46 := hp46
              have hk : fr L R [(12, 1)] [12] f0 f46 := hk.tr hf46 rfl rfl
              exact hret f46 _ _ _ _ v47 dX12_spoken_94 hk h
          · refine lv_aload_n F.1 F.2.1 dX12_spoken_48 rfl (lv_at hl 0 rfl) ?_
            refine tw_bipush F dX12_spoken_49 kb_6 (fun z48 hz48 => ?_)
            refine tw_Vi (As := [.int z48]) F hZ h yk_X12_refuse mw_452 mw_453 mw_454 (s_X12_refuse l D cy L R O f0 a0 m_a0 r_a0 z48 ⟨by omega, by omega⟩) rfl rfl m_a0 r_a0 (fun e q => (T_12 e).mp q) rfl hl.1 rfl (Nat.le_of_ble_eq_true rfl) ⟨Nat.le_of_ble_eq_true rfl, Nat.le_of_ble_eq_true rfl⟩ ⟨Nat.le_of_ble_eq_true rfl, Nat.le_of_ble_eq_true rfl⟩ dX12_spoken_51 (fun v50 f49 H locs hp49 h => ?_)
            obtain ⟨hf49, hv50a, hv50b⟩ := hp49
            have hk : fr L R [(12, 1)] [12] f0 f49 := hk.tr hf49 rfl rfl
            refine tw_i2l F dX12_spoken_54 (fun z51 hz51 => ?_)
            exact hret f49 _ _ _ _ z51 dX12_spoken_55 hk h
      · refine lv_aload_n F.1 F.2.1 dX12_spoken_15 rfl (lv_at hl 0 rfl) ?_
        refine tw_iconst F dX12_spoken_16 ki_1 (fun z52 hz52 => ?_)
        refine tw_Vi (As := [.int z52]) F hZ h yk_X12_refuse mw_452 mw_453 mw_454 (s_X12_refuse l D cy L R O f0 a0 m_a0 r_a0 z52 ⟨by omega, by omega⟩) rfl rfl m_a0 r_a0 (fun e q => (T_12 e).mp q) rfl hl.1 rfl (Nat.le_of_ble_eq_true rfl) ⟨Nat.le_of_ble_eq_true rfl, Nat.le_of_ble_eq_true rfl⟩ ⟨Nat.le_of_ble_eq_true rfl, Nat.le_of_ble_eq_true rfl⟩ dX12_spoken_17 (fun v54 f53 H locs hp53 h => ?_)
        obtain ⟨hf53, hv54a, hv54b⟩ := hp53
        have hk : fr L R [(12, 1)] [12] f0 f53 := hk.tr hf53 rfl rfl
        refine tw_i2l F dX12_spoken_20 (fun z55 hz55 => ?_)
        exact hret f53 _ _ _ _ z55 dX12_spoken_21 hk h
theorem dX12_many_0 : decode cX12_many 0 = .ok (.iload_n 1, 1) := by decide +kernel
theorem dX12_many_1 : decode cX12_many 1 = .ok (.ifCond .lt 8, 3) := by decide +kernel
theorem dX12_many_9 : decode cX12_many 9 = .ok (.aload_n 0, 1) := by decide +kernel
theorem dX12_many_10 : decode cX12_many 10 = .ok (.iconst 1, 1) := by decide +kernel
theorem dX12_many_11 : decode cX12_many 11 = .ok (.invokevirtual 194, 3) := by decide +kernel
theorem dX12_many_14 : decode cX12_many 14 = .ok (.ireturn, 1) := by decide +kernel
theorem dX12_many_4 : decode cX12_many 4 = .ok (.iload_n 1, 1) := by decide +kernel
theorem dX12_many_5 : decode cX12_many 5 = .ok (.iconst 2, 1) := by decide +kernel
theorem dX12_many_6 : decode cX12_many 6 = .ok (.if_icmp .le 9, 3) := by decide +kernel
theorem dX12_many_15 : decode cX12_many 15 = .ok (.aload_n 0, 1) := by decide +kernel
theorem dX12_many_16 : decode cX12_many 16 = .ok (.iload_n 1, 1) := by decide +kernel
theorem dX12_many_17 : decode cX12_many 17 = .ok (.ifCond .ne 15, 3) := by decide +kernel
theorem dX12_many_32 : decode cX12_many 32 = .ok (.iload_n 1, 1) := by decide +kernel
theorem dX12_many_33 : decode cX12_many 33 = .ok (.iconst 1, 1) := by decide +kernel
theorem dX12_many_34 : decode cX12_many 34 = .ok (.if_icmp .ne 15, 3) := by decide +kernel
theorem dX12_many_49 : decode cX12_many 49 = .ok (.aload_n 0, 1) := by decide +kernel
theorem dX12_many_50 : decode cX12_many 50 = .ok (.getfield 416, 3) := by decide +kernel
theorem dX12_many_53 : decode cX12_many 53 = .ok (.invokevirtual 209, 3) := by decide +kernel
theorem dX12_many_56 : decode cX12_many 56 = .ok (.ireturn, 1) := by decide +kernel
theorem dX12_many_37 : decode cX12_many 37 = .ok (.aload_n 0, 1) := by decide +kernel
theorem dX12_many_38 : decode cX12_many 38 = .ok (.getfield 7, 3) := by decide +kernel
theorem dX12_many_41 : decode cX12_many 41 = .ok (.sipush 5159, 3) := by decide +kernel
theorem dX12_many_44 : decode cX12_many 44 = .ok (.laload, 1) := by decide +kernel
theorem dX12_many_45 : decode cX12_many 45 = .ok (.l2i, 1) := by decide +kernel
theorem dX12_many_46 : decode cX12_many 46 = .ok (.goto 7, 3) := by decide +kernel
theorem dX12_many_20 : decode cX12_many 20 = .ok (.aload_n 0, 1) := by decide +kernel
theorem dX12_many_21 : decode cX12_many 21 = .ok (.getfield 7, 3) := by decide +kernel
theorem dX12_many_24 : decode cX12_many 24 = .ok (.sipush 4950, 3) := by decide +kernel
theorem dX12_many_27 : decode cX12_many 27 = .ok (.laload, 1) := by decide +kernel
theorem dX12_many_28 : decode cX12_many 28 = .ok (.l2i, 1) := by decide +kernel
theorem dX12_many_29 : decode cX12_many 29 = .ok (.goto 24, 3) := by decide +kernel
def rm_X12_many : Room := { frames := 1, cells := 0, slots := 0, locals := 21 }
set_option maxHeartbeats 4000000 in
set_option maxRecDepth 100000 in
theorem s_X12_many (l : Launch) (D : va_G) (cy : Nat → ClassId) (L : List Nat) (R O : Nat → Nat) (f0 : Nat → va_E) (a0 : Nat) (m_a0 : a0 ∈ L) (r_a0 : R a0 = 12) (x1 : Int32) : ∀ sz, Met l yX12_many (Cond.code yX12_many cX12_many 2 (some .int) :: wsL_law) rm_X12_many (va_Pc [.ref a0, .int x1] (tPZ D cy L R (TT cy L R) f0 sz)) (va_Qi (fun (r : Int32) f1 => fr L R [(12, 1)] [12] f0 f1) (tB D (tA L sz) L R (TT cy L R)) (tA L sz)) 0 0 (tA L sz) := by
  refine tw_enteri (by decide +kernel) rfl (Nat.le_of_ble_eq_true rfl) ?_
  intro p e s m below meth c A ls args Q F hZ h hl hret
  have hl : lv_has ls 2 [(0, .ref a0), (1, .int x1)] := hl
  have hk : fr L R [(12, 1)] [12] f0 f0 := fr.rf
  refine lv_iload_n F.1 F.2.1 dX12_many_0 rfl (lv_at hl 1 rfl) ?_
  refine tw_if_lt (tgt := 9) F dX12_many_1 (by decide) (fun b1 => ?_) (fun b1 => ?_)
  · refine lv_aload_n F.1 F.2.1 dX12_many_9 rfl (lv_at hl 0 rfl) ?_
    refine tw_iconst F dX12_many_10 ki_1 (fun z2 hz2 => ?_)
    refine tw_Vi (As := [.int z2]) F hZ h yk_X12_refuse mw_452 mw_453 mw_454 (s_X12_refuse l D cy L R O f0 a0 m_a0 r_a0 z2 ⟨by omega, by omega⟩) rfl rfl m_a0 r_a0 (fun e q => (T_12 e).mp q) rfl hl.1 rfl (Nat.le_of_ble_eq_true rfl) ⟨Nat.le_of_ble_eq_true rfl, Nat.le_of_ble_eq_true rfl⟩ ⟨Nat.le_of_ble_eq_true rfl, Nat.le_of_ble_eq_true rfl⟩ dX12_many_11 (fun v4 f3 H locs hp3 h => ?_)
    obtain ⟨hf3, hv4a, hv4b⟩ := hp3
    have hk : fr L R [(12, 1)] [12] f0 f3 := hk.tr hf3 rfl rfl
    exact hret f3 _ _ _ _ v4 dX12_many_14 rfl hk h
  · refine lv_iload_n F.1 F.2.1 dX12_many_4 rfl (lv_at hl 1 rfl) ?_
    refine tw_iconst F dX12_many_5 ki_2 (fun z5 hz5 => ?_)
    refine tw_icmp_le (tgt := 15) F dX12_many_6 (by decide) (fun b6 => ?_) (fun b6 => ?_)
    · refine lv_aload_n F.1 F.2.1 dX12_many_15 rfl (lv_at hl 0 rfl) ?_
      refine lv_iload_n F.1 F.2.1 dX12_many_16 rfl (lv_at hl 1 rfl) ?_
      refine tw_if_ne (tgt := 32) F dX12_many_17 (by decide) (fun b7 => ?_) (fun b7 => ?_)
      · refine lv_iload_n F.1 F.2.1 dX12_many_32 rfl (lv_at hl 1 rfl) ?_
        refine tw_iconst F dX12_many_33 ki_1 (fun z8 hz8 => ?_)
        refine tw_icmp_ne (tgt := 49) F dX12_many_34 (by decide) (fun b9 => ?_) (fun b9 => ?_)
        · refine lv_aload_n F.1 F.2.1 dX12_many_49 rfl (lv_at hl 0 rfl) ?_
          refine g_12_416 F h m_a0 r_a0 dX12_many_50 (fun v10 hv10 hv10a hv10b => ?_)
          refine tw_Vi (As := [.int v10]) F hZ h yk_X12_gives mw_499 mw_500 mw_501 (s_X12_gives l D cy L R O f0 a0 m_a0 r_a0 v10) rfl rfl m_a0 r_a0 (fun e q => (T_12 e).mp q) rfl hl.1 rfl (Nat.le_of_ble_eq_true rfl) ⟨Nat.le_of_ble_eq_true rfl, Nat.le_of_ble_eq_true rfl⟩ ⟨Nat.le_of_ble_eq_true rfl, Nat.le_of_ble_eq_true rfl⟩ dX12_many_53 (fun v12 f11 H locs hp11 h => ?_)
          have hf11 := hp11
          have hk : fr L R [(12, 1)] [12] f0 f11 := hk.tr hf11 rfl rfl
          exact hret f11 _ _ _ _ v12 dX12_many_56 rfl hk h
        · refine lv_aload_n F.1 F.2.1 dX12_many_37 rfl (lv_at hl 0 rfl) ?_
          refine g_12_7 F h m_a0 r_a0 dX12_many_38 (fun o13 m_o13 r_o13 ho13 => ?_)
          refine tw_sipush F dX12_many_41 ks_5159 (fun z14 hz14 => ?_)
          refine ld_61 F h m_o13 r_o13 (by omega) dX12_many_44 (fun v15 hv15a => ?_)
          have hv15b := clP_1.mp (atb hv15a (ac_s2 (by omega)))
          refine tw_l2i F dX12_many_45 (by omega) (by omega) (fun z16 hz16 => ?_)
          refine lv_goto (tgt := 53) F.1 F.2.1 dX12_many_46 (by decide) ?_
          refine tw_Vi (As := [.int z16]) F hZ h yk_X12_gives mw_499 mw_500 mw_501 (s_X12_gives l D cy L R O f0 a0 m_a0 r_a0 z16) rfl rfl m_a0 r_a0 (fun e q => (T_12 e).mp q) rfl hl.1 rfl (Nat.le_of_ble_eq_true rfl) ⟨Nat.le_of_ble_eq_true rfl, Nat.le_of_ble_eq_true rfl⟩ ⟨Nat.le_of_ble_eq_true rfl, Nat.le_of_ble_eq_true rfl⟩ dX12_many_53 (fun v18 f17 H locs hp17 h => ?_)
          have hf17 := hp17
          have hk : fr L R [(12, 1)] [12] f0 f17 := hk.tr hf17 rfl rfl
          exact hret f17 _ _ _ _ v18 dX12_many_56 rfl hk h
      · refine lv_aload_n F.1 F.2.1 dX12_many_20 rfl (lv_at hl 0 rfl) ?_
        refine g_12_7 F h m_a0 r_a0 dX12_many_21 (fun o19 m_o19 r_o19 ho19 => ?_)
        refine tw_sipush F dX12_many_24 ks_4950 (fun z20 hz20 => ?_)
        refine ld_61 F h m_o19 r_o19 (by omega) dX12_many_27 (fun v21 hv21a => ?_)
        have hv21b := clP_11.mp (atb hv21a (ac_s1 (by omega)))
        refine tw_l2i F dX12_many_28 (by omega) (by omega) (fun z22 hz22 => ?_)
        refine lv_goto (tgt := 53) F.1 F.2.1 dX12_many_29 (by decide) ?_
        refine tw_Vi (As := [.int z22]) F hZ h yk_X12_gives mw_499 mw_500 mw_501 (s_X12_gives l D cy L R O f0 a0 m_a0 r_a0 z22) rfl rfl m_a0 r_a0 (fun e q => (T_12 e).mp q) rfl hl.1 rfl (Nat.le_of_ble_eq_true rfl) ⟨Nat.le_of_ble_eq_true rfl, Nat.le_of_ble_eq_true rfl⟩ ⟨Nat.le_of_ble_eq_true rfl, Nat.le_of_ble_eq_true rfl⟩ dX12_many_53 (fun v24 f23 H locs hp23 h => ?_)
        have hf23 := hp23
        have hk : fr L R [(12, 1)] [12] f0 f23 := hk.tr hf23 rfl rfl
        exact hret f23 _ _ _ _ v24 dX12_many_56 rfl hk h
    · refine lv_aload_n F.1 F.2.1 dX12_many_9 rfl (lv_at hl 0 rfl) ?_
      refine tw_iconst F dX12_many_10 ki_1 (fun z25 hz25 => ?_)
      refine tw_Vi (As := [.int z25]) F hZ h yk_X12_refuse mw_452 mw_453 mw_454 (s_X12_refuse l D cy L R O f0 a0 m_a0 r_a0 z25 ⟨by omega, by omega⟩) rfl rfl m_a0 r_a0 (fun e q => (T_12 e).mp q) rfl hl.1 rfl (Nat.le_of_ble_eq_true rfl) ⟨Nat.le_of_ble_eq_true rfl, Nat.le_of_ble_eq_true rfl⟩ ⟨Nat.le_of_ble_eq_true rfl, Nat.le_of_ble_eq_true rfl⟩ dX12_many_11 (fun v27 f26 H locs hp26 h => ?_)
      obtain ⟨hf26, hv27a, hv27b⟩ := hp26
      have hk : fr L R [(12, 1)] [12] f0 f26 := hk.tr hf26 rfl rfl
      exact hret f26 _ _ _ _ v27 dX12_many_14 rfl hk h
theorem dX12_turned_0 : decode cX12_turned 0 = .ok (.aload_n 0, 1) := by decide +kernel
theorem dX12_turned_1 : decode cX12_turned 1 = .ok (.iload_n 1, 1) := by decide +kernel
theorem dX12_turned_2 : decode cX12_turned 2 = .ok (.invokevirtual 282, 3) := by decide +kernel
theorem dX12_turned_5 : decode cX12_turned 5 = .ok (.ifCond .eq 27, 3) := by decide +kernel
theorem dX12_turned_32 : decode cX12_turned 32 = .ok (.aload_n 0, 1) := by decide +kernel
theorem dX12_turned_33 : decode cX12_turned 33 = .ok (.iconst 1, 1) := by decide +kernel
theorem dX12_turned_34 : decode cX12_turned 34 = .ok (.invokevirtual 194, 3) := by decide +kernel
theorem dX12_turned_37 : decode cX12_turned 37 = .ok (.i2l, 1) := by decide +kernel
theorem dX12_turned_38 : decode cX12_turned 38 = .ok (.lreturn, 1) := by decide +kernel
theorem dX12_turned_8 : decode cX12_turned 8 = .ok (.lload_n 2, 1) := by decide +kernel
theorem dX12_turned_9 : decode cX12_turned 9 = .ok (.invokestatic 317, 3) := by decide +kernel
theorem mw_931 : Cond.methodLink RX12 317 yX12_isWordNumber ∈ wsL_law := inr_39 _ (List.mem_of_getElem? (i := 19) rfl)
theorem mw_933 : Cond.code yX12_isWordNumber cX12_isWordNumber 5 (some .boolean) ∈ wsL_law := inr_39 _ (List.mem_of_getElem? (i := 21) rfl)
theorem yk_X12_isWordNumber : xY yX12_isWordNumber RX12 cX12_isWordNumber 5 (some .boolean) 1 := ⟨⟨rfl, by decide +kernel, by decide +kernel, by decide +kernel⟩, mw_5, mw_933⟩
theorem mw_932 : Cond.static yX12_isWordNumber ∈ wsL_law := inr_39 _ (List.mem_of_getElem? (i := 20) rfl)
theorem dX12_turned_12 : decode cX12_turned 12 = .ok (.ifCond .eq 20, 3) := by decide +kernel
theorem dX12_turned_15 : decode cX12_turned 15 = .ok (.aload_n 0, 1) := by decide +kernel
theorem dX12_turned_16 : decode cX12_turned 16 = .ok (.aload_n 0, 1) := by decide +kernel
theorem dX12_turned_17 : decode cX12_turned 17 = .ok (.sipush 1650, 3) := by decide +kernel
theorem dX12_turned_20 : decode cX12_turned 20 = .ok (.iload_n 1, 1) := by decide +kernel
theorem dX12_turned_21 : decode cX12_turned 21 = .ok (.imul, 1) := by decide +kernel
theorem dX12_turned_22 : decode cX12_turned 22 = .ok (.lload_n 2, 1) := by decide +kernel
theorem dX12_turned_23 : decode cX12_turned 23 = .ok (.invokevirtual 320, 3) := by decide +kernel
theorem mw_937 : Cond.methodLink RX12 320 yX12_turns ∈ wsL_law := inr_40 _ (List.mem_of_getElem? (i := 1) rfl)
theorem mw_940 : Cond.code yX12_turns cX12_turns 5 (some .long) ∈ wsL_law := inr_40 _ (List.mem_of_getElem? (i := 4) rfl)
theorem yk_X12_turns : xY yX12_turns RX12 cX12_turns 5 (some .long) 2 := ⟨⟨rfl, by decide +kernel, by decide +kernel, by decide +kernel⟩, mw_5, mw_940⟩
theorem mw_938 : Cond.instanceMethod yX12_turns ∈ wsL_law := inr_40 _ (List.mem_of_getElem? (i := 2) rfl)
theorem mw_939 : Cond.selects RX12 yX12_turns yX12_turns ∈ wsL_law := inr_40 _ (List.mem_of_getElem? (i := 3) rfl)
theorem dX12_turned_26 : decode cX12_turned 26 = .ok (.invokevirtual 216, 3) := by decide +kernel
theorem dX12_turned_29 : decode cX12_turned 29 = .ok (.goto 9, 3) := by decide +kernel
def rm_X12_turned : Room := { frames := 1, cells := 0, slots := 0, locals := 24 }
set_option maxHeartbeats 4000000 in
set_option maxRecDepth 100000 in
theorem s_X12_turned (l : Launch) (D : va_G) (cy : Nat → ClassId) (L : List Nat) (R O : Nat → Nat) (f0 : Nat → va_E) (a0 : Nat) (m_a0 : a0 ∈ L) (r_a0 : R a0 = 12) (x1 : Int32) (x2 : Int64) : ∀ sz, Met l yX12_turned (Cond.code yX12_turned cX12_turned 4 (some .long) :: wsL_law) rm_X12_turned (va_Pc [.ref a0, .int x1, .long x2] (tPZ D cy L R (TT cy L R) f0 sz)) (va_Ql (fun (r : Int64) f1 => fr L R [(12, 1)] [12] f0 f1) (tB D (tA L sz) L R (TT cy L R)) (tA L sz)) 0 0 (tA L sz) := by
  refine tw_enterl (by decide +kernel) rfl (Nat.le_of_ble_eq_true rfl) ?_
  intro p e s m below meth c A ls args Q F hZ h hl hret
  have hl : lv_has ls 4 [(0, .ref a0), (1, .int x1), (2, .long x2)] := hl
  have hk : fr L R [(12, 1)] [12] f0 f0 := fr.rf
  refine lv_aload_n F.1 F.2.1 dX12_turned_0 rfl (lv_at hl 0 rfl) ?_
  refine lv_iload_n F.1 F.2.1 dX12_turned_1 rfl (lv_at hl 1 rfl) ?_
  refine tw_Vi (As := [.int x1]) F hZ h yk_X12_isScript mw_635 mw_636 mw_637 (s_X12_isScript l D cy L R O f0 a0 m_a0 r_a0 x1) rfl rfl m_a0 r_a0 (fun e q => (T_12 e).mp q) rfl hl.1 rfl (Nat.le_of_ble_eq_true rfl) ⟨Nat.le_of_ble_eq_true rfl, Nat.le_of_ble_eq_true rfl⟩ ⟨Nat.le_of_ble_eq_true rfl, Nat.le_of_ble_eq_true rfl⟩ dX12_turned_2 (fun v2 f1 H locs hp1 h => ?_)
  obtain ⟨rfl, hv2a, hv2b, hv2p0⟩ := hp1
  refine tw_if_eq (tgt := 32) F dX12_turned_5 (by decide) (fun b3 => ?_) (fun b3 => ?_)
  · refine lv_aload_n F.1 F.2.1 dX12_turned_32 rfl (lv_at hl 0 rfl) ?_
    refine tw_iconst F dX12_turned_33 ki_1 (fun z4 hz4 => ?_)
    refine tw_Vi (As := [.int z4]) F hZ h yk_X12_refuse mw_452 mw_453 mw_454 (s_X12_refuse l D cy L R O f0 a0 m_a0 r_a0 z4 ⟨by omega, by omega⟩) rfl rfl m_a0 r_a0 (fun e q => (T_12 e).mp q) rfl hl.1 rfl (Nat.le_of_ble_eq_true rfl) ⟨Nat.le_of_ble_eq_true rfl, Nat.le_of_ble_eq_true rfl⟩ ⟨Nat.le_of_ble_eq_true rfl, Nat.le_of_ble_eq_true rfl⟩ dX12_turned_34 (fun v6 f5 H locs hp5 h => ?_)
    obtain ⟨hf5, hv6a, hv6b⟩ := hp5
    have hk : fr L R [(12, 1)] [12] f0 f5 := hk.tr hf5 rfl rfl
    refine tw_i2l F dX12_turned_37 (fun z7 hz7 => ?_)
    exact hret f5 _ _ _ _ z7 dX12_turned_38 hk h
  · refine lv_lload_n F.1 F.2.1 dX12_turned_8 rfl (lv_at hl 2 rfl) ?_
    refine tw_Si (As := [.long x2]) F hZ h yk_X12_isWordNumber mw_931 mw_932 (s_X12_isWordNumber l D cy L R O f0 x2) rfl rfl hl.1 rfl (Nat.le_of_ble_eq_true rfl) ⟨Nat.le_of_ble_eq_true rfl, Nat.le_of_ble_eq_true rfl⟩ ⟨Nat.le_of_ble_eq_true rfl, Nat.le_of_ble_eq_true rfl⟩ dX12_turned_9 (fun v9 f8 H locs hp8 h => ?_)
    obtain ⟨rfl, hv9a, hv9b⟩ := hp8
    refine tw_if_eq (tgt := 32) F dX12_turned_12 (by decide) (fun b10 => ?_) (fun b10 => ?_)
    · refine lv_aload_n F.1 F.2.1 dX12_turned_32 rfl (lv_at hl 0 rfl) ?_
      refine tw_iconst F dX12_turned_33 ki_1 (fun z11 hz11 => ?_)
      refine tw_Vi (As := [.int z11]) F hZ h yk_X12_refuse mw_452 mw_453 mw_454 (s_X12_refuse l D cy L R O f0 a0 m_a0 r_a0 z11 ⟨by omega, by omega⟩) rfl rfl m_a0 r_a0 (fun e q => (T_12 e).mp q) rfl hl.1 rfl (Nat.le_of_ble_eq_true rfl) ⟨Nat.le_of_ble_eq_true rfl, Nat.le_of_ble_eq_true rfl⟩ ⟨Nat.le_of_ble_eq_true rfl, Nat.le_of_ble_eq_true rfl⟩ dX12_turned_34 (fun v13 f12 H locs hp12 h => ?_)
      obtain ⟨hf12, hv13a, hv13b⟩ := hp12
      have hk : fr L R [(12, 1)] [12] f0 f12 := hk.tr hf12 rfl rfl
      refine tw_i2l F dX12_turned_37 (fun z14 hz14 => ?_)
      exact hret f12 _ _ _ _ z14 dX12_turned_38 hk h
    · refine lv_aload_n F.1 F.2.1 dX12_turned_15 rfl (lv_at hl 0 rfl) ?_
      refine lv_aload_n F.1 F.2.1 dX12_turned_16 rfl (lv_at hl 0 rfl) ?_
      refine tw_sipush F dX12_turned_17 ks_1650 (fun z15 hz15 => ?_)
      refine lv_iload_n F.1 F.2.1 dX12_turned_20 rfl (lv_at hl 1 rfl) ?_
      refine tu_imull F dX12_turned_21 hz15 (by omega) (fun z16 hz16 => ?_)
      refine lv_lload_n F.1 F.2.1 dX12_turned_22 rfl (lv_at hl 2 rfl) ?_
      refine tw_Vl (As := [.int z16, .long x2]) F hZ h yk_X12_turns mw_937 mw_938 mw_939 (s_X12_turns l D cy L R O f0 a0 m_a0 r_a0 z16 ⟨by omega, by omega⟩ x2 (isB_e (isB_s (show x1.toInt.toNat ≤ 2 by omega)) (by omega))) rfl rfl m_a0 r_a0 (fun e q => (T_12 e).mp q) rfl hl.1 rfl (Nat.le_of_ble_eq_true rfl) ⟨Nat.le_of_ble_eq_true rfl, Nat.le_of_ble_eq_true rfl⟩ ⟨Nat.le_of_ble_eq_true rfl, Nat.le_of_ble_eq_true rfl⟩ dX12_turned_23 (fun v18 f17 H locs hp17 h => ?_)
      obtain rfl := hp17
      refine tw_Vl (As := [.long v18]) F hZ h yk_X12_givesLong mw_801 mw_802 mw_803 (s_X12_givesLong l D cy L R O f0 a0 m_a0 r_a0 v18) rfl rfl m_a0 r_a0 (fun e q => (T_12 e).mp q) rfl hl.1 rfl (Nat.le_of_ble_eq_true rfl) ⟨Nat.le_of_ble_eq_true rfl, Nat.le_of_ble_eq_true rfl⟩ ⟨Nat.le_of_ble_eq_true rfl, Nat.le_of_ble_eq_true rfl⟩ dX12_turned_26 (fun v20 f19 H locs hp19 h => ?_)
      have hf19 := hp19
      have hk : fr L R [(12, 1)] [12] f0 f19 := hk.tr hf19 rfl rfl
      refine lv_goto (tgt := 38) F.1 F.2.1 dX12_turned_29 (by decide) ?_
      exact hret f19 _ _ _ _ v20 dX12_turned_38 hk h
theorem dX12_heard_0 : decode cX12_heard 0 = .ok (.lload_n 1, 1) := by decide +kernel
theorem dX12_heard_1 : decode cX12_heard 1 = .ok (.invokestatic 317, 3) := by decide +kernel
theorem dX12_heard_4 : decode cX12_heard 4 = .ok (.ifCond .ne 9, 3) := by decide +kernel
theorem dX12_heard_13 : decode cX12_heard 13 = .ok (.iconst 0, 1) := by decide +kernel
theorem dX12_heard_14 : decode cX12_heard 14 = .ok (.istore_n 3, 1) := by decide +kernel
theorem dX12_heard_15 : decode cX12_heard 15 = .ok (.iconst 0, 1) := by decide +kernel
theorem dX12_heard_16 : decode cX12_heard 16 = .ok (.istore 4, 2) := by decide +kernel
theorem dX12_heard_18 : decode cX12_heard 18 = .ok (.iload 4, 2) := by decide +kernel
theorem dX12_heard_20 : decode cX12_heard 20 = .ok (.aload_n 0, 1) := by decide +kernel
theorem dX12_heard_21 : decode cX12_heard 21 = .ok (.getfield 416, 3) := by decide +kernel
theorem dX12_heard_24 : decode cX12_heard 24 = .ok (.if_icmp .ge 98, 3) := by decide +kernel
theorem dX12_heard_122 : decode cX12_heard 122 = .ok (.aload_n 0, 1) := by decide +kernel
theorem dX12_heard_123 : decode cX12_heard 123 = .ok (.iload_n 3, 1) := by decide +kernel
theorem dX12_heard_124 : decode cX12_heard 124 = .ok (.invokevirtual 209, 3) := by decide +kernel
theorem dX12_heard_127 : decode cX12_heard 127 = .ok (.ireturn, 1) := by decide +kernel
theorem dX12_heard_27 : decode cX12_heard 27 = .ok (.aload_n 0, 1) := by decide +kernel
theorem dX12_heard_28 : decode cX12_heard 28 = .ok (.getfield 90, 3) := by decide +kernel
theorem dX12_heard_31 : decode cX12_heard 31 = .ok (.iload 4, 2) := by decide +kernel
theorem dX12_heard_33 : decode cX12_heard 33 = .ok (.baload, 1) := by decide +kernel
section
variable {p : Program} {l : Launch} {e : Env} {R0 : Room} {s : State} {m : MethodId} {args : Array Value} {below : List Frame} {meth : Method} {c : Code} {H H0 : Heap} {locs : List Loc} {cells slots : Nat} {Q : State → Prop} {cc : ByteArray} {nL : Nat} {D : va_G} {cy : Nat → ClassId} {A : Nat → Prop} {L : List Nat} {R : Nat → Nat} {f : Nat → va_E} {pc : Nat} {ls : Array Slot} {rest : List Value} {a : Nat}
theorem ld_80 {own : String} (F : CallFix p m c cc nL s args wsL_law own) (h : tS D cy A H0 L R (TT cy L R) f s H locs) {i : Int32} (ha : a ∈ L) (hr : R a = 80) (hb : 0 ≤ i.toInt ∧ i.toInt < 20) (hdg : decode cc pc = .ok (.baload, 1)) (kk : ∀ x : Int32, 0 ≤ x.toInt → x.toInt ≤ 1 → W p l e R0 s m args below meth c H locs cells slots Q (F0 m (pc + 1) ls (.int x :: rest))) : W p l e R0 s m args below meth c H locs cells slots Q (F0 m pc ls (.int i :: .ref a :: rest)) := tu_zald F h ha hr (fun e q => (T_80 e).mp q) hb.1 hb.2 hdg (fun x h1 h2 => kk x h1.1 h1.2)
end
theorem dX12_heard_116 : decode cX12_heard 116 = .ok (.iinc 4 1, 3) := by decide +kernel
theorem dX12_heard_119 : decode cX12_heard 119 = .ok (.goto (-101), 3) := by decide +kernel
theorem dX12_heard_34 : decode cX12_heard 34 = .ok (.ifCond .eq 6, 3) := by decide +kernel
theorem dX12_heard_40 : decode cX12_heard 40 = .ok (.iconst 0, 1) := by decide +kernel
theorem dX12_heard_41 : decode cX12_heard 41 = .ok (.istore 5, 2) := by decide +kernel
theorem dX12_heard_43 : decode cX12_heard 43 = .ok (.iload 5, 2) := by decide +kernel
theorem dX12_heard_45 : decode cX12_heard 45 = .ok (.bipush 26, 2) := by decide +kernel
theorem dX12_heard_47 : decode cX12_heard 47 = .ok (.if_icmp .ge 69, 3) := by decide +kernel
theorem dX12_heard_50 : decode cX12_heard 50 = .ok (.iconst 0, 1) := by decide +kernel
theorem dX12_heard_51 : decode cX12_heard 51 = .ok (.istore 6, 2) := by decide +kernel
theorem dX12_heard_53 : decode cX12_heard 53 = .ok (.iload 6, 2) := by decide +kernel
theorem dX12_heard_55 : decode cX12_heard 55 = .ok (.i2l, 1) := by decide +kernel
theorem dX12_heard_56 : decode cX12_heard 56 = .ok (.aload_n 0, 1) := by decide +kernel
theorem dX12_heard_57 : decode cX12_heard 57 = .ok (.getfield 84, 3) := by decide +kernel
theorem dX12_heard_60 : decode cX12_heard 60 = .ok (.bipush 26, 2) := by decide +kernel
theorem dX12_heard_62 : decode cX12_heard 62 = .ok (.iload 4, 2) := by decide +kernel
theorem dX12_heard_64 : decode cX12_heard 64 = .ok (.imul, 1) := by decide +kernel
theorem dX12_heard_65 : decode cX12_heard 65 = .ok (.iload 5, 2) := by decide +kernel
theorem dX12_heard_67 : decode cX12_heard 67 = .ok (.iadd, 1) := by decide +kernel
theorem dX12_heard_68 : decode cX12_heard 68 = .ok (.laload, 1) := by decide +kernel
theorem dX12_heard_69 : decode cX12_heard 69 = .ok (.lcmp, 1) := by decide +kernel
theorem dX12_heard_70 : decode cX12_heard 70 = .ok (.ifCond .ge 40, 3) := by decide +kernel
theorem dX12_heard_110 : decode cX12_heard 110 = .ok (.iinc 5 13, 3) := by decide +kernel
theorem ki_13 : (Int32.ofInt 13).toInt = 13 := by decide
theorem dX12_heard_113 : decode cX12_heard 113 = .ok (.goto (-70), 3) := by decide +kernel
theorem dX12_heard_73 : decode cX12_heard 73 = .ok (.iload_n 3, 1) := by decide +kernel
theorem dX12_heard_74 : decode cX12_heard 74 = .ok (.aload_n 0, 1) := by decide +kernel
theorem dX12_heard_75 : decode cX12_heard 75 = .ok (.getfield 84, 3) := by decide +kernel
theorem dX12_heard_78 : decode cX12_heard 78 = .ok (.bipush 26, 2) := by decide +kernel
theorem dX12_heard_80 : decode cX12_heard 80 = .ok (.iload 4, 2) := by decide +kernel
theorem dX12_heard_82 : decode cX12_heard 82 = .ok (.imul, 1) := by decide +kernel
theorem dX12_heard_83 : decode cX12_heard 83 = .ok (.iload 5, 2) := by decide +kernel
theorem dX12_heard_85 : decode cX12_heard 85 = .ok (.iadd, 1) := by decide +kernel
theorem dX12_heard_86 : decode cX12_heard 86 = .ok (.iconst 1, 1) := by decide +kernel
theorem dX12_heard_87 : decode cX12_heard 87 = .ok (.iadd, 1) := by decide +kernel
theorem dX12_heard_88 : decode cX12_heard 88 = .ok (.iload 6, 2) := by decide +kernel
theorem dX12_heard_90 : decode cX12_heard 90 = .ok (.iadd, 1) := by decide +kernel
theorem dX12_heard_91 : decode cX12_heard 91 = .ok (.laload, 1) := by decide +kernel
theorem dX12_heard_92 : decode cX12_heard 92 = .ok (.lload_n 1, 1) := by decide +kernel
theorem dX12_heard_93 : decode cX12_heard 93 = .ok (.lcmp, 1) := by decide +kernel
theorem dX12_heard_102 : decode cX12_heard 102 = .ok (.iadd, 1) := by decide +kernel
theorem dX12_heard_103 : decode cX12_heard 103 = .ok (.istore_n 3, 1) := by decide +kernel
theorem dX12_heard_104 : decode cX12_heard 104 = .ok (.iinc 6 1, 3) := by decide +kernel
theorem dX12_heard_107 : decode cX12_heard 107 = .ok (.goto (-54), 3) := by decide +kernel
theorem dX12_heard_94 : decode cX12_heard 94 = .ok (.ifCond .ne 7, 3) := by decide +kernel
theorem dX12_heard_101 : decode cX12_heard 101 = .ok (.iconst 0, 1) := by decide +kernel
theorem dX12_heard_97 : decode cX12_heard 97 = .ok (.iconst 1, 1) := by decide +kernel
theorem dX12_heard_98 : decode cX12_heard 98 = .ok (.goto 4, 3) := by decide +kernel
theorem dX12_heard_37 : decode cX12_heard 37 = .ok (.goto 79, 3) := by decide +kernel
theorem dX12_heard_7 : decode cX12_heard 7 = .ok (.aload_n 0, 1) := by decide +kernel
theorem dX12_heard_8 : decode cX12_heard 8 = .ok (.iconst 1, 1) := by decide +kernel
theorem dX12_heard_9 : decode cX12_heard 9 = .ok (.invokevirtual 194, 3) := by decide +kernel
theorem dX12_heard_12 : decode cX12_heard 12 = .ok (.ireturn, 1) := by decide +kernel
def rm_X12_heard : Room := { frames := 1, cells := 0, slots := 0, locals := 24 }
set_option maxHeartbeats 4000000 in
set_option maxRecDepth 100000 in
theorem s_X12_heard (l : Launch) (D : va_G) (cy : Nat → ClassId) (L : List Nat) (R O : Nat → Nat) (f0 : Nat → va_E) (a0 : Nat) (m_a0 : a0 ∈ L) (r_a0 : R a0 = 12) (x1 : Int64) : ∀ sz, Met l yX12_heard (Cond.code yX12_heard cX12_heard 7 (some .int) :: wsL_law) rm_X12_heard (va_Pc [.ref a0, .long x1] (tPZ D cy L R (TT cy L R) f0 sz)) (va_Qi (fun (r : Int32) f1 => fr L R [(12, 1)] [12] f0 f1) (tB D (tA L sz) L R (TT cy L R)) (tA L sz)) 0 0 (tA L sz) := by
  refine tw_enteri (by decide +kernel) rfl (Nat.le_of_ble_eq_true rfl) ?_
  intro p e s m below meth c A ls args Q F hZ h hl hret
  have hl : lv_has ls 7 [(0, .ref a0), (1, .long x1)] := hl
  have hk : fr L R [(12, 1)] [12] f0 f0 := fr.rf
  refine lv_lload_n F.1 F.2.1 dX12_heard_0 rfl (lv_at hl 1 rfl) ?_
  refine tw_Si (As := [.long x1]) F hZ h yk_X12_isWordNumber mw_931 mw_932 (s_X12_isWordNumber l D cy L R O f0 x1) rfl rfl hl.1 rfl (Nat.le_of_ble_eq_true rfl) ⟨Nat.le_of_ble_eq_true rfl, Nat.le_of_ble_eq_true rfl⟩ ⟨Nat.le_of_ble_eq_true rfl, Nat.le_of_ble_eq_true rfl⟩ dX12_heard_1 (fun v2 f1 H locs hp1 h => ?_)
  obtain ⟨rfl, hv2a, hv2b⟩ := hp1
  refine tw_if_ne (tgt := 13) F dX12_heard_4 (by decide) (fun b3 => ?_) (fun b3 => ?_)
  · refine tw_iconst F dX12_heard_13 ki_0 (fun z4 hz4 => ?_)
    refine lv_istore_n (lv' := [(3, .int z4), (0, .ref a0), (1, .long x1)]) F.1 F.2.1 dX12_heard_14 rfl hl (by decide) rfl (fun ls hl => ?_)
    refine tw_iconst F dX12_heard_15 ki_0 (fun z5 hz5 => ?_)
    refine lv_istore (lv' := [(4, .int z5), (3, .int z4), (0, .ref a0), (1, .long x1)]) F.1 F.2.1 dX12_heard_16 hl (by decide) rfl (fun ls hl => ?_)
    have j_18 : ∀ (n18 : Nat) (ls : Array Slot) (x3_18 : Int32) (x4_18 : Int32), 0 ≤ x4_18.toInt → x4_18.toInt ≤ 15 → ((15 - x4_18.toInt)).toNat < n18 → lv_has ls 7 [(0, .ref a0), (1, .long x1), (3, .int x3_18), (4, .int x4_18)] → W p l e rm_X12_heard s m args below meth c H locs 0 0 Q (F0 m 18 ls []) := by
      intro n18
      induction n18 with
      | zero =>
        intro ls x3_18 x4_18 b6 b7 b8 hl
        exfalso
        omega
      | succ n18 ih18 =>
        intro ls x3_18 x4_18 b6 b7 b8 hl
        refine lv_iload F.1 F.2.1 dX12_heard_18 (lv_at hl 3 rfl) ?_
        refine lv_aload_n F.1 F.2.1 dX12_heard_20 rfl (lv_at hl 0 rfl) ?_
        refine g_12_416 F h m_a0 r_a0 dX12_heard_21 (fun v9 hv9 hv9a hv9b => ?_)
        refine tw_icmp_ge (tgt := 122) F dX12_heard_24 (by decide) (fun b10 => ?_) (fun b10 => ?_)
        · refine lv_aload_n F.1 F.2.1 dX12_heard_122 rfl (lv_at hl 0 rfl) ?_
          refine lv_iload_n F.1 F.2.1 dX12_heard_123 rfl (lv_at hl 2 rfl) ?_
          refine tw_Vi (As := [.int x3_18]) F hZ h yk_X12_gives mw_499 mw_500 mw_501 (s_X12_gives l D cy L R O f0 a0 m_a0 r_a0 x3_18) rfl rfl m_a0 r_a0 (fun e q => (T_12 e).mp q) rfl hl.1 rfl (Nat.le_of_ble_eq_true rfl) ⟨Nat.le_of_ble_eq_true rfl, Nat.le_of_ble_eq_true rfl⟩ ⟨Nat.le_of_ble_eq_true rfl, Nat.le_of_ble_eq_true rfl⟩ dX12_heard_124 (fun v12 f11 H locs hp11 h => ?_)
          have hf11 := hp11
          have hk : fr L R [(12, 1)] [12] f0 f11 := hk.tr hf11 rfl rfl
          exact hret f11 _ _ _ _ v12 dX12_heard_127 rfl hk h
        · refine lv_aload_n F.1 F.2.1 dX12_heard_27 rfl (lv_at hl 0 rfl) ?_
          refine g_12_90 F h m_a0 r_a0 dX12_heard_28 (fun o13 m_o13 r_o13 ho13 => ?_)
          refine lv_iload F.1 F.2.1 dX12_heard_31 (lv_at hl 3 rfl) ?_
          refine ld_80 F h m_o13 r_o13 (by omega) dX12_heard_33 (fun v14 hv14a hv14b => ?_)
          have j_116 : ∀ (ls : Array Slot) (x3_116 : Int32), lv_has ls 7 [(0, .ref a0), (1, .long x1), (3, .int x3_116), (4, .int x4_18)] → W p l e rm_X12_heard s m args below meth c H locs 0 0 Q (F0 m 116 ls []) := by
            intro ls x3_116 hl
            refine tu_iinc F dX12_heard_116 hl (k := 3) rfl (by decide) ki_1 (by omega) (fun z15 ls hz15 hl => ?_)
            have hl : lv_has ls 7 [(4, .int z15), (0, .ref a0), (1, .long x1), (3, .int x3_116)] := hl
            refine lv_goto (tgt := 18) F.1 F.2.1 dX12_heard_119 (by decide) ?_
            exact ih18 _ x3_116 z15 (by omega) (by omega) (by omega) (lv_sub hl [1, 2, 3, 0] rfl)
          refine tw_if_eq (tgt := 40) F dX12_heard_34 (by decide) (fun b16 => ?_) (fun b16 => ?_)
          · refine tw_iconst F dX12_heard_40 ki_0 (fun z17 hz17 => ?_)
            refine lv_istore (lv' := [(5, .int z17), (0, .ref a0), (1, .long x1), (3, .int x3_18), (4, .int x4_18)]) F.1 F.2.1 dX12_heard_41 hl (by decide) rfl (fun ls hl => ?_)
            have j_43 : ∀ (n43 : Nat) (ls : Array Slot) (x3_43 : Int32) (x5_43 : Int32), 0 ≤ x5_43.toInt → x5_43.toInt ≤ 38 → x5_43.toInt % 13 = 0 → ((38 - x5_43.toInt)).toNat < n43 → lv_has ls 7 [(0, .ref a0), (1, .long x1), (3, .int x3_43), (4, .int x4_18), (5, .int x5_43)] → W p l e rm_X12_heard s m args below meth c H locs 0 0 Q (F0 m 43 ls []) := by
              intro n43
              induction n43 with
              | zero =>
                intro ls x3_43 x5_43 b18 b19 b20 b21 hl
                exfalso
                omega
              | succ n43 ih43 =>
                intro ls x3_43 x5_43 b18 b19 b20 b21 hl
                refine lv_iload F.1 F.2.1 dX12_heard_43 (lv_at hl 4 rfl) ?_
                refine tw_bipush F dX12_heard_45 kb_26 (fun z22 hz22 => ?_)
                refine tw_icmp_ge (tgt := 116) F dX12_heard_47 (by decide) (fun b23 => ?_) (fun b23 => ?_)
                · exact j_116 _ x3_43 (lv_sub hl [0, 1, 2, 3] rfl)
                · refine tw_iconst F dX12_heard_50 ki_0 (fun z24 hz24 => ?_)
                  refine lv_istore (lv' := [(6, .int z24), (0, .ref a0), (1, .long x1), (3, .int x3_43), (4, .int x4_18), (5, .int x5_43)]) F.1 F.2.1 dX12_heard_51 hl (by decide) rfl (fun ls hl => ?_)
                  have j_53 : ∀ (n53 : Nat) (ls : Array Slot) (x3_53 : Int32) (x6_53 : Int32), 0 ≤ x6_53.toInt → x6_53.toInt ≤ 12 → ((12 - x6_53.toInt)).toNat < n53 → lv_has ls 7 [(0, .ref a0), (1, .long x1), (3, .int x3_53), (4, .int x4_18), (5, .int x5_43), (6, .int x6_53)] → W p l e rm_X12_heard s m args below meth c H locs 0 0 Q (F0 m 53 ls []) := by
                    intro n53
                    induction n53 with
                    | zero =>
                      intro ls x3_53 x6_53 b25 b26 b27 hl
                      exfalso
                      omega
                    | succ n53 ih53 =>
                      intro ls x3_53 x6_53 b25 b26 b27 hl
                      refine lv_iload F.1 F.2.1 dX12_heard_53 (lv_at hl 5 rfl) ?_
                      refine tw_i2l F dX12_heard_55 (fun z28 hz28 => ?_)
                      refine lv_aload_n F.1 F.2.1 dX12_heard_56 rfl (lv_at hl 0 rfl) ?_
                      refine g_12_84 F h m_a0 r_a0 dX12_heard_57 (fun o29 m_o29 r_o29 ho29 => ?_)
                      refine tw_bipush F dX12_heard_60 kb_26 (fun z30 hz30 => ?_)
                      refine lv_iload F.1 F.2.1 dX12_heard_62 (lv_at hl 3 rfl) ?_
                      refine tu_imull F dX12_heard_64 hz30 (by omega) (fun z31 hz31 => ?_)
                      refine lv_iload F.1 F.2.1 dX12_heard_65 (lv_at hl 4 rfl) ?_
                      refine tu_iadd F dX12_heard_67 (by omega) (fun z32 hz32 => ?_)
                      refine ld_78 F h m_o29 r_o29 (by omega) dX12_heard_68 (fun v33 hv33a => ?_)
                      have hv33b := hv33a (by omega)
                      refine tw_lcmp F dX12_heard_69 (fun z34 hz34 => ?_)
                      refine tw_if_ge (tgt := 110) F dX12_heard_70 (by decide) (fun b35 => ?_) (fun b35 => ?_)
                      · refine tu_iinc F dX12_heard_110 hl (k := 4) rfl (by decide) ki_13 (by omega) (fun z36 ls hz36 hl => ?_)
                        have hl : lv_has ls 7 [(5, .int z36), (0, .ref a0), (1, .long x1), (3, .int x3_53), (4, .int x4_18), (6, .int x6_53)] := hl
                        refine lv_goto (tgt := 43) F.1 F.2.1 dX12_heard_113 (by decide) ?_
                        exact ih43 _ x3_53 z36 (by omega) (by omega) (by omega) (by omega) (lv_sub hl [1, 2, 3, 4, 0] rfl)
                      · refine lv_iload_n F.1 F.2.1 dX12_heard_73 rfl (lv_at hl 2 rfl) ?_
                        refine lv_aload_n F.1 F.2.1 dX12_heard_74 rfl (lv_at hl 0 rfl) ?_
                        refine g_12_84 F h m_a0 r_a0 dX12_heard_75 (fun o37 m_o37 r_o37 ho37 => ?_)
                        refine tw_bipush F dX12_heard_78 kb_26 (fun z38 hz38 => ?_)
                        refine lv_iload F.1 F.2.1 dX12_heard_80 (lv_at hl 3 rfl) ?_
                        refine tu_imull F dX12_heard_82 hz38 (by omega) (fun z39 hz39 => ?_)
                        refine lv_iload F.1 F.2.1 dX12_heard_83 (lv_at hl 4 rfl) ?_
                        refine tu_iadd F dX12_heard_85 (by omega) (fun z40 hz40 => ?_)
                        refine tw_iconst F dX12_heard_86 ki_1 (fun z41 hz41 => ?_)
                        refine tu_iadd F dX12_heard_87 (by omega) (fun z42 hz42 => ?_)
                        refine lv_iload F.1 F.2.1 dX12_heard_88 (lv_at hl 5 rfl) ?_
                        refine tu_iadd F dX12_heard_90 (by omega) (fun z43 hz43 => ?_)
                        refine ld_78 F h m_o37 r_o37 (by omega) dX12_heard_91 (fun v44 hv44a => ?_)
                        refine lv_lload_n F.1 F.2.1 dX12_heard_92 rfl (lv_at hl 1 rfl) ?_
                        refine tw_lcmp F dX12_heard_93 (fun z45 hz45 => ?_)
                        have j_102 : ∀ (ls : Array Slot) (y0_102 : Int32), 0 ≤ y0_102.toInt → y0_102.toInt ≤ 1 → lv_has ls 7 [(0, .ref a0), (1, .long x1), (4, .int x4_18), (5, .int x5_43), (6, .int x6_53)] → W p l e rm_X12_heard s m args below meth c H locs 0 0 Q (F0 m 102 ls [.int y0_102, .int x3_53]) := by
                          intro ls y0_102 b46 b47 hl
                          refine lv_iadd F.1 F.2.1 dX12_heard_102 ?_
                          refine lv_topi (fun z48 _ => ?_)
                          refine lv_istore_n (lv' := [(3, .int z48), (0, .ref a0), (1, .long x1), (4, .int x4_18), (5, .int x5_43), (6, .int x6_53)]) F.1 F.2.1 dX12_heard_103 rfl hl (by decide) rfl (fun ls hl => ?_)
                          refine tu_iinc F dX12_heard_104 hl (k := 5) rfl (by decide) ki_1 (by omega) (fun z49 ls hz49 hl => ?_)
                          have hl : lv_has ls 7 [(6, .int z49), (3, .int z48), (0, .ref a0), (1, .long x1), (4, .int x4_18), (5, .int x5_43)] := hl
                          refine lv_goto (tgt := 53) F.1 F.2.1 dX12_heard_107 (by decide) ?_
                          exact ih53 _ z48 z49 (by omega) (by omega) (by omega) (lv_sub hl [2, 3, 1, 4, 5, 0] rfl)
                        refine tw_if_ne (tgt := 101) F dX12_heard_94 (by decide) (fun b50 => ?_) (fun b50 => ?_)
                        · refine tw_iconst F dX12_heard_101 ki_0 (fun z51 hz51 => ?_)
                          exact j_102 _ z51 (by omega) (by omega) (lv_sub hl [0, 1, 3, 4, 5] rfl)
                        · refine tw_iconst F dX12_heard_97 ki_1 (fun z52 hz52 => ?_)
                          refine lv_goto (tgt := 102) F.1 F.2.1 dX12_heard_98 (by decide) ?_
                          exact j_102 _ z52 (by omega) (by omega) (lv_sub hl [0, 1, 3, 4, 5] rfl)
                  exact j_53 (((12 - z24.toInt)).toNat + 1) _ x3_43 z24 (by omega) (by omega) (by omega) (lv_sub hl [1, 2, 3, 4, 5, 0] rfl)
            exact j_43 (((38 - z17.toInt)).toNat + 1) _ x3_18 z17 (by omega) (by omega) (by omega) (by omega) (lv_sub hl [1, 2, 3, 4, 0] rfl)
          · refine lv_goto (tgt := 116) F.1 F.2.1 dX12_heard_37 (by decide) ?_
            exact j_116 _ x3_18 (lv_sub hl [0, 1, 2, 3] rfl)
    exact j_18 (((15 - z5.toInt)).toNat + 1) _ z4 z5 (by omega) (by omega) (by omega) (lv_sub hl [2, 3, 1, 0] rfl)
  · refine lv_aload_n F.1 F.2.1 dX12_heard_7 rfl (lv_at hl 0 rfl) ?_
    refine tw_iconst F dX12_heard_8 ki_1 (fun z53 hz53 => ?_)
    refine tw_Vi (As := [.int z53]) F hZ h yk_X12_refuse mw_452 mw_453 mw_454 (s_X12_refuse l D cy L R O f0 a0 m_a0 r_a0 z53 ⟨by omega, by omega⟩) rfl rfl m_a0 r_a0 (fun e q => (T_12 e).mp q) rfl hl.1 rfl (Nat.le_of_ble_eq_true rfl) ⟨Nat.le_of_ble_eq_true rfl, Nat.le_of_ble_eq_true rfl⟩ ⟨Nat.le_of_ble_eq_true rfl, Nat.le_of_ble_eq_true rfl⟩ dX12_heard_9 (fun v55 f54 H locs hp54 h => ?_)
    obtain ⟨hf54, hv55a, hv55b⟩ := hp54
    have hk : fr L R [(12, 1)] [12] f0 f54 := hk.tr hf54 rfl rfl
    exact hret f54 _ _ _ _ v55 dX12_heard_12 rfl hk h
theorem dX12_pour_0 : decode cX12_pour 0 = .ok (.iload_n 1, 1) := by decide +kernel
theorem dX12_pour_1 : decode cX12_pour 1 = .ok (.invokestatic 127, 3) := by decide +kernel
theorem dX12_pour_4 : decode cX12_pour 4 = .ok (.ifCond .eq 24, 3) := by decide +kernel
theorem dX12_pour_28 : decode cX12_pour 28 = .ok (.aload_n 0, 1) := by decide +kernel
theorem dX12_pour_29 : decode cX12_pour 29 = .ok (.iconst 1, 1) := by decide +kernel
theorem dX12_pour_30 : decode cX12_pour 30 = .ok (.invokevirtual 131, 3) := by decide +kernel
theorem dX12_pour_33 : decode cX12_pour 33 = .ok (.ireturn, 1) := by decide +kernel
theorem dX12_pour_7 : decode cX12_pour 7 = .ok (.iload_n 3, 1) := by decide +kernel
theorem dX12_pour_8 : decode cX12_pour 8 = .ok (.invokestatic 127, 3) := by decide +kernel
theorem dX12_pour_11 : decode cX12_pour 11 = .ok (.ifCond .eq 17, 3) := by decide +kernel
theorem dX12_pour_14 : decode cX12_pour 14 = .ok (.iload_n 2, 1) := by decide +kernel
theorem dX12_pour_15 : decode cX12_pour 15 = .ok (.ifCond .lt 13, 3) := by decide +kernel
theorem dX12_pour_18 : decode cX12_pour 18 = .ok (.iload 4, 2) := by decide +kernel
theorem dX12_pour_20 : decode cX12_pour 20 = .ok (.ifCond .lt 8, 3) := by decide +kernel
theorem dX12_pour_23 : decode cX12_pour 23 = .ok (.iload 5, 2) := by decide +kernel
theorem dX12_pour_25 : decode cX12_pour 25 = .ok (.ifCond .ge 9, 3) := by decide +kernel
theorem dX12_pour_34 : decode cX12_pour 34 = .ok (.aload_n 0, 1) := by decide +kernel
theorem dX12_pour_35 : decode cX12_pour 35 = .ok (.getfield 21, 3) := by decide +kernel
theorem dX12_pour_38 : decode cX12_pour 38 = .ok (.iload_n 1, 1) := by decide +kernel
theorem dX12_pour_39 : decode cX12_pour 39 = .ok (.iaload, 1) := by decide +kernel
theorem dX12_pour_40 : decode cX12_pour 40 = .ok (.iconst (-1), 1) := by decide +kernel
theorem dX12_pour_41 : decode cX12_pour 41 = .ok (.if_icmp .eq 13, 3) := by decide +kernel
theorem dX12_pour_54 : decode cX12_pour 54 = .ok (.aload_n 0, 1) := by decide +kernel
theorem dX12_pour_55 : decode cX12_pour 55 = .ok (.iconst 2, 1) := by decide +kernel
theorem dX12_pour_56 : decode cX12_pour 56 = .ok (.invokevirtual 131, 3) := by decide +kernel
theorem dX12_pour_59 : decode cX12_pour 59 = .ok (.ireturn, 1) := by decide +kernel
theorem dX12_pour_44 : decode cX12_pour 44 = .ok (.aload_n 0, 1) := by decide +kernel
theorem dX12_pour_45 : decode cX12_pour 45 = .ok (.getfield 21, 3) := by decide +kernel
theorem dX12_pour_48 : decode cX12_pour 48 = .ok (.iload_n 3, 1) := by decide +kernel
theorem dX12_pour_49 : decode cX12_pour 49 = .ok (.iaload, 1) := by decide +kernel
theorem dX12_pour_50 : decode cX12_pour 50 = .ok (.iconst (-1), 1) := by decide +kernel
theorem dX12_pour_51 : decode cX12_pour 51 = .ok (.if_icmp .ne 9, 3) := by decide +kernel
theorem dX12_pour_60 : decode cX12_pour 60 = .ok (.aload_n 0, 1) := by decide +kernel
theorem dX12_pour_61 : decode cX12_pour 61 = .ok (.getfield 17, 3) := by decide +kernel
theorem dX12_pour_64 : decode cX12_pour 64 = .ok (.iload_n 1, 1) := by decide +kernel
theorem dX12_pour_65 : decode cX12_pour 65 = .ok (.iaload, 1) := by decide +kernel
theorem dX12_pour_66 : decode cX12_pour 66 = .ok (.aload_n 0, 1) := by decide +kernel
theorem dX12_pour_67 : decode cX12_pour 67 = .ok (.getfield 17, 3) := by decide +kernel
theorem dX12_pour_70 : decode cX12_pour 70 = .ok (.iload_n 3, 1) := by decide +kernel
theorem dX12_pour_71 : decode cX12_pour 71 = .ok (.iaload, 1) := by decide +kernel
theorem dX12_pour_72 : decode cX12_pour 72 = .ok (.if_icmp .eq 10, 3) := by decide +kernel
theorem dX12_pour_82 : decode cX12_pour 82 = .ok (.iload 5, 2) := by decide +kernel
theorem dX12_pour_84 : decode cX12_pour 84 = .ok (.aload_n 0, 1) := by decide +kernel
theorem dX12_pour_85 : decode cX12_pour 85 = .ok (.getfield 21, 3) := by decide +kernel
theorem dX12_pour_88 : decode cX12_pour 88 = .ok (.iload_n 1, 1) := by decide +kernel
theorem dX12_pour_89 : decode cX12_pour 89 = .ok (.iaload, 1) := by decide +kernel
theorem dX12_pour_90 : decode cX12_pour 90 = .ok (.iload_n 2, 1) := by decide +kernel
theorem dX12_pour_91 : decode cX12_pour 91 = .ok (.isub, 1) := by decide +kernel
theorem dX12_pour_92 : decode cX12_pour 92 = .ok (.if_icmp .gt 17, 3) := by decide +kernel
theorem dX12_pour_109 : decode cX12_pour 109 = .ok (.aload_n 0, 1) := by decide +kernel
theorem dX12_pour_110 : decode cX12_pour 110 = .ok (.iconst 3, 1) := by decide +kernel
theorem dX12_pour_111 : decode cX12_pour 111 = .ok (.invokevirtual 131, 3) := by decide +kernel
theorem dX12_pour_114 : decode cX12_pour 114 = .ok (.ireturn, 1) := by decide +kernel
theorem dX12_pour_95 : decode cX12_pour 95 = .ok (.iload 5, 2) := by decide +kernel
theorem dX12_pour_97 : decode cX12_pour 97 = .ok (.aload_n 0, 1) := by decide +kernel
theorem dX12_pour_98 : decode cX12_pour 98 = .ok (.getfield 21, 3) := by decide +kernel
theorem dX12_pour_101 : decode cX12_pour 101 = .ok (.iload_n 3, 1) := by decide +kernel
theorem dX12_pour_102 : decode cX12_pour 102 = .ok (.iaload, 1) := by decide +kernel
theorem dX12_pour_103 : decode cX12_pour 103 = .ok (.iload 4, 2) := by decide +kernel
theorem dX12_pour_105 : decode cX12_pour 105 = .ok (.isub, 1) := by decide +kernel
theorem dX12_pour_106 : decode cX12_pour 106 = .ok (.if_icmp .le 9, 3) := by decide +kernel
theorem dX12_pour_115 : decode cX12_pour 115 = .ok (.iconst 0, 1) := by decide +kernel
theorem dX12_pour_116 : decode cX12_pour 116 = .ok (.istore 6, 2) := by decide +kernel
theorem dX12_pour_118 : decode cX12_pour 118 = .ok (.iload 6, 2) := by decide +kernel
theorem dX12_pour_120 : decode cX12_pour 120 = .ok (.iload 5, 2) := by decide +kernel
theorem dX12_pour_122 : decode cX12_pour 122 = .ok (.if_icmp .ge 58, 3) := by decide +kernel
theorem dX12_pour_180 : decode cX12_pour 180 = .ok (.aload_n 0, 1) := by decide +kernel
theorem dX12_pour_181 : decode cX12_pour 181 = .ok (.iconst 0, 1) := by decide +kernel
theorem dX12_pour_182 : decode cX12_pour 182 = .ok (.invokevirtual 131, 3) := by decide +kernel
theorem dX12_pour_185 : decode cX12_pour 185 = .ok (.ireturn, 1) := by decide +kernel
theorem dX12_pour_125 : decode cX12_pour 125 = .ok (.iload_n 2, 1) := by decide +kernel
theorem dX12_pour_126 : decode cX12_pour 126 = .ok (.iload 4, 2) := by decide +kernel
theorem dX12_pour_143 : decode cX12_pour 143 = .ok (.istore 7, 2) := by decide +kernel
theorem dX12_pour_145 : decode cX12_pour 145 = .ok (.aload_n 0, 1) := by decide +kernel
theorem dX12_pour_146 : decode cX12_pour 146 = .ok (.getfield 24, 3) := by decide +kernel
theorem dX12_pour_149 : decode cX12_pour 149 = .ok (.bipush 60, 2) := by decide +kernel
theorem dX12_pour_151 : decode cX12_pour 151 = .ok (.iload_n 3, 1) := by decide +kernel
theorem dX12_pour_152 : decode cX12_pour 152 = .ok (.imul, 1) := by decide +kernel
theorem dX12_pour_153 : decode cX12_pour 153 = .ok (.iload 4, 2) := by decide +kernel
theorem dX12_pour_155 : decode cX12_pour 155 = .ok (.iadd, 1) := by decide +kernel
theorem dX12_pour_156 : decode cX12_pour 156 = .ok (.iload 7, 2) := by decide +kernel
theorem dX12_pour_158 : decode cX12_pour 158 = .ok (.iadd, 1) := by decide +kernel
theorem dX12_pour_159 : decode cX12_pour 159 = .ok (.aload_n 0, 1) := by decide +kernel
theorem dX12_pour_160 : decode cX12_pour 160 = .ok (.getfield 24, 3) := by decide +kernel
theorem dX12_pour_163 : decode cX12_pour 163 = .ok (.bipush 60, 2) := by decide +kernel
theorem dX12_pour_165 : decode cX12_pour 165 = .ok (.iload_n 1, 1) := by decide +kernel
theorem dX12_pour_166 : decode cX12_pour 166 = .ok (.imul, 1) := by decide +kernel
theorem dX12_pour_167 : decode cX12_pour 167 = .ok (.iload_n 2, 1) := by decide +kernel
theorem dX12_pour_168 : decode cX12_pour 168 = .ok (.iadd, 1) := by decide +kernel
theorem dX12_pour_169 : decode cX12_pour 169 = .ok (.iload 7, 2) := by decide +kernel
theorem dX12_pour_171 : decode cX12_pour 171 = .ok (.iadd, 1) := by decide +kernel
theorem dX12_pour_172 : decode cX12_pour 172 = .ok (.laload, 1) := by decide +kernel
theorem dX12_pour_173 : decode cX12_pour 173 = .ok (.lastore, 1) := by decide +kernel
theorem dX12_pour_174 : decode cX12_pour 174 = .ok (.iinc 6 1, 3) := by decide +kernel
theorem dX12_pour_177 : decode cX12_pour 177 = .ok (.goto (-59), 3) := by decide +kernel
theorem dX12_pour_128 : decode cX12_pour 128 = .ok (.if_icmp .ge 13, 3) := by decide +kernel
theorem dX12_pour_141 : decode cX12_pour 141 = .ok (.iload 6, 2) := by decide +kernel
theorem dX12_pour_131 : decode cX12_pour 131 = .ok (.iload 5, 2) := by decide +kernel
theorem dX12_pour_133 : decode cX12_pour 133 = .ok (.iconst 1, 1) := by decide +kernel
theorem dX12_pour_134 : decode cX12_pour 134 = .ok (.isub, 1) := by decide +kernel
theorem dX12_pour_135 : decode cX12_pour 135 = .ok (.iload 6, 2) := by decide +kernel
theorem dX12_pour_137 : decode cX12_pour 137 = .ok (.isub, 1) := by decide +kernel
theorem dX12_pour_138 : decode cX12_pour 138 = .ok (.goto 5, 3) := by decide +kernel
theorem dX12_pour_75 : decode cX12_pour 75 = .ok (.aload_n 0, 1) := by decide +kernel
theorem dX12_pour_76 : decode cX12_pour 76 = .ok (.bipush 8, 2) := by decide +kernel
theorem dX12_pour_78 : decode cX12_pour 78 = .ok (.invokevirtual 131, 3) := by decide +kernel
theorem dX12_pour_81 : decode cX12_pour 81 = .ok (.ireturn, 1) := by decide +kernel
def rm_X12_pour : Room := { frames := 1, cells := 0, slots := 0, locals := 21 }
set_option maxHeartbeats 4000000 in
set_option maxRecDepth 100000 in
theorem s_X12_pour (l : Launch) (D : va_G) (cy : Nat → ClassId) (L : List Nat) (R O : Nat → Nat) (f0 : Nat → va_E) (a0 : Nat) (m_a0 : a0 ∈ L) (r_a0 : R a0 = 12) (x1 : Int32) (x2 : Int32) (x3 : Int32) (x4 : Int32) (x5 : Int32) : ∀ sz, Met l yX12_pour (Cond.code yX12_pour cX12_pour 8 (some .boolean) :: wsL_law) rm_X12_pour (va_Pc [.ref a0, .int x1, .int x2, .int x3, .int x4, .int x5] (tPZ D cy L R (TT cy L R) f0 sz)) (va_Qi (fun (r : Int32) f1 => fr L R [(12, 1)] [12, 64] f0 f1 ∧ 0 ≤ r.toInt ∧ r.toInt ≤ 1) (tB D (tA L sz) L R (TT cy L R)) (tA L sz)) 0 0 (tA L sz) := by
  refine tw_enteri (by decide +kernel) rfl (Nat.le_of_ble_eq_true rfl) ?_
  intro p e s m below meth c A ls args Q F hZ h hl hret
  have hl : lv_has ls 8 [(0, .ref a0), (1, .int x1), (2, .int x2), (3, .int x3), (4, .int x4), (5, .int x5)] := hl
  have hk : fr L R [(12, 1)] [12, 64] f0 f0 := fr.rf
  have tb2 := tb_i x2
  have tb4 := tb_i x4
  refine lv_iload_n F.1 F.2.1 dX12_pour_0 rfl (lv_at hl 1 rfl) ?_
  refine tw_Si (As := [.int x1]) F hZ h yk_X12_isTray mw_283 mw_284 (s_X12_isTray l D cy L R O f0 x1) rfl rfl hl.1 rfl (Nat.le_of_ble_eq_true rfl) ⟨Nat.le_of_ble_eq_true rfl, Nat.le_of_ble_eq_true rfl⟩ ⟨Nat.le_of_ble_eq_true rfl, Nat.le_of_ble_eq_true rfl⟩ dX12_pour_1 (fun v2 f1 H locs hp1 h => ?_)
  obtain ⟨rfl, hv2a, hv2b, hv2p0⟩ := hp1
  refine tw_if_eq (tgt := 28) F dX12_pour_4 (by decide) (fun b3 => ?_) (fun b3 => ?_)
  · refine lv_aload_n F.1 F.2.1 dX12_pour_28 rfl (lv_at hl 0 rfl) ?_
    refine tw_iconst F dX12_pour_29 ki_1 (fun z4 hz4 => ?_)
    refine tw_Vi (As := [.int z4]) F hZ h yk_X12_is mw_286 mw_287 mw_288 (s_X12_is l D cy L R O f0 a0 m_a0 r_a0 z4 ⟨by omega, by omega⟩) rfl rfl m_a0 r_a0 (fun e q => (T_12 e).mp q) rfl hl.1 rfl (Nat.le_of_ble_eq_true rfl) ⟨Nat.le_of_ble_eq_true rfl, Nat.le_of_ble_eq_true rfl⟩ ⟨Nat.le_of_ble_eq_true rfl, Nat.le_of_ble_eq_true rfl⟩ dX12_pour_30 (fun v6 f5 H locs hp5 h => ?_)
    obtain ⟨hf5, hv6a, hv6b, hv6p0⟩ := hp5
    have hk : fr L R [(12, 1)] [12, 64] f0 f5 := hk.tr hf5 rfl rfl
    exact hret f5 _ _ _ _ v6 dX12_pour_33 (tw_nb (by omega)) ⟨hk, by omega, by omega⟩ h
  · refine lv_iload_n F.1 F.2.1 dX12_pour_7 rfl (lv_at hl 3 rfl) ?_
    refine tw_Si (As := [.int x3]) F hZ h yk_X12_isTray mw_283 mw_284 (s_X12_isTray l D cy L R O f0 x3) rfl rfl hl.1 rfl (Nat.le_of_ble_eq_true rfl) ⟨Nat.le_of_ble_eq_true rfl, Nat.le_of_ble_eq_true rfl⟩ ⟨Nat.le_of_ble_eq_true rfl, Nat.le_of_ble_eq_true rfl⟩ dX12_pour_8 (fun v8 f7 H locs hp7 h => ?_)
    obtain ⟨rfl, hv8a, hv8b, hv8p0⟩ := hp7
    refine tw_if_eq (tgt := 28) F dX12_pour_11 (by decide) (fun b9 => ?_) (fun b9 => ?_)
    · refine lv_aload_n F.1 F.2.1 dX12_pour_28 rfl (lv_at hl 0 rfl) ?_
      refine tw_iconst F dX12_pour_29 ki_1 (fun z10 hz10 => ?_)
      refine tw_Vi (As := [.int z10]) F hZ h yk_X12_is mw_286 mw_287 mw_288 (s_X12_is l D cy L R O f0 a0 m_a0 r_a0 z10 ⟨by omega, by omega⟩) rfl rfl m_a0 r_a0 (fun e q => (T_12 e).mp q) rfl hl.1 rfl (Nat.le_of_ble_eq_true rfl) ⟨Nat.le_of_ble_eq_true rfl, Nat.le_of_ble_eq_true rfl⟩ ⟨Nat.le_of_ble_eq_true rfl, Nat.le_of_ble_eq_true rfl⟩ dX12_pour_30 (fun v12 f11 H locs hp11 h => ?_)
      obtain ⟨hf11, hv12a, hv12b, hv12p0⟩ := hp11
      have hk : fr L R [(12, 1)] [12, 64] f0 f11 := hk.tr hf11 rfl rfl
      exact hret f11 _ _ _ _ v12 dX12_pour_33 (tw_nb (by omega)) ⟨hk, by omega, by omega⟩ h
    · refine lv_iload_n F.1 F.2.1 dX12_pour_14 rfl (lv_at hl 2 rfl) ?_
      refine tw_if_lt (tgt := 28) F dX12_pour_15 (by decide) (fun b13 => ?_) (fun b13 => ?_)
      · refine lv_aload_n F.1 F.2.1 dX12_pour_28 rfl (lv_at hl 0 rfl) ?_
        refine tw_iconst F dX12_pour_29 ki_1 (fun z14 hz14 => ?_)
        refine tw_Vi (As := [.int z14]) F hZ h yk_X12_is mw_286 mw_287 mw_288 (s_X12_is l D cy L R O f0 a0 m_a0 r_a0 z14 ⟨by omega, by omega⟩) rfl rfl m_a0 r_a0 (fun e q => (T_12 e).mp q) rfl hl.1 rfl (Nat.le_of_ble_eq_true rfl) ⟨Nat.le_of_ble_eq_true rfl, Nat.le_of_ble_eq_true rfl⟩ ⟨Nat.le_of_ble_eq_true rfl, Nat.le_of_ble_eq_true rfl⟩ dX12_pour_30 (fun v16 f15 H locs hp15 h => ?_)
        obtain ⟨hf15, hv16a, hv16b, hv16p0⟩ := hp15
        have hk : fr L R [(12, 1)] [12, 64] f0 f15 := hk.tr hf15 rfl rfl
        exact hret f15 _ _ _ _ v16 dX12_pour_33 (tw_nb (by omega)) ⟨hk, by omega, by omega⟩ h
      · refine lv_iload F.1 F.2.1 dX12_pour_18 (lv_at hl 4 rfl) ?_
        refine tw_if_lt (tgt := 28) F dX12_pour_20 (by decide) (fun b17 => ?_) (fun b17 => ?_)
        · refine lv_aload_n F.1 F.2.1 dX12_pour_28 rfl (lv_at hl 0 rfl) ?_
          refine tw_iconst F dX12_pour_29 ki_1 (fun z18 hz18 => ?_)
          refine tw_Vi (As := [.int z18]) F hZ h yk_X12_is mw_286 mw_287 mw_288 (s_X12_is l D cy L R O f0 a0 m_a0 r_a0 z18 ⟨by omega, by omega⟩) rfl rfl m_a0 r_a0 (fun e q => (T_12 e).mp q) rfl hl.1 rfl (Nat.le_of_ble_eq_true rfl) ⟨Nat.le_of_ble_eq_true rfl, Nat.le_of_ble_eq_true rfl⟩ ⟨Nat.le_of_ble_eq_true rfl, Nat.le_of_ble_eq_true rfl⟩ dX12_pour_30 (fun v20 f19 H locs hp19 h => ?_)
          obtain ⟨hf19, hv20a, hv20b, hv20p0⟩ := hp19
          have hk : fr L R [(12, 1)] [12, 64] f0 f19 := hk.tr hf19 rfl rfl
          exact hret f19 _ _ _ _ v20 dX12_pour_33 (tw_nb (by omega)) ⟨hk, by omega, by omega⟩ h
        · refine lv_iload F.1 F.2.1 dX12_pour_23 (lv_at hl 5 rfl) ?_
          refine tw_if_ge (tgt := 34) F dX12_pour_25 (by decide) (fun b21 => ?_) (fun b21 => ?_)
          · refine lv_aload_n F.1 F.2.1 dX12_pour_34 rfl (lv_at hl 0 rfl) ?_
            refine g_12_21 F h m_a0 r_a0 dX12_pour_35 (fun o22 m_o22 r_o22 ho22 => ?_)
            refine lv_iload_n F.1 F.2.1 dX12_pour_38 rfl (lv_at hl 1 rfl) ?_
            refine ld_63 F h m_o22 r_o22 (by omega) dX12_pour_39 (fun v23 hv23a hv23b => ?_)
            refine tw_iconst F dX12_pour_40 ki_m1 (fun z24 hz24 => ?_)
            refine tw_icmp_eq (tgt := 54) F dX12_pour_41 (by decide) (fun b25 => ?_) (fun b25 => ?_)
            · refine lv_aload_n F.1 F.2.1 dX12_pour_54 rfl (lv_at hl 0 rfl) ?_
              refine tw_iconst F dX12_pour_55 ki_2 (fun z26 hz26 => ?_)
              refine tw_Vi (As := [.int z26]) F hZ h yk_X12_is mw_286 mw_287 mw_288 (s_X12_is l D cy L R O f0 a0 m_a0 r_a0 z26 ⟨by omega, by omega⟩) rfl rfl m_a0 r_a0 (fun e q => (T_12 e).mp q) rfl hl.1 rfl (Nat.le_of_ble_eq_true rfl) ⟨Nat.le_of_ble_eq_true rfl, Nat.le_of_ble_eq_true rfl⟩ ⟨Nat.le_of_ble_eq_true rfl, Nat.le_of_ble_eq_true rfl⟩ dX12_pour_56 (fun v28 f27 H locs hp27 h => ?_)
              obtain ⟨hf27, hv28a, hv28b, hv28p0⟩ := hp27
              have hk : fr L R [(12, 1)] [12, 64] f0 f27 := hk.tr hf27 rfl rfl
              exact hret f27 _ _ _ _ v28 dX12_pour_59 (tw_nb (by omega)) ⟨hk, by omega, by omega⟩ h
            · refine lv_aload_n F.1 F.2.1 dX12_pour_44 rfl (lv_at hl 0 rfl) ?_
              refine g_12_21 F h m_a0 r_a0 dX12_pour_45 (fun o29 m_o29 r_o29 ho29 => ?_)
              refine lv_iload_n F.1 F.2.1 dX12_pour_48 rfl (lv_at hl 3 rfl) ?_
              refine ld_63 F h m_o29 r_o29 (by omega) dX12_pour_49 (fun v30 hv30a hv30b => ?_)
              refine tw_iconst F dX12_pour_50 ki_m1 (fun z31 hz31 => ?_)
              refine tw_icmp_ne (tgt := 60) F dX12_pour_51 (by decide) (fun b32 => ?_) (fun b32 => ?_)
              · refine lv_aload_n F.1 F.2.1 dX12_pour_60 rfl (lv_at hl 0 rfl) ?_
                refine g_12_17 F h m_a0 r_a0 dX12_pour_61 (fun o33 m_o33 r_o33 ho33 => ?_)
                refine lv_iload_n F.1 F.2.1 dX12_pour_64 rfl (lv_at hl 1 rfl) ?_
                refine ld_62 F h m_o33 r_o33 (by omega) dX12_pour_65 (fun v34 => ?_)
                refine lv_aload_n F.1 F.2.1 dX12_pour_66 rfl (lv_at hl 0 rfl) ?_
                refine g_12_17 F h m_a0 r_a0 dX12_pour_67 (fun o35 m_o35 r_o35 ho35 => ?_)
                refine lv_iload_n F.1 F.2.1 dX12_pour_70 rfl (lv_at hl 3 rfl) ?_
                refine ld_62 F h m_o35 r_o35 (by omega) dX12_pour_71 (fun v36 => ?_)
                refine tw_icmp_eq (tgt := 82) F dX12_pour_72 (by decide) (fun b37 => ?_) (fun b37 => ?_)
                · refine lv_iload F.1 F.2.1 dX12_pour_82 (lv_at hl 5 rfl) ?_
                  refine lv_aload_n F.1 F.2.1 dX12_pour_84 rfl (lv_at hl 0 rfl) ?_
                  refine g_12_21 F h m_a0 r_a0 dX12_pour_85 (fun o38 m_o38 r_o38 ho38 => ?_)
                  refine lv_iload_n F.1 F.2.1 dX12_pour_88 rfl (lv_at hl 1 rfl) ?_
                  refine ld_63 F h m_o38 r_o38 (by omega) dX12_pour_89 (fun v39 hv39a hv39b => ?_)
                  refine lv_iload_n F.1 F.2.1 dX12_pour_90 rfl (lv_at hl 2 rfl) ?_
                  refine tu_isub F dX12_pour_91 (by omega) (fun z40 hz40 => ?_)
                  refine tw_icmp_gt (tgt := 109) F dX12_pour_92 (by decide) (fun b41 => ?_) (fun b41 => ?_)
                  · refine lv_aload_n F.1 F.2.1 dX12_pour_109 rfl (lv_at hl 0 rfl) ?_
                    refine tw_iconst F dX12_pour_110 ki_3 (fun z42 hz42 => ?_)
                    refine tw_Vi (As := [.int z42]) F hZ h yk_X12_is mw_286 mw_287 mw_288 (s_X12_is l D cy L R O f0 a0 m_a0 r_a0 z42 ⟨by omega, by omega⟩) rfl rfl m_a0 r_a0 (fun e q => (T_12 e).mp q) rfl hl.1 rfl (Nat.le_of_ble_eq_true rfl) ⟨Nat.le_of_ble_eq_true rfl, Nat.le_of_ble_eq_true rfl⟩ ⟨Nat.le_of_ble_eq_true rfl, Nat.le_of_ble_eq_true rfl⟩ dX12_pour_111 (fun v44 f43 H locs hp43 h => ?_)
                    obtain ⟨hf43, hv44a, hv44b, hv44p0⟩ := hp43
                    have hk : fr L R [(12, 1)] [12, 64] f0 f43 := hk.tr hf43 rfl rfl
                    exact hret f43 _ _ _ _ v44 dX12_pour_114 (tw_nb (by omega)) ⟨hk, by omega, by omega⟩ h
                  · refine lv_iload F.1 F.2.1 dX12_pour_95 (lv_at hl 5 rfl) ?_
                    refine lv_aload_n F.1 F.2.1 dX12_pour_97 rfl (lv_at hl 0 rfl) ?_
                    refine g_12_21 F h m_a0 r_a0 dX12_pour_98 (fun o45 m_o45 r_o45 ho45 => ?_)
                    refine lv_iload_n F.1 F.2.1 dX12_pour_101 rfl (lv_at hl 3 rfl) ?_
                    refine ld_63 F h m_o45 r_o45 (by omega) dX12_pour_102 (fun v46 hv46a hv46b => ?_)
                    refine lv_iload F.1 F.2.1 dX12_pour_103 (lv_at hl 4 rfl) ?_
                    refine tu_isub F dX12_pour_105 (by omega) (fun z47 hz47 => ?_)
                    refine tw_icmp_le (tgt := 115) F dX12_pour_106 (by decide) (fun b48 => ?_) (fun b48 => ?_)
                    · refine tw_iconst F dX12_pour_115 ki_0 (fun z49 hz49 => ?_)
                      refine lv_istore (lv' := [(6, .int z49), (0, .ref a0), (1, .int x1), (2, .int x2), (3, .int x3), (4, .int x4), (5, .int x5)]) F.1 F.2.1 dX12_pour_116 hl (by decide) rfl (fun ls hl => ?_)
                      have j_118 : ∀ (n118 : Nat) (f50 : Nat → va_E) (H : Heap) (locs : List Loc) (ls : Array Slot) (x6_118 : Int32), 0 ≤ x6_118.toInt → x6_118.toInt ≤ 60 → 0 ≤ x6_118.toInt → ((60 - x6_118.toInt)).toNat < n118 → tS D cy A s.heap L R (TT cy L R) f50 s H locs → fr L R [(12, 1)] [12, 64] f0 f50 → lv_has ls 8 [(0, .ref a0), (1, .int x1), (2, .int x2), (3, .int x3), (4, .int x4), (5, .int x5), (6, .int x6_118)] → W p l e rm_X12_pour s m args below meth c H locs 0 0 Q (F0 m 118 ls []) := by
                        intro n118
                        induction n118 with
                        | zero =>
                          intro f50 H locs ls x6_118 b51 b52 b53 b54 h hk hl
                          exfalso
                          omega
                        | succ n118 ih118 =>
                          intro f50 H locs ls x6_118 b51 b52 b53 b54 h hk hl
                          refine lv_iload F.1 F.2.1 dX12_pour_118 (lv_at hl 6 rfl) ?_
                          refine lv_iload F.1 F.2.1 dX12_pour_120 (lv_at hl 5 rfl) ?_
                          refine tw_icmp_ge (tgt := 180) F dX12_pour_122 (by decide) (fun b55 => ?_) (fun b55 => ?_)
                          · refine lv_aload_n F.1 F.2.1 dX12_pour_180 rfl (lv_at hl 0 rfl) ?_
                            refine tw_iconst F dX12_pour_181 ki_0 (fun z56 hz56 => ?_)
                            refine tw_Vi (As := [.int z56]) F hZ h yk_X12_is mw_286 mw_287 mw_288 (s_X12_is l D cy L R O f50 a0 m_a0 r_a0 z56 ⟨by omega, by omega⟩) rfl rfl m_a0 r_a0 (fun e q => (T_12 e).mp q) rfl hl.1 rfl (Nat.le_of_ble_eq_true rfl) ⟨Nat.le_of_ble_eq_true rfl, Nat.le_of_ble_eq_true rfl⟩ ⟨Nat.le_of_ble_eq_true rfl, Nat.le_of_ble_eq_true rfl⟩ dX12_pour_182 (fun v58 f57 H locs hp57 h => ?_)
                            obtain ⟨hf57, hv58a, hv58b, hv58p0⟩ := hp57
                            have hk : fr L R [(12, 1)] [12, 64] f0 f57 := hk.tr hf57 rfl rfl
                            exact hret f57 _ _ _ _ v58 dX12_pour_185 (tw_nb (by omega)) ⟨hk, by omega, by omega⟩ h
                          · refine lv_iload_n F.1 F.2.1 dX12_pour_125 rfl (lv_at hl 2 rfl) ?_
                            refine lv_iload F.1 F.2.1 dX12_pour_126 (lv_at hl 4 rfl) ?_
                            have j_143 : ∀ (ls : Array Slot) (y0_143 : Int32), (-59) ≤ y0_143.toInt → y0_143.toInt ≤ 59 → 0 ≤ y0_143.toInt → y0_143.toInt < x5.toInt → lv_has ls 8 [(0, .ref a0), (1, .int x1), (2, .int x2), (3, .int x3), (4, .int x4), (5, .int x5), (6, .int x6_118)] → W p l e rm_X12_pour s m args below meth c H locs 0 0 Q (F0 m 143 ls [.int y0_143]) := by
                              intro ls y0_143 b59 b60 b61 b62 hl
                              refine lv_istore (lv' := [(7, .int y0_143), (0, .ref a0), (1, .int x1), (2, .int x2), (3, .int x3), (4, .int x4), (5, .int x5), (6, .int x6_118)]) F.1 F.2.1 dX12_pour_143 hl (by decide) rfl (fun ls hl => ?_)
                              refine lv_aload_n F.1 F.2.1 dX12_pour_145 rfl (lv_at hl 1 rfl) ?_
                              refine g_12_24 F h m_a0 r_a0 dX12_pour_146 (fun o63 m_o63 r_o63 ho63 => ?_)
                              refine tw_bipush F dX12_pour_149 kb_60 (fun z64 hz64 => ?_)
                              refine lv_iload_n F.1 F.2.1 dX12_pour_151 rfl (lv_at hl 4 rfl) ?_
                              refine tu_imull F dX12_pour_152 hz64 (by omega) (fun z65 hz65 => ?_)
                              refine lv_iload F.1 F.2.1 dX12_pour_153 (lv_at hl 5 rfl) ?_
                              refine tu_iadd F dX12_pour_155 (by omega) (fun z66 hz66 => ?_)
                              refine lv_iload F.1 F.2.1 dX12_pour_156 (lv_at hl 0 rfl) ?_
                              refine tu_iadd F dX12_pour_158 (by omega) (fun z67 hz67 => ?_)
                              refine lv_aload_n F.1 F.2.1 dX12_pour_159 rfl (lv_at hl 1 rfl) ?_
                              refine g_12_24 F h m_a0 r_a0 dX12_pour_160 (fun o68 m_o68 r_o68 ho68 => ?_)
                              refine tw_bipush F dX12_pour_163 kb_60 (fun z69 hz69 => ?_)
                              refine lv_iload_n F.1 F.2.1 dX12_pour_165 rfl (lv_at hl 2 rfl) ?_
                              refine tu_imull F dX12_pour_166 hz69 (by omega) (fun z70 hz70 => ?_)
                              refine lv_iload_n F.1 F.2.1 dX12_pour_167 rfl (lv_at hl 3 rfl) ?_
                              refine tu_iadd F dX12_pour_168 (by omega) (fun z71 hz71 => ?_)
                              refine lv_iload F.1 F.2.1 dX12_pour_169 (lv_at hl 0 rfl) ?_
                              refine tu_iadd F dX12_pour_171 (by omega) (fun z72 hz72 => ?_)
                              refine ld_64 F h m_o68 r_o68 (by omega) dX12_pour_172 (fun v73 => ?_)
                              refine st_64 F h m_o63 r_o63 (by omega) dX12_pour_173 (fun f74 H locs hf74 h => ?_)
                              have hk : fr L R [(12, 1)] [12, 64] f0 f74 := hk.tr hf74 rfl rfl
                              refine tu_iinc F dX12_pour_174 hl (k := 7) rfl (by decide) ki_1 (by omega) (fun z75 ls hz75 hl => ?_)
                              have hl : lv_has ls 8 [(6, .int z75), (7, .int y0_143), (0, .ref a0), (1, .int x1), (2, .int x2), (3, .int x3), (4, .int x4), (5, .int x5)] := hl
                              refine lv_goto (tgt := 118) F.1 F.2.1 dX12_pour_177 (by decide) ?_
                              exact ih118 f74 _ _ _ z75 (by omega) (by omega) (by omega) (by omega) h hk (lv_sub hl [2, 3, 4, 5, 6, 7, 0] rfl)
                            refine tw_icmp_ge (tgt := 141) F dX12_pour_128 (by decide) (fun b76 => ?_) (fun b76 => ?_)
                            · refine lv_iload F.1 F.2.1 dX12_pour_141 (lv_at hl 6 rfl) ?_
                              exact j_143 _ x6_118 (by omega) (by omega) (by omega) (by omega) (lv_sub hl [0, 1, 2, 3, 4, 5, 6] rfl)
                            · refine lv_iload F.1 F.2.1 dX12_pour_131 (lv_at hl 5 rfl) ?_
                              refine tw_iconst F dX12_pour_133 ki_1 (fun z77 hz77 => ?_)
                              refine tu_isub F dX12_pour_134 (by omega) (fun z78 hz78 => ?_)
                              refine lv_iload F.1 F.2.1 dX12_pour_135 (lv_at hl 6 rfl) ?_
                              refine tu_isub F dX12_pour_137 (by omega) (fun z79 hz79 => ?_)
                              refine lv_goto (tgt := 143) F.1 F.2.1 dX12_pour_138 (by decide) ?_
                              exact j_143 _ z79 (by omega) (by omega) (by omega) (by omega) (lv_sub hl [0, 1, 2, 3, 4, 5, 6] rfl)
                      exact j_118 (((60 - z49.toInt)).toNat + 1) f0 _ _ _ z49 (by omega) (by omega) (by omega) (by omega) h hk (lv_sub hl [1, 2, 3, 4, 5, 6, 0] rfl)
                    · refine lv_aload_n F.1 F.2.1 dX12_pour_109 rfl (lv_at hl 0 rfl) ?_
                      refine tw_iconst F dX12_pour_110 ki_3 (fun z80 hz80 => ?_)
                      refine tw_Vi (As := [.int z80]) F hZ h yk_X12_is mw_286 mw_287 mw_288 (s_X12_is l D cy L R O f0 a0 m_a0 r_a0 z80 ⟨by omega, by omega⟩) rfl rfl m_a0 r_a0 (fun e q => (T_12 e).mp q) rfl hl.1 rfl (Nat.le_of_ble_eq_true rfl) ⟨Nat.le_of_ble_eq_true rfl, Nat.le_of_ble_eq_true rfl⟩ ⟨Nat.le_of_ble_eq_true rfl, Nat.le_of_ble_eq_true rfl⟩ dX12_pour_111 (fun v82 f81 H locs hp81 h => ?_)
                      obtain ⟨hf81, hv82a, hv82b, hv82p0⟩ := hp81
                      have hk : fr L R [(12, 1)] [12, 64] f0 f81 := hk.tr hf81 rfl rfl
                      exact hret f81 _ _ _ _ v82 dX12_pour_114 (tw_nb (by omega)) ⟨hk, by omega, by omega⟩ h
                · refine lv_aload_n F.1 F.2.1 dX12_pour_75 rfl (lv_at hl 0 rfl) ?_
                  refine tw_bipush F dX12_pour_76 kb_8 (fun z83 hz83 => ?_)
                  refine tw_Vi (As := [.int z83]) F hZ h yk_X12_is mw_286 mw_287 mw_288 (s_X12_is l D cy L R O f0 a0 m_a0 r_a0 z83 ⟨by omega, by omega⟩) rfl rfl m_a0 r_a0 (fun e q => (T_12 e).mp q) rfl hl.1 rfl (Nat.le_of_ble_eq_true rfl) ⟨Nat.le_of_ble_eq_true rfl, Nat.le_of_ble_eq_true rfl⟩ ⟨Nat.le_of_ble_eq_true rfl, Nat.le_of_ble_eq_true rfl⟩ dX12_pour_78 (fun v85 f84 H locs hp84 h => ?_)
                  obtain ⟨hf84, hv85a, hv85b, hv85p0⟩ := hp84
                  have hk : fr L R [(12, 1)] [12, 64] f0 f84 := hk.tr hf84 rfl rfl
                  exact hret f84 _ _ _ _ v85 dX12_pour_81 (tw_nb (by omega)) ⟨hk, by omega, by omega⟩ h
              · refine lv_aload_n F.1 F.2.1 dX12_pour_54 rfl (lv_at hl 0 rfl) ?_
                refine tw_iconst F dX12_pour_55 ki_2 (fun z86 hz86 => ?_)
                refine tw_Vi (As := [.int z86]) F hZ h yk_X12_is mw_286 mw_287 mw_288 (s_X12_is l D cy L R O f0 a0 m_a0 r_a0 z86 ⟨by omega, by omega⟩) rfl rfl m_a0 r_a0 (fun e q => (T_12 e).mp q) rfl hl.1 rfl (Nat.le_of_ble_eq_true rfl) ⟨Nat.le_of_ble_eq_true rfl, Nat.le_of_ble_eq_true rfl⟩ ⟨Nat.le_of_ble_eq_true rfl, Nat.le_of_ble_eq_true rfl⟩ dX12_pour_56 (fun v88 f87 H locs hp87 h => ?_)
                obtain ⟨hf87, hv88a, hv88b, hv88p0⟩ := hp87
                have hk : fr L R [(12, 1)] [12, 64] f0 f87 := hk.tr hf87 rfl rfl
                exact hret f87 _ _ _ _ v88 dX12_pour_59 (tw_nb (by omega)) ⟨hk, by omega, by omega⟩ h
          · refine lv_aload_n F.1 F.2.1 dX12_pour_28 rfl (lv_at hl 0 rfl) ?_
            refine tw_iconst F dX12_pour_29 ki_1 (fun z89 hz89 => ?_)
            refine tw_Vi (As := [.int z89]) F hZ h yk_X12_is mw_286 mw_287 mw_288 (s_X12_is l D cy L R O f0 a0 m_a0 r_a0 z89 ⟨by omega, by omega⟩) rfl rfl m_a0 r_a0 (fun e q => (T_12 e).mp q) rfl hl.1 rfl (Nat.le_of_ble_eq_true rfl) ⟨Nat.le_of_ble_eq_true rfl, Nat.le_of_ble_eq_true rfl⟩ ⟨Nat.le_of_ble_eq_true rfl, Nat.le_of_ble_eq_true rfl⟩ dX12_pour_30 (fun v91 f90 H locs hp90 h => ?_)
            obtain ⟨hf90, hv91a, hv91b, hv91p0⟩ := hp90
            have hk : fr L R [(12, 1)] [12, 64] f0 f90 := hk.tr hf90 rfl rfl
            exact hret f90 _ _ _ _ v91 dX12_pour_33 (tw_nb (by omega)) ⟨hk, by omega, by omega⟩ h
