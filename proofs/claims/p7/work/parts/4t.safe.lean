theorem dX12_whose_0 : decode cX12_whose 0 = .ok (.aload_n 0, 1) := by decide +kernel
theorem dX12_whose_1 : decode cX12_whose 1 = .ok (.getfield 7, 3) := by decide +kernel
theorem dX12_whose_4 : decode cX12_whose 4 = .ok (.iload_n 1, 1) := by decide +kernel
theorem dX12_whose_5 : decode cX12_whose 5 = .ok (.laload, 1) := by decide +kernel
theorem dX12_whose_6 : decode cX12_whose 6 = .ok (.l2i, 1) := by decide +kernel
theorem dX12_whose_7 : decode cX12_whose 7 = .ok (.istore_n 3, 1) := by decide +kernel
theorem dX12_whose_8 : decode cX12_whose 8 = .ok (.aload_n 0, 1) := by decide +kernel
theorem dX12_whose_9 : decode cX12_whose 9 = .ok (.getfield 7, 3) := by decide +kernel
theorem dX12_whose_12 : decode cX12_whose 12 = .ok (.iload_n 1, 1) := by decide +kernel
theorem dX12_whose_13 : decode cX12_whose 13 = .ok (.iload_n 3, 1) := by decide +kernel
theorem dX12_whose_14 : decode cX12_whose 14 = .ok (.iconst 1, 1) := by decide +kernel
theorem dX12_whose_15 : decode cX12_whose 15 = .ok (.iadd, 1) := by decide +kernel
theorem dX12_whose_16 : decode cX12_whose 16 = .ok (.iload_n 2, 1) := by decide +kernel
theorem dX12_whose_17 : decode cX12_whose 17 = .ok (.irem, 1) := by decide +kernel
theorem dX12_whose_18 : decode cX12_whose 18 = .ok (.i2l, 1) := by decide +kernel
theorem dX12_whose_19 : decode cX12_whose 19 = .ok (.lastore, 1) := by decide +kernel
section
variable {p : Program} {l : Launch} {e : Env} {R0 : Room} {s : State} {m : MethodId} {args : Array Value} {below : List Frame} {meth : Method} {c : Code} {H H0 : Heap} {locs : List Loc} {cells slots : Nat} {Q : State → Prop} {cc : ByteArray} {nL : Nat} {D : va_G} {cy : Nat → ClassId} {A : Nat → Prop} {L : List Nat} {R : Nat → Nat} {f : Nat → va_E} {pc : Nat} {ls : Array Slot} {rest : List Value} {a : Nat}
theorem se_61 {own : String} (F : CallFix p m c cc nL s args wsL_law own) (h : tS D cy A H0 L R (TT cy L R) f s H locs) {i : Int32} {x : Int64} (ha : a ∈ L) (hr : R a = 61) (hb : 0 ≤ i.toInt ∧ i.toInt < 25710) (hv : atP i.toInt.toNat x.toInt) (hdg : decode cc pc = .ok (.lastore, 1)) (kk : ∀ (f1 : Nat → va_E) (H1 : Heap) (locs1 : List Loc), (∀ j, elj f1 a j = if j = i.toInt.toNat then x.toInt else elj f a j) → (∀ a', a' ≠ a → f1 a' = f a') → fr L R [] [61] f f1 → tS D cy A H0 L R (TT cy L R) f1 s H1 locs1 → W p l e R0 s m args below meth c H1 locs1 cells slots Q (F0 m (pc + 1) ls (rest))) : W p l e R0 s m args below meth c H locs cells slots Q (F0 m pc ls (.long x :: .int i :: .ref a :: rest)) := tu_last F h ha hr T_61 hb.1 hb.2 hv hdg (fun f1 H1 locs1 h1 h2 h3 h4 => kk f1 H1 locs1 h1 h2 h3 h4)
end
theorem dX12_whose_20 : decode cX12_whose 20 = .ok (.iload_n 3, 1) := by decide +kernel
theorem dX12_whose_21 : decode cX12_whose 21 = .ok (.ireturn, 1) := by decide +kernel
def rm_X12_whose : Room := { frames := 0, cells := 0, slots := 0, locals := 0 }
set_option maxHeartbeats 4000000 in
set_option maxRecDepth 100000 in
theorem s_X12_whose (l : Launch) (D : va_G) (cy : Nat → ClassId) (L : List Nat) (R O : Nat → Nat) (f0 : Nat → va_E) (a0 : Nat) (m_a0 : a0 ∈ L) (r_a0 : R a0 = 12) (x1 : Int32) (b1 : 1542 ≤ x1.toInt ∧ x1.toInt ≤ 25626) (x2 : Int32) (b2 : 1 ≤ x2.toInt ∧ x2.toInt ≤ 4) (GA : Nat) (m_GA : GA ∈ L) (r_GA : R GA = 61) (t_GA : fld f0 a0 0 = .ref GA) (GP : Nat) (m_GP : GP ∈ L) (r_GP : R GP = 69) (t_GP : fld f0 a0 22 = .ref GP) (GL : Nat) (m_GL : GL ∈ L) (r_GL : R GL = 70) (t_GL : fld f0 a0 23 = .ref GL) (GT : Nat) (m_GT : GT ∈ L) (r_GT : R GT = 64) (t_GT : fld f0 a0 6 = .ref GT) (pre0 : acl x1.toInt.toNat = 8) : ∀ sz, Met l yX12_whose (Cond.code yX12_whose cX12_whose 4 (some .int) :: wsL_law) rm_X12_whose (va_Pc [.ref a0, .int x1, .int x2] (tPZ D cy L R (TT cy L R) f0 sz)) (va_Qi (fun (r : Int32) f1 => fr L R [] [61] f0 f1 ∧ 0 ≤ r.toInt ∧ r.toInt ≤ 3 ∧ KW (x1.toInt.toNat) (x1.toInt.toNat + 1) GA f0 f1) (tB D (tA L sz) L R (TT cy L R)) (tA L sz)) 0 0 (tA L sz) := by
  refine tw_enteri (by decide +kernel) rfl (Nat.le_of_ble_eq_true rfl) ?_
  intro p e s m below meth c A ls args Q F hZ h hl hret
  have hl : lv_has ls 4 [(0, .ref a0), (1, .int x1), (2, .int x2)] := hl
  have hk : fr L R [] [61] f0 f0 := fr.rf
  have hA : KW (x1.toInt.toNat) (x1.toInt.toNat + 1) GA f0 f0 := KW.rf
  have hN := pre0
  refine lv_aload_n F.1 F.2.1 dX12_whose_0 rfl (lv_at hl 0 rfl) ?_
  refine g_12_7 F h m_a0 r_a0 dX12_whose_1 (fun o1 m_o1 r_o1 ho1 => ?_)
  obtain rfl := (fld_inj t_GA ho1).symm
  refine lv_iload_n F.1 F.2.1 dX12_whose_4 rfl (lv_at hl 1 rfl) ?_
  refine ld_61 F h m_GA r_GA (by omega) dX12_whose_5 (fun v2 hv2a => ?_)
  have hv2b := clP_8.mp (atb hv2a (hN))
  refine tw_l2i F dX12_whose_6 (by omega) (by omega) (fun z3 hz3 => ?_)
  refine lv_istore_n (lv' := [(3, .int z3), (0, .ref a0), (1, .int x1), (2, .int x2)]) F.1 F.2.1 dX12_whose_7 rfl hl (by decide) rfl (fun ls hl => ?_)
  refine lv_aload_n F.1 F.2.1 dX12_whose_8 rfl (lv_at hl 1 rfl) ?_
  refine g_12_7 F h m_a0 r_a0 dX12_whose_9 (fun o4 m_o4 r_o4 ho4 => ?_)
  obtain rfl := (fld_inj t_GA ho4).symm
  refine lv_iload_n F.1 F.2.1 dX12_whose_12 rfl (lv_at hl 2 rfl) ?_
  refine lv_iload_n F.1 F.2.1 dX12_whose_13 rfl (lv_at hl 0 rfl) ?_
  refine tw_iconst F dX12_whose_14 ki_1 (fun z5 hz5 => ?_)
  refine tu_iadd F dX12_whose_15 (by omega) (fun z6 hz6 => ?_)
  refine lv_iload_n F.1 F.2.1 dX12_whose_16 rfl (lv_at hl 3 rfl) ?_
  refine tu_irem F dX12_whose_17 (by omega) (fun z7 hz7a hz7b => ?_)
  refine tw_i2l F dX12_whose_18 (fun z8 hz8 => ?_)
  refine se_61 F h m_GA r_GA (by omega) (atS (hN) (clP_8.mpr (by omega))) dX12_whose_19 (fun f9 H locs e9a e9b hf9 h => ?_)
  have hA : KW (x1.toInt.toNat) (x1.toInt.toNat + 1) GA f0 f9 := hA.st e9a (by omega)
  have hk : fr L R [] [61] f0 f9 := hk.tr hf9 rfl rfl
  have e10 : fld f9 a0 0 = .ref GA := (hf9.efl m_a0 r_a0 rfl).trans t_GA
  have e11 : fld f9 a0 22 = .ref GP := (hf9.efl m_a0 r_a0 rfl).trans t_GP
  have e12 : fld f9 a0 23 = .ref GL := (hf9.efl m_a0 r_a0 rfl).trans t_GL
  have e13 : fld f9 a0 6 = .ref GT := (hf9.efl m_a0 r_a0 rfl).trans t_GT
  refine lv_iload_n F.1 F.2.1 dX12_whose_20 rfl (lv_at hl 0 rfl) ?_
  exact hret f9 _ _ _ _ z3 dX12_whose_21 rfl ⟨hk, by omega, by omega, hA⟩ h
theorem dX12_forgets_0 : decode cX12_forgets 0 = .ok (.aload_n 0, 1) := by decide +kernel
theorem dX12_forgets_1 : decode cX12_forgets 1 = .ok (.getfield 7, 3) := by decide +kernel
theorem dX12_forgets_4 : decode cX12_forgets 4 = .ok (.iload_n 1, 1) := by decide +kernel
theorem dX12_forgets_5 : decode cX12_forgets 5 = .ok (.sipush 1567, 3) := by decide +kernel
theorem dX12_forgets_8 : decode cX12_forgets 8 = .ok (.iadd, 1) := by decide +kernel
theorem dX12_forgets_9 : decode cX12_forgets 9 = .ok (.dup2, 1) := by decide +kernel
theorem dX12_forgets_10 : decode cX12_forgets 10 = .ok (.laload, 1) := by decide +kernel
section
variable {p : Program} {l : Launch} {e : Env} {R0 : Room} {s : State} {m : MethodId} {args : Array Value} {below : List Frame} {meth : Method} {c : Code} {H H0 : Heap} {locs : List Loc} {cells slots : Nat} {Q : State → Prop} {cc : ByteArray} {nL : Nat} {D : va_G} {cy : Nat → ClassId} {A : Nat → Prop} {L : List Nat} {R : Nat → Nat} {f : Nat → va_E} {pc : Nat} {ls : Array Slot} {rest : List Value} {a : Nat}
theorem le_61 {own : String} (F : CallFix p m c cc nL s args wsL_law own) (h : tS D cy A H0 L R (TT cy L R) f s H locs) {i : Int32} (ha : a ∈ L) (hr : R a = 61) (hb : 0 ≤ i.toInt ∧ i.toInt < 25710) (hdg : decode cc pc = .ok (.laload, 1)) (kk : ∀ x : Int64, x.toInt = elj f a i.toInt.toNat → atP i.toInt.toNat x.toInt → W p l e R0 s m args below meth c H locs cells slots Q (F0 m (pc + 1) ls (.long x :: rest))) : W p l e R0 s m args below meth c H locs cells slots Q (F0 m pc ls (.int i :: .ref a :: rest)) := tu_lald F h ha hr (fun e q => (T_61 e).mp q) hb.1 hb.2 hdg (fun x h1 h2 => kk x h2 h1)
end
theorem dX12_forgets_11 : decode cX12_forgets 11 = .ok (.lconst 1, 1) := by decide +kernel
theorem dX12_forgets_12 : decode cX12_forgets 12 = .ok (.lsub, 1) := by decide +kernel
theorem dX12_forgets_13 : decode cX12_forgets 13 = .ok (.lastore, 1) := by decide +kernel
theorem dX12_forgets_14 : decode cX12_forgets 14 = .ok (.iconst 0, 1) := by decide +kernel
theorem dX12_forgets_15 : decode cX12_forgets 15 = .ok (.istore_n 2, 1) := by decide +kernel
theorem dX12_forgets_16 : decode cX12_forgets 16 = .ok (.iload_n 2, 1) := by decide +kernel
theorem dX12_forgets_17 : decode cX12_forgets 17 = .ok (.i2l, 1) := by decide +kernel
theorem dX12_forgets_18 : decode cX12_forgets 18 = .ok (.ldc2_w 346, 3) := by decide +kernel
theorem mw_1090 : Cond.constantLong RX12 346 (13) ∈ wsL_law := inr_46 _ (List.mem_of_getElem? (i := 10) rfl)
theorem kl_13 : (13 : Int64).toInt = 13 := by decide +kernel
theorem dX12_forgets_21 : decode cX12_forgets 21 = .ok (.aload_n 0, 1) := by decide +kernel
theorem dX12_forgets_22 : decode cX12_forgets 22 = .ok (.getfield 7, 3) := by decide +kernel
theorem dX12_forgets_25 : decode cX12_forgets 25 = .ok (.iload_n 1, 1) := by decide +kernel
theorem dX12_forgets_26 : decode cX12_forgets 26 = .ok (.sipush 1567, 3) := by decide +kernel
theorem dX12_forgets_29 : decode cX12_forgets 29 = .ok (.iadd, 1) := by decide +kernel
theorem dX12_forgets_30 : decode cX12_forgets 30 = .ok (.laload, 1) := by decide +kernel
theorem dX12_forgets_31 : decode cX12_forgets 31 = .ok (.lmul, 1) := by decide +kernel
theorem dX12_forgets_32 : decode cX12_forgets 32 = .ok (.lcmp, 1) := by decide +kernel
theorem dX12_forgets_33 : decode cX12_forgets 33 = .ok (.ifCond .ge 36, 3) := by decide +kernel
theorem dX12_forgets_69 : decode cX12_forgets 69 = .ok (.return_, 1) := by decide +kernel
theorem dX12_forgets_36 : decode cX12_forgets 36 = .ok (.aload_n 0, 1) := by decide +kernel
theorem dX12_forgets_37 : decode cX12_forgets 37 = .ok (.getfield 7, 3) := by decide +kernel
theorem dX12_forgets_40 : decode cX12_forgets 40 = .ok (.iload_n 1, 1) := by decide +kernel
theorem dX12_forgets_41 : decode cX12_forgets 41 = .ok (.sipush 1568, 3) := by decide +kernel
theorem dX12_forgets_44 : decode cX12_forgets 44 = .ok (.iadd, 1) := by decide +kernel
theorem dX12_forgets_45 : decode cX12_forgets 45 = .ok (.iload_n 2, 1) := by decide +kernel
theorem dX12_forgets_46 : decode cX12_forgets 46 = .ok (.iadd, 1) := by decide +kernel
theorem dX12_forgets_47 : decode cX12_forgets 47 = .ok (.aload_n 0, 1) := by decide +kernel
theorem dX12_forgets_48 : decode cX12_forgets 48 = .ok (.getfield 7, 3) := by decide +kernel
theorem dX12_forgets_51 : decode cX12_forgets 51 = .ok (.iload_n 1, 1) := by decide +kernel
theorem dX12_forgets_52 : decode cX12_forgets 52 = .ok (.sipush 1568, 3) := by decide +kernel
theorem dX12_forgets_55 : decode cX12_forgets 55 = .ok (.iadd, 1) := by decide +kernel
theorem dX12_forgets_56 : decode cX12_forgets 56 = .ok (.bipush 13, 2) := by decide +kernel
theorem dX12_forgets_58 : decode cX12_forgets 58 = .ok (.iadd, 1) := by decide +kernel
theorem dX12_forgets_59 : decode cX12_forgets 59 = .ok (.iload_n 2, 1) := by decide +kernel
theorem dX12_forgets_60 : decode cX12_forgets 60 = .ok (.iadd, 1) := by decide +kernel
theorem dX12_forgets_61 : decode cX12_forgets 61 = .ok (.laload, 1) := by decide +kernel
theorem dX12_forgets_62 : decode cX12_forgets 62 = .ok (.lastore, 1) := by decide +kernel
theorem dX12_forgets_63 : decode cX12_forgets 63 = .ok (.iinc 2 1, 3) := by decide +kernel
theorem dX12_forgets_66 : decode cX12_forgets 66 = .ok (.goto (-50), 3) := by decide +kernel
def rm_X12_forgets : Room := { frames := 0, cells := 0, slots := 0, locals := 0 }
set_option maxHeartbeats 4000000 in
set_option maxRecDepth 100000 in
theorem s_X12_forgets (l : Launch) (D : va_G) (cy : Nat → ClassId) (L : List Nat) (R O : Nat → Nat) (f0 : Nat → va_E) (a0 : Nat) (m_a0 : a0 ∈ L) (r_a0 : R a0 = 12) (x1 : Int32) (b1 : 0 ≤ x1.toInt ∧ x1.toInt ≤ 24060) (GA : Nat) (m_GA : GA ∈ L) (r_GA : R GA = 61) (t_GA : fld f0 a0 0 = .ref GA) (GP : Nat) (m_GP : GP ∈ L) (r_GP : R GP = 69) (t_GP : fld f0 a0 22 = .ref GP) (GL : Nat) (m_GL : GL ∈ L) (r_GL : R GL = 70) (t_GL : fld f0 a0 23 = .ref GL) (GT : Nat) (m_GT : GT ∈ L) (r_GT : R GT = 64) (t_GT : fld f0 a0 6 = .ref GT) (pre0 : isB x1.toInt.toNat) (pre1 : 1 ≤ elj f0 GA (x1.toInt.toNat + 1567)) : ∀ sz, Met l yX12_forgets (Cond.code yX12_forgets cX12_forgets 3 none :: wsL_law) rm_X12_forgets (va_Pc [.ref a0, .int x1] (tPZ D cy L R (TT cy L R) f0 sz)) (va_Qv (fun f1 => fr L R [] [61] f0 f1 ∧ KW (x1.toInt.toNat + 1567) (x1.toInt.toNat + 1646) GA f0 f1 ∧ elj f1 GA (x1.toInt.toNat + 1567) ≤ 5) (tB D (tA L sz) L R (TT cy L R)) (tA L sz)) 0 0 (tA L sz) := by
  refine tw_enterv (by decide +kernel) rfl (Nat.le_of_ble_eq_true rfl) ?_
  intro p e s m below meth c A ls args Q F hZ h hl hret
  have hl : lv_has ls 3 [(0, .ref a0), (1, .int x1)] := hl
  have hk : fr L R [] [61] f0 f0 := fr.rf
  have hB := pre0
  have hA : KW (x1.toInt.toNat + 1567) (x1.toInt.toNat + 1646) GA f0 f0 := KW.rf
  refine lv_aload_n F.1 F.2.1 dX12_forgets_0 rfl (lv_at hl 0 rfl) ?_
  refine g_12_7 F h m_a0 r_a0 dX12_forgets_1 (fun o1 m_o1 r_o1 ho1 => ?_)
  obtain rfl := (fld_inj t_GA ho1).symm
  refine lv_iload_n F.1 F.2.1 dX12_forgets_4 rfl (lv_at hl 1 rfl) ?_
  refine tw_sipush F dX12_forgets_5 ks_1567 (fun z2 hz2 => ?_)
  refine tu_iadd F dX12_forgets_8 (by omega) (fun z3 hz3 => ?_)
  refine lv_dup2_11 F.1 F.2.1 dX12_forgets_9 rfl rfl ?_
  refine le_61 F h m_GA r_GA (by omega) dX12_forgets_10 (fun v4 ev4 hv4a => ?_)
  have hv4b := clP_9.mp (atb hv4a (ac_c (b := x1.toInt.toNat) 1567 hB (by decide) (by omega) rfl))
  have u10 : v4.toInt = elj f0 GA (x1.toInt.toNat + 1567) := by rw [ev4, show z3.toInt.toNat = x1.toInt.toNat + 1567 by omega]
  refine tu_lconst F dX12_forgets_11 (by decide) (fun z5 (hz5 : z5.toInt = 1) => ?_)
  refine tu_lsub F dX12_forgets_12 (by omega) (fun z6 hz6 => ?_)
  refine se_61 F h m_GA r_GA (by omega) (atS (ac_c (b := x1.toInt.toNat) 1567 hB (by decide) (by omega) rfl) (clP_9.mpr (by omega))) dX12_forgets_13 (fun f7 H locs e7a e7b hf7 h => ?_)
  have hA : KW (x1.toInt.toNat + 1567) (x1.toInt.toNat + 1646) GA f0 f7 := hA.st e7a (by omega)
  have hk : fr L R [] [61] f0 f7 := hk.tr hf7 rfl rfl
  have e8 : fld f7 a0 0 = .ref GA := (hf7.efl m_a0 r_a0 rfl).trans t_GA
  have e9 : fld f7 a0 22 = .ref GP := (hf7.efl m_a0 r_a0 rfl).trans t_GP
  have e10 : fld f7 a0 23 = .ref GL := (hf7.efl m_a0 r_a0 rfl).trans t_GL
  have e11 : fld f7 a0 6 = .ref GT := (hf7.efl m_a0 r_a0 rfl).trans t_GT
  have hqk : elj f7 GA (x1.toInt.toNat + 1567) ≤ 5 := by rw [e7a, if_pos (by omega)]; omega
  refine tw_iconst F dX12_forgets_14 ki_0 (fun z12 hz12 => ?_)
  refine lv_istore_n (lv' := [(2, .int z12), (0, .ref a0), (1, .int x1)]) F.1 F.2.1 dX12_forgets_15 rfl hl (by decide) rfl (fun ls hl => ?_)
  have j_16 : ∀ (n16 : Nat) (f13 : Nat → va_E) (H : Heap) (locs : List Loc) (ls : Array Slot) (x2_16 : Int32), 0 ≤ x2_16.toInt → x2_16.toInt ≤ 78 → ((78 - x2_16.toInt)).toNat < n16 → tS D cy A s.heap L R (TT cy L R) f13 s H locs → KW (x1.toInt.toNat + 1567) (x1.toInt.toNat + 1646) GA f0 f13 → elj f13 GA (x1.toInt.toNat + 1567) ≤ 5 → fr L R [] [61] f0 f13 → fr L R [] [61] f7 f13 → lv_has ls 3 [(0, .ref a0), (1, .int x1), (2, .int x2_16)] → W p l e rm_X12_forgets s m args below meth c H locs 0 0 Q (F0 m 16 ls []) := by
    intro n16
    induction n16 with
    | zero =>
      intro f13 H locs ls x2_16 b14 b15 b16 h hA hqk hk hb16 hl
      exfalso
      omega
    | succ n16 ih16 =>
      intro f13 H locs ls x2_16 b14 b15 b16 h hA hqk hk hb16 hl
      have e17 : fld f13 a0 0 = .ref GA := (hb16.efl m_a0 r_a0 rfl).trans e8
      have e18 : fld f13 a0 22 = .ref GP := (hb16.efl m_a0 r_a0 rfl).trans e9
      have e19 : fld f13 a0 23 = .ref GL := (hb16.efl m_a0 r_a0 rfl).trans e10
      have e20 : fld f13 a0 6 = .ref GT := (hb16.efl m_a0 r_a0 rfl).trans e11
      refine lv_iload_n F.1 F.2.1 dX12_forgets_16 rfl (lv_at hl 2 rfl) ?_
      refine tw_i2l F dX12_forgets_17 (fun z21 hz21 => ?_)
      refine tu_ldc2 F mw_1090 dX12_forgets_18 kl_13 (fun z22 hz22 => ?_)
      refine lv_aload_n F.1 F.2.1 dX12_forgets_21 rfl (lv_at hl 0 rfl) ?_
      refine g_12_7 F h m_a0 r_a0 dX12_forgets_22 (fun o23 m_o23 r_o23 ho23 => ?_)
      obtain rfl := (fld_inj e17 ho23).symm
      refine lv_iload_n F.1 F.2.1 dX12_forgets_25 rfl (lv_at hl 1 rfl) ?_
      refine tw_sipush F dX12_forgets_26 ks_1567 (fun z24 hz24 => ?_)
      refine tu_iadd F dX12_forgets_29 (by omega) (fun z25 hz25 => ?_)
      refine le_61 F h m_GA r_GA (by omega) dX12_forgets_30 (fun v26 ev26 hv26a => ?_)
      have hv26b := clP_9.mp (atb hv26a (ac_c (b := x1.toInt.toNat) 1567 hB (by decide) (by omega) rfl))
      have u30 : v26.toInt = elj f13 GA (x1.toInt.toNat + 1567) := by rw [ev26, show z25.toInt.toNat = x1.toInt.toNat + 1567 by omega]
      refine tu_lmull F dX12_forgets_31 hz22 (by omega) (fun z27 hz27 => ?_)
      refine tw_lcmp F dX12_forgets_32 (fun z28 hz28 => ?_)
      refine tw_if_ge (tgt := 69) F dX12_forgets_33 (by decide) (fun b29 => ?_) (fun b29 => ?_)
      · exact hret f13 _ _ _ _ dX12_forgets_69 ⟨hk, hA, hqk⟩ h
      · refine lv_aload_n F.1 F.2.1 dX12_forgets_36 rfl (lv_at hl 0 rfl) ?_
        refine g_12_7 F h m_a0 r_a0 dX12_forgets_37 (fun o30 m_o30 r_o30 ho30 => ?_)
        obtain rfl := (fld_inj e17 ho30).symm
        refine lv_iload_n F.1 F.2.1 dX12_forgets_40 rfl (lv_at hl 1 rfl) ?_
        refine tw_sipush F dX12_forgets_41 ks_1568 (fun z31 hz31 => ?_)
        refine tu_iadd F dX12_forgets_44 (by omega) (fun z32 hz32 => ?_)
        refine lv_iload_n F.1 F.2.1 dX12_forgets_45 rfl (lv_at hl 2 rfl) ?_
        refine tu_iadd F dX12_forgets_46 (by omega) (fun z33 hz33 => ?_)
        refine lv_aload_n F.1 F.2.1 dX12_forgets_47 rfl (lv_at hl 0 rfl) ?_
        refine g_12_7 F h m_a0 r_a0 dX12_forgets_48 (fun o34 m_o34 r_o34 ho34 => ?_)
        obtain rfl := (fld_inj e17 ho34).symm
        refine lv_iload_n F.1 F.2.1 dX12_forgets_51 rfl (lv_at hl 1 rfl) ?_
        refine tw_sipush F dX12_forgets_52 ks_1568 (fun z35 hz35 => ?_)
        refine tu_iadd F dX12_forgets_55 (by omega) (fun z36 hz36 => ?_)
        refine tw_bipush F dX12_forgets_56 kb_13 (fun z37 hz37 => ?_)
        refine tu_iadd F dX12_forgets_58 (by omega) (fun z38 hz38 => ?_)
        refine lv_iload_n F.1 F.2.1 dX12_forgets_59 rfl (lv_at hl 2 rfl) ?_
        refine tu_iadd F dX12_forgets_60 (by omega) (fun z39 hz39 => ?_)
        refine ld_61 F h m_GA r_GA (by omega) dX12_forgets_61 (fun v40 hv40a => ?_)
        refine se_61 F h m_GA r_GA (by omega) (at_sh (b := x1.toInt.toNat) hB (by omega) hv40a) dX12_forgets_62 (fun f41 H locs e41a e41b hf41 h => ?_)
        have hA : KW (x1.toInt.toNat + 1567) (x1.toInt.toNat + 1646) GA f0 f41 := hA.st e41a (by omega)
        have hqk : elj f41 GA (x1.toInt.toNat + 1567) ≤ 5 := by rw [e41a, if_neg (by omega)]; exact hqk
        have hk : fr L R [] [61] f0 f41 := hk.tr hf41 rfl rfl
        have hb16 : fr L R [] [61] f7 f41 := hb16.tr hf41 rfl rfl
        have e42 : fld f41 a0 0 = .ref GA := (hf41.efl m_a0 r_a0 rfl).trans e17
        have e43 : fld f41 a0 22 = .ref GP := (hf41.efl m_a0 r_a0 rfl).trans e18
        have e44 : fld f41 a0 23 = .ref GL := (hf41.efl m_a0 r_a0 rfl).trans e19
        have e45 : fld f41 a0 6 = .ref GT := (hf41.efl m_a0 r_a0 rfl).trans e20
        refine tu_iinc F dX12_forgets_63 hl (k := 2) rfl (by decide) ki_1 (by omega) (fun z46 ls hz46 hl => ?_)
        have hl : lv_has ls 3 [(2, .int z46), (0, .ref a0), (1, .int x1)] := hl
        refine lv_goto (tgt := 16) F.1 F.2.1 dX12_forgets_66 (by decide) ?_
        exact ih16 f41 _ _ _ z46 (by omega) (by omega) (by omega) h hA hqk hk hb16 (lv_sub hl [1, 2, 0] rfl)
  have hb16 : fr L R [] [61] f7 f7 := fr.rf
  exact j_16 (((78 - z12.toInt)).toNat + 1) f7 _ _ _ z12 (by omega) (by omega) (by omega) h hA hqk hk hb16 (lv_sub hl [1, 2, 0] rfl)
theorem dX12_remembers_0 : decode cX12_remembers 0 = .ok (.aload_n 0, 1) := by decide +kernel
theorem dX12_remembers_1 : decode cX12_remembers 1 = .ok (.getfield 7, 3) := by decide +kernel
theorem dX12_remembers_4 : decode cX12_remembers 4 = .ok (.iload_n 1, 1) := by decide +kernel
theorem dX12_remembers_5 : decode cX12_remembers 5 = .ok (.sipush 1567, 3) := by decide +kernel
theorem dX12_remembers_8 : decode cX12_remembers 8 = .ok (.iadd, 1) := by decide +kernel
theorem dX12_remembers_9 : decode cX12_remembers 9 = .ok (.laload, 1) := by decide +kernel
theorem dX12_remembers_10 : decode cX12_remembers 10 = .ok (.l2i, 1) := by decide +kernel
theorem dX12_remembers_11 : decode cX12_remembers 11 = .ok (.istore_n 2, 1) := by decide +kernel
theorem dX12_remembers_12 : decode cX12_remembers 12 = .ok (.iload_n 2, 1) := by decide +kernel
theorem dX12_remembers_13 : decode cX12_remembers 13 = .ok (.bipush 6, 2) := by decide +kernel
theorem dX12_remembers_23 : decode cX12_remembers 23 = .ok (.iload_n 1, 1) := by decide +kernel
theorem dX12_remembers_24 : decode cX12_remembers 24 = .ok (.sipush 1568, 3) := by decide +kernel
theorem dX12_remembers_27 : decode cX12_remembers 27 = .ok (.iadd, 1) := by decide +kernel
theorem dX12_remembers_28 : decode cX12_remembers 28 = .ok (.bipush 13, 2) := by decide +kernel
theorem dX12_remembers_30 : decode cX12_remembers 30 = .ok (.aload_n 0, 1) := by decide +kernel
theorem dX12_remembers_31 : decode cX12_remembers 31 = .ok (.getfield 7, 3) := by decide +kernel
theorem dX12_remembers_34 : decode cX12_remembers 34 = .ok (.iload_n 1, 1) := by decide +kernel
theorem dX12_remembers_35 : decode cX12_remembers 35 = .ok (.sipush 1567, 3) := by decide +kernel
theorem dX12_remembers_38 : decode cX12_remembers 38 = .ok (.iadd, 1) := by decide +kernel
theorem dX12_remembers_39 : decode cX12_remembers 39 = .ok (.laload, 1) := by decide +kernel
theorem dX12_remembers_40 : decode cX12_remembers 40 = .ok (.l2i, 1) := by decide +kernel
theorem dX12_remembers_41 : decode cX12_remembers 41 = .ok (.imul, 1) := by decide +kernel
theorem dX12_remembers_42 : decode cX12_remembers 42 = .ok (.iadd, 1) := by decide +kernel
theorem dX12_remembers_43 : decode cX12_remembers 43 = .ok (.istore_n 3, 1) := by decide +kernel
theorem dX12_remembers_44 : decode cX12_remembers 44 = .ok (.aload_n 0, 1) := by decide +kernel
theorem dX12_remembers_45 : decode cX12_remembers 45 = .ok (.getfield 7, 3) := by decide +kernel
theorem dX12_remembers_48 : decode cX12_remembers 48 = .ok (.iload_n 3, 1) := by decide +kernel
theorem dX12_remembers_49 : decode cX12_remembers 49 = .ok (.aload_n 0, 1) := by decide +kernel
theorem dX12_remembers_50 : decode cX12_remembers 50 = .ok (.getfield 324, 3) := by decide +kernel
theorem dX12_remembers_53 : decode cX12_remembers 53 = .ok (.i2l, 1) := by decide +kernel
theorem dX12_remembers_54 : decode cX12_remembers 54 = .ok (.lastore, 1) := by decide +kernel
theorem dX12_remembers_55 : decode cX12_remembers 55 = .ok (.iconst 0, 1) := by decide +kernel
theorem dX12_remembers_56 : decode cX12_remembers 56 = .ok (.istore 4, 2) := by decide +kernel
theorem dX12_remembers_58 : decode cX12_remembers 58 = .ok (.iload 4, 2) := by decide +kernel
theorem dX12_remembers_60 : decode cX12_remembers 60 = .ok (.aload_n 0, 1) := by decide +kernel
theorem dX12_remembers_61 : decode cX12_remembers 61 = .ok (.getfield 324, 3) := by decide +kernel
theorem dX12_remembers_64 : decode cX12_remembers 64 = .ok (.if_icmp .ge 27, 3) := by decide +kernel
theorem dX12_remembers_91 : decode cX12_remembers 91 = .ok (.aload_n 0, 1) := by decide +kernel
theorem dX12_remembers_92 : decode cX12_remembers 92 = .ok (.getfield 7, 3) := by decide +kernel
theorem dX12_remembers_95 : decode cX12_remembers 95 = .ok (.iload_n 1, 1) := by decide +kernel
theorem dX12_remembers_96 : decode cX12_remembers 96 = .ok (.sipush 1567, 3) := by decide +kernel
theorem dX12_remembers_99 : decode cX12_remembers 99 = .ok (.iadd, 1) := by decide +kernel
theorem dX12_remembers_100 : decode cX12_remembers 100 = .ok (.dup2, 1) := by decide +kernel
theorem dX12_remembers_101 : decode cX12_remembers 101 = .ok (.laload, 1) := by decide +kernel
theorem dX12_remembers_102 : decode cX12_remembers 102 = .ok (.lconst 1, 1) := by decide +kernel
theorem dX12_remembers_103 : decode cX12_remembers 103 = .ok (.ladd, 1) := by decide +kernel
theorem dX12_remembers_104 : decode cX12_remembers 104 = .ok (.lastore, 1) := by decide +kernel
theorem dX12_remembers_105 : decode cX12_remembers 105 = .ok (.return_, 1) := by decide +kernel
theorem dX12_remembers_67 : decode cX12_remembers 67 = .ok (.aload_n 0, 1) := by decide +kernel
theorem dX12_remembers_68 : decode cX12_remembers 68 = .ok (.getfield 7, 3) := by decide +kernel
theorem dX12_remembers_71 : decode cX12_remembers 71 = .ok (.iload_n 3, 1) := by decide +kernel
theorem dX12_remembers_72 : decode cX12_remembers 72 = .ok (.iconst 1, 1) := by decide +kernel
theorem dX12_remembers_73 : decode cX12_remembers 73 = .ok (.iadd, 1) := by decide +kernel
theorem dX12_remembers_74 : decode cX12_remembers 74 = .ok (.iload 4, 2) := by decide +kernel
theorem dX12_remembers_76 : decode cX12_remembers 76 = .ok (.iadd, 1) := by decide +kernel
theorem dX12_remembers_77 : decode cX12_remembers 77 = .ok (.aload_n 0, 1) := by decide +kernel
theorem dX12_remembers_78 : decode cX12_remembers 78 = .ok (.getfield 63, 3) := by decide +kernel
theorem dX12_remembers_81 : decode cX12_remembers 81 = .ok (.iload 4, 2) := by decide +kernel
theorem dX12_remembers_83 : decode cX12_remembers 83 = .ok (.laload, 1) := by decide +kernel
theorem dX12_remembers_84 : decode cX12_remembers 84 = .ok (.lastore, 1) := by decide +kernel
theorem dX12_remembers_85 : decode cX12_remembers 85 = .ok (.iinc 4 1, 3) := by decide +kernel
theorem dX12_remembers_88 : decode cX12_remembers 88 = .ok (.goto (-30), 3) := by decide +kernel
theorem dX12_remembers_15 : decode cX12_remembers 15 = .ok (.if_icmp .ne 8, 3) := by decide +kernel
theorem dX12_remembers_18 : decode cX12_remembers 18 = .ok (.aload_n 0, 1) := by decide +kernel
theorem dX12_remembers_19 : decode cX12_remembers 19 = .ok (.iload_n 1, 1) := by decide +kernel
theorem dX12_remembers_20 : decode cX12_remembers 20 = .ok (.invokevirtual 343, 3) := by decide +kernel
theorem mw_1086 : Cond.methodLink RX12 343 yX12_forgets ∈ wsL_law := inr_46 _ (List.mem_of_getElem? (i := 6) rfl)
theorem mw_1089 : Cond.code yX12_forgets cX12_forgets 3 none ∈ wsL_law := inr_46 _ (List.mem_of_getElem? (i := 9) rfl)
theorem yk_X12_forgets : xY yX12_forgets RX12 cX12_forgets 3 none 1 := ⟨⟨rfl, by decide +kernel, by decide +kernel, by decide +kernel⟩, mw_5, mw_1089⟩
theorem mw_1087 : Cond.instanceMethod yX12_forgets ∈ wsL_law := inr_46 _ (List.mem_of_getElem? (i := 7) rfl)
theorem mw_1088 : Cond.selects RX12 yX12_forgets yX12_forgets ∈ wsL_law := inr_46 _ (List.mem_of_getElem? (i := 8) rfl)
def rm_X12_remembers : Room := { frames := 1, cells := 0, slots := 0, locals := 22 }
set_option maxHeartbeats 4000000 in
set_option maxRecDepth 100000 in
theorem s_X12_remembers (l : Launch) (D : va_G) (cy : Nat → ClassId) (L : List Nat) (R O : Nat → Nat) (f0 : Nat → va_E) (a0 : Nat) (m_a0 : a0 ∈ L) (r_a0 : R a0 = 12) (x1 : Int32) (b1 : 0 ≤ x1.toInt ∧ x1.toInt ≤ 24060) (GA : Nat) (m_GA : GA ∈ L) (r_GA : R GA = 61) (t_GA : fld f0 a0 0 = .ref GA) (GP : Nat) (m_GP : GP ∈ L) (r_GP : R GP = 69) (t_GP : fld f0 a0 22 = .ref GP) (GL : Nat) (m_GL : GL ∈ L) (r_GL : R GL = 70) (t_GL : fld f0 a0 23 = .ref GL) (GT : Nat) (m_GT : GT ∈ L) (r_GT : R GT = 64) (t_GT : fld f0 a0 6 = .ref GT) (pre0 : isB x1.toInt.toNat) : ∀ sz, Met l yX12_remembers (Cond.code yX12_remembers cX12_remembers 5 none :: wsL_law) rm_X12_remembers (va_Pc [.ref a0, .int x1] (tPZ D cy L R (TT cy L R) f0 sz)) (va_Qv (fun f1 => fr L R [] [61] f0 f1 ∧ KW (x1.toInt.toNat + 1567) (x1.toInt.toNat + 1646) GA f0 f1) (tB D (tA L sz) L R (TT cy L R)) (tA L sz)) 0 0 (tA L sz) := by
  refine tw_enterv (by decide +kernel) rfl (Nat.le_of_ble_eq_true rfl) ?_
  intro p e s m below meth c A ls args Q F hZ h hl hret
  have hl : lv_has ls 5 [(0, .ref a0), (1, .int x1)] := hl
  have hk : fr L R [] [61] f0 f0 := fr.rf
  have hB := pre0
  have hA : KW (x1.toInt.toNat + 1567) (x1.toInt.toNat + 1646) GA f0 f0 := KW.rf
  refine lv_aload_n F.1 F.2.1 dX12_remembers_0 rfl (lv_at hl 0 rfl) ?_
  refine g_12_7 F h m_a0 r_a0 dX12_remembers_1 (fun o1 m_o1 r_o1 ho1 => ?_)
  obtain rfl := (fld_inj t_GA ho1).symm
  refine lv_iload_n F.1 F.2.1 dX12_remembers_4 rfl (lv_at hl 1 rfl) ?_
  refine tw_sipush F dX12_remembers_5 ks_1567 (fun z2 hz2 => ?_)
  refine tu_iadd F dX12_remembers_8 (by omega) (fun z3 hz3 => ?_)
  refine le_61 F h m_GA r_GA (by omega) dX12_remembers_9 (fun v4 ev4 hv4a => ?_)
  have hv4b := clP_9.mp (atb hv4a (ac_c (b := x1.toInt.toNat) 1567 hB (by decide) (by omega) rfl))
  have u9 : v4.toInt = elj f0 GA (x1.toInt.toNat + 1567) := by rw [ev4, show z3.toInt.toNat = x1.toInt.toNat + 1567 by omega]
  refine tw_l2i F dX12_remembers_10 (by omega) (by omega) (fun z5 hz5 => ?_)
  refine lv_istore_n (lv' := [(2, .int z5), (0, .ref a0), (1, .int x1)]) F.1 F.2.1 dX12_remembers_11 rfl hl (by decide) rfl (fun ls hl => ?_)
  refine lv_iload_n F.1 F.2.1 dX12_remembers_12 rfl (lv_at hl 0 rfl) ?_
  refine tw_bipush F dX12_remembers_13 kb_6 (fun z6 hz6 => ?_)
  have j_23 : ∀ (f7 : Nat → va_E) (H : Heap) (locs : List Loc) (ls : Array Slot), elj f7 GA (x1.toInt.toNat + 1567) ≤ 5 → tS D cy A s.heap L R (TT cy L R) f7 s H locs → KW (x1.toInt.toNat + 1567) (x1.toInt.toNat + 1646) GA f0 f7 → fr L R [] [61] f0 f7 → fr L R [] [61] f0 f7 → lv_has ls 5 [(0, .ref a0), (1, .int x1)] → W p l e rm_X12_remembers s m args below meth c H locs 0 0 Q (F0 m 23 ls []) := by
    intro f7 H locs ls b8 h hA hk hb23 hl
    have e9 : fld f7 a0 0 = .ref GA := (hb23.efl m_a0 r_a0 rfl).trans t_GA
    have e10 : fld f7 a0 22 = .ref GP := (hb23.efl m_a0 r_a0 rfl).trans t_GP
    have e11 : fld f7 a0 23 = .ref GL := (hb23.efl m_a0 r_a0 rfl).trans t_GL
    have e12 : fld f7 a0 6 = .ref GT := (hb23.efl m_a0 r_a0 rfl).trans t_GT
    have hqk : elj f7 GA (x1.toInt.toNat + 1567) ≤ 5 := by omega
    refine lv_iload_n F.1 F.2.1 dX12_remembers_23 rfl (lv_at hl 1 rfl) ?_
    refine tw_sipush F dX12_remembers_24 ks_1568 (fun z13 hz13 => ?_)
    refine tu_iadd F dX12_remembers_27 (by omega) (fun z14 hz14 => ?_)
    refine tw_bipush F dX12_remembers_28 kb_13 (fun z15 hz15 => ?_)
    refine lv_aload_n F.1 F.2.1 dX12_remembers_30 rfl (lv_at hl 0 rfl) ?_
    refine g_12_7 F h m_a0 r_a0 dX12_remembers_31 (fun o16 m_o16 r_o16 ho16 => ?_)
    obtain rfl := (fld_inj e9 ho16).symm
    refine lv_iload_n F.1 F.2.1 dX12_remembers_34 rfl (lv_at hl 1 rfl) ?_
    refine tw_sipush F dX12_remembers_35 ks_1567 (fun z17 hz17 => ?_)
    refine tu_iadd F dX12_remembers_38 (by omega) (fun z18 hz18 => ?_)
    refine le_61 F h m_GA r_GA (by omega) dX12_remembers_39 (fun v19 ev19 hv19a => ?_)
    have hv19b := clP_9.mp (atb hv19a (ac_c (b := x1.toInt.toNat) 1567 hB (by decide) (by omega) rfl))
    have u39 : v19.toInt = elj f7 GA (x1.toInt.toNat + 1567) := by rw [ev19, show z18.toInt.toNat = x1.toInt.toNat + 1567 by omega]
    refine tw_l2i F dX12_remembers_40 (by omega) (by omega) (fun z20 hz20 => ?_)
    refine tu_imull F dX12_remembers_41 hz15 (by omega) (fun z21 hz21 => ?_)
    refine tu_iadd F dX12_remembers_42 (by omega) (fun z22 hz22 => ?_)
    refine lv_istore_n (lv' := [(3, .int z22), (0, .ref a0), (1, .int x1)]) F.1 F.2.1 dX12_remembers_43 rfl hl (by decide) rfl (fun ls hl => ?_)
    refine lv_aload_n F.1 F.2.1 dX12_remembers_44 rfl (lv_at hl 1 rfl) ?_
    refine g_12_7 F h m_a0 r_a0 dX12_remembers_45 (fun o23 m_o23 r_o23 ho23 => ?_)
    obtain rfl := (fld_inj e9 ho23).symm
    refine lv_iload_n F.1 F.2.1 dX12_remembers_48 rfl (lv_at hl 0 rfl) ?_
    refine lv_aload_n F.1 F.2.1 dX12_remembers_49 rfl (lv_at hl 1 rfl) ?_
    refine g_12_324 F h m_a0 r_a0 dX12_remembers_50 (fun v24 hv24 hv24a hv24b => ?_)
    refine tw_i2l F dX12_remembers_53 (fun z25 hz25 => ?_)
    refine se_61 F h m_GA r_GA (by omega) (atS (ac_kl (b := x1.toInt.toNat) hB (by omega)) (clP_10.mpr (by omega))) dX12_remembers_54 (fun f26 H locs e26a e26b hf26 h => ?_)
    have hA : KW (x1.toInt.toNat + 1567) (x1.toInt.toNat + 1646) GA f0 f26 := hA.st e26a (by omega)
    have hqk : elj f26 GA (x1.toInt.toNat + 1567) ≤ 5 := by rw [e26a, if_neg (by omega)]; exact hqk
    have hk : fr L R [] [61] f0 f26 := hk.tr hf26 rfl rfl
    have e27 : fld f26 a0 0 = .ref GA := (hf26.efl m_a0 r_a0 rfl).trans e9
    have e28 : fld f26 a0 22 = .ref GP := (hf26.efl m_a0 r_a0 rfl).trans e10
    have e29 : fld f26 a0 23 = .ref GL := (hf26.efl m_a0 r_a0 rfl).trans e11
    have e30 : fld f26 a0 6 = .ref GT := (hf26.efl m_a0 r_a0 rfl).trans e12
    have e31 : fi f26 a0 29 = fi f7 a0 29 := hf26.efi m_a0 r_a0 rfl
    refine tw_iconst F dX12_remembers_55 ki_0 (fun z32 hz32 => ?_)
    refine lv_istore (lv' := [(4, .int z32), (3, .int z22), (0, .ref a0), (1, .int x1)]) F.1 F.2.1 dX12_remembers_56 hl (by decide) rfl (fun ls hl => ?_)
    have j_58 : ∀ (n58 : Nat) (f33 : Nat → va_E) (H : Heap) (locs : List Loc) (ls : Array Slot) (x4_58 : Int32), 0 ≤ x4_58.toInt → x4_58.toInt ≤ 12 → ((12 - x4_58.toInt)).toNat < n58 → tS D cy A s.heap L R (TT cy L R) f33 s H locs → KW (x1.toInt.toNat + 1567) (x1.toInt.toNat + 1646) GA f0 f33 → elj f33 GA (x1.toInt.toNat + 1567) ≤ 5 → fr L R [] [61] f0 f33 → fr L R [] [61] f26 f33 → lv_has ls 5 [(0, .ref a0), (1, .int x1), (3, .int z22), (4, .int x4_58)] → W p l e rm_X12_remembers s m args below meth c H locs 0 0 Q (F0 m 58 ls []) := by
      intro n58
      induction n58 with
      | zero =>
        intro f33 H locs ls x4_58 b34 b35 b36 h hA hqk hk hb58 hl
        exfalso
        omega
      | succ n58 ih58 =>
        intro f33 H locs ls x4_58 b34 b35 b36 h hA hqk hk hb58 hl
        have e37 : fld f33 a0 0 = .ref GA := (hb58.efl m_a0 r_a0 rfl).trans e27
        have e38 : fld f33 a0 22 = .ref GP := (hb58.efl m_a0 r_a0 rfl).trans e28
        have e39 : fld f33 a0 23 = .ref GL := (hb58.efl m_a0 r_a0 rfl).trans e29
        have e40 : fld f33 a0 6 = .ref GT := (hb58.efl m_a0 r_a0 rfl).trans e30
        have e41 : fi f33 a0 29 = fi f26 a0 29 := hb58.efi m_a0 r_a0 rfl
        refine lv_iload F.1 F.2.1 dX12_remembers_58 (lv_at hl 3 rfl) ?_
        refine lv_aload_n F.1 F.2.1 dX12_remembers_60 rfl (lv_at hl 0 rfl) ?_
        refine g_12_324 F h m_a0 r_a0 dX12_remembers_61 (fun v42 hv42 hv42a hv42b => ?_)
        refine tw_icmp_ge (tgt := 91) F dX12_remembers_64 (by decide) (fun b43 => ?_) (fun b43 => ?_)
        · refine lv_aload_n F.1 F.2.1 dX12_remembers_91 rfl (lv_at hl 0 rfl) ?_
          refine g_12_7 F h m_a0 r_a0 dX12_remembers_92 (fun o44 m_o44 r_o44 ho44 => ?_)
          obtain rfl := (fld_inj e37 ho44).symm
          refine lv_iload_n F.1 F.2.1 dX12_remembers_95 rfl (lv_at hl 1 rfl) ?_
          refine tw_sipush F dX12_remembers_96 ks_1567 (fun z45 hz45 => ?_)
          refine tu_iadd F dX12_remembers_99 (by omega) (fun z46 hz46 => ?_)
          refine lv_dup2_11 F.1 F.2.1 dX12_remembers_100 rfl rfl ?_
          refine le_61 F h m_GA r_GA (by omega) dX12_remembers_101 (fun v47 ev47 hv47a => ?_)
          have hv47b := clP_9.mp (atb hv47a (ac_c (b := x1.toInt.toNat) 1567 hB (by decide) (by omega) rfl))
          have u101 : v47.toInt = elj f33 GA (x1.toInt.toNat + 1567) := by rw [ev47, show z46.toInt.toNat = x1.toInt.toNat + 1567 by omega]
          refine tu_lconst F dX12_remembers_102 (by decide) (fun z48 (hz48 : z48.toInt = 1) => ?_)
          refine tu_ladd F dX12_remembers_103 (by omega) (fun z49 hz49 => ?_)
          refine se_61 F h m_GA r_GA (by omega) (atS (ac_c (b := x1.toInt.toNat) 1567 hB (by decide) (by omega) rfl) (clP_9.mpr (by omega))) dX12_remembers_104 (fun f50 H locs e50a e50b hf50 h => ?_)
          have hA : KW (x1.toInt.toNat + 1567) (x1.toInt.toNat + 1646) GA f0 f50 := hA.st e50a (by omega)
          have hk : fr L R [] [61] f0 f50 := hk.tr hf50 rfl rfl
          have hb58 : fr L R [] [61] f26 f50 := hb58.tr hf50 rfl rfl
          have e51 : fld f50 a0 0 = .ref GA := (hf50.efl m_a0 r_a0 rfl).trans e37
          have e52 : fld f50 a0 22 = .ref GP := (hf50.efl m_a0 r_a0 rfl).trans e38
          have e53 : fld f50 a0 23 = .ref GL := (hf50.efl m_a0 r_a0 rfl).trans e39
          have e54 : fld f50 a0 6 = .ref GT := (hf50.efl m_a0 r_a0 rfl).trans e40
          have e55 : fi f50 a0 29 = fi f33 a0 29 := hf50.efi m_a0 r_a0 rfl
          exact hret f50 _ _ _ _ dX12_remembers_105 ⟨hk, hA⟩ h
        · refine lv_aload_n F.1 F.2.1 dX12_remembers_67 rfl (lv_at hl 0 rfl) ?_
          refine g_12_7 F h m_a0 r_a0 dX12_remembers_68 (fun o56 m_o56 r_o56 ho56 => ?_)
          obtain rfl := (fld_inj e37 ho56).symm
          refine lv_iload_n F.1 F.2.1 dX12_remembers_71 rfl (lv_at hl 2 rfl) ?_
          refine tw_iconst F dX12_remembers_72 ki_1 (fun z57 hz57 => ?_)
          refine tu_iadd F dX12_remembers_73 (by omega) (fun z58 hz58 => ?_)
          refine lv_iload F.1 F.2.1 dX12_remembers_74 (lv_at hl 3 rfl) ?_
          refine tu_iadd F dX12_remembers_76 (by omega) (fun z59 hz59 => ?_)
          refine lv_aload_n F.1 F.2.1 dX12_remembers_77 rfl (lv_at hl 0 rfl) ?_
          refine g_12_63 F h m_a0 r_a0 dX12_remembers_78 (fun o60 m_o60 r_o60 ho60 => ?_)
          refine lv_iload F.1 F.2.1 dX12_remembers_81 (lv_at hl 3 rfl) ?_
          refine ld_74 F h m_o60 r_o60 (by omega) dX12_remembers_83 (fun v61 => ?_)
          refine se_61 F h m_GA r_GA (by omega) (atS (ac_kw (b := x1.toInt.toNat) hB (by omega)) clP_0) dX12_remembers_84 (fun f62 H locs e62a e62b hf62 h => ?_)
          have hA : KW (x1.toInt.toNat + 1567) (x1.toInt.toNat + 1646) GA f0 f62 := hA.st e62a (by omega)
          have hqk : elj f62 GA (x1.toInt.toNat + 1567) ≤ 5 := by rw [e62a, if_neg (by omega)]; exact hqk
          have hk : fr L R [] [61] f0 f62 := hk.tr hf62 rfl rfl
          have hb58 : fr L R [] [61] f26 f62 := hb58.tr hf62 rfl rfl
          have e63 : fld f62 a0 0 = .ref GA := (hf62.efl m_a0 r_a0 rfl).trans e37
          have e64 : fld f62 a0 22 = .ref GP := (hf62.efl m_a0 r_a0 rfl).trans e38
          have e65 : fld f62 a0 23 = .ref GL := (hf62.efl m_a0 r_a0 rfl).trans e39
          have e66 : fld f62 a0 6 = .ref GT := (hf62.efl m_a0 r_a0 rfl).trans e40
          have e67 : fi f62 a0 29 = fi f33 a0 29 := hf62.efi m_a0 r_a0 rfl
          refine tu_iinc F dX12_remembers_85 hl (k := 3) rfl (by decide) ki_1 (by omega) (fun z68 ls hz68 hl => ?_)
          have hl : lv_has ls 5 [(4, .int z68), (0, .ref a0), (1, .int x1), (3, .int z22)] := hl
          refine lv_goto (tgt := 58) F.1 F.2.1 dX12_remembers_88 (by decide) ?_
          exact ih58 f62 _ _ _ z68 (by omega) (by omega) (by omega) h hA hqk hk hb58 (lv_sub hl [1, 2, 3, 0] rfl)
    have hb58 : fr L R [] [61] f26 f26 := fr.rf
    exact j_58 (((12 - z32.toInt)).toNat + 1) f26 _ _ _ z32 (by omega) (by omega) (by omega) h hA hqk hk hb58 (lv_sub hl [2, 3, 1, 0] rfl)
  have hb23 : fr L R [] [61] f0 f0 := fr.rf
  refine tw_icmp_ne (tgt := 23) F dX12_remembers_15 (by decide) (fun b69 => ?_) (fun b69 => ?_)
  · exact j_23 f0 _ _ _ (by omega) h hA hk hb23 (lv_sub hl [1, 2] rfl)
  · refine lv_aload_n F.1 F.2.1 dX12_remembers_18 rfl (lv_at hl 1 rfl) ?_
    refine lv_iload_n F.1 F.2.1 dX12_remembers_19 rfl (lv_at hl 2 rfl) ?_
    refine tw_Vv (As := [.int x1]) F hZ h yk_X12_forgets mw_1086 mw_1087 mw_1088 (s_X12_forgets l D cy L R O f0 a0 m_a0 r_a0 x1 ⟨by omega, by omega⟩ GA m_GA r_GA t_GA GP m_GP r_GP t_GP GL m_GL r_GL t_GL GT m_GT r_GT t_GT hB (by omega)) rfl rfl m_a0 r_a0 (fun e q => (T_12 e).mp q) rfl hl.1 rfl (Nat.le_of_ble_eq_true rfl) ⟨Nat.le_of_ble_eq_true rfl, Nat.le_of_ble_eq_true rfl⟩ ⟨Nat.le_of_ble_eq_true rfl, Nat.le_of_ble_eq_true rfl⟩ dX12_remembers_20 (fun f70 H locs hp70 h => ?_)
    obtain ⟨hf70, hv71p0, hv71p1⟩ := hp70
    have hA : KW (x1.toInt.toNat + 1567) (x1.toInt.toNat + 1646) GA f0 f70 := hA.sub hv71p0 (by omega) (by omega)
    have hk : fr L R [] [61] f0 f70 := hk.tr hf70 rfl rfl
    have hb23 : fr L R [] [61] f0 f70 := hb23.tr hf70 rfl rfl
    have e72 : fld f70 a0 0 = .ref GA := (hf70.efl m_a0 r_a0 rfl).trans t_GA
    have e73 : fld f70 a0 22 = .ref GP := (hf70.efl m_a0 r_a0 rfl).trans t_GP
    have e74 : fld f70 a0 23 = .ref GL := (hf70.efl m_a0 r_a0 rfl).trans t_GL
    have e75 : fld f70 a0 6 = .ref GT := (hf70.efl m_a0 r_a0 rfl).trans t_GT
    exact j_23 f70 _ _ _ (by omega) h hA hk hb23 (lv_sub hl [1, 2] rfl)
theorem dX12_makes_0 : decode cX12_makes 0 = .ok (.iconst 0, 1) := by decide +kernel
theorem dX12_makes_1 : decode cX12_makes 1 = .ok (.istore_n 3, 1) := by decide +kernel
theorem dX12_makes_2 : decode cX12_makes 2 = .ok (.aload_n 0, 1) := by decide +kernel
theorem dX12_makes_3 : decode cX12_makes 3 = .ok (.iconst 0, 1) := by decide +kernel
theorem dX12_makes_4 : decode cX12_makes 4 = .ok (.putfield 324, 3) := by decide +kernel
theorem dX12_makes_7 : decode cX12_makes 7 = .ok (.iconst 0, 1) := by decide +kernel
theorem dX12_makes_8 : decode cX12_makes 8 = .ok (.istore 4, 2) := by decide +kernel
theorem dX12_makes_10 : decode cX12_makes 10 = .ok (.iload 4, 2) := by decide +kernel
theorem dX12_makes_12 : decode cX12_makes 12 = .ok (.i2l, 1) := by decide +kernel
theorem dX12_makes_13 : decode cX12_makes 13 = .ok (.aload_n 0, 1) := by decide +kernel
theorem dX12_makes_14 : decode cX12_makes 14 = .ok (.getfield 7, 3) := by decide +kernel
theorem dX12_makes_17 : decode cX12_makes 17 = .ok (.iload_n 2, 1) := by decide +kernel
theorem dX12_makes_18 : decode cX12_makes 18 = .ok (.iconst 1, 1) := by decide +kernel
theorem dX12_makes_19 : decode cX12_makes 19 = .ok (.iadd, 1) := by decide +kernel
theorem dX12_makes_20 : decode cX12_makes 20 = .ok (.laload, 1) := by decide +kernel
theorem dX12_makes_21 : decode cX12_makes 21 = .ok (.lcmp, 1) := by decide +kernel
theorem dX12_makes_22 : decode cX12_makes 22 = .ok (.ifCond .ge 123, 3) := by decide +kernel
theorem dX12_makes_145 : decode cX12_makes 145 = .ok (.iload_n 3, 1) := by decide +kernel
theorem dX12_makes_146 : decode cX12_makes 146 = .ok (.ireturn, 1) := by decide +kernel
theorem dX12_makes_25 : decode cX12_makes 25 = .ok (.aload_n 0, 1) := by decide +kernel
theorem dX12_makes_26 : decode cX12_makes 26 = .ok (.getfield 7, 3) := by decide +kernel
theorem dX12_makes_29 : decode cX12_makes 29 = .ok (.iload_n 2, 1) := by decide +kernel
theorem dX12_makes_30 : decode cX12_makes 30 = .ok (.iconst 2, 1) := by decide +kernel
theorem dX12_makes_31 : decode cX12_makes 31 = .ok (.iadd, 1) := by decide +kernel
theorem dX12_makes_32 : decode cX12_makes 32 = .ok (.iload 4, 2) := by decide +kernel
theorem dX12_makes_34 : decode cX12_makes 34 = .ok (.iadd, 1) := by decide +kernel
theorem dX12_makes_35 : decode cX12_makes 35 = .ok (.laload, 1) := by decide +kernel
theorem dX12_makes_36 : decode cX12_makes 36 = .ok (.lstore 5, 2) := by decide +kernel
theorem dX12_makes_38 : decode cX12_makes 38 = .ok (.iload_n 3, 1) := by decide +kernel
theorem dX12_makes_54 : decode cX12_makes 54 = .ok (.istore_n 3, 1) := by decide +kernel
theorem dX12_makes_55 : decode cX12_makes 55 = .ok (.lload 5, 2) := by decide +kernel
theorem dX12_makes_57 : decode cX12_makes 57 = .ok (.lconst 0, 1) := by decide +kernel
theorem dX12_makes_58 : decode cX12_makes 58 = .ok (.lcmp, 1) := by decide +kernel
theorem dX12_makes_68 : decode cX12_makes 68 = .ok (.lload 5, 2) := by decide +kernel
theorem dX12_makes_70 : decode cX12_makes 70 = .ok (.lconst 0, 1) := by decide +kernel
theorem dX12_makes_71 : decode cX12_makes 71 = .ok (.lcmp, 1) := by decide +kernel
theorem dX12_makes_85 : decode cX12_makes 85 = .ok (.istore 7, 2) := by decide +kernel
theorem dX12_makes_87 : decode cX12_makes 87 = .ok (.iconst 0, 1) := by decide +kernel
theorem dX12_makes_88 : decode cX12_makes 88 = .ok (.istore 8, 2) := by decide +kernel
theorem dX12_makes_90 : decode cX12_makes 90 = .ok (.lload 5, 2) := by decide +kernel
theorem dX12_makes_92 : decode cX12_makes 92 = .ok (.lconst 0, 1) := by decide +kernel
theorem dX12_makes_93 : decode cX12_makes 93 = .ok (.lcmp, 1) := by decide +kernel
theorem dX12_makes_139 : decode cX12_makes 139 = .ok (.iinc 4 1, 3) := by decide +kernel
theorem dX12_makes_142 : decode cX12_makes 142 = .ok (.goto (-132), 3) := by decide +kernel
theorem dX12_makes_94 : decode cX12_makes 94 = .ok (.ifCond .ge 45, 3) := by decide +kernel
theorem dX12_makes_97 : decode cX12_makes 97 = .ok (.iload 8, 2) := by decide +kernel
theorem dX12_makes_99 : decode cX12_makes 99 = .ok (.aload_n 0, 1) := by decide +kernel
theorem dX12_makes_100 : decode cX12_makes 100 = .ok (.getfield 51, 3) := by decide +kernel
theorem mw_214 : Cond.fieldLink RX12 51 "AskBackModel" "gapLong" "[I" ∈ wsL_law := inr_9 _ (List.mem_of_getElem? (i := 22) rfl)
section
variable {p : Program} {l : Launch} {e : Env} {R0 : Room} {s : State} {m : MethodId} {args : Array Value} {below : List Frame} {meth : Method} {c : Code} {H H0 : Heap} {locs : List Loc} {cells slots : Nat} {Q : State → Prop} {cc : ByteArray} {nL : Nat} {D : va_G} {cy : Nat → ClassId} {A : Nat → Prop} {L : List Nat} {R : Nat → Nat} {f : Nat → va_E} {pc : Nat} {ls : Array Slot} {rest : List Value} {a : Nat}
theorem g_12_51 (F : CallFix p m c cc nL s args wsL_law RX12) (h : tS D cy A H0 L R (TT cy L R) f s H locs) (ha : a ∈ L) (hr : R a = 12) (hdg : decode cc pc = .ok (.getfield 51, 3)) (kk : ∀ b : Nat, b ∈ L → R b = 70 → fld f a 23 = .ref b → W p l e R0 s m args below meth c H locs cells slots Q (F0 m (pc + 3) ls (.ref b :: rest))) : W p l e R0 s m args below meth c H locs cells slots Q (F0 m pc ls (.ref a :: rest)) := tu_getr F h ha hr (fun e q => (T_12 e).mp q) rfl inlX12 rfl (Nat.le_of_ble_eq_true rfl) mw_214 hdg kk
end
theorem dX12_makes_103 : decode cX12_makes 103 = .ok (.iload 7, 2) := by decide +kernel
theorem dX12_makes_105 : decode cX12_makes 105 = .ok (.iaload, 1) := by decide +kernel
section
variable {p : Program} {l : Launch} {e : Env} {R0 : Room} {s : State} {m : MethodId} {args : Array Value} {below : List Frame} {meth : Method} {c : Code} {H H0 : Heap} {locs : List Loc} {cells slots : Nat} {Q : State → Prop} {cc : ByteArray} {nL : Nat} {D : va_G} {cy : Nat → ClassId} {A : Nat → Prop} {L : List Nat} {R : Nat → Nat} {f : Nat → va_E} {pc : Nat} {ls : Array Slot} {rest : List Value} {a : Nat}
theorem le_70 {own : String} (F : CallFix p m c cc nL s args wsL_law own) (h : tS D cy A H0 L R (TT cy L R) f s H locs) {i : Int32} (ha : a ∈ L) (hr : R a = 70) (hb : 0 ≤ i.toInt ∧ i.toInt < 8) (hdg : decode cc pc = .ok (.iaload, 1)) (kk : ∀ x : Int32, x.toInt = eli f a i.toInt.toNat → 0 ≤ x.toInt → x.toInt ≤ 12 → W p l e R0 s m args below meth c H locs cells slots Q (F0 m (pc + 1) ls (.int x :: rest))) : W p l e R0 s m args below meth c H locs cells slots Q (F0 m pc ls (.int i :: .ref a :: rest)) := tu_iald F h ha hr (fun e q => (T_70 e).mp q) hb.1 hb.2 hdg (fun x h1 h2 => kk x h2 h1.1 h1.2)
end
theorem dX12_makes_106 : decode cX12_makes 106 = .ok (.if_icmp .ge 33, 3) := by decide +kernel
theorem dX12_makes_109 : decode cX12_makes 109 = .ok (.aload_n 0, 1) := by decide +kernel
theorem dX12_makes_110 : decode cX12_makes 110 = .ok (.aload_n 0, 1) := by decide +kernel
theorem dX12_makes_111 : decode cX12_makes 111 = .ok (.iload_n 1, 1) := by decide +kernel
theorem dX12_makes_112 : decode cX12_makes 112 = .ok (.aload_n 0, 1) := by decide +kernel
theorem dX12_makes_113 : decode cX12_makes 113 = .ok (.getfield 60, 3) := by decide +kernel
theorem dX12_makes_116 : decode cX12_makes 116 = .ok (.aload_n 0, 1) := by decide +kernel
theorem dX12_makes_117 : decode cX12_makes 117 = .ok (.getfield 48, 3) := by decide +kernel
theorem mw_213 : Cond.fieldLink RX12 48 "AskBackModel" "gapAt" "[I" ∈ wsL_law := inr_9 _ (List.mem_of_getElem? (i := 21) rfl)
section
variable {p : Program} {l : Launch} {e : Env} {R0 : Room} {s : State} {m : MethodId} {args : Array Value} {below : List Frame} {meth : Method} {c : Code} {H H0 : Heap} {locs : List Loc} {cells slots : Nat} {Q : State → Prop} {cc : ByteArray} {nL : Nat} {D : va_G} {cy : Nat → ClassId} {A : Nat → Prop} {L : List Nat} {R : Nat → Nat} {f : Nat → va_E} {pc : Nat} {ls : Array Slot} {rest : List Value} {a : Nat}
theorem g_12_48 (F : CallFix p m c cc nL s args wsL_law RX12) (h : tS D cy A H0 L R (TT cy L R) f s H locs) (ha : a ∈ L) (hr : R a = 12) (hdg : decode cc pc = .ok (.getfield 48, 3)) (kk : ∀ b : Nat, b ∈ L → R b = 69 → fld f a 22 = .ref b → W p l e R0 s m args below meth c H locs cells slots Q (F0 m (pc + 3) ls (.ref b :: rest))) : W p l e R0 s m args below meth c H locs cells slots Q (F0 m pc ls (.ref a :: rest)) := tu_getr F h ha hr (fun e q => (T_12 e).mp q) rfl inlX12 rfl (Nat.le_of_ble_eq_true rfl) mw_213 hdg kk
end
theorem dX12_makes_120 : decode cX12_makes 120 = .ok (.iload 7, 2) := by decide +kernel
theorem dX12_makes_122 : decode cX12_makes 122 = .ok (.iaload, 1) := by decide +kernel
section
variable {p : Program} {l : Launch} {e : Env} {R0 : Room} {s : State} {m : MethodId} {args : Array Value} {below : List Frame} {meth : Method} {c : Code} {H H0 : Heap} {locs : List Loc} {cells slots : Nat} {Q : State → Prop} {cc : ByteArray} {nL : Nat} {D : va_G} {cy : Nat → ClassId} {A : Nat → Prop} {L : List Nat} {R : Nat → Nat} {f : Nat → va_E} {pc : Nat} {ls : Array Slot} {rest : List Value} {a : Nat}
theorem le_69 {own : String} (F : CallFix p m c cc nL s args wsL_law own) (h : tS D cy A H0 L R (TT cy L R) f s H locs) {i : Int32} (ha : a ∈ L) (hr : R a = 69) (hb : 0 ≤ i.toInt ∧ i.toInt < 8) (hdg : decode cc pc = .ok (.iaload, 1)) (kk : ∀ x : Int32, x.toInt = eli f a i.toInt.toNat → 0 ≤ x.toInt → x.toInt ≤ 12 → W p l e R0 s m args below meth c H locs cells slots Q (F0 m (pc + 1) ls (.int x :: rest))) : W p l e R0 s m args below meth c H locs cells slots Q (F0 m pc ls (.int i :: .ref a :: rest)) := tu_iald F h ha hr (fun e q => (T_69 e).mp q) hb.1 hb.2 hdg (fun x h1 h2 => kk x h2 h1.1 h1.2)
end
theorem dX12_makes_123 : decode cX12_makes 123 = .ok (.iload 8, 2) := by decide +kernel
theorem dX12_makes_125 : decode cX12_makes 125 = .ok (.iadd, 1) := by decide +kernel
theorem dX12_makes_126 : decode cX12_makes 126 = .ok (.laload, 1) := by decide +kernel
theorem dX12_makes_127 : decode cX12_makes 127 = .ok (.invokevirtual 320, 3) := by decide +kernel
theorem dX12_makes_130 : decode cX12_makes 130 = .ok (.invokevirtual 327, 3) := by decide +kernel
theorem mw_1078 : Cond.methodLink RX12 327 yX12_says ∈ wsL_law := inr_45 _ (List.mem_of_getElem? (i := 22) rfl)
theorem mw_1081 : Cond.code yX12_says cX12_says 3 none ∈ wsL_law := inr_46 _ (List.mem_of_getElem? (i := 1) rfl)
theorem yk_X12_says : xY yX12_says RX12 cX12_says 3 none 1 := ⟨⟨rfl, by decide +kernel, by decide +kernel, by decide +kernel⟩, mw_5, mw_1081⟩
theorem mw_1079 : Cond.instanceMethod yX12_says ∈ wsL_law := inr_45 _ (List.mem_of_getElem? (i := 23) rfl)
theorem mw_1080 : Cond.selects RX12 yX12_says yX12_says ∈ wsL_law := inr_46 _ (List.mem_of_getElem? (i := 0) rfl)
theorem dX12_makes_133 : decode cX12_makes 133 = .ok (.iinc 8 1, 3) := by decide +kernel
theorem dX12_makes_136 : decode cX12_makes 136 = .ok (.goto (-46), 3) := by decide +kernel
theorem dX12_makes_72 : decode cX12_makes 72 = .ok (.ifCond .ge 12, 3) := by decide +kernel
theorem dX12_makes_84 : decode cX12_makes 84 = .ok (.iconst 0, 1) := by decide +kernel
theorem dX12_makes_75 : decode cX12_makes 75 = .ok (.lload 5, 2) := by decide +kernel
theorem dX12_makes_77 : decode cX12_makes 77 = .ok (.lneg, 1) := by decide +kernel
theorem dX12_makes_78 : decode cX12_makes 78 = .ok (.l2i, 1) := by decide +kernel
theorem dX12_makes_79 : decode cX12_makes 79 = .ok (.iconst 1, 1) := by decide +kernel
theorem dX12_makes_80 : decode cX12_makes 80 = .ok (.isub, 1) := by decide +kernel
theorem dX12_makes_81 : decode cX12_makes 81 = .ok (.goto 4, 3) := by decide +kernel
theorem dX12_makes_59 : decode cX12_makes 59 = .ok (.ifCond .le 9, 3) := by decide +kernel
theorem dX12_makes_62 : decode cX12_makes 62 = .ok (.aload_n 0, 1) := by decide +kernel
theorem dX12_makes_63 : decode cX12_makes 63 = .ok (.lload 5, 2) := by decide +kernel
theorem dX12_makes_65 : decode cX12_makes 65 = .ok (.invokevirtual 327, 3) := by decide +kernel
theorem dX12_makes_49 : decode cX12_makes 49 = .ok (.iconst 1, 1) := by decide +kernel
theorem dX12_makes_50 : decode cX12_makes 50 = .ok (.goto 4, 3) := by decide +kernel
theorem dX12_makes_39 : decode cX12_makes 39 = .ok (.ifCond .ne 10, 3) := by decide +kernel
theorem dX12_makes_42 : decode cX12_makes 42 = .ok (.lload 5, 2) := by decide +kernel
theorem dX12_makes_44 : decode cX12_makes 44 = .ok (.lconst 0, 1) := by decide +kernel
theorem dX12_makes_45 : decode cX12_makes 45 = .ok (.lcmp, 1) := by decide +kernel
theorem dX12_makes_46 : decode cX12_makes 46 = .ok (.ifCond .ge 7, 3) := by decide +kernel
theorem dX12_makes_53 : decode cX12_makes 53 = .ok (.iconst 0, 1) := by decide +kernel
def rm_X12_makes : Room := { frames := 1, cells := 0, slots := 0, locals := 24 }
set_option maxHeartbeats 4000000 in
set_option maxRecDepth 100000 in
theorem s_X12_makes (l : Launch) (D : va_G) (cy : Nat → ClassId) (L : List Nat) (R O : Nat → Nat) (f0 : Nat → va_E) (a0 : Nat) (m_a0 : a0 ∈ L) (r_a0 : R a0 = 12) (x1 : Int32) (b1 : 0 ≤ x1.toInt ∧ x1.toInt ≤ 24060) (x2 : Int32) (b2 : 0 ≤ x2.toInt ∧ x2.toInt ≤ 25698) (GA : Nat) (m_GA : GA ∈ L) (r_GA : R GA = 61) (t_GA : fld f0 a0 0 = .ref GA) (GP : Nat) (m_GP : GP ∈ L) (r_GP : R GP = 69) (t_GP : fld f0 a0 22 = .ref GP) (GL : Nat) (m_GL : GL ∈ L) (r_GL : R GL = 70) (t_GL : fld f0 a0 23 = .ref GL) (GT : Nat) (m_GT : GT ∈ L) (r_GT : R GT = 64) (t_GT : fld f0 a0 6 = .ref GT) (pre0 : isB x1.toInt.toNat) (pre1 : GZ GP GL f0) (pre2 : AH x2.toInt.toNat) : ∀ sz, Met l yX12_makes (Cond.code yX12_makes cX12_makes 9 (some .boolean) :: wsL_law) rm_X12_makes (va_Pc [.ref a0, .int x1, .int x2] (tPZ D cy L R (TT cy L R) f0 sz)) (va_Qi (fun (r : Int32) f1 => fr L R [(12, 29)] [12, 74] f0 f1 ∧ 0 ≤ r.toInt ∧ r.toInt ≤ 1 ∧ GZ GP GL f1) (tB D (tA L sz) L R (TT cy L R)) (tA L sz)) 0 0 (tA L sz) := by
  refine tw_enteri (by decide +kernel) rfl (Nat.le_of_ble_eq_true rfl) ?_
  intro p e s m below meth c A ls args Q F hZ h hl hret
  have hl : lv_has ls 9 [(0, .ref a0), (1, .int x1), (2, .int x2)] := hl
  have hk : fr L R [(12, 29)] [12, 74] f0 f0 := fr.rf
  have hB := pre0
  have hX := pre1
  have hH := pre2
  refine tw_iconst F dX12_makes_0 ki_0 (fun z1 hz1 => ?_)
  refine lv_istore_n (lv' := [(3, .int z1), (0, .ref a0), (1, .int x1), (2, .int x2)]) F.1 F.2.1 dX12_makes_1 rfl hl (by decide) rfl (fun ls hl => ?_)
  refine lv_aload_n F.1 F.2.1 dX12_makes_2 rfl (lv_at hl 1 rfl) ?_
  refine tw_iconst F dX12_makes_3 ki_0 (fun z2 hz2 => ?_)
  refine p_12_324 F h m_a0 r_a0 (by omega) dX12_makes_4 (fun f3 H locs e3p hf3 h => ?_)
  have hX : GZ GP GL f3 := hX.fm hf3 m_GP r_GP m_GL r_GL (by decide +kernel) (by decide +kernel)
  have hk : fr L R [(12, 29)] [12, 74] f0 f3 := hk.tr hf3 rfl rfl
  have e4 : fld f3 a0 0 = .ref GA := (hf3.efl m_a0 r_a0 rfl).trans t_GA
  have e5 : fld f3 a0 22 = .ref GP := (hf3.efl m_a0 r_a0 rfl).trans t_GP
  have e6 : fld f3 a0 23 = .ref GL := (hf3.efl m_a0 r_a0 rfl).trans t_GL
  have e7 : fld f3 a0 6 = .ref GT := (hf3.efl m_a0 r_a0 rfl).trans t_GT
  refine tw_iconst F dX12_makes_7 ki_0 (fun z8 hz8 => ?_)
  refine lv_istore (lv' := [(4, .int z8), (3, .int z1), (0, .ref a0), (1, .int x1), (2, .int x2)]) F.1 F.2.1 dX12_makes_8 hl (by decide) rfl (fun ls hl => ?_)
  have j_10 : ∀ (n10 : Nat) (f9 : Nat → va_E) (H : Heap) (locs : List Loc) (ls : Array Slot) (x3_10 : Int32) (x4_10 : Int32), 0 ≤ x3_10.toInt → x3_10.toInt ≤ 1 → 0 ≤ x4_10.toInt → x4_10.toInt ≤ 10 → ((10 - x4_10.toInt)).toNat < n10 → tS D cy A s.heap L R (TT cy L R) f9 s H locs → GZ GP GL f9 → fr L R [(12, 29)] [12, 74] f0 f9 → fr L R [(12, 29)] [12, 74] f3 f9 → lv_has ls 9 [(0, .ref a0), (1, .int x1), (2, .int x2), (3, .int x3_10), (4, .int x4_10)] → W p l e rm_X12_makes s m args below meth c H locs 0 0 Q (F0 m 10 ls []) := by
    intro n10
    induction n10 with
    | zero =>
      intro f9 H locs ls x3_10 x4_10 b10 b11 b12 b13 b14 h hX hk hb10 hl
      exfalso
      omega
    | succ n10 ih10 =>
      intro f9 H locs ls x3_10 x4_10 b10 b11 b12 b13 b14 h hX hk hb10 hl
      have e15 : fld f9 a0 0 = .ref GA := (hb10.efl m_a0 r_a0 rfl).trans e4
      have e16 : fld f9 a0 22 = .ref GP := (hb10.efl m_a0 r_a0 rfl).trans e5
      have e17 : fld f9 a0 23 = .ref GL := (hb10.efl m_a0 r_a0 rfl).trans e6
      have e18 : fld f9 a0 6 = .ref GT := (hb10.efl m_a0 r_a0 rfl).trans e7
      refine lv_iload F.1 F.2.1 dX12_makes_10 (lv_at hl 4 rfl) ?_
      refine tw_i2l F dX12_makes_12 (fun z19 hz19 => ?_)
      refine lv_aload_n F.1 F.2.1 dX12_makes_13 rfl (lv_at hl 0 rfl) ?_
      refine g_12_7 F h m_a0 r_a0 dX12_makes_14 (fun o20 m_o20 r_o20 ho20 => ?_)
      obtain rfl := (fld_inj e15 ho20).symm
      refine lv_iload_n F.1 F.2.1 dX12_makes_17 rfl (lv_at hl 2 rfl) ?_
      refine tw_iconst F dX12_makes_18 ki_1 (fun z21 hz21 => ?_)
      refine tu_iadd F dX12_makes_19 (by omega) (fun z22 hz22 => ?_)
      refine ld_61 F h m_GA r_GA (by omega) dX12_makes_20 (fun v23 hv23a => ?_)
      have hv23b := clP_6.mp (atb hv23a (AH_1 hH (by omega)))
      refine tw_lcmp F dX12_makes_21 (fun z24 hz24 => ?_)
      refine tw_if_ge (tgt := 145) F dX12_makes_22 (by decide) (fun b25 => ?_) (fun b25 => ?_)
      · refine lv_iload_n F.1 F.2.1 dX12_makes_145 rfl (lv_at hl 3 rfl) ?_
        exact hret f9 _ _ _ _ x3_10 dX12_makes_146 (tw_nb (by omega)) ⟨hk, by omega, by omega, hX⟩ h
      · refine lv_aload_n F.1 F.2.1 dX12_makes_25 rfl (lv_at hl 0 rfl) ?_
        refine g_12_7 F h m_a0 r_a0 dX12_makes_26 (fun o26 m_o26 r_o26 ho26 => ?_)
        obtain rfl := (fld_inj e15 ho26).symm
        refine lv_iload_n F.1 F.2.1 dX12_makes_29 rfl (lv_at hl 2 rfl) ?_
        refine tw_iconst F dX12_makes_30 ki_2 (fun z27 hz27 => ?_)
        refine tu_iadd F dX12_makes_31 (by omega) (fun z28 hz28 => ?_)
        refine lv_iload F.1 F.2.1 dX12_makes_32 (lv_at hl 4 rfl) ?_
        refine tu_iadd F dX12_makes_34 (by omega) (fun z29 hz29 => ?_)
        refine ld_61 F h m_GA r_GA (by omega) dX12_makes_35 (fun v30 hv30a => ?_)
        have hv30b := clP_7.mp (atb hv30a (AH_p hH (by omega)))
        refine lv_lstore (lv' := [(5, .long v30), (0, .ref a0), (1, .int x1), (2, .int x2), (3, .int x3_10), (4, .int x4_10)]) F.1 F.2.1 dX12_makes_36 hl (by decide) rfl (fun ls hl => ?_)
        refine lv_iload_n F.1 F.2.1 dX12_makes_38 rfl (lv_at hl 4 rfl) ?_
        have j_54 : ∀ (ls : Array Slot) (y0_54 : Int32), 0 ≤ y0_54.toInt → y0_54.toInt ≤ 1 → lv_has ls 9 [(0, .ref a0), (1, .int x1), (2, .int x2), (4, .int x4_10), (5, .long v30)] → W p l e rm_X12_makes s m args below meth c H locs 0 0 Q (F0 m 54 ls [.int y0_54]) := by
          intro ls y0_54 b31 b32 hl
          refine lv_istore_n (lv' := [(3, .int y0_54), (0, .ref a0), (1, .int x1), (2, .int x2), (4, .int x4_10), (5, .long v30)]) F.1 F.2.1 dX12_makes_54 rfl hl (by decide) rfl (fun ls hl => ?_)
          refine lv_lload F.1 F.2.1 dX12_makes_55 (lv_at hl 5 rfl) ?_
          refine tu_lconst F dX12_makes_57 (by decide) (fun z33 (hz33 : z33.toInt = 0) => ?_)
          refine tw_lcmp F dX12_makes_58 (fun z34 hz34 => ?_)
          have j_68 : ∀ (f35 : Nat → va_E) (H : Heap) (locs : List Loc) (ls : Array Slot), tS D cy A s.heap L R (TT cy L R) f35 s H locs → GZ GP GL f35 → fr L R [(12, 29)] [12, 74] f0 f35 → fr L R [(12, 29)] [12, 74] f9 f35 → lv_has ls 9 [(0, .ref a0), (1, .int x1), (2, .int x2), (3, .int y0_54), (4, .int x4_10), (5, .long v30)] → W p l e rm_X12_makes s m args below meth c H locs 0 0 Q (F0 m 68 ls []) := by
            intro f35 H locs ls h hX hk hb68 hl
            have hb10 : fr L R [(12, 29)] [12, 74] f3 f35 := hb10.tr hb68 rfl rfl
            have e36 : fld f35 a0 0 = .ref GA := (hb68.efl m_a0 r_a0 rfl).trans e15
            have e37 : fld f35 a0 22 = .ref GP := (hb68.efl m_a0 r_a0 rfl).trans e16
            have e38 : fld f35 a0 23 = .ref GL := (hb68.efl m_a0 r_a0 rfl).trans e17
            have e39 : fld f35 a0 6 = .ref GT := (hb68.efl m_a0 r_a0 rfl).trans e18
            refine lv_lload F.1 F.2.1 dX12_makes_68 (lv_at hl 5 rfl) ?_
            refine tu_lconst F dX12_makes_70 (by decide) (fun z40 (hz40 : z40.toInt = 0) => ?_)
            refine tw_lcmp F dX12_makes_71 (fun z41 hz41 => ?_)
            have j_85 : ∀ (ls : Array Slot) (y0_85 : Int32), 0 ≤ y0_85.toInt → y0_85.toInt ≤ 7 → lv_has ls 9 [(0, .ref a0), (1, .int x1), (2, .int x2), (3, .int y0_54), (4, .int x4_10), (5, .long v30)] → W p l e rm_X12_makes s m args below meth c H locs 0 0 Q (F0 m 85 ls [.int y0_85]) := by
              intro ls y0_85 b42 b43 hl
              refine lv_istore (lv' := [(7, .int y0_85), (0, .ref a0), (1, .int x1), (2, .int x2), (3, .int y0_54), (4, .int x4_10), (5, .long v30)]) F.1 F.2.1 dX12_makes_85 hl (by decide) rfl (fun ls hl => ?_)
              refine tw_iconst F dX12_makes_87 ki_0 (fun z44 hz44 => ?_)
              refine lv_istore (lv' := [(8, .int z44), (7, .int y0_85), (0, .ref a0), (1, .int x1), (2, .int x2), (3, .int y0_54), (4, .int x4_10), (5, .long v30)]) F.1 F.2.1 dX12_makes_88 hl (by decide) rfl (fun ls hl => ?_)
              have j_90 : ∀ (n90 : Nat) (f45 : Nat → va_E) (H : Heap) (locs : List Loc) (ls : Array Slot) (x8_90 : Int32), 0 ≤ x8_90.toInt → x8_90.toInt ≤ 12 → ((12 - x8_90.toInt)).toNat < n90 → tS D cy A s.heap L R (TT cy L R) f45 s H locs → GZ GP GL f45 → fr L R [(12, 29)] [12, 74] f0 f45 → fr L R [(12, 29)] [12, 74] f35 f45 → lv_has ls 9 [(0, .ref a0), (1, .int x1), (2, .int x2), (3, .int y0_54), (4, .int x4_10), (5, .long v30), (7, .int y0_85), (8, .int x8_90)] → W p l e rm_X12_makes s m args below meth c H locs 0 0 Q (F0 m 90 ls []) := by
                intro n90
                induction n90 with
                | zero =>
                  intro f45 H locs ls x8_90 b46 b47 b48 h hX hk hb90 hl
                  exfalso
                  omega
                | succ n90 ih90 =>
                  intro f45 H locs ls x8_90 b46 b47 b48 h hX hk hb90 hl
                  have hb10 : fr L R [(12, 29)] [12, 74] f3 f45 := hb10.tr hb90 rfl rfl
                  have e49 : fld f45 a0 0 = .ref GA := (hb90.efl m_a0 r_a0 rfl).trans e36
                  have e50 : fld f45 a0 22 = .ref GP := (hb90.efl m_a0 r_a0 rfl).trans e37
                  have e51 : fld f45 a0 23 = .ref GL := (hb90.efl m_a0 r_a0 rfl).trans e38
                  have e52 : fld f45 a0 6 = .ref GT := (hb90.efl m_a0 r_a0 rfl).trans e39
                  refine lv_lload F.1 F.2.1 dX12_makes_90 (lv_at hl 5 rfl) ?_
                  refine tu_lconst F dX12_makes_92 (by decide) (fun z53 (hz53 : z53.toInt = 0) => ?_)
                  refine tw_lcmp F dX12_makes_93 (fun z54 hz54 => ?_)
                  have j_139 : ∀ (ls : Array Slot), lv_has ls 9 [(0, .ref a0), (1, .int x1), (2, .int x2), (3, .int y0_54), (4, .int x4_10)] → W p l e rm_X12_makes s m args below meth c H locs 0 0 Q (F0 m 139 ls []) := by
                    intro ls hl
                    refine tu_iinc F dX12_makes_139 hl (k := 4) rfl (by decide) ki_1 (by omega) (fun z55 ls hz55 hl => ?_)
                    have hl : lv_has ls 9 [(4, .int z55), (0, .ref a0), (1, .int x1), (2, .int x2), (3, .int y0_54)] := hl
                    refine lv_goto (tgt := 10) F.1 F.2.1 dX12_makes_142 (by decide) ?_
                    exact ih10 f45 _ _ _ y0_54 z55 (by omega) (by omega) (by omega) (by omega) (by omega) h hX hk hb10 (lv_sub hl [1, 2, 3, 4, 0] rfl)
                  refine tw_if_ge (tgt := 139) F dX12_makes_94 (by decide) (fun b56 => ?_) (fun b56 => ?_)
                  · exact j_139 _ (lv_sub hl [0, 1, 2, 3, 4] rfl)
                  · refine lv_iload F.1 F.2.1 dX12_makes_97 (lv_at hl 7 rfl) ?_
                    refine lv_aload_n F.1 F.2.1 dX12_makes_99 rfl (lv_at hl 0 rfl) ?_
                    refine g_12_51 F h m_a0 r_a0 dX12_makes_100 (fun o57 m_o57 r_o57 ho57 => ?_)
                    obtain rfl := (fld_inj e51 ho57).symm
                    refine lv_iload F.1 F.2.1 dX12_makes_103 (lv_at hl 6 rfl) ?_
                    refine le_70 F h m_GL r_GL (by omega) dX12_makes_105 (fun v58 ev58 hv58a hv58b => ?_)
                    refine tw_icmp_ge (tgt := 139) F dX12_makes_106 (by decide) (fun b59 => ?_) (fun b59 => ?_)
                    · exact j_139 _ (lv_sub hl [0, 1, 2, 3, 4] rfl)
                    · refine lv_aload_n F.1 F.2.1 dX12_makes_109 rfl (lv_at hl 0 rfl) ?_
                      refine lv_aload_n F.1 F.2.1 dX12_makes_110 rfl (lv_at hl 0 rfl) ?_
                      refine lv_iload_n F.1 F.2.1 dX12_makes_111 rfl (lv_at hl 1 rfl) ?_
                      refine lv_aload_n F.1 F.2.1 dX12_makes_112 rfl (lv_at hl 0 rfl) ?_
                      refine g_12_60 F h m_a0 r_a0 dX12_makes_113 (fun o60 m_o60 r_o60 ho60 => ?_)
                      refine lv_aload_n F.1 F.2.1 dX12_makes_116 rfl (lv_at hl 0 rfl) ?_
                      refine g_12_48 F h m_a0 r_a0 dX12_makes_117 (fun o61 m_o61 r_o61 ho61 => ?_)
                      obtain rfl := (fld_inj e50 ho61).symm
                      refine lv_iload F.1 F.2.1 dX12_makes_120 (lv_at hl 6 rfl) ?_
                      refine le_69 F h m_GP r_GP (by omega) dX12_makes_122 (fun v62 ev62 hv62a hv62b => ?_)
                      have g122 := hX y0_85.toInt.toNat (by omega)
                      refine lv_iload F.1 F.2.1 dX12_makes_123 (lv_at hl 7 rfl) ?_
                      refine tu_iadd F dX12_makes_125 (by omega) (fun z63 hz63 => ?_)
                      refine ld_73 F h m_o60 r_o60 (by omega) dX12_makes_126 (fun v64 => ?_)
                      refine tw_Vl (As := [.int x1, .long v64]) F hZ h yk_X12_turns mw_937 mw_938 mw_939 (s_X12_turns l D cy L R O f45 a0 m_a0 r_a0 x1 ⟨by omega, by omega⟩ v64 hB) rfl rfl m_a0 r_a0 (fun e q => (T_12 e).mp q) rfl hl.1 rfl (Nat.le_of_ble_eq_true rfl) ⟨Nat.le_of_ble_eq_true rfl, Nat.le_of_ble_eq_true rfl⟩ ⟨Nat.le_of_ble_eq_true rfl, Nat.le_of_ble_eq_true rfl⟩ dX12_makes_127 (fun v66 f65 H locs hp65 h => ?_)
                      obtain rfl := hp65
                      refine tw_Vv (As := [.long v66]) F hZ h yk_X12_says mw_1078 mw_1079 mw_1080 (s_X12_says l D cy L R O f45 a0 m_a0 r_a0 v66) rfl rfl m_a0 r_a0 (fun e q => (T_12 e).mp q) rfl hl.1 rfl (Nat.le_of_ble_eq_true rfl) ⟨Nat.le_of_ble_eq_true rfl, Nat.le_of_ble_eq_true rfl⟩ ⟨Nat.le_of_ble_eq_true rfl, Nat.le_of_ble_eq_true rfl⟩ dX12_makes_130 (fun f67 H locs hp67 h => ?_)
                      have hf67 := hp67
                      have hX : GZ GP GL f67 := hX.fm hf67 m_GP r_GP m_GL r_GL (by decide +kernel) (by decide +kernel)
                      have hk : fr L R [(12, 29)] [12, 74] f0 f67 := hk.tr hf67 rfl rfl
                      have hb10 : fr L R [(12, 29)] [12, 74] f3 f67 := hb10.tr hf67 rfl rfl
                      have hb90 : fr L R [(12, 29)] [12, 74] f35 f67 := hb90.tr hf67 rfl rfl
                      have e69 : fld f67 a0 0 = .ref GA := (hf67.efl m_a0 r_a0 rfl).trans e49
                      have e70 : fld f67 a0 22 = .ref GP := (hf67.efl m_a0 r_a0 rfl).trans e50
                      have e71 : fld f67 a0 23 = .ref GL := (hf67.efl m_a0 r_a0 rfl).trans e51
                      have e72 : fld f67 a0 6 = .ref GT := (hf67.efl m_a0 r_a0 rfl).trans e52
                      refine tu_iinc F dX12_makes_133 hl (k := 7) rfl (by decide) ki_1 (by omega) (fun z73 ls hz73 hl => ?_)
                      have hl : lv_has ls 9 [(8, .int z73), (0, .ref a0), (1, .int x1), (2, .int x2), (3, .int y0_54), (4, .int x4_10), (5, .long v30), (7, .int y0_85)] := hl
                      refine lv_goto (tgt := 90) F.1 F.2.1 dX12_makes_136 (by decide) ?_
                      exact ih90 f67 _ _ _ z73 (by omega) (by omega) (by omega) h hX hk hb90 (lv_sub hl [1, 2, 3, 4, 5, 6, 7, 0] rfl)
              have hb90 : fr L R [(12, 29)] [12, 74] f35 f35 := fr.rf
              exact j_90 (((12 - z44.toInt)).toNat + 1) f35 _ _ _ z44 (by omega) (by omega) (by omega) h hX hk hb90 (lv_sub hl [2, 3, 4, 5, 6, 7, 1, 0] rfl)
            refine tw_if_ge (tgt := 84) F dX12_makes_72 (by decide) (fun b74 => ?_) (fun b74 => ?_)
            · refine tw_iconst F dX12_makes_84 ki_0 (fun z75 hz75 => ?_)
              exact j_85 _ z75 (by omega) (by omega) (lv_sub hl [0, 1, 2, 3, 4, 5] rfl)
            · refine lv_lload F.1 F.2.1 dX12_makes_75 (lv_at hl 5 rfl) ?_
              refine tu_lneg F dX12_makes_77 (by omega) (fun z76 hz76 => ?_)
              refine tw_l2i F dX12_makes_78 (by omega) (by omega) (fun z77 hz77 => ?_)
              refine tw_iconst F dX12_makes_79 ki_1 (fun z78 hz78 => ?_)
              refine tu_isub F dX12_makes_80 (by omega) (fun z79 hz79 => ?_)
              refine lv_goto (tgt := 85) F.1 F.2.1 dX12_makes_81 (by decide) ?_
              exact j_85 _ z79 (by omega) (by omega) (lv_sub hl [0, 1, 2, 3, 4, 5] rfl)
          have hb68 : fr L R [(12, 29)] [12, 74] f9 f9 := fr.rf
          refine tw_if_le (tgt := 68) F dX12_makes_59 (by decide) (fun b80 => ?_) (fun b80 => ?_)
          · exact j_68 f9 _ _ _ h hX hk hb68 (lv_sub hl [1, 2, 3, 0, 4, 5] rfl)
          · refine lv_aload_n F.1 F.2.1 dX12_makes_62 rfl (lv_at hl 1 rfl) ?_
            refine lv_lload F.1 F.2.1 dX12_makes_63 (lv_at hl 5 rfl) ?_
            refine tw_Vv (As := [.long v30]) F hZ h yk_X12_says mw_1078 mw_1079 mw_1080 (s_X12_says l D cy L R O f9 a0 m_a0 r_a0 v30) rfl rfl m_a0 r_a0 (fun e q => (T_12 e).mp q) rfl hl.1 rfl (Nat.le_of_ble_eq_true rfl) ⟨Nat.le_of_ble_eq_true rfl, Nat.le_of_ble_eq_true rfl⟩ ⟨Nat.le_of_ble_eq_true rfl, Nat.le_of_ble_eq_true rfl⟩ dX12_makes_65 (fun f81 H locs hp81 h => ?_)
            have hf81 := hp81
            have hX : GZ GP GL f81 := hX.fm hf81 m_GP r_GP m_GL r_GL (by decide +kernel) (by decide +kernel)
            have hk : fr L R [(12, 29)] [12, 74] f0 f81 := hk.tr hf81 rfl rfl
            have hb10 : fr L R [(12, 29)] [12, 74] f3 f81 := hb10.tr hf81 rfl rfl
            have hb68 : fr L R [(12, 29)] [12, 74] f9 f81 := hb68.tr hf81 rfl rfl
            have e83 : fld f81 a0 0 = .ref GA := (hf81.efl m_a0 r_a0 rfl).trans e15
            have e84 : fld f81 a0 22 = .ref GP := (hf81.efl m_a0 r_a0 rfl).trans e16
            have e85 : fld f81 a0 23 = .ref GL := (hf81.efl m_a0 r_a0 rfl).trans e17
            have e86 : fld f81 a0 6 = .ref GT := (hf81.efl m_a0 r_a0 rfl).trans e18
            exact j_68 f81 _ _ _ h hX hk hb68 (lv_sub hl [1, 2, 3, 0, 4, 5] rfl)
        have j_49 : ∀ (ls : Array Slot), lv_has ls 9 [(0, .ref a0), (1, .int x1), (2, .int x2), (4, .int x4_10), (5, .long v30)] → W p l e rm_X12_makes s m args below meth c H locs 0 0 Q (F0 m 49 ls []) := by
          intro ls hl
          refine tw_iconst F dX12_makes_49 ki_1 (fun z87 hz87 => ?_)
          refine lv_goto (tgt := 54) F.1 F.2.1 dX12_makes_50 (by decide) ?_
          exact j_54 _ z87 (by omega) (by omega) (lv_sub hl [0, 1, 2, 3, 4] rfl)
        refine tw_if_ne (tgt := 49) F dX12_makes_39 (by decide) (fun b88 => ?_) (fun b88 => ?_)
        · exact j_49 _ (lv_sub hl [1, 2, 3, 5, 0] rfl)
        · refine lv_lload F.1 F.2.1 dX12_makes_42 (lv_at hl 0 rfl) ?_
          refine tu_lconst F dX12_makes_44 (by decide) (fun z89 (hz89 : z89.toInt = 0) => ?_)
          refine tw_lcmp F dX12_makes_45 (fun z90 hz90 => ?_)
          refine tw_if_ge (tgt := 53) F dX12_makes_46 (by decide) (fun b91 => ?_) (fun b91 => ?_)
          · refine tw_iconst F dX12_makes_53 ki_0 (fun z92 hz92 => ?_)
            exact j_54 _ z92 (by omega) (by omega) (lv_sub hl [1, 2, 3, 5, 0] rfl)
          · exact j_49 _ (lv_sub hl [1, 2, 3, 5, 0] rfl)
  have hb10 : fr L R [(12, 29)] [12, 74] f3 f3 := fr.rf
  exact j_10 (((10 - z8.toInt)).toNat + 1) f3 _ _ _ z1 z8 (by omega) (by omega) (by omega) (by omega) (by omega) h hX hk hb10 (lv_sub hl [2, 3, 4, 1, 0] rfl)
