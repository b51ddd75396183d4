theorem dX12_aTurn_0 : decode cX12_aTurn 0 = .ok (.aload_n 0, 1) := by decide +kernel
theorem dX12_aTurn_1 : decode cX12_aTurn 1 = .ok (.getfield 7, 3) := by decide +kernel
theorem dX12_aTurn_4 : decode cX12_aTurn 4 = .ok (.sipush 20762, 3) := by decide +kernel
theorem ks_20762 : (Int16.ofInt 20762).toInt32.toInt = 20762 := by decide
theorem dX12_aTurn_7 : decode cX12_aTurn 7 = .ok (.laload, 1) := by decide +kernel
theorem dX12_aTurn_8 : decode cX12_aTurn 8 = .ok (.l2i, 1) := by decide +kernel
theorem dX12_aTurn_9 : decode cX12_aTurn 9 = .ok (.istore_n 1, 1) := by decide +kernel
theorem dX12_aTurn_10 : decode cX12_aTurn 10 = .ok (.iload_n 1, 1) := by decide +kernel
theorem dX12_aTurn_11 : decode cX12_aTurn 11 = .ok (.bipush 12, 2) := by decide +kernel
theorem dX12_aTurn_13 : decode cX12_aTurn 13 = .ok (.if_icmp .ne 9, 3) := by decide +kernel
theorem dX12_aTurn_22 : decode cX12_aTurn 22 = .ok (.aload_n 0, 1) := by decide +kernel
theorem dX12_aTurn_23 : decode cX12_aTurn 23 = .ok (.invokevirtual 184, 3) := by decide +kernel
theorem dX12_aTurn_26 : decode cX12_aTurn 26 = .ok (.aload_n 0, 1) := by decide +kernel
theorem dX12_aTurn_27 : decode cX12_aTurn 27 = .ok (.invokevirtual 234, 3) := by decide +kernel
theorem dX12_aTurn_30 : decode cX12_aTurn 30 = .ok (.ifCond .ne 9, 3) := by decide +kernel
theorem dX12_aTurn_39 : decode cX12_aTurn 39 = .ok (.iconst 0, 1) := by decide +kernel
theorem dX12_aTurn_40 : decode cX12_aTurn 40 = .ok (.istore_n 2, 1) := by decide +kernel
theorem dX12_aTurn_41 : decode cX12_aTurn 41 = .ok (.iload_n 2, 1) := by decide +kernel
theorem dX12_aTurn_42 : decode cX12_aTurn 42 = .ok (.iload_n 1, 1) := by decide +kernel
theorem dX12_aTurn_43 : decode cX12_aTurn 43 = .ok (.if_icmp .ge 35, 3) := by decide +kernel
theorem dX12_aTurn_78 : decode cX12_aTurn 78 = .ok (.aload_n 0, 1) := by decide +kernel
theorem dX12_aTurn_79 : decode cX12_aTurn 79 = .ok (.getfield 7, 3) := by decide +kernel
theorem dX12_aTurn_82 : decode cX12_aTurn 82 = .ok (.sipush 20788, 3) := by decide +kernel
theorem ks_20788 : (Int16.ofInt 20788).toInt32.toInt = 20788 := by decide
theorem dX12_aTurn_85 : decode cX12_aTurn 85 = .ok (.iconst 2, 1) := by decide +kernel
theorem dX12_aTurn_86 : decode cX12_aTurn 86 = .ok (.iload_n 1, 1) := by decide +kernel
theorem dX12_aTurn_87 : decode cX12_aTurn 87 = .ok (.imul, 1) := by decide +kernel
theorem dX12_aTurn_88 : decode cX12_aTurn 88 = .ok (.iadd, 1) := by decide +kernel
theorem dX12_aTurn_89 : decode cX12_aTurn 89 = .ok (.aload_n 0, 1) := by decide +kernel
theorem dX12_aTurn_90 : decode cX12_aTurn 90 = .ok (.invokevirtual 190, 3) := by decide +kernel
theorem dX12_aTurn_93 : decode cX12_aTurn 93 = .ok (.lastore, 1) := by decide +kernel
theorem dX12_aTurn_94 : decode cX12_aTurn 94 = .ok (.aload_n 0, 1) := by decide +kernel
theorem dX12_aTurn_95 : decode cX12_aTurn 95 = .ok (.invokevirtual 184, 3) := by decide +kernel
theorem dX12_aTurn_98 : decode cX12_aTurn 98 = .ok (.aload_n 0, 1) := by decide +kernel
theorem dX12_aTurn_99 : decode cX12_aTurn 99 = .ok (.invokevirtual 234, 3) := by decide +kernel
theorem dX12_aTurn_102 : decode cX12_aTurn 102 = .ok (.ifCond .ne 9, 3) := by decide +kernel
theorem dX12_aTurn_111 : decode cX12_aTurn 111 = .ok (.aload_n 0, 1) := by decide +kernel
theorem dX12_aTurn_112 : decode cX12_aTurn 112 = .ok (.getfield 7, 3) := by decide +kernel
theorem dX12_aTurn_115 : decode cX12_aTurn 115 = .ok (.sipush 20788, 3) := by decide +kernel
theorem dX12_aTurn_118 : decode cX12_aTurn 118 = .ok (.iconst 2, 1) := by decide +kernel
theorem dX12_aTurn_119 : decode cX12_aTurn 119 = .ok (.iload_n 1, 1) := by decide +kernel
theorem dX12_aTurn_120 : decode cX12_aTurn 120 = .ok (.imul, 1) := by decide +kernel
theorem dX12_aTurn_121 : decode cX12_aTurn 121 = .ok (.iadd, 1) := by decide +kernel
theorem dX12_aTurn_122 : decode cX12_aTurn 122 = .ok (.iconst 1, 1) := by decide +kernel
theorem dX12_aTurn_123 : decode cX12_aTurn 123 = .ok (.iadd, 1) := by decide +kernel
theorem dX12_aTurn_124 : decode cX12_aTurn 124 = .ok (.aload_n 0, 1) := by decide +kernel
theorem dX12_aTurn_125 : decode cX12_aTurn 125 = .ok (.invokevirtual 190, 3) := by decide +kernel
theorem dX12_aTurn_128 : decode cX12_aTurn 128 = .ok (.lastore, 1) := by decide +kernel
theorem dX12_aTurn_129 : decode cX12_aTurn 129 = .ok (.aload_n 0, 1) := by decide +kernel
theorem dX12_aTurn_130 : decode cX12_aTurn 130 = .ok (.getfield 7, 3) := by decide +kernel
theorem dX12_aTurn_133 : decode cX12_aTurn 133 = .ok (.sipush 20762, 3) := by decide +kernel
theorem dX12_aTurn_136 : decode cX12_aTurn 136 = .ok (.dup2, 1) := by decide +kernel
theorem dX12_aTurn_137 : decode cX12_aTurn 137 = .ok (.laload, 1) := by decide +kernel
theorem dX12_aTurn_138 : decode cX12_aTurn 138 = .ok (.lconst 1, 1) := by decide +kernel
theorem dX12_aTurn_139 : decode cX12_aTurn 139 = .ok (.ladd, 1) := by decide +kernel
theorem dX12_aTurn_140 : decode cX12_aTurn 140 = .ok (.lastore, 1) := by decide +kernel
theorem dX12_aTurn_141 : decode cX12_aTurn 141 = .ok (.aload_n 0, 1) := by decide +kernel
theorem dX12_aTurn_142 : decode cX12_aTurn 142 = .ok (.invokevirtual 184, 3) := by decide +kernel
theorem dX12_aTurn_145 : decode cX12_aTurn 145 = .ok (.iconst 1, 1) := by decide +kernel
theorem dX12_aTurn_146 : decode cX12_aTurn 146 = .ok (.ireturn, 1) := by decide +kernel
theorem dX12_aTurn_105 : decode cX12_aTurn 105 = .ok (.aload_n 0, 1) := by decide +kernel
theorem dX12_aTurn_106 : decode cX12_aTurn 106 = .ok (.iconst 2, 1) := by decide +kernel
theorem dX12_aTurn_107 : decode cX12_aTurn 107 = .ok (.invokevirtual 187, 3) := by decide +kernel
theorem dX12_aTurn_110 : decode cX12_aTurn 110 = .ok (.ireturn, 1) := by decide +kernel
theorem dX12_aTurn_46 : decode cX12_aTurn 46 = .ok (.aload_n 0, 1) := by decide +kernel
theorem dX12_aTurn_47 : decode cX12_aTurn 47 = .ok (.getfield 7, 3) := by decide +kernel
theorem dX12_aTurn_50 : decode cX12_aTurn 50 = .ok (.sipush 20788, 3) := by decide +kernel
theorem dX12_aTurn_53 : decode cX12_aTurn 53 = .ok (.iconst 2, 1) := by decide +kernel
theorem dX12_aTurn_54 : decode cX12_aTurn 54 = .ok (.iload_n 2, 1) := by decide +kernel
theorem dX12_aTurn_55 : decode cX12_aTurn 55 = .ok (.imul, 1) := by decide +kernel
theorem dX12_aTurn_56 : decode cX12_aTurn 56 = .ok (.iadd, 1) := by decide +kernel
theorem dX12_aTurn_57 : decode cX12_aTurn 57 = .ok (.laload, 1) := by decide +kernel
theorem dX12_aTurn_58 : decode cX12_aTurn 58 = .ok (.aload_n 0, 1) := by decide +kernel
theorem dX12_aTurn_59 : decode cX12_aTurn 59 = .ok (.invokevirtual 190, 3) := by decide +kernel
theorem dX12_aTurn_62 : decode cX12_aTurn 62 = .ok (.lcmp, 1) := by decide +kernel
theorem dX12_aTurn_63 : decode cX12_aTurn 63 = .ok (.ifCond .ne 9, 3) := by decide +kernel
theorem dX12_aTurn_72 : decode cX12_aTurn 72 = .ok (.iinc 2 1, 3) := by decide +kernel
theorem dX12_aTurn_75 : decode cX12_aTurn 75 = .ok (.goto (-34), 3) := by decide +kernel
theorem dX12_aTurn_66 : decode cX12_aTurn 66 = .ok (.aload_n 0, 1) := by decide +kernel
theorem dX12_aTurn_67 : decode cX12_aTurn 67 = .ok (.iconst 3, 1) := by decide +kernel
theorem dX12_aTurn_68 : decode cX12_aTurn 68 = .ok (.invokevirtual 187, 3) := by decide +kernel
theorem dX12_aTurn_71 : decode cX12_aTurn 71 = .ok (.ireturn, 1) := by decide +kernel
theorem dX12_aTurn_33 : decode cX12_aTurn 33 = .ok (.aload_n 0, 1) := by decide +kernel
theorem dX12_aTurn_34 : decode cX12_aTurn 34 = .ok (.iconst 2, 1) := by decide +kernel
theorem dX12_aTurn_35 : decode cX12_aTurn 35 = .ok (.invokevirtual 187, 3) := by decide +kernel
theorem dX12_aTurn_38 : decode cX12_aTurn 38 = .ok (.ireturn, 1) := by decide +kernel
theorem dX12_aTurn_16 : decode cX12_aTurn 16 = .ok (.aload_n 0, 1) := by decide +kernel
theorem dX12_aTurn_17 : decode cX12_aTurn 17 = .ok (.iconst 5, 1) := by decide +kernel
theorem dX12_aTurn_18 : decode cX12_aTurn 18 = .ok (.invokevirtual 187, 3) := by decide +kernel
theorem dX12_aTurn_21 : decode cX12_aTurn 21 = .ok (.ireturn, 1) := by decide +kernel
def rm_X12_aTurn : Room := { frames := 6, cells := 0, slots := 0, locals := 130 }
set_option maxHeartbeats 4000000 in
set_option maxRecDepth 100000 in
theorem s_X12_aTurn (l : Launch) (D : va_G) (cy : Nat → ClassId) (L : List Nat) (R O : Nat → Nat) (f0 : Nat → va_E) (a0 : Nat) (m_a0 : a0 ∈ L) (r_a0 : R a0 = 12) (GA : Nat) (m_GA : GA ∈ L) (r_GA : R GA = 61) (t_GA : fld f0 a0 0 = .ref GA) (GP : Nat) (m_GP : GP ∈ L) (r_GP : R GP = 69) (t_GP : fld f0 a0 22 = .ref GP) (GL : Nat) (m_GL : GL ∈ L) (r_GL : R GL = 70) (t_GL : fld f0 a0 23 = .ref GL) (GT : Nat) (m_GT : GT ∈ L) (r_GT : R GT = 64) (t_GT : fld f0 a0 6 = .ref GT) (pre0 : RB GA 20760 f0) : ∀ sz, Met l yX12_aTurn (Cond.code yX12_aTurn cX12_aTurn 3 (some .boolean) :: wsL_law) rm_X12_aTurn (va_Pc [.ref a0] (tPZ D cy L R (TT cy L R) f0 sz)) (va_Qi (fun (r : Int32) f1 => fr L R [(12, 11), (12, 12), (12, 13), (12, 14), (12, 16), (12, 17)] [12, 61] f0 f1 ∧ 0 ≤ r.toInt ∧ r.toInt ≤ 1 ∧ KW (20762) (20812) GA f0 f1 ∧ elj f1 GA 20760 = elj f0 GA 20760 ∧ elj f1 GA 20761 = elj f0 GA 20761 ∧ elj f1 GA 20763 = elj f0 GA 20763 ∧ (r.toInt = 0 ∨ elj f1 GA 20762 = elj f0 GA 20762 + 1) ∧ elj f0 GA 20762 ≤ elj f1 GA 20762 ∧ RB GA 20760 f1) (tB D (tA L sz) L R (TT cy L R)) (tA L sz)) 0 0 (tA L sz) := by
  refine tw_enteri (by decide +kernel) rfl (Nat.le_of_ble_eq_true rfl) ?_
  intro p e s m below meth c A ls args Q F hZ h hl hret
  have hl : lv_has ls 3 [(0, .ref a0)] := hl
  have hk : fr L R [(12, 11), (12, 12), (12, 13), (12, 14), (12, 16), (12, 17)] [12, 61] f0 f0 := fr.rf
  have hA : KW (20762) (20812) GA f0 f0 := KW.rf
  have hqk0 : elj f0 GA 20760 = elj f0 GA 20760 := rfl
  have hqk1 : elj f0 GA 20761 = elj f0 GA 20761 := rfl
  have hqk2 : elj f0 GA 20762 = elj f0 GA 20762 := rfl
  have hqk3 : elj f0 GA 20763 = elj f0 GA 20763 := rfl
  refine lv_aload_n F.1 F.2.1 dX12_aTurn_0 rfl (lv_at hl 0 rfl) ?_
  refine g_12_7 F h m_a0 r_a0 dX12_aTurn_1 (fun o1 m_o1 r_o1 ho1 => ?_)
  obtain rfl := (fld_inj t_GA ho1).symm
  refine tw_sipush F dX12_aTurn_4 ks_20762 (fun z2 hz2 => ?_)
  refine le_61 F h m_GA r_GA (by omega) dX12_aTurn_7 (fun v3 ev3 hv3a => ?_)
  have hv3b := clP_1.mp (atb hv3a (ac_c (b := 20760) 2 isB_n (by decide) (by omega) rfl))
  have u7 : v3.toInt = elj f0 GA (20762) := by rw [ev3, show z2.toInt.toNat = 20762 by omega]
  refine tw_l2i F dX12_aTurn_8 (by omega) (by omega) (fun z4 hz4 => ?_)
  refine lv_istore_n (lv' := [(1, .int z4), (0, .ref a0)]) F.1 F.2.1 dX12_aTurn_9 rfl hl (by decide) rfl (fun ls hl => ?_)
  refine lv_iload_n F.1 F.2.1 dX12_aTurn_10 rfl (lv_at hl 0 rfl) ?_
  refine tw_bipush F dX12_aTurn_11 kb_12 (fun z5 hz5 => ?_)
  refine tw_icmp_ne (tgt := 22) F dX12_aTurn_13 (by decide) (fun b6 => ?_) (fun b6 => ?_)
  · refine lv_aload_n F.1 F.2.1 dX12_aTurn_22 rfl (lv_at hl 1 rfl) ?_
    refine tw_Vv (As := []) F hZ h yk_X12_ahead0 mw_468 mw_469 mw_470 (s_X12_ahead0 l D cy L R O f0 a0 m_a0 r_a0) rfl rfl m_a0 r_a0 (fun e q => (T_12 e).mp q) rfl hl.1 rfl (Nat.le_of_ble_eq_true rfl) ⟨Nat.le_of_ble_eq_true rfl, Nat.le_of_ble_eq_true rfl⟩ ⟨Nat.le_of_ble_eq_true rfl, Nat.le_of_ble_eq_true rfl⟩ dX12_aTurn_23 (fun f7 H locs hp7 h => ?_)
    obtain ⟨hf7, hv8p0⟩ := hp7
    have hA : KW (20762) (20812) GA f0 f7 := hA.fm hf7 m_GA r_GA (by decide +kernel)
    have hqk0 : elj f7 GA 20760 = elj f0 GA 20760 := (hf7.eelj m_GA r_GA (by decide +kernel) _).trans hqk0
    have hqk1 : elj f7 GA 20761 = elj f0 GA 20761 := (hf7.eelj m_GA r_GA (by decide +kernel) _).trans hqk1
    have hqk2 : elj f7 GA 20762 = elj f0 GA 20762 := (hf7.eelj m_GA r_GA (by decide +kernel) _).trans hqk2
    have hqk3 : elj f7 GA 20763 = elj f0 GA 20763 := (hf7.eelj m_GA r_GA (by decide +kernel) _).trans hqk3
    have hk : fr L R [(12, 11), (12, 12), (12, 13), (12, 14), (12, 16), (12, 17)] [12, 61] f0 f7 := hk.tr hf7 rfl rfl
    have e9 : fld f7 a0 0 = .ref GA := (hf7.efl m_a0 r_a0 rfl).trans t_GA
    have e10 : fld f7 a0 22 = .ref GP := (hf7.efl m_a0 r_a0 rfl).trans t_GP
    have e11 : fld f7 a0 23 = .ref GL := (hf7.efl m_a0 r_a0 rfl).trans t_GL
    have e12 : fld f7 a0 6 = .ref GT := (hf7.efl m_a0 r_a0 rfl).trans t_GT
    refine lv_aload_n F.1 F.2.1 dX12_aTurn_26 rfl (lv_at hl 1 rfl) ?_
    refine tw_Vi (As := []) F hZ h yk_X12_isName mw_700 mw_701 mw_702 (s_X12_isName l D cy L R O f7 a0 m_a0 r_a0) rfl rfl m_a0 r_a0 (fun e q => (T_12 e).mp q) rfl hl.1 rfl (Nat.le_of_ble_eq_true rfl) ⟨Nat.le_of_ble_eq_true rfl, Nat.le_of_ble_eq_true rfl⟩ ⟨Nat.le_of_ble_eq_true rfl, Nat.le_of_ble_eq_true rfl⟩ dX12_aTurn_27 (fun v14 f13 H locs hp13 h => ?_)
    obtain ⟨rfl, hv14a, hv14b, hv14p0⟩ := hp13
    refine tw_if_ne (tgt := 39) F dX12_aTurn_30 (by decide) (fun b15 => ?_) (fun b15 => ?_)
    · refine tw_iconst F dX12_aTurn_39 ki_0 (fun z16 hz16 => ?_)
      refine lv_istore_n (lv' := [(2, .int z16), (1, .int z4), (0, .ref a0)]) F.1 F.2.1 dX12_aTurn_40 rfl hl (by decide) rfl (fun ls hl => ?_)
      have j_41 : ∀ (n41 : Nat) (H : Heap) (locs : List Loc) (ls : Array Slot) (x2_41 : Int32), 0 ≤ x2_41.toInt → x2_41.toInt ≤ 11 → ((11 - x2_41.toInt)).toNat < n41 → tS D cy A s.heap L R (TT cy L R) f7 s H locs → lv_has ls 3 [(0, .ref a0), (1, .int z4), (2, .int x2_41)] → W p l e rm_X12_aTurn s m args below meth c H locs 0 0 Q (F0 m 41 ls []) := by
        intro n41
        induction n41 with
        | zero =>
          intro H locs ls x2_41 b17 b18 b19 h hl
          exfalso
          omega
        | succ n41 ih41 =>
          intro H locs ls x2_41 b17 b18 b19 h hl
          refine lv_iload_n F.1 F.2.1 dX12_aTurn_41 rfl (lv_at hl 2 rfl) ?_
          refine lv_iload_n F.1 F.2.1 dX12_aTurn_42 rfl (lv_at hl 1 rfl) ?_
          refine tw_icmp_ge (tgt := 78) F dX12_aTurn_43 (by decide) (fun b20 => ?_) (fun b20 => ?_)
          · refine lv_aload_n F.1 F.2.1 dX12_aTurn_78 rfl (lv_at hl 0 rfl) ?_
            refine g_12_7 F h m_a0 r_a0 dX12_aTurn_79 (fun o21 m_o21 r_o21 ho21 => ?_)
            obtain rfl := (fld_inj e9 ho21).symm
            refine tw_sipush F dX12_aTurn_82 ks_20788 (fun z22 hz22 => ?_)
            refine tw_iconst F dX12_aTurn_85 ki_2 (fun z23 hz23 => ?_)
            refine lv_iload_n F.1 F.2.1 dX12_aTurn_86 rfl (lv_at hl 1 rfl) ?_
            refine tu_imull F dX12_aTurn_87 hz23 (by omega) (fun z24 hz24 => ?_)
            refine tu_iadd F dX12_aTurn_88 (by omega) (fun z25 hz25 => ?_)
            refine lv_aload_n F.1 F.2.1 dX12_aTurn_89 rfl (lv_at hl 0 rfl) ?_
            refine tw_Vl (As := []) F hZ h yk_X12_wordHere mw_491 mw_492 mw_493 (s_X12_wordHere l D cy L R O f7 a0 m_a0 r_a0) rfl rfl m_a0 r_a0 (fun e q => (T_12 e).mp q) rfl hl.1 rfl (Nat.le_of_ble_eq_true rfl) ⟨Nat.le_of_ble_eq_true rfl, Nat.le_of_ble_eq_true rfl⟩ ⟨Nat.le_of_ble_eq_true rfl, Nat.le_of_ble_eq_true rfl⟩ dX12_aTurn_90 (fun v27 f26 H locs hp26 h => ?_)
            obtain rfl := hp26
            refine se_61 F h m_GA r_GA (by omega) (atS (ac_k0 (b := 20760) isB_n (by omega)) clP_0) dX12_aTurn_93 (fun f28 H locs e28a e28b hf28 h => ?_)
            have hA : KW (20762) (20812) GA f0 f28 := hA.st e28a (by omega)
            have hqk0 : elj f28 GA 20760 = elj f0 GA 20760 := ((e28a _).trans (if_neg (by omega))).trans hqk0
            have hqk1 : elj f28 GA 20761 = elj f0 GA 20761 := ((e28a _).trans (if_neg (by omega))).trans hqk1
            have hqk2 : elj f28 GA 20762 = elj f0 GA 20762 := ((e28a _).trans (if_neg (by omega))).trans hqk2
            have hqk3 : elj f28 GA 20763 = elj f0 GA 20763 := ((e28a _).trans (if_neg (by omega))).trans hqk3
            have hk : fr L R [(12, 11), (12, 12), (12, 13), (12, 14), (12, 16), (12, 17)] [12, 61] f0 f28 := hk.tr hf28 rfl rfl
            have e29 : fld f28 a0 0 = .ref GA := (hf28.efl m_a0 r_a0 rfl).trans e9
            have e30 : fld f28 a0 22 = .ref GP := (hf28.efl m_a0 r_a0 rfl).trans e10
            have e31 : fld f28 a0 23 = .ref GL := (hf28.efl m_a0 r_a0 rfl).trans e11
            have e32 : fld f28 a0 6 = .ref GT := (hf28.efl m_a0 r_a0 rfl).trans e12
            refine lv_aload_n F.1 F.2.1 dX12_aTurn_94 rfl (lv_at hl 0 rfl) ?_
            refine tw_Vv (As := []) F hZ h yk_X12_ahead0 mw_468 mw_469 mw_470 (s_X12_ahead0 l D cy L R O f28 a0 m_a0 r_a0) rfl rfl m_a0 r_a0 (fun e q => (T_12 e).mp q) rfl hl.1 rfl (Nat.le_of_ble_eq_true rfl) ⟨Nat.le_of_ble_eq_true rfl, Nat.le_of_ble_eq_true rfl⟩ ⟨Nat.le_of_ble_eq_true rfl, Nat.le_of_ble_eq_true rfl⟩ dX12_aTurn_95 (fun f33 H locs hp33 h => ?_)
            obtain ⟨hf33, hv34p0⟩ := hp33
            have hA : KW (20762) (20812) GA f0 f33 := hA.fm hf33 m_GA r_GA (by decide +kernel)
            have hqk0 : elj f33 GA 20760 = elj f0 GA 20760 := (hf33.eelj m_GA r_GA (by decide +kernel) _).trans hqk0
            have hqk1 : elj f33 GA 20761 = elj f0 GA 20761 := (hf33.eelj m_GA r_GA (by decide +kernel) _).trans hqk1
            have hqk2 : elj f33 GA 20762 = elj f0 GA 20762 := (hf33.eelj m_GA r_GA (by decide +kernel) _).trans hqk2
            have hqk3 : elj f33 GA 20763 = elj f0 GA 20763 := (hf33.eelj m_GA r_GA (by decide +kernel) _).trans hqk3
            have hk : fr L R [(12, 11), (12, 12), (12, 13), (12, 14), (12, 16), (12, 17)] [12, 61] f0 f33 := hk.tr hf33 rfl rfl
            have e35 : fld f33 a0 0 = .ref GA := (hf33.efl m_a0 r_a0 rfl).trans e29
            have e36 : fld f33 a0 22 = .ref GP := (hf33.efl m_a0 r_a0 rfl).trans e30
            have e37 : fld f33 a0 23 = .ref GL := (hf33.efl m_a0 r_a0 rfl).trans e31
            have e38 : fld f33 a0 6 = .ref GT := (hf33.efl m_a0 r_a0 rfl).trans e32
            refine lv_aload_n F.1 F.2.1 dX12_aTurn_98 rfl (lv_at hl 0 rfl) ?_
            refine tw_Vi (As := []) F hZ h yk_X12_isName mw_700 mw_701 mw_702 (s_X12_isName l D cy L R O f33 a0 m_a0 r_a0) rfl rfl m_a0 r_a0 (fun e q => (T_12 e).mp q) rfl hl.1 rfl (Nat.le_of_ble_eq_true rfl) ⟨Nat.le_of_ble_eq_true rfl, Nat.le_of_ble_eq_true rfl⟩ ⟨Nat.le_of_ble_eq_true rfl, Nat.le_of_ble_eq_true rfl⟩ dX12_aTurn_99 (fun v40 f39 H locs hp39 h => ?_)
            obtain ⟨rfl, hv40a, hv40b, hv40p0⟩ := hp39
            refine tw_if_ne (tgt := 111) F dX12_aTurn_102 (by decide) (fun b41 => ?_) (fun b41 => ?_)
            · refine lv_aload_n F.1 F.2.1 dX12_aTurn_111 rfl (lv_at hl 0 rfl) ?_
              refine g_12_7 F h m_a0 r_a0 dX12_aTurn_112 (fun o42 m_o42 r_o42 ho42 => ?_)
              obtain rfl := (fld_inj e35 ho42).symm
              refine tw_sipush F dX12_aTurn_115 ks_20788 (fun z43 hz43 => ?_)
              refine tw_iconst F dX12_aTurn_118 ki_2 (fun z44 hz44 => ?_)
              refine lv_iload_n F.1 F.2.1 dX12_aTurn_119 rfl (lv_at hl 1 rfl) ?_
              refine tu_imull F dX12_aTurn_120 hz44 (by omega) (fun z45 hz45 => ?_)
              refine tu_iadd F dX12_aTurn_121 (by omega) (fun z46 hz46 => ?_)
              refine tw_iconst F dX12_aTurn_122 ki_1 (fun z47 hz47 => ?_)
              refine tu_iadd F dX12_aTurn_123 (by omega) (fun z48 hz48 => ?_)
              refine lv_aload_n F.1 F.2.1 dX12_aTurn_124 rfl (lv_at hl 0 rfl) ?_
              refine tw_Vl (As := []) F hZ h yk_X12_wordHere mw_491 mw_492 mw_493 (s_X12_wordHere l D cy L R O f33 a0 m_a0 r_a0) rfl rfl m_a0 r_a0 (fun e q => (T_12 e).mp q) rfl hl.1 rfl (Nat.le_of_ble_eq_true rfl) ⟨Nat.le_of_ble_eq_true rfl, Nat.le_of_ble_eq_true rfl⟩ ⟨Nat.le_of_ble_eq_true rfl, Nat.le_of_ble_eq_true rfl⟩ dX12_aTurn_125 (fun v50 f49 H locs hp49 h => ?_)
              obtain rfl := hp49
              refine se_61 F h m_GA r_GA (by omega) (atS (ac_k0 (b := 20760) isB_n (by omega)) clP_0) dX12_aTurn_128 (fun f51 H locs e51a e51b hf51 h => ?_)
              have hA : KW (20762) (20812) GA f0 f51 := hA.st e51a (by omega)
              have hqk0 : elj f51 GA 20760 = elj f0 GA 20760 := ((e51a _).trans (if_neg (by omega))).trans hqk0
              have hqk1 : elj f51 GA 20761 = elj f0 GA 20761 := ((e51a _).trans (if_neg (by omega))).trans hqk1
              have hqk2 : elj f51 GA 20762 = elj f0 GA 20762 := ((e51a _).trans (if_neg (by omega))).trans hqk2
              have hqk3 : elj f51 GA 20763 = elj f0 GA 20763 := ((e51a _).trans (if_neg (by omega))).trans hqk3
              have hk : fr L R [(12, 11), (12, 12), (12, 13), (12, 14), (12, 16), (12, 17)] [12, 61] f0 f51 := hk.tr hf51 rfl rfl
              have e52 : fld f51 a0 0 = .ref GA := (hf51.efl m_a0 r_a0 rfl).trans e35
              have e53 : fld f51 a0 22 = .ref GP := (hf51.efl m_a0 r_a0 rfl).trans e36
              have e54 : fld f51 a0 23 = .ref GL := (hf51.efl m_a0 r_a0 rfl).trans e37
              have e55 : fld f51 a0 6 = .ref GT := (hf51.efl m_a0 r_a0 rfl).trans e38
              refine lv_aload_n F.1 F.2.1 dX12_aTurn_129 rfl (lv_at hl 0 rfl) ?_
              refine g_12_7 F h m_a0 r_a0 dX12_aTurn_130 (fun o56 m_o56 r_o56 ho56 => ?_)
              obtain rfl := (fld_inj e52 ho56).symm
              refine tw_sipush F dX12_aTurn_133 ks_20762 (fun z57 hz57 => ?_)
              refine lv_dup2_11 F.1 F.2.1 dX12_aTurn_136 rfl rfl ?_
              refine le_61 F h m_GA r_GA (by omega) dX12_aTurn_137 (fun v58 ev58 hv58a => ?_)
              have hv58b := clP_1.mp (atb hv58a (ac_c (b := 20760) 2 isB_n (by decide) (by omega) rfl))
              have u137 : v58.toInt = elj f51 GA (20762) := by rw [ev58, show z57.toInt.toNat = 20762 by omega]
              refine tu_lconst F dX12_aTurn_138 (by decide) (fun z59 (hz59 : z59.toInt = 1) => ?_)
              refine tu_ladd F dX12_aTurn_139 (by omega) (fun z60 hz60 => ?_)
              refine se_61 F h m_GA r_GA (by omega) (atS (ac_c (b := 20760) 2 isB_n (by decide) (by omega) rfl) (clP_1.mpr (by omega))) dX12_aTurn_140 (fun f61 H locs e61a e61b hf61 h => ?_)
              have hA : KW (20762) (20812) GA f0 f61 := hA.st e61a (by omega)
              have hqk0 : elj f61 GA 20760 = elj f0 GA 20760 := ((e61a _).trans (if_neg (by omega))).trans hqk0
              have hqk1 : elj f61 GA 20761 = elj f0 GA 20761 := ((e61a _).trans (if_neg (by omega))).trans hqk1
              have hqk3 : elj f61 GA 20763 = elj f0 GA 20763 := ((e61a _).trans (if_neg (by omega))).trans hqk3
              have hk : fr L R [(12, 11), (12, 12), (12, 13), (12, 14), (12, 16), (12, 17)] [12, 61] f0 f61 := hk.tr hf61 rfl rfl
              have e62 : fld f61 a0 0 = .ref GA := (hf61.efl m_a0 r_a0 rfl).trans e52
              have e63 : fld f61 a0 22 = .ref GP := (hf61.efl m_a0 r_a0 rfl).trans e53
              have e64 : fld f61 a0 23 = .ref GL := (hf61.efl m_a0 r_a0 rfl).trans e54
              have e65 : fld f61 a0 6 = .ref GT := (hf61.efl m_a0 r_a0 rfl).trans e55
              have hqk2 : elj f61 GA 20762 = elj f0 GA 20762 + 1 := by rw [e61a, if_pos (by omega)]; omega
              refine lv_aload_n F.1 F.2.1 dX12_aTurn_141 rfl (lv_at hl 0 rfl) ?_
              refine tw_Vv (As := []) F hZ h yk_X12_ahead0 mw_468 mw_469 mw_470 (s_X12_ahead0 l D cy L R O f61 a0 m_a0 r_a0) rfl rfl m_a0 r_a0 (fun e q => (T_12 e).mp q) rfl hl.1 rfl (Nat.le_of_ble_eq_true rfl) ⟨Nat.le_of_ble_eq_true rfl, Nat.le_of_ble_eq_true rfl⟩ ⟨Nat.le_of_ble_eq_true rfl, Nat.le_of_ble_eq_true rfl⟩ dX12_aTurn_142 (fun f66 H locs hp66 h => ?_)
              obtain ⟨hf66, hv67p0⟩ := hp66
              have hA : KW (20762) (20812) GA f0 f66 := hA.fm hf66 m_GA r_GA (by decide +kernel)
              have hqk0 : elj f66 GA 20760 = elj f0 GA 20760 := (hf66.eelj m_GA r_GA (by decide +kernel) _).trans hqk0
              have hqk1 : elj f66 GA 20761 = elj f0 GA 20761 := (hf66.eelj m_GA r_GA (by decide +kernel) _).trans hqk1
              have hqk3 : elj f66 GA 20763 = elj f0 GA 20763 := (hf66.eelj m_GA r_GA (by decide +kernel) _).trans hqk3
              have hqk2 : elj f66 GA 20762 = elj f0 GA 20762 + 1 := (hf66.eelj m_GA r_GA (by decide +kernel) _).trans hqk2
              have hk : fr L R [(12, 11), (12, 12), (12, 13), (12, 14), (12, 16), (12, 17)] [12, 61] f0 f66 := hk.tr hf66 rfl rfl
              have e68 : fld f66 a0 0 = .ref GA := (hf66.efl m_a0 r_a0 rfl).trans e62
              have e69 : fld f66 a0 22 = .ref GP := (hf66.efl m_a0 r_a0 rfl).trans e63
              have e70 : fld f66 a0 23 = .ref GL := (hf66.efl m_a0 r_a0 rfl).trans e64
              have e71 : fld f66 a0 6 = .ref GT := (hf66.efl m_a0 r_a0 rfl).trans e65
              refine tw_iconst F dX12_aTurn_145 ki_1 (fun z72 hz72 => ?_)
              exact hret f66 _ _ _ _ z72 dX12_aTurn_146 (tw_nb (by omega)) ⟨hk, by omega, by omega, hA, hqk0, hqk1, hqk3, by omega, by omega, RB_n pre0 hA (by omega) hqk1 hqk3⟩ h
            · refine lv_aload_n F.1 F.2.1 dX12_aTurn_105 rfl (lv_at hl 0 rfl) ?_
              refine tw_iconst F dX12_aTurn_106 ki_2 (fun z73 hz73 => ?_)
              refine tw_Vi (As := [.int z73]) F hZ h yk_X12_fails mw_487 mw_488 mw_489 (s_X12_fails l D cy L R O f33 a0 m_a0 r_a0 z73 ⟨by omega, by omega⟩) rfl rfl m_a0 r_a0 (fun e q => (T_12 e).mp q) rfl hl.1 rfl (Nat.le_of_ble_eq_true rfl) ⟨Nat.le_of_ble_eq_true rfl, Nat.le_of_ble_eq_true rfl⟩ ⟨Nat.le_of_ble_eq_true rfl, Nat.le_of_ble_eq_true rfl⟩ dX12_aTurn_107 (fun v75 f74 H locs hp74 h => ?_)
              obtain ⟨hf74, hv75a, hv75b⟩ := hp74
              have hA : KW (20762) (20812) GA f0 f74 := hA.fm hf74 m_GA r_GA (by decide +kernel)
              have hqk0 : elj f74 GA 20760 = elj f0 GA 20760 := (hf74.eelj m_GA r_GA (by decide +kernel) _).trans hqk0
              have hqk1 : elj f74 GA 20761 = elj f0 GA 20761 := (hf74.eelj m_GA r_GA (by decide +kernel) _).trans hqk1
              have hqk2 : elj f74 GA 20762 = elj f0 GA 20762 := (hf74.eelj m_GA r_GA (by decide +kernel) _).trans hqk2
              have hqk3 : elj f74 GA 20763 = elj f0 GA 20763 := (hf74.eelj m_GA r_GA (by decide +kernel) _).trans hqk3
              have hk : fr L R [(12, 11), (12, 12), (12, 13), (12, 14), (12, 16), (12, 17)] [12, 61] f0 f74 := hk.tr hf74 rfl rfl
              have e76 : fld f74 a0 0 = .ref GA := (hf74.efl m_a0 r_a0 rfl).trans e35
              have e77 : fld f74 a0 22 = .ref GP := (hf74.efl m_a0 r_a0 rfl).trans e36
              have e78 : fld f74 a0 23 = .ref GL := (hf74.efl m_a0 r_a0 rfl).trans e37
              have e79 : fld f74 a0 6 = .ref GT := (hf74.efl m_a0 r_a0 rfl).trans e38
              exact hret f74 _ _ _ _ v75 dX12_aTurn_110 (tw_nb (by omega)) ⟨hk, by omega, by omega, hA, hqk0, hqk1, hqk3, by omega, by omega, RB_n pre0 hA (by omega) hqk1 hqk3⟩ h
          · refine lv_aload_n F.1 F.2.1 dX12_aTurn_46 rfl (lv_at hl 0 rfl) ?_
            refine g_12_7 F h m_a0 r_a0 dX12_aTurn_47 (fun o80 m_o80 r_o80 ho80 => ?_)
            obtain rfl := (fld_inj e9 ho80).symm
            refine tw_sipush F dX12_aTurn_50 ks_20788 (fun z81 hz81 => ?_)
            refine tw_iconst F dX12_aTurn_53 ki_2 (fun z82 hz82 => ?_)
            refine lv_iload_n F.1 F.2.1 dX12_aTurn_54 rfl (lv_at hl 2 rfl) ?_
            refine tu_imull F dX12_aTurn_55 hz82 (by omega) (fun z83 hz83 => ?_)
            refine tu_iadd F dX12_aTurn_56 (by omega) (fun z84 hz84 => ?_)
            refine ld_61 F h m_GA r_GA (by omega) dX12_aTurn_57 (fun v85 hv85a => ?_)
            refine lv_aload_n F.1 F.2.1 dX12_aTurn_58 rfl (lv_at hl 0 rfl) ?_
            refine tw_Vl (As := []) F hZ h yk_X12_wordHere mw_491 mw_492 mw_493 (s_X12_wordHere l D cy L R O f7 a0 m_a0 r_a0) rfl rfl m_a0 r_a0 (fun e q => (T_12 e).mp q) rfl hl.1 rfl (Nat.le_of_ble_eq_true rfl) ⟨Nat.le_of_ble_eq_true rfl, Nat.le_of_ble_eq_true rfl⟩ ⟨Nat.le_of_ble_eq_true rfl, Nat.le_of_ble_eq_true rfl⟩ dX12_aTurn_59 (fun v87 f86 H locs hp86 h => ?_)
            obtain rfl := hp86
            refine tw_lcmp F dX12_aTurn_62 (fun z88 hz88 => ?_)
            refine tw_if_ne (tgt := 72) F dX12_aTurn_63 (by decide) (fun b89 => ?_) (fun b89 => ?_)
            · refine tu_iinc F dX12_aTurn_72 hl (k := 2) rfl (by decide) ki_1 (by omega) (fun z90 ls hz90 hl => ?_)
              have hl : lv_has ls 3 [(2, .int z90), (0, .ref a0), (1, .int z4)] := hl
              refine lv_goto (tgt := 41) F.1 F.2.1 dX12_aTurn_75 (by decide) ?_
              exact ih41 _ _ _ z90 (by omega) (by omega) (by omega) h (lv_sub hl [1, 2, 0] rfl)
            · refine lv_aload_n F.1 F.2.1 dX12_aTurn_66 rfl (lv_at hl 0 rfl) ?_
              refine tw_iconst F dX12_aTurn_67 ki_3 (fun z91 hz91 => ?_)
              refine tw_Vi (As := [.int z91]) F hZ h yk_X12_fails mw_487 mw_488 mw_489 (s_X12_fails l D cy L R O f7 a0 m_a0 r_a0 z91 ⟨by omega, by omega⟩) rfl rfl m_a0 r_a0 (fun e q => (T_12 e).mp q) rfl hl.1 rfl (Nat.le_of_ble_eq_true rfl) ⟨Nat.le_of_ble_eq_true rfl, Nat.le_of_ble_eq_true rfl⟩ ⟨Nat.le_of_ble_eq_true rfl, Nat.le_of_ble_eq_true rfl⟩ dX12_aTurn_68 (fun v93 f92 H locs hp92 h => ?_)
              obtain ⟨hf92, hv93a, hv93b⟩ := hp92
              have hA : KW (20762) (20812) GA f0 f92 := hA.fm hf92 m_GA r_GA (by decide +kernel)
              have hqk0 : elj f92 GA 20760 = elj f0 GA 20760 := (hf92.eelj m_GA r_GA (by decide +kernel) _).trans hqk0
              have hqk1 : elj f92 GA 20761 = elj f0 GA 20761 := (hf92.eelj m_GA r_GA (by decide +kernel) _).trans hqk1
              have hqk2 : elj f92 GA 20762 = elj f0 GA 20762 := (hf92.eelj m_GA r_GA (by decide +kernel) _).trans hqk2
              have hqk3 : elj f92 GA 20763 = elj f0 GA 20763 := (hf92.eelj m_GA r_GA (by decide +kernel) _).trans hqk3
              have hk : fr L R [(12, 11), (12, 12), (12, 13), (12, 14), (12, 16), (12, 17)] [12, 61] f0 f92 := hk.tr hf92 rfl rfl
              have e94 : fld f92 a0 0 = .ref GA := (hf92.efl m_a0 r_a0 rfl).trans e9
              have e95 : fld f92 a0 22 = .ref GP := (hf92.efl m_a0 r_a0 rfl).trans e10
              have e96 : fld f92 a0 23 = .ref GL := (hf92.efl m_a0 r_a0 rfl).trans e11
              have e97 : fld f92 a0 6 = .ref GT := (hf92.efl m_a0 r_a0 rfl).trans e12
              exact hret f92 _ _ _ _ v93 dX12_aTurn_71 (tw_nb (by omega)) ⟨hk, by omega, by omega, hA, hqk0, hqk1, hqk3, by omega, by omega, RB_n pre0 hA (by omega) hqk1 hqk3⟩ h
      exact j_41 (((11 - z16.toInt)).toNat + 1) _ _ _ z16 (by omega) (by omega) (by omega) h (lv_sub hl [2, 1, 0] rfl)
    · refine lv_aload_n F.1 F.2.1 dX12_aTurn_33 rfl (lv_at hl 1 rfl) ?_
      refine tw_iconst F dX12_aTurn_34 ki_2 (fun z98 hz98 => ?_)
      refine tw_Vi (As := [.int z98]) F hZ h yk_X12_fails mw_487 mw_488 mw_489 (s_X12_fails l D cy L R O f7 a0 m_a0 r_a0 z98 ⟨by omega, by omega⟩) rfl rfl m_a0 r_a0 (fun e q => (T_12 e).mp q) rfl hl.1 rfl (Nat.le_of_ble_eq_true rfl) ⟨Nat.le_of_ble_eq_true rfl, Nat.le_of_ble_eq_true rfl⟩ ⟨Nat.le_of_ble_eq_true rfl, Nat.le_of_ble_eq_true rfl⟩ dX12_aTurn_35 (fun v100 f99 H locs hp99 h => ?_)
      obtain ⟨hf99, hv100a, hv100b⟩ := hp99
      have hA : KW (20762) (20812) GA f0 f99 := hA.fm hf99 m_GA r_GA (by decide +kernel)
      have hqk0 : elj f99 GA 20760 = elj f0 GA 20760 := (hf99.eelj m_GA r_GA (by decide +kernel) _).trans hqk0
      have hqk1 : elj f99 GA 20761 = elj f0 GA 20761 := (hf99.eelj m_GA r_GA (by decide +kernel) _).trans hqk1
      have hqk2 : elj f99 GA 20762 = elj f0 GA 20762 := (hf99.eelj m_GA r_GA (by decide +kernel) _).trans hqk2
      have hqk3 : elj f99 GA 20763 = elj f0 GA 20763 := (hf99.eelj m_GA r_GA (by decide +kernel) _).trans hqk3
      have hk : fr L R [(12, 11), (12, 12), (12, 13), (12, 14), (12, 16), (12, 17)] [12, 61] f0 f99 := hk.tr hf99 rfl rfl
      have e101 : fld f99 a0 0 = .ref GA := (hf99.efl m_a0 r_a0 rfl).trans e9
      have e102 : fld f99 a0 22 = .ref GP := (hf99.efl m_a0 r_a0 rfl).trans e10
      have e103 : fld f99 a0 23 = .ref GL := (hf99.efl m_a0 r_a0 rfl).trans e11
      have e104 : fld f99 a0 6 = .ref GT := (hf99.efl m_a0 r_a0 rfl).trans e12
      exact hret f99 _ _ _ _ v100 dX12_aTurn_38 (tw_nb (by omega)) ⟨hk, by omega, by omega, hA, hqk0, hqk1, hqk3, by omega, by omega, RB_n pre0 hA (by omega) hqk1 hqk3⟩ h
  · refine lv_aload_n F.1 F.2.1 dX12_aTurn_16 rfl (lv_at hl 1 rfl) ?_
    refine tw_iconst F dX12_aTurn_17 ki_5 (fun z105 hz105 => ?_)
    refine tw_Vi (As := [.int z105]) F hZ h yk_X12_fails mw_487 mw_488 mw_489 (s_X12_fails l D cy L R O f0 a0 m_a0 r_a0 z105 ⟨by omega, by omega⟩) rfl rfl m_a0 r_a0 (fun e q => (T_12 e).mp q) rfl hl.1 rfl (Nat.le_of_ble_eq_true rfl) ⟨Nat.le_of_ble_eq_true rfl, Nat.le_of_ble_eq_true rfl⟩ ⟨Nat.le_of_ble_eq_true rfl, Nat.le_of_ble_eq_true rfl⟩ dX12_aTurn_18 (fun v107 f106 H locs hp106 h => ?_)
    obtain ⟨hf106, hv107a, hv107b⟩ := hp106
    have hA : KW (20762) (20812) GA f0 f106 := hA.fm hf106 m_GA r_GA (by decide +kernel)
    have hqk0 : elj f106 GA 20760 = elj f0 GA 20760 := (hf106.eelj m_GA r_GA (by decide +kernel) _).trans hqk0
    have hqk1 : elj f106 GA 20761 = elj f0 GA 20761 := (hf106.eelj m_GA r_GA (by decide +kernel) _).trans hqk1
    have hqk2 : elj f106 GA 20762 = elj f0 GA 20762 := (hf106.eelj m_GA r_GA (by decide +kernel) _).trans hqk2
    have hqk3 : elj f106 GA 20763 = elj f0 GA 20763 := (hf106.eelj m_GA r_GA (by decide +kernel) _).trans hqk3
    have hk : fr L R [(12, 11), (12, 12), (12, 13), (12, 14), (12, 16), (12, 17)] [12, 61] f0 f106 := hk.tr hf106 rfl rfl
    have e108 : fld f106 a0 0 = .ref GA := (hf106.efl m_a0 r_a0 rfl).trans t_GA
    have e109 : fld f106 a0 22 = .ref GP := (hf106.efl m_a0 r_a0 rfl).trans t_GP
    have e110 : fld f106 a0 23 = .ref GL := (hf106.efl m_a0 r_a0 rfl).trans t_GL
    have e111 : fld f106 a0 6 = .ref GT := (hf106.efl m_a0 r_a0 rfl).trans t_GT
    exact hret f106 _ _ _ _ v107 dX12_aTurn_21 (tw_nb (by omega)) ⟨hk, by omega, by omega, hA, hqk0, hqk1, hqk3, by omega, by omega, RB_n pre0 hA (by omega) hqk1 hqk3⟩ h
theorem dX12_aKey_0 : decode cX12_aKey 0 = .ok (.aload_n 0, 1) := by decide +kernel
theorem dX12_aKey_1 : decode cX12_aKey 1 = .ok (.getfield 7, 3) := by decide +kernel
theorem dX12_aKey_4 : decode cX12_aKey 4 = .ok (.sipush 20760, 3) := by decide +kernel
theorem ks_20760 : (Int16.ofInt 20760).toInt32.toInt = 20760 := by decide
theorem dX12_aKey_7 : decode cX12_aKey 7 = .ok (.laload, 1) := by decide +kernel
theorem dX12_aKey_8 : decode cX12_aKey 8 = .ok (.l2i, 1) := by decide +kernel
theorem dX12_aKey_9 : decode cX12_aKey 9 = .ok (.istore_n 1, 1) := by decide +kernel
theorem dX12_aKey_10 : decode cX12_aKey 10 = .ok (.iload_n 1, 1) := by decide +kernel
theorem dX12_aKey_11 : decode cX12_aKey 11 = .ok (.bipush 12, 2) := by decide +kernel
theorem dX12_aKey_13 : decode cX12_aKey 13 = .ok (.if_icmp .ne 9, 3) := by decide +kernel
theorem dX12_aKey_22 : decode cX12_aKey 22 = .ok (.aload_n 0, 1) := by decide +kernel
theorem dX12_aKey_23 : decode cX12_aKey 23 = .ok (.invokevirtual 184, 3) := by decide +kernel
theorem dX12_aKey_26 : decode cX12_aKey 26 = .ok (.aload_n 0, 1) := by decide +kernel
theorem dX12_aKey_27 : decode cX12_aKey 27 = .ok (.invokevirtual 234, 3) := by decide +kernel
theorem dX12_aKey_30 : decode cX12_aKey 30 = .ok (.ifCond .ne 9, 3) := by decide +kernel
theorem dX12_aKey_39 : decode cX12_aKey 39 = .ok (.aload_n 0, 1) := by decide +kernel
theorem dX12_aKey_40 : decode cX12_aKey 40 = .ok (.sipush 20760, 3) := by decide +kernel
theorem dX12_aKey_43 : decode cX12_aKey 43 = .ok (.aload_n 0, 1) := by decide +kernel
theorem dX12_aKey_44 : decode cX12_aKey 44 = .ok (.invokevirtual 190, 3) := by decide +kernel
theorem dX12_aKey_47 : decode cX12_aKey 47 = .ok (.invokevirtual 238, 3) := by decide +kernel
theorem mw_708 : Cond.methodLink RX12 238 yX12_keyNamed ∈ wsL_law := inr_30 _ (List.mem_of_getElem? (i := 12) rfl)
theorem mw_711 : Cond.code yX12_keyNamed cX12_keyNamed 5 (some .int) ∈ wsL_law := inr_30 _ (List.mem_of_getElem? (i := 15) rfl)
theorem yk_X12_keyNamed : xY yX12_keyNamed RX12 cX12_keyNamed 5 (some .int) 2 := ⟨⟨rfl, by decide +kernel, by decide +kernel, by decide +kernel⟩, mw_5, mw_711⟩
theorem mw_709 : Cond.instanceMethod yX12_keyNamed ∈ wsL_law := inr_30 _ (List.mem_of_getElem? (i := 13) rfl)
theorem mw_710 : Cond.selects RX12 yX12_keyNamed yX12_keyNamed ∈ wsL_law := inr_30 _ (List.mem_of_getElem? (i := 14) rfl)
theorem dX12_aKey_50 : decode cX12_aKey 50 = .ok (.iconst (-1), 1) := by decide +kernel
theorem dX12_aKey_51 : decode cX12_aKey 51 = .ok (.if_icmp .eq 9, 3) := by decide +kernel
theorem dX12_aKey_60 : decode cX12_aKey 60 = .ok (.aload_n 0, 1) := by decide +kernel
theorem dX12_aKey_61 : decode cX12_aKey 61 = .ok (.getfield 7, 3) := by decide +kernel
theorem dX12_aKey_64 : decode cX12_aKey 64 = .ok (.sipush 20764, 3) := by decide +kernel
theorem ks_20764 : (Int16.ofInt 20764).toInt32.toInt = 20764 := by decide
theorem dX12_aKey_67 : decode cX12_aKey 67 = .ok (.iconst 2, 1) := by decide +kernel
theorem dX12_aKey_68 : decode cX12_aKey 68 = .ok (.iload_n 1, 1) := by decide +kernel
theorem dX12_aKey_69 : decode cX12_aKey 69 = .ok (.imul, 1) := by decide +kernel
theorem dX12_aKey_70 : decode cX12_aKey 70 = .ok (.iadd, 1) := by decide +kernel
theorem dX12_aKey_71 : decode cX12_aKey 71 = .ok (.aload_n 0, 1) := by decide +kernel
theorem dX12_aKey_72 : decode cX12_aKey 72 = .ok (.invokevirtual 190, 3) := by decide +kernel
theorem dX12_aKey_75 : decode cX12_aKey 75 = .ok (.lastore, 1) := by decide +kernel
theorem dX12_aKey_76 : decode cX12_aKey 76 = .ok (.aload_n 0, 1) := by decide +kernel
theorem dX12_aKey_77 : decode cX12_aKey 77 = .ok (.invokevirtual 184, 3) := by decide +kernel
theorem dX12_aKey_80 : decode cX12_aKey 80 = .ok (.aload_n 0, 1) := by decide +kernel
theorem dX12_aKey_81 : decode cX12_aKey 81 = .ok (.iconst 2, 1) := by decide +kernel
theorem dX12_aKey_82 : decode cX12_aKey 82 = .ok (.invokevirtual 242, 3) := by decide +kernel
theorem mw_712 : Cond.methodLink RX12 242 yX12_wantWord ∈ wsL_law := inr_30 _ (List.mem_of_getElem? (i := 16) rfl)
theorem mw_715 : Cond.code yX12_wantWord cX12_wantWord 2 (some .boolean) ∈ wsL_law := inr_30 _ (List.mem_of_getElem? (i := 19) rfl)
theorem yk_X12_wantWord : xY yX12_wantWord RX12 cX12_wantWord 2 (some .boolean) 1 := ⟨⟨rfl, by decide +kernel, by decide +kernel, by decide +kernel⟩, mw_5, mw_715⟩
theorem mw_713 : Cond.instanceMethod yX12_wantWord ∈ wsL_law := inr_30 _ (List.mem_of_getElem? (i := 17) rfl)
theorem mw_714 : Cond.selects RX12 yX12_wantWord yX12_wantWord ∈ wsL_law := inr_30 _ (List.mem_of_getElem? (i := 18) rfl)
theorem dX12_aKey_85 : decode cX12_aKey 85 = .ok (.ifCond .ne 5, 3) := by decide +kernel
theorem dX12_aKey_90 : decode cX12_aKey 90 = .ok (.aload_n 0, 1) := by decide +kernel
theorem dX12_aKey_91 : decode cX12_aKey 91 = .ok (.getfield 167, 3) := by decide +kernel
theorem dX12_aKey_94 : decode cX12_aKey 94 = .ok (.iconst 3, 1) := by decide +kernel
theorem dX12_aKey_95 : decode cX12_aKey 95 = .ok (.if_icmp .eq 9, 3) := by decide +kernel
theorem dX12_aKey_104 : decode cX12_aKey 104 = .ok (.aload_n 0, 1) := by decide +kernel
theorem dX12_aKey_105 : decode cX12_aKey 105 = .ok (.getfield 7, 3) := by decide +kernel
theorem dX12_aKey_108 : decode cX12_aKey 108 = .ok (.sipush 20764, 3) := by decide +kernel
theorem dX12_aKey_111 : decode cX12_aKey 111 = .ok (.iconst 2, 1) := by decide +kernel
theorem dX12_aKey_112 : decode cX12_aKey 112 = .ok (.iload_n 1, 1) := by decide +kernel
theorem dX12_aKey_113 : decode cX12_aKey 113 = .ok (.imul, 1) := by decide +kernel
theorem dX12_aKey_114 : decode cX12_aKey 114 = .ok (.iadd, 1) := by decide +kernel
theorem dX12_aKey_115 : decode cX12_aKey 115 = .ok (.iconst 1, 1) := by decide +kernel
theorem dX12_aKey_116 : decode cX12_aKey 116 = .ok (.iadd, 1) := by decide +kernel
theorem dX12_aKey_117 : decode cX12_aKey 117 = .ok (.aload_n 0, 1) := by decide +kernel
theorem dX12_aKey_118 : decode cX12_aKey 118 = .ok (.getfield 164, 3) := by decide +kernel
theorem dX12_aKey_121 : decode cX12_aKey 121 = .ok (.i2l, 1) := by decide +kernel
theorem dX12_aKey_122 : decode cX12_aKey 122 = .ok (.lastore, 1) := by decide +kernel
theorem dX12_aKey_123 : decode cX12_aKey 123 = .ok (.aload_n 0, 1) := by decide +kernel
theorem dX12_aKey_124 : decode cX12_aKey 124 = .ok (.getfield 7, 3) := by decide +kernel
theorem dX12_aKey_127 : decode cX12_aKey 127 = .ok (.sipush 20760, 3) := by decide +kernel
theorem dX12_aKey_130 : decode cX12_aKey 130 = .ok (.dup2, 1) := by decide +kernel
theorem dX12_aKey_131 : decode cX12_aKey 131 = .ok (.laload, 1) := by decide +kernel
theorem dX12_aKey_132 : decode cX12_aKey 132 = .ok (.lconst 1, 1) := by decide +kernel
theorem dX12_aKey_133 : decode cX12_aKey 133 = .ok (.ladd, 1) := by decide +kernel
theorem dX12_aKey_134 : decode cX12_aKey 134 = .ok (.lastore, 1) := by decide +kernel
theorem dX12_aKey_135 : decode cX12_aKey 135 = .ok (.aload_n 0, 1) := by decide +kernel
theorem dX12_aKey_136 : decode cX12_aKey 136 = .ok (.invokevirtual 184, 3) := by decide +kernel
theorem dX12_aKey_139 : decode cX12_aKey 139 = .ok (.iconst 1, 1) := by decide +kernel
theorem dX12_aKey_140 : decode cX12_aKey 140 = .ok (.ireturn, 1) := by decide +kernel
theorem dX12_aKey_98 : decode cX12_aKey 98 = .ok (.aload_n 0, 1) := by decide +kernel
theorem dX12_aKey_99 : decode cX12_aKey 99 = .ok (.iconst 2, 1) := by decide +kernel
theorem dX12_aKey_100 : decode cX12_aKey 100 = .ok (.invokevirtual 187, 3) := by decide +kernel
theorem dX12_aKey_103 : decode cX12_aKey 103 = .ok (.ireturn, 1) := by decide +kernel
theorem dX12_aKey_88 : decode cX12_aKey 88 = .ok (.iconst 0, 1) := by decide +kernel
theorem dX12_aKey_89 : decode cX12_aKey 89 = .ok (.ireturn, 1) := by decide +kernel
theorem dX12_aKey_54 : decode cX12_aKey 54 = .ok (.aload_n 0, 1) := by decide +kernel
theorem dX12_aKey_55 : decode cX12_aKey 55 = .ok (.iconst 3, 1) := by decide +kernel
theorem dX12_aKey_56 : decode cX12_aKey 56 = .ok (.invokevirtual 187, 3) := by decide +kernel
theorem dX12_aKey_59 : decode cX12_aKey 59 = .ok (.ireturn, 1) := by decide +kernel
theorem dX12_aKey_33 : decode cX12_aKey 33 = .ok (.aload_n 0, 1) := by decide +kernel
theorem dX12_aKey_34 : decode cX12_aKey 34 = .ok (.iconst 2, 1) := by decide +kernel
theorem dX12_aKey_35 : decode cX12_aKey 35 = .ok (.invokevirtual 187, 3) := by decide +kernel
theorem dX12_aKey_38 : decode cX12_aKey 38 = .ok (.ireturn, 1) := by decide +kernel
theorem dX12_aKey_16 : decode cX12_aKey 16 = .ok (.aload_n 0, 1) := by decide +kernel
theorem dX12_aKey_17 : decode cX12_aKey 17 = .ok (.iconst 5, 1) := by decide +kernel
theorem dX12_aKey_18 : decode cX12_aKey 18 = .ok (.invokevirtual 187, 3) := by decide +kernel
theorem dX12_aKey_21 : decode cX12_aKey 21 = .ok (.ireturn, 1) := by decide +kernel
def rm_X12_aKey : Room := { frames := 6, cells := 0, slots := 0, locals := 131 }
set_option maxHeartbeats 4000000 in
set_option maxRecDepth 100000 in
theorem s_X12_aKey (l : Launch) (D : va_G) (cy : Nat → ClassId) (L : List Nat) (R O : Nat → Nat) (f0 : Nat → va_E) (a0 : Nat) (m_a0 : a0 ∈ L) (r_a0 : R a0 = 12) (GA : Nat) (m_GA : GA ∈ L) (r_GA : R GA = 61) (t_GA : fld f0 a0 0 = .ref GA) (GP : Nat) (m_GP : GP ∈ L) (r_GP : R GP = 69) (t_GP : fld f0 a0 22 = .ref GP) (GL : Nat) (m_GL : GL ∈ L) (r_GL : R GL = 70) (t_GL : fld f0 a0 23 = .ref GL) (GT : Nat) (m_GT : GT ∈ L) (r_GT : R GT = 64) (t_GT : fld f0 a0 6 = .ref GT) (pre0 : RB GA 20760 f0) : ∀ sz, Met l yX12_aKey (Cond.code yX12_aKey cX12_aKey 2 (some .boolean) :: wsL_law) rm_X12_aKey (va_Pc [.ref a0] (tPZ D cy L R (TT cy L R) f0 sz)) (va_Qi (fun (r : Int32) f1 => fr L R [(12, 11), (12, 12), (12, 13), (12, 14), (12, 16), (12, 17)] [12, 61] f0 f1 ∧ 0 ≤ r.toInt ∧ r.toInt ≤ 1 ∧ KW (20760) (20788) GA f0 f1 ∧ elj f1 GA 20761 = elj f0 GA 20761 ∧ elj f1 GA 20762 = elj f0 GA 20762 ∧ elj f1 GA 20763 = elj f0 GA 20763 ∧ (r.toInt = 0 ∨ elj f1 GA 20760 = elj f0 GA 20760 + 1) ∧ elj f0 GA 20760 ≤ elj f1 GA 20760 ∧ RB GA 20760 f1) (tB D (tA L sz) L R (TT cy L R)) (tA L sz)) 0 0 (tA L sz) := by
  refine tw_enteri (by decide +kernel) rfl (Nat.le_of_ble_eq_true rfl) ?_
  intro p e s m below meth c A ls args Q F hZ h hl hret
  have hl : lv_has ls 2 [(0, .ref a0)] := hl
  have hk : fr L R [(12, 11), (12, 12), (12, 13), (12, 14), (12, 16), (12, 17)] [12, 61] f0 f0 := fr.rf
  have hA : KW (20760) (20788) GA f0 f0 := KW.rf
  have hqk0 : elj f0 GA 20760 = elj f0 GA 20760 := rfl
  have hqk1 : elj f0 GA 20761 = elj f0 GA 20761 := rfl
  have hqk2 : elj f0 GA 20762 = elj f0 GA 20762 := rfl
  have hqk3 : elj f0 GA 20763 = elj f0 GA 20763 := rfl
  refine lv_aload_n F.1 F.2.1 dX12_aKey_0 rfl (lv_at hl 0 rfl) ?_
  refine g_12_7 F h m_a0 r_a0 dX12_aKey_1 (fun o1 m_o1 r_o1 ho1 => ?_)
  obtain rfl := (fld_inj t_GA ho1).symm
  refine tw_sipush F dX12_aKey_4 ks_20760 (fun z2 hz2 => ?_)
  refine le_61 F h m_GA r_GA (by omega) dX12_aKey_7 (fun v3 ev3 hv3a => ?_)
  have hv3b := clP_1.mp (atb hv3a (ac_c (b := 20760) 0 isB_n (by decide) (by omega) rfl))
  have u7 : v3.toInt = elj f0 GA (20760) := by rw [ev3, show z2.toInt.toNat = 20760 by omega]
  refine tw_l2i F dX12_aKey_8 (by omega) (by omega) (fun z4 hz4 => ?_)
  refine lv_istore_n (lv' := [(1, .int z4), (0, .ref a0)]) F.1 F.2.1 dX12_aKey_9 rfl hl (by decide) rfl (fun ls hl => ?_)
  refine lv_iload_n F.1 F.2.1 dX12_aKey_10 rfl (lv_at hl 0 rfl) ?_
  refine tw_bipush F dX12_aKey_11 kb_12 (fun z5 hz5 => ?_)
  refine tw_icmp_ne (tgt := 22) F dX12_aKey_13 (by decide) (fun b6 => ?_) (fun b6 => ?_)
  · refine lv_aload_n F.1 F.2.1 dX12_aKey_22 rfl (lv_at hl 1 rfl) ?_
    refine tw_Vv (As := []) F hZ h yk_X12_ahead0 mw_468 mw_469 mw_470 (s_X12_ahead0 l D cy L R O f0 a0 m_a0 r_a0) rfl rfl m_a0 r_a0 (fun e q => (T_12 e).mp q) rfl hl.1 rfl (Nat.le_of_ble_eq_true rfl) ⟨Nat.le_of_ble_eq_true rfl, Nat.le_of_ble_eq_true rfl⟩ ⟨Nat.le_of_ble_eq_true rfl, Nat.le_of_ble_eq_true rfl⟩ dX12_aKey_23 (fun f7 H locs hp7 h => ?_)
    obtain ⟨hf7, hv8p0⟩ := hp7
    have hA : KW (20760) (20788) GA f0 f7 := hA.fm hf7 m_GA r_GA (by decide +kernel)
    have hqk0 : elj f7 GA 20760 = elj f0 GA 20760 := (hf7.eelj m_GA r_GA (by decide +kernel) _).trans hqk0
    have hqk1 : elj f7 GA 20761 = elj f0 GA 20761 := (hf7.eelj m_GA r_GA (by decide +kernel) _).trans hqk1
    have hqk2 : elj f7 GA 20762 = elj f0 GA 20762 := (hf7.eelj m_GA r_GA (by decide +kernel) _).trans hqk2
    have hqk3 : elj f7 GA 20763 = elj f0 GA 20763 := (hf7.eelj m_GA r_GA (by decide +kernel) _).trans hqk3
    have hk : fr L R [(12, 11), (12, 12), (12, 13), (12, 14), (12, 16), (12, 17)] [12, 61] f0 f7 := hk.tr hf7 rfl rfl
    have e9 : fld f7 a0 0 = .ref GA := (hf7.efl m_a0 r_a0 rfl).trans t_GA
    have e10 : fld f7 a0 22 = .ref GP := (hf7.efl m_a0 r_a0 rfl).trans t_GP
    have e11 : fld f7 a0 23 = .ref GL := (hf7.efl m_a0 r_a0 rfl).trans t_GL
    have e12 : fld f7 a0 6 = .ref GT := (hf7.efl m_a0 r_a0 rfl).trans t_GT
    refine lv_aload_n F.1 F.2.1 dX12_aKey_26 rfl (lv_at hl 1 rfl) ?_
    refine tw_Vi (As := []) F hZ h yk_X12_isName mw_700 mw_701 mw_702 (s_X12_isName l D cy L R O f7 a0 m_a0 r_a0) rfl rfl m_a0 r_a0 (fun e q => (T_12 e).mp q) rfl hl.1 rfl (Nat.le_of_ble_eq_true rfl) ⟨Nat.le_of_ble_eq_true rfl, Nat.le_of_ble_eq_true rfl⟩ ⟨Nat.le_of_ble_eq_true rfl, Nat.le_of_ble_eq_true rfl⟩ dX12_aKey_27 (fun v14 f13 H locs hp13 h => ?_)
    obtain ⟨rfl, hv14a, hv14b, hv14p0⟩ := hp13
    refine tw_if_ne (tgt := 39) F dX12_aKey_30 (by decide) (fun b15 => ?_) (fun b15 => ?_)
    · refine lv_aload_n F.1 F.2.1 dX12_aKey_39 rfl (lv_at hl 1 rfl) ?_
      refine tw_sipush F dX12_aKey_40 ks_20760 (fun z16 hz16 => ?_)
      refine lv_aload_n F.1 F.2.1 dX12_aKey_43 rfl (lv_at hl 1 rfl) ?_
      refine tw_Vl (As := []) F hZ h yk_X12_wordHere mw_491 mw_492 mw_493 (s_X12_wordHere l D cy L R O f7 a0 m_a0 r_a0) rfl rfl m_a0 r_a0 (fun e q => (T_12 e).mp q) rfl hl.1 rfl (Nat.le_of_ble_eq_true rfl) ⟨Nat.le_of_ble_eq_true rfl, Nat.le_of_ble_eq_true rfl⟩ ⟨Nat.le_of_ble_eq_true rfl, Nat.le_of_ble_eq_true rfl⟩ dX12_aKey_44 (fun v18 f17 H locs hp17 h => ?_)
      obtain rfl := hp17
      refine tw_Vi (As := [.int z16, .long v18]) F hZ h yk_X12_keyNamed mw_708 mw_709 mw_710 (s_X12_keyNamed l D cy L R O f7 a0 m_a0 r_a0 z16 ⟨by omega, by omega⟩ v18 (isB_e isB_n (by omega))) rfl rfl m_a0 r_a0 (fun e q => (T_12 e).mp q) rfl hl.1 rfl (Nat.le_of_ble_eq_true rfl) ⟨Nat.le_of_ble_eq_true rfl, Nat.le_of_ble_eq_true rfl⟩ ⟨Nat.le_of_ble_eq_true rfl, Nat.le_of_ble_eq_true rfl⟩ dX12_aKey_47 (fun v20 f19 H locs hp19 h => ?_)
      obtain ⟨rfl, hv20a, hv20b⟩ := hp19
      refine tw_iconst F dX12_aKey_50 ki_m1 (fun z21 hz21 => ?_)
      refine tw_icmp_eq (tgt := 60) F dX12_aKey_51 (by decide) (fun b22 => ?_) (fun b22 => ?_)
      · refine lv_aload_n F.1 F.2.1 dX12_aKey_60 rfl (lv_at hl 1 rfl) ?_
        refine g_12_7 F h m_a0 r_a0 dX12_aKey_61 (fun o23 m_o23 r_o23 ho23 => ?_)
        obtain rfl := (fld_inj e9 ho23).symm
        refine tw_sipush F dX12_aKey_64 ks_20764 (fun z24 hz24 => ?_)
        refine tw_iconst F dX12_aKey_67 ki_2 (fun z25 hz25 => ?_)
        refine lv_iload_n F.1 F.2.1 dX12_aKey_68 rfl (lv_at hl 0 rfl) ?_
        refine tu_imull F dX12_aKey_69 hz25 (by omega) (fun z26 hz26 => ?_)
        refine tu_iadd F dX12_aKey_70 (by omega) (fun z27 hz27 => ?_)
        refine lv_aload_n F.1 F.2.1 dX12_aKey_71 rfl (lv_at hl 1 rfl) ?_
        refine tw_Vl (As := []) F hZ h yk_X12_wordHere mw_491 mw_492 mw_493 (s_X12_wordHere l D cy L R O f7 a0 m_a0 r_a0) rfl rfl m_a0 r_a0 (fun e q => (T_12 e).mp q) rfl hl.1 rfl (Nat.le_of_ble_eq_true rfl) ⟨Nat.le_of_ble_eq_true rfl, Nat.le_of_ble_eq_true rfl⟩ ⟨Nat.le_of_ble_eq_true rfl, Nat.le_of_ble_eq_true rfl⟩ dX12_aKey_72 (fun v29 f28 H locs hp28 h => ?_)
        obtain rfl := hp28
        refine se_61 F h m_GA r_GA (by omega) (atS (ac_k0 (b := 20760) isB_n (by omega)) clP_0) dX12_aKey_75 (fun f30 H locs e30a e30b hf30 h => ?_)
        have hA : KW (20760) (20788) GA f0 f30 := hA.st e30a (by omega)
        have hqk0 : elj f30 GA 20760 = elj f0 GA 20760 := ((e30a _).trans (if_neg (by omega))).trans hqk0
        have hqk1 : elj f30 GA 20761 = elj f0 GA 20761 := ((e30a _).trans (if_neg (by omega))).trans hqk1
        have hqk2 : elj f30 GA 20762 = elj f0 GA 20762 := ((e30a _).trans (if_neg (by omega))).trans hqk2
        have hqk3 : elj f30 GA 20763 = elj f0 GA 20763 := ((e30a _).trans (if_neg (by omega))).trans hqk3
        have hk : fr L R [(12, 11), (12, 12), (12, 13), (12, 14), (12, 16), (12, 17)] [12, 61] f0 f30 := hk.tr hf30 rfl rfl
        have e31 : fld f30 a0 0 = .ref GA := (hf30.efl m_a0 r_a0 rfl).trans e9
        have e32 : fld f30 a0 22 = .ref GP := (hf30.efl m_a0 r_a0 rfl).trans e10
        have e33 : fld f30 a0 23 = .ref GL := (hf30.efl m_a0 r_a0 rfl).trans e11
        have e34 : fld f30 a0 6 = .ref GT := (hf30.efl m_a0 r_a0 rfl).trans e12
        refine lv_aload_n F.1 F.2.1 dX12_aKey_76 rfl (lv_at hl 1 rfl) ?_
        refine tw_Vv (As := []) F hZ h yk_X12_ahead0 mw_468 mw_469 mw_470 (s_X12_ahead0 l D cy L R O f30 a0 m_a0 r_a0) rfl rfl m_a0 r_a0 (fun e q => (T_12 e).mp q) rfl hl.1 rfl (Nat.le_of_ble_eq_true rfl) ⟨Nat.le_of_ble_eq_true rfl, Nat.le_of_ble_eq_true rfl⟩ ⟨Nat.le_of_ble_eq_true rfl, Nat.le_of_ble_eq_true rfl⟩ dX12_aKey_77 (fun f35 H locs hp35 h => ?_)
        obtain ⟨hf35, hv36p0⟩ := hp35
        have hA : KW (20760) (20788) GA f0 f35 := hA.fm hf35 m_GA r_GA (by decide +kernel)
        have hqk0 : elj f35 GA 20760 = elj f0 GA 20760 := (hf35.eelj m_GA r_GA (by decide +kernel) _).trans hqk0
        have hqk1 : elj f35 GA 20761 = elj f0 GA 20761 := (hf35.eelj m_GA r_GA (by decide +kernel) _).trans hqk1
        have hqk2 : elj f35 GA 20762 = elj f0 GA 20762 := (hf35.eelj m_GA r_GA (by decide +kernel) _).trans hqk2
        have hqk3 : elj f35 GA 20763 = elj f0 GA 20763 := (hf35.eelj m_GA r_GA (by decide +kernel) _).trans hqk3
        have hk : fr L R [(12, 11), (12, 12), (12, 13), (12, 14), (12, 16), (12, 17)] [12, 61] f0 f35 := hk.tr hf35 rfl rfl
        have e37 : fld f35 a0 0 = .ref GA := (hf35.efl m_a0 r_a0 rfl).trans e31
        have e38 : fld f35 a0 22 = .ref GP := (hf35.efl m_a0 r_a0 rfl).trans e32
        have e39 : fld f35 a0 23 = .ref GL := (hf35.efl m_a0 r_a0 rfl).trans e33
        have e40 : fld f35 a0 6 = .ref GT := (hf35.efl m_a0 r_a0 rfl).trans e34
        refine lv_aload_n F.1 F.2.1 dX12_aKey_80 rfl (lv_at hl 1 rfl) ?_
        refine tw_iconst F dX12_aKey_81 ki_2 (fun z41 hz41 => ?_)
        refine tw_Vi (As := [.int z41]) F hZ h yk_X12_wantWord mw_712 mw_713 mw_714 (s_X12_wantWord l D cy L R O f35 a0 m_a0 r_a0 z41 ⟨by omega, by omega⟩) rfl rfl m_a0 r_a0 (fun e q => (T_12 e).mp q) rfl hl.1 rfl (Nat.le_of_ble_eq_true rfl) ⟨Nat.le_of_ble_eq_true rfl, Nat.le_of_ble_eq_true rfl⟩ ⟨Nat.le_of_ble_eq_true rfl, Nat.le_of_ble_eq_true rfl⟩ dX12_aKey_82 (fun v43 f42 H locs hp42 h => ?_)
        obtain ⟨hf42, hv43a, hv43b⟩ := hp42
        have hA : KW (20760) (20788) GA f0 f42 := hA.fm hf42 m_GA r_GA (by decide +kernel)
        have hqk0 : elj f42 GA 20760 = elj f0 GA 20760 := (hf42.eelj m_GA r_GA (by decide +kernel) _).trans hqk0
        have hqk1 : elj f42 GA 20761 = elj f0 GA 20761 := (hf42.eelj m_GA r_GA (by decide +kernel) _).trans hqk1
        have hqk2 : elj f42 GA 20762 = elj f0 GA 20762 := (hf42.eelj m_GA r_GA (by decide +kernel) _).trans hqk2
        have hqk3 : elj f42 GA 20763 = elj f0 GA 20763 := (hf42.eelj m_GA r_GA (by decide +kernel) _).trans hqk3
        have hk : fr L R [(12, 11), (12, 12), (12, 13), (12, 14), (12, 16), (12, 17)] [12, 61] f0 f42 := hk.tr hf42 rfl rfl
        have e44 : fld f42 a0 0 = .ref GA := (hf42.efl m_a0 r_a0 rfl).trans e37
        have e45 : fld f42 a0 22 = .ref GP := (hf42.efl m_a0 r_a0 rfl).trans e38
        have e46 : fld f42 a0 23 = .ref GL := (hf42.efl m_a0 r_a0 rfl).trans e39
        have e47 : fld f42 a0 6 = .ref GT := (hf42.efl m_a0 r_a0 rfl).trans e40
        refine tw_if_ne (tgt := 90) F dX12_aKey_85 (by decide) (fun b48 => ?_) (fun b48 => ?_)
        · refine lv_aload_n F.1 F.2.1 dX12_aKey_90 rfl (lv_at hl 1 rfl) ?_
          refine g_12_167 F h m_a0 r_a0 dX12_aKey_91 (fun v49 hv49 hv49a hv49b => ?_)
          refine tw_iconst F dX12_aKey_94 ki_3 (fun z50 hz50 => ?_)
          refine tw_icmp_eq (tgt := 104) F dX12_aKey_95 (by decide) (fun b51 => ?_) (fun b51 => ?_)
          · refine lv_aload_n F.1 F.2.1 dX12_aKey_104 rfl (lv_at hl 1 rfl) ?_
            refine g_12_7 F h m_a0 r_a0 dX12_aKey_105 (fun o52 m_o52 r_o52 ho52 => ?_)
            obtain rfl := (fld_inj e44 ho52).symm
            refine tw_sipush F dX12_aKey_108 ks_20764 (fun z53 hz53 => ?_)
            refine tw_iconst F dX12_aKey_111 ki_2 (fun z54 hz54 => ?_)
            refine lv_iload_n F.1 F.2.1 dX12_aKey_112 rfl (lv_at hl 0 rfl) ?_
            refine tu_imull F dX12_aKey_113 hz54 (by omega) (fun z55 hz55 => ?_)
            refine tu_iadd F dX12_aKey_114 (by omega) (fun z56 hz56 => ?_)
            refine tw_iconst F dX12_aKey_115 ki_1 (fun z57 hz57 => ?_)
            refine tu_iadd F dX12_aKey_116 (by omega) (fun z58 hz58 => ?_)
            refine lv_aload_n F.1 F.2.1 dX12_aKey_117 rfl (lv_at hl 1 rfl) ?_
            refine g_12_164 F h m_a0 r_a0 dX12_aKey_118 (fun v59 hv59 => ?_)
            refine tu_i2l F dX12_aKey_121 (fun z60 hz60 hz60a hz60b => ?_)
            refine se_61 F h m_GA r_GA (by omega) (atS (ac_k0 (b := 20760) isB_n (by omega)) clP_0) dX12_aKey_122 (fun f61 H locs e61a e61b hf61 h => ?_)
            have hA : KW (20760) (20788) GA f0 f61 := hA.st e61a (by omega)
            have hqk0 : elj f61 GA 20760 = elj f0 GA 20760 := ((e61a _).trans (if_neg (by omega))).trans hqk0
            have hqk1 : elj f61 GA 20761 = elj f0 GA 20761 := ((e61a _).trans (if_neg (by omega))).trans hqk1
            have hqk2 : elj f61 GA 20762 = elj f0 GA 20762 := ((e61a _).trans (if_neg (by omega))).trans hqk2
            have hqk3 : elj f61 GA 20763 = elj f0 GA 20763 := ((e61a _).trans (if_neg (by omega))).trans hqk3
            have hk : fr L R [(12, 11), (12, 12), (12, 13), (12, 14), (12, 16), (12, 17)] [12, 61] f0 f61 := hk.tr hf61 rfl rfl
            have e62 : fld f61 a0 0 = .ref GA := (hf61.efl m_a0 r_a0 rfl).trans e44
            have e63 : fld f61 a0 22 = .ref GP := (hf61.efl m_a0 r_a0 rfl).trans e45
            have e64 : fld f61 a0 23 = .ref GL := (hf61.efl m_a0 r_a0 rfl).trans e46
            have e65 : fld f61 a0 6 = .ref GT := (hf61.efl m_a0 r_a0 rfl).trans e47
            refine lv_aload_n F.1 F.2.1 dX12_aKey_123 rfl (lv_at hl 1 rfl) ?_
            refine g_12_7 F h m_a0 r_a0 dX12_aKey_124 (fun o66 m_o66 r_o66 ho66 => ?_)
            obtain rfl := (fld_inj e62 ho66).symm
            refine tw_sipush F dX12_aKey_127 ks_20760 (fun z67 hz67 => ?_)
            refine lv_dup2_11 F.1 F.2.1 dX12_aKey_130 rfl rfl ?_
            refine le_61 F h m_GA r_GA (by omega) dX12_aKey_131 (fun v68 ev68 hv68a => ?_)
            have hv68b := clP_1.mp (atb hv68a (ac_c (b := 20760) 0 isB_n (by decide) (by omega) rfl))
            have u131 : v68.toInt = elj f61 GA (20760) := by rw [ev68, show z67.toInt.toNat = 20760 by omega]
            refine tu_lconst F dX12_aKey_132 (by decide) (fun z69 (hz69 : z69.toInt = 1) => ?_)
            refine tu_ladd F dX12_aKey_133 (by omega) (fun z70 hz70 => ?_)
            refine se_61 F h m_GA r_GA (by omega) (atS (ac_c (b := 20760) 0 isB_n (by decide) (by omega) rfl) (clP_1.mpr (by omega))) dX12_aKey_134 (fun f71 H locs e71a e71b hf71 h => ?_)
            have hA : KW (20760) (20788) GA f0 f71 := hA.st e71a (by omega)
            have hqk1 : elj f71 GA 20761 = elj f0 GA 20761 := ((e71a _).trans (if_neg (by omega))).trans hqk1
            have hqk2 : elj f71 GA 20762 = elj f0 GA 20762 := ((e71a _).trans (if_neg (by omega))).trans hqk2
            have hqk3 : elj f71 GA 20763 = elj f0 GA 20763 := ((e71a _).trans (if_neg (by omega))).trans hqk3
            have hk : fr L R [(12, 11), (12, 12), (12, 13), (12, 14), (12, 16), (12, 17)] [12, 61] f0 f71 := hk.tr hf71 rfl rfl
            have e72 : fld f71 a0 0 = .ref GA := (hf71.efl m_a0 r_a0 rfl).trans e62
            have e73 : fld f71 a0 22 = .ref GP := (hf71.efl m_a0 r_a0 rfl).trans e63
            have e74 : fld f71 a0 23 = .ref GL := (hf71.efl m_a0 r_a0 rfl).trans e64
            have e75 : fld f71 a0 6 = .ref GT := (hf71.efl m_a0 r_a0 rfl).trans e65
            have hqk0 : elj f71 GA 20760 = elj f0 GA 20760 + 1 := by rw [e71a, if_pos (by omega)]; omega
            refine lv_aload_n F.1 F.2.1 dX12_aKey_135 rfl (lv_at hl 1 rfl) ?_
            refine tw_Vv (As := []) F hZ h yk_X12_ahead0 mw_468 mw_469 mw_470 (s_X12_ahead0 l D cy L R O f71 a0 m_a0 r_a0) rfl rfl m_a0 r_a0 (fun e q => (T_12 e).mp q) rfl hl.1 rfl (Nat.le_of_ble_eq_true rfl) ⟨Nat.le_of_ble_eq_true rfl, Nat.le_of_ble_eq_true rfl⟩ ⟨Nat.le_of_ble_eq_true rfl, Nat.le_of_ble_eq_true rfl⟩ dX12_aKey_136 (fun f76 H locs hp76 h => ?_)
            obtain ⟨hf76, hv77p0⟩ := hp76
            have hA : KW (20760) (20788) GA f0 f76 := hA.fm hf76 m_GA r_GA (by decide +kernel)
            have hqk1 : elj f76 GA 20761 = elj f0 GA 20761 := (hf76.eelj m_GA r_GA (by decide +kernel) _).trans hqk1
            have hqk2 : elj f76 GA 20762 = elj f0 GA 20762 := (hf76.eelj m_GA r_GA (by decide +kernel) _).trans hqk2
            have hqk3 : elj f76 GA 20763 = elj f0 GA 20763 := (hf76.eelj m_GA r_GA (by decide +kernel) _).trans hqk3
            have hqk0 : elj f76 GA 20760 = elj f0 GA 20760 + 1 := (hf76.eelj m_GA r_GA (by decide +kernel) _).trans hqk0
            have hk : fr L R [(12, 11), (12, 12), (12, 13), (12, 14), (12, 16), (12, 17)] [12, 61] f0 f76 := hk.tr hf76 rfl rfl
            have e78 : fld f76 a0 0 = .ref GA := (hf76.efl m_a0 r_a0 rfl).trans e72
            have e79 : fld f76 a0 22 = .ref GP := (hf76.efl m_a0 r_a0 rfl).trans e73
            have e80 : fld f76 a0 23 = .ref GL := (hf76.efl m_a0 r_a0 rfl).trans e74
            have e81 : fld f76 a0 6 = .ref GT := (hf76.efl m_a0 r_a0 rfl).trans e75
            refine tw_iconst F dX12_aKey_139 ki_1 (fun z82 hz82 => ?_)
            exact hret f76 _ _ _ _ z82 dX12_aKey_140 (tw_nb (by omega)) ⟨hk, by omega, by omega, hA, hqk1, hqk2, hqk3, by omega, by omega, RB_n pre0 hA (by omega) hqk1 hqk3⟩ h
          · refine lv_aload_n F.1 F.2.1 dX12_aKey_98 rfl (lv_at hl 1 rfl) ?_
            refine tw_iconst F dX12_aKey_99 ki_2 (fun z83 hz83 => ?_)
            refine tw_Vi (As := [.int z83]) F hZ h yk_X12_fails mw_487 mw_488 mw_489 (s_X12_fails l D cy L R O f42 a0 m_a0 r_a0 z83 ⟨by omega, by omega⟩) rfl rfl m_a0 r_a0 (fun e q => (T_12 e).mp q) rfl hl.1 rfl (Nat.le_of_ble_eq_true rfl) ⟨Nat.le_of_ble_eq_true rfl, Nat.le_of_ble_eq_true rfl⟩ ⟨Nat.le_of_ble_eq_true rfl, Nat.le_of_ble_eq_true rfl⟩ dX12_aKey_100 (fun v85 f84 H locs hp84 h => ?_)
            obtain ⟨hf84, hv85a, hv85b⟩ := hp84
            have hA : KW (20760) (20788) GA f0 f84 := hA.fm hf84 m_GA r_GA (by decide +kernel)
            have hqk0 : elj f84 GA 20760 = elj f0 GA 20760 := (hf84.eelj m_GA r_GA (by decide +kernel) _).trans hqk0
            have hqk1 : elj f84 GA 20761 = elj f0 GA 20761 := (hf84.eelj m_GA r_GA (by decide +kernel) _).trans hqk1
            have hqk2 : elj f84 GA 20762 = elj f0 GA 20762 := (hf84.eelj m_GA r_GA (by decide +kernel) _).trans hqk2
            have hqk3 : elj f84 GA 20763 = elj f0 GA 20763 := (hf84.eelj m_GA r_GA (by decide +kernel) _).trans hqk3
            have hk : fr L R [(12, 11), (12, 12), (12, 13), (12, 14), (12, 16), (12, 17)] [12, 61] f0 f84 := hk.tr hf84 rfl rfl
            have e86 : fld f84 a0 0 = .ref GA := (hf84.efl m_a0 r_a0 rfl).trans e44
            have e87 : fld f84 a0 22 = .ref GP := (hf84.efl m_a0 r_a0 rfl).trans e45
            have e88 : fld f84 a0 23 = .ref GL := (hf84.efl m_a0 r_a0 rfl).trans e46
            have e89 : fld f84 a0 6 = .ref GT := (hf84.efl m_a0 r_a0 rfl).trans e47
            exact hret f84 _ _ _ _ v85 dX12_aKey_103 (tw_nb (by omega)) ⟨hk, by omega, by omega, hA, hqk1, hqk2, hqk3, by omega, by omega, RB_n pre0 hA (by omega) hqk1 hqk3⟩ h
        · refine tw_iconst F dX12_aKey_88 ki_0 (fun z90 hz90 => ?_)
          exact hret f42 _ _ _ _ z90 dX12_aKey_89 (tw_nb (by omega)) ⟨hk, by omega, by omega, hA, hqk1, hqk2, hqk3, by omega, by omega, RB_n pre0 hA (by omega) hqk1 hqk3⟩ h
      · refine lv_aload_n F.1 F.2.1 dX12_aKey_54 rfl (lv_at hl 1 rfl) ?_
        refine tw_iconst F dX12_aKey_55 ki_3 (fun z91 hz91 => ?_)
        refine tw_Vi (As := [.int z91]) F hZ h yk_X12_fails mw_487 mw_488 mw_489 (s_X12_fails l D cy L R O f7 a0 m_a0 r_a0 z91 ⟨by omega, by omega⟩) rfl rfl m_a0 r_a0 (fun e q => (T_12 e).mp q) rfl hl.1 rfl (Nat.le_of_ble_eq_true rfl) ⟨Nat.le_of_ble_eq_true rfl, Nat.le_of_ble_eq_true rfl⟩ ⟨Nat.le_of_ble_eq_true rfl, Nat.le_of_ble_eq_true rfl⟩ dX12_aKey_56 (fun v93 f92 H locs hp92 h => ?_)
        obtain ⟨hf92, hv93a, hv93b⟩ := hp92
        have hA : KW (20760) (20788) GA f0 f92 := hA.fm hf92 m_GA r_GA (by decide +kernel)
        have hqk0 : elj f92 GA 20760 = elj f0 GA 20760 := (hf92.eelj m_GA r_GA (by decide +kernel) _).trans hqk0
        have hqk1 : elj f92 GA 20761 = elj f0 GA 20761 := (hf92.eelj m_GA r_GA (by decide +kernel) _).trans hqk1
        have hqk2 : elj f92 GA 20762 = elj f0 GA 20762 := (hf92.eelj m_GA r_GA (by decide +kernel) _).trans hqk2
        have hqk3 : elj f92 GA 20763 = elj f0 GA 20763 := (hf92.eelj m_GA r_GA (by decide +kernel) _).trans hqk3
        have hk : fr L R [(12, 11), (12, 12), (12, 13), (12, 14), (12, 16), (12, 17)] [12, 61] f0 f92 := hk.tr hf92 rfl rfl
        have e94 : fld f92 a0 0 = .ref GA := (hf92.efl m_a0 r_a0 rfl).trans e9
        have e95 : fld f92 a0 22 = .ref GP := (hf92.efl m_a0 r_a0 rfl).trans e10
        have e96 : fld f92 a0 23 = .ref GL := (hf92.efl m_a0 r_a0 rfl).trans e11
        have e97 : fld f92 a0 6 = .ref GT := (hf92.efl m_a0 r_a0 rfl).trans e12
        exact hret f92 _ _ _ _ v93 dX12_aKey_59 (tw_nb (by omega)) ⟨hk, by omega, by omega, hA, hqk1, hqk2, hqk3, by omega, by omega, RB_n pre0 hA (by omega) hqk1 hqk3⟩ h
    · refine lv_aload_n F.1 F.2.1 dX12_aKey_33 rfl (lv_at hl 1 rfl) ?_
      refine tw_iconst F dX12_aKey_34 ki_2 (fun z98 hz98 => ?_)
      refine tw_Vi (As := [.int z98]) F hZ h yk_X12_fails mw_487 mw_488 mw_489 (s_X12_fails l D cy L R O f7 a0 m_a0 r_a0 z98 ⟨by omega, by omega⟩) rfl rfl m_a0 r_a0 (fun e q => (T_12 e).mp q) rfl hl.1 rfl (Nat.le_of_ble_eq_true rfl) ⟨Nat.le_of_ble_eq_true rfl, Nat.le_of_ble_eq_true rfl⟩ ⟨Nat.le_of_ble_eq_true rfl, Nat.le_of_ble_eq_true rfl⟩ dX12_aKey_35 (fun v100 f99 H locs hp99 h => ?_)
      obtain ⟨hf99, hv100a, hv100b⟩ := hp99
      have hA : KW (20760) (20788) GA f0 f99 := hA.fm hf99 m_GA r_GA (by decide +kernel)
      have hqk0 : elj f99 GA 20760 = elj f0 GA 20760 := (hf99.eelj m_GA r_GA (by decide +kernel) _).trans hqk0
      have hqk1 : elj f99 GA 20761 = elj f0 GA 20761 := (hf99.eelj m_GA r_GA (by decide +kernel) _).trans hqk1
      have hqk2 : elj f99 GA 20762 = elj f0 GA 20762 := (hf99.eelj m_GA r_GA (by decide +kernel) _).trans hqk2
      have hqk3 : elj f99 GA 20763 = elj f0 GA 20763 := (hf99.eelj m_GA r_GA (by decide +kernel) _).trans hqk3
      have hk : fr L R [(12, 11), (12, 12), (12, 13), (12, 14), (12, 16), (12, 17)] [12, 61] f0 f99 := hk.tr hf99 rfl rfl
      have e101 : fld f99 a0 0 = .ref GA := (hf99.efl m_a0 r_a0 rfl).trans e9
      have e102 : fld f99 a0 22 = .ref GP := (hf99.efl m_a0 r_a0 rfl).trans e10
      have e103 : fld f99 a0 23 = .ref GL := (hf99.efl m_a0 r_a0 rfl).trans e11
      have e104 : fld f99 a0 6 = .ref GT := (hf99.efl m_a0 r_a0 rfl).trans e12
      exact hret f99 _ _ _ _ v100 dX12_aKey_38 (tw_nb (by omega)) ⟨hk, by omega, by omega, hA, hqk1, hqk2, hqk3, by omega, by omega, RB_n pre0 hA (by omega) hqk1 hqk3⟩ h
  · refine lv_aload_n F.1 F.2.1 dX12_aKey_16 rfl (lv_at hl 1 rfl) ?_
    refine tw_iconst F dX12_aKey_17 ki_5 (fun z105 hz105 => ?_)
    refine tw_Vi (As := [.int z105]) F hZ h yk_X12_fails mw_487 mw_488 mw_489 (s_X12_fails l D cy L R O f0 a0 m_a0 r_a0 z105 ⟨by omega, by omega⟩) rfl rfl m_a0 r_a0 (fun e q => (T_12 e).mp q) rfl hl.1 rfl (Nat.le_of_ble_eq_true rfl) ⟨Nat.le_of_ble_eq_true rfl, Nat.le_of_ble_eq_true rfl⟩ ⟨Nat.le_of_ble_eq_true rfl, Nat.le_of_ble_eq_true rfl⟩ dX12_aKey_18 (fun v107 f106 H locs hp106 h => ?_)
    obtain ⟨hf106, hv107a, hv107b⟩ := hp106
    have hA : KW (20760) (20788) GA f0 f106 := hA.fm hf106 m_GA r_GA (by decide +kernel)
    have hqk0 : elj f106 GA 20760 = elj f0 GA 20760 := (hf106.eelj m_GA r_GA (by decide +kernel) _).trans hqk0
    have hqk1 : elj f106 GA 20761 = elj f0 GA 20761 := (hf106.eelj m_GA r_GA (by decide +kernel) _).trans hqk1
    have hqk2 : elj f106 GA 20762 = elj f0 GA 20762 := (hf106.eelj m_GA r_GA (by decide +kernel) _).trans hqk2
    have hqk3 : elj f106 GA 20763 = elj f0 GA 20763 := (hf106.eelj m_GA r_GA (by decide +kernel) _).trans hqk3
    have hk : fr L R [(12, 11), (12, 12), (12, 13), (12, 14), (12, 16), (12, 17)] [12, 61] f0 f106 := hk.tr hf106 rfl rfl
    have e108 : fld f106 a0 0 = .ref GA := (hf106.efl m_a0 r_a0 rfl).trans t_GA
    have e109 : fld f106 a0 22 = .ref GP := (hf106.efl m_a0 r_a0 rfl).trans t_GP
    have e110 : fld f106 a0 23 = .ref GL := (hf106.efl m_a0 r_a0 rfl).trans t_GL
    have e111 : fld f106 a0 6 = .ref GT := (hf106.efl m_a0 r_a0 rfl).trans t_GT
    exact hret f106 _ _ _ _ v107 dX12_aKey_21 (tw_nb (by omega)) ⟨hk, by omega, by omega, hA, hqk1, hqk2, hqk3, by omega, by omega, RB_n pre0 hA (by omega) hqk1 hqk3⟩ h
