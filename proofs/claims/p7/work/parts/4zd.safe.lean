theorem dX12_aNone_0 : decode cX12_aNone 0 = .ok (.aload_n 0, 1) := by decide +kernel
theorem dX12_aNone_1 : decode cX12_aNone 1 = .ok (.getfield 7, 3) := by decide +kernel
theorem dX12_aNone_4 : decode cX12_aNone 4 = .ok (.sipush 20763, 3) := by decide +kernel
theorem ks_20763 : (Int16.ofInt 20763).toInt32.toInt = 20763 := by decide
theorem dX12_aNone_7 : decode cX12_aNone 7 = .ok (.laload, 1) := by decide +kernel
theorem dX12_aNone_8 : decode cX12_aNone 8 = .ok (.lconst 1, 1) := by decide +kernel
theorem dX12_aNone_9 : decode cX12_aNone 9 = .ok (.lcmp, 1) := by decide +kernel
theorem dX12_aNone_10 : decode cX12_aNone 10 = .ok (.ifCond .ne 9, 3) := by decide +kernel
theorem dX12_aNone_19 : decode cX12_aNone 19 = .ok (.aload_n 0, 1) := by decide +kernel
theorem dX12_aNone_20 : decode cX12_aNone 20 = .ok (.getfield 7, 3) := by decide +kernel
theorem dX12_aNone_23 : decode cX12_aNone 23 = .ok (.sipush 20763, 3) := by decide +kernel
theorem dX12_aNone_26 : decode cX12_aNone 26 = .ok (.lconst 1, 1) := by decide +kernel
theorem dX12_aNone_27 : decode cX12_aNone 27 = .ok (.lastore, 1) := by decide +kernel
theorem dX12_aNone_28 : decode cX12_aNone 28 = .ok (.aload_n 0, 1) := by decide +kernel
theorem dX12_aNone_29 : decode cX12_aNone 29 = .ok (.iconst 0, 1) := by decide +kernel
theorem dX12_aNone_30 : decode cX12_aNone 30 = .ok (.putfield 245, 3) := by decide +kernel
theorem dX12_aNone_33 : decode cX12_aNone 33 = .ok (.aload_n 0, 1) := by decide +kernel
theorem dX12_aNone_34 : decode cX12_aNone 34 = .ok (.invokevirtual 184, 3) := by decide +kernel
theorem dX12_aNone_37 : decode cX12_aNone 37 = .ok (.aload_n 0, 1) := by decide +kernel
theorem dX12_aNone_38 : decode cX12_aNone 38 = .ok (.sipush 22252, 3) := by decide +kernel
theorem ks_22252 : (Int16.ofInt 22252).toInt32.toInt = 22252 := by decide
theorem dX12_aNone_41 : decode cX12_aNone 41 = .ok (.iconst 1, 1) := by decide +kernel
theorem dX12_aNone_42 : decode cX12_aNone 42 = .ok (.invokevirtual 263, 3) := by decide +kernel
theorem dX12_aNone_45 : decode cX12_aNone 45 = .ok (.ireturn, 1) := by decide +kernel
theorem dX12_aNone_13 : decode cX12_aNone 13 = .ok (.aload_n 0, 1) := by decide +kernel
theorem dX12_aNone_14 : decode cX12_aNone 14 = .ok (.iconst 4, 1) := by decide +kernel
theorem dX12_aNone_15 : decode cX12_aNone 15 = .ok (.invokevirtual 187, 3) := by decide +kernel
theorem dX12_aNone_18 : decode cX12_aNone 18 = .ok (.ireturn, 1) := by decide +kernel
def rm_X12_aNone : Room := { frames := 8, cells := 0, slots := 0, locals := 175 }
set_option maxHeartbeats 4000000 in
set_option maxRecDepth 100000 in
theorem s_X12_aNone (l : Launch) (D : va_G) (cy : Nat → ClassId) (L : List Nat) (R O : Nat → Nat) (f0 : Nat → va_E) (a0 : Nat) (m_a0 : a0 ∈ L) (r_a0 : R a0 = 12) (GA : Nat) (m_GA : GA ∈ L) (r_GA : R GA = 61) (t_GA : fld f0 a0 0 = .ref GA) (GP : Nat) (m_GP : GP ∈ L) (r_GP : R GP = 69) (t_GP : fld f0 a0 22 = .ref GP) (GL : Nat) (m_GL : GL ∈ L) (r_GL : R GL = 70) (t_GL : fld f0 a0 23 = .ref GL) (GT : Nat) (m_GT : GT ∈ L) (r_GT : R GT = 64) (t_GT : fld f0 a0 6 = .ref GT) (pre0 : RB GA 20760 f0) : ∀ sz, Met l yX12_aNone (Cond.code yX12_aNone cX12_aNone 1 (some .boolean) :: wsL_law) rm_X12_aNone (va_Pc [.ref a0] (tPZ D cy L R (TT cy L R) f0 sz)) (va_Qi (fun (r : Int32) f1 => fr L R [(12, 11), (12, 12), (12, 13), (12, 14), (12, 16), (12, 17), (12, 19)] [12, 61] f0 f1 ∧ 0 ≤ r.toInt ∧ r.toInt ≤ 1 ∧ KW (20763) (22302) GA f0 f1 ∧ elj f1 GA 20760 = elj f0 GA 20760 ∧ elj f1 GA 20761 = elj f0 GA 20761 ∧ elj f1 GA 20762 = elj f0 GA 20762 ∧ (r.toInt = 0 ∨ elj f1 GA 20763 = elj f0 GA 20763 + 1) ∧ elj f0 GA 20763 ≤ elj f1 GA 20763 ∧ RB GA 20760 f1) (tB D (tA L sz) L R (TT cy L R)) (tA L sz)) 0 0 (tA L sz) := by
  refine tw_enteri (by decide +kernel) rfl (Nat.le_of_ble_eq_true rfl) ?_
  intro p e s m below meth c A ls args Q F hZ h hl hret
  have hl : lv_has ls 1 [(0, .ref a0)] := hl
  have hk : fr L R [(12, 11), (12, 12), (12, 13), (12, 14), (12, 16), (12, 17), (12, 19)] [12, 61] f0 f0 := fr.rf
  have hA : KW (20763) (22302) GA f0 f0 := KW.rf
  have hqk0 : elj f0 GA 20760 = elj f0 GA 20760 := rfl
  have hqk1 : elj f0 GA 20761 = elj f0 GA 20761 := rfl
  have hqk2 : elj f0 GA 20762 = elj f0 GA 20762 := rfl
  have hqk3 : elj f0 GA 20763 = elj f0 GA 20763 := rfl
  have hRN := pre0
  refine lv_aload_n F.1 F.2.1 dX12_aNone_0 rfl (lv_at hl 0 rfl) ?_
  refine g_12_7 F h m_a0 r_a0 dX12_aNone_1 (fun o1 m_o1 r_o1 ho1 => ?_)
  obtain rfl := (fld_inj t_GA ho1).symm
  refine tw_sipush F dX12_aNone_4 ks_20763 (fun z2 hz2 => ?_)
  refine le_61 F h m_GA r_GA (by omega) dX12_aNone_7 (fun v3 ev3 hv3a => ?_)
  have hv3b := clP_3.mp (atb hv3a (ac_c (b := 20760) 3 isB_n (by decide) (by omega) rfl))
  have u7 : v3.toInt = elj f0 GA (20763) := by rw [ev3, show z2.toInt.toNat = 20763 by omega]
  refine tu_lconst F dX12_aNone_8 (by decide) (fun z4 (hz4 : z4.toInt = 1) => ?_)
  refine tw_lcmp F dX12_aNone_9 (fun z5 hz5 => ?_)
  refine tw_if_ne (tgt := 19) F dX12_aNone_10 (by decide) (fun b6 => ?_) (fun b6 => ?_)
  · refine lv_aload_n F.1 F.2.1 dX12_aNone_19 rfl (lv_at hl 0 rfl) ?_
    refine g_12_7 F h m_a0 r_a0 dX12_aNone_20 (fun o7 m_o7 r_o7 ho7 => ?_)
    obtain rfl := (fld_inj t_GA ho7).symm
    refine tw_sipush F dX12_aNone_23 ks_20763 (fun z8 hz8 => ?_)
    refine tu_lconst F dX12_aNone_26 (by decide) (fun z9 (hz9 : z9.toInt = 1) => ?_)
    refine se_61 F h m_GA r_GA (by omega) (atS (ac_c (b := 20760) 3 isB_n (by decide) (by omega) rfl) (clP_3.mpr (by omega))) dX12_aNone_27 (fun f10 H locs e10a e10b hf10 h => ?_)
    have hA : KW (20763) (22302) GA f0 f10 := hA.st e10a (by omega)
    have hqk0 : elj f10 GA 20760 = elj f0 GA 20760 := ((e10a _).trans (if_neg (by omega))).trans hqk0
    have hqk1 : elj f10 GA 20761 = elj f0 GA 20761 := ((e10a _).trans (if_neg (by omega))).trans hqk1
    have hqk2 : elj f10 GA 20762 = elj f0 GA 20762 := ((e10a _).trans (if_neg (by omega))).trans hqk2
    have hk : fr L R [(12, 11), (12, 12), (12, 13), (12, 14), (12, 16), (12, 17), (12, 19)] [12, 61] f0 f10 := hk.tr hf10 rfl rfl
    have e11 : fld f10 a0 0 = .ref GA := (hf10.efl m_a0 r_a0 rfl).trans t_GA
    have e12 : fld f10 a0 22 = .ref GP := (hf10.efl m_a0 r_a0 rfl).trans t_GP
    have e13 : fld f10 a0 23 = .ref GL := (hf10.efl m_a0 r_a0 rfl).trans t_GL
    have e14 : fld f10 a0 6 = .ref GT := (hf10.efl m_a0 r_a0 rfl).trans t_GT
    have hA2 : KW 22252 22302 GA f10 f10 := KW.rf
    have hqk3 : elj f10 GA 20763 = 1 := by rw [e10a, if_pos (by omega)]; omega
    refine lv_aload_n F.1 F.2.1 dX12_aNone_28 rfl (lv_at hl 0 rfl) ?_
    refine tw_iconst F dX12_aNone_29 ki_0 (fun z15 hz15 => ?_)
    refine p_12_245 F h m_a0 r_a0 (by omega) dX12_aNone_30 (fun f16 H locs e16p hf16 h => ?_)
    have hA : KW (20763) (22302) GA f0 f16 := hA.fm hf16 m_GA r_GA (by decide +kernel)
    have hqk0 : elj f16 GA 20760 = elj f0 GA 20760 := (hf16.eelj m_GA r_GA (by decide +kernel) _).trans hqk0
    have hqk1 : elj f16 GA 20761 = elj f0 GA 20761 := (hf16.eelj m_GA r_GA (by decide +kernel) _).trans hqk1
    have hqk2 : elj f16 GA 20762 = elj f0 GA 20762 := (hf16.eelj m_GA r_GA (by decide +kernel) _).trans hqk2
    have hA2 : KW 22252 22302 GA f10 f16 := hA2.fm hf16 m_GA r_GA (by decide +kernel)
    have hqk3 : elj f16 GA 20763 = 1 := (hf16.eelj m_GA r_GA (by decide +kernel) _).trans hqk3
    have hk : fr L R [(12, 11), (12, 12), (12, 13), (12, 14), (12, 16), (12, 17), (12, 19)] [12, 61] f0 f16 := hk.tr hf16 rfl rfl
    have e17 : fld f16 a0 0 = .ref GA := (hf16.efl m_a0 r_a0 rfl).trans e11
    have e18 : fld f16 a0 22 = .ref GP := (hf16.efl m_a0 r_a0 rfl).trans e12
    have e19 : fld f16 a0 23 = .ref GL := (hf16.efl m_a0 r_a0 rfl).trans e13
    have e20 : fld f16 a0 6 = .ref GT := (hf16.efl m_a0 r_a0 rfl).trans e14
    refine lv_aload_n F.1 F.2.1 dX12_aNone_33 rfl (lv_at hl 0 rfl) ?_
    refine tw_Vv (As := []) F hZ h yk_X12_ahead0 mw_468 mw_469 mw_470 (s_X12_ahead0 l D cy L R O f16 a0 m_a0 r_a0) rfl rfl m_a0 r_a0 (fun e q => (T_12 e).mp q) rfl hl.1 rfl (Nat.le_of_ble_eq_true rfl) ⟨Nat.le_of_ble_eq_true rfl, Nat.le_of_ble_eq_true rfl⟩ ⟨Nat.le_of_ble_eq_true rfl, Nat.le_of_ble_eq_true rfl⟩ dX12_aNone_34 (fun f21 H locs hp21 h => ?_)
    obtain ⟨hf21, hv22p0⟩ := hp21
    have hA : KW (20763) (22302) GA f0 f21 := hA.fm hf21 m_GA r_GA (by decide +kernel)
    have hqk0 : elj f21 GA 20760 = elj f0 GA 20760 := (hf21.eelj m_GA r_GA (by decide +kernel) _).trans hqk0
    have hqk1 : elj f21 GA 20761 = elj f0 GA 20761 := (hf21.eelj m_GA r_GA (by decide +kernel) _).trans hqk1
    have hqk2 : elj f21 GA 20762 = elj f0 GA 20762 := (hf21.eelj m_GA r_GA (by decide +kernel) _).trans hqk2
    have hA2 : KW 22252 22302 GA f10 f21 := hA2.fm hf21 m_GA r_GA (by decide +kernel)
    have hqk3 : elj f21 GA 20763 = 1 := (hf21.eelj m_GA r_GA (by decide +kernel) _).trans hqk3
    have hk : fr L R [(12, 11), (12, 12), (12, 13), (12, 14), (12, 16), (12, 17), (12, 19)] [12, 61] f0 f21 := hk.tr hf21 rfl rfl
    have e23 : fld f21 a0 0 = .ref GA := (hf21.efl m_a0 r_a0 rfl).trans e17
    have e24 : fld f21 a0 22 = .ref GP := (hf21.efl m_a0 r_a0 rfl).trans e18
    have e25 : fld f21 a0 23 = .ref GL := (hf21.efl m_a0 r_a0 rfl).trans e19
    have e26 : fld f21 a0 6 = .ref GT := (hf21.efl m_a0 r_a0 rfl).trans e20
    have hT : TW L R a0 f21 := hv22p0
    refine lv_aload_n F.1 F.2.1 dX12_aNone_37 rfl (lv_at hl 0 rfl) ?_
    refine tw_sipush F dX12_aNone_38 ks_22252 (fun z27 hz27 => ?_)
    refine tw_iconst F dX12_aNone_41 ki_1 (fun z28 hz28 => ?_)
    refine tw_Vi (As := [.int z27, .int z28]) F hZ h yk_X12_answers mw_727 mw_728 mw_729 (s_X12_answers l D cy L R O f21 a0 m_a0 r_a0 z27 ⟨by omega, by omega⟩ z28 ⟨by omega, by omega⟩ GA m_GA r_GA e23 GP m_GP r_GP e24 GL m_GL r_GL e25 GT m_GT r_GT e26 (AS_n (b := 20760) isB_n (by omega)) hT) rfl rfl m_a0 r_a0 (fun e q => (T_12 e).mp q) rfl hl.1 rfl (Nat.le_of_ble_eq_true rfl) ⟨Nat.le_of_ble_eq_true rfl, Nat.le_of_ble_eq_true rfl⟩ ⟨Nat.le_of_ble_eq_true rfl, Nat.le_of_ble_eq_true rfl⟩ dX12_aNone_42 (fun v30 f29 H locs hp29 h => ?_)
    obtain ⟨hf29, hv30a, hv30b, hv30p0, hv30p1⟩ := hp29
    have hA : KW (20763) (22302) GA f0 f29 := hA.sub hv30p0 (by omega) (by omega)
    have hqk0 : elj f29 GA 20760 = elj f0 GA 20760 := (hv30p0 _ (by omega)).trans hqk0
    have hqk1 : elj f29 GA 20761 = elj f0 GA 20761 := (hv30p0 _ (by omega)).trans hqk1
    have hqk2 : elj f29 GA 20762 = elj f0 GA 20762 := (hv30p0 _ (by omega)).trans hqk2
    have hA2 : KW 22252 22302 GA f10 f29 := hA2.sub hv30p0 (by omega) (by omega)
    have hqk3 : elj f29 GA 20763 = 1 := (hv30p0 _ (by omega)).trans hqk3
    have hk : fr L R [(12, 11), (12, 12), (12, 13), (12, 14), (12, 16), (12, 17), (12, 19)] [12, 61] f0 f29 := hk.tr hf29 rfl rfl
    have e31 : fld f29 a0 0 = .ref GA := (hf29.efl m_a0 r_a0 rfl).trans e23
    have e32 : fld f29 a0 22 = .ref GP := (hf29.efl m_a0 r_a0 rfl).trans e24
    have e33 : fld f29 a0 23 = .ref GL := (hf29.efl m_a0 r_a0 rfl).trans e25
    have e34 : fld f29 a0 6 = .ref GT := (hf29.efl m_a0 r_a0 rfl).trans e26
    have ha42 : 1 ≤ elj f29 GA 22252 := by have q := hv30p1; rw [show z27.toInt.toNat = 22252 by omega] at q; exact q
    exact hret f29 _ _ _ _ v30 dX12_aNone_45 (tw_nb (by omega)) ⟨hk, by omega, by omega, hA, hqk0, hqk1, hqk2, by omega, by omega, RB_none pre0 e10a (by omega) hA2 ha42⟩ h
  · refine lv_aload_n F.1 F.2.1 dX12_aNone_13 rfl (lv_at hl 0 rfl) ?_
    refine tw_iconst F dX12_aNone_14 ki_4 (fun z35 hz35 => ?_)
    refine tw_Vi (As := [.int z35]) F hZ h yk_X12_fails mw_487 mw_488 mw_489 (s_X12_fails l D cy L R O f0 a0 m_a0 r_a0 z35 ⟨by omega, by omega⟩) rfl rfl m_a0 r_a0 (fun e q => (T_12 e).mp q) rfl hl.1 rfl (Nat.le_of_ble_eq_true rfl) ⟨Nat.le_of_ble_eq_true rfl, Nat.le_of_ble_eq_true rfl⟩ ⟨Nat.le_of_ble_eq_true rfl, Nat.le_of_ble_eq_true rfl⟩ dX12_aNone_15 (fun v37 f36 H locs hp36 h => ?_)
    obtain ⟨hf36, hv37a, hv37b⟩ := hp36
    have hA : KW (20763) (22302) GA f0 f36 := hA.fm hf36 m_GA r_GA (by decide +kernel)
    have hqk0 : elj f36 GA 20760 = elj f0 GA 20760 := (hf36.eelj m_GA r_GA (by decide +kernel) _).trans hqk0
    have hqk1 : elj f36 GA 20761 = elj f0 GA 20761 := (hf36.eelj m_GA r_GA (by decide +kernel) _).trans hqk1
    have hqk2 : elj f36 GA 20762 = elj f0 GA 20762 := (hf36.eelj m_GA r_GA (by decide +kernel) _).trans hqk2
    have hqk3 : elj f36 GA 20763 = elj f0 GA 20763 := (hf36.eelj m_GA r_GA (by decide +kernel) _).trans hqk3
    have hRN : RB GA 20760 f36 := hRN.fm hf36 m_GA r_GA (by decide +kernel)
    have hk : fr L R [(12, 11), (12, 12), (12, 13), (12, 14), (12, 16), (12, 17), (12, 19)] [12, 61] f0 f36 := hk.tr hf36 rfl rfl
    have e38 : fld f36 a0 0 = .ref GA := (hf36.efl m_a0 r_a0 rfl).trans t_GA
    have e39 : fld f36 a0 22 = .ref GP := (hf36.efl m_a0 r_a0 rfl).trans t_GP
    have e40 : fld f36 a0 23 = .ref GL := (hf36.efl m_a0 r_a0 rfl).trans t_GL
    have e41 : fld f36 a0 6 = .ref GT := (hf36.efl m_a0 r_a0 rfl).trans t_GT
    exact hret f36 _ _ _ _ v37 dX12_aNone_18 (tw_nb (by omega)) ⟨hk, by omega, by omega, hA, hqk0, hqk1, hqk2, by omega, by omega, hRN⟩ h
theorem dX12_part_0 : decode cX12_part 0 = .ok (.aload_n 0, 1) := by decide +kernel
theorem dX12_part_1 : decode cX12_part 1 = .ok (.invokevirtual 231, 3) := by decide +kernel
theorem dX12_part_4 : decode cX12_part 4 = .ok (.istore_n 1, 1) := by decide +kernel
theorem dX12_part_5 : decode cX12_part 5 = .ok (.iload_n 1, 1) := by decide +kernel
theorem dX12_part_73 : decode cX12_part 73 = .ok (.istore_n 2, 1) := by decide +kernel
theorem dX12_part_74 : decode cX12_part 74 = .ok (.iload_n 2, 1) := by decide +kernel
theorem dX12_part_75 : decode cX12_part 75 = .ok (.ifCond .ne 5, 3) := by decide +kernel
theorem dX12_part_80 : decode cX12_part 80 = .ok (.aload_n 0, 1) := by decide +kernel
theorem dX12_part_81 : decode cX12_part 81 = .ok (.bipush 59, 2) := by decide +kernel
theorem dX12_part_83 : decode cX12_part 83 = .ok (.invokevirtual 256, 3) := by decide +kernel
theorem dX12_part_86 : decode cX12_part 86 = .ok (.ifCond .ne 9, 3) := by decide +kernel
theorem dX12_part_95 : decode cX12_part 95 = .ok (.aload_n 0, 1) := by decide +kernel
theorem dX12_part_96 : decode cX12_part 96 = .ok (.invokevirtual 184, 3) := by decide +kernel
theorem dX12_part_99 : decode cX12_part 99 = .ok (.iconst 1, 1) := by decide +kernel
theorem dX12_part_100 : decode cX12_part 100 = .ok (.ireturn, 1) := by decide +kernel
theorem dX12_part_89 : decode cX12_part 89 = .ok (.aload_n 0, 1) := by decide +kernel
theorem dX12_part_90 : decode cX12_part 90 = .ok (.iconst 2, 1) := by decide +kernel
theorem dX12_part_91 : decode cX12_part 91 = .ok (.invokevirtual 187, 3) := by decide +kernel
theorem dX12_part_94 : decode cX12_part 94 = .ok (.ireturn, 1) := by decide +kernel
theorem dX12_part_78 : decode cX12_part 78 = .ok (.iconst 0, 1) := by decide +kernel
theorem dX12_part_79 : decode cX12_part 79 = .ok (.ireturn, 1) := by decide +kernel
theorem dX12_part_6 : decode cX12_part 6 = .ok (.ifCond .ne 10, 3) := by decide +kernel
theorem dX12_part_16 : decode cX12_part 16 = .ok (.iload_n 1, 1) := by decide +kernel
theorem dX12_part_17 : decode cX12_part 17 = .ok (.iconst 1, 1) := by decide +kernel
theorem dX12_part_18 : decode cX12_part 18 = .ok (.if_icmp .ne 10, 3) := by decide +kernel
theorem dX12_part_28 : decode cX12_part 28 = .ok (.iload_n 1, 1) := by decide +kernel
theorem dX12_part_29 : decode cX12_part 29 = .ok (.iconst 3, 1) := by decide +kernel
theorem dX12_part_38 : decode cX12_part 38 = .ok (.aload_n 0, 1) := by decide +kernel
theorem dX12_part_39 : decode cX12_part 39 = .ok (.iload_n 1, 1) := by decide +kernel
theorem dX12_part_40 : decode cX12_part 40 = .ok (.iconst 5, 1) := by decide +kernel
theorem dX12_part_49 : decode cX12_part 49 = .ok (.invokevirtual 272, 3) := by decide +kernel
theorem mw_716 : Cond.methodLink RX12 272 yX12_aRule ∈ wsL_law := inr_30 _ (List.mem_of_getElem? (i := 20) rfl)
theorem mw_719 : Cond.code yX12_aRule cX12_aRule 6 (some .boolean) ∈ wsL_law := inr_30 _ (List.mem_of_getElem? (i := 23) rfl)
theorem yk_X12_aRule : xY yX12_aRule RX12 cX12_aRule 6 (some .boolean) 1 := ⟨⟨rfl, by decide +kernel, by decide +kernel, by decide +kernel⟩, mw_5, mw_719⟩
theorem mw_717 : Cond.instanceMethod yX12_aRule ∈ wsL_law := inr_30 _ (List.mem_of_getElem? (i := 21) rfl)
theorem mw_718 : Cond.selects RX12 yX12_aRule yX12_aRule ∈ wsL_law := inr_30 _ (List.mem_of_getElem? (i := 22) rfl)
theorem dX12_part_52 : decode cX12_part 52 = .ok (.goto 21, 3) := by decide +kernel
theorem dX12_part_41 : decode cX12_part 41 = .ok (.if_icmp .ne 7, 3) := by decide +kernel
theorem dX12_part_48 : decode cX12_part 48 = .ok (.iconst 0, 1) := by decide +kernel
theorem dX12_part_44 : decode cX12_part 44 = .ok (.iconst 1, 1) := by decide +kernel
theorem dX12_part_45 : decode cX12_part 45 = .ok (.goto 4, 3) := by decide +kernel
theorem dX12_part_30 : decode cX12_part 30 = .ok (.if_icmp .eq 8, 3) := by decide +kernel
theorem dX12_part_33 : decode cX12_part 33 = .ok (.iload_n 1, 1) := by decide +kernel
theorem dX12_part_34 : decode cX12_part 34 = .ok (.iconst 5, 1) := by decide +kernel
theorem dX12_part_35 : decode cX12_part 35 = .ok (.if_icmp .ne 20, 3) := by decide +kernel
theorem dX12_part_55 : decode cX12_part 55 = .ok (.iload_n 1, 1) := by decide +kernel
theorem dX12_part_56 : decode cX12_part 56 = .ok (.bipush 6, 2) := by decide +kernel
theorem dX12_part_58 : decode cX12_part 58 = .ok (.if_icmp .ne 10, 3) := by decide +kernel
theorem dX12_part_68 : decode cX12_part 68 = .ok (.aload_n 0, 1) := by decide +kernel
theorem dX12_part_69 : decode cX12_part 69 = .ok (.iconst 2, 1) := by decide +kernel
theorem dX12_part_70 : decode cX12_part 70 = .ok (.invokevirtual 187, 3) := by decide +kernel
theorem dX12_part_61 : decode cX12_part 61 = .ok (.aload_n 0, 1) := by decide +kernel
theorem dX12_part_62 : decode cX12_part 62 = .ok (.invokevirtual 276, 3) := by decide +kernel
theorem mw_737 : Cond.methodLink RX12 276 yX12_aNone ∈ wsL_law := inr_31 _ (List.mem_of_getElem? (i := 17) rfl)
theorem mw_740 : Cond.code yX12_aNone cX12_aNone 1 (some .boolean) ∈ wsL_law := inr_31 _ (List.mem_of_getElem? (i := 20) rfl)
theorem yk_X12_aNone : xY yX12_aNone RX12 cX12_aNone 1 (some .boolean) 0 := ⟨⟨rfl, by decide +kernel, by decide +kernel, by decide +kernel⟩, mw_5, mw_740⟩
theorem mw_738 : Cond.instanceMethod yX12_aNone ∈ wsL_law := inr_31 _ (List.mem_of_getElem? (i := 18) rfl)
theorem mw_739 : Cond.selects RX12 yX12_aNone yX12_aNone ∈ wsL_law := inr_31 _ (List.mem_of_getElem? (i := 19) rfl)
theorem dX12_part_65 : decode cX12_part 65 = .ok (.goto 8, 3) := by decide +kernel
theorem dX12_part_21 : decode cX12_part 21 = .ok (.aload_n 0, 1) := by decide +kernel
theorem dX12_part_22 : decode cX12_part 22 = .ok (.invokevirtual 269, 3) := by decide +kernel
theorem mw_704 : Cond.methodLink RX12 269 yX12_aKey ∈ wsL_law := inr_30 _ (List.mem_of_getElem? (i := 8) rfl)
theorem mw_707 : Cond.code yX12_aKey cX12_aKey 2 (some .boolean) ∈ wsL_law := inr_30 _ (List.mem_of_getElem? (i := 11) rfl)
theorem yk_X12_aKey : xY yX12_aKey RX12 cX12_aKey 2 (some .boolean) 0 := ⟨⟨rfl, by decide +kernel, by decide +kernel, by decide +kernel⟩, mw_5, mw_707⟩
theorem mw_705 : Cond.instanceMethod yX12_aKey ∈ wsL_law := inr_30 _ (List.mem_of_getElem? (i := 9) rfl)
theorem mw_706 : Cond.selects RX12 yX12_aKey yX12_aKey ∈ wsL_law := inr_30 _ (List.mem_of_getElem? (i := 10) rfl)
theorem dX12_part_25 : decode cX12_part 25 = .ok (.goto 48, 3) := by decide +kernel
theorem dX12_part_9 : decode cX12_part 9 = .ok (.aload_n 0, 1) := by decide +kernel
theorem dX12_part_10 : decode cX12_part 10 = .ok (.invokevirtual 266, 3) := by decide +kernel
theorem mw_696 : Cond.methodLink RX12 266 yX12_aTurn ∈ wsL_law := inr_30 _ (List.mem_of_getElem? (i := 0) rfl)
theorem mw_699 : Cond.code yX12_aTurn cX12_aTurn 3 (some .boolean) ∈ wsL_law := inr_30 _ (List.mem_of_getElem? (i := 3) rfl)
theorem yk_X12_aTurn : xY yX12_aTurn RX12 cX12_aTurn 3 (some .boolean) 0 := ⟨⟨rfl, by decide +kernel, by decide +kernel, by decide +kernel⟩, mw_5, mw_699⟩
theorem mw_697 : Cond.instanceMethod yX12_aTurn ∈ wsL_law := inr_30 _ (List.mem_of_getElem? (i := 1) rfl)
theorem mw_698 : Cond.selects RX12 yX12_aTurn yX12_aTurn ∈ wsL_law := inr_30 _ (List.mem_of_getElem? (i := 2) rfl)
theorem dX12_part_13 : decode cX12_part 13 = .ok (.goto 60, 3) := by decide +kernel
def rm_X12_part : Room := { frames := 9, cells := 0, slots := 0, locals := 200 }
set_option maxHeartbeats 4000000 in
set_option maxRecDepth 100000 in
theorem s_X12_part (l : Launch) (D : va_G) (cy : Nat → ClassId) (L : List Nat) (R O : Nat → Nat) (f0 : Nat → va_E) (a0 : Nat) (m_a0 : a0 ∈ L) (r_a0 : R a0 = 12) (GA : Nat) (m_GA : GA ∈ L) (r_GA : R GA = 61) (t_GA : fld f0 a0 0 = .ref GA) (GP : Nat) (m_GP : GP ∈ L) (r_GP : R GP = 69) (t_GP : fld f0 a0 22 = .ref GP) (GL : Nat) (m_GL : GL ∈ L) (r_GL : R GL = 70) (t_GL : fld f0 a0 23 = .ref GL) (GT : Nat) (m_GT : GT ∈ L) (r_GT : R GT = 64) (t_GT : fld f0 a0 6 = .ref GT) (pre0 : RB GA 20760 f0) : ∀ sz, Met l yX12_part (Cond.code yX12_part cX12_part 3 (some .boolean) :: wsL_law) rm_X12_part (va_Pc [.ref a0] (tPZ D cy L R (TT cy L R) f0 sz)) (va_Qi (fun (r : Int32) f1 => fr L R [(12, 11), (12, 12), (12, 13), (12, 14), (12, 16), (12, 17), (12, 19)] [12, 61] f0 f1 ∧ 0 ≤ r.toInt ∧ r.toInt ≤ 1 ∧ KW (20760) (22302) GA f0 f1 ∧ (r.toInt = 0 ∨ SU GA f1 = SU GA f0 + 1) ∧ SU GA f0 ≤ SU GA f1 ∧ RB GA 20760 f1) (tB D (tA L sz) L R (TT cy L R)) (tA L sz)) 0 0 (tA L sz) := by
  refine tw_enteri (by decide +kernel) rfl (Nat.le_of_ble_eq_true rfl) ?_
  intro p e s m below meth c A ls args Q F hZ h hl hret
  have hl : lv_has ls 3 [(0, .ref a0)] := hl
  have hk : fr L R [(12, 11), (12, 12), (12, 13), (12, 14), (12, 16), (12, 17), (12, 19)] [12, 61] f0 f0 := fr.rf
  have hA : KW (20760) (22302) GA f0 f0 := KW.rf
  have hRN := pre0
  refine lv_aload_n F.1 F.2.1 dX12_part_0 rfl (lv_at hl 0 rfl) ?_
  refine tw_Vi (As := []) F hZ h yk_X12_keyWord mw_643 mw_644 mw_645 (s_X12_keyWord l D cy L R O f0 a0 m_a0 r_a0) rfl rfl m_a0 r_a0 (fun e q => (T_12 e).mp q) rfl hl.1 rfl (Nat.le_of_ble_eq_true rfl) ⟨Nat.le_of_ble_eq_true rfl, Nat.le_of_ble_eq_true rfl⟩ ⟨Nat.le_of_ble_eq_true rfl, Nat.le_of_ble_eq_true rfl⟩ dX12_part_1 (fun v2 f1 H locs hp1 h => ?_)
  obtain rfl := hp1
  refine lv_istore_n (lv' := [(1, .int v2), (0, .ref a0)]) F.1 F.2.1 dX12_part_4 rfl hl (by decide) rfl (fun ls hl => ?_)
  refine lv_iload_n F.1 F.2.1 dX12_part_5 rfl (lv_at hl 0 rfl) ?_
  have j_73 : ∀ (f3 : Nat → va_E) (H : Heap) (locs : List Loc) (ls : Array Slot) (y0_73 : Int32), 0 ≤ y0_73.toInt → y0_73.toInt ≤ 1 → (y0_73.toInt = 0 ∨ SU GA f3 = SU GA f0 + 1) → SU GA f0 ≤ SU GA f3 → tS D cy A s.heap L R (TT cy L R) f3 s H locs → KW (20760) (22302) GA f0 f3 → RB GA 20760 f3 → fr L R [(12, 11), (12, 12), (12, 13), (12, 14), (12, 16), (12, 17), (12, 19)] [12, 61] f0 f3 → fr L R [(12, 11), (12, 12), (12, 13), (12, 14), (12, 16), (12, 17), (12, 19)] [12, 61] f0 f3 → lv_has ls 3 [(0, .ref a0)] → W p l e rm_X12_part s m args below meth c H locs 0 0 Q (F0 m 73 ls [.int y0_73]) := by
    intro f3 H locs ls y0_73 b4 b5 b6 b7 h hA hRN hk hb73 hl
    have e8 : fld f3 a0 0 = .ref GA := (hb73.efl m_a0 r_a0 rfl).trans t_GA
    have e9 : fld f3 a0 22 = .ref GP := (hb73.efl m_a0 r_a0 rfl).trans t_GP
    have e10 : fld f3 a0 23 = .ref GL := (hb73.efl m_a0 r_a0 rfl).trans t_GL
    have e11 : fld f3 a0 6 = .ref GT := (hb73.efl m_a0 r_a0 rfl).trans t_GT
    refine lv_istore_n (lv' := [(2, .int y0_73), (0, .ref a0)]) F.1 F.2.1 dX12_part_73 rfl hl (by decide) rfl (fun ls hl => ?_)
    refine lv_iload_n F.1 F.2.1 dX12_part_74 rfl (lv_at hl 0 rfl) ?_
    refine tw_if_ne (tgt := 80) F dX12_part_75 (by decide) (fun b12 => ?_) (fun b12 => ?_)
    · refine lv_aload_n F.1 F.2.1 dX12_part_80 rfl (lv_at hl 1 rfl) ?_
      refine tw_bipush F dX12_part_81 kb_59 (fun z13 hz13 => ?_)
      refine tw_Vi (As := [.int z13]) F hZ h yk_X12_isSign mw_723 mw_724 mw_725 (s_X12_isSign l D cy L R O f3 a0 m_a0 r_a0 z13 ⟨by omega, by omega⟩) rfl rfl m_a0 r_a0 (fun e q => (T_12 e).mp q) rfl hl.1 rfl (Nat.le_of_ble_eq_true rfl) ⟨Nat.le_of_ble_eq_true rfl, Nat.le_of_ble_eq_true rfl⟩ ⟨Nat.le_of_ble_eq_true rfl, Nat.le_of_ble_eq_true rfl⟩ dX12_part_83 (fun v15 f14 H locs hp14 h => ?_)
      obtain ⟨rfl, hv15a, hv15b⟩ := hp14
      refine tw_if_ne (tgt := 95) F dX12_part_86 (by decide) (fun b16 => ?_) (fun b16 => ?_)
      · refine lv_aload_n F.1 F.2.1 dX12_part_95 rfl (lv_at hl 1 rfl) ?_
        refine tw_Vv (As := []) F hZ h yk_X12_ahead0 mw_468 mw_469 mw_470 (s_X12_ahead0 l D cy L R O f3 a0 m_a0 r_a0) rfl rfl m_a0 r_a0 (fun e q => (T_12 e).mp q) rfl hl.1 rfl (Nat.le_of_ble_eq_true rfl) ⟨Nat.le_of_ble_eq_true rfl, Nat.le_of_ble_eq_true rfl⟩ ⟨Nat.le_of_ble_eq_true rfl, Nat.le_of_ble_eq_true rfl⟩ dX12_part_96 (fun f17 H locs hp17 h => ?_)
        obtain ⟨hf17, hv18p0⟩ := hp17
        have hA : KW (20760) (22302) GA f0 f17 := hA.fm hf17 m_GA r_GA (by decide +kernel)
        have hRN : RB GA 20760 f17 := hRN.fm hf17 m_GA r_GA (by decide +kernel)
        have hk : fr L R [(12, 11), (12, 12), (12, 13), (12, 14), (12, 16), (12, 17), (12, 19)] [12, 61] f0 f17 := hk.tr hf17 rfl rfl
        have e19 : fld f17 a0 0 = .ref GA := (hf17.efl m_a0 r_a0 rfl).trans e8
        have e20 : fld f17 a0 22 = .ref GP := (hf17.efl m_a0 r_a0 rfl).trans e9
        have e21 : fld f17 a0 23 = .ref GL := (hf17.efl m_a0 r_a0 rfl).trans e10
        have e22 : fld f17 a0 6 = .ref GT := (hf17.efl m_a0 r_a0 rfl).trans e11
        have sf96 := SU_fm hf17 m_GA r_GA (by decide +kernel)
        refine tw_iconst F dX12_part_99 ki_1 (fun z23 hz23 => ?_)
        exact hret f17 _ _ _ _ z23 dX12_part_100 (tw_nb (by omega)) ⟨hk, by omega, by omega, hA, by omega, by omega, hRN⟩ h
      · refine lv_aload_n F.1 F.2.1 dX12_part_89 rfl (lv_at hl 1 rfl) ?_
        refine tw_iconst F dX12_part_90 ki_2 (fun z24 hz24 => ?_)
        refine tw_Vi (As := [.int z24]) F hZ h yk_X12_fails mw_487 mw_488 mw_489 (s_X12_fails l D cy L R O f3 a0 m_a0 r_a0 z24 ⟨by omega, by omega⟩) rfl rfl m_a0 r_a0 (fun e q => (T_12 e).mp q) rfl hl.1 rfl (Nat.le_of_ble_eq_true rfl) ⟨Nat.le_of_ble_eq_true rfl, Nat.le_of_ble_eq_true rfl⟩ ⟨Nat.le_of_ble_eq_true rfl, Nat.le_of_ble_eq_true rfl⟩ dX12_part_91 (fun v26 f25 H locs hp25 h => ?_)
        obtain ⟨hf25, hv26a, hv26b⟩ := hp25
        have hA : KW (20760) (22302) GA f0 f25 := hA.fm hf25 m_GA r_GA (by decide +kernel)
        have hRN : RB GA 20760 f25 := hRN.fm hf25 m_GA r_GA (by decide +kernel)
        have hk : fr L R [(12, 11), (12, 12), (12, 13), (12, 14), (12, 16), (12, 17), (12, 19)] [12, 61] f0 f25 := hk.tr hf25 rfl rfl
        have e27 : fld f25 a0 0 = .ref GA := (hf25.efl m_a0 r_a0 rfl).trans e8
        have e28 : fld f25 a0 22 = .ref GP := (hf25.efl m_a0 r_a0 rfl).trans e9
        have e29 : fld f25 a0 23 = .ref GL := (hf25.efl m_a0 r_a0 rfl).trans e10
        have e30 : fld f25 a0 6 = .ref GT := (hf25.efl m_a0 r_a0 rfl).trans e11
        have sf91 := SU_fm hf25 m_GA r_GA (by decide +kernel)
        exact hret f25 _ _ _ _ v26 dX12_part_94 (tw_nb (by omega)) ⟨hk, by omega, by omega, hA, by omega, by omega, hRN⟩ h
    · refine tw_iconst F dX12_part_78 ki_0 (fun z31 hz31 => ?_)
      exact hret f3 _ _ _ _ z31 dX12_part_79 (tw_nb (by omega)) ⟨hk, by omega, by omega, hA, by omega, by omega, hRN⟩ h
  have hb73 : fr L R [(12, 11), (12, 12), (12, 13), (12, 14), (12, 16), (12, 17), (12, 19)] [12, 61] f0 f0 := fr.rf
  refine tw_if_ne (tgt := 16) F dX12_part_6 (by decide) (fun b32 => ?_) (fun b32 => ?_)
  · refine lv_iload_n F.1 F.2.1 dX12_part_16 rfl (lv_at hl 0 rfl) ?_
    refine tw_iconst F dX12_part_17 ki_1 (fun z33 hz33 => ?_)
    refine tw_icmp_ne (tgt := 28) F dX12_part_18 (by decide) (fun b34 => ?_) (fun b34 => ?_)
    · refine lv_iload_n F.1 F.2.1 dX12_part_28 rfl (lv_at hl 0 rfl) ?_
      refine tw_iconst F dX12_part_29 ki_3 (fun z35 hz35 => ?_)
      have j_38 : ∀ (ls : Array Slot), lv_has ls 3 [(0, .ref a0), (1, .int v2)] → W p l e rm_X12_part s m args below meth c H locs 0 0 Q (F0 m 38 ls []) := by
        intro ls hl
        refine lv_aload_n F.1 F.2.1 dX12_part_38 rfl (lv_at hl 0 rfl) ?_
        refine lv_iload_n F.1 F.2.1 dX12_part_39 rfl (lv_at hl 1 rfl) ?_
        refine tw_iconst F dX12_part_40 ki_5 (fun z36 hz36 => ?_)
        have j_49 : ∀ (ls : Array Slot) (y0_49 : Int32), 0 ≤ y0_49.toInt → y0_49.toInt ≤ 1 → lv_has ls 3 [(0, .ref a0)] → W p l e rm_X12_part s m args below meth c H locs 0 0 Q (F0 m 49 ls [.int y0_49, .ref a0]) := by
          intro ls y0_49 b37 b38 hl
          refine tw_Vi (As := [.int y0_49]) F hZ h yk_X12_aRule mw_716 mw_717 mw_718 (s_X12_aRule l D cy L R O f0 a0 m_a0 r_a0 y0_49 ⟨by omega, by omega⟩ GA m_GA r_GA t_GA GP m_GP r_GP t_GP GL m_GL r_GL t_GL GT m_GT r_GT t_GT hRN) rfl rfl m_a0 r_a0 (fun e q => (T_12 e).mp q) rfl hl.1 rfl (Nat.le_of_ble_eq_true rfl) ⟨Nat.le_of_ble_eq_true rfl, Nat.le_of_ble_eq_true rfl⟩ ⟨Nat.le_of_ble_eq_true rfl, Nat.le_of_ble_eq_true rfl⟩ dX12_part_49 (fun v40 f39 H locs hp39 h => ?_)
          obtain ⟨hf39, hv40a, hv40b, hv40p0, hv40p1, hv40p2, hv40p3, hv40p4, hv40p5, hv40p6⟩ := hp39
          have hA : KW (20760) (22302) GA f0 f39 := hA.sub hv40p0 (by omega) (by omega)
          have hRN : RB GA 20760 f39 := hv40p6
          have hk : fr L R [(12, 11), (12, 12), (12, 13), (12, 14), (12, 16), (12, 17), (12, 19)] [12, 61] f0 f39 := hk.tr hf39 rfl rfl
          have hb73 : fr L R [(12, 11), (12, 12), (12, 13), (12, 14), (12, 16), (12, 17), (12, 19)] [12, 61] f0 f39 := hb73.tr hf39 (by decide +kernel) rfl
          have e41 : fld f39 a0 0 = .ref GA := (hf39.efl m_a0 r_a0 rfl).trans t_GA
          have e42 : fld f39 a0 22 = .ref GP := (hf39.efl m_a0 r_a0 rfl).trans t_GP
          have e43 : fld f39 a0 23 = .ref GL := (hf39.efl m_a0 r_a0 rfl).trans t_GL
          have e44 : fld f39 a0 6 = .ref GT := (hf39.efl m_a0 r_a0 rfl).trans t_GT
          have s49 : SU GA f0 ≤ SU GA f39 := by unfold SU; omega
          have z49 : v40.toInt = 0 ∨ SU GA f39 = SU GA f0 + 1 := by unfold SU; omega
          refine lv_goto (tgt := 73) F.1 F.2.1 dX12_part_52 (by decide) ?_
          exact j_73 f39 _ _ _ v40 (by omega) (by omega) (by omega) (by omega) h hA hRN hk hb73 (lv_sub hl [0] rfl)
        refine tw_icmp_ne (tgt := 48) F dX12_part_41 (by decide) (fun b45 => ?_) (fun b45 => ?_)
        · refine tw_iconst F dX12_part_48 ki_0 (fun z46 hz46 => ?_)
          exact j_49 _ z46 (by omega) (by omega) (lv_sub hl [0] rfl)
        · refine tw_iconst F dX12_part_44 ki_1 (fun z47 hz47 => ?_)
          refine lv_goto (tgt := 49) F.1 F.2.1 dX12_part_45 (by decide) ?_
          exact j_49 _ z47 (by omega) (by omega) (lv_sub hl [0] rfl)
      refine tw_icmp_eq (tgt := 38) F dX12_part_30 (by decide) (fun b48 => ?_) (fun b48 => ?_)
      · exact j_38 _ (lv_sub hl [1, 0] rfl)
      · refine lv_iload_n F.1 F.2.1 dX12_part_33 rfl (lv_at hl 0 rfl) ?_
        refine tw_iconst F dX12_part_34 ki_5 (fun z49 hz49 => ?_)
        refine tw_icmp_ne (tgt := 55) F dX12_part_35 (by decide) (fun b50 => ?_) (fun b50 => ?_)
        · refine lv_iload_n F.1 F.2.1 dX12_part_55 rfl (lv_at hl 0 rfl) ?_
          refine tw_bipush F dX12_part_56 kb_6 (fun z51 hz51 => ?_)
          refine tw_icmp_ne (tgt := 68) F dX12_part_58 (by decide) (fun b52 => ?_) (fun b52 => ?_)
          · refine lv_aload_n F.1 F.2.1 dX12_part_68 rfl (lv_at hl 1 rfl) ?_
            refine tw_iconst F dX12_part_69 ki_2 (fun z53 hz53 => ?_)
            refine tw_Vi (As := [.int z53]) F hZ h yk_X12_fails mw_487 mw_488 mw_489 (s_X12_fails l D cy L R O f0 a0 m_a0 r_a0 z53 ⟨by omega, by omega⟩) rfl rfl m_a0 r_a0 (fun e q => (T_12 e).mp q) rfl hl.1 rfl (Nat.le_of_ble_eq_true rfl) ⟨Nat.le_of_ble_eq_true rfl, Nat.le_of_ble_eq_true rfl⟩ ⟨Nat.le_of_ble_eq_true rfl, Nat.le_of_ble_eq_true rfl⟩ dX12_part_70 (fun v55 f54 H locs hp54 h => ?_)
            obtain ⟨hf54, hv55a, hv55b⟩ := hp54
            have hA : KW (20760) (22302) GA f0 f54 := hA.fm hf54 m_GA r_GA (by decide +kernel)
            have hRN : RB GA 20760 f54 := hRN.fm hf54 m_GA r_GA (by decide +kernel)
            have hk : fr L R [(12, 11), (12, 12), (12, 13), (12, 14), (12, 16), (12, 17), (12, 19)] [12, 61] f0 f54 := hk.tr hf54 rfl rfl
            have hb73 : fr L R [(12, 11), (12, 12), (12, 13), (12, 14), (12, 16), (12, 17), (12, 19)] [12, 61] f0 f54 := hb73.tr hf54 rfl rfl
            have e56 : fld f54 a0 0 = .ref GA := (hf54.efl m_a0 r_a0 rfl).trans t_GA
            have e57 : fld f54 a0 22 = .ref GP := (hf54.efl m_a0 r_a0 rfl).trans t_GP
            have e58 : fld f54 a0 23 = .ref GL := (hf54.efl m_a0 r_a0 rfl).trans t_GL
            have e59 : fld f54 a0 6 = .ref GT := (hf54.efl m_a0 r_a0 rfl).trans t_GT
            have sf70 := SU_fm hf54 m_GA r_GA (by decide +kernel)
            exact j_73 f54 _ _ _ v55 (by omega) (by omega) (by omega) (by omega) h hA hRN hk hb73 (lv_sub hl [1] rfl)
          · refine lv_aload_n F.1 F.2.1 dX12_part_61 rfl (lv_at hl 1 rfl) ?_
            refine tw_Vi (As := []) F hZ h yk_X12_aNone mw_737 mw_738 mw_739 (s_X12_aNone l D cy L R O f0 a0 m_a0 r_a0 GA m_GA r_GA t_GA GP m_GP r_GP t_GP GL m_GL r_GL t_GL GT m_GT r_GT t_GT hRN) rfl rfl m_a0 r_a0 (fun e q => (T_12 e).mp q) rfl hl.1 rfl (Nat.le_of_ble_eq_true rfl) ⟨Nat.le_of_ble_eq_true rfl, Nat.le_of_ble_eq_true rfl⟩ ⟨Nat.le_of_ble_eq_true rfl, Nat.le_of_ble_eq_true rfl⟩ dX12_part_62 (fun v61 f60 H locs hp60 h => ?_)
            obtain ⟨hf60, hv61a, hv61b, hv61p0, hv61p1, hv61p2, hv61p3, hv61p4, hv61p5, hv61p6⟩ := hp60
            have hA : KW (20760) (22302) GA f0 f60 := hA.sub hv61p0 (by omega) (by omega)
            have hRN : RB GA 20760 f60 := hv61p6
            have hk : fr L R [(12, 11), (12, 12), (12, 13), (12, 14), (12, 16), (12, 17), (12, 19)] [12, 61] f0 f60 := hk.tr hf60 rfl rfl
            have hb73 : fr L R [(12, 11), (12, 12), (12, 13), (12, 14), (12, 16), (12, 17), (12, 19)] [12, 61] f0 f60 := hb73.tr hf60 (by decide +kernel) rfl
            have e62 : fld f60 a0 0 = .ref GA := (hf60.efl m_a0 r_a0 rfl).trans t_GA
            have e63 : fld f60 a0 22 = .ref GP := (hf60.efl m_a0 r_a0 rfl).trans t_GP
            have e64 : fld f60 a0 23 = .ref GL := (hf60.efl m_a0 r_a0 rfl).trans t_GL
            have e65 : fld f60 a0 6 = .ref GT := (hf60.efl m_a0 r_a0 rfl).trans t_GT
            have s62 : SU GA f0 ≤ SU GA f60 := by unfold SU; omega
            have z62 : v61.toInt = 0 ∨ SU GA f60 = SU GA f0 + 1 := by unfold SU; omega
            refine lv_goto (tgt := 73) F.1 F.2.1 dX12_part_65 (by decide) ?_
            exact j_73 f60 _ _ _ v61 (by omega) (by omega) (by omega) (by omega) h hA hRN hk hb73 (lv_sub hl [1] rfl)
        · exact j_38 _ (lv_sub hl [1, 0] rfl)
    · refine lv_aload_n F.1 F.2.1 dX12_part_21 rfl (lv_at hl 1 rfl) ?_
      refine tw_Vi (As := []) F hZ h yk_X12_aKey mw_704 mw_705 mw_706 (s_X12_aKey l D cy L R O f0 a0 m_a0 r_a0 GA m_GA r_GA t_GA GP m_GP r_GP t_GP GL m_GL r_GL t_GL GT m_GT r_GT t_GT hRN) rfl rfl m_a0 r_a0 (fun e q => (T_12 e).mp q) rfl hl.1 rfl (Nat.le_of_ble_eq_true rfl) ⟨Nat.le_of_ble_eq_true rfl, Nat.le_of_ble_eq_true rfl⟩ ⟨Nat.le_of_ble_eq_true rfl, Nat.le_of_ble_eq_true rfl⟩ dX12_part_22 (fun v67 f66 H locs hp66 h => ?_)
      obtain ⟨hf66, hv67a, hv67b, hv67p0, hv67p1, hv67p2, hv67p3, hv67p4, hv67p5, hv67p6⟩ := hp66
      have hA : KW (20760) (22302) GA f0 f66 := hA.sub hv67p0 (by omega) (by omega)
      have hRN : RB GA 20760 f66 := hv67p6
      have hk : fr L R [(12, 11), (12, 12), (12, 13), (12, 14), (12, 16), (12, 17), (12, 19)] [12, 61] f0 f66 := hk.tr hf66 rfl rfl
      have hb73 : fr L R [(12, 11), (12, 12), (12, 13), (12, 14), (12, 16), (12, 17), (12, 19)] [12, 61] f0 f66 := hb73.tr hf66 (by decide +kernel) rfl
      have e68 : fld f66 a0 0 = .ref GA := (hf66.efl m_a0 r_a0 rfl).trans t_GA
      have e69 : fld f66 a0 22 = .ref GP := (hf66.efl m_a0 r_a0 rfl).trans t_GP
      have e70 : fld f66 a0 23 = .ref GL := (hf66.efl m_a0 r_a0 rfl).trans t_GL
      have e71 : fld f66 a0 6 = .ref GT := (hf66.efl m_a0 r_a0 rfl).trans t_GT
      have s22 : SU GA f0 ≤ SU GA f66 := by unfold SU; omega
      have z22 : v67.toInt = 0 ∨ SU GA f66 = SU GA f0 + 1 := by unfold SU; omega
      refine lv_goto (tgt := 73) F.1 F.2.1 dX12_part_25 (by decide) ?_
      exact j_73 f66 _ _ _ v67 (by omega) (by omega) (by omega) (by omega) h hA hRN hk hb73 (lv_sub hl [1] rfl)
  · refine lv_aload_n F.1 F.2.1 dX12_part_9 rfl (lv_at hl 1 rfl) ?_
    refine tw_Vi (As := []) F hZ h yk_X12_aTurn mw_696 mw_697 mw_698 (s_X12_aTurn l D cy L R O f0 a0 m_a0 r_a0 GA m_GA r_GA t_GA GP m_GP r_GP t_GP GL m_GL r_GL t_GL GT m_GT r_GT t_GT hRN) rfl rfl m_a0 r_a0 (fun e q => (T_12 e).mp q) rfl hl.1 rfl (Nat.le_of_ble_eq_true rfl) ⟨Nat.le_of_ble_eq_true rfl, Nat.le_of_ble_eq_true rfl⟩ ⟨Nat.le_of_ble_eq_true rfl, Nat.le_of_ble_eq_true rfl⟩ dX12_part_10 (fun v73 f72 H locs hp72 h => ?_)
    obtain ⟨hf72, hv73a, hv73b, hv73p0, hv73p1, hv73p2, hv73p3, hv73p4, hv73p5, hv73p6⟩ := hp72
    have hA : KW (20760) (22302) GA f0 f72 := hA.sub hv73p0 (by omega) (by omega)
    have hRN : RB GA 20760 f72 := hv73p6
    have hk : fr L R [(12, 11), (12, 12), (12, 13), (12, 14), (12, 16), (12, 17), (12, 19)] [12, 61] f0 f72 := hk.tr hf72 rfl rfl
    have hb73 : fr L R [(12, 11), (12, 12), (12, 13), (12, 14), (12, 16), (12, 17), (12, 19)] [12, 61] f0 f72 := hb73.tr hf72 (by decide +kernel) rfl
    have e74 : fld f72 a0 0 = .ref GA := (hf72.efl m_a0 r_a0 rfl).trans t_GA
    have e75 : fld f72 a0 22 = .ref GP := (hf72.efl m_a0 r_a0 rfl).trans t_GP
    have e76 : fld f72 a0 23 = .ref GL := (hf72.efl m_a0 r_a0 rfl).trans t_GL
    have e77 : fld f72 a0 6 = .ref GT := (hf72.efl m_a0 r_a0 rfl).trans t_GT
    have s10 : SU GA f0 ≤ SU GA f72 := by unfold SU; omega
    have z10 : v73.toInt = 0 ∨ SU GA f72 = SU GA f0 + 1 := by unfold SU; omega
    refine lv_goto (tgt := 73) F.1 F.2.1 dX12_part_13 (by decide) ?_
    exact j_73 f72 _ _ _ v73 (by omega) (by omega) (by omega) (by omega) h hA hRN hk hb73 (lv_sub hl [1] rfl)
theorem dX12_leads_0 : decode cX12_leads 0 = .ok (.iconst 0, 1) := by decide +kernel
theorem dX12_leads_1 : decode cX12_leads 1 = .ok (.istore_n 2, 1) := by decide +kernel
theorem dX12_leads_2 : decode cX12_leads 2 = .ok (.iload_n 2, 1) := by decide +kernel
theorem dX12_leads_3 : decode cX12_leads 3 = .ok (.i2l, 1) := by decide +kernel
theorem dX12_leads_4 : decode cX12_leads 4 = .ok (.aload_n 0, 1) := by decide +kernel
theorem dX12_leads_5 : decode cX12_leads 5 = .ok (.getfield 7, 3) := by decide +kernel
theorem dX12_leads_8 : decode cX12_leads 8 = .ok (.iload_n 1, 1) := by decide +kernel
theorem dX12_leads_9 : decode cX12_leads 9 = .ok (.laload, 1) := by decide +kernel
theorem dX12_leads_10 : decode cX12_leads 10 = .ok (.lcmp, 1) := by decide +kernel
theorem dX12_leads_11 : decode cX12_leads 11 = .ok (.ifCond .ge 102, 3) := by decide +kernel
theorem dX12_leads_113 : decode cX12_leads 113 = .ok (.return_, 1) := by decide +kernel
theorem dX12_leads_14 : decode cX12_leads 14 = .ok (.iload_n 1, 1) := by decide +kernel
theorem dX12_leads_15 : decode cX12_leads 15 = .ok (.iconst 1, 1) := by decide +kernel
theorem dX12_leads_16 : decode cX12_leads 16 = .ok (.iadd, 1) := by decide +kernel
theorem dX12_leads_17 : decode cX12_leads 17 = .ok (.bipush 12, 2) := by decide +kernel
theorem dX12_leads_19 : decode cX12_leads 19 = .ok (.iload_n 2, 1) := by decide +kernel
theorem dX12_leads_20 : decode cX12_leads 20 = .ok (.imul, 1) := by decide +kernel
theorem dX12_leads_21 : decode cX12_leads 21 = .ok (.iadd, 1) := by decide +kernel
theorem dX12_leads_22 : decode cX12_leads 22 = .ok (.istore_n 3, 1) := by decide +kernel
theorem dX12_leads_23 : decode cX12_leads 23 = .ok (.aload_n 0, 1) := by decide +kernel
theorem dX12_leads_24 : decode cX12_leads 24 = .ok (.getfield 7, 3) := by decide +kernel
theorem dX12_leads_27 : decode cX12_leads 27 = .ok (.iload_n 3, 1) := by decide +kernel
theorem dX12_leads_28 : decode cX12_leads 28 = .ok (.laload, 1) := by decide +kernel
theorem dX12_leads_29 : decode cX12_leads 29 = .ok (.lconst 0, 1) := by decide +kernel
theorem dX12_leads_30 : decode cX12_leads 30 = .ok (.lcmp, 1) := by decide +kernel
theorem dX12_leads_107 : decode cX12_leads 107 = .ok (.iinc 2 1, 3) := by decide +kernel
theorem dX12_leads_110 : decode cX12_leads 110 = .ok (.goto (-108), 3) := by decide +kernel
theorem dX12_leads_31 : decode cX12_leads 31 = .ok (.ifCond .ne 6, 3) := by decide +kernel
theorem dX12_leads_37 : decode cX12_leads 37 = .ok (.aload_n 0, 1) := by decide +kernel
theorem dX12_leads_38 : decode cX12_leads 38 = .ok (.sipush 20760, 3) := by decide +kernel
theorem dX12_leads_41 : decode cX12_leads 41 = .ok (.aload_n 0, 1) := by decide +kernel
theorem dX12_leads_42 : decode cX12_leads 42 = .ok (.getfield 7, 3) := by decide +kernel
theorem dX12_leads_45 : decode cX12_leads 45 = .ok (.iload_n 3, 1) := by decide +kernel
theorem dX12_leads_46 : decode cX12_leads 46 = .ok (.laload, 1) := by decide +kernel
theorem dX12_leads_47 : decode cX12_leads 47 = .ok (.invokevirtual 238, 3) := by decide +kernel
theorem dX12_leads_50 : decode cX12_leads 50 = .ok (.istore 4, 2) := by decide +kernel
theorem dX12_leads_52 : decode cX12_leads 52 = .ok (.iload 4, 2) := by decide +kernel
theorem dX12_leads_54 : decode cX12_leads 54 = .ok (.iconst (-1), 1) := by decide +kernel
theorem dX12_leads_96 : decode cX12_leads 96 = .ok (.aload_n 0, 1) := by decide +kernel
theorem dX12_leads_97 : decode cX12_leads 97 = .ok (.getfield 7, 3) := by decide +kernel
theorem dX12_leads_100 : decode cX12_leads 100 = .ok (.iload_n 3, 1) := by decide +kernel
theorem dX12_leads_101 : decode cX12_leads 101 = .ok (.iload 4, 2) := by decide +kernel
theorem dX12_leads_103 : decode cX12_leads 103 = .ok (.i2l, 1) := by decide +kernel
theorem dX12_leads_104 : decode cX12_leads 104 = .ok (.lconst 1, 1) := by decide +kernel
theorem dX12_leads_105 : decode cX12_leads 105 = .ok (.ladd, 1) := by decide +kernel
theorem dX12_leads_106 : decode cX12_leads 106 = .ok (.lastore, 1) := by decide +kernel
theorem dX12_leads_55 : decode cX12_leads 55 = .ok (.if_icmp .ne 41, 3) := by decide +kernel
theorem dX12_leads_58 : decode cX12_leads 58 = .ok (.aload_n 0, 1) := by decide +kernel
theorem dX12_leads_59 : decode cX12_leads 59 = .ok (.getfield 279, 3) := by decide +kernel
theorem mw_634 : Cond.fieldLink RX12 279 "AskBackModel" "goPlace" "I" ∈ wsL_law := inr_27 _ (List.mem_of_getElem? (i := 10) rfl)
section
variable {p : Program} {l : Launch} {e : Env} {R0 : Room} {s : State} {m : MethodId} {args : Array Value} {below : List Frame} {meth : Method} {c : Code} {H H0 : Heap} {locs : List Loc} {cells slots : Nat} {Q : State → Prop} {cc : ByteArray} {nL : Nat} {D : va_G} {cy : Nat → ClassId} {A : Nat → Prop} {L : List Nat} {R : Nat → Nat} {f : Nat → va_E} {pc : Nat} {ls : Array Slot} {rest : List Value} {a : Nat}
theorem g_12_279 (F : CallFix p m c cc nL s args wsL_law RX12) (h : tS D cy A H0 L R (TT cy L R) f s H locs) (ha : a ∈ L) (hr : R a = 12) (hdg : decode cc pc = .ok (.getfield 279, 3)) (kk : ∀ x : Int32, x.toInt = fi f a 20 → W p l e R0 s m args below meth c H locs cells slots Q (F0 m (pc + 3) ls (.int x :: rest))) : W p l e R0 s m args below meth c H locs cells slots Q (F0 m pc ls (.ref a :: rest)) := tu_geti F h ha hr (fun e q => (T_12 e).mp q) rfl inlX12 rfl (Nat.le_of_ble_eq_true rfl) mw_634 hdg (fun x h1 h2 h3 => kk x h1)
end
theorem dX12_leads_62 : decode cX12_leads 62 = .ok (.iconst (-1), 1) := by decide +kernel
theorem dX12_leads_83 : decode cX12_leads 83 = .ok (.aload_n 0, 1) := by decide +kernel
theorem dX12_leads_84 : decode cX12_leads 84 = .ok (.aload_n 0, 1) := by decide +kernel
theorem dX12_leads_85 : decode cX12_leads 85 = .ok (.getfield 7, 3) := by decide +kernel
theorem dX12_leads_88 : decode cX12_leads 88 = .ok (.iload_n 3, 1) := by decide +kernel
theorem dX12_leads_89 : decode cX12_leads 89 = .ok (.iconst 2, 1) := by decide +kernel
theorem dX12_leads_90 : decode cX12_leads 90 = .ok (.iadd, 1) := by decide +kernel
theorem dX12_leads_91 : decode cX12_leads 91 = .ok (.laload, 1) := by decide +kernel
theorem dX12_leads_92 : decode cX12_leads 92 = .ok (.l2i, 1) := by decide +kernel
theorem dX12_leads_93 : decode cX12_leads 93 = .ok (.putfield 279, 3) := by decide +kernel
section
variable {p : Program} {l : Launch} {e : Env} {R0 : Room} {s : State} {m : MethodId} {args : Array Value} {below : List Frame} {meth : Method} {c : Code} {H H0 : Heap} {locs : List Loc} {cells slots : Nat} {Q : State → Prop} {cc : ByteArray} {nL : Nat} {D : va_G} {cy : Nat → ClassId} {A : Nat → Prop} {L : List Nat} {R : Nat → Nat} {f : Nat → va_E} {pc : Nat} {ls : Array Slot} {rest : List Value} {a : Nat}
theorem p_12_279 (F : CallFix p m c cc nL s args wsL_law RX12) (h : tS D cy A H0 L R (TT cy L R) f s H locs) {x : Int32} (ha : a ∈ L) (hr : R a = 12) (hdg : decode cc pc = .ok (.putfield 279, 3)) (kk : ∀ (f1 : Nat → va_E) (H1 : Heap) (locs1 : List Loc), fi f1 a 20 = x.toInt → fr L R [(12, 20)] [12] f f1 → tS D cy A H0 L R (TT cy L R) f1 s H1 locs1 → W p l e R0 s m args below meth c H1 locs1 cells slots Q (F0 m (pc + 3) ls (rest))) : W p l e R0 s m args below meth c H locs cells slots Q (F0 m pc ls (.int x :: .ref a :: rest)) := tu_puti (k := 20) F h ha hr T_12 rfl (tb_i x).1 (tb_i x).2 inlX12 tyX12_ok nmX12 rfl (Nat.le_of_ble_eq_true rfl) mw_634 rfl rfl rfl hdg kk
end
theorem dX12_leads_63 : decode cX12_leads 63 = .ok (.if_icmp .eq 20, 3) := by decide +kernel
theorem dX12_leads_66 : decode cX12_leads 66 = .ok (.aload_n 0, 1) := by decide +kernel
theorem dX12_leads_67 : decode cX12_leads 67 = .ok (.getfield 7, 3) := by decide +kernel
theorem dX12_leads_70 : decode cX12_leads 70 = .ok (.iload_n 3, 1) := by decide +kernel
theorem dX12_leads_71 : decode cX12_leads 71 = .ok (.iconst 2, 1) := by decide +kernel
theorem dX12_leads_72 : decode cX12_leads 72 = .ok (.iadd, 1) := by decide +kernel
theorem dX12_leads_73 : decode cX12_leads 73 = .ok (.laload, 1) := by decide +kernel
theorem dX12_leads_74 : decode cX12_leads 74 = .ok (.aload_n 0, 1) := by decide +kernel
theorem dX12_leads_75 : decode cX12_leads 75 = .ok (.getfield 279, 3) := by decide +kernel
theorem dX12_leads_78 : decode cX12_leads 78 = .ok (.i2l, 1) := by decide +kernel
theorem dX12_leads_79 : decode cX12_leads 79 = .ok (.lcmp, 1) := by decide +kernel
theorem dX12_leads_80 : decode cX12_leads 80 = .ok (.ifCond .ge 16, 3) := by decide +kernel
theorem dX12_leads_34 : decode cX12_leads 34 = .ok (.goto 73, 3) := by decide +kernel
def rm_X12_leads : Room := { frames := 1, cells := 0, slots := 0, locals := 24 }
set_option maxHeartbeats 4000000 in
set_option maxRecDepth 100000 in
theorem s_X12_leads (l : Launch) (D : va_G) (cy : Nat → ClassId) (L : List Nat) (R O : Nat → Nat) (f0 : Nat → va_E) (a0 : Nat) (m_a0 : a0 ∈ L) (r_a0 : R a0 = 12) (x1 : Int32) (b1 : 0 ≤ x1.toInt ∧ x1.toInt ≤ 25661) (GA : Nat) (m_GA : GA ∈ L) (r_GA : R GA = 61) (t_GA : fld f0 a0 0 = .ref GA) (GP : Nat) (m_GP : GP ∈ L) (r_GP : R GP = 69) (t_GP : fld f0 a0 22 = .ref GP) (GL : Nat) (m_GL : GL ∈ L) (r_GL : R GL = 70) (t_GL : fld f0 a0 23 = .ref GL) (GT : Nat) (m_GT : GT ∈ L) (r_GT : R GT = 64) (t_GT : fld f0 a0 6 = .ref GT) (pre0 : AS x1.toInt.toNat) : ∀ sz, Met l yX12_leads (Cond.code yX12_leads cX12_leads 5 none :: wsL_law) rm_X12_leads (va_Pc [.ref a0, .int x1] (tPZ D cy L R (TT cy L R) f0 sz)) (va_Qv (fun f1 => fr L R [(12, 20)] [12, 61] f0 f1 ∧ KW (x1.toInt.toNat + 1) (x1.toInt.toNat + 49) GA f0 f1) (tB D (tA L sz) L R (TT cy L R)) (tA L sz)) 0 0 (tA L sz) := by
  refine tw_enterv (by decide +kernel) rfl (Nat.le_of_ble_eq_true rfl) ?_
  intro p e s m below meth c A ls args Q F hZ h hl hret
  have hl : lv_has ls 5 [(0, .ref a0), (1, .int x1)] := hl
  have hk : fr L R [(12, 20)] [12, 61] f0 f0 := fr.rf
  have hA : KW (x1.toInt.toNat + 1) (x1.toInt.toNat + 49) GA f0 f0 := KW.rf
  have hR0 := pre0
  refine tw_iconst F dX12_leads_0 ki_0 (fun z1 hz1 => ?_)
  refine lv_istore_n (lv' := [(2, .int z1), (0, .ref a0), (1, .int x1)]) F.1 F.2.1 dX12_leads_1 rfl hl (by decide) rfl (fun ls hl => ?_)
  have j_2 : ∀ (n2 : Nat) (f2 : Nat → va_E) (H : Heap) (locs : List Loc) (ls : Array Slot) (x2_2 : Int32), 0 ≤ x2_2.toInt → x2_2.toInt ≤ 4 → ((4 - x2_2.toInt)).toNat < n2 → tS D cy A s.heap L R (TT cy L R) f2 s H locs → KW (x1.toInt.toNat + 1) (x1.toInt.toNat + 49) GA f0 f2 → fr L R [(12, 20)] [12, 61] f0 f2 → fr L R [(12, 20)] [12, 61] f0 f2 → lv_has ls 5 [(0, .ref a0), (1, .int x1), (2, .int x2_2)] → W p l e rm_X12_leads s m args below meth c H locs 0 0 Q (F0 m 2 ls []) := by
    intro n2
    induction n2 with
    | zero =>
      intro f2 H locs ls x2_2 b3 b4 b5 h hA hk hb2 hl
      exfalso
      omega
    | succ n2 ih2 =>
      intro f2 H locs ls x2_2 b3 b4 b5 h hA hk hb2 hl
      have e6 : fld f2 a0 0 = .ref GA := (hb2.efl m_a0 r_a0 rfl).trans t_GA
      have e7 : fld f2 a0 22 = .ref GP := (hb2.efl m_a0 r_a0 rfl).trans t_GP
      have e8 : fld f2 a0 23 = .ref GL := (hb2.efl m_a0 r_a0 rfl).trans t_GL
      have e9 : fld f2 a0 6 = .ref GT := (hb2.efl m_a0 r_a0 rfl).trans t_GT
      refine lv_iload_n F.1 F.2.1 dX12_leads_2 rfl (lv_at hl 2 rfl) ?_
      refine tw_i2l F dX12_leads_3 (fun z10 hz10 => ?_)
      refine lv_aload_n F.1 F.2.1 dX12_leads_4 rfl (lv_at hl 0 rfl) ?_
      refine g_12_7 F h m_a0 r_a0 dX12_leads_5 (fun o11 m_o11 r_o11 ho11 => ?_)
      obtain rfl := (fld_inj e6 ho11).symm
      refine lv_iload_n F.1 F.2.1 dX12_leads_8 rfl (lv_at hl 1 rfl) ?_
      refine ld_61 F h m_GA r_GA (by omega) dX12_leads_9 (fun v12 hv12a => ?_)
      have hv12b := clP_5.mp (atb hv12a (AS_0 hR0 (by omega)))
      refine tw_lcmp F dX12_leads_10 (fun z13 hz13 => ?_)
      refine tw_if_ge (tgt := 113) F dX12_leads_11 (by decide) (fun b14 => ?_) (fun b14 => ?_)
      · exact hret f2 _ _ _ _ dX12_leads_113 ⟨hk, hA⟩ h
      · refine lv_iload_n F.1 F.2.1 dX12_leads_14 rfl (lv_at hl 1 rfl) ?_
        refine tw_iconst F dX12_leads_15 ki_1 (fun z15 hz15 => ?_)
        refine tu_iadd F dX12_leads_16 (by omega) (fun z16 hz16 => ?_)
        refine tw_bipush F dX12_leads_17 kb_12 (fun z17 hz17 => ?_)
        refine lv_iload_n F.1 F.2.1 dX12_leads_19 rfl (lv_at hl 2 rfl) ?_
        refine tu_imull F dX12_leads_20 hz17 (by omega) (fun z18 hz18 => ?_)
        refine tu_iadd F dX12_leads_21 (by omega) (fun z19 hz19 => ?_)
        refine lv_istore_n (lv' := [(3, .int z19), (0, .ref a0), (1, .int x1), (2, .int x2_2)]) F.1 F.2.1 dX12_leads_22 rfl hl (by decide) rfl (fun ls hl => ?_)
        refine lv_aload_n F.1 F.2.1 dX12_leads_23 rfl (lv_at hl 1 rfl) ?_
        refine g_12_7 F h m_a0 r_a0 dX12_leads_24 (fun o20 m_o20 r_o20 ho20 => ?_)
        obtain rfl := (fld_inj e6 ho20).symm
        refine lv_iload_n F.1 F.2.1 dX12_leads_27 rfl (lv_at hl 0 rfl) ?_
        refine ld_61 F h m_GA r_GA (by omega) dX12_leads_28 (fun v21 hv21a => ?_)
        refine tu_lconst F dX12_leads_29 (by decide) (fun z22 (hz22 : z22.toInt = 0) => ?_)
        refine tw_lcmp F dX12_leads_30 (fun z23 hz23 => ?_)
        have j_107 : ∀ (f24 : Nat → va_E) (H : Heap) (locs : List Loc) (ls : Array Slot), tS D cy A s.heap L R (TT cy L R) f24 s H locs → KW (x1.toInt.toNat + 1) (x1.toInt.toNat + 49) GA f0 f24 → fr L R [(12, 20)] [12, 61] f0 f24 → fr L R [(12, 20)] [12, 61] f2 f24 → lv_has ls 5 [(0, .ref a0), (1, .int x1), (2, .int x2_2)] → W p l e rm_X12_leads s m args below meth c H locs 0 0 Q (F0 m 107 ls []) := by
          intro f24 H locs ls h hA hk hb107 hl
          have hb2 : fr L R [(12, 20)] [12, 61] f0 f24 := hb2.tr hb107 rfl rfl
          have e25 : fld f24 a0 0 = .ref GA := (hb107.efl m_a0 r_a0 rfl).trans e6
          have e26 : fld f24 a0 22 = .ref GP := (hb107.efl m_a0 r_a0 rfl).trans e7
          have e27 : fld f24 a0 23 = .ref GL := (hb107.efl m_a0 r_a0 rfl).trans e8
          have e28 : fld f24 a0 6 = .ref GT := (hb107.efl m_a0 r_a0 rfl).trans e9
          refine tu_iinc F dX12_leads_107 hl (k := 2) rfl (by decide) ki_1 (by omega) (fun z29 ls hz29 hl => ?_)
          have hl : lv_has ls 5 [(2, .int z29), (0, .ref a0), (1, .int x1)] := hl
          refine lv_goto (tgt := 2) F.1 F.2.1 dX12_leads_110 (by decide) ?_
          exact ih2 f24 _ _ _ z29 (by omega) (by omega) (by omega) h hA hk hb2 (lv_sub hl [1, 2, 0] rfl)
        have hb107 : fr L R [(12, 20)] [12, 61] f2 f2 := fr.rf
        refine tw_if_ne (tgt := 37) F dX12_leads_31 (by decide) (fun b30 => ?_) (fun b30 => ?_)
        · refine lv_aload_n F.1 F.2.1 dX12_leads_37 rfl (lv_at hl 1 rfl) ?_
          refine tw_sipush F dX12_leads_38 ks_20760 (fun z31 hz31 => ?_)
          refine lv_aload_n F.1 F.2.1 dX12_leads_41 rfl (lv_at hl 1 rfl) ?_
          refine g_12_7 F h m_a0 r_a0 dX12_leads_42 (fun o32 m_o32 r_o32 ho32 => ?_)
          obtain rfl := (fld_inj e6 ho32).symm
          refine lv_iload_n F.1 F.2.1 dX12_leads_45 rfl (lv_at hl 0 rfl) ?_
          refine ld_61 F h m_GA r_GA (by omega) dX12_leads_46 (fun v33 hv33a => ?_)
          refine tw_Vi (As := [.int z31, .long v33]) F hZ h yk_X12_keyNamed mw_708 mw_709 mw_710 (s_X12_keyNamed l D cy L R O f2 a0 m_a0 r_a0 z31 ⟨by omega, by omega⟩ v33 (isB_e isB_n (by omega))) rfl rfl m_a0 r_a0 (fun e q => (T_12 e).mp q) rfl hl.1 rfl (Nat.le_of_ble_eq_true rfl) ⟨Nat.le_of_ble_eq_true rfl, Nat.le_of_ble_eq_true rfl⟩ ⟨Nat.le_of_ble_eq_true rfl, Nat.le_of_ble_eq_true rfl⟩ dX12_leads_47 (fun v35 f34 H locs hp34 h => ?_)
          obtain ⟨rfl, hv35a, hv35b⟩ := hp34
          refine lv_istore (lv' := [(4, .int v35), (3, .int z19), (0, .ref a0), (1, .int x1), (2, .int x2_2)]) F.1 F.2.1 dX12_leads_50 hl (by decide) rfl (fun ls hl => ?_)
          refine lv_iload F.1 F.2.1 dX12_leads_52 (lv_at hl 0 rfl) ?_
          refine tw_iconst F dX12_leads_54 ki_m1 (fun z36 hz36 => ?_)
          have j_96 : ∀ (f37 : Nat → va_E) (H : Heap) (locs : List Loc) (ls : Array Slot), tS D cy A s.heap L R (TT cy L R) f37 s H locs → KW (x1.toInt.toNat + 1) (x1.toInt.toNat + 49) GA f0 f37 → fr L R [(12, 20)] [12, 61] f0 f37 → fr L R [(12, 20)] [12] f2 f37 → lv_has ls 5 [(0, .ref a0), (1, .int x1), (2, .int x2_2), (3, .int z19), (4, .int v35)] → W p l e rm_X12_leads s m args below meth c H locs 0 0 Q (F0 m 96 ls []) := by
            intro f37 H locs ls h hA hk hb96 hl
            have hb2 : fr L R [(12, 20)] [12, 61] f0 f37 := hb2.tr hb96 rfl rfl
            have hb107 : fr L R [(12, 20)] [12, 61] f2 f37 := hb107.tr hb96 rfl rfl
            have e38 : fld f37 a0 0 = .ref GA := (hb96.efl m_a0 r_a0 rfl).trans e6
            have e39 : fld f37 a0 22 = .ref GP := (hb96.efl m_a0 r_a0 rfl).trans e7
            have e40 : fld f37 a0 23 = .ref GL := (hb96.efl m_a0 r_a0 rfl).trans e8
            have e41 : fld f37 a0 6 = .ref GT := (hb96.efl m_a0 r_a0 rfl).trans e9
            refine lv_aload_n F.1 F.2.1 dX12_leads_96 rfl (lv_at hl 0 rfl) ?_
            refine g_12_7 F h m_a0 r_a0 dX12_leads_97 (fun o42 m_o42 r_o42 ho42 => ?_)
            obtain rfl := (fld_inj e38 ho42).symm
            refine lv_iload_n F.1 F.2.1 dX12_leads_100 rfl (lv_at hl 3 rfl) ?_
            refine lv_iload F.1 F.2.1 dX12_leads_101 (lv_at hl 4 rfl) ?_
            refine tw_i2l F dX12_leads_103 (fun z43 hz43 => ?_)
            refine tu_lconst F dX12_leads_104 (by decide) (fun z44 (hz44 : z44.toInt = 1) => ?_)
            refine tu_ladd F dX12_leads_105 (by omega) (fun z45 hz45 => ?_)
            refine se_61 F h m_GA r_GA (by omega) (atS (AS_h hR0 (by omega)) clP_12) dX12_leads_106 (fun f46 H locs e46a e46b hf46 h => ?_)
            have hA : KW (x1.toInt.toNat + 1) (x1.toInt.toNat + 49) GA f0 f46 := hA.st e46a (by omega)
            have hk : fr L R [(12, 20)] [12, 61] f0 f46 := hk.tr hf46 rfl rfl
            have hb2 : fr L R [(12, 20)] [12, 61] f0 f46 := hb2.tr hf46 rfl rfl
            have hb107 : fr L R [(12, 20)] [12, 61] f2 f46 := hb107.tr hf46 rfl rfl
            have e47 : fld f46 a0 0 = .ref GA := (hf46.efl m_a0 r_a0 rfl).trans e38
            have e48 : fld f46 a0 22 = .ref GP := (hf46.efl m_a0 r_a0 rfl).trans e39
            have e49 : fld f46 a0 23 = .ref GL := (hf46.efl m_a0 r_a0 rfl).trans e40
            have e50 : fld f46 a0 6 = .ref GT := (hf46.efl m_a0 r_a0 rfl).trans e41
            exact j_107 f46 _ _ _ h hA hk hb107 (lv_sub hl [0, 1, 2] rfl)
          have hb96 : fr L R [(12, 20)] [12] f2 f2 := fr.rf
          refine tw_icmp_ne (tgt := 96) F dX12_leads_55 (by decide) (fun b51 => ?_) (fun b51 => ?_)
          · exact j_96 f2 _ _ _ h hA hk hb96 (lv_sub hl [2, 3, 4, 1, 0] rfl)
          · refine lv_aload_n F.1 F.2.1 dX12_leads_58 rfl (lv_at hl 2 rfl) ?_
            refine g_12_279 F h m_a0 r_a0 dX12_leads_59 (fun v52 hv52 => ?_)
            refine tw_iconst F dX12_leads_62 ki_m1 (fun z53 hz53 => ?_)
            have j_83 : ∀ (ls : Array Slot), lv_has ls 5 [(0, .ref a0), (1, .int x1), (2, .int x2_2), (3, .int z19), (4, .int v35)] → W p l e rm_X12_leads s m args below meth c H locs 0 0 Q (F0 m 83 ls []) := by
              intro ls hl
              refine lv_aload_n F.1 F.2.1 dX12_leads_83 rfl (lv_at hl 0 rfl) ?_
              refine lv_aload_n F.1 F.2.1 dX12_leads_84 rfl (lv_at hl 0 rfl) ?_
              refine g_12_7 F h m_a0 r_a0 dX12_leads_85 (fun o54 m_o54 r_o54 ho54 => ?_)
              obtain rfl := (fld_inj e6 ho54).symm
              refine lv_iload_n F.1 F.2.1 dX12_leads_88 rfl (lv_at hl 3 rfl) ?_
              refine tw_iconst F dX12_leads_89 ki_2 (fun z55 hz55 => ?_)
              refine tu_iadd F dX12_leads_90 (by omega) (fun z56 hz56 => ?_)
              refine ld_61 F h m_GA r_GA (by omega) dX12_leads_91 (fun v57 hv57a => ?_)
              refine lv_l2i F.1 F.2.1 dX12_leads_92 rfl ?_
              refine lv_topi (fun z58 _ => ?_)
              refine p_12_279 F h m_a0 r_a0 dX12_leads_93 (fun f59 H locs e59p hf59 h => ?_)
              have hA : KW (x1.toInt.toNat + 1) (x1.toInt.toNat + 49) GA f0 f59 := hA.fm hf59 m_GA r_GA (by decide +kernel)
              have hk : fr L R [(12, 20)] [12, 61] f0 f59 := hk.tr hf59 rfl rfl
              have hb2 : fr L R [(12, 20)] [12, 61] f0 f59 := hb2.tr hf59 rfl rfl
              have hb107 : fr L R [(12, 20)] [12, 61] f2 f59 := hb107.tr hf59 rfl rfl
              have hb96 : fr L R [(12, 20)] [12] f2 f59 := hb96.tr hf59 rfl rfl
              have e60 : fld f59 a0 0 = .ref GA := (hf59.efl m_a0 r_a0 rfl).trans e6
              have e61 : fld f59 a0 22 = .ref GP := (hf59.efl m_a0 r_a0 rfl).trans e7
              have e62 : fld f59 a0 23 = .ref GL := (hf59.efl m_a0 r_a0 rfl).trans e8
              have e63 : fld f59 a0 6 = .ref GT := (hf59.efl m_a0 r_a0 rfl).trans e9
              exact j_96 f59 _ _ _ h hA hk hb96 (lv_sub hl [0, 1, 2, 3, 4] rfl)
            refine tw_icmp_eq (tgt := 83) F dX12_leads_63 (by decide) (fun b64 => ?_) (fun b64 => ?_)
            · exact j_83 _ (lv_sub hl [2, 3, 4, 1, 0] rfl)
            · refine lv_aload_n F.1 F.2.1 dX12_leads_66 rfl (lv_at hl 2 rfl) ?_
              refine g_12_7 F h m_a0 r_a0 dX12_leads_67 (fun o65 m_o65 r_o65 ho65 => ?_)
              obtain rfl := (fld_inj e6 ho65).symm
              refine lv_iload_n F.1 F.2.1 dX12_leads_70 rfl (lv_at hl 1 rfl) ?_
              refine tw_iconst F dX12_leads_71 ki_2 (fun z66 hz66 => ?_)
              refine tu_iadd F dX12_leads_72 (by omega) (fun z67 hz67 => ?_)
              refine ld_61 F h m_GA r_GA (by omega) dX12_leads_73 (fun v68 hv68a => ?_)
              refine lv_aload_n F.1 F.2.1 dX12_leads_74 rfl (lv_at hl 2 rfl) ?_
              refine g_12_279 F h m_a0 r_a0 dX12_leads_75 (fun v69 hv69 => ?_)
              refine tu_i2l F dX12_leads_78 (fun z70 hz70 hz70a hz70b => ?_)
              refine tw_lcmp F dX12_leads_79 (fun z71 hz71 => ?_)
              refine tw_if_ge (tgt := 96) F dX12_leads_80 (by decide) (fun b72 => ?_) (fun b72 => ?_)
              · exact j_96 f2 _ _ _ h hA hk hb96 (lv_sub hl [2, 3, 4, 1, 0] rfl)
              · exact j_83 _ (lv_sub hl [2, 3, 4, 1, 0] rfl)
        · refine lv_goto (tgt := 107) F.1 F.2.1 dX12_leads_34 (by decide) ?_
          exact j_107 f2 _ _ _ h hA hk hb107 (lv_sub hl [1, 2, 3] rfl)
  have hb2 : fr L R [(12, 20)] [12, 61] f0 f0 := fr.rf
  exact j_2 (((4 - z1.toInt)).toNat + 1) f0 _ _ _ z1 (by omega) (by omega) (by omega) h hA hk hb2 (lv_sub hl [1, 2, 0] rfl)
