def rm_X12_lineC : Room := { frames := 3, cells := 0, slots := 0, locals := 82 }
set_option maxHeartbeats 4000000 in
set_option maxRecDepth 100000 in
theorem s_X12_lineC (l : Launch) (D : va_G) (cy : Nat → ClassId) (L : List Nat) (R O : Nat → Nat) (f0 : Nat → va_E) (a0 : Nat) (m_a0 : a0 ∈ L) (r_a0 : R a0 = 12) (x1 : Int32) (GA : Nat) (m_GA : GA ∈ L) (r_GA : R GA = 61) (t_GA : fld f0 a0 0 = .ref GA) (GP : Nat) (m_GP : GP ∈ L) (r_GP : R GP = 69) (t_GP : fld f0 a0 22 = .ref GP) (GL : Nat) (m_GL : GL ∈ L) (r_GL : R GL = 70) (t_GL : fld f0 a0 23 = .ref GL) (GT : Nat) (m_GT : GT ∈ L) (r_GT : R GT = 64) (t_GT : fld f0 a0 6 = .ref GT) (pre0 : RBA GA f0) (pre1 : GZ GP GL f0) : ∀ sz, Met l yX12_line (Cond.code yX12_line cX12_line 5 (some .int) :: wsL_law) rm_X12_lineC (va_Pc [.ref a0, .int x1] (tPZ D cy L R (TT cy L R) f0 sz)) (va_Qi (fun (r : Int32) f1 => fr L R [(12, 1), (12, 9), (12, 10), (12, 11), (12, 12), (12, 13), (12, 14), (12, 15), (12, 16), (12, 17)] [12, 61, 66, 67] f0 f1 ∧ RBA GA f1 ∧ GZ GP GL f1 ∧ elj f1 GA 5159 = elj f0 GA 5159 ∧ elj f1 GA 10349 = elj f0 GA 10349 ∧ elj f1 GA 15539 = elj f0 GA 15539 ∧ elj f1 GA 20729 = elj f0 GA 20729) (tB D (tA L sz) L R (TT cy L R)) (tA L sz)) 0 0 (tA L sz) := by
  refine tw_enteri (by decide +kernel) rfl (Nat.le_of_ble_eq_true rfl) ?_
  intro p e s m below meth c A ls args Q F hZ h hl hret
  have hl : lv_has ls 5 [(0, .ref a0), (1, .int x1)] := hl
  have hk : fr L R [(12, 1), (12, 9), (12, 10), (12, 11), (12, 12), (12, 13), (12, 14), (12, 15), (12, 16), (12, 17)] [12, 61, 66, 67] f0 f0 := fr.rf
  have hR := pre0
  have hX := pre1
  have hqkc0 : elj f0 GA 5159 = elj f0 GA 5159 := rfl
  have hqkc1 : elj f0 GA 10349 = elj f0 GA 10349 := rfl
  have hqkc2 : elj f0 GA 15539 = elj f0 GA 15539 := rfl
  have hqkc3 : elj f0 GA 20729 = elj f0 GA 20729 := rfl
  refine lv_iload_n F.1 F.2.1 dX12_line_0 rfl (lv_at hl 1 rfl) ?_
  refine tw_if_lt (tgt := 18) F dX12_line_1 (by decide) (fun b1 => ?_) (fun b1 => ?_)
  · refine lv_aload_n F.1 F.2.1 dX12_line_18 rfl (lv_at hl 0 rfl) ?_
    refine tw_iconst F dX12_line_19 ki_1 (fun z2 hz2 => ?_)
    refine tw_Vi (As := [.int z2]) F hZ h yk_X12_refuse mw_452 mw_453 mw_454 (s_X12_refuse l D cy L R O f0 a0 m_a0 r_a0 z2 ⟨by omega, by omega⟩) rfl rfl m_a0 r_a0 (fun e q => (T_12 e).mp q) rfl hl.1 rfl (Nat.le_of_ble_eq_true rfl) ⟨Nat.le_of_ble_eq_true rfl, Nat.le_of_ble_eq_true rfl⟩ ⟨Nat.le_of_ble_eq_true rfl, Nat.le_of_ble_eq_true rfl⟩ dX12_line_20 (fun v4 f3 H locs hp3 h => ?_)
    obtain ⟨hf3, hv4a, hv4b⟩ := hp3
    have hR : RBA GA f3 := hR.fm hf3 m_GA r_GA (by decide +kernel)
    have hX : GZ GP GL f3 := hX.fm hf3 m_GP r_GP m_GL r_GL (by decide +kernel) (by decide +kernel)
    have hqkc0 : elj f3 GA 5159 = elj f0 GA 5159 := (hf3.eelj m_GA r_GA (by decide +kernel) _).trans hqkc0
    have hqkc1 : elj f3 GA 10349 = elj f0 GA 10349 := (hf3.eelj m_GA r_GA (by decide +kernel) _).trans hqkc1
    have hqkc2 : elj f3 GA 15539 = elj f0 GA 15539 := (hf3.eelj m_GA r_GA (by decide +kernel) _).trans hqkc2
    have hqkc3 : elj f3 GA 20729 = elj f0 GA 20729 := (hf3.eelj m_GA r_GA (by decide +kernel) _).trans hqkc3
    have hk : fr L R [(12, 1), (12, 9), (12, 10), (12, 11), (12, 12), (12, 13), (12, 14), (12, 15), (12, 16), (12, 17)] [12, 61, 66, 67] f0 f3 := hk.tr hf3 rfl rfl
    have e5 : fld f3 a0 0 = .ref GA := (hf3.efl m_a0 r_a0 rfl).trans t_GA
    have e6 : fld f3 a0 22 = .ref GP := (hf3.efl m_a0 r_a0 rfl).trans t_GP
    have e7 : fld f3 a0 23 = .ref GL := (hf3.efl m_a0 r_a0 rfl).trans t_GL
    have e8 : fld f3 a0 6 = .ref GT := (hf3.efl m_a0 r_a0 rfl).trans t_GT
    exact hret f3 _ _ _ _ v4 dX12_line_23 rfl ⟨hk, hR, hX, hqkc0, hqkc1, hqkc2, hqkc3⟩ h
  · refine lv_iload_n F.1 F.2.1 dX12_line_4 rfl (lv_at hl 1 rfl) ?_
    refine lv_aload_n F.1 F.2.1 dX12_line_5 rfl (lv_at hl 0 rfl) ?_
    refine g_12_144 F h m_a0 r_a0 dX12_line_6 (fun v9 hv9 hv9a hv9b => ?_)
    refine tw_icmp_gt (tgt := 18) F dX12_line_9 (by decide) (fun b10 => ?_) (fun b10 => ?_)
    · refine lv_aload_n F.1 F.2.1 dX12_line_18 rfl (lv_at hl 0 rfl) ?_
      refine tw_iconst F dX12_line_19 ki_1 (fun z11 hz11 => ?_)
      refine tw_Vi (As := [.int z11]) F hZ h yk_X12_refuse mw_452 mw_453 mw_454 (s_X12_refuse l D cy L R O f0 a0 m_a0 r_a0 z11 ⟨by omega, by omega⟩) rfl rfl m_a0 r_a0 (fun e q => (T_12 e).mp q) rfl hl.1 rfl (Nat.le_of_ble_eq_true rfl) ⟨Nat.le_of_ble_eq_true rfl, Nat.le_of_ble_eq_true rfl⟩ ⟨Nat.le_of_ble_eq_true rfl, Nat.le_of_ble_eq_true rfl⟩ dX12_line_20 (fun v13 f12 H locs hp12 h => ?_)
      obtain ⟨hf12, hv13a, hv13b⟩ := hp12
      have hR : RBA GA f12 := hR.fm hf12 m_GA r_GA (by decide +kernel)
      have hX : GZ GP GL f12 := hX.fm hf12 m_GP r_GP m_GL r_GL (by decide +kernel) (by decide +kernel)
      have hqkc0 : elj f12 GA 5159 = elj f0 GA 5159 := (hf12.eelj m_GA r_GA (by decide +kernel) _).trans hqkc0
      have hqkc1 : elj f12 GA 10349 = elj f0 GA 10349 := (hf12.eelj m_GA r_GA (by decide +kernel) _).trans hqkc1
      have hqkc2 : elj f12 GA 15539 = elj f0 GA 15539 := (hf12.eelj m_GA r_GA (by decide +kernel) _).trans hqkc2
      have hqkc3 : elj f12 GA 20729 = elj f0 GA 20729 := (hf12.eelj m_GA r_GA (by decide +kernel) _).trans hqkc3
      have hk : fr L R [(12, 1), (12, 9), (12, 10), (12, 11), (12, 12), (12, 13), (12, 14), (12, 15), (12, 16), (12, 17)] [12, 61, 66, 67] f0 f12 := hk.tr hf12 rfl rfl
      have e14 : fld f12 a0 0 = .ref GA := (hf12.efl m_a0 r_a0 rfl).trans t_GA
      have e15 : fld f12 a0 22 = .ref GP := (hf12.efl m_a0 r_a0 rfl).trans t_GP
      have e16 : fld f12 a0 23 = .ref GL := (hf12.efl m_a0 r_a0 rfl).trans t_GL
      have e17 : fld f12 a0 6 = .ref GT := (hf12.efl m_a0 r_a0 rfl).trans t_GT
      exact hret f12 _ _ _ _ v13 dX12_line_23 rfl ⟨hk, hR, hX, hqkc0, hqkc1, hqkc2, hqkc3⟩ h
    · refine lv_iload_n F.1 F.2.1 dX12_line_12 rfl (lv_at hl 1 rfl) ?_
      refine tw_bipush F dX12_line_13 kb_120 (fun z18 hz18 => ?_)
      refine tw_icmp_le (tgt := 24) F dX12_line_15 (by decide) (fun b19 => ?_) (fun b19 => ?_)
      · refine lv_aload_n F.1 F.2.1 dX12_line_24 rfl (lv_at hl 0 rfl) ?_
        refine lv_iload_n F.1 F.2.1 dX12_line_25 rfl (lv_at hl 1 rfl) ?_
        refine tw_Vv (As := [.int x1]) F hZ h yk_X12_begins mw_456 mw_457 mw_458 (s_X12_begins l D cy L R O f0 a0 m_a0 r_a0 x1 ⟨by omega, by omega⟩) rfl rfl m_a0 r_a0 (fun e q => (T_12 e).mp q) rfl hl.1 rfl (Nat.le_of_ble_eq_true rfl) ⟨Nat.le_of_ble_eq_true rfl, Nat.le_of_ble_eq_true rfl⟩ ⟨Nat.le_of_ble_eq_true rfl, Nat.le_of_ble_eq_true rfl⟩ dX12_line_26 (fun f20 H locs hp20 h => ?_)
        have hf20 := hp20
        have hR : RBA GA f20 := hR.fm hf20 m_GA r_GA (by decide +kernel)
        have hX : GZ GP GL f20 := hX.fm hf20 m_GP r_GP m_GL r_GL (by decide +kernel) (by decide +kernel)
        have hqkc0 : elj f20 GA 5159 = elj f0 GA 5159 := (hf20.eelj m_GA r_GA (by decide +kernel) _).trans hqkc0
        have hqkc1 : elj f20 GA 10349 = elj f0 GA 10349 := (hf20.eelj m_GA r_GA (by decide +kernel) _).trans hqkc1
        have hqkc2 : elj f20 GA 15539 = elj f0 GA 15539 := (hf20.eelj m_GA r_GA (by decide +kernel) _).trans hqkc2
        have hqkc3 : elj f20 GA 20729 = elj f0 GA 20729 := (hf20.eelj m_GA r_GA (by decide +kernel) _).trans hqkc3
        have hk : fr L R [(12, 1), (12, 9), (12, 10), (12, 11), (12, 12), (12, 13), (12, 14), (12, 15), (12, 16), (12, 17)] [12, 61, 66, 67] f0 f20 := hk.tr hf20 rfl rfl
        have e22 : fld f20 a0 0 = .ref GA := (hf20.efl m_a0 r_a0 rfl).trans t_GA
        have e23 : fld f20 a0 22 = .ref GP := (hf20.efl m_a0 r_a0 rfl).trans t_GP
        have e24 : fld f20 a0 23 = .ref GL := (hf20.efl m_a0 r_a0 rfl).trans t_GL
        have e25 : fld f20 a0 6 = .ref GT := (hf20.efl m_a0 r_a0 rfl).trans t_GT
        refine lv_aload_n F.1 F.2.1 dX12_line_29 rfl (lv_at hl 0 rfl) ?_
        refine tw_Vi (As := []) F hZ h yk_X12_readsLine mw_462 mw_463 mw_464 (s_X12_readsLine l D cy L R O f20 a0 m_a0 r_a0) rfl rfl m_a0 r_a0 (fun e q => (T_12 e).mp q) rfl hl.1 rfl (Nat.le_of_ble_eq_true rfl) ⟨Nat.le_of_ble_eq_true rfl, Nat.le_of_ble_eq_true rfl⟩ ⟨Nat.le_of_ble_eq_true rfl, Nat.le_of_ble_eq_true rfl⟩ dX12_line_30 (fun v27 f26 H locs hp26 h => ?_)
        obtain ⟨hf26, hv27a, hv27b⟩ := hp26
        have hR : RBA GA f26 := hR.fm hf26 m_GA r_GA (by decide +kernel)
        have hX : GZ GP GL f26 := hX.fm hf26 m_GP r_GP m_GL r_GL (by decide +kernel) (by decide +kernel)
        have hqkc0 : elj f26 GA 5159 = elj f0 GA 5159 := (hf26.eelj m_GA r_GA (by decide +kernel) _).trans hqkc0
        have hqkc1 : elj f26 GA 10349 = elj f0 GA 10349 := (hf26.eelj m_GA r_GA (by decide +kernel) _).trans hqkc1
        have hqkc2 : elj f26 GA 15539 = elj f0 GA 15539 := (hf26.eelj m_GA r_GA (by decide +kernel) _).trans hqkc2
        have hqkc3 : elj f26 GA 20729 = elj f0 GA 20729 := (hf26.eelj m_GA r_GA (by decide +kernel) _).trans hqkc3
        have hk : fr L R [(12, 1), (12, 9), (12, 10), (12, 11), (12, 12), (12, 13), (12, 14), (12, 15), (12, 16), (12, 17)] [12, 61, 66, 67] f0 f26 := hk.tr hf26 (by decide +kernel) (by decide +kernel)
        have e28 : fld f26 a0 0 = .ref GA := (hf26.efl m_a0 r_a0 rfl).trans e22
        have e29 : fld f26 a0 22 = .ref GP := (hf26.efl m_a0 r_a0 rfl).trans e23
        have e30 : fld f26 a0 23 = .ref GL := (hf26.efl m_a0 r_a0 rfl).trans e24
        have e31 : fld f26 a0 6 = .ref GT := (hf26.efl m_a0 r_a0 rfl).trans e25
        refine lv_istore_n (lv' := [(2, .int v27), (0, .ref a0), (1, .int x1)]) F.1 F.2.1 dX12_line_33 rfl hl (by decide) rfl (fun ls hl => ?_)
        refine lv_aload_n F.1 F.2.1 dX12_line_34 rfl (lv_at hl 1 rfl) ?_
        refine lv_aload_n F.1 F.2.1 dX12_line_35 rfl (lv_at hl 1 rfl) ?_
        refine g_12_181 F h m_a0 r_a0 dX12_line_36 (fun v32 hv32 => ?_)
        refine p_12_34 F h m_a0 r_a0 dX12_line_39 (fun f33 H locs e33p hf33 h => ?_)
        have hR : RBA GA f33 := hR.fm hf33 m_GA r_GA (by decide +kernel)
        have hX : GZ GP GL f33 := hX.fm hf33 m_GP r_GP m_GL r_GL (by decide +kernel) (by decide +kernel)
        have hqkc0 : elj f33 GA 5159 = elj f0 GA 5159 := (hf33.eelj m_GA r_GA (by decide +kernel) _).trans hqkc0
        have hqkc1 : elj f33 GA 10349 = elj f0 GA 10349 := (hf33.eelj m_GA r_GA (by decide +kernel) _).trans hqkc1
        have hqkc2 : elj f33 GA 15539 = elj f0 GA 15539 := (hf33.eelj m_GA r_GA (by decide +kernel) _).trans hqkc2
        have hqkc3 : elj f33 GA 20729 = elj f0 GA 20729 := (hf33.eelj m_GA r_GA (by decide +kernel) _).trans hqkc3
        have hk : fr L R [(12, 1), (12, 9), (12, 10), (12, 11), (12, 12), (12, 13), (12, 14), (12, 15), (12, 16), (12, 17)] [12, 61, 66, 67] f0 f33 := hk.tr hf33 rfl rfl
        have e34 : fld f33 a0 0 = .ref GA := (hf33.efl m_a0 r_a0 rfl).trans e28
        have e35 : fld f33 a0 22 = .ref GP := (hf33.efl m_a0 r_a0 rfl).trans e29
        have e36 : fld f33 a0 23 = .ref GL := (hf33.efl m_a0 r_a0 rfl).trans e30
        have e37 : fld f33 a0 6 = .ref GT := (hf33.efl m_a0 r_a0 rfl).trans e31
        have e38 : fi f33 a0 17 = fi f26 a0 17 := hf33.efi m_a0 r_a0 rfl
        refine lv_aload_n F.1 F.2.1 dX12_line_42 rfl (lv_at hl 1 rfl) ?_
        refine g_12_181 F h m_a0 r_a0 dX12_line_43 (fun v39 hv39 => ?_)
        refine tw_if_le (tgt := 56) F dX12_line_46 (by decide) (fun b40 => ?_) (fun b40 => ?_)
        · refine lv_aload_n F.1 F.2.1 dX12_line_56 rfl (lv_at hl 1 rfl) ?_
          refine g_12_7 F h m_a0 r_a0 dX12_line_57 (fun o41 m_o41 r_o41 ho41 => ?_)
          obtain rfl := (fld_inj e34 ho41).symm
          refine tw_sipush F dX12_line_60 ks_4950 (fun z42 hz42 => ?_)
          refine le_61 F h m_GA r_GA (by omega) dX12_line_63 (fun v43 ev43 hv43a => ?_)
          have hv43b := clP_11.mp (atb hv43a (ac_s1 (by omega)))
          have u63 : v43.toInt = elj f33 GA (4950) := by rw [ev43, show z42.toInt.toNat = 4950 by omega]
          refine tu_ldc2 F mw_451 dX12_line_64 kl_16 (fun z44 hz44 => ?_)
          refine tw_lcmp F dX12_line_67 (fun z45 hz45 => ?_)
          refine tw_if_ne (tgt := 77) F dX12_line_68 (by decide) (fun b46 => ?_) (fun b46 => ?_)
          · have hqk : elj f33 GA 4950 ≤ 15 := by omega
            refine lv_aload_n F.1 F.2.1 dX12_line_77 rfl (lv_at hl 1 rfl) ?_
            refine lv_aload_n F.1 F.2.1 dX12_line_78 rfl (lv_at hl 1 rfl) ?_
            refine g_12_7 F h m_a0 r_a0 dX12_line_79 (fun o47 m_o47 r_o47 ho47 => ?_)
            obtain rfl := (fld_inj e34 ho47).symm
            refine tw_sipush F dX12_line_82 ks_4950 (fun z48 hz48 => ?_)
            refine le_61 F h m_GA r_GA (by omega) dX12_line_85 (fun v49 ev49 hv49a => ?_)
            have hv49b := clP_11.mp (atb hv49a (ac_s1 (by omega)))
            have u85 : v49.toInt = elj f33 GA (4950) := by rw [ev49, show z48.toInt.toNat = 4950 by omega]
            refine tw_l2i F dX12_line_86 (by omega) (by omega) (fun z50 hz50 => ?_)
            refine tw_Vi (As := [.int z50]) F hZ h yk_X12_lineAt mw_495 mw_496 mw_497 (s_X12_lineAt l D cy L R O f33 a0 m_a0 r_a0 z50 ⟨by omega, by omega⟩) rfl rfl m_a0 r_a0 (fun e q => (T_12 e).mp q) rfl hl.1 rfl (Nat.le_of_ble_eq_true rfl) ⟨Nat.le_of_ble_eq_true rfl, Nat.le_of_ble_eq_true rfl⟩ ⟨Nat.le_of_ble_eq_true rfl, Nat.le_of_ble_eq_true rfl⟩ dX12_line_87 (fun v52 f51 H locs hp51 h => ?_)
            obtain ⟨rfl, hv52a, hv52b, hv52p0⟩ := hp51
            refine lv_istore_n (lv' := [(3, .int v52), (2, .int v27), (0, .ref a0), (1, .int x1)]) F.1 F.2.1 dX12_line_90 rfl hl (by decide) rfl (fun ls hl => ?_)
            refine lv_aload_n F.1 F.2.1 dX12_line_91 rfl (lv_at hl 2 rfl) ?_
            refine g_12_7 F h m_a0 r_a0 dX12_line_92 (fun o53 m_o53 r_o53 ho53 => ?_)
            obtain rfl := (fld_inj e34 ho53).symm
            refine lv_iload_n F.1 F.2.1 dX12_line_95 rfl (lv_at hl 0 rfl) ?_
            refine lv_iload_n F.1 F.2.1 dX12_line_96 rfl (lv_at hl 1 rfl) ?_
            refine tw_i2l F dX12_line_97 (fun z54 hz54 => ?_)
            refine se_61 F h m_GA r_GA (by omega) (atS (ac_l (by omega)) (clP_10.mpr (by omega))) dX12_line_98 (fun f55 H locs e55a e55b hf55 h => ?_)
            have hR : RBA GA f55 := hR.st e55a (Or.inr (Or.inl (by omega)))
            have hX : GZ GP GL f55 := hX.fm hf55 m_GP r_GP m_GL r_GL (by decide +kernel) (by decide +kernel)
            have hqkc0 : elj f55 GA 5159 = elj f0 GA 5159 := ((e55a _).trans (if_neg (by omega))).trans hqkc0
            have hqkc1 : elj f55 GA 10349 = elj f0 GA 10349 := ((e55a _).trans (if_neg (by omega))).trans hqkc1
            have hqkc2 : elj f55 GA 15539 = elj f0 GA 15539 := ((e55a _).trans (if_neg (by omega))).trans hqkc2
            have hqkc3 : elj f55 GA 20729 = elj f0 GA 20729 := ((e55a _).trans (if_neg (by omega))).trans hqkc3
            have hqk : elj f55 GA 4950 ≤ 15 := by rw [e55a, if_neg (by omega)]; exact hqk
            have hk : fr L R [(12, 1), (12, 9), (12, 10), (12, 11), (12, 12), (12, 13), (12, 14), (12, 15), (12, 16), (12, 17)] [12, 61, 66, 67] f0 f55 := hk.tr hf55 rfl rfl
            have e56 : fld f55 a0 0 = .ref GA := (hf55.efl m_a0 r_a0 rfl).trans e34
            have e57 : fld f55 a0 22 = .ref GP := (hf55.efl m_a0 r_a0 rfl).trans e35
            have e58 : fld f55 a0 23 = .ref GL := (hf55.efl m_a0 r_a0 rfl).trans e36
            have e59 : fld f55 a0 6 = .ref GT := (hf55.efl m_a0 r_a0 rfl).trans e37
            have e60 : fi f55 a0 17 = fi f33 a0 17 := hf55.efi m_a0 r_a0 rfl
            refine tw_iconst F dX12_line_99 ki_0 (fun z61 hz61 => ?_)
            refine lv_istore (lv' := [(4, .int z61), (3, .int v52), (2, .int v27), (0, .ref a0), (1, .int x1)]) F.1 F.2.1 dX12_line_100 hl (by decide) rfl (fun ls hl => ?_)
            have j_102 : ∀ (n102 : Nat) (f62 : Nat → va_E) (H : Heap) (locs : List Loc) (ls : Array Slot) (x4_102 : Int32), 0 ≤ x4_102.toInt → x4_102.toInt ≤ 12 → ((12 - x4_102.toInt)).toNat < n102 → tS D cy A s.heap L R (TT cy L R) f62 s H locs → RBA GA f62 → GZ GP GL f62 → elj f62 GA 5159 = elj f0 GA 5159 → elj f62 GA 10349 = elj f0 GA 10349 → elj f62 GA 15539 = elj f0 GA 15539 → elj f62 GA 20729 = elj f0 GA 20729 → elj f62 GA 4950 ≤ 15 → fr L R [(12, 1), (12, 9), (12, 10), (12, 11), (12, 12), (12, 13), (12, 14), (12, 15), (12, 16), (12, 17)] [12, 61, 66, 67] f0 f62 → fr L R [] [61] f55 f62 → lv_has ls 5 [(0, .ref a0), (2, .int v27), (3, .int v52), (4, .int x4_102)] → W p l e rm_X12_lineC s m args below meth c H locs 0 0 Q (F0 m 102 ls []) := by
              intro n102
              induction n102 with
              | zero =>
                intro f62 H locs ls x4_102 b63 b64 b65 h hR hX hqkc0 hqkc1 hqkc2 hqkc3 hqk hk hb102 hl
                exfalso
                omega
              | succ n102 ih102 =>
                intro f62 H locs ls x4_102 b63 b64 b65 h hR hX hqkc0 hqkc1 hqkc2 hqkc3 hqk hk hb102 hl
                have e66 : fld f62 a0 0 = .ref GA := (hb102.efl m_a0 r_a0 rfl).trans e56
                have e67 : fld f62 a0 22 = .ref GP := (hb102.efl m_a0 r_a0 rfl).trans e57
                have e68 : fld f62 a0 23 = .ref GL := (hb102.efl m_a0 r_a0 rfl).trans e58
                have e69 : fld f62 a0 6 = .ref GT := (hb102.efl m_a0 r_a0 rfl).trans e59
                have e70 : fi f62 a0 17 = fi f55 a0 17 := hb102.efi m_a0 r_a0 rfl
                refine lv_iload F.1 F.2.1 dX12_line_102 (lv_at hl 3 rfl) ?_
                refine lv_iload_n F.1 F.2.1 dX12_line_104 rfl (lv_at hl 1 rfl) ?_
                refine tw_icmp_ge (tgt := 132) F dX12_line_105 (by decide) (fun b71 => ?_) (fun b71 => ?_)
                · refine lv_aload_n F.1 F.2.1 dX12_line_132 rfl (lv_at hl 0 rfl) ?_
                  refine g_12_7 F h m_a0 r_a0 dX12_line_133 (fun o72 m_o72 r_o72 ho72 => ?_)
                  obtain rfl := (fld_inj e66 ho72).symm
                  refine tw_sipush F dX12_line_136 ks_4950 (fun z73 hz73 => ?_)
                  refine lv_dup2_11 F.1 F.2.1 dX12_line_139 rfl rfl ?_
                  refine le_61 F h m_GA r_GA (by omega) dX12_line_140 (fun v74 ev74 hv74a => ?_)
                  have hv74b := clP_11.mp (atb hv74a (ac_s1 (by omega)))
                  have u140 : v74.toInt = elj f62 GA (4950) := by rw [ev74, show z73.toInt.toNat = 4950 by omega]
                  refine tu_lconst F dX12_line_141 (by decide) (fun z75 (hz75 : z75.toInt = 1) => ?_)
                  refine tu_ladd F dX12_line_142 (by omega) (fun z76 hz76 => ?_)
                  refine se_61 F h m_GA r_GA (by omega) (atS (ac_s1 (by omega)) (clP_11.mpr (by omega))) dX12_line_143 (fun f77 H locs e77a e77b hf77 h => ?_)
                  have hR : RBA GA f77 := hR.st e77a (Or.inr (Or.inl (by omega)))
                  have hX : GZ GP GL f77 := hX.fm hf77 m_GP r_GP m_GL r_GL (by decide +kernel) (by decide +kernel)
                  have hqkc0 : elj f77 GA 5159 = elj f0 GA 5159 := ((e77a _).trans (if_neg (by omega))).trans hqkc0
                  have hqkc1 : elj f77 GA 10349 = elj f0 GA 10349 := ((e77a _).trans (if_neg (by omega))).trans hqkc1
                  have hqkc2 : elj f77 GA 15539 = elj f0 GA 15539 := ((e77a _).trans (if_neg (by omega))).trans hqkc2
                  have hqkc3 : elj f77 GA 20729 = elj f0 GA 20729 := ((e77a _).trans (if_neg (by omega))).trans hqkc3
                  have hk : fr L R [(12, 1), (12, 9), (12, 10), (12, 11), (12, 12), (12, 13), (12, 14), (12, 15), (12, 16), (12, 17)] [12, 61, 66, 67] f0 f77 := hk.tr hf77 rfl rfl
                  have hb102 : fr L R [] [61] f55 f77 := hb102.tr hf77 rfl rfl
                  have e78 : fld f77 a0 0 = .ref GA := (hf77.efl m_a0 r_a0 rfl).trans e66
                  have e79 : fld f77 a0 22 = .ref GP := (hf77.efl m_a0 r_a0 rfl).trans e67
                  have e80 : fld f77 a0 23 = .ref GL := (hf77.efl m_a0 r_a0 rfl).trans e68
                  have e81 : fld f77 a0 6 = .ref GT := (hf77.efl m_a0 r_a0 rfl).trans e69
                  have e82 : fi f77 a0 17 = fi f62 a0 17 := hf77.efi m_a0 r_a0 rfl
                  refine lv_aload_n F.1 F.2.1 dX12_line_144 rfl (lv_at hl 0 rfl) ?_
                  refine lv_aload_n F.1 F.2.1 dX12_line_145 rfl (lv_at hl 0 rfl) ?_
                  refine g_12_7 F h m_a0 r_a0 dX12_line_146 (fun o83 m_o83 r_o83 ho83 => ?_)
                  obtain rfl := (fld_inj e78 ho83).symm
                  refine tw_sipush F dX12_line_149 ks_4950 (fun z84 hz84 => ?_)
                  refine ld_61 F h m_GA r_GA (by omega) dX12_line_152 (fun v85 hv85a => ?_)
                  have hv85b := clP_11.mp (atb hv85a (ac_s1 (by omega)))
                  refine tw_l2i F dX12_line_153 (by omega) (by omega) (fun z86 hz86 => ?_)
                  refine tw_iconst F dX12_line_154 ki_1 (fun z87 hz87 => ?_)
                  refine tu_isub F dX12_line_155 (by omega) (fun z88 hz88 => ?_)
                  refine tw_Vi (As := [.int z88]) F hZ h yk_X12_gives mw_499 mw_500 mw_501 (s_X12_gives l D cy L R O f77 a0 m_a0 r_a0 z88) rfl rfl m_a0 r_a0 (fun e q => (T_12 e).mp q) rfl hl.1 rfl (Nat.le_of_ble_eq_true rfl) ⟨Nat.le_of_ble_eq_true rfl, Nat.le_of_ble_eq_true rfl⟩ ⟨Nat.le_of_ble_eq_true rfl, Nat.le_of_ble_eq_true rfl⟩ dX12_line_156 (fun v90 f89 H locs hp89 h => ?_)
                  have hf89 := hp89
                  have hR : RBA GA f89 := hR.fm hf89 m_GA r_GA (by decide +kernel)
                  have hX : GZ GP GL f89 := hX.fm hf89 m_GP r_GP m_GL r_GL (by decide +kernel) (by decide +kernel)
                  have hqkc0 : elj f89 GA 5159 = elj f0 GA 5159 := (hf89.eelj m_GA r_GA (by decide +kernel) _).trans hqkc0
                  have hqkc1 : elj f89 GA 10349 = elj f0 GA 10349 := (hf89.eelj m_GA r_GA (by decide +kernel) _).trans hqkc1
                  have hqkc2 : elj f89 GA 15539 = elj f0 GA 15539 := (hf89.eelj m_GA r_GA (by decide +kernel) _).trans hqkc2
                  have hqkc3 : elj f89 GA 20729 = elj f0 GA 20729 := (hf89.eelj m_GA r_GA (by decide +kernel) _).trans hqkc3
                  have hk : fr L R [(12, 1), (12, 9), (12, 10), (12, 11), (12, 12), (12, 13), (12, 14), (12, 15), (12, 16), (12, 17)] [12, 61, 66, 67] f0 f89 := hk.tr hf89 rfl rfl
                  have e91 : fld f89 a0 0 = .ref GA := (hf89.efl m_a0 r_a0 rfl).trans e78
                  have e92 : fld f89 a0 22 = .ref GP := (hf89.efl m_a0 r_a0 rfl).trans e79
                  have e93 : fld f89 a0 23 = .ref GL := (hf89.efl m_a0 r_a0 rfl).trans e80
                  have e94 : fld f89 a0 6 = .ref GT := (hf89.efl m_a0 r_a0 rfl).trans e81
                  have e95 : fi f89 a0 17 = fi f77 a0 17 := hf89.efi m_a0 r_a0 rfl
                  exact hret f89 _ _ _ _ v90 dX12_line_159 rfl ⟨hk, hR, hX, hqkc0, hqkc1, hqkc2, hqkc3⟩ h
                · refine lv_aload_n F.1 F.2.1 dX12_line_108 rfl (lv_at hl 0 rfl) ?_
                  refine g_12_7 F h m_a0 r_a0 dX12_line_109 (fun o96 m_o96 r_o96 ho96 => ?_)
                  obtain rfl := (fld_inj e66 ho96).symm
                  refine lv_iload_n F.1 F.2.1 dX12_line_112 rfl (lv_at hl 2 rfl) ?_
                  refine tw_iconst F dX12_line_113 ki_1 (fun z97 hz97 => ?_)
                  refine tu_iadd F dX12_line_114 (by omega) (fun z98 hz98 => ?_)
                  refine lv_iload F.1 F.2.1 dX12_line_115 (lv_at hl 3 rfl) ?_
                  refine tu_iadd F dX12_line_117 (by omega) (fun z99 hz99 => ?_)
                  refine lv_aload_n F.1 F.2.1 dX12_line_118 rfl (lv_at hl 0 rfl) ?_
                  refine g_12_41 F h m_a0 r_a0 dX12_line_119 (fun o100 m_o100 r_o100 ho100 => ?_)
                  refine lv_iload F.1 F.2.1 dX12_line_122 (lv_at hl 3 rfl) ?_
                  refine ld_67 F h m_o100 r_o100 (by omega) dX12_line_124 (fun v101 => ?_)
                  refine se_61 F h m_GA r_GA (by omega) (atS (ac_lw (by omega)) clP_0) dX12_line_125 (fun f102 H locs e102a e102b hf102 h => ?_)
                  have hR : RBA GA f102 := hR.st e102a (Or.inr (Or.inl (by omega)))
                  have hX : GZ GP GL f102 := hX.fm hf102 m_GP r_GP m_GL r_GL (by decide +kernel) (by decide +kernel)
                  have hqkc0 : elj f102 GA 5159 = elj f0 GA 5159 := ((e102a _).trans (if_neg (by omega))).trans hqkc0
                  have hqkc1 : elj f102 GA 10349 = elj f0 GA 10349 := ((e102a _).trans (if_neg (by omega))).trans hqkc1
                  have hqkc2 : elj f102 GA 15539 = elj f0 GA 15539 := ((e102a _).trans (if_neg (by omega))).trans hqkc2
                  have hqkc3 : elj f102 GA 20729 = elj f0 GA 20729 := ((e102a _).trans (if_neg (by omega))).trans hqkc3
                  have hqk : elj f102 GA 4950 ≤ 15 := by rw [e102a, if_neg (by omega)]; exact hqk
                  have hk : fr L R [(12, 1), (12, 9), (12, 10), (12, 11), (12, 12), (12, 13), (12, 14), (12, 15), (12, 16), (12, 17)] [12, 61, 66, 67] f0 f102 := hk.tr hf102 rfl rfl
                  have hb102 : fr L R [] [61] f55 f102 := hb102.tr hf102 rfl rfl
                  have e103 : fld f102 a0 0 = .ref GA := (hf102.efl m_a0 r_a0 rfl).trans e66
                  have e104 : fld f102 a0 22 = .ref GP := (hf102.efl m_a0 r_a0 rfl).trans e67
                  have e105 : fld f102 a0 23 = .ref GL := (hf102.efl m_a0 r_a0 rfl).trans e68
                  have e106 : fld f102 a0 6 = .ref GT := (hf102.efl m_a0 r_a0 rfl).trans e69
                  have e107 : fi f102 a0 17 = fi f62 a0 17 := hf102.efi m_a0 r_a0 rfl
                  refine tu_iinc F dX12_line_126 hl (k := 3) rfl (by decide) ki_1 (by omega) (fun z108 ls hz108 hl => ?_)
                  have hl : lv_has ls 5 [(4, .int z108), (0, .ref a0), (2, .int v27), (3, .int v52)] := hl
                  refine lv_goto (tgt := 102) F.1 F.2.1 dX12_line_129 (by decide) ?_
                  exact ih102 f102 _ _ _ z108 (by omega) (by omega) (by omega) h hR hX hqkc0 hqkc1 hqkc2 hqkc3 hqk hk hb102 (lv_sub hl [1, 2, 3, 0] rfl)
            have hb102 : fr L R [] [61] f55 f55 := fr.rf
            exact j_102 (((12 - z61.toInt)).toNat + 1) f55 _ _ _ z61 (by omega) (by omega) (by omega) h hR hX hqkc0 hqkc1 hqkc2 hqkc3 hqk hk hb102 (lv_sub hl [3, 2, 1, 0] rfl)
          · refine lv_aload_n F.1 F.2.1 dX12_line_71 rfl (lv_at hl 1 rfl) ?_
            refine tw_iconst F dX12_line_72 ki_4 (fun z109 hz109 => ?_)
            refine tw_Vi (As := [.int z109]) F hZ h yk_X12_refuse mw_452 mw_453 mw_454 (s_X12_refuse l D cy L R O f33 a0 m_a0 r_a0 z109 ⟨by omega, by omega⟩) rfl rfl m_a0 r_a0 (fun e q => (T_12 e).mp q) rfl hl.1 rfl (Nat.le_of_ble_eq_true rfl) ⟨Nat.le_of_ble_eq_true rfl, Nat.le_of_ble_eq_true rfl⟩ ⟨Nat.le_of_ble_eq_true rfl, Nat.le_of_ble_eq_true rfl⟩ dX12_line_73 (fun v111 f110 H locs hp110 h => ?_)
            obtain ⟨hf110, hv111a, hv111b⟩ := hp110
            have hR : RBA GA f110 := hR.fm hf110 m_GA r_GA (by decide +kernel)
            have hX : GZ GP GL f110 := hX.fm hf110 m_GP r_GP m_GL r_GL (by decide +kernel) (by decide +kernel)
            have hqkc0 : elj f110 GA 5159 = elj f0 GA 5159 := (hf110.eelj m_GA r_GA (by decide +kernel) _).trans hqkc0
            have hqkc1 : elj f110 GA 10349 = elj f0 GA 10349 := (hf110.eelj m_GA r_GA (by decide +kernel) _).trans hqkc1
            have hqkc2 : elj f110 GA 15539 = elj f0 GA 15539 := (hf110.eelj m_GA r_GA (by decide +kernel) _).trans hqkc2
            have hqkc3 : elj f110 GA 20729 = elj f0 GA 20729 := (hf110.eelj m_GA r_GA (by decide +kernel) _).trans hqkc3
            have hk : fr L R [(12, 1), (12, 9), (12, 10), (12, 11), (12, 12), (12, 13), (12, 14), (12, 15), (12, 16), (12, 17)] [12, 61, 66, 67] f0 f110 := hk.tr hf110 rfl rfl
            have e112 : fld f110 a0 0 = .ref GA := (hf110.efl m_a0 r_a0 rfl).trans e34
            have e113 : fld f110 a0 22 = .ref GP := (hf110.efl m_a0 r_a0 rfl).trans e35
            have e114 : fld f110 a0 23 = .ref GL := (hf110.efl m_a0 r_a0 rfl).trans e36
            have e115 : fld f110 a0 6 = .ref GT := (hf110.efl m_a0 r_a0 rfl).trans e37
            have e116 : fi f110 a0 17 = fi f33 a0 17 := hf110.efi m_a0 r_a0 rfl
            exact hret f110 _ _ _ _ v111 dX12_line_76 rfl ⟨hk, hR, hX, hqkc0, hqkc1, hqkc2, hqkc3⟩ h
        · refine lv_aload_n F.1 F.2.1 dX12_line_49 rfl (lv_at hl 1 rfl) ?_
          refine tw_bipush F dX12_line_50 kb_9 (fun z117 hz117 => ?_)
          refine tw_Vi (As := [.int z117]) F hZ h yk_X12_refuse mw_452 mw_453 mw_454 (s_X12_refuse l D cy L R O f33 a0 m_a0 r_a0 z117 ⟨by omega, by omega⟩) rfl rfl m_a0 r_a0 (fun e q => (T_12 e).mp q) rfl hl.1 rfl (Nat.le_of_ble_eq_true rfl) ⟨Nat.le_of_ble_eq_true rfl, Nat.le_of_ble_eq_true rfl⟩ ⟨Nat.le_of_ble_eq_true rfl, Nat.le_of_ble_eq_true rfl⟩ dX12_line_52 (fun v119 f118 H locs hp118 h => ?_)
          obtain ⟨hf118, hv119a, hv119b⟩ := hp118
          have hR : RBA GA f118 := hR.fm hf118 m_GA r_GA (by decide +kernel)
          have hX : GZ GP GL f118 := hX.fm hf118 m_GP r_GP m_GL r_GL (by decide +kernel) (by decide +kernel)
          have hqkc0 : elj f118 GA 5159 = elj f0 GA 5159 := (hf118.eelj m_GA r_GA (by decide +kernel) _).trans hqkc0
          have hqkc1 : elj f118 GA 10349 = elj f0 GA 10349 := (hf118.eelj m_GA r_GA (by decide +kernel) _).trans hqkc1
          have hqkc2 : elj f118 GA 15539 = elj f0 GA 15539 := (hf118.eelj m_GA r_GA (by decide +kernel) _).trans hqkc2
          have hqkc3 : elj f118 GA 20729 = elj f0 GA 20729 := (hf118.eelj m_GA r_GA (by decide +kernel) _).trans hqkc3
          have hk : fr L R [(12, 1), (12, 9), (12, 10), (12, 11), (12, 12), (12, 13), (12, 14), (12, 15), (12, 16), (12, 17)] [12, 61, 66, 67] f0 f118 := hk.tr hf118 rfl rfl
          have e120 : fld f118 a0 0 = .ref GA := (hf118.efl m_a0 r_a0 rfl).trans e34
          have e121 : fld f118 a0 22 = .ref GP := (hf118.efl m_a0 r_a0 rfl).trans e35
          have e122 : fld f118 a0 23 = .ref GL := (hf118.efl m_a0 r_a0 rfl).trans e36
          have e123 : fld f118 a0 6 = .ref GT := (hf118.efl m_a0 r_a0 rfl).trans e37
          have e124 : fi f118 a0 17 = fi f33 a0 17 := hf118.efi m_a0 r_a0 rfl
          exact hret f118 _ _ _ _ v119 dX12_line_55 rfl ⟨hk, hR, hX, hqkc0, hqkc1, hqkc2, hqkc3⟩ h
      · refine lv_aload_n F.1 F.2.1 dX12_line_18 rfl (lv_at hl 0 rfl) ?_
        refine tw_iconst F dX12_line_19 ki_1 (fun z125 hz125 => ?_)
        refine tw_Vi (As := [.int z125]) F hZ h yk_X12_refuse mw_452 mw_453 mw_454 (s_X12_refuse l D cy L R O f0 a0 m_a0 r_a0 z125 ⟨by omega, by omega⟩) rfl rfl m_a0 r_a0 (fun e q => (T_12 e).mp q) rfl hl.1 rfl (Nat.le_of_ble_eq_true rfl) ⟨Nat.le_of_ble_eq_true rfl, Nat.le_of_ble_eq_true rfl⟩ ⟨Nat.le_of_ble_eq_true rfl, Nat.le_of_ble_eq_true rfl⟩ dX12_line_20 (fun v127 f126 H locs hp126 h => ?_)
        obtain ⟨hf126, hv127a, hv127b⟩ := hp126
        have hR : RBA GA f126 := hR.fm hf126 m_GA r_GA (by decide +kernel)
        have hX : GZ GP GL f126 := hX.fm hf126 m_GP r_GP m_GL r_GL (by decide +kernel) (by decide +kernel)
        have hqkc0 : elj f126 GA 5159 = elj f0 GA 5159 := (hf126.eelj m_GA r_GA (by decide +kernel) _).trans hqkc0
        have hqkc1 : elj f126 GA 10349 = elj f0 GA 10349 := (hf126.eelj m_GA r_GA (by decide +kernel) _).trans hqkc1
        have hqkc2 : elj f126 GA 15539 = elj f0 GA 15539 := (hf126.eelj m_GA r_GA (by decide +kernel) _).trans hqkc2
        have hqkc3 : elj f126 GA 20729 = elj f0 GA 20729 := (hf126.eelj m_GA r_GA (by decide +kernel) _).trans hqkc3
        have hk : fr L R [(12, 1), (12, 9), (12, 10), (12, 11), (12, 12), (12, 13), (12, 14), (12, 15), (12, 16), (12, 17)] [12, 61, 66, 67] f0 f126 := hk.tr hf126 rfl rfl
        have e128 : fld f126 a0 0 = .ref GA := (hf126.efl m_a0 r_a0 rfl).trans t_GA
        have e129 : fld f126 a0 22 = .ref GP := (hf126.efl m_a0 r_a0 rfl).trans t_GP
        have e130 : fld f126 a0 23 = .ref GL := (hf126.efl m_a0 r_a0 rfl).trans t_GL
        have e131 : fld f126 a0 6 = .ref GT := (hf126.efl m_a0 r_a0 rfl).trans t_GT
        exact hret f126 _ _ _ _ v127 dX12_line_23 rfl ⟨hk, hR, hX, hqkc0, hqkc1, hqkc2, hqkc3⟩ h
def rm_X12_scriptC : Room := { frames := 10, cells := 0, slots := 0, locals := 222 }
set_option maxHeartbeats 4000000 in
set_option maxRecDepth 100000 in
theorem s_X12_scriptC (l : Launch) (D : va_G) (cy : Nat → ClassId) (L : List Nat) (R O : Nat → Nat) (f0 : Nat → va_E) (a0 : Nat) (m_a0 : a0 ∈ L) (r_a0 : R a0 = 12) (x1 : Int32) (x2 : Int32) (GA : Nat) (m_GA : GA ∈ L) (r_GA : R GA = 61) (t_GA : fld f0 a0 0 = .ref GA) (GP : Nat) (m_GP : GP ∈ L) (r_GP : R GP = 69) (t_GP : fld f0 a0 22 = .ref GP) (GL : Nat) (m_GL : GL ∈ L) (r_GL : R GL = 70) (t_GL : fld f0 a0 23 = .ref GL) (GT : Nat) (m_GT : GT ∈ L) (r_GT : R GT = 64) (t_GT : fld f0 a0 6 = .ref GT) (pre0 : RBA GA f0) (pre1 : GZ GP GL f0) : ∀ sz, Met l yX12_script (Cond.code yX12_script cX12_script 5 (some .int) :: wsL_law) rm_X12_scriptC (va_Pc [.ref a0, .int x1, .int x2] (tPZ D cy L R (TT cy L R) f0 sz)) (va_Qi (fun (r : Int32) f1 => fr L R [(12, 1), (12, 9), (12, 10), (12, 11), (12, 12), (12, 13), (12, 14), (12, 15), (12, 16), (12, 17), (12, 19), (12, 20)] [12, 61, 66] f0 f1 ∧ RBA GA f1 ∧ GZ GP GL f1 ∧ elj f1 GA 5159 = elj f0 GA 5159 ∧ elj f1 GA 10349 = elj f0 GA 10349 ∧ elj f1 GA 15539 = elj f0 GA 15539 ∧ elj f1 GA 20729 = elj f0 GA 20729) (tB D (tA L sz) L R (TT cy L R)) (tA L sz)) 0 0 (tA L sz) := by
  refine tw_enteri (by decide +kernel) rfl (Nat.le_of_ble_eq_true rfl) ?_
  intro p e s m below meth c A ls args Q F hZ h hl hret
  have hl : lv_has ls 5 [(0, .ref a0), (1, .int x1), (2, .int x2)] := hl
  have hk : fr L R [(12, 1), (12, 9), (12, 10), (12, 11), (12, 12), (12, 13), (12, 14), (12, 15), (12, 16), (12, 17), (12, 19), (12, 20)] [12, 61, 66] f0 f0 := fr.rf
  have hR := pre0
  have hX := pre1
  have hqkc0 : elj f0 GA 5159 = elj f0 GA 5159 := rfl
  have hqkc1 : elj f0 GA 10349 = elj f0 GA 10349 := rfl
  have hqkc2 : elj f0 GA 15539 = elj f0 GA 15539 := rfl
  have hqkc3 : elj f0 GA 20729 = elj f0 GA 20729 := rfl
  refine lv_aload_n F.1 F.2.1 dX12_script_0 rfl (lv_at hl 0 rfl) ?_
  refine lv_iload_n F.1 F.2.1 dX12_script_1 rfl (lv_at hl 1 rfl) ?_
  refine tw_Vi (As := [.int x1]) F hZ h yk_X12_isScript mw_635 mw_636 mw_637 (s_X12_isScript l D cy L R O f0 a0 m_a0 r_a0 x1) rfl rfl m_a0 r_a0 (fun e q => (T_12 e).mp q) rfl hl.1 rfl (Nat.le_of_ble_eq_true rfl) ⟨Nat.le_of_ble_eq_true rfl, Nat.le_of_ble_eq_true rfl⟩ ⟨Nat.le_of_ble_eq_true rfl, Nat.le_of_ble_eq_true rfl⟩ dX12_script_2 (fun v2 f1 H locs hp1 h => ?_)
  obtain ⟨rfl, hv2a, hv2b, hv2p0⟩ := hp1
  refine tw_if_eq (tgt := 20) F dX12_script_5 (by decide) (fun b3 => ?_) (fun b3 => ?_)
  · refine lv_aload_n F.1 F.2.1 dX12_script_20 rfl (lv_at hl 0 rfl) ?_
    refine tw_iconst F dX12_script_21 ki_1 (fun z4 hz4 => ?_)
    refine tw_Vi (As := [.int z4]) F hZ h yk_X12_refuse mw_452 mw_453 mw_454 (s_X12_refuse l D cy L R O f0 a0 m_a0 r_a0 z4 ⟨by omega, by omega⟩) rfl rfl m_a0 r_a0 (fun e q => (T_12 e).mp q) rfl hl.1 rfl (Nat.le_of_ble_eq_true rfl) ⟨Nat.le_of_ble_eq_true rfl, Nat.le_of_ble_eq_true rfl⟩ ⟨Nat.le_of_ble_eq_true rfl, Nat.le_of_ble_eq_true rfl⟩ dX12_script_22 (fun v6 f5 H locs hp5 h => ?_)
    obtain ⟨hf5, hv6a, hv6b⟩ := hp5
    have hR : RBA GA f5 := hR.fm hf5 m_GA r_GA (by decide +kernel)
    have hX : GZ GP GL f5 := hX.fm hf5 m_GP r_GP m_GL r_GL (by decide +kernel) (by decide +kernel)
    have hqkc0 : elj f5 GA 5159 = elj f0 GA 5159 := (hf5.eelj m_GA r_GA (by decide +kernel) _).trans hqkc0
    have hqkc1 : elj f5 GA 10349 = elj f0 GA 10349 := (hf5.eelj m_GA r_GA (by decide +kernel) _).trans hqkc1
    have hqkc2 : elj f5 GA 15539 = elj f0 GA 15539 := (hf5.eelj m_GA r_GA (by decide +kernel) _).trans hqkc2
    have hqkc3 : elj f5 GA 20729 = elj f0 GA 20729 := (hf5.eelj m_GA r_GA (by decide +kernel) _).trans hqkc3
    have hk : fr L R [(12, 1), (12, 9), (12, 10), (12, 11), (12, 12), (12, 13), (12, 14), (12, 15), (12, 16), (12, 17), (12, 19), (12, 20)] [12, 61, 66] f0 f5 := hk.tr hf5 rfl rfl
    have e7 : fld f5 a0 0 = .ref GA := (hf5.efl m_a0 r_a0 rfl).trans t_GA
    have e8 : fld f5 a0 22 = .ref GP := (hf5.efl m_a0 r_a0 rfl).trans t_GP
    have e9 : fld f5 a0 23 = .ref GL := (hf5.efl m_a0 r_a0 rfl).trans t_GL
    have e10 : fld f5 a0 6 = .ref GT := (hf5.efl m_a0 r_a0 rfl).trans t_GT
    exact hret f5 _ _ _ _ v6 dX12_script_25 rfl ⟨hk, hR, hX, hqkc0, hqkc1, hqkc2, hqkc3⟩ h
  · refine lv_iload_n F.1 F.2.1 dX12_script_8 rfl (lv_at hl 2 rfl) ?_
    refine tw_if_lt (tgt := 20) F dX12_script_9 (by decide) (fun b11 => ?_) (fun b11 => ?_)
    · refine lv_aload_n F.1 F.2.1 dX12_script_20 rfl (lv_at hl 0 rfl) ?_
      refine tw_iconst F dX12_script_21 ki_1 (fun z12 hz12 => ?_)
      refine tw_Vi (As := [.int z12]) F hZ h yk_X12_refuse mw_452 mw_453 mw_454 (s_X12_refuse l D cy L R O f0 a0 m_a0 r_a0 z12 ⟨by omega, by omega⟩) rfl rfl m_a0 r_a0 (fun e q => (T_12 e).mp q) rfl hl.1 rfl (Nat.le_of_ble_eq_true rfl) ⟨Nat.le_of_ble_eq_true rfl, Nat.le_of_ble_eq_true rfl⟩ ⟨Nat.le_of_ble_eq_true rfl, Nat.le_of_ble_eq_true rfl⟩ dX12_script_22 (fun v14 f13 H locs hp13 h => ?_)
      obtain ⟨hf13, hv14a, hv14b⟩ := hp13
      have hR : RBA GA f13 := hR.fm hf13 m_GA r_GA (by decide +kernel)
      have hX : GZ GP GL f13 := hX.fm hf13 m_GP r_GP m_GL r_GL (by decide +kernel) (by decide +kernel)
      have hqkc0 : elj f13 GA 5159 = elj f0 GA 5159 := (hf13.eelj m_GA r_GA (by decide +kernel) _).trans hqkc0
      have hqkc1 : elj f13 GA 10349 = elj f0 GA 10349 := (hf13.eelj m_GA r_GA (by decide +kernel) _).trans hqkc1
      have hqkc2 : elj f13 GA 15539 = elj f0 GA 15539 := (hf13.eelj m_GA r_GA (by decide +kernel) _).trans hqkc2
      have hqkc3 : elj f13 GA 20729 = elj f0 GA 20729 := (hf13.eelj m_GA r_GA (by decide +kernel) _).trans hqkc3
      have hk : fr L R [(12, 1), (12, 9), (12, 10), (12, 11), (12, 12), (12, 13), (12, 14), (12, 15), (12, 16), (12, 17), (12, 19), (12, 20)] [12, 61, 66] f0 f13 := hk.tr hf13 rfl rfl
      have e15 : fld f13 a0 0 = .ref GA := (hf13.efl m_a0 r_a0 rfl).trans t_GA
      have e16 : fld f13 a0 22 = .ref GP := (hf13.efl m_a0 r_a0 rfl).trans t_GP
      have e17 : fld f13 a0 23 = .ref GL := (hf13.efl m_a0 r_a0 rfl).trans t_GL
      have e18 : fld f13 a0 6 = .ref GT := (hf13.efl m_a0 r_a0 rfl).trans t_GT
      exact hret f13 _ _ _ _ v14 dX12_script_25 rfl ⟨hk, hR, hX, hqkc0, hqkc1, hqkc2, hqkc3⟩ h
    · refine lv_iload_n F.1 F.2.1 dX12_script_12 rfl (lv_at hl 2 rfl) ?_
      refine lv_aload_n F.1 F.2.1 dX12_script_13 rfl (lv_at hl 0 rfl) ?_
      refine g_12_144 F h m_a0 r_a0 dX12_script_14 (fun v19 hv19 hv19a hv19b => ?_)
      refine tw_icmp_le (tgt := 26) F dX12_script_17 (by decide) (fun b20 => ?_) (fun b20 => ?_)
      · refine lv_aload_n F.1 F.2.1 dX12_script_26 rfl (lv_at hl 0 rfl) ?_
        refine lv_iload_n F.1 F.2.1 dX12_script_27 rfl (lv_at hl 2 rfl) ?_
        refine tw_Vv (As := [.int x2]) F hZ h yk_X12_begins mw_456 mw_457 mw_458 (s_X12_begins l D cy L R O f0 a0 m_a0 r_a0 x2 ⟨by omega, by omega⟩) rfl rfl m_a0 r_a0 (fun e q => (T_12 e).mp q) rfl hl.1 rfl (Nat.le_of_ble_eq_true rfl) ⟨Nat.le_of_ble_eq_true rfl, Nat.le_of_ble_eq_true rfl⟩ ⟨Nat.le_of_ble_eq_true rfl, Nat.le_of_ble_eq_true rfl⟩ dX12_script_28 (fun f21 H locs hp21 h => ?_)
        have hf21 := hp21
        have hR : RBA GA f21 := hR.fm hf21 m_GA r_GA (by decide +kernel)
        have hX : GZ GP GL f21 := hX.fm hf21 m_GP r_GP m_GL r_GL (by decide +kernel) (by decide +kernel)
        have hqkc0 : elj f21 GA 5159 = elj f0 GA 5159 := (hf21.eelj m_GA r_GA (by decide +kernel) _).trans hqkc0
        have hqkc1 : elj f21 GA 10349 = elj f0 GA 10349 := (hf21.eelj m_GA r_GA (by decide +kernel) _).trans hqkc1
        have hqkc2 : elj f21 GA 15539 = elj f0 GA 15539 := (hf21.eelj m_GA r_GA (by decide +kernel) _).trans hqkc2
        have hqkc3 : elj f21 GA 20729 = elj f0 GA 20729 := (hf21.eelj m_GA r_GA (by decide +kernel) _).trans hqkc3
        have hk : fr L R [(12, 1), (12, 9), (12, 10), (12, 11), (12, 12), (12, 13), (12, 14), (12, 15), (12, 16), (12, 17), (12, 19), (12, 20)] [12, 61, 66] f0 f21 := hk.tr hf21 (by decide +kernel) (by decide +kernel)
        have e23 : fld f21 a0 0 = .ref GA := (hf21.efl m_a0 r_a0 rfl).trans t_GA
        have e24 : fld f21 a0 22 = .ref GP := (hf21.efl m_a0 r_a0 rfl).trans t_GP
        have e25 : fld f21 a0 23 = .ref GL := (hf21.efl m_a0 r_a0 rfl).trans t_GL
        have e26 : fld f21 a0 6 = .ref GT := (hf21.efl m_a0 r_a0 rfl).trans t_GT
        refine tw_iconst F dX12_script_31 ki_0 (fun z27 hz27 => ?_)
        refine lv_istore_n (lv' := [(3, .int z27), (0, .ref a0), (1, .int x1), (2, .int x2)]) F.1 F.2.1 dX12_script_32 rfl hl (by decide) rfl (fun ls hl => ?_)
        have j_33 : ∀ (n33 : Nat) (f28 : Nat → va_E) (H : Heap) (locs : List Loc) (ls : Array Slot) (x3_33 : Int32), 0 ≤ x3_33.toInt → x3_33.toInt ≤ 1650 → ((∀ q : Nat, (q : Int) < x3_33.toInt → elj f28 GA (20760 + q) = 0)) → ((1650 - x3_33.toInt)).toNat < n33 → tS D cy A s.heap L R (TT cy L R) f28 s H locs → RBA GA f28 → GZ GP GL f28 → elj f28 GA 5159 = elj f0 GA 5159 → elj f28 GA 10349 = elj f0 GA 10349 → elj f28 GA 15539 = elj f0 GA 15539 → elj f28 GA 20729 = elj f0 GA 20729 → fr L R [(12, 1), (12, 9), (12, 10), (12, 11), (12, 12), (12, 13), (12, 14), (12, 15), (12, 16), (12, 17), (12, 19), (12, 20)] [12, 61, 66] f0 f28 → fr L R [] [61] f21 f28 → lv_has ls 5 [(0, .ref a0), (1, .int x1), (3, .int x3_33)] → W p l e rm_X12_scriptC s m args below meth c H locs 0 0 Q (F0 m 33 ls []) := by
          intro n33
          induction n33 with
          | zero =>
            intro f28 H locs ls x3_33 b29 b30 ip33_0 b31 h hR hX hqkc0 hqkc1 hqkc2 hqkc3 hk hb33 hl
            exfalso
            omega
          | succ n33 ih33 =>
            intro f28 H locs ls x3_33 b29 b30 ip33_0 b31 h hR hX hqkc0 hqkc1 hqkc2 hqkc3 hk hb33 hl
            have e32 : fld f28 a0 0 = .ref GA := (hb33.efl m_a0 r_a0 rfl).trans e23
            have e33 : fld f28 a0 22 = .ref GP := (hb33.efl m_a0 r_a0 rfl).trans e24
            have e34 : fld f28 a0 23 = .ref GL := (hb33.efl m_a0 r_a0 rfl).trans e25
            have e35 : fld f28 a0 6 = .ref GT := (hb33.efl m_a0 r_a0 rfl).trans e26
            refine lv_iload_n F.1 F.2.1 dX12_script_33 rfl (lv_at hl 2 rfl) ?_
            refine tw_sipush F dX12_script_34 ks_1650 (fun z36 hz36 => ?_)
            refine tw_icmp_ge (tgt := 57) F dX12_script_37 (by decide) (fun b37 => ?_) (fun b37 => ?_)
            · have hRN : RB GA 20760 f28 := RB_0 (fun q hq => ip33_0 q (by omega))
              refine lv_aload_n F.1 F.2.1 dX12_script_57 rfl (lv_at hl 0 rfl) ?_
              refine tw_Vv (As := []) F hZ h yk_X12_ahead0 mw_468 mw_469 mw_470 (s_X12_ahead0 l D cy L R O f28 a0 m_a0 r_a0) rfl rfl m_a0 r_a0 (fun e q => (T_12 e).mp q) rfl hl.1 rfl (Nat.le_of_ble_eq_true rfl) ⟨Nat.le_of_ble_eq_true rfl, Nat.le_of_ble_eq_true rfl⟩ ⟨Nat.le_of_ble_eq_true rfl, Nat.le_of_ble_eq_true rfl⟩ dX12_script_58 (fun f38 H locs hp38 h => ?_)
              obtain ⟨hf38, hv39p0⟩ := hp38
              have hR : RBA GA f38 := hR.fm hf38 m_GA r_GA (by decide +kernel)
              have hX : GZ GP GL f38 := hX.fm hf38 m_GP r_GP m_GL r_GL (by decide +kernel) (by decide +kernel)
              have hqkc0 : elj f38 GA 5159 = elj f0 GA 5159 := (hf38.eelj m_GA r_GA (by decide +kernel) _).trans hqkc0
              have hqkc1 : elj f38 GA 10349 = elj f0 GA 10349 := (hf38.eelj m_GA r_GA (by decide +kernel) _).trans hqkc1
              have hqkc2 : elj f38 GA 15539 = elj f0 GA 15539 := (hf38.eelj m_GA r_GA (by decide +kernel) _).trans hqkc2
              have hqkc3 : elj f38 GA 20729 = elj f0 GA 20729 := (hf38.eelj m_GA r_GA (by decide +kernel) _).trans hqkc3
              have hRN : RB GA 20760 f38 := hRN.fm hf38 m_GA r_GA (by decide +kernel)
              have hk : fr L R [(12, 1), (12, 9), (12, 10), (12, 11), (12, 12), (12, 13), (12, 14), (12, 15), (12, 16), (12, 17), (12, 19), (12, 20)] [12, 61, 66] f0 f38 := hk.tr hf38 rfl rfl
              have e40 : fld f38 a0 0 = .ref GA := (hf38.efl m_a0 r_a0 rfl).trans e32
              have e41 : fld f38 a0 22 = .ref GP := (hf38.efl m_a0 r_a0 rfl).trans e33
              have e42 : fld f38 a0 23 = .ref GL := (hf38.efl m_a0 r_a0 rfl).trans e34
              have e43 : fld f38 a0 6 = .ref GT := (hf38.efl m_a0 r_a0 rfl).trans e35
              have su58 := SU_le h m_GA r_GA
              refine lv_aload_n F.1 F.2.1 dX12_script_61 rfl (lv_at hl 0 rfl) ?_
              refine g_12_167 F h m_a0 r_a0 dX12_script_62 (fun v44 hv44 hv44a hv44b => ?_)
              have j_73 : ∀ (ls : Array Slot) (y0_73 : Int32), 0 ≤ y0_73.toInt → y0_73.toInt ≤ 1 → lv_has ls 5 [(0, .ref a0), (1, .int x1)] → W p l e rm_X12_scriptC s m args below meth c H locs 0 0 Q (F0 m 73 ls [.int y0_73]) := by
                intro ls y0_73 b45 b46 hl
                refine lv_istore_n (lv' := [(3, .int y0_73), (0, .ref a0), (1, .int x1)]) F.1 F.2.1 dX12_script_73 rfl hl (by decide) rfl (fun ls hl => ?_)
                have j_74 : ∀ (n74 : Nat) (f47 : Nat → va_E) (H : Heap) (locs : List Loc) (ls : Array Slot) (x3_74 : Int32), 0 ≤ x3_74.toInt → x3_74.toInt ≤ 1 → SU GA f47 ≤ 49 → ((2 * (49 - SU GA f47) + x3_74.toInt)).toNat < n74 → tS D cy A s.heap L R (TT cy L R) f47 s H locs → RBA GA f47 → GZ GP GL f47 → elj f47 GA 5159 = elj f0 GA 5159 → elj f47 GA 10349 = elj f0 GA 10349 → elj f47 GA 15539 = elj f0 GA 15539 → elj f47 GA 20729 = elj f0 GA 20729 → RB GA 20760 f47 → fr L R [(12, 1), (12, 9), (12, 10), (12, 11), (12, 12), (12, 13), (12, 14), (12, 15), (12, 16), (12, 17), (12, 19), (12, 20)] [12, 61, 66] f0 f47 → fr L R [(12, 11), (12, 12), (12, 13), (12, 14), (12, 16), (12, 17), (12, 19)] [12, 61] f38 f47 → lv_has ls 5 [(0, .ref a0), (1, .int x1), (3, .int x3_74)] → W p l e rm_X12_scriptC s m args below meth c H locs 0 0 Q (F0 m 74 ls []) := by
                  intro n74
                  induction n74 with
                  | zero =>
                    intro f47 H locs ls x3_74 b48 b49 b50 b51 h hR hX hqkc0 hqkc1 hqkc2 hqkc3 hRN hk hb74 hl
                    exfalso
                    omega
                  | succ n74 ih74 =>
                    intro f47 H locs ls x3_74 b48 b49 b50 b51 h hR hX hqkc0 hqkc1 hqkc2 hqkc3 hRN hk hb74 hl
                    have e52 : fld f47 a0 0 = .ref GA := (hb74.efl m_a0 r_a0 rfl).trans e40
                    have e53 : fld f47 a0 22 = .ref GP := (hb74.efl m_a0 r_a0 rfl).trans e41
                    have e54 : fld f47 a0 23 = .ref GL := (hb74.efl m_a0 r_a0 rfl).trans e42
                    have e55 : fld f47 a0 6 = .ref GT := (hb74.efl m_a0 r_a0 rfl).trans e43
                    refine lv_iload_n F.1 F.2.1 dX12_script_74 rfl (lv_at hl 2 rfl) ?_
                    refine tw_if_eq (tgt := 101) F dX12_script_75 (by decide) (fun b56 => ?_) (fun b56 => ?_)
                    · refine lv_aload_n F.1 F.2.1 dX12_script_101 rfl (lv_at hl 0 rfl) ?_
                      refine g_12_181 F h m_a0 r_a0 dX12_script_102 (fun v57 hv57 => ?_)
                      have j_182 : ∀ (f58 : Nat → va_E) (H : Heap) (locs : List Loc) (ls : Array Slot), tS D cy A s.heap L R (TT cy L R) f58 s H locs → RBA GA f58 → GZ GP GL f58 → elj f58 GA 5159 = elj f0 GA 5159 → elj f58 GA 10349 = elj f0 GA 10349 → elj f58 GA 15539 = elj f0 GA 15539 → elj f58 GA 20729 = elj f0 GA 20729 → RB GA 20760 f58 → fr L R [(12, 1), (12, 9), (12, 10), (12, 11), (12, 12), (12, 13), (12, 14), (12, 15), (12, 16), (12, 17), (12, 19), (12, 20)] [12, 61, 66] f0 f58 → fr L R [(12, 16), (12, 17), (12, 20)] [12, 61] f47 f58 → lv_has ls 5 [(0, .ref a0), (1, .int x1)] → W p l e rm_X12_scriptC s m args below meth c H locs 0 0 Q (F0 m 182 ls []) := by
                        intro f58 H locs ls h hR hX hqkc0 hqkc1 hqkc2 hqkc3 hRN hk hb182 hl
                        have e59 : fld f58 a0 0 = .ref GA := (hb182.efl m_a0 r_a0 rfl).trans e52
                        have e60 : fld f58 a0 22 = .ref GP := (hb182.efl m_a0 r_a0 rfl).trans e53
                        have e61 : fld f58 a0 23 = .ref GL := (hb182.efl m_a0 r_a0 rfl).trans e54
                        have e62 : fld f58 a0 6 = .ref GT := (hb182.efl m_a0 r_a0 rfl).trans e55
                        have e63 : fi f58 a0 11 = fi f47 a0 11 := hb182.efi m_a0 r_a0 rfl
                        refine lv_aload_n F.1 F.2.1 dX12_script_182 rfl (lv_at hl 0 rfl) ?_
                        refine lv_aload_n F.1 F.2.1 dX12_script_183 rfl (lv_at hl 0 rfl) ?_
                        refine g_12_181 F h m_a0 r_a0 dX12_script_184 (fun v64 hv64 => ?_)
                        refine p_12_34 F h m_a0 r_a0 dX12_script_187 (fun f65 H locs e65p hf65 h => ?_)
                        have hR : RBA GA f65 := hR.fm hf65 m_GA r_GA (by decide +kernel)
                        have hX : GZ GP GL f65 := hX.fm hf65 m_GP r_GP m_GL r_GL (by decide +kernel) (by decide +kernel)
                        have hqkc0 : elj f65 GA 5159 = elj f0 GA 5159 := (hf65.eelj m_GA r_GA (by decide +kernel) _).trans hqkc0
                        have hqkc1 : elj f65 GA 10349 = elj f0 GA 10349 := (hf65.eelj m_GA r_GA (by decide +kernel) _).trans hqkc1
                        have hqkc2 : elj f65 GA 15539 = elj f0 GA 15539 := (hf65.eelj m_GA r_GA (by decide +kernel) _).trans hqkc2
                        have hqkc3 : elj f65 GA 20729 = elj f0 GA 20729 := (hf65.eelj m_GA r_GA (by decide +kernel) _).trans hqkc3
                        have hRN : RB GA 20760 f65 := hRN.fm hf65 m_GA r_GA (by decide +kernel)
                        have hk : fr L R [(12, 1), (12, 9), (12, 10), (12, 11), (12, 12), (12, 13), (12, 14), (12, 15), (12, 16), (12, 17), (12, 19), (12, 20)] [12, 61, 66] f0 f65 := hk.tr hf65 rfl rfl
                        have e66 : fld f65 a0 0 = .ref GA := (hf65.efl m_a0 r_a0 rfl).trans e59
                        have e67 : fld f65 a0 22 = .ref GP := (hf65.efl m_a0 r_a0 rfl).trans e60
                        have e68 : fld f65 a0 23 = .ref GL := (hf65.efl m_a0 r_a0 rfl).trans e61
                        have e69 : fld f65 a0 6 = .ref GT := (hf65.efl m_a0 r_a0 rfl).trans e62
                        have e70 : fi f65 a0 11 = fi f58 a0 11 := hf65.efi m_a0 r_a0 rfl
                        have e71 : fi f65 a0 17 = fi f58 a0 17 := hf65.efi m_a0 r_a0 rfl
                        refine lv_aload_n F.1 F.2.1 dX12_script_190 rfl (lv_at hl 0 rfl) ?_
                        refine g_12_181 F h m_a0 r_a0 dX12_script_191 (fun v72 hv72 => ?_)
                        refine tw_if_le (tgt := 204) F dX12_script_194 (by decide) (fun b73 => ?_) (fun b73 => ?_)
                        · refine lv_aload_n F.1 F.2.1 dX12_script_204 rfl (lv_at hl 0 rfl) ?_
                          refine tw_sipush F dX12_script_205 ks_20760 (fun z74 hz74 => ?_)
                          refine tw_Vv (As := [.int z74]) F hZ h yk_X12_fresh mw_745 mw_746 mw_747 (s_X12_fresh l D cy L R O f65 a0 m_a0 r_a0 z74 ⟨by omega, by omega⟩ GA m_GA r_GA e66 GP m_GP r_GP e67 GL m_GL r_GL e68 GT m_GT r_GT e69 (isB_e isB_n (by omega))) rfl rfl m_a0 r_a0 (fun e q => (T_12 e).mp q) rfl hl.1 rfl (Nat.le_of_ble_eq_true rfl) ⟨Nat.le_of_ble_eq_true rfl, Nat.le_of_ble_eq_true rfl⟩ ⟨Nat.le_of_ble_eq_true rfl, Nat.le_of_ble_eq_true rfl⟩ dX12_script_208 (fun f75 H locs hp75 h => ?_)
                          obtain ⟨hf75, hv76p0⟩ := hp75
                          have hR : RBA GA f75 := hR.kw hv76p0 (Or.inl (by omega))
                          have hX : GZ GP GL f75 := hX.fm hf75 m_GP r_GP m_GL r_GL (by decide +kernel) (by decide +kernel)
                          have hqkc0 : elj f75 GA 5159 = elj f0 GA 5159 := (hv76p0 _ (by omega)).trans hqkc0
                          have hqkc1 : elj f75 GA 10349 = elj f0 GA 10349 := (hv76p0 _ (by omega)).trans hqkc1
                          have hqkc2 : elj f75 GA 15539 = elj f0 GA 15539 := (hv76p0 _ (by omega)).trans hqkc2
                          have hqkc3 : elj f75 GA 20729 = elj f0 GA 20729 := (hv76p0 _ (by omega)).trans hqkc3
                          have hRN : RB GA 20760 f75 := hRN.kw hv76p0 (by omega)
                          have hk : fr L R [(12, 1), (12, 9), (12, 10), (12, 11), (12, 12), (12, 13), (12, 14), (12, 15), (12, 16), (12, 17), (12, 19), (12, 20)] [12, 61, 66] f0 f75 := hk.tr hf75 rfl rfl
                          have e77 : fld f75 a0 0 = .ref GA := (hf75.efl m_a0 r_a0 rfl).trans e66
                          have e78 : fld f75 a0 22 = .ref GP := (hf75.efl m_a0 r_a0 rfl).trans e67
                          have e79 : fld f75 a0 23 = .ref GL := (hf75.efl m_a0 r_a0 rfl).trans e68
                          have e80 : fld f75 a0 6 = .ref GT := (hf75.efl m_a0 r_a0 rfl).trans e69
                          have e81 : fi f75 a0 11 = fi f65 a0 11 := hf75.efi m_a0 r_a0 rfl
                          have e82 : fi f75 a0 17 = fi f65 a0 17 := hf75.efi m_a0 r_a0 rfl
                          refine lv_aload_n F.1 F.2.1 dX12_script_211 rfl (lv_at hl 0 rfl) ?_
                          refine tw_sipush F dX12_script_212 ks_20760 (fun z83 hz83 => ?_)
                          refine tw_sipush F dX12_script_215 ks_1650 (fun z84 hz84 => ?_)
                          refine lv_iload_n F.1 F.2.1 dX12_script_218 rfl (lv_at hl 1 rfl) ?_
                          refine tu_imull F dX12_script_219 hz84 (by omega) (fun z85 hz85 => ?_)
                          refine tw_sipush F dX12_script_220 ks_1650 (fun z86 hz86 => ?_)
                          have hR0 := hR
                          have hRN0 := hRN
                          refine tw_Vv (As := [.int z83, .int z85, .int z86]) F hZ h yk_X12_copies mw_749 mw_750 mw_751 (s_X12_copies l D cy L R O f75 a0 m_a0 r_a0 z83 ⟨by omega, by omega⟩ z85 ⟨by omega, by omega⟩ z86 ⟨by omega, by omega⟩ GA m_GA r_GA e77 GP m_GP r_GP e78 GL m_GL r_GL e79 GT m_GT r_GT e80 (by rw [show z86.toInt.toNat = 1650 by omega]; exact CPc_B (isB_e isB_n (by omega)) (isB_e (isB_s (s := x1.toInt.toNat) (by omega)) (by omega))) (by omega) (by omega) (by omega)) rfl rfl m_a0 r_a0 (fun e q => (T_12 e).mp q) rfl hl.1 rfl (Nat.le_of_ble_eq_true rfl) ⟨Nat.le_of_ble_eq_true rfl, Nat.le_of_ble_eq_true rfl⟩ ⟨Nat.le_of_ble_eq_true rfl, Nat.le_of_ble_eq_true rfl⟩ dX12_script_223 (fun f87 H locs hp87 h => ?_)
                          obtain ⟨hf87, hv88p0, hv88p1⟩ := hp87
                          have hX : GZ GP GL f87 := hX.fm hf87 m_GP r_GP m_GL r_GL (by decide +kernel) (by decide +kernel)
                          have hqkc0 : elj f87 GA 5159 = elj f0 GA 5159 := (hv88p0 _ (by omega)).trans hqkc0
                          have hqkc1 : elj f87 GA 10349 = elj f0 GA 10349 := (hv88p0 _ (by omega)).trans hqkc1
                          have hqkc2 : elj f87 GA 15539 = elj f0 GA 15539 := (hv88p0 _ (by omega)).trans hqkc2
                          have hqkc3 : elj f87 GA 20729 = elj f0 GA 20729 := (hv88p0 _ (by omega)).trans hqkc3
                          have hk : fr L R [(12, 1), (12, 9), (12, 10), (12, 11), (12, 12), (12, 13), (12, 14), (12, 15), (12, 16), (12, 17), (12, 19), (12, 20)] [12, 61, 66] f0 f87 := hk.tr hf87 rfl rfl
                          have e89 : fld f87 a0 0 = .ref GA := (hf87.efl m_a0 r_a0 rfl).trans e77
                          have e90 : fld f87 a0 22 = .ref GP := (hf87.efl m_a0 r_a0 rfl).trans e78
                          have e91 : fld f87 a0 23 = .ref GL := (hf87.efl m_a0 r_a0 rfl).trans e79
                          have e92 : fld f87 a0 6 = .ref GT := (hf87.efl m_a0 r_a0 rfl).trans e80
                          have e93 : fi f87 a0 11 = fi f75 a0 11 := hf87.efi m_a0 r_a0 rfl
                          have e94 : fi f87 a0 17 = fi f75 a0 17 := hf87.efi m_a0 r_a0 rfl
                          have hR : RBA GA f87 := RBA.cp (s := x1.toInt.toNat) (a := z85.toInt.toNat) hR0 hRN0 (by omega) (by omega) (by have q := hv88p0; rw [show z86.toInt.toNat = 1650 by omega] at q; exact q) (fun q hq => by have w := hv88p1 q (by omega); rw [show z83.toInt.toNat = 20760 by omega] at w; exact w)
                          refine lv_aload_n F.1 F.2.1 dX12_script_226 rfl (lv_at hl 0 rfl) ?_
                          refine lv_aload_n F.1 F.2.1 dX12_script_227 rfl (lv_at hl 0 rfl) ?_
                          refine g_12_7 F h m_a0 r_a0 dX12_script_228 (fun o95 m_o95 r_o95 ho95 => ?_)
                          obtain rfl := (fld_inj e89 ho95).symm
                          refine tw_sipush F dX12_script_231 ks_20761 (fun z96 hz96 => ?_)
                          refine ld_61 F h m_GA r_GA (by omega) dX12_script_234 (fun v97 hv97a => ?_)
                          have hv97b := clP_2.mp (atb hv97a (ac_c (b := 20760) 1 isB_n (by decide) (by omega) rfl))
                          refine tw_l2i F dX12_script_235 (by omega) (by omega) (fun z98 hz98 => ?_)
                          refine tw_Vi (As := [.int z98]) F hZ h yk_X12_gives mw_499 mw_500 mw_501 (s_X12_gives l D cy L R O f87 a0 m_a0 r_a0 z98) rfl rfl m_a0 r_a0 (fun e q => (T_12 e).mp q) rfl hl.1 rfl (Nat.le_of_ble_eq_true rfl) ⟨Nat.le_of_ble_eq_true rfl, Nat.le_of_ble_eq_true rfl⟩ ⟨Nat.le_of_ble_eq_true rfl, Nat.le_of_ble_eq_true rfl⟩ dX12_script_236 (fun v100 f99 H locs hp99 h => ?_)
                          have hf99 := hp99
                          have hX : GZ GP GL f99 := hX.fm hf99 m_GP r_GP m_GL r_GL (by decide +kernel) (by decide +kernel)
                          have hqkc0 : elj f99 GA 5159 = elj f0 GA 5159 := (hf99.eelj m_GA r_GA (by decide +kernel) _).trans hqkc0
                          have hqkc1 : elj f99 GA 10349 = elj f0 GA 10349 := (hf99.eelj m_GA r_GA (by decide +kernel) _).trans hqkc1
                          have hqkc2 : elj f99 GA 15539 = elj f0 GA 15539 := (hf99.eelj m_GA r_GA (by decide +kernel) _).trans hqkc2
                          have hqkc3 : elj f99 GA 20729 = elj f0 GA 20729 := (hf99.eelj m_GA r_GA (by decide +kernel) _).trans hqkc3
                          have hR : RBA GA f99 := hR.fm hf99 m_GA r_GA (by decide +kernel)
                          have hk : fr L R [(12, 1), (12, 9), (12, 10), (12, 11), (12, 12), (12, 13), (12, 14), (12, 15), (12, 16), (12, 17), (12, 19), (12, 20)] [12, 61, 66] f0 f99 := hk.tr hf99 rfl rfl
                          have e101 : fld f99 a0 0 = .ref GA := (hf99.efl m_a0 r_a0 rfl).trans e89
                          have e102 : fld f99 a0 22 = .ref GP := (hf99.efl m_a0 r_a0 rfl).trans e90
                          have e103 : fld f99 a0 23 = .ref GL := (hf99.efl m_a0 r_a0 rfl).trans e91
                          have e104 : fld f99 a0 6 = .ref GT := (hf99.efl m_a0 r_a0 rfl).trans e92
                          have e105 : fi f99 a0 11 = fi f87 a0 11 := hf99.efi m_a0 r_a0 rfl
                          have e106 : fi f99 a0 17 = fi f87 a0 17 := hf99.efi m_a0 r_a0 rfl
                          exact hret f99 _ _ _ _ v100 dX12_script_239 rfl ⟨hk, hR, hX, hqkc0, hqkc1, hqkc2, hqkc3⟩ h
                        · refine lv_aload_n F.1 F.2.1 dX12_script_197 rfl (lv_at hl 0 rfl) ?_
                          refine tw_bipush F dX12_script_198 kb_9 (fun z107 hz107 => ?_)
                          refine tw_Vi (As := [.int z107]) F hZ h yk_X12_refuse mw_452 mw_453 mw_454 (s_X12_refuse l D cy L R O f65 a0 m_a0 r_a0 z107 ⟨by omega, by omega⟩) rfl rfl m_a0 r_a0 (fun e q => (T_12 e).mp q) rfl hl.1 rfl (Nat.le_of_ble_eq_true rfl) ⟨Nat.le_of_ble_eq_true rfl, Nat.le_of_ble_eq_true rfl⟩ ⟨Nat.le_of_ble_eq_true rfl, Nat.le_of_ble_eq_true rfl⟩ dX12_script_200 (fun v109 f108 H locs hp108 h => ?_)
                          obtain ⟨hf108, hv109a, hv109b⟩ := hp108
                          have hR : RBA GA f108 := hR.fm hf108 m_GA r_GA (by decide +kernel)
                          have hX : GZ GP GL f108 := hX.fm hf108 m_GP r_GP m_GL r_GL (by decide +kernel) (by decide +kernel)
                          have hqkc0 : elj f108 GA 5159 = elj f0 GA 5159 := (hf108.eelj m_GA r_GA (by decide +kernel) _).trans hqkc0
                          have hqkc1 : elj f108 GA 10349 = elj f0 GA 10349 := (hf108.eelj m_GA r_GA (by decide +kernel) _).trans hqkc1
                          have hqkc2 : elj f108 GA 15539 = elj f0 GA 15539 := (hf108.eelj m_GA r_GA (by decide +kernel) _).trans hqkc2
                          have hqkc3 : elj f108 GA 20729 = elj f0 GA 20729 := (hf108.eelj m_GA r_GA (by decide +kernel) _).trans hqkc3
                          have hRN : RB GA 20760 f108 := hRN.fm hf108 m_GA r_GA (by decide +kernel)
                          have hk : fr L R [(12, 1), (12, 9), (12, 10), (12, 11), (12, 12), (12, 13), (12, 14), (12, 15), (12, 16), (12, 17), (12, 19), (12, 20)] [12, 61, 66] f0 f108 := hk.tr hf108 rfl rfl
                          have e110 : fld f108 a0 0 = .ref GA := (hf108.efl m_a0 r_a0 rfl).trans e66
                          have e111 : fld f108 a0 22 = .ref GP := (hf108.efl m_a0 r_a0 rfl).trans e67
                          have e112 : fld f108 a0 23 = .ref GL := (hf108.efl m_a0 r_a0 rfl).trans e68
                          have e113 : fld f108 a0 6 = .ref GT := (hf108.efl m_a0 r_a0 rfl).trans e69
                          have e114 : fi f108 a0 11 = fi f65 a0 11 := hf108.efi m_a0 r_a0 rfl
                          have e115 : fi f108 a0 17 = fi f65 a0 17 := hf108.efi m_a0 r_a0 rfl
                          exact hret f108 _ _ _ _ v109 dX12_script_203 rfl ⟨hk, hR, hX, hqkc0, hqkc1, hqkc2, hqkc3⟩ h
                      have hb182 : fr L R [(12, 16), (12, 17), (12, 20)] [12, 61] f47 f47 := fr.rf
                      refine tw_if_ne (tgt := 182) F dX12_script_105 (by decide) (fun b116 => ?_) (fun b116 => ?_)
                      · exact j_182 f47 _ _ _ h hR hX hqkc0 hqkc1 hqkc2 hqkc3 hRN hk hb182 (lv_sub hl [0, 1] rfl)
                      · refine lv_aload_n F.1 F.2.1 dX12_script_108 rfl (lv_at hl 0 rfl) ?_
                        refine tw_iconst F dX12_script_109 ki_m1 (fun z117 hz117 => ?_)
                        refine p_12_279 F h m_a0 r_a0 dX12_script_110 (fun f118 H locs e118p hf118 h => ?_)
                        have hR : RBA GA f118 := hR.fm hf118 m_GA r_GA (by decide +kernel)
                        have hX : GZ GP GL f118 := hX.fm hf118 m_GP r_GP m_GL r_GL (by decide +kernel) (by decide +kernel)
                        have hqkc0 : elj f118 GA 5159 = elj f0 GA 5159 := (hf118.eelj m_GA r_GA (by decide +kernel) _).trans hqkc0
                        have hqkc1 : elj f118 GA 10349 = elj f0 GA 10349 := (hf118.eelj m_GA r_GA (by decide +kernel) _).trans hqkc1
                        have hqkc2 : elj f118 GA 15539 = elj f0 GA 15539 := (hf118.eelj m_GA r_GA (by decide +kernel) _).trans hqkc2
                        have hqkc3 : elj f118 GA 20729 = elj f0 GA 20729 := (hf118.eelj m_GA r_GA (by decide +kernel) _).trans hqkc3
                        have hRN : RB GA 20760 f118 := hRN.fm hf118 m_GA r_GA (by decide +kernel)
                        have hk : fr L R [(12, 1), (12, 9), (12, 10), (12, 11), (12, 12), (12, 13), (12, 14), (12, 15), (12, 16), (12, 17), (12, 19), (12, 20)] [12, 61, 66] f0 f118 := hk.tr hf118 rfl rfl
                        have hb182 : fr L R [(12, 16), (12, 17), (12, 20)] [12, 61] f47 f118 := hb182.tr hf118 rfl rfl
                        have e119 : fld f118 a0 0 = .ref GA := (hf118.efl m_a0 r_a0 rfl).trans e52
                        have e120 : fld f118 a0 22 = .ref GP := (hf118.efl m_a0 r_a0 rfl).trans e53
                        have e121 : fld f118 a0 23 = .ref GL := (hf118.efl m_a0 r_a0 rfl).trans e54
                        have e122 : fld f118 a0 6 = .ref GT := (hf118.efl m_a0 r_a0 rfl).trans e55
                        have e123 : fi f118 a0 11 = fi f47 a0 11 := hf118.efi m_a0 r_a0 rfl
                        have e124 : fi f118 a0 17 = fi f47 a0 17 := hf118.efi m_a0 r_a0 rfl
                        refine tw_iconst F dX12_script_113 ki_0 (fun z125 hz125 => ?_)
                        refine lv_istore (lv' := [(4, .int z125), (0, .ref a0), (1, .int x1), (3, .int x3_74)]) F.1 F.2.1 dX12_script_114 hl (by decide) rfl (fun ls hl => ?_)
                        have j_116 : ∀ (n116 : Nat) (f126 : Nat → va_E) (H : Heap) (locs : List Loc) (ls : Array Slot) (x4_116 : Int32), 0 ≤ x4_116.toInt → x4_116.toInt ≤ 24 → ((24 - x4_116.toInt)).toNat < n116 → tS D cy A s.heap L R (TT cy L R) f126 s H locs → RBA GA f126 → GZ GP GL f126 → elj f126 GA 5159 = elj f0 GA 5159 → elj f126 GA 10349 = elj f0 GA 10349 → elj f126 GA 15539 = elj f0 GA 15539 → elj f126 GA 20729 = elj f0 GA 20729 → RB GA 20760 f126 → fr L R [(12, 1), (12, 9), (12, 10), (12, 11), (12, 12), (12, 13), (12, 14), (12, 15), (12, 16), (12, 17), (12, 19), (12, 20)] [12, 61, 66] f0 f126 → fr L R [(12, 20)] [12, 61] f118 f126 → lv_has ls 5 [(0, .ref a0), (1, .int x1), (4, .int x4_116)] → W p l e rm_X12_scriptC s m args below meth c H locs 0 0 Q (F0 m 116 ls []) := by
                          intro n116
                          induction n116 with
                          | zero =>
                            intro f126 H locs ls x4_116 b127 b128 b129 h hR hX hqkc0 hqkc1 hqkc2 hqkc3 hRN hk hb116 hl
                            exfalso
                            omega
                          | succ n116 ih116 =>
                            intro f126 H locs ls x4_116 b127 b128 b129 h hR hX hqkc0 hqkc1 hqkc2 hqkc3 hRN hk hb116 hl
                            have hb182 : fr L R [(12, 16), (12, 17), (12, 20)] [12, 61] f47 f126 := hb182.tr hb116 rfl rfl
                            have e130 : fld f126 a0 0 = .ref GA := (hb116.efl m_a0 r_a0 rfl).trans e119
                            have e131 : fld f126 a0 22 = .ref GP := (hb116.efl m_a0 r_a0 rfl).trans e120
                            have e132 : fld f126 a0 23 = .ref GL := (hb116.efl m_a0 r_a0 rfl).trans e121
                            have e133 : fld f126 a0 6 = .ref GT := (hb116.efl m_a0 r_a0 rfl).trans e122
                            have e134 : fi f126 a0 11 = fi f118 a0 11 := hb116.efi m_a0 r_a0 rfl
                            have e135 : fi f126 a0 17 = fi f118 a0 17 := hb116.efi m_a0 r_a0 rfl
                            refine lv_iload F.1 F.2.1 dX12_script_116 (lv_at hl 2 rfl) ?_
                            refine tw_i2l F dX12_script_118 (fun z136 hz136 => ?_)
                            refine lv_aload_n F.1 F.2.1 dX12_script_119 rfl (lv_at hl 0 rfl) ?_
                            refine g_12_7 F h m_a0 r_a0 dX12_script_120 (fun o137 m_o137 r_o137 ho137 => ?_)
                            obtain rfl := (fld_inj e130 ho137).symm
                            refine tw_sipush F dX12_script_123 ks_20761 (fun z138 hz138 => ?_)
                            refine ld_61 F h m_GA r_GA (by omega) dX12_script_126 (fun v139 hv139a => ?_)
                            have hv139b := clP_2.mp (atb hv139a (ac_c (b := 20760) 1 isB_n (by decide) (by omega) rfl))
                            refine tw_lcmp F dX12_script_127 (fun z140 hz140 => ?_)
                            refine tw_if_ge (tgt := 153) F dX12_script_128 (by decide) (fun b141 => ?_) (fun b141 => ?_)
                            · refine lv_aload_n F.1 F.2.1 dX12_script_153 rfl (lv_at hl 0 rfl) ?_
                              refine tw_sipush F dX12_script_154 ks_22252 (fun z142 hz142 => ?_)
                              have hRN0 := hRN
                              refine tw_Vv (As := [.int z142]) F hZ h yk_X12_leads mw_741 mw_742 mw_743 (s_X12_leads l D cy L R O f126 a0 m_a0 r_a0 z142 ⟨by omega, by omega⟩ GA m_GA r_GA e130 GP m_GP r_GP e131 GL m_GL r_GL e132 GT m_GT r_GT e133 (AS_n (b := 20760) isB_n (by omega))) rfl rfl m_a0 r_a0 (fun e q => (T_12 e).mp q) rfl hl.1 rfl (Nat.le_of_ble_eq_true rfl) ⟨Nat.le_of_ble_eq_true rfl, Nat.le_of_ble_eq_true rfl⟩ ⟨Nat.le_of_ble_eq_true rfl, Nat.le_of_ble_eq_true rfl⟩ dX12_script_157 (fun f143 H locs hp143 h => ?_)
                              obtain ⟨hf143, hv144p0⟩ := hp143
                              have hR : RBA GA f143 := hR.kw hv144p0 (Or.inl (by omega))
                              have hX : GZ GP GL f143 := hX.fm hf143 m_GP r_GP m_GL r_GL (by decide +kernel) (by decide +kernel)
                              have hqkc0 : elj f143 GA 5159 = elj f0 GA 5159 := (hv144p0 _ (by omega)).trans hqkc0
                              have hqkc1 : elj f143 GA 10349 = elj f0 GA 10349 := (hv144p0 _ (by omega)).trans hqkc1
                              have hqkc2 : elj f143 GA 15539 = elj f0 GA 15539 := (hv144p0 _ (by omega)).trans hqkc2
                              have hqkc3 : elj f143 GA 20729 = elj f0 GA 20729 := (hv144p0 _ (by omega)).trans hqkc3
                              have hk : fr L R [(12, 1), (12, 9), (12, 10), (12, 11), (12, 12), (12, 13), (12, 14), (12, 15), (12, 16), (12, 17), (12, 19), (12, 20)] [12, 61, 66] f0 f143 := hk.tr hf143 rfl rfl
                              have hb182 : fr L R [(12, 16), (12, 17), (12, 20)] [12, 61] f47 f143 := hb182.tr hf143 rfl rfl
                              have hb116 : fr L R [(12, 20)] [12, 61] f118 f143 := hb116.tr hf143 rfl rfl
                              have e145 : fld f143 a0 0 = .ref GA := (hf143.efl m_a0 r_a0 rfl).trans e130
                              have e146 : fld f143 a0 22 = .ref GP := (hf143.efl m_a0 r_a0 rfl).trans e131
                              have e147 : fld f143 a0 23 = .ref GL := (hf143.efl m_a0 r_a0 rfl).trans e132
                              have e148 : fld f143 a0 6 = .ref GT := (hf143.efl m_a0 r_a0 rfl).trans e133
                              have e149 : fi f143 a0 11 = fi f126 a0 11 := hf143.efi m_a0 r_a0 rfl
                              have e150 : fi f143 a0 17 = fi f126 a0 17 := hf143.efi m_a0 r_a0 rfl
                              have hRN : RB GA 20760 f143 := RB_ld (a := z142.toInt.toNat) hRN0 hv144p0 (by omega)
                              refine lv_aload_n F.1 F.2.1 dX12_script_160 rfl (lv_at hl 0 rfl) ?_
                              refine g_12_279 F h m_a0 r_a0 dX12_script_161 (fun v151 hv151 => ?_)
                              refine tw_iconst F dX12_script_164 ki_m1 (fun z152 hz152 => ?_)
                              refine tw_icmp_eq (tgt := 182) F dX12_script_165 (by decide) (fun b153 => ?_) (fun b153 => ?_)
                              · exact j_182 f143 _ _ _ h hR hX hqkc0 hqkc1 hqkc2 hqkc3 hRN hk hb182 (lv_sub hl [0, 1] rfl)
                              · refine lv_aload_n F.1 F.2.1 dX12_script_168 rfl (lv_at hl 0 rfl) ?_
                                refine tw_bipush F dX12_script_169 kb_6 (fun z154 hz154 => ?_)
                                refine p_12_181 F h m_a0 r_a0 dX12_script_171 (fun f155 H locs e155p hf155 h => ?_)
                                have hR : RBA GA f155 := hR.fm hf155 m_GA r_GA (by decide +kernel)
                                have hX : GZ GP GL f155 := hX.fm hf155 m_GP r_GP m_GL r_GL (by decide +kernel) (by decide +kernel)
                                have hqkc0 : elj f155 GA 5159 = elj f0 GA 5159 := (hf155.eelj m_GA r_GA (by decide +kernel) _).trans hqkc0
                                have hqkc1 : elj f155 GA 10349 = elj f0 GA 10349 := (hf155.eelj m_GA r_GA (by decide +kernel) _).trans hqkc1
                                have hqkc2 : elj f155 GA 15539 = elj f0 GA 15539 := (hf155.eelj m_GA r_GA (by decide +kernel) _).trans hqkc2
                                have hqkc3 : elj f155 GA 20729 = elj f0 GA 20729 := (hf155.eelj m_GA r_GA (by decide +kernel) _).trans hqkc3
                                have hRN : RB GA 20760 f155 := hRN.fm hf155 m_GA r_GA (by decide +kernel)
                                have hk : fr L R [(12, 1), (12, 9), (12, 10), (12, 11), (12, 12), (12, 13), (12, 14), (12, 15), (12, 16), (12, 17), (12, 19), (12, 20)] [12, 61, 66] f0 f155 := hk.tr hf155 rfl rfl
                                have hb182 : fr L R [(12, 16), (12, 17), (12, 20)] [12, 61] f47 f155 := hb182.tr hf155 rfl rfl
                                have e156 : fld f155 a0 0 = .ref GA := (hf155.efl m_a0 r_a0 rfl).trans e145
                                have e157 : fld f155 a0 22 = .ref GP := (hf155.efl m_a0 r_a0 rfl).trans e146
                                have e158 : fld f155 a0 23 = .ref GL := (hf155.efl m_a0 r_a0 rfl).trans e147
                                have e159 : fld f155 a0 6 = .ref GT := (hf155.efl m_a0 r_a0 rfl).trans e148
                                have e160 : fi f155 a0 11 = fi f143 a0 11 := hf155.efi m_a0 r_a0 rfl
                                have e161 : fi f155 a0 20 = fi f143 a0 20 := hf155.efi m_a0 r_a0 rfl
                                refine lv_aload_n F.1 F.2.1 dX12_script_174 rfl (lv_at hl 0 rfl) ?_
                                refine lv_aload_n F.1 F.2.1 dX12_script_175 rfl (lv_at hl 0 rfl) ?_
                                refine g_12_279 F h m_a0 r_a0 dX12_script_176 (fun v162 hv162 => ?_)
                                refine p_12_38 F h m_a0 r_a0 dX12_script_179 (fun f163 H locs e163p hf163 h => ?_)
                                have hR : RBA GA f163 := hR.fm hf163 m_GA r_GA (by decide +kernel)
                                have hX : GZ GP GL f163 := hX.fm hf163 m_GP r_GP m_GL r_GL (by decide +kernel) (by decide +kernel)
                                have hqkc0 : elj f163 GA 5159 = elj f0 GA 5159 := (hf163.eelj m_GA r_GA (by decide +kernel) _).trans hqkc0
                                have hqkc1 : elj f163 GA 10349 = elj f0 GA 10349 := (hf163.eelj m_GA r_GA (by decide +kernel) _).trans hqkc1
                                have hqkc2 : elj f163 GA 15539 = elj f0 GA 15539 := (hf163.eelj m_GA r_GA (by decide +kernel) _).trans hqkc2
                                have hqkc3 : elj f163 GA 20729 = elj f0 GA 20729 := (hf163.eelj m_GA r_GA (by decide +kernel) _).trans hqkc3
                                have hRN : RB GA 20760 f163 := hRN.fm hf163 m_GA r_GA (by decide +kernel)
                                have hk : fr L R [(12, 1), (12, 9), (12, 10), (12, 11), (12, 12), (12, 13), (12, 14), (12, 15), (12, 16), (12, 17), (12, 19), (12, 20)] [12, 61, 66] f0 f163 := hk.tr hf163 rfl rfl
                                have hb182 : fr L R [(12, 16), (12, 17), (12, 20)] [12, 61] f47 f163 := hb182.tr hf163 rfl rfl
                                have e164 : fld f163 a0 0 = .ref GA := (hf163.efl m_a0 r_a0 rfl).trans e156
                                have e165 : fld f163 a0 22 = .ref GP := (hf163.efl m_a0 r_a0 rfl).trans e157
                                have e166 : fld f163 a0 23 = .ref GL := (hf163.efl m_a0 r_a0 rfl).trans e158
                                have e167 : fld f163 a0 6 = .ref GT := (hf163.efl m_a0 r_a0 rfl).trans e159
                                have e168 : fi f163 a0 11 = fi f155 a0 11 := hf163.efi m_a0 r_a0 rfl
                                have e169 : fi f163 a0 20 = fi f155 a0 20 := hf163.efi m_a0 r_a0 rfl
                                have e170 : fi f163 a0 17 = fi f155 a0 17 := hf163.efi m_a0 r_a0 rfl
                                exact j_182 f163 _ _ _ h hR hX hqkc0 hqkc1 hqkc2 hqkc3 hRN hk hb182 (lv_sub hl [0, 1] rfl)
                            · refine lv_aload_n F.1 F.2.1 dX12_script_131 rfl (lv_at hl 0 rfl) ?_
                              refine tw_sipush F dX12_script_132 ks_20812 (fun z171 hz171 => ?_)
                              refine tw_bipush F dX12_script_135 kb_60 (fun z172 hz172 => ?_)
                              refine lv_iload F.1 F.2.1 dX12_script_137 (lv_at hl 2 rfl) ?_
                              refine tu_imull F dX12_script_139 hz172 (by omega) (fun z173 hz173 => ?_)
                              refine tu_iadd F dX12_script_140 (by omega) (fun z174 hz174 => ?_)
                              refine tw_bipush F dX12_script_141 kb_11 (fun z175 hz175 => ?_)
                              refine tu_iadd F dX12_script_143 (by omega) (fun z176 hz176 => ?_)
                              have hRN0 := hRN
                              refine tw_Vv (As := [.int z176]) F hZ h yk_X12_leads mw_741 mw_742 mw_743 (s_X12_leads l D cy L R O f126 a0 m_a0 r_a0 z176 ⟨by omega, by omega⟩ GA m_GA r_GA e130 GP m_GP r_GP e131 GL m_GL r_GL e132 GT m_GT r_GT e133 (AS_r (b := 20760) isB_n (by omega))) rfl rfl m_a0 r_a0 (fun e q => (T_12 e).mp q) rfl hl.1 rfl (Nat.le_of_ble_eq_true rfl) ⟨Nat.le_of_ble_eq_true rfl, Nat.le_of_ble_eq_true rfl⟩ ⟨Nat.le_of_ble_eq_true rfl, Nat.le_of_ble_eq_true rfl⟩ dX12_script_144 (fun f177 H locs hp177 h => ?_)
                              obtain ⟨hf177, hv178p0⟩ := hp177
                              have hR : RBA GA f177 := hR.kw hv178p0 (Or.inl (by omega))
                              have hX : GZ GP GL f177 := hX.fm hf177 m_GP r_GP m_GL r_GL (by decide +kernel) (by decide +kernel)
                              have hqkc0 : elj f177 GA 5159 = elj f0 GA 5159 := (hv178p0 _ (by omega)).trans hqkc0
                              have hqkc1 : elj f177 GA 10349 = elj f0 GA 10349 := (hv178p0 _ (by omega)).trans hqkc1
                              have hqkc2 : elj f177 GA 15539 = elj f0 GA 15539 := (hv178p0 _ (by omega)).trans hqkc2
                              have hqkc3 : elj f177 GA 20729 = elj f0 GA 20729 := (hv178p0 _ (by omega)).trans hqkc3
                              have hk : fr L R [(12, 1), (12, 9), (12, 10), (12, 11), (12, 12), (12, 13), (12, 14), (12, 15), (12, 16), (12, 17), (12, 19), (12, 20)] [12, 61, 66] f0 f177 := hk.tr hf177 rfl rfl
                              have hb182 : fr L R [(12, 16), (12, 17), (12, 20)] [12, 61] f47 f177 := hb182.tr hf177 rfl rfl
                              have hb116 : fr L R [(12, 20)] [12, 61] f118 f177 := hb116.tr hf177 rfl rfl
                              have e179 : fld f177 a0 0 = .ref GA := (hf177.efl m_a0 r_a0 rfl).trans e130
                              have e180 : fld f177 a0 22 = .ref GP := (hf177.efl m_a0 r_a0 rfl).trans e131
                              have e181 : fld f177 a0 23 = .ref GL := (hf177.efl m_a0 r_a0 rfl).trans e132
                              have e182 : fld f177 a0 6 = .ref GT := (hf177.efl m_a0 r_a0 rfl).trans e133
                              have e183 : fi f177 a0 11 = fi f126 a0 11 := hf177.efi m_a0 r_a0 rfl
                              have e184 : fi f177 a0 17 = fi f126 a0 17 := hf177.efi m_a0 r_a0 rfl
                              have hRN : RB GA 20760 f177 := RB_ld (a := z176.toInt.toNat) hRN0 hv178p0 (by omega)
                              refine tu_iinc F dX12_script_147 hl (k := 2) rfl (by decide) ki_1 (by omega) (fun z185 ls hz185 hl => ?_)
                              have hl : lv_has ls 5 [(4, .int z185), (0, .ref a0), (1, .int x1)] := hl
                              refine lv_goto (tgt := 116) F.1 F.2.1 dX12_script_150 (by decide) ?_
                              exact ih116 f177 _ _ _ z185 (by omega) (by omega) (by omega) h hR hX hqkc0 hqkc1 hqkc2 hqkc3 hRN hk hb116 (lv_sub hl [1, 2, 0] rfl)
                        have hb116 : fr L R [(12, 20)] [12, 61] f118 f118 := fr.rf
                        exact j_116 (((24 - z125.toInt)).toNat + 1) f118 _ _ _ z125 (by omega) (by omega) (by omega) h hR hX hqkc0 hqkc1 hqkc2 hqkc3 hRN hk hb116 (lv_sub hl [1, 2, 0] rfl)
                    · refine lv_aload_n F.1 F.2.1 dX12_script_78 rfl (lv_at hl 0 rfl) ?_
                      refine tw_Vi (As := []) F hZ h yk_X12_part mw_639 mw_640 mw_641 (s_X12_part l D cy L R O f47 a0 m_a0 r_a0 GA m_GA r_GA e52 GP m_GP r_GP e53 GL m_GL r_GL e54 GT m_GT r_GT e55 hRN) rfl rfl m_a0 r_a0 (fun e q => (T_12 e).mp q) rfl hl.1 rfl (Nat.le_of_ble_eq_true rfl) ⟨Nat.le_of_ble_eq_true rfl, Nat.le_of_ble_eq_true rfl⟩ ⟨Nat.le_of_ble_eq_true rfl, Nat.le_of_ble_eq_true rfl⟩ dX12_script_79 (fun v187 f186 H locs hp186 h => ?_)
                      obtain ⟨hf186, hv187a, hv187b, hv187p0, hv187p1, hv187p2, hv187p3⟩ := hp186
                      have hR : RBA GA f186 := hR.kw hv187p0 (Or.inl (by omega))
                      have hX : GZ GP GL f186 := hX.fm hf186 m_GP r_GP m_GL r_GL (by decide +kernel) (by decide +kernel)
                      have hqkc0 : elj f186 GA 5159 = elj f0 GA 5159 := (hv187p0 _ (by omega)).trans hqkc0
                      have hqkc1 : elj f186 GA 10349 = elj f0 GA 10349 := (hv187p0 _ (by omega)).trans hqkc1
                      have hqkc2 : elj f186 GA 15539 = elj f0 GA 15539 := (hv187p0 _ (by omega)).trans hqkc2
                      have hqkc3 : elj f186 GA 20729 = elj f0 GA 20729 := (hv187p0 _ (by omega)).trans hqkc3
                      have hRN : RB GA 20760 f186 := hv187p3
                      have hk : fr L R [(12, 1), (12, 9), (12, 10), (12, 11), (12, 12), (12, 13), (12, 14), (12, 15), (12, 16), (12, 17), (12, 19), (12, 20)] [12, 61, 66] f0 f186 := hk.tr hf186 (by decide +kernel) (by decide +kernel)
                      have hb74 : fr L R [(12, 11), (12, 12), (12, 13), (12, 14), (12, 16), (12, 17), (12, 19)] [12, 61] f38 f186 := hb74.tr hf186 (by decide +kernel) rfl
                      have e188 : fld f186 a0 0 = .ref GA := (hf186.efl m_a0 r_a0 rfl).trans e52
                      have e189 : fld f186 a0 22 = .ref GP := (hf186.efl m_a0 r_a0 rfl).trans e53
                      have e190 : fld f186 a0 23 = .ref GL := (hf186.efl m_a0 r_a0 rfl).trans e54
                      have e191 : fld f186 a0 6 = .ref GT := (hf186.efl m_a0 r_a0 rfl).trans e55
                      have su79 := SU_le h m_GA r_GA
                      have j_97 : ∀ (ls : Array Slot) (y0_97 : Int32), 0 ≤ y0_97.toInt → y0_97.toInt ≤ 1 → (y0_97.toInt = 0 ∨ SU GA f186 = SU GA f47 + 1) → SU GA f47 ≤ SU GA f186 → SU GA f186 ≤ 49 → lv_has ls 5 [(0, .ref a0), (1, .int x1)] → W p l e rm_X12_scriptC s m args below meth c H locs 0 0 Q (F0 m 97 ls [.int y0_97]) := by
                        intro ls y0_97 b192 b193 b194 b195 b196 hl
                        refine lv_istore_n (lv' := [(3, .int y0_97), (0, .ref a0), (1, .int x1)]) F.1 F.2.1 dX12_script_97 rfl hl (by decide) rfl (fun ls hl => ?_)
                        refine lv_goto (tgt := 74) F.1 F.2.1 dX12_script_98 (by decide) ?_
                        exact ih74 f186 _ _ _ y0_97 (by omega) (by omega) (by omega) (by omega) h hR hX hqkc0 hqkc1 hqkc2 hqkc3 hRN hk hb74 (lv_sub hl [1, 2, 0] rfl)
                      have j_96 : ∀ (ls : Array Slot), lv_has ls 5 [(0, .ref a0), (1, .int x1)] → W p l e rm_X12_scriptC s m args below meth c H locs 0 0 Q (F0 m 96 ls []) := by
                        intro ls hl
                        refine tw_iconst F dX12_script_96 ki_0 (fun z197 hz197 => ?_)
                        exact j_97 _ z197 (by omega) (by omega) (by omega) (by omega) (by omega) (lv_sub hl [0, 1] rfl)
                      refine tw_if_eq (tgt := 96) F dX12_script_82 (by decide) (fun b198 => ?_) (fun b198 => ?_)
                      · exact j_96 _ (lv_sub hl [0, 1] rfl)
                      · refine lv_aload_n F.1 F.2.1 dX12_script_85 rfl (lv_at hl 0 rfl) ?_
                        refine g_12_167 F h m_a0 r_a0 dX12_script_86 (fun v199 hv199 hv199a hv199b => ?_)
                        refine tw_if_eq (tgt := 96) F dX12_script_89 (by decide) (fun b200 => ?_) (fun b200 => ?_)
                        · exact j_96 _ (lv_sub hl [0, 1] rfl)
                        · refine tw_iconst F dX12_script_92 ki_1 (fun z201 hz201 => ?_)
                          refine lv_goto (tgt := 97) F.1 F.2.1 dX12_script_93 (by decide) ?_
                          exact j_97 _ z201 (by omega) (by omega) (by omega) (by omega) (by omega) (lv_sub hl [0, 1] rfl)
                have hb74 : fr L R [(12, 11), (12, 12), (12, 13), (12, 14), (12, 16), (12, 17), (12, 19)] [12, 61] f38 f38 := fr.rf
                exact j_74 (((2 * (49 - SU GA f38) + y0_73.toInt)).toNat + 1) f38 _ _ _ y0_73 (by omega) (by omega) (by omega) (by omega) h hR hX hqkc0 hqkc1 hqkc2 hqkc3 hRN hk hb74 (lv_sub hl [1, 2, 0] rfl)
              refine tw_if_eq (tgt := 72) F dX12_script_65 (by decide) (fun b202 => ?_) (fun b202 => ?_)
              · refine tw_iconst F dX12_script_72 ki_0 (fun z203 hz203 => ?_)
                exact j_73 _ z203 (by omega) (by omega) (lv_sub hl [0, 1] rfl)
              · refine tw_iconst F dX12_script_68 ki_1 (fun z204 hz204 => ?_)
                refine lv_goto (tgt := 73) F.1 F.2.1 dX12_script_69 (by decide) ?_
                exact j_73 _ z204 (by omega) (by omega) (lv_sub hl [0, 1] rfl)
            · refine lv_aload_n F.1 F.2.1 dX12_script_40 rfl (lv_at hl 0 rfl) ?_
              refine g_12_7 F h m_a0 r_a0 dX12_script_41 (fun o205 m_o205 r_o205 ho205 => ?_)
              obtain rfl := (fld_inj e32 ho205).symm
              refine tw_sipush F dX12_script_44 ks_20760 (fun z206 hz206 => ?_)
              refine lv_iload_n F.1 F.2.1 dX12_script_47 rfl (lv_at hl 2 rfl) ?_
              refine tu_iadd F dX12_script_48 (by omega) (fun z207 hz207 => ?_)
              refine tu_lconst F dX12_script_49 (by decide) (fun z208 (hz208 : z208.toInt = 0) => ?_)
              refine se_61 F h m_GA r_GA (by omega) (atP_0 (by omega)) dX12_script_50 (fun f209 H locs e209a e209b hf209 h => ?_)
              have hR : RBA GA f209 := hR.st e209a (Or.inl (by omega))
              have hX : GZ GP GL f209 := hX.fm hf209 m_GP r_GP m_GL r_GL (by decide +kernel) (by decide +kernel)
              have hqkc0 : elj f209 GA 5159 = elj f0 GA 5159 := ((e209a _).trans (if_neg (by omega))).trans hqkc0
              have hqkc1 : elj f209 GA 10349 = elj f0 GA 10349 := ((e209a _).trans (if_neg (by omega))).trans hqkc1
              have hqkc2 : elj f209 GA 15539 = elj f0 GA 15539 := ((e209a _).trans (if_neg (by omega))).trans hqkc2
              have hqkc3 : elj f209 GA 20729 = elj f0 GA 20729 := ((e209a _).trans (if_neg (by omega))).trans hqkc3
              have hk : fr L R [(12, 1), (12, 9), (12, 10), (12, 11), (12, 12), (12, 13), (12, 14), (12, 15), (12, 16), (12, 17), (12, 19), (12, 20)] [12, 61, 66] f0 f209 := hk.tr hf209 rfl rfl
              have hb33 : fr L R [] [61] f21 f209 := hb33.tr hf209 rfl rfl
              have e210 : fld f209 a0 0 = .ref GA := (hf209.efl m_a0 r_a0 rfl).trans e32
              have e211 : fld f209 a0 22 = .ref GP := (hf209.efl m_a0 r_a0 rfl).trans e33
              have e212 : fld f209 a0 23 = .ref GL := (hf209.efl m_a0 r_a0 rfl).trans e34
              have e213 : fld f209 a0 6 = .ref GT := (hf209.efl m_a0 r_a0 rfl).trans e35
              refine tu_iinc F dX12_script_51 hl (k := 2) rfl (by decide) ki_1 (by omega) (fun z214 ls hz214 hl => ?_)
              have hl : lv_has ls 5 [(3, .int z214), (0, .ref a0), (1, .int x1)] := hl
              refine lv_goto (tgt := 33) F.1 F.2.1 dX12_script_54 (by decide) ?_
              exact ih33 f209 _ _ _ z214 (by omega) (by omega) (fun q hq => if e : q = x3_33.toInt.toNat then (by rw [e209a, if_pos (by omega)]; omega) else (by rw [e209a, if_neg (by omega)]; exact ip33_0 q (by omega))) (by omega) h hR hX hqkc0 hqkc1 hqkc2 hqkc3 hk hb33 (lv_sub hl [1, 2, 0] rfl)
        have hb33 : fr L R [] [61] f21 f21 := fr.rf
        exact j_33 (((1650 - z27.toInt)).toNat + 1) f21 _ _ _ z27 (by omega) (by omega) (fun q hq => absurd hq (by omega)) (by omega) h hR hX hqkc0 hqkc1 hqkc2 hqkc3 hk hb33 (lv_sub hl [1, 2, 0] rfl)
      · refine lv_aload_n F.1 F.2.1 dX12_script_20 rfl (lv_at hl 0 rfl) ?_
        refine tw_iconst F dX12_script_21 ki_1 (fun z215 hz215 => ?_)
        refine tw_Vi (As := [.int z215]) F hZ h yk_X12_refuse mw_452 mw_453 mw_454 (s_X12_refuse l D cy L R O f0 a0 m_a0 r_a0 z215 ⟨by omega, by omega⟩) rfl rfl m_a0 r_a0 (fun e q => (T_12 e).mp q) rfl hl.1 rfl (Nat.le_of_ble_eq_true rfl) ⟨Nat.le_of_ble_eq_true rfl, Nat.le_of_ble_eq_true rfl⟩ ⟨Nat.le_of_ble_eq_true rfl, Nat.le_of_ble_eq_true rfl⟩ dX12_script_22 (fun v217 f216 H locs hp216 h => ?_)
        obtain ⟨hf216, hv217a, hv217b⟩ := hp216
        have hR : RBA GA f216 := hR.fm hf216 m_GA r_GA (by decide +kernel)
        have hX : GZ GP GL f216 := hX.fm hf216 m_GP r_GP m_GL r_GL (by decide +kernel) (by decide +kernel)
        have hqkc0 : elj f216 GA 5159 = elj f0 GA 5159 := (hf216.eelj m_GA r_GA (by decide +kernel) _).trans hqkc0
        have hqkc1 : elj f216 GA 10349 = elj f0 GA 10349 := (hf216.eelj m_GA r_GA (by decide +kernel) _).trans hqkc1
        have hqkc2 : elj f216 GA 15539 = elj f0 GA 15539 := (hf216.eelj m_GA r_GA (by decide +kernel) _).trans hqkc2
        have hqkc3 : elj f216 GA 20729 = elj f0 GA 20729 := (hf216.eelj m_GA r_GA (by decide +kernel) _).trans hqkc3
        have hk : fr L R [(12, 1), (12, 9), (12, 10), (12, 11), (12, 12), (12, 13), (12, 14), (12, 15), (12, 16), (12, 17), (12, 19), (12, 20)] [12, 61, 66] f0 f216 := hk.tr hf216 rfl rfl
        have e218 : fld f216 a0 0 = .ref GA := (hf216.efl m_a0 r_a0 rfl).trans t_GA
        have e219 : fld f216 a0 22 = .ref GP := (hf216.efl m_a0 r_a0 rfl).trans t_GP
        have e220 : fld f216 a0 23 = .ref GL := (hf216.efl m_a0 r_a0 rfl).trans t_GL
        have e221 : fld f216 a0 6 = .ref GT := (hf216.efl m_a0 r_a0 rfl).trans t_GT
        exact hret f216 _ _ _ _ v217 dX12_script_25 rfl ⟨hk, hR, hX, hqkc0, hqkc1, hqkc2, hqkc3⟩ h
