def rm_X12_faceC : Room := { frames := 6, cells := 0, slots := 0, locals := 150 }
set_option maxHeartbeats 4000000 in
set_option maxRecDepth 100000 in
theorem s_X12_faceC (l : Launch) (D : va_G) (cy : Nat → ClassId) (L : List Nat) (R O : Nat → Nat) (f0 : Nat → va_E) (a0 : Nat) (m_a0 : a0 ∈ L) (r_a0 : R a0 = 12) (x1 : Int32) (x2 : Int32) (x3 : Int32) (x4 : Int32) (GA : Nat) (m_GA : GA ∈ L) (r_GA : R GA = 61) (t_GA : fld f0 a0 0 = .ref GA) (GP : Nat) (m_GP : GP ∈ L) (r_GP : R GP = 69) (t_GP : fld f0 a0 22 = .ref GP) (GL : Nat) (m_GL : GL ∈ L) (r_GL : R GL = 70) (t_GL : fld f0 a0 23 = .ref GL) (GT : Nat) (m_GT : GT ∈ L) (r_GT : R GT = 64) (t_GT : fld f0 a0 6 = .ref GT) (pre0 : RBA GA f0) (pre1 : GZ GP GL f0) : ∀ sz, Met l yX12_face (Cond.code yX12_face cX12_face 8 (some .int) :: wsL_law) rm_X12_faceC (va_Pc [.ref a0, .int x1, .int x2, .int x3, .int x4] (tPZ D cy L R (TT cy L R) f0 sz)) (va_Qi (fun (r : Int32) f1 => fr L R [(12, 1), (12, 28), (12, 29), (12, 35), (12, 36), (12, 37), (12, 38), (12, 39), (12, 56), (12, 57)] [12, 61, 68, 69, 70, 73, 74, 76, 83] f0 f1 ∧ RBA GA f1 ∧ GZ GP GL f1 ∧ elj f1 GA 5159 = elj f0 GA 5159 ∧ elj f1 GA 10349 = elj f0 GA 10349 ∧ elj f1 GA 15539 = elj f0 GA 15539 ∧ elj f1 GA 20729 = elj f0 GA 20729) (tB D (tA L sz) L R (TT cy L R)) (tA L sz)) 0 0 (tA L sz) := by
  refine tw_enteri (by decide +kernel) rfl (Nat.le_of_ble_eq_true rfl) ?_
  intro p e s m below meth c A ls args Q F hZ h hl hret
  have hl : lv_has ls 8 [(0, .ref a0), (1, .int x1), (2, .int x2), (3, .int x3), (4, .int x4)] := hl
  have hk : fr L R [(12, 1), (12, 28), (12, 29), (12, 35), (12, 36), (12, 37), (12, 38), (12, 39), (12, 56), (12, 57)] [12, 61, 68, 69, 70, 73, 74, 76, 83] f0 f0 := fr.rf
  have hR := pre0
  have hX := pre1
  have hqkc0 : elj f0 GA 5159 = elj f0 GA 5159 := rfl
  have hqkc1 : elj f0 GA 10349 = elj f0 GA 10349 := rfl
  have hqkc2 : elj f0 GA 15539 = elj f0 GA 15539 := rfl
  have hqkc3 : elj f0 GA 20729 = elj f0 GA 20729 := rfl
  refine lv_aload_n F.1 F.2.1 dX12_face_0 rfl (lv_at hl 0 rfl) ?_
  refine lv_iload_n F.1 F.2.1 dX12_face_1 rfl (lv_at hl 1 rfl) ?_
  refine tw_Vi (As := [.int x1]) F hZ h yk_X12_isScript mw_635 mw_636 mw_637 (s_X12_isScript l D cy L R O f0 a0 m_a0 r_a0 x1) rfl rfl m_a0 r_a0 (fun e q => (T_12 e).mp q) rfl hl.1 rfl (Nat.le_of_ble_eq_true rfl) ⟨Nat.le_of_ble_eq_true rfl, Nat.le_of_ble_eq_true rfl⟩ ⟨Nat.le_of_ble_eq_true rfl, Nat.le_of_ble_eq_true rfl⟩ dX12_face_2 (fun v2 f1 H locs hp1 h => ?_)
  obtain ⟨rfl, hv2a, hv2b, hv2p0⟩ := hp1
  refine tw_if_eq (tgt := 39) F dX12_face_5 (by decide) (fun b3 => ?_) (fun b3 => ?_)
  · refine lv_aload_n F.1 F.2.1 dX12_face_39 rfl (lv_at hl 0 rfl) ?_
    refine tw_iconst F dX12_face_40 ki_1 (fun z4 hz4 => ?_)
    refine tw_Vi (As := [.int z4]) F hZ h yk_X12_refuse mw_452 mw_453 mw_454 (s_X12_refuse l D cy L R O f0 a0 m_a0 r_a0 z4 ⟨by omega, by omega⟩) rfl rfl m_a0 r_a0 (fun e q => (T_12 e).mp q) rfl hl.1 rfl (Nat.le_of_ble_eq_true rfl) ⟨Nat.le_of_ble_eq_true rfl, Nat.le_of_ble_eq_true rfl⟩ ⟨Nat.le_of_ble_eq_true rfl, Nat.le_of_ble_eq_true rfl⟩ dX12_face_41 (fun v6 f5 H locs hp5 h => ?_)
    obtain ⟨hf5, hv6a, hv6b⟩ := hp5
    have hR : RBA GA f5 := hR.fm hf5 m_GA r_GA (by decide +kernel)
    have hX : GZ GP GL f5 := hX.fm hf5 m_GP r_GP m_GL r_GL (by decide +kernel) (by decide +kernel)
    have hqkc0 : elj f5 GA 5159 = elj f0 GA 5159 := (hf5.eelj m_GA r_GA (by decide +kernel) _).trans hqkc0
    have hqkc1 : elj f5 GA 10349 = elj f0 GA 10349 := (hf5.eelj m_GA r_GA (by decide +kernel) _).trans hqkc1
    have hqkc2 : elj f5 GA 15539 = elj f0 GA 15539 := (hf5.eelj m_GA r_GA (by decide +kernel) _).trans hqkc2
    have hqkc3 : elj f5 GA 20729 = elj f0 GA 20729 := (hf5.eelj m_GA r_GA (by decide +kernel) _).trans hqkc3
    have hk : fr L R [(12, 1), (12, 28), (12, 29), (12, 35), (12, 36), (12, 37), (12, 38), (12, 39), (12, 56), (12, 57)] [12, 61, 68, 69, 70, 73, 74, 76, 83] f0 f5 := hk.tr hf5 rfl rfl
    have e7 : fld f5 a0 0 = .ref GA := (hf5.efl m_a0 r_a0 rfl).trans t_GA
    have e8 : fld f5 a0 22 = .ref GP := (hf5.efl m_a0 r_a0 rfl).trans t_GP
    have e9 : fld f5 a0 23 = .ref GL := (hf5.efl m_a0 r_a0 rfl).trans t_GL
    have e10 : fld f5 a0 6 = .ref GT := (hf5.efl m_a0 r_a0 rfl).trans t_GT
    exact hret f5 _ _ _ _ v6 dX12_face_44 rfl ⟨hk, hR, hX, hqkc0, hqkc1, hqkc2, hqkc3⟩ h
  · refine lv_aload_n F.1 F.2.1 dX12_face_8 rfl (lv_at hl 0 rfl) ?_
    refine lv_iload_n F.1 F.2.1 dX12_face_9 rfl (lv_at hl 2 rfl) ?_
    refine tw_Vi (As := [.int x2]) F hZ h yk_X12_isScript mw_635 mw_636 mw_637 (s_X12_isScript l D cy L R O f0 a0 m_a0 r_a0 x2) rfl rfl m_a0 r_a0 (fun e q => (T_12 e).mp q) rfl hl.1 rfl (Nat.le_of_ble_eq_true rfl) ⟨Nat.le_of_ble_eq_true rfl, Nat.le_of_ble_eq_true rfl⟩ ⟨Nat.le_of_ble_eq_true rfl, Nat.le_of_ble_eq_true rfl⟩ dX12_face_10 (fun v12 f11 H locs hp11 h => ?_)
    obtain ⟨rfl, hv12a, hv12b, hv12p0⟩ := hp11
    refine tw_if_eq (tgt := 39) F dX12_face_13 (by decide) (fun b13 => ?_) (fun b13 => ?_)
    · refine lv_aload_n F.1 F.2.1 dX12_face_39 rfl (lv_at hl 0 rfl) ?_
      refine tw_iconst F dX12_face_40 ki_1 (fun z14 hz14 => ?_)
      refine tw_Vi (As := [.int z14]) F hZ h yk_X12_refuse mw_452 mw_453 mw_454 (s_X12_refuse l D cy L R O f0 a0 m_a0 r_a0 z14 ⟨by omega, by omega⟩) rfl rfl m_a0 r_a0 (fun e q => (T_12 e).mp q) rfl hl.1 rfl (Nat.le_of_ble_eq_true rfl) ⟨Nat.le_of_ble_eq_true rfl, Nat.le_of_ble_eq_true rfl⟩ ⟨Nat.le_of_ble_eq_true rfl, Nat.le_of_ble_eq_true rfl⟩ dX12_face_41 (fun v16 f15 H locs hp15 h => ?_)
      obtain ⟨hf15, hv16a, hv16b⟩ := hp15
      have hR : RBA GA f15 := hR.fm hf15 m_GA r_GA (by decide +kernel)
      have hX : GZ GP GL f15 := hX.fm hf15 m_GP r_GP m_GL r_GL (by decide +kernel) (by decide +kernel)
      have hqkc0 : elj f15 GA 5159 = elj f0 GA 5159 := (hf15.eelj m_GA r_GA (by decide +kernel) _).trans hqkc0
      have hqkc1 : elj f15 GA 10349 = elj f0 GA 10349 := (hf15.eelj m_GA r_GA (by decide +kernel) _).trans hqkc1
      have hqkc2 : elj f15 GA 15539 = elj f0 GA 15539 := (hf15.eelj m_GA r_GA (by decide +kernel) _).trans hqkc2
      have hqkc3 : elj f15 GA 20729 = elj f0 GA 20729 := (hf15.eelj m_GA r_GA (by decide +kernel) _).trans hqkc3
      have hk : fr L R [(12, 1), (12, 28), (12, 29), (12, 35), (12, 36), (12, 37), (12, 38), (12, 39), (12, 56), (12, 57)] [12, 61, 68, 69, 70, 73, 74, 76, 83] f0 f15 := hk.tr hf15 rfl rfl
      have e17 : fld f15 a0 0 = .ref GA := (hf15.efl m_a0 r_a0 rfl).trans t_GA
      have e18 : fld f15 a0 22 = .ref GP := (hf15.efl m_a0 r_a0 rfl).trans t_GP
      have e19 : fld f15 a0 23 = .ref GL := (hf15.efl m_a0 r_a0 rfl).trans t_GL
      have e20 : fld f15 a0 6 = .ref GT := (hf15.efl m_a0 r_a0 rfl).trans t_GT
      exact hret f15 _ _ _ _ v16 dX12_face_44 rfl ⟨hk, hR, hX, hqkc0, hqkc1, hqkc2, hqkc3⟩ h
    · refine lv_aload_n F.1 F.2.1 dX12_face_16 rfl (lv_at hl 0 rfl) ?_
      refine lv_iload_n F.1 F.2.1 dX12_face_17 rfl (lv_at hl 3 rfl) ?_
      refine tu_i2l F dX12_face_18 (fun z21 hz21 hz21a hz21b => ?_)
      refine tw_Vi (As := [.long z21]) F hZ h yk_X12_isLine mw_797 mw_798 mw_799 (s_X12_isLine l D cy L R O f0 a0 m_a0 r_a0 z21) rfl rfl m_a0 r_a0 (fun e q => (T_12 e).mp q) rfl hl.1 rfl (Nat.le_of_ble_eq_true rfl) ⟨Nat.le_of_ble_eq_true rfl, Nat.le_of_ble_eq_true rfl⟩ ⟨Nat.le_of_ble_eq_true rfl, Nat.le_of_ble_eq_true rfl⟩ dX12_face_19 (fun v23 f22 H locs hp22 h => ?_)
      obtain ⟨rfl, hv23a, hv23b, hv23p0⟩ := hp22
      refine tw_if_eq (tgt := 39) F dX12_face_22 (by decide) (fun b24 => ?_) (fun b24 => ?_)
      · refine lv_aload_n F.1 F.2.1 dX12_face_39 rfl (lv_at hl 0 rfl) ?_
        refine tw_iconst F dX12_face_40 ki_1 (fun z25 hz25 => ?_)
        refine tw_Vi (As := [.int z25]) F hZ h yk_X12_refuse mw_452 mw_453 mw_454 (s_X12_refuse l D cy L R O f0 a0 m_a0 r_a0 z25 ⟨by omega, by omega⟩) rfl rfl m_a0 r_a0 (fun e q => (T_12 e).mp q) rfl hl.1 rfl (Nat.le_of_ble_eq_true rfl) ⟨Nat.le_of_ble_eq_true rfl, Nat.le_of_ble_eq_true rfl⟩ ⟨Nat.le_of_ble_eq_true rfl, Nat.le_of_ble_eq_true rfl⟩ dX12_face_41 (fun v27 f26 H locs hp26 h => ?_)
        obtain ⟨hf26, hv27a, hv27b⟩ := hp26
        have hR : RBA GA f26 := hR.fm hf26 m_GA r_GA (by decide +kernel)
        have hX : GZ GP GL f26 := hX.fm hf26 m_GP r_GP m_GL r_GL (by decide +kernel) (by decide +kernel)
        have hqkc0 : elj f26 GA 5159 = elj f0 GA 5159 := (hf26.eelj m_GA r_GA (by decide +kernel) _).trans hqkc0
        have hqkc1 : elj f26 GA 10349 = elj f0 GA 10349 := (hf26.eelj m_GA r_GA (by decide +kernel) _).trans hqkc1
        have hqkc2 : elj f26 GA 15539 = elj f0 GA 15539 := (hf26.eelj m_GA r_GA (by decide +kernel) _).trans hqkc2
        have hqkc3 : elj f26 GA 20729 = elj f0 GA 20729 := (hf26.eelj m_GA r_GA (by decide +kernel) _).trans hqkc3
        have hk : fr L R [(12, 1), (12, 28), (12, 29), (12, 35), (12, 36), (12, 37), (12, 38), (12, 39), (12, 56), (12, 57)] [12, 61, 68, 69, 70, 73, 74, 76, 83] f0 f26 := hk.tr hf26 rfl rfl
        have e28 : fld f26 a0 0 = .ref GA := (hf26.efl m_a0 r_a0 rfl).trans t_GA
        have e29 : fld f26 a0 22 = .ref GP := (hf26.efl m_a0 r_a0 rfl).trans t_GP
        have e30 : fld f26 a0 23 = .ref GL := (hf26.efl m_a0 r_a0 rfl).trans t_GL
        have e31 : fld f26 a0 6 = .ref GT := (hf26.efl m_a0 r_a0 rfl).trans t_GT
        exact hret f26 _ _ _ _ v27 dX12_face_44 rfl ⟨hk, hR, hX, hqkc0, hqkc1, hqkc2, hqkc3⟩ h
      · refine lv_iload F.1 F.2.1 dX12_face_25 (lv_at hl 4 rfl) ?_
        refine tw_iconst F dX12_face_27 ki_1 (fun z32 hz32 => ?_)
        refine tw_icmp_lt (tgt := 39) F dX12_face_28 (by decide) (fun b33 => ?_) (fun b33 => ?_)
        · refine lv_aload_n F.1 F.2.1 dX12_face_39 rfl (lv_at hl 0 rfl) ?_
          refine tw_iconst F dX12_face_40 ki_1 (fun z34 hz34 => ?_)
          refine tw_Vi (As := [.int z34]) F hZ h yk_X12_refuse mw_452 mw_453 mw_454 (s_X12_refuse l D cy L R O f0 a0 m_a0 r_a0 z34 ⟨by omega, by omega⟩) rfl rfl m_a0 r_a0 (fun e q => (T_12 e).mp q) rfl hl.1 rfl (Nat.le_of_ble_eq_true rfl) ⟨Nat.le_of_ble_eq_true rfl, Nat.le_of_ble_eq_true rfl⟩ ⟨Nat.le_of_ble_eq_true rfl, Nat.le_of_ble_eq_true rfl⟩ dX12_face_41 (fun v36 f35 H locs hp35 h => ?_)
          obtain ⟨hf35, hv36a, hv36b⟩ := hp35
          have hR : RBA GA f35 := hR.fm hf35 m_GA r_GA (by decide +kernel)
          have hX : GZ GP GL f35 := hX.fm hf35 m_GP r_GP m_GL r_GL (by decide +kernel) (by decide +kernel)
          have hqkc0 : elj f35 GA 5159 = elj f0 GA 5159 := (hf35.eelj m_GA r_GA (by decide +kernel) _).trans hqkc0
          have hqkc1 : elj f35 GA 10349 = elj f0 GA 10349 := (hf35.eelj m_GA r_GA (by decide +kernel) _).trans hqkc1
          have hqkc2 : elj f35 GA 15539 = elj f0 GA 15539 := (hf35.eelj m_GA r_GA (by decide +kernel) _).trans hqkc2
          have hqkc3 : elj f35 GA 20729 = elj f0 GA 20729 := (hf35.eelj m_GA r_GA (by decide +kernel) _).trans hqkc3
          have hk : fr L R [(12, 1), (12, 28), (12, 29), (12, 35), (12, 36), (12, 37), (12, 38), (12, 39), (12, 56), (12, 57)] [12, 61, 68, 69, 70, 73, 74, 76, 83] f0 f35 := hk.tr hf35 rfl rfl
          have e37 : fld f35 a0 0 = .ref GA := (hf35.efl m_a0 r_a0 rfl).trans t_GA
          have e38 : fld f35 a0 22 = .ref GP := (hf35.efl m_a0 r_a0 rfl).trans t_GP
          have e39 : fld f35 a0 23 = .ref GL := (hf35.efl m_a0 r_a0 rfl).trans t_GL
          have e40 : fld f35 a0 6 = .ref GT := (hf35.efl m_a0 r_a0 rfl).trans t_GT
          exact hret f35 _ _ _ _ v36 dX12_face_44 rfl ⟨hk, hR, hX, hqkc0, hqkc1, hqkc2, hqkc3⟩ h
        · refine lv_iload F.1 F.2.1 dX12_face_31 (lv_at hl 4 rfl) ?_
          refine tw_sipush F dX12_face_33 ks_200 (fun z41 hz41 => ?_)
          refine tw_icmp_le (tgt := 45) F dX12_face_36 (by decide) (fun b42 => ?_) (fun b42 => ?_)
          · refine lv_aload_n F.1 F.2.1 dX12_face_45 rfl (lv_at hl 0 rfl) ?_
            refine lv_iload_n F.1 F.2.1 dX12_face_46 rfl (lv_at hl 1 rfl) ?_
            refine tw_sipush F dX12_face_47 ks_22410 (fun z43 hz43 => ?_)
            refine tw_Vv (As := [.int x1, .int z43]) F hZ h yk_X12_works mw_1187 mw_1188 mw_1189 (s_X12_works l D cy L R O f0 a0 m_a0 r_a0 x1 ⟨by omega, by omega⟩ z43 ⟨by omega, by omega⟩ GA m_GA r_GA t_GA GP m_GP r_GP t_GP GL m_GL r_GL t_GL GT m_GT r_GT t_GT (isB_e isB_w (by omega)) (hR.s (by omega))) rfl rfl m_a0 r_a0 (fun e q => (T_12 e).mp q) rfl hl.1 rfl (Nat.le_of_ble_eq_true rfl) ⟨Nat.le_of_ble_eq_true rfl, Nat.le_of_ble_eq_true rfl⟩ ⟨Nat.le_of_ble_eq_true rfl, Nat.le_of_ble_eq_true rfl⟩ dX12_face_50 (fun f44 H locs hp44 h => ?_)
            obtain ⟨hf44, hv45p0, hv45p1⟩ := hp44
            have hR : RBA GA f44 := hR.kw hv45p0 (Or.inl (by omega))
            have hX : GZ GP GL f44 := hX.fm hf44 m_GP r_GP m_GL r_GL (by decide +kernel) (by decide +kernel)
            have hqkc0 : elj f44 GA 5159 = elj f0 GA 5159 := (hv45p0 _ (by omega)).trans hqkc0
            have hqkc1 : elj f44 GA 10349 = elj f0 GA 10349 := (hv45p0 _ (by omega)).trans hqkc1
            have hqkc2 : elj f44 GA 15539 = elj f0 GA 15539 := (hv45p0 _ (by omega)).trans hqkc2
            have hqkc3 : elj f44 GA 20729 = elj f0 GA 20729 := (hv45p0 _ (by omega)).trans hqkc3
            have hk : fr L R [(12, 1), (12, 28), (12, 29), (12, 35), (12, 36), (12, 37), (12, 38), (12, 39), (12, 56), (12, 57)] [12, 61, 68, 69, 70, 73, 74, 76, 83] f0 f44 := hk.tr hf44 rfl rfl
            have e46 : fld f44 a0 0 = .ref GA := (hf44.efl m_a0 r_a0 rfl).trans t_GA
            have e47 : fld f44 a0 22 = .ref GP := (hf44.efl m_a0 r_a0 rfl).trans t_GP
            have e48 : fld f44 a0 23 = .ref GL := (hf44.efl m_a0 r_a0 rfl).trans t_GL
            have e49 : fld f44 a0 6 = .ref GT := (hf44.efl m_a0 r_a0 rfl).trans t_GT
            have hRB : RB GA 22410 f44 := by have q := hv45p1; rw [show z43.toInt.toNat = 22410 by omega] at q; exact q
            refine lv_aload_n F.1 F.2.1 dX12_face_53 rfl (lv_at hl 0 rfl) ?_
            refine lv_iload_n F.1 F.2.1 dX12_face_54 rfl (lv_at hl 2 rfl) ?_
            refine tw_sipush F dX12_face_55 ks_24060 (fun z50 hz50 => ?_)
            refine tw_Vv (As := [.int x2, .int z50]) F hZ h yk_X12_works mw_1187 mw_1188 mw_1189 (s_X12_works l D cy L R O f44 a0 m_a0 r_a0 x2 ⟨by omega, by omega⟩ z50 ⟨by omega, by omega⟩ GA m_GA r_GA e46 GP m_GP r_GP e47 GL m_GL r_GL e48 GT m_GT r_GT e49 (isB_e isB_o (by omega)) (hR.s (by omega))) rfl rfl m_a0 r_a0 (fun e q => (T_12 e).mp q) rfl hl.1 rfl (Nat.le_of_ble_eq_true rfl) ⟨Nat.le_of_ble_eq_true rfl, Nat.le_of_ble_eq_true rfl⟩ ⟨Nat.le_of_ble_eq_true rfl, Nat.le_of_ble_eq_true rfl⟩ dX12_face_58 (fun f51 H locs hp51 h => ?_)
            obtain ⟨hf51, hv52p0, hv52p1⟩ := hp51
            have hR : RBA GA f51 := hR.kw hv52p0 (Or.inl (by omega))
            have hX : GZ GP GL f51 := hX.fm hf51 m_GP r_GP m_GL r_GL (by decide +kernel) (by decide +kernel)
            have hqkc0 : elj f51 GA 5159 = elj f0 GA 5159 := (hv52p0 _ (by omega)).trans hqkc0
            have hqkc1 : elj f51 GA 10349 = elj f0 GA 10349 := (hv52p0 _ (by omega)).trans hqkc1
            have hqkc2 : elj f51 GA 15539 = elj f0 GA 15539 := (hv52p0 _ (by omega)).trans hqkc2
            have hqkc3 : elj f51 GA 20729 = elj f0 GA 20729 := (hv52p0 _ (by omega)).trans hqkc3
            have hRB : RB GA 22410 f51 := hRB.kw hv52p0 (by omega)
            have hk : fr L R [(12, 1), (12, 28), (12, 29), (12, 35), (12, 36), (12, 37), (12, 38), (12, 39), (12, 56), (12, 57)] [12, 61, 68, 69, 70, 73, 74, 76, 83] f0 f51 := hk.tr hf51 rfl rfl
            have e53 : fld f51 a0 0 = .ref GA := (hf51.efl m_a0 r_a0 rfl).trans e46
            have e54 : fld f51 a0 22 = .ref GP := (hf51.efl m_a0 r_a0 rfl).trans e47
            have e55 : fld f51 a0 23 = .ref GL := (hf51.efl m_a0 r_a0 rfl).trans e48
            have e56 : fld f51 a0 6 = .ref GT := (hf51.efl m_a0 r_a0 rfl).trans e49
            have hRO : RB GA 24060 f51 := by have q := hv52p1; rw [show z50.toInt.toNat = 24060 by omega] at q; exact q
            refine lv_aload_n F.1 F.2.1 dX12_face_61 rfl (lv_at hl 0 rfl) ?_
            refine lv_aload_n F.1 F.2.1 dX12_face_62 rfl (lv_at hl 0 rfl) ?_
            refine lv_iload_n F.1 F.2.1 dX12_face_63 rfl (lv_at hl 3 rfl) ?_
            refine tw_Vi (As := [.int x3]) F hZ h yk_X12_lineAt mw_495 mw_496 mw_497 (s_X12_lineAt l D cy L R O f51 a0 m_a0 r_a0 x3 ⟨by omega, by omega⟩) rfl rfl m_a0 r_a0 (fun e q => (T_12 e).mp q) rfl hl.1 rfl (Nat.le_of_ble_eq_true rfl) ⟨Nat.le_of_ble_eq_true rfl, Nat.le_of_ble_eq_true rfl⟩ ⟨Nat.le_of_ble_eq_true rfl, Nat.le_of_ble_eq_true rfl⟩ dX12_face_64 (fun v58 f57 H locs hp57 h => ?_)
            obtain ⟨rfl, hv58a, hv58b, hv58p0⟩ := hp57
            refine tw_Vv (As := [.int v58]) F hZ h yk_X12_hears mw_890 mw_891 mw_892 (s_X12_hears l D cy L R O f51 a0 m_a0 r_a0 v58 ⟨by omega, by omega⟩ (ac_l (by omega))) rfl rfl m_a0 r_a0 (fun e q => (T_12 e).mp q) rfl hl.1 rfl (Nat.le_of_ble_eq_true rfl) ⟨Nat.le_of_ble_eq_true rfl, Nat.le_of_ble_eq_true rfl⟩ ⟨Nat.le_of_ble_eq_true rfl, Nat.le_of_ble_eq_true rfl⟩ dX12_face_67 (fun f59 H locs hp59 h => ?_)
            have hf59 := hp59
            have hR : RBA GA f59 := hR.fm hf59 m_GA r_GA (by decide +kernel)
            have hX : GZ GP GL f59 := hX.fm hf59 m_GP r_GP m_GL r_GL (by decide +kernel) (by decide +kernel)
            have hqkc0 : elj f59 GA 5159 = elj f0 GA 5159 := (hf59.eelj m_GA r_GA (by decide +kernel) _).trans hqkc0
            have hqkc1 : elj f59 GA 10349 = elj f0 GA 10349 := (hf59.eelj m_GA r_GA (by decide +kernel) _).trans hqkc1
            have hqkc2 : elj f59 GA 15539 = elj f0 GA 15539 := (hf59.eelj m_GA r_GA (by decide +kernel) _).trans hqkc2
            have hqkc3 : elj f59 GA 20729 = elj f0 GA 20729 := (hf59.eelj m_GA r_GA (by decide +kernel) _).trans hqkc3
            have hRB : RB GA 22410 f59 := hRB.fm hf59 m_GA r_GA (by decide +kernel)
            have hRO : RB GA 24060 f59 := hRO.fm hf59 m_GA r_GA (by decide +kernel)
            have hk : fr L R [(12, 1), (12, 28), (12, 29), (12, 35), (12, 36), (12, 37), (12, 38), (12, 39), (12, 56), (12, 57)] [12, 61, 68, 69, 70, 73, 74, 76, 83] f0 f59 := hk.tr hf59 rfl rfl
            have e61 : fld f59 a0 0 = .ref GA := (hf59.efl m_a0 r_a0 rfl).trans e53
            have e62 : fld f59 a0 22 = .ref GP := (hf59.efl m_a0 r_a0 rfl).trans e54
            have e63 : fld f59 a0 23 = .ref GL := (hf59.efl m_a0 r_a0 rfl).trans e55
            have e64 : fld f59 a0 6 = .ref GT := (hf59.efl m_a0 r_a0 rfl).trans e56
            refine lv_aload_n F.1 F.2.1 dX12_face_70 rfl (lv_at hl 0 rfl) ?_
            refine tw_iconst F dX12_face_71 ki_m1 (fun z65 hz65 => ?_)
            refine p_12_103 F h m_a0 r_a0 dX12_face_72 (fun f66 H locs e66p hf66 h => ?_)
            have hR : RBA GA f66 := hR.fm hf66 m_GA r_GA (by decide +kernel)
            have hX : GZ GP GL f66 := hX.fm hf66 m_GP r_GP m_GL r_GL (by decide +kernel) (by decide +kernel)
            have hqkc0 : elj f66 GA 5159 = elj f0 GA 5159 := (hf66.eelj m_GA r_GA (by decide +kernel) _).trans hqkc0
            have hqkc1 : elj f66 GA 10349 = elj f0 GA 10349 := (hf66.eelj m_GA r_GA (by decide +kernel) _).trans hqkc1
            have hqkc2 : elj f66 GA 15539 = elj f0 GA 15539 := (hf66.eelj m_GA r_GA (by decide +kernel) _).trans hqkc2
            have hqkc3 : elj f66 GA 20729 = elj f0 GA 20729 := (hf66.eelj m_GA r_GA (by decide +kernel) _).trans hqkc3
            have hRB : RB GA 22410 f66 := hRB.fm hf66 m_GA r_GA (by decide +kernel)
            have hRO : RB GA 24060 f66 := hRO.fm hf66 m_GA r_GA (by decide +kernel)
            have hk : fr L R [(12, 1), (12, 28), (12, 29), (12, 35), (12, 36), (12, 37), (12, 38), (12, 39), (12, 56), (12, 57)] [12, 61, 68, 69, 70, 73, 74, 76, 83] f0 f66 := hk.tr hf66 rfl rfl
            have e67 : fld f66 a0 0 = .ref GA := (hf66.efl m_a0 r_a0 rfl).trans e61
            have e68 : fld f66 a0 22 = .ref GP := (hf66.efl m_a0 r_a0 rfl).trans e62
            have e69 : fld f66 a0 23 = .ref GL := (hf66.efl m_a0 r_a0 rfl).trans e63
            have e70 : fld f66 a0 6 = .ref GT := (hf66.efl m_a0 r_a0 rfl).trans e64
            refine tw_iconst F dX12_face_75 ki_0 (fun z71 hz71 => ?_)
            refine lv_istore (lv' := [(5, .int z71), (0, .ref a0), (1, .int x1), (2, .int x2), (3, .int x3), (4, .int x4)]) F.1 F.2.1 dX12_face_76 hl (by decide) rfl (fun ls hl => ?_)
            refine tw_iconst F dX12_face_78 ki_1 (fun z72 hz72 => ?_)
            refine lv_istore (lv' := [(6, .int z72), (5, .int z71), (0, .ref a0), (1, .int x1), (2, .int x2), (3, .int x3), (4, .int x4)]) F.1 F.2.1 dX12_face_79 hl (by decide) rfl (fun ls hl => ?_)
            have j_81 : ∀ (n81 : Nat) (f73 : Nat → va_E) (H : Heap) (locs : List Loc) (ls : Array Slot) (x5_81 : Int32) (x6_81 : Int32), 0 ≤ x6_81.toInt → x6_81.toInt ≤ 1 → 0 ≤ x5_81.toInt → x5_81.toInt ≤ x4.toInt → ((2 * (201 - x5_81.toInt) + x6_81.toInt)).toNat < n81 → tS D cy A s.heap L R (TT cy L R) f73 s H locs → RBA GA f73 → GZ GP GL f73 → elj f73 GA 5159 = elj f0 GA 5159 → elj f73 GA 10349 = elj f0 GA 10349 → elj f73 GA 15539 = elj f0 GA 15539 → elj f73 GA 20729 = elj f0 GA 20729 → RB GA 22410 f73 → RB GA 24060 f73 → fr L R [(12, 1), (12, 28), (12, 29), (12, 35), (12, 36), (12, 37), (12, 38), (12, 39), (12, 56), (12, 57)] [12, 61, 68, 69, 70, 73, 74, 76, 83] f0 f73 → fr L R [(12, 28), (12, 29), (12, 35), (12, 36), (12, 37), (12, 38), (12, 39), (12, 56), (12, 57)] [12, 61, 68, 69, 70, 73, 74, 76, 83] f66 f73 → lv_has ls 8 [(0, .ref a0), (4, .int x4), (5, .int x5_81), (6, .int x6_81)] → W p l e rm_X12_faceC s m args below meth c H locs 0 0 Q (F0 m 81 ls []) := by
              intro n81
              induction n81 with
              | zero =>
                intro f73 H locs ls x5_81 x6_81 b74 b75 b76 b77 b78 h hR hX hqkc0 hqkc1 hqkc2 hqkc3 hRB hRO hk hb81 hl
                exfalso
                omega
              | succ n81 ih81 =>
                intro f73 H locs ls x5_81 x6_81 b74 b75 b76 b77 b78 h hR hX hqkc0 hqkc1 hqkc2 hqkc3 hRB hRO hk hb81 hl
                have e79 : fld f73 a0 0 = .ref GA := (hb81.efl m_a0 r_a0 rfl).trans e67
                have e80 : fld f73 a0 22 = .ref GP := (hb81.efl m_a0 r_a0 rfl).trans e68
                have e81 : fld f73 a0 23 = .ref GL := (hb81.efl m_a0 r_a0 rfl).trans e69
                have e82 : fld f73 a0 6 = .ref GT := (hb81.efl m_a0 r_a0 rfl).trans e70
                refine lv_iload F.1 F.2.1 dX12_face_81 (lv_at hl 3 rfl) ?_
                refine tw_if_eq (tgt := 213) F dX12_face_83 (by decide) (fun b83 => ?_) (fun b83 => ?_)
                · refine lv_aload_n F.1 F.2.1 dX12_face_213 rfl (lv_at hl 0 rfl) ?_
                  refine lv_iload F.1 F.2.1 dX12_face_214 (lv_at hl 2 rfl) ?_
                  refine tw_Vi (As := [.int x5_81]) F hZ h yk_X12_gives mw_499 mw_500 mw_501 (s_X12_gives l D cy L R O f73 a0 m_a0 r_a0 x5_81) rfl rfl m_a0 r_a0 (fun e q => (T_12 e).mp q) rfl hl.1 rfl (Nat.le_of_ble_eq_true rfl) ⟨Nat.le_of_ble_eq_true rfl, Nat.le_of_ble_eq_true rfl⟩ ⟨Nat.le_of_ble_eq_true rfl, Nat.le_of_ble_eq_true rfl⟩ dX12_face_216 (fun v85 f84 H locs hp84 h => ?_)
                  have hf84 := hp84
                  have hR : RBA GA f84 := hR.fm hf84 m_GA r_GA (by decide +kernel)
                  have hX : GZ GP GL f84 := hX.fm hf84 m_GP r_GP m_GL r_GL (by decide +kernel) (by decide +kernel)
                  have hqkc0 : elj f84 GA 5159 = elj f0 GA 5159 := (hf84.eelj m_GA r_GA (by decide +kernel) _).trans hqkc0
                  have hqkc1 : elj f84 GA 10349 = elj f0 GA 10349 := (hf84.eelj m_GA r_GA (by decide +kernel) _).trans hqkc1
                  have hqkc2 : elj f84 GA 15539 = elj f0 GA 15539 := (hf84.eelj m_GA r_GA (by decide +kernel) _).trans hqkc2
                  have hqkc3 : elj f84 GA 20729 = elj f0 GA 20729 := (hf84.eelj m_GA r_GA (by decide +kernel) _).trans hqkc3
                  have hRB : RB GA 22410 f84 := hRB.fm hf84 m_GA r_GA (by decide +kernel)
                  have hRO : RB GA 24060 f84 := hRO.fm hf84 m_GA r_GA (by decide +kernel)
                  have hk : fr L R [(12, 1), (12, 28), (12, 29), (12, 35), (12, 36), (12, 37), (12, 38), (12, 39), (12, 56), (12, 57)] [12, 61, 68, 69, 70, 73, 74, 76, 83] f0 f84 := hk.tr hf84 rfl rfl
                  have e86 : fld f84 a0 0 = .ref GA := (hf84.efl m_a0 r_a0 rfl).trans e79
                  have e87 : fld f84 a0 22 = .ref GP := (hf84.efl m_a0 r_a0 rfl).trans e80
                  have e88 : fld f84 a0 23 = .ref GL := (hf84.efl m_a0 r_a0 rfl).trans e81
                  have e89 : fld f84 a0 6 = .ref GT := (hf84.efl m_a0 r_a0 rfl).trans e82
                  have e90 : fi f84 a0 56 = fi f73 a0 56 := hf84.efi m_a0 r_a0 rfl
                  exact hret f84 _ _ _ _ v85 dX12_face_219 rfl ⟨hk, hR, hX, hqkc0, hqkc1, hqkc2, hqkc3⟩ h
                · refine lv_aload_n F.1 F.2.1 dX12_face_86 rfl (lv_at hl 0 rfl) ?_
                  refine lv_iload F.1 F.2.1 dX12_face_87 (lv_at hl 2 rfl) ?_
                  refine lv_iload F.1 F.2.1 dX12_face_89 (lv_at hl 2 rfl) ?_
                  refine tw_iconst F dX12_face_91 ki_2 (fun z91 hz91 => ?_)
                  refine tu_irem F dX12_face_92 (by omega) (fun z92 hz92a hz92b => ?_)
                  refine tw_Vv (As := [.int x5_81, .int z92]) F hZ h yk_X12_keeps mw_1307 mw_1308 mw_1309 (s_X12_keeps l D cy L R O f73 a0 m_a0 r_a0 x5_81 ⟨by omega, by omega⟩ z92 ⟨by omega, by omega⟩) rfl rfl m_a0 r_a0 (fun e q => (T_12 e).mp q) rfl hl.1 rfl (Nat.le_of_ble_eq_true rfl) ⟨Nat.le_of_ble_eq_true rfl, Nat.le_of_ble_eq_true rfl⟩ ⟨Nat.le_of_ble_eq_true rfl, Nat.le_of_ble_eq_true rfl⟩ dX12_face_93 (fun f93 H locs hp93 h => ?_)
                  have hf93 := hp93
                  have hR : RBA GA f93 := hR.fm hf93 m_GA r_GA (by decide +kernel)
                  have hX : GZ GP GL f93 := hX.fm hf93 m_GP r_GP m_GL r_GL (by decide +kernel) (by decide +kernel)
                  have hqkc0 : elj f93 GA 5159 = elj f0 GA 5159 := (hf93.eelj m_GA r_GA (by decide +kernel) _).trans hqkc0
                  have hqkc1 : elj f93 GA 10349 = elj f0 GA 10349 := (hf93.eelj m_GA r_GA (by decide +kernel) _).trans hqkc1
                  have hqkc2 : elj f93 GA 15539 = elj f0 GA 15539 := (hf93.eelj m_GA r_GA (by decide +kernel) _).trans hqkc2
                  have hqkc3 : elj f93 GA 20729 = elj f0 GA 20729 := (hf93.eelj m_GA r_GA (by decide +kernel) _).trans hqkc3
                  have hRB : RB GA 22410 f93 := hRB.fm hf93 m_GA r_GA (by decide +kernel)
                  have hRO : RB GA 24060 f93 := hRO.fm hf93 m_GA r_GA (by decide +kernel)
                  have hk : fr L R [(12, 1), (12, 28), (12, 29), (12, 35), (12, 36), (12, 37), (12, 38), (12, 39), (12, 56), (12, 57)] [12, 61, 68, 69, 70, 73, 74, 76, 83] f0 f93 := hk.tr hf93 rfl rfl
                  have hb81 : fr L R [(12, 28), (12, 29), (12, 35), (12, 36), (12, 37), (12, 38), (12, 39), (12, 56), (12, 57)] [12, 61, 68, 69, 70, 73, 74, 76, 83] f66 f93 := hb81.tr hf93 rfl rfl
                  have e95 : fld f93 a0 0 = .ref GA := (hf93.efl m_a0 r_a0 rfl).trans e79
                  have e96 : fld f93 a0 22 = .ref GP := (hf93.efl m_a0 r_a0 rfl).trans e80
                  have e97 : fld f93 a0 23 = .ref GL := (hf93.efl m_a0 r_a0 rfl).trans e81
                  have e98 : fld f93 a0 6 = .ref GT := (hf93.efl m_a0 r_a0 rfl).trans e82
                  have e99 : fi f93 a0 56 = fi f73 a0 56 := hf93.efi m_a0 r_a0 rfl
                  refine lv_aload_n F.1 F.2.1 dX12_face_96 rfl (lv_at hl 0 rfl) ?_
                  refine lv_aload_n F.1 F.2.1 dX12_face_97 rfl (lv_at hl 0 rfl) ?_
                  refine lv_iload F.1 F.2.1 dX12_face_98 (lv_at hl 2 rfl) ?_
                  refine tw_Vi (As := [.int x5_81]) F hZ h yk_X12_cameAt mw_1311 mw_1312 mw_1313 (s_X12_cameAt l D cy L R O f93 a0 m_a0 r_a0 x5_81 ⟨by omega, by omega⟩) rfl rfl m_a0 r_a0 (fun e q => (T_12 e).mp q) rfl hl.1 rfl (Nat.le_of_ble_eq_true rfl) ⟨Nat.le_of_ble_eq_true rfl, Nat.le_of_ble_eq_true rfl⟩ ⟨Nat.le_of_ble_eq_true rfl, Nat.le_of_ble_eq_true rfl⟩ dX12_face_100 (fun v101 f100 H locs hp100 h => ?_)
                  obtain ⟨rfl, hv101a, hv101b⟩ := hp100
                  refine p_12_103 F h m_a0 r_a0 dX12_face_103 (fun f102 H locs e102p hf102 h => ?_)
                  have hR : RBA GA f102 := hR.fm hf102 m_GA r_GA (by decide +kernel)
                  have hX : GZ GP GL f102 := hX.fm hf102 m_GP r_GP m_GL r_GL (by decide +kernel) (by decide +kernel)
                  have hqkc0 : elj f102 GA 5159 = elj f0 GA 5159 := (hf102.eelj m_GA r_GA (by decide +kernel) _).trans hqkc0
                  have hqkc1 : elj f102 GA 10349 = elj f0 GA 10349 := (hf102.eelj m_GA r_GA (by decide +kernel) _).trans hqkc1
                  have hqkc2 : elj f102 GA 15539 = elj f0 GA 15539 := (hf102.eelj m_GA r_GA (by decide +kernel) _).trans hqkc2
                  have hqkc3 : elj f102 GA 20729 = elj f0 GA 20729 := (hf102.eelj m_GA r_GA (by decide +kernel) _).trans hqkc3
                  have hRB : RB GA 22410 f102 := hRB.fm hf102 m_GA r_GA (by decide +kernel)
                  have hRO : RB GA 24060 f102 := hRO.fm hf102 m_GA r_GA (by decide +kernel)
                  have hk : fr L R [(12, 1), (12, 28), (12, 29), (12, 35), (12, 36), (12, 37), (12, 38), (12, 39), (12, 56), (12, 57)] [12, 61, 68, 69, 70, 73, 74, 76, 83] f0 f102 := hk.tr hf102 rfl rfl
                  have hb81 : fr L R [(12, 28), (12, 29), (12, 35), (12, 36), (12, 37), (12, 38), (12, 39), (12, 56), (12, 57)] [12, 61, 68, 69, 70, 73, 74, 76, 83] f66 f102 := hb81.tr hf102 rfl rfl
                  have e103 : fld f102 a0 0 = .ref GA := (hf102.efl m_a0 r_a0 rfl).trans e95
                  have e104 : fld f102 a0 22 = .ref GP := (hf102.efl m_a0 r_a0 rfl).trans e96
                  have e105 : fld f102 a0 23 = .ref GL := (hf102.efl m_a0 r_a0 rfl).trans e97
                  have e106 : fld f102 a0 6 = .ref GT := (hf102.efl m_a0 r_a0 rfl).trans e98
                  refine lv_aload_n F.1 F.2.1 dX12_face_106 rfl (lv_at hl 0 rfl) ?_
                  refine lv_iload F.1 F.2.1 dX12_face_107 (lv_at hl 2 rfl) ?_
                  refine lv_aload_n F.1 F.2.1 dX12_face_109 rfl (lv_at hl 0 rfl) ?_
                  refine g_12_103 F h m_a0 r_a0 dX12_face_110 (fun v107 hv107 => ?_)
                  refine lv_isub F.1 F.2.1 dX12_face_113 ?_
                  refine lv_topi (fun z108 _ => ?_)
                  refine p_12_431 F h m_a0 r_a0 dX12_face_114 (fun f109 H locs e109p hf109 h => ?_)
                  have hR : RBA GA f109 := hR.fm hf109 m_GA r_GA (by decide +kernel)
                  have hX : GZ GP GL f109 := hX.fm hf109 m_GP r_GP m_GL r_GL (by decide +kernel) (by decide +kernel)
                  have hqkc0 : elj f109 GA 5159 = elj f0 GA 5159 := (hf109.eelj m_GA r_GA (by decide +kernel) _).trans hqkc0
                  have hqkc1 : elj f109 GA 10349 = elj f0 GA 10349 := (hf109.eelj m_GA r_GA (by decide +kernel) _).trans hqkc1
                  have hqkc2 : elj f109 GA 15539 = elj f0 GA 15539 := (hf109.eelj m_GA r_GA (by decide +kernel) _).trans hqkc2
                  have hqkc3 : elj f109 GA 20729 = elj f0 GA 20729 := (hf109.eelj m_GA r_GA (by decide +kernel) _).trans hqkc3
                  have hRB : RB GA 22410 f109 := hRB.fm hf109 m_GA r_GA (by decide +kernel)
                  have hRO : RB GA 24060 f109 := hRO.fm hf109 m_GA r_GA (by decide +kernel)
                  have hk : fr L R [(12, 1), (12, 28), (12, 29), (12, 35), (12, 36), (12, 37), (12, 38), (12, 39), (12, 56), (12, 57)] [12, 61, 68, 69, 70, 73, 74, 76, 83] f0 f109 := hk.tr hf109 rfl rfl
                  have hb81 : fr L R [(12, 28), (12, 29), (12, 35), (12, 36), (12, 37), (12, 38), (12, 39), (12, 56), (12, 57)] [12, 61, 68, 69, 70, 73, 74, 76, 83] f66 f109 := hb81.tr hf109 rfl rfl
                  have e110 : fld f109 a0 0 = .ref GA := (hf109.efl m_a0 r_a0 rfl).trans e103
                  have e111 : fld f109 a0 22 = .ref GP := (hf109.efl m_a0 r_a0 rfl).trans e104
                  have e112 : fld f109 a0 23 = .ref GL := (hf109.efl m_a0 r_a0 rfl).trans e105
                  have e113 : fld f109 a0 6 = .ref GT := (hf109.efl m_a0 r_a0 rfl).trans e106
                  have e114 : fi f109 a0 56 = fi f102 a0 56 := hf109.efi m_a0 r_a0 rfl
                  refine lv_aload_n F.1 F.2.1 dX12_face_117 rfl (lv_at hl 0 rfl) ?_
                  refine g_12_103 F h m_a0 r_a0 dX12_face_118 (fun v115 hv115 => ?_)
                  refine tw_iconst F dX12_face_121 ki_m1 (fun z116 hz116 => ?_)
                  have j_137 : ∀ (ls : Array Slot) (y0_137 : Int32), 0 ≤ y0_137.toInt → y0_137.toInt ≤ 1 → (y0_137.toInt = 0 ∨ x5_81.toInt < x4.toInt) → lv_has ls 8 [(0, .ref a0), (4, .int x4), (5, .int x5_81)] → W p l e rm_X12_faceC s m args below meth c H locs 0 0 Q (F0 m 137 ls [.int y0_137]) := by
                    intro ls y0_137 b117 b118 b119 hl
                    refine lv_istore (lv' := [(6, .int y0_137), (0, .ref a0), (4, .int x4), (5, .int x5_81)]) F.1 F.2.1 dX12_face_137 hl (by decide) rfl (fun ls hl => ?_)
                    refine lv_iload F.1 F.2.1 dX12_face_139 (lv_at hl 0 rfl) ?_
                    refine tw_if_ne (tgt := 147) F dX12_face_141 (by decide) (fun b120 => ?_) (fun b120 => ?_)
                    · refine lv_aload_n F.1 F.2.1 dX12_face_147 rfl (lv_at hl 1 rfl) ?_
                      refine lv_iload F.1 F.2.1 dX12_face_148 (lv_at hl 3 rfl) ?_
                      refine tw_iconst F dX12_face_150 ki_2 (fun z121 hz121 => ?_)
                      refine tu_irem F dX12_face_151 (by omega) (fun z122 hz122a hz122b => ?_)
                      have j_164 : ∀ (ls : Array Slot) (y0_164 : Int32), 22410 ≤ y0_164.toInt → y0_164.toInt ≤ 24060 → (y0_164.toInt = 22410 ∨ y0_164.toInt = 24060) → lv_has ls 8 [(0, .ref a0), (4, .int x4), (5, .int x5_81), (6, .int y0_137)] → W p l e rm_X12_faceC s m args below meth c H locs 0 0 Q (F0 m 164 ls [.int y0_164, .ref a0]) := by
                        intro ls y0_164 b123 b124 b125 hl
                        refine tw_Vv (As := [.int y0_164]) F hZ h yk_X12_answers0 mw_1057 mw_1058 mw_1059 (s_X12_answers0 l D cy L R O f109 a0 m_a0 r_a0 y0_164 ⟨by omega, by omega⟩ GA m_GA r_GA e110 GP m_GP r_GP e111 GL m_GL r_GL e112 GT m_GT r_GT e113 (isB_c (by omega)) (RB_2 hRB hRO (by omega)) hX) rfl rfl m_a0 r_a0 (fun e q => (T_12 e).mp q) rfl hl.1 rfl (Nat.le_of_ble_eq_true rfl) ⟨Nat.le_of_ble_eq_true rfl, Nat.le_of_ble_eq_true rfl⟩ ⟨Nat.le_of_ble_eq_true rfl, Nat.le_of_ble_eq_true rfl⟩ dX12_face_164 (fun f126 H locs hp126 h => ?_)
                        obtain ⟨hf126, hv127p0, hv127p1⟩ := hp126
                        have hR : RBA GA f126 := hR.kw hv127p1 (Or.inl (by omega))
                        have hX : GZ GP GL f126 := hv127p0
                        have hqkc0 : elj f126 GA 5159 = elj f0 GA 5159 := (hv127p1 _ (by omega)).trans hqkc0
                        have hqkc1 : elj f126 GA 10349 = elj f0 GA 10349 := (hv127p1 _ (by omega)).trans hqkc1
                        have hqkc2 : elj f126 GA 15539 = elj f0 GA 15539 := (hv127p1 _ (by omega)).trans hqkc2
                        have hqkc3 : elj f126 GA 20729 = elj f0 GA 20729 := (hv127p1 _ (by omega)).trans hqkc3
                        have hRB : RB GA 22410 f126 := hRB.kw hv127p1 (by omega)
                        have hRO : RB GA 24060 f126 := hRO.kw hv127p1 (by omega)
                        have hk : fr L R [(12, 1), (12, 28), (12, 29), (12, 35), (12, 36), (12, 37), (12, 38), (12, 39), (12, 56), (12, 57)] [12, 61, 68, 69, 70, 73, 74, 76, 83] f0 f126 := hk.tr hf126 (by decide +kernel) (by decide +kernel)
                        have hb81 : fr L R [(12, 28), (12, 29), (12, 35), (12, 36), (12, 37), (12, 38), (12, 39), (12, 56), (12, 57)] [12, 61, 68, 69, 70, 73, 74, 76, 83] f66 f126 := hb81.tr hf126 (by decide +kernel) (by decide +kernel)
                        have e128 : fld f126 a0 0 = .ref GA := (hf126.efl m_a0 r_a0 rfl).trans e110
                        have e129 : fld f126 a0 22 = .ref GP := (hf126.efl m_a0 r_a0 rfl).trans e111
                        have e130 : fld f126 a0 23 = .ref GL := (hf126.efl m_a0 r_a0 rfl).trans e112
                        have e131 : fld f126 a0 6 = .ref GT := (hf126.efl m_a0 r_a0 rfl).trans e113
                        have e132 : fi f126 a0 56 = fi f109 a0 56 := hf126.efi m_a0 r_a0 rfl
                        refine lv_aload_n F.1 F.2.1 dX12_face_167 rfl (lv_at hl 0 rfl) ?_
                        refine lv_aload_n F.1 F.2.1 dX12_face_168 rfl (lv_at hl 0 rfl) ?_
                        refine g_12_324 F h m_a0 r_a0 dX12_face_169 (fun v133 hv133 hv133a hv133b => ?_)
                        refine p_12_298 F h m_a0 r_a0 (by omega) dX12_face_172 (fun f134 H locs e134p hf134 h => ?_)
                        have hR : RBA GA f134 := hR.fm hf134 m_GA r_GA (by decide +kernel)
                        have hX : GZ GP GL f134 := hX.fm hf134 m_GP r_GP m_GL r_GL (by decide +kernel) (by decide +kernel)
                        have hqkc0 : elj f134 GA 5159 = elj f0 GA 5159 := (hf134.eelj m_GA r_GA (by decide +kernel) _).trans hqkc0
                        have hqkc1 : elj f134 GA 10349 = elj f0 GA 10349 := (hf134.eelj m_GA r_GA (by decide +kernel) _).trans hqkc1
                        have hqkc2 : elj f134 GA 15539 = elj f0 GA 15539 := (hf134.eelj m_GA r_GA (by decide +kernel) _).trans hqkc2
                        have hqkc3 : elj f134 GA 20729 = elj f0 GA 20729 := (hf134.eelj m_GA r_GA (by decide +kernel) _).trans hqkc3
                        have hRB : RB GA 22410 f134 := hRB.fm hf134 m_GA r_GA (by decide +kernel)
                        have hRO : RB GA 24060 f134 := hRO.fm hf134 m_GA r_GA (by decide +kernel)
                        have hk : fr L R [(12, 1), (12, 28), (12, 29), (12, 35), (12, 36), (12, 37), (12, 38), (12, 39), (12, 56), (12, 57)] [12, 61, 68, 69, 70, 73, 74, 76, 83] f0 f134 := hk.tr hf134 rfl rfl
                        have hb81 : fr L R [(12, 28), (12, 29), (12, 35), (12, 36), (12, 37), (12, 38), (12, 39), (12, 56), (12, 57)] [12, 61, 68, 69, 70, 73, 74, 76, 83] f66 f134 := hb81.tr hf134 rfl rfl
                        have e135 : fld f134 a0 0 = .ref GA := (hf134.efl m_a0 r_a0 rfl).trans e128
                        have e136 : fld f134 a0 22 = .ref GP := (hf134.efl m_a0 r_a0 rfl).trans e129
                        have e137 : fld f134 a0 23 = .ref GL := (hf134.efl m_a0 r_a0 rfl).trans e130
                        have e138 : fld f134 a0 6 = .ref GT := (hf134.efl m_a0 r_a0 rfl).trans e131
                        have e139 : fi f134 a0 56 = fi f126 a0 56 := hf134.efi m_a0 r_a0 rfl
                        have e140 : fi f134 a0 29 = fi f126 a0 29 := hf134.efi m_a0 r_a0 rfl
                        refine tw_iconst F dX12_face_175 ki_0 (fun z141 hz141 => ?_)
                        refine lv_istore (lv' := [(7, .int z141), (0, .ref a0), (4, .int x4), (5, .int x5_81), (6, .int y0_137)]) F.1 F.2.1 dX12_face_176 hl (by decide) rfl (fun ls hl => ?_)
                        have j_178 : ∀ (n178 : Nat) (f142 : Nat → va_E) (H : Heap) (locs : List Loc) (ls : Array Slot) (x7_178 : Int32), 0 ≤ x7_178.toInt → x7_178.toInt ≤ 12 → ((12 - x7_178.toInt)).toNat < n178 → tS D cy A s.heap L R (TT cy L R) f142 s H locs → RBA GA f142 → GZ GP GL f142 → elj f142 GA 5159 = elj f0 GA 5159 → elj f142 GA 10349 = elj f0 GA 10349 → elj f142 GA 15539 = elj f0 GA 15539 → elj f142 GA 20729 = elj f0 GA 20729 → RB GA 22410 f142 → RB GA 24060 f142 → fr L R [(12, 1), (12, 28), (12, 29), (12, 35), (12, 36), (12, 37), (12, 38), (12, 39), (12, 56), (12, 57)] [12, 61, 68, 69, 70, 73, 74, 76, 83] f0 f142 → fr L R [] [73] f134 f142 → lv_has ls 8 [(0, .ref a0), (4, .int x4), (5, .int x5_81), (6, .int y0_137), (7, .int x7_178)] → W p l e rm_X12_faceC s m args below meth c H locs 0 0 Q (F0 m 178 ls []) := by
                          intro n178
                          induction n178 with
                          | zero =>
                            intro f142 H locs ls x7_178 b143 b144 b145 h hR hX hqkc0 hqkc1 hqkc2 hqkc3 hRB hRO hk hb178 hl
                            exfalso
                            omega
                          | succ n178 ih178 =>
                            intro f142 H locs ls x7_178 b143 b144 b145 h hR hX hqkc0 hqkc1 hqkc2 hqkc3 hRB hRO hk hb178 hl
                            have hb81 : fr L R [(12, 28), (12, 29), (12, 35), (12, 36), (12, 37), (12, 38), (12, 39), (12, 56), (12, 57)] [12, 61, 68, 69, 70, 73, 74, 76, 83] f66 f142 := hb81.tr hb178 rfl rfl
                            have e146 : fld f142 a0 0 = .ref GA := (hb178.efl m_a0 r_a0 rfl).trans e135
                            have e147 : fld f142 a0 22 = .ref GP := (hb178.efl m_a0 r_a0 rfl).trans e136
                            have e148 : fld f142 a0 23 = .ref GL := (hb178.efl m_a0 r_a0 rfl).trans e137
                            have e149 : fld f142 a0 6 = .ref GT := (hb178.efl m_a0 r_a0 rfl).trans e138
                            have e150 : fi f142 a0 56 = fi f134 a0 56 := hb178.efi m_a0 r_a0 rfl
                            have e151 : fi f142 a0 29 = fi f134 a0 29 := hb178.efi m_a0 r_a0 rfl
                            refine lv_iload F.1 F.2.1 dX12_face_178 (lv_at hl 4 rfl) ?_
                            refine lv_aload_n F.1 F.2.1 dX12_face_180 rfl (lv_at hl 0 rfl) ?_
                            refine g_12_324 F h m_a0 r_a0 dX12_face_181 (fun v152 hv152 hv152a hv152b => ?_)
                            refine tw_icmp_ge (tgt := 207) F dX12_face_184 (by decide) (fun b153 => ?_) (fun b153 => ?_)
                            · refine tu_iinc F dX12_face_207 hl (k := 2) rfl (by decide) ki_1 (by omega) (fun z154 ls hz154 hl => ?_)
                              have hl : lv_has ls 8 [(5, .int z154), (0, .ref a0), (4, .int x4), (6, .int y0_137), (7, .int x7_178)] := hl
                              refine lv_goto (tgt := 81) F.1 F.2.1 dX12_face_210 (by decide) ?_
                              exact ih81 f142 _ _ _ z154 y0_137 (by omega) (by omega) (by omega) (by omega) (by omega) h hR hX hqkc0 hqkc1 hqkc2 hqkc3 hRB hRO hk hb81 (lv_sub hl [1, 2, 0, 3] rfl)
                            · refine lv_aload_n F.1 F.2.1 dX12_face_187 rfl (lv_at hl 0 rfl) ?_
                              refine g_12_60 F h m_a0 r_a0 dX12_face_188 (fun o155 m_o155 r_o155 ho155 => ?_)
                              refine lv_iload F.1 F.2.1 dX12_face_191 (lv_at hl 4 rfl) ?_
                              refine lv_aload_n F.1 F.2.1 dX12_face_193 rfl (lv_at hl 0 rfl) ?_
                              refine g_12_63 F h m_a0 r_a0 dX12_face_194 (fun o156 m_o156 r_o156 ho156 => ?_)
                              refine lv_iload F.1 F.2.1 dX12_face_197 (lv_at hl 4 rfl) ?_
                              refine ld_74 F h m_o156 r_o156 (by omega) dX12_face_199 (fun v157 => ?_)
                              refine st_73 F h m_o155 r_o155 (by omega) dX12_face_200 (fun f158 H locs hf158 h => ?_)
                              have hR : RBA GA f158 := hR.fm hf158 m_GA r_GA (by decide +kernel)
                              have hX : GZ GP GL f158 := hX.fm hf158 m_GP r_GP m_GL r_GL (by decide +kernel) (by decide +kernel)
                              have hqkc0 : elj f158 GA 5159 = elj f0 GA 5159 := (hf158.eelj m_GA r_GA (by decide +kernel) _).trans hqkc0
                              have hqkc1 : elj f158 GA 10349 = elj f0 GA 10349 := (hf158.eelj m_GA r_GA (by decide +kernel) _).trans hqkc1
                              have hqkc2 : elj f158 GA 15539 = elj f0 GA 15539 := (hf158.eelj m_GA r_GA (by decide +kernel) _).trans hqkc2
                              have hqkc3 : elj f158 GA 20729 = elj f0 GA 20729 := (hf158.eelj m_GA r_GA (by decide +kernel) _).trans hqkc3
                              have hRB : RB GA 22410 f158 := hRB.fm hf158 m_GA r_GA (by decide +kernel)
                              have hRO : RB GA 24060 f158 := hRO.fm hf158 m_GA r_GA (by decide +kernel)
                              have hk : fr L R [(12, 1), (12, 28), (12, 29), (12, 35), (12, 36), (12, 37), (12, 38), (12, 39), (12, 56), (12, 57)] [12, 61, 68, 69, 70, 73, 74, 76, 83] f0 f158 := hk.tr hf158 rfl rfl
                              have hb81 : fr L R [(12, 28), (12, 29), (12, 35), (12, 36), (12, 37), (12, 38), (12, 39), (12, 56), (12, 57)] [12, 61, 68, 69, 70, 73, 74, 76, 83] f66 f158 := hb81.tr hf158 rfl rfl
                              have hb178 : fr L R [] [73] f134 f158 := hb178.tr hf158 rfl rfl
                              have e159 : fld f158 a0 0 = .ref GA := (hf158.efl m_a0 r_a0 rfl).trans e146
                              have e160 : fld f158 a0 22 = .ref GP := (hf158.efl m_a0 r_a0 rfl).trans e147
                              have e161 : fld f158 a0 23 = .ref GL := (hf158.efl m_a0 r_a0 rfl).trans e148
                              have e162 : fld f158 a0 6 = .ref GT := (hf158.efl m_a0 r_a0 rfl).trans e149
                              have e163 : fi f158 a0 56 = fi f142 a0 56 := hf158.efi m_a0 r_a0 rfl
                              have e164 : fi f158 a0 29 = fi f142 a0 29 := hf158.efi m_a0 r_a0 rfl
                              refine tu_iinc F dX12_face_201 hl (k := 4) rfl (by decide) ki_1 (by omega) (fun z165 ls hz165 hl => ?_)
                              have hl : lv_has ls 8 [(7, .int z165), (0, .ref a0), (4, .int x4), (5, .int x5_81), (6, .int y0_137)] := hl
                              refine lv_goto (tgt := 178) F.1 F.2.1 dX12_face_204 (by decide) ?_
                              exact ih178 f158 _ _ _ z165 (by omega) (by omega) (by omega) h hR hX hqkc0 hqkc1 hqkc2 hqkc3 hRB hRO hk hb178 (lv_sub hl [1, 2, 3, 4, 0] rfl)
                        have hb178 : fr L R [] [73] f134 f134 := fr.rf
                        exact j_178 (((12 - z141.toInt)).toNat + 1) f134 _ _ _ z141 (by omega) (by omega) (by omega) h hR hX hqkc0 hqkc1 hqkc2 hqkc3 hRB hRO hk hb178 (lv_sub hl [1, 2, 3, 4, 0] rfl)
                      refine tw_if_ne (tgt := 161) F dX12_face_152 (by decide) (fun b166 => ?_) (fun b166 => ?_)
                      · refine tw_sipush F dX12_face_161 ks_24060 (fun z167 hz167 => ?_)
                        exact j_164 _ z167 (by omega) (by omega) (by omega) (lv_sub hl [1, 2, 3, 0] rfl)
                      · refine tw_sipush F dX12_face_155 ks_22410 (fun z168 hz168 => ?_)
                        refine lv_goto (tgt := 164) F.1 F.2.1 dX12_face_158 (by decide) ?_
                        exact j_164 _ z168 (by omega) (by omega) (by omega) (lv_sub hl [1, 2, 3, 0] rfl)
                    · refine lv_goto (tgt := 81) F.1 F.2.1 dX12_face_144 (by decide) ?_
                      exact ih81 f109 _ _ _ x5_81 y0_137 (by omega) (by omega) (by omega) (by omega) (by omega) h hR hX hqkc0 hqkc1 hqkc2 hqkc3 hRB hRO hk hb81 (lv_sub hl [1, 2, 3, 0] rfl)
                  have j_136 : ∀ (ls : Array Slot), lv_has ls 8 [(0, .ref a0), (4, .int x4), (5, .int x5_81)] → W p l e rm_X12_faceC s m args below meth c H locs 0 0 Q (F0 m 136 ls []) := by
                    intro ls hl
                    refine tw_iconst F dX12_face_136 ki_0 (fun z169 hz169 => ?_)
                    exact j_137 _ z169 (by omega) (by omega) (by omega) (lv_sub hl [0, 1, 2] rfl)
                  refine tw_icmp_ne (tgt := 136) F dX12_face_122 (by decide) (fun b170 => ?_) (fun b170 => ?_)
                  · exact j_136 _ (lv_sub hl [0, 1, 2] rfl)
                  · refine lv_iload F.1 F.2.1 dX12_face_125 (lv_at hl 2 rfl) ?_
                    refine lv_iload F.1 F.2.1 dX12_face_127 (lv_at hl 1 rfl) ?_
                    refine tw_icmp_ge (tgt := 136) F dX12_face_129 (by decide) (fun b171 => ?_) (fun b171 => ?_)
                    · exact j_136 _ (lv_sub hl [0, 1, 2] rfl)
                    · refine tw_iconst F dX12_face_132 ki_1 (fun z172 hz172 => ?_)
                      refine lv_goto (tgt := 137) F.1 F.2.1 dX12_face_133 (by decide) ?_
                      exact j_137 _ z172 (by omega) (by omega) (by omega) (lv_sub hl [0, 1, 2] rfl)
            have hb81 : fr L R [(12, 28), (12, 29), (12, 35), (12, 36), (12, 37), (12, 38), (12, 39), (12, 56), (12, 57)] [12, 61, 68, 69, 70, 73, 74, 76, 83] f66 f66 := fr.rf
            exact j_81 (((2 * (201 - z71.toInt) + z72.toInt)).toNat + 1) f66 _ _ _ z71 z72 (by omega) (by omega) (by omega) (by omega) (by omega) h hR hX hqkc0 hqkc1 hqkc2 hqkc3 hRB hRO hk hb81 (lv_sub hl [2, 6, 1, 0] rfl)
          · refine lv_aload_n F.1 F.2.1 dX12_face_39 rfl (lv_at hl 0 rfl) ?_
            refine tw_iconst F dX12_face_40 ki_1 (fun z173 hz173 => ?_)
            refine tw_Vi (As := [.int z173]) F hZ h yk_X12_refuse mw_452 mw_453 mw_454 (s_X12_refuse l D cy L R O f0 a0 m_a0 r_a0 z173 ⟨by omega, by omega⟩) rfl rfl m_a0 r_a0 (fun e q => (T_12 e).mp q) rfl hl.1 rfl (Nat.le_of_ble_eq_true rfl) ⟨Nat.le_of_ble_eq_true rfl, Nat.le_of_ble_eq_true rfl⟩ ⟨Nat.le_of_ble_eq_true rfl, Nat.le_of_ble_eq_true rfl⟩ dX12_face_41 (fun v175 f174 H locs hp174 h => ?_)
            obtain ⟨hf174, hv175a, hv175b⟩ := hp174
            have hR : RBA GA f174 := hR.fm hf174 m_GA r_GA (by decide +kernel)
            have hX : GZ GP GL f174 := hX.fm hf174 m_GP r_GP m_GL r_GL (by decide +kernel) (by decide +kernel)
            have hqkc0 : elj f174 GA 5159 = elj f0 GA 5159 := (hf174.eelj m_GA r_GA (by decide +kernel) _).trans hqkc0
            have hqkc1 : elj f174 GA 10349 = elj f0 GA 10349 := (hf174.eelj m_GA r_GA (by decide +kernel) _).trans hqkc1
            have hqkc2 : elj f174 GA 15539 = elj f0 GA 15539 := (hf174.eelj m_GA r_GA (by decide +kernel) _).trans hqkc2
            have hqkc3 : elj f174 GA 20729 = elj f0 GA 20729 := (hf174.eelj m_GA r_GA (by decide +kernel) _).trans hqkc3
            have hk : fr L R [(12, 1), (12, 28), (12, 29), (12, 35), (12, 36), (12, 37), (12, 38), (12, 39), (12, 56), (12, 57)] [12, 61, 68, 69, 70, 73, 74, 76, 83] f0 f174 := hk.tr hf174 rfl rfl
            have e176 : fld f174 a0 0 = .ref GA := (hf174.efl m_a0 r_a0 rfl).trans t_GA
            have e177 : fld f174 a0 22 = .ref GP := (hf174.efl m_a0 r_a0 rfl).trans t_GP
            have e178 : fld f174 a0 23 = .ref GL := (hf174.efl m_a0 r_a0 rfl).trans t_GL
            have e179 : fld f174 a0 6 = .ref GT := (hf174.efl m_a0 r_a0 rfl).trans t_GT
            exact hret f174 _ _ _ _ v175 dX12_face_44 rfl ⟨hk, hR, hX, hqkc0, hqkc1, hqkc2, hqkc3⟩ h
def rm_X12_leastC : Room := { frames := 7, cells := 0, slots := 0, locals := 176 }
set_option maxHeartbeats 4000000 in
set_option maxRecDepth 100000 in
theorem s_X12_leastC (l : Launch) (D : va_G) (cy : Nat → ClassId) (L : List Nat) (R O : Nat → Nat) (f0 : Nat → va_E) (a0 : Nat) (m_a0 : a0 ∈ L) (r_a0 : R a0 = 12) (x1 : Int32) (x2 : Int32) (x3 : Int32) (GA : Nat) (m_GA : GA ∈ L) (r_GA : R GA = 61) (t_GA : fld f0 a0 0 = .ref GA) (GP : Nat) (m_GP : GP ∈ L) (r_GP : R GP = 69) (t_GP : fld f0 a0 22 = .ref GP) (GL : Nat) (m_GL : GL ∈ L) (r_GL : R GL = 70) (t_GL : fld f0 a0 23 = .ref GL) (GT : Nat) (m_GT : GT ∈ L) (r_GT : R GT = 64) (t_GT : fld f0 a0 6 = .ref GT) (pre0 : RBA GA f0) (pre1 : GZ GP GL f0) : ∀ sz, Met l yX12_least (Cond.code yX12_least cX12_least 8 (some .int) :: wsL_law) rm_X12_leastC (va_Pc [.ref a0, .int x1, .int x2, .int x3] (tPZ D cy L R (TT cy L R) f0 sz)) (va_Qi (fun (r : Int32) f1 => fr L R [(12, 1), (12, 28), (12, 29), (12, 31), (12, 35), (12, 36), (12, 37), (12, 38), (12, 39), (12, 59)] [12, 61, 68, 69, 70, 73, 74, 76, 84] f0 f1 ∧ RBA GA f1 ∧ GZ GP GL f1 ∧ elj f1 GA 5159 = elj f0 GA 5159 ∧ elj f1 GA 10349 = elj f0 GA 10349 ∧ elj f1 GA 15539 = elj f0 GA 15539 ∧ elj f1 GA 20729 = elj f0 GA 20729) (tB D (tA L sz) L R (TT cy L R)) (tA L sz)) 0 0 (tA L sz) := by
  refine tw_enteri (by decide +kernel) rfl (Nat.le_of_ble_eq_true rfl) ?_
  intro p e s m below meth c A ls args Q F hZ h hl hret
  have hl : lv_has ls 8 [(0, .ref a0), (1, .int x1), (2, .int x2), (3, .int x3)] := hl
  have hk : fr L R [(12, 1), (12, 28), (12, 29), (12, 31), (12, 35), (12, 36), (12, 37), (12, 38), (12, 39), (12, 59)] [12, 61, 68, 69, 70, 73, 74, 76, 84] f0 f0 := fr.rf
  have hR := pre0
  have hX := pre1
  have hqkc0 : elj f0 GA 5159 = elj f0 GA 5159 := rfl
  have hqkc1 : elj f0 GA 10349 = elj f0 GA 10349 := rfl
  have hqkc2 : elj f0 GA 15539 = elj f0 GA 15539 := rfl
  have hqkc3 : elj f0 GA 20729 = elj f0 GA 20729 := rfl
  refine lv_aload_n F.1 F.2.1 dX12_least_0 rfl (lv_at hl 0 rfl) ?_
  refine lv_iload_n F.1 F.2.1 dX12_least_1 rfl (lv_at hl 1 rfl) ?_
  refine tw_Vi (As := [.int x1]) F hZ h yk_X12_isScript mw_635 mw_636 mw_637 (s_X12_isScript l D cy L R O f0 a0 m_a0 r_a0 x1) rfl rfl m_a0 r_a0 (fun e q => (T_12 e).mp q) rfl hl.1 rfl (Nat.le_of_ble_eq_true rfl) ⟨Nat.le_of_ble_eq_true rfl, Nat.le_of_ble_eq_true rfl⟩ ⟨Nat.le_of_ble_eq_true rfl, Nat.le_of_ble_eq_true rfl⟩ dX12_least_2 (fun v2 f1 H locs hp1 h => ?_)
  obtain ⟨rfl, hv2a, hv2b, hv2p0⟩ := hp1
  refine tw_if_eq (tgt := 26) F dX12_least_5 (by decide) (fun b3 => ?_) (fun b3 => ?_)
  · refine lv_aload_n F.1 F.2.1 dX12_least_26 rfl (lv_at hl 0 rfl) ?_
    refine tw_iconst F dX12_least_27 ki_1 (fun z4 hz4 => ?_)
    refine tw_Vi (As := [.int z4]) F hZ h yk_X12_refuse mw_452 mw_453 mw_454 (s_X12_refuse l D cy L R O f0 a0 m_a0 r_a0 z4 ⟨by omega, by omega⟩) rfl rfl m_a0 r_a0 (fun e q => (T_12 e).mp q) rfl hl.1 rfl (Nat.le_of_ble_eq_true rfl) ⟨Nat.le_of_ble_eq_true rfl, Nat.le_of_ble_eq_true rfl⟩ ⟨Nat.le_of_ble_eq_true rfl, Nat.le_of_ble_eq_true rfl⟩ dX12_least_28 (fun v6 f5 H locs hp5 h => ?_)
    obtain ⟨hf5, hv6a, hv6b⟩ := hp5
    have hR : RBA GA f5 := hR.fm hf5 m_GA r_GA (by decide +kernel)
    have hX : GZ GP GL f5 := hX.fm hf5 m_GP r_GP m_GL r_GL (by decide +kernel) (by decide +kernel)
    have hqkc0 : elj f5 GA 5159 = elj f0 GA 5159 := (hf5.eelj m_GA r_GA (by decide +kernel) _).trans hqkc0
    have hqkc1 : elj f5 GA 10349 = elj f0 GA 10349 := (hf5.eelj m_GA r_GA (by decide +kernel) _).trans hqkc1
    have hqkc2 : elj f5 GA 15539 = elj f0 GA 15539 := (hf5.eelj m_GA r_GA (by decide +kernel) _).trans hqkc2
    have hqkc3 : elj f5 GA 20729 = elj f0 GA 20729 := (hf5.eelj m_GA r_GA (by decide +kernel) _).trans hqkc3
    have hk : fr L R [(12, 1), (12, 28), (12, 29), (12, 31), (12, 35), (12, 36), (12, 37), (12, 38), (12, 39), (12, 59)] [12, 61, 68, 69, 70, 73, 74, 76, 84] f0 f5 := hk.tr hf5 rfl rfl
    have e7 : fld f5 a0 0 = .ref GA := (hf5.efl m_a0 r_a0 rfl).trans t_GA
    have e8 : fld f5 a0 22 = .ref GP := (hf5.efl m_a0 r_a0 rfl).trans t_GP
    have e9 : fld f5 a0 23 = .ref GL := (hf5.efl m_a0 r_a0 rfl).trans t_GL
    have e10 : fld f5 a0 6 = .ref GT := (hf5.efl m_a0 r_a0 rfl).trans t_GT
    exact hret f5 _ _ _ _ v6 dX12_least_31 rfl ⟨hk, hR, hX, hqkc0, hqkc1, hqkc2, hqkc3⟩ h
  · refine lv_iload_n F.1 F.2.1 dX12_least_8 rfl (lv_at hl 2 rfl) ?_
    refine tw_Si (As := [.int x2]) F hZ h yk_X12_isTray mw_283 mw_284 (s_X12_isTray l D cy L R O f0 x2) rfl rfl hl.1 rfl (Nat.le_of_ble_eq_true rfl) ⟨Nat.le_of_ble_eq_true rfl, Nat.le_of_ble_eq_true rfl⟩ ⟨Nat.le_of_ble_eq_true rfl, Nat.le_of_ble_eq_true rfl⟩ dX12_least_9 (fun v12 f11 H locs hp11 h => ?_)
    obtain ⟨rfl, hv12a, hv12b, hv12p0⟩ := hp11
    refine tw_if_eq (tgt := 26) F dX12_least_12 (by decide) (fun b13 => ?_) (fun b13 => ?_)
    · refine lv_aload_n F.1 F.2.1 dX12_least_26 rfl (lv_at hl 0 rfl) ?_
      refine tw_iconst F dX12_least_27 ki_1 (fun z14 hz14 => ?_)
      refine tw_Vi (As := [.int z14]) F hZ h yk_X12_refuse mw_452 mw_453 mw_454 (s_X12_refuse l D cy L R O f0 a0 m_a0 r_a0 z14 ⟨by omega, by omega⟩) rfl rfl m_a0 r_a0 (fun e q => (T_12 e).mp q) rfl hl.1 rfl (Nat.le_of_ble_eq_true rfl) ⟨Nat.le_of_ble_eq_true rfl, Nat.le_of_ble_eq_true rfl⟩ ⟨Nat.le_of_ble_eq_true rfl, Nat.le_of_ble_eq_true rfl⟩ dX12_least_28 (fun v16 f15 H locs hp15 h => ?_)
      obtain ⟨hf15, hv16a, hv16b⟩ := hp15
      have hR : RBA GA f15 := hR.fm hf15 m_GA r_GA (by decide +kernel)
      have hX : GZ GP GL f15 := hX.fm hf15 m_GP r_GP m_GL r_GL (by decide +kernel) (by decide +kernel)
      have hqkc0 : elj f15 GA 5159 = elj f0 GA 5159 := (hf15.eelj m_GA r_GA (by decide +kernel) _).trans hqkc0
      have hqkc1 : elj f15 GA 10349 = elj f0 GA 10349 := (hf15.eelj m_GA r_GA (by decide +kernel) _).trans hqkc1
      have hqkc2 : elj f15 GA 15539 = elj f0 GA 15539 := (hf15.eelj m_GA r_GA (by decide +kernel) _).trans hqkc2
      have hqkc3 : elj f15 GA 20729 = elj f0 GA 20729 := (hf15.eelj m_GA r_GA (by decide +kernel) _).trans hqkc3
      have hk : fr L R [(12, 1), (12, 28), (12, 29), (12, 31), (12, 35), (12, 36), (12, 37), (12, 38), (12, 39), (12, 59)] [12, 61, 68, 69, 70, 73, 74, 76, 84] f0 f15 := hk.tr hf15 rfl rfl
      have e17 : fld f15 a0 0 = .ref GA := (hf15.efl m_a0 r_a0 rfl).trans t_GA
      have e18 : fld f15 a0 22 = .ref GP := (hf15.efl m_a0 r_a0 rfl).trans t_GP
      have e19 : fld f15 a0 23 = .ref GL := (hf15.efl m_a0 r_a0 rfl).trans t_GL
      have e20 : fld f15 a0 6 = .ref GT := (hf15.efl m_a0 r_a0 rfl).trans t_GT
      exact hret f15 _ _ _ _ v16 dX12_least_31 rfl ⟨hk, hR, hX, hqkc0, hqkc1, hqkc2, hqkc3⟩ h
    · refine lv_iload_n F.1 F.2.1 dX12_least_15 rfl (lv_at hl 3 rfl) ?_
      refine tw_iconst F dX12_least_16 ki_1 (fun z21 hz21 => ?_)
      refine tw_icmp_lt (tgt := 26) F dX12_least_17 (by decide) (fun b22 => ?_) (fun b22 => ?_)
      · refine lv_aload_n F.1 F.2.1 dX12_least_26 rfl (lv_at hl 0 rfl) ?_
        refine tw_iconst F dX12_least_27 ki_1 (fun z23 hz23 => ?_)
        refine tw_Vi (As := [.int z23]) F hZ h yk_X12_refuse mw_452 mw_453 mw_454 (s_X12_refuse l D cy L R O f0 a0 m_a0 r_a0 z23 ⟨by omega, by omega⟩) rfl rfl m_a0 r_a0 (fun e q => (T_12 e).mp q) rfl hl.1 rfl (Nat.le_of_ble_eq_true rfl) ⟨Nat.le_of_ble_eq_true rfl, Nat.le_of_ble_eq_true rfl⟩ ⟨Nat.le_of_ble_eq_true rfl, Nat.le_of_ble_eq_true rfl⟩ dX12_least_28 (fun v25 f24 H locs hp24 h => ?_)
        obtain ⟨hf24, hv25a, hv25b⟩ := hp24
        have hR : RBA GA f24 := hR.fm hf24 m_GA r_GA (by decide +kernel)
        have hX : GZ GP GL f24 := hX.fm hf24 m_GP r_GP m_GL r_GL (by decide +kernel) (by decide +kernel)
        have hqkc0 : elj f24 GA 5159 = elj f0 GA 5159 := (hf24.eelj m_GA r_GA (by decide +kernel) _).trans hqkc0
        have hqkc1 : elj f24 GA 10349 = elj f0 GA 10349 := (hf24.eelj m_GA r_GA (by decide +kernel) _).trans hqkc1
        have hqkc2 : elj f24 GA 15539 = elj f0 GA 15539 := (hf24.eelj m_GA r_GA (by decide +kernel) _).trans hqkc2
        have hqkc3 : elj f24 GA 20729 = elj f0 GA 20729 := (hf24.eelj m_GA r_GA (by decide +kernel) _).trans hqkc3
        have hk : fr L R [(12, 1), (12, 28), (12, 29), (12, 31), (12, 35), (12, 36), (12, 37), (12, 38), (12, 39), (12, 59)] [12, 61, 68, 69, 70, 73, 74, 76, 84] f0 f24 := hk.tr hf24 rfl rfl
        have e26 : fld f24 a0 0 = .ref GA := (hf24.efl m_a0 r_a0 rfl).trans t_GA
        have e27 : fld f24 a0 22 = .ref GP := (hf24.efl m_a0 r_a0 rfl).trans t_GP
        have e28 : fld f24 a0 23 = .ref GL := (hf24.efl m_a0 r_a0 rfl).trans t_GL
        have e29 : fld f24 a0 6 = .ref GT := (hf24.efl m_a0 r_a0 rfl).trans t_GT
        exact hret f24 _ _ _ _ v25 dX12_least_31 rfl ⟨hk, hR, hX, hqkc0, hqkc1, hqkc2, hqkc3⟩ h
      · refine lv_iload_n F.1 F.2.1 dX12_least_20 rfl (lv_at hl 3 rfl) ?_
        refine tw_bipush F dX12_least_21 kb_15 (fun z30 hz30 => ?_)
        refine tw_icmp_le (tgt := 32) F dX12_least_23 (by decide) (fun b31 => ?_) (fun b31 => ?_)
        · refine lv_aload_n F.1 F.2.1 dX12_least_32 rfl (lv_at hl 0 rfl) ?_
          refine g_12_7 F h m_a0 r_a0 dX12_least_33 (fun o32 m_o32 r_o32 ho32 => ?_)
          obtain rfl := (fld_inj t_GA ho32).symm
          refine tw_sipush F dX12_least_36 ks_1650 (fun z33 hz33 => ?_)
          refine lv_iload_n F.1 F.2.1 dX12_least_39 rfl (lv_at hl 1 rfl) ?_
          refine tu_imull F dX12_least_40 hz33 (by omega) (fun z34 hz34 => ?_)
          refine tw_iconst F dX12_least_41 ki_1 (fun z35 hz35 => ?_)
          refine tu_iadd F dX12_least_42 (by omega) (fun z36 hz36 => ?_)
          refine ld_61 F h m_GA r_GA (by omega) dX12_least_43 (fun v37 hv37a => ?_)
          have hv37b := clP_2.mp (atb hv37a (ac_c (b := (1650 * x1.toInt.toNat)) 1 (isB_s (show x1.toInt.toNat ≤ 2 by omega)) (by decide) (by omega) rfl))
          refine tw_l2i F dX12_least_44 (by omega) (by omega) (fun z38 hz38 => ?_)
          refine lv_istore (lv' := [(4, .int z38), (0, .ref a0), (1, .int x1), (2, .int x2), (3, .int x3)]) F.1 F.2.1 dX12_least_45 hl (by decide) rfl (fun ls hl => ?_)
          refine lv_iload F.1 F.2.1 dX12_least_47 (lv_at hl 0 rfl) ?_
          refine tw_bipush F dX12_least_49 kb_12 (fun z39 hz39 => ?_)
          refine tw_icmp_le (tgt := 60) F dX12_least_51 (by decide) (fun b40 => ?_) (fun b40 => ?_)
          · refine lv_aload_n F.1 F.2.1 dX12_least_60 rfl (lv_at hl 1 rfl) ?_
            refine tw_iconst F dX12_least_61 ki_1 (fun z41 hz41 => ?_)
            refine lv_iload_n F.1 F.2.1 dX12_least_62 rfl (lv_at hl 3 rfl) ?_
            refine lv_iload_n F.1 F.2.1 dX12_least_63 rfl (lv_at hl 4 rfl) ?_
            refine tw_bipush F dX12_least_64 kb_15 (fun z42 hz42 => ?_)
            refine tw_Vi (As := [.int z41, .int x2, .int x3, .int z42]) F hZ h yk_X12_wrongLines mw_1183 mw_1184 mw_1185 (s_X12_wrongLines l D cy L R O f0 a0 m_a0 r_a0 z41 ⟨by omega, by omega⟩ x2 x3 z42 ⟨by omega, by omega⟩ GA m_GA r_GA t_GA GP m_GP r_GP t_GP GL m_GL r_GL t_GL GT m_GT r_GT t_GT) rfl rfl m_a0 r_a0 (fun e q => (T_12 e).mp q) rfl hl.1 rfl (Nat.le_of_ble_eq_true rfl) ⟨Nat.le_of_ble_eq_true rfl, Nat.le_of_ble_eq_true rfl⟩ ⟨Nat.le_of_ble_eq_true rfl, Nat.le_of_ble_eq_true rfl⟩ dX12_least_66 (fun v44 f43 H locs hp43 h => ?_)
            obtain ⟨rfl, hv44a, hv44b, hv44p0, hv44p1⟩ := hp43
            refine lv_istore (lv' := [(5, .int v44), (4, .int z38), (0, .ref a0), (1, .int x1), (2, .int x2), (3, .int x3)]) F.1 F.2.1 dX12_least_69 hl (by decide) rfl (fun ls hl => ?_)
            refine lv_iload F.1 F.2.1 dX12_least_71 (lv_at hl 0 rfl) ?_
            refine tw_if_le (tgt := 83) F dX12_least_73 (by decide) (fun b45 => ?_) (fun b45 => ?_)
            · have hLT : LT GT x2.toInt.toNat x3.toInt.toNat f0 := hv44p0.g.resolve_left (by omega)
              refine lv_aload_n F.1 F.2.1 dX12_least_83 rfl (lv_at hl 2 rfl) ?_
              refine lv_iload_n F.1 F.2.1 dX12_least_84 rfl (lv_at hl 3 rfl) ?_
              refine tw_sipush F dX12_least_85 ks_22410 (fun z46 hz46 => ?_)
              refine tw_Vv (As := [.int x1, .int z46]) F hZ h yk_X12_works mw_1187 mw_1188 mw_1189 (s_X12_works l D cy L R O f0 a0 m_a0 r_a0 x1 ⟨by omega, by omega⟩ z46 ⟨by omega, by omega⟩ GA m_GA r_GA t_GA GP m_GP r_GP t_GP GL m_GL r_GL t_GL GT m_GT r_GT t_GT (isB_e isB_w (by omega)) (hR.s (by omega))) rfl rfl m_a0 r_a0 (fun e q => (T_12 e).mp q) rfl hl.1 rfl (Nat.le_of_ble_eq_true rfl) ⟨Nat.le_of_ble_eq_true rfl, Nat.le_of_ble_eq_true rfl⟩ ⟨Nat.le_of_ble_eq_true rfl, Nat.le_of_ble_eq_true rfl⟩ dX12_least_88 (fun f47 H locs hp47 h => ?_)
              obtain ⟨hf47, hv48p0, hv48p1⟩ := hp47
              have hR : RBA GA f47 := hR.kw hv48p0 (Or.inl (by omega))
              have hX : GZ GP GL f47 := hX.fm hf47 m_GP r_GP m_GL r_GL (by decide +kernel) (by decide +kernel)
              have hqkc0 : elj f47 GA 5159 = elj f0 GA 5159 := (hv48p0 _ (by omega)).trans hqkc0
              have hqkc1 : elj f47 GA 10349 = elj f0 GA 10349 := (hv48p0 _ (by omega)).trans hqkc1
              have hqkc2 : elj f47 GA 15539 = elj f0 GA 15539 := (hv48p0 _ (by omega)).trans hqkc2
              have hqkc3 : elj f47 GA 20729 = elj f0 GA 20729 := (hv48p0 _ (by omega)).trans hqkc3
              have hLT : LT GT x2.toInt.toNat x3.toInt.toNat f47 := hLT.fm hf47 m_GT r_GT (by decide +kernel)
              have hk : fr L R [(12, 1), (12, 28), (12, 29), (12, 31), (12, 35), (12, 36), (12, 37), (12, 38), (12, 39), (12, 59)] [12, 61, 68, 69, 70, 73, 74, 76, 84] f0 f47 := hk.tr hf47 rfl rfl
              have e49 : fld f47 a0 0 = .ref GA := (hf47.efl m_a0 r_a0 rfl).trans t_GA
              have e50 : fld f47 a0 22 = .ref GP := (hf47.efl m_a0 r_a0 rfl).trans t_GP
              have e51 : fld f47 a0 23 = .ref GL := (hf47.efl m_a0 r_a0 rfl).trans t_GL
              have e52 : fld f47 a0 6 = .ref GT := (hf47.efl m_a0 r_a0 rfl).trans t_GT
              have hRB : RB GA 22410 f47 := by have q := hv48p1; rw [show z46.toInt.toNat = 22410 by omega] at q; exact q
              refine tw_iconst F dX12_least_91 ki_0 (fun z53 hz53 => ?_)
              refine lv_istore (lv' := [(6, .int z53), (5, .int v44), (4, .int z38), (0, .ref a0), (1, .int x1), (2, .int x2), (3, .int x3)]) F.1 F.2.1 dX12_least_92 hl (by decide) rfl (fun ls hl => ?_)
              have j_94 : ∀ (n94 : Nat) (f54 : Nat → va_E) (H : Heap) (locs : List Loc) (ls : Array Slot) (x6_94 : Int32), 0 ≤ x6_94.toInt → x6_94.toInt ≤ 15 → ((15 - x6_94.toInt)).toNat < n94 → tS D cy A s.heap L R (TT cy L R) f54 s H locs → RBA GA f54 → GZ GP GL f54 → elj f54 GA 5159 = elj f0 GA 5159 → elj f54 GA 10349 = elj f0 GA 10349 → elj f54 GA 15539 = elj f0 GA 15539 → elj f54 GA 20729 = elj f0 GA 20729 → LT GT x2.toInt.toNat x3.toInt.toNat f54 → RB GA 22410 f54 → fr L R [(12, 1), (12, 28), (12, 29), (12, 31), (12, 35), (12, 36), (12, 37), (12, 38), (12, 39), (12, 59)] [12, 61, 68, 69, 70, 73, 74, 76, 84] f0 f54 → fr L R [(12, 28), (12, 29), (12, 35), (12, 36), (12, 37), (12, 38), (12, 39)] [12, 61, 68, 69, 70, 73, 74, 76, 84] f47 f54 → lv_has ls 8 [(0, .ref a0), (1, .int x1), (2, .int x2), (3, .int x3), (4, .int z38), (6, .int x6_94)] → W p l e rm_X12_leastC s m args below meth c H locs 0 0 Q (F0 m 94 ls []) := by
                intro n94
                induction n94 with
                | zero =>
                  intro f54 H locs ls x6_94 b55 b56 b57 h hR hX hqkc0 hqkc1 hqkc2 hqkc3 hLT hRB hk hb94 hl
                  exfalso
                  omega
                | succ n94 ih94 =>
                  intro f54 H locs ls x6_94 b55 b56 b57 h hR hX hqkc0 hqkc1 hqkc2 hqkc3 hLT hRB hk hb94 hl
                  have e58 : fld f54 a0 0 = .ref GA := (hb94.efl m_a0 r_a0 rfl).trans e49
                  have e59 : fld f54 a0 22 = .ref GP := (hb94.efl m_a0 r_a0 rfl).trans e50
                  have e60 : fld f54 a0 23 = .ref GL := (hb94.efl m_a0 r_a0 rfl).trans e51
                  have e61 : fld f54 a0 6 = .ref GT := (hb94.efl m_a0 r_a0 rfl).trans e52
                  refine lv_iload F.1 F.2.1 dX12_least_94 (lv_at hl 5 rfl) ?_
                  refine lv_iload_n F.1 F.2.1 dX12_least_96 rfl (lv_at hl 3 rfl) ?_
                  refine tw_icmp_ge (tgt := 175) F dX12_least_97 (by decide) (fun b62 => ?_) (fun b62 => ?_)
                  · refine tw_iconst F dX12_least_175 ki_m1 (fun z63 hz63 => ?_)
                    refine lv_istore (lv' := [(6, .int z63), (0, .ref a0), (1, .int x1), (2, .int x2), (3, .int x3), (4, .int z38)]) F.1 F.2.1 dX12_least_176 hl (by decide) rfl (fun ls hl => ?_)
                    refine tw_iconst F dX12_least_178 ki_0 (fun z64 hz64 => ?_)
                    refine lv_istore (lv' := [(7, .int z64), (6, .int z63), (0, .ref a0), (1, .int x1), (2, .int x2), (3, .int x3), (4, .int z38)]) F.1 F.2.1 dX12_least_179 hl (by decide) rfl (fun ls hl => ?_)
                    have j_181 : ∀ (n181 : Nat) (f65 : Nat → va_E) (H : Heap) (locs : List Loc) (ls : Array Slot) (x6_181 : Int32) (x7_181 : Int32), 0 ≤ x7_181.toInt → ((2147483647 - x7_181.toInt)).toNat < n181 → tS D cy A s.heap L R (TT cy L R) f65 s H locs → RBA GA f65 → GZ GP GL f65 → elj f65 GA 5159 = elj f0 GA 5159 → elj f65 GA 10349 = elj f0 GA 10349 → elj f65 GA 15539 = elj f0 GA 15539 → elj f65 GA 20729 = elj f0 GA 20729 → LT GT x2.toInt.toNat x3.toInt.toNat f65 → fr L R [(12, 1), (12, 28), (12, 29), (12, 31), (12, 35), (12, 36), (12, 37), (12, 38), (12, 39), (12, 59)] [12, 61, 68, 69, 70, 73, 74, 76, 84] f0 f65 → fr L R [(12, 28), (12, 29), (12, 31), (12, 35), (12, 36), (12, 37), (12, 38), (12, 39)] [12, 61, 68, 69, 70, 73, 74, 76] f54 f65 → lv_has ls 8 [(0, .ref a0), (1, .int x1), (2, .int x2), (3, .int x3), (4, .int z38), (6, .int x6_181), (7, .int x7_181)] → W p l e rm_X12_leastC s m args below meth c H locs 0 0 Q (F0 m 181 ls []) := by
                      intro n181
                      induction n181 with
                      | zero =>
                        intro f65 H locs ls x6_181 x7_181 b66 b67 h hR hX hqkc0 hqkc1 hqkc2 hqkc3 hLT hk hb181 hl
                        exfalso
                        omega
                      | succ n181 ih181 =>
                        intro f65 H locs ls x6_181 x7_181 b66 b67 h hR hX hqkc0 hqkc1 hqkc2 hqkc3 hLT hk hb181 hl
                        have e68 : fld f65 a0 0 = .ref GA := (hb181.efl m_a0 r_a0 rfl).trans e58
                        have e69 : fld f65 a0 22 = .ref GP := (hb181.efl m_a0 r_a0 rfl).trans e59
                        have e70 : fld f65 a0 23 = .ref GL := (hb181.efl m_a0 r_a0 rfl).trans e60
                        have e71 : fld f65 a0 6 = .ref GT := (hb181.efl m_a0 r_a0 rfl).trans e61
                        refine lv_iload F.1 F.2.1 dX12_least_181 (lv_at hl 6 rfl) ?_
                        refine tw_iconst F dX12_least_183 ki_1 (fun z72 hz72 => ?_)
                        refine lv_iload F.1 F.2.1 dX12_least_184 (lv_at hl 4 rfl) ?_
                        refine lv_ishl F.1 F.2.1 dX12_least_186 ?_
                        refine lv_topi (fun z73 _ => ?_)
                        have tbz := tb_i z73
                        refine tw_icmp_ge (tgt := 247) F dX12_least_187 (by decide) (fun b74 => ?_) (fun b74 => ?_)
                        · refine lv_aload_n F.1 F.2.1 dX12_least_247 rfl (lv_at hl 0 rfl) ?_
                          refine tw_iconst F dX12_least_248 ki_0 (fun z75 hz75 => ?_)
                          refine p_12_301 F h m_a0 r_a0 dX12_least_249 (fun f76 H locs e76p hf76 h => ?_)
                          have hR : RBA GA f76 := hR.fm hf76 m_GA r_GA (by decide +kernel)
                          have hX : GZ GP GL f76 := hX.fm hf76 m_GP r_GP m_GL r_GL (by decide +kernel) (by decide +kernel)
                          have hqkc0 : elj f76 GA 5159 = elj f0 GA 5159 := (hf76.eelj m_GA r_GA (by decide +kernel) _).trans hqkc0
                          have hqkc1 : elj f76 GA 10349 = elj f0 GA 10349 := (hf76.eelj m_GA r_GA (by decide +kernel) _).trans hqkc1
                          have hqkc2 : elj f76 GA 15539 = elj f0 GA 15539 := (hf76.eelj m_GA r_GA (by decide +kernel) _).trans hqkc2
                          have hqkc3 : elj f76 GA 20729 = elj f0 GA 20729 := (hf76.eelj m_GA r_GA (by decide +kernel) _).trans hqkc3
                          have hLT : LT GT x2.toInt.toNat x3.toInt.toNat f76 := hLT.fm hf76 m_GT r_GT (by decide +kernel)
                          have hk : fr L R [(12, 1), (12, 28), (12, 29), (12, 31), (12, 35), (12, 36), (12, 37), (12, 38), (12, 39), (12, 59)] [12, 61, 68, 69, 70, 73, 74, 76, 84] f0 f76 := hk.tr hf76 rfl rfl
                          have hb181 : fr L R [(12, 28), (12, 29), (12, 31), (12, 35), (12, 36), (12, 37), (12, 38), (12, 39)] [12, 61, 68, 69, 70, 73, 74, 76] f54 f76 := hb181.tr hf76 rfl rfl
                          have e77 : fld f76 a0 0 = .ref GA := (hf76.efl m_a0 r_a0 rfl).trans e68
                          have e78 : fld f76 a0 22 = .ref GP := (hf76.efl m_a0 r_a0 rfl).trans e69
                          have e79 : fld f76 a0 23 = .ref GL := (hf76.efl m_a0 r_a0 rfl).trans e70
                          have e80 : fld f76 a0 6 = .ref GT := (hf76.efl m_a0 r_a0 rfl).trans e71
                          refine lv_aload_n F.1 F.2.1 dX12_least_252 rfl (lv_at hl 0 rfl) ?_
                          refine lv_iload F.1 F.2.1 dX12_least_253 (lv_at hl 5 rfl) ?_
                          refine p_12_109 F h m_a0 r_a0 dX12_least_255 (fun f81 H locs e81p hf81 h => ?_)
                          have hR : RBA GA f81 := hR.fm hf81 m_GA r_GA (by decide +kernel)
                          have hX : GZ GP GL f81 := hX.fm hf81 m_GP r_GP m_GL r_GL (by decide +kernel) (by decide +kernel)
                          have hqkc0 : elj f81 GA 5159 = elj f0 GA 5159 := (hf81.eelj m_GA r_GA (by decide +kernel) _).trans hqkc0
                          have hqkc1 : elj f81 GA 10349 = elj f0 GA 10349 := (hf81.eelj m_GA r_GA (by decide +kernel) _).trans hqkc1
                          have hqkc2 : elj f81 GA 15539 = elj f0 GA 15539 := (hf81.eelj m_GA r_GA (by decide +kernel) _).trans hqkc2
                          have hqkc3 : elj f81 GA 20729 = elj f0 GA 20729 := (hf81.eelj m_GA r_GA (by decide +kernel) _).trans hqkc3
                          have hLT : LT GT x2.toInt.toNat x3.toInt.toNat f81 := hLT.fm hf81 m_GT r_GT (by decide +kernel)
                          have hk : fr L R [(12, 1), (12, 28), (12, 29), (12, 31), (12, 35), (12, 36), (12, 37), (12, 38), (12, 39), (12, 59)] [12, 61, 68, 69, 70, 73, 74, 76, 84] f0 f81 := hk.tr hf81 rfl rfl
                          have e82 : fld f81 a0 0 = .ref GA := (hf81.efl m_a0 r_a0 rfl).trans e77
                          have e83 : fld f81 a0 22 = .ref GP := (hf81.efl m_a0 r_a0 rfl).trans e78
                          have e84 : fld f81 a0 23 = .ref GL := (hf81.efl m_a0 r_a0 rfl).trans e79
                          have e85 : fld f81 a0 6 = .ref GT := (hf81.efl m_a0 r_a0 rfl).trans e80
                          refine lv_aload_n F.1 F.2.1 dX12_least_258 rfl (lv_at hl 0 rfl) ?_
                          refine lv_iload F.1 F.2.1 dX12_least_259 (lv_at hl 5 rfl) ?_
                          refine tw_Si (As := [.int x6_181]) F hZ h yk_X12_bits mw_1470 mw_1471 (s_X12_bits l D cy L R O f81 x6_181) rfl rfl hl.1 rfl (Nat.le_of_ble_eq_true rfl) ⟨Nat.le_of_ble_eq_true rfl, Nat.le_of_ble_eq_true rfl⟩ ⟨Nat.le_of_ble_eq_true rfl, Nat.le_of_ble_eq_true rfl⟩ dX12_least_261 (fun v87 f86 H locs hp86 h => ?_)
                          obtain rfl := hp86
                          refine tw_Vi (As := [.int v87]) F hZ h yk_X12_gives mw_499 mw_500 mw_501 (s_X12_gives l D cy L R O f81 a0 m_a0 r_a0 v87) rfl rfl m_a0 r_a0 (fun e q => (T_12 e).mp q) rfl hl.1 rfl (Nat.le_of_ble_eq_true rfl) ⟨Nat.le_of_ble_eq_true rfl, Nat.le_of_ble_eq_true rfl⟩ ⟨Nat.le_of_ble_eq_true rfl, Nat.le_of_ble_eq_true rfl⟩ dX12_least_264 (fun v89 f88 H locs hp88 h => ?_)
                          have hf88 := hp88
                          have hR : RBA GA f88 := hR.fm hf88 m_GA r_GA (by decide +kernel)
                          have hX : GZ GP GL f88 := hX.fm hf88 m_GP r_GP m_GL r_GL (by decide +kernel) (by decide +kernel)
                          have hqkc0 : elj f88 GA 5159 = elj f0 GA 5159 := (hf88.eelj m_GA r_GA (by decide +kernel) _).trans hqkc0
                          have hqkc1 : elj f88 GA 10349 = elj f0 GA 10349 := (hf88.eelj m_GA r_GA (by decide +kernel) _).trans hqkc1
                          have hqkc2 : elj f88 GA 15539 = elj f0 GA 15539 := (hf88.eelj m_GA r_GA (by decide +kernel) _).trans hqkc2
                          have hqkc3 : elj f88 GA 20729 = elj f0 GA 20729 := (hf88.eelj m_GA r_GA (by decide +kernel) _).trans hqkc3
                          have hLT : LT GT x2.toInt.toNat x3.toInt.toNat f88 := hLT.fm hf88 m_GT r_GT (by decide +kernel)
                          have hk : fr L R [(12, 1), (12, 28), (12, 29), (12, 31), (12, 35), (12, 36), (12, 37), (12, 38), (12, 39), (12, 59)] [12, 61, 68, 69, 70, 73, 74, 76, 84] f0 f88 := hk.tr hf88 rfl rfl
                          have e90 : fld f88 a0 0 = .ref GA := (hf88.efl m_a0 r_a0 rfl).trans e82
                          have e91 : fld f88 a0 22 = .ref GP := (hf88.efl m_a0 r_a0 rfl).trans e83
                          have e92 : fld f88 a0 23 = .ref GL := (hf88.efl m_a0 r_a0 rfl).trans e84
                          have e93 : fld f88 a0 6 = .ref GT := (hf88.efl m_a0 r_a0 rfl).trans e85
                          exact hret f88 _ _ _ _ v89 dX12_least_267 rfl ⟨hk, hR, hX, hqkc0, hqkc1, hqkc2, hqkc3⟩ h
                        · refine lv_iload F.1 F.2.1 dX12_least_190 (lv_at hl 5 rfl) ?_
                          refine tw_iconst F dX12_least_192 ki_m1 (fun z94 hz94 => ?_)
                          have j_241 : ∀ (f95 : Nat → va_E) (H : Heap) (locs : List Loc) (ls : Array Slot) (x6_241 : Int32), tS D cy A s.heap L R (TT cy L R) f95 s H locs → RBA GA f95 → GZ GP GL f95 → elj f95 GA 5159 = elj f0 GA 5159 → elj f95 GA 10349 = elj f0 GA 10349 → elj f95 GA 15539 = elj f0 GA 15539 → elj f95 GA 20729 = elj f0 GA 20729 → LT GT x2.toInt.toNat x3.toInt.toNat f95 → fr L R [(12, 1), (12, 28), (12, 29), (12, 31), (12, 35), (12, 36), (12, 37), (12, 38), (12, 39), (12, 59)] [12, 61, 68, 69, 70, 73, 74, 76, 84] f0 f95 → fr L R [(12, 28), (12, 29), (12, 31), (12, 35), (12, 36), (12, 37), (12, 38), (12, 39)] [12, 61, 68, 69, 70, 73, 74, 76] f65 f95 → lv_has ls 8 [(0, .ref a0), (1, .int x1), (2, .int x2), (3, .int x3), (4, .int z38), (6, .int x6_241), (7, .int x7_181)] → W p l e rm_X12_leastC s m args below meth c H locs 0 0 Q (F0 m 241 ls []) := by
                            intro f95 H locs ls x6_241 h hR hX hqkc0 hqkc1 hqkc2 hqkc3 hLT hk hb241 hl
                            have hb181 : fr L R [(12, 28), (12, 29), (12, 31), (12, 35), (12, 36), (12, 37), (12, 38), (12, 39)] [12, 61, 68, 69, 70, 73, 74, 76] f54 f95 := hb181.tr hb241 (by decide +kernel) (by decide +kernel)
                            have e96 : fld f95 a0 0 = .ref GA := (hb241.efl m_a0 r_a0 rfl).trans e68
                            have e97 : fld f95 a0 22 = .ref GP := (hb241.efl m_a0 r_a0 rfl).trans e69
                            have e98 : fld f95 a0 23 = .ref GL := (hb241.efl m_a0 r_a0 rfl).trans e70
                            have e99 : fld f95 a0 6 = .ref GT := (hb241.efl m_a0 r_a0 rfl).trans e71
                            refine tu_iinc F dX12_least_241 hl (k := 6) rfl (by decide) ki_1 (by omega) (fun z100 ls hz100 hl => ?_)
                            have hl : lv_has ls 8 [(7, .int z100), (0, .ref a0), (1, .int x1), (2, .int x2), (3, .int x3), (4, .int z38), (6, .int x6_241)] := hl
                            refine lv_goto (tgt := 181) F.1 F.2.1 dX12_least_244 (by decide) ?_
                            exact ih181 f95 _ _ _ x6_241 z100 (by omega) (by omega) h hR hX hqkc0 hqkc1 hqkc2 hqkc3 hLT hk hb181 (lv_sub hl [1, 2, 3, 4, 5, 6, 0] rfl)
                          have hb241 : fr L R [(12, 28), (12, 29), (12, 31), (12, 35), (12, 36), (12, 37), (12, 38), (12, 39)] [12, 61, 68, 69, 70, 73, 74, 76] f65 f65 := fr.rf
                          have j_212 : ∀ (H : Heap) (locs : List Loc) (ls : Array Slot), tS D cy A s.heap L R (TT cy L R) f65 s H locs → lv_has ls 8 [(0, .ref a0), (1, .int x1), (2, .int x2), (3, .int x3), (4, .int z38), (6, .int x6_181), (7, .int x7_181)] → W p l e rm_X12_leastC s m args below meth c H locs 0 0 Q (F0 m 212 ls []) := by
                            intro H locs ls h hl
                            refine lv_aload_n F.1 F.2.1 dX12_least_212 rfl (lv_at hl 0 rfl) ?_
                            refine tw_iconst F dX12_least_213 ki_1 (fun z101 hz101 => ?_)
                            refine lv_iload F.1 F.2.1 dX12_least_214 (lv_at hl 4 rfl) ?_
                            refine lv_ishl F.1 F.2.1 dX12_least_216 ?_
                            refine lv_topi (fun z102 _ => ?_)
                            refine tw_iconst F dX12_least_217 ki_1 (fun z103 hz103 => ?_)
                            refine lv_isub F.1 F.2.1 dX12_least_218 ?_
                            refine lv_topi (fun z104 _ => ?_)
                            refine lv_iload F.1 F.2.1 dX12_least_219 (lv_at hl 6 rfl) ?_
                            refine tw_iconst F dX12_least_221 ki_m1 (fun z105 hz105 => ?_)
                            refine lv_ixor F.1 F.2.1 dX12_least_222 ?_
                            refine lv_topi (fun z106 _ => ?_)
                            refine lv_iand F.1 F.2.1 dX12_least_223 ?_
                            refine lv_topi (fun z107 _ => ?_)
                            refine p_12_301 F h m_a0 r_a0 dX12_least_224 (fun f108 H locs e108p hf108 h => ?_)
                            have hR : RBA GA f108 := hR.fm hf108 m_GA r_GA (by decide +kernel)
                            have hX : GZ GP GL f108 := hX.fm hf108 m_GP r_GP m_GL r_GL (by decide +kernel) (by decide +kernel)
                            have hqkc0 : elj f108 GA 5159 = elj f0 GA 5159 := (hf108.eelj m_GA r_GA (by decide +kernel) _).trans hqkc0
                            have hqkc1 : elj f108 GA 10349 = elj f0 GA 10349 := (hf108.eelj m_GA r_GA (by decide +kernel) _).trans hqkc1
                            have hqkc2 : elj f108 GA 15539 = elj f0 GA 15539 := (hf108.eelj m_GA r_GA (by decide +kernel) _).trans hqkc2
                            have hqkc3 : elj f108 GA 20729 = elj f0 GA 20729 := (hf108.eelj m_GA r_GA (by decide +kernel) _).trans hqkc3
                            have hLT : LT GT x2.toInt.toNat x3.toInt.toNat f108 := hLT.fm hf108 m_GT r_GT (by decide +kernel)
                            have hk : fr L R [(12, 1), (12, 28), (12, 29), (12, 31), (12, 35), (12, 36), (12, 37), (12, 38), (12, 39), (12, 59)] [12, 61, 68, 69, 70, 73, 74, 76, 84] f0 f108 := hk.tr hf108 rfl rfl
                            have hb181 : fr L R [(12, 28), (12, 29), (12, 31), (12, 35), (12, 36), (12, 37), (12, 38), (12, 39)] [12, 61, 68, 69, 70, 73, 74, 76] f54 f108 := hb181.tr hf108 rfl rfl
                            have hb241 : fr L R [(12, 28), (12, 29), (12, 31), (12, 35), (12, 36), (12, 37), (12, 38), (12, 39)] [12, 61, 68, 69, 70, 73, 74, 76] f65 f108 := hb241.tr hf108 rfl rfl
                            have e109 : fld f108 a0 0 = .ref GA := (hf108.efl m_a0 r_a0 rfl).trans e68
                            have e110 : fld f108 a0 22 = .ref GP := (hf108.efl m_a0 r_a0 rfl).trans e69
                            have e111 : fld f108 a0 23 = .ref GL := (hf108.efl m_a0 r_a0 rfl).trans e70
                            have e112 : fld f108 a0 6 = .ref GT := (hf108.efl m_a0 r_a0 rfl).trans e71
                            refine lv_aload_n F.1 F.2.1 dX12_least_227 rfl (lv_at hl 0 rfl) ?_
                            refine lv_iload_n F.1 F.2.1 dX12_least_228 rfl (lv_at hl 1 rfl) ?_
                            refine lv_iload_n F.1 F.2.1 dX12_least_229 rfl (lv_at hl 2 rfl) ?_
                            refine lv_iload_n F.1 F.2.1 dX12_least_230 rfl (lv_at hl 3 rfl) ?_
                            refine tw_Vi (As := [.int x1, .int x2, .int x3]) F hZ h yk_X12_saysWhole mw_1473 mw_1474 mw_1475 (s_X12_saysWhole l D cy L R O f108 a0 m_a0 r_a0 x1 ⟨by omega, by omega⟩ x2 ⟨by omega, by omega⟩ x3 ⟨by omega, by omega⟩ GA m_GA r_GA e109 GP m_GP r_GP e110 GL m_GL r_GL e111 GT m_GT r_GT e112 hX hR hLT) rfl rfl m_a0 r_a0 (fun e q => (T_12 e).mp q) rfl hl.1 rfl (Nat.le_of_ble_eq_true rfl) ⟨Nat.le_of_ble_eq_true rfl, Nat.le_of_ble_eq_true rfl⟩ ⟨Nat.le_of_ble_eq_true rfl, Nat.le_of_ble_eq_true rfl⟩ dX12_least_231 (fun v114 f113 H locs hp113 h => ?_)
                            obtain ⟨hf113, hv114a, hv114b, hv114p0, hv114p1⟩ := hp113
                            have hR : RBA GA f113 := hR.kw hv114p1 (Or.inl (by omega))
                            have hX : GZ GP GL f113 := hv114p0
                            have hqkc0 : elj f113 GA 5159 = elj f0 GA 5159 := (hv114p1 _ (by omega)).trans hqkc0
                            have hqkc1 : elj f113 GA 10349 = elj f0 GA 10349 := (hv114p1 _ (by omega)).trans hqkc1
                            have hqkc2 : elj f113 GA 15539 = elj f0 GA 15539 := (hv114p1 _ (by omega)).trans hqkc2
                            have hqkc3 : elj f113 GA 20729 = elj f0 GA 20729 := (hv114p1 _ (by omega)).trans hqkc3
                            have hLT : LT GT x2.toInt.toNat x3.toInt.toNat f113 := hLT.fm hf113 m_GT r_GT (by decide +kernel)
                            have hk : fr L R [(12, 1), (12, 28), (12, 29), (12, 31), (12, 35), (12, 36), (12, 37), (12, 38), (12, 39), (12, 59)] [12, 61, 68, 69, 70, 73, 74, 76, 84] f0 f113 := hk.tr hf113 (by decide +kernel) (by decide +kernel)
                            have hb181 : fr L R [(12, 28), (12, 29), (12, 31), (12, 35), (12, 36), (12, 37), (12, 38), (12, 39)] [12, 61, 68, 69, 70, 73, 74, 76] f54 f113 := hb181.tr hf113 (by decide +kernel) (by decide +kernel)
                            have hb241 : fr L R [(12, 28), (12, 29), (12, 31), (12, 35), (12, 36), (12, 37), (12, 38), (12, 39)] [12, 61, 68, 69, 70, 73, 74, 76] f65 f113 := hb241.tr hf113 (by decide +kernel) (by decide +kernel)
                            have e115 : fld f113 a0 0 = .ref GA := (hf113.efl m_a0 r_a0 rfl).trans e109
                            have e116 : fld f113 a0 22 = .ref GP := (hf113.efl m_a0 r_a0 rfl).trans e110
                            have e117 : fld f113 a0 23 = .ref GL := (hf113.efl m_a0 r_a0 rfl).trans e111
                            have e118 : fld f113 a0 6 = .ref GT := (hf113.efl m_a0 r_a0 rfl).trans e112
                            refine tw_if_eq (tgt := 241) F dX12_least_234 (by decide) (fun b119 => ?_) (fun b119 => ?_)
                            · exact j_241 f113 _ _ _ x6_181 h hR hX hqkc0 hqkc1 hqkc2 hqkc3 hLT hk hb241 (lv_sub hl [0, 1, 2, 3, 4, 5, 6] rfl)
                            · refine lv_iload F.1 F.2.1 dX12_least_237 (lv_at hl 6 rfl) ?_
                              refine lv_istore (lv' := [(6, .int x7_181), (0, .ref a0), (1, .int x1), (2, .int x2), (3, .int x3), (4, .int z38), (7, .int x7_181)]) F.1 F.2.1 dX12_least_239 hl (by decide) rfl (fun ls hl => ?_)
                              exact j_241 f113 _ _ _ x7_181 h hR hX hqkc0 hqkc1 hqkc2 hqkc3 hLT hk hb241 (lv_sub hl [1, 2, 3, 4, 5, 0, 6] rfl)
                          refine tw_icmp_eq (tgt := 212) F dX12_least_193 (by decide) (fun b120 => ?_) (fun b120 => ?_)
                          · exact j_212 _ _ _ h (lv_sub hl [0, 1, 2, 3, 4, 5, 6] rfl)
                          · refine lv_iload F.1 F.2.1 dX12_least_196 (lv_at hl 6 rfl) ?_
                            refine tw_Si (As := [.int x7_181]) F hZ h yk_X12_bits mw_1470 mw_1471 (s_X12_bits l D cy L R O f65 x7_181) rfl rfl hl.1 rfl (Nat.le_of_ble_eq_true rfl) ⟨Nat.le_of_ble_eq_true rfl, Nat.le_of_ble_eq_true rfl⟩ ⟨Nat.le_of_ble_eq_true rfl, Nat.le_of_ble_eq_true rfl⟩ dX12_least_198 (fun v122 f121 H locs hp121 h => ?_)
                            obtain rfl := hp121
                            refine lv_iload F.1 F.2.1 dX12_least_201 (lv_at hl 5 rfl) ?_
                            refine tw_Si (As := [.int x6_181]) F hZ h yk_X12_bits mw_1470 mw_1471 (s_X12_bits l D cy L R O f65 x6_181) rfl rfl hl.1 rfl (Nat.le_of_ble_eq_true rfl) ⟨Nat.le_of_ble_eq_true rfl, Nat.le_of_ble_eq_true rfl⟩ ⟨Nat.le_of_ble_eq_true rfl, Nat.le_of_ble_eq_true rfl⟩ dX12_least_203 (fun v124 f123 H locs hp123 h => ?_)
                            obtain rfl := hp123
                            refine tw_icmp_lt (tgt := 212) F dX12_least_206 (by decide) (fun b125 => ?_) (fun b125 => ?_)
                            · exact j_212 _ _ _ h (lv_sub hl [0, 1, 2, 3, 4, 5, 6] rfl)
                            · refine lv_goto (tgt := 241) F.1 F.2.1 dX12_least_209 (by decide) ?_
                              exact j_241 f65 _ _ _ x6_181 h hR hX hqkc0 hqkc1 hqkc2 hqkc3 hLT hk hb241 (lv_sub hl [0, 1, 2, 3, 4, 5, 6] rfl)
                    have hb181 : fr L R [(12, 28), (12, 29), (12, 31), (12, 35), (12, 36), (12, 37), (12, 38), (12, 39)] [12, 61, 68, 69, 70, 73, 74, 76] f54 f54 := fr.rf
                    exact j_181 (((2147483647 - z64.toInt)).toNat + 1) f54 _ _ _ z63 z64 (by omega) (by omega) h hR hX hqkc0 hqkc1 hqkc2 hqkc3 hLT hk hb181 (lv_sub hl [2, 3, 4, 5, 6, 1, 0] rfl)
                  · refine lv_aload_n F.1 F.2.1 dX12_least_100 rfl (lv_at hl 0 rfl) ?_
                    refine lv_iload_n F.1 F.2.1 dX12_least_101 rfl (lv_at hl 2 rfl) ?_
                    refine lv_iload F.1 F.2.1 dX12_least_102 (lv_at hl 5 rfl) ?_
                    refine tw_Vv (As := [.int x2, .int x6_94]) F hZ h yk_X12_hearsOf mw_1191 mw_1192 mw_1193 (s_X12_hearsOf l D cy L R O f54 a0 m_a0 r_a0 x2 ⟨by omega, by omega⟩ x6_94 ⟨by omega, by omega⟩ GA m_GA r_GA e58 GP m_GP r_GP e59 GL m_GL r_GL e60 GT m_GT r_GT e61 (hLT _ (by omega))) rfl rfl m_a0 r_a0 (fun e q => (T_12 e).mp q) rfl hl.1 rfl (Nat.le_of_ble_eq_true rfl) ⟨Nat.le_of_ble_eq_true rfl, Nat.le_of_ble_eq_true rfl⟩ ⟨Nat.le_of_ble_eq_true rfl, Nat.le_of_ble_eq_true rfl⟩ dX12_least_104 (fun f126 H locs hp126 h => ?_)
                    have hf126 := hp126
                    have hR : RBA GA f126 := hR.fm hf126 m_GA r_GA (by decide +kernel)
                    have hX : GZ GP GL f126 := hX.fm hf126 m_GP r_GP m_GL r_GL (by decide +kernel) (by decide +kernel)
                    have hqkc0 : elj f126 GA 5159 = elj f0 GA 5159 := (hf126.eelj m_GA r_GA (by decide +kernel) _).trans hqkc0
                    have hqkc1 : elj f126 GA 10349 = elj f0 GA 10349 := (hf126.eelj m_GA r_GA (by decide +kernel) _).trans hqkc1
                    have hqkc2 : elj f126 GA 15539 = elj f0 GA 15539 := (hf126.eelj m_GA r_GA (by decide +kernel) _).trans hqkc2
                    have hqkc3 : elj f126 GA 20729 = elj f0 GA 20729 := (hf126.eelj m_GA r_GA (by decide +kernel) _).trans hqkc3
                    have hLT : LT GT x2.toInt.toNat x3.toInt.toNat f126 := hLT.fm hf126 m_GT r_GT (by decide +kernel)
                    have hRB : RB GA 22410 f126 := hRB.fm hf126 m_GA r_GA (by decide +kernel)
                    have hk : fr L R [(12, 1), (12, 28), (12, 29), (12, 31), (12, 35), (12, 36), (12, 37), (12, 38), (12, 39), (12, 59)] [12, 61, 68, 69, 70, 73, 74, 76, 84] f0 f126 := hk.tr hf126 rfl rfl
                    have hb94 : fr L R [(12, 28), (12, 29), (12, 35), (12, 36), (12, 37), (12, 38), (12, 39)] [12, 61, 68, 69, 70, 73, 74, 76, 84] f47 f126 := hb94.tr hf126 rfl rfl
                    have e128 : fld f126 a0 0 = .ref GA := (hf126.efl m_a0 r_a0 rfl).trans e58
                    have e129 : fld f126 a0 22 = .ref GP := (hf126.efl m_a0 r_a0 rfl).trans e59
                    have e130 : fld f126 a0 23 = .ref GL := (hf126.efl m_a0 r_a0 rfl).trans e60
                    have e131 : fld f126 a0 6 = .ref GT := (hf126.efl m_a0 r_a0 rfl).trans e61
                    refine lv_aload_n F.1 F.2.1 dX12_least_107 rfl (lv_at hl 0 rfl) ?_
                    refine tw_sipush F dX12_least_108 ks_22410 (fun z132 hz132 => ?_)
                    refine tw_Vv (As := [.int z132]) F hZ h yk_X12_answers0 mw_1057 mw_1058 mw_1059 (s_X12_answers0 l D cy L R O f126 a0 m_a0 r_a0 z132 ⟨by omega, by omega⟩ GA m_GA r_GA e128 GP m_GP r_GP e129 GL m_GL r_GL e130 GT m_GT r_GT e131 (isB_e isB_w (by omega)) (by rw [show z132.toInt.toNat = 22410 by omega]; exact hRB) hX) rfl rfl m_a0 r_a0 (fun e q => (T_12 e).mp q) rfl hl.1 rfl (Nat.le_of_ble_eq_true rfl) ⟨Nat.le_of_ble_eq_true rfl, Nat.le_of_ble_eq_true rfl⟩ ⟨Nat.le_of_ble_eq_true rfl, Nat.le_of_ble_eq_true rfl⟩ dX12_least_111 (fun f133 H locs hp133 h => ?_)
                    obtain ⟨hf133, hv134p0, hv134p1⟩ := hp133
                    have hR : RBA GA f133 := hR.kw hv134p1 (Or.inl (by omega))
                    have hX : GZ GP GL f133 := hv134p0
                    have hqkc0 : elj f133 GA 5159 = elj f0 GA 5159 := (hv134p1 _ (by omega)).trans hqkc0
                    have hqkc1 : elj f133 GA 10349 = elj f0 GA 10349 := (hv134p1 _ (by omega)).trans hqkc1
                    have hqkc2 : elj f133 GA 15539 = elj f0 GA 15539 := (hv134p1 _ (by omega)).trans hqkc2
                    have hqkc3 : elj f133 GA 20729 = elj f0 GA 20729 := (hv134p1 _ (by omega)).trans hqkc3
                    have hLT : LT GT x2.toInt.toNat x3.toInt.toNat f133 := hLT.fm hf133 m_GT r_GT (by decide +kernel)
                    have hRB : RB GA 22410 f133 := hRB.kw hv134p1 (by omega)
                    have hk : fr L R [(12, 1), (12, 28), (12, 29), (12, 31), (12, 35), (12, 36), (12, 37), (12, 38), (12, 39), (12, 59)] [12, 61, 68, 69, 70, 73, 74, 76, 84] f0 f133 := hk.tr hf133 (by decide +kernel) (by decide +kernel)
                    have hb94 : fr L R [(12, 28), (12, 29), (12, 35), (12, 36), (12, 37), (12, 38), (12, 39)] [12, 61, 68, 69, 70, 73, 74, 76, 84] f47 f133 := hb94.tr hf133 (by decide +kernel) (by decide +kernel)
                    have e135 : fld f133 a0 0 = .ref GA := (hf133.efl m_a0 r_a0 rfl).trans e128
                    have e136 : fld f133 a0 22 = .ref GP := (hf133.efl m_a0 r_a0 rfl).trans e129
                    have e137 : fld f133 a0 23 = .ref GL := (hf133.efl m_a0 r_a0 rfl).trans e130
                    have e138 : fld f133 a0 6 = .ref GT := (hf133.efl m_a0 r_a0 rfl).trans e131
                    refine lv_aload_n F.1 F.2.1 dX12_least_114 rfl (lv_at hl 0 rfl) ?_
                    refine g_12_106 F h m_a0 r_a0 dX12_least_115 (fun o139 m_o139 r_o139 ho139 => ?_)
                    refine tw_bipush F dX12_least_118 kb_13 (fun z140 hz140 => ?_)
                    refine lv_iload F.1 F.2.1 dX12_least_120 (lv_at hl 5 rfl) ?_
                    refine tu_imull F dX12_least_122 hz140 (by omega) (fun z141 hz141 => ?_)
                    refine lv_aload_n F.1 F.2.1 dX12_least_123 rfl (lv_at hl 0 rfl) ?_
                    refine g_12_324 F h m_a0 r_a0 dX12_least_124 (fun v142 hv142 hv142a hv142b => ?_)
                    refine tw_i2l F dX12_least_127 (fun z143 hz143 => ?_)
                    refine st_84 F h m_o139 r_o139 (by omega) dX12_least_128 (fun f144 H locs hf144 h => ?_)
                    have hR : RBA GA f144 := hR.fm hf144 m_GA r_GA (by decide +kernel)
                    have hX : GZ GP GL f144 := hX.fm hf144 m_GP r_GP m_GL r_GL (by decide +kernel) (by decide +kernel)
                    have hqkc0 : elj f144 GA 5159 = elj f0 GA 5159 := (hf144.eelj m_GA r_GA (by decide +kernel) _).trans hqkc0
                    have hqkc1 : elj f144 GA 10349 = elj f0 GA 10349 := (hf144.eelj m_GA r_GA (by decide +kernel) _).trans hqkc1
                    have hqkc2 : elj f144 GA 15539 = elj f0 GA 15539 := (hf144.eelj m_GA r_GA (by decide +kernel) _).trans hqkc2
                    have hqkc3 : elj f144 GA 20729 = elj f0 GA 20729 := (hf144.eelj m_GA r_GA (by decide +kernel) _).trans hqkc3
                    have hLT : LT GT x2.toInt.toNat x3.toInt.toNat f144 := hLT.fm hf144 m_GT r_GT (by decide +kernel)
                    have hRB : RB GA 22410 f144 := hRB.fm hf144 m_GA r_GA (by decide +kernel)
                    have hk : fr L R [(12, 1), (12, 28), (12, 29), (12, 31), (12, 35), (12, 36), (12, 37), (12, 38), (12, 39), (12, 59)] [12, 61, 68, 69, 70, 73, 74, 76, 84] f0 f144 := hk.tr hf144 rfl rfl
                    have hb94 : fr L R [(12, 28), (12, 29), (12, 35), (12, 36), (12, 37), (12, 38), (12, 39)] [12, 61, 68, 69, 70, 73, 74, 76, 84] f47 f144 := hb94.tr hf144 rfl rfl
                    have e145 : fld f144 a0 0 = .ref GA := (hf144.efl m_a0 r_a0 rfl).trans e135
                    have e146 : fld f144 a0 22 = .ref GP := (hf144.efl m_a0 r_a0 rfl).trans e136
                    have e147 : fld f144 a0 23 = .ref GL := (hf144.efl m_a0 r_a0 rfl).trans e137
                    have e148 : fld f144 a0 6 = .ref GT := (hf144.efl m_a0 r_a0 rfl).trans e138
                    have e149 : fi f144 a0 29 = fi f133 a0 29 := hf144.efi m_a0 r_a0 rfl
                    refine tw_iconst F dX12_least_129 ki_0 (fun z150 hz150 => ?_)
                    refine lv_istore (lv' := [(7, .int z150), (0, .ref a0), (1, .int x1), (2, .int x2), (3, .int x3), (4, .int z38), (6, .int x6_94)]) F.1 F.2.1 dX12_least_130 hl (by decide) rfl (fun ls hl => ?_)
                    have j_132 : ∀ (n132 : Nat) (f151 : Nat → va_E) (H : Heap) (locs : List Loc) (ls : Array Slot) (x7_132 : Int32), 0 ≤ x7_132.toInt → x7_132.toInt ≤ 12 → ((12 - x7_132.toInt)).toNat < n132 → tS D cy A s.heap L R (TT cy L R) f151 s H locs → RBA GA f151 → GZ GP GL f151 → elj f151 GA 5159 = elj f0 GA 5159 → elj f151 GA 10349 = elj f0 GA 10349 → elj f151 GA 15539 = elj f0 GA 15539 → elj f151 GA 20729 = elj f0 GA 20729 → LT GT x2.toInt.toNat x3.toInt.toNat f151 → RB GA 22410 f151 → fr L R [(12, 1), (12, 28), (12, 29), (12, 31), (12, 35), (12, 36), (12, 37), (12, 38), (12, 39), (12, 59)] [12, 61, 68, 69, 70, 73, 74, 76, 84] f0 f151 → fr L R [] [84] f144 f151 → lv_has ls 8 [(0, .ref a0), (1, .int x1), (2, .int x2), (3, .int x3), (4, .int z38), (6, .int x6_94), (7, .int x7_132)] → W p l e rm_X12_leastC s m args below meth c H locs 0 0 Q (F0 m 132 ls []) := by
                      intro n132
                      induction n132 with
                      | zero =>
                        intro f151 H locs ls x7_132 b152 b153 b154 h hR hX hqkc0 hqkc1 hqkc2 hqkc3 hLT hRB hk hb132 hl
                        exfalso
                        omega
                      | succ n132 ih132 =>
                        intro f151 H locs ls x7_132 b152 b153 b154 h hR hX hqkc0 hqkc1 hqkc2 hqkc3 hLT hRB hk hb132 hl
                        have hb94 : fr L R [(12, 28), (12, 29), (12, 35), (12, 36), (12, 37), (12, 38), (12, 39)] [12, 61, 68, 69, 70, 73, 74, 76, 84] f47 f151 := hb94.tr hb132 rfl rfl
                        have e155 : fld f151 a0 0 = .ref GA := (hb132.efl m_a0 r_a0 rfl).trans e145
                        have e156 : fld f151 a0 22 = .ref GP := (hb132.efl m_a0 r_a0 rfl).trans e146
                        have e157 : fld f151 a0 23 = .ref GL := (hb132.efl m_a0 r_a0 rfl).trans e147
                        have e158 : fld f151 a0 6 = .ref GT := (hb132.efl m_a0 r_a0 rfl).trans e148
                        have e159 : fi f151 a0 29 = fi f144 a0 29 := hb132.efi m_a0 r_a0 rfl
                        refine lv_iload F.1 F.2.1 dX12_least_132 (lv_at hl 6 rfl) ?_
                        refine lv_aload_n F.1 F.2.1 dX12_least_134 rfl (lv_at hl 0 rfl) ?_
                        refine g_12_324 F h m_a0 r_a0 dX12_least_135 (fun v160 hv160 hv160a hv160b => ?_)
                        refine tw_icmp_ge (tgt := 169) F dX12_least_138 (by decide) (fun b161 => ?_) (fun b161 => ?_)
                        · refine tu_iinc F dX12_least_169 hl (k := 5) rfl (by decide) ki_1 (by omega) (fun z162 ls hz162 hl => ?_)
                          have hl : lv_has ls 8 [(6, .int z162), (0, .ref a0), (1, .int x1), (2, .int x2), (3, .int x3), (4, .int z38), (7, .int x7_132)] := hl
                          refine lv_goto (tgt := 94) F.1 F.2.1 dX12_least_172 (by decide) ?_
                          exact ih94 f151 _ _ _ z162 (by omega) (by omega) (by omega) h hR hX hqkc0 hqkc1 hqkc2 hqkc3 hLT hRB hk hb94 (lv_sub hl [1, 2, 3, 4, 5, 0] rfl)
                        · refine lv_aload_n F.1 F.2.1 dX12_least_141 rfl (lv_at hl 0 rfl) ?_
                          refine g_12_106 F h m_a0 r_a0 dX12_least_142 (fun o163 m_o163 r_o163 ho163 => ?_)
                          refine tw_bipush F dX12_least_145 kb_13 (fun z164 hz164 => ?_)
                          refine lv_iload F.1 F.2.1 dX12_least_147 (lv_at hl 5 rfl) ?_
                          refine tu_imull F dX12_least_149 hz164 (by omega) (fun z165 hz165 => ?_)
                          refine tw_iconst F dX12_least_150 ki_1 (fun z166 hz166 => ?_)
                          refine tu_iadd F dX12_least_151 (by omega) (fun z167 hz167 => ?_)
                          refine lv_iload F.1 F.2.1 dX12_least_152 (lv_at hl 6 rfl) ?_
                          refine tu_iadd F dX12_least_154 (by omega) (fun z168 hz168 => ?_)
                          refine lv_aload_n F.1 F.2.1 dX12_least_155 rfl (lv_at hl 0 rfl) ?_
                          refine g_12_63 F h m_a0 r_a0 dX12_least_156 (fun o169 m_o169 r_o169 ho169 => ?_)
                          refine lv_iload F.1 F.2.1 dX12_least_159 (lv_at hl 6 rfl) ?_
                          refine ld_74 F h m_o169 r_o169 (by omega) dX12_least_161 (fun v170 => ?_)
                          refine st_84 F h m_o163 r_o163 (by omega) dX12_least_162 (fun f171 H locs hf171 h => ?_)
                          have hR : RBA GA f171 := hR.fm hf171 m_GA r_GA (by decide +kernel)
                          have hX : GZ GP GL f171 := hX.fm hf171 m_GP r_GP m_GL r_GL (by decide +kernel) (by decide +kernel)
                          have hqkc0 : elj f171 GA 5159 = elj f0 GA 5159 := (hf171.eelj m_GA r_GA (by decide +kernel) _).trans hqkc0
                          have hqkc1 : elj f171 GA 10349 = elj f0 GA 10349 := (hf171.eelj m_GA r_GA (by decide +kernel) _).trans hqkc1
                          have hqkc2 : elj f171 GA 15539 = elj f0 GA 15539 := (hf171.eelj m_GA r_GA (by decide +kernel) _).trans hqkc2
                          have hqkc3 : elj f171 GA 20729 = elj f0 GA 20729 := (hf171.eelj m_GA r_GA (by decide +kernel) _).trans hqkc3
                          have hLT : LT GT x2.toInt.toNat x3.toInt.toNat f171 := hLT.fm hf171 m_GT r_GT (by decide +kernel)
                          have hRB : RB GA 22410 f171 := hRB.fm hf171 m_GA r_GA (by decide +kernel)
                          have hk : fr L R [(12, 1), (12, 28), (12, 29), (12, 31), (12, 35), (12, 36), (12, 37), (12, 38), (12, 39), (12, 59)] [12, 61, 68, 69, 70, 73, 74, 76, 84] f0 f171 := hk.tr hf171 rfl rfl
                          have hb94 : fr L R [(12, 28), (12, 29), (12, 35), (12, 36), (12, 37), (12, 38), (12, 39)] [12, 61, 68, 69, 70, 73, 74, 76, 84] f47 f171 := hb94.tr hf171 rfl rfl
                          have hb132 : fr L R [] [84] f144 f171 := hb132.tr hf171 rfl rfl
                          have e172 : fld f171 a0 0 = .ref GA := (hf171.efl m_a0 r_a0 rfl).trans e155
                          have e173 : fld f171 a0 22 = .ref GP := (hf171.efl m_a0 r_a0 rfl).trans e156
                          have e174 : fld f171 a0 23 = .ref GL := (hf171.efl m_a0 r_a0 rfl).trans e157
                          have e175 : fld f171 a0 6 = .ref GT := (hf171.efl m_a0 r_a0 rfl).trans e158
                          have e176 : fi f171 a0 29 = fi f151 a0 29 := hf171.efi m_a0 r_a0 rfl
                          refine tu_iinc F dX12_least_163 hl (k := 6) rfl (by decide) ki_1 (by omega) (fun z177 ls hz177 hl => ?_)
                          have hl : lv_has ls 8 [(7, .int z177), (0, .ref a0), (1, .int x1), (2, .int x2), (3, .int x3), (4, .int z38), (6, .int x6_94)] := hl
                          refine lv_goto (tgt := 132) F.1 F.2.1 dX12_least_166 (by decide) ?_
                          exact ih132 f171 _ _ _ z177 (by omega) (by omega) (by omega) h hR hX hqkc0 hqkc1 hqkc2 hqkc3 hLT hRB hk hb132 (lv_sub hl [1, 2, 3, 4, 5, 6, 0] rfl)
                    have hb132 : fr L R [] [84] f144 f144 := fr.rf
                    exact j_132 (((12 - z150.toInt)).toNat + 1) f144 _ _ _ z150 (by omega) (by omega) (by omega) h hR hX hqkc0 hqkc1 hqkc2 hqkc3 hLT hRB hk hb132 (lv_sub hl [1, 2, 3, 4, 5, 6, 0] rfl)
              have hb94 : fr L R [(12, 28), (12, 29), (12, 35), (12, 36), (12, 37), (12, 38), (12, 39)] [12, 61, 68, 69, 70, 73, 74, 76, 84] f47 f47 := fr.rf
              exact j_94 (((15 - z53.toInt)).toNat + 1) f47 _ _ _ z53 (by omega) (by omega) (by omega) h hR hX hqkc0 hqkc1 hqkc2 hqkc3 hLT hRB hk hb94 (lv_sub hl [3, 4, 5, 6, 2, 0] rfl)
            · refine lv_aload_n F.1 F.2.1 dX12_least_76 rfl (lv_at hl 2 rfl) ?_
              refine lv_iload F.1 F.2.1 dX12_least_77 (lv_at hl 0 rfl) ?_
              refine tw_Vi (As := [.int v44]) F hZ h yk_X12_refuse mw_452 mw_453 mw_454 (s_X12_refuse l D cy L R O f0 a0 m_a0 r_a0 v44 ⟨by omega, by omega⟩) rfl rfl m_a0 r_a0 (fun e q => (T_12 e).mp q) rfl hl.1 rfl (Nat.le_of_ble_eq_true rfl) ⟨Nat.le_of_ble_eq_true rfl, Nat.le_of_ble_eq_true rfl⟩ ⟨Nat.le_of_ble_eq_true rfl, Nat.le_of_ble_eq_true rfl⟩ dX12_least_79 (fun v179 f178 H locs hp178 h => ?_)
              obtain ⟨hf178, hv179a, hv179b⟩ := hp178
              have hR : RBA GA f178 := hR.fm hf178 m_GA r_GA (by decide +kernel)
              have hX : GZ GP GL f178 := hX.fm hf178 m_GP r_GP m_GL r_GL (by decide +kernel) (by decide +kernel)
              have hqkc0 : elj f178 GA 5159 = elj f0 GA 5159 := (hf178.eelj m_GA r_GA (by decide +kernel) _).trans hqkc0
              have hqkc1 : elj f178 GA 10349 = elj f0 GA 10349 := (hf178.eelj m_GA r_GA (by decide +kernel) _).trans hqkc1
              have hqkc2 : elj f178 GA 15539 = elj f0 GA 15539 := (hf178.eelj m_GA r_GA (by decide +kernel) _).trans hqkc2
              have hqkc3 : elj f178 GA 20729 = elj f0 GA 20729 := (hf178.eelj m_GA r_GA (by decide +kernel) _).trans hqkc3
              have hk : fr L R [(12, 1), (12, 28), (12, 29), (12, 31), (12, 35), (12, 36), (12, 37), (12, 38), (12, 39), (12, 59)] [12, 61, 68, 69, 70, 73, 74, 76, 84] f0 f178 := hk.tr hf178 rfl rfl
              have e180 : fld f178 a0 0 = .ref GA := (hf178.efl m_a0 r_a0 rfl).trans t_GA
              have e181 : fld f178 a0 22 = .ref GP := (hf178.efl m_a0 r_a0 rfl).trans t_GP
              have e182 : fld f178 a0 23 = .ref GL := (hf178.efl m_a0 r_a0 rfl).trans t_GL
              have e183 : fld f178 a0 6 = .ref GT := (hf178.efl m_a0 r_a0 rfl).trans t_GT
              exact hret f178 _ _ _ _ v179 dX12_least_82 rfl ⟨hk, hR, hX, hqkc0, hqkc1, hqkc2, hqkc3⟩ h
          · refine lv_aload_n F.1 F.2.1 dX12_least_54 rfl (lv_at hl 1 rfl) ?_
            refine tw_iconst F dX12_least_55 ki_4 (fun z184 hz184 => ?_)
            refine tw_Vi (As := [.int z184]) F hZ h yk_X12_refuse mw_452 mw_453 mw_454 (s_X12_refuse l D cy L R O f0 a0 m_a0 r_a0 z184 ⟨by omega, by omega⟩) rfl rfl m_a0 r_a0 (fun e q => (T_12 e).mp q) rfl hl.1 rfl (Nat.le_of_ble_eq_true rfl) ⟨Nat.le_of_ble_eq_true rfl, Nat.le_of_ble_eq_true rfl⟩ ⟨Nat.le_of_ble_eq_true rfl, Nat.le_of_ble_eq_true rfl⟩ dX12_least_56 (fun v186 f185 H locs hp185 h => ?_)
            obtain ⟨hf185, hv186a, hv186b⟩ := hp185
            have hR : RBA GA f185 := hR.fm hf185 m_GA r_GA (by decide +kernel)
            have hX : GZ GP GL f185 := hX.fm hf185 m_GP r_GP m_GL r_GL (by decide +kernel) (by decide +kernel)
            have hqkc0 : elj f185 GA 5159 = elj f0 GA 5159 := (hf185.eelj m_GA r_GA (by decide +kernel) _).trans hqkc0
            have hqkc1 : elj f185 GA 10349 = elj f0 GA 10349 := (hf185.eelj m_GA r_GA (by decide +kernel) _).trans hqkc1
            have hqkc2 : elj f185 GA 15539 = elj f0 GA 15539 := (hf185.eelj m_GA r_GA (by decide +kernel) _).trans hqkc2
            have hqkc3 : elj f185 GA 20729 = elj f0 GA 20729 := (hf185.eelj m_GA r_GA (by decide +kernel) _).trans hqkc3
            have hk : fr L R [(12, 1), (12, 28), (12, 29), (12, 31), (12, 35), (12, 36), (12, 37), (12, 38), (12, 39), (12, 59)] [12, 61, 68, 69, 70, 73, 74, 76, 84] f0 f185 := hk.tr hf185 rfl rfl
            have e187 : fld f185 a0 0 = .ref GA := (hf185.efl m_a0 r_a0 rfl).trans t_GA
            have e188 : fld f185 a0 22 = .ref GP := (hf185.efl m_a0 r_a0 rfl).trans t_GP
            have e189 : fld f185 a0 23 = .ref GL := (hf185.efl m_a0 r_a0 rfl).trans t_GL
            have e190 : fld f185 a0 6 = .ref GT := (hf185.efl m_a0 r_a0 rfl).trans t_GT
            exact hret f185 _ _ _ _ v186 dX12_least_59 rfl ⟨hk, hR, hX, hqkc0, hqkc1, hqkc2, hqkc3⟩ h
        · refine lv_aload_n F.1 F.2.1 dX12_least_26 rfl (lv_at hl 0 rfl) ?_
          refine tw_iconst F dX12_least_27 ki_1 (fun z191 hz191 => ?_)
          refine tw_Vi (As := [.int z191]) F hZ h yk_X12_refuse mw_452 mw_453 mw_454 (s_X12_refuse l D cy L R O f0 a0 m_a0 r_a0 z191 ⟨by omega, by omega⟩) rfl rfl m_a0 r_a0 (fun e q => (T_12 e).mp q) rfl hl.1 rfl (Nat.le_of_ble_eq_true rfl) ⟨Nat.le_of_ble_eq_true rfl, Nat.le_of_ble_eq_true rfl⟩ ⟨Nat.le_of_ble_eq_true rfl, Nat.le_of_ble_eq_true rfl⟩ dX12_least_28 (fun v193 f192 H locs hp192 h => ?_)
          obtain ⟨hf192, hv193a, hv193b⟩ := hp192
          have hR : RBA GA f192 := hR.fm hf192 m_GA r_GA (by decide +kernel)
          have hX : GZ GP GL f192 := hX.fm hf192 m_GP r_GP m_GL r_GL (by decide +kernel) (by decide +kernel)
          have hqkc0 : elj f192 GA 5159 = elj f0 GA 5159 := (hf192.eelj m_GA r_GA (by decide +kernel) _).trans hqkc0
          have hqkc1 : elj f192 GA 10349 = elj f0 GA 10349 := (hf192.eelj m_GA r_GA (by decide +kernel) _).trans hqkc1
          have hqkc2 : elj f192 GA 15539 = elj f0 GA 15539 := (hf192.eelj m_GA r_GA (by decide +kernel) _).trans hqkc2
          have hqkc3 : elj f192 GA 20729 = elj f0 GA 20729 := (hf192.eelj m_GA r_GA (by decide +kernel) _).trans hqkc3
          have hk : fr L R [(12, 1), (12, 28), (12, 29), (12, 31), (12, 35), (12, 36), (12, 37), (12, 38), (12, 39), (12, 59)] [12, 61, 68, 69, 70, 73, 74, 76, 84] f0 f192 := hk.tr hf192 rfl rfl
          have e194 : fld f192 a0 0 = .ref GA := (hf192.efl m_a0 r_a0 rfl).trans t_GA
          have e195 : fld f192 a0 22 = .ref GP := (hf192.efl m_a0 r_a0 rfl).trans t_GP
          have e196 : fld f192 a0 23 = .ref GL := (hf192.efl m_a0 r_a0 rfl).trans t_GL
          have e197 : fld f192 a0 6 = .ref GT := (hf192.efl m_a0 r_a0 rfl).trans t_GT
          exact hret f192 _ _ _ _ v193 dX12_least_31 rfl ⟨hk, hR, hX, hqkc0, hqkc1, hqkc2, hqkc3⟩ h
def rm_X12_ordersC : Room := { frames := 7, cells := 0, slots := 0, locals := 175 }
set_option maxHeartbeats 4000000 in
set_option maxRecDepth 100000 in
theorem s_X12_ordersC (l : Launch) (D : va_G) (cy : Nat → ClassId) (L : List Nat) (R O : Nat → Nat) (f0 : Nat → va_E) (a0 : Nat) (m_a0 : a0 ∈ L) (r_a0 : R a0 = 12) (x1 : Int32) (GA : Nat) (m_GA : GA ∈ L) (r_GA : R GA = 61) (t_GA : fld f0 a0 0 = .ref GA) (GP : Nat) (m_GP : GP ∈ L) (r_GP : R GP = 69) (t_GP : fld f0 a0 22 = .ref GP) (GL : Nat) (m_GL : GL ∈ L) (r_GL : R GL = 70) (t_GL : fld f0 a0 23 = .ref GL) (GT : Nat) (m_GT : GT ∈ L) (r_GT : R GT = 64) (t_GT : fld f0 a0 6 = .ref GT) (pre0 : RBA GA f0) (pre1 : GZ GP GL f0) : ∀ sz, Met l yX12_orders (Cond.code yX12_orders cX12_orders 10 (some .int) :: wsL_law) rm_X12_ordersC (va_Pc [.ref a0, .int x1] (tPZ D cy L R (TT cy L R) f0 sz)) (va_Qi (fun (r : Int32) f1 => fr L R [(12, 1), (12, 28), (12, 29), (12, 33), (12, 35), (12, 36), (12, 37), (12, 38), (12, 39), (12, 60), (12, 61)] [12, 61, 68, 69, 70, 73, 74, 75, 76, 85, 86] f0 f1 ∧ RBA GA f1 ∧ GZ GP GL f1 ∧ elj f1 GA 5159 = elj f0 GA 5159 ∧ elj f1 GA 10349 = elj f0 GA 10349 ∧ elj f1 GA 15539 = elj f0 GA 15539 ∧ elj f1 GA 20729 = elj f0 GA 20729) (tB D (tA L sz) L R (TT cy L R)) (tA L sz)) 0 0 (tA L sz) := by
  refine tw_enteri (by decide +kernel) rfl (Nat.le_of_ble_eq_true rfl) ?_
  intro p e s m below meth c A ls args Q F hZ h hl hret
  have hl : lv_has ls 10 [(0, .ref a0), (1, .int x1)] := hl
  have hk : fr L R [(12, 1), (12, 28), (12, 29), (12, 33), (12, 35), (12, 36), (12, 37), (12, 38), (12, 39), (12, 60), (12, 61)] [12, 61, 68, 69, 70, 73, 74, 75, 76, 85, 86] f0 f0 := fr.rf
  have hR := pre0
  have hX := pre1
  have hqkc0 : elj f0 GA 5159 = elj f0 GA 5159 := rfl
  have hqkc1 : elj f0 GA 10349 = elj f0 GA 10349 := rfl
  have hqkc2 : elj f0 GA 15539 = elj f0 GA 15539 := rfl
  have hqkc3 : elj f0 GA 20729 = elj f0 GA 20729 := rfl
  refine lv_aload_n F.1 F.2.1 dX12_orders_0 rfl (lv_at hl 0 rfl) ?_
  refine lv_iload_n F.1 F.2.1 dX12_orders_1 rfl (lv_at hl 1 rfl) ?_
  refine tw_Vi (As := [.int x1]) F hZ h yk_X12_isScript mw_635 mw_636 mw_637 (s_X12_isScript l D cy L R O f0 a0 m_a0 r_a0 x1) rfl rfl m_a0 r_a0 (fun e q => (T_12 e).mp q) rfl hl.1 rfl (Nat.le_of_ble_eq_true rfl) ⟨Nat.le_of_ble_eq_true rfl, Nat.le_of_ble_eq_true rfl⟩ ⟨Nat.le_of_ble_eq_true rfl, Nat.le_of_ble_eq_true rfl⟩ dX12_orders_2 (fun v2 f1 H locs hp1 h => ?_)
  obtain ⟨rfl, hv2a, hv2b, hv2p0⟩ := hp1
  refine tw_if_ne (tgt := 14) F dX12_orders_5 (by decide) (fun b3 => ?_) (fun b3 => ?_)
  · refine lv_aload_n F.1 F.2.1 dX12_orders_14 rfl (lv_at hl 0 rfl) ?_
    refine g_12_7 F h m_a0 r_a0 dX12_orders_15 (fun o4 m_o4 r_o4 ho4 => ?_)
    obtain rfl := (fld_inj t_GA ho4).symm
    refine tw_sipush F dX12_orders_18 ks_1650 (fun z5 hz5 => ?_)
    refine lv_iload_n F.1 F.2.1 dX12_orders_21 rfl (lv_at hl 1 rfl) ?_
    refine tu_imull F dX12_orders_22 hz5 (by omega) (fun z6 hz6 => ?_)
    refine tw_iconst F dX12_orders_23 ki_0 (fun z7 hz7 => ?_)
    refine tu_iadd F dX12_orders_24 (by omega) (fun z8 hz8 => ?_)
    refine ld_61 F h m_GA r_GA (by omega) dX12_orders_25 (fun v9 hv9a => ?_)
    have hv9b := clP_1.mp (atb hv9a (ac_c (b := (1650 * x1.toInt.toNat)) 0 (isB_s (show x1.toInt.toNat ≤ 2 by omega)) (by decide) (by omega) rfl))
    refine tw_l2i F dX12_orders_26 (by omega) (by omega) (fun z10 hz10 => ?_)
    refine lv_istore_n (lv' := [(2, .int z10), (0, .ref a0), (1, .int x1)]) F.1 F.2.1 dX12_orders_27 rfl hl (by decide) rfl (fun ls hl => ?_)
    refine lv_iload_n F.1 F.2.1 dX12_orders_28 rfl (lv_at hl 0 rfl) ?_
    refine tw_bipush F dX12_orders_29 kb_6 (fun z11 hz11 => ?_)
    refine tw_icmp_le (tgt := 40) F dX12_orders_31 (by decide) (fun b12 => ?_) (fun b12 => ?_)
    · refine lv_aload_n F.1 F.2.1 dX12_orders_40 rfl (lv_at hl 1 rfl) ?_
      refine g_12_416 F h m_a0 r_a0 dX12_orders_41 (fun v13 hv13 hv13a hv13b => ?_)
      refine tw_if_ne (tgt := 54) F dX12_orders_44 (by decide) (fun b14 => ?_) (fun b14 => ?_)
      · refine tw_iconst F dX12_orders_54 ki_1 (fun z15 hz15 => ?_)
        refine lv_istore_n (lv' := [(3, .int z15), (2, .int z10), (0, .ref a0), (1, .int x1)]) F.1 F.2.1 dX12_orders_55 rfl hl (by decide) rfl (fun ls hl => ?_)
        refine tw_iconst F dX12_orders_56 ki_0 (fun z16 hz16 => ?_)
        refine lv_istore (lv' := [(4, .int z16), (3, .int z15), (2, .int z10), (0, .ref a0), (1, .int x1)]) F.1 F.2.1 dX12_orders_57 hl (by decide) rfl (fun ls hl => ?_)
        have j_59 : ∀ (n59 : Nat) (ls : Array Slot) (x3_59 : Int32) (x4_59 : Int32), 0 ≤ x4_59.toInt → x4_59.toInt ≤ 6 → ((6 - x4_59.toInt)).toNat < n59 → lv_has ls 10 [(0, .ref a0), (1, .int x1), (2, .int z10), (3, .int x3_59), (4, .int x4_59)] → W p l e rm_X12_ordersC s m args below meth c H locs 0 0 Q (F0 m 59 ls []) := by
          intro n59
          induction n59 with
          | zero =>
            intro ls x3_59 x4_59 b17 b18 b19 hl
            exfalso
            omega
          | succ n59 ih59 =>
            intro ls x3_59 x4_59 b17 b18 b19 hl
            refine lv_iload F.1 F.2.1 dX12_orders_59 (lv_at hl 4 rfl) ?_
            refine lv_iload_n F.1 F.2.1 dX12_orders_61 rfl (lv_at hl 2 rfl) ?_
            refine tw_icmp_ge (tgt := 75) F dX12_orders_62 (by decide) (fun b20 => ?_) (fun b20 => ?_)
            · refine tw_iconst F dX12_orders_75 ki_0 (fun z21 hz21 => ?_)
              refine lv_istore (lv' := [(4, .int z21), (0, .ref a0), (1, .int x1), (2, .int z10), (3, .int x3_59)]) F.1 F.2.1 dX12_orders_76 hl (by decide) rfl (fun ls hl => ?_)
              refine tw_iconst F dX12_orders_78 ki_0 (fun z22 hz22 => ?_)
              refine lv_istore (lv' := [(5, .int z22), (4, .int z21), (0, .ref a0), (1, .int x1), (2, .int z10), (3, .int x3_59)]) F.1 F.2.1 dX12_orders_79 hl (by decide) rfl (fun ls hl => ?_)
              have j_81 : ∀ (n81 : Nat) (f23 : Nat → va_E) (H : Heap) (locs : List Loc) (ls : Array Slot) (x5_81 : Int32), 0 ≤ x5_81.toInt → x5_81.toInt ≤ 36 → ((36 - x5_81.toInt)).toNat < n81 → tS D cy A s.heap L R (TT cy L R) f23 s H locs → RBA GA f23 → GZ GP GL f23 → elj f23 GA 5159 = elj f0 GA 5159 → elj f23 GA 10349 = elj f0 GA 10349 → elj f23 GA 15539 = elj f0 GA 15539 → elj f23 GA 20729 = elj f0 GA 20729 → fr L R [(12, 1), (12, 28), (12, 29), (12, 33), (12, 35), (12, 36), (12, 37), (12, 38), (12, 39), (12, 60), (12, 61)] [12, 61, 68, 69, 70, 73, 74, 75, 76, 85, 86] f0 f23 → fr L R [] [85] f0 f23 → lv_has ls 10 [(0, .ref a0), (1, .int x1), (2, .int z10), (3, .int x3_59), (4, .int z21), (5, .int x5_81)] → W p l e rm_X12_ordersC s m args below meth c H locs 0 0 Q (F0 m 81 ls []) := by
                intro n81
                induction n81 with
                | zero =>
                  intro f23 H locs ls x5_81 b24 b25 b26 h hR hX hqkc0 hqkc1 hqkc2 hqkc3 hk hb81 hl
                  exfalso
                  omega
                | succ n81 ih81 =>
                  intro f23 H locs ls x5_81 b24 b25 b26 h hR hX hqkc0 hqkc1 hqkc2 hqkc3 hk hb81 hl
                  have e27 : fld f23 a0 0 = .ref GA := (hb81.efl m_a0 r_a0 rfl).trans t_GA
                  have e28 : fld f23 a0 22 = .ref GP := (hb81.efl m_a0 r_a0 rfl).trans t_GP
                  have e29 : fld f23 a0 23 = .ref GL := (hb81.efl m_a0 r_a0 rfl).trans t_GL
                  have e30 : fld f23 a0 6 = .ref GT := (hb81.efl m_a0 r_a0 rfl).trans t_GT
                  refine lv_iload F.1 F.2.1 dX12_orders_81 (lv_at hl 5 rfl) ?_
                  refine tw_bipush F dX12_orders_83 kb_36 (fun z31 hz31 => ?_)
                  refine tw_icmp_ge (tgt := 102) F dX12_orders_85 (by decide) (fun b32 => ?_) (fun b32 => ?_)
                  · refine lv_aload_n F.1 F.2.1 dX12_orders_102 rfl (lv_at hl 0 rfl) ?_
                    refine tw_iconst F dX12_orders_103 ki_1 (fun z33 hz33 => ?_)
                    refine p_12_331 F h m_a0 r_a0 (by omega) dX12_orders_104 (fun f34 H locs e34p hf34 h => ?_)
                    have hR : RBA GA f34 := hR.fm hf34 m_GA r_GA (by decide +kernel)
                    have hX : GZ GP GL f34 := hX.fm hf34 m_GP r_GP m_GL r_GL (by decide +kernel) (by decide +kernel)
                    have hqkc0 : elj f34 GA 5159 = elj f0 GA 5159 := (hf34.eelj m_GA r_GA (by decide +kernel) _).trans hqkc0
                    have hqkc1 : elj f34 GA 10349 = elj f0 GA 10349 := (hf34.eelj m_GA r_GA (by decide +kernel) _).trans hqkc1
                    have hqkc2 : elj f34 GA 15539 = elj f0 GA 15539 := (hf34.eelj m_GA r_GA (by decide +kernel) _).trans hqkc2
                    have hqkc3 : elj f34 GA 20729 = elj f0 GA 20729 := (hf34.eelj m_GA r_GA (by decide +kernel) _).trans hqkc3
                    have hk : fr L R [(12, 1), (12, 28), (12, 29), (12, 33), (12, 35), (12, 36), (12, 37), (12, 38), (12, 39), (12, 60), (12, 61)] [12, 61, 68, 69, 70, 73, 74, 75, 76, 85, 86] f0 f34 := hk.tr hf34 rfl rfl
                    have e35 : fld f34 a0 0 = .ref GA := (hf34.efl m_a0 r_a0 rfl).trans e27
                    have e36 : fld f34 a0 22 = .ref GP := (hf34.efl m_a0 r_a0 rfl).trans e28
                    have e37 : fld f34 a0 23 = .ref GL := (hf34.efl m_a0 r_a0 rfl).trans e29
                    have e38 : fld f34 a0 6 = .ref GT := (hf34.efl m_a0 r_a0 rfl).trans e30
                    refine tw_iconst F dX12_orders_107 ki_0 (fun z39 hz39 => ?_)
                    refine lv_istore (lv' := [(5, .int z39), (0, .ref a0), (1, .int x1), (2, .int z10), (3, .int x3_59), (4, .int z21)]) F.1 F.2.1 dX12_orders_108 hl (by decide) rfl (fun ls hl => ?_)
                    have j_110 : ∀ (n110 : Nat) (f40 : Nat → va_E) (H : Heap) (locs : List Loc) (ls : Array Slot) (x4_110 : Int32) (x5_110 : Int32), 0 ≤ x5_110.toInt → ((2147483647 - x5_110.toInt)).toNat < n110 → tS D cy A s.heap L R (TT cy L R) f40 s H locs → RBA GA f40 → GZ GP GL f40 → elj f40 GA 5159 = elj f0 GA 5159 → elj f40 GA 10349 = elj f0 GA 10349 → elj f40 GA 15539 = elj f0 GA 15539 → elj f40 GA 20729 = elj f0 GA 20729 → fr L R [(12, 1), (12, 28), (12, 29), (12, 33), (12, 35), (12, 36), (12, 37), (12, 38), (12, 39), (12, 60), (12, 61)] [12, 61, 68, 69, 70, 73, 74, 75, 76, 85, 86] f0 f40 → fr L R [(12, 28), (12, 29), (12, 35), (12, 36), (12, 37), (12, 38), (12, 39)] [12, 61, 68, 69, 70, 73, 74, 75, 76, 85, 86] f34 f40 → lv_has ls 10 [(0, .ref a0), (1, .int x1), (2, .int z10), (3, .int x3_59), (4, .int x4_110), (5, .int x5_110)] → W p l e rm_X12_ordersC s m args below meth c H locs 0 0 Q (F0 m 110 ls []) := by
                      intro n110
                      induction n110 with
                      | zero =>
                        intro f40 H locs ls x4_110 x5_110 b41 b42 h hR hX hqkc0 hqkc1 hqkc2 hqkc3 hk hb110 hl
                        exfalso
                        omega
                      | succ n110 ih110 =>
                        intro f40 H locs ls x4_110 x5_110 b41 b42 h hR hX hqkc0 hqkc1 hqkc2 hqkc3 hk hb110 hl
                        have e43 : fld f40 a0 0 = .ref GA := (hb110.efl m_a0 r_a0 rfl).trans e35
                        have e44 : fld f40 a0 22 = .ref GP := (hb110.efl m_a0 r_a0 rfl).trans e36
                        have e45 : fld f40 a0 23 = .ref GL := (hb110.efl m_a0 r_a0 rfl).trans e37
                        have e46 : fld f40 a0 6 = .ref GT := (hb110.efl m_a0 r_a0 rfl).trans e38
                        refine lv_iload F.1 F.2.1 dX12_orders_110 (lv_at hl 5 rfl) ?_
                        refine lv_iload_n F.1 F.2.1 dX12_orders_112 rfl (lv_at hl 3 rfl) ?_
                        refine tw_icmp_ge (tgt := 283) F dX12_orders_113 (by decide) (fun b47 => ?_) (fun b47 => ?_)
                        · refine lv_aload_n F.1 F.2.1 dX12_orders_283 rfl (lv_at hl 0 rfl) ?_
                          refine tw_iconst F dX12_orders_284 ki_0 (fun z48 hz48 => ?_)
                          refine p_12_331 F h m_a0 r_a0 (by omega) dX12_orders_285 (fun f49 H locs e49p hf49 h => ?_)
                          have hR : RBA GA f49 := hR.fm hf49 m_GA r_GA (by decide +kernel)
                          have hX : GZ GP GL f49 := hX.fm hf49 m_GP r_GP m_GL r_GL (by decide +kernel) (by decide +kernel)
                          have hqkc0 : elj f49 GA 5159 = elj f0 GA 5159 := (hf49.eelj m_GA r_GA (by decide +kernel) _).trans hqkc0
                          have hqkc1 : elj f49 GA 10349 = elj f0 GA 10349 := (hf49.eelj m_GA r_GA (by decide +kernel) _).trans hqkc1
                          have hqkc2 : elj f49 GA 15539 = elj f0 GA 15539 := (hf49.eelj m_GA r_GA (by decide +kernel) _).trans hqkc2
                          have hqkc3 : elj f49 GA 20729 = elj f0 GA 20729 := (hf49.eelj m_GA r_GA (by decide +kernel) _).trans hqkc3
                          have hk : fr L R [(12, 1), (12, 28), (12, 29), (12, 33), (12, 35), (12, 36), (12, 37), (12, 38), (12, 39), (12, 60), (12, 61)] [12, 61, 68, 69, 70, 73, 74, 75, 76, 85, 86] f0 f49 := hk.tr hf49 rfl rfl
                          have e50 : fld f49 a0 0 = .ref GA := (hf49.efl m_a0 r_a0 rfl).trans e43
                          have e51 : fld f49 a0 22 = .ref GP := (hf49.efl m_a0 r_a0 rfl).trans e44
                          have e52 : fld f49 a0 23 = .ref GL := (hf49.efl m_a0 r_a0 rfl).trans e45
                          have e53 : fld f49 a0 6 = .ref GT := (hf49.efl m_a0 r_a0 rfl).trans e46
                          refine lv_aload_n F.1 F.2.1 dX12_orders_288 rfl (lv_at hl 0 rfl) ?_
                          refine lv_iload F.1 F.2.1 dX12_orders_289 (lv_at hl 4 rfl) ?_
                          refine p_12_112 F h m_a0 r_a0 dX12_orders_291 (fun f54 H locs e54p hf54 h => ?_)
                          have hR : RBA GA f54 := hR.fm hf54 m_GA r_GA (by decide +kernel)
                          have hX : GZ GP GL f54 := hX.fm hf54 m_GP r_GP m_GL r_GL (by decide +kernel) (by decide +kernel)
                          have hqkc0 : elj f54 GA 5159 = elj f0 GA 5159 := (hf54.eelj m_GA r_GA (by decide +kernel) _).trans hqkc0
                          have hqkc1 : elj f54 GA 10349 = elj f0 GA 10349 := (hf54.eelj m_GA r_GA (by decide +kernel) _).trans hqkc1
                          have hqkc2 : elj f54 GA 15539 = elj f0 GA 15539 := (hf54.eelj m_GA r_GA (by decide +kernel) _).trans hqkc2
                          have hqkc3 : elj f54 GA 20729 = elj f0 GA 20729 := (hf54.eelj m_GA r_GA (by decide +kernel) _).trans hqkc3
                          have hk : fr L R [(12, 1), (12, 28), (12, 29), (12, 33), (12, 35), (12, 36), (12, 37), (12, 38), (12, 39), (12, 60), (12, 61)] [12, 61, 68, 69, 70, 73, 74, 75, 76, 85, 86] f0 f54 := hk.tr hf54 rfl rfl
                          have e55 : fld f54 a0 0 = .ref GA := (hf54.efl m_a0 r_a0 rfl).trans e50
                          have e56 : fld f54 a0 22 = .ref GP := (hf54.efl m_a0 r_a0 rfl).trans e51
                          have e57 : fld f54 a0 23 = .ref GL := (hf54.efl m_a0 r_a0 rfl).trans e52
                          have e58 : fld f54 a0 6 = .ref GT := (hf54.efl m_a0 r_a0 rfl).trans e53
                          refine lv_aload_n F.1 F.2.1 dX12_orders_294 rfl (lv_at hl 0 rfl) ?_
                          refine lv_iload_n F.1 F.2.1 dX12_orders_295 rfl (lv_at hl 2 rfl) ?_
                          refine p_12_457 F h m_a0 r_a0 (by omega) dX12_orders_296 (fun f59 H locs e59p hf59 h => ?_)
                          have hR : RBA GA f59 := hR.fm hf59 m_GA r_GA (by decide +kernel)
                          have hX : GZ GP GL f59 := hX.fm hf59 m_GP r_GP m_GL r_GL (by decide +kernel) (by decide +kernel)
                          have hqkc0 : elj f59 GA 5159 = elj f0 GA 5159 := (hf59.eelj m_GA r_GA (by decide +kernel) _).trans hqkc0
                          have hqkc1 : elj f59 GA 10349 = elj f0 GA 10349 := (hf59.eelj m_GA r_GA (by decide +kernel) _).trans hqkc1
                          have hqkc2 : elj f59 GA 15539 = elj f0 GA 15539 := (hf59.eelj m_GA r_GA (by decide +kernel) _).trans hqkc2
                          have hqkc3 : elj f59 GA 20729 = elj f0 GA 20729 := (hf59.eelj m_GA r_GA (by decide +kernel) _).trans hqkc3
                          have hk : fr L R [(12, 1), (12, 28), (12, 29), (12, 33), (12, 35), (12, 36), (12, 37), (12, 38), (12, 39), (12, 60), (12, 61)] [12, 61, 68, 69, 70, 73, 74, 75, 76, 85, 86] f0 f59 := hk.tr hf59 rfl rfl
                          have e60 : fld f59 a0 0 = .ref GA := (hf59.efl m_a0 r_a0 rfl).trans e55
                          have e61 : fld f59 a0 22 = .ref GP := (hf59.efl m_a0 r_a0 rfl).trans e56
                          have e62 : fld f59 a0 23 = .ref GL := (hf59.efl m_a0 r_a0 rfl).trans e57
                          have e63 : fld f59 a0 6 = .ref GT := (hf59.efl m_a0 r_a0 rfl).trans e58
                          refine lv_aload_n F.1 F.2.1 dX12_orders_299 rfl (lv_at hl 0 rfl) ?_
                          refine lv_iload F.1 F.2.1 dX12_orders_300 (lv_at hl 4 rfl) ?_
                          refine tw_Vi (As := [.int x4_110]) F hZ h yk_X12_gives mw_499 mw_500 mw_501 (s_X12_gives l D cy L R O f59 a0 m_a0 r_a0 x4_110) rfl rfl m_a0 r_a0 (fun e q => (T_12 e).mp q) rfl hl.1 rfl (Nat.le_of_ble_eq_true rfl) ⟨Nat.le_of_ble_eq_true rfl, Nat.le_of_ble_eq_true rfl⟩ ⟨Nat.le_of_ble_eq_true rfl, Nat.le_of_ble_eq_true rfl⟩ dX12_orders_302 (fun v65 f64 H locs hp64 h => ?_)
                          have hf64 := hp64
                          have hR : RBA GA f64 := hR.fm hf64 m_GA r_GA (by decide +kernel)
                          have hX : GZ GP GL f64 := hX.fm hf64 m_GP r_GP m_GL r_GL (by decide +kernel) (by decide +kernel)
                          have hqkc0 : elj f64 GA 5159 = elj f0 GA 5159 := (hf64.eelj m_GA r_GA (by decide +kernel) _).trans hqkc0
                          have hqkc1 : elj f64 GA 10349 = elj f0 GA 10349 := (hf64.eelj m_GA r_GA (by decide +kernel) _).trans hqkc1
                          have hqkc2 : elj f64 GA 15539 = elj f0 GA 15539 := (hf64.eelj m_GA r_GA (by decide +kernel) _).trans hqkc2
                          have hqkc3 : elj f64 GA 20729 = elj f0 GA 20729 := (hf64.eelj m_GA r_GA (by decide +kernel) _).trans hqkc3
                          have hk : fr L R [(12, 1), (12, 28), (12, 29), (12, 33), (12, 35), (12, 36), (12, 37), (12, 38), (12, 39), (12, 60), (12, 61)] [12, 61, 68, 69, 70, 73, 74, 75, 76, 85, 86] f0 f64 := hk.tr hf64 rfl rfl
                          have e66 : fld f64 a0 0 = .ref GA := (hf64.efl m_a0 r_a0 rfl).trans e60
                          have e67 : fld f64 a0 22 = .ref GP := (hf64.efl m_a0 r_a0 rfl).trans e61
                          have e68 : fld f64 a0 23 = .ref GL := (hf64.efl m_a0 r_a0 rfl).trans e62
                          have e69 : fld f64 a0 6 = .ref GT := (hf64.efl m_a0 r_a0 rfl).trans e63
                          exact hret f64 _ _ _ _ v65 dX12_orders_305 rfl ⟨hk, hR, hX, hqkc0, hqkc1, hqkc2, hqkc3⟩ h
                        · refine lv_iload F.1 F.2.1 dX12_orders_116 (lv_at hl 5 rfl) ?_
                          refine lv_istore (lv' := [(6, .int x5_110), (0, .ref a0), (1, .int x1), (2, .int z10), (3, .int x3_59), (4, .int x4_110), (5, .int x5_110)]) F.1 F.2.1 dX12_orders_118 hl (by decide) rfl (fun ls hl => ?_)
                          refine tw_iconst F dX12_orders_120 ki_0 (fun z70 hz70 => ?_)
                          refine lv_istore (lv' := [(7, .int z70), (6, .int x5_110), (0, .ref a0), (1, .int x1), (2, .int z10), (3, .int x3_59), (4, .int x4_110), (5, .int x5_110)]) F.1 F.2.1 dX12_orders_121 hl (by decide) rfl (fun ls hl => ?_)
                          refine tw_iconst F dX12_orders_123 ki_0 (fun z71 hz71 => ?_)
                          refine lv_istore (lv' := [(8, .int z71), (7, .int z70), (6, .int x5_110), (0, .ref a0), (1, .int x1), (2, .int z10), (3, .int x3_59), (4, .int x4_110), (5, .int x5_110)]) F.1 F.2.1 dX12_orders_124 hl (by decide) rfl (fun ls hl => ?_)
                          have j_126 : ∀ (n126 : Nat) (f72 : Nat → va_E) (H : Heap) (locs : List Loc) (ls : Array Slot) (x6_126 : Int32) (x7_126 : Int32) (x8_126 : Int32), 0 ≤ x8_126.toInt → x8_126.toInt ≤ 6 → 0 ≤ x6_126.toInt → ((6 - x8_126.toInt)).toNat < n126 → tS D cy A s.heap L R (TT cy L R) f72 s H locs → RBA GA f72 → GZ GP GL f72 → elj f72 GA 5159 = elj f0 GA 5159 → elj f72 GA 10349 = elj f0 GA 10349 → elj f72 GA 15539 = elj f0 GA 15539 → elj f72 GA 20729 = elj f0 GA 20729 → fr L R [(12, 1), (12, 28), (12, 29), (12, 33), (12, 35), (12, 36), (12, 37), (12, 38), (12, 39), (12, 60), (12, 61)] [12, 61, 68, 69, 70, 73, 74, 75, 76, 85, 86] f0 f72 → fr L R [] [75, 86] f40 f72 → lv_has ls 10 [(0, .ref a0), (1, .int x1), (2, .int z10), (3, .int x3_59), (4, .int x4_110), (5, .int x5_110), (6, .int x6_126), (7, .int x7_126), (8, .int x8_126)] → W p l e rm_X12_ordersC s m args below meth c H locs 0 0 Q (F0 m 126 ls []) := by
                            intro n126
                            induction n126 with
                            | zero =>
                              intro f72 H locs ls x6_126 x7_126 x8_126 b73 b74 b75 b76 h hR hX hqkc0 hqkc1 hqkc2 hqkc3 hk hb126 hl
                              exfalso
                              omega
                            | succ n126 ih126 =>
                              intro f72 H locs ls x6_126 x7_126 x8_126 b73 b74 b75 b76 h hR hX hqkc0 hqkc1 hqkc2 hqkc3 hk hb126 hl
                              have hb110 : fr L R [(12, 28), (12, 29), (12, 35), (12, 36), (12, 37), (12, 38), (12, 39)] [12, 61, 68, 69, 70, 73, 74, 75, 76, 85, 86] f34 f72 := hb110.tr hb126 rfl rfl
                              have e77 : fld f72 a0 0 = .ref GA := (hb126.efl m_a0 r_a0 rfl).trans e43
                              have e78 : fld f72 a0 22 = .ref GP := (hb126.efl m_a0 r_a0 rfl).trans e44
                              have e79 : fld f72 a0 23 = .ref GL := (hb126.efl m_a0 r_a0 rfl).trans e45
                              have e80 : fld f72 a0 6 = .ref GT := (hb126.efl m_a0 r_a0 rfl).trans e46
                              refine lv_iload F.1 F.2.1 dX12_orders_126 (lv_at hl 8 rfl) ?_
                              refine lv_iload_n F.1 F.2.1 dX12_orders_128 rfl (lv_at hl 2 rfl) ?_
                              refine tw_icmp_ge (tgt := 185) F dX12_orders_129 (by decide) (fun b81 => ?_) (fun b81 => ?_)
                              · refine lv_iload F.1 F.2.1 dX12_orders_185 (lv_at hl 7 rfl) ?_
                                refine tw_iconst F dX12_orders_187 ki_1 (fun z82 hz82 => ?_)
                                refine lv_iload_n F.1 F.2.1 dX12_orders_188 rfl (lv_at hl 2 rfl) ?_
                                refine lv_ishl F.1 F.2.1 dX12_orders_189 ?_
                                refine lv_topi (fun z83 _ => ?_)
                                refine tw_iconst F dX12_orders_190 ki_1 (fun z84 hz84 => ?_)
                                refine lv_isub F.1 F.2.1 dX12_orders_191 ?_
                                refine lv_topi (fun z85 _ => ?_)
                                have j_277 : ∀ (f86 : Nat → va_E) (H : Heap) (locs : List Loc) (ls : Array Slot) (x4_277 : Int32), tS D cy A s.heap L R (TT cy L R) f86 s H locs → RBA GA f86 → GZ GP GL f86 → elj f86 GA 5159 = elj f0 GA 5159 → elj f86 GA 10349 = elj f0 GA 10349 → elj f86 GA 15539 = elj f0 GA 15539 → elj f86 GA 20729 = elj f0 GA 20729 → fr L R [(12, 1), (12, 28), (12, 29), (12, 33), (12, 35), (12, 36), (12, 37), (12, 38), (12, 39), (12, 60), (12, 61)] [12, 61, 68, 69, 70, 73, 74, 75, 76, 85, 86] f0 f86 → fr L R [(12, 28), (12, 29), (12, 35), (12, 36), (12, 37), (12, 38), (12, 39)] [12, 61, 68, 69, 70, 73, 74, 76, 85] f72 f86 → lv_has ls 10 [(0, .ref a0), (1, .int x1), (2, .int z10), (3, .int x3_59), (4, .int x4_277), (5, .int x5_110)] → W p l e rm_X12_ordersC s m args below meth c H locs 0 0 Q (F0 m 277 ls []) := by
                                  intro f86 H locs ls x4_277 h hR hX hqkc0 hqkc1 hqkc2 hqkc3 hk hb277 hl
                                  have hb110 : fr L R [(12, 28), (12, 29), (12, 35), (12, 36), (12, 37), (12, 38), (12, 39)] [12, 61, 68, 69, 70, 73, 74, 75, 76, 85, 86] f34 f86 := hb110.tr hb277 (by decide +kernel) (by decide +kernel)
                                  have e87 : fld f86 a0 0 = .ref GA := (hb277.efl m_a0 r_a0 rfl).trans e77
                                  have e88 : fld f86 a0 22 = .ref GP := (hb277.efl m_a0 r_a0 rfl).trans e78
                                  have e89 : fld f86 a0 23 = .ref GL := (hb277.efl m_a0 r_a0 rfl).trans e79
                                  have e90 : fld f86 a0 6 = .ref GT := (hb277.efl m_a0 r_a0 rfl).trans e80
                                  have tb3 := tb_i x3_59
                                  refine tu_iinc F dX12_orders_277 hl (k := 5) rfl (by decide) ki_1 (by omega) (fun z91 ls hz91 hl => ?_)
                                  have hl : lv_has ls 10 [(5, .int z91), (0, .ref a0), (1, .int x1), (2, .int z10), (3, .int x3_59), (4, .int x4_277)] := hl
                                  refine lv_goto (tgt := 110) F.1 F.2.1 dX12_orders_280 (by decide) ?_
                                  exact ih110 f86 _ _ _ x4_277 z91 (by omega) (by omega) h hR hX hqkc0 hqkc1 hqkc2 hqkc3 hk hb110 (lv_sub hl [1, 2, 3, 4, 5, 0] rfl)
                                have hb277 : fr L R [(12, 28), (12, 29), (12, 35), (12, 36), (12, 37), (12, 38), (12, 39)] [12, 61, 68, 69, 70, 73, 74, 76, 85] f72 f72 := fr.rf
                                refine tw_icmp_ne (tgt := 277) F dX12_orders_192 (by decide) (fun b92 => ?_) (fun b92 => ?_)
                                · exact j_277 f72 _ _ _ x4_110 h hR hX hqkc0 hqkc1 hqkc2 hqkc3 hk hb277 (lv_sub hl [0, 1, 2, 3, 4, 5] rfl)
                                · refine lv_aload_n F.1 F.2.1 dX12_orders_195 rfl (lv_at hl 0 rfl) ?_
                                  refine lv_iload_n F.1 F.2.1 dX12_orders_196 rfl (lv_at hl 1 rfl) ?_
                                  refine tw_Vi (As := [.int x1]) F hZ h yk_X12_saysTalk mw_1518 mw_1519 mw_1520 (s_X12_saysTalk l D cy L R O f72 a0 m_a0 r_a0 x1 ⟨by omega, by omega⟩ GA m_GA r_GA e77 GP m_GP r_GP e78 GL m_GL r_GL e79 GT m_GT r_GT e80 hX hR) rfl rfl m_a0 r_a0 (fun e q => (T_12 e).mp q) rfl hl.1 rfl (Nat.le_of_ble_eq_true rfl) ⟨Nat.le_of_ble_eq_true rfl, Nat.le_of_ble_eq_true rfl⟩ ⟨Nat.le_of_ble_eq_true rfl, Nat.le_of_ble_eq_true rfl⟩ dX12_orders_197 (fun v94 f93 H locs hp93 h => ?_)
                                  obtain ⟨hf93, hv94a, hv94b, hv94p0, hv94p1⟩ := hp93
                                  have hR : RBA GA f93 := hR.kw hv94p1 (Or.inl (by omega))
                                  have hX : GZ GP GL f93 := hv94p0
                                  have hqkc0 : elj f93 GA 5159 = elj f0 GA 5159 := (hv94p1 _ (by omega)).trans hqkc0
                                  have hqkc1 : elj f93 GA 10349 = elj f0 GA 10349 := (hv94p1 _ (by omega)).trans hqkc1
                                  have hqkc2 : elj f93 GA 15539 = elj f0 GA 15539 := (hv94p1 _ (by omega)).trans hqkc2
                                  have hqkc3 : elj f93 GA 20729 = elj f0 GA 20729 := (hv94p1 _ (by omega)).trans hqkc3
                                  have hk : fr L R [(12, 1), (12, 28), (12, 29), (12, 33), (12, 35), (12, 36), (12, 37), (12, 38), (12, 39), (12, 60), (12, 61)] [12, 61, 68, 69, 70, 73, 74, 75, 76, 85, 86] f0 f93 := hk.tr hf93 (by decide +kernel) (by decide +kernel)
                                  have hb110 : fr L R [(12, 28), (12, 29), (12, 35), (12, 36), (12, 37), (12, 38), (12, 39)] [12, 61, 68, 69, 70, 73, 74, 75, 76, 85, 86] f34 f93 := hb110.tr hf93 (by decide +kernel) (by decide +kernel)
                                  have hb277 : fr L R [(12, 28), (12, 29), (12, 35), (12, 36), (12, 37), (12, 38), (12, 39)] [12, 61, 68, 69, 70, 73, 74, 76, 85] f72 f93 := hb277.tr hf93 (by decide +kernel) (by decide +kernel)
                                  have e95 : fld f93 a0 0 = .ref GA := (hf93.efl m_a0 r_a0 rfl).trans e77
                                  have e96 : fld f93 a0 22 = .ref GP := (hf93.efl m_a0 r_a0 rfl).trans e78
                                  have e97 : fld f93 a0 23 = .ref GL := (hf93.efl m_a0 r_a0 rfl).trans e79
                                  have e98 : fld f93 a0 6 = .ref GT := (hf93.efl m_a0 r_a0 rfl).trans e80
                                  refine tw_if_ne (tgt := 206) F dX12_orders_200 (by decide) (fun b99 => ?_) (fun b99 => ?_)
                                  · refine tu_iincU F dX12_orders_206 hl (k := 4) rfl (by decide) (fun z100 ls hl => ?_)
                                    have hl : lv_has ls 10 [(4, .int z100), (0, .ref a0), (1, .int x1), (2, .int z10), (3, .int x3_59), (5, .int x5_110), (6, .int x6_126), (7, .int x7_126), (8, .int x8_126)] := hl
                                    refine tw_iconst F dX12_orders_209 ki_0 (fun z101 hz101 => ?_)
                                    refine lv_istore (lv' := [(8, .int z101), (4, .int z100), (0, .ref a0), (1, .int x1), (2, .int z10), (3, .int x3_59), (5, .int x5_110), (6, .int x6_126), (7, .int x7_126)]) F.1 F.2.1 dX12_orders_210 hl (by decide) rfl (fun ls hl => ?_)
                                    have j_212 : ∀ (n212 : Nat) (f102 : Nat → va_E) (H : Heap) (locs : List Loc) (ls : Array Slot) (x8_212 : Int32), 0 ≤ x8_212.toInt → x8_212.toInt ≤ 6 → ((6 - x8_212.toInt)).toNat < n212 → tS D cy A s.heap L R (TT cy L R) f102 s H locs → RBA GA f102 → GZ GP GL f102 → elj f102 GA 5159 = elj f0 GA 5159 → elj f102 GA 10349 = elj f0 GA 10349 → elj f102 GA 15539 = elj f0 GA 15539 → elj f102 GA 20729 = elj f0 GA 20729 → fr L R [(12, 1), (12, 28), (12, 29), (12, 33), (12, 35), (12, 36), (12, 37), (12, 38), (12, 39), (12, 60), (12, 61)] [12, 61, 68, 69, 70, 73, 74, 75, 76, 85, 86] f0 f102 → fr L R [] [85] f93 f102 → lv_has ls 10 [(0, .ref a0), (1, .int x1), (2, .int z10), (3, .int x3_59), (4, .int z100), (5, .int x5_110), (8, .int x8_212)] → W p l e rm_X12_ordersC s m args below meth c H locs 0 0 Q (F0 m 212 ls []) := by
                                      intro n212
                                      induction n212 with
                                      | zero =>
                                        intro f102 H locs ls x8_212 b103 b104 b105 h hR hX hqkc0 hqkc1 hqkc2 hqkc3 hk hb212 hl
                                        exfalso
                                        omega
                                      | succ n212 ih212 =>
                                        intro f102 H locs ls x8_212 b103 b104 b105 h hR hX hqkc0 hqkc1 hqkc2 hqkc3 hk hb212 hl
                                        have hb110 : fr L R [(12, 28), (12, 29), (12, 35), (12, 36), (12, 37), (12, 38), (12, 39)] [12, 61, 68, 69, 70, 73, 74, 75, 76, 85, 86] f34 f102 := hb110.tr hb212 rfl rfl
                                        have hb277 : fr L R [(12, 28), (12, 29), (12, 35), (12, 36), (12, 37), (12, 38), (12, 39)] [12, 61, 68, 69, 70, 73, 74, 76, 85] f72 f102 := hb277.tr hb212 rfl rfl
                                        have e106 : fld f102 a0 0 = .ref GA := (hb212.efl m_a0 r_a0 rfl).trans e95
                                        have e107 : fld f102 a0 22 = .ref GP := (hb212.efl m_a0 r_a0 rfl).trans e96
                                        have e108 : fld f102 a0 23 = .ref GL := (hb212.efl m_a0 r_a0 rfl).trans e97
                                        have e109 : fld f102 a0 6 = .ref GT := (hb212.efl m_a0 r_a0 rfl).trans e98
                                        refine lv_iload F.1 F.2.1 dX12_orders_212 (lv_at hl 6 rfl) ?_
                                        refine lv_iload_n F.1 F.2.1 dX12_orders_214 rfl (lv_at hl 2 rfl) ?_
                                        refine tw_icmp_ge (tgt := 277) F dX12_orders_215 (by decide) (fun b110 => ?_) (fun b110 => ?_)
                                        · exact j_277 f102 _ _ _ z100 h hR hX hqkc0 hqkc1 hqkc2 hqkc3 hk hb277 (lv_sub hl [0, 1, 2, 3, 4, 5] rfl)
                                        · refine tw_iconst F dX12_orders_218 ki_0 (fun z111 hz111 => ?_)
                                          refine lv_istore (lv' := [(9, .int z111), (0, .ref a0), (1, .int x1), (2, .int z10), (3, .int x3_59), (4, .int z100), (5, .int x5_110), (8, .int x8_212)]) F.1 F.2.1 dX12_orders_219 hl (by decide) rfl (fun ls hl => ?_)
                                          have j_221 : ∀ (n221 : Nat) (f112 : Nat → va_E) (H : Heap) (locs : List Loc) (ls : Array Slot) (x9_221 : Int32), 0 ≤ x9_221.toInt → x9_221.toInt ≤ 6 → ((6 - x9_221.toInt)).toNat < n221 → tS D cy A s.heap L R (TT cy L R) f112 s H locs → RBA GA f112 → GZ GP GL f112 → elj f112 GA 5159 = elj f0 GA 5159 → elj f112 GA 10349 = elj f0 GA 10349 → elj f112 GA 15539 = elj f0 GA 15539 → elj f112 GA 20729 = elj f0 GA 20729 → fr L R [(12, 1), (12, 28), (12, 29), (12, 33), (12, 35), (12, 36), (12, 37), (12, 38), (12, 39), (12, 60), (12, 61)] [12, 61, 68, 69, 70, 73, 74, 75, 76, 85, 86] f0 f112 → fr L R [] [85] f102 f112 → lv_has ls 10 [(0, .ref a0), (1, .int x1), (2, .int z10), (3, .int x3_59), (4, .int z100), (5, .int x5_110), (8, .int x8_212), (9, .int x9_221)] → W p l e rm_X12_ordersC s m args below meth c H locs 0 0 Q (F0 m 221 ls []) := by
                                            intro n221
                                            induction n221 with
                                            | zero =>
                                              intro f112 H locs ls x9_221 b113 b114 b115 h hR hX hqkc0 hqkc1 hqkc2 hqkc3 hk hb221 hl
                                              exfalso
                                              omega
                                            | succ n221 ih221 =>
                                              intro f112 H locs ls x9_221 b113 b114 b115 h hR hX hqkc0 hqkc1 hqkc2 hqkc3 hk hb221 hl
                                              have hb110 : fr L R [(12, 28), (12, 29), (12, 35), (12, 36), (12, 37), (12, 38), (12, 39)] [12, 61, 68, 69, 70, 73, 74, 75, 76, 85, 86] f34 f112 := hb110.tr hb221 rfl rfl
                                              have hb277 : fr L R [(12, 28), (12, 29), (12, 35), (12, 36), (12, 37), (12, 38), (12, 39)] [12, 61, 68, 69, 70, 73, 74, 76, 85] f72 f112 := hb277.tr hb221 rfl rfl
                                              have hb212 : fr L R [] [85] f93 f112 := hb212.tr hb221 rfl rfl
                                              have e116 : fld f112 a0 0 = .ref GA := (hb221.efl m_a0 r_a0 rfl).trans e106
                                              have e117 : fld f112 a0 22 = .ref GP := (hb221.efl m_a0 r_a0 rfl).trans e107
                                              have e118 : fld f112 a0 23 = .ref GL := (hb221.efl m_a0 r_a0 rfl).trans e108
                                              have e119 : fld f112 a0 6 = .ref GT := (hb221.efl m_a0 r_a0 rfl).trans e109
                                              refine lv_iload F.1 F.2.1 dX12_orders_221 (lv_at hl 7 rfl) ?_
                                              refine lv_iload_n F.1 F.2.1 dX12_orders_223 rfl (lv_at hl 2 rfl) ?_
                                              refine tw_icmp_ge (tgt := 271) F dX12_orders_224 (by decide) (fun b120 => ?_) (fun b120 => ?_)
                                              · refine tu_iinc F dX12_orders_271 hl (k := 6) rfl (by decide) ki_1 (by omega) (fun z121 ls hz121 hl => ?_)
                                                have hl : lv_has ls 10 [(8, .int z121), (0, .ref a0), (1, .int x1), (2, .int z10), (3, .int x3_59), (4, .int z100), (5, .int x5_110), (9, .int x9_221)] := hl
                                                refine lv_goto (tgt := 212) F.1 F.2.1 dX12_orders_274 (by decide) ?_
                                                exact ih212 f112 _ _ _ z121 (by omega) (by omega) (by omega) h hR hX hqkc0 hqkc1 hqkc2 hqkc3 hk hb212 (lv_sub hl [1, 2, 3, 4, 5, 6, 0] rfl)
                                              · refine lv_aload_n F.1 F.2.1 dX12_orders_227 rfl (lv_at hl 0 rfl) ?_
                                                refine g_12_115 F h m_a0 r_a0 dX12_orders_228 (fun o122 m_o122 r_o122 ho122 => ?_)
                                                refine tw_bipush F dX12_orders_231 kb_6 (fun z123 hz123 => ?_)
                                                refine lv_iload F.1 F.2.1 dX12_orders_233 (lv_at hl 6 rfl) ?_
                                                refine tu_imull F dX12_orders_235 hz123 (by omega) (fun z124 hz124 => ?_)
                                                refine lv_iload F.1 F.2.1 dX12_orders_236 (lv_at hl 7 rfl) ?_
                                                refine tu_iadd F dX12_orders_238 (by omega) (fun z125 hz125 => ?_)
                                                refine lv_dup2_11 F.1 F.2.1 dX12_orders_239 rfl rfl ?_
                                                refine ld_85 F h m_o122 r_o122 (by omega) dX12_orders_240 (fun v126 => ?_)
                                                refine lv_aload_n F.1 F.2.1 dX12_orders_241 rfl (lv_at hl 0 rfl) ?_
                                                refine g_12_118 F h m_a0 r_a0 dX12_orders_242 (fun o127 m_o127 r_o127 ho127 => ?_)
                                                refine lv_iload F.1 F.2.1 dX12_orders_245 (lv_at hl 6 rfl) ?_
                                                refine ld_86 F h m_o127 r_o127 (by omega) dX12_orders_247 (fun v128 hv128a hv128b => ?_)
                                                refine lv_aload_n F.1 F.2.1 dX12_orders_248 rfl (lv_at hl 0 rfl) ?_
                                                refine g_12_118 F h m_a0 r_a0 dX12_orders_249 (fun o129 m_o129 r_o129 ho129 => ?_)
                                                refine lv_iload F.1 F.2.1 dX12_orders_252 (lv_at hl 7 rfl) ?_
                                                refine ld_86 F h m_o129 r_o129 (by omega) dX12_orders_254 (fun v130 hv130a hv130b => ?_)
                                                have j_263 : ∀ (ls : Array Slot) (y0_263 : Int32), 0 ≤ y0_263.toInt → y0_263.toInt ≤ 1 → lv_has ls 10 [(0, .ref a0), (1, .int x1), (2, .int z10), (3, .int x3_59), (4, .int z100), (5, .int x5_110), (8, .int x8_212), (9, .int x9_221)] → W p l e rm_X12_ordersC s m args below meth c H locs 0 0 Q (F0 m 263 ls [.int y0_263, .int v126, .int z125, .ref o122]) := by
                                                  intro ls y0_263 b131 b132 hl
                                                  refine lv_iadd F.1 F.2.1 dX12_orders_263 ?_
                                                  refine lv_topi (fun z133 _ => ?_)
                                                  refine st_85 F h m_o122 r_o122 (by omega) dX12_orders_264 (fun f134 H locs hf134 h => ?_)
                                                  have hR : RBA GA f134 := hR.fm hf134 m_GA r_GA (by decide +kernel)
                                                  have hX : GZ GP GL f134 := hX.fm hf134 m_GP r_GP m_GL r_GL (by decide +kernel) (by decide +kernel)
                                                  have hqkc0 : elj f134 GA 5159 = elj f0 GA 5159 := (hf134.eelj m_GA r_GA (by decide +kernel) _).trans hqkc0
                                                  have hqkc1 : elj f134 GA 10349 = elj f0 GA 10349 := (hf134.eelj m_GA r_GA (by decide +kernel) _).trans hqkc1
                                                  have hqkc2 : elj f134 GA 15539 = elj f0 GA 15539 := (hf134.eelj m_GA r_GA (by decide +kernel) _).trans hqkc2
                                                  have hqkc3 : elj f134 GA 20729 = elj f0 GA 20729 := (hf134.eelj m_GA r_GA (by decide +kernel) _).trans hqkc3
                                                  have hk : fr L R [(12, 1), (12, 28), (12, 29), (12, 33), (12, 35), (12, 36), (12, 37), (12, 38), (12, 39), (12, 60), (12, 61)] [12, 61, 68, 69, 70, 73, 74, 75, 76, 85, 86] f0 f134 := hk.tr hf134 rfl rfl
                                                  have hb110 : fr L R [(12, 28), (12, 29), (12, 35), (12, 36), (12, 37), (12, 38), (12, 39)] [12, 61, 68, 69, 70, 73, 74, 75, 76, 85, 86] f34 f134 := hb110.tr hf134 rfl rfl
                                                  have hb277 : fr L R [(12, 28), (12, 29), (12, 35), (12, 36), (12, 37), (12, 38), (12, 39)] [12, 61, 68, 69, 70, 73, 74, 76, 85] f72 f134 := hb277.tr hf134 rfl rfl
                                                  have hb212 : fr L R [] [85] f93 f134 := hb212.tr hf134 rfl rfl
                                                  have hb221 : fr L R [] [85] f102 f134 := hb221.tr hf134 rfl rfl
                                                  have e135 : fld f134 a0 0 = .ref GA := (hf134.efl m_a0 r_a0 rfl).trans e116
                                                  have e136 : fld f134 a0 22 = .ref GP := (hf134.efl m_a0 r_a0 rfl).trans e117
                                                  have e137 : fld f134 a0 23 = .ref GL := (hf134.efl m_a0 r_a0 rfl).trans e118
                                                  have e138 : fld f134 a0 6 = .ref GT := (hf134.efl m_a0 r_a0 rfl).trans e119
                                                  refine tu_iinc F dX12_orders_265 hl (k := 7) rfl (by decide) ki_1 (by omega) (fun z139 ls hz139 hl => ?_)
                                                  have hl : lv_has ls 10 [(9, .int z139), (0, .ref a0), (1, .int x1), (2, .int z10), (3, .int x3_59), (4, .int z100), (5, .int x5_110), (8, .int x8_212)] := hl
                                                  refine lv_goto (tgt := 221) F.1 F.2.1 dX12_orders_268 (by decide) ?_
                                                  exact ih221 f134 _ _ _ z139 (by omega) (by omega) (by omega) h hR hX hqkc0 hqkc1 hqkc2 hqkc3 hk hb221 (lv_sub hl [1, 2, 3, 4, 5, 6, 7, 0] rfl)
                                                refine tw_icmp_ge (tgt := 262) F dX12_orders_255 (by decide) (fun b140 => ?_) (fun b140 => ?_)
                                                · refine tw_iconst F dX12_orders_262 ki_0 (fun z141 hz141 => ?_)
                                                  exact j_263 _ z141 (by omega) (by omega) (lv_sub hl [0, 1, 2, 3, 4, 5, 6, 7] rfl)
                                                · refine tw_iconst F dX12_orders_258 ki_1 (fun z142 hz142 => ?_)
                                                  refine lv_goto (tgt := 263) F.1 F.2.1 dX12_orders_259 (by decide) ?_
                                                  exact j_263 _ z142 (by omega) (by omega) (lv_sub hl [0, 1, 2, 3, 4, 5, 6, 7] rfl)
                                          have hb221 : fr L R [] [85] f102 f102 := fr.rf
                                          exact j_221 (((6 - z111.toInt)).toNat + 1) f102 _ _ _ z111 (by omega) (by omega) (by omega) h hR hX hqkc0 hqkc1 hqkc2 hqkc3 hk hb221 (lv_sub hl [1, 2, 3, 4, 5, 6, 7, 0] rfl)
                                    have hb212 : fr L R [] [85] f93 f93 := fr.rf
                                    exact j_212 (((6 - z101.toInt)).toNat + 1) f93 _ _ _ z101 (by omega) (by omega) (by omega) h hR hX hqkc0 hqkc1 hqkc2 hqkc3 hk hb212 (lv_sub hl [2, 3, 4, 5, 1, 6, 0] rfl)
                                  · refine lv_goto (tgt := 277) F.1 F.2.1 dX12_orders_203 (by decide) ?_
                                    exact j_277 f93 _ _ _ x4_110 h hR hX hqkc0 hqkc1 hqkc2 hqkc3 hk hb277 (lv_sub hl [0, 1, 2, 3, 4, 5] rfl)
                              · refine lv_aload_n F.1 F.2.1 dX12_orders_132 rfl (lv_at hl 0 rfl) ?_
                                refine g_12_118 F h m_a0 r_a0 dX12_orders_133 (fun o143 m_o143 r_o143 ho143 => ?_)
                                refine lv_iload F.1 F.2.1 dX12_orders_136 (lv_at hl 8 rfl) ?_
                                refine lv_iload F.1 F.2.1 dX12_orders_138 (lv_at hl 6 rfl) ?_
                                refine lv_iload_n F.1 F.2.1 dX12_orders_140 rfl (lv_at hl 2 rfl) ?_
                                refine tu_irem F dX12_orders_141 (by omega) (fun z144 hz144a hz144b => ?_)
                                refine st_86 F h m_o143 r_o143 (by omega) (by omega) dX12_orders_142 (fun f145 H locs hf145 h => ?_)
                                have hR : RBA GA f145 := hR.fm hf145 m_GA r_GA (by decide +kernel)
                                have hX : GZ GP GL f145 := hX.fm hf145 m_GP r_GP m_GL r_GL (by decide +kernel) (by decide +kernel)
                                have hqkc0 : elj f145 GA 5159 = elj f0 GA 5159 := (hf145.eelj m_GA r_GA (by decide +kernel) _).trans hqkc0
                                have hqkc1 : elj f145 GA 10349 = elj f0 GA 10349 := (hf145.eelj m_GA r_GA (by decide +kernel) _).trans hqkc1
                                have hqkc2 : elj f145 GA 15539 = elj f0 GA 15539 := (hf145.eelj m_GA r_GA (by decide +kernel) _).trans hqkc2
                                have hqkc3 : elj f145 GA 20729 = elj f0 GA 20729 := (hf145.eelj m_GA r_GA (by decide +kernel) _).trans hqkc3
                                have hk : fr L R [(12, 1), (12, 28), (12, 29), (12, 33), (12, 35), (12, 36), (12, 37), (12, 38), (12, 39), (12, 60), (12, 61)] [12, 61, 68, 69, 70, 73, 74, 75, 76, 85, 86] f0 f145 := hk.tr hf145 rfl rfl
                                have hb110 : fr L R [(12, 28), (12, 29), (12, 35), (12, 36), (12, 37), (12, 38), (12, 39)] [12, 61, 68, 69, 70, 73, 74, 75, 76, 85, 86] f34 f145 := hb110.tr hf145 rfl rfl
                                have hb126 : fr L R [] [75, 86] f40 f145 := hb126.tr hf145 rfl rfl
                                have e146 : fld f145 a0 0 = .ref GA := (hf145.efl m_a0 r_a0 rfl).trans e77
                                have e147 : fld f145 a0 22 = .ref GP := (hf145.efl m_a0 r_a0 rfl).trans e78
                                have e148 : fld f145 a0 23 = .ref GL := (hf145.efl m_a0 r_a0 rfl).trans e79
                                have e149 : fld f145 a0 6 = .ref GT := (hf145.efl m_a0 r_a0 rfl).trans e80
                                refine lv_aload_n F.1 F.2.1 dX12_orders_143 rfl (lv_at hl 0 rfl) ?_
                                refine g_12_72 F h m_a0 r_a0 dX12_orders_144 (fun o150 m_o150 r_o150 ho150 => ?_)
                                refine lv_iload F.1 F.2.1 dX12_orders_147 (lv_at hl 8 rfl) ?_
                                refine lv_iload_n F.1 F.2.1 dX12_orders_149 rfl (lv_at hl 2 rfl) ?_
                                refine lv_aload_n F.1 F.2.1 dX12_orders_150 rfl (lv_at hl 0 rfl) ?_
                                refine g_12_118 F h m_a0 r_a0 dX12_orders_151 (fun o151 m_o151 r_o151 ho151 => ?_)
                                refine lv_iload F.1 F.2.1 dX12_orders_154 (lv_at hl 8 rfl) ?_
                                refine ld_86 F h m_o151 r_o151 (by omega) dX12_orders_156 (fun v152 hv152a hv152b => ?_)
                                refine tu_isub F dX12_orders_157 (by omega) (fun z153 hz153 => ?_)
                                refine st_75 F h m_o150 r_o150 (by omega) dX12_orders_158 (fun f154 H locs hf154 h => ?_)
                                have hR : RBA GA f154 := hR.fm hf154 m_GA r_GA (by decide +kernel)
                                have hX : GZ GP GL f154 := hX.fm hf154 m_GP r_GP m_GL r_GL (by decide +kernel) (by decide +kernel)
                                have hqkc0 : elj f154 GA 5159 = elj f0 GA 5159 := (hf154.eelj m_GA r_GA (by decide +kernel) _).trans hqkc0
                                have hqkc1 : elj f154 GA 10349 = elj f0 GA 10349 := (hf154.eelj m_GA r_GA (by decide +kernel) _).trans hqkc1
                                have hqkc2 : elj f154 GA 15539 = elj f0 GA 15539 := (hf154.eelj m_GA r_GA (by decide +kernel) _).trans hqkc2
                                have hqkc3 : elj f154 GA 20729 = elj f0 GA 20729 := (hf154.eelj m_GA r_GA (by decide +kernel) _).trans hqkc3
                                have hk : fr L R [(12, 1), (12, 28), (12, 29), (12, 33), (12, 35), (12, 36), (12, 37), (12, 38), (12, 39), (12, 60), (12, 61)] [12, 61, 68, 69, 70, 73, 74, 75, 76, 85, 86] f0 f154 := hk.tr hf154 rfl rfl
                                have hb110 : fr L R [(12, 28), (12, 29), (12, 35), (12, 36), (12, 37), (12, 38), (12, 39)] [12, 61, 68, 69, 70, 73, 74, 75, 76, 85, 86] f34 f154 := hb110.tr hf154 rfl rfl
                                have hb126 : fr L R [] [75, 86] f40 f154 := hb126.tr hf154 rfl rfl
                                have e155 : fld f154 a0 0 = .ref GA := (hf154.efl m_a0 r_a0 rfl).trans e146
                                have e156 : fld f154 a0 22 = .ref GP := (hf154.efl m_a0 r_a0 rfl).trans e147
                                have e157 : fld f154 a0 23 = .ref GL := (hf154.efl m_a0 r_a0 rfl).trans e148
                                have e158 : fld f154 a0 6 = .ref GT := (hf154.efl m_a0 r_a0 rfl).trans e149
                                refine lv_iload F.1 F.2.1 dX12_orders_159 (lv_at hl 7 rfl) ?_
                                refine tw_iconst F dX12_orders_161 ki_1 (fun z159 hz159 => ?_)
                                refine lv_aload_n F.1 F.2.1 dX12_orders_162 rfl (lv_at hl 0 rfl) ?_
                                refine g_12_118 F h m_a0 r_a0 dX12_orders_163 (fun o160 m_o160 r_o160 ho160 => ?_)
                                refine lv_iload F.1 F.2.1 dX12_orders_166 (lv_at hl 8 rfl) ?_
                                refine ld_86 F h m_o160 r_o160 (by omega) dX12_orders_168 (fun v161 hv161a hv161b => ?_)
                                refine lv_ishl F.1 F.2.1 dX12_orders_169 ?_
                                refine lv_topi (fun z162 _ => ?_)
                                refine lv_ior F.1 F.2.1 dX12_orders_170 ?_
                                refine lv_topi (fun z163 _ => ?_)
                                refine lv_istore (lv' := [(7, .int z163), (0, .ref a0), (1, .int x1), (2, .int z10), (3, .int x3_59), (4, .int x4_110), (5, .int x5_110), (6, .int x6_126), (8, .int x8_126)]) F.1 F.2.1 dX12_orders_171 hl (by decide) rfl (fun ls hl => ?_)
                                refine lv_iload F.1 F.2.1 dX12_orders_173 (lv_at hl 7 rfl) ?_
                                refine lv_iload_n F.1 F.2.1 dX12_orders_175 rfl (lv_at hl 3 rfl) ?_
                                refine tu_idiv F dX12_orders_176 (by omega) (fun z164 hz164a hz164b => ?_)
                                refine lv_istore (lv' := [(6, .int z164), (7, .int z163), (0, .ref a0), (1, .int x1), (2, .int z10), (3, .int x3_59), (4, .int x4_110), (5, .int x5_110), (8, .int x8_126)]) F.1 F.2.1 dX12_orders_177 hl (by decide) rfl (fun ls hl => ?_)
                                refine tu_iinc F dX12_orders_179 hl (k := 8) rfl (by decide) ki_1 (by omega) (fun z165 ls hz165 hl => ?_)
                                have hl : lv_has ls 10 [(8, .int z165), (6, .int z164), (7, .int z163), (0, .ref a0), (1, .int x1), (2, .int z10), (3, .int x3_59), (4, .int x4_110), (5, .int x5_110)] := hl
                                refine lv_goto (tgt := 126) F.1 F.2.1 dX12_orders_182 (by decide) ?_
                                exact ih126 f154 _ _ _ z164 z163 z165 (by omega) (by omega) (by omega) (by omega) h hR hX hqkc0 hqkc1 hqkc2 hqkc3 hk hb126 (lv_sub hl [3, 4, 5, 6, 7, 8, 1, 2, 0] rfl)
                          have hb126 : fr L R [] [75, 86] f40 f40 := fr.rf
                          exact j_126 (((6 - z71.toInt)).toNat + 1) f40 _ _ _ x5_110 z70 z71 (by omega) (by omega) (by omega) (by omega) h hR hX hqkc0 hqkc1 hqkc2 hqkc3 hk hb126 (lv_sub hl [3, 4, 5, 6, 7, 8, 2, 1, 0] rfl)
                    have hb110 : fr L R [(12, 28), (12, 29), (12, 35), (12, 36), (12, 37), (12, 38), (12, 39)] [12, 61, 68, 69, 70, 73, 74, 75, 76, 85, 86] f34 f34 := fr.rf
                    exact j_110 (((2147483647 - z39.toInt)).toNat + 1) f34 _ _ _ z21 z39 (by omega) (by omega) h hR hX hqkc0 hqkc1 hqkc2 hqkc3 hk hb110 (lv_sub hl [1, 2, 3, 4, 5, 0] rfl)
                  · refine lv_aload_n F.1 F.2.1 dX12_orders_88 rfl (lv_at hl 0 rfl) ?_
                    refine g_12_115 F h m_a0 r_a0 dX12_orders_89 (fun o166 m_o166 r_o166 ho166 => ?_)
                    refine lv_iload F.1 F.2.1 dX12_orders_92 (lv_at hl 5 rfl) ?_
                    refine tw_iconst F dX12_orders_94 ki_0 (fun z167 hz167 => ?_)
                    refine st_85 F h m_o166 r_o166 (by omega) dX12_orders_95 (fun f168 H locs hf168 h => ?_)
                    have hR : RBA GA f168 := hR.fm hf168 m_GA r_GA (by decide +kernel)
                    have hX : GZ GP GL f168 := hX.fm hf168 m_GP r_GP m_GL r_GL (by decide +kernel) (by decide +kernel)
                    have hqkc0 : elj f168 GA 5159 = elj f0 GA 5159 := (hf168.eelj m_GA r_GA (by decide +kernel) _).trans hqkc0
                    have hqkc1 : elj f168 GA 10349 = elj f0 GA 10349 := (hf168.eelj m_GA r_GA (by decide +kernel) _).trans hqkc1
                    have hqkc2 : elj f168 GA 15539 = elj f0 GA 15539 := (hf168.eelj m_GA r_GA (by decide +kernel) _).trans hqkc2
                    have hqkc3 : elj f168 GA 20729 = elj f0 GA 20729 := (hf168.eelj m_GA r_GA (by decide +kernel) _).trans hqkc3
                    have hk : fr L R [(12, 1), (12, 28), (12, 29), (12, 33), (12, 35), (12, 36), (12, 37), (12, 38), (12, 39), (12, 60), (12, 61)] [12, 61, 68, 69, 70, 73, 74, 75, 76, 85, 86] f0 f168 := hk.tr hf168 rfl rfl
                    have hb81 : fr L R [] [85] f0 f168 := hb81.tr hf168 rfl rfl
                    have e169 : fld f168 a0 0 = .ref GA := (hf168.efl m_a0 r_a0 rfl).trans e27
                    have e170 : fld f168 a0 22 = .ref GP := (hf168.efl m_a0 r_a0 rfl).trans e28
                    have e171 : fld f168 a0 23 = .ref GL := (hf168.efl m_a0 r_a0 rfl).trans e29
                    have e172 : fld f168 a0 6 = .ref GT := (hf168.efl m_a0 r_a0 rfl).trans e30
                    refine tu_iinc F dX12_orders_96 hl (k := 5) rfl (by decide) ki_1 (by omega) (fun z173 ls hz173 hl => ?_)
                    have hl : lv_has ls 10 [(5, .int z173), (0, .ref a0), (1, .int x1), (2, .int z10), (3, .int x3_59), (4, .int z21)] := hl
                    refine lv_goto (tgt := 81) F.1 F.2.1 dX12_orders_99 (by decide) ?_
                    exact ih81 f168 _ _ _ z173 (by omega) (by omega) (by omega) h hR hX hqkc0 hqkc1 hqkc2 hqkc3 hk hb81 (lv_sub hl [1, 2, 3, 4, 5, 0] rfl)
              have hb81 : fr L R [] [85] f0 f0 := fr.rf
              exact j_81 (((36 - z22.toInt)).toNat + 1) f0 _ _ _ z22 (by omega) (by omega) (by omega) h hR hX hqkc0 hqkc1 hqkc2 hqkc3 hk hb81 (lv_sub hl [2, 3, 4, 5, 1, 0] rfl)
            · refine lv_iload_n F.1 F.2.1 dX12_orders_65 rfl (lv_at hl 3 rfl) ?_
              refine lv_iload_n F.1 F.2.1 dX12_orders_66 rfl (lv_at hl 2 rfl) ?_
              refine lv_imul F.1 F.2.1 dX12_orders_67 ?_
              refine lv_topi (fun z174 _ => ?_)
              refine lv_istore_n (lv' := [(3, .int z174), (0, .ref a0), (1, .int x1), (2, .int z10), (4, .int x4_59)]) F.1 F.2.1 dX12_orders_68 rfl hl (by decide) rfl (fun ls hl => ?_)
              refine tu_iinc F dX12_orders_69 hl (k := 4) rfl (by decide) ki_1 (by omega) (fun z175 ls hz175 hl => ?_)
              have hl : lv_has ls 10 [(4, .int z175), (3, .int z174), (0, .ref a0), (1, .int x1), (2, .int z10)] := hl
              refine lv_goto (tgt := 59) F.1 F.2.1 dX12_orders_72 (by decide) ?_
              exact ih59 _ z174 z175 (by omega) (by omega) (by omega) (lv_sub hl [2, 3, 4, 1, 0] rfl)
        exact j_59 (((6 - z16.toInt)).toNat + 1) _ z15 z16 (by omega) (by omega) (by omega) (lv_sub hl [3, 4, 2, 1, 0] rfl)
      · refine lv_aload_n F.1 F.2.1 dX12_orders_47 rfl (lv_at hl 1 rfl) ?_
        refine tw_bipush F dX12_orders_48 kb_6 (fun z176 hz176 => ?_)
        refine tw_Vi (As := [.int z176]) F hZ h yk_X12_refuse mw_452 mw_453 mw_454 (s_X12_refuse l D cy L R O f0 a0 m_a0 r_a0 z176 ⟨by omega, by omega⟩) rfl rfl m_a0 r_a0 (fun e q => (T_12 e).mp q) rfl hl.1 rfl (Nat.le_of_ble_eq_true rfl) ⟨Nat.le_of_ble_eq_true rfl, Nat.le_of_ble_eq_true rfl⟩ ⟨Nat.le_of_ble_eq_true rfl, Nat.le_of_ble_eq_true rfl⟩ dX12_orders_50 (fun v178 f177 H locs hp177 h => ?_)
        obtain ⟨hf177, hv178a, hv178b⟩ := hp177
        have hR : RBA GA f177 := hR.fm hf177 m_GA r_GA (by decide +kernel)
        have hX : GZ GP GL f177 := hX.fm hf177 m_GP r_GP m_GL r_GL (by decide +kernel) (by decide +kernel)
        have hqkc0 : elj f177 GA 5159 = elj f0 GA 5159 := (hf177.eelj m_GA r_GA (by decide +kernel) _).trans hqkc0
        have hqkc1 : elj f177 GA 10349 = elj f0 GA 10349 := (hf177.eelj m_GA r_GA (by decide +kernel) _).trans hqkc1
        have hqkc2 : elj f177 GA 15539 = elj f0 GA 15539 := (hf177.eelj m_GA r_GA (by decide +kernel) _).trans hqkc2
        have hqkc3 : elj f177 GA 20729 = elj f0 GA 20729 := (hf177.eelj m_GA r_GA (by decide +kernel) _).trans hqkc3
        have hk : fr L R [(12, 1), (12, 28), (12, 29), (12, 33), (12, 35), (12, 36), (12, 37), (12, 38), (12, 39), (12, 60), (12, 61)] [12, 61, 68, 69, 70, 73, 74, 75, 76, 85, 86] f0 f177 := hk.tr hf177 rfl rfl
        have e179 : fld f177 a0 0 = .ref GA := (hf177.efl m_a0 r_a0 rfl).trans t_GA
        have e180 : fld f177 a0 22 = .ref GP := (hf177.efl m_a0 r_a0 rfl).trans t_GP
        have e181 : fld f177 a0 23 = .ref GL := (hf177.efl m_a0 r_a0 rfl).trans t_GL
        have e182 : fld f177 a0 6 = .ref GT := (hf177.efl m_a0 r_a0 rfl).trans t_GT
        exact hret f177 _ _ _ _ v178 dX12_orders_53 rfl ⟨hk, hR, hX, hqkc0, hqkc1, hqkc2, hqkc3⟩ h
    · refine lv_aload_n F.1 F.2.1 dX12_orders_34 rfl (lv_at hl 1 rfl) ?_
      refine tw_iconst F dX12_orders_35 ki_4 (fun z183 hz183 => ?_)
      refine tw_Vi (As := [.int z183]) F hZ h yk_X12_refuse mw_452 mw_453 mw_454 (s_X12_refuse l D cy L R O f0 a0 m_a0 r_a0 z183 ⟨by omega, by omega⟩) rfl rfl m_a0 r_a0 (fun e q => (T_12 e).mp q) rfl hl.1 rfl (Nat.le_of_ble_eq_true rfl) ⟨Nat.le_of_ble_eq_true rfl, Nat.le_of_ble_eq_true rfl⟩ ⟨Nat.le_of_ble_eq_true rfl, Nat.le_of_ble_eq_true rfl⟩ dX12_orders_36 (fun v185 f184 H locs hp184 h => ?_)
      obtain ⟨hf184, hv185a, hv185b⟩ := hp184
      have hR : RBA GA f184 := hR.fm hf184 m_GA r_GA (by decide +kernel)
      have hX : GZ GP GL f184 := hX.fm hf184 m_GP r_GP m_GL r_GL (by decide +kernel) (by decide +kernel)
      have hqkc0 : elj f184 GA 5159 = elj f0 GA 5159 := (hf184.eelj m_GA r_GA (by decide +kernel) _).trans hqkc0
      have hqkc1 : elj f184 GA 10349 = elj f0 GA 10349 := (hf184.eelj m_GA r_GA (by decide +kernel) _).trans hqkc1
      have hqkc2 : elj f184 GA 15539 = elj f0 GA 15539 := (hf184.eelj m_GA r_GA (by decide +kernel) _).trans hqkc2
      have hqkc3 : elj f184 GA 20729 = elj f0 GA 20729 := (hf184.eelj m_GA r_GA (by decide +kernel) _).trans hqkc3
      have hk : fr L R [(12, 1), (12, 28), (12, 29), (12, 33), (12, 35), (12, 36), (12, 37), (12, 38), (12, 39), (12, 60), (12, 61)] [12, 61, 68, 69, 70, 73, 74, 75, 76, 85, 86] f0 f184 := hk.tr hf184 rfl rfl
      have e186 : fld f184 a0 0 = .ref GA := (hf184.efl m_a0 r_a0 rfl).trans t_GA
      have e187 : fld f184 a0 22 = .ref GP := (hf184.efl m_a0 r_a0 rfl).trans t_GP
      have e188 : fld f184 a0 23 = .ref GL := (hf184.efl m_a0 r_a0 rfl).trans t_GL
      have e189 : fld f184 a0 6 = .ref GT := (hf184.efl m_a0 r_a0 rfl).trans t_GT
      exact hret f184 _ _ _ _ v185 dX12_orders_39 rfl ⟨hk, hR, hX, hqkc0, hqkc1, hqkc2, hqkc3⟩ h
  · refine lv_aload_n F.1 F.2.1 dX12_orders_8 rfl (lv_at hl 0 rfl) ?_
    refine tw_iconst F dX12_orders_9 ki_1 (fun z190 hz190 => ?_)
    refine tw_Vi (As := [.int z190]) F hZ h yk_X12_refuse mw_452 mw_453 mw_454 (s_X12_refuse l D cy L R O f0 a0 m_a0 r_a0 z190 ⟨by omega, by omega⟩) rfl rfl m_a0 r_a0 (fun e q => (T_12 e).mp q) rfl hl.1 rfl (Nat.le_of_ble_eq_true rfl) ⟨Nat.le_of_ble_eq_true rfl, Nat.le_of_ble_eq_true rfl⟩ ⟨Nat.le_of_ble_eq_true rfl, Nat.le_of_ble_eq_true rfl⟩ dX12_orders_10 (fun v192 f191 H locs hp191 h => ?_)
    obtain ⟨hf191, hv192a, hv192b⟩ := hp191
    have hR : RBA GA f191 := hR.fm hf191 m_GA r_GA (by decide +kernel)
    have hX : GZ GP GL f191 := hX.fm hf191 m_GP r_GP m_GL r_GL (by decide +kernel) (by decide +kernel)
    have hqkc0 : elj f191 GA 5159 = elj f0 GA 5159 := (hf191.eelj m_GA r_GA (by decide +kernel) _).trans hqkc0
    have hqkc1 : elj f191 GA 10349 = elj f0 GA 10349 := (hf191.eelj m_GA r_GA (by decide +kernel) _).trans hqkc1
    have hqkc2 : elj f191 GA 15539 = elj f0 GA 15539 := (hf191.eelj m_GA r_GA (by decide +kernel) _).trans hqkc2
    have hqkc3 : elj f191 GA 20729 = elj f0 GA 20729 := (hf191.eelj m_GA r_GA (by decide +kernel) _).trans hqkc3
    have hk : fr L R [(12, 1), (12, 28), (12, 29), (12, 33), (12, 35), (12, 36), (12, 37), (12, 38), (12, 39), (12, 60), (12, 61)] [12, 61, 68, 69, 70, 73, 74, 75, 76, 85, 86] f0 f191 := hk.tr hf191 rfl rfl
    have e193 : fld f191 a0 0 = .ref GA := (hf191.efl m_a0 r_a0 rfl).trans t_GA
    have e194 : fld f191 a0 22 = .ref GP := (hf191.efl m_a0 r_a0 rfl).trans t_GP
    have e195 : fld f191 a0 23 = .ref GL := (hf191.efl m_a0 r_a0 rfl).trans t_GL
    have e196 : fld f191 a0 6 = .ref GT := (hf191.efl m_a0 r_a0 rfl).trans t_GT
    exact hret f191 _ _ _ _ v192 dX12_orders_13 rfl ⟨hk, hR, hX, hqkc0, hqkc1, hqkc2, hqkc3⟩ h
