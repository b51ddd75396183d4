def rm_X12_beginC : Room := { frames := 1, cells := 0, slots := 0, locals := 22 }
set_option maxHeartbeats 4000000 in
set_option maxRecDepth 100000 in
theorem s_X12_beginC (l : Launch) (D : va_G) (cy : Nat → ClassId) (L : List Nat) (R O : Nat → Nat) (f0 : Nat → va_E) (a0 : Nat) (m_a0 : a0 ∈ L) (r_a0 : R a0 = 12) (x1 : Int32) (GA : Nat) (m_GA : GA ∈ L) (r_GA : R GA = 61) (t_GA : fld f0 a0 0 = .ref GA) (GP : Nat) (m_GP : GP ∈ L) (r_GP : R GP = 69) (t_GP : fld f0 a0 22 = .ref GP) (GL : Nat) (m_GL : GL ∈ L) (r_GL : R GL = 70) (t_GL : fld f0 a0 23 = .ref GL) (GT : Nat) (m_GT : GT ∈ L) (r_GT : R GT = 64) (t_GT : fld f0 a0 6 = .ref GT) (pre0 : RBA GA f0) (pre1 : GZ GP GL f0) : ∀ sz, Met l yX12_begin (Cond.code yX12_begin cX12_begin 2 (some .boolean) :: wsL_law) rm_X12_beginC (va_Pc [.ref a0, .int x1] (tPZ D cy L R (TT cy L R) f0 sz)) (va_Qi (fun (r : Int32) f1 => fr L R [(12, 1)] [12, 61] f0 f1 ∧ 0 ≤ r.toInt ∧ r.toInt ≤ 1 ∧ RBA GA f1 ∧ GZ GP GL f1 ∧ elj f1 GA 5159 = elj f0 GA 5159 ∧ elj f1 GA 10349 = elj f0 GA 10349 ∧ elj f1 GA 15539 = elj f0 GA 15539 ∧ elj f1 GA 20729 = elj f0 GA 20729) (tB D (tA L sz) L R (TT cy L R)) (tA L sz)) 0 0 (tA L sz) := by
  refine tw_enteri (by decide +kernel) rfl (Nat.le_of_ble_eq_true rfl) ?_
  intro p e s m below meth c A ls args Q F hZ h hl hret
  have hl : lv_has ls 2 [(0, .ref a0), (1, .int x1)] := hl
  have hk : fr L R [(12, 1)] [12, 61] f0 f0 := fr.rf
  have hR := pre0
  have hX := pre1
  have hqkc0 : elj f0 GA 5159 = elj f0 GA 5159 := rfl
  have hqkc1 : elj f0 GA 10349 = elj f0 GA 10349 := rfl
  have hqkc2 : elj f0 GA 15539 = elj f0 GA 15539 := rfl
  have hqkc3 : elj f0 GA 20729 = elj f0 GA 20729 := rfl
  refine lv_aload_n F.1 F.2.1 dX12_begin_0 rfl (lv_at hl 0 rfl) ?_
  refine lv_iload_n F.1 F.2.1 dX12_begin_1 rfl (lv_at hl 1 rfl) ?_
  refine tw_Vi (As := [.int x1]) F hZ h yk_X12_isScript mw_635 mw_636 mw_637 (s_X12_isScript l D cy L R O f0 a0 m_a0 r_a0 x1) rfl rfl m_a0 r_a0 (fun e q => (T_12 e).mp q) rfl hl.1 rfl (Nat.le_of_ble_eq_true rfl) ⟨Nat.le_of_ble_eq_true rfl, Nat.le_of_ble_eq_true rfl⟩ ⟨Nat.le_of_ble_eq_true rfl, Nat.le_of_ble_eq_true rfl⟩ dX12_begin_2 (fun v2 f1 H locs hp1 h => ?_)
  obtain ⟨rfl, hv2a, hv2b, hv2p0⟩ := hp1
  refine tw_if_ne (tgt := 14) F dX12_begin_5 (by decide) (fun b3 => ?_) (fun b3 => ?_)
  · refine lv_aload_n F.1 F.2.1 dX12_begin_14 rfl (lv_at hl 0 rfl) ?_
    refine tw_sipush F dX12_begin_15 ks_1650 (fun z4 hz4 => ?_)
    refine lv_iload_n F.1 F.2.1 dX12_begin_18 rfl (lv_at hl 1 rfl) ?_
    refine tu_imull F dX12_begin_19 hz4 (by omega) (fun z5 hz5 => ?_)
    refine tw_Vv (As := [.int z5]) F hZ h yk_X12_fresh mw_745 mw_746 mw_747 (s_X12_fresh l D cy L R O f0 a0 m_a0 r_a0 z5 ⟨by omega, by omega⟩ GA m_GA r_GA t_GA GP m_GP r_GP t_GP GL m_GL r_GL t_GL GT m_GT r_GT t_GT (isB_e (isB_s (show x1.toInt.toNat ≤ 2 by omega)) (by omega))) rfl rfl m_a0 r_a0 (fun e q => (T_12 e).mp q) rfl hl.1 rfl (Nat.le_of_ble_eq_true rfl) ⟨Nat.le_of_ble_eq_true rfl, Nat.le_of_ble_eq_true rfl⟩ ⟨Nat.le_of_ble_eq_true rfl, Nat.le_of_ble_eq_true rfl⟩ dX12_begin_20 (fun f6 H locs hp6 h => ?_)
    obtain ⟨hf6, hv7p0⟩ := hp6
    have hR : RBA GA f6 := hR.kw hv7p0 (Or.inr (Or.inr ⟨x1.toInt.toNat, by omega, by omega, by omega⟩))
    have hX : GZ GP GL f6 := hX.fm hf6 m_GP r_GP m_GL r_GL (by decide +kernel) (by decide +kernel)
    have hqkc0 : elj f6 GA 5159 = elj f0 GA 5159 := (hv7p0 _ (by omega)).trans hqkc0
    have hqkc1 : elj f6 GA 10349 = elj f0 GA 10349 := (hv7p0 _ (by omega)).trans hqkc1
    have hqkc2 : elj f6 GA 15539 = elj f0 GA 15539 := (hv7p0 _ (by omega)).trans hqkc2
    have hqkc3 : elj f6 GA 20729 = elj f0 GA 20729 := (hv7p0 _ (by omega)).trans hqkc3
    have hk : fr L R [(12, 1)] [12, 61] f0 f6 := hk.tr hf6 rfl rfl
    have e8 : fld f6 a0 0 = .ref GA := (hf6.efl m_a0 r_a0 rfl).trans t_GA
    have e9 : fld f6 a0 22 = .ref GP := (hf6.efl m_a0 r_a0 rfl).trans t_GP
    have e10 : fld f6 a0 23 = .ref GL := (hf6.efl m_a0 r_a0 rfl).trans t_GL
    have e11 : fld f6 a0 6 = .ref GT := (hf6.efl m_a0 r_a0 rfl).trans t_GT
    refine lv_aload_n F.1 F.2.1 dX12_begin_23 rfl (lv_at hl 0 rfl) ?_
    refine tw_iconst F dX12_begin_24 ki_0 (fun z12 hz12 => ?_)
    refine tw_Vi (As := [.int z12]) F hZ h yk_X12_is mw_286 mw_287 mw_288 (s_X12_is l D cy L R O f6 a0 m_a0 r_a0 z12 ⟨by omega, by omega⟩) rfl rfl m_a0 r_a0 (fun e q => (T_12 e).mp q) rfl hl.1 rfl (Nat.le_of_ble_eq_true rfl) ⟨Nat.le_of_ble_eq_true rfl, Nat.le_of_ble_eq_true rfl⟩ ⟨Nat.le_of_ble_eq_true rfl, Nat.le_of_ble_eq_true rfl⟩ dX12_begin_25 (fun v14 f13 H locs hp13 h => ?_)
    obtain ⟨hf13, hv14a, hv14b, hv14p0⟩ := hp13
    have hR : RBA GA f13 := hR.fm hf13 m_GA r_GA (by decide +kernel)
    have hX : GZ GP GL f13 := hX.fm hf13 m_GP r_GP m_GL r_GL (by decide +kernel) (by decide +kernel)
    have hqkc0 : elj f13 GA 5159 = elj f0 GA 5159 := (hf13.eelj m_GA r_GA (by decide +kernel) _).trans hqkc0
    have hqkc1 : elj f13 GA 10349 = elj f0 GA 10349 := (hf13.eelj m_GA r_GA (by decide +kernel) _).trans hqkc1
    have hqkc2 : elj f13 GA 15539 = elj f0 GA 15539 := (hf13.eelj m_GA r_GA (by decide +kernel) _).trans hqkc2
    have hqkc3 : elj f13 GA 20729 = elj f0 GA 20729 := (hf13.eelj m_GA r_GA (by decide +kernel) _).trans hqkc3
    have hk : fr L R [(12, 1)] [12, 61] f0 f13 := hk.tr hf13 rfl rfl
    have e15 : fld f13 a0 0 = .ref GA := (hf13.efl m_a0 r_a0 rfl).trans e8
    have e16 : fld f13 a0 22 = .ref GP := (hf13.efl m_a0 r_a0 rfl).trans e9
    have e17 : fld f13 a0 23 = .ref GL := (hf13.efl m_a0 r_a0 rfl).trans e10
    have e18 : fld f13 a0 6 = .ref GT := (hf13.efl m_a0 r_a0 rfl).trans e11
    exact hret f13 _ _ _ _ v14 dX12_begin_28 (tw_nb (by omega)) ⟨hk, by omega, by omega, hR, hX, hqkc0, hqkc1, hqkc2, hqkc3⟩ h
  · refine lv_aload_n F.1 F.2.1 dX12_begin_8 rfl (lv_at hl 0 rfl) ?_
    refine tw_iconst F dX12_begin_9 ki_1 (fun z19 hz19 => ?_)
    refine tw_Vi (As := [.int z19]) F hZ h yk_X12_is mw_286 mw_287 mw_288 (s_X12_is l D cy L R O f0 a0 m_a0 r_a0 z19 ⟨by omega, by omega⟩) rfl rfl m_a0 r_a0 (fun e q => (T_12 e).mp q) rfl hl.1 rfl (Nat.le_of_ble_eq_true rfl) ⟨Nat.le_of_ble_eq_true rfl, Nat.le_of_ble_eq_true rfl⟩ ⟨Nat.le_of_ble_eq_true rfl, Nat.le_of_ble_eq_true rfl⟩ dX12_begin_10 (fun v21 f20 H locs hp20 h => ?_)
    obtain ⟨hf20, hv21a, hv21b, hv21p0⟩ := hp20
    have hR : RBA GA f20 := hR.fm hf20 m_GA r_GA (by decide +kernel)
    have hX : GZ GP GL f20 := hX.fm hf20 m_GP r_GP m_GL r_GL (by decide +kernel) (by decide +kernel)
    have hqkc0 : elj f20 GA 5159 = elj f0 GA 5159 := (hf20.eelj m_GA r_GA (by decide +kernel) _).trans hqkc0
    have hqkc1 : elj f20 GA 10349 = elj f0 GA 10349 := (hf20.eelj m_GA r_GA (by decide +kernel) _).trans hqkc1
    have hqkc2 : elj f20 GA 15539 = elj f0 GA 15539 := (hf20.eelj m_GA r_GA (by decide +kernel) _).trans hqkc2
    have hqkc3 : elj f20 GA 20729 = elj f0 GA 20729 := (hf20.eelj m_GA r_GA (by decide +kernel) _).trans hqkc3
    have hk : fr L R [(12, 1)] [12, 61] f0 f20 := hk.tr hf20 rfl rfl
    have e22 : fld f20 a0 0 = .ref GA := (hf20.efl m_a0 r_a0 rfl).trans t_GA
    have e23 : fld f20 a0 22 = .ref GP := (hf20.efl m_a0 r_a0 rfl).trans t_GP
    have e24 : fld f20 a0 23 = .ref GL := (hf20.efl m_a0 r_a0 rfl).trans t_GL
    have e25 : fld f20 a0 6 = .ref GT := (hf20.efl m_a0 r_a0 rfl).trans t_GT
    exact hret f20 _ _ _ _ v21 dX12_begin_13 (tw_nb (by omega)) ⟨hk, by omega, by omega, hR, hX, hqkc0, hqkc1, hqkc2, hqkc3⟩ h
def rm_X12_sayC : Room := { frames := 6, cells := 0, slots := 0, locals := 150 }
set_option maxHeartbeats 4000000 in
set_option maxRecDepth 100000 in
theorem s_X12_sayC (l : Launch) (D : va_G) (cy : Nat → ClassId) (L : List Nat) (R O : Nat → Nat) (f0 : Nat → va_E) (a0 : Nat) (m_a0 : a0 ∈ L) (r_a0 : R a0 = 12) (x1 : Int32) (x2 : Int32) (GA : Nat) (m_GA : GA ∈ L) (r_GA : R GA = 61) (t_GA : fld f0 a0 0 = .ref GA) (GP : Nat) (m_GP : GP ∈ L) (r_GP : R GP = 69) (t_GP : fld f0 a0 22 = .ref GP) (GL : Nat) (m_GL : GL ∈ L) (r_GL : R GL = 70) (t_GL : fld f0 a0 23 = .ref GL) (GT : Nat) (m_GT : GT ∈ L) (r_GT : R GT = 64) (t_GT : fld f0 a0 6 = .ref GT) (pre0 : RBA GA f0) (pre1 : GZ GP GL f0) : ∀ sz, Met l yX12_say (Cond.code yX12_say cX12_say 4 (some .int) :: wsL_law) rm_X12_sayC (va_Pc [.ref a0, .int x1, .int x2] (tPZ D cy L R (TT cy L R) f0 sz)) (va_Qi (fun (r : Int32) f1 => fr L R [(12, 1), (12, 28), (12, 29), (12, 35), (12, 36), (12, 37), (12, 38), (12, 39), (12, 42), (12, 43), (12, 44), (12, 45), (12, 46), (12, 47)] [12, 61, 68, 69, 70, 73, 74, 76, 77] f0 f1 ∧ RBA GA f1 ∧ GZ GP GL f1 ∧ elj f1 GA 5159 = elj f0 GA 5159 ∧ elj f1 GA 10349 = elj f0 GA 10349 ∧ elj f1 GA 15539 = elj f0 GA 15539 ∧ elj f1 GA 20729 = elj f0 GA 20729) (tB D (tA L sz) L R (TT cy L R)) (tA L sz)) 0 0 (tA L sz) := by
  refine tw_enteri (by decide +kernel) rfl (Nat.le_of_ble_eq_true rfl) ?_
  intro p e s m below meth c A ls args Q F hZ h hl hret
  have hl : lv_has ls 4 [(0, .ref a0), (1, .int x1), (2, .int x2)] := hl
  have hk : fr L R [(12, 1), (12, 28), (12, 29), (12, 35), (12, 36), (12, 37), (12, 38), (12, 39), (12, 42), (12, 43), (12, 44), (12, 45), (12, 46), (12, 47)] [12, 61, 68, 69, 70, 73, 74, 76, 77] f0 f0 := fr.rf
  have hR := pre0
  have hX := pre1
  have hqkc0 : elj f0 GA 5159 = elj f0 GA 5159 := rfl
  have hqkc1 : elj f0 GA 10349 = elj f0 GA 10349 := rfl
  have hqkc2 : elj f0 GA 15539 = elj f0 GA 15539 := rfl
  have hqkc3 : elj f0 GA 20729 = elj f0 GA 20729 := rfl
  refine lv_aload_n F.1 F.2.1 dX12_say_0 rfl (lv_at hl 0 rfl) ?_
  refine lv_iload_n F.1 F.2.1 dX12_say_1 rfl (lv_at hl 1 rfl) ?_
  refine tw_Vi (As := [.int x1]) F hZ h yk_X12_isScript mw_635 mw_636 mw_637 (s_X12_isScript l D cy L R O f0 a0 m_a0 r_a0 x1) rfl rfl m_a0 r_a0 (fun e q => (T_12 e).mp q) rfl hl.1 rfl (Nat.le_of_ble_eq_true rfl) ⟨Nat.le_of_ble_eq_true rfl, Nat.le_of_ble_eq_true rfl⟩ ⟨Nat.le_of_ble_eq_true rfl, Nat.le_of_ble_eq_true rfl⟩ dX12_say_2 (fun v2 f1 H locs hp1 h => ?_)
  obtain ⟨rfl, hv2a, hv2b, hv2p0⟩ := hp1
  refine tw_if_eq (tgt := 17) F dX12_say_5 (by decide) (fun b3 => ?_) (fun b3 => ?_)
  · refine lv_aload_n F.1 F.2.1 dX12_say_17 rfl (lv_at hl 0 rfl) ?_
    refine tw_iconst F dX12_say_18 ki_1 (fun z4 hz4 => ?_)
    refine tw_Vi (As := [.int z4]) F hZ h yk_X12_refuse mw_452 mw_453 mw_454 (s_X12_refuse l D cy L R O f0 a0 m_a0 r_a0 z4 ⟨by omega, by omega⟩) rfl rfl m_a0 r_a0 (fun e q => (T_12 e).mp q) rfl hl.1 rfl (Nat.le_of_ble_eq_true rfl) ⟨Nat.le_of_ble_eq_true rfl, Nat.le_of_ble_eq_true rfl⟩ ⟨Nat.le_of_ble_eq_true rfl, Nat.le_of_ble_eq_true rfl⟩ dX12_say_19 (fun v6 f5 H locs hp5 h => ?_)
    obtain ⟨hf5, hv6a, hv6b⟩ := hp5
    have hR : RBA GA f5 := hR.fm hf5 m_GA r_GA (by decide +kernel)
    have hX : GZ GP GL f5 := hX.fm hf5 m_GP r_GP m_GL r_GL (by decide +kernel) (by decide +kernel)
    have hqkc0 : elj f5 GA 5159 = elj f0 GA 5159 := (hf5.eelj m_GA r_GA (by decide +kernel) _).trans hqkc0
    have hqkc1 : elj f5 GA 10349 = elj f0 GA 10349 := (hf5.eelj m_GA r_GA (by decide +kernel) _).trans hqkc1
    have hqkc2 : elj f5 GA 15539 = elj f0 GA 15539 := (hf5.eelj m_GA r_GA (by decide +kernel) _).trans hqkc2
    have hqkc3 : elj f5 GA 20729 = elj f0 GA 20729 := (hf5.eelj m_GA r_GA (by decide +kernel) _).trans hqkc3
    have hk : fr L R [(12, 1), (12, 28), (12, 29), (12, 35), (12, 36), (12, 37), (12, 38), (12, 39), (12, 42), (12, 43), (12, 44), (12, 45), (12, 46), (12, 47)] [12, 61, 68, 69, 70, 73, 74, 76, 77] f0 f5 := hk.tr hf5 rfl rfl
    have e7 : fld f5 a0 0 = .ref GA := (hf5.efl m_a0 r_a0 rfl).trans t_GA
    have e8 : fld f5 a0 22 = .ref GP := (hf5.efl m_a0 r_a0 rfl).trans t_GP
    have e9 : fld f5 a0 23 = .ref GL := (hf5.efl m_a0 r_a0 rfl).trans t_GL
    have e10 : fld f5 a0 6 = .ref GT := (hf5.efl m_a0 r_a0 rfl).trans t_GT
    exact hret f5 _ _ _ _ v6 dX12_say_22 rfl ⟨hk, hR, hX, hqkc0, hqkc1, hqkc2, hqkc3⟩ h
  · refine lv_aload_n F.1 F.2.1 dX12_say_8 rfl (lv_at hl 0 rfl) ?_
    refine lv_iload_n F.1 F.2.1 dX12_say_9 rfl (lv_at hl 2 rfl) ?_
    refine tu_i2l F dX12_say_10 (fun z11 hz11 hz11a hz11b => ?_)
    refine tw_Vi (As := [.long z11]) F hZ h yk_X12_isLine mw_797 mw_798 mw_799 (s_X12_isLine l D cy L R O f0 a0 m_a0 r_a0 z11) rfl rfl m_a0 r_a0 (fun e q => (T_12 e).mp q) rfl hl.1 rfl (Nat.le_of_ble_eq_true rfl) ⟨Nat.le_of_ble_eq_true rfl, Nat.le_of_ble_eq_true rfl⟩ ⟨Nat.le_of_ble_eq_true rfl, Nat.le_of_ble_eq_true rfl⟩ dX12_say_11 (fun v13 f12 H locs hp12 h => ?_)
    obtain ⟨rfl, hv13a, hv13b, hv13p0⟩ := hp12
    refine tw_if_ne (tgt := 23) F dX12_say_14 (by decide) (fun b14 => ?_) (fun b14 => ?_)
    · refine lv_aload_n F.1 F.2.1 dX12_say_23 rfl (lv_at hl 0 rfl) ?_
      refine lv_aload_n F.1 F.2.1 dX12_say_24 rfl (lv_at hl 0 rfl) ?_
      refine lv_iload_n F.1 F.2.1 dX12_say_25 rfl (lv_at hl 2 rfl) ?_
      refine tw_Vi (As := [.int x2]) F hZ h yk_X12_lineAt mw_495 mw_496 mw_497 (s_X12_lineAt l D cy L R O f0 a0 m_a0 r_a0 x2 ⟨by omega, by omega⟩) rfl rfl m_a0 r_a0 (fun e q => (T_12 e).mp q) rfl hl.1 rfl (Nat.le_of_ble_eq_true rfl) ⟨Nat.le_of_ble_eq_true rfl, Nat.le_of_ble_eq_true rfl⟩ ⟨Nat.le_of_ble_eq_true rfl, Nat.le_of_ble_eq_true rfl⟩ dX12_say_26 (fun v16 f15 H locs hp15 h => ?_)
      obtain ⟨rfl, hv16a, hv16b, hv16p0⟩ := hp15
      refine tw_Vv (As := [.int v16]) F hZ h yk_X12_hears mw_890 mw_891 mw_892 (s_X12_hears l D cy L R O f0 a0 m_a0 r_a0 v16 ⟨by omega, by omega⟩ (ac_l (by omega))) rfl rfl m_a0 r_a0 (fun e q => (T_12 e).mp q) rfl hl.1 rfl (Nat.le_of_ble_eq_true rfl) ⟨Nat.le_of_ble_eq_true rfl, Nat.le_of_ble_eq_true rfl⟩ ⟨Nat.le_of_ble_eq_true rfl, Nat.le_of_ble_eq_true rfl⟩ dX12_say_29 (fun f17 H locs hp17 h => ?_)
      have hf17 := hp17
      have hR : RBA GA f17 := hR.fm hf17 m_GA r_GA (by decide +kernel)
      have hX : GZ GP GL f17 := hX.fm hf17 m_GP r_GP m_GL r_GL (by decide +kernel) (by decide +kernel)
      have hqkc0 : elj f17 GA 5159 = elj f0 GA 5159 := (hf17.eelj m_GA r_GA (by decide +kernel) _).trans hqkc0
      have hqkc1 : elj f17 GA 10349 = elj f0 GA 10349 := (hf17.eelj m_GA r_GA (by decide +kernel) _).trans hqkc1
      have hqkc2 : elj f17 GA 15539 = elj f0 GA 15539 := (hf17.eelj m_GA r_GA (by decide +kernel) _).trans hqkc2
      have hqkc3 : elj f17 GA 20729 = elj f0 GA 20729 := (hf17.eelj m_GA r_GA (by decide +kernel) _).trans hqkc3
      have hk : fr L R [(12, 1), (12, 28), (12, 29), (12, 35), (12, 36), (12, 37), (12, 38), (12, 39), (12, 42), (12, 43), (12, 44), (12, 45), (12, 46), (12, 47)] [12, 61, 68, 69, 70, 73, 74, 76, 77] f0 f17 := hk.tr hf17 rfl rfl
      have e19 : fld f17 a0 0 = .ref GA := (hf17.efl m_a0 r_a0 rfl).trans t_GA
      have e20 : fld f17 a0 22 = .ref GP := (hf17.efl m_a0 r_a0 rfl).trans t_GP
      have e21 : fld f17 a0 23 = .ref GL := (hf17.efl m_a0 r_a0 rfl).trans t_GL
      have e22 : fld f17 a0 6 = .ref GT := (hf17.efl m_a0 r_a0 rfl).trans t_GT
      refine lv_aload_n F.1 F.2.1 dX12_say_32 rfl (lv_at hl 0 rfl) ?_
      refine tw_sipush F dX12_say_33 ks_1650 (fun z23 hz23 => ?_)
      refine lv_iload_n F.1 F.2.1 dX12_say_36 rfl (lv_at hl 1 rfl) ?_
      refine tu_imull F dX12_say_37 hz23 (by omega) (fun z24 hz24 => ?_)
      refine tw_Vv (As := [.int z24]) F hZ h yk_X12_answers0 mw_1057 mw_1058 mw_1059 (s_X12_answers0 l D cy L R O f17 a0 m_a0 r_a0 z24 ⟨by omega, by omega⟩ GA m_GA r_GA e19 GP m_GP r_GP e20 GL m_GL r_GL e21 GT m_GT r_GT e22 (isB_e (isB_s (show x1.toInt.toNat ≤ 2 by omega)) (by omega)) (by rw [show z24.toInt.toNat = 1650 * x1.toInt.toNat by omega]; exact hR.s (by omega)) hX) rfl rfl m_a0 r_a0 (fun e q => (T_12 e).mp q) rfl hl.1 rfl (Nat.le_of_ble_eq_true rfl) ⟨Nat.le_of_ble_eq_true rfl, Nat.le_of_ble_eq_true rfl⟩ ⟨Nat.le_of_ble_eq_true rfl, Nat.le_of_ble_eq_true rfl⟩ dX12_say_38 (fun f25 H locs hp25 h => ?_)
      obtain ⟨hf25, hv26p0, hv26p1⟩ := hp25
      have hR : RBA GA f25 := hR.kw hv26p1 (Or.inr (Or.inr ⟨x1.toInt.toNat, by omega, by omega, by omega⟩))
      have hX : GZ GP GL f25 := hv26p0
      have hqkc0 : elj f25 GA 5159 = elj f0 GA 5159 := (hv26p1 _ (by omega)).trans hqkc0
      have hqkc1 : elj f25 GA 10349 = elj f0 GA 10349 := (hv26p1 _ (by omega)).trans hqkc1
      have hqkc2 : elj f25 GA 15539 = elj f0 GA 15539 := (hv26p1 _ (by omega)).trans hqkc2
      have hqkc3 : elj f25 GA 20729 = elj f0 GA 20729 := (hv26p1 _ (by omega)).trans hqkc3
      have hk : fr L R [(12, 1), (12, 28), (12, 29), (12, 35), (12, 36), (12, 37), (12, 38), (12, 39), (12, 42), (12, 43), (12, 44), (12, 45), (12, 46), (12, 47)] [12, 61, 68, 69, 70, 73, 74, 76, 77] f0 f25 := hk.tr hf25 (by decide +kernel) (by decide +kernel)
      have e27 : fld f25 a0 0 = .ref GA := (hf25.efl m_a0 r_a0 rfl).trans e19
      have e28 : fld f25 a0 22 = .ref GP := (hf25.efl m_a0 r_a0 rfl).trans e20
      have e29 : fld f25 a0 23 = .ref GL := (hf25.efl m_a0 r_a0 rfl).trans e21
      have e30 : fld f25 a0 6 = .ref GT := (hf25.efl m_a0 r_a0 rfl).trans e22
      refine lv_aload_n F.1 F.2.1 dX12_say_41 rfl (lv_at hl 0 rfl) ?_
      refine lv_aload_n F.1 F.2.1 dX12_say_42 rfl (lv_at hl 0 rfl) ?_
      refine g_12_324 F h m_a0 r_a0 dX12_say_43 (fun v31 hv31 hv31a hv31b => ?_)
      refine p_12_390 F h m_a0 r_a0 (by omega) dX12_say_46 (fun f32 H locs e32p hf32 h => ?_)
      have hR : RBA GA f32 := hR.fm hf32 m_GA r_GA (by decide +kernel)
      have hX : GZ GP GL f32 := hX.fm hf32 m_GP r_GP m_GL r_GL (by decide +kernel) (by decide +kernel)
      have hqkc0 : elj f32 GA 5159 = elj f0 GA 5159 := (hf32.eelj m_GA r_GA (by decide +kernel) _).trans hqkc0
      have hqkc1 : elj f32 GA 10349 = elj f0 GA 10349 := (hf32.eelj m_GA r_GA (by decide +kernel) _).trans hqkc1
      have hqkc2 : elj f32 GA 15539 = elj f0 GA 15539 := (hf32.eelj m_GA r_GA (by decide +kernel) _).trans hqkc2
      have hqkc3 : elj f32 GA 20729 = elj f0 GA 20729 := (hf32.eelj m_GA r_GA (by decide +kernel) _).trans hqkc3
      have hk : fr L R [(12, 1), (12, 28), (12, 29), (12, 35), (12, 36), (12, 37), (12, 38), (12, 39), (12, 42), (12, 43), (12, 44), (12, 45), (12, 46), (12, 47)] [12, 61, 68, 69, 70, 73, 74, 76, 77] f0 f32 := hk.tr hf32 rfl rfl
      have e33 : fld f32 a0 0 = .ref GA := (hf32.efl m_a0 r_a0 rfl).trans e27
      have e34 : fld f32 a0 22 = .ref GP := (hf32.efl m_a0 r_a0 rfl).trans e28
      have e35 : fld f32 a0 23 = .ref GL := (hf32.efl m_a0 r_a0 rfl).trans e29
      have e36 : fld f32 a0 6 = .ref GT := (hf32.efl m_a0 r_a0 rfl).trans e30
      have e37 : fi f32 a0 29 = fi f25 a0 29 := hf32.efi m_a0 r_a0 rfl
      refine tw_iconst F dX12_say_49 ki_0 (fun z38 hz38 => ?_)
      refine lv_istore_n (lv' := [(3, .int z38), (0, .ref a0), (1, .int x1), (2, .int x2)]) F.1 F.2.1 dX12_say_50 rfl hl (by decide) rfl (fun ls hl => ?_)
      have j_51 : ∀ (n51 : Nat) (f39 : Nat → va_E) (H : Heap) (locs : List Loc) (ls : Array Slot) (x3_51 : Int32), 0 ≤ x3_51.toInt → x3_51.toInt ≤ 12 → ((12 - x3_51.toInt)).toNat < n51 → tS D cy A s.heap L R (TT cy L R) f39 s H locs → RBA GA f39 → GZ GP GL f39 → elj f39 GA 5159 = elj f0 GA 5159 → elj f39 GA 10349 = elj f0 GA 10349 → elj f39 GA 15539 = elj f0 GA 15539 → elj f39 GA 20729 = elj f0 GA 20729 → fr L R [(12, 1), (12, 28), (12, 29), (12, 35), (12, 36), (12, 37), (12, 38), (12, 39), (12, 42), (12, 43), (12, 44), (12, 45), (12, 46), (12, 47)] [12, 61, 68, 69, 70, 73, 74, 76, 77] f0 f39 → fr L R [] [77] f32 f39 → lv_has ls 4 [(0, .ref a0), (3, .int x3_51)] → W p l e rm_X12_sayC s m args below meth c H locs 0 0 Q (F0 m 51 ls []) := by
        intro n51
        induction n51 with
        | zero =>
          intro f39 H locs ls x3_51 b40 b41 b42 h hR hX hqkc0 hqkc1 hqkc2 hqkc3 hk hb51 hl
          exfalso
          omega
        | succ n51 ih51 =>
          intro f39 H locs ls x3_51 b40 b41 b42 h hR hX hqkc0 hqkc1 hqkc2 hqkc3 hk hb51 hl
          have e43 : fld f39 a0 0 = .ref GA := (hb51.efl m_a0 r_a0 rfl).trans e33
          have e44 : fld f39 a0 22 = .ref GP := (hb51.efl m_a0 r_a0 rfl).trans e34
          have e45 : fld f39 a0 23 = .ref GL := (hb51.efl m_a0 r_a0 rfl).trans e35
          have e46 : fld f39 a0 6 = .ref GT := (hb51.efl m_a0 r_a0 rfl).trans e36
          have e47 : fi f39 a0 29 = fi f32 a0 29 := hb51.efi m_a0 r_a0 rfl
          refine lv_iload_n F.1 F.2.1 dX12_say_51 rfl (lv_at hl 1 rfl) ?_
          refine lv_aload_n F.1 F.2.1 dX12_say_52 rfl (lv_at hl 0 rfl) ?_
          refine g_12_324 F h m_a0 r_a0 dX12_say_53 (fun v48 hv48 hv48a hv48b => ?_)
          refine tw_icmp_ge (tgt := 77) F dX12_say_56 (by decide) (fun b49 => ?_) (fun b49 => ?_)
          · refine lv_aload_n F.1 F.2.1 dX12_say_77 rfl (lv_at hl 0 rfl) ?_
            refine lv_aload_n F.1 F.2.1 dX12_say_78 rfl (lv_at hl 0 rfl) ?_
            refine g_12_357 F h m_a0 r_a0 dX12_say_79 (fun v50 hv50 => ?_)
            refine p_12_81 F h m_a0 r_a0 dX12_say_82 (fun f51 H locs e51p hf51 h => ?_)
            have hR : RBA GA f51 := hR.fm hf51 m_GA r_GA (by decide +kernel)
            have hX : GZ GP GL f51 := hX.fm hf51 m_GP r_GP m_GL r_GL (by decide +kernel) (by decide +kernel)
            have hqkc0 : elj f51 GA 5159 = elj f0 GA 5159 := (hf51.eelj m_GA r_GA (by decide +kernel) _).trans hqkc0
            have hqkc1 : elj f51 GA 10349 = elj f0 GA 10349 := (hf51.eelj m_GA r_GA (by decide +kernel) _).trans hqkc1
            have hqkc2 : elj f51 GA 15539 = elj f0 GA 15539 := (hf51.eelj m_GA r_GA (by decide +kernel) _).trans hqkc2
            have hqkc3 : elj f51 GA 20729 = elj f0 GA 20729 := (hf51.eelj m_GA r_GA (by decide +kernel) _).trans hqkc3
            have hk : fr L R [(12, 1), (12, 28), (12, 29), (12, 35), (12, 36), (12, 37), (12, 38), (12, 39), (12, 42), (12, 43), (12, 44), (12, 45), (12, 46), (12, 47)] [12, 61, 68, 69, 70, 73, 74, 76, 77] f0 f51 := hk.tr hf51 rfl rfl
            have e52 : fld f51 a0 0 = .ref GA := (hf51.efl m_a0 r_a0 rfl).trans e43
            have e53 : fld f51 a0 22 = .ref GP := (hf51.efl m_a0 r_a0 rfl).trans e44
            have e54 : fld f51 a0 23 = .ref GL := (hf51.efl m_a0 r_a0 rfl).trans e45
            have e55 : fld f51 a0 6 = .ref GT := (hf51.efl m_a0 r_a0 rfl).trans e46
            have e56 : fi f51 a0 29 = fi f39 a0 29 := hf51.efi m_a0 r_a0 rfl
            refine lv_aload_n F.1 F.2.1 dX12_say_85 rfl (lv_at hl 0 rfl) ?_
            refine lv_aload_n F.1 F.2.1 dX12_say_86 rfl (lv_at hl 0 rfl) ?_
            refine g_12_360 F h m_a0 r_a0 dX12_say_87 (fun v57 hv57 => ?_)
            refine p_12_393 F h m_a0 r_a0 dX12_say_90 (fun f58 H locs e58p hf58 h => ?_)
            have hR : RBA GA f58 := hR.fm hf58 m_GA r_GA (by decide +kernel)
            have hX : GZ GP GL f58 := hX.fm hf58 m_GP r_GP m_GL r_GL (by decide +kernel) (by decide +kernel)
            have hqkc0 : elj f58 GA 5159 = elj f0 GA 5159 := (hf58.eelj m_GA r_GA (by decide +kernel) _).trans hqkc0
            have hqkc1 : elj f58 GA 10349 = elj f0 GA 10349 := (hf58.eelj m_GA r_GA (by decide +kernel) _).trans hqkc1
            have hqkc2 : elj f58 GA 15539 = elj f0 GA 15539 := (hf58.eelj m_GA r_GA (by decide +kernel) _).trans hqkc2
            have hqkc3 : elj f58 GA 20729 = elj f0 GA 20729 := (hf58.eelj m_GA r_GA (by decide +kernel) _).trans hqkc3
            have hk : fr L R [(12, 1), (12, 28), (12, 29), (12, 35), (12, 36), (12, 37), (12, 38), (12, 39), (12, 42), (12, 43), (12, 44), (12, 45), (12, 46), (12, 47)] [12, 61, 68, 69, 70, 73, 74, 76, 77] f0 f58 := hk.tr hf58 rfl rfl
            have e59 : fld f58 a0 0 = .ref GA := (hf58.efl m_a0 r_a0 rfl).trans e52
            have e60 : fld f58 a0 22 = .ref GP := (hf58.efl m_a0 r_a0 rfl).trans e53
            have e61 : fld f58 a0 23 = .ref GL := (hf58.efl m_a0 r_a0 rfl).trans e54
            have e62 : fld f58 a0 6 = .ref GT := (hf58.efl m_a0 r_a0 rfl).trans e55
            have e63 : fi f58 a0 29 = fi f51 a0 29 := hf58.efi m_a0 r_a0 rfl
            refine lv_aload_n F.1 F.2.1 dX12_say_93 rfl (lv_at hl 0 rfl) ?_
            refine lv_aload_n F.1 F.2.1 dX12_say_94 rfl (lv_at hl 0 rfl) ?_
            refine g_12_363 F h m_a0 r_a0 dX12_say_95 (fun v64 hv64 => ?_)
            refine p_12_396 F h m_a0 r_a0 dX12_say_98 (fun f65 H locs e65p hf65 h => ?_)
            have hR : RBA GA f65 := hR.fm hf65 m_GA r_GA (by decide +kernel)
            have hX : GZ GP GL f65 := hX.fm hf65 m_GP r_GP m_GL r_GL (by decide +kernel) (by decide +kernel)
            have hqkc0 : elj f65 GA 5159 = elj f0 GA 5159 := (hf65.eelj m_GA r_GA (by decide +kernel) _).trans hqkc0
            have hqkc1 : elj f65 GA 10349 = elj f0 GA 10349 := (hf65.eelj m_GA r_GA (by decide +kernel) _).trans hqkc1
            have hqkc2 : elj f65 GA 15539 = elj f0 GA 15539 := (hf65.eelj m_GA r_GA (by decide +kernel) _).trans hqkc2
            have hqkc3 : elj f65 GA 20729 = elj f0 GA 20729 := (hf65.eelj m_GA r_GA (by decide +kernel) _).trans hqkc3
            have hk : fr L R [(12, 1), (12, 28), (12, 29), (12, 35), (12, 36), (12, 37), (12, 38), (12, 39), (12, 42), (12, 43), (12, 44), (12, 45), (12, 46), (12, 47)] [12, 61, 68, 69, 70, 73, 74, 76, 77] f0 f65 := hk.tr hf65 rfl rfl
            have e66 : fld f65 a0 0 = .ref GA := (hf65.efl m_a0 r_a0 rfl).trans e59
            have e67 : fld f65 a0 22 = .ref GP := (hf65.efl m_a0 r_a0 rfl).trans e60
            have e68 : fld f65 a0 23 = .ref GL := (hf65.efl m_a0 r_a0 rfl).trans e61
            have e69 : fld f65 a0 6 = .ref GT := (hf65.efl m_a0 r_a0 rfl).trans e62
            have e70 : fi f65 a0 29 = fi f58 a0 29 := hf65.efi m_a0 r_a0 rfl
            refine lv_aload_n F.1 F.2.1 dX12_say_101 rfl (lv_at hl 0 rfl) ?_
            refine lv_aload_n F.1 F.2.1 dX12_say_102 rfl (lv_at hl 0 rfl) ?_
            refine g_12_366 F h m_a0 r_a0 dX12_say_103 (fun v71 hv71 => ?_)
            refine p_12_399 F h m_a0 r_a0 dX12_say_106 (fun f72 H locs e72p hf72 h => ?_)
            have hR : RBA GA f72 := hR.fm hf72 m_GA r_GA (by decide +kernel)
            have hX : GZ GP GL f72 := hX.fm hf72 m_GP r_GP m_GL r_GL (by decide +kernel) (by decide +kernel)
            have hqkc0 : elj f72 GA 5159 = elj f0 GA 5159 := (hf72.eelj m_GA r_GA (by decide +kernel) _).trans hqkc0
            have hqkc1 : elj f72 GA 10349 = elj f0 GA 10349 := (hf72.eelj m_GA r_GA (by decide +kernel) _).trans hqkc1
            have hqkc2 : elj f72 GA 15539 = elj f0 GA 15539 := (hf72.eelj m_GA r_GA (by decide +kernel) _).trans hqkc2
            have hqkc3 : elj f72 GA 20729 = elj f0 GA 20729 := (hf72.eelj m_GA r_GA (by decide +kernel) _).trans hqkc3
            have hk : fr L R [(12, 1), (12, 28), (12, 29), (12, 35), (12, 36), (12, 37), (12, 38), (12, 39), (12, 42), (12, 43), (12, 44), (12, 45), (12, 46), (12, 47)] [12, 61, 68, 69, 70, 73, 74, 76, 77] f0 f72 := hk.tr hf72 rfl rfl
            have e73 : fld f72 a0 0 = .ref GA := (hf72.efl m_a0 r_a0 rfl).trans e66
            have e74 : fld f72 a0 22 = .ref GP := (hf72.efl m_a0 r_a0 rfl).trans e67
            have e75 : fld f72 a0 23 = .ref GL := (hf72.efl m_a0 r_a0 rfl).trans e68
            have e76 : fld f72 a0 6 = .ref GT := (hf72.efl m_a0 r_a0 rfl).trans e69
            have e77 : fi f72 a0 29 = fi f65 a0 29 := hf72.efi m_a0 r_a0 rfl
            refine lv_aload_n F.1 F.2.1 dX12_say_109 rfl (lv_at hl 0 rfl) ?_
            refine lv_aload_n F.1 F.2.1 dX12_say_110 rfl (lv_at hl 0 rfl) ?_
            refine g_12_354 F h m_a0 r_a0 dX12_say_111 (fun v78 hv78 hv78a hv78b => ?_)
            refine p_12_402 F h m_a0 r_a0 dX12_say_114 (fun f79 H locs e79p hf79 h => ?_)
            have hR : RBA GA f79 := hR.fm hf79 m_GA r_GA (by decide +kernel)
            have hX : GZ GP GL f79 := hX.fm hf79 m_GP r_GP m_GL r_GL (by decide +kernel) (by decide +kernel)
            have hqkc0 : elj f79 GA 5159 = elj f0 GA 5159 := (hf79.eelj m_GA r_GA (by decide +kernel) _).trans hqkc0
            have hqkc1 : elj f79 GA 10349 = elj f0 GA 10349 := (hf79.eelj m_GA r_GA (by decide +kernel) _).trans hqkc1
            have hqkc2 : elj f79 GA 15539 = elj f0 GA 15539 := (hf79.eelj m_GA r_GA (by decide +kernel) _).trans hqkc2
            have hqkc3 : elj f79 GA 20729 = elj f0 GA 20729 := (hf79.eelj m_GA r_GA (by decide +kernel) _).trans hqkc3
            have hk : fr L R [(12, 1), (12, 28), (12, 29), (12, 35), (12, 36), (12, 37), (12, 38), (12, 39), (12, 42), (12, 43), (12, 44), (12, 45), (12, 46), (12, 47)] [12, 61, 68, 69, 70, 73, 74, 76, 77] f0 f79 := hk.tr hf79 rfl rfl
            have e80 : fld f79 a0 0 = .ref GA := (hf79.efl m_a0 r_a0 rfl).trans e73
            have e81 : fld f79 a0 22 = .ref GP := (hf79.efl m_a0 r_a0 rfl).trans e74
            have e82 : fld f79 a0 23 = .ref GL := (hf79.efl m_a0 r_a0 rfl).trans e75
            have e83 : fld f79 a0 6 = .ref GT := (hf79.efl m_a0 r_a0 rfl).trans e76
            have e84 : fi f79 a0 29 = fi f72 a0 29 := hf79.efi m_a0 r_a0 rfl
            refine lv_aload_n F.1 F.2.1 dX12_say_117 rfl (lv_at hl 0 rfl) ?_
            refine lv_aload_n F.1 F.2.1 dX12_say_118 rfl (lv_at hl 0 rfl) ?_
            refine g_12_324 F h m_a0 r_a0 dX12_say_119 (fun v85 hv85 hv85a hv85b => ?_)
            refine tw_Vi (As := [.int v85]) F hZ h yk_X12_gives mw_499 mw_500 mw_501 (s_X12_gives l D cy L R O f79 a0 m_a0 r_a0 v85) rfl rfl m_a0 r_a0 (fun e q => (T_12 e).mp q) rfl hl.1 rfl (Nat.le_of_ble_eq_true rfl) ⟨Nat.le_of_ble_eq_true rfl, Nat.le_of_ble_eq_true rfl⟩ ⟨Nat.le_of_ble_eq_true rfl, Nat.le_of_ble_eq_true rfl⟩ dX12_say_122 (fun v87 f86 H locs hp86 h => ?_)
            have hf86 := hp86
            have hR : RBA GA f86 := hR.fm hf86 m_GA r_GA (by decide +kernel)
            have hX : GZ GP GL f86 := hX.fm hf86 m_GP r_GP m_GL r_GL (by decide +kernel) (by decide +kernel)
            have hqkc0 : elj f86 GA 5159 = elj f0 GA 5159 := (hf86.eelj m_GA r_GA (by decide +kernel) _).trans hqkc0
            have hqkc1 : elj f86 GA 10349 = elj f0 GA 10349 := (hf86.eelj m_GA r_GA (by decide +kernel) _).trans hqkc1
            have hqkc2 : elj f86 GA 15539 = elj f0 GA 15539 := (hf86.eelj m_GA r_GA (by decide +kernel) _).trans hqkc2
            have hqkc3 : elj f86 GA 20729 = elj f0 GA 20729 := (hf86.eelj m_GA r_GA (by decide +kernel) _).trans hqkc3
            have hk : fr L R [(12, 1), (12, 28), (12, 29), (12, 35), (12, 36), (12, 37), (12, 38), (12, 39), (12, 42), (12, 43), (12, 44), (12, 45), (12, 46), (12, 47)] [12, 61, 68, 69, 70, 73, 74, 76, 77] f0 f86 := hk.tr hf86 rfl rfl
            have e88 : fld f86 a0 0 = .ref GA := (hf86.efl m_a0 r_a0 rfl).trans e80
            have e89 : fld f86 a0 22 = .ref GP := (hf86.efl m_a0 r_a0 rfl).trans e81
            have e90 : fld f86 a0 23 = .ref GL := (hf86.efl m_a0 r_a0 rfl).trans e82
            have e91 : fld f86 a0 6 = .ref GT := (hf86.efl m_a0 r_a0 rfl).trans e83
            have e92 : fi f86 a0 29 = fi f79 a0 29 := hf86.efi m_a0 r_a0 rfl
            exact hret f86 _ _ _ _ v87 dX12_say_125 rfl ⟨hk, hR, hX, hqkc0, hqkc1, hqkc2, hqkc3⟩ h
          · refine lv_aload_n F.1 F.2.1 dX12_say_59 rfl (lv_at hl 0 rfl) ?_
            refine g_12_78 F h m_a0 r_a0 dX12_say_60 (fun o93 m_o93 r_o93 ho93 => ?_)
            refine lv_iload_n F.1 F.2.1 dX12_say_63 rfl (lv_at hl 1 rfl) ?_
            refine lv_aload_n F.1 F.2.1 dX12_say_64 rfl (lv_at hl 0 rfl) ?_
            refine g_12_63 F h m_a0 r_a0 dX12_say_65 (fun o94 m_o94 r_o94 ho94 => ?_)
            refine lv_iload_n F.1 F.2.1 dX12_say_68 rfl (lv_at hl 1 rfl) ?_
            refine ld_74 F h m_o94 r_o94 (by omega) dX12_say_69 (fun v95 => ?_)
            refine st_77 F h m_o93 r_o93 (by omega) dX12_say_70 (fun f96 H locs hf96 h => ?_)
            have hR : RBA GA f96 := hR.fm hf96 m_GA r_GA (by decide +kernel)
            have hX : GZ GP GL f96 := hX.fm hf96 m_GP r_GP m_GL r_GL (by decide +kernel) (by decide +kernel)
            have hqkc0 : elj f96 GA 5159 = elj f0 GA 5159 := (hf96.eelj m_GA r_GA (by decide +kernel) _).trans hqkc0
            have hqkc1 : elj f96 GA 10349 = elj f0 GA 10349 := (hf96.eelj m_GA r_GA (by decide +kernel) _).trans hqkc1
            have hqkc2 : elj f96 GA 15539 = elj f0 GA 15539 := (hf96.eelj m_GA r_GA (by decide +kernel) _).trans hqkc2
            have hqkc3 : elj f96 GA 20729 = elj f0 GA 20729 := (hf96.eelj m_GA r_GA (by decide +kernel) _).trans hqkc3
            have hk : fr L R [(12, 1), (12, 28), (12, 29), (12, 35), (12, 36), (12, 37), (12, 38), (12, 39), (12, 42), (12, 43), (12, 44), (12, 45), (12, 46), (12, 47)] [12, 61, 68, 69, 70, 73, 74, 76, 77] f0 f96 := hk.tr hf96 rfl rfl
            have hb51 : fr L R [] [77] f32 f96 := hb51.tr hf96 rfl rfl
            have e97 : fld f96 a0 0 = .ref GA := (hf96.efl m_a0 r_a0 rfl).trans e43
            have e98 : fld f96 a0 22 = .ref GP := (hf96.efl m_a0 r_a0 rfl).trans e44
            have e99 : fld f96 a0 23 = .ref GL := (hf96.efl m_a0 r_a0 rfl).trans e45
            have e100 : fld f96 a0 6 = .ref GT := (hf96.efl m_a0 r_a0 rfl).trans e46
            have e101 : fi f96 a0 29 = fi f39 a0 29 := hf96.efi m_a0 r_a0 rfl
            refine tu_iinc F dX12_say_71 hl (k := 1) rfl (by decide) ki_1 (by omega) (fun z102 ls hz102 hl => ?_)
            have hl : lv_has ls 4 [(3, .int z102), (0, .ref a0)] := hl
            refine lv_goto (tgt := 51) F.1 F.2.1 dX12_say_74 (by decide) ?_
            exact ih51 f96 _ _ _ z102 (by omega) (by omega) (by omega) h hR hX hqkc0 hqkc1 hqkc2 hqkc3 hk hb51 (lv_sub hl [1, 0] rfl)
      have hb51 : fr L R [] [77] f32 f32 := fr.rf
      exact j_51 (((12 - z38.toInt)).toNat + 1) f32 _ _ _ z38 (by omega) (by omega) (by omega) h hR hX hqkc0 hqkc1 hqkc2 hqkc3 hk hb51 (lv_sub hl [1, 0] rfl)
    · refine lv_aload_n F.1 F.2.1 dX12_say_17 rfl (lv_at hl 0 rfl) ?_
      refine tw_iconst F dX12_say_18 ki_1 (fun z103 hz103 => ?_)
      refine tw_Vi (As := [.int z103]) F hZ h yk_X12_refuse mw_452 mw_453 mw_454 (s_X12_refuse l D cy L R O f0 a0 m_a0 r_a0 z103 ⟨by omega, by omega⟩) rfl rfl m_a0 r_a0 (fun e q => (T_12 e).mp q) rfl hl.1 rfl (Nat.le_of_ble_eq_true rfl) ⟨Nat.le_of_ble_eq_true rfl, Nat.le_of_ble_eq_true rfl⟩ ⟨Nat.le_of_ble_eq_true rfl, Nat.le_of_ble_eq_true rfl⟩ dX12_say_19 (fun v105 f104 H locs hp104 h => ?_)
      obtain ⟨hf104, hv105a, hv105b⟩ := hp104
      have hR : RBA GA f104 := hR.fm hf104 m_GA r_GA (by decide +kernel)
      have hX : GZ GP GL f104 := hX.fm hf104 m_GP r_GP m_GL r_GL (by decide +kernel) (by decide +kernel)
      have hqkc0 : elj f104 GA 5159 = elj f0 GA 5159 := (hf104.eelj m_GA r_GA (by decide +kernel) _).trans hqkc0
      have hqkc1 : elj f104 GA 10349 = elj f0 GA 10349 := (hf104.eelj m_GA r_GA (by decide +kernel) _).trans hqkc1
      have hqkc2 : elj f104 GA 15539 = elj f0 GA 15539 := (hf104.eelj m_GA r_GA (by decide +kernel) _).trans hqkc2
      have hqkc3 : elj f104 GA 20729 = elj f0 GA 20729 := (hf104.eelj m_GA r_GA (by decide +kernel) _).trans hqkc3
      have hk : fr L R [(12, 1), (12, 28), (12, 29), (12, 35), (12, 36), (12, 37), (12, 38), (12, 39), (12, 42), (12, 43), (12, 44), (12, 45), (12, 46), (12, 47)] [12, 61, 68, 69, 70, 73, 74, 76, 77] f0 f104 := hk.tr hf104 rfl rfl
      have e106 : fld f104 a0 0 = .ref GA := (hf104.efl m_a0 r_a0 rfl).trans t_GA
      have e107 : fld f104 a0 22 = .ref GP := (hf104.efl m_a0 r_a0 rfl).trans t_GP
      have e108 : fld f104 a0 23 = .ref GL := (hf104.efl m_a0 r_a0 rfl).trans t_GL
      have e109 : fld f104 a0 6 = .ref GT := (hf104.efl m_a0 r_a0 rfl).trans t_GT
      exact hret f104 _ _ _ _ v105 dX12_say_22 rfl ⟨hk, hR, hX, hqkc0, hqkc1, hqkc2, hqkc3⟩ h
def rm_X12_talkC : Room := { frames := 6, cells := 0, slots := 0, locals := 150 }
set_option maxHeartbeats 4000000 in
set_option maxRecDepth 100000 in
theorem s_X12_talkC (l : Launch) (D : va_G) (cy : Nat → ClassId) (L : List Nat) (R O : Nat → Nat) (f0 : Nat → va_E) (a0 : Nat) (m_a0 : a0 ∈ L) (r_a0 : R a0 = 12) (x1 : Int32) (x2 : Int32) (x3 : Int32) (GA : Nat) (m_GA : GA ∈ L) (r_GA : R GA = 61) (t_GA : fld f0 a0 0 = .ref GA) (GP : Nat) (m_GP : GP ∈ L) (r_GP : R GP = 69) (t_GP : fld f0 a0 22 = .ref GP) (GL : Nat) (m_GL : GL ∈ L) (r_GL : R GL = 70) (t_GL : fld f0 a0 23 = .ref GL) (GT : Nat) (m_GT : GT ∈ L) (r_GT : R GT = 64) (t_GT : fld f0 a0 6 = .ref GT) (pre0 : RBA GA f0) (pre1 : GZ GP GL f0) : ∀ sz, Met l yX12_talk (Cond.code yX12_talk cX12_talk 9 (some .int) :: wsL_law) rm_X12_talkC (va_Pc [.ref a0, .int x1, .int x2, .int x3] (tPZ D cy L R (TT cy L R) f0 sz)) (va_Qi (fun (r : Int32) f1 => fr L R [(12, 1), (12, 28), (12, 29), (12, 35), (12, 36), (12, 37), (12, 38), (12, 39), (12, 51)] [12, 61, 68, 69, 70, 73, 74, 76, 78, 79, 80] f0 f1 ∧ RBA GA f1 ∧ GZ GP GL f1 ∧ elj f1 GA 5159 = elj f0 GA 5159 ∧ elj f1 GA 10349 = elj f0 GA 10349 ∧ elj f1 GA 15539 = elj f0 GA 15539 ∧ elj f1 GA 20729 = elj f0 GA 20729) (tB D (tA L sz) L R (TT cy L R)) (tA L sz)) 0 0 (tA L sz) := by
  refine tw_enteri (by decide +kernel) rfl (Nat.le_of_ble_eq_true rfl) ?_
  intro p e s m below meth c A ls args Q F hZ h hl hret
  have hl : lv_has ls 9 [(0, .ref a0), (1, .int x1), (2, .int x2), (3, .int x3)] := hl
  have hk : fr L R [(12, 1), (12, 28), (12, 29), (12, 35), (12, 36), (12, 37), (12, 38), (12, 39), (12, 51)] [12, 61, 68, 69, 70, 73, 74, 76, 78, 79, 80] f0 f0 := fr.rf
  have hR := pre0
  have hX := pre1
  have hqkc0 : elj f0 GA 5159 = elj f0 GA 5159 := rfl
  have hqkc1 : elj f0 GA 10349 = elj f0 GA 10349 := rfl
  have hqkc2 : elj f0 GA 15539 = elj f0 GA 15539 := rfl
  have hqkc3 : elj f0 GA 20729 = elj f0 GA 20729 := rfl
  refine lv_aload_n F.1 F.2.1 dX12_talk_0 rfl (lv_at hl 0 rfl) ?_
  refine lv_aload_n F.1 F.2.1 dX12_talk_1 rfl (lv_at hl 0 rfl) ?_
  refine lv_iload_n F.1 F.2.1 dX12_talk_2 rfl (lv_at hl 1 rfl) ?_
  refine tw_Vi (As := [.int x1]) F hZ h yk_X12_isScript mw_635 mw_636 mw_637 (s_X12_isScript l D cy L R O f0 a0 m_a0 r_a0 x1) rfl rfl m_a0 r_a0 (fun e q => (T_12 e).mp q) rfl hl.1 rfl (Nat.le_of_ble_eq_true rfl) ⟨Nat.le_of_ble_eq_true rfl, Nat.le_of_ble_eq_true rfl⟩ ⟨Nat.le_of_ble_eq_true rfl, Nat.le_of_ble_eq_true rfl⟩ dX12_talk_3 (fun v2 f1 H locs hp1 h => ?_)
  obtain ⟨rfl, hv2a, hv2b, hv2p0⟩ := hp1
  refine lv_iload_n F.1 F.2.1 dX12_talk_6 rfl (lv_at hl 2 rfl) ?_
  refine lv_iload_n F.1 F.2.1 dX12_talk_7 rfl (lv_at hl 3 rfl) ?_
  refine tw_bipush F dX12_talk_8 kb_15 (fun z3 hz3 => ?_)
  refine tw_Vi (As := [.int v2, .int x2, .int x3, .int z3]) F hZ h yk_X12_wrongLines mw_1183 mw_1184 mw_1185 (s_X12_wrongLines l D cy L R O f0 a0 m_a0 r_a0 v2 ⟨by omega, by omega⟩ x2 x3 z3 ⟨by omega, by omega⟩ GA m_GA r_GA t_GA GP m_GP r_GP t_GP GL m_GL r_GL t_GL GT m_GT r_GT t_GT) rfl rfl m_a0 r_a0 (fun e q => (T_12 e).mp q) rfl hl.1 rfl (Nat.le_of_ble_eq_true rfl) ⟨Nat.le_of_ble_eq_true rfl, Nat.le_of_ble_eq_true rfl⟩ ⟨Nat.le_of_ble_eq_true rfl, Nat.le_of_ble_eq_true rfl⟩ dX12_talk_10 (fun v5 f4 H locs hp4 h => ?_)
  obtain ⟨rfl, hv5a, hv5b, hv5p0, hv5p1⟩ := hp4
  refine lv_istore (lv' := [(4, .int v5), (0, .ref a0), (1, .int x1), (2, .int x2), (3, .int x3)]) F.1 F.2.1 dX12_talk_13 hl (by decide) rfl (fun ls hl => ?_)
  refine lv_iload F.1 F.2.1 dX12_talk_15 (lv_at hl 0 rfl) ?_
  refine tw_if_le (tgt := 27) F dX12_talk_17 (by decide) (fun b6 => ?_) (fun b6 => ?_)
  · have hLT : LT GT x2.toInt.toNat x3.toInt.toNat f0 := hv5p0.g.resolve_left (by omega)
    refine lv_aload_n F.1 F.2.1 dX12_talk_27 rfl (lv_at hl 1 rfl) ?_
    refine lv_iload_n F.1 F.2.1 dX12_talk_28 rfl (lv_at hl 2 rfl) ?_
    refine tw_sipush F dX12_talk_29 ks_22410 (fun z7 hz7 => ?_)
    refine tw_Vv (As := [.int x1, .int z7]) F hZ h yk_X12_works mw_1187 mw_1188 mw_1189 (s_X12_works l D cy L R O f0 a0 m_a0 r_a0 x1 ⟨by omega, by omega⟩ z7 ⟨by omega, by omega⟩ GA m_GA r_GA t_GA GP m_GP r_GP t_GP GL m_GL r_GL t_GL GT m_GT r_GT t_GT (isB_e isB_w (by omega)) (hR.s (by omega))) rfl rfl m_a0 r_a0 (fun e q => (T_12 e).mp q) rfl hl.1 rfl (Nat.le_of_ble_eq_true rfl) ⟨Nat.le_of_ble_eq_true rfl, Nat.le_of_ble_eq_true rfl⟩ ⟨Nat.le_of_ble_eq_true rfl, Nat.le_of_ble_eq_true rfl⟩ dX12_talk_32 (fun f8 H locs hp8 h => ?_)
    obtain ⟨hf8, hv9p0, hv9p1⟩ := hp8
    have hR : RBA GA f8 := hR.kw hv9p0 (Or.inl (by omega))
    have hX : GZ GP GL f8 := hX.fm hf8 m_GP r_GP m_GL r_GL (by decide +kernel) (by decide +kernel)
    have hqkc0 : elj f8 GA 5159 = elj f0 GA 5159 := (hv9p0 _ (by omega)).trans hqkc0
    have hqkc1 : elj f8 GA 10349 = elj f0 GA 10349 := (hv9p0 _ (by omega)).trans hqkc1
    have hqkc2 : elj f8 GA 15539 = elj f0 GA 15539 := (hv9p0 _ (by omega)).trans hqkc2
    have hqkc3 : elj f8 GA 20729 = elj f0 GA 20729 := (hv9p0 _ (by omega)).trans hqkc3
    have hLT : LT GT x2.toInt.toNat x3.toInt.toNat f8 := hLT.fm hf8 m_GT r_GT (by decide +kernel)
    have hk : fr L R [(12, 1), (12, 28), (12, 29), (12, 35), (12, 36), (12, 37), (12, 38), (12, 39), (12, 51)] [12, 61, 68, 69, 70, 73, 74, 76, 78, 79, 80] f0 f8 := hk.tr hf8 rfl rfl
    have e10 : fld f8 a0 0 = .ref GA := (hf8.efl m_a0 r_a0 rfl).trans t_GA
    have e11 : fld f8 a0 22 = .ref GP := (hf8.efl m_a0 r_a0 rfl).trans t_GP
    have e12 : fld f8 a0 23 = .ref GL := (hf8.efl m_a0 r_a0 rfl).trans t_GL
    have e13 : fld f8 a0 6 = .ref GT := (hf8.efl m_a0 r_a0 rfl).trans t_GT
    have hRB : RB GA 22410 f8 := by have q := hv9p1; rw [show z7.toInt.toNat = 22410 by omega] at q; exact q
    refine tw_iconst F dX12_talk_35 ki_0 (fun z14 hz14 => ?_)
    refine lv_istore (lv' := [(5, .int z14), (4, .int v5), (0, .ref a0), (1, .int x1), (2, .int x2), (3, .int x3)]) F.1 F.2.1 dX12_talk_36 hl (by decide) rfl (fun ls hl => ?_)
    refine tw_iconst F dX12_talk_38 ki_0 (fun z15 hz15 => ?_)
    refine lv_istore (lv' := [(6, .int z15), (5, .int z14), (4, .int v5), (0, .ref a0), (1, .int x1), (2, .int x2), (3, .int x3)]) F.1 F.2.1 dX12_talk_39 hl (by decide) rfl (fun ls hl => ?_)
    have j_41 : ∀ (n41 : Nat) (f16 : Nat → va_E) (H : Heap) (locs : List Loc) (ls : Array Slot) (x5_41 : Int32) (x6_41 : Int32), 0 ≤ x6_41.toInt → x6_41.toInt ≤ 16 → ((16 - x6_41.toInt)).toNat < n41 → tS D cy A s.heap L R (TT cy L R) f16 s H locs → RBA GA f16 → GZ GP GL f16 → elj f16 GA 5159 = elj f0 GA 5159 → elj f16 GA 10349 = elj f0 GA 10349 → elj f16 GA 15539 = elj f0 GA 15539 → elj f16 GA 20729 = elj f0 GA 20729 → LT GT x2.toInt.toNat x3.toInt.toNat f16 → RB GA 22410 f16 → fr L R [(12, 1), (12, 28), (12, 29), (12, 35), (12, 36), (12, 37), (12, 38), (12, 39), (12, 51)] [12, 61, 68, 69, 70, 73, 74, 76, 78, 79, 80] f0 f16 → fr L R [(12, 28), (12, 29), (12, 35), (12, 36), (12, 37), (12, 38), (12, 39)] [12, 61, 68, 69, 70, 73, 74, 76, 78, 79, 80] f8 f16 → lv_has ls 9 [(0, .ref a0), (2, .int x2), (3, .int x3), (5, .int x5_41), (6, .int x6_41)] → W p l e rm_X12_talkC s m args below meth c H locs 0 0 Q (F0 m 41 ls []) := by
      intro n41
      induction n41 with
      | zero =>
        intro f16 H locs ls x5_41 x6_41 b17 b18 b19 h hR hX hqkc0 hqkc1 hqkc2 hqkc3 hLT hRB hk hb41 hl
        exfalso
        omega
      | succ n41 ih41 =>
        intro f16 H locs ls x5_41 x6_41 b17 b18 b19 h hR hX hqkc0 hqkc1 hqkc2 hqkc3 hLT hRB hk hb41 hl
        have e20 : fld f16 a0 0 = .ref GA := (hb41.efl m_a0 r_a0 rfl).trans e10
        have e21 : fld f16 a0 22 = .ref GP := (hb41.efl m_a0 r_a0 rfl).trans e11
        have e22 : fld f16 a0 23 = .ref GL := (hb41.efl m_a0 r_a0 rfl).trans e12
        have e23 : fld f16 a0 6 = .ref GT := (hb41.efl m_a0 r_a0 rfl).trans e13
        refine lv_iload F.1 F.2.1 dX12_talk_41 (lv_at hl 4 rfl) ?_
        refine lv_iload_n F.1 F.2.1 dX12_talk_43 rfl (lv_at hl 2 rfl) ?_
        refine tw_icmp_ge (tgt := 212) F dX12_talk_44 (by decide) (fun b24 => ?_) (fun b24 => ?_)
        · refine lv_aload_n F.1 F.2.1 dX12_talk_212 rfl (lv_at hl 0 rfl) ?_
          refine lv_iload_n F.1 F.2.1 dX12_talk_213 rfl (lv_at hl 2 rfl) ?_
          refine p_12_416 F h m_a0 r_a0 (by omega) dX12_talk_214 (fun f25 H locs e25p hf25 h => ?_)
          have hR : RBA GA f25 := hR.fm hf25 m_GA r_GA (by decide +kernel)
          have hX : GZ GP GL f25 := hX.fm hf25 m_GP r_GP m_GL r_GL (by decide +kernel) (by decide +kernel)
          have hqkc0 : elj f25 GA 5159 = elj f0 GA 5159 := (hf25.eelj m_GA r_GA (by decide +kernel) _).trans hqkc0
          have hqkc1 : elj f25 GA 10349 = elj f0 GA 10349 := (hf25.eelj m_GA r_GA (by decide +kernel) _).trans hqkc1
          have hqkc2 : elj f25 GA 15539 = elj f0 GA 15539 := (hf25.eelj m_GA r_GA (by decide +kernel) _).trans hqkc2
          have hqkc3 : elj f25 GA 20729 = elj f0 GA 20729 := (hf25.eelj m_GA r_GA (by decide +kernel) _).trans hqkc3
          have hLT : LT GT x2.toInt.toNat x3.toInt.toNat f25 := hLT.fm hf25 m_GT r_GT (by decide +kernel)
          have hRB : RB GA 22410 f25 := hRB.fm hf25 m_GA r_GA (by decide +kernel)
          have hk : fr L R [(12, 1), (12, 28), (12, 29), (12, 35), (12, 36), (12, 37), (12, 38), (12, 39), (12, 51)] [12, 61, 68, 69, 70, 73, 74, 76, 78, 79, 80] f0 f25 := hk.tr hf25 rfl rfl
          have e26 : fld f25 a0 0 = .ref GA := (hf25.efl m_a0 r_a0 rfl).trans e20
          have e27 : fld f25 a0 22 = .ref GP := (hf25.efl m_a0 r_a0 rfl).trans e21
          have e28 : fld f25 a0 23 = .ref GL := (hf25.efl m_a0 r_a0 rfl).trans e22
          have e29 : fld f25 a0 6 = .ref GT := (hf25.efl m_a0 r_a0 rfl).trans e23
          refine lv_aload_n F.1 F.2.1 dX12_talk_217 rfl (lv_at hl 0 rfl) ?_
          refine lv_iload F.1 F.2.1 dX12_talk_218 (lv_at hl 3 rfl) ?_
          refine tw_Vi (As := [.int x5_41]) F hZ h yk_X12_gives mw_499 mw_500 mw_501 (s_X12_gives l D cy L R O f25 a0 m_a0 r_a0 x5_41) rfl rfl m_a0 r_a0 (fun e q => (T_12 e).mp q) rfl hl.1 rfl (Nat.le_of_ble_eq_true rfl) ⟨Nat.le_of_ble_eq_true rfl, Nat.le_of_ble_eq_true rfl⟩ ⟨Nat.le_of_ble_eq_true rfl, Nat.le_of_ble_eq_true rfl⟩ dX12_talk_220 (fun v31 f30 H locs hp30 h => ?_)
          have hf30 := hp30
          have hR : RBA GA f30 := hR.fm hf30 m_GA r_GA (by decide +kernel)
          have hX : GZ GP GL f30 := hX.fm hf30 m_GP r_GP m_GL r_GL (by decide +kernel) (by decide +kernel)
          have hqkc0 : elj f30 GA 5159 = elj f0 GA 5159 := (hf30.eelj m_GA r_GA (by decide +kernel) _).trans hqkc0
          have hqkc1 : elj f30 GA 10349 = elj f0 GA 10349 := (hf30.eelj m_GA r_GA (by decide +kernel) _).trans hqkc1
          have hqkc2 : elj f30 GA 15539 = elj f0 GA 15539 := (hf30.eelj m_GA r_GA (by decide +kernel) _).trans hqkc2
          have hqkc3 : elj f30 GA 20729 = elj f0 GA 20729 := (hf30.eelj m_GA r_GA (by decide +kernel) _).trans hqkc3
          have hLT : LT GT x2.toInt.toNat x3.toInt.toNat f30 := hLT.fm hf30 m_GT r_GT (by decide +kernel)
          have hRB : RB GA 22410 f30 := hRB.fm hf30 m_GA r_GA (by decide +kernel)
          have hk : fr L R [(12, 1), (12, 28), (12, 29), (12, 35), (12, 36), (12, 37), (12, 38), (12, 39), (12, 51)] [12, 61, 68, 69, 70, 73, 74, 76, 78, 79, 80] f0 f30 := hk.tr hf30 rfl rfl
          have e32 : fld f30 a0 0 = .ref GA := (hf30.efl m_a0 r_a0 rfl).trans e26
          have e33 : fld f30 a0 22 = .ref GP := (hf30.efl m_a0 r_a0 rfl).trans e27
          have e34 : fld f30 a0 23 = .ref GL := (hf30.efl m_a0 r_a0 rfl).trans e28
          have e35 : fld f30 a0 6 = .ref GT := (hf30.efl m_a0 r_a0 rfl).trans e29
          exact hret f30 _ _ _ _ v31 dX12_talk_223 rfl ⟨hk, hR, hX, hqkc0, hqkc1, hqkc2, hqkc3⟩ h
        · refine lv_aload_n F.1 F.2.1 dX12_talk_47 rfl (lv_at hl 0 rfl) ?_
          refine lv_iload_n F.1 F.2.1 dX12_talk_48 rfl (lv_at hl 1 rfl) ?_
          refine lv_iload F.1 F.2.1 dX12_talk_49 (lv_at hl 4 rfl) ?_
          refine tw_Vv (As := [.int x2, .int x6_41]) F hZ h yk_X12_hearsOf mw_1191 mw_1192 mw_1193 (s_X12_hearsOf l D cy L R O f16 a0 m_a0 r_a0 x2 ⟨by omega, by omega⟩ x6_41 ⟨by omega, by omega⟩ GA m_GA r_GA e20 GP m_GP r_GP e21 GL m_GL r_GL e22 GT m_GT r_GT e23 (hLT _ (by omega))) rfl rfl m_a0 r_a0 (fun e q => (T_12 e).mp q) rfl hl.1 rfl (Nat.le_of_ble_eq_true rfl) ⟨Nat.le_of_ble_eq_true rfl, Nat.le_of_ble_eq_true rfl⟩ ⟨Nat.le_of_ble_eq_true rfl, Nat.le_of_ble_eq_true rfl⟩ dX12_talk_51 (fun f36 H locs hp36 h => ?_)
          have hf36 := hp36
          have hR : RBA GA f36 := hR.fm hf36 m_GA r_GA (by decide +kernel)
          have hX : GZ GP GL f36 := hX.fm hf36 m_GP r_GP m_GL r_GL (by decide +kernel) (by decide +kernel)
          have hqkc0 : elj f36 GA 5159 = elj f0 GA 5159 := (hf36.eelj m_GA r_GA (by decide +kernel) _).trans hqkc0
          have hqkc1 : elj f36 GA 10349 = elj f0 GA 10349 := (hf36.eelj m_GA r_GA (by decide +kernel) _).trans hqkc1
          have hqkc2 : elj f36 GA 15539 = elj f0 GA 15539 := (hf36.eelj m_GA r_GA (by decide +kernel) _).trans hqkc2
          have hqkc3 : elj f36 GA 20729 = elj f0 GA 20729 := (hf36.eelj m_GA r_GA (by decide +kernel) _).trans hqkc3
          have hLT : LT GT x2.toInt.toNat x3.toInt.toNat f36 := hLT.fm hf36 m_GT r_GT (by decide +kernel)
          have hRB : RB GA 22410 f36 := hRB.fm hf36 m_GA r_GA (by decide +kernel)
          have hk : fr L R [(12, 1), (12, 28), (12, 29), (12, 35), (12, 36), (12, 37), (12, 38), (12, 39), (12, 51)] [12, 61, 68, 69, 70, 73, 74, 76, 78, 79, 80] f0 f36 := hk.tr hf36 rfl rfl
          have hb41 : fr L R [(12, 28), (12, 29), (12, 35), (12, 36), (12, 37), (12, 38), (12, 39)] [12, 61, 68, 69, 70, 73, 74, 76, 78, 79, 80] f8 f36 := hb41.tr hf36 rfl rfl
          have e38 : fld f36 a0 0 = .ref GA := (hf36.efl m_a0 r_a0 rfl).trans e20
          have e39 : fld f36 a0 22 = .ref GP := (hf36.efl m_a0 r_a0 rfl).trans e21
          have e40 : fld f36 a0 23 = .ref GL := (hf36.efl m_a0 r_a0 rfl).trans e22
          have e41 : fld f36 a0 6 = .ref GT := (hf36.efl m_a0 r_a0 rfl).trans e23
          refine lv_aload_n F.1 F.2.1 dX12_talk_54 rfl (lv_at hl 0 rfl) ?_
          refine tw_sipush F dX12_talk_55 ks_22410 (fun z42 hz42 => ?_)
          refine tw_Vv (As := [.int z42]) F hZ h yk_X12_answers0 mw_1057 mw_1058 mw_1059 (s_X12_answers0 l D cy L R O f36 a0 m_a0 r_a0 z42 ⟨by omega, by omega⟩ GA m_GA r_GA e38 GP m_GP r_GP e39 GL m_GL r_GL e40 GT m_GT r_GT e41 (isB_e isB_w (by omega)) (by rw [show z42.toInt.toNat = 22410 by omega]; exact hRB) hX) rfl rfl m_a0 r_a0 (fun e q => (T_12 e).mp q) rfl hl.1 rfl (Nat.le_of_ble_eq_true rfl) ⟨Nat.le_of_ble_eq_true rfl, Nat.le_of_ble_eq_true rfl⟩ ⟨Nat.le_of_ble_eq_true rfl, Nat.le_of_ble_eq_true rfl⟩ dX12_talk_58 (fun f43 H locs hp43 h => ?_)
          obtain ⟨hf43, hv44p0, hv44p1⟩ := hp43
          have hR : RBA GA f43 := hR.kw hv44p1 (Or.inl (by omega))
          have hX : GZ GP GL f43 := hv44p0
          have hqkc0 : elj f43 GA 5159 = elj f0 GA 5159 := (hv44p1 _ (by omega)).trans hqkc0
          have hqkc1 : elj f43 GA 10349 = elj f0 GA 10349 := (hv44p1 _ (by omega)).trans hqkc1
          have hqkc2 : elj f43 GA 15539 = elj f0 GA 15539 := (hv44p1 _ (by omega)).trans hqkc2
          have hqkc3 : elj f43 GA 20729 = elj f0 GA 20729 := (hv44p1 _ (by omega)).trans hqkc3
          have hLT : LT GT x2.toInt.toNat x3.toInt.toNat f43 := hLT.fm hf43 m_GT r_GT (by decide +kernel)
          have hRB : RB GA 22410 f43 := hRB.kw hv44p1 (by omega)
          have hk : fr L R [(12, 1), (12, 28), (12, 29), (12, 35), (12, 36), (12, 37), (12, 38), (12, 39), (12, 51)] [12, 61, 68, 69, 70, 73, 74, 76, 78, 79, 80] f0 f43 := hk.tr hf43 (by decide +kernel) (by decide +kernel)
          have hb41 : fr L R [(12, 28), (12, 29), (12, 35), (12, 36), (12, 37), (12, 38), (12, 39)] [12, 61, 68, 69, 70, 73, 74, 76, 78, 79, 80] f8 f43 := hb41.tr hf43 (by decide +kernel) (by decide +kernel)
          have e45 : fld f43 a0 0 = .ref GA := (hf43.efl m_a0 r_a0 rfl).trans e38
          have e46 : fld f43 a0 22 = .ref GP := (hf43.efl m_a0 r_a0 rfl).trans e39
          have e47 : fld f43 a0 23 = .ref GL := (hf43.efl m_a0 r_a0 rfl).trans e40
          have e48 : fld f43 a0 6 = .ref GT := (hf43.efl m_a0 r_a0 rfl).trans e41
          refine tw_bipush F dX12_talk_61 kb_26 (fun z49 hz49 => ?_)
          refine lv_iload F.1 F.2.1 dX12_talk_63 (lv_at hl 4 rfl) ?_
          refine tu_imull F dX12_talk_65 hz49 (by omega) (fun z50 hz50 => ?_)
          refine lv_istore (lv' := [(7, .int z50), (0, .ref a0), (2, .int x2), (3, .int x3), (5, .int x5_41), (6, .int x6_41)]) F.1 F.2.1 dX12_talk_66 hl (by decide) rfl (fun ls hl => ?_)
          refine lv_aload_n F.1 F.2.1 dX12_talk_68 rfl (lv_at hl 1 rfl) ?_
          refine g_12_84 F h m_a0 r_a0 dX12_talk_69 (fun o51 m_o51 r_o51 ho51 => ?_)
          refine lv_iload F.1 F.2.1 dX12_talk_72 (lv_at hl 0 rfl) ?_
          refine lv_aload_n F.1 F.2.1 dX12_talk_74 rfl (lv_at hl 1 rfl) ?_
          refine g_12_298 F h m_a0 r_a0 dX12_talk_75 (fun v52 hv52 hv52a hv52b => ?_)
          refine tw_i2l F dX12_talk_78 (fun z53 hz53 => ?_)
          refine st_78 F h m_o51 r_o51 (by omega) (fun q => by omega) dX12_talk_79 (fun f54 H locs hf54 h => ?_)
          have hR : RBA GA f54 := hR.fm hf54 m_GA r_GA (by decide +kernel)
          have hX : GZ GP GL f54 := hX.fm hf54 m_GP r_GP m_GL r_GL (by decide +kernel) (by decide +kernel)
          have hqkc0 : elj f54 GA 5159 = elj f0 GA 5159 := (hf54.eelj m_GA r_GA (by decide +kernel) _).trans hqkc0
          have hqkc1 : elj f54 GA 10349 = elj f0 GA 10349 := (hf54.eelj m_GA r_GA (by decide +kernel) _).trans hqkc1
          have hqkc2 : elj f54 GA 15539 = elj f0 GA 15539 := (hf54.eelj m_GA r_GA (by decide +kernel) _).trans hqkc2
          have hqkc3 : elj f54 GA 20729 = elj f0 GA 20729 := (hf54.eelj m_GA r_GA (by decide +kernel) _).trans hqkc3
          have hLT : LT GT x2.toInt.toNat x3.toInt.toNat f54 := hLT.fm hf54 m_GT r_GT (by decide +kernel)
          have hRB : RB GA 22410 f54 := hRB.fm hf54 m_GA r_GA (by decide +kernel)
          have hk : fr L R [(12, 1), (12, 28), (12, 29), (12, 35), (12, 36), (12, 37), (12, 38), (12, 39), (12, 51)] [12, 61, 68, 69, 70, 73, 74, 76, 78, 79, 80] f0 f54 := hk.tr hf54 rfl rfl
          have hb41 : fr L R [(12, 28), (12, 29), (12, 35), (12, 36), (12, 37), (12, 38), (12, 39)] [12, 61, 68, 69, 70, 73, 74, 76, 78, 79, 80] f8 f54 := hb41.tr hf54 rfl rfl
          have e55 : fld f54 a0 0 = .ref GA := (hf54.efl m_a0 r_a0 rfl).trans e45
          have e56 : fld f54 a0 22 = .ref GP := (hf54.efl m_a0 r_a0 rfl).trans e46
          have e57 : fld f54 a0 23 = .ref GL := (hf54.efl m_a0 r_a0 rfl).trans e47
          have e58 : fld f54 a0 6 = .ref GT := (hf54.efl m_a0 r_a0 rfl).trans e48
          have e59 : fi f54 a0 28 = fi f43 a0 28 := hf54.efi m_a0 r_a0 rfl
          refine tw_iconst F dX12_talk_80 ki_0 (fun z60 hz60 => ?_)
          refine lv_istore (lv' := [(8, .int z60), (7, .int z50), (0, .ref a0), (2, .int x2), (3, .int x3), (5, .int x5_41), (6, .int x6_41)]) F.1 F.2.1 dX12_talk_81 hl (by decide) rfl (fun ls hl => ?_)
          have j_83 : ∀ (n83 : Nat) (f61 : Nat → va_E) (H : Heap) (locs : List Loc) (ls : Array Slot) (x8_83 : Int32), 0 ≤ x8_83.toInt → x8_83.toInt ≤ 12 → ((12 - x8_83.toInt)).toNat < n83 → tS D cy A s.heap L R (TT cy L R) f61 s H locs → RBA GA f61 → GZ GP GL f61 → elj f61 GA 5159 = elj f0 GA 5159 → elj f61 GA 10349 = elj f0 GA 10349 → elj f61 GA 15539 = elj f0 GA 15539 → elj f61 GA 20729 = elj f0 GA 20729 → LT GT x2.toInt.toNat x3.toInt.toNat f61 → RB GA 22410 f61 → fr L R [(12, 1), (12, 28), (12, 29), (12, 35), (12, 36), (12, 37), (12, 38), (12, 39), (12, 51)] [12, 61, 68, 69, 70, 73, 74, 76, 78, 79, 80] f0 f61 → fr L R [] [78] f54 f61 → lv_has ls 9 [(0, .ref a0), (2, .int x2), (3, .int x3), (5, .int x5_41), (6, .int x6_41), (7, .int z50), (8, .int x8_83)] → W p l e rm_X12_talkC s m args below meth c H locs 0 0 Q (F0 m 83 ls []) := by
            intro n83
            induction n83 with
            | zero =>
              intro f61 H locs ls x8_83 b62 b63 b64 h hR hX hqkc0 hqkc1 hqkc2 hqkc3 hLT hRB hk hb83 hl
              exfalso
              omega
            | succ n83 ih83 =>
              intro f61 H locs ls x8_83 b62 b63 b64 h hR hX hqkc0 hqkc1 hqkc2 hqkc3 hLT hRB hk hb83 hl
              have hb41 : fr L R [(12, 28), (12, 29), (12, 35), (12, 36), (12, 37), (12, 38), (12, 39)] [12, 61, 68, 69, 70, 73, 74, 76, 78, 79, 80] f8 f61 := hb41.tr hb83 rfl rfl
              have e65 : fld f61 a0 0 = .ref GA := (hb83.efl m_a0 r_a0 rfl).trans e55
              have e66 : fld f61 a0 22 = .ref GP := (hb83.efl m_a0 r_a0 rfl).trans e56
              have e67 : fld f61 a0 23 = .ref GL := (hb83.efl m_a0 r_a0 rfl).trans e57
              have e68 : fld f61 a0 6 = .ref GT := (hb83.efl m_a0 r_a0 rfl).trans e58
              have e69 : fi f61 a0 28 = fi f54 a0 28 := hb83.efi m_a0 r_a0 rfl
              refine lv_iload F.1 F.2.1 dX12_talk_83 (lv_at hl 6 rfl) ?_
              refine lv_aload_n F.1 F.2.1 dX12_talk_85 rfl (lv_at hl 0 rfl) ?_
              refine g_12_298 F h m_a0 r_a0 dX12_talk_86 (fun v70 hv70 hv70a hv70b => ?_)
              refine tw_icmp_ge (tgt := 117) F dX12_talk_89 (by decide) (fun b71 => ?_) (fun b71 => ?_)
              · refine lv_aload_n F.1 F.2.1 dX12_talk_117 rfl (lv_at hl 0 rfl) ?_
                refine g_12_84 F h m_a0 r_a0 dX12_talk_118 (fun o72 m_o72 r_o72 ho72 => ?_)
                refine lv_iload F.1 F.2.1 dX12_talk_121 (lv_at hl 5 rfl) ?_
                refine tw_bipush F dX12_talk_123 kb_13 (fun z73 hz73 => ?_)
                refine tu_iadd F dX12_talk_125 (by omega) (fun z74 hz74 => ?_)
                refine lv_aload_n F.1 F.2.1 dX12_talk_126 rfl (lv_at hl 0 rfl) ?_
                refine g_12_324 F h m_a0 r_a0 dX12_talk_127 (fun v75 hv75 hv75a hv75b => ?_)
                refine tw_i2l F dX12_talk_130 (fun z76 hz76 => ?_)
                refine st_78 F h m_o72 r_o72 (by omega) (fun q => by omega) dX12_talk_131 (fun f77 H locs hf77 h => ?_)
                have hR : RBA GA f77 := hR.fm hf77 m_GA r_GA (by decide +kernel)
                have hX : GZ GP GL f77 := hX.fm hf77 m_GP r_GP m_GL r_GL (by decide +kernel) (by decide +kernel)
                have hqkc0 : elj f77 GA 5159 = elj f0 GA 5159 := (hf77.eelj m_GA r_GA (by decide +kernel) _).trans hqkc0
                have hqkc1 : elj f77 GA 10349 = elj f0 GA 10349 := (hf77.eelj m_GA r_GA (by decide +kernel) _).trans hqkc1
                have hqkc2 : elj f77 GA 15539 = elj f0 GA 15539 := (hf77.eelj m_GA r_GA (by decide +kernel) _).trans hqkc2
                have hqkc3 : elj f77 GA 20729 = elj f0 GA 20729 := (hf77.eelj m_GA r_GA (by decide +kernel) _).trans hqkc3
                have hLT : LT GT x2.toInt.toNat x3.toInt.toNat f77 := hLT.fm hf77 m_GT r_GT (by decide +kernel)
                have hRB : RB GA 22410 f77 := hRB.fm hf77 m_GA r_GA (by decide +kernel)
                have hk : fr L R [(12, 1), (12, 28), (12, 29), (12, 35), (12, 36), (12, 37), (12, 38), (12, 39), (12, 51)] [12, 61, 68, 69, 70, 73, 74, 76, 78, 79, 80] f0 f77 := hk.tr hf77 rfl rfl
                have hb41 : fr L R [(12, 28), (12, 29), (12, 35), (12, 36), (12, 37), (12, 38), (12, 39)] [12, 61, 68, 69, 70, 73, 74, 76, 78, 79, 80] f8 f77 := hb41.tr hf77 rfl rfl
                have hb83 : fr L R [] [78] f54 f77 := hb83.tr hf77 rfl rfl
                have e78 : fld f77 a0 0 = .ref GA := (hf77.efl m_a0 r_a0 rfl).trans e65
                have e79 : fld f77 a0 22 = .ref GP := (hf77.efl m_a0 r_a0 rfl).trans e66
                have e80 : fld f77 a0 23 = .ref GL := (hf77.efl m_a0 r_a0 rfl).trans e67
                have e81 : fld f77 a0 6 = .ref GT := (hf77.efl m_a0 r_a0 rfl).trans e68
                have e82 : fi f77 a0 28 = fi f61 a0 28 := hf77.efi m_a0 r_a0 rfl
                have e83 : fi f77 a0 29 = fi f61 a0 29 := hf77.efi m_a0 r_a0 rfl
                refine tw_iconst F dX12_talk_132 ki_0 (fun z84 hz84 => ?_)
                refine lv_istore (lv' := [(8, .int z84), (0, .ref a0), (2, .int x2), (3, .int x3), (5, .int x5_41), (6, .int x6_41), (7, .int z50)]) F.1 F.2.1 dX12_talk_133 hl (by decide) rfl (fun ls hl => ?_)
                have j_135 : ∀ (n135 : Nat) (f85 : Nat → va_E) (H : Heap) (locs : List Loc) (ls : Array Slot) (x8_135 : Int32), 0 ≤ x8_135.toInt → x8_135.toInt ≤ 12 → ((12 - x8_135.toInt)).toNat < n135 → tS D cy A s.heap L R (TT cy L R) f85 s H locs → RBA GA f85 → GZ GP GL f85 → elj f85 GA 5159 = elj f0 GA 5159 → elj f85 GA 10349 = elj f0 GA 10349 → elj f85 GA 15539 = elj f0 GA 15539 → elj f85 GA 20729 = elj f0 GA 20729 → LT GT x2.toInt.toNat x3.toInt.toNat f85 → RB GA 22410 f85 → fr L R [(12, 1), (12, 28), (12, 29), (12, 35), (12, 36), (12, 37), (12, 38), (12, 39), (12, 51)] [12, 61, 68, 69, 70, 73, 74, 76, 78, 79, 80] f0 f85 → fr L R [] [78] f77 f85 → lv_has ls 9 [(0, .ref a0), (2, .int x2), (3, .int x3), (5, .int x5_41), (6, .int x6_41), (7, .int z50), (8, .int x8_135)] → W p l e rm_X12_talkC s m args below meth c H locs 0 0 Q (F0 m 135 ls []) := by
                  intro n135
                  induction n135 with
                  | zero =>
                    intro f85 H locs ls x8_135 b86 b87 b88 h hR hX hqkc0 hqkc1 hqkc2 hqkc3 hLT hRB hk hb135 hl
                    exfalso
                    omega
                  | succ n135 ih135 =>
                    intro f85 H locs ls x8_135 b86 b87 b88 h hR hX hqkc0 hqkc1 hqkc2 hqkc3 hLT hRB hk hb135 hl
                    have hb41 : fr L R [(12, 28), (12, 29), (12, 35), (12, 36), (12, 37), (12, 38), (12, 39)] [12, 61, 68, 69, 70, 73, 74, 76, 78, 79, 80] f8 f85 := hb41.tr hb135 rfl rfl
                    have hb83 : fr L R [] [78] f54 f85 := hb83.tr hb135 rfl rfl
                    have e89 : fld f85 a0 0 = .ref GA := (hb135.efl m_a0 r_a0 rfl).trans e78
                    have e90 : fld f85 a0 22 = .ref GP := (hb135.efl m_a0 r_a0 rfl).trans e79
                    have e91 : fld f85 a0 23 = .ref GL := (hb135.efl m_a0 r_a0 rfl).trans e80
                    have e92 : fld f85 a0 6 = .ref GT := (hb135.efl m_a0 r_a0 rfl).trans e81
                    have e93 : fi f85 a0 28 = fi f77 a0 28 := hb135.efi m_a0 r_a0 rfl
                    have e94 : fi f85 a0 29 = fi f77 a0 29 := hb135.efi m_a0 r_a0 rfl
                    refine lv_iload F.1 F.2.1 dX12_talk_135 (lv_at hl 6 rfl) ?_
                    refine lv_aload_n F.1 F.2.1 dX12_talk_137 rfl (lv_at hl 0 rfl) ?_
                    refine g_12_324 F h m_a0 r_a0 dX12_talk_138 (fun v95 hv95 hv95a hv95b => ?_)
                    refine tw_icmp_ge (tgt := 170) F dX12_talk_141 (by decide) (fun b96 => ?_) (fun b96 => ?_)
                    · refine lv_aload_n F.1 F.2.1 dX12_talk_170 rfl (lv_at hl 0 rfl) ?_
                      refine g_12_87 F h m_a0 r_a0 dX12_talk_171 (fun o97 m_o97 r_o97 ho97 => ?_)
                      refine lv_iload F.1 F.2.1 dX12_talk_174 (lv_at hl 4 rfl) ?_
                      refine lv_aload_n F.1 F.2.1 dX12_talk_176 rfl (lv_at hl 0 rfl) ?_
                      refine g_12_357 F h m_a0 r_a0 dX12_talk_177 (fun v98 hv98 => ?_)
                      refine st_79 F h m_o97 r_o97 (by omega) dX12_talk_180 (fun f99 H locs hf99 h => ?_)
                      have hR : RBA GA f99 := hR.fm hf99 m_GA r_GA (by decide +kernel)
                      have hX : GZ GP GL f99 := hX.fm hf99 m_GP r_GP m_GL r_GL (by decide +kernel) (by decide +kernel)
                      have hqkc0 : elj f99 GA 5159 = elj f0 GA 5159 := (hf99.eelj m_GA r_GA (by decide +kernel) _).trans hqkc0
                      have hqkc1 : elj f99 GA 10349 = elj f0 GA 10349 := (hf99.eelj m_GA r_GA (by decide +kernel) _).trans hqkc1
                      have hqkc2 : elj f99 GA 15539 = elj f0 GA 15539 := (hf99.eelj m_GA r_GA (by decide +kernel) _).trans hqkc2
                      have hqkc3 : elj f99 GA 20729 = elj f0 GA 20729 := (hf99.eelj m_GA r_GA (by decide +kernel) _).trans hqkc3
                      have hLT : LT GT x2.toInt.toNat x3.toInt.toNat f99 := hLT.fm hf99 m_GT r_GT (by decide +kernel)
                      have hRB : RB GA 22410 f99 := hRB.fm hf99 m_GA r_GA (by decide +kernel)
                      have hk : fr L R [(12, 1), (12, 28), (12, 29), (12, 35), (12, 36), (12, 37), (12, 38), (12, 39), (12, 51)] [12, 61, 68, 69, 70, 73, 74, 76, 78, 79, 80] f0 f99 := hk.tr hf99 rfl rfl
                      have hb41 : fr L R [(12, 28), (12, 29), (12, 35), (12, 36), (12, 37), (12, 38), (12, 39)] [12, 61, 68, 69, 70, 73, 74, 76, 78, 79, 80] f8 f99 := hb41.tr hf99 rfl rfl
                      have e100 : fld f99 a0 0 = .ref GA := (hf99.efl m_a0 r_a0 rfl).trans e89
                      have e101 : fld f99 a0 22 = .ref GP := (hf99.efl m_a0 r_a0 rfl).trans e90
                      have e102 : fld f99 a0 23 = .ref GL := (hf99.efl m_a0 r_a0 rfl).trans e91
                      have e103 : fld f99 a0 6 = .ref GT := (hf99.efl m_a0 r_a0 rfl).trans e92
                      have e104 : fi f99 a0 28 = fi f85 a0 28 := hf99.efi m_a0 r_a0 rfl
                      have e105 : fi f99 a0 29 = fi f85 a0 29 := hf99.efi m_a0 r_a0 rfl
                      have e106 : fi f99 a0 35 = fi f85 a0 35 := hf99.efi m_a0 r_a0 rfl
                      refine lv_aload_n F.1 F.2.1 dX12_talk_181 rfl (lv_at hl 0 rfl) ?_
                      refine g_12_90 F h m_a0 r_a0 dX12_talk_182 (fun o107 m_o107 r_o107 ho107 => ?_)
                      refine lv_iload F.1 F.2.1 dX12_talk_185 (lv_at hl 4 rfl) ?_
                      refine tw_iconst F dX12_talk_187 ki_0 (fun z108 hz108 => ?_)
                      refine st_80 F h m_o107 r_o107 (by omega) (by omega) dX12_talk_188 (fun f109 H locs hf109 h => ?_)
                      have hR : RBA GA f109 := hR.fm hf109 m_GA r_GA (by decide +kernel)
                      have hX : GZ GP GL f109 := hX.fm hf109 m_GP r_GP m_GL r_GL (by decide +kernel) (by decide +kernel)
                      have hqkc0 : elj f109 GA 5159 = elj f0 GA 5159 := (hf109.eelj m_GA r_GA (by decide +kernel) _).trans hqkc0
                      have hqkc1 : elj f109 GA 10349 = elj f0 GA 10349 := (hf109.eelj m_GA r_GA (by decide +kernel) _).trans hqkc1
                      have hqkc2 : elj f109 GA 15539 = elj f0 GA 15539 := (hf109.eelj m_GA r_GA (by decide +kernel) _).trans hqkc2
                      have hqkc3 : elj f109 GA 20729 = elj f0 GA 20729 := (hf109.eelj m_GA r_GA (by decide +kernel) _).trans hqkc3
                      have hLT : LT GT x2.toInt.toNat x3.toInt.toNat f109 := hLT.fm hf109 m_GT r_GT (by decide +kernel)
                      have hRB : RB GA 22410 f109 := hRB.fm hf109 m_GA r_GA (by decide +kernel)
                      have hk : fr L R [(12, 1), (12, 28), (12, 29), (12, 35), (12, 36), (12, 37), (12, 38), (12, 39), (12, 51)] [12, 61, 68, 69, 70, 73, 74, 76, 78, 79, 80] f0 f109 := hk.tr hf109 rfl rfl
                      have hb41 : fr L R [(12, 28), (12, 29), (12, 35), (12, 36), (12, 37), (12, 38), (12, 39)] [12, 61, 68, 69, 70, 73, 74, 76, 78, 79, 80] f8 f109 := hb41.tr hf109 rfl rfl
                      have e110 : fld f109 a0 0 = .ref GA := (hf109.efl m_a0 r_a0 rfl).trans e100
                      have e111 : fld f109 a0 22 = .ref GP := (hf109.efl m_a0 r_a0 rfl).trans e101
                      have e112 : fld f109 a0 23 = .ref GL := (hf109.efl m_a0 r_a0 rfl).trans e102
                      have e113 : fld f109 a0 6 = .ref GT := (hf109.efl m_a0 r_a0 rfl).trans e103
                      have e114 : fi f109 a0 28 = fi f99 a0 28 := hf109.efi m_a0 r_a0 rfl
                      have e115 : fi f109 a0 29 = fi f99 a0 29 := hf109.efi m_a0 r_a0 rfl
                      have e116 : fi f109 a0 35 = fi f99 a0 35 := hf109.efi m_a0 r_a0 rfl
                      refine lv_iload F.1 F.2.1 dX12_talk_189 (lv_at hl 3 rfl) ?_
                      refine lv_aload_n F.1 F.2.1 dX12_talk_191 rfl (lv_at hl 0 rfl) ?_
                      refine g_12_357 F h m_a0 r_a0 dX12_talk_192 (fun v117 hv117 => ?_)
                      have j_203 : ∀ (ls : Array Slot) (y0_203 : Int32), 0 ≤ y0_203.toInt → y0_203.toInt ≤ 1 → lv_has ls 9 [(0, .ref a0), (2, .int x2), (3, .int x3), (6, .int x6_41)] → W p l e rm_X12_talkC s m args below meth c H locs 0 0 Q (F0 m 203 ls [.int y0_203, .int x5_41]) := by
                        intro ls y0_203 b118 b119 hl
                        refine lv_iadd F.1 F.2.1 dX12_talk_203 ?_
                        refine lv_topi (fun z120 _ => ?_)
                        refine lv_istore (lv' := [(5, .int z120), (0, .ref a0), (2, .int x2), (3, .int x3), (6, .int x6_41)]) F.1 F.2.1 dX12_talk_204 hl (by decide) rfl (fun ls hl => ?_)
                        refine tu_iinc F dX12_talk_206 hl (k := 4) rfl (by decide) ki_1 (by omega) (fun z121 ls hz121 hl => ?_)
                        have hl : lv_has ls 9 [(6, .int z121), (5, .int z120), (0, .ref a0), (2, .int x2), (3, .int x3)] := hl
                        refine lv_goto (tgt := 41) F.1 F.2.1 dX12_talk_209 (by decide) ?_
                        exact ih41 f109 _ _ _ z120 z121 (by omega) (by omega) (by omega) h hR hX hqkc0 hqkc1 hqkc2 hqkc3 hLT hRB hk hb41 (lv_sub hl [2, 3, 4, 1, 0] rfl)
                      refine tw_if_ne (tgt := 202) F dX12_talk_195 (by decide) (fun b122 => ?_) (fun b122 => ?_)
                      · refine tw_iconst F dX12_talk_202 ki_0 (fun z123 hz123 => ?_)
                        exact j_203 _ z123 (by omega) (by omega) (lv_sub hl [0, 1, 2, 4] rfl)
                      · refine tw_iconst F dX12_talk_198 ki_1 (fun z124 hz124 => ?_)
                        refine lv_goto (tgt := 203) F.1 F.2.1 dX12_talk_199 (by decide) ?_
                        exact j_203 _ z124 (by omega) (by omega) (lv_sub hl [0, 1, 2, 4] rfl)
                    · refine lv_aload_n F.1 F.2.1 dX12_talk_144 rfl (lv_at hl 0 rfl) ?_
                      refine g_12_84 F h m_a0 r_a0 dX12_talk_145 (fun o125 m_o125 r_o125 ho125 => ?_)
                      refine lv_iload F.1 F.2.1 dX12_talk_148 (lv_at hl 5 rfl) ?_
                      refine tw_bipush F dX12_talk_150 kb_14 (fun z126 hz126 => ?_)
                      refine tu_iadd F dX12_talk_152 (by omega) (fun z127 hz127 => ?_)
                      refine lv_iload F.1 F.2.1 dX12_talk_153 (lv_at hl 6 rfl) ?_
                      refine tu_iadd F dX12_talk_155 (by omega) (fun z128 hz128 => ?_)
                      refine lv_aload_n F.1 F.2.1 dX12_talk_156 rfl (lv_at hl 0 rfl) ?_
                      refine g_12_63 F h m_a0 r_a0 dX12_talk_157 (fun o129 m_o129 r_o129 ho129 => ?_)
                      refine lv_iload F.1 F.2.1 dX12_talk_160 (lv_at hl 6 rfl) ?_
                      refine ld_74 F h m_o129 r_o129 (by omega) dX12_talk_162 (fun v130 => ?_)
                      refine st_78 F h m_o125 r_o125 (by omega) (fun q => by omega) dX12_talk_163 (fun f131 H locs hf131 h => ?_)
                      have hR : RBA GA f131 := hR.fm hf131 m_GA r_GA (by decide +kernel)
                      have hX : GZ GP GL f131 := hX.fm hf131 m_GP r_GP m_GL r_GL (by decide +kernel) (by decide +kernel)
                      have hqkc0 : elj f131 GA 5159 = elj f0 GA 5159 := (hf131.eelj m_GA r_GA (by decide +kernel) _).trans hqkc0
                      have hqkc1 : elj f131 GA 10349 = elj f0 GA 10349 := (hf131.eelj m_GA r_GA (by decide +kernel) _).trans hqkc1
                      have hqkc2 : elj f131 GA 15539 = elj f0 GA 15539 := (hf131.eelj m_GA r_GA (by decide +kernel) _).trans hqkc2
                      have hqkc3 : elj f131 GA 20729 = elj f0 GA 20729 := (hf131.eelj m_GA r_GA (by decide +kernel) _).trans hqkc3
                      have hLT : LT GT x2.toInt.toNat x3.toInt.toNat f131 := hLT.fm hf131 m_GT r_GT (by decide +kernel)
                      have hRB : RB GA 22410 f131 := hRB.fm hf131 m_GA r_GA (by decide +kernel)
                      have hk : fr L R [(12, 1), (12, 28), (12, 29), (12, 35), (12, 36), (12, 37), (12, 38), (12, 39), (12, 51)] [12, 61, 68, 69, 70, 73, 74, 76, 78, 79, 80] f0 f131 := hk.tr hf131 rfl rfl
                      have hb41 : fr L R [(12, 28), (12, 29), (12, 35), (12, 36), (12, 37), (12, 38), (12, 39)] [12, 61, 68, 69, 70, 73, 74, 76, 78, 79, 80] f8 f131 := hb41.tr hf131 rfl rfl
                      have hb83 : fr L R [] [78] f54 f131 := hb83.tr hf131 rfl rfl
                      have hb135 : fr L R [] [78] f77 f131 := hb135.tr hf131 rfl rfl
                      have e132 : fld f131 a0 0 = .ref GA := (hf131.efl m_a0 r_a0 rfl).trans e89
                      have e133 : fld f131 a0 22 = .ref GP := (hf131.efl m_a0 r_a0 rfl).trans e90
                      have e134 : fld f131 a0 23 = .ref GL := (hf131.efl m_a0 r_a0 rfl).trans e91
                      have e135 : fld f131 a0 6 = .ref GT := (hf131.efl m_a0 r_a0 rfl).trans e92
                      have e136 : fi f131 a0 28 = fi f85 a0 28 := hf131.efi m_a0 r_a0 rfl
                      have e137 : fi f131 a0 29 = fi f85 a0 29 := hf131.efi m_a0 r_a0 rfl
                      refine tu_iinc F dX12_talk_164 hl (k := 6) rfl (by decide) ki_1 (by omega) (fun z138 ls hz138 hl => ?_)
                      have hl : lv_has ls 9 [(8, .int z138), (0, .ref a0), (2, .int x2), (3, .int x3), (5, .int x5_41), (6, .int x6_41), (7, .int z50)] := hl
                      refine lv_goto (tgt := 135) F.1 F.2.1 dX12_talk_167 (by decide) ?_
                      exact ih135 f131 _ _ _ z138 (by omega) (by omega) (by omega) h hR hX hqkc0 hqkc1 hqkc2 hqkc3 hLT hRB hk hb135 (lv_sub hl [1, 2, 3, 4, 5, 6, 0] rfl)
                have hb135 : fr L R [] [78] f77 f77 := fr.rf
                exact j_135 (((12 - z84.toInt)).toNat + 1) f77 _ _ _ z84 (by omega) (by omega) (by omega) h hR hX hqkc0 hqkc1 hqkc2 hqkc3 hLT hRB hk hb135 (lv_sub hl [1, 2, 3, 4, 5, 6, 0] rfl)
              · refine lv_aload_n F.1 F.2.1 dX12_talk_92 rfl (lv_at hl 0 rfl) ?_
                refine g_12_84 F h m_a0 r_a0 dX12_talk_93 (fun o139 m_o139 r_o139 ho139 => ?_)
                refine lv_iload F.1 F.2.1 dX12_talk_96 (lv_at hl 5 rfl) ?_
                refine tw_iconst F dX12_talk_98 ki_1 (fun z140 hz140 => ?_)
                refine tu_iadd F dX12_talk_99 (by omega) (fun z141 hz141 => ?_)
                refine lv_iload F.1 F.2.1 dX12_talk_100 (lv_at hl 6 rfl) ?_
                refine tu_iadd F dX12_talk_102 (by omega) (fun z142 hz142 => ?_)
                refine lv_aload_n F.1 F.2.1 dX12_talk_103 rfl (lv_at hl 0 rfl) ?_
                refine g_12_60 F h m_a0 r_a0 dX12_talk_104 (fun o143 m_o143 r_o143 ho143 => ?_)
                refine lv_iload F.1 F.2.1 dX12_talk_107 (lv_at hl 6 rfl) ?_
                refine ld_73 F h m_o143 r_o143 (by omega) dX12_talk_109 (fun v144 => ?_)
                refine st_78 F h m_o139 r_o139 (by omega) (fun q => by omega) dX12_talk_110 (fun f145 H locs hf145 h => ?_)
                have hR : RBA GA f145 := hR.fm hf145 m_GA r_GA (by decide +kernel)
                have hX : GZ GP GL f145 := hX.fm hf145 m_GP r_GP m_GL r_GL (by decide +kernel) (by decide +kernel)
                have hqkc0 : elj f145 GA 5159 = elj f0 GA 5159 := (hf145.eelj m_GA r_GA (by decide +kernel) _).trans hqkc0
                have hqkc1 : elj f145 GA 10349 = elj f0 GA 10349 := (hf145.eelj m_GA r_GA (by decide +kernel) _).trans hqkc1
                have hqkc2 : elj f145 GA 15539 = elj f0 GA 15539 := (hf145.eelj m_GA r_GA (by decide +kernel) _).trans hqkc2
                have hqkc3 : elj f145 GA 20729 = elj f0 GA 20729 := (hf145.eelj m_GA r_GA (by decide +kernel) _).trans hqkc3
                have hLT : LT GT x2.toInt.toNat x3.toInt.toNat f145 := hLT.fm hf145 m_GT r_GT (by decide +kernel)
                have hRB : RB GA 22410 f145 := hRB.fm hf145 m_GA r_GA (by decide +kernel)
                have hk : fr L R [(12, 1), (12, 28), (12, 29), (12, 35), (12, 36), (12, 37), (12, 38), (12, 39), (12, 51)] [12, 61, 68, 69, 70, 73, 74, 76, 78, 79, 80] f0 f145 := hk.tr hf145 rfl rfl
                have hb41 : fr L R [(12, 28), (12, 29), (12, 35), (12, 36), (12, 37), (12, 38), (12, 39)] [12, 61, 68, 69, 70, 73, 74, 76, 78, 79, 80] f8 f145 := hb41.tr hf145 rfl rfl
                have hb83 : fr L R [] [78] f54 f145 := hb83.tr hf145 rfl rfl
                have e146 : fld f145 a0 0 = .ref GA := (hf145.efl m_a0 r_a0 rfl).trans e65
                have e147 : fld f145 a0 22 = .ref GP := (hf145.efl m_a0 r_a0 rfl).trans e66
                have e148 : fld f145 a0 23 = .ref GL := (hf145.efl m_a0 r_a0 rfl).trans e67
                have e149 : fld f145 a0 6 = .ref GT := (hf145.efl m_a0 r_a0 rfl).trans e68
                have e150 : fi f145 a0 28 = fi f61 a0 28 := hf145.efi m_a0 r_a0 rfl
                refine tu_iinc F dX12_talk_111 hl (k := 6) rfl (by decide) ki_1 (by omega) (fun z151 ls hz151 hl => ?_)
                have hl : lv_has ls 9 [(8, .int z151), (0, .ref a0), (2, .int x2), (3, .int x3), (5, .int x5_41), (6, .int x6_41), (7, .int z50)] := hl
                refine lv_goto (tgt := 83) F.1 F.2.1 dX12_talk_114 (by decide) ?_
                exact ih83 f145 _ _ _ z151 (by omega) (by omega) (by omega) h hR hX hqkc0 hqkc1 hqkc2 hqkc3 hLT hRB hk hb83 (lv_sub hl [1, 2, 3, 4, 5, 6, 0] rfl)
          have hb83 : fr L R [] [78] f54 f54 := fr.rf
          exact j_83 (((12 - z60.toInt)).toNat + 1) f54 _ _ _ z60 (by omega) (by omega) (by omega) h hR hX hqkc0 hqkc1 hqkc2 hqkc3 hLT hRB hk hb83 (lv_sub hl [2, 3, 4, 5, 6, 1, 0] rfl)
    have hb41 : fr L R [(12, 28), (12, 29), (12, 35), (12, 36), (12, 37), (12, 38), (12, 39)] [12, 61, 68, 69, 70, 73, 74, 76, 78, 79, 80] f8 f8 := fr.rf
    exact j_41 (((16 - z15.toInt)).toNat + 1) f8 _ _ _ z14 z15 (by omega) (by omega) (by omega) h hR hX hqkc0 hqkc1 hqkc2 hqkc3 hLT hRB hk hb41 (lv_sub hl [3, 5, 6, 1, 0] rfl)
  · refine lv_aload_n F.1 F.2.1 dX12_talk_20 rfl (lv_at hl 1 rfl) ?_
    refine lv_iload F.1 F.2.1 dX12_talk_21 (lv_at hl 0 rfl) ?_
    refine tw_Vi (As := [.int v5]) F hZ h yk_X12_refuse mw_452 mw_453 mw_454 (s_X12_refuse l D cy L R O f0 a0 m_a0 r_a0 v5 ⟨by omega, by omega⟩) rfl rfl m_a0 r_a0 (fun e q => (T_12 e).mp q) rfl hl.1 rfl (Nat.le_of_ble_eq_true rfl) ⟨Nat.le_of_ble_eq_true rfl, Nat.le_of_ble_eq_true rfl⟩ ⟨Nat.le_of_ble_eq_true rfl, Nat.le_of_ble_eq_true rfl⟩ dX12_talk_23 (fun v153 f152 H locs hp152 h => ?_)
    obtain ⟨hf152, hv153a, hv153b⟩ := hp152
    have hR : RBA GA f152 := hR.fm hf152 m_GA r_GA (by decide +kernel)
    have hX : GZ GP GL f152 := hX.fm hf152 m_GP r_GP m_GL r_GL (by decide +kernel) (by decide +kernel)
    have hqkc0 : elj f152 GA 5159 = elj f0 GA 5159 := (hf152.eelj m_GA r_GA (by decide +kernel) _).trans hqkc0
    have hqkc1 : elj f152 GA 10349 = elj f0 GA 10349 := (hf152.eelj m_GA r_GA (by decide +kernel) _).trans hqkc1
    have hqkc2 : elj f152 GA 15539 = elj f0 GA 15539 := (hf152.eelj m_GA r_GA (by decide +kernel) _).trans hqkc2
    have hqkc3 : elj f152 GA 20729 = elj f0 GA 20729 := (hf152.eelj m_GA r_GA (by decide +kernel) _).trans hqkc3
    have hk : fr L R [(12, 1), (12, 28), (12, 29), (12, 35), (12, 36), (12, 37), (12, 38), (12, 39), (12, 51)] [12, 61, 68, 69, 70, 73, 74, 76, 78, 79, 80] f0 f152 := hk.tr hf152 rfl rfl
    have e154 : fld f152 a0 0 = .ref GA := (hf152.efl m_a0 r_a0 rfl).trans t_GA
    have e155 : fld f152 a0 22 = .ref GP := (hf152.efl m_a0 r_a0 rfl).trans t_GP
    have e156 : fld f152 a0 23 = .ref GL := (hf152.efl m_a0 r_a0 rfl).trans t_GL
    have e157 : fld f152 a0 6 = .ref GT := (hf152.efl m_a0 r_a0 rfl).trans t_GT
    exact hret f152 _ _ _ _ v153 dX12_talk_26 rfl ⟨hk, hR, hX, hqkc0, hqkc1, hqkc2, hqkc3⟩ h
def rm_X12_leadC : Room := { frames := 6, cells := 0, slots := 0, locals := 150 }
set_option maxHeartbeats 4000000 in
set_option maxRecDepth 100000 in
theorem s_X12_leadC (l : Launch) (D : va_G) (cy : Nat → ClassId) (L : List Nat) (R O : Nat → Nat) (f0 : Nat → va_E) (a0 : Nat) (m_a0 : a0 ∈ L) (r_a0 : R a0 = 12) (x1 : Int32) (x2 : Int32) (x3 : Int32) (x4 : Int32) (GA : Nat) (m_GA : GA ∈ L) (r_GA : R GA = 61) (t_GA : fld f0 a0 0 = .ref GA) (GP : Nat) (m_GP : GP ∈ L) (r_GP : R GP = 69) (t_GP : fld f0 a0 22 = .ref GP) (GL : Nat) (m_GL : GL ∈ L) (r_GL : R GL = 70) (t_GL : fld f0 a0 23 = .ref GL) (GT : Nat) (m_GT : GT ∈ L) (r_GT : R GT = 64) (t_GT : fld f0 a0 6 = .ref GT) (pre0 : RBA GA f0) (pre1 : GZ GP GL f0) : ∀ sz, Met l yX12_lead (Cond.code yX12_lead cX12_lead 11 (some .int) :: wsL_law) rm_X12_leadC (va_Pc [.ref a0, .int x1, .int x2, .int x3, .int x4] (tPZ D cy L R (TT cy L R) f0 sz)) (va_Qi (fun (r : Int32) f1 => fr L R [(12, 1), (12, 28), (12, 29), (12, 35), (12, 36), (12, 37), (12, 38), (12, 39), (12, 54)] [12, 61, 68, 69, 70, 73, 74, 76, 81, 82] f0 f1 ∧ RBA GA f1 ∧ GZ GP GL f1 ∧ elj f1 GA 5159 = elj f0 GA 5159 ∧ elj f1 GA 10349 = elj f0 GA 10349 ∧ elj f1 GA 15539 = elj f0 GA 15539 ∧ elj f1 GA 20729 = elj f0 GA 20729) (tB D (tA L sz) L R (TT cy L R)) (tA L sz)) 0 0 (tA L sz) := by
  refine tw_enteri (by decide +kernel) rfl (Nat.le_of_ble_eq_true rfl) ?_
  intro p e s m below meth c A ls args Q F hZ h hl hret
  have hl : lv_has ls 11 [(0, .ref a0), (1, .int x1), (2, .int x2), (3, .int x3), (4, .int x4)] := hl
  have hk : fr L R [(12, 1), (12, 28), (12, 29), (12, 35), (12, 36), (12, 37), (12, 38), (12, 39), (12, 54)] [12, 61, 68, 69, 70, 73, 74, 76, 81, 82] f0 f0 := fr.rf
  obtain ⟨a0_rowOf, m_a0_rowOf, r_a0_rowOf, t_a0_rowOf⟩ := h.rf m_a0 r_a0 (fun e q => (T_12 e).mp q) (k := 52) rfl
  have hR := pre0
  have hX := pre1
  have hqkc0 : elj f0 GA 5159 = elj f0 GA 5159 := rfl
  have hqkc1 : elj f0 GA 10349 = elj f0 GA 10349 := rfl
  have hqkc2 : elj f0 GA 15539 = elj f0 GA 15539 := rfl
  have hqkc3 : elj f0 GA 20729 = elj f0 GA 20729 := rfl
  refine lv_aload_n F.1 F.2.1 dX12_lead_0 rfl (lv_at hl 0 rfl) ?_
  refine lv_aload_n F.1 F.2.1 dX12_lead_1 rfl (lv_at hl 0 rfl) ?_
  refine lv_iload_n F.1 F.2.1 dX12_lead_2 rfl (lv_at hl 1 rfl) ?_
  refine tw_Vi (As := [.int x1]) F hZ h yk_X12_isScript mw_635 mw_636 mw_637 (s_X12_isScript l D cy L R O f0 a0 m_a0 r_a0 x1) rfl rfl m_a0 r_a0 (fun e q => (T_12 e).mp q) rfl hl.1 rfl (Nat.le_of_ble_eq_true rfl) ⟨Nat.le_of_ble_eq_true rfl, Nat.le_of_ble_eq_true rfl⟩ ⟨Nat.le_of_ble_eq_true rfl, Nat.le_of_ble_eq_true rfl⟩ dX12_lead_3 (fun v2 f1 H locs hp1 h => ?_)
  obtain ⟨rfl, hv2a, hv2b, hv2p0⟩ := hp1
  have j_24 : ∀ (H : Heap) (locs : List Loc) (ls : Array Slot) (y0_24 : Int32), 0 ≤ y0_24.toInt → y0_24.toInt ≤ 1 → (y0_24.toInt = 0 ∨ (0 ≤ x4.toInt ∧ x4.toInt ≤ 15 ∧ 0 ≤ x1.toInt ∧ x1.toInt ≤ 2)) → tS D cy A s.heap L R (TT cy L R) f0 s H locs → lv_has ls 11 [(0, .ref a0), (1, .int x1), (2, .int x2), (3, .int x3), (4, .int x4)] → W p l e rm_X12_leadC s m args below meth c H locs 0 0 Q (F0 m 24 ls [.int y0_24, .ref a0]) := by
    intro H locs ls y0_24 b3 b4 b5 h hl
    refine lv_iload_n F.1 F.2.1 dX12_lead_24 rfl (lv_at hl 2 rfl) ?_
    refine lv_iload_n F.1 F.2.1 dX12_lead_25 rfl (lv_at hl 3 rfl) ?_
    refine tw_bipush F dX12_lead_26 kb_6 (fun z6 hz6 => ?_)
    refine tw_Vi (As := [.int y0_24, .int x2, .int x3, .int z6]) F hZ h yk_X12_wrongLines mw_1183 mw_1184 mw_1185 (s_X12_wrongLines l D cy L R O f0 a0 m_a0 r_a0 y0_24 ⟨by omega, by omega⟩ x2 x3 z6 ⟨by omega, by omega⟩ GA m_GA r_GA t_GA GP m_GP r_GP t_GP GL m_GL r_GL t_GL GT m_GT r_GT t_GT) rfl rfl m_a0 r_a0 (fun e q => (T_12 e).mp q) rfl hl.1 rfl (Nat.le_of_ble_eq_true rfl) ⟨Nat.le_of_ble_eq_true rfl, Nat.le_of_ble_eq_true rfl⟩ ⟨Nat.le_of_ble_eq_true rfl, Nat.le_of_ble_eq_true rfl⟩ dX12_lead_28 (fun v8 f7 H locs hp7 h => ?_)
    obtain ⟨rfl, hv8a, hv8b, hv8p0, hv8p1⟩ := hp7
    refine lv_istore (lv' := [(5, .int v8), (0, .ref a0), (1, .int x1), (2, .int x2), (3, .int x3), (4, .int x4)]) F.1 F.2.1 dX12_lead_31 hl (by decide) rfl (fun ls hl => ?_)
    refine lv_iload F.1 F.2.1 dX12_lead_33 (lv_at hl 0 rfl) ?_
    refine tw_if_le (tgt := 45) F dX12_lead_35 (by decide) (fun b9 => ?_) (fun b9 => ?_)
    · have hLT : LT GT x2.toInt.toNat x3.toInt.toNat f0 := hv8p0.g.resolve_left (by omega)
      refine tw_iconst F dX12_lead_45 ki_1 (fun z10 hz10 => ?_)
      refine lv_istore (lv' := [(6, .int z10), (5, .int v8), (0, .ref a0), (1, .int x1), (2, .int x2), (3, .int x3), (4, .int x4)]) F.1 F.2.1 dX12_lead_46 hl (by decide) rfl (fun ls hl => ?_)
      refine tw_iconst F dX12_lead_48 ki_1 (fun z11 hz11 => ?_)
      refine lv_istore (lv' := [(7, .int z11), (6, .int z10), (5, .int v8), (0, .ref a0), (1, .int x1), (2, .int x2), (3, .int x3), (4, .int x4)]) F.1 F.2.1 dX12_lead_49 hl (by decide) rfl (fun ls hl => ?_)
      have j_51 : ∀ (n51 : Nat) (f12 : Nat → va_E) (H : Heap) (locs : List Loc) (ls : Array Slot) (x6_51 : Int32) (x7_51 : Int32), 1 ≤ x7_51.toInt → x7_51.toInt ≤ 6 → ((6 - x7_51.toInt)).toNat < n51 → tS D cy A s.heap L R (TT cy L R) f12 s H locs → RBA GA f12 → GZ GP GL f12 → elj f12 GA 5159 = elj f0 GA 5159 → elj f12 GA 10349 = elj f0 GA 10349 → elj f12 GA 15539 = elj f0 GA 15539 → elj f12 GA 20729 = elj f0 GA 20729 → LT GT x2.toInt.toNat x3.toInt.toNat f12 → fr L R [(12, 1), (12, 28), (12, 29), (12, 35), (12, 36), (12, 37), (12, 38), (12, 39), (12, 54)] [12, 61, 68, 69, 70, 73, 74, 76, 81, 82] f0 f12 → fr L R [(12, 28), (12, 29), (12, 35), (12, 36), (12, 37), (12, 38), (12, 39)] [12, 61, 68, 69, 70, 73, 74, 76, 81] f0 f12 → lv_has ls 11 [(0, .ref a0), (1, .int x1), (2, .int x2), (3, .int x3), (4, .int x4), (6, .int x6_51), (7, .int x7_51)] → W p l e rm_X12_leadC s m args below meth c H locs 0 0 Q (F0 m 51 ls []) := by
        intro n51
        induction n51 with
        | zero =>
          intro f12 H locs ls x6_51 x7_51 b13 b14 b15 h hR hX hqkc0 hqkc1 hqkc2 hqkc3 hLT hk hb51 hl
          exfalso
          omega
        | succ n51 ih51 =>
          intro f12 H locs ls x6_51 x7_51 b13 b14 b15 h hR hX hqkc0 hqkc1 hqkc2 hqkc3 hLT hk hb51 hl
          have e16 : fld f12 a0 0 = .ref GA := (hb51.efl m_a0 r_a0 rfl).trans t_GA
          have e17 : fld f12 a0 22 = .ref GP := (hb51.efl m_a0 r_a0 rfl).trans t_GP
          have e18 : fld f12 a0 23 = .ref GL := (hb51.efl m_a0 r_a0 rfl).trans t_GL
          have e19 : fld f12 a0 6 = .ref GT := (hb51.efl m_a0 r_a0 rfl).trans t_GT
          have e20 : fld f12 a0 52 = .ref a0_rowOf := (hb51.efl m_a0 r_a0 rfl).trans t_a0_rowOf
          refine lv_iload F.1 F.2.1 dX12_lead_51 (lv_at hl 6 rfl) ?_
          refine tw_iconst F dX12_lead_53 ki_5 (fun z21 hz21 => ?_)
          refine tw_icmp_gt (tgt := 236) F dX12_lead_54 (by decide) (fun b22 => ?_) (fun b22 => ?_)
          · refine lv_aload_n F.1 F.2.1 dX12_lead_236 rfl (lv_at hl 0 rfl) ?_
            refine tw_bipush F dX12_lead_237 kb_6 (fun z23 hz23 => ?_)
            refine tw_Vi (As := [.int z23]) F hZ h yk_X12_refuse mw_452 mw_453 mw_454 (s_X12_refuse l D cy L R O f12 a0 m_a0 r_a0 z23 ⟨by omega, by omega⟩) rfl rfl m_a0 r_a0 (fun e q => (T_12 e).mp q) rfl hl.1 rfl (Nat.le_of_ble_eq_true rfl) ⟨Nat.le_of_ble_eq_true rfl, Nat.le_of_ble_eq_true rfl⟩ ⟨Nat.le_of_ble_eq_true rfl, Nat.le_of_ble_eq_true rfl⟩ dX12_lead_239 (fun v25 f24 H locs hp24 h => ?_)
            obtain ⟨hf24, hv25a, hv25b⟩ := hp24
            have hR : RBA GA f24 := hR.fm hf24 m_GA r_GA (by decide +kernel)
            have hX : GZ GP GL f24 := hX.fm hf24 m_GP r_GP m_GL r_GL (by decide +kernel) (by decide +kernel)
            have hqkc0 : elj f24 GA 5159 = elj f0 GA 5159 := (hf24.eelj m_GA r_GA (by decide +kernel) _).trans hqkc0
            have hqkc1 : elj f24 GA 10349 = elj f0 GA 10349 := (hf24.eelj m_GA r_GA (by decide +kernel) _).trans hqkc1
            have hqkc2 : elj f24 GA 15539 = elj f0 GA 15539 := (hf24.eelj m_GA r_GA (by decide +kernel) _).trans hqkc2
            have hqkc3 : elj f24 GA 20729 = elj f0 GA 20729 := (hf24.eelj m_GA r_GA (by decide +kernel) _).trans hqkc3
            have hLT : LT GT x2.toInt.toNat x3.toInt.toNat f24 := hLT.fm hf24 m_GT r_GT (by decide +kernel)
            have hk : fr L R [(12, 1), (12, 28), (12, 29), (12, 35), (12, 36), (12, 37), (12, 38), (12, 39), (12, 54)] [12, 61, 68, 69, 70, 73, 74, 76, 81, 82] f0 f24 := hk.tr hf24 rfl rfl
            have e26 : fld f24 a0 0 = .ref GA := (hf24.efl m_a0 r_a0 rfl).trans e16
            have e27 : fld f24 a0 22 = .ref GP := (hf24.efl m_a0 r_a0 rfl).trans e17
            have e28 : fld f24 a0 23 = .ref GL := (hf24.efl m_a0 r_a0 rfl).trans e18
            have e29 : fld f24 a0 6 = .ref GT := (hf24.efl m_a0 r_a0 rfl).trans e19
            have e30 : fld f24 a0 52 = .ref a0_rowOf := (hf24.efl m_a0 r_a0 rfl).trans e20
            exact hret f24 _ _ _ _ v25 dX12_lead_242 rfl ⟨hk, hR, hX, hqkc0, hqkc1, hqkc2, hqkc3⟩ h
          · refine lv_iload F.1 F.2.1 dX12_lead_57 (lv_at hl 5 rfl) ?_
            refine lv_iload_n F.1 F.2.1 dX12_lead_59 rfl (lv_at hl 3 rfl) ?_
            refine lv_imul F.1 F.2.1 dX12_lead_60 ?_
            refine lv_topi (fun z31 _ => ?_)
            refine lv_istore (lv' := [(6, .int z31), (0, .ref a0), (1, .int x1), (2, .int x2), (3, .int x3), (4, .int x4), (7, .int x7_51)]) F.1 F.2.1 dX12_lead_61 hl (by decide) rfl (fun ls hl => ?_)
            refine tw_iconst F dX12_lead_63 ki_0 (fun z32 hz32 => ?_)
            refine lv_istore (lv' := [(8, .int z32), (6, .int z31), (0, .ref a0), (1, .int x1), (2, .int x2), (3, .int x3), (4, .int x4), (7, .int x7_51)]) F.1 F.2.1 dX12_lead_64 hl (by decide) rfl (fun ls hl => ?_)
            have j_66 : ∀ (n66 : Nat) (f33 : Nat → va_E) (H : Heap) (locs : List Loc) (ls : Array Slot) (x8_66 : Int32), 0 ≤ x8_66.toInt → ((2147483647 - x8_66.toInt)).toNat < n66 → tS D cy A s.heap L R (TT cy L R) f33 s H locs → RBA GA f33 → GZ GP GL f33 → elj f33 GA 5159 = elj f0 GA 5159 → elj f33 GA 10349 = elj f0 GA 10349 → elj f33 GA 15539 = elj f0 GA 15539 → elj f33 GA 20729 = elj f0 GA 20729 → LT GT x2.toInt.toNat x3.toInt.toNat f33 → fr L R [(12, 1), (12, 28), (12, 29), (12, 35), (12, 36), (12, 37), (12, 38), (12, 39), (12, 54)] [12, 61, 68, 69, 70, 73, 74, 76, 81, 82] f0 f33 → fr L R [(12, 28), (12, 29), (12, 35), (12, 36), (12, 37), (12, 38), (12, 39)] [12, 61, 68, 69, 70, 73, 74, 76, 81] f12 f33 → lv_has ls 11 [(0, .ref a0), (1, .int x1), (2, .int x2), (3, .int x3), (4, .int x4), (6, .int z31), (7, .int x7_51), (8, .int x8_66)] → W p l e rm_X12_leadC s m args below meth c H locs 0 0 Q (F0 m 66 ls []) := by
              intro n66
              induction n66 with
              | zero =>
                intro f33 H locs ls x8_66 b34 b35 h hR hX hqkc0 hqkc1 hqkc2 hqkc3 hLT hk hb66 hl
                exfalso
                omega
              | succ n66 ih66 =>
                intro f33 H locs ls x8_66 b34 b35 h hR hX hqkc0 hqkc1 hqkc2 hqkc3 hLT hk hb66 hl
                have hb51 : fr L R [(12, 28), (12, 29), (12, 35), (12, 36), (12, 37), (12, 38), (12, 39)] [12, 61, 68, 69, 70, 73, 74, 76, 81] f0 f33 := hb51.tr hb66 (by decide +kernel) (by decide +kernel)
                have e36 : fld f33 a0 0 = .ref GA := (hb66.efl m_a0 r_a0 rfl).trans e16
                have e37 : fld f33 a0 22 = .ref GP := (hb66.efl m_a0 r_a0 rfl).trans e17
                have e38 : fld f33 a0 23 = .ref GL := (hb66.efl m_a0 r_a0 rfl).trans e18
                have e39 : fld f33 a0 6 = .ref GT := (hb66.efl m_a0 r_a0 rfl).trans e19
                have e40 : fld f33 a0 52 = .ref a0_rowOf := (hb66.efl m_a0 r_a0 rfl).trans e20
                refine lv_iload F.1 F.2.1 dX12_lead_66 (lv_at hl 7 rfl) ?_
                refine lv_iload F.1 F.2.1 dX12_lead_68 (lv_at hl 5 rfl) ?_
                refine tw_icmp_ge (tgt := 230) F dX12_lead_70 (by decide) (fun b41 => ?_) (fun b41 => ?_)
                · refine tu_iinc F dX12_lead_230 hl (k := 6) rfl (by decide) ki_1 (by omega) (fun z42 ls hz42 hl => ?_)
                  have hl : lv_has ls 11 [(7, .int z42), (0, .ref a0), (1, .int x1), (2, .int x2), (3, .int x3), (4, .int x4), (6, .int z31), (8, .int x8_66)] := hl
                  refine lv_goto (tgt := 51) F.1 F.2.1 dX12_lead_233 (by decide) ?_
                  exact ih51 f33 _ _ _ z31 z42 (by omega) (by omega) (by omega) h hR hX hqkc0 hqkc1 hqkc2 hqkc3 hLT hk hb51 (lv_sub hl [1, 2, 3, 4, 5, 6, 0] rfl)
                · refine lv_iload F.1 F.2.1 dX12_lead_73 (lv_at hl 7 rfl) ?_
                  refine lv_istore (lv' := [(9, .int x8_66), (0, .ref a0), (1, .int x1), (2, .int x2), (3, .int x3), (4, .int x4), (6, .int z31), (7, .int x7_51), (8, .int x8_66)]) F.1 F.2.1 dX12_lead_75 hl (by decide) rfl (fun ls hl => ?_)
                  refine lv_iload F.1 F.2.1 dX12_lead_77 (lv_at hl 7 rfl) ?_
                  refine tw_iconst F dX12_lead_79 ki_1 (fun z43 hz43 => ?_)
                  refine tu_isub F dX12_lead_80 (by omega) (fun z44 hz44 => ?_)
                  refine lv_istore (lv' := [(10, .int z44), (9, .int x8_66), (0, .ref a0), (1, .int x1), (2, .int x2), (3, .int x3), (4, .int x4), (6, .int z31), (7, .int x7_51), (8, .int x8_66)]) F.1 F.2.1 dX12_lead_81 hl (by decide) rfl (fun ls hl => ?_)
                  have j_83 : ∀ (n83 : Nat) (f45 : Nat → va_E) (H : Heap) (locs : List Loc) (ls : Array Slot) (x9_83 : Int32) (x10_83 : Int32), (-1) ≤ x10_83.toInt → x10_83.toInt ≤ 4 → 0 ≤ x9_83.toInt → (RO a0_rowOf (x10_83.toInt) (x7_51.toInt) (x3.toInt) f45) → ((x10_83.toInt - (-1))).toNat < n83 → tS D cy A s.heap L R (TT cy L R) f45 s H locs → RBA GA f45 → GZ GP GL f45 → elj f45 GA 5159 = elj f0 GA 5159 → elj f45 GA 10349 = elj f0 GA 10349 → elj f45 GA 15539 = elj f0 GA 15539 → elj f45 GA 20729 = elj f0 GA 20729 → LT GT x2.toInt.toNat x3.toInt.toNat f45 → fr L R [(12, 1), (12, 28), (12, 29), (12, 35), (12, 36), (12, 37), (12, 38), (12, 39), (12, 54)] [12, 61, 68, 69, 70, 73, 74, 76, 81, 82] f0 f45 → fr L R [] [81] f33 f45 → lv_has ls 11 [(0, .ref a0), (1, .int x1), (2, .int x2), (3, .int x3), (4, .int x4), (6, .int z31), (7, .int x7_51), (8, .int x8_66), (9, .int x9_83), (10, .int x10_83)] → W p l e rm_X12_leadC s m args below meth c H locs 0 0 Q (F0 m 83 ls []) := by
                    intro n83
                    induction n83 with
                    | zero =>
                      intro f45 H locs ls x9_83 x10_83 b46 b47 b48 ip83_0 b49 h hR hX hqkc0 hqkc1 hqkc2 hqkc3 hLT hk hb83 hl
                      exfalso
                      omega
                    | succ n83 ih83 =>
                      intro f45 H locs ls x9_83 x10_83 b46 b47 b48 ip83_0 b49 h hR hX hqkc0 hqkc1 hqkc2 hqkc3 hLT hk hb83 hl
                      have hb51 : fr L R [(12, 28), (12, 29), (12, 35), (12, 36), (12, 37), (12, 38), (12, 39)] [12, 61, 68, 69, 70, 73, 74, 76, 81] f0 f45 := hb51.tr hb83 rfl rfl
                      have hb66 : fr L R [(12, 28), (12, 29), (12, 35), (12, 36), (12, 37), (12, 38), (12, 39)] [12, 61, 68, 69, 70, 73, 74, 76, 81] f12 f45 := hb66.tr hb83 rfl rfl
                      have e50 : fld f45 a0 0 = .ref GA := (hb83.efl m_a0 r_a0 rfl).trans e36
                      have e51 : fld f45 a0 22 = .ref GP := (hb83.efl m_a0 r_a0 rfl).trans e37
                      have e52 : fld f45 a0 23 = .ref GL := (hb83.efl m_a0 r_a0 rfl).trans e38
                      have e53 : fld f45 a0 6 = .ref GT := (hb83.efl m_a0 r_a0 rfl).trans e39
                      have e54 : fld f45 a0 52 = .ref a0_rowOf := (hb83.efl m_a0 r_a0 rfl).trans e40
                      refine lv_iload F.1 F.2.1 dX12_lead_83 (lv_at hl 9 rfl) ?_
                      refine tw_if_lt (tgt := 111) F dX12_lead_85 (by decide) (fun b55 => ?_) (fun b55 => ?_)
                      · have hRow : RO a0_rowOf (-1) (x7_51.toInt) (x3.toInt) f45 := ip83_0.lo (by omega)
                        refine lv_aload_n F.1 F.2.1 dX12_lead_111 rfl (lv_at hl 0 rfl) ?_
                        refine lv_iload_n F.1 F.2.1 dX12_lead_112 rfl (lv_at hl 1 rfl) ?_
                        refine tw_sipush F dX12_lead_113 ks_22410 (fun z56 hz56 => ?_)
                        refine tw_Vv (As := [.int x1, .int z56]) F hZ h yk_X12_works mw_1187 mw_1188 mw_1189 (s_X12_works l D cy L R O f45 a0 m_a0 r_a0 x1 ⟨by omega, by omega⟩ z56 ⟨by omega, by omega⟩ GA m_GA r_GA e50 GP m_GP r_GP e51 GL m_GL r_GL e52 GT m_GT r_GT e53 (isB_e isB_w (by omega)) (hR.s (by omega))) rfl rfl m_a0 r_a0 (fun e q => (T_12 e).mp q) rfl hl.1 rfl (Nat.le_of_ble_eq_true rfl) ⟨Nat.le_of_ble_eq_true rfl, Nat.le_of_ble_eq_true rfl⟩ ⟨Nat.le_of_ble_eq_true rfl, Nat.le_of_ble_eq_true rfl⟩ dX12_lead_116 (fun f57 H locs hp57 h => ?_)
                        obtain ⟨hf57, hv58p0, hv58p1⟩ := hp57
                        have hR : RBA GA f57 := hR.kw hv58p0 (Or.inl (by omega))
                        have hX : GZ GP GL f57 := hX.fm hf57 m_GP r_GP m_GL r_GL (by decide +kernel) (by decide +kernel)
                        have hqkc0 : elj f57 GA 5159 = elj f0 GA 5159 := (hv58p0 _ (by omega)).trans hqkc0
                        have hqkc1 : elj f57 GA 10349 = elj f0 GA 10349 := (hv58p0 _ (by omega)).trans hqkc1
                        have hqkc2 : elj f57 GA 15539 = elj f0 GA 15539 := (hv58p0 _ (by omega)).trans hqkc2
                        have hqkc3 : elj f57 GA 20729 = elj f0 GA 20729 := (hv58p0 _ (by omega)).trans hqkc3
                        have hLT : LT GT x2.toInt.toNat x3.toInt.toNat f57 := hLT.fm hf57 m_GT r_GT (by decide +kernel)
                        have hRow : RO a0_rowOf (-1) (x7_51.toInt) (x3.toInt) f57 := hRow.fm hf57 m_a0_rowOf r_a0_rowOf (by decide +kernel)
                        have hk : fr L R [(12, 1), (12, 28), (12, 29), (12, 35), (12, 36), (12, 37), (12, 38), (12, 39), (12, 54)] [12, 61, 68, 69, 70, 73, 74, 76, 81, 82] f0 f57 := hk.tr hf57 rfl rfl
                        have hb51 : fr L R [(12, 28), (12, 29), (12, 35), (12, 36), (12, 37), (12, 38), (12, 39)] [12, 61, 68, 69, 70, 73, 74, 76, 81] f0 f57 := hb51.tr hf57 rfl rfl
                        have hb66 : fr L R [(12, 28), (12, 29), (12, 35), (12, 36), (12, 37), (12, 38), (12, 39)] [12, 61, 68, 69, 70, 73, 74, 76, 81] f12 f57 := hb66.tr hf57 rfl rfl
                        have e59 : fld f57 a0 0 = .ref GA := (hf57.efl m_a0 r_a0 rfl).trans e50
                        have e60 : fld f57 a0 22 = .ref GP := (hf57.efl m_a0 r_a0 rfl).trans e51
                        have e61 : fld f57 a0 23 = .ref GL := (hf57.efl m_a0 r_a0 rfl).trans e52
                        have e62 : fld f57 a0 6 = .ref GT := (hf57.efl m_a0 r_a0 rfl).trans e53
                        have e63 : fld f57 a0 52 = .ref a0_rowOf := (hf57.efl m_a0 r_a0 rfl).trans e54
                        have hRB : RB GA 22410 f57 := by have q := hv58p1; rw [show z56.toInt.toNat = 22410 by omega] at q; exact q
                        refine tw_iconst F dX12_lead_119 ki_0 (fun z64 hz64 => ?_)
                        refine lv_istore (lv' := [(10, .int z64), (0, .ref a0), (1, .int x1), (2, .int x2), (3, .int x3), (4, .int x4), (6, .int z31), (7, .int x7_51), (8, .int x8_66), (9, .int x9_83)]) F.1 F.2.1 dX12_lead_120 hl (by decide) rfl (fun ls hl => ?_)
                        have j_122 : ∀ (n122 : Nat) (f65 : Nat → va_E) (H : Heap) (locs : List Loc) (ls : Array Slot) (x10_122 : Int32), 0 ≤ x10_122.toInt → x10_122.toInt ≤ 5 → ((5 - x10_122.toInt)).toNat < n122 → tS D cy A s.heap L R (TT cy L R) f65 s H locs → RBA GA f65 → GZ GP GL f65 → elj f65 GA 5159 = elj f0 GA 5159 → elj f65 GA 10349 = elj f0 GA 10349 → elj f65 GA 15539 = elj f0 GA 15539 → elj f65 GA 20729 = elj f0 GA 20729 → LT GT x2.toInt.toNat x3.toInt.toNat f65 → RO a0_rowOf (-1) (x7_51.toInt) (x3.toInt) f65 → RB GA 22410 f65 → fr L R [(12, 1), (12, 28), (12, 29), (12, 35), (12, 36), (12, 37), (12, 38), (12, 39), (12, 54)] [12, 61, 68, 69, 70, 73, 74, 76, 81, 82] f0 f65 → fr L R [(12, 28), (12, 29), (12, 35), (12, 36), (12, 37), (12, 38), (12, 39)] [12, 61, 68, 69, 70, 73, 74, 76] f57 f65 → lv_has ls 11 [(0, .ref a0), (1, .int x1), (2, .int x2), (3, .int x3), (4, .int x4), (6, .int z31), (7, .int x7_51), (8, .int x8_66), (10, .int x10_122)] → W p l e rm_X12_leadC s m args below meth c H locs 0 0 Q (F0 m 122 ls []) := by
                          intro n122
                          induction n122 with
                          | zero =>
                            intro f65 H locs ls x10_122 b66 b67 b68 h hR hX hqkc0 hqkc1 hqkc2 hqkc3 hLT hRow hRB hk hb122 hl
                            exfalso
                            omega
                          | succ n122 ih122 =>
                            intro f65 H locs ls x10_122 b66 b67 b68 h hR hX hqkc0 hqkc1 hqkc2 hqkc3 hLT hRow hRB hk hb122 hl
                            have hb51 : fr L R [(12, 28), (12, 29), (12, 35), (12, 36), (12, 37), (12, 38), (12, 39)] [12, 61, 68, 69, 70, 73, 74, 76, 81] f0 f65 := hb51.tr hb122 (by decide +kernel) (by decide +kernel)
                            have hb66 : fr L R [(12, 28), (12, 29), (12, 35), (12, 36), (12, 37), (12, 38), (12, 39)] [12, 61, 68, 69, 70, 73, 74, 76, 81] f12 f65 := hb66.tr hb122 (by decide +kernel) (by decide +kernel)
                            have e69 : fld f65 a0 0 = .ref GA := (hb122.efl m_a0 r_a0 rfl).trans e59
                            have e70 : fld f65 a0 22 = .ref GP := (hb122.efl m_a0 r_a0 rfl).trans e60
                            have e71 : fld f65 a0 23 = .ref GL := (hb122.efl m_a0 r_a0 rfl).trans e61
                            have e72 : fld f65 a0 6 = .ref GT := (hb122.efl m_a0 r_a0 rfl).trans e62
                            have e73 : fld f65 a0 52 = .ref a0_rowOf := (hb122.efl m_a0 r_a0 rfl).trans e63
                            refine lv_iload F.1 F.2.1 dX12_lead_122 (lv_at hl 8 rfl) ?_
                            refine lv_iload F.1 F.2.1 dX12_lead_124 (lv_at hl 6 rfl) ?_
                            refine tw_icmp_ge (tgt := 154) F dX12_lead_126 (by decide) (fun b74 => ?_) (fun b74 => ?_)
                            · refine lv_aload_n F.1 F.2.1 dX12_lead_154 rfl (lv_at hl 0 rfl) ?_
                              refine lv_aload_n F.1 F.2.1 dX12_lead_155 rfl (lv_at hl 0 rfl) ?_
                              refine lv_iload F.1 F.2.1 dX12_lead_156 (lv_at hl 4 rfl) ?_
                              refine tw_Vi (As := [.int x4]) F hZ h yk_X12_lineAt mw_495 mw_496 mw_497 (s_X12_lineAt l D cy L R O f65 a0 m_a0 r_a0 x4 ⟨by omega, by omega⟩) rfl rfl m_a0 r_a0 (fun e q => (T_12 e).mp q) rfl hl.1 rfl (Nat.le_of_ble_eq_true rfl) ⟨Nat.le_of_ble_eq_true rfl, Nat.le_of_ble_eq_true rfl⟩ ⟨Nat.le_of_ble_eq_true rfl, Nat.le_of_ble_eq_true rfl⟩ dX12_lead_158 (fun v76 f75 H locs hp75 h => ?_)
                              obtain ⟨rfl, hv76a, hv76b, hv76p0⟩ := hp75
                              refine tw_Vi (As := [.int v76]) F hZ h yk_X12_isSaid mw_1232 mw_1233 mw_1234 (s_X12_isSaid l D cy L R O f65 a0 m_a0 r_a0 v76 ⟨by omega, by omega⟩ (ac_l (by omega))) rfl rfl m_a0 r_a0 (fun e q => (T_12 e).mp q) rfl hl.1 rfl (Nat.le_of_ble_eq_true rfl) ⟨Nat.le_of_ble_eq_true rfl, Nat.le_of_ble_eq_true rfl⟩ ⟨Nat.le_of_ble_eq_true rfl, Nat.le_of_ble_eq_true rfl⟩ dX12_lead_161 (fun v78 f77 H locs hp77 h => ?_)
                              obtain ⟨rfl, hv78a, hv78b⟩ := hp77
                              refine tw_if_ne (tgt := 170) F dX12_lead_164 (by decide) (fun b79 => ?_) (fun b79 => ?_)
                              · refine tw_iconst F dX12_lead_170 ki_0 (fun z80 hz80 => ?_)
                                refine lv_istore (lv' := [(10, .int z80), (0, .ref a0), (1, .int x1), (2, .int x2), (3, .int x3), (4, .int x4), (6, .int z31), (7, .int x7_51), (8, .int x8_66)]) F.1 F.2.1 dX12_lead_171 hl (by decide) rfl (fun ls hl => ?_)
                                have j_173 : ∀ (n173 : Nat) (f81 : Nat → va_E) (H : Heap) (locs : List Loc) (ls : Array Slot) (x10_173 : Int32), 0 ≤ x10_173.toInt → x10_173.toInt ≤ 5 → ((5 - x10_173.toInt)).toNat < n173 → tS D cy A s.heap L R (TT cy L R) f81 s H locs → RBA GA f81 → GZ GP GL f81 → elj f81 GA 5159 = elj f0 GA 5159 → elj f81 GA 10349 = elj f0 GA 10349 → elj f81 GA 15539 = elj f0 GA 15539 → elj f81 GA 20729 = elj f0 GA 20729 → LT GT x2.toInt.toNat x3.toInt.toNat f81 → RO a0_rowOf (-1) (x7_51.toInt) (x3.toInt) f81 → RB GA 22410 f81 → fr L R [(12, 1), (12, 28), (12, 29), (12, 35), (12, 36), (12, 37), (12, 38), (12, 39), (12, 54)] [12, 61, 68, 69, 70, 73, 74, 76, 81, 82] f0 f81 → fr L R [] [82] f65 f81 → lv_has ls 11 [(0, .ref a0), (2, .int x2), (7, .int x7_51), (10, .int x10_173)] → W p l e rm_X12_leadC s m args below meth c H locs 0 0 Q (F0 m 173 ls []) := by
                                  intro n173
                                  induction n173 with
                                  | zero =>
                                    intro f81 H locs ls x10_173 b82 b83 b84 h hR hX hqkc0 hqkc1 hqkc2 hqkc3 hLT hRow hRB hk hb173 hl
                                    exfalso
                                    omega
                                  | succ n173 ih173 =>
                                    intro f81 H locs ls x10_173 b82 b83 b84 h hR hX hqkc0 hqkc1 hqkc2 hqkc3 hLT hRow hRB hk hb173 hl
                                    have e85 : fld f81 a0 0 = .ref GA := (hb173.efl m_a0 r_a0 rfl).trans e69
                                    have e86 : fld f81 a0 22 = .ref GP := (hb173.efl m_a0 r_a0 rfl).trans e70
                                    have e87 : fld f81 a0 23 = .ref GL := (hb173.efl m_a0 r_a0 rfl).trans e71
                                    have e88 : fld f81 a0 6 = .ref GT := (hb173.efl m_a0 r_a0 rfl).trans e72
                                    have e89 : fld f81 a0 52 = .ref a0_rowOf := (hb173.efl m_a0 r_a0 rfl).trans e73
                                    refine lv_iload F.1 F.2.1 dX12_lead_173 (lv_at hl 3 rfl) ?_
                                    refine lv_iload F.1 F.2.1 dX12_lead_175 (lv_at hl 2 rfl) ?_
                                    refine tw_icmp_ge (tgt := 211) F dX12_lead_177 (by decide) (fun b90 => ?_) (fun b90 => ?_)
                                    · refine lv_aload_n F.1 F.2.1 dX12_lead_211 rfl (lv_at hl 0 rfl) ?_
                                      refine lv_iload F.1 F.2.1 dX12_lead_212 (lv_at hl 2 rfl) ?_
                                      refine p_12_422 F h m_a0 r_a0 (by omega) dX12_lead_214 (fun f91 H locs e91p hf91 h => ?_)
                                      have hR : RBA GA f91 := hR.fm hf91 m_GA r_GA (by decide +kernel)
                                      have hX : GZ GP GL f91 := hX.fm hf91 m_GP r_GP m_GL r_GL (by decide +kernel) (by decide +kernel)
                                      have hqkc0 : elj f91 GA 5159 = elj f0 GA 5159 := (hf91.eelj m_GA r_GA (by decide +kernel) _).trans hqkc0
                                      have hqkc1 : elj f91 GA 10349 = elj f0 GA 10349 := (hf91.eelj m_GA r_GA (by decide +kernel) _).trans hqkc1
                                      have hqkc2 : elj f91 GA 15539 = elj f0 GA 15539 := (hf91.eelj m_GA r_GA (by decide +kernel) _).trans hqkc2
                                      have hqkc3 : elj f91 GA 20729 = elj f0 GA 20729 := (hf91.eelj m_GA r_GA (by decide +kernel) _).trans hqkc3
                                      have hLT : LT GT x2.toInt.toNat x3.toInt.toNat f91 := hLT.fm hf91 m_GT r_GT (by decide +kernel)
                                      have hRow : RO a0_rowOf (-1) (x7_51.toInt) (x3.toInt) f91 := hRow.fm hf91 m_a0_rowOf r_a0_rowOf (by decide +kernel)
                                      have hRB : RB GA 22410 f91 := hRB.fm hf91 m_GA r_GA (by decide +kernel)
                                      have hk : fr L R [(12, 1), (12, 28), (12, 29), (12, 35), (12, 36), (12, 37), (12, 38), (12, 39), (12, 54)] [12, 61, 68, 69, 70, 73, 74, 76, 81, 82] f0 f91 := hk.tr hf91 rfl rfl
                                      have e92 : fld f91 a0 0 = .ref GA := (hf91.efl m_a0 r_a0 rfl).trans e85
                                      have e93 : fld f91 a0 22 = .ref GP := (hf91.efl m_a0 r_a0 rfl).trans e86
                                      have e94 : fld f91 a0 23 = .ref GL := (hf91.efl m_a0 r_a0 rfl).trans e87
                                      have e95 : fld f91 a0 6 = .ref GT := (hf91.efl m_a0 r_a0 rfl).trans e88
                                      have e96 : fld f91 a0 52 = .ref a0_rowOf := (hf91.efl m_a0 r_a0 rfl).trans e89
                                      refine lv_aload_n F.1 F.2.1 dX12_lead_217 rfl (lv_at hl 0 rfl) ?_
                                      refine lv_iload F.1 F.2.1 dX12_lead_218 (lv_at hl 2 rfl) ?_
                                      refine tw_Vi (As := [.int x7_51]) F hZ h yk_X12_gives mw_499 mw_500 mw_501 (s_X12_gives l D cy L R O f91 a0 m_a0 r_a0 x7_51) rfl rfl m_a0 r_a0 (fun e q => (T_12 e).mp q) rfl hl.1 rfl (Nat.le_of_ble_eq_true rfl) ⟨Nat.le_of_ble_eq_true rfl, Nat.le_of_ble_eq_true rfl⟩ ⟨Nat.le_of_ble_eq_true rfl, Nat.le_of_ble_eq_true rfl⟩ dX12_lead_220 (fun v98 f97 H locs hp97 h => ?_)
                                      have hf97 := hp97
                                      have hR : RBA GA f97 := hR.fm hf97 m_GA r_GA (by decide +kernel)
                                      have hX : GZ GP GL f97 := hX.fm hf97 m_GP r_GP m_GL r_GL (by decide +kernel) (by decide +kernel)
                                      have hqkc0 : elj f97 GA 5159 = elj f0 GA 5159 := (hf97.eelj m_GA r_GA (by decide +kernel) _).trans hqkc0
                                      have hqkc1 : elj f97 GA 10349 = elj f0 GA 10349 := (hf97.eelj m_GA r_GA (by decide +kernel) _).trans hqkc1
                                      have hqkc2 : elj f97 GA 15539 = elj f0 GA 15539 := (hf97.eelj m_GA r_GA (by decide +kernel) _).trans hqkc2
                                      have hqkc3 : elj f97 GA 20729 = elj f0 GA 20729 := (hf97.eelj m_GA r_GA (by decide +kernel) _).trans hqkc3
                                      have hLT : LT GT x2.toInt.toNat x3.toInt.toNat f97 := hLT.fm hf97 m_GT r_GT (by decide +kernel)
                                      have hRow : RO a0_rowOf (-1) (x7_51.toInt) (x3.toInt) f97 := hRow.fm hf97 m_a0_rowOf r_a0_rowOf (by decide +kernel)
                                      have hRB : RB GA 22410 f97 := hRB.fm hf97 m_GA r_GA (by decide +kernel)
                                      have hk : fr L R [(12, 1), (12, 28), (12, 29), (12, 35), (12, 36), (12, 37), (12, 38), (12, 39), (12, 54)] [12, 61, 68, 69, 70, 73, 74, 76, 81, 82] f0 f97 := hk.tr hf97 rfl rfl
                                      have e99 : fld f97 a0 0 = .ref GA := (hf97.efl m_a0 r_a0 rfl).trans e92
                                      have e100 : fld f97 a0 22 = .ref GP := (hf97.efl m_a0 r_a0 rfl).trans e93
                                      have e101 : fld f97 a0 23 = .ref GL := (hf97.efl m_a0 r_a0 rfl).trans e94
                                      have e102 : fld f97 a0 6 = .ref GT := (hf97.efl m_a0 r_a0 rfl).trans e95
                                      have e103 : fld f97 a0 52 = .ref a0_rowOf := (hf97.efl m_a0 r_a0 rfl).trans e96
                                      exact hret f97 _ _ _ _ v98 dX12_lead_223 rfl ⟨hk, hR, hX, hqkc0, hqkc1, hqkc2, hqkc3⟩ h
                                    · refine lv_aload_n F.1 F.2.1 dX12_lead_180 rfl (lv_at hl 0 rfl) ?_
                                      refine g_12_96 F h m_a0 r_a0 dX12_lead_181 (fun o104 m_o104 r_o104 ho104 => ?_)
                                      refine lv_iload F.1 F.2.1 dX12_lead_184 (lv_at hl 3 rfl) ?_
                                      refine lv_aload_n F.1 F.2.1 dX12_lead_186 rfl (lv_at hl 0 rfl) ?_
                                      refine g_12_24 F h m_a0 r_a0 dX12_lead_187 (fun o105 m_o105 r_o105 ho105 => ?_)
                                      obtain rfl := (fld_inj e88 ho105).symm
                                      refine tw_bipush F dX12_lead_190 kb_60 (fun z106 hz106 => ?_)
                                      refine lv_iload_n F.1 F.2.1 dX12_lead_192 rfl (lv_at hl 1 rfl) ?_
                                      refine tu_imull F dX12_lead_193 hz106 (by omega) (fun z107 hz107 => ?_)
                                      refine lv_aload_n F.1 F.2.1 dX12_lead_194 rfl (lv_at hl 0 rfl) ?_
                                      refine g_12_93 F h m_a0 r_a0 dX12_lead_195 (fun o108 m_o108 r_o108 ho108 => ?_)
                                      obtain rfl := (fld_inj e89 ho108).symm
                                      refine lv_iload F.1 F.2.1 dX12_lead_198 (lv_at hl 3 rfl) ?_
                                      refine ld_81 F h m_a0_rowOf r_a0_rowOf (by omega) dX12_lead_200 (fun v109 hv109a hv109b => ?_)
                                      refine tu_iadd F dX12_lead_201 (by omega) (fun z110 hz110 => ?_)
                                      refine ld_64 F h m_GT r_GT (by omega) dX12_lead_202 (fun v111 => ?_)
                                      refine lv_l2i F.1 F.2.1 dX12_lead_203 rfl ?_
                                      refine lv_topi (fun z112 _ => ?_)
                                      refine st_82 F h m_o104 r_o104 (by omega) dX12_lead_204 (fun f113 H locs hf113 h => ?_)
                                      have hR : RBA GA f113 := hR.fm hf113 m_GA r_GA (by decide +kernel)
                                      have hX : GZ GP GL f113 := hX.fm hf113 m_GP r_GP m_GL r_GL (by decide +kernel) (by decide +kernel)
                                      have hqkc0 : elj f113 GA 5159 = elj f0 GA 5159 := (hf113.eelj m_GA r_GA (by decide +kernel) _).trans hqkc0
                                      have hqkc1 : elj f113 GA 10349 = elj f0 GA 10349 := (hf113.eelj m_GA r_GA (by decide +kernel) _).trans hqkc1
                                      have hqkc2 : elj f113 GA 15539 = elj f0 GA 15539 := (hf113.eelj m_GA r_GA (by decide +kernel) _).trans hqkc2
                                      have hqkc3 : elj f113 GA 20729 = elj f0 GA 20729 := (hf113.eelj m_GA r_GA (by decide +kernel) _).trans hqkc3
                                      have hLT : LT GT x2.toInt.toNat x3.toInt.toNat f113 := hLT.fm hf113 m_GT r_GT (by decide +kernel)
                                      have hRow : RO a0_rowOf (-1) (x7_51.toInt) (x3.toInt) f113 := hRow.fm hf113 m_a0_rowOf r_a0_rowOf (by decide +kernel)
                                      have hRB : RB GA 22410 f113 := hRB.fm hf113 m_GA r_GA (by decide +kernel)
                                      have hk : fr L R [(12, 1), (12, 28), (12, 29), (12, 35), (12, 36), (12, 37), (12, 38), (12, 39), (12, 54)] [12, 61, 68, 69, 70, 73, 74, 76, 81, 82] f0 f113 := hk.tr hf113 rfl rfl
                                      have hb173 : fr L R [] [82] f65 f113 := hb173.tr hf113 rfl rfl
                                      have e114 : fld f113 a0 0 = .ref GA := (hf113.efl m_a0 r_a0 rfl).trans e85
                                      have e115 : fld f113 a0 22 = .ref GP := (hf113.efl m_a0 r_a0 rfl).trans e86
                                      have e116 : fld f113 a0 23 = .ref GL := (hf113.efl m_a0 r_a0 rfl).trans e87
                                      have e117 : fld f113 a0 6 = .ref GT := (hf113.efl m_a0 r_a0 rfl).trans e88
                                      have e118 : fld f113 a0 52 = .ref a0_rowOf := (hf113.efl m_a0 r_a0 rfl).trans e89
                                      refine tu_iinc F dX12_lead_205 hl (k := 3) rfl (by decide) ki_1 (by omega) (fun z119 ls hz119 hl => ?_)
                                      have hl : lv_has ls 11 [(10, .int z119), (0, .ref a0), (2, .int x2), (7, .int x7_51)] := hl
                                      refine lv_goto (tgt := 173) F.1 F.2.1 dX12_lead_208 (by decide) ?_
                                      exact ih173 f113 _ _ _ z119 (by omega) (by omega) (by omega) h hR hX hqkc0 hqkc1 hqkc2 hqkc3 hLT hRow hRB hk hb173 (lv_sub hl [1, 2, 3, 0] rfl)
                                have hb173 : fr L R [] [82] f65 f65 := fr.rf
                                exact j_173 (((5 - z80.toInt)).toNat + 1) f65 _ _ _ z80 (by omega) (by omega) (by omega) h hR hX hqkc0 hqkc1 hqkc2 hqkc3 hLT hRow hRB hk hb173 (lv_sub hl [1, 3, 7, 0] rfl)
                              · refine lv_goto (tgt := 224) F.1 F.2.1 dX12_lead_167 (by decide) ?_
                                have tb6 := tb_i z31
                                refine tu_iinc F dX12_lead_224 hl (k := 7) rfl (by decide) ki_1 (by omega) (fun z120 ls hz120 hl => ?_)
                                have hl : lv_has ls 11 [(8, .int z120), (0, .ref a0), (1, .int x1), (2, .int x2), (3, .int x3), (4, .int x4), (6, .int z31), (7, .int x7_51), (10, .int x10_122)] := hl
                                refine lv_goto (tgt := 66) F.1 F.2.1 dX12_lead_227 (by decide) ?_
                                exact ih66 f65 _ _ _ z120 (by omega) (by omega) h hR hX hqkc0 hqkc1 hqkc2 hqkc3 hLT hk hb66 (lv_sub hl [1, 2, 3, 4, 5, 6, 7, 0] rfl)
                            · refine lv_aload_n F.1 F.2.1 dX12_lead_129 rfl (lv_at hl 0 rfl) ?_
                              refine lv_iload_n F.1 F.2.1 dX12_lead_130 rfl (lv_at hl 2 rfl) ?_
                              refine lv_aload_n F.1 F.2.1 dX12_lead_131 rfl (lv_at hl 0 rfl) ?_
                              refine g_12_93 F h m_a0 r_a0 dX12_lead_132 (fun o121 m_o121 r_o121 ho121 => ?_)
                              obtain rfl := (fld_inj e73 ho121).symm
                              refine lv_iload F.1 F.2.1 dX12_lead_135 (lv_at hl 8 rfl) ?_
                              refine le_81 F h m_a0_rowOf r_a0_rowOf (by omega) dX12_lead_137 (fun v122 ev122 hv122a hv122b => ?_)
                              have u137 := hRow x10_122.toInt.toNat (by omega) (by omega)
                              refine tw_Vv (As := [.int x2, .int v122]) F hZ h yk_X12_hearsOf mw_1191 mw_1192 mw_1193 (s_X12_hearsOf l D cy L R O f65 a0 m_a0 r_a0 x2 ⟨by omega, by omega⟩ v122 ⟨by omega, by omega⟩ GA m_GA r_GA e69 GP m_GP r_GP e70 GL m_GL r_GL e71 GT m_GT r_GT e72 (hLT _ (by omega))) rfl rfl m_a0 r_a0 (fun e q => (T_12 e).mp q) rfl hl.1 rfl (Nat.le_of_ble_eq_true rfl) ⟨Nat.le_of_ble_eq_true rfl, Nat.le_of_ble_eq_true rfl⟩ ⟨Nat.le_of_ble_eq_true rfl, Nat.le_of_ble_eq_true rfl⟩ dX12_lead_138 (fun f123 H locs hp123 h => ?_)
                              have hf123 := hp123
                              have hR : RBA GA f123 := hR.fm hf123 m_GA r_GA (by decide +kernel)
                              have hX : GZ GP GL f123 := hX.fm hf123 m_GP r_GP m_GL r_GL (by decide +kernel) (by decide +kernel)
                              have hqkc0 : elj f123 GA 5159 = elj f0 GA 5159 := (hf123.eelj m_GA r_GA (by decide +kernel) _).trans hqkc0
                              have hqkc1 : elj f123 GA 10349 = elj f0 GA 10349 := (hf123.eelj m_GA r_GA (by decide +kernel) _).trans hqkc1
                              have hqkc2 : elj f123 GA 15539 = elj f0 GA 15539 := (hf123.eelj m_GA r_GA (by decide +kernel) _).trans hqkc2
                              have hqkc3 : elj f123 GA 20729 = elj f0 GA 20729 := (hf123.eelj m_GA r_GA (by decide +kernel) _).trans hqkc3
                              have hLT : LT GT x2.toInt.toNat x3.toInt.toNat f123 := hLT.fm hf123 m_GT r_GT (by decide +kernel)
                              have hRow : RO a0_rowOf (-1) (x7_51.toInt) (x3.toInt) f123 := hRow.fm hf123 m_a0_rowOf r_a0_rowOf (by decide +kernel)
                              have hRB : RB GA 22410 f123 := hRB.fm hf123 m_GA r_GA (by decide +kernel)
                              have hk : fr L R [(12, 1), (12, 28), (12, 29), (12, 35), (12, 36), (12, 37), (12, 38), (12, 39), (12, 54)] [12, 61, 68, 69, 70, 73, 74, 76, 81, 82] f0 f123 := hk.tr hf123 rfl rfl
                              have hb51 : fr L R [(12, 28), (12, 29), (12, 35), (12, 36), (12, 37), (12, 38), (12, 39)] [12, 61, 68, 69, 70, 73, 74, 76, 81] f0 f123 := hb51.tr hf123 rfl rfl
                              have hb66 : fr L R [(12, 28), (12, 29), (12, 35), (12, 36), (12, 37), (12, 38), (12, 39)] [12, 61, 68, 69, 70, 73, 74, 76, 81] f12 f123 := hb66.tr hf123 rfl rfl
                              have hb122 : fr L R [(12, 28), (12, 29), (12, 35), (12, 36), (12, 37), (12, 38), (12, 39)] [12, 61, 68, 69, 70, 73, 74, 76] f57 f123 := hb122.tr hf123 rfl rfl
                              have e125 : fld f123 a0 0 = .ref GA := (hf123.efl m_a0 r_a0 rfl).trans e69
                              have e126 : fld f123 a0 22 = .ref GP := (hf123.efl m_a0 r_a0 rfl).trans e70
                              have e127 : fld f123 a0 23 = .ref GL := (hf123.efl m_a0 r_a0 rfl).trans e71
                              have e128 : fld f123 a0 6 = .ref GT := (hf123.efl m_a0 r_a0 rfl).trans e72
                              have e129 : fld f123 a0 52 = .ref a0_rowOf := (hf123.efl m_a0 r_a0 rfl).trans e73
                              refine lv_aload_n F.1 F.2.1 dX12_lead_141 rfl (lv_at hl 0 rfl) ?_
                              refine tw_sipush F dX12_lead_142 ks_22410 (fun z130 hz130 => ?_)
                              refine tw_Vv (As := [.int z130]) F hZ h yk_X12_answers0 mw_1057 mw_1058 mw_1059 (s_X12_answers0 l D cy L R O f123 a0 m_a0 r_a0 z130 ⟨by omega, by omega⟩ GA m_GA r_GA e125 GP m_GP r_GP e126 GL m_GL r_GL e127 GT m_GT r_GT e128 (isB_e isB_w (by omega)) (by rw [show z130.toInt.toNat = 22410 by omega]; exact hRB) hX) rfl rfl m_a0 r_a0 (fun e q => (T_12 e).mp q) rfl hl.1 rfl (Nat.le_of_ble_eq_true rfl) ⟨Nat.le_of_ble_eq_true rfl, Nat.le_of_ble_eq_true rfl⟩ ⟨Nat.le_of_ble_eq_true rfl, Nat.le_of_ble_eq_true rfl⟩ dX12_lead_145 (fun f131 H locs hp131 h => ?_)
                              obtain ⟨hf131, hv132p0, hv132p1⟩ := hp131
                              have hR : RBA GA f131 := hR.kw hv132p1 (Or.inl (by omega))
                              have hX : GZ GP GL f131 := hv132p0
                              have hqkc0 : elj f131 GA 5159 = elj f0 GA 5159 := (hv132p1 _ (by omega)).trans hqkc0
                              have hqkc1 : elj f131 GA 10349 = elj f0 GA 10349 := (hv132p1 _ (by omega)).trans hqkc1
                              have hqkc2 : elj f131 GA 15539 = elj f0 GA 15539 := (hv132p1 _ (by omega)).trans hqkc2
                              have hqkc3 : elj f131 GA 20729 = elj f0 GA 20729 := (hv132p1 _ (by omega)).trans hqkc3
                              have hLT : LT GT x2.toInt.toNat x3.toInt.toNat f131 := hLT.fm hf131 m_GT r_GT (by decide +kernel)
                              have hRow : RO a0_rowOf (-1) (x7_51.toInt) (x3.toInt) f131 := hRow.fm hf131 m_a0_rowOf r_a0_rowOf (by decide +kernel)
                              have hRB : RB GA 22410 f131 := hRB.kw hv132p1 (by omega)
                              have hk : fr L R [(12, 1), (12, 28), (12, 29), (12, 35), (12, 36), (12, 37), (12, 38), (12, 39), (12, 54)] [12, 61, 68, 69, 70, 73, 74, 76, 81, 82] f0 f131 := hk.tr hf131 (by decide +kernel) (by decide +kernel)
                              have hb51 : fr L R [(12, 28), (12, 29), (12, 35), (12, 36), (12, 37), (12, 38), (12, 39)] [12, 61, 68, 69, 70, 73, 74, 76, 81] f0 f131 := hb51.tr hf131 (by decide +kernel) (by decide +kernel)
                              have hb66 : fr L R [(12, 28), (12, 29), (12, 35), (12, 36), (12, 37), (12, 38), (12, 39)] [12, 61, 68, 69, 70, 73, 74, 76, 81] f12 f131 := hb66.tr hf131 (by decide +kernel) (by decide +kernel)
                              have hb122 : fr L R [(12, 28), (12, 29), (12, 35), (12, 36), (12, 37), (12, 38), (12, 39)] [12, 61, 68, 69, 70, 73, 74, 76] f57 f131 := hb122.tr hf131 (by decide +kernel) (by decide +kernel)
                              have e133 : fld f131 a0 0 = .ref GA := (hf131.efl m_a0 r_a0 rfl).trans e125
                              have e134 : fld f131 a0 22 = .ref GP := (hf131.efl m_a0 r_a0 rfl).trans e126
                              have e135 : fld f131 a0 23 = .ref GL := (hf131.efl m_a0 r_a0 rfl).trans e127
                              have e136 : fld f131 a0 6 = .ref GT := (hf131.efl m_a0 r_a0 rfl).trans e128
                              have e137 : fld f131 a0 52 = .ref a0_rowOf := (hf131.efl m_a0 r_a0 rfl).trans e129
                              refine tu_iinc F dX12_lead_148 hl (k := 8) rfl (by decide) ki_1 (by omega) (fun z138 ls hz138 hl => ?_)
                              have hl : lv_has ls 11 [(10, .int z138), (0, .ref a0), (1, .int x1), (2, .int x2), (3, .int x3), (4, .int x4), (6, .int z31), (7, .int x7_51), (8, .int x8_66)] := hl
                              refine lv_goto (tgt := 122) F.1 F.2.1 dX12_lead_151 (by decide) ?_
                              exact ih122 f131 _ _ _ z138 (by omega) (by omega) (by omega) h hR hX hqkc0 hqkc1 hqkc2 hqkc3 hLT hRow hRB hk hb122 (lv_sub hl [1, 2, 3, 4, 5, 6, 7, 8, 0] rfl)
                        have hb122 : fr L R [(12, 28), (12, 29), (12, 35), (12, 36), (12, 37), (12, 38), (12, 39)] [12, 61, 68, 69, 70, 73, 74, 76] f57 f57 := fr.rf
                        exact j_122 (((5 - z64.toInt)).toNat + 1) f57 _ _ _ z64 (by omega) (by omega) (by omega) h hR hX hqkc0 hqkc1 hqkc2 hqkc3 hLT hRow hRB hk hb122 (lv_sub hl [1, 2, 3, 4, 5, 6, 7, 8, 0] rfl)
                      · refine lv_aload_n F.1 F.2.1 dX12_lead_88 rfl (lv_at hl 0 rfl) ?_
                        refine g_12_93 F h m_a0 r_a0 dX12_lead_89 (fun o139 m_o139 r_o139 ho139 => ?_)
                        obtain rfl := (fld_inj e54 ho139).symm
                        refine lv_iload F.1 F.2.1 dX12_lead_92 (lv_at hl 9 rfl) ?_
                        refine lv_iload F.1 F.2.1 dX12_lead_94 (lv_at hl 8 rfl) ?_
                        refine lv_iload_n F.1 F.2.1 dX12_lead_96 rfl (lv_at hl 3 rfl) ?_
                        refine tu_irem F dX12_lead_97 (by omega) (fun z140 hz140a hz140b => ?_)
                        refine se_81 F h m_a0_rowOf r_a0_rowOf (by omega) (by omega) dX12_lead_98 (fun f141 H locs e141a e141b hf141 h => ?_)
                        have hR : RBA GA f141 := hR.fm hf141 m_GA r_GA (by decide +kernel)
                        have hX : GZ GP GL f141 := hX.fm hf141 m_GP r_GP m_GL r_GL (by decide +kernel) (by decide +kernel)
                        have hqkc0 : elj f141 GA 5159 = elj f0 GA 5159 := (hf141.eelj m_GA r_GA (by decide +kernel) _).trans hqkc0
                        have hqkc1 : elj f141 GA 10349 = elj f0 GA 10349 := (hf141.eelj m_GA r_GA (by decide +kernel) _).trans hqkc1
                        have hqkc2 : elj f141 GA 15539 = elj f0 GA 15539 := (hf141.eelj m_GA r_GA (by decide +kernel) _).trans hqkc2
                        have hqkc3 : elj f141 GA 20729 = elj f0 GA 20729 := (hf141.eelj m_GA r_GA (by decide +kernel) _).trans hqkc3
                        have hLT : LT GT x2.toInt.toNat x3.toInt.toNat f141 := hLT.fm hf141 m_GT r_GT (by decide +kernel)
                        have hk : fr L R [(12, 1), (12, 28), (12, 29), (12, 35), (12, 36), (12, 37), (12, 38), (12, 39), (12, 54)] [12, 61, 68, 69, 70, 73, 74, 76, 81, 82] f0 f141 := hk.tr hf141 rfl rfl
                        have hb51 : fr L R [(12, 28), (12, 29), (12, 35), (12, 36), (12, 37), (12, 38), (12, 39)] [12, 61, 68, 69, 70, 73, 74, 76, 81] f0 f141 := hb51.tr hf141 rfl rfl
                        have hb66 : fr L R [(12, 28), (12, 29), (12, 35), (12, 36), (12, 37), (12, 38), (12, 39)] [12, 61, 68, 69, 70, 73, 74, 76, 81] f12 f141 := hb66.tr hf141 rfl rfl
                        have hb83 : fr L R [] [81] f33 f141 := hb83.tr hf141 rfl rfl
                        have e142 : fld f141 a0 0 = .ref GA := (hf141.efl m_a0 r_a0 rfl).trans e50
                        have e143 : fld f141 a0 22 = .ref GP := (hf141.efl m_a0 r_a0 rfl).trans e51
                        have e144 : fld f141 a0 23 = .ref GL := (hf141.efl m_a0 r_a0 rfl).trans e52
                        have e145 : fld f141 a0 6 = .ref GT := (hf141.efl m_a0 r_a0 rfl).trans e53
                        have e146 : fld f141 a0 52 = .ref a0_rowOf := (hf141.efl m_a0 r_a0 rfl).trans e54
                        refine lv_iload F.1 F.2.1 dX12_lead_99 (lv_at hl 8 rfl) ?_
                        refine lv_iload_n F.1 F.2.1 dX12_lead_101 rfl (lv_at hl 3 rfl) ?_
                        refine tu_idiv F dX12_lead_102 (by omega) (fun z147 hz147a hz147b => ?_)
                        refine lv_istore (lv' := [(9, .int z147), (0, .ref a0), (1, .int x1), (2, .int x2), (3, .int x3), (4, .int x4), (6, .int z31), (7, .int x7_51), (8, .int x8_66), (10, .int x10_83)]) F.1 F.2.1 dX12_lead_103 hl (by decide) rfl (fun ls hl => ?_)
                        refine tu_iinc F dX12_lead_105 hl (k := 9) rfl (by decide) ki_m1 (by omega) (fun z148 ls hz148 hl => ?_)
                        have hl : lv_has ls 11 [(10, .int z148), (9, .int z147), (0, .ref a0), (1, .int x1), (2, .int x2), (3, .int x3), (4, .int x4), (6, .int z31), (7, .int x7_51), (8, .int x8_66)] := hl
                        refine lv_goto (tgt := 83) F.1 F.2.1 dX12_lead_108 (by decide) ?_
                        exact ih83 f141 _ _ _ z147 z148 (by omega) (by omega) (by omega) (ip83_0.st e141a (by omega) (by omega) (by omega)) (by omega) h hR hX hqkc0 hqkc1 hqkc2 hqkc3 hLT hk hb83 (lv_sub hl [2, 3, 4, 5, 6, 7, 8, 9, 1, 0] rfl)
                  have hb83 : fr L R [] [81] f33 f33 := fr.rf
                  exact j_83 (((z44.toInt - (-1))).toNat + 1) f33 _ _ _ x8_66 z44 (by omega) (by omega) (by omega) (fun q h1 h2 => absurd h2 (by omega)) (by omega) h hR hX hqkc0 hqkc1 hqkc2 hqkc3 hLT hk hb83 (lv_sub hl [2, 3, 4, 5, 6, 7, 8, 9, 1, 0] rfl)
            have hb66 : fr L R [(12, 28), (12, 29), (12, 35), (12, 36), (12, 37), (12, 38), (12, 39)] [12, 61, 68, 69, 70, 73, 74, 76, 81] f12 f12 := fr.rf
            exact j_66 (((2147483647 - z32.toInt)).toNat + 1) f12 _ _ _ z32 (by omega) (by omega) h hR hX hqkc0 hqkc1 hqkc2 hqkc3 hLT hk hb66 (lv_sub hl [2, 3, 4, 5, 6, 1, 7, 0] rfl)
      have hb51 : fr L R [(12, 28), (12, 29), (12, 35), (12, 36), (12, 37), (12, 38), (12, 39)] [12, 61, 68, 69, 70, 73, 74, 76, 81] f0 f0 := fr.rf
      exact j_51 (((6 - z11.toInt)).toNat + 1) f0 _ _ _ z10 z11 (by omega) (by omega) (by omega) h hR hX hqkc0 hqkc1 hqkc2 hqkc3 hLT hk hb51 (lv_sub hl [3, 4, 5, 6, 7, 1, 0] rfl)
    · refine lv_aload_n F.1 F.2.1 dX12_lead_38 rfl (lv_at hl 1 rfl) ?_
      refine lv_iload F.1 F.2.1 dX12_lead_39 (lv_at hl 0 rfl) ?_
      refine tw_Vi (As := [.int v8]) F hZ h yk_X12_refuse mw_452 mw_453 mw_454 (s_X12_refuse l D cy L R O f0 a0 m_a0 r_a0 v8 ⟨by omega, by omega⟩) rfl rfl m_a0 r_a0 (fun e q => (T_12 e).mp q) rfl hl.1 rfl (Nat.le_of_ble_eq_true rfl) ⟨Nat.le_of_ble_eq_true rfl, Nat.le_of_ble_eq_true rfl⟩ ⟨Nat.le_of_ble_eq_true rfl, Nat.le_of_ble_eq_true rfl⟩ dX12_lead_41 (fun v150 f149 H locs hp149 h => ?_)
      obtain ⟨hf149, hv150a, hv150b⟩ := hp149
      have hR : RBA GA f149 := hR.fm hf149 m_GA r_GA (by decide +kernel)
      have hX : GZ GP GL f149 := hX.fm hf149 m_GP r_GP m_GL r_GL (by decide +kernel) (by decide +kernel)
      have hqkc0 : elj f149 GA 5159 = elj f0 GA 5159 := (hf149.eelj m_GA r_GA (by decide +kernel) _).trans hqkc0
      have hqkc1 : elj f149 GA 10349 = elj f0 GA 10349 := (hf149.eelj m_GA r_GA (by decide +kernel) _).trans hqkc1
      have hqkc2 : elj f149 GA 15539 = elj f0 GA 15539 := (hf149.eelj m_GA r_GA (by decide +kernel) _).trans hqkc2
      have hqkc3 : elj f149 GA 20729 = elj f0 GA 20729 := (hf149.eelj m_GA r_GA (by decide +kernel) _).trans hqkc3
      have hk : fr L R [(12, 1), (12, 28), (12, 29), (12, 35), (12, 36), (12, 37), (12, 38), (12, 39), (12, 54)] [12, 61, 68, 69, 70, 73, 74, 76, 81, 82] f0 f149 := hk.tr hf149 rfl rfl
      have e151 : fld f149 a0 0 = .ref GA := (hf149.efl m_a0 r_a0 rfl).trans t_GA
      have e152 : fld f149 a0 22 = .ref GP := (hf149.efl m_a0 r_a0 rfl).trans t_GP
      have e153 : fld f149 a0 23 = .ref GL := (hf149.efl m_a0 r_a0 rfl).trans t_GL
      have e154 : fld f149 a0 6 = .ref GT := (hf149.efl m_a0 r_a0 rfl).trans t_GT
      have e155 : fld f149 a0 52 = .ref a0_rowOf := (hf149.efl m_a0 r_a0 rfl).trans t_a0_rowOf
      exact hret f149 _ _ _ _ v150 dX12_lead_44 rfl ⟨hk, hR, hX, hqkc0, hqkc1, hqkc2, hqkc3⟩ h
  have j_23 : ∀ (H : Heap) (locs : List Loc) (ls : Array Slot), tS D cy A s.heap L R (TT cy L R) f0 s H locs → lv_has ls 11 [(0, .ref a0), (1, .int x1), (2, .int x2), (3, .int x3), (4, .int x4)] → W p l e rm_X12_leadC s m args below meth c H locs 0 0 Q (F0 m 23 ls [.ref a0]) := by
    intro H locs ls h hl
    refine tw_iconst F dX12_lead_23 ki_0 (fun z156 hz156 => ?_)
    exact j_24 _ _ _ z156 (by omega) (by omega) (by omega) h (lv_sub hl [0, 1, 2, 3, 4] rfl)
  refine tw_if_eq (tgt := 23) F dX12_lead_6 (by decide) (fun b157 => ?_) (fun b157 => ?_)
  · exact j_23 _ _ _ h (lv_sub hl [0, 1, 2, 3, 4] rfl)
  · refine lv_aload_n F.1 F.2.1 dX12_lead_9 rfl (lv_at hl 0 rfl) ?_
    refine lv_iload F.1 F.2.1 dX12_lead_10 (lv_at hl 4 rfl) ?_
    refine tu_i2l F dX12_lead_12 (fun z158 hz158 hz158a hz158b => ?_)
    refine tw_Vi (As := [.long z158]) F hZ h yk_X12_isLine mw_797 mw_798 mw_799 (s_X12_isLine l D cy L R O f0 a0 m_a0 r_a0 z158) rfl rfl m_a0 r_a0 (fun e q => (T_12 e).mp q) rfl hl.1 rfl (Nat.le_of_ble_eq_true rfl) ⟨Nat.le_of_ble_eq_true rfl, Nat.le_of_ble_eq_true rfl⟩ ⟨Nat.le_of_ble_eq_true rfl, Nat.le_of_ble_eq_true rfl⟩ dX12_lead_13 (fun v160 f159 H locs hp159 h => ?_)
    obtain ⟨rfl, hv160a, hv160b, hv160p0⟩ := hp159
    refine tw_if_eq (tgt := 23) F dX12_lead_16 (by decide) (fun b161 => ?_) (fun b161 => ?_)
    · exact j_23 _ _ _ h (lv_sub hl [0, 1, 2, 3, 4] rfl)
    · refine tw_iconst F dX12_lead_19 ki_1 (fun z162 hz162 => ?_)
      refine lv_goto (tgt := 24) F.1 F.2.1 dX12_lead_20 (by decide) ?_
      exact j_24 _ _ _ z162 (by omega) (by omega) (by omega) h (lv_sub hl [0, 1, 2, 3, 4] rfl)
def rm_X12_brokeC : Room := { frames := 7, cells := 0, slots := 0, locals := 175 }
set_option maxHeartbeats 4000000 in
set_option maxRecDepth 100000 in
theorem s_X12_brokeC (l : Launch) (D : va_G) (cy : Nat → ClassId) (L : List Nat) (R O : Nat → Nat) (f0 : Nat → va_E) (a0 : Nat) (m_a0 : a0 ∈ L) (r_a0 : R a0 = 12) (x1 : Int32) (x2 : Int32) (x3 : Int32) (GA : Nat) (m_GA : GA ∈ L) (r_GA : R GA = 61) (t_GA : fld f0 a0 0 = .ref GA) (GP : Nat) (m_GP : GP ∈ L) (r_GP : R GP = 69) (t_GP : fld f0 a0 22 = .ref GP) (GL : Nat) (m_GL : GL ∈ L) (r_GL : R GL = 70) (t_GL : fld f0 a0 23 = .ref GL) (GT : Nat) (m_GT : GT ∈ L) (r_GT : R GT = 64) (t_GT : fld f0 a0 6 = .ref GT) (pre0 : RBA GA f0) (pre1 : GZ GP GL f0) : ∀ sz, Met l yX12_broke (Cond.code yX12_broke cX12_broke 5 (some .int) :: wsL_law) rm_X12_brokeC (va_Pc [.ref a0, .int x1, .int x2, .int x3] (tPZ D cy L R (TT cy L R) f0 sz)) (va_Qi (fun (r : Int32) f1 => fr L R [(12, 1), (12, 28), (12, 29), (12, 35), (12, 36), (12, 37), (12, 38), (12, 39)] [12, 61, 68, 69, 70, 73, 74, 76] f0 f1 ∧ RBA GA f1 ∧ GZ GP GL f1 ∧ elj f1 GA 5159 = elj f0 GA 5159 ∧ elj f1 GA 10349 = elj f0 GA 10349 ∧ elj f1 GA 15539 = elj f0 GA 15539 ∧ elj f1 GA 20729 = elj f0 GA 20729) (tB D (tA L sz) L R (TT cy L R)) (tA L sz)) 0 0 (tA L sz) := by
  refine tw_enteri (by decide +kernel) rfl (Nat.le_of_ble_eq_true rfl) ?_
  intro p e s m below meth c A ls args Q F hZ h hl hret
  have hl : lv_has ls 5 [(0, .ref a0), (1, .int x1), (2, .int x2), (3, .int x3)] := hl
  have hk : fr L R [(12, 1), (12, 28), (12, 29), (12, 35), (12, 36), (12, 37), (12, 38), (12, 39)] [12, 61, 68, 69, 70, 73, 74, 76] f0 f0 := fr.rf
  have hR := pre0
  have hX := pre1
  have hqkc0 : elj f0 GA 5159 = elj f0 GA 5159 := rfl
  have hqkc1 : elj f0 GA 10349 = elj f0 GA 10349 := rfl
  have hqkc2 : elj f0 GA 15539 = elj f0 GA 15539 := rfl
  have hqkc3 : elj f0 GA 20729 = elj f0 GA 20729 := rfl
  refine lv_aload_n F.1 F.2.1 dX12_broke_0 rfl (lv_at hl 0 rfl) ?_
  refine lv_aload_n F.1 F.2.1 dX12_broke_1 rfl (lv_at hl 0 rfl) ?_
  refine lv_iload_n F.1 F.2.1 dX12_broke_2 rfl (lv_at hl 1 rfl) ?_
  refine tw_Vi (As := [.int x1]) F hZ h yk_X12_isScript mw_635 mw_636 mw_637 (s_X12_isScript l D cy L R O f0 a0 m_a0 r_a0 x1) rfl rfl m_a0 r_a0 (fun e q => (T_12 e).mp q) rfl hl.1 rfl (Nat.le_of_ble_eq_true rfl) ⟨Nat.le_of_ble_eq_true rfl, Nat.le_of_ble_eq_true rfl⟩ ⟨Nat.le_of_ble_eq_true rfl, Nat.le_of_ble_eq_true rfl⟩ dX12_broke_3 (fun v2 f1 H locs hp1 h => ?_)
  obtain ⟨rfl, hv2a, hv2b, hv2p0⟩ := hp1
  refine lv_iload_n F.1 F.2.1 dX12_broke_6 rfl (lv_at hl 2 rfl) ?_
  refine lv_iload_n F.1 F.2.1 dX12_broke_7 rfl (lv_at hl 3 rfl) ?_
  refine tw_bipush F dX12_broke_8 kb_16 (fun z3 hz3 => ?_)
  refine tw_Vi (As := [.int v2, .int x2, .int x3, .int z3]) F hZ h yk_X12_wrongLines mw_1183 mw_1184 mw_1185 (s_X12_wrongLines l D cy L R O f0 a0 m_a0 r_a0 v2 ⟨by omega, by omega⟩ x2 x3 z3 ⟨by omega, by omega⟩ GA m_GA r_GA t_GA GP m_GP r_GP t_GP GL m_GL r_GL t_GL GT m_GT r_GT t_GT) rfl rfl m_a0 r_a0 (fun e q => (T_12 e).mp q) rfl hl.1 rfl (Nat.le_of_ble_eq_true rfl) ⟨Nat.le_of_ble_eq_true rfl, Nat.le_of_ble_eq_true rfl⟩ ⟨Nat.le_of_ble_eq_true rfl, Nat.le_of_ble_eq_true rfl⟩ dX12_broke_10 (fun v5 f4 H locs hp4 h => ?_)
  obtain ⟨rfl, hv5a, hv5b, hv5p0, hv5p1⟩ := hp4
  refine lv_istore (lv' := [(4, .int v5), (0, .ref a0), (1, .int x1), (2, .int x2), (3, .int x3)]) F.1 F.2.1 dX12_broke_13 hl (by decide) rfl (fun ls hl => ?_)
  refine lv_iload F.1 F.2.1 dX12_broke_15 (lv_at hl 0 rfl) ?_
  refine tw_if_le (tgt := 29) F dX12_broke_17 (by decide) (fun b6 => ?_) (fun b6 => ?_)
  · have hLT : LT GT x2.toInt.toNat x3.toInt.toNat f0 := hv5p0.g.resolve_left (by omega)
    refine lv_aload_n F.1 F.2.1 dX12_broke_29 rfl (lv_at hl 1 rfl) ?_
    refine lv_aload_n F.1 F.2.1 dX12_broke_30 rfl (lv_at hl 1 rfl) ?_
    refine lv_iload_n F.1 F.2.1 dX12_broke_31 rfl (lv_at hl 2 rfl) ?_
    refine lv_iload_n F.1 F.2.1 dX12_broke_32 rfl (lv_at hl 3 rfl) ?_
    refine lv_iload_n F.1 F.2.1 dX12_broke_33 rfl (lv_at hl 4 rfl) ?_
    refine tw_Vi (As := [.int x1, .int x2, .int x3]) F hZ h yk_X12_brokenBy mw_1355 mw_1356 mw_1357 (s_X12_brokenBy l D cy L R O f0 a0 m_a0 r_a0 x1 ⟨by omega, by omega⟩ x2 ⟨by omega, by omega⟩ x3 ⟨by omega, by omega⟩ GA m_GA r_GA t_GA GP m_GP r_GP t_GP GL m_GL r_GL t_GL GT m_GT r_GT t_GT hX hR hLT) rfl rfl m_a0 r_a0 (fun e q => (T_12 e).mp q) rfl hl.1 rfl (Nat.le_of_ble_eq_true rfl) ⟨Nat.le_of_ble_eq_true rfl, Nat.le_of_ble_eq_true rfl⟩ ⟨Nat.le_of_ble_eq_true rfl, Nat.le_of_ble_eq_true rfl⟩ dX12_broke_34 (fun v8 f7 H locs hp7 h => ?_)
    obtain ⟨hf7, hv8a, hv8b, hv8p0, hv8p1⟩ := hp7
    have hR : RBA GA f7 := hR.kw hv8p1 (Or.inl (by omega))
    have hX : GZ GP GL f7 := hv8p0
    have hqkc0 : elj f7 GA 5159 = elj f0 GA 5159 := (hv8p1 _ (by omega)).trans hqkc0
    have hqkc1 : elj f7 GA 10349 = elj f0 GA 10349 := (hv8p1 _ (by omega)).trans hqkc1
    have hqkc2 : elj f7 GA 15539 = elj f0 GA 15539 := (hv8p1 _ (by omega)).trans hqkc2
    have hqkc3 : elj f7 GA 20729 = elj f0 GA 20729 := (hv8p1 _ (by omega)).trans hqkc3
    have hLT : LT GT x2.toInt.toNat x3.toInt.toNat f7 := hLT.fm hf7 m_GT r_GT (by decide +kernel)
    have hk : fr L R [(12, 1), (12, 28), (12, 29), (12, 35), (12, 36), (12, 37), (12, 38), (12, 39)] [12, 61, 68, 69, 70, 73, 74, 76] f0 f7 := hk.tr hf7 (by decide +kernel) (by decide +kernel)
    have e9 : fld f7 a0 0 = .ref GA := (hf7.efl m_a0 r_a0 rfl).trans t_GA
    have e10 : fld f7 a0 22 = .ref GP := (hf7.efl m_a0 r_a0 rfl).trans t_GP
    have e11 : fld f7 a0 23 = .ref GL := (hf7.efl m_a0 r_a0 rfl).trans t_GL
    have e12 : fld f7 a0 6 = .ref GT := (hf7.efl m_a0 r_a0 rfl).trans t_GT
    refine tw_Vi (As := [.int v8]) F hZ h yk_X12_gives mw_499 mw_500 mw_501 (s_X12_gives l D cy L R O f7 a0 m_a0 r_a0 v8) rfl rfl m_a0 r_a0 (fun e q => (T_12 e).mp q) rfl hl.1 rfl (Nat.le_of_ble_eq_true rfl) ⟨Nat.le_of_ble_eq_true rfl, Nat.le_of_ble_eq_true rfl⟩ ⟨Nat.le_of_ble_eq_true rfl, Nat.le_of_ble_eq_true rfl⟩ dX12_broke_37 (fun v14 f13 H locs hp13 h => ?_)
    have hf13 := hp13
    have hR : RBA GA f13 := hR.fm hf13 m_GA r_GA (by decide +kernel)
    have hX : GZ GP GL f13 := hX.fm hf13 m_GP r_GP m_GL r_GL (by decide +kernel) (by decide +kernel)
    have hqkc0 : elj f13 GA 5159 = elj f0 GA 5159 := (hf13.eelj m_GA r_GA (by decide +kernel) _).trans hqkc0
    have hqkc1 : elj f13 GA 10349 = elj f0 GA 10349 := (hf13.eelj m_GA r_GA (by decide +kernel) _).trans hqkc1
    have hqkc2 : elj f13 GA 15539 = elj f0 GA 15539 := (hf13.eelj m_GA r_GA (by decide +kernel) _).trans hqkc2
    have hqkc3 : elj f13 GA 20729 = elj f0 GA 20729 := (hf13.eelj m_GA r_GA (by decide +kernel) _).trans hqkc3
    have hLT : LT GT x2.toInt.toNat x3.toInt.toNat f13 := hLT.fm hf13 m_GT r_GT (by decide +kernel)
    have hk : fr L R [(12, 1), (12, 28), (12, 29), (12, 35), (12, 36), (12, 37), (12, 38), (12, 39)] [12, 61, 68, 69, 70, 73, 74, 76] f0 f13 := hk.tr hf13 rfl rfl
    have e15 : fld f13 a0 0 = .ref GA := (hf13.efl m_a0 r_a0 rfl).trans e9
    have e16 : fld f13 a0 22 = .ref GP := (hf13.efl m_a0 r_a0 rfl).trans e10
    have e17 : fld f13 a0 23 = .ref GL := (hf13.efl m_a0 r_a0 rfl).trans e11
    have e18 : fld f13 a0 6 = .ref GT := (hf13.efl m_a0 r_a0 rfl).trans e12
    exact hret f13 _ _ _ _ v14 dX12_broke_40 rfl ⟨hk, hR, hX, hqkc0, hqkc1, hqkc2, hqkc3⟩ h
  · refine lv_aload_n F.1 F.2.1 dX12_broke_20 rfl (lv_at hl 1 rfl) ?_
    refine lv_iload F.1 F.2.1 dX12_broke_21 (lv_at hl 0 rfl) ?_
    refine tw_Vi (As := [.int v5]) F hZ h yk_X12_refuse mw_452 mw_453 mw_454 (s_X12_refuse l D cy L R O f0 a0 m_a0 r_a0 v5 ⟨by omega, by omega⟩) rfl rfl m_a0 r_a0 (fun e q => (T_12 e).mp q) rfl hl.1 rfl (Nat.le_of_ble_eq_true rfl) ⟨Nat.le_of_ble_eq_true rfl, Nat.le_of_ble_eq_true rfl⟩ ⟨Nat.le_of_ble_eq_true rfl, Nat.le_of_ble_eq_true rfl⟩ dX12_broke_23 (fun v20 f19 H locs hp19 h => ?_)
    obtain ⟨hf19, hv20a, hv20b⟩ := hp19
    have hR : RBA GA f19 := hR.fm hf19 m_GA r_GA (by decide +kernel)
    have hX : GZ GP GL f19 := hX.fm hf19 m_GP r_GP m_GL r_GL (by decide +kernel) (by decide +kernel)
    have hqkc0 : elj f19 GA 5159 = elj f0 GA 5159 := (hf19.eelj m_GA r_GA (by decide +kernel) _).trans hqkc0
    have hqkc1 : elj f19 GA 10349 = elj f0 GA 10349 := (hf19.eelj m_GA r_GA (by decide +kernel) _).trans hqkc1
    have hqkc2 : elj f19 GA 15539 = elj f0 GA 15539 := (hf19.eelj m_GA r_GA (by decide +kernel) _).trans hqkc2
    have hqkc3 : elj f19 GA 20729 = elj f0 GA 20729 := (hf19.eelj m_GA r_GA (by decide +kernel) _).trans hqkc3
    have hk : fr L R [(12, 1), (12, 28), (12, 29), (12, 35), (12, 36), (12, 37), (12, 38), (12, 39)] [12, 61, 68, 69, 70, 73, 74, 76] f0 f19 := hk.tr hf19 rfl rfl
    have e21 : fld f19 a0 0 = .ref GA := (hf19.efl m_a0 r_a0 rfl).trans t_GA
    have e22 : fld f19 a0 22 = .ref GP := (hf19.efl m_a0 r_a0 rfl).trans t_GP
    have e23 : fld f19 a0 23 = .ref GL := (hf19.efl m_a0 r_a0 rfl).trans t_GL
    have e24 : fld f19 a0 6 = .ref GT := (hf19.efl m_a0 r_a0 rfl).trans t_GT
    refine lv_goto (tgt := 40) F.1 F.2.1 dX12_broke_26 (by decide) ?_
    exact hret f19 _ _ _ _ v20 dX12_broke_40 rfl ⟨hk, hR, hX, hqkc0, hqkc1, hqkc2, hqkc3⟩ h
def rm_X12_mendC : Room := { frames := 7, cells := 0, slots := 0, locals := 175 }
set_option maxHeartbeats 4000000 in
set_option maxRecDepth 100000 in
theorem s_X12_mendC (l : Launch) (D : va_G) (cy : Nat → ClassId) (L : List Nat) (R O : Nat → Nat) (f0 : Nat → va_E) (a0 : Nat) (m_a0 : a0 ∈ L) (r_a0 : R a0 = 12) (x1 : Int32) (x2 : Int32) (x3 : Int32) (x4 : Int32) (GA : Nat) (m_GA : GA ∈ L) (r_GA : R GA = 61) (t_GA : fld f0 a0 0 = .ref GA) (GP : Nat) (m_GP : GP ∈ L) (r_GP : R GP = 69) (t_GP : fld f0 a0 22 = .ref GP) (GL : Nat) (m_GL : GL ∈ L) (r_GL : R GL = 70) (t_GL : fld f0 a0 23 = .ref GL) (GT : Nat) (m_GT : GT ∈ L) (r_GT : R GT = 64) (t_GT : fld f0 a0 6 = .ref GT) (pre0 : RBA GA f0) (pre1 : GZ GP GL f0) : ∀ sz, Met l yX12_mend (Cond.code yX12_mend cX12_mend 10 (some .int) :: wsL_law) rm_X12_mendC (va_Pc [.ref a0, .int x1, .int x2, .int x3, .int x4] (tPZ D cy L R (TT cy L R) f0 sz)) (va_Qi (fun (r : Int32) f1 => fr L R [(12, 1), (12, 28), (12, 29), (12, 31), (12, 32), (12, 35), (12, 36), (12, 37), (12, 38), (12, 39)] [12, 61, 68, 69, 70, 73, 74, 76] f0 f1 ∧ RBA GA f1 ∧ GZ GP GL f1 ∧ elj f1 GA 5159 = elj f0 GA 5159 ∧ elj f1 GA 10349 = elj f0 GA 10349 ∧ elj f1 GA 15539 = elj f0 GA 15539 ∧ elj f1 GA 20729 = elj f0 GA 20729) (tB D (tA L sz) L R (TT cy L R)) (tA L sz)) 0 0 (tA L sz) := by
  refine tw_enteri (by decide +kernel) rfl (Nat.le_of_ble_eq_true rfl) ?_
  intro p e s m below meth c A ls args Q F hZ h hl hret
  have hl : lv_has ls 10 [(0, .ref a0), (1, .int x1), (2, .int x2), (3, .int x3), (4, .int x4)] := hl
  have hk : fr L R [(12, 1), (12, 28), (12, 29), (12, 31), (12, 32), (12, 35), (12, 36), (12, 37), (12, 38), (12, 39)] [12, 61, 68, 69, 70, 73, 74, 76] f0 f0 := fr.rf
  have hR := pre0
  have hX := pre1
  have hqkc0 : elj f0 GA 5159 = elj f0 GA 5159 := rfl
  have hqkc1 : elj f0 GA 10349 = elj f0 GA 10349 := rfl
  have hqkc2 : elj f0 GA 15539 = elj f0 GA 15539 := rfl
  have hqkc3 : elj f0 GA 20729 = elj f0 GA 20729 := rfl
  refine lv_aload_n F.1 F.2.1 dX12_mend_0 rfl (lv_at hl 0 rfl) ?_
  refine lv_aload_n F.1 F.2.1 dX12_mend_1 rfl (lv_at hl 0 rfl) ?_
  refine lv_iload_n F.1 F.2.1 dX12_mend_2 rfl (lv_at hl 1 rfl) ?_
  refine tw_Vi (As := [.int x1]) F hZ h yk_X12_isScript mw_635 mw_636 mw_637 (s_X12_isScript l D cy L R O f0 a0 m_a0 r_a0 x1) rfl rfl m_a0 r_a0 (fun e q => (T_12 e).mp q) rfl hl.1 rfl (Nat.le_of_ble_eq_true rfl) ⟨Nat.le_of_ble_eq_true rfl, Nat.le_of_ble_eq_true rfl⟩ ⟨Nat.le_of_ble_eq_true rfl, Nat.le_of_ble_eq_true rfl⟩ dX12_mend_3 (fun v2 f1 H locs hp1 h => ?_)
  obtain ⟨rfl, hv2a, hv2b, hv2p0⟩ := hp1
  have j_25 : ∀ (ls : Array Slot) (y0_25 : Int32), 0 ≤ y0_25.toInt → y0_25.toInt ≤ 1 → (y0_25.toInt = 0 ∨ (0 ≤ x1.toInt ∧ x1.toInt ≤ 2)) → lv_has ls 10 [(0, .ref a0), (1, .int x1), (2, .int x2), (3, .int x3), (4, .int x4)] → W p l e rm_X12_mendC s m args below meth c H locs 0 0 Q (F0 m 25 ls [.int y0_25, .ref a0]) := by
    intro ls y0_25 b3 b4 b5 hl
    refine lv_iload_n F.1 F.2.1 dX12_mend_25 rfl (lv_at hl 2 rfl) ?_
    refine lv_iload_n F.1 F.2.1 dX12_mend_26 rfl (lv_at hl 3 rfl) ?_
    refine tw_bipush F dX12_mend_27 kb_16 (fun z6 hz6 => ?_)
    refine tw_Vi (As := [.int y0_25, .int x2, .int x3, .int z6]) F hZ h yk_X12_wrongLines mw_1183 mw_1184 mw_1185 (s_X12_wrongLines l D cy L R O f0 a0 m_a0 r_a0 y0_25 ⟨by omega, by omega⟩ x2 x3 z6 ⟨by omega, by omega⟩ GA m_GA r_GA t_GA GP m_GP r_GP t_GP GL m_GL r_GL t_GL GT m_GT r_GT t_GT) rfl rfl m_a0 r_a0 (fun e q => (T_12 e).mp q) rfl hl.1 rfl (Nat.le_of_ble_eq_true rfl) ⟨Nat.le_of_ble_eq_true rfl, Nat.le_of_ble_eq_true rfl⟩ ⟨Nat.le_of_ble_eq_true rfl, Nat.le_of_ble_eq_true rfl⟩ dX12_mend_29 (fun v8 f7 H locs hp7 h => ?_)
    obtain ⟨rfl, hv8a, hv8b, hv8p0, hv8p1⟩ := hp7
    refine lv_istore (lv' := [(5, .int v8), (0, .ref a0), (1, .int x1), (2, .int x2), (3, .int x3), (4, .int x4)]) F.1 F.2.1 dX12_mend_32 hl (by decide) rfl (fun ls hl => ?_)
    refine lv_iload F.1 F.2.1 dX12_mend_34 (lv_at hl 0 rfl) ?_
    refine tw_if_le (tgt := 46) F dX12_mend_36 (by decide) (fun b9 => ?_) (fun b9 => ?_)
    · have hLT : LT GT x2.toInt.toNat x3.toInt.toNat f0 := hv8p0.g.resolve_left (by omega)
      refine lv_aload_n F.1 F.2.1 dX12_mend_46 rfl (lv_at hl 1 rfl) ?_
      refine lv_iload_n F.1 F.2.1 dX12_mend_47 rfl (lv_at hl 2 rfl) ?_
      refine lv_iload_n F.1 F.2.1 dX12_mend_48 rfl (lv_at hl 3 rfl) ?_
      refine lv_iload_n F.1 F.2.1 dX12_mend_49 rfl (lv_at hl 4 rfl) ?_
      refine tw_Vi (As := [.int x1, .int x2, .int x3]) F hZ h yk_X12_brokenBy mw_1355 mw_1356 mw_1357 (s_X12_brokenBy l D cy L R O f0 a0 m_a0 r_a0 x1 ⟨by omega, by omega⟩ x2 ⟨by omega, by omega⟩ x3 ⟨by omega, by omega⟩ GA m_GA r_GA t_GA GP m_GP r_GP t_GP GL m_GL r_GL t_GL GT m_GT r_GT t_GT hX hR hLT) rfl rfl m_a0 r_a0 (fun e q => (T_12 e).mp q) rfl hl.1 rfl (Nat.le_of_ble_eq_true rfl) ⟨Nat.le_of_ble_eq_true rfl, Nat.le_of_ble_eq_true rfl⟩ ⟨Nat.le_of_ble_eq_true rfl, Nat.le_of_ble_eq_true rfl⟩ dX12_mend_50 (fun v11 f10 H locs hp10 h => ?_)
      obtain ⟨hf10, hv11a, hv11b, hv11p0, hv11p1⟩ := hp10
      have hR : RBA GA f10 := hR.kw hv11p1 (Or.inl (by omega))
      have hX : GZ GP GL f10 := hv11p0
      have hqkc0 : elj f10 GA 5159 = elj f0 GA 5159 := (hv11p1 _ (by omega)).trans hqkc0
      have hqkc1 : elj f10 GA 10349 = elj f0 GA 10349 := (hv11p1 _ (by omega)).trans hqkc1
      have hqkc2 : elj f10 GA 15539 = elj f0 GA 15539 := (hv11p1 _ (by omega)).trans hqkc2
      have hqkc3 : elj f10 GA 20729 = elj f0 GA 20729 := (hv11p1 _ (by omega)).trans hqkc3
      have hLT : LT GT x2.toInt.toNat x3.toInt.toNat f10 := hLT.fm hf10 m_GT r_GT (by decide +kernel)
      have hk : fr L R [(12, 1), (12, 28), (12, 29), (12, 31), (12, 32), (12, 35), (12, 36), (12, 37), (12, 38), (12, 39)] [12, 61, 68, 69, 70, 73, 74, 76] f0 f10 := hk.tr hf10 (by decide +kernel) (by decide +kernel)
      have e12 : fld f10 a0 0 = .ref GA := (hf10.efl m_a0 r_a0 rfl).trans t_GA
      have e13 : fld f10 a0 22 = .ref GP := (hf10.efl m_a0 r_a0 rfl).trans t_GP
      have e14 : fld f10 a0 23 = .ref GL := (hf10.efl m_a0 r_a0 rfl).trans t_GL
      have e15 : fld f10 a0 6 = .ref GT := (hf10.efl m_a0 r_a0 rfl).trans t_GT
      refine tw_iconst F dX12_mend_53 ki_m1 (fun z16 hz16 => ?_)
      refine tw_icmp_ne (tgt := 64) F dX12_mend_54 (by decide) (fun b17 => ?_) (fun b17 => ?_)
      · refine tw_iconst F dX12_mend_64 ki_0 (fun z18 hz18 => ?_)
        refine lv_istore (lv' := [(6, .int z18), (5, .int v8), (0, .ref a0), (1, .int x1), (2, .int x2), (3, .int x3), (4, .int x4)]) F.1 F.2.1 dX12_mend_65 hl (by decide) rfl (fun ls hl => ?_)
        refine tw_iconst F dX12_mend_67 ki_m1 (fun z19 hz19 => ?_)
        refine lv_istore (lv' := [(7, .int z19), (6, .int z18), (5, .int v8), (0, .ref a0), (1, .int x1), (2, .int x2), (3, .int x3), (4, .int x4)]) F.1 F.2.1 dX12_mend_68 hl (by decide) rfl (fun ls hl => ?_)
        refine lv_aload_n F.1 F.2.1 dX12_mend_70 rfl (lv_at hl 3 rfl) ?_
        refine g_12_7 F h m_a0 r_a0 dX12_mend_71 (fun o20 m_o20 r_o20 ho20 => ?_)
        obtain rfl := (fld_inj e12 ho20).symm
        refine tw_sipush F dX12_mend_74 ks_1650 (fun z21 hz21 => ?_)
        refine lv_iload_n F.1 F.2.1 dX12_mend_77 rfl (lv_at hl 4 rfl) ?_
        refine tu_imull F dX12_mend_78 hz21 (by omega) (fun z22 hz22 => ?_)
        refine lv_iload F.1 F.2.1 dX12_mend_79 (lv_at hl 7 rfl) ?_
        refine tw_iconst F dX12_mend_81 ki_2 (fun z23 hz23 => ?_)
        have j_90 : ∀ (ls : Array Slot) (y0_90 : Int32), 1 ≤ y0_90.toInt → y0_90.toInt ≤ 2 → lv_has ls 10 [(0, .ref a0), (1, .int x1), (2, .int x2), (3, .int x3), (4, .int x4), (6, .int z18), (7, .int z19)] → W p l e rm_X12_mendC s m args below meth c H locs 0 0 Q (F0 m 90 ls [.int y0_90, .int z22, .ref GA]) := by
          intro ls y0_90 b24 b25 hl
          refine tu_iadd F dX12_mend_90 (by omega) (fun z26 hz26 => ?_)
          refine ld_61 F h m_GA r_GA (by omega) dX12_mend_91 (fun v27 hv27a => ?_)
          refine lv_l2i F.1 F.2.1 dX12_mend_92 rfl ?_
          refine lv_topi (fun z28 _ => ?_)
          refine lv_istore (lv' := [(8, .int z28), (0, .ref a0), (1, .int x1), (2, .int x2), (3, .int x3), (4, .int x4), (6, .int z18), (7, .int z19)]) F.1 F.2.1 dX12_mend_93 hl (by decide) rfl (fun ls hl => ?_)
          refine tw_iconst F dX12_mend_95 ki_0 (fun z29 hz29 => ?_)
          refine lv_istore (lv' := [(9, .int z29), (8, .int z28), (0, .ref a0), (1, .int x1), (2, .int x2), (3, .int x3), (4, .int x4), (6, .int z18), (7, .int z19)]) F.1 F.2.1 dX12_mend_96 hl (by decide) rfl (fun ls hl => ?_)
          have j_98 : ∀ (n98 : Nat) (f30 : Nat → va_E) (H : Heap) (locs : List Loc) (ls : Array Slot) (x6_98 : Int32) (x7_98 : Int32) (x9_98 : Int32), 0 ≤ x9_98.toInt → ((2147483647 - x9_98.toInt)).toNat < n98 → tS D cy A s.heap L R (TT cy L R) f30 s H locs → RBA GA f30 → GZ GP GL f30 → elj f30 GA 5159 = elj f0 GA 5159 → elj f30 GA 10349 = elj f0 GA 10349 → elj f30 GA 15539 = elj f0 GA 15539 → elj f30 GA 20729 = elj f0 GA 20729 → LT GT x2.toInt.toNat x3.toInt.toNat f30 → fr L R [(12, 1), (12, 28), (12, 29), (12, 31), (12, 32), (12, 35), (12, 36), (12, 37), (12, 38), (12, 39)] [12, 61, 68, 69, 70, 73, 74, 76] f0 f30 → fr L R [(12, 28), (12, 29), (12, 31), (12, 32), (12, 35), (12, 36), (12, 37), (12, 38), (12, 39)] [12, 61, 68, 69, 70, 73, 74, 76] f10 f30 → lv_has ls 10 [(0, .ref a0), (1, .int x1), (2, .int x2), (3, .int x3), (4, .int x4), (6, .int x6_98), (7, .int x7_98), (8, .int z28), (9, .int x9_98)] → W p l e rm_X12_mendC s m args below meth c H locs 0 0 Q (F0 m 98 ls []) := by
            intro n98
            induction n98 with
            | zero =>
              intro f30 H locs ls x6_98 x7_98 x9_98 b31 b32 h hR hX hqkc0 hqkc1 hqkc2 hqkc3 hLT hk hb98 hl
              exfalso
              omega
            | succ n98 ih98 =>
              intro f30 H locs ls x6_98 x7_98 x9_98 b31 b32 h hR hX hqkc0 hqkc1 hqkc2 hqkc3 hLT hk hb98 hl
              have e33 : fld f30 a0 0 = .ref GA := (hb98.efl m_a0 r_a0 rfl).trans e12
              have e34 : fld f30 a0 22 = .ref GP := (hb98.efl m_a0 r_a0 rfl).trans e13
              have e35 : fld f30 a0 23 = .ref GL := (hb98.efl m_a0 r_a0 rfl).trans e14
              have e36 : fld f30 a0 6 = .ref GT := (hb98.efl m_a0 r_a0 rfl).trans e15
              refine lv_iload F.1 F.2.1 dX12_mend_98 (lv_at hl 8 rfl) ?_
              refine lv_iload F.1 F.2.1 dX12_mend_100 (lv_at hl 7 rfl) ?_
              refine tw_icmp_ge (tgt := 176) F dX12_mend_102 (by decide) (fun b37 => ?_) (fun b37 => ?_)
              · refine lv_aload_n F.1 F.2.1 dX12_mend_176 rfl (lv_at hl 0 rfl) ?_
                refine tw_iconst F dX12_mend_177 ki_0 (fun z38 hz38 => ?_)
                refine p_12_301 F h m_a0 r_a0 dX12_mend_178 (fun f39 H locs e39p hf39 h => ?_)
                have hR : RBA GA f39 := hR.fm hf39 m_GA r_GA (by decide +kernel)
                have hX : GZ GP GL f39 := hX.fm hf39 m_GP r_GP m_GL r_GL (by decide +kernel) (by decide +kernel)
                have hqkc0 : elj f39 GA 5159 = elj f0 GA 5159 := (hf39.eelj m_GA r_GA (by decide +kernel) _).trans hqkc0
                have hqkc1 : elj f39 GA 10349 = elj f0 GA 10349 := (hf39.eelj m_GA r_GA (by decide +kernel) _).trans hqkc1
                have hqkc2 : elj f39 GA 15539 = elj f0 GA 15539 := (hf39.eelj m_GA r_GA (by decide +kernel) _).trans hqkc2
                have hqkc3 : elj f39 GA 20729 = elj f0 GA 20729 := (hf39.eelj m_GA r_GA (by decide +kernel) _).trans hqkc3
                have hLT : LT GT x2.toInt.toNat x3.toInt.toNat f39 := hLT.fm hf39 m_GT r_GT (by decide +kernel)
                have hk : fr L R [(12, 1), (12, 28), (12, 29), (12, 31), (12, 32), (12, 35), (12, 36), (12, 37), (12, 38), (12, 39)] [12, 61, 68, 69, 70, 73, 74, 76] f0 f39 := hk.tr hf39 rfl rfl
                have hb98 : fr L R [(12, 28), (12, 29), (12, 31), (12, 32), (12, 35), (12, 36), (12, 37), (12, 38), (12, 39)] [12, 61, 68, 69, 70, 73, 74, 76] f10 f39 := hb98.tr hf39 rfl rfl
                have e40 : fld f39 a0 0 = .ref GA := (hf39.efl m_a0 r_a0 rfl).trans e33
                have e41 : fld f39 a0 22 = .ref GP := (hf39.efl m_a0 r_a0 rfl).trans e34
                have e42 : fld f39 a0 23 = .ref GL := (hf39.efl m_a0 r_a0 rfl).trans e35
                have e43 : fld f39 a0 6 = .ref GT := (hf39.efl m_a0 r_a0 rfl).trans e36
                refine lv_aload_n F.1 F.2.1 dX12_mend_181 rfl (lv_at hl 0 rfl) ?_
                refine tw_iconst F dX12_mend_182 ki_m1 (fun z44 hz44 => ?_)
                refine p_12_69 F h m_a0 r_a0 dX12_mend_183 (fun f45 H locs e45p hf45 h => ?_)
                have hR : RBA GA f45 := hR.fm hf45 m_GA r_GA (by decide +kernel)
                have hX : GZ GP GL f45 := hX.fm hf45 m_GP r_GP m_GL r_GL (by decide +kernel) (by decide +kernel)
                have hqkc0 : elj f45 GA 5159 = elj f0 GA 5159 := (hf45.eelj m_GA r_GA (by decide +kernel) _).trans hqkc0
                have hqkc1 : elj f45 GA 10349 = elj f0 GA 10349 := (hf45.eelj m_GA r_GA (by decide +kernel) _).trans hqkc1
                have hqkc2 : elj f45 GA 15539 = elj f0 GA 15539 := (hf45.eelj m_GA r_GA (by decide +kernel) _).trans hqkc2
                have hqkc3 : elj f45 GA 20729 = elj f0 GA 20729 := (hf45.eelj m_GA r_GA (by decide +kernel) _).trans hqkc3
                have hLT : LT GT x2.toInt.toNat x3.toInt.toNat f45 := hLT.fm hf45 m_GT r_GT (by decide +kernel)
                have hk : fr L R [(12, 1), (12, 28), (12, 29), (12, 31), (12, 32), (12, 35), (12, 36), (12, 37), (12, 38), (12, 39)] [12, 61, 68, 69, 70, 73, 74, 76] f0 f45 := hk.tr hf45 rfl rfl
                have hb98 : fr L R [(12, 28), (12, 29), (12, 31), (12, 32), (12, 35), (12, 36), (12, 37), (12, 38), (12, 39)] [12, 61, 68, 69, 70, 73, 74, 76] f10 f45 := hb98.tr hf45 rfl rfl
                have e46 : fld f45 a0 0 = .ref GA := (hf45.efl m_a0 r_a0 rfl).trans e40
                have e47 : fld f45 a0 22 = .ref GP := (hf45.efl m_a0 r_a0 rfl).trans e41
                have e48 : fld f45 a0 23 = .ref GL := (hf45.efl m_a0 r_a0 rfl).trans e42
                have e49 : fld f45 a0 6 = .ref GT := (hf45.efl m_a0 r_a0 rfl).trans e43
                refine lv_iload F.1 F.2.1 dX12_mend_186 (lv_at hl 4 rfl) ?_
                refine tw_iconst F dX12_mend_188 ki_2 (fun z50 hz50 => ?_)
                refine lv_irem F.1 F.2.1 dX12_mend_189 (tw_ne0i (by omega)) ?_
                refine lv_topi (fun z51 _ => ?_)
                refine tw_if_ne (tgt := 200) F dX12_mend_190 (by decide) (fun b52 => ?_) (fun b52 => ?_)
                · refine lv_iload F.1 F.2.1 dX12_mend_200 (lv_at hl 5 rfl) ?_
                  refine tw_if_ne (tgt := 214) F dX12_mend_202 (by decide) (fun b53 => ?_) (fun b53 => ?_)
                  · refine lv_aload_n F.1 F.2.1 dX12_mend_214 rfl (lv_at hl 0 rfl) ?_
                    refine lv_iload F.1 F.2.1 dX12_mend_215 (lv_at hl 6 rfl) ?_
                    refine tw_Vi (As := [.int x7_98]) F hZ h yk_X12_gives mw_499 mw_500 mw_501 (s_X12_gives l D cy L R O f45 a0 m_a0 r_a0 x7_98) rfl rfl m_a0 r_a0 (fun e q => (T_12 e).mp q) rfl hl.1 rfl (Nat.le_of_ble_eq_true rfl) ⟨Nat.le_of_ble_eq_true rfl, Nat.le_of_ble_eq_true rfl⟩ ⟨Nat.le_of_ble_eq_true rfl, Nat.le_of_ble_eq_true rfl⟩ dX12_mend_217 (fun v55 f54 H locs hp54 h => ?_)
                    have hf54 := hp54
                    have hR : RBA GA f54 := hR.fm hf54 m_GA r_GA (by decide +kernel)
                    have hX : GZ GP GL f54 := hX.fm hf54 m_GP r_GP m_GL r_GL (by decide +kernel) (by decide +kernel)
                    have hqkc0 : elj f54 GA 5159 = elj f0 GA 5159 := (hf54.eelj m_GA r_GA (by decide +kernel) _).trans hqkc0
                    have hqkc1 : elj f54 GA 10349 = elj f0 GA 10349 := (hf54.eelj m_GA r_GA (by decide +kernel) _).trans hqkc1
                    have hqkc2 : elj f54 GA 15539 = elj f0 GA 15539 := (hf54.eelj m_GA r_GA (by decide +kernel) _).trans hqkc2
                    have hqkc3 : elj f54 GA 20729 = elj f0 GA 20729 := (hf54.eelj m_GA r_GA (by decide +kernel) _).trans hqkc3
                    have hLT : LT GT x2.toInt.toNat x3.toInt.toNat f54 := hLT.fm hf54 m_GT r_GT (by decide +kernel)
                    have hk : fr L R [(12, 1), (12, 28), (12, 29), (12, 31), (12, 32), (12, 35), (12, 36), (12, 37), (12, 38), (12, 39)] [12, 61, 68, 69, 70, 73, 74, 76] f0 f54 := hk.tr hf54 rfl rfl
                    have e56 : fld f54 a0 0 = .ref GA := (hf54.efl m_a0 r_a0 rfl).trans e46
                    have e57 : fld f54 a0 22 = .ref GP := (hf54.efl m_a0 r_a0 rfl).trans e47
                    have e58 : fld f54 a0 23 = .ref GL := (hf54.efl m_a0 r_a0 rfl).trans e48
                    have e59 : fld f54 a0 6 = .ref GT := (hf54.efl m_a0 r_a0 rfl).trans e49
                    exact hret f54 _ _ _ _ v55 dX12_mend_220 rfl ⟨hk, hR, hX, hqkc0, hqkc1, hqkc2, hqkc3⟩ h
                  · refine lv_aload_n F.1 F.2.1 dX12_mend_205 rfl (lv_at hl 0 rfl) ?_
                    refine tw_bipush F dX12_mend_206 kb_6 (fun z60 hz60 => ?_)
                    refine tw_Vi (As := [.int z60]) F hZ h yk_X12_refuse mw_452 mw_453 mw_454 (s_X12_refuse l D cy L R O f45 a0 m_a0 r_a0 z60 ⟨by omega, by omega⟩) rfl rfl m_a0 r_a0 (fun e q => (T_12 e).mp q) rfl hl.1 rfl (Nat.le_of_ble_eq_true rfl) ⟨Nat.le_of_ble_eq_true rfl, Nat.le_of_ble_eq_true rfl⟩ ⟨Nat.le_of_ble_eq_true rfl, Nat.le_of_ble_eq_true rfl⟩ dX12_mend_208 (fun v62 f61 H locs hp61 h => ?_)
                    obtain ⟨hf61, hv62a, hv62b⟩ := hp61
                    have hR : RBA GA f61 := hR.fm hf61 m_GA r_GA (by decide +kernel)
                    have hX : GZ GP GL f61 := hX.fm hf61 m_GP r_GP m_GL r_GL (by decide +kernel) (by decide +kernel)
                    have hqkc0 : elj f61 GA 5159 = elj f0 GA 5159 := (hf61.eelj m_GA r_GA (by decide +kernel) _).trans hqkc0
                    have hqkc1 : elj f61 GA 10349 = elj f0 GA 10349 := (hf61.eelj m_GA r_GA (by decide +kernel) _).trans hqkc1
                    have hqkc2 : elj f61 GA 15539 = elj f0 GA 15539 := (hf61.eelj m_GA r_GA (by decide +kernel) _).trans hqkc2
                    have hqkc3 : elj f61 GA 20729 = elj f0 GA 20729 := (hf61.eelj m_GA r_GA (by decide +kernel) _).trans hqkc3
                    have hLT : LT GT x2.toInt.toNat x3.toInt.toNat f61 := hLT.fm hf61 m_GT r_GT (by decide +kernel)
                    have hk : fr L R [(12, 1), (12, 28), (12, 29), (12, 31), (12, 32), (12, 35), (12, 36), (12, 37), (12, 38), (12, 39)] [12, 61, 68, 69, 70, 73, 74, 76] f0 f61 := hk.tr hf61 rfl rfl
                    have e63 : fld f61 a0 0 = .ref GA := (hf61.efl m_a0 r_a0 rfl).trans e46
                    have e64 : fld f61 a0 22 = .ref GP := (hf61.efl m_a0 r_a0 rfl).trans e47
                    have e65 : fld f61 a0 23 = .ref GL := (hf61.efl m_a0 r_a0 rfl).trans e48
                    have e66 : fld f61 a0 6 = .ref GT := (hf61.efl m_a0 r_a0 rfl).trans e49
                    refine lv_goto (tgt := 220) F.1 F.2.1 dX12_mend_211 (by decide) ?_
                    exact hret f61 _ _ _ _ v62 dX12_mend_220 rfl ⟨hk, hR, hX, hqkc0, hqkc1, hqkc2, hqkc3⟩ h
                · refine lv_aload_n F.1 F.2.1 dX12_mend_193 rfl (lv_at hl 0 rfl) ?_
                  refine lv_iload F.1 F.2.1 dX12_mend_194 (lv_at hl 5 rfl) ?_
                  refine tw_Vi (As := [.int x6_98]) F hZ h yk_X12_gives mw_499 mw_500 mw_501 (s_X12_gives l D cy L R O f45 a0 m_a0 r_a0 x6_98) rfl rfl m_a0 r_a0 (fun e q => (T_12 e).mp q) rfl hl.1 rfl (Nat.le_of_ble_eq_true rfl) ⟨Nat.le_of_ble_eq_true rfl, Nat.le_of_ble_eq_true rfl⟩ ⟨Nat.le_of_ble_eq_true rfl, Nat.le_of_ble_eq_true rfl⟩ dX12_mend_196 (fun v68 f67 H locs hp67 h => ?_)
                  have hf67 := hp67
                  have hR : RBA GA f67 := hR.fm hf67 m_GA r_GA (by decide +kernel)
                  have hX : GZ GP GL f67 := hX.fm hf67 m_GP r_GP m_GL r_GL (by decide +kernel) (by decide +kernel)
                  have hqkc0 : elj f67 GA 5159 = elj f0 GA 5159 := (hf67.eelj m_GA r_GA (by decide +kernel) _).trans hqkc0
                  have hqkc1 : elj f67 GA 10349 = elj f0 GA 10349 := (hf67.eelj m_GA r_GA (by decide +kernel) _).trans hqkc1
                  have hqkc2 : elj f67 GA 15539 = elj f0 GA 15539 := (hf67.eelj m_GA r_GA (by decide +kernel) _).trans hqkc2
                  have hqkc3 : elj f67 GA 20729 = elj f0 GA 20729 := (hf67.eelj m_GA r_GA (by decide +kernel) _).trans hqkc3
                  have hLT : LT GT x2.toInt.toNat x3.toInt.toNat f67 := hLT.fm hf67 m_GT r_GT (by decide +kernel)
                  have hk : fr L R [(12, 1), (12, 28), (12, 29), (12, 31), (12, 32), (12, 35), (12, 36), (12, 37), (12, 38), (12, 39)] [12, 61, 68, 69, 70, 73, 74, 76] f0 f67 := hk.tr hf67 rfl rfl
                  have e69 : fld f67 a0 0 = .ref GA := (hf67.efl m_a0 r_a0 rfl).trans e46
                  have e70 : fld f67 a0 22 = .ref GP := (hf67.efl m_a0 r_a0 rfl).trans e47
                  have e71 : fld f67 a0 23 = .ref GL := (hf67.efl m_a0 r_a0 rfl).trans e48
                  have e72 : fld f67 a0 6 = .ref GT := (hf67.efl m_a0 r_a0 rfl).trans e49
                  exact hret f67 _ _ _ _ v68 dX12_mend_199 rfl ⟨hk, hR, hX, hqkc0, hqkc1, hqkc2, hqkc3⟩ h
              · refine lv_aload_n F.1 F.2.1 dX12_mend_105 rfl (lv_at hl 0 rfl) ?_
                refine lv_iload F.1 F.2.1 dX12_mend_106 (lv_at hl 4 rfl) ?_
                refine tw_iconst F dX12_mend_108 ki_2 (fun z73 hz73 => ?_)
                have j_120 : ∀ (ls : Array Slot) (y0_120 : Int32), lv_has ls 10 [(0, .ref a0), (1, .int x1), (2, .int x2), (3, .int x3), (4, .int x4), (6, .int x6_98), (7, .int x7_98), (8, .int z28), (9, .int x9_98)] → W p l e rm_X12_mendC s m args below meth c H locs 0 0 Q (F0 m 120 ls [.int y0_120, .ref a0]) := by
                  intro ls y0_120 hl
                  refine p_12_301 F h m_a0 r_a0 dX12_mend_120 (fun f74 H locs e74p hf74 h => ?_)
                  have hR : RBA GA f74 := hR.fm hf74 m_GA r_GA (by decide +kernel)
                  have hX : GZ GP GL f74 := hX.fm hf74 m_GP r_GP m_GL r_GL (by decide +kernel) (by decide +kernel)
                  have hqkc0 : elj f74 GA 5159 = elj f0 GA 5159 := (hf74.eelj m_GA r_GA (by decide +kernel) _).trans hqkc0
                  have hqkc1 : elj f74 GA 10349 = elj f0 GA 10349 := (hf74.eelj m_GA r_GA (by decide +kernel) _).trans hqkc1
                  have hqkc2 : elj f74 GA 15539 = elj f0 GA 15539 := (hf74.eelj m_GA r_GA (by decide +kernel) _).trans hqkc2
                  have hqkc3 : elj f74 GA 20729 = elj f0 GA 20729 := (hf74.eelj m_GA r_GA (by decide +kernel) _).trans hqkc3
                  have hLT : LT GT x2.toInt.toNat x3.toInt.toNat f74 := hLT.fm hf74 m_GT r_GT (by decide +kernel)
                  have hk : fr L R [(12, 1), (12, 28), (12, 29), (12, 31), (12, 32), (12, 35), (12, 36), (12, 37), (12, 38), (12, 39)] [12, 61, 68, 69, 70, 73, 74, 76] f0 f74 := hk.tr hf74 rfl rfl
                  have hb98 : fr L R [(12, 28), (12, 29), (12, 31), (12, 32), (12, 35), (12, 36), (12, 37), (12, 38), (12, 39)] [12, 61, 68, 69, 70, 73, 74, 76] f10 f74 := hb98.tr hf74 rfl rfl
                  have e75 : fld f74 a0 0 = .ref GA := (hf74.efl m_a0 r_a0 rfl).trans e33
                  have e76 : fld f74 a0 22 = .ref GP := (hf74.efl m_a0 r_a0 rfl).trans e34
                  have e77 : fld f74 a0 23 = .ref GL := (hf74.efl m_a0 r_a0 rfl).trans e35
                  have e78 : fld f74 a0 6 = .ref GT := (hf74.efl m_a0 r_a0 rfl).trans e36
                  refine lv_aload_n F.1 F.2.1 dX12_mend_123 rfl (lv_at hl 0 rfl) ?_
                  refine lv_iload F.1 F.2.1 dX12_mend_124 (lv_at hl 4 rfl) ?_
                  refine tw_iconst F dX12_mend_126 ki_2 (fun z79 hz79 => ?_)
                  have j_136 : ∀ (ls : Array Slot) (y0_136 : Int32), lv_has ls 10 [(0, .ref a0), (1, .int x1), (2, .int x2), (3, .int x3), (4, .int x4), (6, .int x6_98), (7, .int x7_98), (8, .int z28), (9, .int x9_98)] → W p l e rm_X12_mendC s m args below meth c H locs 0 0 Q (F0 m 136 ls [.int y0_136, .ref a0]) := by
                    intro ls y0_136 hl
                    refine p_12_69 F h m_a0 r_a0 dX12_mend_136 (fun f80 H locs e80p hf80 h => ?_)
                    have hR : RBA GA f80 := hR.fm hf80 m_GA r_GA (by decide +kernel)
                    have hX : GZ GP GL f80 := hX.fm hf80 m_GP r_GP m_GL r_GL (by decide +kernel) (by decide +kernel)
                    have hqkc0 : elj f80 GA 5159 = elj f0 GA 5159 := (hf80.eelj m_GA r_GA (by decide +kernel) _).trans hqkc0
                    have hqkc1 : elj f80 GA 10349 = elj f0 GA 10349 := (hf80.eelj m_GA r_GA (by decide +kernel) _).trans hqkc1
                    have hqkc2 : elj f80 GA 15539 = elj f0 GA 15539 := (hf80.eelj m_GA r_GA (by decide +kernel) _).trans hqkc2
                    have hqkc3 : elj f80 GA 20729 = elj f0 GA 20729 := (hf80.eelj m_GA r_GA (by decide +kernel) _).trans hqkc3
                    have hLT : LT GT x2.toInt.toNat x3.toInt.toNat f80 := hLT.fm hf80 m_GT r_GT (by decide +kernel)
                    have hk : fr L R [(12, 1), (12, 28), (12, 29), (12, 31), (12, 32), (12, 35), (12, 36), (12, 37), (12, 38), (12, 39)] [12, 61, 68, 69, 70, 73, 74, 76] f0 f80 := hk.tr hf80 rfl rfl
                    have hb98 : fr L R [(12, 28), (12, 29), (12, 31), (12, 32), (12, 35), (12, 36), (12, 37), (12, 38), (12, 39)] [12, 61, 68, 69, 70, 73, 74, 76] f10 f80 := hb98.tr hf80 rfl rfl
                    have e81 : fld f80 a0 0 = .ref GA := (hf80.efl m_a0 r_a0 rfl).trans e75
                    have e82 : fld f80 a0 22 = .ref GP := (hf80.efl m_a0 r_a0 rfl).trans e76
                    have e83 : fld f80 a0 23 = .ref GL := (hf80.efl m_a0 r_a0 rfl).trans e77
                    have e84 : fld f80 a0 6 = .ref GT := (hf80.efl m_a0 r_a0 rfl).trans e78
                    refine lv_aload_n F.1 F.2.1 dX12_mend_139 rfl (lv_at hl 0 rfl) ?_
                    refine lv_iload_n F.1 F.2.1 dX12_mend_140 rfl (lv_at hl 1 rfl) ?_
                    refine lv_iload_n F.1 F.2.1 dX12_mend_141 rfl (lv_at hl 2 rfl) ?_
                    refine lv_iload_n F.1 F.2.1 dX12_mend_142 rfl (lv_at hl 3 rfl) ?_
                    refine tw_Vi (As := [.int x1, .int x2, .int x3]) F hZ h yk_X12_brokenBy mw_1355 mw_1356 mw_1357 (s_X12_brokenBy l D cy L R O f80 a0 m_a0 r_a0 x1 ⟨by omega, by omega⟩ x2 ⟨by omega, by omega⟩ x3 ⟨by omega, by omega⟩ GA m_GA r_GA e81 GP m_GP r_GP e82 GL m_GL r_GL e83 GT m_GT r_GT e84 hX hR hLT) rfl rfl m_a0 r_a0 (fun e q => (T_12 e).mp q) rfl hl.1 rfl (Nat.le_of_ble_eq_true rfl) ⟨Nat.le_of_ble_eq_true rfl, Nat.le_of_ble_eq_true rfl⟩ ⟨Nat.le_of_ble_eq_true rfl, Nat.le_of_ble_eq_true rfl⟩ dX12_mend_143 (fun v86 f85 H locs hp85 h => ?_)
                    obtain ⟨hf85, hv86a, hv86b, hv86p0, hv86p1⟩ := hp85
                    have hR : RBA GA f85 := hR.kw hv86p1 (Or.inl (by omega))
                    have hX : GZ GP GL f85 := hv86p0
                    have hqkc0 : elj f85 GA 5159 = elj f0 GA 5159 := (hv86p1 _ (by omega)).trans hqkc0
                    have hqkc1 : elj f85 GA 10349 = elj f0 GA 10349 := (hv86p1 _ (by omega)).trans hqkc1
                    have hqkc2 : elj f85 GA 15539 = elj f0 GA 15539 := (hv86p1 _ (by omega)).trans hqkc2
                    have hqkc3 : elj f85 GA 20729 = elj f0 GA 20729 := (hv86p1 _ (by omega)).trans hqkc3
                    have hLT : LT GT x2.toInt.toNat x3.toInt.toNat f85 := hLT.fm hf85 m_GT r_GT (by decide +kernel)
                    have hk : fr L R [(12, 1), (12, 28), (12, 29), (12, 31), (12, 32), (12, 35), (12, 36), (12, 37), (12, 38), (12, 39)] [12, 61, 68, 69, 70, 73, 74, 76] f0 f85 := hk.tr hf85 (by decide +kernel) (by decide +kernel)
                    have hb98 : fr L R [(12, 28), (12, 29), (12, 31), (12, 32), (12, 35), (12, 36), (12, 37), (12, 38), (12, 39)] [12, 61, 68, 69, 70, 73, 74, 76] f10 f85 := hb98.tr hf85 (by decide +kernel) (by decide +kernel)
                    have e87 : fld f85 a0 0 = .ref GA := (hf85.efl m_a0 r_a0 rfl).trans e81
                    have e88 : fld f85 a0 22 = .ref GP := (hf85.efl m_a0 r_a0 rfl).trans e82
                    have e89 : fld f85 a0 23 = .ref GL := (hf85.efl m_a0 r_a0 rfl).trans e83
                    have e90 : fld f85 a0 6 = .ref GT := (hf85.efl m_a0 r_a0 rfl).trans e84
                    refine tw_iconst F dX12_mend_146 ki_m1 (fun z91 hz91 => ?_)
                    have j_170 : ∀ (ls : Array Slot) (x6_170 : Int32) (x7_170 : Int32), lv_has ls 10 [(0, .ref a0), (1, .int x1), (2, .int x2), (3, .int x3), (4, .int x4), (6, .int x6_170), (7, .int x7_170), (8, .int z28), (9, .int x9_98)] → W p l e rm_X12_mendC s m args below meth c H locs 0 0 Q (F0 m 170 ls []) := by
                      intro ls x6_170 x7_170 hl
                      have tb8 := tb_i z28
                      refine tu_iinc F dX12_mend_170 hl (k := 8) rfl (by decide) ki_1 (by omega) (fun z92 ls hz92 hl => ?_)
                      have hl : lv_has ls 10 [(9, .int z92), (0, .ref a0), (1, .int x1), (2, .int x2), (3, .int x3), (4, .int x4), (6, .int x6_170), (7, .int x7_170), (8, .int z28)] := hl
                      refine lv_goto (tgt := 98) F.1 F.2.1 dX12_mend_173 (by decide) ?_
                      exact ih98 f85 _ _ _ x6_170 x7_170 z92 (by omega) (by omega) h hR hX hqkc0 hqkc1 hqkc2 hqkc3 hLT hk hb98 (lv_sub hl [1, 2, 3, 4, 5, 6, 7, 8, 0] rfl)
                    refine tw_icmp_eq (tgt := 153) F dX12_mend_147 (by decide) (fun b93 => ?_) (fun b93 => ?_)
                    · refine lv_iload F.1 F.2.1 dX12_mend_153 (lv_at hl 5 rfl) ?_
                      have j_165 : ∀ (ls : Array Slot) (y0_165 : Int32), lv_has ls 10 [(0, .ref a0), (1, .int x1), (2, .int x2), (3, .int x3), (4, .int x4), (6, .int x6_98), (8, .int z28), (9, .int x9_98)] → W p l e rm_X12_mendC s m args below meth c H locs 0 0 Q (F0 m 165 ls [.int y0_165]) := by
                        intro ls y0_165 hl
                        refine lv_istore (lv' := [(7, .int y0_165), (0, .ref a0), (1, .int x1), (2, .int x2), (3, .int x3), (4, .int x4), (6, .int x6_98), (8, .int z28), (9, .int x9_98)]) F.1 F.2.1 dX12_mend_165 hl (by decide) rfl (fun ls hl => ?_)
                        refine tu_iincU F dX12_mend_167 hl (k := 6) rfl (by decide) (fun z94 ls hl => ?_)
                        have hl : lv_has ls 10 [(6, .int z94), (7, .int y0_165), (0, .ref a0), (1, .int x1), (2, .int x2), (3, .int x3), (4, .int x4), (8, .int z28), (9, .int x9_98)] := hl
                        exact j_170 _ z94 y0_165 (lv_sub hl [2, 3, 4, 5, 6, 0, 1, 7, 8] rfl)
                      refine tw_if_ne (tgt := 163) F dX12_mend_155 (by decide) (fun b95 => ?_) (fun b95 => ?_)
                      · refine lv_iload F.1 F.2.1 dX12_mend_163 (lv_at hl 6 rfl) ?_
                        exact j_165 _ x7_98 (lv_sub hl [0, 1, 2, 3, 4, 5, 7, 8] rfl)
                      · refine lv_iload F.1 F.2.1 dX12_mend_158 (lv_at hl 8 rfl) ?_
                        refine lv_goto (tgt := 165) F.1 F.2.1 dX12_mend_160 (by decide) ?_
                        exact j_165 _ x9_98 (lv_sub hl [0, 1, 2, 3, 4, 5, 7, 8] rfl)
                    · refine lv_goto (tgt := 170) F.1 F.2.1 dX12_mend_150 (by decide) ?_
                      exact j_170 _ x6_98 x7_98 (lv_sub hl [0, 1, 2, 3, 4, 5, 6, 7, 8] rfl)
                  refine tw_icmp_ge (tgt := 134) F dX12_mend_127 (by decide) (fun b96 => ?_) (fun b96 => ?_)
                  · refine lv_iload F.1 F.2.1 dX12_mend_134 (lv_at hl 8 rfl) ?_
                    exact j_136 _ x9_98 (lv_sub hl [0, 1, 2, 3, 4, 5, 6, 7, 8] rfl)
                  · refine tw_iconst F dX12_mend_130 ki_m1 (fun z97 hz97 => ?_)
                    refine lv_goto (tgt := 136) F.1 F.2.1 dX12_mend_131 (by decide) ?_
                    exact j_136 _ z97 (lv_sub hl [0, 1, 2, 3, 4, 5, 6, 7, 8] rfl)
                refine tw_icmp_ge (tgt := 119) F dX12_mend_109 (by decide) (fun b98 => ?_) (fun b98 => ?_)
                · refine tw_iconst F dX12_mend_119 ki_0 (fun z99 hz99 => ?_)
                  exact j_120 _ z99 (lv_sub hl [0, 1, 2, 3, 4, 5, 6, 7, 8] rfl)
                · refine tw_iconst F dX12_mend_112 ki_1 (fun z100 hz100 => ?_)
                  refine lv_iload F.1 F.2.1 dX12_mend_113 (lv_at hl 8 rfl) ?_
                  refine lv_ishl F.1 F.2.1 dX12_mend_115 ?_
                  refine lv_topi (fun z101 _ => ?_)
                  refine lv_goto (tgt := 120) F.1 F.2.1 dX12_mend_116 (by decide) ?_
                  exact j_120 _ z101 (lv_sub hl [0, 1, 2, 3, 4, 5, 6, 7, 8] rfl)
          have hb98 : fr L R [(12, 28), (12, 29), (12, 31), (12, 32), (12, 35), (12, 36), (12, 37), (12, 38), (12, 39)] [12, 61, 68, 69, 70, 73, 74, 76] f10 f10 := fr.rf
          exact j_98 (((2147483647 - z29.toInt)).toNat + 1) f10 _ _ _ z18 z19 z29 (by omega) (by omega) h hR hX hqkc0 hqkc1 hqkc2 hqkc3 hLT hk hb98 (lv_sub hl [2, 3, 4, 5, 6, 7, 8, 1, 0] rfl)
        refine tw_icmp_ge (tgt := 89) F dX12_mend_82 (by decide) (fun b102 => ?_) (fun b102 => ?_)
        · refine tw_iconst F dX12_mend_89 ki_2 (fun z103 hz103 => ?_)
          exact j_90 _ z103 (by omega) (by omega) (lv_sub hl [3, 4, 5, 6, 7, 1, 0] rfl)
        · refine tw_iconst F dX12_mend_85 ki_1 (fun z104 hz104 => ?_)
          refine lv_goto (tgt := 90) F.1 F.2.1 dX12_mend_86 (by decide) ?_
          exact j_90 _ z104 (by omega) (by omega) (lv_sub hl [3, 4, 5, 6, 7, 1, 0] rfl)
      · refine lv_aload_n F.1 F.2.1 dX12_mend_57 rfl (lv_at hl 1 rfl) ?_
        refine tw_bipush F dX12_mend_58 kb_6 (fun z105 hz105 => ?_)
        refine tw_Vi (As := [.int z105]) F hZ h yk_X12_refuse mw_452 mw_453 mw_454 (s_X12_refuse l D cy L R O f10 a0 m_a0 r_a0 z105 ⟨by omega, by omega⟩) rfl rfl m_a0 r_a0 (fun e q => (T_12 e).mp q) rfl hl.1 rfl (Nat.le_of_ble_eq_true rfl) ⟨Nat.le_of_ble_eq_true rfl, Nat.le_of_ble_eq_true rfl⟩ ⟨Nat.le_of_ble_eq_true rfl, Nat.le_of_ble_eq_true rfl⟩ dX12_mend_60 (fun v107 f106 H locs hp106 h => ?_)
        obtain ⟨hf106, hv107a, hv107b⟩ := hp106
        have hR : RBA GA f106 := hR.fm hf106 m_GA r_GA (by decide +kernel)
        have hX : GZ GP GL f106 := hX.fm hf106 m_GP r_GP m_GL r_GL (by decide +kernel) (by decide +kernel)
        have hqkc0 : elj f106 GA 5159 = elj f0 GA 5159 := (hf106.eelj m_GA r_GA (by decide +kernel) _).trans hqkc0
        have hqkc1 : elj f106 GA 10349 = elj f0 GA 10349 := (hf106.eelj m_GA r_GA (by decide +kernel) _).trans hqkc1
        have hqkc2 : elj f106 GA 15539 = elj f0 GA 15539 := (hf106.eelj m_GA r_GA (by decide +kernel) _).trans hqkc2
        have hqkc3 : elj f106 GA 20729 = elj f0 GA 20729 := (hf106.eelj m_GA r_GA (by decide +kernel) _).trans hqkc3
        have hLT : LT GT x2.toInt.toNat x3.toInt.toNat f106 := hLT.fm hf106 m_GT r_GT (by decide +kernel)
        have hk : fr L R [(12, 1), (12, 28), (12, 29), (12, 31), (12, 32), (12, 35), (12, 36), (12, 37), (12, 38), (12, 39)] [12, 61, 68, 69, 70, 73, 74, 76] f0 f106 := hk.tr hf106 rfl rfl
        have e108 : fld f106 a0 0 = .ref GA := (hf106.efl m_a0 r_a0 rfl).trans e12
        have e109 : fld f106 a0 22 = .ref GP := (hf106.efl m_a0 r_a0 rfl).trans e13
        have e110 : fld f106 a0 23 = .ref GL := (hf106.efl m_a0 r_a0 rfl).trans e14
        have e111 : fld f106 a0 6 = .ref GT := (hf106.efl m_a0 r_a0 rfl).trans e15
        exact hret f106 _ _ _ _ v107 dX12_mend_63 rfl ⟨hk, hR, hX, hqkc0, hqkc1, hqkc2, hqkc3⟩ h
    · refine lv_aload_n F.1 F.2.1 dX12_mend_39 rfl (lv_at hl 1 rfl) ?_
      refine lv_iload F.1 F.2.1 dX12_mend_40 (lv_at hl 0 rfl) ?_
      refine tw_Vi (As := [.int v8]) F hZ h yk_X12_refuse mw_452 mw_453 mw_454 (s_X12_refuse l D cy L R O f0 a0 m_a0 r_a0 v8 ⟨by omega, by omega⟩) rfl rfl m_a0 r_a0 (fun e q => (T_12 e).mp q) rfl hl.1 rfl (Nat.le_of_ble_eq_true rfl) ⟨Nat.le_of_ble_eq_true rfl, Nat.le_of_ble_eq_true rfl⟩ ⟨Nat.le_of_ble_eq_true rfl, Nat.le_of_ble_eq_true rfl⟩ dX12_mend_42 (fun v113 f112 H locs hp112 h => ?_)
      obtain ⟨hf112, hv113a, hv113b⟩ := hp112
      have hR : RBA GA f112 := hR.fm hf112 m_GA r_GA (by decide +kernel)
      have hX : GZ GP GL f112 := hX.fm hf112 m_GP r_GP m_GL r_GL (by decide +kernel) (by decide +kernel)
      have hqkc0 : elj f112 GA 5159 = elj f0 GA 5159 := (hf112.eelj m_GA r_GA (by decide +kernel) _).trans hqkc0
      have hqkc1 : elj f112 GA 10349 = elj f0 GA 10349 := (hf112.eelj m_GA r_GA (by decide +kernel) _).trans hqkc1
      have hqkc2 : elj f112 GA 15539 = elj f0 GA 15539 := (hf112.eelj m_GA r_GA (by decide +kernel) _).trans hqkc2
      have hqkc3 : elj f112 GA 20729 = elj f0 GA 20729 := (hf112.eelj m_GA r_GA (by decide +kernel) _).trans hqkc3
      have hk : fr L R [(12, 1), (12, 28), (12, 29), (12, 31), (12, 32), (12, 35), (12, 36), (12, 37), (12, 38), (12, 39)] [12, 61, 68, 69, 70, 73, 74, 76] f0 f112 := hk.tr hf112 rfl rfl
      have e114 : fld f112 a0 0 = .ref GA := (hf112.efl m_a0 r_a0 rfl).trans t_GA
      have e115 : fld f112 a0 22 = .ref GP := (hf112.efl m_a0 r_a0 rfl).trans t_GP
      have e116 : fld f112 a0 23 = .ref GL := (hf112.efl m_a0 r_a0 rfl).trans t_GL
      have e117 : fld f112 a0 6 = .ref GT := (hf112.efl m_a0 r_a0 rfl).trans t_GT
      exact hret f112 _ _ _ _ v113 dX12_mend_45 rfl ⟨hk, hR, hX, hqkc0, hqkc1, hqkc2, hqkc3⟩ h
  have j_24 : ∀ (ls : Array Slot), lv_has ls 10 [(0, .ref a0), (1, .int x1), (2, .int x2), (3, .int x3), (4, .int x4)] → W p l e rm_X12_mendC s m args below meth c H locs 0 0 Q (F0 m 24 ls [.ref a0]) := by
    intro ls hl
    refine tw_iconst F dX12_mend_24 ki_0 (fun z118 hz118 => ?_)
    exact j_25 _ z118 (by omega) (by omega) (by omega) (lv_sub hl [0, 1, 2, 3, 4] rfl)
  refine tw_if_eq (tgt := 24) F dX12_mend_6 (by decide) (fun b119 => ?_) (fun b119 => ?_)
  · exact j_24 _ (lv_sub hl [0, 1, 2, 3, 4] rfl)
  · refine lv_iload F.1 F.2.1 dX12_mend_9 (lv_at hl 4 rfl) ?_
    refine tw_if_lt (tgt := 24) F dX12_mend_11 (by decide) (fun b120 => ?_) (fun b120 => ?_)
    · exact j_24 _ (lv_sub hl [0, 1, 2, 3, 4] rfl)
    · refine lv_iload F.1 F.2.1 dX12_mend_14 (lv_at hl 4 rfl) ?_
      refine tw_iconst F dX12_mend_16 ki_3 (fun z121 hz121 => ?_)
      refine tw_icmp_gt (tgt := 24) F dX12_mend_17 (by decide) (fun b122 => ?_) (fun b122 => ?_)
      · exact j_24 _ (lv_sub hl [0, 1, 2, 3, 4] rfl)
      · refine tw_iconst F dX12_mend_20 ki_1 (fun z123 hz123 => ?_)
        refine lv_goto (tgt := 25) F.1 F.2.1 dX12_mend_21 (by decide) ?_
        exact j_25 _ z123 (by omega) (by omega) (by omega) (lv_sub hl [0, 1, 2, 3, 4] rfl)
