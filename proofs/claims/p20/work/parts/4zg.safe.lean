def rm_X11_beginJ : Room := { frames := 1, cells := 0, slots := 0, locals := 21 }
set_option maxHeartbeats 4000000 in
set_option maxRecDepth 100000 in
theorem s_X11_beginJ (l : Launch) (D : va_G) (cy : Nat → ClassId) (L : List Nat) (R O : Nat → Nat) (f0 : Nat → va_E) (a0 : Nat) (m_a0 : a0 ∈ L) (r_a0 : R a0 = 11) (x1 : Int32) (P : Nat → Nat) (pre0 : IB L R O P f0 (rfa f0 a0 2)) (pre1 : OW L R O f0) : ∀ sz, Met l yX11_begin (Cond.code yX11_begin cX11_begin 2 (some .boolean) :: wsL_law) rm_X11_beginJ (va_Pc [.ref a0, .int x1] (tPZ D cy L R (TT cy L R) f0 sz)) (va_Qi (fun (r : Int32) f1 => fr L R [(8, 1), (8, 2), (11, 14)] [8, 11] f0 f1 ∧ 0 ≤ r.toInt ∧ r.toInt ≤ 1 ∧ IB L R O P f1 (rfa f0 a0 2) ∧ ((r.toInt = 1 ∧ 0 ≤ x1.toInt ∧ x1.toInt ≤ 2) ∨ (r.toInt = 0 ∧ (x1.toInt < 0 ∨ 2 < x1.toInt)))) (tB D (tA L sz) L R (TT cy L R)) (tA L sz)) 0 0 (tA L sz) := by
  refine tw_enteri (by decide +kernel) rfl (Nat.le_of_ble_eq_true rfl) ?_
  intro p e s m below meth c A ls args Q F hZ h hl hret
  have hl : lv_has ls 2 [(0, .ref a0), (1, .int x1)] := hl
  have hk : fr L R [(8, 1), (8, 2), (11, 14)] [8, 11] f0 f0 := fr.rf
  obtain ⟨a0_reader, m_a0_reader, r_a0_reader, t_a0_reader⟩ := h.rf m_a0 r_a0 (fun e q => (T_11 e).mp q) (k := 2) rfl
  rw [rfa_of t_a0_reader] at pre0
  have hI := pre0
  have hG : OW L R O f0 ∧ True := ⟨pre1, trivial⟩
  refine lv_iload_n F.1 F.2.1 dX11_begin_0 rfl (lv_at hl 1 rfl) ?_
  refine tw_Si (As := [.int x1]) F hZ h yk_X11_isScript mw_511 mw_512 (s_X11_isScriptF l D cy L R O f0 x1) rfl rfl hl.1 rfl (Nat.le_of_ble_eq_true rfl) ⟨Nat.le_of_ble_eq_true rfl, Nat.le_of_ble_eq_true rfl⟩ ⟨Nat.le_of_ble_eq_true rfl, Nat.le_of_ble_eq_true rfl⟩ dX11_begin_1 (fun v2 f1 H locs hp1 h => ?_)
  obtain ⟨rfl, hv2a, hv2b, hv2p0⟩ := hp1
  refine tw_if_ne (tgt := 13) F dX11_begin_4 (by decide) (fun b3 => ?_) (fun b3 => ?_)
  · refine lv_aload_n F.1 F.2.1 dX11_begin_13 rfl (lv_at hl 0 rfl) ?_
    refine g_11_29 F h m_a0 r_a0 dX11_begin_14 (fun o4 m_o4 r_o4 ho4 => ?_)
    refine g_11_175 F h m_o4 r_o4 dX11_begin_17 (fun o5 m_o5 r_o5 ho5 => ?_)
    refine lv_iload_n F.1 F.2.1 dX11_begin_20 rfl (lv_at hl 1 rfl) ?_
    refine le_21 F h m_o5 r_o5 (by omega) dX11_begin_21 (fun o6 m_o6 r_o6 eo6 => ?_)
    refine tw_Vv (As := []) F hZ h yk_X8_refresh mw_626 mw_627 mw_628 (s_X8_refresh l D cy L R O f0 o6 m_o6 r_o6) rfl rfl m_o6 r_o6 (fun e q => (T_8 e).mp q) rfl hl.1 rfl (Nat.le_of_ble_eq_true rfl) ⟨Nat.le_of_ble_eq_true rfl, Nat.le_of_ble_eq_true rfl⟩ ⟨Nat.le_of_ble_eq_true rfl, Nat.le_of_ble_eq_true rfl⟩ dX11_begin_22 (fun f7 H locs hp7 h => ?_)
    obtain ⟨hf7, hv8p0, hv8p1⟩ := hp7
    have hk : fr L R [(8, 1), (8, 2), (11, 14)] [8, 11] f0 f7 := hk.tr hf7 rfl rfl
    have e9 : fld f7 a0 2 = .ref a0_reader := (hf7.efl m_a0 r_a0 rfl).trans t_a0_reader
    have hI : IB L R O P f7 a0_reader := IB_zero hI hG.1 hf7 (by decide +kernel) (by decide +kernel) m_a0_reader r_a0_reader m_o4 r_o4 (i0 := x1.toInt.toNat) (by omega) (by rw [rfa_of ho5]; exact eo6) hv8p1 hv8p0
    refine lv_aload_n F.1 F.2.1 dX11_begin_25 rfl (lv_at hl 0 rfl) ?_
    refine tw_iconst F dX11_begin_26 ki_0 (fun z10 hz10 => ?_)
    refine tw_Vi (As := [.int z10]) F hZ h yk_X11_settle mw_271 mw_272 mw_273 (s_X11_settle l D cy L R O f7 a0 m_a0 r_a0 z10 ⟨by omega, by omega⟩) rfl rfl m_a0 r_a0 (fun e q => (T_11 e).mp q) rfl hl.1 rfl (Nat.le_of_ble_eq_true rfl) ⟨Nat.le_of_ble_eq_true rfl, Nat.le_of_ble_eq_true rfl⟩ ⟨Nat.le_of_ble_eq_true rfl, Nat.le_of_ble_eq_true rfl⟩ dX11_begin_27 (fun v12 f11 H locs hp11 h => ?_)
    obtain ⟨hf11, hv12a, hv12b, hv12p0⟩ := hp11
    have hI : IB L R O P f11 a0_reader := IB_fr hI (hG.1.fr hk (by decide +kernel)) hf11 (by decide +kernel) (by decide +kernel) (by decide +kernel) m_a0_reader r_a0_reader
    have hk : fr L R [(8, 1), (8, 2), (11, 14)] [8, 11] f0 f11 := hk.tr hf11 rfl rfl
    have e13 : fld f11 a0 2 = .ref a0_reader := (hf11.efl m_a0 r_a0 rfl).trans e9
    exact hret f11 _ _ _ _ v12 dX11_begin_30 (tw_nb (by omega)) ⟨hk, by omega, by omega, by rw [rfa_of t_a0_reader]; exact hI, by omega⟩ h
  · refine lv_aload_n F.1 F.2.1 dX11_begin_7 rfl (lv_at hl 0 rfl) ?_
    refine tw_iconst F dX11_begin_8 ki_1 (fun z14 hz14 => ?_)
    refine tw_Vi (As := [.int z14]) F hZ h yk_X11_settle mw_271 mw_272 mw_273 (s_X11_settle l D cy L R O f0 a0 m_a0 r_a0 z14 ⟨by omega, by omega⟩) rfl rfl m_a0 r_a0 (fun e q => (T_11 e).mp q) rfl hl.1 rfl (Nat.le_of_ble_eq_true rfl) ⟨Nat.le_of_ble_eq_true rfl, Nat.le_of_ble_eq_true rfl⟩ ⟨Nat.le_of_ble_eq_true rfl, Nat.le_of_ble_eq_true rfl⟩ dX11_begin_9 (fun v16 f15 H locs hp15 h => ?_)
    obtain ⟨hf15, hv16a, hv16b, hv16p0⟩ := hp15
    have hI : IB L R O P f15 a0_reader := IB_fr hI hG.1 hf15 (by decide +kernel) (by decide +kernel) (by decide +kernel) m_a0_reader r_a0_reader
    have hk : fr L R [(8, 1), (8, 2), (11, 14)] [8, 11] f0 f15 := hk.tr hf15 rfl rfl
    have e17 : fld f15 a0 2 = .ref a0_reader := (hf15.efl m_a0 r_a0 rfl).trans t_a0_reader
    exact hret f15 _ _ _ _ v16 dX11_begin_12 (tw_nb (by omega)) ⟨hk, by omega, by omega, by rw [rfa_of t_a0_reader]; exact hI, by omega⟩ h
def rm_X12_beginF : Room := { frames := 1, cells := 0, slots := 0, locals := 22 }
set_option maxHeartbeats 4000000 in
set_option maxRecDepth 100000 in
theorem s_X12_beginF (l : Launch) (D : va_G) (cy : Nat → ClassId) (L : List Nat) (R O : Nat → Nat) (f0 : Nat → va_E) (a0 : Nat) (m_a0 : a0 ∈ L) (r_a0 : R a0 = 12) (x1 : Int32) (GA : Nat) (m_GA : GA ∈ L) (r_GA : R GA = 61) (t_GA : fld f0 a0 0 = .ref GA) (GP : Nat) (m_GP : GP ∈ L) (r_GP : R GP = 69) (t_GP : fld f0 a0 22 = .ref GP) (GL : Nat) (m_GL : GL ∈ L) (r_GL : R GL = 70) (t_GL : fld f0 a0 23 = .ref GL) (GT : Nat) (m_GT : GT ∈ L) (r_GT : R GT = 64) (t_GT : fld f0 a0 6 = .ref GT) (pre0 : RBA GA f0) (pre1 : GZ GP GL f0) : ∀ sz, Met l yX12_begin (Cond.code yX12_begin cX12_begin 2 (some .boolean) :: wsL_law) rm_X12_beginF (va_Pc [.ref a0, .int x1] (tPZ D cy L R (TT cy L R) f0 sz)) (va_Qi (fun (r : Int32) f1 => fr L R [(12, 1)] [12, 61] f0 f1 ∧ 0 ≤ r.toInt ∧ r.toInt ≤ 1 ∧ RBA GA f1 ∧ GZ GP GL f1 ∧ ((r.toInt = 1 ∧ 0 ≤ x1.toInt ∧ x1.toInt ≤ 2) ∨ (r.toInt = 0 ∧ (x1.toInt < 0 ∨ 2 < x1.toInt)))) (tB D (tA L sz) L R (TT cy L R)) (tA L sz)) 0 0 (tA L sz) := by
  refine tw_enteri (by decide +kernel) rfl (Nat.le_of_ble_eq_true rfl) ?_
  intro p e s m below meth c A ls args Q F hZ h hl hret
  have hl : lv_has ls 2 [(0, .ref a0), (1, .int x1)] := hl
  have hk : fr L R [(12, 1)] [12, 61] f0 f0 := fr.rf
  have hR := pre0
  have hX := pre1
  refine lv_aload_n F.1 F.2.1 dX12_begin_0 rfl (lv_at hl 0 rfl) ?_
  refine lv_iload_n F.1 F.2.1 dX12_begin_1 rfl (lv_at hl 1 rfl) ?_
  refine tw_Vi (As := [.int x1]) F hZ h yk_X12_isScript mw_635 mw_636 mw_637 (s_X12_isScript l D cy L R O f0 a0 m_a0 r_a0 x1) rfl rfl m_a0 r_a0 (fun e q => (T_12 e).mp q) rfl hl.1 rfl (Nat.le_of_ble_eq_true rfl) ⟨Nat.le_of_ble_eq_true rfl, Nat.le_of_ble_eq_true rfl⟩ ⟨Nat.le_of_ble_eq_true rfl, Nat.le_of_ble_eq_true rfl⟩ dX12_begin_2 (fun v2 f1 H locs hp1 h => ?_)
  obtain ⟨rfl, hv2a, hv2b, hv2p0⟩ := hp1
  refine tw_if_ne (tgt := 14) F dX12_begin_5 (by decide) (fun b3 => ?_) (fun b3 => ?_)
  · refine lv_aload_n F.1 F.2.1 dX12_begin_14 rfl (lv_at hl 0 rfl) ?_
    refine tw_sipush F dX12_begin_15 ks_1650 (fun z4 hz4 => ?_)
    refine lv_iload_n F.1 F.2.1 dX12_begin_18 rfl (lv_at hl 1 rfl) ?_
    refine tu_imull F dX12_begin_19 hz4 (by omega) (fun z5 hz5 => ?_)
    refine tw_Vv (As := [.int z5]) F hZ h yk_X12_fresh mw_745 mw_746 mw_747 (s_X12_fresh l D cy L R O f0 a0 m_a0 r_a0 z5 ⟨by omega, by omega⟩ GA m_GA r_GA t_GA GP m_GP r_GP t_GP GL m_GL r_GL t_GL GT m_GT r_GT t_GT (isB_e (isB_s (show x1.toInt.toNat ≤ 2 by omega)) (by omega))) rfl rfl m_a0 r_a0 (fun e q => (T_12 e).mp q) rfl hl.1 rfl (Nat.le_of_ble_eq_true rfl) ⟨Nat.le_of_ble_eq_true rfl, Nat.le_of_ble_eq_true rfl⟩ ⟨Nat.le_of_ble_eq_true rfl, Nat.le_of_ble_eq_true rfl⟩ dX12_begin_20 (fun f6 H locs hp6 h => ?_)
    obtain ⟨hf6, hv7p0⟩ := hp6
    have hR : RBA GA f6 := hR.kw hv7p0 (Or.inr (Or.inr ⟨x1.toInt.toNat, by omega, by omega, by omega⟩))
    have hX : GZ GP GL f6 := hX.fm hf6 m_GP r_GP m_GL r_GL (by decide +kernel) (by decide +kernel)
    have hk : fr L R [(12, 1)] [12, 61] f0 f6 := hk.tr hf6 rfl rfl
    have e8 : fld f6 a0 0 = .ref GA := (hf6.efl m_a0 r_a0 rfl).trans t_GA
    have e9 : fld f6 a0 22 = .ref GP := (hf6.efl m_a0 r_a0 rfl).trans t_GP
    have e10 : fld f6 a0 23 = .ref GL := (hf6.efl m_a0 r_a0 rfl).trans t_GL
    have e11 : fld f6 a0 6 = .ref GT := (hf6.efl m_a0 r_a0 rfl).trans t_GT
    refine lv_aload_n F.1 F.2.1 dX12_begin_23 rfl (lv_at hl 0 rfl) ?_
    refine tw_iconst F dX12_begin_24 ki_0 (fun z12 hz12 => ?_)
    refine tw_Vi (As := [.int z12]) F hZ h yk_X12_is mw_286 mw_287 mw_288 (s_X12_is l D cy L R O f6 a0 m_a0 r_a0 z12 ⟨by omega, by omega⟩) rfl rfl m_a0 r_a0 (fun e q => (T_12 e).mp q) rfl hl.1 rfl (Nat.le_of_ble_eq_true rfl) ⟨Nat.le_of_ble_eq_true rfl, Nat.le_of_ble_eq_true rfl⟩ ⟨Nat.le_of_ble_eq_true rfl, Nat.le_of_ble_eq_true rfl⟩ dX12_begin_25 (fun v14 f13 H locs hp13 h => ?_)
    obtain ⟨hf13, hv14a, hv14b, hv14p0⟩ := hp13
    have hR : RBA GA f13 := hR.fm hf13 m_GA r_GA (by decide +kernel)
    have hX : GZ GP GL f13 := hX.fm hf13 m_GP r_GP m_GL r_GL (by decide +kernel) (by decide +kernel)
    have hk : fr L R [(12, 1)] [12, 61] f0 f13 := hk.tr hf13 rfl rfl
    have e15 : fld f13 a0 0 = .ref GA := (hf13.efl m_a0 r_a0 rfl).trans e8
    have e16 : fld f13 a0 22 = .ref GP := (hf13.efl m_a0 r_a0 rfl).trans e9
    have e17 : fld f13 a0 23 = .ref GL := (hf13.efl m_a0 r_a0 rfl).trans e10
    have e18 : fld f13 a0 6 = .ref GT := (hf13.efl m_a0 r_a0 rfl).trans e11
    exact hret f13 _ _ _ _ v14 dX12_begin_28 (tw_nb (by omega)) ⟨hk, by omega, by omega, hR, hX, by omega⟩ h
  · refine lv_aload_n F.1 F.2.1 dX12_begin_8 rfl (lv_at hl 0 rfl) ?_
    refine tw_iconst F dX12_begin_9 ki_1 (fun z19 hz19 => ?_)
    refine tw_Vi (As := [.int z19]) F hZ h yk_X12_is mw_286 mw_287 mw_288 (s_X12_is l D cy L R O f0 a0 m_a0 r_a0 z19 ⟨by omega, by omega⟩) rfl rfl m_a0 r_a0 (fun e q => (T_12 e).mp q) rfl hl.1 rfl (Nat.le_of_ble_eq_true rfl) ⟨Nat.le_of_ble_eq_true rfl, Nat.le_of_ble_eq_true rfl⟩ ⟨Nat.le_of_ble_eq_true rfl, Nat.le_of_ble_eq_true rfl⟩ dX12_begin_10 (fun v21 f20 H locs hp20 h => ?_)
    obtain ⟨hf20, hv21a, hv21b, hv21p0⟩ := hp20
    have hR : RBA GA f20 := hR.fm hf20 m_GA r_GA (by decide +kernel)
    have hX : GZ GP GL f20 := hX.fm hf20 m_GP r_GP m_GL r_GL (by decide +kernel) (by decide +kernel)
    have hk : fr L R [(12, 1)] [12, 61] f0 f20 := hk.tr hf20 rfl rfl
    have e22 : fld f20 a0 0 = .ref GA := (hf20.efl m_a0 r_a0 rfl).trans t_GA
    have e23 : fld f20 a0 22 = .ref GP := (hf20.efl m_a0 r_a0 rfl).trans t_GP
    have e24 : fld f20 a0 23 = .ref GL := (hf20.efl m_a0 r_a0 rfl).trans t_GL
    have e25 : fld f20 a0 6 = .ref GT := (hf20.efl m_a0 r_a0 rfl).trans t_GT
    exact hret f20 _ _ _ _ v21 dX12_begin_13 (tw_nb (by omega)) ⟨hk, by omega, by omega, hR, hX, by omega⟩ h
