def rm_X11_grantM : Room := { frames := 0, cells := 0, slots := 0, locals := 0 }
set_option maxHeartbeats 4000000 in
set_option maxRecDepth 100000 in
theorem s_X11_grantM (l : Launch) (D : va_G) (cy : Nat → ClassId) (L : List Nat) (R O : Nat → Nat) (f0 : Nat → va_E) (a0 : Nat) (m_a0 : a0 ∈ L) (r_a0 : R a0 = 11) (x1 : Int32) : ∀ sz, Met l yX11_grant (Cond.code yX11_grant cX11_grant 2 (some .int) :: wsL_law) rm_X11_grantM (va_Pc [.ref a0, .int x1] (tPZ D cy L R (TT cy L R) f0 sz)) (va_Qi (fun (r : Int32) f1 => fr L R [(11, 14)] [11] f0 f1 ∧ r.toInt = x1.toInt) (tB D (tA L sz) L R (TT cy L R)) (tA L sz)) 0 0 (tA L sz) := by
  refine tw_enteri (by decide +kernel) rfl (Nat.le_of_ble_eq_true rfl) ?_
  intro p e s m below meth c A ls args Q F hZ h hl hret
  have hl : lv_has ls 2 [(0, .ref a0), (1, .int x1)] := hl
  have hk : fr L R [(11, 14)] [11] f0 f0 := fr.rf
  refine lv_aload_n F.1 F.2.1 dX11_grant_0 rfl (lv_at hl 0 rfl) ?_
  refine tw_iconst F dX11_grant_1 ki_0 (fun z1 hz1 => ?_)
  refine p_11_79 F h m_a0 r_a0 dX11_grant_2 (fun f2 H locs e2p hf2 h => ?_)
  have hk : fr L R [(11, 14)] [11] f0 f2 := hk.tr hf2 rfl rfl
  refine lv_iload_n F.1 F.2.1 dX11_grant_5 rfl (lv_at hl 1 rfl) ?_
  exact hret f2 _ _ _ _ x1 dX11_grant_6 rfl ⟨hk, by omega⟩ h
def rm_X11_refuseM : Room := { frames := 0, cells := 0, slots := 0, locals := 0 }
set_option maxHeartbeats 4000000 in
set_option maxRecDepth 100000 in
theorem s_X11_refuseM (l : Launch) (D : va_G) (cy : Nat → ClassId) (L : List Nat) (R O : Nat → Nat) (f0 : Nat → va_E) (a0 : Nat) (m_a0 : a0 ∈ L) (r_a0 : R a0 = 11) (x1 : Int32) (b1 : 1 ≤ x1.toInt ∧ x1.toInt ≤ 9) : ∀ sz, Met l yX11_refuse (Cond.code yX11_refuse cX11_refuse 2 (some .int) :: wsL_law) rm_X11_refuseM (va_Pc [.ref a0, .int x1] (tPZ D cy L R (TT cy L R) f0 sz)) (va_Qi (fun (r : Int32) f1 => fr L R [(11, 14)] [11] f0 f1 ∧ (-1) ≤ r.toInt ∧ r.toInt ≤ (-1) ∧ r.toInt = -1) (tB D (tA L sz) L R (TT cy L R)) (tA L sz)) 0 0 (tA L sz) := by
  refine tw_enteri (by decide +kernel) rfl (Nat.le_of_ble_eq_true rfl) ?_
  intro p e s m below meth c A ls args Q F hZ h hl hret
  have hl : lv_has ls 2 [(0, .ref a0), (1, .int x1)] := hl
  have hk : fr L R [(11, 14)] [11] f0 f0 := fr.rf
  refine lv_aload_n F.1 F.2.1 dX11_refuse_0 rfl (lv_at hl 0 rfl) ?_
  refine lv_iload_n F.1 F.2.1 dX11_refuse_1 rfl (lv_at hl 1 rfl) ?_
  refine p_11_79 F h m_a0 r_a0 dX11_refuse_2 (fun f1 H locs e1p hf1 h => ?_)
  have hk : fr L R [(11, 14)] [11] f0 f1 := hk.tr hf1 rfl rfl
  refine tw_iconst F dX11_refuse_5 ki_m1 (fun z2 hz2 => ?_)
  exact hret f1 _ _ _ _ z2 dX11_refuse_6 rfl ⟨hk, by omega, by omega, by omega⟩ h
def rm_X12_givesM : Room := { frames := 0, cells := 0, slots := 0, locals := 0 }
set_option maxHeartbeats 4000000 in
set_option maxRecDepth 100000 in
theorem s_X12_givesM (l : Launch) (D : va_G) (cy : Nat → ClassId) (L : List Nat) (R O : Nat → Nat) (f0 : Nat → va_E) (a0 : Nat) (m_a0 : a0 ∈ L) (r_a0 : R a0 = 12) (x1 : Int32) : ∀ sz, Met l yX12_gives (Cond.code yX12_gives cX12_gives 2 (some .int) :: wsL_law) rm_X12_givesM (va_Pc [.ref a0, .int x1] (tPZ D cy L R (TT cy L R) f0 sz)) (va_Qi (fun (r : Int32) f1 => fr L R [(12, 1)] [12] f0 f1 ∧ r.toInt = x1.toInt) (tB D (tA L sz) L R (TT cy L R)) (tA L sz)) 0 0 (tA L sz) := by
  refine tw_enteri (by decide +kernel) rfl (Nat.le_of_ble_eq_true rfl) ?_
  intro p e s m below meth c A ls args Q F hZ h hl hret
  have hl : lv_has ls 2 [(0, .ref a0), (1, .int x1)] := hl
  have hk : fr L R [(12, 1)] [12] f0 f0 := fr.rf
  refine lv_aload_n F.1 F.2.1 dX12_gives_0 rfl (lv_at hl 0 rfl) ?_
  refine tw_iconst F dX12_gives_1 ki_0 (fun z1 hz1 => ?_)
  refine p_12_121 F h m_a0 r_a0 dX12_gives_2 (fun f2 H locs e2p hf2 h => ?_)
  have hk : fr L R [(12, 1)] [12] f0 f2 := hk.tr hf2 rfl rfl
  refine lv_iload_n F.1 F.2.1 dX12_gives_5 rfl (lv_at hl 1 rfl) ?_
  exact hret f2 _ _ _ _ x1 dX12_gives_6 rfl ⟨hk, by omega⟩ h
def rm_X12_refuseM : Room := { frames := 0, cells := 0, slots := 0, locals := 0 }
set_option maxHeartbeats 4000000 in
set_option maxRecDepth 100000 in
theorem s_X12_refuseM (l : Launch) (D : va_G) (cy : Nat → ClassId) (L : List Nat) (R O : Nat → Nat) (f0 : Nat → va_E) (a0 : Nat) (m_a0 : a0 ∈ L) (r_a0 : R a0 = 12) (x1 : Int32) (b1 : 1 ≤ x1.toInt ∧ x1.toInt ≤ 9) : ∀ sz, Met l yX12_refuse (Cond.code yX12_refuse cX12_refuse 2 (some .int) :: wsL_law) rm_X12_refuseM (va_Pc [.ref a0, .int x1] (tPZ D cy L R (TT cy L R) f0 sz)) (va_Qi (fun (r : Int32) f1 => fr L R [(12, 1)] [12] f0 f1 ∧ (-1) ≤ r.toInt ∧ r.toInt ≤ (-1) ∧ r.toInt = -1) (tB D (tA L sz) L R (TT cy L R)) (tA L sz)) 0 0 (tA L sz) := by
  refine tw_enteri (by decide +kernel) rfl (Nat.le_of_ble_eq_true rfl) ?_
  intro p e s m below meth c A ls args Q F hZ h hl hret
  have hl : lv_has ls 2 [(0, .ref a0), (1, .int x1)] := hl
  have hk : fr L R [(12, 1)] [12] f0 f0 := fr.rf
  refine lv_aload_n F.1 F.2.1 dX12_refuse_0 rfl (lv_at hl 0 rfl) ?_
  refine lv_iload_n F.1 F.2.1 dX12_refuse_1 rfl (lv_at hl 1 rfl) ?_
  refine p_12_121 F h m_a0 r_a0 dX12_refuse_2 (fun f1 H locs e1p hf1 h => ?_)
  have hk : fr L R [(12, 1)] [12] f0 f1 := hk.tr hf1 rfl rfl
  refine tw_iconst F dX12_refuse_5 ki_m1 (fun z2 hz2 => ?_)
  exact hret f1 _ _ _ _ z2 dX12_refuse_6 rfl ⟨hk, by omega, by omega, by omega⟩ h
def rm_X11_markM : Room := { frames := 4, cells := 0, slots := 0, locals := 105 }
set_option maxHeartbeats 4000000 in
set_option maxRecDepth 100000 in
theorem s_X11_markM (l : Launch) (D : va_G) (cy : Nat → ClassId) (L : List Nat) (R O : Nat → Nat) (f0 : Nat → va_E) (hG : GG L R O f0) (a0 : Nat) (m_a0 : a0 ∈ L) (r_a0 : R a0 = 11) (P : Nat → Nat) (pre0 : IB L R O P f0 (rfa f0 a0 2)) : ∀ sz, Met l yX11_mark (Cond.code yX11_mark cX11_mark 1 (some .int) :: wsL_law) rm_X11_markM (va_Pc [.ref a0] (tPZ D cy L R (TT cy L R) f0 sz)) (va_Qi (fun (r : Int32) f1 => fr L R [(0, 5), (0, 6), (4, 1), (6, 14), (6, 15), (6, 16), (6, 17), (6, 18), (8, 1), (8, 2), (11, 11), (11, 14)] [0, 4, 6, 8, 11, 23, 35, 36, 37, 38, 39, 40, 41, 42, 43, 44] f0 f1 ∧ GG L R O f1 ∧ IB L R O P f1 (rfa f0 a0 2) ∧ ((r.toInt = -1 ∧ 3 ≤ fi f0 a0 11 ∧ fi f1 a0 11 = fi f0 a0 11) ∨ (r.toInt = fi f0 a0 11 + 1 ∧ fi f0 a0 11 < 3 ∧ fi f1 a0 11 = fi f0 a0 11 + 1))) (tB D (tA L sz) L R (TT cy L R)) (tA L sz)) 0 0 (tA L sz) := by
  refine tw_enteri (by decide +kernel) rfl (Nat.le_of_ble_eq_true rfl) ?_
  intro p e s m below meth c A ls args Q F hZ h hl hret
  have hl : lv_has ls 1 [(0, .ref a0)] := hl
  have hk : fr L R [(0, 5), (0, 6), (4, 1), (6, 14), (6, 15), (6, 16), (6, 17), (6, 18), (8, 1), (8, 2), (11, 11), (11, 14)] [0, 4, 6, 8, 11, 23, 35, 36, 37, 38, 39, 40, 41, 42, 43, 44] f0 f0 := fr.rf
  obtain ⟨a0_reader, m_a0_reader, r_a0_reader, t_a0_reader⟩ := h.rf m_a0 r_a0 (fun e q => (T_11 e).mp q) (k := 2) rfl
  rw [rfa_of t_a0_reader] at pre0
  have hI := pre0
  refine lv_aload_n F.1 F.2.1 dX11_mark_0 rfl (lv_at hl 0 rfl) ?_
  refine g_11_69 F h m_a0 r_a0 dX11_mark_1 (fun v1 hv1 hv1a hv1b => ?_)
  refine tw_iconst F dX11_mark_4 ki_3 (fun z2 hz2 => ?_)
  refine tw_icmp_lt (tgt := 14) F dX11_mark_5 (by decide) (fun b3 => ?_) (fun b3 => ?_)
  · refine lv_aload_n F.1 F.2.1 dX11_mark_14 rfl (lv_at hl 0 rfl) ?_
    refine g_11_33 F h m_a0 r_a0 dX11_mark_15 (fun o4 m_o4 r_o4 ho4 => ?_)
    refine lv_aload_n F.1 F.2.1 dX11_mark_18 rfl (lv_at hl 0 rfl) ?_
    refine g_11_69 F h m_a0 r_a0 dX11_mark_19 (fun v5 hv5 hv5a hv5b => ?_)
    refine ld_57 F h m_o4 r_o4 (by omega) dX11_mark_22 (fun o6 m_o6 r_o6 => ?_)
    refine lv_aload_n F.1 F.2.1 dX11_mark_23 rfl (lv_at hl 0 rfl) ?_
    refine g_11_29 F h m_a0 r_a0 dX11_mark_24 (fun o7 m_o7 r_o7 ho7 => ?_)
    have hGo := hG
    refine tw_Vv (As := [.ref o7]) F hZ h yk_X0_copy mw_1561 mw_1562 mw_1563 (s_X0_copy l D cy L R O f0 hG o6 m_o6 r_o6 o7 m_o7 r_o7 P a0_reader m_a0_reader r_a0_reader hI) rfl rfl m_o6 r_o6 (fun e q => (T_0 e).mp q) rfl hl.1 rfl (Nat.le_of_ble_eq_true rfl) ⟨Nat.le_of_ble_eq_true rfl, Nat.le_of_ble_eq_true rfl⟩ ⟨Nat.le_of_ble_eq_true rfl, Nat.le_of_ble_eq_true rfl⟩ dX11_mark_27 (fun f8 H locs hp8 h => ?_)
    obtain ⟨hf8, hG, hv9p0⟩ := hp8
    have hk : fr L R [(0, 5), (0, 6), (4, 1), (6, 14), (6, 15), (6, 16), (6, 17), (6, 18), (8, 1), (8, 2), (11, 11), (11, 14)] [0, 4, 6, 8, 11, 23, 35, 36, 37, 38, 39, 40, 41, 42, 43, 44] f0 f8 := hk.tr hf8 (by decide +kernel) (by decide +kernel)
    have e10 : fld f8 a0 2 = .ref a0_reader := (hf8.efl m_a0 r_a0 rfl).trans t_a0_reader
    have e11 : fi f8 a0 11 = fi f0 a0 11 := hf8.efi m_a0 r_a0 rfl
    have hI : IB L R O P f8 a0_reader := hv9p0
    refine lv_aload_n F.1 F.2.1 dX11_mark_30 rfl (lv_at hl 0 rfl) ?_
    refine lv_dup F.1 F.2.1 dX11_mark_31 rfl ?_
    refine g_11_69 F h m_a0 r_a0 dX11_mark_32 (fun v12 hv12 hv12a hv12b => ?_)
    refine tw_iconst F dX11_mark_35 ki_1 (fun z13 hz13 => ?_)
    refine tu_iadd F dX11_mark_36 (by omega) (fun z14 hz14 => ?_)
    refine p_11_69 F h m_a0 r_a0 (by omega) dX11_mark_37 (fun f15 H locs e15p hf15 h => ?_)
    have hI : IB L R O P f15 a0_reader := IB_fr hI hG.1 hf15 (by decide +kernel) (by decide +kernel) (by decide +kernel) m_a0_reader r_a0_reader
    have hG : GG L R O f15 := hG.fr hf15 (by decide +kernel) (by decide +kernel)
    have hk : fr L R [(0, 5), (0, 6), (4, 1), (6, 14), (6, 15), (6, 16), (6, 17), (6, 18), (8, 1), (8, 2), (11, 11), (11, 14)] [0, 4, 6, 8, 11, 23, 35, 36, 37, 38, 39, 40, 41, 42, 43, 44] f0 f15 := hk.tr hf15 rfl rfl
    have e16 : fld f15 a0 2 = .ref a0_reader := (hf15.efl m_a0 r_a0 rfl).trans e10
    refine lv_aload_n F.1 F.2.1 dX11_mark_40 rfl (lv_at hl 0 rfl) ?_
    refine lv_aload_n F.1 F.2.1 dX11_mark_41 rfl (lv_at hl 0 rfl) ?_
    refine g_11_69 F h m_a0 r_a0 dX11_mark_42 (fun v17 hv17 hv17a hv17b => ?_)
    refine tw_Vi (As := [.int v17]) F hZ h yk_X11_grant mw_442 mw_443 mw_444 (s_X11_grantM l D cy L R O f15 a0 m_a0 r_a0 v17) rfl rfl m_a0 r_a0 (fun e q => (T_11 e).mp q) rfl hl.1 rfl (Nat.le_of_ble_eq_true rfl) ⟨Nat.le_of_ble_eq_true rfl, Nat.le_of_ble_eq_true rfl⟩ ⟨Nat.le_of_ble_eq_true rfl, Nat.le_of_ble_eq_true rfl⟩ dX11_mark_45 (fun v19 f18 H locs hp18 h => ?_)
    obtain ⟨hf18, hv19p0⟩ := hp18
    have hI : IB L R O P f18 a0_reader := IB_fr hI hG.1 hf18 (by decide +kernel) (by decide +kernel) (by decide +kernel) m_a0_reader r_a0_reader
    have hG : GG L R O f18 := hG.fr hf18 (by decide +kernel) (by decide +kernel)
    have hk : fr L R [(0, 5), (0, 6), (4, 1), (6, 14), (6, 15), (6, 16), (6, 17), (6, 18), (8, 1), (8, 2), (11, 11), (11, 14)] [0, 4, 6, 8, 11, 23, 35, 36, 37, 38, 39, 40, 41, 42, 43, 44] f0 f18 := hk.tr hf18 rfl rfl
    have e20 : fld f18 a0 2 = .ref a0_reader := (hf18.efl m_a0 r_a0 rfl).trans e16
    have e21 : fi f18 a0 11 = fi f15 a0 11 := hf18.efi m_a0 r_a0 rfl
    exact hret f18 _ _ _ _ v19 dX11_mark_48 rfl ⟨hk, hG, by rw [rfa_of t_a0_reader]; exact hI, by omega⟩ h
  · refine lv_aload_n F.1 F.2.1 dX11_mark_8 rfl (lv_at hl 0 rfl) ?_
    refine tw_iconst F dX11_mark_9 ki_4 (fun z22 hz22 => ?_)
    refine tw_Vi (As := [.int z22]) F hZ h yk_X11_refuse mw_378 mw_379 mw_380 (s_X11_refuseM l D cy L R O f0 a0 m_a0 r_a0 z22 ⟨by omega, by omega⟩) rfl rfl m_a0 r_a0 (fun e q => (T_11 e).mp q) rfl hl.1 rfl (Nat.le_of_ble_eq_true rfl) ⟨Nat.le_of_ble_eq_true rfl, Nat.le_of_ble_eq_true rfl⟩ ⟨Nat.le_of_ble_eq_true rfl, Nat.le_of_ble_eq_true rfl⟩ dX11_mark_10 (fun v24 f23 H locs hp23 h => ?_)
    obtain ⟨hf23, hv24a, hv24b, hv24p0⟩ := hp23
    have hI : IB L R O P f23 a0_reader := IB_fr hI hG.1 hf23 (by decide +kernel) (by decide +kernel) (by decide +kernel) m_a0_reader r_a0_reader
    have hG : GG L R O f23 := hG.fr hf23 (by decide +kernel) (by decide +kernel)
    have hk : fr L R [(0, 5), (0, 6), (4, 1), (6, 14), (6, 15), (6, 16), (6, 17), (6, 18), (8, 1), (8, 2), (11, 11), (11, 14)] [0, 4, 6, 8, 11, 23, 35, 36, 37, 38, 39, 40, 41, 42, 43, 44] f0 f23 := hk.tr hf23 rfl rfl
    have e25 : fld f23 a0 2 = .ref a0_reader := (hf23.efl m_a0 r_a0 rfl).trans t_a0_reader
    have e26 : fi f23 a0 11 = fi f0 a0 11 := hf23.efi m_a0 r_a0 rfl
    exact hret f23 _ _ _ _ v24 dX11_mark_13 rfl ⟨hk, hG, by rw [rfa_of t_a0_reader]; exact hI, by omega⟩ h
def rm_X11_backM : Room := { frames := 4, cells := 0, slots := 0, locals := 105 }
set_option maxHeartbeats 4000000 in
set_option maxRecDepth 100000 in
theorem s_X11_backM (l : Launch) (D : va_G) (cy : Nat → ClassId) (L : List Nat) (R O : Nat → Nat) (f0 : Nat → va_E) (hG : GG L R O f0) (a0 : Nat) (m_a0 : a0 ∈ L) (r_a0 : R a0 = 11) (P : Nat → Nat) (pre0 : IB L R O P f0 (rfa f0 a0 2)) : ∀ sz, Met l yX11_back (Cond.code yX11_back cX11_back 1 (some .int) :: wsL_law) rm_X11_backM (va_Pc [.ref a0] (tPZ D cy L R (TT cy L R) f0 sz)) (va_Qi (fun (r : Int32) f1 => fr L R [(0, 5), (0, 6), (4, 1), (6, 14), (6, 15), (6, 16), (6, 17), (6, 18), (8, 1), (8, 2), (11, 11), (11, 14)] [0, 4, 6, 8, 11, 23, 35, 36, 37, 38, 39, 40, 41, 42, 43, 44] f0 f1 ∧ GG L R O f1 ∧ IB L R O P f1 (rfa f0 a0 2) ∧ ((r.toInt = -1 ∧ fi f0 a0 11 ≤ 0 ∧ fi f1 a0 11 = fi f0 a0 11) ∨ (r.toInt = fi f0 a0 11 - 1 ∧ 1 ≤ fi f0 a0 11 ∧ fi f1 a0 11 = fi f0 a0 11 - 1))) (tB D (tA L sz) L R (TT cy L R)) (tA L sz)) 0 0 (tA L sz) := by
  refine tw_enteri (by decide +kernel) rfl (Nat.le_of_ble_eq_true rfl) ?_
  intro p e s m below meth c A ls args Q F hZ h hl hret
  have hl : lv_has ls 1 [(0, .ref a0)] := hl
  have hk : fr L R [(0, 5), (0, 6), (4, 1), (6, 14), (6, 15), (6, 16), (6, 17), (6, 18), (8, 1), (8, 2), (11, 11), (11, 14)] [0, 4, 6, 8, 11, 23, 35, 36, 37, 38, 39, 40, 41, 42, 43, 44] f0 f0 := fr.rf
  obtain ⟨a0_reader, m_a0_reader, r_a0_reader, t_a0_reader⟩ := h.rf m_a0 r_a0 (fun e q => (T_11 e).mp q) (k := 2) rfl
  rw [rfa_of t_a0_reader] at pre0
  have hI := pre0
  refine lv_aload_n F.1 F.2.1 dX11_back_0 rfl (lv_at hl 0 rfl) ?_
  refine g_11_69 F h m_a0 r_a0 dX11_back_1 (fun v1 hv1 hv1a hv1b => ?_)
  refine tw_if_gt (tgt := 14) F dX11_back_4 (by decide) (fun b2 => ?_) (fun b2 => ?_)
  · refine lv_aload_n F.1 F.2.1 dX11_back_14 rfl (lv_at hl 0 rfl) ?_
    refine lv_dup F.1 F.2.1 dX11_back_15 rfl ?_
    refine g_11_69 F h m_a0 r_a0 dX11_back_16 (fun v3 hv3 hv3a hv3b => ?_)
    refine tw_iconst F dX11_back_19 ki_1 (fun z4 hz4 => ?_)
    refine tu_isub F dX11_back_20 (by omega) (fun z5 hz5 => ?_)
    refine p_11_69 F h m_a0 r_a0 (by omega) dX11_back_21 (fun f6 H locs e6p hf6 h => ?_)
    have hI : IB L R O P f6 a0_reader := IB_fr hI hG.1 hf6 (by decide +kernel) (by decide +kernel) (by decide +kernel) m_a0_reader r_a0_reader
    have hG : GG L R O f6 := hG.fr hf6 (by decide +kernel) (by decide +kernel)
    have hk : fr L R [(0, 5), (0, 6), (4, 1), (6, 14), (6, 15), (6, 16), (6, 17), (6, 18), (8, 1), (8, 2), (11, 11), (11, 14)] [0, 4, 6, 8, 11, 23, 35, 36, 37, 38, 39, 40, 41, 42, 43, 44] f0 f6 := hk.tr hf6 rfl rfl
    have e7 : fld f6 a0 2 = .ref a0_reader := (hf6.efl m_a0 r_a0 rfl).trans t_a0_reader
    refine lv_aload_n F.1 F.2.1 dX11_back_24 rfl (lv_at hl 0 rfl) ?_
    refine g_11_29 F h m_a0 r_a0 dX11_back_25 (fun o8 m_o8 r_o8 ho8 => ?_)
    refine lv_aload_n F.1 F.2.1 dX11_back_28 rfl (lv_at hl 0 rfl) ?_
    refine g_11_33 F h m_a0 r_a0 dX11_back_29 (fun o9 m_o9 r_o9 ho9 => ?_)
    refine lv_aload_n F.1 F.2.1 dX11_back_32 rfl (lv_at hl 0 rfl) ?_
    refine g_11_69 F h m_a0 r_a0 dX11_back_33 (fun v10 hv10 hv10a hv10b => ?_)
    refine ld_57 F h m_o9 r_o9 (by omega) dX11_back_36 (fun o11 m_o11 r_o11 => ?_)
    have hGo := hG
    refine tw_Vv (As := [.ref o11]) F hZ h yk_X0_copy mw_1561 mw_1562 mw_1563 (s_X0_copy l D cy L R O f6 hG o8 m_o8 r_o8 o11 m_o11 r_o11 P a0_reader m_a0_reader r_a0_reader hI) rfl rfl m_o8 r_o8 (fun e q => (T_0 e).mp q) rfl hl.1 rfl (Nat.le_of_ble_eq_true rfl) ⟨Nat.le_of_ble_eq_true rfl, Nat.le_of_ble_eq_true rfl⟩ ⟨Nat.le_of_ble_eq_true rfl, Nat.le_of_ble_eq_true rfl⟩ dX11_back_37 (fun f12 H locs hp12 h => ?_)
    obtain ⟨hf12, hG, hv13p0⟩ := hp12
    have hk : fr L R [(0, 5), (0, 6), (4, 1), (6, 14), (6, 15), (6, 16), (6, 17), (6, 18), (8, 1), (8, 2), (11, 11), (11, 14)] [0, 4, 6, 8, 11, 23, 35, 36, 37, 38, 39, 40, 41, 42, 43, 44] f0 f12 := hk.tr hf12 (by decide +kernel) (by decide +kernel)
    have e14 : fld f12 a0 2 = .ref a0_reader := (hf12.efl m_a0 r_a0 rfl).trans e7
    have e15 : fi f12 a0 11 = fi f6 a0 11 := hf12.efi m_a0 r_a0 rfl
    have hI : IB L R O P f12 a0_reader := hv13p0
    refine lv_aload_n F.1 F.2.1 dX11_back_40 rfl (lv_at hl 0 rfl) ?_
    refine lv_aload_n F.1 F.2.1 dX11_back_41 rfl (lv_at hl 0 rfl) ?_
    refine g_11_69 F h m_a0 r_a0 dX11_back_42 (fun v16 hv16 hv16a hv16b => ?_)
    refine tw_Vi (As := [.int v16]) F hZ h yk_X11_grant mw_442 mw_443 mw_444 (s_X11_grantM l D cy L R O f12 a0 m_a0 r_a0 v16) rfl rfl m_a0 r_a0 (fun e q => (T_11 e).mp q) rfl hl.1 rfl (Nat.le_of_ble_eq_true rfl) ⟨Nat.le_of_ble_eq_true rfl, Nat.le_of_ble_eq_true rfl⟩ ⟨Nat.le_of_ble_eq_true rfl, Nat.le_of_ble_eq_true rfl⟩ dX11_back_45 (fun v18 f17 H locs hp17 h => ?_)
    obtain ⟨hf17, hv18p0⟩ := hp17
    have hI : IB L R O P f17 a0_reader := IB_fr hI hG.1 hf17 (by decide +kernel) (by decide +kernel) (by decide +kernel) m_a0_reader r_a0_reader
    have hG : GG L R O f17 := hG.fr hf17 (by decide +kernel) (by decide +kernel)
    have hk : fr L R [(0, 5), (0, 6), (4, 1), (6, 14), (6, 15), (6, 16), (6, 17), (6, 18), (8, 1), (8, 2), (11, 11), (11, 14)] [0, 4, 6, 8, 11, 23, 35, 36, 37, 38, 39, 40, 41, 42, 43, 44] f0 f17 := hk.tr hf17 rfl rfl
    have e19 : fld f17 a0 2 = .ref a0_reader := (hf17.efl m_a0 r_a0 rfl).trans e14
    have e20 : fi f17 a0 11 = fi f12 a0 11 := hf17.efi m_a0 r_a0 rfl
    exact hret f17 _ _ _ _ v18 dX11_back_48 rfl ⟨hk, hG, by rw [rfa_of t_a0_reader]; exact hI, by omega⟩ h
  · refine lv_aload_n F.1 F.2.1 dX11_back_7 rfl (lv_at hl 0 rfl) ?_
    refine tw_bipush F dX11_back_8 kb_6 (fun z21 hz21 => ?_)
    refine tw_Vi (As := [.int z21]) F hZ h yk_X11_refuse mw_378 mw_379 mw_380 (s_X11_refuseM l D cy L R O f0 a0 m_a0 r_a0 z21 ⟨by omega, by omega⟩) rfl rfl m_a0 r_a0 (fun e q => (T_11 e).mp q) rfl hl.1 rfl (Nat.le_of_ble_eq_true rfl) ⟨Nat.le_of_ble_eq_true rfl, Nat.le_of_ble_eq_true rfl⟩ ⟨Nat.le_of_ble_eq_true rfl, Nat.le_of_ble_eq_true rfl⟩ dX11_back_10 (fun v23 f22 H locs hp22 h => ?_)
    obtain ⟨hf22, hv23a, hv23b, hv23p0⟩ := hp22
    have hI : IB L R O P f22 a0_reader := IB_fr hI hG.1 hf22 (by decide +kernel) (by decide +kernel) (by decide +kernel) m_a0_reader r_a0_reader
    have hG : GG L R O f22 := hG.fr hf22 (by decide +kernel) (by decide +kernel)
    have hk : fr L R [(0, 5), (0, 6), (4, 1), (6, 14), (6, 15), (6, 16), (6, 17), (6, 18), (8, 1), (8, 2), (11, 11), (11, 14)] [0, 4, 6, 8, 11, 23, 35, 36, 37, 38, 39, 40, 41, 42, 43, 44] f0 f22 := hk.tr hf22 rfl rfl
    have e24 : fld f22 a0 2 = .ref a0_reader := (hf22.efl m_a0 r_a0 rfl).trans t_a0_reader
    have e25 : fi f22 a0 11 = fi f0 a0 11 := hf22.efi m_a0 r_a0 rfl
    exact hret f22 _ _ _ _ v23 dX11_back_13 rfl ⟨hk, hG, by rw [rfa_of t_a0_reader]; exact hI, by omega⟩ h
def rm_X12_markM : Room := { frames := 1, cells := 0, slots := 0, locals := 24 }
set_option maxHeartbeats 4000000 in
set_option maxRecDepth 100000 in
theorem s_X12_markM (l : Launch) (D : va_G) (cy : Nat → ClassId) (L : List Nat) (R O : Nat → Nat) (f0 : Nat → va_E) (a0 : Nat) (m_a0 : a0 ∈ L) (r_a0 : R a0 = 12) (GA : Nat) (m_GA : GA ∈ L) (r_GA : R GA = 61) (t_GA : fld f0 a0 0 = .ref GA) (GP : Nat) (m_GP : GP ∈ L) (r_GP : R GP = 69) (t_GP : fld f0 a0 22 = .ref GP) (GL : Nat) (m_GL : GL ∈ L) (r_GL : R GL = 70) (t_GL : fld f0 a0 23 = .ref GL) (GT : Nat) (m_GT : GT ∈ L) (r_GT : R GT = 64) (t_GT : fld f0 a0 6 = .ref GT) (pre0 : RBA GA f0) (pre1 : GZ GP GL f0) : ∀ sz, Met l yX12_mark (Cond.code yX12_mark cX12_mark 1 (some .int) :: wsL_law) rm_X12_markM (va_Pc [.ref a0] (tPZ D cy L R (TT cy L R) f0 sz)) (va_Qi (fun (r : Int32) f1 => fr L R [(12, 1), (12, 64)] [12, 61] f0 f1 ∧ RBA GA f1 ∧ GZ GP GL f1 ∧ ((r.toInt = -1 ∧ 3 ≤ fi f0 a0 64 ∧ fi f1 a0 64 = fi f0 a0 64) ∨ (r.toInt = fi f0 a0 64 + 1 ∧ fi f0 a0 64 < 3 ∧ fi f1 a0 64 = fi f0 a0 64 + 1))) (tB D (tA L sz) L R (TT cy L R)) (tA L sz)) 0 0 (tA L sz) := by
  refine tw_enteri (by decide +kernel) rfl (Nat.le_of_ble_eq_true rfl) ?_
  intro p e s m below meth c A ls args Q F hZ h hl hret
  have hl : lv_has ls 1 [(0, .ref a0)] := hl
  have hk : fr L R [(12, 1), (12, 64)] [12, 61] f0 f0 := fr.rf
  have t_a0_marks := h.bfi m_a0 r_a0 (fun e q => (T_12 e).mp q) (k := 64) rfl
  have hR := pre0
  have hX := pre1
  refine lv_aload_n F.1 F.2.1 dX12_mark_0 rfl (lv_at hl 0 rfl) ?_
  refine g_12_460 F h m_a0 r_a0 dX12_mark_1 (fun v1 hv1 hv1a hv1b => ?_)
  refine tw_iconst F dX12_mark_4 ki_3 (fun z2 hz2 => ?_)
  refine tw_icmp_ne (tgt := 14) F dX12_mark_5 (by decide) (fun b3 => ?_) (fun b3 => ?_)
  · refine lv_aload_n F.1 F.2.1 dX12_mark_14 rfl (lv_at hl 0 rfl) ?_
    refine lv_dup F.1 F.2.1 dX12_mark_15 rfl ?_
    refine g_12_460 F h m_a0 r_a0 dX12_mark_16 (fun v4 hv4 hv4a hv4b => ?_)
    refine tw_iconst F dX12_mark_19 ki_1 (fun z5 hz5 => ?_)
    refine tu_iadd F dX12_mark_20 (by omega) (fun z6 hz6 => ?_)
    refine p_12_460 F h m_a0 r_a0 (by omega) dX12_mark_21 (fun f7 H locs e7p hf7 h => ?_)
    have hR : RBA GA f7 := hR.fm hf7 m_GA r_GA (by decide +kernel)
    have hX : GZ GP GL f7 := hX.fm hf7 m_GP r_GP m_GL r_GL (by decide +kernel) (by decide +kernel)
    have hk : fr L R [(12, 1), (12, 64)] [12, 61] f0 f7 := hk.tr hf7 rfl rfl
    have e8 : fld f7 a0 0 = .ref GA := (hf7.efl m_a0 r_a0 rfl).trans t_GA
    have e9 : fld f7 a0 22 = .ref GP := (hf7.efl m_a0 r_a0 rfl).trans t_GP
    have e10 : fld f7 a0 23 = .ref GL := (hf7.efl m_a0 r_a0 rfl).trans t_GL
    have e11 : fld f7 a0 6 = .ref GT := (hf7.efl m_a0 r_a0 rfl).trans t_GT
    refine lv_aload_n F.1 F.2.1 dX12_mark_24 rfl (lv_at hl 0 rfl) ?_
    refine tw_iconst F dX12_mark_25 ki_0 (fun z12 hz12 => ?_)
    refine tw_sipush F dX12_mark_26 ks_5190 (fun z13 hz13 => ?_)
    refine lv_aload_n F.1 F.2.1 dX12_mark_29 rfl (lv_at hl 0 rfl) ?_
    refine g_12_460 F h m_a0 r_a0 dX12_mark_30 (fun v14 hv14 hv14a hv14b => ?_)
    refine tu_imull F dX12_mark_33 hz13 (by omega) (fun z15 hz15 => ?_)
    refine tw_sipush F dX12_mark_34 ks_5190 (fun z16 hz16 => ?_)
    have hR0 := hR
    refine tw_Vv (As := [.int z12, .int z15, .int z16]) F hZ h yk_X12_copies mw_749 mw_750 mw_751 (s_X12_copies l D cy L R O f7 a0 m_a0 r_a0 z12 ⟨by omega, by omega⟩ z15 ⟨by omega, by omega⟩ z16 ⟨by omega, by omega⟩ GA m_GA r_GA e8 GP m_GP r_GP e9 GL m_GL r_GL e10 GT m_GT r_GT e11 (by rw [show z16.toInt.toNat = 5190 by omega, show z12.toInt.toNat = 0 by omega]; exact CPc_m (m := z15.toInt.toNat / 5190) (by omega) (by omega)) (by omega) (by omega) (by omega)) rfl rfl m_a0 r_a0 (fun e q => (T_12 e).mp q) rfl hl.1 rfl (Nat.le_of_ble_eq_true rfl) ⟨Nat.le_of_ble_eq_true rfl, Nat.le_of_ble_eq_true rfl⟩ ⟨Nat.le_of_ble_eq_true rfl, Nat.le_of_ble_eq_true rfl⟩ dX12_mark_37 (fun f17 H locs hp17 h => ?_)
    obtain ⟨hf17, hv18p0, hv18p1⟩ := hp17
    have hX : GZ GP GL f17 := hX.fm hf17 m_GP r_GP m_GL r_GL (by decide +kernel) (by decide +kernel)
    have hk : fr L R [(12, 1), (12, 64)] [12, 61] f0 f17 := hk.tr hf17 rfl rfl
    have e19 : fld f17 a0 0 = .ref GA := (hf17.efl m_a0 r_a0 rfl).trans e8
    have e20 : fld f17 a0 22 = .ref GP := (hf17.efl m_a0 r_a0 rfl).trans e9
    have e21 : fld f17 a0 23 = .ref GL := (hf17.efl m_a0 r_a0 rfl).trans e10
    have e22 : fld f17 a0 6 = .ref GT := (hf17.efl m_a0 r_a0 rfl).trans e11
    have e23 : fi f17 a0 64 = fi f7 a0 64 := hf17.efi m_a0 r_a0 rfl
    have hR : RBA GA f17 := RBA.mk (m := z15.toInt.toNat / 5190) (a := z15.toInt.toNat) hR0 (by omega) (by omega) (by have q := hv18p0; rw [show z16.toInt.toNat = 5190 by omega] at q; exact q) (fun q hq => by have w := hv18p1 q (by omega); rw [show z12.toInt.toNat = 0 by omega] at w; exact w)
    refine lv_aload_n F.1 F.2.1 dX12_mark_40 rfl (lv_at hl 0 rfl) ?_
    refine lv_aload_n F.1 F.2.1 dX12_mark_41 rfl (lv_at hl 0 rfl) ?_
    refine g_12_460 F h m_a0 r_a0 dX12_mark_42 (fun v24 hv24 hv24a hv24b => ?_)
    refine tw_Vi (As := [.int v24]) F hZ h yk_X12_gives mw_499 mw_500 mw_501 (s_X12_givesM l D cy L R O f17 a0 m_a0 r_a0 v24) rfl rfl m_a0 r_a0 (fun e q => (T_12 e).mp q) rfl hl.1 rfl (Nat.le_of_ble_eq_true rfl) ⟨Nat.le_of_ble_eq_true rfl, Nat.le_of_ble_eq_true rfl⟩ ⟨Nat.le_of_ble_eq_true rfl, Nat.le_of_ble_eq_true rfl⟩ dX12_mark_45 (fun v26 f25 H locs hp25 h => ?_)
    obtain ⟨hf25, hv26p0⟩ := hp25
    have hX : GZ GP GL f25 := hX.fm hf25 m_GP r_GP m_GL r_GL (by decide +kernel) (by decide +kernel)
    have hR : RBA GA f25 := hR.fm hf25 m_GA r_GA (by decide +kernel)
    have hk : fr L R [(12, 1), (12, 64)] [12, 61] f0 f25 := hk.tr hf25 rfl rfl
    have e27 : fld f25 a0 0 = .ref GA := (hf25.efl m_a0 r_a0 rfl).trans e19
    have e28 : fld f25 a0 22 = .ref GP := (hf25.efl m_a0 r_a0 rfl).trans e20
    have e29 : fld f25 a0 23 = .ref GL := (hf25.efl m_a0 r_a0 rfl).trans e21
    have e30 : fld f25 a0 6 = .ref GT := (hf25.efl m_a0 r_a0 rfl).trans e22
    have e31 : fi f25 a0 64 = fi f17 a0 64 := hf25.efi m_a0 r_a0 rfl
    exact hret f25 _ _ _ _ v26 dX12_mark_48 rfl ⟨hk, hR, hX, by omega⟩ h
  · refine lv_aload_n F.1 F.2.1 dX12_mark_8 rfl (lv_at hl 0 rfl) ?_
    refine tw_iconst F dX12_mark_9 ki_4 (fun z32 hz32 => ?_)
    refine tw_Vi (As := [.int z32]) F hZ h yk_X12_refuse mw_452 mw_453 mw_454 (s_X12_refuseM l D cy L R O f0 a0 m_a0 r_a0 z32 ⟨by omega, by omega⟩) rfl rfl m_a0 r_a0 (fun e q => (T_12 e).mp q) rfl hl.1 rfl (Nat.le_of_ble_eq_true rfl) ⟨Nat.le_of_ble_eq_true rfl, Nat.le_of_ble_eq_true rfl⟩ ⟨Nat.le_of_ble_eq_true rfl, Nat.le_of_ble_eq_true rfl⟩ dX12_mark_10 (fun v34 f33 H locs hp33 h => ?_)
    obtain ⟨hf33, hv34a, hv34b, hv34p0⟩ := hp33
    have hR : RBA GA f33 := hR.fm hf33 m_GA r_GA (by decide +kernel)
    have hX : GZ GP GL f33 := hX.fm hf33 m_GP r_GP m_GL r_GL (by decide +kernel) (by decide +kernel)
    have hk : fr L R [(12, 1), (12, 64)] [12, 61] f0 f33 := hk.tr hf33 rfl rfl
    have e35 : fld f33 a0 0 = .ref GA := (hf33.efl m_a0 r_a0 rfl).trans t_GA
    have e36 : fld f33 a0 22 = .ref GP := (hf33.efl m_a0 r_a0 rfl).trans t_GP
    have e37 : fld f33 a0 23 = .ref GL := (hf33.efl m_a0 r_a0 rfl).trans t_GL
    have e38 : fld f33 a0 6 = .ref GT := (hf33.efl m_a0 r_a0 rfl).trans t_GT
    have e39 : fi f33 a0 64 = fi f0 a0 64 := hf33.efi m_a0 r_a0 rfl
    exact hret f33 _ _ _ _ v34 dX12_mark_13 rfl ⟨hk, hR, hX, by omega⟩ h
def rm_X12_backM : Room := { frames := 1, cells := 0, slots := 0, locals := 24 }
set_option maxHeartbeats 4000000 in
set_option maxRecDepth 100000 in
theorem s_X12_backM (l : Launch) (D : va_G) (cy : Nat → ClassId) (L : List Nat) (R O : Nat → Nat) (f0 : Nat → va_E) (a0 : Nat) (m_a0 : a0 ∈ L) (r_a0 : R a0 = 12) (GA : Nat) (m_GA : GA ∈ L) (r_GA : R GA = 61) (t_GA : fld f0 a0 0 = .ref GA) (GP : Nat) (m_GP : GP ∈ L) (r_GP : R GP = 69) (t_GP : fld f0 a0 22 = .ref GP) (GL : Nat) (m_GL : GL ∈ L) (r_GL : R GL = 70) (t_GL : fld f0 a0 23 = .ref GL) (GT : Nat) (m_GT : GT ∈ L) (r_GT : R GT = 64) (t_GT : fld f0 a0 6 = .ref GT) (pre0 : RBA GA f0) (pre1 : GZ GP GL f0) : ∀ sz, Met l yX12_back (Cond.code yX12_back cX12_back 1 (some .int) :: wsL_law) rm_X12_backM (va_Pc [.ref a0] (tPZ D cy L R (TT cy L R) f0 sz)) (va_Qi (fun (r : Int32) f1 => fr L R [(12, 1), (12, 64)] [12, 61] f0 f1 ∧ RBA GA f1 ∧ GZ GP GL f1 ∧ ((r.toInt = -1 ∧ fi f0 a0 64 ≤ 0 ∧ fi f1 a0 64 = fi f0 a0 64) ∨ (r.toInt = fi f0 a0 64 - 1 ∧ 1 ≤ fi f0 a0 64 ∧ fi f1 a0 64 = fi f0 a0 64 - 1))) (tB D (tA L sz) L R (TT cy L R)) (tA L sz)) 0 0 (tA L sz) := by
  refine tw_enteri (by decide +kernel) rfl (Nat.le_of_ble_eq_true rfl) ?_
  intro p e s m below meth c A ls args Q F hZ h hl hret
  have hl : lv_has ls 1 [(0, .ref a0)] := hl
  have hk : fr L R [(12, 1), (12, 64)] [12, 61] f0 f0 := fr.rf
  have t_a0_marks := h.bfi m_a0 r_a0 (fun e q => (T_12 e).mp q) (k := 64) rfl
  have hR := pre0
  have hX := pre1
  refine lv_aload_n F.1 F.2.1 dX12_back_0 rfl (lv_at hl 0 rfl) ?_
  refine g_12_460 F h m_a0 r_a0 dX12_back_1 (fun v1 hv1 hv1a hv1b => ?_)
  refine tw_if_ne (tgt := 14) F dX12_back_4 (by decide) (fun b2 => ?_) (fun b2 => ?_)
  · refine lv_aload_n F.1 F.2.1 dX12_back_14 rfl (lv_at hl 0 rfl) ?_
    refine tw_sipush F dX12_back_15 ks_5190 (fun z3 hz3 => ?_)
    refine lv_aload_n F.1 F.2.1 dX12_back_18 rfl (lv_at hl 0 rfl) ?_
    refine g_12_460 F h m_a0 r_a0 dX12_back_19 (fun v4 hv4 hv4a hv4b => ?_)
    refine tu_imull F dX12_back_22 hz3 (by omega) (fun z5 hz5 => ?_)
    refine tw_iconst F dX12_back_23 ki_0 (fun z6 hz6 => ?_)
    refine tw_sipush F dX12_back_24 ks_5190 (fun z7 hz7 => ?_)
    have hR0 := hR
    refine tw_Vv (As := [.int z5, .int z6, .int z7]) F hZ h yk_X12_copies mw_749 mw_750 mw_751 (s_X12_copies l D cy L R O f0 a0 m_a0 r_a0 z5 ⟨by omega, by omega⟩ z6 ⟨by omega, by omega⟩ z7 ⟨by omega, by omega⟩ GA m_GA r_GA t_GA GP m_GP r_GP t_GP GL m_GL r_GL t_GL GT m_GT r_GT t_GT (by rw [show z7.toInt.toNat = 5190 by omega, show z6.toInt.toNat = 0 by omega]; exact CPc_b (m := z5.toInt.toNat / 5190) (by omega) (by omega)) (by omega) (by omega) (by omega)) rfl rfl m_a0 r_a0 (fun e q => (T_12 e).mp q) rfl hl.1 rfl (Nat.le_of_ble_eq_true rfl) ⟨Nat.le_of_ble_eq_true rfl, Nat.le_of_ble_eq_true rfl⟩ ⟨Nat.le_of_ble_eq_true rfl, Nat.le_of_ble_eq_true rfl⟩ dX12_back_27 (fun f8 H locs hp8 h => ?_)
    obtain ⟨hf8, hv9p0, hv9p1⟩ := hp8
    have hX : GZ GP GL f8 := hX.fm hf8 m_GP r_GP m_GL r_GL (by decide +kernel) (by decide +kernel)
    have hk : fr L R [(12, 1), (12, 64)] [12, 61] f0 f8 := hk.tr hf8 rfl rfl
    have e10 : fld f8 a0 0 = .ref GA := (hf8.efl m_a0 r_a0 rfl).trans t_GA
    have e11 : fld f8 a0 22 = .ref GP := (hf8.efl m_a0 r_a0 rfl).trans t_GP
    have e12 : fld f8 a0 23 = .ref GL := (hf8.efl m_a0 r_a0 rfl).trans t_GL
    have e13 : fld f8 a0 6 = .ref GT := (hf8.efl m_a0 r_a0 rfl).trans t_GT
    have e14 : fi f8 a0 64 = fi f0 a0 64 := hf8.efi m_a0 r_a0 rfl
    have hR : RBA GA f8 := RBA.bk (m := z5.toInt.toNat / 5190) (a := z5.toInt.toNat) hR0 (by omega) (by omega) (by have q := hv9p0; rw [show z7.toInt.toNat = 5190 by omega, show z6.toInt.toNat = 0 by omega] at q; exact q) (fun q hq => by have w := hv9p1 q (by omega); rw [show z6.toInt.toNat = 0 by omega] at w; exact w)
    refine lv_aload_n F.1 F.2.1 dX12_back_30 rfl (lv_at hl 0 rfl) ?_
    refine lv_dup F.1 F.2.1 dX12_back_31 rfl ?_
    refine g_12_460 F h m_a0 r_a0 dX12_back_32 (fun v15 hv15 hv15a hv15b => ?_)
    refine tw_iconst F dX12_back_35 ki_1 (fun z16 hz16 => ?_)
    refine tu_isub F dX12_back_36 (by omega) (fun z17 hz17 => ?_)
    refine p_12_460 F h m_a0 r_a0 (by omega) dX12_back_37 (fun f18 H locs e18p hf18 h => ?_)
    have hX : GZ GP GL f18 := hX.fm hf18 m_GP r_GP m_GL r_GL (by decide +kernel) (by decide +kernel)
    have hR : RBA GA f18 := hR.fm hf18 m_GA r_GA (by decide +kernel)
    have hk : fr L R [(12, 1), (12, 64)] [12, 61] f0 f18 := hk.tr hf18 rfl rfl
    have e19 : fld f18 a0 0 = .ref GA := (hf18.efl m_a0 r_a0 rfl).trans e10
    have e20 : fld f18 a0 22 = .ref GP := (hf18.efl m_a0 r_a0 rfl).trans e11
    have e21 : fld f18 a0 23 = .ref GL := (hf18.efl m_a0 r_a0 rfl).trans e12
    have e22 : fld f18 a0 6 = .ref GT := (hf18.efl m_a0 r_a0 rfl).trans e13
    refine lv_aload_n F.1 F.2.1 dX12_back_40 rfl (lv_at hl 0 rfl) ?_
    refine lv_aload_n F.1 F.2.1 dX12_back_41 rfl (lv_at hl 0 rfl) ?_
    refine g_12_460 F h m_a0 r_a0 dX12_back_42 (fun v23 hv23 hv23a hv23b => ?_)
    refine tw_Vi (As := [.int v23]) F hZ h yk_X12_gives mw_499 mw_500 mw_501 (s_X12_givesM l D cy L R O f18 a0 m_a0 r_a0 v23) rfl rfl m_a0 r_a0 (fun e q => (T_12 e).mp q) rfl hl.1 rfl (Nat.le_of_ble_eq_true rfl) ⟨Nat.le_of_ble_eq_true rfl, Nat.le_of_ble_eq_true rfl⟩ ⟨Nat.le_of_ble_eq_true rfl, Nat.le_of_ble_eq_true rfl⟩ dX12_back_45 (fun v25 f24 H locs hp24 h => ?_)
    obtain ⟨hf24, hv25p0⟩ := hp24
    have hX : GZ GP GL f24 := hX.fm hf24 m_GP r_GP m_GL r_GL (by decide +kernel) (by decide +kernel)
    have hR : RBA GA f24 := hR.fm hf24 m_GA r_GA (by decide +kernel)
    have hk : fr L R [(12, 1), (12, 64)] [12, 61] f0 f24 := hk.tr hf24 rfl rfl
    have e26 : fld f24 a0 0 = .ref GA := (hf24.efl m_a0 r_a0 rfl).trans e19
    have e27 : fld f24 a0 22 = .ref GP := (hf24.efl m_a0 r_a0 rfl).trans e20
    have e28 : fld f24 a0 23 = .ref GL := (hf24.efl m_a0 r_a0 rfl).trans e21
    have e29 : fld f24 a0 6 = .ref GT := (hf24.efl m_a0 r_a0 rfl).trans e22
    have e30 : fi f24 a0 64 = fi f18 a0 64 := hf24.efi m_a0 r_a0 rfl
    exact hret f24 _ _ _ _ v25 dX12_back_48 rfl ⟨hk, hR, hX, by omega⟩ h
  · refine lv_aload_n F.1 F.2.1 dX12_back_7 rfl (lv_at hl 0 rfl) ?_
    refine tw_bipush F dX12_back_8 kb_6 (fun z31 hz31 => ?_)
    refine tw_Vi (As := [.int z31]) F hZ h yk_X12_refuse mw_452 mw_453 mw_454 (s_X12_refuseM l D cy L R O f0 a0 m_a0 r_a0 z31 ⟨by omega, by omega⟩) rfl rfl m_a0 r_a0 (fun e q => (T_12 e).mp q) rfl hl.1 rfl (Nat.le_of_ble_eq_true rfl) ⟨Nat.le_of_ble_eq_true rfl, Nat.le_of_ble_eq_true rfl⟩ ⟨Nat.le_of_ble_eq_true rfl, Nat.le_of_ble_eq_true rfl⟩ dX12_back_10 (fun v33 f32 H locs hp32 h => ?_)
    obtain ⟨hf32, hv33a, hv33b, hv33p0⟩ := hp32
    have hR : RBA GA f32 := hR.fm hf32 m_GA r_GA (by decide +kernel)
    have hX : GZ GP GL f32 := hX.fm hf32 m_GP r_GP m_GL r_GL (by decide +kernel) (by decide +kernel)
    have hk : fr L R [(12, 1), (12, 64)] [12, 61] f0 f32 := hk.tr hf32 rfl rfl
    have e34 : fld f32 a0 0 = .ref GA := (hf32.efl m_a0 r_a0 rfl).trans t_GA
    have e35 : fld f32 a0 22 = .ref GP := (hf32.efl m_a0 r_a0 rfl).trans t_GP
    have e36 : fld f32 a0 23 = .ref GL := (hf32.efl m_a0 r_a0 rfl).trans t_GL
    have e37 : fld f32 a0 6 = .ref GT := (hf32.efl m_a0 r_a0 rfl).trans t_GT
    have e38 : fi f32 a0 64 = fi f0 a0 64 := hf32.efi m_a0 r_a0 rfl
    exact hret f32 _ _ _ _ v33 dX12_back_13 rfl ⟨hk, hR, hX, by omega⟩ h
