def rm_X11_isTrayF : Room := { frames := 0, cells := 0, slots := 0, locals := 0 }
set_option maxHeartbeats 4000000 in
set_option maxRecDepth 100000 in
theorem s_X11_isTrayF (l : Launch) (D : va_G) (cy : Nat → ClassId) (L : List Nat) (R O : Nat → Nat) (f0 : Nat → va_E) (x0 : Int32) : ∀ sz, Met l yX11_isTray (Cond.code yX11_isTray cX11_isTray 1 (some .boolean) :: wsL_law) rm_X11_isTrayF (va_Pc [.int x0] (tPZ D cy L R (TT cy L R) f0 sz)) (va_Qi (fun (r : Int32) f1 => f0 = f1 ∧ 0 ≤ r.toInt ∧ r.toInt ≤ 1 ∧ ((r.toInt = 1 ∧ 0 ≤ x0.toInt ∧ x0.toInt ≤ 3) ∨ (r.toInt = 0 ∧ (x0.toInt < 0 ∨ 3 < x0.toInt)))) (tB D (tA L sz) L R (TT cy L R)) (tA L sz)) 0 0 (tA L sz) := by
  refine tw_enteri (by decide +kernel) rfl (Nat.le_of_ble_eq_true rfl) ?_
  intro p e s m below meth c A ls args Q F hZ h hl hret
  have hl : lv_has ls 1 [(0, .int x0)] := hl
  refine lv_iload_n F.1 F.2.1 dX11_isTray_0 rfl (lv_at hl 0 rfl) ?_
  refine tw_if_lt (tgt := 13) F dX11_isTray_1 (by decide) (fun b1 => ?_) (fun b1 => ?_)
  · refine tw_iconst F dX11_isTray_13 ki_0 (fun z2 hz2 => ?_)
    exact hret f0 _ _ _ _ z2 dX11_isTray_14 (tw_nb (by omega)) ⟨rfl, by omega, by omega, by omega⟩ h
  · refine lv_iload_n F.1 F.2.1 dX11_isTray_4 rfl (lv_at hl 0 rfl) ?_
    refine tw_iconst F dX11_isTray_5 ki_4 (fun z3 hz3 => ?_)
    refine tw_icmp_ge (tgt := 13) F dX11_isTray_6 (by decide) (fun b4 => ?_) (fun b4 => ?_)
    · refine tw_iconst F dX11_isTray_13 ki_0 (fun z5 hz5 => ?_)
      exact hret f0 _ _ _ _ z5 dX11_isTray_14 (tw_nb (by omega)) ⟨rfl, by omega, by omega, by omega⟩ h
    · refine tw_iconst F dX11_isTray_9 ki_1 (fun z6 hz6 => ?_)
      refine lv_goto (tgt := 14) F.1 F.2.1 dX11_isTray_10 (by decide) ?_
      exact hret f0 _ _ _ _ z6 dX11_isTray_14 (tw_nb (by omega)) ⟨rfl, by omega, by omega, by omega⟩ h
def rm_X11_isScriptF : Room := { frames := 0, cells := 0, slots := 0, locals := 0 }
set_option maxHeartbeats 4000000 in
set_option maxRecDepth 100000 in
theorem s_X11_isScriptF (l : Launch) (D : va_G) (cy : Nat → ClassId) (L : List Nat) (R O : Nat → Nat) (f0 : Nat → va_E) (x0 : Int32) : ∀ sz, Met l yX11_isScript (Cond.code yX11_isScript cX11_isScript 1 (some .boolean) :: wsL_law) rm_X11_isScriptF (va_Pc [.int x0] (tPZ D cy L R (TT cy L R) f0 sz)) (va_Qi (fun (r : Int32) f1 => f0 = f1 ∧ 0 ≤ r.toInt ∧ r.toInt ≤ 1 ∧ ((r.toInt = 1 ∧ 0 ≤ x0.toInt ∧ x0.toInt ≤ 2) ∨ (r.toInt = 0 ∧ (x0.toInt < 0 ∨ 2 < x0.toInt)))) (tB D (tA L sz) L R (TT cy L R)) (tA L sz)) 0 0 (tA L sz) := by
  refine tw_enteri (by decide +kernel) rfl (Nat.le_of_ble_eq_true rfl) ?_
  intro p e s m below meth c A ls args Q F hZ h hl hret
  have hl : lv_has ls 1 [(0, .int x0)] := hl
  refine lv_iload_n F.1 F.2.1 dX11_isScript_0 rfl (lv_at hl 0 rfl) ?_
  refine tw_if_lt (tgt := 13) F dX11_isScript_1 (by decide) (fun b1 => ?_) (fun b1 => ?_)
  · refine tw_iconst F dX11_isScript_13 ki_0 (fun z2 hz2 => ?_)
    exact hret f0 _ _ _ _ z2 dX11_isScript_14 (tw_nb (by omega)) ⟨rfl, by omega, by omega, by omega⟩ h
  · refine lv_iload_n F.1 F.2.1 dX11_isScript_4 rfl (lv_at hl 0 rfl) ?_
    refine tw_iconst F dX11_isScript_5 ki_3 (fun z3 hz3 => ?_)
    refine tw_icmp_ge (tgt := 13) F dX11_isScript_6 (by decide) (fun b4 => ?_) (fun b4 => ?_)
    · refine tw_iconst F dX11_isScript_13 ki_0 (fun z5 hz5 => ?_)
      exact hret f0 _ _ _ _ z5 dX11_isScript_14 (tw_nb (by omega)) ⟨rfl, by omega, by omega, by omega⟩ h
    · refine tw_iconst F dX11_isScript_9 ki_1 (fun z6 hz6 => ?_)
      refine lv_goto (tgt := 14) F.1 F.2.1 dX11_isScript_10 (by decide) ?_
      exact hret f0 _ _ _ _ z6 dX11_isScript_14 (tw_nb (by omega)) ⟨rfl, by omega, by omega, by omega⟩ h
def rm_X11_isLineF : Room := { frames := 0, cells := 0, slots := 0, locals := 0 }
set_option maxHeartbeats 4000000 in
set_option maxRecDepth 100000 in
theorem s_X11_isLineF (l : Launch) (D : va_G) (cy : Nat → ClassId) (L : List Nat) (R O : Nat → Nat) (f0 : Nat → va_E) (a0 : Nat) (m_a0 : a0 ∈ L) (r_a0 : R a0 = 11) (x1 : Int64) : ∀ sz, Met l yX11_isLine (Cond.code yX11_isLine cX11_isLine 3 (some .boolean) :: wsL_law) rm_X11_isLineF (va_Pc [.ref a0, .long x1] (tPZ D cy L R (TT cy L R) f0 sz)) (va_Qi (fun (r : Int32) f1 => f0 = f1 ∧ 0 ≤ r.toInt ∧ r.toInt ≤ 1 ∧ ((r.toInt = 1 ∧ 0 ≤ x1.toInt ∧ x1.toInt < fi f0 (rfa f0 a0 3) 5) ∨ (r.toInt = 0 ∧ (x1.toInt < 0 ∨ fi f0 (rfa f0 a0 3) 5 ≤ x1.toInt)))) (tB D (tA L sz) L R (TT cy L R)) (tA L sz)) 0 0 (tA L sz) := by
  refine tw_enteri (by decide +kernel) rfl (Nat.le_of_ble_eq_true rfl) ?_
  intro p e s m below meth c A ls args Q F hZ h hl hret
  have hl : lv_has ls 3 [(0, .ref a0), (1, .long x1)] := hl
  obtain ⟨a0_book, m_a0_book, r_a0_book, t_a0_book⟩ := h.rf m_a0 r_a0 (fun e q => (T_11 e).mp q) (k := 3) rfl
  have t_a0_book_lineCount := h.bfi m_a0_book r_a0_book (fun e q => (T_0 e).mp q) (k := 5) rfl
  have hb3 := rfa_of t_a0_book
  refine lv_lload_n F.1 F.2.1 dX11_isLine_0 rfl (lv_at hl 1 rfl) ?_
  refine tu_lconst F dX11_isLine_1 (by decide) (fun z1 (hz1 : z1.toInt = 0) => ?_)
  refine tw_lcmp F dX11_isLine_2 (fun z2 hz2 => ?_)
  refine tw_if_lt (tgt := 23) F dX11_isLine_3 (by decide) (fun b3 => ?_) (fun b3 => ?_)
  · refine tw_iconst F dX11_isLine_23 ki_0 (fun z4 hz4 => ?_)
    exact hret f0 _ _ _ _ z4 dX11_isLine_24 (tw_nb (by omega)) ⟨rfl, by omega, by omega, by rw [hb3]; omega⟩ h
  · refine lv_lload_n F.1 F.2.1 dX11_isLine_6 rfl (lv_at hl 1 rfl) ?_
    refine lv_aload_n F.1 F.2.1 dX11_isLine_7 rfl (lv_at hl 0 rfl) ?_
    refine g_11_29 F h m_a0 r_a0 dX11_isLine_8 (fun o5 m_o5 r_o5 ho5 => ?_)
    obtain rfl := (fld_inj t_a0_book ho5).symm
    refine g_11_148 F h m_a0_book r_a0_book dX11_isLine_11 (fun v6 hv6 hv6a hv6b => ?_)
    refine tw_i2l F dX11_isLine_14 (fun z7 hz7 => ?_)
    refine tw_lcmp F dX11_isLine_15 (fun z8 hz8 => ?_)
    refine tw_if_ge (tgt := 23) F dX11_isLine_16 (by decide) (fun b9 => ?_) (fun b9 => ?_)
    · refine tw_iconst F dX11_isLine_23 ki_0 (fun z10 hz10 => ?_)
      exact hret f0 _ _ _ _ z10 dX11_isLine_24 (tw_nb (by omega)) ⟨rfl, by omega, by omega, by rw [hb3]; omega⟩ h
    · refine tw_iconst F dX11_isLine_19 ki_1 (fun z11 hz11 => ?_)
      refine lv_goto (tgt := 24) F.1 F.2.1 dX11_isLine_20 (by decide) ?_
      exact hret f0 _ _ _ _ z11 dX11_isLine_24 (tw_nb (by omega)) ⟨rfl, by omega, by omega, by rw [hb3]; omega⟩ h
def rm_X11_trayF : Room := { frames := 1, cells := 0, slots := 0, locals := 23 }
set_option maxHeartbeats 4000000 in
set_option maxRecDepth 100000 in
theorem s_X11_trayF (l : Launch) (D : va_G) (cy : Nat → ClassId) (L : List Nat) (R O : Nat → Nat) (f0 : Nat → va_E) (a0 : Nat) (m_a0 : a0 ∈ L) (r_a0 : R a0 = 11) (x1 : Int32) (x2 : Int32) (x3 : Int32) : ∀ sz, Met l yX11_tray (Cond.code yX11_tray cX11_tray 4 (some .boolean) :: wsL_law) rm_X11_trayF (va_Pc [.ref a0, .int x1, .int x2, .int x3] (tPZ D cy L R (TT cy L R) f0 sz)) (va_Qi (fun (r : Int32) f1 => fr L R [(10, 1), (10, 2), (11, 14)] [10, 11, 54] f0 f1 ∧ 0 ≤ r.toInt ∧ r.toInt ≤ 1 ∧ ((r.toInt = 1 ∧ (0 ≤ x1.toInt ∧ x1.toInt ≤ 3 ∧ 0 ≤ x2.toInt ∧ x2.toInt ≤ 3 ∧ 0 ≤ x3.toInt ∧ x3.toInt ≤ 60)) ∨ (r.toInt = 0 ∧ ¬ (0 ≤ x1.toInt ∧ x1.toInt ≤ 3 ∧ 0 ≤ x2.toInt ∧ x2.toInt ≤ 3 ∧ 0 ≤ x3.toInt ∧ x3.toInt ≤ 60)))) (tB D (tA L sz) L R (TT cy L R)) (tA L sz)) 0 0 (tA L sz) := by
  refine tw_enteri (by decide +kernel) rfl (Nat.le_of_ble_eq_true rfl) ?_
  intro p e s m below meth c A ls args Q F hZ h hl hret
  have hl : lv_has ls 4 [(0, .ref a0), (1, .int x1), (2, .int x2), (3, .int x3)] := hl
  have hk : fr L R [(10, 1), (10, 2), (11, 14)] [10, 11, 54] f0 f0 := fr.rf
  refine lv_iload_n F.1 F.2.1 dX11_tray_0 rfl (lv_at hl 1 rfl) ?_
  refine tw_Si (As := [.int x1]) F hZ h yk_X11_isTray mw_268 mw_269 (s_X11_isTrayF l D cy L R O f0 x1) rfl rfl hl.1 rfl (Nat.le_of_ble_eq_true rfl) ⟨Nat.le_of_ble_eq_true rfl, Nat.le_of_ble_eq_true rfl⟩ ⟨Nat.le_of_ble_eq_true rfl, Nat.le_of_ble_eq_true rfl⟩ dX11_tray_1 (fun v2 f1 H locs hp1 h => ?_)
  obtain ⟨rfl, hv2a, hv2b, hv2p0⟩ := hp1
  refine tw_if_eq (tgt := 26) F dX11_tray_4 (by decide) (fun b3 => ?_) (fun b3 => ?_)
  · refine lv_aload_n F.1 F.2.1 dX11_tray_26 rfl (lv_at hl 0 rfl) ?_
    refine tw_iconst F dX11_tray_27 ki_1 (fun z4 hz4 => ?_)
    refine tw_Vi (As := [.int z4]) F hZ h yk_X11_settle mw_271 mw_272 mw_273 (s_X11_settle l D cy L R O f0 a0 m_a0 r_a0 z4 ⟨by omega, by omega⟩) rfl rfl m_a0 r_a0 (fun e q => (T_11 e).mp q) rfl hl.1 rfl (Nat.le_of_ble_eq_true rfl) ⟨Nat.le_of_ble_eq_true rfl, Nat.le_of_ble_eq_true rfl⟩ ⟨Nat.le_of_ble_eq_true rfl, Nat.le_of_ble_eq_true rfl⟩ dX11_tray_28 (fun v6 f5 H locs hp5 h => ?_)
    obtain ⟨hf5, hv6a, hv6b, hv6p0⟩ := hp5
    have hk : fr L R [(10, 1), (10, 2), (11, 14)] [10, 11, 54] f0 f5 := hk.tr hf5 rfl rfl
    exact hret f5 _ _ _ _ v6 dX11_tray_31 (tw_nb (by omega)) ⟨hk, by omega, by omega, by omega⟩ h
  · refine lv_iload_n F.1 F.2.1 dX11_tray_7 rfl (lv_at hl 2 rfl) ?_
    refine tw_if_lt (tgt := 26) F dX11_tray_8 (by decide) (fun b7 => ?_) (fun b7 => ?_)
    · refine lv_aload_n F.1 F.2.1 dX11_tray_26 rfl (lv_at hl 0 rfl) ?_
      refine tw_iconst F dX11_tray_27 ki_1 (fun z8 hz8 => ?_)
      refine tw_Vi (As := [.int z8]) F hZ h yk_X11_settle mw_271 mw_272 mw_273 (s_X11_settle l D cy L R O f0 a0 m_a0 r_a0 z8 ⟨by omega, by omega⟩) rfl rfl m_a0 r_a0 (fun e q => (T_11 e).mp q) rfl hl.1 rfl (Nat.le_of_ble_eq_true rfl) ⟨Nat.le_of_ble_eq_true rfl, Nat.le_of_ble_eq_true rfl⟩ ⟨Nat.le_of_ble_eq_true rfl, Nat.le_of_ble_eq_true rfl⟩ dX11_tray_28 (fun v10 f9 H locs hp9 h => ?_)
      obtain ⟨hf9, hv10a, hv10b, hv10p0⟩ := hp9
      have hk : fr L R [(10, 1), (10, 2), (11, 14)] [10, 11, 54] f0 f9 := hk.tr hf9 rfl rfl
      exact hret f9 _ _ _ _ v10 dX11_tray_31 (tw_nb (by omega)) ⟨hk, by omega, by omega, by omega⟩ h
    · refine lv_iload_n F.1 F.2.1 dX11_tray_11 rfl (lv_at hl 2 rfl) ?_
      refine tw_iconst F dX11_tray_12 ki_4 (fun z11 hz11 => ?_)
      refine tw_icmp_ge (tgt := 26) F dX11_tray_13 (by decide) (fun b12 => ?_) (fun b12 => ?_)
      · refine lv_aload_n F.1 F.2.1 dX11_tray_26 rfl (lv_at hl 0 rfl) ?_
        refine tw_iconst F dX11_tray_27 ki_1 (fun z13 hz13 => ?_)
        refine tw_Vi (As := [.int z13]) F hZ h yk_X11_settle mw_271 mw_272 mw_273 (s_X11_settle l D cy L R O f0 a0 m_a0 r_a0 z13 ⟨by omega, by omega⟩) rfl rfl m_a0 r_a0 (fun e q => (T_11 e).mp q) rfl hl.1 rfl (Nat.le_of_ble_eq_true rfl) ⟨Nat.le_of_ble_eq_true rfl, Nat.le_of_ble_eq_true rfl⟩ ⟨Nat.le_of_ble_eq_true rfl, Nat.le_of_ble_eq_true rfl⟩ dX11_tray_28 (fun v15 f14 H locs hp14 h => ?_)
        obtain ⟨hf14, hv15a, hv15b, hv15p0⟩ := hp14
        have hk : fr L R [(10, 1), (10, 2), (11, 14)] [10, 11, 54] f0 f14 := hk.tr hf14 rfl rfl
        exact hret f14 _ _ _ _ v15 dX11_tray_31 (tw_nb (by omega)) ⟨hk, by omega, by omega, by omega⟩ h
      · refine lv_iload_n F.1 F.2.1 dX11_tray_16 rfl (lv_at hl 3 rfl) ?_
        refine tw_if_lt (tgt := 26) F dX11_tray_17 (by decide) (fun b16 => ?_) (fun b16 => ?_)
        · refine lv_aload_n F.1 F.2.1 dX11_tray_26 rfl (lv_at hl 0 rfl) ?_
          refine tw_iconst F dX11_tray_27 ki_1 (fun z17 hz17 => ?_)
          refine tw_Vi (As := [.int z17]) F hZ h yk_X11_settle mw_271 mw_272 mw_273 (s_X11_settle l D cy L R O f0 a0 m_a0 r_a0 z17 ⟨by omega, by omega⟩) rfl rfl m_a0 r_a0 (fun e q => (T_11 e).mp q) rfl hl.1 rfl (Nat.le_of_ble_eq_true rfl) ⟨Nat.le_of_ble_eq_true rfl, Nat.le_of_ble_eq_true rfl⟩ ⟨Nat.le_of_ble_eq_true rfl, Nat.le_of_ble_eq_true rfl⟩ dX11_tray_28 (fun v19 f18 H locs hp18 h => ?_)
          obtain ⟨hf18, hv19a, hv19b, hv19p0⟩ := hp18
          have hk : fr L R [(10, 1), (10, 2), (11, 14)] [10, 11, 54] f0 f18 := hk.tr hf18 rfl rfl
          exact hret f18 _ _ _ _ v19 dX11_tray_31 (tw_nb (by omega)) ⟨hk, by omega, by omega, by omega⟩ h
        · refine lv_iload_n F.1 F.2.1 dX11_tray_20 rfl (lv_at hl 3 rfl) ?_
          refine tw_bipush F dX11_tray_21 kb_60 (fun z20 hz20 => ?_)
          refine tw_icmp_le (tgt := 32) F dX11_tray_23 (by decide) (fun b21 => ?_) (fun b21 => ?_)
          · refine lv_aload_n F.1 F.2.1 dX11_tray_32 rfl (lv_at hl 0 rfl) ?_
            refine g_11_11 F h m_a0 r_a0 dX11_tray_33 (fun o22 m_o22 r_o22 ho22 => ?_)
            refine lv_iload_n F.1 F.2.1 dX11_tray_36 rfl (lv_at hl 1 rfl) ?_
            refine ld_55 F h m_o22 r_o22 (by omega) dX11_tray_37 (fun o23 m_o23 r_o23 => ?_)
            refine lv_iload_n F.1 F.2.1 dX11_tray_38 rfl (lv_at hl 2 rfl) ?_
            refine lv_iload_n F.1 F.2.1 dX11_tray_39 rfl (lv_at hl 3 rfl) ?_
            refine tw_Vv (As := [.int x2, .int x3]) F hZ h yk_X10_make mw_275 mw_276 mw_277 (s_X10_make l D cy L R O f0 o23 m_o23 r_o23 x2 ⟨by omega, by omega⟩ x3 ⟨by omega, by omega⟩) rfl rfl m_o23 r_o23 (fun e q => (T_10 e).mp q) rfl hl.1 rfl (Nat.le_of_ble_eq_true rfl) ⟨Nat.le_of_ble_eq_true rfl, Nat.le_of_ble_eq_true rfl⟩ ⟨Nat.le_of_ble_eq_true rfl, Nat.le_of_ble_eq_true rfl⟩ dX11_tray_40 (fun f24 H locs hp24 h => ?_)
            have hf24 := hp24
            have hk : fr L R [(10, 1), (10, 2), (11, 14)] [10, 11, 54] f0 f24 := hk.tr hf24 rfl rfl
            refine lv_aload_n F.1 F.2.1 dX11_tray_43 rfl (lv_at hl 0 rfl) ?_
            refine tw_iconst F dX11_tray_44 ki_0 (fun z26 hz26 => ?_)
            refine tw_Vi (As := [.int z26]) F hZ h yk_X11_settle mw_271 mw_272 mw_273 (s_X11_settle l D cy L R O f24 a0 m_a0 r_a0 z26 ⟨by omega, by omega⟩) rfl rfl m_a0 r_a0 (fun e q => (T_11 e).mp q) rfl hl.1 rfl (Nat.le_of_ble_eq_true rfl) ⟨Nat.le_of_ble_eq_true rfl, Nat.le_of_ble_eq_true rfl⟩ ⟨Nat.le_of_ble_eq_true rfl, Nat.le_of_ble_eq_true rfl⟩ dX11_tray_45 (fun v28 f27 H locs hp27 h => ?_)
            obtain ⟨hf27, hv28a, hv28b, hv28p0⟩ := hp27
            have hk : fr L R [(10, 1), (10, 2), (11, 14)] [10, 11, 54] f0 f27 := hk.tr hf27 rfl rfl
            exact hret f27 _ _ _ _ v28 dX11_tray_48 (tw_nb (by omega)) ⟨hk, by omega, by omega, by omega⟩ h
          · refine lv_aload_n F.1 F.2.1 dX11_tray_26 rfl (lv_at hl 0 rfl) ?_
            refine tw_iconst F dX11_tray_27 ki_1 (fun z29 hz29 => ?_)
            refine tw_Vi (As := [.int z29]) F hZ h yk_X11_settle mw_271 mw_272 mw_273 (s_X11_settle l D cy L R O f0 a0 m_a0 r_a0 z29 ⟨by omega, by omega⟩) rfl rfl m_a0 r_a0 (fun e q => (T_11 e).mp q) rfl hl.1 rfl (Nat.le_of_ble_eq_true rfl) ⟨Nat.le_of_ble_eq_true rfl, Nat.le_of_ble_eq_true rfl⟩ ⟨Nat.le_of_ble_eq_true rfl, Nat.le_of_ble_eq_true rfl⟩ dX11_tray_28 (fun v31 f30 H locs hp30 h => ?_)
            obtain ⟨hf30, hv31a, hv31b, hv31p0⟩ := hp30
            have hk : fr L R [(10, 1), (10, 2), (11, 14)] [10, 11, 54] f0 f30 := hk.tr hf30 rfl rfl
            exact hret f30 _ _ _ _ v31 dX11_tray_31 (tw_nb (by omega)) ⟨hk, by omega, by omega, by omega⟩ h
def rm_X11_faceR : Room := { frames := 1, cells := 0, slots := 0, locals := 22 }
set_option maxHeartbeats 4000000 in
set_option maxRecDepth 100000 in
theorem s_X11_faceR (l : Launch) (D : va_G) (cy : Nat → ClassId) (L : List Nat) (R O : Nat → Nat) (f0 : Nat → va_E) (hG : GG L R O f0) (a0 : Nat) (m_a0 : a0 ∈ L) (r_a0 : R a0 = 11) (x1 : Int32) (x2 : Int32) (x3 : Int32) (x4 : Int32) (P : Nat → Nat) (pre0 : PI L R O f0 a0) (pre1 : (∀ j st, elq f0 (rfa f0 (rfa f0 a0 6) 12) j = some st → j < 6 → P st = j)) (pre2 : ¬ (0 ≤ x1.toInt ∧ x1.toInt ≤ 2 ∧ 0 ≤ x2.toInt ∧ x2.toInt ≤ 2 ∧ 0 ≤ x3.toInt ∧ x3.toInt < fi f0 (rfa f0 a0 3) 5 ∧ 1 ≤ x4.toInt ∧ x4.toInt ≤ 200)) : ∀ sz, Met l yX11_face (Cond.code yX11_face cX11_face 5 (some .int) :: wsL_law) rm_X11_faceR (va_Pc [.ref a0, .int x1, .int x2, .int x3, .int x4] (tPZ D cy L R (TT cy L R) f0 sz)) (va_Qi (fun (r : Int32) f1 => fr L R [(1, 0), (1, 1), (1, 2), (1, 3), (1, 5), (2, 2), (2, 3), (4, 1), (5, 4), (5, 5), (5, 6), (5, 7), (7, 5), (7, 6), (8, 1), (8, 2), (11, 14)] [1, 2, 4, 5, 7, 8, 11, 23, 24, 25, 26, 27, 28, 29, 34, 51] f0 f1 ∧ KO L R O (rfa f0 (rfa f0 a0 6) 12) f0 f1) (tB D (tA L sz) L R (TT cy L R)) (tA L sz)) 0 0 (tA L sz) := by
  refine tw_enteri (by decide +kernel) rfl (Nat.le_of_ble_eq_true rfl) ?_
  intro p e s m below meth c A ls args Q F hZ h hl hret
  have hl : lv_has ls 5 [(0, .ref a0), (1, .int x1), (2, .int x2), (3, .int x3), (4, .int x4)] := hl
  have hk : fr L R [(1, 0), (1, 1), (1, 2), (1, 3), (1, 5), (2, 2), (2, 3), (4, 1), (5, 4), (5, 5), (5, 6), (5, 7), (7, 5), (7, 6), (8, 1), (8, 2), (11, 14)] [1, 2, 4, 5, 7, 8, 11, 23, 24, 25, 26, 27, 28, 29, 34, 51] f0 f0 := fr.rf
  obtain ⟨a0_search, m_a0_search, r_a0_search, t_a0_search⟩ := h.rf m_a0 r_a0 (fun e q => (T_11 e).mp q) (k := 6) rfl
  obtain ⟨a0_book, m_a0_book, r_a0_book, t_a0_book⟩ := h.rf m_a0 r_a0 (fun e q => (T_11 e).mp q) (k := 3) rfl
  obtain ⟨a0_book_scripts, m_a0_book_scripts, r_a0_book_scripts, t_a0_book_scripts⟩ := h.rf m_a0_book r_a0_book (fun e q => (T_0 e).mp q) (k := 0) rfl
  have hs6 := rfa_of t_a0_search
  have hs3 := rfa_of t_a0_book
  unfold PI at pre0
  rw [hs6, hs3] at pre0
  obtain ⟨hSO, ⟨pb1, pb2, pb3⟩, hBD⟩ := pre0
  have hO : KO L R O (rfa f0 a0_search 12) f0 f0 := KO.rf
  refine lv_iload_n F.1 F.2.1 dX11_face_0 rfl (lv_at hl 1 rfl) ?_
  refine tw_Si (As := [.int x1]) F hZ h yk_X11_isScript mw_511 mw_512 (s_X11_isScriptF l D cy L R O f0 x1) rfl rfl hl.1 rfl (Nat.le_of_ble_eq_true rfl) ⟨Nat.le_of_ble_eq_true rfl, Nat.le_of_ble_eq_true rfl⟩ ⟨Nat.le_of_ble_eq_true rfl, Nat.le_of_ble_eq_true rfl⟩ dX11_face_1 (fun v2 f1 H locs hp1 h => ?_)
  obtain ⟨rfl, hv2a, hv2b, hv2p0⟩ := hp1
  refine tw_if_eq (tgt := 37) F dX11_face_4 (by decide) (fun b3 => ?_) (fun b3 => ?_)
  · refine lv_aload_n F.1 F.2.1 dX11_face_37 rfl (lv_at hl 0 rfl) ?_
    refine tw_iconst F dX11_face_38 ki_1 (fun z4 hz4 => ?_)
    refine tw_Vi (As := [.int z4]) F hZ h yk_X11_refuse mw_378 mw_379 mw_380 (s_X11_refuse l D cy L R O f0 a0 m_a0 r_a0 z4 ⟨by omega, by omega⟩) rfl rfl m_a0 r_a0 (fun e q => (T_11 e).mp q) rfl hl.1 rfl (Nat.le_of_ble_eq_true rfl) ⟨Nat.le_of_ble_eq_true rfl, Nat.le_of_ble_eq_true rfl⟩ ⟨Nat.le_of_ble_eq_true rfl, Nat.le_of_ble_eq_true rfl⟩ dX11_face_39 (fun v6 f5 H locs hp5 h => ?_)
    obtain ⟨hf5, hv6a, hv6b⟩ := hp5
    have hO : KO L R O (rfa f0 a0_search 12) f0 f5 := KO_fr hO hf5 (by decide +kernel)
    have hk : fr L R [(1, 0), (1, 1), (1, 2), (1, 3), (1, 5), (2, 2), (2, 3), (4, 1), (5, 4), (5, 5), (5, 6), (5, 7), (7, 5), (7, 6), (8, 1), (8, 2), (11, 14)] [1, 2, 4, 5, 7, 8, 11, 23, 24, 25, 26, 27, 28, 29, 34, 51] f0 f5 := hk.tr hf5 rfl rfl
    have e7 : fld f5 a0 6 = .ref a0_search := (hf5.efl m_a0 r_a0 rfl).trans t_a0_search
    have e8 : fld f5 a0 3 = .ref a0_book := (hf5.efl m_a0 r_a0 rfl).trans t_a0_book
    have e9 : fld f5 a0_book 0 = .ref a0_book_scripts := (hf5.efl m_a0_book r_a0_book rfl).trans t_a0_book_scripts
    exact hret f5 _ _ _ _ v6 dX11_face_42 rfl ⟨hk, by rw [hs6]; exact hO⟩ h
  · refine lv_iload_n F.1 F.2.1 dX11_face_7 rfl (lv_at hl 2 rfl) ?_
    refine tw_Si (As := [.int x2]) F hZ h yk_X11_isScript mw_511 mw_512 (s_X11_isScriptF l D cy L R O f0 x2) rfl rfl hl.1 rfl (Nat.le_of_ble_eq_true rfl) ⟨Nat.le_of_ble_eq_true rfl, Nat.le_of_ble_eq_true rfl⟩ ⟨Nat.le_of_ble_eq_true rfl, Nat.le_of_ble_eq_true rfl⟩ dX11_face_8 (fun v11 f10 H locs hp10 h => ?_)
    obtain ⟨rfl, hv11a, hv11b, hv11p0⟩ := hp10
    refine tw_if_eq (tgt := 37) F dX11_face_11 (by decide) (fun b12 => ?_) (fun b12 => ?_)
    · refine lv_aload_n F.1 F.2.1 dX11_face_37 rfl (lv_at hl 0 rfl) ?_
      refine tw_iconst F dX11_face_38 ki_1 (fun z13 hz13 => ?_)
      refine tw_Vi (As := [.int z13]) F hZ h yk_X11_refuse mw_378 mw_379 mw_380 (s_X11_refuse l D cy L R O f0 a0 m_a0 r_a0 z13 ⟨by omega, by omega⟩) rfl rfl m_a0 r_a0 (fun e q => (T_11 e).mp q) rfl hl.1 rfl (Nat.le_of_ble_eq_true rfl) ⟨Nat.le_of_ble_eq_true rfl, Nat.le_of_ble_eq_true rfl⟩ ⟨Nat.le_of_ble_eq_true rfl, Nat.le_of_ble_eq_true rfl⟩ dX11_face_39 (fun v15 f14 H locs hp14 h => ?_)
      obtain ⟨hf14, hv15a, hv15b⟩ := hp14
      have hO : KO L R O (rfa f0 a0_search 12) f0 f14 := KO_fr hO hf14 (by decide +kernel)
      have hk : fr L R [(1, 0), (1, 1), (1, 2), (1, 3), (1, 5), (2, 2), (2, 3), (4, 1), (5, 4), (5, 5), (5, 6), (5, 7), (7, 5), (7, 6), (8, 1), (8, 2), (11, 14)] [1, 2, 4, 5, 7, 8, 11, 23, 24, 25, 26, 27, 28, 29, 34, 51] f0 f14 := hk.tr hf14 rfl rfl
      have e16 : fld f14 a0 6 = .ref a0_search := (hf14.efl m_a0 r_a0 rfl).trans t_a0_search
      have e17 : fld f14 a0 3 = .ref a0_book := (hf14.efl m_a0 r_a0 rfl).trans t_a0_book
      have e18 : fld f14 a0_book 0 = .ref a0_book_scripts := (hf14.efl m_a0_book r_a0_book rfl).trans t_a0_book_scripts
      exact hret f14 _ _ _ _ v15 dX11_face_42 rfl ⟨hk, by rw [hs6]; exact hO⟩ h
    · refine lv_aload_n F.1 F.2.1 dX11_face_14 rfl (lv_at hl 0 rfl) ?_
      refine lv_iload_n F.1 F.2.1 dX11_face_15 rfl (lv_at hl 3 rfl) ?_
      refine tu_i2l F dX11_face_16 (fun z19 hz19 hz19a hz19b => ?_)
      refine tw_Vi (As := [.long z19]) F hZ h yk_X11_isLine mw_779 mw_780 mw_781 (s_X11_isLineF l D cy L R O f0 a0 m_a0 r_a0 z19) rfl rfl m_a0 r_a0 (fun e q => (T_11 e).mp q) rfl hl.1 rfl (Nat.le_of_ble_eq_true rfl) ⟨Nat.le_of_ble_eq_true rfl, Nat.le_of_ble_eq_true rfl⟩ ⟨Nat.le_of_ble_eq_true rfl, Nat.le_of_ble_eq_true rfl⟩ dX11_face_17 (fun v21 f20 H locs hp20 h => ?_)
      obtain ⟨rfl, hv21a, hv21b, hv21p0⟩ := hp20
      refine tw_if_eq (tgt := 37) F dX11_face_20 (by decide) (fun b22 => ?_) (fun b22 => ?_)
      · refine lv_aload_n F.1 F.2.1 dX11_face_37 rfl (lv_at hl 0 rfl) ?_
        refine tw_iconst F dX11_face_38 ki_1 (fun z23 hz23 => ?_)
        refine tw_Vi (As := [.int z23]) F hZ h yk_X11_refuse mw_378 mw_379 mw_380 (s_X11_refuse l D cy L R O f0 a0 m_a0 r_a0 z23 ⟨by omega, by omega⟩) rfl rfl m_a0 r_a0 (fun e q => (T_11 e).mp q) rfl hl.1 rfl (Nat.le_of_ble_eq_true rfl) ⟨Nat.le_of_ble_eq_true rfl, Nat.le_of_ble_eq_true rfl⟩ ⟨Nat.le_of_ble_eq_true rfl, Nat.le_of_ble_eq_true rfl⟩ dX11_face_39 (fun v25 f24 H locs hp24 h => ?_)
        obtain ⟨hf24, hv25a, hv25b⟩ := hp24
        have hO : KO L R O (rfa f0 a0_search 12) f0 f24 := KO_fr hO hf24 (by decide +kernel)
        have hk : fr L R [(1, 0), (1, 1), (1, 2), (1, 3), (1, 5), (2, 2), (2, 3), (4, 1), (5, 4), (5, 5), (5, 6), (5, 7), (7, 5), (7, 6), (8, 1), (8, 2), (11, 14)] [1, 2, 4, 5, 7, 8, 11, 23, 24, 25, 26, 27, 28, 29, 34, 51] f0 f24 := hk.tr hf24 rfl rfl
        have e26 : fld f24 a0 6 = .ref a0_search := (hf24.efl m_a0 r_a0 rfl).trans t_a0_search
        have e27 : fld f24 a0 3 = .ref a0_book := (hf24.efl m_a0 r_a0 rfl).trans t_a0_book
        have e28 : fld f24 a0_book 0 = .ref a0_book_scripts := (hf24.efl m_a0_book r_a0_book rfl).trans t_a0_book_scripts
        exact hret f24 _ _ _ _ v25 dX11_face_42 rfl ⟨hk, by rw [hs6]; exact hO⟩ h
      · refine lv_iload F.1 F.2.1 dX11_face_23 (lv_at hl 4 rfl) ?_
        refine tw_iconst F dX11_face_25 ki_1 (fun z29 hz29 => ?_)
        refine tw_icmp_lt (tgt := 37) F dX11_face_26 (by decide) (fun b30 => ?_) (fun b30 => ?_)
        · refine lv_aload_n F.1 F.2.1 dX11_face_37 rfl (lv_at hl 0 rfl) ?_
          refine tw_iconst F dX11_face_38 ki_1 (fun z31 hz31 => ?_)
          refine tw_Vi (As := [.int z31]) F hZ h yk_X11_refuse mw_378 mw_379 mw_380 (s_X11_refuse l D cy L R O f0 a0 m_a0 r_a0 z31 ⟨by omega, by omega⟩) rfl rfl m_a0 r_a0 (fun e q => (T_11 e).mp q) rfl hl.1 rfl (Nat.le_of_ble_eq_true rfl) ⟨Nat.le_of_ble_eq_true rfl, Nat.le_of_ble_eq_true rfl⟩ ⟨Nat.le_of_ble_eq_true rfl, Nat.le_of_ble_eq_true rfl⟩ dX11_face_39 (fun v33 f32 H locs hp32 h => ?_)
          obtain ⟨hf32, hv33a, hv33b⟩ := hp32
          have hO : KO L R O (rfa f0 a0_search 12) f0 f32 := KO_fr hO hf32 (by decide +kernel)
          have hk : fr L R [(1, 0), (1, 1), (1, 2), (1, 3), (1, 5), (2, 2), (2, 3), (4, 1), (5, 4), (5, 5), (5, 6), (5, 7), (7, 5), (7, 6), (8, 1), (8, 2), (11, 14)] [1, 2, 4, 5, 7, 8, 11, 23, 24, 25, 26, 27, 28, 29, 34, 51] f0 f32 := hk.tr hf32 rfl rfl
          have e34 : fld f32 a0 6 = .ref a0_search := (hf32.efl m_a0 r_a0 rfl).trans t_a0_search
          have e35 : fld f32 a0 3 = .ref a0_book := (hf32.efl m_a0 r_a0 rfl).trans t_a0_book
          have e36 : fld f32 a0_book 0 = .ref a0_book_scripts := (hf32.efl m_a0_book r_a0_book rfl).trans t_a0_book_scripts
          exact hret f32 _ _ _ _ v33 dX11_face_42 rfl ⟨hk, by rw [hs6]; exact hO⟩ h
        · refine lv_iload F.1 F.2.1 dX11_face_29 (lv_at hl 4 rfl) ?_
          refine tw_sipush F dX11_face_31 ks_200 (fun z37 hz37 => ?_)
          refine tw_icmp_le (tgt := 43) F dX11_face_34 (by decide) (fun b38 => ?_) (fun b38 => ?_)
          · exfalso
            omega
          · refine lv_aload_n F.1 F.2.1 dX11_face_37 rfl (lv_at hl 0 rfl) ?_
            refine tw_iconst F dX11_face_38 ki_1 (fun z39 hz39 => ?_)
            refine tw_Vi (As := [.int z39]) F hZ h yk_X11_refuse mw_378 mw_379 mw_380 (s_X11_refuse l D cy L R O f0 a0 m_a0 r_a0 z39 ⟨by omega, by omega⟩) rfl rfl m_a0 r_a0 (fun e q => (T_11 e).mp q) rfl hl.1 rfl (Nat.le_of_ble_eq_true rfl) ⟨Nat.le_of_ble_eq_true rfl, Nat.le_of_ble_eq_true rfl⟩ ⟨Nat.le_of_ble_eq_true rfl, Nat.le_of_ble_eq_true rfl⟩ dX11_face_39 (fun v41 f40 H locs hp40 h => ?_)
            obtain ⟨hf40, hv41a, hv41b⟩ := hp40
            have hO : KO L R O (rfa f0 a0_search 12) f0 f40 := KO_fr hO hf40 (by decide +kernel)
            have hk : fr L R [(1, 0), (1, 1), (1, 2), (1, 3), (1, 5), (2, 2), (2, 3), (4, 1), (5, 4), (5, 5), (5, 6), (5, 7), (7, 5), (7, 6), (8, 1), (8, 2), (11, 14)] [1, 2, 4, 5, 7, 8, 11, 23, 24, 25, 26, 27, 28, 29, 34, 51] f0 f40 := hk.tr hf40 rfl rfl
            have e42 : fld f40 a0 6 = .ref a0_search := (hf40.efl m_a0 r_a0 rfl).trans t_a0_search
            have e43 : fld f40 a0 3 = .ref a0_book := (hf40.efl m_a0 r_a0 rfl).trans t_a0_book
            have e44 : fld f40 a0_book 0 = .ref a0_book_scripts := (hf40.efl m_a0_book r_a0_book rfl).trans t_a0_book_scripts
            exact hret f40 _ _ _ _ v41 dX11_face_42 rfl ⟨hk, by rw [hs6]; exact hO⟩ h
def rm_X11_faceV : Room := { frames := 6, cells := 3, slots := 34979, locals := 157 }
set_option maxHeartbeats 4000000 in
set_option maxRecDepth 100000 in
theorem s_X11_faceV (l : Launch) (D : va_G) (cy : Nat → ClassId) (L : List Nat) (R O : Nat → Nat) (f0 : Nat → va_E) (hG : GG L R O f0) (a0 : Nat) (m_a0 : a0 ∈ L) (r_a0 : R a0 = 11) (x1 : Int32) (x2 : Int32) (x3 : Int32) (x4 : Int32) (P : Nat → Nat) (pre0 : PI L R O f0 a0) (pre1 : (∀ j st, elq f0 (rfa f0 (rfa f0 a0 6) 12) j = some st → j < 6 → P st = j)) (pre2 : fld f0 (rfa f0 a0 6) 16 = .null) (pre3 : (0 ≤ x1.toInt ∧ x1.toInt ≤ 2 ∧ 0 ≤ x2.toInt ∧ x2.toInt ≤ 2 ∧ 0 ≤ x3.toInt ∧ x3.toInt < fi f0 (rfa f0 a0 3) 5 ∧ 1 ≤ x4.toInt ∧ x4.toInt ≤ 200)) : ∀ sz, Met l yX11_face (Cond.code yX11_face cX11_face 5 (some .int) :: wsL_law) rm_X11_faceV (va_Pc [.ref a0, .int x1, .int x2, .int x3, .int x4] (tPZ D cy L R (TT cy L R) f0 sz)) (va_Qi (fun (r : Int32) (x : tX) => GW L x.L R x.R ∧ fr L R [(1, 0), (1, 1), (1, 2), (1, 3), (1, 5), (2, 2), (2, 3), (4, 1), (5, 4), (5, 5), (5, 6), (5, 7), (7, 5), (7, 6), (7, 16), (8, 1), (8, 2), (11, 14)] [1, 2, 4, 5, 7, 8, 11, 23, 24, 25, 26, 27, 28, 29, 34, 51] f0 x.f ∧ KO L R O (rfa f0 (rfa f0 a0 6) 12) f0 x.f ∧ ∃ pst, pst ∈ x.L ∧ x.R pst = 2 ∧ fld x.f (rfa f0 a0 6) 16 = .ref pst) (tBX D cy (tA L sz)) (tA L sz)) 3 34979 (tA L sz) := by
  refine tw_enteriG (by decide +kernel) rfl (Nat.le_of_ble_eq_true rfl) ?_
  intro p e s m below meth c A ls args Q F hZ h hl hret
  have hl : lv_has ls 5 [(0, .ref a0), (1, .int x1), (2, .int x2), (3, .int x3), (4, .int x4)] := hl
  have hk : fr L R [(1, 0), (1, 1), (1, 2), (1, 3), (1, 5), (2, 2), (2, 3), (4, 1), (5, 4), (5, 5), (5, 6), (5, 7), (7, 5), (7, 6), (8, 1), (8, 2), (11, 14)] [1, 2, 4, 5, 7, 8, 11, 23, 24, 25, 26, 27, 28, 29, 34, 51] f0 f0 := fr.rf
  obtain ⟨a0_search, m_a0_search, r_a0_search, t_a0_search⟩ := h.rf m_a0 r_a0 (fun e q => (T_11 e).mp q) (k := 6) rfl
  obtain ⟨a0_book, m_a0_book, r_a0_book, t_a0_book⟩ := h.rf m_a0 r_a0 (fun e q => (T_11 e).mp q) (k := 3) rfl
  obtain ⟨a0_book_scripts, m_a0_book_scripts, r_a0_book_scripts, t_a0_book_scripts⟩ := h.rf m_a0_book r_a0_book (fun e q => (T_0 e).mp q) (k := 0) rfl
  have t_a0_book_lineCount := h.bfi m_a0_book r_a0_book (fun e q => (T_0 e).mp q) (k := 5) rfl
  have hs6 := rfa_of t_a0_search
  have hs3 := rfa_of t_a0_book
  unfold PI at pre0
  rw [hs6, hs3] at pre0
  obtain ⟨hSO, ⟨pb1, pb2, pb3⟩, hBD⟩ := pre0
  have hO : KO L R O (rfa f0 a0_search 12) f0 f0 := KO.rf
  have hb35 : fi f0 (rfa f0 a0 3) 5 ≤ 16 := by rw [rfa_of t_a0_book]; exact t_a0_book_lineCount.2
  refine lv_iload_n F.1 F.2.1 dX11_face_0 rfl (lv_at hl 1 rfl) ?_
  refine tw_Si (As := [.int x1]) F hZ h yk_X11_isScript mw_511 mw_512 (s_X11_isScriptF l D cy L R O f0 x1) rfl rfl hl.1 rfl (Nat.le_of_ble_eq_true rfl) ⟨Nat.le_of_ble_eq_true rfl, Nat.le_of_ble_eq_true rfl⟩ ⟨Nat.le_of_ble_eq_true rfl, Nat.le_of_ble_eq_true rfl⟩ dX11_face_1 (fun v2 f1 H locs hp1 h => ?_)
  obtain ⟨rfl, hv2a, hv2b, hv2p0⟩ := hp1
  refine tw_if_eq (tgt := 37) F dX11_face_4 (by decide) (fun b3 => ?_) (fun b3 => ?_)
  · exfalso
    omega
  · refine lv_iload_n F.1 F.2.1 dX11_face_7 rfl (lv_at hl 2 rfl) ?_
    refine tw_Si (As := [.int x2]) F hZ h yk_X11_isScript mw_511 mw_512 (s_X11_isScriptF l D cy L R O f0 x2) rfl rfl hl.1 rfl (Nat.le_of_ble_eq_true rfl) ⟨Nat.le_of_ble_eq_true rfl, Nat.le_of_ble_eq_true rfl⟩ ⟨Nat.le_of_ble_eq_true rfl, Nat.le_of_ble_eq_true rfl⟩ dX11_face_8 (fun v5 f4 H locs hp4 h => ?_)
    obtain ⟨rfl, hv5a, hv5b, hv5p0⟩ := hp4
    refine tw_if_eq (tgt := 37) F dX11_face_11 (by decide) (fun b6 => ?_) (fun b6 => ?_)
    · exfalso
      omega
    · refine lv_aload_n F.1 F.2.1 dX11_face_14 rfl (lv_at hl 0 rfl) ?_
      refine lv_iload_n F.1 F.2.1 dX11_face_15 rfl (lv_at hl 3 rfl) ?_
      refine tu_i2l F dX11_face_16 (fun z7 hz7 hz7a hz7b => ?_)
      refine tw_Vi (As := [.long z7]) F hZ h yk_X11_isLine mw_779 mw_780 mw_781 (s_X11_isLineF l D cy L R O f0 a0 m_a0 r_a0 z7) rfl rfl m_a0 r_a0 (fun e q => (T_11 e).mp q) rfl hl.1 rfl (Nat.le_of_ble_eq_true rfl) ⟨Nat.le_of_ble_eq_true rfl, Nat.le_of_ble_eq_true rfl⟩ ⟨Nat.le_of_ble_eq_true rfl, Nat.le_of_ble_eq_true rfl⟩ dX11_face_17 (fun v9 f8 H locs hp8 h => ?_)
      obtain ⟨rfl, hv9a, hv9b, hv9p0⟩ := hp8
      refine tw_if_eq (tgt := 37) F dX11_face_20 (by decide) (fun b10 => ?_) (fun b10 => ?_)
      · exfalso
        omega
      · refine lv_iload F.1 F.2.1 dX11_face_23 (lv_at hl 4 rfl) ?_
        refine tw_iconst F dX11_face_25 ki_1 (fun z11 hz11 => ?_)
        refine tw_icmp_lt (tgt := 37) F dX11_face_26 (by decide) (fun b12 => ?_) (fun b12 => ?_)
        · exfalso
          omega
        · refine lv_iload F.1 F.2.1 dX11_face_29 (lv_at hl 4 rfl) ?_
          refine tw_sipush F dX11_face_31 ks_200 (fun z13 hz13 => ?_)
          refine tw_icmp_le (tgt := 43) F dX11_face_34 (by decide) (fun b14 => ?_) (fun b14 => ?_)
          · refine lv_aload_n F.1 F.2.1 dX11_face_43 rfl (lv_at hl 0 rfl) ?_
            refine lv_aload_n F.1 F.2.1 dX11_face_44 rfl (lv_at hl 0 rfl) ?_
            refine g_11_47 F h m_a0 r_a0 dX11_face_45 (fun o15 m_o15 r_o15 ho15 => ?_)
            obtain rfl := (fld_inj t_a0_search ho15).symm
            refine lv_aload_n F.1 F.2.1 dX11_face_48 rfl (lv_at hl 0 rfl) ?_
            refine g_11_29 F h m_a0 r_a0 dX11_face_49 (fun o16 m_o16 r_o16 ho16 => ?_)
            obtain rfl := (fld_inj t_a0_book ho16).symm
            refine g_11_167 F h m_a0_book r_a0_book dX11_face_52 (fun o17 m_o17 r_o17 ho17 => ?_)
            obtain rfl := (fld_inj t_a0_book_scripts ho17).symm
            refine lv_iload_n F.1 F.2.1 dX11_face_55 rfl (lv_at hl 1 rfl) ?_
            refine le_20 F h m_a0_book_scripts r_a0_book_scripts (by omega) dX11_face_56 (fun o18 m_o18 r_o18 eo18 => ?_)
            refine lv_aload_n F.1 F.2.1 dX11_face_57 rfl (lv_at hl 0 rfl) ?_
            refine g_11_29 F h m_a0 r_a0 dX11_face_58 (fun o19 m_o19 r_o19 ho19 => ?_)
            obtain rfl := (fld_inj t_a0_book ho19).symm
            refine g_11_167 F h m_a0_book r_a0_book dX11_face_61 (fun o20 m_o20 r_o20 ho20 => ?_)
            obtain rfl := (fld_inj t_a0_book_scripts ho20).symm
            refine lv_iload_n F.1 F.2.1 dX11_face_64 rfl (lv_at hl 2 rfl) ?_
            refine le_20 F h m_a0_book_scripts r_a0_book_scripts (by omega) dX11_face_65 (fun o21 m_o21 r_o21 eo21 => ?_)
            refine lv_aload_n F.1 F.2.1 dX11_face_66 rfl (lv_at hl 0 rfl) ?_
            refine g_11_29 F h m_a0 r_a0 dX11_face_67 (fun o22 m_o22 r_o22 ho22 => ?_)
            obtain rfl := (fld_inj t_a0_book ho22).symm
            refine g_11_205 F h m_a0_book r_a0_book dX11_face_70 (fun o23 m_o23 r_o23 ho23 => ?_)
            refine lv_iload_n F.1 F.2.1 dX11_face_73 rfl (lv_at hl 3 rfl) ?_
            refine ld_22 F h m_o23 r_o23 (by omega) dX11_face_74 (fun o24 m_o24 r_o24 => ?_)
            refine lv_iload F.1 F.2.1 dX11_face_75 (lv_at hl 4 rfl) ?_
            refine tw_ViG (As := [.ref o18, .ref o21, .ref o24, .int x4]) F hZ h yk_X7_meet mw_1248 mw_1249 mw_1250 (s_X7_meet0 l D cy L R O f0 hG a0_search m_a0_search r_a0_search o18 m_o18 r_o18 o21 m_o21 r_o21 o24 m_o24 r_o24 x4 ⟨by omega, by omega⟩ P hSO (by rw [← hs6]; exact pre1) (pb3 _ _ (elq_a t_a0_book_scripts eo18) (by omega)).2.2 (pb3 _ _ (elq_a t_a0_book_scripts eo21) (by omega)).2.2 (by rw [← hs6]; exact pre2)) m_a0_search r_a0_search (fun e q => (T_7 e).mp q) rfl hl.1 rfl (Nat.le_of_ble_eq_true rfl) ⟨Nat.le_of_ble_eq_true rfl, Nat.le_of_ble_eq_true rfl⟩ ⟨Nat.le_of_ble_eq_true rfl, Nat.le_of_ble_eq_true rfl⟩ dX11_face_77 (fun r x H locs hp h => ?_)
            obtain ⟨gw, hf, hO, pst, mp, rp, hpp⟩ := hp
            have ma := (gw.1 _ m_a0).1
            have ra := (gw.1 _ m_a0).2.trans r_a0
            refine tw_Vi (As := [.int r]) F hZ h yk_X11_grant mw_442 mw_443 mw_444 (s_X11_grant l D cy x.L x.R O x.f a0 ma ra r) rfl rfl ma ra (fun e q => (T_11 e).mp q) rfl hl.1 rfl (Nat.le_of_ble_eq_true rfl) ⟨Nat.le_of_ble_eq_true rfl, Nat.le_of_ble_eq_true rfl⟩ ⟨Nat.le_of_ble_eq_true rfl, Nat.le_of_ble_eq_true rfl⟩ dX11_face_80 (fun v f3 H locs hp h => ?_)
            have hp2 := hp
            have hp := gw.fr hp
            exact hret _ _ (Nat.le_refl _) (Nat.le_refl _) (f3, x.L, x.R) _ _ _ _ v dX11_face_83 rfl ⟨gw, (((fr.rf (Mo := [(1, 0), (1, 1), (1, 2), (1, 3), (1, 5), (2, 2), (2, 3), (4, 1), (5, 4), (5, 5), (5, 6), (5, 7), (7, 5), (7, 6), (7, 16), (8, 1), (8, 2), (11, 14)]) (Mr := [1, 2, 4, 5, 7, 8, 11, 23, 24, 25, 26, 27, 28, 29, 34, 51])).tr hk (by decide +kernel) (by decide +kernel)).tr hf (by decide +kernel) (by decide +kernel)).tr hp (by decide +kernel) (by decide +kernel), by rw [hs6]; exact KO_fr hO hp (by decide +kernel), pst, mp, rp, by rw [hs6]; exact (hp2.efl ((gw.1 _ m_a0_search).1) ((gw.1 _ m_a0_search).2.trans r_a0_search) (by decide +kernel)).trans hpp⟩ h
          · exfalso
            omega
