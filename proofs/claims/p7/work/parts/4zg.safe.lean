def rm_X10_isMissingY : Room := { frames := 0, cells := 0, slots := 0, locals := 0 }
set_option maxHeartbeats 4000000 in
set_option maxRecDepth 100000 in
theorem s_X10_isMissingY (l : Launch) (D : va_G) (cy : Nat → ClassId) (L : List Nat) (R O : Nat → Nat) (f0 : Nat → va_E) (a0 : Nat) (m_a0 : a0 ∈ L) (r_a0 : R a0 = 10) : ∀ sz, Met l yX10_isMissing (Cond.code yX10_isMissing cX10_isMissing 1 (some .boolean) :: wsL_law) rm_X10_isMissingY (va_Pc [.ref a0] (tPZ D cy L R (TT cy L R) f0 sz)) (va_Qi (fun (r : Int32) f1 => f0 = f1 ∧ 0 ≤ r.toInt ∧ r.toInt ≤ 1 ∧ ((r.toInt = 1 ∧ fi f0 a0 1 = -1) ∨ (r.toInt = 0 ∧ ¬ fi f0 a0 1 = -1))) (tB D (tA L sz) L R (TT cy L R)) (tA L sz)) 0 0 (tA L sz) := by
  refine tw_enteri (by decide +kernel) rfl (Nat.le_of_ble_eq_true rfl) ?_
  intro p e s m below meth c A ls args Q F hZ h hl hret
  have hl : lv_has ls 1 [(0, .ref a0)] := hl
  refine lv_aload_n F.1 F.2.1 dX10_isMissing_0 rfl (lv_at hl 0 rfl) ?_
  refine g_10_15 F h m_a0 r_a0 dX10_isMissing_1 (fun v1 hv1 hv1a hv1b => ?_)
  refine tw_iconst F dX10_isMissing_4 ki_m1 (fun z2 hz2 => ?_)
  refine tw_icmp_ne (tgt := 12) F dX10_isMissing_5 (by decide) (fun b3 => ?_) (fun b3 => ?_)
  · refine tw_iconst F dX10_isMissing_12 ki_0 (fun z4 hz4 => ?_)
    exact hret f0 _ _ _ _ z4 dX10_isMissing_13 (tw_nb (by omega)) ⟨rfl, by omega, by omega, by omega⟩ h
  · refine tw_iconst F dX10_isMissing_8 ki_1 (fun z5 hz5 => ?_)
    refine lv_goto (tgt := 13) F.1 F.2.1 dX10_isMissing_9 (by decide) ?_
    exact hret f0 _ _ _ _ z5 dX10_isMissing_13 (tw_nb (by omega)) ⟨rfl, by omega, by omega, by omega⟩ h
def rm_X10_holdsY : Room := { frames := 0, cells := 0, slots := 0, locals := 0 }
set_option maxHeartbeats 4000000 in
set_option maxRecDepth 100000 in
theorem s_X10_holdsY (l : Launch) (D : va_G) (cy : Nat → ClassId) (L : List Nat) (R O : Nat → Nat) (f0 : Nat → va_E) (a0 : Nat) (m_a0 : a0 ∈ L) (r_a0 : R a0 = 10) (x1 : Int32) (x2 : Int32) (b2 : 0 ≤ x2.toInt) : ∀ sz, Met l yX10_holds (Cond.code yX10_holds cX10_holds 3 (some .boolean) :: wsL_law) rm_X10_holdsY (va_Pc [.ref a0, .int x1, .int x2] (tPZ D cy L R (TT cy L R) f0 sz)) (va_Qi (fun (r : Int32) f1 => f0 = f1 ∧ 0 ≤ r.toInt ∧ r.toInt ≤ 1 ∧ (r.toInt = 0 ∨ (r.toInt = 1 ∧ 0 ≤ x1.toInt ∧ 0 ≤ x2.toInt ∧ x1.toInt + x2.toInt ≤ 60 ∧ x1.toInt + x2.toInt ≤ fi f0 a0 1)) ∧ (r.toInt = 1 ∨ x1.toInt < 0 ∨ x2.toInt < 0 ∨ fi f0 a0 1 < x1.toInt + x2.toInt) ∧ ((r.toInt = 1 ∧ (0 ≤ x1.toInt ∧ 0 ≤ x2.toInt ∧ x1.toInt + x2.toInt ≤ fi f0 a0 1)) ∨ (r.toInt = 0 ∧ ¬ (0 ≤ x1.toInt ∧ 0 ≤ x2.toInt ∧ x1.toInt + x2.toInt ≤ fi f0 a0 1)))) (tB D (tA L sz) L R (TT cy L R)) (tA L sz)) 0 0 (tA L sz) := by
  refine tw_enteri (by decide +kernel) rfl (Nat.le_of_ble_eq_true rfl) ?_
  intro p e s m below meth c A ls args Q F hZ h hl hret
  have hl : lv_has ls 3 [(0, .ref a0), (1, .int x1), (2, .int x2)] := hl
  have t_a0_size := h.bfi m_a0 r_a0 (fun e q => (T_10 e).mp q) (k := 1) rfl
  refine lv_iload_n F.1 F.2.1 dX10_holds_0 rfl (lv_at hl 1 rfl) ?_
  refine tw_if_lt (tgt := 26) F dX10_holds_1 (by decide) (fun b1 => ?_) (fun b1 => ?_)
  · refine tw_iconst F dX10_holds_26 ki_0 (fun z2 hz2 => ?_)
    exact hret f0 _ _ _ _ z2 dX10_holds_27 (tw_nb (by omega)) ⟨rfl, by omega, by omega, by omega, by omega, by omega⟩ h
  · refine lv_iload_n F.1 F.2.1 dX10_holds_4 rfl (lv_at hl 2 rfl) ?_
    refine tw_if_lt (tgt := 26) F dX10_holds_5 (by decide) (fun b3 => ?_) (fun b3 => ?_)
    · exfalso
      omega
    · refine lv_iload_n F.1 F.2.1 dX10_holds_8 rfl (lv_at hl 1 rfl) ?_
      refine tu_i2l F dX10_holds_9 (fun z4 hz4 hz4a hz4b => ?_)
      refine lv_iload_n F.1 F.2.1 dX10_holds_10 rfl (lv_at hl 2 rfl) ?_
      refine tu_i2l F dX10_holds_11 (fun z5 hz5 hz5a hz5b => ?_)
      refine tu_ladd F dX10_holds_12 (by omega) (fun z6 hz6 => ?_)
      refine lv_aload_n F.1 F.2.1 dX10_holds_13 rfl (lv_at hl 0 rfl) ?_
      refine g_10_15 F h m_a0 r_a0 dX10_holds_14 (fun v7 hv7 hv7a hv7b => ?_)
      refine tw_i2l F dX10_holds_17 (fun z8 hz8 => ?_)
      refine tw_lcmp F dX10_holds_18 (fun z9 hz9 => ?_)
      refine tw_if_gt (tgt := 26) F dX10_holds_19 (by decide) (fun b10 => ?_) (fun b10 => ?_)
      · refine tw_iconst F dX10_holds_26 ki_0 (fun z11 hz11 => ?_)
        exact hret f0 _ _ _ _ z11 dX10_holds_27 (tw_nb (by omega)) ⟨rfl, by omega, by omega, by omega, by omega, by omega⟩ h
      · refine tw_iconst F dX10_holds_22 ki_1 (fun z12 hz12 => ?_)
        refine lv_goto (tgt := 27) F.1 F.2.1 dX10_holds_23 (by decide) ?_
        exact hret f0 _ _ _ _ z12 dX10_holds_27 (tw_nb (by omega)) ⟨rfl, by omega, by omega, by omega, by omega, by omega⟩ h
def rm_X11_placeStatusY : Room := { frames := 1, cells := 0, slots := 0, locals := 22 }
set_option maxHeartbeats 4000000 in
set_option maxRecDepth 100000 in
theorem s_X11_placeStatusY (l : Launch) (D : va_G) (cy : Nat → ClassId) (L : List Nat) (R O : Nat → Nat) (f0 : Nat → va_E) (a0 : Nat) (m_a0 : a0 ∈ L) (r_a0 : R a0 = 11) (x1 : Int32) (x2 : Int32) : ∀ sz, Met l yX11_placeStatus (Cond.code yX11_placeStatus cX11_placeStatus 3 (some .int) :: wsL_law) rm_X11_placeStatusY (va_Pc [.ref a0, .int x1, .int x2] (tPZ D cy L R (TT cy L R) f0 sz)) (va_Qi (fun (r : Int32) f1 => f0 = f1 ∧ 0 ≤ r.toInt ∧ r.toInt ≤ 3 ∧ (r.toInt ≠ 0 ∨ (0 ≤ x1.toInt ∧ x1.toInt ≤ 3 ∧ 0 ≤ x2.toInt ∧ x2.toInt ≤ 59)) ∧ ((r.toInt = 0 ∧ (0 ≤ x1.toInt ∧ x1.toInt ≤ 3 ∧ 0 ≤ x2.toInt ∧ x2.toInt < CS f0 a0 x1.toInt.toNat)) ∨ (r.toInt ≠ 0 ∧ ¬ (0 ≤ x1.toInt ∧ x1.toInt ≤ 3 ∧ 0 ≤ x2.toInt ∧ x2.toInt < CS f0 a0 x1.toInt.toNat)))) (tB D (tA L sz) L R (TT cy L R)) (tA L sz)) 0 0 (tA L sz) := by
  refine tw_enteri (by decide +kernel) rfl (Nat.le_of_ble_eq_true rfl) ?_
  intro p e s m below meth c A ls args Q F hZ h hl hret
  have hl : lv_has ls 3 [(0, .ref a0), (1, .int x1), (2, .int x2)] := hl
  refine lv_iload_n F.1 F.2.1 dX11_placeStatus_0 rfl (lv_at hl 1 rfl) ?_
  refine tw_Si (As := [.int x1]) F hZ h yk_X11_isTray mw_268 mw_269 (s_X11_isTrayF l D cy L R O f0 x1) rfl rfl hl.1 rfl (Nat.le_of_ble_eq_true rfl) ⟨Nat.le_of_ble_eq_true rfl, Nat.le_of_ble_eq_true rfl⟩ ⟨Nat.le_of_ble_eq_true rfl, Nat.le_of_ble_eq_true rfl⟩ dX11_placeStatus_1 (fun v2 f1 H locs hp1 h => ?_)
  obtain ⟨rfl, hv2a, hv2b, hv2p0⟩ := hp1
  refine tw_if_ne (tgt := 9) F dX11_placeStatus_4 (by decide) (fun b3 => ?_) (fun b3 => ?_)
  · refine lv_aload_n F.1 F.2.1 dX11_placeStatus_9 rfl (lv_at hl 0 rfl) ?_
    refine g_11_11 F h m_a0 r_a0 dX11_placeStatus_10 (fun o4 m_o4 r_o4 ho4 => ?_)
    refine lv_iload_n F.1 F.2.1 dX11_placeStatus_13 rfl (lv_at hl 1 rfl) ?_
    refine le_55 F h m_o4 r_o4 (by omega) dX11_placeStatus_14 (fun o5 m_o5 r_o5 eo5 => ?_)
    have cs14 := CS_of ho4 eo5
    refine tw_Vi (As := []) F hZ h yk_X10_isMissing mw_298 mw_299 mw_300 (s_X10_isMissingY l D cy L R O f0 o5 m_o5 r_o5) rfl rfl m_o5 r_o5 (fun e q => (T_10 e).mp q) rfl hl.1 rfl (Nat.le_of_ble_eq_true rfl) ⟨Nat.le_of_ble_eq_true rfl, Nat.le_of_ble_eq_true rfl⟩ ⟨Nat.le_of_ble_eq_true rfl, Nat.le_of_ble_eq_true rfl⟩ dX11_placeStatus_15 (fun v7 f6 H locs hp6 h => ?_)
    obtain ⟨rfl, hv7a, hv7b, hv7p0⟩ := hp6
    refine tw_if_eq (tgt := 23) F dX11_placeStatus_18 (by decide) (fun b8 => ?_) (fun b8 => ?_)
    · refine lv_aload_n F.1 F.2.1 dX11_placeStatus_23 rfl (lv_at hl 0 rfl) ?_
      refine g_11_11 F h m_a0 r_a0 dX11_placeStatus_24 (fun o9 m_o9 r_o9 ho9 => ?_)
      refine lv_iload_n F.1 F.2.1 dX11_placeStatus_27 rfl (lv_at hl 1 rfl) ?_
      refine le_55 F h m_o9 r_o9 (by omega) dX11_placeStatus_28 (fun o10 m_o10 r_o10 eo10 => ?_)
      have cs28 := CS_of ho9 eo10
      refine lv_iload_n F.1 F.2.1 dX11_placeStatus_29 rfl (lv_at hl 2 rfl) ?_
      refine tw_iconst F dX11_placeStatus_30 ki_1 (fun z11 hz11 => ?_)
      refine tw_Vi (As := [.int x2, .int z11]) F hZ h yk_X10_holds mw_302 mw_303 mw_304 (s_X10_holdsY l D cy L R O f0 o10 m_o10 r_o10 x2 z11 (by omega)) rfl rfl m_o10 r_o10 (fun e q => (T_10 e).mp q) rfl hl.1 rfl (Nat.le_of_ble_eq_true rfl) ⟨Nat.le_of_ble_eq_true rfl, Nat.le_of_ble_eq_true rfl⟩ ⟨Nat.le_of_ble_eq_true rfl, Nat.le_of_ble_eq_true rfl⟩ dX11_placeStatus_31 (fun v13 f12 H locs hp12 h => ?_)
      obtain ⟨rfl, hv13a, hv13b, hv13p0, hv13p1, hv13p2⟩ := hp12
      refine tw_if_eq (tgt := 41) F dX11_placeStatus_34 (by decide) (fun b14 => ?_) (fun b14 => ?_)
      · refine tw_iconst F dX11_placeStatus_41 ki_3 (fun z15 hz15 => ?_)
        exact hret f0 _ _ _ _ z15 dX11_placeStatus_42 rfl ⟨rfl, by omega, by omega, by omega, by omega⟩ h
      · refine tw_iconst F dX11_placeStatus_37 ki_0 (fun z16 hz16 => ?_)
        refine lv_goto (tgt := 42) F.1 F.2.1 dX11_placeStatus_38 (by decide) ?_
        exact hret f0 _ _ _ _ z16 dX11_placeStatus_42 rfl ⟨rfl, by omega, by omega, by omega, by omega⟩ h
    · refine tw_iconst F dX11_placeStatus_21 ki_2 (fun z17 hz17 => ?_)
      exact hret f0 _ _ _ _ z17 dX11_placeStatus_22 rfl ⟨rfl, by omega, by omega, by omega, by omega⟩ h
  · refine tw_iconst F dX11_placeStatus_7 ki_1 (fun z18 hz18 => ?_)
    exact hret f0 _ _ _ _ z18 dX11_placeStatus_8 rfl ⟨rfl, by omega, by omega, by omega, by omega⟩ h
section
variable {p : Program} {l : Launch} {e : Env} {R0 : Room} {s : State} {m : MethodId} {args : Array Value} {below : List Frame} {meth : Method} {c : Code} {H H0 : Heap} {locs : List Loc} {cells slots : Nat} {Q : State → Prop} {cc : ByteArray} {nL : Nat} {D : va_G} {cy : Nat → ClassId} {A : Nat → Prop} {L : List Nat} {R : Nat → Nat} {f : Nat → va_E} {pc : Nat} {ls : Array Slot} {rest : List Value} {a : Nat}
theorem le_63 {own : String} (F : CallFix p m c cc nL s args wsL_law own) (h : tS D cy A H0 L R (TT cy L R) f s H locs) {i : Int32} (ha : a ∈ L) (hr : R a = 63) (hb : 0 ≤ i.toInt ∧ i.toInt < 4) (hdg : decode cc pc = .ok (.iaload, 1)) (kk : ∀ x : Int32, x.toInt = eli f a i.toInt.toNat → (-1) ≤ x.toInt → x.toInt ≤ 60 → W p l e R0 s m args below meth c H locs cells slots Q (F0 m (pc + 1) ls (.int x :: rest))) : W p l e R0 s m args below meth c H locs cells slots Q (F0 m pc ls (.int i :: .ref a :: rest)) := tu_iald F h ha hr (fun e q => (T_63 e).mp q) hb.1 hb.2 hdg (fun x h1 h2 => kk x h2 h1.1 h1.2)
end
def rm_X12_wrongPlaceY : Room := { frames := 1, cells := 0, slots := 0, locals := 20 }
set_option maxHeartbeats 4000000 in
set_option maxRecDepth 100000 in
theorem s_X12_wrongPlaceY (l : Launch) (D : va_G) (cy : Nat → ClassId) (L : List Nat) (R O : Nat → Nat) (f0 : Nat → va_E) (a0 : Nat) (m_a0 : a0 ∈ L) (r_a0 : R a0 = 12) (x1 : Int32) (x2 : Int32) : ∀ sz, Met l yX12_wrongPlace (Cond.code yX12_wrongPlace cX12_wrongPlace 3 (some .int) :: wsL_law) rm_X12_wrongPlaceY (va_Pc [.ref a0, .int x1, .int x2] (tPZ D cy L R (TT cy L R) f0 sz)) (va_Qi (fun (r : Int32) f1 => f0 = f1 ∧ 0 ≤ r.toInt ∧ r.toInt ≤ 3 ∧ (r.toInt ≠ 0 ∨ (0 ≤ x1.toInt ∧ x1.toInt ≤ 3 ∧ 0 ≤ x2.toInt ∧ x2.toInt ≤ 59)) ∧ ((r.toInt = 0 ∧ (0 ≤ x1.toInt ∧ x1.toInt ≤ 3 ∧ 0 ≤ x2.toInt ∧ x2.toInt < MS f0 a0 x1.toInt.toNat)) ∨ (r.toInt ≠ 0 ∧ ¬ (0 ≤ x1.toInt ∧ x1.toInt ≤ 3 ∧ 0 ≤ x2.toInt ∧ x2.toInt < MS f0 a0 x1.toInt.toNat)))) (tB D (tA L sz) L R (TT cy L R)) (tA L sz)) 0 0 (tA L sz) := by
  refine tw_enteri (by decide +kernel) rfl (Nat.le_of_ble_eq_true rfl) ?_
  intro p e s m below meth c A ls args Q F hZ h hl hret
  have hl : lv_has ls 3 [(0, .ref a0), (1, .int x1), (2, .int x2)] := hl
  obtain ⟨a0_trayMany, m_a0_trayMany, r_a0_trayMany, t_a0_trayMany⟩ := h.rf m_a0 r_a0 (fun e q => (T_12 e).mp q) (k := 5) rfl
  have hms := MS_of t_a0_trayMany
  have ms1 := hms x1.toInt.toNat
  refine lv_iload_n F.1 F.2.1 dX12_wrongPlace_0 rfl (lv_at hl 1 rfl) ?_
  refine tw_Si (As := [.int x1]) F hZ h yk_X12_isTray mw_283 mw_284 (s_X12_isTray l D cy L R O f0 x1) rfl rfl hl.1 rfl (Nat.le_of_ble_eq_true rfl) ⟨Nat.le_of_ble_eq_true rfl, Nat.le_of_ble_eq_true rfl⟩ ⟨Nat.le_of_ble_eq_true rfl, Nat.le_of_ble_eq_true rfl⟩ dX12_wrongPlace_1 (fun v2 f1 H locs hp1 h => ?_)
  obtain ⟨rfl, hv2a, hv2b, hv2p0⟩ := hp1
  refine tw_if_ne (tgt := 11) F dX12_wrongPlace_4 (by decide) (fun b3 => ?_) (fun b3 => ?_)
  · refine lv_aload_n F.1 F.2.1 dX12_wrongPlace_11 rfl (lv_at hl 0 rfl) ?_
    refine g_12_21 F h m_a0 r_a0 dX12_wrongPlace_12 (fun o4 m_o4 r_o4 ho4 => ?_)
    obtain rfl := (fld_inj t_a0_trayMany ho4).symm
    refine lv_iload_n F.1 F.2.1 dX12_wrongPlace_15 rfl (lv_at hl 1 rfl) ?_
    refine le_63 F h m_a0_trayMany r_a0_trayMany (by omega) dX12_wrongPlace_16 (fun v5 ev5 hv5a hv5b => ?_)
    refine tw_iconst F dX12_wrongPlace_17 ki_m1 (fun z6 hz6 => ?_)
    refine tw_icmp_ne (tgt := 25) F dX12_wrongPlace_18 (by decide) (fun b7 => ?_) (fun b7 => ?_)
    · refine lv_iload_n F.1 F.2.1 dX12_wrongPlace_25 rfl (lv_at hl 2 rfl) ?_
      refine tw_if_lt (tgt := 39) F dX12_wrongPlace_26 (by decide) (fun b8 => ?_) (fun b8 => ?_)
      · refine tw_iconst F dX12_wrongPlace_39 ki_3 (fun z9 hz9 => ?_)
        refine lv_goto (tgt := 44) F.1 F.2.1 dX12_wrongPlace_40 (by decide) ?_
        exact hret f0 _ _ _ _ z9 dX12_wrongPlace_44 rfl ⟨rfl, by omega, by omega, by omega, by omega⟩ h
      · refine lv_iload_n F.1 F.2.1 dX12_wrongPlace_29 rfl (lv_at hl 2 rfl) ?_
        refine lv_aload_n F.1 F.2.1 dX12_wrongPlace_30 rfl (lv_at hl 0 rfl) ?_
        refine g_12_21 F h m_a0 r_a0 dX12_wrongPlace_31 (fun o10 m_o10 r_o10 ho10 => ?_)
        obtain rfl := (fld_inj t_a0_trayMany ho10).symm
        refine lv_iload_n F.1 F.2.1 dX12_wrongPlace_34 rfl (lv_at hl 1 rfl) ?_
        refine le_63 F h m_a0_trayMany r_a0_trayMany (by omega) dX12_wrongPlace_35 (fun v11 ev11 hv11a hv11b => ?_)
        refine tw_icmp_lt (tgt := 43) F dX12_wrongPlace_36 (by decide) (fun b12 => ?_) (fun b12 => ?_)
        · refine tw_iconst F dX12_wrongPlace_43 ki_0 (fun z13 hz13 => ?_)
          exact hret f0 _ _ _ _ z13 dX12_wrongPlace_44 rfl ⟨rfl, by omega, by omega, by omega, by omega⟩ h
        · refine tw_iconst F dX12_wrongPlace_39 ki_3 (fun z14 hz14 => ?_)
          refine lv_goto (tgt := 44) F.1 F.2.1 dX12_wrongPlace_40 (by decide) ?_
          exact hret f0 _ _ _ _ z14 dX12_wrongPlace_44 rfl ⟨rfl, by omega, by omega, by omega, by omega⟩ h
    · refine tw_iconst F dX12_wrongPlace_21 ki_2 (fun z15 hz15 => ?_)
      refine lv_goto (tgt := 44) F.1 F.2.1 dX12_wrongPlace_22 (by decide) ?_
      exact hret f0 _ _ _ _ z15 dX12_wrongPlace_44 rfl ⟨rfl, by omega, by omega, by omega, by omega⟩ h
  · refine tw_iconst F dX12_wrongPlace_7 ki_1 (fun z16 hz16 => ?_)
    refine lv_goto (tgt := 44) F.1 F.2.1 dX12_wrongPlace_8 (by decide) ?_
    exact hret f0 _ _ _ _ z16 dX12_wrongPlace_44 rfl ⟨rfl, by omega, by omega, by omega, by omega⟩ h
section
variable {p : Program} {l : Launch} {e : Env} {R0 : Room} {s : State} {m : MethodId} {args : Array Value} {below : List Frame} {meth : Method} {c : Code} {H H0 : Heap} {locs : List Loc} {cells slots : Nat} {Q : State → Prop} {cc : ByteArray} {nL : Nat} {D : va_G} {cy : Nat → ClassId} {A : Nat → Prop} {L : List Nat} {R : Nat → Nat} {f : Nat → va_E} {pc : Nat} {ls : Array Slot} {rest : List Value} {a : Nat}
theorem pe_10_19 (F : CallFix p m c cc nL s args wsL_law RX10) (h : tS D cy A H0 L R (TT cy L R) f s H locs) {x : Int32} (ha : a ∈ L) (hr : R a = 10) (hv : 0 ≤ x.toInt ∧ x.toInt ≤ 3) (hdg : decode cc pc = .ok (.putfield 19, 3)) (kk : ∀ (f1 : Nat → va_E) (H1 : Heap) (locs1 : List Loc), fld f1 a 2 = .int x → (∀ a', a' ≠ a → f1 a' = f a') → fr L R [(10, 2)] [10] f f1 → tS D cy A H0 L R (TT cy L R) f1 s H1 locs1 → W p l e R0 s m args below meth c H1 locs1 cells slots Q (F0 m (pc + 3) ls (rest))) : W p l e R0 s m args below meth c H locs cells slots Q (F0 m pc ls (.int x :: .ref a :: rest)) := tu_putiE (k := 2) F h ha hr T_10 rfl hv.1 hv.2 inlX10 tyX10_ok nmX10 rfl (Nat.le_of_ble_eq_true rfl) mw_197 rfl rfl rfl hdg kk
end
section
variable {p : Program} {l : Launch} {e : Env} {R0 : Room} {s : State} {m : MethodId} {args : Array Value} {below : List Frame} {meth : Method} {c : Code} {H H0 : Heap} {locs : List Loc} {cells slots : Nat} {Q : State → Prop} {cc : ByteArray} {nL : Nat} {D : va_G} {cy : Nat → ClassId} {A : Nat → Prop} {L : List Nat} {R : Nat → Nat} {f : Nat → va_E} {pc : Nat} {ls : Array Slot} {rest : List Value} {a : Nat}
theorem pe_10_15 (F : CallFix p m c cc nL s args wsL_law RX10) (h : tS D cy A H0 L R (TT cy L R) f s H locs) {x : Int32} (ha : a ∈ L) (hr : R a = 10) (hv : (-1) ≤ x.toInt ∧ x.toInt ≤ 60) (hdg : decode cc pc = .ok (.putfield 15, 3)) (kk : ∀ (f1 : Nat → va_E) (H1 : Heap) (locs1 : List Loc), fld f1 a 1 = .int x → (∀ a', a' ≠ a → f1 a' = f a') → fr L R [(10, 1)] [10] f f1 → tS D cy A H0 L R (TT cy L R) f1 s H1 locs1 → W p l e R0 s m args below meth c H1 locs1 cells slots Q (F0 m (pc + 3) ls (rest))) : W p l e R0 s m args below meth c H locs cells slots Q (F0 m pc ls (.int x :: .ref a :: rest)) := tu_putiE (k := 1) F h ha hr T_10 rfl hv.1 hv.2 inlX10 tyX10_ok nmX10 rfl (Nat.le_of_ble_eq_true rfl) mw_196 rfl rfl rfl hdg kk
end
section
variable {p : Program} {l : Launch} {e : Env} {R0 : Room} {s : State} {m : MethodId} {args : Array Value} {below : List Frame} {meth : Method} {c : Code} {H H0 : Heap} {locs : List Loc} {cells slots : Nat} {Q : State → Prop} {cc : ByteArray} {nL : Nat} {D : va_G} {cy : Nat → ClassId} {A : Nat → Prop} {L : List Nat} {R : Nat → Nat} {f : Nat → va_E} {pc : Nat} {ls : Array Slot} {rest : List Value} {a : Nat}
theorem se_54 {own : String} (F : CallFix p m c cc nL s args wsL_law own) (h : tS D cy A H0 L R (TT cy L R) f s H locs) {i : Int32} {x : Int64} (ha : a ∈ L) (hr : R a = 54) (hb : 0 ≤ i.toInt ∧ i.toInt < 60) (hdg : decode cc pc = .ok (.lastore, 1)) (kk : ∀ (f1 : Nat → va_E) (H1 : Heap) (locs1 : List Loc), (∀ j, elj f1 a j = if j = i.toInt.toNat then x.toInt else elj f a j) → (∀ a', a' ≠ a → f1 a' = f a') → fr L R [] [54] f f1 → tS D cy A H0 L R (TT cy L R) f1 s H1 locs1 → W p l e R0 s m args below meth c H1 locs1 cells slots Q (F0 m (pc + 1) ls (rest))) : W p l e R0 s m args below meth c H locs cells slots Q (F0 m pc ls (.long x :: .int i :: .ref a :: rest)) := tu_last F h ha hr T_54 hb.1 hb.2 trivial hdg (fun f1 H1 locs1 h1 h2 h3 h4 => kk f1 H1 locs1 h1 h2 h3 h4)
end
def rm_X10_makeZ : Room := { frames := 0, cells := 0, slots := 0, locals := 0 }
set_option maxHeartbeats 4000000 in
set_option maxRecDepth 100000 in
theorem s_X10_makeZ (l : Launch) (D : va_G) (cy : Nat → ClassId) (L : List Nat) (R O : Nat → Nat) (f0 : Nat → va_E) (a0 : Nat) (m_a0 : a0 ∈ L) (r_a0 : R a0 = 10) (x1 : Int32) (b1 : 0 ≤ x1.toInt ∧ x1.toInt ≤ 3) (x2 : Int32) (b2 : 0 ≤ x2.toInt ∧ x2.toInt ≤ 60) : ∀ sz, Met l yX10_make (Cond.code yX10_make cX10_make 4 none :: wsL_law) rm_X10_makeZ (va_Pc [.ref a0, .int x1, .int x2] (tPZ D cy L R (TT cy L R) f0 sz)) (va_Qv (fun f1 => fr L R [(10, 1), (10, 2)] [10, 54] f0 f1 ∧ fi f1 a0 1 = x2.toInt ∧ fi f1 a0 2 = x1.toInt ∧ KT L R a0 f0 f1 ∧ (∀ j : Nat, j < 60 → elj f1 (rfa f0 a0 0) j = 0) ∧ KN L R (rfa f0 a0 0) f0 f1) (tB D (tA L sz) L R (TT cy L R)) (tA L sz)) 0 0 (tA L sz) := by
  refine tw_enterv (by decide +kernel) rfl (Nat.le_of_ble_eq_true rfl) ?_
  intro p e s m below meth c A ls args Q F hZ h hl hret
  have hl : lv_has ls 4 [(0, .ref a0), (1, .int x1), (2, .int x2)] := hl
  have hk : fr L R [(10, 1), (10, 2)] [10, 54] f0 f0 := fr.rf
  obtain ⟨a0_numbers, m_a0_numbers, r_a0_numbers, t_a0_numbers⟩ := h.rf m_a0 r_a0 (fun e q => (T_10 e).mp q) (k := 0) rfl
  have hKN : KN L R a0_numbers f0 f0 := KN.rf
  refine lv_aload_n F.1 F.2.1 dX10_make_0 rfl (lv_at hl 0 rfl) ?_
  refine lv_iload_n F.1 F.2.1 dX10_make_1 rfl (lv_at hl 1 rfl) ?_
  refine pe_10_19 F h m_a0 r_a0 (by omega) dX10_make_2 (fun f1 H locs e1pq e1po hf1 h => ?_)
  have e1p : fi f1 a0 2 = x1.toInt := by unfold fi; rw [e1pq]; rfl
  have hKN : KN L R a0_numbers f0 f1 := hKN.fr hf1 (by decide +kernel)
  have hk : fr L R [(10, 1), (10, 2)] [10, 54] f0 f1 := hk.tr hf1 rfl rfl
  have e2 : fld f1 a0 0 = .ref a0_numbers := (hf1.efl m_a0 r_a0 rfl).trans t_a0_numbers
  refine lv_aload_n F.1 F.2.1 dX10_make_5 rfl (lv_at hl 0 rfl) ?_
  refine lv_iload_n F.1 F.2.1 dX10_make_6 rfl (lv_at hl 2 rfl) ?_
  refine pe_10_15 F h m_a0 r_a0 (by omega) dX10_make_7 (fun f3 H locs e3pq e3po hf3 h => ?_)
  have e3p : fi f3 a0 1 = x2.toInt := by unfold fi; rw [e3pq]; rfl
  have hKN : KN L R a0_numbers f0 f3 := hKN.fr hf3 (by decide +kernel)
  have hk : fr L R [(10, 1), (10, 2)] [10, 54] f0 f3 := hk.tr hf3 rfl rfl
  have e4 : fld f3 a0 0 = .ref a0_numbers := (hf3.efl m_a0 r_a0 rfl).trans e2
  have e5 : fi f3 a0 2 = fi f1 a0 2 := hf3.efi m_a0 r_a0 rfl
  have hKT : KT L R a0 f0 f3 := fun x hx hr hn => by unfold fi fld; rw [e3po x hn, e1po x hn]; exact ⟨rfl, rfl⟩
  refine tw_iconst F dX10_make_10 ki_0 (fun z6 hz6 => ?_)
  refine lv_istore_n (lv' := [(3, .int z6), (0, .ref a0), (1, .int x1), (2, .int x2)]) F.1 F.2.1 dX10_make_11 rfl hl (by decide) rfl (fun ls hl => ?_)
  have j_12 : ∀ (n12 : Nat) (f7 : Nat → va_E) (H : Heap) (locs : List Loc) (ls : Array Slot) (x3_12 : Int32), 0 ≤ x3_12.toInt → x3_12.toInt ≤ 60 → (∀ j : Nat, (j : Int) < x3_12.toInt → elj f7 a0_numbers j = 0) → ((60 - x3_12.toInt)).toNat < n12 → tS D cy A s.heap L R (TT cy L R) f7 s H locs → KN L R a0_numbers f0 f7 → KT L R a0 f0 f7 → fr L R [(10, 1), (10, 2)] [10, 54] f0 f7 → fr L R [] [54] f3 f7 → lv_has ls 4 [(0, .ref a0), (3, .int x3_12)] → W p l e rm_X10_makeZ s m args below meth c H locs 0 0 Q (F0 m 12 ls []) := by
    intro n12
    induction n12 with
    | zero =>
      intro f7 H locs ls x3_12 b8 b9 ip12_0 b10 h hKN hKT hk hb12 hl
      exfalso
      omega
    | succ n12 ih12 =>
      intro f7 H locs ls x3_12 b8 b9 ip12_0 b10 h hKN hKT hk hb12 hl
      have e11 : fld f7 a0 0 = .ref a0_numbers := (hb12.efl m_a0 r_a0 rfl).trans e4
      have e12 : fi f7 a0 2 = fi f3 a0 2 := hb12.efi m_a0 r_a0 rfl
      have e13 : fi f7 a0 1 = fi f3 a0 1 := hb12.efi m_a0 r_a0 rfl
      refine lv_iload_n F.1 F.2.1 dX10_make_12 rfl (lv_at hl 1 rfl) ?_
      refine lv_aload_n F.1 F.2.1 dX10_make_13 rfl (lv_at hl 0 rfl) ?_
      refine g_10_9 F h m_a0 r_a0 dX10_make_14 (fun o14 m_o14 r_o14 ho14 => ?_)
      obtain rfl := (fld_inj e11 ho14).symm
      refine al_54 F h m_a0_numbers r_a0_numbers dX10_make_17 (fun z15 hz15 => ?_)
      refine tw_icmp_ge (tgt := 34) F dX10_make_18 (by decide) (fun b16 => ?_) (fun b16 => ?_)
      · exact hret f7 _ _ _ _ dX10_make_34 ⟨hk, by omega, by omega, hKT, fun j hj => by rw [rfa_of t_a0_numbers]; exact ip12_0 j (by omega), by rw [rfa_of t_a0_numbers]; exact hKN⟩ h
      · refine lv_aload_n F.1 F.2.1 dX10_make_21 rfl (lv_at hl 0 rfl) ?_
        refine g_10_9 F h m_a0 r_a0 dX10_make_22 (fun o17 m_o17 r_o17 ho17 => ?_)
        obtain rfl := (fld_inj e11 ho17).symm
        refine lv_iload_n F.1 F.2.1 dX10_make_25 rfl (lv_at hl 1 rfl) ?_
        refine tu_lconst F dX10_make_26 (by decide) (fun z18 (hz18 : z18.toInt = 0) => ?_)
        have hKN0 := hKN
        refine se_54 F h m_a0_numbers r_a0_numbers (by omega) dX10_make_27 (fun f19 H locs e19a e19b hf19 h => ?_)
        have hKT : KT L R a0 f0 f19 := hKT.fr hf19 (by decide +kernel) (by decide +kernel)
        have hk : fr L R [(10, 1), (10, 2)] [10, 54] f0 f19 := hk.tr hf19 rfl rfl
        have hb12 : fr L R [] [54] f3 f19 := hb12.tr hf19 rfl rfl
        have e20 : fld f19 a0 0 = .ref a0_numbers := (hf19.efl m_a0 r_a0 rfl).trans e11
        have e21 : fi f19 a0 2 = fi f7 a0 2 := hf19.efi m_a0 r_a0 rfl
        have e22 : fi f19 a0 1 = fi f7 a0 1 := hf19.efi m_a0 r_a0 rfl
        have hKN : KN L R a0_numbers f0 f19 := fun x hx hr hn => (e19b x hn).trans (hKN0 x hx hr hn)
        refine tu_iinc F dX10_make_28 hl (k := 1) rfl (by decide) ki_1 (by omega) (fun z23 ls hz23 hl => ?_)
        have hl : lv_has ls 4 [(3, .int z23), (0, .ref a0)] := hl
        refine lv_goto (tgt := 12) F.1 F.2.1 dX10_make_31 (by decide) ?_
        exact ih12 f19 _ _ _ z23 (by omega) (by omega) (fun j hj => by have q := e19a j; have q2 := ip12_0; exact (if e : j = x3_12.toInt.toNat then (by rw [if_pos e] at q; omega) else (by rw [if_neg e] at q; rw [q]; exact q2 j (by omega)))) (by omega) h hKN hKT hk hb12 (lv_sub hl [1, 0] rfl)
  have hb12 : fr L R [] [54] f3 f3 := fr.rf
  exact j_12 (((60 - z6.toInt)).toNat + 1) f3 _ _ _ z6 (by omega) (by omega) (fun j hj => absurd hj (by omega)) (by omega) h hKN hKT hk hb12 (lv_sub hl [1, 0] rfl)
def rm_X10_cutZ : Room := { frames := 0, cells := 0, slots := 0, locals := 0 }
set_option maxHeartbeats 4000000 in
set_option maxRecDepth 100000 in
theorem s_X10_cutZ (l : Launch) (D : va_G) (cy : Nat → ClassId) (L : List Nat) (R O : Nat → Nat) (f0 : Nat → va_E) (a0 : Nat) (m_a0 : a0 ∈ L) (r_a0 : R a0 = 10) (x1 : Int64) : ∀ sz, Met l yX10_cut (Cond.code yX10_cut cX10_cut 3 (some .long) :: wsL_law) rm_X10_cutZ (va_Pc [.ref a0, .long x1] (tPZ D cy L R (TT cy L R) f0 sz)) (va_Ql (fun (r : Int64) f1 => f0 = f1 ∧ r.toInt = cutf (fi f0 a0 2) x1) (tB D (tA L sz) L R (TT cy L R)) (tA L sz)) 0 0 (tA L sz) := by
  refine tw_enterl (by decide +kernel) rfl (Nat.le_of_ble_eq_true rfl) ?_
  intro p e s m below meth c A ls args Q F hZ h hl hret
  have hl : lv_has ls 3 [(0, .ref a0), (1, .long x1)] := hl
  refine lv_aload_n F.1 F.2.1 dX10_cut_0 rfl (lv_at hl 0 rfl) ?_
  refine g_10_19 F h m_a0 r_a0 dX10_cut_1 (fun v1 hv1 hv1a hv1b => ?_)
  by_cases q2 : v1.toInt = 0
  · refine lv_tableIn F.1 F.2.1 dX10_cut_4 (by omega) (by omega) (off := 28) (by rw [q2]; rfl) (tgt := 32) (by decide) ?_
    refine lv_lload_n F.1 F.2.1 dX10_cut_32 rfl (lv_at hl 1 rfl) ?_
    refine lv_l2i F.1 F.2.1 dX10_cut_33 rfl ?_
    refine lv_topi (fun z3 qz3 => ?_)
    refine lv_i2b F.1 F.2.1 dX10_cut_34 rfl ?_
    refine lv_topi (fun z4 qz4 => ?_)
    refine tw_i2l F dX10_cut_35 (fun z5 hz5 => ?_)
    exact hret f0 _ _ _ _ z5 dX10_cut_36 ⟨rfl, (by unfold cutf; rw [if_pos (by omega), hz5, qz4, qz3])⟩ h
  by_cases q6 : v1.toInt = 1
  · refine lv_tableIn F.1 F.2.1 dX10_cut_4 (by omega) (by omega) (off := 33) (by rw [q6]; rfl) (tgt := 37) (by decide) ?_
    refine lv_lload_n F.1 F.2.1 dX10_cut_37 rfl (lv_at hl 1 rfl) ?_
    refine lv_l2i F.1 F.2.1 dX10_cut_38 rfl ?_
    refine lv_topi (fun z7 qz7 => ?_)
    refine lv_i2s F.1 F.2.1 dX10_cut_39 rfl ?_
    refine lv_topi (fun z8 qz8 => ?_)
    refine tw_i2l F dX10_cut_40 (fun z9 hz9 => ?_)
    exact hret f0 _ _ _ _ z9 dX10_cut_41 ⟨rfl, (by unfold cutf; rw [if_neg (by omega), if_pos (by omega), hz9, qz8, qz7])⟩ h
  by_cases q10 : v1.toInt = 2
  · refine lv_tableIn F.1 F.2.1 dX10_cut_4 (by omega) (by omega) (off := 38) (by rw [q10]; rfl) (tgt := 42) (by decide) ?_
    refine lv_lload_n F.1 F.2.1 dX10_cut_42 rfl (lv_at hl 1 rfl) ?_
    refine lv_l2i F.1 F.2.1 dX10_cut_43 rfl ?_
    refine lv_topi (fun z11 qz11 => ?_)
    refine tu_i2l F dX10_cut_44 (fun z12 hz12 hz12a hz12b => ?_)
    exact hret f0 _ _ _ _ z12 dX10_cut_45 ⟨rfl, (by unfold cutf; rw [if_neg (by omega), if_neg (by omega), if_pos (by omega), hz12, qz11])⟩ h
  refine lv_tableOut F.1 F.2.1 dX10_cut_4 (by omega) (tgt := 46) (by decide) ?_
  refine lv_lload_n F.1 F.2.1 dX10_cut_46 rfl (lv_at hl 1 rfl) ?_
  exact hret f0 _ _ _ _ x1 dX10_cut_47 ⟨rfl, (by unfold cutf; rw [if_neg (by omega), if_neg (by omega), if_neg (by omega)])⟩ h
def rm_X12_cutZ : Room := { frames := 0, cells := 0, slots := 0, locals := 0 }
set_option maxHeartbeats 4000000 in
set_option maxRecDepth 100000 in
theorem s_X12_cutZ (l : Launch) (D : va_G) (cy : Nat → ClassId) (L : List Nat) (R O : Nat → Nat) (f0 : Nat → va_E) (x0 : Int64) (x2 : Int32) : ∀ sz, Met l yX12_cut (Cond.code yX12_cut cX12_cut 3 (some .long) :: wsL_law) rm_X12_cutZ (va_Pc [.long x0, .int x2] (tPZ D cy L R (TT cy L R) f0 sz)) (va_Ql (fun (r : Int64) f1 => f0 = f1 ∧ r.toInt = cutf x2.toInt x0) (tB D (tA L sz) L R (TT cy L R)) (tA L sz)) 0 0 (tA L sz) := by
  refine tw_enterl (by decide +kernel) rfl (Nat.le_of_ble_eq_true rfl) ?_
  intro p e s m below meth c A ls args Q F hZ h hl hret
  have hl : lv_has ls 3 [(0, .long x0), (2, .int x2)] := hl
  refine lv_iload_n F.1 F.2.1 dX12_cut_0 rfl (lv_at hl 1 rfl) ?_
  refine tw_if_ne (tgt := 11) F dX12_cut_1 (by decide) (fun b1 => ?_) (fun b1 => ?_)
  · refine lv_iload_n F.1 F.2.1 dX12_cut_11 rfl (lv_at hl 1 rfl) ?_
    refine tw_iconst F dX12_cut_12 ki_1 (fun z2 hz2 => ?_)
    refine tw_icmp_ne (tgt := 23) F dX12_cut_13 (by decide) (fun b3 => ?_) (fun b3 => ?_)
    · refine lv_iload_n F.1 F.2.1 dX12_cut_23 rfl (lv_at hl 1 rfl) ?_
      refine tw_iconst F dX12_cut_24 ki_2 (fun z4 hz4 => ?_)
      refine tw_icmp_ne (tgt := 34) F dX12_cut_25 (by decide) (fun b5 => ?_) (fun b5 => ?_)
      · refine lv_lload_n F.1 F.2.1 dX12_cut_34 rfl (lv_at hl 0 rfl) ?_
        exact hret f0 _ _ _ _ x0 dX12_cut_35 ⟨rfl, (by unfold cutf; rw [if_neg (by omega), if_neg (by omega), if_neg (by omega)])⟩ h
      · refine lv_lload_n F.1 F.2.1 dX12_cut_28 rfl (lv_at hl 0 rfl) ?_
        refine lv_l2i F.1 F.2.1 dX12_cut_29 rfl ?_
        refine lv_topi (fun z6 qz6 => ?_)
        refine tu_i2l F dX12_cut_30 (fun z7 hz7 hz7a hz7b => ?_)
        refine lv_goto (tgt := 35) F.1 F.2.1 dX12_cut_31 (by decide) ?_
        exact hret f0 _ _ _ _ z7 dX12_cut_35 ⟨rfl, (by unfold cutf; rw [if_neg (by omega), if_neg (by omega), if_pos (by omega), hz7, qz6])⟩ h
    · refine lv_lload_n F.1 F.2.1 dX12_cut_16 rfl (lv_at hl 0 rfl) ?_
      refine lv_l2i F.1 F.2.1 dX12_cut_17 rfl ?_
      refine lv_topi (fun z8 qz8 => ?_)
      refine lv_i2s F.1 F.2.1 dX12_cut_18 rfl ?_
      refine lv_topi (fun z9 qz9 => ?_)
      refine tw_i2l F dX12_cut_19 (fun z10 hz10 => ?_)
      refine lv_goto (tgt := 35) F.1 F.2.1 dX12_cut_20 (by decide) ?_
      exact hret f0 _ _ _ _ z10 dX12_cut_35 ⟨rfl, (by unfold cutf; rw [if_neg (by omega), if_pos (by omega), hz10, qz9, qz8])⟩ h
  · refine lv_lload_n F.1 F.2.1 dX12_cut_4 rfl (lv_at hl 0 rfl) ?_
    refine lv_l2i F.1 F.2.1 dX12_cut_5 rfl ?_
    refine lv_topi (fun z11 qz11 => ?_)
    refine lv_i2b F.1 F.2.1 dX12_cut_6 rfl ?_
    refine lv_topi (fun z12 qz12 => ?_)
    refine tw_i2l F dX12_cut_7 (fun z13 hz13 => ?_)
    refine lv_goto (tgt := 35) F.1 F.2.1 dX12_cut_8 (by decide) ?_
    exact hret f0 _ _ _ _ z13 dX12_cut_35 ⟨rfl, (by unfold cutf; rw [if_pos (by omega), hz13, qz12, qz11])⟩ h
def rm_X10_putZ : Room := { frames := 1, cells := 0, slots := 0, locals := 22 }
set_option maxHeartbeats 4000000 in
set_option maxRecDepth 100000 in
theorem s_X10_putZ (l : Launch) (D : va_G) (cy : Nat → ClassId) (L : List Nat) (R O : Nat → Nat) (f0 : Nat → va_E) (a0 : Nat) (m_a0 : a0 ∈ L) (r_a0 : R a0 = 10) (x1 : Int32) (b1 : 0 ≤ x1.toInt ∧ x1.toInt ≤ 59) (x2 : Int64) : ∀ sz, Met l yX10_put (Cond.code yX10_put cX10_put 4 none :: wsL_law) rm_X10_putZ (va_Pc [.ref a0, .int x1, .long x2] (tPZ D cy L R (TT cy L R) f0 sz)) (va_Qv (fun f1 => fr L R [] [54] f0 f1 ∧ ((0 ≤ x1.toInt ∧ x1.toInt + 1 ≤ fi f0 a0 1) → ∀ j : Nat, elj f1 (rfa f0 a0 0) j = if j = x1.toInt.toNat then cutf (fi f0 a0 2) x2 else elj f0 (rfa f0 a0 0) j) ∧ KN L R (rfa f0 a0 0) f0 f1) (tB D (tA L sz) L R (TT cy L R)) (tA L sz)) 0 0 (tA L sz) := by
  refine tw_enterv (by decide +kernel) rfl (Nat.le_of_ble_eq_true rfl) ?_
  intro p e s m below meth c A ls args Q F hZ h hl hret
  have hl : lv_has ls 4 [(0, .ref a0), (1, .int x1), (2, .long x2)] := hl
  have hk : fr L R [] [54] f0 f0 := fr.rf
  refine lv_aload_n F.1 F.2.1 dX10_put_0 rfl (lv_at hl 0 rfl) ?_
  refine lv_iload_n F.1 F.2.1 dX10_put_1 rfl (lv_at hl 1 rfl) ?_
  refine tw_iconst F dX10_put_2 ki_1 (fun z1 hz1 => ?_)
  refine tw_Vi (As := [.int x1, .int z1]) F hZ h yk_X10_holds mw_310 mw_303 mw_304 (s_X10_holdsY l D cy L R O f0 a0 m_a0 r_a0 x1 z1 (by omega)) rfl rfl m_a0 r_a0 (fun e q => (T_10 e).mp q) rfl hl.1 rfl (Nat.le_of_ble_eq_true rfl) ⟨Nat.le_of_ble_eq_true rfl, Nat.le_of_ble_eq_true rfl⟩ ⟨Nat.le_of_ble_eq_true rfl, Nat.le_of_ble_eq_true rfl⟩ dX10_put_3 (fun v3 f2 H locs hp2 h => ?_)
  obtain ⟨rfl, hv3a, hv3b, hv3p0, hv3p1, hv3p2⟩ := hp2
  refine tw_if_eq (tgt := 20) F dX10_put_6 (by decide) (fun b4 => ?_) (fun b4 => ?_)
  · exact hret f0 _ _ _ _ dX10_put_20 ⟨hk, (fun q => by exfalso; omega), KN.rf⟩ h
  · refine lv_aload_n F.1 F.2.1 dX10_put_9 rfl (lv_at hl 0 rfl) ?_
    refine g_10_9 F h m_a0 r_a0 dX10_put_10 (fun o5 m_o5 r_o5 ho5 => ?_)
    refine lv_iload_n F.1 F.2.1 dX10_put_13 rfl (lv_at hl 1 rfl) ?_
    refine lv_aload_n F.1 F.2.1 dX10_put_14 rfl (lv_at hl 0 rfl) ?_
    refine lv_lload_n F.1 F.2.1 dX10_put_15 rfl (lv_at hl 2 rfl) ?_
    refine tw_Vl (As := [.long x2]) F hZ h yk_X10_cut mw_311 mw_312 mw_313 (s_X10_cutZ l D cy L R O f0 a0 m_a0 r_a0 x2) rfl rfl m_a0 r_a0 (fun e q => (T_10 e).mp q) rfl hl.1 rfl (Nat.le_of_ble_eq_true rfl) ⟨Nat.le_of_ble_eq_true rfl, Nat.le_of_ble_eq_true rfl⟩ ⟨Nat.le_of_ble_eq_true rfl, Nat.le_of_ble_eq_true rfl⟩ dX10_put_16 (fun v7 f6 H locs hp6 h => ?_)
    obtain ⟨rfl, hv7p0⟩ := hp6
    refine se_54 F h m_o5 r_o5 (by omega) dX10_put_19 (fun f8 H locs e8a e8b hf8 h => ?_)
    have hk : fr L R [] [54] f0 f8 := hk.tr hf8 rfl rfl
    exact hret f8 _ _ _ _ dX10_put_20 ⟨hk, (fun _ j => by rw [rfa_of ho5, e8a j]; exact (if e : j = x1.toInt.toNat then (by rw [if_pos e, if_pos e]; exact hv7p0) else (by rw [if_neg e, if_neg e]))), (fun x hx hr hn => e8b x (fun e => hn (by rw [e, rfa_of ho5])))⟩ h
def rm_X10_atZ : Room := { frames := 1, cells := 0, slots := 0, locals := 22 }
set_option maxHeartbeats 4000000 in
set_option maxRecDepth 100000 in
theorem s_X10_atZ (l : Launch) (D : va_G) (cy : Nat → ClassId) (L : List Nat) (R O : Nat → Nat) (f0 : Nat → va_E) (a0 : Nat) (m_a0 : a0 ∈ L) (r_a0 : R a0 = 10) (x1 : Int32) : ∀ sz, Met l yX10_at (Cond.code yX10_at cX10_at 2 (some .long) :: wsL_law) rm_X10_atZ (va_Pc [.ref a0, .int x1] (tPZ D cy L R (TT cy L R) f0 sz)) (va_Ql (fun (r : Int64) f1 => f0 = f1 ∧ ((0 ≤ x1.toInt ∧ x1.toInt + 1 ≤ fi f0 a0 1 ∧ r.toInt = elj f0 (rfa f0 a0 0) x1.toInt.toNat) ∨ (¬ (0 ≤ x1.toInt ∧ x1.toInt + 1 ≤ fi f0 a0 1) ∧ r.toInt = -1))) (tB D (tA L sz) L R (TT cy L R)) (tA L sz)) 0 0 (tA L sz) := by
  refine tw_enterl (by decide +kernel) rfl (Nat.le_of_ble_eq_true rfl) ?_
  intro p e s m below meth c A ls args Q F hZ h hl hret
  have hl : lv_has ls 2 [(0, .ref a0), (1, .int x1)] := hl
  refine lv_aload_n F.1 F.2.1 dX10_at_0 rfl (lv_at hl 0 rfl) ?_
  refine lv_iload_n F.1 F.2.1 dX10_at_1 rfl (lv_at hl 1 rfl) ?_
  refine tw_iconst F dX10_at_2 ki_1 (fun z1 hz1 => ?_)
  refine tw_Vi (As := [.int x1, .int z1]) F hZ h yk_X10_holds mw_310 mw_303 mw_304 (s_X10_holdsY l D cy L R O f0 a0 m_a0 r_a0 x1 z1 (by omega)) rfl rfl m_a0 r_a0 (fun e q => (T_10 e).mp q) rfl hl.1 rfl (Nat.le_of_ble_eq_true rfl) ⟨Nat.le_of_ble_eq_true rfl, Nat.le_of_ble_eq_true rfl⟩ ⟨Nat.le_of_ble_eq_true rfl, Nat.le_of_ble_eq_true rfl⟩ dX10_at_3 (fun v3 f2 H locs hp2 h => ?_)
  obtain ⟨rfl, hv3a, hv3b, hv3p0, hv3p1, hv3p2⟩ := hp2
  refine tw_if_eq (tgt := 18) F dX10_at_6 (by decide) (fun b4 => ?_) (fun b4 => ?_)
  · refine tu_ldc2 F mw_335 dX10_at_18 kl_m1 (fun z5 hz5 => ?_)
    exact hret f0 _ _ _ _ z5 dX10_at_21 ⟨rfl, (by omega)⟩ h
  · refine lv_aload_n F.1 F.2.1 dX10_at_9 rfl (lv_at hl 0 rfl) ?_
    refine g_10_9 F h m_a0 r_a0 dX10_at_10 (fun o6 m_o6 r_o6 ho6 => ?_)
    refine lv_iload_n F.1 F.2.1 dX10_at_13 rfl (lv_at hl 1 rfl) ?_
    refine le_54 F h m_o6 r_o6 (by omega) dX10_at_14 (fun v7 ev7 => ?_)
    refine lv_goto (tgt := 21) F.1 F.2.1 dX10_at_15 (by decide) ?_
    exact hret f0 _ _ _ _ v7 dX10_at_21 ⟨rfl, (by rw [rfa_of ho6]; omega)⟩ h
def rm_X11_trayZ : Room := { frames := 1, cells := 0, slots := 0, locals := 23 }
set_option maxHeartbeats 4000000 in
set_option maxRecDepth 100000 in
theorem s_X11_trayZ (l : Launch) (D : va_G) (cy : Nat → ClassId) (L : List Nat) (R O : Nat → Nat) (f0 : Nat → va_E) (a0 : Nat) (m_a0 : a0 ∈ L) (r_a0 : R a0 = 11) (x1 : Int32) (x2 : Int32) (x3 : Int32) (P : Nat → Nat) (pre0 : ∀ i, i < 4 → P (trs f0 a0 i) = i) (pre1 : ∀ i, i < 4 → P (rfa f0 (trs f0 a0 i) 0) = i) : ∀ sz, Met l yX11_tray (Cond.code yX11_tray cX11_tray 4 (some .boolean) :: wsL_law) rm_X11_trayZ (va_Pc [.ref a0, .int x1, .int x2, .int x3] (tPZ D cy L R (TT cy L R) f0 sz)) (va_Qi (fun (r : Int32) f1 => fr L R [(10, 1), (10, 2), (11, 14)] [10, 11, 54] f0 f1 ∧ 0 ≤ r.toInt ∧ r.toInt ≤ 1 ∧ ((r.toInt = 1 ∧ (0 ≤ x1.toInt ∧ x1.toInt ≤ 3 ∧ 0 ≤ x2.toInt ∧ x2.toInt ≤ 3 ∧ 0 ≤ x3.toInt ∧ x3.toInt ≤ 60)) ∨ (r.toInt = 0 ∧ ¬ (0 ≤ x1.toInt ∧ x1.toInt ≤ 3 ∧ 0 ≤ x2.toInt ∧ x2.toInt ≤ 3 ∧ 0 ≤ x3.toInt ∧ x3.toInt ≤ 60))) ∧ (∀ i, i < 4 → ((i = x1.toInt.toNat ∧ r.toInt = 1 ∧ CS f1 a0 i = x3.toInt ∧ CT f1 a0 i = x2.toInt) ∨ ((i ≠ x1.toInt.toNat ∨ r.toInt = 0) ∧ CS f1 a0 i = CS f0 a0 i ∧ CT f1 a0 i = CT f0 a0 i))) ∧ (∀ i, i < 4 → ∀ j : Nat, j < 60 → ((i = x1.toInt.toNat ∧ r.toInt = 1 ∧ CN f1 a0 i j = 0) ∨ ((i ≠ x1.toInt.toNat ∨ r.toInt = 0) ∧ CN f1 a0 i j = CN f0 a0 i j)))) (tB D (tA L sz) L R (TT cy L R)) (tA L sz)) 0 0 (tA L sz) := by
  refine tw_enteri (by decide +kernel) rfl (Nat.le_of_ble_eq_true rfl) ?_
  intro p e s m below meth c A ls args Q F hZ h hl hret
  have hl : lv_has ls 4 [(0, .ref a0), (1, .int x1), (2, .int x2), (3, .int x3)] := hl
  have hk : fr L R [(10, 1), (10, 2), (11, 14)] [10, 11, 54] f0 f0 := fr.rf
  have htm := TMc_of h m_a0 r_a0
  have htn := TMn_of h htm
  refine lv_iload_n F.1 F.2.1 dX11_tray_0 rfl (lv_at hl 1 rfl) ?_
  refine tw_Si (As := [.int x1]) F hZ h yk_X11_isTray mw_268 mw_269 (s_X11_isTrayF l D cy L R O f0 x1) rfl rfl hl.1 rfl (Nat.le_of_ble_eq_true rfl) ⟨Nat.le_of_ble_eq_true rfl, Nat.le_of_ble_eq_true rfl⟩ ⟨Nat.le_of_ble_eq_true rfl, Nat.le_of_ble_eq_true rfl⟩ dX11_tray_1 (fun v2 f1 H locs hp1 h => ?_)
  obtain ⟨rfl, hv2a, hv2b, hv2p0⟩ := hp1
  refine tw_if_eq (tgt := 26) F dX11_tray_4 (by decide) (fun b3 => ?_) (fun b3 => ?_)
  · refine lv_aload_n F.1 F.2.1 dX11_tray_26 rfl (lv_at hl 0 rfl) ?_
    refine tw_iconst F dX11_tray_27 ki_1 (fun z4 hz4 => ?_)
    refine tw_Vi (As := [.int z4]) F hZ h yk_X11_settle mw_271 mw_272 mw_273 (s_X11_settle l D cy L R O f0 a0 m_a0 r_a0 z4 ⟨by omega, by omega⟩) rfl rfl m_a0 r_a0 (fun e q => (T_11 e).mp q) rfl hl.1 rfl (Nat.le_of_ble_eq_true rfl) ⟨Nat.le_of_ble_eq_true rfl, Nat.le_of_ble_eq_true rfl⟩ ⟨Nat.le_of_ble_eq_true rfl, Nat.le_of_ble_eq_true rfl⟩ dX11_tray_28 (fun v6 f5 H locs hp5 h => ?_)
    obtain ⟨hf5, hv6a, hv6b, hv6p0⟩ := hp5
    have hk : fr L R [(10, 1), (10, 2), (11, 14)] [10, 11, 54] f0 f5 := hk.tr hf5 rfl rfl
    exact hret f5 _ _ _ _ v6 dX11_tray_31 (tw_nb (by omega)) ⟨hk, by omega, by omega, by omega, (fun i hi => by have q := TRc htm hf5 m_a0 r_a0 (by decide +kernel) (by decide +kernel) (by decide +kernel) (by decide +kernel) i hi; omega), (fun i hi j hj => by have q := TNc htm htn hf5 m_a0 r_a0 (by decide +kernel) (by decide +kernel) (by decide +kernel) (by decide +kernel) i hi j; omega)⟩ h
  · refine lv_iload_n F.1 F.2.1 dX11_tray_7 rfl (lv_at hl 2 rfl) ?_
    refine tw_if_lt (tgt := 26) F dX11_tray_8 (by decide) (fun b7 => ?_) (fun b7 => ?_)
    · refine lv_aload_n F.1 F.2.1 dX11_tray_26 rfl (lv_at hl 0 rfl) ?_
      refine tw_iconst F dX11_tray_27 ki_1 (fun z8 hz8 => ?_)
      refine tw_Vi (As := [.int z8]) F hZ h yk_X11_settle mw_271 mw_272 mw_273 (s_X11_settle l D cy L R O f0 a0 m_a0 r_a0 z8 ⟨by omega, by omega⟩) rfl rfl m_a0 r_a0 (fun e q => (T_11 e).mp q) rfl hl.1 rfl (Nat.le_of_ble_eq_true rfl) ⟨Nat.le_of_ble_eq_true rfl, Nat.le_of_ble_eq_true rfl⟩ ⟨Nat.le_of_ble_eq_true rfl, Nat.le_of_ble_eq_true rfl⟩ dX11_tray_28 (fun v10 f9 H locs hp9 h => ?_)
      obtain ⟨hf9, hv10a, hv10b, hv10p0⟩ := hp9
      have hk : fr L R [(10, 1), (10, 2), (11, 14)] [10, 11, 54] f0 f9 := hk.tr hf9 rfl rfl
      exact hret f9 _ _ _ _ v10 dX11_tray_31 (tw_nb (by omega)) ⟨hk, by omega, by omega, by omega, (fun i hi => by have q := TRc htm hf9 m_a0 r_a0 (by decide +kernel) (by decide +kernel) (by decide +kernel) (by decide +kernel) i hi; omega), (fun i hi j hj => by have q := TNc htm htn hf9 m_a0 r_a0 (by decide +kernel) (by decide +kernel) (by decide +kernel) (by decide +kernel) i hi j; omega)⟩ h
    · refine lv_iload_n F.1 F.2.1 dX11_tray_11 rfl (lv_at hl 2 rfl) ?_
      refine tw_iconst F dX11_tray_12 ki_4 (fun z11 hz11 => ?_)
      refine tw_icmp_ge (tgt := 26) F dX11_tray_13 (by decide) (fun b12 => ?_) (fun b12 => ?_)
      · refine lv_aload_n F.1 F.2.1 dX11_tray_26 rfl (lv_at hl 0 rfl) ?_
        refine tw_iconst F dX11_tray_27 ki_1 (fun z13 hz13 => ?_)
        refine tw_Vi (As := [.int z13]) F hZ h yk_X11_settle mw_271 mw_272 mw_273 (s_X11_settle l D cy L R O f0 a0 m_a0 r_a0 z13 ⟨by omega, by omega⟩) rfl rfl m_a0 r_a0 (fun e q => (T_11 e).mp q) rfl hl.1 rfl (Nat.le_of_ble_eq_true rfl) ⟨Nat.le_of_ble_eq_true rfl, Nat.le_of_ble_eq_true rfl⟩ ⟨Nat.le_of_ble_eq_true rfl, Nat.le_of_ble_eq_true rfl⟩ dX11_tray_28 (fun v15 f14 H locs hp14 h => ?_)
        obtain ⟨hf14, hv15a, hv15b, hv15p0⟩ := hp14
        have hk : fr L R [(10, 1), (10, 2), (11, 14)] [10, 11, 54] f0 f14 := hk.tr hf14 rfl rfl
        exact hret f14 _ _ _ _ v15 dX11_tray_31 (tw_nb (by omega)) ⟨hk, by omega, by omega, by omega, (fun i hi => by have q := TRc htm hf14 m_a0 r_a0 (by decide +kernel) (by decide +kernel) (by decide +kernel) (by decide +kernel) i hi; omega), (fun i hi j hj => by have q := TNc htm htn hf14 m_a0 r_a0 (by decide +kernel) (by decide +kernel) (by decide +kernel) (by decide +kernel) i hi j; omega)⟩ h
      · refine lv_iload_n F.1 F.2.1 dX11_tray_16 rfl (lv_at hl 3 rfl) ?_
        refine tw_if_lt (tgt := 26) F dX11_tray_17 (by decide) (fun b16 => ?_) (fun b16 => ?_)
        · refine lv_aload_n F.1 F.2.1 dX11_tray_26 rfl (lv_at hl 0 rfl) ?_
          refine tw_iconst F dX11_tray_27 ki_1 (fun z17 hz17 => ?_)
          refine tw_Vi (As := [.int z17]) F hZ h yk_X11_settle mw_271 mw_272 mw_273 (s_X11_settle l D cy L R O f0 a0 m_a0 r_a0 z17 ⟨by omega, by omega⟩) rfl rfl m_a0 r_a0 (fun e q => (T_11 e).mp q) rfl hl.1 rfl (Nat.le_of_ble_eq_true rfl) ⟨Nat.le_of_ble_eq_true rfl, Nat.le_of_ble_eq_true rfl⟩ ⟨Nat.le_of_ble_eq_true rfl, Nat.le_of_ble_eq_true rfl⟩ dX11_tray_28 (fun v19 f18 H locs hp18 h => ?_)
          obtain ⟨hf18, hv19a, hv19b, hv19p0⟩ := hp18
          have hk : fr L R [(10, 1), (10, 2), (11, 14)] [10, 11, 54] f0 f18 := hk.tr hf18 rfl rfl
          exact hret f18 _ _ _ _ v19 dX11_tray_31 (tw_nb (by omega)) ⟨hk, by omega, by omega, by omega, (fun i hi => by have q := TRc htm hf18 m_a0 r_a0 (by decide +kernel) (by decide +kernel) (by decide +kernel) (by decide +kernel) i hi; omega), (fun i hi j hj => by have q := TNc htm htn hf18 m_a0 r_a0 (by decide +kernel) (by decide +kernel) (by decide +kernel) (by decide +kernel) i hi j; omega)⟩ h
        · refine lv_iload_n F.1 F.2.1 dX11_tray_20 rfl (lv_at hl 3 rfl) ?_
          refine tw_bipush F dX11_tray_21 kb_60 (fun z20 hz20 => ?_)
          refine tw_icmp_le (tgt := 32) F dX11_tray_23 (by decide) (fun b21 => ?_) (fun b21 => ?_)
          · refine lv_aload_n F.1 F.2.1 dX11_tray_32 rfl (lv_at hl 0 rfl) ?_
            refine g_11_11 F h m_a0 r_a0 dX11_tray_33 (fun o22 m_o22 r_o22 ho22 => ?_)
            refine lv_iload_n F.1 F.2.1 dX11_tray_36 rfl (lv_at hl 1 rfl) ?_
            refine le_55 F h m_o22 r_o22 (by omega) dX11_tray_37 (fun o23 m_o23 r_o23 eo23 => ?_)
            refine lv_iload_n F.1 F.2.1 dX11_tray_38 rfl (lv_at hl 2 rfl) ?_
            refine lv_iload_n F.1 F.2.1 dX11_tray_39 rfl (lv_at hl 3 rfl) ?_
            refine tw_Vv (As := [.int x2, .int x3]) F hZ h yk_X10_make mw_275 mw_276 mw_277 (s_X10_makeZ l D cy L R O f0 o23 m_o23 r_o23 x2 ⟨by omega, by omega⟩ x3 ⟨by omega, by omega⟩) rfl rfl m_o23 r_o23 (fun e q => (T_10 e).mp q) rfl hl.1 rfl (Nat.le_of_ble_eq_true rfl) ⟨Nat.le_of_ble_eq_true rfl, Nat.le_of_ble_eq_true rfl⟩ ⟨Nat.le_of_ble_eq_true rfl, Nat.le_of_ble_eq_true rfl⟩ dX11_tray_40 (fun f24 H locs hp24 h => ?_)
            obtain ⟨hf24, hv25p0, hv25p1, hv25p2, hv25p3, hv25p4⟩ := hp24
            have hk : fr L R [(10, 1), (10, 2), (11, 14)] [10, 11, 54] f0 f24 := hk.tr hf24 rfl rfl
            refine lv_aload_n F.1 F.2.1 dX11_tray_43 rfl (lv_at hl 0 rfl) ?_
            refine tw_iconst F dX11_tray_44 ki_0 (fun z26 hz26 => ?_)
            refine tw_Vi (As := [.int z26]) F hZ h yk_X11_settle mw_271 mw_272 mw_273 (s_X11_settle l D cy L R O f24 a0 m_a0 r_a0 z26 ⟨by omega, by omega⟩) rfl rfl m_a0 r_a0 (fun e q => (T_11 e).mp q) rfl hl.1 rfl (Nat.le_of_ble_eq_true rfl) ⟨Nat.le_of_ble_eq_true rfl, Nat.le_of_ble_eq_true rfl⟩ ⟨Nat.le_of_ble_eq_true rfl, Nat.le_of_ble_eq_true rfl⟩ dX11_tray_45 (fun v28 f27 H locs hp27 h => ?_)
            obtain ⟨hf27, hv28a, hv28b, hv28p0⟩ := hp27
            have hk : fr L R [(10, 1), (10, 2), (11, 14)] [10, 11, 54] f0 f27 := hk.tr hf27 rfl rfl
            exact hret f27 _ _ _ _ v28 dX11_tray_48 (tw_nb (by omega)) ⟨hk, by omega, by omega, by omega, (fun i hi => by have q := TR_make htm P pre0 hf24 m_a0 r_a0 (by decide +kernel) (by decide +kernel) (n := x1.toInt.toNat) (by omega) (by rw [rfa_of ho22]; exact eo23) hv25p2 hv25p0 hv25p1 i hi; have q2 := TRc (htm.fr hf24 m_a0 r_a0 (by decide +kernel) (by decide +kernel)) hf27 m_a0 r_a0 (by decide +kernel) (by decide +kernel) (by decide +kernel) (by decide +kernel) i hi; omega), (fun i hi j hj => by have q := TN_one htm htn P pre1 hf24 m_a0 r_a0 (by decide +kernel) (by decide +kernel) (by decide +kernel) (n := x1.toInt.toNat) (by omega) (by rw [rfa_of ho22]; exact eo23) hv25p4 hv25p3 i hi j hj; have q2 := TNc (htm.fr hf24 m_a0 r_a0 (by decide +kernel) (by decide +kernel)) (htn.fr htm hf24 m_a0 r_a0 (by decide +kernel) (by decide +kernel) (by decide +kernel)) hf27 m_a0 r_a0 (by decide +kernel) (by decide +kernel) (by decide +kernel) (by decide +kernel) i hi j; omega)⟩ h
          · refine lv_aload_n F.1 F.2.1 dX11_tray_26 rfl (lv_at hl 0 rfl) ?_
            refine tw_iconst F dX11_tray_27 ki_1 (fun z29 hz29 => ?_)
            refine tw_Vi (As := [.int z29]) F hZ h yk_X11_settle mw_271 mw_272 mw_273 (s_X11_settle l D cy L R O f0 a0 m_a0 r_a0 z29 ⟨by omega, by omega⟩) rfl rfl m_a0 r_a0 (fun e q => (T_11 e).mp q) rfl hl.1 rfl (Nat.le_of_ble_eq_true rfl) ⟨Nat.le_of_ble_eq_true rfl, Nat.le_of_ble_eq_true rfl⟩ ⟨Nat.le_of_ble_eq_true rfl, Nat.le_of_ble_eq_true rfl⟩ dX11_tray_28 (fun v31 f30 H locs hp30 h => ?_)
            obtain ⟨hf30, hv31a, hv31b, hv31p0⟩ := hp30
            have hk : fr L R [(10, 1), (10, 2), (11, 14)] [10, 11, 54] f0 f30 := hk.tr hf30 rfl rfl
            exact hret f30 _ _ _ _ v31 dX11_tray_31 (tw_nb (by omega)) ⟨hk, by omega, by omega, by omega, (fun i hi => by have q := TRc htm hf30 m_a0 r_a0 (by decide +kernel) (by decide +kernel) (by decide +kernel) (by decide +kernel) i hi; omega), (fun i hi j hj => by have q := TNc htm htn hf30 m_a0 r_a0 (by decide +kernel) (by decide +kernel) (by decide +kernel) (by decide +kernel) i hi j; omega)⟩ h
def rm_X11_writeZ : Room := { frames := 2, cells := 0, slots := 0, locals := 45 }
set_option maxHeartbeats 4000000 in
set_option maxRecDepth 100000 in
theorem s_X11_writeZ (l : Launch) (D : va_G) (cy : Nat → ClassId) (L : List Nat) (R O : Nat → Nat) (f0 : Nat → va_E) (a0 : Nat) (m_a0 : a0 ∈ L) (r_a0 : R a0 = 11) (x1 : Int32) (x2 : Int32) (x3 : Int64) (P : Nat → Nat) (pre0 : ∀ i, i < 4 → P (rfa f0 (trs f0 a0 i) 0) = i) : ∀ sz, Met l yX11_write (Cond.code yX11_write cX11_write 6 (some .boolean) :: wsL_law) rm_X11_writeZ (va_Pc [.ref a0, .int x1, .int x2, .long x3] (tPZ D cy L R (TT cy L R) f0 sz)) (va_Qi (fun (r : Int32) f1 => fr L R [(11, 14)] [11, 54] f0 f1 ∧ 0 ≤ r.toInt ∧ r.toInt ≤ 1 ∧ ((r.toInt = 1 ∧ (0 ≤ x1.toInt ∧ x1.toInt ≤ 3 ∧ 0 ≤ x2.toInt ∧ x2.toInt < CS f0 a0 x1.toInt.toNat)) ∨ (r.toInt = 0 ∧ ¬ (0 ≤ x1.toInt ∧ x1.toInt ≤ 3 ∧ 0 ≤ x2.toInt ∧ x2.toInt < CS f0 a0 x1.toInt.toNat))) ∧ (∀ i, i < 4 → ∀ j : Nat, j < 60 → ((((0 ≤ x1.toInt ∧ x1.toInt ≤ 3 ∧ 0 ≤ x2.toInt ∧ x2.toInt < CS f0 a0 i) ∧ i = x1.toInt.toNat ∧ j = x2.toInt.toNat) ∧ CN f1 a0 i j = cutf (CT f0 a0 i) x3) ∨ (¬ ((0 ≤ x1.toInt ∧ x1.toInt ≤ 3 ∧ 0 ≤ x2.toInt ∧ x2.toInt < CS f0 a0 i) ∧ i = x1.toInt.toNat ∧ j = x2.toInt.toNat) ∧ CN f1 a0 i j = CN f0 a0 i j)))) (tB D (tA L sz) L R (TT cy L R)) (tA L sz)) 0 0 (tA L sz) := by
  refine tw_enteri (by decide +kernel) rfl (Nat.le_of_ble_eq_true rfl) ?_
  intro p e s m below meth c A ls args Q F hZ h hl hret
  have hl : lv_has ls 6 [(0, .ref a0), (1, .int x1), (2, .int x2), (3, .long x3)] := hl
  have hk : fr L R [(11, 14)] [11, 54] f0 f0 := fr.rf
  have htm := TMc_of h m_a0 r_a0
  have htn := TMn_of h htm
  refine lv_aload_n F.1 F.2.1 dX11_write_0 rfl (lv_at hl 0 rfl) ?_
  refine lv_iload_n F.1 F.2.1 dX11_write_1 rfl (lv_at hl 1 rfl) ?_
  refine lv_iload_n F.1 F.2.1 dX11_write_2 rfl (lv_at hl 2 rfl) ?_
  refine tw_Vi (As := [.int x1, .int x2]) F hZ h yk_X11_placeStatus mw_294 mw_295 mw_296 (s_X11_placeStatusY l D cy L R O f0 a0 m_a0 r_a0 x1 x2) rfl rfl m_a0 r_a0 (fun e q => (T_11 e).mp q) rfl hl.1 rfl (Nat.le_of_ble_eq_true rfl) ⟨Nat.le_of_ble_eq_true rfl, Nat.le_of_ble_eq_true rfl⟩ ⟨Nat.le_of_ble_eq_true rfl, Nat.le_of_ble_eq_true rfl⟩ dX11_write_3 (fun v2 f1 H locs hp1 h => ?_)
  obtain ⟨rfl, hv2a, hv2b, hv2p0, hv2p1⟩ := hp1
  refine lv_istore (lv' := [(5, .int v2), (0, .ref a0), (1, .int x1), (2, .int x2), (3, .long x3)]) F.1 F.2.1 dX11_write_6 hl (by decide) rfl (fun ls hl => ?_)
  refine lv_iload F.1 F.2.1 dX11_write_8 (lv_at hl 0 rfl) ?_
  refine tw_if_ne (tgt := 24) F dX11_write_10 (by decide) (fun b3 => ?_) (fun b3 => ?_)
  · refine lv_aload_n F.1 F.2.1 dX11_write_24 rfl (lv_at hl 1 rfl) ?_
    refine lv_iload F.1 F.2.1 dX11_write_25 (lv_at hl 0 rfl) ?_
    refine tw_Vi (As := [.int v2]) F hZ h yk_X11_settle mw_271 mw_272 mw_273 (s_X11_settle l D cy L R O f0 a0 m_a0 r_a0 v2 ⟨by omega, by omega⟩) rfl rfl m_a0 r_a0 (fun e q => (T_11 e).mp q) rfl hl.1 rfl (Nat.le_of_ble_eq_true rfl) ⟨Nat.le_of_ble_eq_true rfl, Nat.le_of_ble_eq_true rfl⟩ ⟨Nat.le_of_ble_eq_true rfl, Nat.le_of_ble_eq_true rfl⟩ dX11_write_27 (fun v5 f4 H locs hp4 h => ?_)
    obtain ⟨hf4, hv5a, hv5b, hv5p0⟩ := hp4
    have hk : fr L R [(11, 14)] [11, 54] f0 f4 := hk.tr hf4 rfl rfl
    exact hret f4 _ _ _ _ v5 dX11_write_30 (tw_nb (by omega)) ⟨hk, by omega, by omega, by omega, (fun i hi j hj => by have q := TNc htm htn hf4 m_a0 r_a0 (by decide +kernel) (by decide +kernel) (by decide +kernel) (by decide +kernel) i hi j; exact Or.inr ⟨fun w => by obtain ⟨w1, w2, w3⟩ := w; rw [w2] at w1; omega, q⟩)⟩ h
  · refine lv_aload_n F.1 F.2.1 dX11_write_13 rfl (lv_at hl 1 rfl) ?_
    refine g_11_11 F h m_a0 r_a0 dX11_write_14 (fun o6 m_o6 r_o6 ho6 => ?_)
    refine lv_iload_n F.1 F.2.1 dX11_write_17 rfl (lv_at hl 2 rfl) ?_
    refine le_55 F h m_o6 r_o6 (by omega) dX11_write_18 (fun o7 m_o7 r_o7 eo7 => ?_)
    have cs18 := CS_of ho6 eo7
    refine lv_iload_n F.1 F.2.1 dX11_write_19 rfl (lv_at hl 3 rfl) ?_
    refine lv_lload_n F.1 F.2.1 dX11_write_20 rfl (lv_at hl 4 rfl) ?_
    refine tw_Vv (As := [.int x2, .long x3]) F hZ h yk_X10_put mw_306 mw_307 mw_308 (s_X10_putZ l D cy L R O f0 o7 m_o7 r_o7 x2 ⟨by omega, by omega⟩ x3) rfl rfl m_o7 r_o7 (fun e q => (T_10 e).mp q) rfl hl.1 rfl (Nat.le_of_ble_eq_true rfl) ⟨Nat.le_of_ble_eq_true rfl, Nat.le_of_ble_eq_true rfl⟩ ⟨Nat.le_of_ble_eq_true rfl, Nat.le_of_ble_eq_true rfl⟩ dX11_write_21 (fun f8 H locs hp8 h => ?_)
    obtain ⟨hf8, hv9p0, hv9p1⟩ := hp8
    have hk : fr L R [(11, 14)] [11, 54] f0 f8 := hk.tr hf8 rfl rfl
    refine lv_aload_n F.1 F.2.1 dX11_write_24 rfl (lv_at hl 1 rfl) ?_
    refine lv_iload F.1 F.2.1 dX11_write_25 (lv_at hl 0 rfl) ?_
    refine tw_Vi (As := [.int v2]) F hZ h yk_X11_settle mw_271 mw_272 mw_273 (s_X11_settle l D cy L R O f8 a0 m_a0 r_a0 v2 ⟨by omega, by omega⟩) rfl rfl m_a0 r_a0 (fun e q => (T_11 e).mp q) rfl hl.1 rfl (Nat.le_of_ble_eq_true rfl) ⟨Nat.le_of_ble_eq_true rfl, Nat.le_of_ble_eq_true rfl⟩ ⟨Nat.le_of_ble_eq_true rfl, Nat.le_of_ble_eq_true rfl⟩ dX11_write_27 (fun v11 f10 H locs hp10 h => ?_)
    obtain ⟨hf10, hv11a, hv11b, hv11p0⟩ := hp10
    have hk : fr L R [(11, 14)] [11, 54] f0 f10 := hk.tr hf10 rfl rfl
    exact hret f10 _ _ _ _ v11 dX11_write_30 (tw_nb (by omega)) ⟨hk, by omega, by omega, by omega, (fun i hi j hj => by have q := TN_one htm htn P pre0 hf8 m_a0 r_a0 (by decide +kernel) (by decide +kernel) (by decide +kernel) (n := x1.toInt.toNat) (by omega) (by rw [rfa_of ho6]; exact eo7) hv9p1 (fun j _ => hv9p0 (by omega) j) i hi j hj; have q2 := TNc (htm.fr hf8 m_a0 r_a0 (by decide +kernel) (by decide +kernel)) (htn.fr htm hf8 m_a0 r_a0 (by decide +kernel) (by decide +kernel) (by decide +kernel)) hf10 m_a0 r_a0 (by decide +kernel) (by decide +kernel) (by decide +kernel) (by decide +kernel) i hi j; have q3 := CN_of ho6 eo7 j; have q4 := CS_of ho6 eo7; exact (if e1 : i = x1.toInt.toNat then (if e2 : j = x2.toInt.toNat then Or.inl ⟨⟨by rw [e1]; omega, e1, e2⟩, by rw [if_pos e2] at q; rw [q2, e1, q4.2]; rw [e1] at q; omega⟩ else Or.inr ⟨fun w => e2 w.2.2, by rw [if_neg e2] at q; rw [q2]; rw [e1] at q ⊢; omega⟩) else Or.inr ⟨fun w => e1 w.2.1, by omega⟩))⟩ h
section
variable {p : Program} {l : Launch} {e : Env} {R0 : Room} {s : State} {m : MethodId} {args : Array Value} {below : List Frame} {meth : Method} {c : Code} {H H0 : Heap} {locs : List Loc} {cells slots : Nat} {Q : State → Prop} {cc : ByteArray} {nL : Nat} {D : va_G} {cy : Nat → ClassId} {A : Nat → Prop} {L : List Nat} {R : Nat → Nat} {f : Nat → va_E} {pc : Nat} {ls : Array Slot} {rest : List Value} {a : Nat}
theorem cpe_54_54 {own : String} (F : CallFix p m c cc nL s args wsL_law own) (h : tS D cy A H0 L R (TT cy L R) f s H locs) (hsz : ls.size = nL) {index a0 : Nat} (m1 : Cond.methodLink own index arraycopyName ∈ wsL_law) (ha0 : a0 ∈ L) (hr0 : R a0 = 54) (ha : a ∈ L) (hr : R a = 54) {sp dp n : Int32} (hb : 0 ≤ sp.toInt ∧ 0 ≤ dp.toInt ∧ 0 ≤ n.toInt ∧ sp.toInt + n.toInt ≤ 60 ∧ dp.toInt + n.toInt ≤ 60) (hfr : 1 ≤ R0.frames) (hlo : (rest.map fun v => v.category).sum + (nativeFrameWords "java/lang/System" "arraycopy" 5 + 11) ≤ R0.locals) (hdg : decode cc pc = .ok (.invokestatic index, 3)) (kk : ∀ (f1 : Nat → va_E) (H1 : Heap) (locs1 : List Loc), (∀ j, elj f1 a j = if dp.toInt.toNat ≤ j ∧ j < dp.toInt.toNat + n.toInt.toNat then elj f a0 (sp.toInt.toNat + (j - dp.toInt.toNat)) else elj f a j) → (∀ a', a' ≠ a → f1 a' = f a') → fr L R [] [54] f f1 → tS D cy A H0 L R (TT cy L R) f1 s H1 locs1 → W p l e R0 s m args below meth c H1 locs1 cells slots Q (F0 m (pc + 3) ls (rest))) : W p l e R0 s m args below meth c H locs cells slots Q (F0 m pc ls (.int n :: .int dp :: .ref a :: .int sp :: .ref a0 :: rest)) := tu_cpyl F h hsz m1 mw_348 mw_349 mw_350 ha0 hr0 (fun e q => (T_54 e).mp q) ha hr T_54 (fun _ _ _ q => q) hb hfr hlo hdg (fun f1 H1 locs1 h1 h2 h3 h4 => kk f1 H1 locs1 h1 h2 h3 h4)
end
def rm_X11_pourZ : Room := { frames := 1, cells := 0, slots := 0, locals := 40 }
set_option maxHeartbeats 4000000 in
set_option maxRecDepth 100000 in
theorem s_X11_pourZ (l : Launch) (D : va_G) (cy : Nat → ClassId) (L : List Nat) (R O : Nat → Nat) (f0 : Nat → va_E) (a0 : Nat) (m_a0 : a0 ∈ L) (r_a0 : R a0 = 11) (x1 : Int32) (x2 : Int32) (x3 : Int32) (x4 : Int32) (x5 : Int32) (P : Nat → Nat) (pre0 : ∀ i, i < 4 → P (rfa f0 (trs f0 a0 i) 0) = i) : ∀ sz, Met l yX11_pour (Cond.code yX11_pour cX11_pour 8 (some .boolean) :: wsL_law) rm_X11_pourZ (va_Pc [.ref a0, .int x1, .int x2, .int x3, .int x4, .int x5] (tPZ D cy L R (TT cy L R) f0 sz)) (va_Qi (fun (r : Int32) f1 => fr L R [(11, 14)] [11, 54] f0 f1 ∧ 0 ≤ r.toInt ∧ r.toInt ≤ 1 ∧ ((r.toInt = 1 ∧ (0 ≤ x1.toInt ∧ x1.toInt ≤ 3 ∧ 0 ≤ x3.toInt ∧ x3.toInt ≤ 3 ∧ 0 ≤ x2.toInt ∧ 0 ≤ x4.toInt ∧ 0 ≤ x5.toInt ∧ CT f0 a0 x1.toInt.toNat = CT f0 a0 x3.toInt.toNat ∧ x2.toInt + x5.toInt ≤ CS f0 a0 x1.toInt.toNat ∧ x4.toInt + x5.toInt ≤ CS f0 a0 x3.toInt.toNat)) ∨ (r.toInt = 0 ∧ ¬ (0 ≤ x1.toInt ∧ x1.toInt ≤ 3 ∧ 0 ≤ x3.toInt ∧ x3.toInt ≤ 3 ∧ 0 ≤ x2.toInt ∧ 0 ≤ x4.toInt ∧ 0 ≤ x5.toInt ∧ CT f0 a0 x1.toInt.toNat = CT f0 a0 x3.toInt.toNat ∧ x2.toInt + x5.toInt ≤ CS f0 a0 x1.toInt.toNat ∧ x4.toInt + x5.toInt ≤ CS f0 a0 x3.toInt.toNat))) ∧ (∀ i, i < 4 → ∀ j : Nat, j < 60 → ((((0 ≤ x1.toInt ∧ x1.toInt ≤ 3 ∧ 0 ≤ x3.toInt ∧ x3.toInt ≤ 3 ∧ 0 ≤ x2.toInt ∧ 0 ≤ x4.toInt ∧ 0 ≤ x5.toInt ∧ CT f0 a0 x1.toInt.toNat = CT f0 a0 i ∧ x2.toInt + x5.toInt ≤ CS f0 a0 x1.toInt.toNat ∧ x4.toInt + x5.toInt ≤ CS f0 a0 i) ∧ i = x3.toInt.toNat ∧ x4.toInt.toNat ≤ j ∧ (j : Int) < x4.toInt + x5.toInt) ∧ CN f1 a0 i j = CN f0 a0 x1.toInt.toNat (x2.toInt.toNat + (j - x4.toInt.toNat))) ∨ (¬ ((0 ≤ x1.toInt ∧ x1.toInt ≤ 3 ∧ 0 ≤ x3.toInt ∧ x3.toInt ≤ 3 ∧ 0 ≤ x2.toInt ∧ 0 ≤ x4.toInt ∧ 0 ≤ x5.toInt ∧ CT f0 a0 x1.toInt.toNat = CT f0 a0 i ∧ x2.toInt + x5.toInt ≤ CS f0 a0 x1.toInt.toNat ∧ x4.toInt + x5.toInt ≤ CS f0 a0 i) ∧ i = x3.toInt.toNat ∧ x4.toInt.toNat ≤ j ∧ (j : Int) < x4.toInt + x5.toInt) ∧ CN f1 a0 i j = CN f0 a0 i j)))) (tB D (tA L sz) L R (TT cy L R)) (tA L sz)) 0 0 (tA L sz) := by
  refine tw_enteri (by decide +kernel) rfl (Nat.le_of_ble_eq_true rfl) ?_
  intro p e s m below meth c A ls args Q F hZ h hl hret
  have hl : lv_has ls 8 [(0, .ref a0), (1, .int x1), (2, .int x2), (3, .int x3), (4, .int x4), (5, .int x5)] := hl
  have hk : fr L R [(11, 14)] [11, 54] f0 f0 := fr.rf
  obtain ⟨a0_trays, m_a0_trays, r_a0_trays, t_a0_trays⟩ := h.rf m_a0 r_a0 (fun e q => (T_11 e).mp q) (k := 0) rfl
  have htm := TMc_of h m_a0 r_a0
  have htn := TMn_of h htm
  refine lv_iload_n F.1 F.2.1 dX11_pour_0 rfl (lv_at hl 1 rfl) ?_
  refine tw_Si (As := [.int x1]) F hZ h yk_X11_isTray mw_268 mw_269 (s_X11_isTrayF l D cy L R O f0 x1) rfl rfl hl.1 rfl (Nat.le_of_ble_eq_true rfl) ⟨Nat.le_of_ble_eq_true rfl, Nat.le_of_ble_eq_true rfl⟩ ⟨Nat.le_of_ble_eq_true rfl, Nat.le_of_ble_eq_true rfl⟩ dX11_pour_1 (fun v2 f1 H locs hp1 h => ?_)
  obtain ⟨rfl, hv2a, hv2b, hv2p0⟩ := hp1
  refine tw_if_eq (tgt := 28) F dX11_pour_4 (by decide) (fun b3 => ?_) (fun b3 => ?_)
  · refine lv_aload_n F.1 F.2.1 dX11_pour_28 rfl (lv_at hl 0 rfl) ?_
    refine tw_iconst F dX11_pour_29 ki_1 (fun z4 hz4 => ?_)
    refine tw_Vi (As := [.int z4]) F hZ h yk_X11_settle mw_271 mw_272 mw_273 (s_X11_settle l D cy L R O f0 a0 m_a0 r_a0 z4 ⟨by omega, by omega⟩) rfl rfl m_a0 r_a0 (fun e q => (T_11 e).mp q) rfl hl.1 rfl (Nat.le_of_ble_eq_true rfl) ⟨Nat.le_of_ble_eq_true rfl, Nat.le_of_ble_eq_true rfl⟩ ⟨Nat.le_of_ble_eq_true rfl, Nat.le_of_ble_eq_true rfl⟩ dX11_pour_30 (fun v6 f5 H locs hp5 h => ?_)
    obtain ⟨hf5, hv6a, hv6b, hv6p0⟩ := hp5
    have hk : fr L R [(11, 14)] [11, 54] f0 f5 := hk.tr hf5 rfl rfl
    have e7 : fld f5 a0 0 = .ref a0_trays := (hf5.efl m_a0 r_a0 rfl).trans t_a0_trays
    exact hret f5 _ _ _ _ v6 dX11_pour_33 (tw_nb (by omega)) ⟨hk, by omega, by omega, by omega, (fun i hi j hj => by have q := TNc htm htn hf5 m_a0 r_a0 (by decide +kernel) (by decide +kernel) (by decide +kernel) (by decide +kernel) i hi j; exact Or.inr ⟨fun w => by obtain ⟨w1, w2, w3⟩ := w; rw [w2] at w1; omega, q⟩)⟩ h
  · refine lv_iload_n F.1 F.2.1 dX11_pour_7 rfl (lv_at hl 3 rfl) ?_
    refine tw_Si (As := [.int x3]) F hZ h yk_X11_isTray mw_268 mw_269 (s_X11_isTrayF l D cy L R O f0 x3) rfl rfl hl.1 rfl (Nat.le_of_ble_eq_true rfl) ⟨Nat.le_of_ble_eq_true rfl, Nat.le_of_ble_eq_true rfl⟩ ⟨Nat.le_of_ble_eq_true rfl, Nat.le_of_ble_eq_true rfl⟩ dX11_pour_8 (fun v9 f8 H locs hp8 h => ?_)
    obtain ⟨rfl, hv9a, hv9b, hv9p0⟩ := hp8
    refine tw_if_eq (tgt := 28) F dX11_pour_11 (by decide) (fun b10 => ?_) (fun b10 => ?_)
    · refine lv_aload_n F.1 F.2.1 dX11_pour_28 rfl (lv_at hl 0 rfl) ?_
      refine tw_iconst F dX11_pour_29 ki_1 (fun z11 hz11 => ?_)
      refine tw_Vi (As := [.int z11]) F hZ h yk_X11_settle mw_271 mw_272 mw_273 (s_X11_settle l D cy L R O f0 a0 m_a0 r_a0 z11 ⟨by omega, by omega⟩) rfl rfl m_a0 r_a0 (fun e q => (T_11 e).mp q) rfl hl.1 rfl (Nat.le_of_ble_eq_true rfl) ⟨Nat.le_of_ble_eq_true rfl, Nat.le_of_ble_eq_true rfl⟩ ⟨Nat.le_of_ble_eq_true rfl, Nat.le_of_ble_eq_true rfl⟩ dX11_pour_30 (fun v13 f12 H locs hp12 h => ?_)
      obtain ⟨hf12, hv13a, hv13b, hv13p0⟩ := hp12
      have hk : fr L R [(11, 14)] [11, 54] f0 f12 := hk.tr hf12 rfl rfl
      have e14 : fld f12 a0 0 = .ref a0_trays := (hf12.efl m_a0 r_a0 rfl).trans t_a0_trays
      exact hret f12 _ _ _ _ v13 dX11_pour_33 (tw_nb (by omega)) ⟨hk, by omega, by omega, by omega, (fun i hi j hj => by have q := TNc htm htn hf12 m_a0 r_a0 (by decide +kernel) (by decide +kernel) (by decide +kernel) (by decide +kernel) i hi j; exact Or.inr ⟨fun w => by obtain ⟨w1, w2, w3⟩ := w; rw [w2] at w1; omega, q⟩)⟩ h
    · refine lv_iload_n F.1 F.2.1 dX11_pour_14 rfl (lv_at hl 2 rfl) ?_
      refine tw_if_lt (tgt := 28) F dX11_pour_15 (by decide) (fun b15 => ?_) (fun b15 => ?_)
      · refine lv_aload_n F.1 F.2.1 dX11_pour_28 rfl (lv_at hl 0 rfl) ?_
        refine tw_iconst F dX11_pour_29 ki_1 (fun z16 hz16 => ?_)
        refine tw_Vi (As := [.int z16]) F hZ h yk_X11_settle mw_271 mw_272 mw_273 (s_X11_settle l D cy L R O f0 a0 m_a0 r_a0 z16 ⟨by omega, by omega⟩) rfl rfl m_a0 r_a0 (fun e q => (T_11 e).mp q) rfl hl.1 rfl (Nat.le_of_ble_eq_true rfl) ⟨Nat.le_of_ble_eq_true rfl, Nat.le_of_ble_eq_true rfl⟩ ⟨Nat.le_of_ble_eq_true rfl, Nat.le_of_ble_eq_true rfl⟩ dX11_pour_30 (fun v18 f17 H locs hp17 h => ?_)
        obtain ⟨hf17, hv18a, hv18b, hv18p0⟩ := hp17
        have hk : fr L R [(11, 14)] [11, 54] f0 f17 := hk.tr hf17 rfl rfl
        have e19 : fld f17 a0 0 = .ref a0_trays := (hf17.efl m_a0 r_a0 rfl).trans t_a0_trays
        exact hret f17 _ _ _ _ v18 dX11_pour_33 (tw_nb (by omega)) ⟨hk, by omega, by omega, by omega, (fun i hi j hj => by have q := TNc htm htn hf17 m_a0 r_a0 (by decide +kernel) (by decide +kernel) (by decide +kernel) (by decide +kernel) i hi j; exact Or.inr ⟨fun w => by obtain ⟨w1, w2, w3⟩ := w; rw [w2] at w1; omega, q⟩)⟩ h
      · refine lv_iload F.1 F.2.1 dX11_pour_18 (lv_at hl 4 rfl) ?_
        refine tw_if_lt (tgt := 28) F dX11_pour_20 (by decide) (fun b20 => ?_) (fun b20 => ?_)
        · refine lv_aload_n F.1 F.2.1 dX11_pour_28 rfl (lv_at hl 0 rfl) ?_
          refine tw_iconst F dX11_pour_29 ki_1 (fun z21 hz21 => ?_)
          refine tw_Vi (As := [.int z21]) F hZ h yk_X11_settle mw_271 mw_272 mw_273 (s_X11_settle l D cy L R O f0 a0 m_a0 r_a0 z21 ⟨by omega, by omega⟩) rfl rfl m_a0 r_a0 (fun e q => (T_11 e).mp q) rfl hl.1 rfl (Nat.le_of_ble_eq_true rfl) ⟨Nat.le_of_ble_eq_true rfl, Nat.le_of_ble_eq_true rfl⟩ ⟨Nat.le_of_ble_eq_true rfl, Nat.le_of_ble_eq_true rfl⟩ dX11_pour_30 (fun v23 f22 H locs hp22 h => ?_)
          obtain ⟨hf22, hv23a, hv23b, hv23p0⟩ := hp22
          have hk : fr L R [(11, 14)] [11, 54] f0 f22 := hk.tr hf22 rfl rfl
          have e24 : fld f22 a0 0 = .ref a0_trays := (hf22.efl m_a0 r_a0 rfl).trans t_a0_trays
          exact hret f22 _ _ _ _ v23 dX11_pour_33 (tw_nb (by omega)) ⟨hk, by omega, by omega, by omega, (fun i hi j hj => by have q := TNc htm htn hf22 m_a0 r_a0 (by decide +kernel) (by decide +kernel) (by decide +kernel) (by decide +kernel) i hi j; exact Or.inr ⟨fun w => by obtain ⟨w1, w2, w3⟩ := w; rw [w2] at w1; omega, q⟩)⟩ h
        · refine lv_iload F.1 F.2.1 dX11_pour_23 (lv_at hl 5 rfl) ?_
          refine tw_if_ge (tgt := 34) F dX11_pour_25 (by decide) (fun b25 => ?_) (fun b25 => ?_)
          · refine lv_aload_n F.1 F.2.1 dX11_pour_34 rfl (lv_at hl 0 rfl) ?_
            refine g_11_11 F h m_a0 r_a0 dX11_pour_35 (fun o26 m_o26 r_o26 ho26 => ?_)
            obtain rfl := (fld_inj t_a0_trays ho26).symm
            refine lv_iload_n F.1 F.2.1 dX11_pour_38 rfl (lv_at hl 1 rfl) ?_
            refine le_55 F h m_a0_trays r_a0_trays (by omega) dX11_pour_39 (fun o27 m_o27 r_o27 eo27 => ?_)
            have cs39 := CS_of t_a0_trays eo27
            refine lv_astore (lv' := [(6, .ref o27), (0, .ref a0), (1, .int x1), (2, .int x2), (3, .int x3), (4, .int x4), (5, .int x5)]) F.1 F.2.1 dX11_pour_40 hl (by decide) rfl (fun ls hl => ?_)
            refine lv_aload_n F.1 F.2.1 dX11_pour_42 rfl (lv_at hl 1 rfl) ?_
            refine g_11_11 F h m_a0 r_a0 dX11_pour_43 (fun o28 m_o28 r_o28 ho28 => ?_)
            obtain rfl := (fld_inj t_a0_trays ho28).symm
            refine lv_iload_n F.1 F.2.1 dX11_pour_46 rfl (lv_at hl 4 rfl) ?_
            refine le_55 F h m_a0_trays r_a0_trays (by omega) dX11_pour_47 (fun o29 m_o29 r_o29 eo29 => ?_)
            have cs47 := CS_of t_a0_trays eo29
            refine lv_astore (lv' := [(7, .ref o29), (6, .ref o27), (0, .ref a0), (1, .int x1), (2, .int x2), (3, .int x3), (4, .int x4), (5, .int x5)]) F.1 F.2.1 dX11_pour_48 hl (by decide) rfl (fun ls hl => ?_)
            refine lv_aload F.1 F.2.1 dX11_pour_50 (lv_at hl 1 rfl) ?_
            refine tw_Vi (As := []) F hZ h yk_X10_isMissing mw_298 mw_299 mw_300 (s_X10_isMissingY l D cy L R O f0 o27 m_o27 r_o27) rfl rfl m_o27 r_o27 (fun e q => (T_10 e).mp q) rfl hl.1 rfl (Nat.le_of_ble_eq_true rfl) ⟨Nat.le_of_ble_eq_true rfl, Nat.le_of_ble_eq_true rfl⟩ ⟨Nat.le_of_ble_eq_true rfl, Nat.le_of_ble_eq_true rfl⟩ dX11_pour_52 (fun v31 f30 H locs hp30 h => ?_)
            obtain ⟨rfl, hv31a, hv31b, hv31p0⟩ := hp30
            refine tw_if_ne (tgt := 66) F dX11_pour_55 (by decide) (fun b32 => ?_) (fun b32 => ?_)
            · refine lv_aload_n F.1 F.2.1 dX11_pour_66 rfl (lv_at hl 2 rfl) ?_
              refine tw_iconst F dX11_pour_67 ki_2 (fun z33 hz33 => ?_)
              refine tw_Vi (As := [.int z33]) F hZ h yk_X11_settle mw_271 mw_272 mw_273 (s_X11_settle l D cy L R O f0 a0 m_a0 r_a0 z33 ⟨by omega, by omega⟩) rfl rfl m_a0 r_a0 (fun e q => (T_11 e).mp q) rfl hl.1 rfl (Nat.le_of_ble_eq_true rfl) ⟨Nat.le_of_ble_eq_true rfl, Nat.le_of_ble_eq_true rfl⟩ ⟨Nat.le_of_ble_eq_true rfl, Nat.le_of_ble_eq_true rfl⟩ dX11_pour_68 (fun v35 f34 H locs hp34 h => ?_)
              obtain ⟨hf34, hv35a, hv35b, hv35p0⟩ := hp34
              have hk : fr L R [(11, 14)] [11, 54] f0 f34 := hk.tr hf34 rfl rfl
              have e36 : fld f34 a0 0 = .ref a0_trays := (hf34.efl m_a0 r_a0 rfl).trans t_a0_trays
              exact hret f34 _ _ _ _ v35 dX11_pour_71 (tw_nb (by omega)) ⟨hk, by omega, by omega, by omega, (fun i hi j hj => by have q := TNc htm htn hf34 m_a0 r_a0 (by decide +kernel) (by decide +kernel) (by decide +kernel) (by decide +kernel) i hi j; exact Or.inr ⟨fun w => by obtain ⟨w1, w2, w3⟩ := w; rw [w2] at w1; omega, q⟩)⟩ h
            · refine lv_aload F.1 F.2.1 dX11_pour_58 (lv_at hl 0 rfl) ?_
              refine tw_Vi (As := []) F hZ h yk_X10_isMissing mw_298 mw_299 mw_300 (s_X10_isMissingY l D cy L R O f0 o29 m_o29 r_o29) rfl rfl m_o29 r_o29 (fun e q => (T_10 e).mp q) rfl hl.1 rfl (Nat.le_of_ble_eq_true rfl) ⟨Nat.le_of_ble_eq_true rfl, Nat.le_of_ble_eq_true rfl⟩ ⟨Nat.le_of_ble_eq_true rfl, Nat.le_of_ble_eq_true rfl⟩ dX11_pour_60 (fun v38 f37 H locs hp37 h => ?_)
              obtain ⟨rfl, hv38a, hv38b, hv38p0⟩ := hp37
              refine tw_if_eq (tgt := 72) F dX11_pour_63 (by decide) (fun b39 => ?_) (fun b39 => ?_)
              · refine lv_aload F.1 F.2.1 dX11_pour_72 (lv_at hl 1 rfl) ?_
                refine g_11_119 F h m_o27 r_o27 dX11_pour_74 (fun v40 hv40 hv40a hv40b => ?_)
                refine lv_aload F.1 F.2.1 dX11_pour_77 (lv_at hl 0 rfl) ?_
                refine g_11_119 F h m_o29 r_o29 dX11_pour_79 (fun v41 hv41 hv41a hv41b => ?_)
                refine tw_icmp_eq (tgt := 92) F dX11_pour_82 (by decide) (fun b42 => ?_) (fun b42 => ?_)
                · refine lv_aload F.1 F.2.1 dX11_pour_92 (lv_at hl 1 rfl) ?_
                  refine lv_iload_n F.1 F.2.1 dX11_pour_94 rfl (lv_at hl 4 rfl) ?_
                  refine lv_iload F.1 F.2.1 dX11_pour_95 (lv_at hl 7 rfl) ?_
                  refine tw_Vi (As := [.int x2, .int x5]) F hZ h yk_X10_holds mw_302 mw_303 mw_304 (s_X10_holdsY l D cy L R O f0 o27 m_o27 r_o27 x2 x5 (by omega)) rfl rfl m_o27 r_o27 (fun e q => (T_10 e).mp q) rfl hl.1 rfl (Nat.le_of_ble_eq_true rfl) ⟨Nat.le_of_ble_eq_true rfl, Nat.le_of_ble_eq_true rfl⟩ ⟨Nat.le_of_ble_eq_true rfl, Nat.le_of_ble_eq_true rfl⟩ dX11_pour_97 (fun v44 f43 H locs hp43 h => ?_)
                  obtain ⟨rfl, hv44a, hv44b, hv44p0, hv44p1, hv44p2⟩ := hp43
                  refine tw_if_eq (tgt := 115) F dX11_pour_100 (by decide) (fun b45 => ?_) (fun b45 => ?_)
                  · refine lv_aload_n F.1 F.2.1 dX11_pour_115 rfl (lv_at hl 2 rfl) ?_
                    refine tw_iconst F dX11_pour_116 ki_3 (fun z46 hz46 => ?_)
                    refine tw_Vi (As := [.int z46]) F hZ h yk_X11_settle mw_271 mw_272 mw_273 (s_X11_settle l D cy L R O f0 a0 m_a0 r_a0 z46 ⟨by omega, by omega⟩) rfl rfl m_a0 r_a0 (fun e q => (T_11 e).mp q) rfl hl.1 rfl (Nat.le_of_ble_eq_true rfl) ⟨Nat.le_of_ble_eq_true rfl, Nat.le_of_ble_eq_true rfl⟩ ⟨Nat.le_of_ble_eq_true rfl, Nat.le_of_ble_eq_true rfl⟩ dX11_pour_117 (fun v48 f47 H locs hp47 h => ?_)
                    obtain ⟨hf47, hv48a, hv48b, hv48p0⟩ := hp47
                    have hk : fr L R [(11, 14)] [11, 54] f0 f47 := hk.tr hf47 rfl rfl
                    have e49 : fld f47 a0 0 = .ref a0_trays := (hf47.efl m_a0 r_a0 rfl).trans t_a0_trays
                    have e50 : fi f47 o27 2 = fi f0 o27 2 := hf47.efi m_o27 r_o27 rfl
                    have e51 : fi f47 o29 2 = fi f0 o29 2 := hf47.efi m_o29 r_o29 rfl
                    exact hret f47 _ _ _ _ v48 dX11_pour_120 (tw_nb (by omega)) ⟨hk, by omega, by omega, by omega, (fun i hi j hj => by have q := TNc htm htn hf47 m_a0 r_a0 (by decide +kernel) (by decide +kernel) (by decide +kernel) (by decide +kernel) i hi j; exact Or.inr ⟨fun w => by obtain ⟨w1, w2, w3⟩ := w; rw [w2] at w1; omega, q⟩)⟩ h
                  · refine lv_aload F.1 F.2.1 dX11_pour_103 (lv_at hl 0 rfl) ?_
                    refine lv_iload F.1 F.2.1 dX11_pour_105 (lv_at hl 6 rfl) ?_
                    refine lv_iload F.1 F.2.1 dX11_pour_107 (lv_at hl 7 rfl) ?_
                    refine tw_Vi (As := [.int x4, .int x5]) F hZ h yk_X10_holds mw_302 mw_303 mw_304 (s_X10_holdsY l D cy L R O f0 o29 m_o29 r_o29 x4 x5 (by omega)) rfl rfl m_o29 r_o29 (fun e q => (T_10 e).mp q) rfl hl.1 rfl (Nat.le_of_ble_eq_true rfl) ⟨Nat.le_of_ble_eq_true rfl, Nat.le_of_ble_eq_true rfl⟩ ⟨Nat.le_of_ble_eq_true rfl, Nat.le_of_ble_eq_true rfl⟩ dX11_pour_109 (fun v53 f52 H locs hp52 h => ?_)
                    obtain ⟨rfl, hv53a, hv53b, hv53p0, hv53p1, hv53p2⟩ := hp52
                    refine tw_if_ne (tgt := 121) F dX11_pour_112 (by decide) (fun b54 => ?_) (fun b54 => ?_)
                    · refine lv_aload F.1 F.2.1 dX11_pour_121 (lv_at hl 1 rfl) ?_
                      refine g_11_126 F h m_o27 r_o27 dX11_pour_123 (fun o55 m_o55 r_o55 ho55 => ?_)
                      refine lv_iload_n F.1 F.2.1 dX11_pour_126 rfl (lv_at hl 4 rfl) ?_
                      refine lv_aload F.1 F.2.1 dX11_pour_127 (lv_at hl 0 rfl) ?_
                      refine g_11_126 F h m_o29 r_o29 dX11_pour_129 (fun o56 m_o56 r_o56 ho56 => ?_)
                      refine lv_iload F.1 F.2.1 dX11_pour_132 (lv_at hl 6 rfl) ?_
                      refine lv_iload F.1 F.2.1 dX11_pour_134 (lv_at hl 7 rfl) ?_
                      refine cpe_54_54 F h hl.1 mw_347 m_o55 r_o55 m_o56 r_o56 (by omega) (Nat.le_of_ble_eq_true rfl) (Nat.le_of_ble_eq_true rfl) dX11_pour_136 (fun f57 H locs e57a e57b hf57 h => ?_)
                      have hk : fr L R [(11, 14)] [11, 54] f0 f57 := hk.tr hf57 rfl rfl
                      have e58 : fld f57 a0 0 = .ref a0_trays := (hf57.efl m_a0 r_a0 rfl).trans t_a0_trays
                      have e59 : fi f57 o27 2 = fi f0 o27 2 := hf57.efi m_o27 r_o27 rfl
                      have e60 : fi f57 o29 2 = fi f0 o29 2 := hf57.efi m_o29 r_o29 rfl
                      refine lv_aload_n F.1 F.2.1 dX11_pour_139 rfl (lv_at hl 2 rfl) ?_
                      refine tw_iconst F dX11_pour_140 ki_0 (fun z61 hz61 => ?_)
                      refine tw_Vi (As := [.int z61]) F hZ h yk_X11_settle mw_271 mw_272 mw_273 (s_X11_settle l D cy L R O f57 a0 m_a0 r_a0 z61 ⟨by omega, by omega⟩) rfl rfl m_a0 r_a0 (fun e q => (T_11 e).mp q) rfl hl.1 rfl (Nat.le_of_ble_eq_true rfl) ⟨Nat.le_of_ble_eq_true rfl, Nat.le_of_ble_eq_true rfl⟩ ⟨Nat.le_of_ble_eq_true rfl, Nat.le_of_ble_eq_true rfl⟩ dX11_pour_141 (fun v63 f62 H locs hp62 h => ?_)
                      obtain ⟨hf62, hv63a, hv63b, hv63p0⟩ := hp62
                      have hk : fr L R [(11, 14)] [11, 54] f0 f62 := hk.tr hf62 rfl rfl
                      have e64 : fld f62 a0 0 = .ref a0_trays := (hf62.efl m_a0 r_a0 rfl).trans e58
                      have e65 : fi f62 o27 2 = fi f57 o27 2 := hf62.efi m_o27 r_o27 rfl
                      have e66 : fi f62 o29 2 = fi f57 o29 2 := hf62.efi m_o29 r_o29 rfl
                      exact hret f62 _ _ _ _ v63 dX11_pour_144 (tw_nb (by omega)) ⟨hk, by omega, by omega, by omega, (fun i hi j hj => by have q := TN_one htm htn P pre0 hf57 m_a0 r_a0 (by decide +kernel) (by decide +kernel) (by decide +kernel) (n := x3.toInt.toNat) (by omega) (by rw [rfa_of t_a0_trays]; exact eo29) (fun x hx hr hn => e57b x (fun e => hn (by rw [e, rfa_of ho56]))) (fun j _ => (congrArg (fun z => elj _ z j) (rfa_of ho56)).trans (e57a j)) i hi j hj; have q2 := TNc (htm.fr hf57 m_a0 r_a0 (by decide +kernel) (by decide +kernel)) (htn.fr htm hf57 m_a0 r_a0 (by decide +kernel) (by decide +kernel) (by decide +kernel)) hf62 m_a0 r_a0 (by decide +kernel) (by decide +kernel) (by decide +kernel) (by decide +kernel) i hi j; have q3 := CN_of t_a0_trays eo29 j; have q5 := CN_of t_a0_trays eo27 (x2.toInt.toNat + (j - x4.toInt.toNat)); rw [rfa_of ho56] at q3; rw [rfa_of ho55] at q5; have ew1 : (x4.toInt.toNat ≤ j ∧ j < x4.toInt.toNat + x5.toInt.toNat) ↔ (x4.toInt.toNat ≤ j ∧ (j : Int) < x4.toInt + x5.toInt) := (by omega); exact (if e1 : i = x3.toInt.toNat then (if e2 : x4.toInt.toNat ≤ j ∧ j < x4.toInt.toNat + x5.toInt.toNat then Or.inl ⟨⟨by rw [e1]; omega, e1, by omega⟩, by rw [if_pos e2] at q; rw [q2]; omega⟩ else Or.inr ⟨fun w => e2 (by omega), by rw [if_neg e2] at q; rw [q2]; rw [e1] at q ⊢; omega⟩) else Or.inr ⟨fun w => e1 w.2.1, by omega⟩))⟩ h
                    · refine lv_aload_n F.1 F.2.1 dX11_pour_115 rfl (lv_at hl 2 rfl) ?_
                      refine tw_iconst F dX11_pour_116 ki_3 (fun z67 hz67 => ?_)
                      refine tw_Vi (As := [.int z67]) F hZ h yk_X11_settle mw_271 mw_272 mw_273 (s_X11_settle l D cy L R O f0 a0 m_a0 r_a0 z67 ⟨by omega, by omega⟩) rfl rfl m_a0 r_a0 (fun e q => (T_11 e).mp q) rfl hl.1 rfl (Nat.le_of_ble_eq_true rfl) ⟨Nat.le_of_ble_eq_true rfl, Nat.le_of_ble_eq_true rfl⟩ ⟨Nat.le_of_ble_eq_true rfl, Nat.le_of_ble_eq_true rfl⟩ dX11_pour_117 (fun v69 f68 H locs hp68 h => ?_)
                      obtain ⟨hf68, hv69a, hv69b, hv69p0⟩ := hp68
                      have hk : fr L R [(11, 14)] [11, 54] f0 f68 := hk.tr hf68 rfl rfl
                      have e70 : fld f68 a0 0 = .ref a0_trays := (hf68.efl m_a0 r_a0 rfl).trans t_a0_trays
                      have e71 : fi f68 o27 2 = fi f0 o27 2 := hf68.efi m_o27 r_o27 rfl
                      have e72 : fi f68 o29 2 = fi f0 o29 2 := hf68.efi m_o29 r_o29 rfl
                      exact hret f68 _ _ _ _ v69 dX11_pour_120 (tw_nb (by omega)) ⟨hk, by omega, by omega, by omega, (fun i hi j hj => by have q := TNc htm htn hf68 m_a0 r_a0 (by decide +kernel) (by decide +kernel) (by decide +kernel) (by decide +kernel) i hi j; exact Or.inr ⟨fun w => by obtain ⟨w1, w2, w3⟩ := w; rw [w2] at w1; omega, q⟩)⟩ h
                · refine lv_aload_n F.1 F.2.1 dX11_pour_85 rfl (lv_at hl 2 rfl) ?_
                  refine tw_bipush F dX11_pour_86 kb_8 (fun z73 hz73 => ?_)
                  refine tw_Vi (As := [.int z73]) F hZ h yk_X11_settle mw_271 mw_272 mw_273 (s_X11_settle l D cy L R O f0 a0 m_a0 r_a0 z73 ⟨by omega, by omega⟩) rfl rfl m_a0 r_a0 (fun e q => (T_11 e).mp q) rfl hl.1 rfl (Nat.le_of_ble_eq_true rfl) ⟨Nat.le_of_ble_eq_true rfl, Nat.le_of_ble_eq_true rfl⟩ ⟨Nat.le_of_ble_eq_true rfl, Nat.le_of_ble_eq_true rfl⟩ dX11_pour_88 (fun v75 f74 H locs hp74 h => ?_)
                  obtain ⟨hf74, hv75a, hv75b, hv75p0⟩ := hp74
                  have hk : fr L R [(11, 14)] [11, 54] f0 f74 := hk.tr hf74 rfl rfl
                  have e76 : fld f74 a0 0 = .ref a0_trays := (hf74.efl m_a0 r_a0 rfl).trans t_a0_trays
                  have e77 : fi f74 o27 2 = fi f0 o27 2 := hf74.efi m_o27 r_o27 rfl
                  have e78 : fi f74 o29 2 = fi f0 o29 2 := hf74.efi m_o29 r_o29 rfl
                  exact hret f74 _ _ _ _ v75 dX11_pour_91 (tw_nb (by omega)) ⟨hk, by omega, by omega, by omega, (fun i hi j hj => by have q := TNc htm htn hf74 m_a0 r_a0 (by decide +kernel) (by decide +kernel) (by decide +kernel) (by decide +kernel) i hi j; exact Or.inr ⟨fun w => by obtain ⟨w1, w2, w3⟩ := w; rw [w2] at w1; omega, q⟩)⟩ h
              · refine lv_aload_n F.1 F.2.1 dX11_pour_66 rfl (lv_at hl 2 rfl) ?_
                refine tw_iconst F dX11_pour_67 ki_2 (fun z79 hz79 => ?_)
                refine tw_Vi (As := [.int z79]) F hZ h yk_X11_settle mw_271 mw_272 mw_273 (s_X11_settle l D cy L R O f0 a0 m_a0 r_a0 z79 ⟨by omega, by omega⟩) rfl rfl m_a0 r_a0 (fun e q => (T_11 e).mp q) rfl hl.1 rfl (Nat.le_of_ble_eq_true rfl) ⟨Nat.le_of_ble_eq_true rfl, Nat.le_of_ble_eq_true rfl⟩ ⟨Nat.le_of_ble_eq_true rfl, Nat.le_of_ble_eq_true rfl⟩ dX11_pour_68 (fun v81 f80 H locs hp80 h => ?_)
                obtain ⟨hf80, hv81a, hv81b, hv81p0⟩ := hp80
                have hk : fr L R [(11, 14)] [11, 54] f0 f80 := hk.tr hf80 rfl rfl
                have e82 : fld f80 a0 0 = .ref a0_trays := (hf80.efl m_a0 r_a0 rfl).trans t_a0_trays
                exact hret f80 _ _ _ _ v81 dX11_pour_71 (tw_nb (by omega)) ⟨hk, by omega, by omega, by omega, (fun i hi j hj => by have q := TNc htm htn hf80 m_a0 r_a0 (by decide +kernel) (by decide +kernel) (by decide +kernel) (by decide +kernel) i hi j; exact Or.inr ⟨fun w => by obtain ⟨w1, w2, w3⟩ := w; rw [w2] at w1; omega, q⟩)⟩ h
          · refine lv_aload_n F.1 F.2.1 dX11_pour_28 rfl (lv_at hl 0 rfl) ?_
            refine tw_iconst F dX11_pour_29 ki_1 (fun z83 hz83 => ?_)
            refine tw_Vi (As := [.int z83]) F hZ h yk_X11_settle mw_271 mw_272 mw_273 (s_X11_settle l D cy L R O f0 a0 m_a0 r_a0 z83 ⟨by omega, by omega⟩) rfl rfl m_a0 r_a0 (fun e q => (T_11 e).mp q) rfl hl.1 rfl (Nat.le_of_ble_eq_true rfl) ⟨Nat.le_of_ble_eq_true rfl, Nat.le_of_ble_eq_true rfl⟩ ⟨Nat.le_of_ble_eq_true rfl, Nat.le_of_ble_eq_true rfl⟩ dX11_pour_30 (fun v85 f84 H locs hp84 h => ?_)
            obtain ⟨hf84, hv85a, hv85b, hv85p0⟩ := hp84
            have hk : fr L R [(11, 14)] [11, 54] f0 f84 := hk.tr hf84 rfl rfl
            have e86 : fld f84 a0 0 = .ref a0_trays := (hf84.efl m_a0 r_a0 rfl).trans t_a0_trays
            exact hret f84 _ _ _ _ v85 dX11_pour_33 (tw_nb (by omega)) ⟨hk, by omega, by omega, by omega, (fun i hi j hj => by have q := TNc htm htn hf84 m_a0 r_a0 (by decide +kernel) (by decide +kernel) (by decide +kernel) (by decide +kernel) i hi j; exact Or.inr ⟨fun w => by obtain ⟨w1, w2, w3⟩ := w; rw [w2] at w1; omega, q⟩)⟩ h
def rm_X11_readZ : Room := { frames := 2, cells := 0, slots := 0, locals := 44 }
set_option maxHeartbeats 4000000 in
set_option maxRecDepth 100000 in
theorem s_X11_readZ (l : Launch) (D : va_G) (cy : Nat → ClassId) (L : List Nat) (R O : Nat → Nat) (f0 : Nat → va_E) (a0 : Nat) (m_a0 : a0 ∈ L) (r_a0 : R a0 = 11) (x1 : Int32) (x2 : Int32) : ∀ sz, Met l yX11_read (Cond.code yX11_read cX11_read 4 (some .long) :: wsL_law) rm_X11_readZ (va_Pc [.ref a0, .int x1, .int x2] (tPZ D cy L R (TT cy L R) f0 sz)) (va_Ql (fun (r : Int64) f1 => fr L R [(11, 14)] [11] f0 f1 ∧ (((0 ≤ x1.toInt ∧ x1.toInt ≤ 3 ∧ 0 ≤ x2.toInt ∧ x2.toInt < CS f0 a0 x1.toInt.toNat) ∧ r.toInt = CN f0 a0 x1.toInt.toNat x2.toInt.toNat) ∨ (¬ (0 ≤ x1.toInt ∧ x1.toInt ≤ 3 ∧ 0 ≤ x2.toInt ∧ x2.toInt < CS f0 a0 x1.toInt.toNat) ∧ r.toInt = -1))) (tB D (tA L sz) L R (TT cy L R)) (tA L sz)) 0 0 (tA L sz) := by
  refine tw_enterl (by decide +kernel) rfl (Nat.le_of_ble_eq_true rfl) ?_
  intro p e s m below meth c A ls args Q F hZ h hl hret
  have hl : lv_has ls 4 [(0, .ref a0), (1, .int x1), (2, .int x2)] := hl
  have hk : fr L R [(11, 14)] [11] f0 f0 := fr.rf
  have htm := TMc_of h m_a0 r_a0
  have htn := TMn_of h htm
  refine lv_aload_n F.1 F.2.1 dX11_read_0 rfl (lv_at hl 0 rfl) ?_
  refine lv_iload_n F.1 F.2.1 dX11_read_1 rfl (lv_at hl 1 rfl) ?_
  refine lv_iload_n F.1 F.2.1 dX11_read_2 rfl (lv_at hl 2 rfl) ?_
  refine tw_Vi (As := [.int x1, .int x2]) F hZ h yk_X11_placeStatus mw_294 mw_295 mw_296 (s_X11_placeStatusY l D cy L R O f0 a0 m_a0 r_a0 x1 x2) rfl rfl m_a0 r_a0 (fun e q => (T_11 e).mp q) rfl hl.1 rfl (Nat.le_of_ble_eq_true rfl) ⟨Nat.le_of_ble_eq_true rfl, Nat.le_of_ble_eq_true rfl⟩ ⟨Nat.le_of_ble_eq_true rfl, Nat.le_of_ble_eq_true rfl⟩ dX11_read_3 (fun v2 f1 H locs hp1 h => ?_)
  obtain ⟨rfl, hv2a, hv2b, hv2p0, hv2p1⟩ := hp1
  refine lv_istore_n (lv' := [(3, .int v2), (0, .ref a0), (1, .int x1), (2, .int x2)]) F.1 F.2.1 dX11_read_6 rfl hl (by decide) rfl (fun ls hl => ?_)
  refine lv_aload_n F.1 F.2.1 dX11_read_7 rfl (lv_at hl 1 rfl) ?_
  refine lv_iload_n F.1 F.2.1 dX11_read_8 rfl (lv_at hl 0 rfl) ?_
  refine tw_Vi (As := [.int v2]) F hZ h yk_X11_settle mw_271 mw_272 mw_273 (s_X11_settle l D cy L R O f0 a0 m_a0 r_a0 v2 ⟨by omega, by omega⟩) rfl rfl m_a0 r_a0 (fun e q => (T_11 e).mp q) rfl hl.1 rfl (Nat.le_of_ble_eq_true rfl) ⟨Nat.le_of_ble_eq_true rfl, Nat.le_of_ble_eq_true rfl⟩ ⟨Nat.le_of_ble_eq_true rfl, Nat.le_of_ble_eq_true rfl⟩ dX11_read_9 (fun v4 f3 H locs hp3 h => ?_)
  obtain ⟨hf3, hv4a, hv4b, hv4p0⟩ := hp3
  have hk : fr L R [(11, 14)] [11] f0 f3 := hk.tr hf3 rfl rfl
  refine tw_if_eq (tgt := 28) F dX11_read_12 (by decide) (fun b5 => ?_) (fun b5 => ?_)
  · refine tu_ldc2 F mw_330 dX11_read_28 kl_m1 (fun z6 hz6 => ?_)
    exact hret f3 _ _ _ _ z6 dX11_read_31 ⟨hk, by omega⟩ h
  · refine lv_aload_n F.1 F.2.1 dX11_read_15 rfl (lv_at hl 1 rfl) ?_
    refine g_11_11 F h m_a0 r_a0 dX11_read_16 (fun o7 m_o7 r_o7 ho7 => ?_)
    refine lv_iload_n F.1 F.2.1 dX11_read_19 rfl (lv_at hl 2 rfl) ?_
    refine le_55 F h m_o7 r_o7 (by omega) dX11_read_20 (fun o8 m_o8 r_o8 eo8 => ?_)
    have cs20 := CS_of ho7 eo8
    have cn20 := CN_of ho7 eo8 x2.toInt.toNat
    have tr20 := TRc htm hf3 m_a0 r_a0 (by decide +kernel) (by decide +kernel) (by decide +kernel) (by decide +kernel) x1.toInt.toNat (by omega)
    have tn20 := TNc htm htn hf3 m_a0 r_a0 (by decide +kernel) (by decide +kernel) (by decide +kernel) (by decide +kernel) x1.toInt.toNat (by omega) x2.toInt.toNat
    refine lv_iload_n F.1 F.2.1 dX11_read_21 rfl (lv_at hl 3 rfl) ?_
    refine tw_Vl (As := [.int x2]) F hZ h yk_X10_at mw_331 mw_332 mw_333 (s_X10_atZ l D cy L R O f3 o8 m_o8 r_o8 x2) rfl rfl m_o8 r_o8 (fun e q => (T_10 e).mp q) rfl hl.1 rfl (Nat.le_of_ble_eq_true rfl) ⟨Nat.le_of_ble_eq_true rfl, Nat.le_of_ble_eq_true rfl⟩ ⟨Nat.le_of_ble_eq_true rfl, Nat.le_of_ble_eq_true rfl⟩ dX11_read_22 (fun v10 f9 H locs hp9 h => ?_)
    obtain ⟨rfl, hv10p0⟩ := hp9
    refine lv_goto (tgt := 31) F.1 F.2.1 dX11_read_25 (by decide) ?_
    exact hret f3 _ _ _ _ v10 dX11_read_31 ⟨hk, by omega⟩ h
