def rm_X12_pourZ : Room := { frames := 1, cells := 0, slots := 0, locals := 21 }
set_option maxHeartbeats 4000000 in
set_option maxRecDepth 100000 in
theorem s_X12_pourZ (l : Launch) (D : va_G) (cy : Nat → ClassId) (L : List Nat) (R O : Nat → Nat) (f0 : Nat → va_E) (a0 : Nat) (m_a0 : a0 ∈ L) (r_a0 : R a0 = 12) (x1 : Int32) (x2 : Int32) (x3 : Int32) (x4 : Int32) (x5 : Int32) : ∀ sz, Met l yX12_pour (Cond.code yX12_pour cX12_pour 8 (some .boolean) :: wsL_law) rm_X12_pourZ (va_Pc [.ref a0, .int x1, .int x2, .int x3, .int x4, .int x5] (tPZ D cy L R (TT cy L R) f0 sz)) (va_Qi (fun (r : Int32) f1 => fr L R [(12, 1)] [12, 64] f0 f1 ∧ 0 ≤ r.toInt ∧ r.toInt ≤ 1 ∧ ((r.toInt = 1 ∧ (0 ≤ x1.toInt ∧ x1.toInt ≤ 3 ∧ 0 ≤ x3.toInt ∧ x3.toInt ≤ 3 ∧ 0 ≤ x2.toInt ∧ 0 ≤ x4.toInt ∧ 0 ≤ x5.toInt ∧ MT f0 a0 x1.toInt.toNat = MT f0 a0 x3.toInt.toNat ∧ x2.toInt + x5.toInt ≤ MS f0 a0 x1.toInt.toNat ∧ x4.toInt + x5.toInt ≤ MS f0 a0 x3.toInt.toNat)) ∨ (r.toInt = 0 ∧ ¬ (0 ≤ x1.toInt ∧ x1.toInt ≤ 3 ∧ 0 ≤ x3.toInt ∧ x3.toInt ≤ 3 ∧ 0 ≤ x2.toInt ∧ 0 ≤ x4.toInt ∧ 0 ≤ x5.toInt ∧ MT f0 a0 x1.toInt.toNat = MT f0 a0 x3.toInt.toNat ∧ x2.toInt + x5.toInt ≤ MS f0 a0 x1.toInt.toNat ∧ x4.toInt + x5.toInt ≤ MS f0 a0 x3.toInt.toNat))) ∧ (∀ i, i < 4 → ∀ j : Nat, j < 60 → ((((0 ≤ x1.toInt ∧ x1.toInt ≤ 3 ∧ 0 ≤ x3.toInt ∧ x3.toInt ≤ 3 ∧ 0 ≤ x2.toInt ∧ 0 ≤ x4.toInt ∧ 0 ≤ x5.toInt ∧ MT f0 a0 x1.toInt.toNat = MT f0 a0 i ∧ x2.toInt + x5.toInt ≤ MS f0 a0 x1.toInt.toNat ∧ x4.toInt + x5.toInt ≤ MS f0 a0 i) ∧ i = x3.toInt.toNat ∧ x4.toInt.toNat ≤ j ∧ (j : Int) < x4.toInt + x5.toInt) ∧ MN f1 a0 i j = MN f0 a0 x1.toInt.toNat (x2.toInt.toNat + (j - x4.toInt.toNat))) ∨ (¬ ((0 ≤ x1.toInt ∧ x1.toInt ≤ 3 ∧ 0 ≤ x3.toInt ∧ x3.toInt ≤ 3 ∧ 0 ≤ x2.toInt ∧ 0 ≤ x4.toInt ∧ 0 ≤ x5.toInt ∧ MT f0 a0 x1.toInt.toNat = MT f0 a0 i ∧ x2.toInt + x5.toInt ≤ MS f0 a0 x1.toInt.toNat ∧ x4.toInt + x5.toInt ≤ MS f0 a0 i) ∧ i = x3.toInt.toNat ∧ x4.toInt.toNat ≤ j ∧ (j : Int) < x4.toInt + x5.toInt) ∧ MN f1 a0 i j = MN f0 a0 i j)))) (tB D (tA L sz) L R (TT cy L R)) (tA L sz)) 0 0 (tA L sz) := by
  refine tw_enteri (by decide +kernel) rfl (Nat.le_of_ble_eq_true rfl) ?_
  intro p e s m below meth c A ls args Q F hZ h hl hret
  have hl : lv_has ls 8 [(0, .ref a0), (1, .int x1), (2, .int x2), (3, .int x3), (4, .int x4), (5, .int x5)] := hl
  have hk : fr L R [(12, 1)] [12, 64] f0 f0 := fr.rf
  obtain ⟨a0_sort, m_a0_sort, r_a0_sort, t_a0_sort⟩ := h.rf m_a0 r_a0 (fun e q => (T_12 e).mp q) (k := 4) rfl
  obtain ⟨a0_trayMany, m_a0_trayMany, r_a0_trayMany, t_a0_trayMany⟩ := h.rf m_a0 r_a0 (fun e q => (T_12 e).mp q) (k := 5) rfl
  obtain ⟨a0_trays, m_a0_trays, r_a0_trays, t_a0_trays⟩ := h.rf m_a0 r_a0 (fun e q => (T_12 e).mp q) (k := 6) rfl
  have tb2 := tb_i x2
  have tb4 := tb_i x4
  have hms := MS_of t_a0_trayMany
  have hmt := MT_of t_a0_sort
  have ms1 := hms x1.toInt.toNat
  have ms3 := hms x3.toInt.toNat
  have mt1 := hmt x1.toInt.toNat
  have mt3 := hmt x3.toInt.toNat
  refine lv_iload_n F.1 F.2.1 dX12_pour_0 rfl (lv_at hl 1 rfl) ?_
  refine tw_Si (As := [.int x1]) F hZ h yk_X12_isTray mw_283 mw_284 (s_X12_isTray l D cy L R O f0 x1) rfl rfl hl.1 rfl (Nat.le_of_ble_eq_true rfl) ⟨Nat.le_of_ble_eq_true rfl, Nat.le_of_ble_eq_true rfl⟩ ⟨Nat.le_of_ble_eq_true rfl, Nat.le_of_ble_eq_true rfl⟩ dX12_pour_1 (fun v2 f1 H locs hp1 h => ?_)
  obtain ⟨rfl, hv2a, hv2b, hv2p0⟩ := hp1
  refine tw_if_eq (tgt := 28) F dX12_pour_4 (by decide) (fun b3 => ?_) (fun b3 => ?_)
  · refine lv_aload_n F.1 F.2.1 dX12_pour_28 rfl (lv_at hl 0 rfl) ?_
    refine tw_iconst F dX12_pour_29 ki_1 (fun z4 hz4 => ?_)
    refine tw_Vi (As := [.int z4]) F hZ h yk_X12_is mw_286 mw_287 mw_288 (s_X12_is l D cy L R O f0 a0 m_a0 r_a0 z4 ⟨by omega, by omega⟩) rfl rfl m_a0 r_a0 (fun e q => (T_12 e).mp q) rfl hl.1 rfl (Nat.le_of_ble_eq_true rfl) ⟨Nat.le_of_ble_eq_true rfl, Nat.le_of_ble_eq_true rfl⟩ ⟨Nat.le_of_ble_eq_true rfl, Nat.le_of_ble_eq_true rfl⟩ dX12_pour_30 (fun v6 f5 H locs hp5 h => ?_)
    obtain ⟨hf5, hv6a, hv6b, hv6p0⟩ := hp5
    have hk : fr L R [(12, 1)] [12, 64] f0 f5 := hk.tr hf5 rfl rfl
    have e7 : fld f5 a0 4 = .ref a0_sort := (hf5.efl m_a0 r_a0 rfl).trans t_a0_sort
    have e8 : fld f5 a0 5 = .ref a0_trayMany := (hf5.efl m_a0 r_a0 rfl).trans t_a0_trayMany
    have e9 : fld f5 a0 6 = .ref a0_trays := (hf5.efl m_a0 r_a0 rfl).trans t_a0_trays
    exact hret f5 _ _ _ _ v6 dX12_pour_33 (tw_nb (by omega)) ⟨hk, by omega, by omega, by omega, (fun i hi j hj => by have q := TNm t_a0_trays m_a0_trays r_a0_trays hf5 m_a0 r_a0 (by decide +kernel) (by decide +kernel) i j; exact Or.inr ⟨fun w => by obtain ⟨w1, w2, w3⟩ := w; rw [w2] at w1; omega, q⟩)⟩ h
  · refine lv_iload_n F.1 F.2.1 dX12_pour_7 rfl (lv_at hl 3 rfl) ?_
    refine tw_Si (As := [.int x3]) F hZ h yk_X12_isTray mw_283 mw_284 (s_X12_isTray l D cy L R O f0 x3) rfl rfl hl.1 rfl (Nat.le_of_ble_eq_true rfl) ⟨Nat.le_of_ble_eq_true rfl, Nat.le_of_ble_eq_true rfl⟩ ⟨Nat.le_of_ble_eq_true rfl, Nat.le_of_ble_eq_true rfl⟩ dX12_pour_8 (fun v11 f10 H locs hp10 h => ?_)
    obtain ⟨rfl, hv11a, hv11b, hv11p0⟩ := hp10
    refine tw_if_eq (tgt := 28) F dX12_pour_11 (by decide) (fun b12 => ?_) (fun b12 => ?_)
    · refine lv_aload_n F.1 F.2.1 dX12_pour_28 rfl (lv_at hl 0 rfl) ?_
      refine tw_iconst F dX12_pour_29 ki_1 (fun z13 hz13 => ?_)
      refine tw_Vi (As := [.int z13]) F hZ h yk_X12_is mw_286 mw_287 mw_288 (s_X12_is l D cy L R O f0 a0 m_a0 r_a0 z13 ⟨by omega, by omega⟩) rfl rfl m_a0 r_a0 (fun e q => (T_12 e).mp q) rfl hl.1 rfl (Nat.le_of_ble_eq_true rfl) ⟨Nat.le_of_ble_eq_true rfl, Nat.le_of_ble_eq_true rfl⟩ ⟨Nat.le_of_ble_eq_true rfl, Nat.le_of_ble_eq_true rfl⟩ dX12_pour_30 (fun v15 f14 H locs hp14 h => ?_)
      obtain ⟨hf14, hv15a, hv15b, hv15p0⟩ := hp14
      have hk : fr L R [(12, 1)] [12, 64] f0 f14 := hk.tr hf14 rfl rfl
      have e16 : fld f14 a0 4 = .ref a0_sort := (hf14.efl m_a0 r_a0 rfl).trans t_a0_sort
      have e17 : fld f14 a0 5 = .ref a0_trayMany := (hf14.efl m_a0 r_a0 rfl).trans t_a0_trayMany
      have e18 : fld f14 a0 6 = .ref a0_trays := (hf14.efl m_a0 r_a0 rfl).trans t_a0_trays
      exact hret f14 _ _ _ _ v15 dX12_pour_33 (tw_nb (by omega)) ⟨hk, by omega, by omega, by omega, (fun i hi j hj => by have q := TNm t_a0_trays m_a0_trays r_a0_trays hf14 m_a0 r_a0 (by decide +kernel) (by decide +kernel) i j; exact Or.inr ⟨fun w => by obtain ⟨w1, w2, w3⟩ := w; rw [w2] at w1; omega, q⟩)⟩ h
    · refine lv_iload_n F.1 F.2.1 dX12_pour_14 rfl (lv_at hl 2 rfl) ?_
      refine tw_if_lt (tgt := 28) F dX12_pour_15 (by decide) (fun b19 => ?_) (fun b19 => ?_)
      · refine lv_aload_n F.1 F.2.1 dX12_pour_28 rfl (lv_at hl 0 rfl) ?_
        refine tw_iconst F dX12_pour_29 ki_1 (fun z20 hz20 => ?_)
        refine tw_Vi (As := [.int z20]) F hZ h yk_X12_is mw_286 mw_287 mw_288 (s_X12_is l D cy L R O f0 a0 m_a0 r_a0 z20 ⟨by omega, by omega⟩) rfl rfl m_a0 r_a0 (fun e q => (T_12 e).mp q) rfl hl.1 rfl (Nat.le_of_ble_eq_true rfl) ⟨Nat.le_of_ble_eq_true rfl, Nat.le_of_ble_eq_true rfl⟩ ⟨Nat.le_of_ble_eq_true rfl, Nat.le_of_ble_eq_true rfl⟩ dX12_pour_30 (fun v22 f21 H locs hp21 h => ?_)
        obtain ⟨hf21, hv22a, hv22b, hv22p0⟩ := hp21
        have hk : fr L R [(12, 1)] [12, 64] f0 f21 := hk.tr hf21 rfl rfl
        have e23 : fld f21 a0 4 = .ref a0_sort := (hf21.efl m_a0 r_a0 rfl).trans t_a0_sort
        have e24 : fld f21 a0 5 = .ref a0_trayMany := (hf21.efl m_a0 r_a0 rfl).trans t_a0_trayMany
        have e25 : fld f21 a0 6 = .ref a0_trays := (hf21.efl m_a0 r_a0 rfl).trans t_a0_trays
        exact hret f21 _ _ _ _ v22 dX12_pour_33 (tw_nb (by omega)) ⟨hk, by omega, by omega, by omega, (fun i hi j hj => by have q := TNm t_a0_trays m_a0_trays r_a0_trays hf21 m_a0 r_a0 (by decide +kernel) (by decide +kernel) i j; exact Or.inr ⟨fun w => by obtain ⟨w1, w2, w3⟩ := w; rw [w2] at w1; omega, q⟩)⟩ h
      · refine lv_iload F.1 F.2.1 dX12_pour_18 (lv_at hl 4 rfl) ?_
        refine tw_if_lt (tgt := 28) F dX12_pour_20 (by decide) (fun b26 => ?_) (fun b26 => ?_)
        · refine lv_aload_n F.1 F.2.1 dX12_pour_28 rfl (lv_at hl 0 rfl) ?_
          refine tw_iconst F dX12_pour_29 ki_1 (fun z27 hz27 => ?_)
          refine tw_Vi (As := [.int z27]) F hZ h yk_X12_is mw_286 mw_287 mw_288 (s_X12_is l D cy L R O f0 a0 m_a0 r_a0 z27 ⟨by omega, by omega⟩) rfl rfl m_a0 r_a0 (fun e q => (T_12 e).mp q) rfl hl.1 rfl (Nat.le_of_ble_eq_true rfl) ⟨Nat.le_of_ble_eq_true rfl, Nat.le_of_ble_eq_true rfl⟩ ⟨Nat.le_of_ble_eq_true rfl, Nat.le_of_ble_eq_true rfl⟩ dX12_pour_30 (fun v29 f28 H locs hp28 h => ?_)
          obtain ⟨hf28, hv29a, hv29b, hv29p0⟩ := hp28
          have hk : fr L R [(12, 1)] [12, 64] f0 f28 := hk.tr hf28 rfl rfl
          have e30 : fld f28 a0 4 = .ref a0_sort := (hf28.efl m_a0 r_a0 rfl).trans t_a0_sort
          have e31 : fld f28 a0 5 = .ref a0_trayMany := (hf28.efl m_a0 r_a0 rfl).trans t_a0_trayMany
          have e32 : fld f28 a0 6 = .ref a0_trays := (hf28.efl m_a0 r_a0 rfl).trans t_a0_trays
          exact hret f28 _ _ _ _ v29 dX12_pour_33 (tw_nb (by omega)) ⟨hk, by omega, by omega, by omega, (fun i hi j hj => by have q := TNm t_a0_trays m_a0_trays r_a0_trays hf28 m_a0 r_a0 (by decide +kernel) (by decide +kernel) i j; exact Or.inr ⟨fun w => by obtain ⟨w1, w2, w3⟩ := w; rw [w2] at w1; omega, q⟩)⟩ h
        · refine lv_iload F.1 F.2.1 dX12_pour_23 (lv_at hl 5 rfl) ?_
          refine tw_if_ge (tgt := 34) F dX12_pour_25 (by decide) (fun b33 => ?_) (fun b33 => ?_)
          · refine lv_aload_n F.1 F.2.1 dX12_pour_34 rfl (lv_at hl 0 rfl) ?_
            refine g_12_21 F h m_a0 r_a0 dX12_pour_35 (fun o34 m_o34 r_o34 ho34 => ?_)
            obtain rfl := (fld_inj t_a0_trayMany ho34).symm
            refine lv_iload_n F.1 F.2.1 dX12_pour_38 rfl (lv_at hl 1 rfl) ?_
            refine le_63 F h m_a0_trayMany r_a0_trayMany (by omega) dX12_pour_39 (fun v35 ev35 hv35a hv35b => ?_)
            refine tw_iconst F dX12_pour_40 ki_m1 (fun z36 hz36 => ?_)
            refine tw_icmp_eq (tgt := 54) F dX12_pour_41 (by decide) (fun b37 => ?_) (fun b37 => ?_)
            · refine lv_aload_n F.1 F.2.1 dX12_pour_54 rfl (lv_at hl 0 rfl) ?_
              refine tw_iconst F dX12_pour_55 ki_2 (fun z38 hz38 => ?_)
              refine tw_Vi (As := [.int z38]) F hZ h yk_X12_is mw_286 mw_287 mw_288 (s_X12_is l D cy L R O f0 a0 m_a0 r_a0 z38 ⟨by omega, by omega⟩) rfl rfl m_a0 r_a0 (fun e q => (T_12 e).mp q) rfl hl.1 rfl (Nat.le_of_ble_eq_true rfl) ⟨Nat.le_of_ble_eq_true rfl, Nat.le_of_ble_eq_true rfl⟩ ⟨Nat.le_of_ble_eq_true rfl, Nat.le_of_ble_eq_true rfl⟩ dX12_pour_56 (fun v40 f39 H locs hp39 h => ?_)
              obtain ⟨hf39, hv40a, hv40b, hv40p0⟩ := hp39
              have hk : fr L R [(12, 1)] [12, 64] f0 f39 := hk.tr hf39 rfl rfl
              have e41 : fld f39 a0 4 = .ref a0_sort := (hf39.efl m_a0 r_a0 rfl).trans t_a0_sort
              have e42 : fld f39 a0 5 = .ref a0_trayMany := (hf39.efl m_a0 r_a0 rfl).trans t_a0_trayMany
              have e43 : fld f39 a0 6 = .ref a0_trays := (hf39.efl m_a0 r_a0 rfl).trans t_a0_trays
              exact hret f39 _ _ _ _ v40 dX12_pour_59 (tw_nb (by omega)) ⟨hk, by omega, by omega, by omega, (fun i hi j hj => by have q := TNm t_a0_trays m_a0_trays r_a0_trays hf39 m_a0 r_a0 (by decide +kernel) (by decide +kernel) i j; exact Or.inr ⟨fun w => by obtain ⟨w1, w2, w3⟩ := w; rw [w2] at w1; omega, q⟩)⟩ h
            · refine lv_aload_n F.1 F.2.1 dX12_pour_44 rfl (lv_at hl 0 rfl) ?_
              refine g_12_21 F h m_a0 r_a0 dX12_pour_45 (fun o44 m_o44 r_o44 ho44 => ?_)
              obtain rfl := (fld_inj t_a0_trayMany ho44).symm
              refine lv_iload_n F.1 F.2.1 dX12_pour_48 rfl (lv_at hl 3 rfl) ?_
              refine le_63 F h m_a0_trayMany r_a0_trayMany (by omega) dX12_pour_49 (fun v45 ev45 hv45a hv45b => ?_)
              refine tw_iconst F dX12_pour_50 ki_m1 (fun z46 hz46 => ?_)
              refine tw_icmp_ne (tgt := 60) F dX12_pour_51 (by decide) (fun b47 => ?_) (fun b47 => ?_)
              · refine lv_aload_n F.1 F.2.1 dX12_pour_60 rfl (lv_at hl 0 rfl) ?_
                refine g_12_17 F h m_a0 r_a0 dX12_pour_61 (fun o48 m_o48 r_o48 ho48 => ?_)
                obtain rfl := (fld_inj t_a0_sort ho48).symm
                refine lv_iload_n F.1 F.2.1 dX12_pour_64 rfl (lv_at hl 1 rfl) ?_
                refine le_62 F h m_a0_sort r_a0_sort (by omega) dX12_pour_65 (fun v49 ev49 => ?_)
                refine lv_aload_n F.1 F.2.1 dX12_pour_66 rfl (lv_at hl 0 rfl) ?_
                refine g_12_17 F h m_a0 r_a0 dX12_pour_67 (fun o50 m_o50 r_o50 ho50 => ?_)
                obtain rfl := (fld_inj t_a0_sort ho50).symm
                refine lv_iload_n F.1 F.2.1 dX12_pour_70 rfl (lv_at hl 3 rfl) ?_
                refine le_62 F h m_a0_sort r_a0_sort (by omega) dX12_pour_71 (fun v51 ev51 => ?_)
                refine tw_icmp_eq (tgt := 82) F dX12_pour_72 (by decide) (fun b52 => ?_) (fun b52 => ?_)
                · refine lv_iload F.1 F.2.1 dX12_pour_82 (lv_at hl 5 rfl) ?_
                  refine lv_aload_n F.1 F.2.1 dX12_pour_84 rfl (lv_at hl 0 rfl) ?_
                  refine g_12_21 F h m_a0 r_a0 dX12_pour_85 (fun o53 m_o53 r_o53 ho53 => ?_)
                  obtain rfl := (fld_inj t_a0_trayMany ho53).symm
                  refine lv_iload_n F.1 F.2.1 dX12_pour_88 rfl (lv_at hl 1 rfl) ?_
                  refine le_63 F h m_a0_trayMany r_a0_trayMany (by omega) dX12_pour_89 (fun v54 ev54 hv54a hv54b => ?_)
                  refine lv_iload_n F.1 F.2.1 dX12_pour_90 rfl (lv_at hl 2 rfl) ?_
                  refine tu_isub F dX12_pour_91 (by omega) (fun z55 hz55 => ?_)
                  refine tw_icmp_gt (tgt := 109) F dX12_pour_92 (by decide) (fun b56 => ?_) (fun b56 => ?_)
                  · refine lv_aload_n F.1 F.2.1 dX12_pour_109 rfl (lv_at hl 0 rfl) ?_
                    refine tw_iconst F dX12_pour_110 ki_3 (fun z57 hz57 => ?_)
                    refine tw_Vi (As := [.int z57]) F hZ h yk_X12_is mw_286 mw_287 mw_288 (s_X12_is l D cy L R O f0 a0 m_a0 r_a0 z57 ⟨by omega, by omega⟩) rfl rfl m_a0 r_a0 (fun e q => (T_12 e).mp q) rfl hl.1 rfl (Nat.le_of_ble_eq_true rfl) ⟨Nat.le_of_ble_eq_true rfl, Nat.le_of_ble_eq_true rfl⟩ ⟨Nat.le_of_ble_eq_true rfl, Nat.le_of_ble_eq_true rfl⟩ dX12_pour_111 (fun v59 f58 H locs hp58 h => ?_)
                    obtain ⟨hf58, hv59a, hv59b, hv59p0⟩ := hp58
                    have hk : fr L R [(12, 1)] [12, 64] f0 f58 := hk.tr hf58 rfl rfl
                    have e60 : fld f58 a0 4 = .ref a0_sort := (hf58.efl m_a0 r_a0 rfl).trans t_a0_sort
                    have e61 : fld f58 a0 5 = .ref a0_trayMany := (hf58.efl m_a0 r_a0 rfl).trans t_a0_trayMany
                    have e62 : fld f58 a0 6 = .ref a0_trays := (hf58.efl m_a0 r_a0 rfl).trans t_a0_trays
                    exact hret f58 _ _ _ _ v59 dX12_pour_114 (tw_nb (by omega)) ⟨hk, by omega, by omega, by omega, (fun i hi j hj => by have q := TNm t_a0_trays m_a0_trays r_a0_trays hf58 m_a0 r_a0 (by decide +kernel) (by decide +kernel) i j; exact Or.inr ⟨fun w => by obtain ⟨w1, w2, w3⟩ := w; rw [w2] at w1; omega, q⟩)⟩ h
                  · refine lv_iload F.1 F.2.1 dX12_pour_95 (lv_at hl 5 rfl) ?_
                    refine lv_aload_n F.1 F.2.1 dX12_pour_97 rfl (lv_at hl 0 rfl) ?_
                    refine g_12_21 F h m_a0 r_a0 dX12_pour_98 (fun o63 m_o63 r_o63 ho63 => ?_)
                    obtain rfl := (fld_inj t_a0_trayMany ho63).symm
                    refine lv_iload_n F.1 F.2.1 dX12_pour_101 rfl (lv_at hl 3 rfl) ?_
                    refine le_63 F h m_a0_trayMany r_a0_trayMany (by omega) dX12_pour_102 (fun v64 ev64 hv64a hv64b => ?_)
                    refine lv_iload F.1 F.2.1 dX12_pour_103 (lv_at hl 4 rfl) ?_
                    refine tu_isub F dX12_pour_105 (by omega) (fun z65 hz65 => ?_)
                    refine tw_icmp_le (tgt := 115) F dX12_pour_106 (by decide) (fun b66 => ?_) (fun b66 => ?_)
                    · refine tw_iconst F dX12_pour_115 ki_0 (fun z67 hz67 => ?_)
                      refine lv_istore (lv' := [(6, .int z67), (0, .ref a0), (1, .int x1), (2, .int x2), (3, .int x3), (4, .int x4), (5, .int x5)]) F.1 F.2.1 dX12_pour_116 hl (by decide) rfl (fun ls hl => ?_)
                      have j_118 : ∀ (n118 : Nat) (f68 : Nat → va_E) (H : Heap) (locs : List Loc) (ls : Array Slot) (x6_118 : Int32), 0 ≤ x6_118.toInt → x6_118.toInt ≤ 60 → 0 ≤ x6_118.toInt → (∀ p : Nat, ((60 * x3.toInt + x4.toInt ≤ (p : Int) ∧ (p : Int) < 60 * x3.toInt + x4.toInt + x5.toInt ∧ ((x2.toInt < x4.toInt ∧ x5.toInt - x6_118.toInt ≤ (p : Int) - 60 * x3.toInt - x4.toInt) ∨ (x4.toInt ≤ x2.toInt ∧ (p : Int) - 60 * x3.toInt - x4.toInt < x6_118.toInt))) → elj f68 a0_trays p = elj f0 a0_trays (60 * x1.toInt.toNat + x2.toInt.toNat + (p - (60 * x3.toInt.toNat + x4.toInt.toNat)))) ∧ (¬ (60 * x3.toInt + x4.toInt ≤ (p : Int) ∧ (p : Int) < 60 * x3.toInt + x4.toInt + x5.toInt ∧ ((x2.toInt < x4.toInt ∧ x5.toInt - x6_118.toInt ≤ (p : Int) - 60 * x3.toInt - x4.toInt) ∨ (x4.toInt ≤ x2.toInt ∧ (p : Int) - 60 * x3.toInt - x4.toInt < x6_118.toInt))) → elj f68 a0_trays p = elj f0 a0_trays p)) → ((60 - x6_118.toInt)).toNat < n118 → tS D cy A s.heap L R (TT cy L R) f68 s H locs → fr L R [(12, 1)] [12, 64] f0 f68 → fr L R [] [64] f0 f68 → lv_has ls 8 [(0, .ref a0), (1, .int x1), (2, .int x2), (3, .int x3), (4, .int x4), (5, .int x5), (6, .int x6_118)] → W p l e rm_X12_pourZ s m args below meth c H locs 0 0 Q (F0 m 118 ls []) := by
                        intro n118
                        induction n118 with
                        | zero =>
                          intro f68 H locs ls x6_118 b69 b70 b71 ip118_0 b72 h hk hb118 hl
                          exfalso
                          omega
                        | succ n118 ih118 =>
                          intro f68 H locs ls x6_118 b69 b70 b71 ip118_0 b72 h hk hb118 hl
                          have e73 : fld f68 a0 4 = .ref a0_sort := (hb118.efl m_a0 r_a0 rfl).trans t_a0_sort
                          have e74 : fld f68 a0 5 = .ref a0_trayMany := (hb118.efl m_a0 r_a0 rfl).trans t_a0_trayMany
                          have e75 : fld f68 a0 6 = .ref a0_trays := (hb118.efl m_a0 r_a0 rfl).trans t_a0_trays
                          refine lv_iload F.1 F.2.1 dX12_pour_118 (lv_at hl 6 rfl) ?_
                          refine lv_iload F.1 F.2.1 dX12_pour_120 (lv_at hl 5 rfl) ?_
                          refine tw_icmp_ge (tgt := 180) F dX12_pour_122 (by decide) (fun b76 => ?_) (fun b76 => ?_)
                          · refine lv_aload_n F.1 F.2.1 dX12_pour_180 rfl (lv_at hl 0 rfl) ?_
                            refine tw_iconst F dX12_pour_181 ki_0 (fun z77 hz77 => ?_)
                            refine tw_Vi (As := [.int z77]) F hZ h yk_X12_is mw_286 mw_287 mw_288 (s_X12_is l D cy L R O f68 a0 m_a0 r_a0 z77 ⟨by omega, by omega⟩) rfl rfl m_a0 r_a0 (fun e q => (T_12 e).mp q) rfl hl.1 rfl (Nat.le_of_ble_eq_true rfl) ⟨Nat.le_of_ble_eq_true rfl, Nat.le_of_ble_eq_true rfl⟩ ⟨Nat.le_of_ble_eq_true rfl, Nat.le_of_ble_eq_true rfl⟩ dX12_pour_182 (fun v79 f78 H locs hp78 h => ?_)
                            obtain ⟨hf78, hv79a, hv79b, hv79p0⟩ := hp78
                            have hk : fr L R [(12, 1)] [12, 64] f0 f78 := hk.tr hf78 rfl rfl
                            have e80 : fld f78 a0 4 = .ref a0_sort := (hf78.efl m_a0 r_a0 rfl).trans e73
                            have e81 : fld f78 a0 5 = .ref a0_trayMany := (hf78.efl m_a0 r_a0 rfl).trans e74
                            have e82 : fld f78 a0 6 = .ref a0_trays := (hf78.efl m_a0 r_a0 rfl).trans e75
                            exact hret f78 _ _ _ _ v79 dX12_pour_185 (tw_nb (by omega)) ⟨hk, by omega, by omega, by omega, (fun i hi j hj => by have q0 := MN_of e82 i j; have q1 := hf78.eelj m_a0_trays r_a0_trays (by decide +kernel) (60 * i + j); have q2 := ip118_0 (60 * i + j); have q3 := MN_of t_a0_trays i j; have q5 := MN_of t_a0_trays x1.toInt.toNat (x2.toInt.toNat + (j - x4.toInt.toNat)); exact (if e1 : i = x3.toInt.toNat ∧ x4.toInt.toNat ≤ j ∧ (j : Int) < x4.toInt + x5.toInt then Or.inl ⟨⟨by rw [e1.1]; omega, e1⟩, by have q4 := q2.1 (by omega); rw [show 60 * x1.toInt.toNat + x2.toInt.toNat + (60 * i + j - (60 * x3.toInt.toNat + x4.toInt.toNat)) = 60 * x1.toInt.toNat + (x2.toInt.toNat + (j - x4.toInt.toNat)) by omega] at q4; omega⟩ else Or.inr ⟨fun w => e1 w.2, by have q4 := q2.2 (by omega); omega⟩))⟩ h
                          · refine lv_iload_n F.1 F.2.1 dX12_pour_125 rfl (lv_at hl 2 rfl) ?_
                            refine lv_iload F.1 F.2.1 dX12_pour_126 (lv_at hl 4 rfl) ?_
                            have j_143 : ∀ (ls : Array Slot) (y0_143 : Int32), (-59) ≤ y0_143.toInt → y0_143.toInt ≤ 59 → 0 ≤ y0_143.toInt → y0_143.toInt < x5.toInt → ((x2.toInt < x4.toInt ∧ y0_143.toInt = x5.toInt - 1 - x6_118.toInt) ∨ (x4.toInt ≤ x2.toInt ∧ y0_143.toInt = x6_118.toInt)) → lv_has ls 8 [(0, .ref a0), (1, .int x1), (2, .int x2), (3, .int x3), (4, .int x4), (5, .int x5), (6, .int x6_118)] → W p l e rm_X12_pourZ s m args below meth c H locs 0 0 Q (F0 m 143 ls [.int y0_143]) := by
                              intro ls y0_143 b83 b84 b85 b86 b87 hl
                              refine lv_istore (lv' := [(7, .int y0_143), (0, .ref a0), (1, .int x1), (2, .int x2), (3, .int x3), (4, .int x4), (5, .int x5), (6, .int x6_118)]) F.1 F.2.1 dX12_pour_143 hl (by decide) rfl (fun ls hl => ?_)
                              refine lv_aload_n F.1 F.2.1 dX12_pour_145 rfl (lv_at hl 1 rfl) ?_
                              refine g_12_24 F h m_a0 r_a0 dX12_pour_146 (fun o88 m_o88 r_o88 ho88 => ?_)
                              obtain rfl := (fld_inj e75 ho88).symm
                              refine tw_bipush F dX12_pour_149 kb_60 (fun z89 hz89 => ?_)
                              refine lv_iload_n F.1 F.2.1 dX12_pour_151 rfl (lv_at hl 4 rfl) ?_
                              refine tu_imull F dX12_pour_152 hz89 (by omega) (fun z90 hz90 => ?_)
                              refine lv_iload F.1 F.2.1 dX12_pour_153 (lv_at hl 5 rfl) ?_
                              refine tu_iadd F dX12_pour_155 (by omega) (fun z91 hz91 => ?_)
                              refine lv_iload F.1 F.2.1 dX12_pour_156 (lv_at hl 0 rfl) ?_
                              refine tu_iadd F dX12_pour_158 (by omega) (fun z92 hz92 => ?_)
                              refine lv_aload_n F.1 F.2.1 dX12_pour_159 rfl (lv_at hl 1 rfl) ?_
                              refine g_12_24 F h m_a0 r_a0 dX12_pour_160 (fun o93 m_o93 r_o93 ho93 => ?_)
                              obtain rfl := (fld_inj e75 ho93).symm
                              refine tw_bipush F dX12_pour_163 kb_60 (fun z94 hz94 => ?_)
                              refine lv_iload_n F.1 F.2.1 dX12_pour_165 rfl (lv_at hl 2 rfl) ?_
                              refine tu_imull F dX12_pour_166 hz94 (by omega) (fun z95 hz95 => ?_)
                              refine lv_iload_n F.1 F.2.1 dX12_pour_167 rfl (lv_at hl 3 rfl) ?_
                              refine tu_iadd F dX12_pour_168 (by omega) (fun z96 hz96 => ?_)
                              refine lv_iload F.1 F.2.1 dX12_pour_169 (lv_at hl 0 rfl) ?_
                              refine tu_iadd F dX12_pour_171 (by omega) (fun z97 hz97 => ?_)
                              refine le_64 F h m_a0_trays r_a0_trays (by omega) dX12_pour_172 (fun v98 ev98 => ?_)
                              refine se_64 F h m_a0_trays r_a0_trays (by omega) dX12_pour_173 (fun f99 H locs e99a e99b hf99 h => ?_)
                              have hk : fr L R [(12, 1)] [12, 64] f0 f99 := hk.tr hf99 rfl rfl
                              have hb118 : fr L R [] [64] f0 f99 := hb118.tr hf99 rfl rfl
                              have e100 : fld f99 a0 4 = .ref a0_sort := (hf99.efl m_a0 r_a0 rfl).trans e73
                              have e101 : fld f99 a0 5 = .ref a0_trayMany := (hf99.efl m_a0 r_a0 rfl).trans e74
                              have e102 : fld f99 a0 6 = .ref a0_trays := (hf99.efl m_a0 r_a0 rfl).trans e75
                              refine tu_iinc F dX12_pour_174 hl (k := 7) rfl (by decide) ki_1 (by omega) (fun z103 ls hz103 hl => ?_)
                              have hl : lv_has ls 8 [(6, .int z103), (7, .int y0_143), (0, .ref a0), (1, .int x1), (2, .int x2), (3, .int x3), (4, .int x4), (5, .int x5)] := hl
                              refine lv_goto (tgt := 118) F.1 F.2.1 dX12_pour_177 (by decide) ?_
                              exact ih118 f99 _ _ _ z103 (by omega) (by omega) (by omega) (fun p => by have qa := e99a p; have qi := ip118_0 p; have qs := (ip118_0 z97.toInt.toNat).2 (by omega); have qh := ev98; exact (if e : p = z92.toInt.toNat then ⟨fun _ => by rw [if_pos e] at qa; rw [show 60 * x1.toInt.toNat + x2.toInt.toNat + (p - (60 * x3.toInt.toNat + x4.toInt.toNat)) = z97.toInt.toNat by omega]; omega, fun q => by exfalso; omega⟩ else ⟨fun q => by rw [if_neg e] at qa; have q2 := qi.1 (by omega); omega, fun q => by rw [if_neg e] at qa; have q2 := qi.2 (by omega); omega⟩)) (by omega) h hk hb118 (lv_sub hl [2, 3, 4, 5, 6, 7, 0] rfl)
                            refine tw_icmp_ge (tgt := 141) F dX12_pour_128 (by decide) (fun b104 => ?_) (fun b104 => ?_)
                            · refine lv_iload F.1 F.2.1 dX12_pour_141 (lv_at hl 6 rfl) ?_
                              exact j_143 _ x6_118 (by omega) (by omega) (by omega) (by omega) (by omega) (lv_sub hl [0, 1, 2, 3, 4, 5, 6] rfl)
                            · refine lv_iload F.1 F.2.1 dX12_pour_131 (lv_at hl 5 rfl) ?_
                              refine tw_iconst F dX12_pour_133 ki_1 (fun z105 hz105 => ?_)
                              refine tu_isub F dX12_pour_134 (by omega) (fun z106 hz106 => ?_)
                              refine lv_iload F.1 F.2.1 dX12_pour_135 (lv_at hl 6 rfl) ?_
                              refine tu_isub F dX12_pour_137 (by omega) (fun z107 hz107 => ?_)
                              refine lv_goto (tgt := 143) F.1 F.2.1 dX12_pour_138 (by decide) ?_
                              exact j_143 _ z107 (by omega) (by omega) (by omega) (by omega) (by omega) (lv_sub hl [0, 1, 2, 3, 4, 5, 6] rfl)
                      have hb118 : fr L R [] [64] f0 f0 := fr.rf
                      exact j_118 (((60 - z67.toInt)).toNat + 1) f0 _ _ _ z67 (by omega) (by omega) (by omega) (fun p => ⟨fun q => by exfalso; omega, fun _ => rfl⟩) (by omega) h hk hb118 (lv_sub hl [1, 2, 3, 4, 5, 6, 0] rfl)
                    · refine lv_aload_n F.1 F.2.1 dX12_pour_109 rfl (lv_at hl 0 rfl) ?_
                      refine tw_iconst F dX12_pour_110 ki_3 (fun z108 hz108 => ?_)
                      refine tw_Vi (As := [.int z108]) F hZ h yk_X12_is mw_286 mw_287 mw_288 (s_X12_is l D cy L R O f0 a0 m_a0 r_a0 z108 ⟨by omega, by omega⟩) rfl rfl m_a0 r_a0 (fun e q => (T_12 e).mp q) rfl hl.1 rfl (Nat.le_of_ble_eq_true rfl) ⟨Nat.le_of_ble_eq_true rfl, Nat.le_of_ble_eq_true rfl⟩ ⟨Nat.le_of_ble_eq_true rfl, Nat.le_of_ble_eq_true rfl⟩ dX12_pour_111 (fun v110 f109 H locs hp109 h => ?_)
                      obtain ⟨hf109, hv110a, hv110b, hv110p0⟩ := hp109
                      have hk : fr L R [(12, 1)] [12, 64] f0 f109 := hk.tr hf109 rfl rfl
                      have e111 : fld f109 a0 4 = .ref a0_sort := (hf109.efl m_a0 r_a0 rfl).trans t_a0_sort
                      have e112 : fld f109 a0 5 = .ref a0_trayMany := (hf109.efl m_a0 r_a0 rfl).trans t_a0_trayMany
                      have e113 : fld f109 a0 6 = .ref a0_trays := (hf109.efl m_a0 r_a0 rfl).trans t_a0_trays
                      exact hret f109 _ _ _ _ v110 dX12_pour_114 (tw_nb (by omega)) ⟨hk, by omega, by omega, by omega, (fun i hi j hj => by have q := TNm t_a0_trays m_a0_trays r_a0_trays hf109 m_a0 r_a0 (by decide +kernel) (by decide +kernel) i j; exact Or.inr ⟨fun w => by obtain ⟨w1, w2, w3⟩ := w; rw [w2] at w1; omega, q⟩)⟩ h
                · refine lv_aload_n F.1 F.2.1 dX12_pour_75 rfl (lv_at hl 0 rfl) ?_
                  refine tw_bipush F dX12_pour_76 kb_8 (fun z114 hz114 => ?_)
                  refine tw_Vi (As := [.int z114]) F hZ h yk_X12_is mw_286 mw_287 mw_288 (s_X12_is l D cy L R O f0 a0 m_a0 r_a0 z114 ⟨by omega, by omega⟩) rfl rfl m_a0 r_a0 (fun e q => (T_12 e).mp q) rfl hl.1 rfl (Nat.le_of_ble_eq_true rfl) ⟨Nat.le_of_ble_eq_true rfl, Nat.le_of_ble_eq_true rfl⟩ ⟨Nat.le_of_ble_eq_true rfl, Nat.le_of_ble_eq_true rfl⟩ dX12_pour_78 (fun v116 f115 H locs hp115 h => ?_)
                  obtain ⟨hf115, hv116a, hv116b, hv116p0⟩ := hp115
                  have hk : fr L R [(12, 1)] [12, 64] f0 f115 := hk.tr hf115 rfl rfl
                  have e117 : fld f115 a0 4 = .ref a0_sort := (hf115.efl m_a0 r_a0 rfl).trans t_a0_sort
                  have e118 : fld f115 a0 5 = .ref a0_trayMany := (hf115.efl m_a0 r_a0 rfl).trans t_a0_trayMany
                  have e119 : fld f115 a0 6 = .ref a0_trays := (hf115.efl m_a0 r_a0 rfl).trans t_a0_trays
                  exact hret f115 _ _ _ _ v116 dX12_pour_81 (tw_nb (by omega)) ⟨hk, by omega, by omega, by omega, (fun i hi j hj => by have q := TNm t_a0_trays m_a0_trays r_a0_trays hf115 m_a0 r_a0 (by decide +kernel) (by decide +kernel) i j; exact Or.inr ⟨fun w => by obtain ⟨w1, w2, w3⟩ := w; rw [w2] at w1; omega, q⟩)⟩ h
              · refine lv_aload_n F.1 F.2.1 dX12_pour_54 rfl (lv_at hl 0 rfl) ?_
                refine tw_iconst F dX12_pour_55 ki_2 (fun z120 hz120 => ?_)
                refine tw_Vi (As := [.int z120]) F hZ h yk_X12_is mw_286 mw_287 mw_288 (s_X12_is l D cy L R O f0 a0 m_a0 r_a0 z120 ⟨by omega, by omega⟩) rfl rfl m_a0 r_a0 (fun e q => (T_12 e).mp q) rfl hl.1 rfl (Nat.le_of_ble_eq_true rfl) ⟨Nat.le_of_ble_eq_true rfl, Nat.le_of_ble_eq_true rfl⟩ ⟨Nat.le_of_ble_eq_true rfl, Nat.le_of_ble_eq_true rfl⟩ dX12_pour_56 (fun v122 f121 H locs hp121 h => ?_)
                obtain ⟨hf121, hv122a, hv122b, hv122p0⟩ := hp121
                have hk : fr L R [(12, 1)] [12, 64] f0 f121 := hk.tr hf121 rfl rfl
                have e123 : fld f121 a0 4 = .ref a0_sort := (hf121.efl m_a0 r_a0 rfl).trans t_a0_sort
                have e124 : fld f121 a0 5 = .ref a0_trayMany := (hf121.efl m_a0 r_a0 rfl).trans t_a0_trayMany
                have e125 : fld f121 a0 6 = .ref a0_trays := (hf121.efl m_a0 r_a0 rfl).trans t_a0_trays
                exact hret f121 _ _ _ _ v122 dX12_pour_59 (tw_nb (by omega)) ⟨hk, by omega, by omega, by omega, (fun i hi j hj => by have q := TNm t_a0_trays m_a0_trays r_a0_trays hf121 m_a0 r_a0 (by decide +kernel) (by decide +kernel) i j; exact Or.inr ⟨fun w => by obtain ⟨w1, w2, w3⟩ := w; rw [w2] at w1; omega, q⟩)⟩ h
          · refine lv_aload_n F.1 F.2.1 dX12_pour_28 rfl (lv_at hl 0 rfl) ?_
            refine tw_iconst F dX12_pour_29 ki_1 (fun z126 hz126 => ?_)
            refine tw_Vi (As := [.int z126]) F hZ h yk_X12_is mw_286 mw_287 mw_288 (s_X12_is l D cy L R O f0 a0 m_a0 r_a0 z126 ⟨by omega, by omega⟩) rfl rfl m_a0 r_a0 (fun e q => (T_12 e).mp q) rfl hl.1 rfl (Nat.le_of_ble_eq_true rfl) ⟨Nat.le_of_ble_eq_true rfl, Nat.le_of_ble_eq_true rfl⟩ ⟨Nat.le_of_ble_eq_true rfl, Nat.le_of_ble_eq_true rfl⟩ dX12_pour_30 (fun v128 f127 H locs hp127 h => ?_)
            obtain ⟨hf127, hv128a, hv128b, hv128p0⟩ := hp127
            have hk : fr L R [(12, 1)] [12, 64] f0 f127 := hk.tr hf127 rfl rfl
            have e129 : fld f127 a0 4 = .ref a0_sort := (hf127.efl m_a0 r_a0 rfl).trans t_a0_sort
            have e130 : fld f127 a0 5 = .ref a0_trayMany := (hf127.efl m_a0 r_a0 rfl).trans t_a0_trayMany
            have e131 : fld f127 a0 6 = .ref a0_trays := (hf127.efl m_a0 r_a0 rfl).trans t_a0_trays
            exact hret f127 _ _ _ _ v128 dX12_pour_33 (tw_nb (by omega)) ⟨hk, by omega, by omega, by omega, (fun i hi j hj => by have q := TNm t_a0_trays m_a0_trays r_a0_trays hf127 m_a0 r_a0 (by decide +kernel) (by decide +kernel) i j; exact Or.inr ⟨fun w => by obtain ⟨w1, w2, w3⟩ := w; rw [w2] at w1; omega, q⟩)⟩ h
