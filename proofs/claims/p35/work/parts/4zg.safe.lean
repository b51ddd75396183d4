def rm_X11_oddsF : Room := { frames := 3, cells := 0, slots := 0, locals := 67 }
set_option maxHeartbeats 4000000 in
set_option maxRecDepth 100000 in
theorem s_X11_oddsF (l : Launch) (D : va_G) (cy : Nat → ClassId) (L : List Nat) (R O : Nat → Nat) (f0 : Nat → va_E) (a0 : Nat) (m_a0 : a0 ∈ L) (r_a0 : R a0 = 11) (x1 : Int32) : ∀ sz, Met l yX11_odds (Cond.code yX11_odds cX11_odds 2 (some .boolean) :: wsL_law) rm_X11_oddsF (va_Pc [.ref a0, .int x1] (tPZ D cy L R (TT cy L R) f0 sz)) (va_Qi (fun (r : Int32) f1 => fr L R [(11, 14), (11, 15), (11, 16)] [11] f0 f1 ∧ 0 ≤ r.toInt ∧ r.toInt ≤ 1 ∧ ((r.toInt = 1 ∧ 0 ≤ x1.toInt ∧ x1.toInt ≤ 16) ∨ (r.toInt = 0 ∧ (x1.toInt < 0 ∨ 16 < x1.toInt)))) (tB D (tA L sz) L R (TT cy L R)) (tA L sz)) 0 0 (tA L sz) := by
  refine tw_enteri (by decide +kernel) rfl (Nat.le_of_ble_eq_true rfl) ?_
  intro p e s m below meth c A ls args Q F hZ h hl hret
  have hl : lv_has ls 2 [(0, .ref a0), (1, .int x1)] := hl
  have hk : fr L R [(11, 14), (11, 15), (11, 16)] [11] f0 f0 := fr.rf
  refine lv_iload_n F.1 F.2.1 dX11_odds_0 rfl (lv_at hl 1 rfl) ?_
  refine tw_if_lt (tgt := 10) F dX11_odds_1 (by decide) (fun b1 => ?_) (fun b1 => ?_)
  · refine lv_aload_n F.1 F.2.1 dX11_odds_10 rfl (lv_at hl 0 rfl) ?_
    refine tw_iconst F dX11_odds_11 ki_1 (fun z2 hz2 => ?_)
    refine tw_Vi (As := [.int z2]) F hZ h yk_X11_settle mw_271 mw_272 mw_273 (s_X11_settle l D cy L R O f0 a0 m_a0 r_a0 z2 ⟨by omega, by omega⟩) rfl rfl m_a0 r_a0 (fun e q => (T_11 e).mp q) rfl hl.1 rfl (Nat.le_of_ble_eq_true rfl) ⟨Nat.le_of_ble_eq_true rfl, Nat.le_of_ble_eq_true rfl⟩ ⟨Nat.le_of_ble_eq_true rfl, Nat.le_of_ble_eq_true rfl⟩ dX11_odds_12 (fun v4 f3 H locs hp3 h => ?_)
    obtain ⟨hf3, hv4a, hv4b, hv4p0⟩ := hp3
    have hk : fr L R [(11, 14), (11, 15), (11, 16)] [11] f0 f3 := hk.tr hf3 rfl rfl
    exact hret f3 _ _ _ _ v4 dX11_odds_15 (tw_nb (by omega)) ⟨hk, by omega, by omega, by omega⟩ h
  · refine lv_iload_n F.1 F.2.1 dX11_odds_4 rfl (lv_at hl 1 rfl) ?_
    refine tw_bipush F dX11_odds_5 kb_16 (fun z5 hz5 => ?_)
    refine tw_icmp_le (tgt := 16) F dX11_odds_7 (by decide) (fun b6 => ?_) (fun b6 => ?_)
    · refine lv_aload_n F.1 F.2.1 dX11_odds_16 rfl (lv_at hl 0 rfl) ?_
      refine lv_iload_n F.1 F.2.1 dX11_odds_17 rfl (lv_at hl 1 rfl) ?_
      refine lv_aload_n F.1 F.2.1 dX11_odds_18 rfl (lv_at hl 0 rfl) ?_
      refine g_11_40 F h m_a0 r_a0 dX11_odds_19 (fun o7 m_o7 r_o7 ho7 => ?_)
      refine tw_Vi (As := []) F hZ h yk_X9_repeats mw_1413 mw_1414 mw_1415 (s_X9_repeats l D cy L R O f0 o7 m_o7 r_o7) rfl rfl m_o7 r_o7 (fun e q => (T_9 e).mp q) rfl hl.1 rfl (Nat.le_of_ble_eq_true rfl) ⟨Nat.le_of_ble_eq_true rfl, Nat.le_of_ble_eq_true rfl⟩ ⟨Nat.le_of_ble_eq_true rfl, Nat.le_of_ble_eq_true rfl⟩ dX11_odds_22 (fun v9 f8 H locs hp8 h => ?_)
      obtain rfl := hp8
      refine tw_Vv (As := [.int x1, .int v9]) F hZ h yk_X11_tellPower mw_1417 mw_1418 mw_1419 (s_X11_tellPower l D cy L R O f0 a0 m_a0 r_a0 x1 ⟨by omega, by omega⟩ v9) rfl rfl m_a0 r_a0 (fun e q => (T_11 e).mp q) rfl hl.1 rfl (Nat.le_of_ble_eq_true rfl) ⟨Nat.le_of_ble_eq_true rfl, Nat.le_of_ble_eq_true rfl⟩ ⟨Nat.le_of_ble_eq_true rfl, Nat.le_of_ble_eq_true rfl⟩ dX11_odds_25 (fun f10 H locs hp10 h => ?_)
      have hf10 := hp10
      have hk : fr L R [(11, 14), (11, 15), (11, 16)] [11] f0 f10 := hk.tr hf10 rfl rfl
      refine lv_aload_n F.1 F.2.1 dX11_odds_28 rfl (lv_at hl 0 rfl) ?_
      refine tw_iconst F dX11_odds_29 ki_0 (fun z12 hz12 => ?_)
      refine tw_Vi (As := [.int z12]) F hZ h yk_X11_settle mw_271 mw_272 mw_273 (s_X11_settle l D cy L R O f10 a0 m_a0 r_a0 z12 ⟨by omega, by omega⟩) rfl rfl m_a0 r_a0 (fun e q => (T_11 e).mp q) rfl hl.1 rfl (Nat.le_of_ble_eq_true rfl) ⟨Nat.le_of_ble_eq_true rfl, Nat.le_of_ble_eq_true rfl⟩ ⟨Nat.le_of_ble_eq_true rfl, Nat.le_of_ble_eq_true rfl⟩ dX11_odds_30 (fun v14 f13 H locs hp13 h => ?_)
      obtain ⟨hf13, hv14a, hv14b, hv14p0⟩ := hp13
      have hk : fr L R [(11, 14), (11, 15), (11, 16)] [11] f0 f13 := hk.tr hf13 rfl rfl
      exact hret f13 _ _ _ _ v14 dX11_odds_33 (tw_nb (by omega)) ⟨hk, by omega, by omega, by omega⟩ h
    · refine lv_aload_n F.1 F.2.1 dX11_odds_10 rfl (lv_at hl 0 rfl) ?_
      refine tw_iconst F dX11_odds_11 ki_1 (fun z15 hz15 => ?_)
      refine tw_Vi (As := [.int z15]) F hZ h yk_X11_settle mw_271 mw_272 mw_273 (s_X11_settle l D cy L R O f0 a0 m_a0 r_a0 z15 ⟨by omega, by omega⟩) rfl rfl m_a0 r_a0 (fun e q => (T_11 e).mp q) rfl hl.1 rfl (Nat.le_of_ble_eq_true rfl) ⟨Nat.le_of_ble_eq_true rfl, Nat.le_of_ble_eq_true rfl⟩ ⟨Nat.le_of_ble_eq_true rfl, Nat.le_of_ble_eq_true rfl⟩ dX11_odds_12 (fun v17 f16 H locs hp16 h => ?_)
      obtain ⟨hf16, hv17a, hv17b, hv17p0⟩ := hp16
      have hk : fr L R [(11, 14), (11, 15), (11, 16)] [11] f0 f16 := hk.tr hf16 rfl rfl
      exact hret f16 _ _ _ _ v17 dX11_odds_15 (tw_nb (by omega)) ⟨hk, by omega, by omega, by omega⟩ h
def rm_X12_oddsF : Room := { frames := 1, cells := 0, slots := 0, locals := 25 }
set_option maxHeartbeats 4000000 in
set_option maxRecDepth 100000 in
theorem s_X12_oddsF (l : Launch) (D : va_G) (cy : Nat → ClassId) (L : List Nat) (R O : Nat → Nat) (f0 : Nat → va_E) (a0 : Nat) (m_a0 : a0 ∈ L) (r_a0 : R a0 = 12) (x1 : Int32) : ∀ sz, Met l yX12_odds (Cond.code yX12_odds cX12_odds 12 (some .boolean) :: wsL_law) rm_X12_oddsF (va_Pc [.ref a0, .int x1] (tPZ D cy L R (TT cy L R) f0 sz)) (va_Qi (fun (r : Int32) f1 => fr L R [(12, 1), (12, 2), (12, 3)] [12] f0 f1 ∧ 0 ≤ r.toInt ∧ r.toInt ≤ 1 ∧ ((r.toInt = 1 ∧ 0 ≤ x1.toInt ∧ x1.toInt ≤ 16) ∨ (r.toInt = 0 ∧ (x1.toInt < 0 ∨ 16 < x1.toInt)))) (tB D (tA L sz) L R (TT cy L R)) (tA L sz)) 0 0 (tA L sz) := by
  refine tw_enteri (by decide +kernel) rfl (Nat.le_of_ble_eq_true rfl) ?_
  intro p e s m below meth c A ls args Q F hZ h hl hret
  have hl : lv_has ls 12 [(0, .ref a0), (1, .int x1)] := hl
  have hk : fr L R [(12, 1), (12, 2), (12, 3)] [12] f0 f0 := fr.rf
  refine lv_iload_n F.1 F.2.1 dX12_odds_0 rfl (lv_at hl 1 rfl) ?_
  refine tw_if_lt (tgt := 10) F dX12_odds_1 (by decide) (fun b1 => ?_) (fun b1 => ?_)
  · refine lv_aload_n F.1 F.2.1 dX12_odds_10 rfl (lv_at hl 0 rfl) ?_
    refine tw_iconst F dX12_odds_11 ki_1 (fun z2 hz2 => ?_)
    refine tw_Vi (As := [.int z2]) F hZ h yk_X12_is mw_286 mw_287 mw_288 (s_X12_is l D cy L R O f0 a0 m_a0 r_a0 z2 ⟨by omega, by omega⟩) rfl rfl m_a0 r_a0 (fun e q => (T_12 e).mp q) rfl hl.1 rfl (Nat.le_of_ble_eq_true rfl) ⟨Nat.le_of_ble_eq_true rfl, Nat.le_of_ble_eq_true rfl⟩ ⟨Nat.le_of_ble_eq_true rfl, Nat.le_of_ble_eq_true rfl⟩ dX12_odds_12 (fun v4 f3 H locs hp3 h => ?_)
    obtain ⟨hf3, hv4a, hv4b, hv4p0⟩ := hp3
    have hk : fr L R [(12, 1), (12, 2), (12, 3)] [12] f0 f3 := hk.tr hf3 rfl rfl
    exact hret f3 _ _ _ _ v4 dX12_odds_15 (tw_nb (by omega)) ⟨hk, by omega, by omega, by omega⟩ h
  · refine lv_iload_n F.1 F.2.1 dX12_odds_4 rfl (lv_at hl 1 rfl) ?_
    refine tw_bipush F dX12_odds_5 kb_16 (fun z5 hz5 => ?_)
    refine tw_icmp_le (tgt := 16) F dX12_odds_7 (by decide) (fun b6 => ?_) (fun b6 => ?_)
    · refine tu_lconst F dX12_odds_16 (by decide) (fun z7 (hz7 : z7.toInt = 1) => ?_)
      refine lv_lstore_n (lv' := [(2, .long z7), (0, .ref a0), (1, .int x1)]) F.1 F.2.1 dX12_odds_17 rfl hl (by decide) rfl (fun ls hl => ?_)
      refine tu_lconst F dX12_odds_18 (by decide) (fun z8 (hz8 : z8.toInt = 1) => ?_)
      refine lv_lstore (lv' := [(4, .long z8), (2, .long z7), (0, .ref a0), (1, .int x1)]) F.1 F.2.1 dX12_odds_19 hl (by decide) rfl (fun ls hl => ?_)
      refine tw_iconst F dX12_odds_21 ki_0 (fun z9 hz9 => ?_)
      refine lv_istore (lv' := [(6, .int z9), (4, .long z8), (2, .long z7), (0, .ref a0), (1, .int x1)]) F.1 F.2.1 dX12_odds_22 hl (by decide) rfl (fun ls hl => ?_)
      have j_24 : ∀ (n24 : Nat) (H : Heap) (locs : List Loc) (ls : Array Slot) (x2_24 : Int64) (x4_24 : Int64) (x6_24 : Int32), 0 ≤ x6_24.toInt → x6_24.toInt ≤ 15 → (PW (x2_24.toInt) (x4_24.toInt) (x6_24.toInt.toNat)) → ((15 - x6_24.toInt)).toNat < n24 → tS D cy A s.heap L R (TT cy L R) f0 s H locs → lv_has ls 12 [(0, .ref a0), (1, .int x1), (2, .long x2_24), (4, .long x4_24), (6, .int x6_24)] → W p l e rm_X12_oddsF s m args below meth c H locs 0 0 Q (F0 m 24 ls []) := by
        intro n24
        induction n24 with
        | zero =>
          intro H locs ls x2_24 x4_24 x6_24 b10 b11 ip24_0 b12 h hl
          exfalso
          omega
        | succ n24 ih24 =>
          intro H locs ls x2_24 x4_24 x6_24 b10 b11 ip24_0 b12 h hl
          refine lv_iload F.1 F.2.1 dX12_odds_24 (lv_at hl 4 rfl) ?_
          refine lv_aload_n F.1 F.2.1 dX12_odds_26 rfl (lv_at hl 0 rfl) ?_
          refine g_12_416 F h m_a0 r_a0 dX12_odds_27 (fun v13 hv13 hv13a hv13b => ?_)
          refine tw_icmp_ge (tgt := 64) F dX12_odds_30 (by decide) (fun b14 => ?_) (fun b14 => ?_)
          · have hpw := PW_g ip24_0
            refine lv_lload_n F.1 F.2.1 dX12_odds_64 rfl (lv_at hl 2 rfl) ?_
            refine lv_lstore (lv' := [(6, .long x2_24), (0, .ref a0), (1, .int x1), (2, .long x2_24), (4, .long x4_24)]) F.1 F.2.1 dX12_odds_65 hl (by decide) rfl (fun ls hl => ?_)
            refine lv_lload F.1 F.2.1 dX12_odds_67 (lv_at hl 4 rfl) ?_
            refine lv_lstore (lv' := [(8, .long x4_24), (6, .long x2_24), (0, .ref a0), (1, .int x1), (2, .long x2_24), (4, .long x4_24)]) F.1 F.2.1 dX12_odds_69 hl (by decide) rfl (fun ls hl => ?_)
            have j_71 : ∀ (n71 : Nat) (ls : Array Slot) (x6_71 : Int64) (x8_71 : Int64), 0 ≤ x6_71.toInt → 0 ≤ x8_71.toInt → (0 < x6_71.toInt ∨ 0 < x8_71.toInt) → ((x8_71.toInt)).toNat < n71 → lv_has ls 12 [(0, .ref a0), (2, .long x2_24), (4, .long x4_24), (6, .long x6_71), (8, .long x8_71)] → W p l e rm_X12_oddsF s m args below meth c H locs 0 0 Q (F0 m 71 ls []) := by
              intro n71
              induction n71 with
              | zero =>
                intro ls x6_71 x8_71 b15 b16 b17 b18 hl
                exfalso
                omega
              | succ n71 ih71 =>
                intro ls x6_71 x8_71 b15 b16 b17 b18 hl
                refine lv_lload F.1 F.2.1 dX12_odds_71 (lv_at hl 4 rfl) ?_
                refine tu_lconst F dX12_odds_73 (by decide) (fun z19 (hz19 : z19.toInt = 0) => ?_)
                refine tw_lcmp F dX12_odds_74 (fun z20 hz20 => ?_)
                refine tw_if_eq (tgt := 96) F dX12_odds_75 (by decide) (fun b21 => ?_) (fun b21 => ?_)
                · refine lv_aload_n F.1 F.2.1 dX12_odds_96 rfl (lv_at hl 0 rfl) ?_
                  refine lv_lload_n F.1 F.2.1 dX12_odds_97 rfl (lv_at hl 1 rfl) ?_
                  refine lv_lload F.1 F.2.1 dX12_odds_98 (lv_at hl 3 rfl) ?_
                  refine lv_ldiv F.1 F.2.1 dX12_odds_100 (tw_ne0l (by omega)) ?_
                  refine lv_topl (fun z22 _ => ?_)
                  refine p_12_124 F h m_a0 r_a0 dX12_odds_101 (fun f23 H locs e23p hf23 h => ?_)
                  have hk : fr L R [(12, 1), (12, 2), (12, 3)] [12] f0 f23 := hk.tr hf23 rfl rfl
                  refine lv_aload_n F.1 F.2.1 dX12_odds_104 rfl (lv_at hl 0 rfl) ?_
                  refine lv_lload F.1 F.2.1 dX12_odds_105 (lv_at hl 2 rfl) ?_
                  refine lv_lload F.1 F.2.1 dX12_odds_107 (lv_at hl 3 rfl) ?_
                  refine lv_ldiv F.1 F.2.1 dX12_odds_109 (tw_ne0l (by omega)) ?_
                  refine lv_topl (fun z24 _ => ?_)
                  refine p_12_13 F h m_a0 r_a0 dX12_odds_110 (fun f25 H locs e25p hf25 h => ?_)
                  have hk : fr L R [(12, 1), (12, 2), (12, 3)] [12] f0 f25 := hk.tr hf25 rfl rfl
                  refine lv_aload_n F.1 F.2.1 dX12_odds_113 rfl (lv_at hl 0 rfl) ?_
                  refine tw_iconst F dX12_odds_114 ki_0 (fun z26 hz26 => ?_)
                  refine tw_Vi (As := [.int z26]) F hZ h yk_X12_is mw_286 mw_287 mw_288 (s_X12_is l D cy L R O f25 a0 m_a0 r_a0 z26 ⟨by omega, by omega⟩) rfl rfl m_a0 r_a0 (fun e q => (T_12 e).mp q) rfl hl.1 rfl (Nat.le_of_ble_eq_true rfl) ⟨Nat.le_of_ble_eq_true rfl, Nat.le_of_ble_eq_true rfl⟩ ⟨Nat.le_of_ble_eq_true rfl, Nat.le_of_ble_eq_true rfl⟩ dX12_odds_115 (fun v28 f27 H locs hp27 h => ?_)
                  obtain ⟨hf27, hv28a, hv28b, hv28p0⟩ := hp27
                  have hk : fr L R [(12, 1), (12, 2), (12, 3)] [12] f0 f27 := hk.tr hf27 rfl rfl
                  exact hret f27 _ _ _ _ v28 dX12_odds_118 (tw_nb (by omega)) ⟨hk, by omega, by omega, by omega⟩ h
                · refine lv_lload F.1 F.2.1 dX12_odds_78 (lv_at hl 3 rfl) ?_
                  refine lv_lload F.1 F.2.1 dX12_odds_80 (lv_at hl 4 rfl) ?_
                  refine tu_lrem F dX12_odds_82 (by omega) (fun z29 hz29a hz29b => ?_)
                  refine lv_lstore (lv' := [(10, .long z29), (0, .ref a0), (2, .long x2_24), (4, .long x4_24), (6, .long x6_71), (8, .long x8_71)]) F.1 F.2.1 dX12_odds_83 hl (by decide) rfl (fun ls hl => ?_)
                  refine lv_lload F.1 F.2.1 dX12_odds_85 (lv_at hl 5 rfl) ?_
                  refine lv_lstore (lv' := [(6, .long x8_71), (10, .long z29), (0, .ref a0), (2, .long x2_24), (4, .long x4_24), (8, .long x8_71)]) F.1 F.2.1 dX12_odds_87 hl (by decide) rfl (fun ls hl => ?_)
                  refine lv_lload F.1 F.2.1 dX12_odds_89 (lv_at hl 1 rfl) ?_
                  refine lv_lstore (lv' := [(8, .long z29), (6, .long x8_71), (10, .long z29), (0, .ref a0), (2, .long x2_24), (4, .long x4_24)]) F.1 F.2.1 dX12_odds_91 hl (by decide) rfl (fun ls hl => ?_)
                  refine lv_goto (tgt := 71) F.1 F.2.1 dX12_odds_93 (by decide) ?_
                  exact ih71 _ x8_71 z29 (by omega) (by omega) (by omega) (by omega) (lv_sub hl [3, 4, 5, 1, 0] rfl)
            exact j_71 (((x4_24.toInt)).toNat + 1) _ x2_24 x4_24 (by omega) (by omega) (by omega) (by omega) (lv_sub hl [2, 4, 5, 1, 0] rfl)
          · refine lv_aload_n F.1 F.2.1 dX12_odds_33 rfl (lv_at hl 0 rfl) ?_
            refine lv_iload F.1 F.2.1 dX12_odds_34 (lv_at hl 4 rfl) ?_
            refine tw_Vi (As := [.int x6_24]) F hZ h yk_X12_ahead1 mw_1405 mw_1406 mw_1407 (s_X12_ahead1 l D cy L R O f0 a0 m_a0 r_a0 x6_24 ⟨by omega, by omega⟩) rfl rfl m_a0 r_a0 (fun e q => (T_12 e).mp q) rfl hl.1 rfl (Nat.le_of_ble_eq_true rfl) ⟨Nat.le_of_ble_eq_true rfl, Nat.le_of_ble_eq_true rfl⟩ ⟨Nat.le_of_ble_eq_true rfl, Nat.le_of_ble_eq_true rfl⟩ dX12_odds_36 (fun v31 f30 H locs hp30 h => ?_)
            obtain rfl := hp30
            have j_58 : ∀ (ls : Array Slot) (x2_58 : Int64) (x4_58 : Int64), (PW (x2_58.toInt) (x4_58.toInt) (x6_24.toInt.toNat + 1)) → lv_has ls 12 [(0, .ref a0), (1, .int x1), (2, .long x2_58), (4, .long x4_58), (6, .int x6_24)] → W p l e rm_X12_oddsF s m args below meth c H locs 0 0 Q (F0 m 58 ls []) := by
              intro ls x2_58 x4_58 ip58_0 hl
              refine tu_iinc F dX12_odds_58 hl (k := 4) rfl (by decide) ki_1 (by omega) (fun z32 ls hz32 hl => ?_)
              have hl : lv_has ls 12 [(6, .int z32), (0, .ref a0), (1, .int x1), (2, .long x2_58), (4, .long x4_58)] := hl
              refine lv_goto (tgt := 24) F.1 F.2.1 dX12_odds_61 (by decide) ?_
              exact ih24 _ _ _ x2_58 x4_58 z32 (by omega) (by omega) (by rw [show z32.toInt.toNat = x6_24.toInt.toNat + 1 by omega]; exact ip58_0) (by omega) h (lv_sub hl [1, 2, 3, 4, 0] rfl)
            refine tw_if_ne (tgt := 45) F dX12_odds_39 (by decide) (fun b33 => ?_) (fun b33 => ?_)
            · refine lv_lload_n F.1 F.2.1 dX12_odds_45 rfl (lv_at hl 2 rfl) ?_
              refine lv_iload_n F.1 F.2.1 dX12_odds_46 rfl (lv_at hl 1 rfl) ?_
              refine tw_i2l F dX12_odds_47 (fun z34 hz34 => ?_)
              refine lv_lmul F.1 F.2.1 dX12_odds_48 ?_
              refine lv_topl (fun z35 qz35 => ?_)
              refine lv_lstore_n (lv' := [(2, .long z35), (0, .ref a0), (1, .int x1), (4, .long x4_24), (6, .int x6_24)]) F.1 F.2.1 dX12_odds_49 rfl hl (by decide) rfl (fun ls hl => ?_)
              refine lv_lload F.1 F.2.1 dX12_odds_50 (lv_at hl 3 rfl) ?_
              refine tu_ldc2 F mw_451 dX12_odds_52 kl_16 (fun z36 hz36 => ?_)
              refine lv_lmul F.1 F.2.1 dX12_odds_55 ?_
              refine lv_topl (fun z37 qz37 => ?_)
              refine lv_lstore (lv' := [(4, .long z37), (2, .long z35), (0, .ref a0), (1, .int x1), (6, .int x6_24)]) F.1 F.2.1 dX12_odds_56 hl (by decide) rfl (fun ls hl => ?_)
              exact j_58 _ z35 z37 (PW_s ip24_0 qz35 qz37 (by omega) hz36 (by omega) rfl) (lv_sub hl [2, 3, 1, 0, 4] rfl)
            · refine lv_goto (tgt := 58) F.1 F.2.1 dX12_odds_42 (by decide) ?_
              exact j_58 _ x2_24 x4_24 (PW_n ip24_0 rfl) (lv_sub hl [0, 1, 2, 3, 4] rfl)
      exact j_24 (((15 - z9.toInt)).toNat + 1) _ _ _ z7 z8 z9 (by omega) (by omega) (PW_0 (by omega) (by omega) (by omega)) (by omega) h (lv_sub hl [3, 4, 2, 1, 0] rfl)
    · refine lv_aload_n F.1 F.2.1 dX12_odds_10 rfl (lv_at hl 0 rfl) ?_
      refine tw_iconst F dX12_odds_11 ki_1 (fun z38 hz38 => ?_)
      refine tw_Vi (As := [.int z38]) F hZ h yk_X12_is mw_286 mw_287 mw_288 (s_X12_is l D cy L R O f0 a0 m_a0 r_a0 z38 ⟨by omega, by omega⟩) rfl rfl m_a0 r_a0 (fun e q => (T_12 e).mp q) rfl hl.1 rfl (Nat.le_of_ble_eq_true rfl) ⟨Nat.le_of_ble_eq_true rfl, Nat.le_of_ble_eq_true rfl⟩ ⟨Nat.le_of_ble_eq_true rfl, Nat.le_of_ble_eq_true rfl⟩ dX12_odds_12 (fun v40 f39 H locs hp39 h => ?_)
      obtain ⟨hf39, hv40a, hv40b, hv40p0⟩ := hp39
      have hk : fr L R [(12, 1), (12, 2), (12, 3)] [12] f0 f39 := hk.tr hf39 rfl rfl
      exact hret f39 _ _ _ _ v40 dX12_odds_15 (tw_nb (by omega)) ⟨hk, by omega, by omega, by omega⟩ h
