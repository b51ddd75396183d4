theorem dX12_isWordNumber_0 : decode cX12_isWordNumber 0 = .ok (.lload_n 0, 1) := by decide +kernel
theorem dX12_isWordNumber_1 : decode cX12_isWordNumber 1 = .ok (.lconst 1, 1) := by decide +kernel
theorem dX12_isWordNumber_2 : decode cX12_isWordNumber 2 = .ok (.lcmp, 1) := by decide +kernel
theorem dX12_isWordNumber_3 : decode cX12_isWordNumber 3 = .ok (.ifCond .lt 11, 3) := by decide +kernel
theorem dX12_isWordNumber_14 : decode cX12_isWordNumber 14 = .ok (.iconst 0, 1) := by decide +kernel
theorem dX12_isWordNumber_15 : decode cX12_isWordNumber 15 = .ok (.ireturn, 1) := by decide +kernel
theorem dX12_isWordNumber_6 : decode cX12_isWordNumber 6 = .ok (.lload_n 0, 1) := by decide +kernel
theorem dX12_isWordNumber_7 : decode cX12_isWordNumber 7 = .ok (.ldc2_w 311, 3) := by decide +kernel
theorem mw_934 : Cond.constantLong RX12 311 (1099511627776) ∈ wsL_law := inr_39 _ (List.mem_of_getElem? (i := 22) rfl)
theorem kl_1099511627776 : (1099511627776 : Int64).toInt = 1099511627776 := by decide +kernel
theorem dX12_isWordNumber_10 : decode cX12_isWordNumber 10 = .ok (.lcmp, 1) := by decide +kernel
theorem dX12_isWordNumber_11 : decode cX12_isWordNumber 11 = .ok (.ifCond .lt 5, 3) := by decide +kernel
theorem dX12_isWordNumber_16 : decode cX12_isWordNumber 16 = .ok (.iconst 1, 1) := by decide +kernel
theorem dX12_isWordNumber_17 : decode cX12_isWordNumber 17 = .ok (.istore_n 2, 1) := by decide +kernel
theorem dX12_isWordNumber_18 : decode cX12_isWordNumber 18 = .ok (.lload_n 0, 1) := by decide +kernel
theorem dX12_isWordNumber_19 : decode cX12_isWordNumber 19 = .ok (.lstore_n 3, 1) := by decide +kernel
theorem dX12_isWordNumber_20 : decode cX12_isWordNumber 20 = .ok (.lload_n 3, 1) := by decide +kernel
theorem dX12_isWordNumber_21 : decode cX12_isWordNumber 21 = .ok (.lconst 0, 1) := by decide +kernel
theorem dX12_isWordNumber_22 : decode cX12_isWordNumber 22 = .ok (.lcmp, 1) := by decide +kernel
theorem dX12_isWordNumber_23 : decode cX12_isWordNumber 23 = .ok (.ifCond .le 42, 3) := by decide +kernel
theorem dX12_isWordNumber_65 : decode cX12_isWordNumber 65 = .ok (.iload_n 2, 1) := by decide +kernel
theorem dX12_isWordNumber_66 : decode cX12_isWordNumber 66 = .ok (.ireturn, 1) := by decide +kernel
theorem dX12_isWordNumber_26 : decode cX12_isWordNumber 26 = .ok (.iload_n 2, 1) := by decide +kernel
theorem dX12_isWordNumber_57 : decode cX12_isWordNumber 57 = .ok (.istore_n 2, 1) := by decide +kernel
theorem dX12_isWordNumber_58 : decode cX12_isWordNumber 58 = .ok (.lload_n 3, 1) := by decide +kernel
theorem dX12_isWordNumber_59 : decode cX12_isWordNumber 59 = .ok (.iconst 5, 1) := by decide +kernel
theorem dX12_isWordNumber_60 : decode cX12_isWordNumber 60 = .ok (.lshr, 1) := by decide +kernel
theorem dX12_isWordNumber_61 : decode cX12_isWordNumber 61 = .ok (.lstore_n 3, 1) := by decide +kernel
theorem dX12_isWordNumber_62 : decode cX12_isWordNumber 62 = .ok (.goto (-42), 3) := by decide +kernel
theorem dX12_isWordNumber_56 : decode cX12_isWordNumber 56 = .ok (.iconst 0, 1) := by decide +kernel
theorem dX12_isWordNumber_27 : decode cX12_isWordNumber 27 = .ok (.ifCond .eq 29, 3) := by decide +kernel
theorem dX12_isWordNumber_30 : decode cX12_isWordNumber 30 = .ok (.lload_n 3, 1) := by decide +kernel
theorem dX12_isWordNumber_31 : decode cX12_isWordNumber 31 = .ok (.ldc2_w 313, 3) := by decide +kernel
theorem mw_935 : Cond.constantLong RX12 313 (31) ∈ wsL_law := inr_39 _ (List.mem_of_getElem? (i := 23) rfl)
theorem dX12_isWordNumber_34 : decode cX12_isWordNumber 34 = .ok (.land, 1) := by decide +kernel
theorem dX12_isWordNumber_35 : decode cX12_isWordNumber 35 = .ok (.lconst 1, 1) := by decide +kernel
theorem dX12_isWordNumber_36 : decode cX12_isWordNumber 36 = .ok (.lcmp, 1) := by decide +kernel
theorem dX12_isWordNumber_37 : decode cX12_isWordNumber 37 = .ok (.ifCond .lt 19, 3) := by decide +kernel
theorem dX12_isWordNumber_40 : decode cX12_isWordNumber 40 = .ok (.lload_n 3, 1) := by decide +kernel
theorem dX12_isWordNumber_41 : decode cX12_isWordNumber 41 = .ok (.ldc2_w 313, 3) := by decide +kernel
theorem dX12_isWordNumber_44 : decode cX12_isWordNumber 44 = .ok (.land, 1) := by decide +kernel
theorem dX12_isWordNumber_45 : decode cX12_isWordNumber 45 = .ok (.ldc2_w 315, 3) := by decide +kernel
theorem mw_936 : Cond.constantLong RX12 315 (26) ∈ wsL_law := inr_40 _ (List.mem_of_getElem? (i := 0) rfl)
theorem dX12_isWordNumber_48 : decode cX12_isWordNumber 48 = .ok (.lcmp, 1) := by decide +kernel
theorem dX12_isWordNumber_49 : decode cX12_isWordNumber 49 = .ok (.ifCond .gt 7, 3) := by decide +kernel
theorem dX12_isWordNumber_52 : decode cX12_isWordNumber 52 = .ok (.iconst 1, 1) := by decide +kernel
theorem dX12_isWordNumber_53 : decode cX12_isWordNumber 53 = .ok (.goto 4, 3) := by decide +kernel
def rm_X12_isWordNumber : Room := { frames := 0, cells := 0, slots := 0, locals := 0 }
set_option maxHeartbeats 4000000 in
set_option maxRecDepth 100000 in
theorem s_X12_isWordNumber (l : Launch) (D : va_G) (cy : Nat → ClassId) (L : List Nat) (R O : Nat → Nat) (f0 : Nat → va_E) (x0 : Int64) : ∀ sz, Met l yX12_isWordNumber (Cond.code yX12_isWordNumber cX12_isWordNumber 5 (some .boolean) :: wsL_law) rm_X12_isWordNumber (va_Pc [.long x0] (tPZ D cy L R (TT cy L R) f0 sz)) (va_Qi (fun (r : Int32) f1 => f0 = f1 ∧ 0 ≤ r.toInt ∧ r.toInt ≤ 1) (tB D (tA L sz) L R (TT cy L R)) (tA L sz)) 0 0 (tA L sz) := by
  refine tw_enteri (by decide +kernel) rfl (Nat.le_of_ble_eq_true rfl) ?_
  intro p e s m below meth c A ls args Q F hZ h hl hret
  have hl : lv_has ls 5 [(0, .long x0)] := hl
  refine lv_lload_n F.1 F.2.1 dX12_isWordNumber_0 rfl (lv_at hl 0 rfl) ?_
  refine tu_lconst F dX12_isWordNumber_1 (by decide) (fun z1 (hz1 : z1.toInt = 1) => ?_)
  refine tw_lcmp F dX12_isWordNumber_2 (fun z2 hz2 => ?_)
  refine tw_if_lt (tgt := 14) F dX12_isWordNumber_3 (by decide) (fun b3 => ?_) (fun b3 => ?_)
  · refine tw_iconst F dX12_isWordNumber_14 ki_0 (fun z4 hz4 => ?_)
    exact hret f0 _ _ _ _ z4 dX12_isWordNumber_15 (tw_nb (by omega)) ⟨rfl, by omega, by omega⟩ h
  · refine lv_lload_n F.1 F.2.1 dX12_isWordNumber_6 rfl (lv_at hl 0 rfl) ?_
    refine tu_ldc2 F mw_934 dX12_isWordNumber_7 kl_1099511627776 (fun z5 hz5 => ?_)
    refine tw_lcmp F dX12_isWordNumber_10 (fun z6 hz6 => ?_)
    refine tw_if_lt (tgt := 16) F dX12_isWordNumber_11 (by decide) (fun b7 => ?_) (fun b7 => ?_)
    · refine tw_iconst F dX12_isWordNumber_16 ki_1 (fun z8 hz8 => ?_)
      refine lv_istore_n (lv' := [(2, .int z8), (0, .long x0)]) F.1 F.2.1 dX12_isWordNumber_17 rfl hl (by decide) rfl (fun ls hl => ?_)
      refine lv_lload_n F.1 F.2.1 dX12_isWordNumber_18 rfl (lv_at hl 1 rfl) ?_
      refine lv_lstore_n (lv' := [(3, .long x0), (2, .int z8), (0, .long x0)]) F.1 F.2.1 dX12_isWordNumber_19 rfl hl (by decide) rfl (fun ls hl => ?_)
      have j_20 : ∀ (n20 : Nat) (ls : Array Slot) (x2_20 : Int32) (x3_20 : Int64), 0 ≤ x2_20.toInt → x2_20.toInt ≤ 1 → 0 ≤ x3_20.toInt → ((x3_20.toInt)).toNat < n20 → lv_has ls 5 [(2, .int x2_20), (3, .long x3_20)] → W p l e rm_X12_isWordNumber s m args below meth c s.heap [] 0 0 Q (F0 m 20 ls []) := by
        intro n20
        induction n20 with
        | zero =>
          intro ls x2_20 x3_20 b9 b10 b11 b12 hl
          exfalso
          omega
        | succ n20 ih20 =>
          intro ls x2_20 x3_20 b9 b10 b11 b12 hl
          refine lv_lload_n F.1 F.2.1 dX12_isWordNumber_20 rfl (lv_at hl 1 rfl) ?_
          refine tu_lconst F dX12_isWordNumber_21 (by decide) (fun z13 (hz13 : z13.toInt = 0) => ?_)
          refine tw_lcmp F dX12_isWordNumber_22 (fun z14 hz14 => ?_)
          refine tw_if_le (tgt := 65) F dX12_isWordNumber_23 (by decide) (fun b15 => ?_) (fun b15 => ?_)
          · refine lv_iload_n F.1 F.2.1 dX12_isWordNumber_65 rfl (lv_at hl 0 rfl) ?_
            exact hret f0 _ _ _ _ x2_20 dX12_isWordNumber_66 (tw_nb (by omega)) ⟨rfl, by omega, by omega⟩ h
          · refine lv_iload_n F.1 F.2.1 dX12_isWordNumber_26 rfl (lv_at hl 0 rfl) ?_
            have j_57 : ∀ (ls : Array Slot) (y0_57 : Int32), 0 ≤ y0_57.toInt → y0_57.toInt ≤ 1 → lv_has ls 5 [(3, .long x3_20)] → W p l e rm_X12_isWordNumber s m args below meth c s.heap [] 0 0 Q (F0 m 57 ls [.int y0_57]) := by
              intro ls y0_57 b16 b17 hl
              refine lv_istore_n (lv' := [(2, .int y0_57), (3, .long x3_20)]) F.1 F.2.1 dX12_isWordNumber_57 rfl hl (by decide) rfl (fun ls hl => ?_)
              refine lv_lload_n F.1 F.2.1 dX12_isWordNumber_58 rfl (lv_at hl 1 rfl) ?_
              refine tw_iconst F dX12_isWordNumber_59 ki_5 (fun z18 hz18 => ?_)
              refine lv_lshr F.1 F.2.1 dX12_isWordNumber_60 rfl ?_
              refine lv_topl (fun z19 qz19 => ?_)
              have hs5 : z19.toInt = x3_20.toInt / 32 := tw_shr5 hz18 qz19
              refine lv_lstore_n (lv' := [(3, .long z19), (2, .int y0_57)]) F.1 F.2.1 dX12_isWordNumber_61 rfl hl (by decide) rfl (fun ls hl => ?_)
              refine lv_goto (tgt := 20) F.1 F.2.1 dX12_isWordNumber_62 (by decide) ?_
              exact ih20 _ y0_57 z19 (by omega) (by omega) (by omega) (by omega) (lv_sub hl [1, 0] rfl)
            have j_56 : ∀ (ls : Array Slot), lv_has ls 5 [(3, .long x3_20)] → W p l e rm_X12_isWordNumber s m args below meth c s.heap [] 0 0 Q (F0 m 56 ls []) := by
              intro ls hl
              refine tw_iconst F dX12_isWordNumber_56 ki_0 (fun z20 hz20 => ?_)
              exact j_57 _ z20 (by omega) (by omega) (lv_sub hl [0] rfl)
            refine tw_if_eq (tgt := 56) F dX12_isWordNumber_27 (by decide) (fun b21 => ?_) (fun b21 => ?_)
            · exact j_56 _ (lv_sub hl [1] rfl)
            · refine lv_lload_n F.1 F.2.1 dX12_isWordNumber_30 rfl (lv_at hl 1 rfl) ?_
              refine tu_ldc2 F mw_935 dX12_isWordNumber_31 kl_31 (fun z22 hz22 => ?_)
              refine tu_land F dX12_isWordNumber_34 (by omega) (fun z23 hz23a hz23b => ?_)
              refine tu_lconst F dX12_isWordNumber_35 (by decide) (fun z24 (hz24 : z24.toInt = 1) => ?_)
              refine tw_lcmp F dX12_isWordNumber_36 (fun z25 hz25 => ?_)
              refine tw_if_lt (tgt := 56) F dX12_isWordNumber_37 (by decide) (fun b26 => ?_) (fun b26 => ?_)
              · exact j_56 _ (lv_sub hl [1] rfl)
              · refine lv_lload_n F.1 F.2.1 dX12_isWordNumber_40 rfl (lv_at hl 1 rfl) ?_
                refine tu_ldc2 F mw_935 dX12_isWordNumber_41 kl_31 (fun z27 hz27 => ?_)
                refine tu_land F dX12_isWordNumber_44 (by omega) (fun z28 hz28a hz28b => ?_)
                refine tu_ldc2 F mw_936 dX12_isWordNumber_45 kl_26 (fun z29 hz29 => ?_)
                refine tw_lcmp F dX12_isWordNumber_48 (fun z30 hz30 => ?_)
                refine tw_if_gt (tgt := 56) F dX12_isWordNumber_49 (by decide) (fun b31 => ?_) (fun b31 => ?_)
                · exact j_56 _ (lv_sub hl [1] rfl)
                · refine tw_iconst F dX12_isWordNumber_52 ki_1 (fun z32 hz32 => ?_)
                  refine lv_goto (tgt := 57) F.1 F.2.1 dX12_isWordNumber_53 (by decide) ?_
                  exact j_57 _ z32 (by omega) (by omega) (lv_sub hl [1] rfl)
      exact j_20 (((x0.toInt)).toNat + 1) _ z8 x0 (by omega) (by omega) (by omega) (by omega) (lv_sub hl [1, 0] rfl)
    · refine tw_iconst F dX12_isWordNumber_14 ki_0 (fun z33 hz33 => ?_)
      exact hret f0 _ _ _ _ z33 dX12_isWordNumber_15 (tw_nb (by omega)) ⟨rfl, by omega, by omega⟩ h
theorem dX12_bits_0 : decode cX12_bits 0 = .ok (.iconst 0, 1) := by decide +kernel
theorem dX12_bits_1 : decode cX12_bits 1 = .ok (.istore_n 1, 1) := by decide +kernel
theorem dX12_bits_2 : decode cX12_bits 2 = .ok (.iload_n 0, 1) := by decide +kernel
theorem dX12_bits_3 : decode cX12_bits 3 = .ok (.istore_n 2, 1) := by decide +kernel
theorem dX12_bits_4 : decode cX12_bits 4 = .ok (.iload_n 2, 1) := by decide +kernel
theorem dX12_bits_5 : decode cX12_bits 5 = .ok (.ifCond .eq 15, 3) := by decide +kernel
theorem dX12_bits_20 : decode cX12_bits 20 = .ok (.iload_n 1, 1) := by decide +kernel
theorem dX12_bits_21 : decode cX12_bits 21 = .ok (.ireturn, 1) := by decide +kernel
theorem dX12_bits_8 : decode cX12_bits 8 = .ok (.iinc 1 1, 3) := by decide +kernel
theorem dX12_bits_11 : decode cX12_bits 11 = .ok (.iload_n 2, 1) := by decide +kernel
theorem dX12_bits_12 : decode cX12_bits 12 = .ok (.iload_n 2, 1) := by decide +kernel
theorem dX12_bits_13 : decode cX12_bits 13 = .ok (.iconst 1, 1) := by decide +kernel
theorem dX12_bits_14 : decode cX12_bits 14 = .ok (.isub, 1) := by decide +kernel
theorem dX12_bits_15 : decode cX12_bits 15 = .ok (.iand, 1) := by decide +kernel
theorem dX12_bits_16 : decode cX12_bits 16 = .ok (.istore_n 2, 1) := by decide +kernel
theorem dX12_bits_17 : decode cX12_bits 17 = .ok (.goto (-13), 3) := by decide +kernel
def rm_X12_bits : Room := { frames := 0, cells := 0, slots := 0, locals := 0 }
set_option maxHeartbeats 4000000 in
set_option maxRecDepth 100000 in
theorem s_X12_bits (l : Launch) (D : va_G) (cy : Nat → ClassId) (L : List Nat) (R O : Nat → Nat) (f0 : Nat → va_E) (x0 : Int32) : ∀ sz, Met l yX12_bits (Cond.code yX12_bits cX12_bits 3 (some .int) :: wsL_law) rm_X12_bits (va_Pc [.int x0] (tPZ D cy L R (TT cy L R) f0 sz)) (va_Qi (fun (r : Int32) f1 => f0 = f1) (tB D (tA L sz) L R (TT cy L R)) (tA L sz)) 0 0 (tA L sz) := by
  refine tw_enteri (by decide +kernel) rfl (Nat.le_of_ble_eq_true rfl) ?_
  intro p e s m below meth c A ls args Q F hZ h hl hret
  have hl : lv_has ls 3 [(0, .int x0)] := hl
  refine tw_iconst F dX12_bits_0 ki_0 (fun z1 hz1 => ?_)
  refine lv_istore_n (lv' := [(1, .int z1), (0, .int x0)]) F.1 F.2.1 dX12_bits_1 rfl hl (by decide) rfl (fun ls hl => ?_)
  refine lv_iload_n F.1 F.2.1 dX12_bits_2 rfl (lv_at hl 1 rfl) ?_
  refine lv_istore_n (lv' := [(2, .int x0), (1, .int z1), (0, .int x0)]) F.1 F.2.1 dX12_bits_3 rfl hl (by decide) rfl (fun ls hl => ?_)
  have j_4 : ∀ (n4 : Nat) (ls : Array Slot) (x1_4 : Int32) (x2_4 : Int32), (((x2_4.toUInt32.toNat : Int))).toNat < n4 → lv_has ls 3 [(1, .int x1_4), (2, .int x2_4)] → W p l e rm_X12_bits s m args below meth c s.heap [] 0 0 Q (F0 m 4 ls []) := by
    intro n4
    induction n4 with
    | zero =>
      intro ls x1_4 x2_4 b2 hl
      exfalso
      omega
    | succ n4 ih4 =>
      intro ls x1_4 x2_4 b2 hl
      refine lv_iload_n F.1 F.2.1 dX12_bits_4 rfl (lv_at hl 1 rfl) ?_
      refine tw_if_eq (tgt := 20) F dX12_bits_5 (by decide) (fun b3 => ?_) (fun b3 => ?_)
      · refine lv_iload_n F.1 F.2.1 dX12_bits_20 rfl (lv_at hl 0 rfl) ?_
        exact hret f0 _ _ _ _ x1_4 dX12_bits_21 rfl rfl h
      · refine tu_iincU F dX12_bits_8 hl (k := 0) rfl (by decide) (fun z4 ls hl => ?_)
        have hl : lv_has ls 3 [(1, .int z4), (2, .int x2_4)] := hl
        refine lv_iload_n F.1 F.2.1 dX12_bits_11 rfl (lv_at hl 1 rfl) ?_
        refine lv_iload_n F.1 F.2.1 dX12_bits_12 rfl (lv_at hl 1 rfl) ?_
        refine tw_iconst F dX12_bits_13 ki_1 (fun z5 hz5 => ?_)
        refine lv_isub F.1 F.2.1 dX12_bits_14 ?_
        refine lv_topi (fun z6 qz6 => ?_)
        refine lv_iand F.1 F.2.1 dX12_bits_15 ?_
        refine lv_topi (fun z7 qz7 => ?_)
        have hb5 := tw_bits hz5 qz6 qz7 (by omega)
        refine lv_istore_n (lv' := [(2, .int z7), (1, .int z4)]) F.1 F.2.1 dX12_bits_16 rfl hl (by decide) rfl (fun ls hl => ?_)
        refine lv_goto (tgt := 4) F.1 F.2.1 dX12_bits_17 (by decide) ?_
        exact ih4 _ z4 z7 (by omega) (lv_sub hl [1, 0] rfl)
  exact j_4 ((((x0.toUInt32.toNat : Int))).toNat + 1) _ z1 x0 (by omega) (lv_sub hl [1, 0] rfl)
