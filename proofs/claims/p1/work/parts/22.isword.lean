theorem dX11_isWord_0 : decode cX11_isWord 0 = .ok (.lload_n 0, 1) := by decide +kernel
theorem dX11_isWord_1 : decode cX11_isWord 1 = .ok (.lconst 0, 1) := by decide +kernel
theorem dX11_isWord_2 : decode cX11_isWord 2 = .ok (.lcmp, 1) := by decide +kernel
theorem dX11_isWord_3 : decode cX11_isWord 3 = .ok (.ifCond .le 12, 3) := by decide +kernel
theorem dX11_isWord_15 : decode cX11_isWord 15 = .ok (.iconst 0, 1) := by decide +kernel
theorem dX11_isWord_16 : decode cX11_isWord 16 = .ok (.ireturn, 1) := by decide +kernel
theorem dX11_isWord_6 : decode cX11_isWord 6 = .ok (.lload_n 0, 1) := by decide +kernel
theorem dX11_isWord_7 : decode cX11_isWord 7 = .ok (.bipush 40, 2) := by decide +kernel
theorem dX11_isWord_9 : decode cX11_isWord 9 = .ok (.lushr, 1) := by decide +kernel
theorem dX11_isWord_10 : decode cX11_isWord 10 = .ok (.lconst 0, 1) := by decide +kernel
theorem dX11_isWord_11 : decode cX11_isWord 11 = .ok (.lcmp, 1) := by decide +kernel
theorem dX11_isWord_12 : decode cX11_isWord 12 = .ok (.ifCond .eq 5, 3) := by decide +kernel
theorem dX11_isWord_17 : decode cX11_isWord 17 = .ok (.lload_n 0, 1) := by decide +kernel
theorem dX11_isWord_18 : decode cX11_isWord 18 = .ok (.lstore_n 2, 1) := by decide +kernel
theorem dX11_isWord_19 : decode cX11_isWord 19 = .ok (.iconst 0, 1) := by decide +kernel
theorem dX11_isWord_20 : decode cX11_isWord 20 = .ok (.istore 4, 2) := by decide +kernel
theorem dX11_isWord_22 : decode cX11_isWord 22 = .ok (.iload 4, 2) := by decide +kernel
theorem dX11_isWord_24 : decode cX11_isWord 24 = .ok (.bipush 8, 2) := by decide +kernel
theorem dX11_isWord_26 : decode cX11_isWord 26 = .ok (.if_icmp .ge 44, 3) := by decide +kernel
theorem dX11_isWord_70 : decode cX11_isWord 70 = .ok (.iconst 1, 1) := by decide +kernel
theorem dX11_isWord_71 : decode cX11_isWord 71 = .ok (.ireturn, 1) := by decide +kernel
theorem dX11_isWord_29 : decode cX11_isWord 29 = .ok (.lload_n 2, 1) := by decide +kernel
theorem dX11_isWord_30 : decode cX11_isWord 30 = .ok (.lconst 0, 1) := by decide +kernel
theorem dX11_isWord_31 : decode cX11_isWord 31 = .ok (.lcmp, 1) := by decide +kernel
theorem dX11_isWord_32 : decode cX11_isWord 32 = .ok (.ifCond .eq 38, 3) := by decide +kernel
theorem dX11_isWord_35 : decode cX11_isWord 35 = .ok (.lload_n 2, 1) := by decide +kernel
theorem dX11_isWord_36 : decode cX11_isWord 36 = .ok (.ldc2_w 411, 3) := by decide +kernel
theorem mw_921 : Cond.constantLong RX11 411 (31) ∈ wsL_law := inr_39 _ (List.mem_of_getElem? (i := 9) rfl)
theorem dX11_isWord_39 : decode cX11_isWord 39 = .ok (.land, 1) := by decide +kernel
theorem dX11_isWord_40 : decode cX11_isWord 40 = .ok (.lstore 5, 2) := by decide +kernel
theorem dX11_isWord_42 : decode cX11_isWord 42 = .ok (.lload 5, 2) := by decide +kernel
theorem dX11_isWord_44 : decode cX11_isWord 44 = .ok (.lconst 1, 1) := by decide +kernel
theorem dX11_isWord_45 : decode cX11_isWord 45 = .ok (.lcmp, 1) := by decide +kernel
theorem dX11_isWord_46 : decode cX11_isWord 46 = .ok (.ifCond .lt 12, 3) := by decide +kernel
theorem dX11_isWord_58 : decode cX11_isWord 58 = .ok (.iconst 0, 1) := by decide +kernel
theorem dX11_isWord_59 : decode cX11_isWord 59 = .ok (.ireturn, 1) := by decide +kernel
theorem dX11_isWord_49 : decode cX11_isWord 49 = .ok (.lload 5, 2) := by decide +kernel
theorem dX11_isWord_51 : decode cX11_isWord 51 = .ok (.ldc2_w 413, 3) := by decide +kernel
theorem mw_922 : Cond.constantLong RX11 413 (26) ∈ wsL_law := inr_39 _ (List.mem_of_getElem? (i := 10) rfl)
theorem dX11_isWord_54 : decode cX11_isWord 54 = .ok (.lcmp, 1) := by decide +kernel
theorem dX11_isWord_55 : decode cX11_isWord 55 = .ok (.ifCond .le 5, 3) := by decide +kernel
theorem dX11_isWord_60 : decode cX11_isWord 60 = .ok (.lload_n 2, 1) := by decide +kernel
theorem dX11_isWord_61 : decode cX11_isWord 61 = .ok (.iconst 5, 1) := by decide +kernel
theorem dX11_isWord_62 : decode cX11_isWord 62 = .ok (.lushr, 1) := by decide +kernel
theorem dX11_isWord_63 : decode cX11_isWord 63 = .ok (.lstore_n 2, 1) := by decide +kernel
theorem dX11_isWord_64 : decode cX11_isWord 64 = .ok (.iinc 4 1, 3) := by decide +kernel
theorem dX11_isWord_67 : decode cX11_isWord 67 = .ok (.goto (-45), 3) := by decide +kernel
theorem dX12_isWordNumber_0 : decode cX12_isWordNumber 0 = .ok (.lload_n 0, 1) := by decide +kernel
theorem dX12_isWordNumber_1 : decode cX12_isWordNumber 1 = .ok (.lconst 1, 1) := by decide +kernel
theorem dX12_isWordNumber_2 : decode cX12_isWordNumber 2 = .ok (.lcmp, 1) := by decide +kernel
theorem dX12_isWordNumber_3 : decode cX12_isWordNumber 3 = .ok (.ifCond .lt 11, 3) := by decide +kernel
theorem dX12_isWordNumber_14 : decode cX12_isWordNumber 14 = .ok (.iconst 0, 1) := by decide +kernel
theorem dX12_isWordNumber_15 : decode cX12_isWordNumber 15 = .ok (.ireturn, 1) := by decide +kernel
theorem dX12_isWordNumber_6 : decode cX12_isWordNumber 6 = .ok (.lload_n 0, 1) := by decide +kernel
theorem dX12_isWordNumber_7 : decode cX12_isWordNumber 7 = .ok (.ldc2_w 311, 3) := by decide +kernel
theorem mw_934 : Cond.constantLong RX12 311 (1099511627776) ∈ wsL_law := inr_39 _ (List.mem_of_getElem? (i := 22) rfl)
theorem dX12_isWordNumber_10 : decode cX12_isWordNumber 10 = .ok (.lcmp, 1) := by decide +kernel
theorem dX12_isWordNumber_11 : decode cX12_isWordNumber 11 = .ok (.ifCond .lt 5, 3) := by decide +kernel
theorem dX12_isWordNumber_16 : decode cX12_isWordNumber 16 = .ok (.iconst 1, 1) := by decide +kernel
theorem dX12_isWordNumber_17 : decode cX12_isWordNumber 17 = .ok (.istore_n 2, 1) := by decide +kernel
theorem dX12_isWordNumber_18 : decode cX12_isWordNumber 18 = .ok (.lload_n 0, 1) := by decide +kernel
theorem dX12_isWordNumber_19 : decode cX12_isWordNumber 19 = .ok (.lstore_n 3, 1) := by decide +kernel
theorem dX12_isWordNumber_20 : decode cX12_isWordNumber 20 = .ok (.lload_n 3, 1) := by decide +kernel
theorem dX12_isWordNumber_21 : decode cX12_isWordNumber 21 = .ok (.lconst 0, 1) := by decide +kernel
theorem dX12_isWordNumber_22 : decode cX12_isWordNumber 22 = .ok (.lcmp, 1) := by decide +kernel
theorem dX12_isWordNumber_23 : decode cX12_isWordNumber 23 = .ok (.ifCond .le 42, 3) := by decide +kernel
theorem dX12_isWordNumber_65 : decode cX12_isWordNumber 65 = .ok (.iload_n 2, 1) := by decide +kernel
theorem dX12_isWordNumber_66 : decode cX12_isWordNumber 66 = .ok (.ireturn, 1) := by decide +kernel
theorem dX12_isWordNumber_26 : decode cX12_isWordNumber 26 = .ok (.iload_n 2, 1) := by decide +kernel
theorem dX12_isWordNumber_27 : decode cX12_isWordNumber 27 = .ok (.ifCond .eq 29, 3) := by decide +kernel
theorem dX12_isWordNumber_30 : decode cX12_isWordNumber 30 = .ok (.lload_n 3, 1) := by decide +kernel
theorem dX12_isWordNumber_31 : decode cX12_isWordNumber 31 = .ok (.ldc2_w 313, 3) := by decide +kernel
theorem mw_935 : Cond.constantLong RX12 313 (31) ∈ wsL_law := inr_39 _ (List.mem_of_getElem? (i := 23) rfl)
theorem dX12_isWordNumber_34 : decode cX12_isWordNumber 34 = .ok (.land, 1) := by decide +kernel
theorem dX12_isWordNumber_35 : decode cX12_isWordNumber 35 = .ok (.lconst 1, 1) := by decide +kernel
theorem dX12_isWordNumber_36 : decode cX12_isWordNumber 36 = .ok (.lcmp, 1) := by decide +kernel
theorem dX12_isWordNumber_37 : decode cX12_isWordNumber 37 = .ok (.ifCond .lt 19, 3) := by decide +kernel
theorem dX12_isWordNumber_56 : decode cX12_isWordNumber 56 = .ok (.iconst 0, 1) := by decide +kernel
theorem dX12_isWordNumber_57 : decode cX12_isWordNumber 57 = .ok (.istore_n 2, 1) := by decide +kernel
theorem dX12_isWordNumber_58 : decode cX12_isWordNumber 58 = .ok (.lload_n 3, 1) := by decide +kernel
theorem dX12_isWordNumber_59 : decode cX12_isWordNumber 59 = .ok (.iconst 5, 1) := by decide +kernel
theorem dX12_isWordNumber_60 : decode cX12_isWordNumber 60 = .ok (.lshr, 1) := by decide +kernel
theorem dX12_isWordNumber_61 : decode cX12_isWordNumber 61 = .ok (.lstore_n 3, 1) := by decide +kernel
theorem dX12_isWordNumber_62 : decode cX12_isWordNumber 62 = .ok (.goto (-42), 3) := by decide +kernel
theorem dX12_isWordNumber_40 : decode cX12_isWordNumber 40 = .ok (.lload_n 3, 1) := by decide +kernel
theorem dX12_isWordNumber_41 : decode cX12_isWordNumber 41 = .ok (.ldc2_w 313, 3) := by decide +kernel
theorem dX12_isWordNumber_44 : decode cX12_isWordNumber 44 = .ok (.land, 1) := by decide +kernel
theorem dX12_isWordNumber_45 : decode cX12_isWordNumber 45 = .ok (.ldc2_w 315, 3) := by decide +kernel
theorem mw_936 : Cond.constantLong RX12 315 (26) ∈ wsL_law := inr_40 _ (List.mem_of_getElem? (i := 0) rfl)
theorem dX12_isWordNumber_48 : decode cX12_isWordNumber 48 = .ok (.lcmp, 1) := by decide +kernel
theorem dX12_isWordNumber_49 : decode cX12_isWordNumber 49 = .ok (.ifCond .gt 7, 3) := by decide +kernel
theorem dX12_isWordNumber_52 : decode cX12_isWordNumber 52 = .ok (.iconst 1, 1) := by decide +kernel
theorem dX12_isWordNumber_53 : decode cX12_isWordNumber 53 = .ok (.goto 4, 3) := by decide +kernel
set_option maxHeartbeats 4000000 in
set_option maxRecDepth 100000 in
theorem c_isWord (l : Launch) (D : va_G) (cy : Nat → ClassId) (n : Int64) : ∀ sz, Met l yX11_isWord (Cond.code yX11_isWord cX11_isWord 7 (some .boolean) :: wsL_law) { frames := 0, cells := 0, slots := 0, locals := 0 } (va_Pc [.long n] (xP D cy ([]) sz)) (va_Qi (fun r _ => r = if wv n then 1 else 0) (xB D (va_A ([]) sz) (fun _ => [])) (va_A ([]) sz)) 0 0 (va_A ([]) sz) := by
  refine x_enter (fun A => va_Qi (fun r _ => r = if wv n then 1 else 0) (xB D A (fun _ => [])) A) (by decide +kernel) rfl (Nat.le_of_ble_eq_true rfl) ?_
  intro p e s m below meth c A ls F hr hlk hin h hl
  have hl : lv_has ls 7 [(0, .long n)] := hl
  refine lv_lload_n F.1 F.2.1 dX11_isWord_0 rfl (lv_at hl 0 rfl) ?_
  refine lv_lconst (v := 0) F.1 F.2.1 dX11_isWord_1 (by decide) ?_
  refine W.lcmp F.1 F.2.1 dX11_isWord_2 ?_
  refine lv_if_le (tgt := 15) F.1 F.2.1 dX11_isWord_3 (by decide) (fun hc1 => ?_) (fun hc1 => ?_)
  · refine lv_iconst (v := 0) F.1 F.2.1 dX11_isWord_15 (by decide) ?_
    exact x_iret F h hr hlk (by decide +kernel) (fun _ => 0) [] (by rw [wv_a hc1]; rfl) (by decide +kernel) rfl (Nat.le_of_ble_eq_true rfl) (Nat.le_of_ble_eq_true rfl) dX11_isWord_16
  · obtain ⟨j0, h0, hj0, rfl⟩ := wv_pos hc1
    refine lv_lload_n F.1 F.2.1 dX11_isWord_6 rfl (lv_at hl 0 rfl) ?_
    refine lv_bipush (v := 40) F.1 F.2.1 dX11_isWord_7 (by decide) ?_
    refine lv_lushr (v := lN (j0 / 2 ^ 40)) F.1 F.2.1 dX11_isWord_9 (wb_shr (k := 40) (by omega) (by decide)) ?_
    refine lv_lconst (v := 0) F.1 F.2.1 dX11_isWord_10 (by decide) ?_
    refine W.lcmp F.1 F.2.1 dX11_isWord_11 ?_
    refine lv_if_eq (tgt := 17) F.1 F.2.1 dX11_isWord_12 (by decide) (fun hc2 => ?_) (fun hc2 => ?_)
    · refine lv_lload_n F.1 F.2.1 dX11_isWord_17 rfl (lv_at hl 0 rfl) ?_
      refine lv_lstore_n (lv' := [(2, .long (lN j0)), (0, .long (lN j0))]) F.1 F.2.1 dX11_isWord_18 rfl hl (by decide) rfl (fun ls hl => ?_)
      refine lv_iconst (v := 0) F.1 F.2.1 dX11_isWord_19 (by decide) ?_
      refine lv_istore (lv' := [(4, .int 0), (2, .long (lN j0)), (0, .long (lN j0))]) F.1 F.2.1 dX11_isWord_20 hl (by decide) rfl (fun ls hl => ?_)
      have loop : ∀ (f k j : Nat) (ls : Array Slot), k + f = 8 → j < 2 ^ 63 → wv (lN j0) = okN f j → lv_has ls 7 [(4, .int (nI k)), (2, .long (lN j)), (0, .long (lN j0))] → W p l e { frames := 0, cells := 0, slots := 0, locals := 0 } s m [.long (lN j0)].toArray below meth c s.heap [] 0 0 (MQ below (va_Qi (fun r _ => r = if wv (lN j0) then 1 else 0) (xB D A (fun _ => [])) A) [.long (lN j0)].toArray s 0 0 A) (F0 m 22 ls []) := by
        intro f
        induction f with
        | zero =>
          intro k j ls hk hj hi hl
          obtain rfl : k = 8 := by omega
          have hl : lv_has ls 7 [(4, .int 8), (2, .long (lN j)), (0, .long (lN j0))] := hl
          refine lv_iload F.1 F.2.1 dX11_isWord_22 (lv_at hl 0 rfl) ?_
          refine lv_bipush (v := 8) F.1 F.2.1 dX11_isWord_24 (by decide) ?_
          refine lv_icmp_ge (tgt := 70) F.1 F.2.1 dX11_isWord_26 (by decide) (fun _ => ?_) (fun hc => absurd (by decide) hc)
          refine lv_iconst (v := 1) F.1 F.2.1 dX11_isWord_70 (by decide) ?_
          exact x_iret F h hr hlk (by decide +kernel) (fun _ => 0) [] (by rw [hi]; rfl) (by decide +kernel) rfl (Nat.le_of_ble_eq_true rfl) (Nat.le_of_ble_eq_true rfl) dX11_isWord_71
        | succ f ih =>
          intro k j ls hk hj hi hl
          refine lv_iload F.1 F.2.1 dX11_isWord_22 (lv_at hl 0 rfl) ?_
          refine lv_bipush (v := 8) F.1 F.2.1 dX11_isWord_24 (by decide) ?_
          refine lv_icmp_ge (tgt := 70) F.1 F.2.1 dX11_isWord_26 (by decide) (fun hc => absurd hc (x_nle (j := k) (N := 8) (by omega) (by decide))) (fun _ => ?_)
          refine lv_lload_n F.1 F.2.1 dX11_isWord_29 rfl (lv_at hl 1 rfl) ?_
          refine lv_lconst (v := 0) F.1 F.2.1 dX11_isWord_30 (by decide) ?_
          refine W.lcmp F.1 F.2.1 dX11_isWord_31 ?_
          refine lv_if_eq (tgt := 70) F.1 F.2.1 dX11_isWord_32 (by decide) (fun hc3 => ?_) (fun hc3 => ?_)
          · refine lv_iconst (v := 1) F.1 F.2.1 dX11_isWord_70 (by decide) ?_
            exact x_iret F h hr hlk (by decide +kernel) (fun _ => 0) [] (by rw [hi, ok_0 hj hc3]; rfl) (by decide +kernel) rfl (Nat.le_of_ble_eq_true rfl) (Nat.le_of_ble_eq_true rfl) dX11_isWord_71
          · refine lv_lload_n F.1 F.2.1 dX11_isWord_35 rfl (lv_at hl 1 rfl) ?_
            refine lv_ldc2 (v := 31) F.1 F.2.1 F.2.2.2.1 (F.2.2.2.2 _ mw_921) dX11_isWord_36 ?_
            refine lv_land F.1 F.2.1 dX11_isWord_39 ?_
            refine x_topl (y := lN (j % 2 ^ 5)) (wb_mask (k := 5) (by omega) (by decide)) ?_
            refine lv_lstore (lv' := [(5, .long (lN (j % 2 ^ 5))), (4, .int (nI k)), (2, .long (lN j)), (0, .long (lN j0))]) F.1 F.2.1 dX11_isWord_40 hl (by decide) rfl (fun ls hl => ?_)
            refine lv_lload F.1 F.2.1 dX11_isWord_42 (lv_at hl 0 rfl) ?_
            refine lv_lconst (v := 1) F.1 F.2.1 dX11_isWord_44 (by decide) ?_
            refine W.lcmp F.1 F.2.1 dX11_isWord_45 ?_
            refine lv_if_lt (tgt := 58) F.1 F.2.1 dX11_isWord_46 (by decide) (fun hc4 => ?_) (fun hc4 => ?_)
            · refine lv_iconst (v := 0) F.1 F.2.1 dX11_isWord_58 (by decide) ?_
              exact x_iret F h hr hlk (by decide +kernel) (fun _ => 0) [] (by rw [hi, ok_f1 (ok_n0 hj hc3) (ok_lo hc4)]; rfl) (by decide +kernel) rfl (Nat.le_of_ble_eq_true rfl) (Nat.le_of_ble_eq_true rfl) dX11_isWord_59
            · refine lv_lload F.1 F.2.1 dX11_isWord_49 (lv_at hl 0 rfl) ?_
              refine lv_ldc2 (v := 26) F.1 F.2.1 F.2.2.2.1 (F.2.2.2.2 _ mw_922) dX11_isWord_51 ?_
              refine W.lcmp F.1 F.2.1 dX11_isWord_54 ?_
              refine lv_if_le (tgt := 60) F.1 F.2.1 dX11_isWord_55 (by decide) (fun hc5 => ?_) (fun hc5 => ?_)
              · refine lv_lload_n F.1 F.2.1 dX11_isWord_60 rfl (lv_at hl 2 rfl) ?_
                refine lv_iconst (v := 5) F.1 F.2.1 dX11_isWord_61 (by decide) ?_
                refine lv_lushr (v := lN (j / 2 ^ 5)) F.1 F.2.1 dX11_isWord_62 (wb_shr (k := 5) (by omega) (by decide)) ?_
                refine lv_lstore_n (lv' := [(2, .long (lN (j / 2 ^ 5))), (5, .long (lN (j % 2 ^ 5))), (4, .int (nI k)), (0, .long (lN j0))]) F.1 F.2.1 dX11_isWord_63 rfl hl (by decide) rfl (fun ls hl => ?_)
                refine lv_iinc (v := (nI (k + 1))) (lv' := [(4, .int (nI (k + 1))), (2, .long (lN (j / 2 ^ 5))), (5, .long (lN (j % 2 ^ 5))), (0, .long (lN j0))]) F.1 F.2.1 dX11_isWord_64 hl (k := 2) rfl (nI_1 k) (by decide) rfl (fun ls hl => ?_)
                refine lv_goto (tgt := 22) F.1 F.2.1 dX11_isWord_67 (by decide) ?_
                exact ih (k + 1) (j / 2 ^ 5) _ (by omega) (by omega) (hi.trans (ok_s (ok_n0 hj hc3) (ok_nlo hc4) (ok_le hc5))) (lv_sub hl [0, 1, 3] rfl)
              · refine lv_iconst (v := 0) F.1 F.2.1 dX11_isWord_58 (by decide) ?_
                exact x_iret F h hr hlk (by decide +kernel) (fun _ => 0) [] (by rw [hi, ok_f2 (ok_n0 hj hc3) (ok_nlo hc4) (ok_gt hc5)]; rfl) (by decide +kernel) rfl (Nat.le_of_ble_eq_true rfl) (Nat.le_of_ble_eq_true rfl) dX11_isWord_59
      exact loop 8 0 j0 _ rfl hj0 (wv_s h0 (wv_c hj0 hc2)) (lv_sub hl [0, 1, 2] rfl)
    · refine lv_iconst (v := 0) F.1 F.2.1 dX11_isWord_15 (by decide) ?_
      exact x_iret F h hr hlk (by decide +kernel) (fun _ => 0) [] (by rw [wv_b hj0 hc2]; rfl) (by decide +kernel) rfl (Nat.le_of_ble_eq_true rfl) (Nat.le_of_ble_eq_true rfl) dX11_isWord_16
set_option maxHeartbeats 4000000 in
set_option maxRecDepth 100000 in
theorem c_m_isWord (l : Launch) (D : va_G) (cy : Nat → ClassId) (n : Int64) : ∀ sz, Met l yX12_isWordNumber (Cond.code yX12_isWordNumber cX12_isWordNumber 5 (some .boolean) :: wsL_law) { frames := 0, cells := 0, slots := 0, locals := 0 } (va_Pc [.long n] (xP D cy ([]) sz)) (va_Qi (fun r _ => r = if wv n then 1 else 0) (xB D (va_A ([]) sz) (fun _ => [])) (va_A ([]) sz)) 0 0 (va_A ([]) sz) := by
  refine x_enter (fun A => va_Qi (fun r _ => r = if wv n then 1 else 0) (xB D A (fun _ => [])) A) (by decide +kernel) rfl (Nat.le_of_ble_eq_true rfl) ?_
  intro p e s m below meth c A ls F hr hlk hin h hl
  have hl : lv_has ls 5 [(0, .long n)] := hl
  refine lv_lload_n F.1 F.2.1 dX12_isWordNumber_0 rfl (lv_at hl 0 rfl) ?_
  refine lv_lconst (v := 1) F.1 F.2.1 dX12_isWordNumber_1 (by decide) ?_
  refine W.lcmp F.1 F.2.1 dX12_isWordNumber_2 ?_
  refine lv_if_lt (tgt := 14) F.1 F.2.1 dX12_isWordNumber_3 (by decide) (fun hc1 => ?_) (fun hc1 => ?_)
  · refine lv_iconst (v := 0) F.1 F.2.1 dX12_isWordNumber_14 (by decide) ?_
    exact x_iret F h hr hlk (by decide +kernel) (fun _ => 0) [] (by rw [wv_a1 hc1]; rfl) (by decide +kernel) rfl (Nat.le_of_ble_eq_true rfl) (Nat.le_of_ble_eq_true rfl) dX12_isWordNumber_15
  · obtain ⟨j0, h0, hj0, rfl⟩ := wv_pos1 hc1
    refine lv_lload_n F.1 F.2.1 dX12_isWordNumber_6 rfl (lv_at hl 0 rfl) ?_
    refine lv_ldc2 (v := 1099511627776) F.1 F.2.1 F.2.2.2.1 (F.2.2.2.2 _ mw_934) dX12_isWordNumber_7 ?_
    refine W.lcmp F.1 F.2.1 dX12_isWordNumber_10 ?_
    refine lv_if_lt (tgt := 16) F.1 F.2.1 dX12_isWordNumber_11 (by decide) (fun hc2 => ?_) (fun hc2 => ?_)
    · refine lv_iconst (v := 1) F.1 F.2.1 dX12_isWordNumber_16 (by decide) ?_
      refine lv_istore_n (lv' := [(2, .int 1), (0, .long (lN j0))]) F.1 F.2.1 dX12_isWordNumber_17 rfl hl (by decide) rfl (fun ls hl => ?_)
      refine lv_lload_n F.1 F.2.1 dX12_isWordNumber_18 rfl (lv_at hl 1 rfl) ?_
      refine lv_lstore_n (lv' := [(3, .long (lN j0)), (2, .int 1), (0, .long (lN j0))]) F.1 F.2.1 dX12_isWordNumber_19 rfl hl (by decide) rfl (fun ls hl => ?_)
      have loop : ∀ (f j : Nat) (g : Int32) (ls : Array Slot), j < 2 ^ (5 * f) → f ≤ 8 → (g = 1 ∧ wv (lN j0) = okN f j) ∨ (g = 0 ∧ wv (lN j0) = false) → lv_has ls 5 [(2, .int g), (3, .long (lN j)), (0, .long (lN j0))] → W p l e { frames := 0, cells := 0, slots := 0, locals := 0 } s m [.long (lN j0)].toArray below meth c s.heap [] 0 0 (MQ below (va_Qi (fun r _ => r = if wv (lN j0) then 1 else 0) (xB D A (fun _ => [])) A) [.long (lN j0)].toArray s 0 0 A) (F0 m 20 ls []) := by
        intro f
        induction f with
        | zero =>
          intro j g ls hj hf hi hl
          obtain rfl : j = 0 := by omega
          rcases hi with ⟨rfl, hi⟩ | ⟨rfl, hi⟩
          · refine lv_lload_n F.1 F.2.1 dX12_isWordNumber_20 rfl (lv_at hl 1 rfl) ?_
            refine lv_lconst (v := 0) F.1 F.2.1 dX12_isWordNumber_21 (by decide) ?_
            refine W.lcmp F.1 F.2.1 dX12_isWordNumber_22 ?_
            refine lv_if_le (tgt := 65) F.1 F.2.1 dX12_isWordNumber_23 (by decide) (fun _ => ?_) (fun hc => absurd (by decide) hc)
            refine lv_iload_n F.1 F.2.1 dX12_isWordNumber_65 rfl (lv_at hl 0 rfl) ?_
            exact x_iret F h hr hlk (by decide +kernel) (fun _ => 0) [] (by rw [hi]; rfl) (by decide +kernel) rfl (Nat.le_of_ble_eq_true rfl) (Nat.le_of_ble_eq_true rfl) dX12_isWordNumber_66
          · refine lv_lload_n F.1 F.2.1 dX12_isWordNumber_20 rfl (lv_at hl 1 rfl) ?_
            refine lv_lconst (v := 0) F.1 F.2.1 dX12_isWordNumber_21 (by decide) ?_
            refine W.lcmp F.1 F.2.1 dX12_isWordNumber_22 ?_
            refine lv_if_le (tgt := 65) F.1 F.2.1 dX12_isWordNumber_23 (by decide) (fun _ => ?_) (fun hc => absurd (by decide) hc)
            refine lv_iload_n F.1 F.2.1 dX12_isWordNumber_65 rfl (lv_at hl 0 rfl) ?_
            exact x_iret F h hr hlk (by decide +kernel) (fun _ => 0) [] (by rw [hi]; rfl) (by decide +kernel) rfl (Nat.le_of_ble_eq_true rfl) (Nat.le_of_ble_eq_true rfl) dX12_isWordNumber_66
        | succ f ih =>
          intro j g ls hj hf hi hl
          have hp : 2 ^ (5 * (f + 1)) = 2 ^ (5 * f) * 32 := by rw [show 5 * (f + 1) = 5 * f + 5 by omega, Nat.pow_add]
          have hq : 2 ^ (5 * (f + 1)) ≤ 2 ^ 40 := Nat.pow_le_pow_right (by decide) (by omega)
          by_cases hz : j = 0
          · subst hz
            rcases hi with ⟨rfl, hi⟩ | ⟨rfl, hi⟩
            · refine lv_lload_n F.1 F.2.1 dX12_isWordNumber_20 rfl (lv_at hl 1 rfl) ?_
              refine lv_lconst (v := 0) F.1 F.2.1 dX12_isWordNumber_21 (by decide) ?_
              refine W.lcmp F.1 F.2.1 dX12_isWordNumber_22 ?_
              refine lv_if_le (tgt := 65) F.1 F.2.1 dX12_isWordNumber_23 (by decide) (fun _ => ?_) (fun hc => absurd (by decide) hc)
              refine lv_iload_n F.1 F.2.1 dX12_isWordNumber_65 rfl (lv_at hl 0 rfl) ?_
              exact x_iret F h hr hlk (by decide +kernel) (fun _ => 0) [] (by rw [hi]; rfl) (by decide +kernel) rfl (Nat.le_of_ble_eq_true rfl) (Nat.le_of_ble_eq_true rfl) dX12_isWordNumber_66
            · refine lv_lload_n F.1 F.2.1 dX12_isWordNumber_20 rfl (lv_at hl 1 rfl) ?_
              refine lv_lconst (v := 0) F.1 F.2.1 dX12_isWordNumber_21 (by decide) ?_
              refine W.lcmp F.1 F.2.1 dX12_isWordNumber_22 ?_
              refine lv_if_le (tgt := 65) F.1 F.2.1 dX12_isWordNumber_23 (by decide) (fun _ => ?_) (fun hc => absurd (by decide) hc)
              refine lv_iload_n F.1 F.2.1 dX12_isWordNumber_65 rfl (lv_at hl 0 rfl) ?_
              exact x_iret F h hr hlk (by decide +kernel) (fun _ => 0) [] (by rw [hi]; rfl) (by decide +kernel) rfl (Nat.le_of_ble_eq_true rfl) (Nat.le_of_ble_eq_true rfl) dX12_isWordNumber_66
          · rcases hi with ⟨rfl, hi⟩ | ⟨rfl, hi⟩
            · refine lv_lload_n F.1 F.2.1 dX12_isWordNumber_20 rfl (lv_at hl 1 rfl) ?_
              refine lv_lconst (v := 0) F.1 F.2.1 dX12_isWordNumber_21 (by decide) ?_
              refine W.lcmp F.1 F.2.1 dX12_isWordNumber_22 ?_
              refine lv_if_le (tgt := 65) F.1 F.2.1 dX12_isWordNumber_23 (by decide) (fun hc => absurd hc (ok_pos hz (by omega))) (fun _ => ?_)
              refine lv_iload_n F.1 F.2.1 dX12_isWordNumber_26 rfl (lv_at hl 0 rfl) ?_
              refine lv_if_eq (tgt := 56) F.1 F.2.1 dX12_isWordNumber_27 (by decide) (fun hc => absurd hc (by decide)) (fun _ => ?_)
              refine lv_lload_n F.1 F.2.1 dX12_isWordNumber_30 rfl (lv_at hl 1 rfl) ?_
              refine lv_ldc2 (v := 31) F.1 F.2.1 F.2.2.2.1 (F.2.2.2.2 _ mw_935) dX12_isWordNumber_31 ?_
              refine lv_land F.1 F.2.1 dX12_isWordNumber_34 ?_
              refine x_topl (y := lN (j % 2 ^ 5)) (wb_mask (k := 5) (by omega) (by decide)) ?_
              refine lv_lconst (v := 1) F.1 F.2.1 dX12_isWordNumber_35 (by decide) ?_
              refine W.lcmp F.1 F.2.1 dX12_isWordNumber_36 ?_
              refine lv_if_lt (tgt := 56) F.1 F.2.1 dX12_isWordNumber_37 (by decide) (fun hc3 => ?_) (fun hc3 => ?_)
              · refine lv_iconst (v := 0) F.1 F.2.1 dX12_isWordNumber_56 (by decide) ?_
                refine lv_istore_n (lv' := [(2, .int 0), (3, .long (lN j)), (0, .long (lN j0))]) F.1 F.2.1 dX12_isWordNumber_57 rfl hl (by decide) rfl (fun ls hl => ?_)
                refine lv_lload_n F.1 F.2.1 dX12_isWordNumber_58 rfl (lv_at hl 1 rfl) ?_
                refine lv_iconst (v := 5) F.1 F.2.1 dX12_isWordNumber_59 (by decide) ?_
                refine lv_lshr (v := lN (j / 2 ^ 5)) F.1 F.2.1 dX12_isWordNumber_60 (pf_shr (d := 5) (by decide) (by omega)) ?_
                refine lv_lstore_n (lv' := [(3, .long (lN (j / 2 ^ 5))), (2, .int 0), (0, .long (lN j0))]) F.1 F.2.1 dX12_isWordNumber_61 rfl hl (by decide) rfl (fun ls hl => ?_)
                refine lv_goto (tgt := 20) F.1 F.2.1 dX12_isWordNumber_62 (by decide) ?_
                exact ih (j / 2 ^ 5) _ _ (by omega) (by omega) (Or.inr ⟨rfl, hi.trans (ok_f1 hz (ok_lo hc3))⟩) (lv_sub hl [1, 0, 2] rfl)
              · refine lv_lload_n F.1 F.2.1 dX12_isWordNumber_40 rfl (lv_at hl 1 rfl) ?_
                refine lv_ldc2 (v := 31) F.1 F.2.1 F.2.2.2.1 (F.2.2.2.2 _ mw_935) dX12_isWordNumber_41 ?_
                refine lv_land F.1 F.2.1 dX12_isWordNumber_44 ?_
                refine x_topl (y := lN (j % 2 ^ 5)) (wb_mask (k := 5) (by omega) (by decide)) ?_
                refine lv_ldc2 (v := 26) F.1 F.2.1 F.2.2.2.1 (F.2.2.2.2 _ mw_936) dX12_isWordNumber_45 ?_
                refine W.lcmp F.1 F.2.1 dX12_isWordNumber_48 ?_
                refine lv_if_gt (tgt := 56) F.1 F.2.1 dX12_isWordNumber_49 (by decide) (fun hc4 => ?_) (fun hc4 => ?_)
                · refine lv_iconst (v := 0) F.1 F.2.1 dX12_isWordNumber_56 (by decide) ?_
                  refine lv_istore_n (lv' := [(2, .int 0), (3, .long (lN j)), (0, .long (lN j0))]) F.1 F.2.1 dX12_isWordNumber_57 rfl hl (by decide) rfl (fun ls hl => ?_)
                  refine lv_lload_n F.1 F.2.1 dX12_isWordNumber_58 rfl (lv_at hl 1 rfl) ?_
                  refine lv_iconst (v := 5) F.1 F.2.1 dX12_isWordNumber_59 (by decide) ?_
                  refine lv_lshr (v := lN (j / 2 ^ 5)) F.1 F.2.1 dX12_isWordNumber_60 (pf_shr (d := 5) (by decide) (by omega)) ?_
                  refine lv_lstore_n (lv' := [(3, .long (lN (j / 2 ^ 5))), (2, .int 0), (0, .long (lN j0))]) F.1 F.2.1 dX12_isWordNumber_61 rfl hl (by decide) rfl (fun ls hl => ?_)
                  refine lv_goto (tgt := 20) F.1 F.2.1 dX12_isWordNumber_62 (by decide) ?_
                  exact ih (j / 2 ^ 5) _ _ (by omega) (by omega) (Or.inr ⟨rfl, hi.trans (ok_f2 hz (ok_nlo hc3) (ok_gt1 hc4))⟩) (lv_sub hl [1, 0, 2] rfl)
                · refine lv_iconst (v := 1) F.1 F.2.1 dX12_isWordNumber_52 (by decide) ?_
                  refine lv_goto (tgt := 57) F.1 F.2.1 dX12_isWordNumber_53 (by decide) ?_
                  refine lv_istore_n (lv' := [(2, .int 1), (3, .long (lN j)), (0, .long (lN j0))]) F.1 F.2.1 dX12_isWordNumber_57 rfl hl (by decide) rfl (fun ls hl => ?_)
                  refine lv_lload_n F.1 F.2.1 dX12_isWordNumber_58 rfl (lv_at hl 1 rfl) ?_
                  refine lv_iconst (v := 5) F.1 F.2.1 dX12_isWordNumber_59 (by decide) ?_
                  refine lv_lshr (v := lN (j / 2 ^ 5)) F.1 F.2.1 dX12_isWordNumber_60 (pf_shr (d := 5) (by decide) (by omega)) ?_
                  refine lv_lstore_n (lv' := [(3, .long (lN (j / 2 ^ 5))), (2, .int 1), (0, .long (lN j0))]) F.1 F.2.1 dX12_isWordNumber_61 rfl hl (by decide) rfl (fun ls hl => ?_)
                  refine lv_goto (tgt := 20) F.1 F.2.1 dX12_isWordNumber_62 (by decide) ?_
                  exact ih (j / 2 ^ 5) _ _ (by omega) (by omega) (Or.inl ⟨rfl, hi.trans (ok_s hz (ok_nlo hc3) (ok_ngt1 hc4))⟩) (lv_sub hl [1, 0, 2] rfl)
            · refine lv_lload_n F.1 F.2.1 dX12_isWordNumber_20 rfl (lv_at hl 1 rfl) ?_
              refine lv_lconst (v := 0) F.1 F.2.1 dX12_isWordNumber_21 (by decide) ?_
              refine W.lcmp F.1 F.2.1 dX12_isWordNumber_22 ?_
              refine lv_if_le (tgt := 65) F.1 F.2.1 dX12_isWordNumber_23 (by decide) (fun hc => absurd hc (ok_pos hz (by omega))) (fun _ => ?_)
              refine lv_iload_n F.1 F.2.1 dX12_isWordNumber_26 rfl (lv_at hl 0 rfl) ?_
              refine lv_if_eq (tgt := 56) F.1 F.2.1 dX12_isWordNumber_27 (by decide) (fun _ => ?_) (fun hc => absurd (by decide) hc)
              refine lv_iconst (v := 0) F.1 F.2.1 dX12_isWordNumber_56 (by decide) ?_
              refine lv_istore_n (lv' := [(2, .int 0), (3, .long (lN j)), (0, .long (lN j0))]) F.1 F.2.1 dX12_isWordNumber_57 rfl hl (by decide) rfl (fun ls hl => ?_)
              refine lv_lload_n F.1 F.2.1 dX12_isWordNumber_58 rfl (lv_at hl 1 rfl) ?_
              refine lv_iconst (v := 5) F.1 F.2.1 dX12_isWordNumber_59 (by decide) ?_
              refine lv_lshr (v := lN (j / 2 ^ 5)) F.1 F.2.1 dX12_isWordNumber_60 (pf_shr (d := 5) (by decide) (by omega)) ?_
              refine lv_lstore_n (lv' := [(3, .long (lN (j / 2 ^ 5))), (2, .int 0), (0, .long (lN j0))]) F.1 F.2.1 dX12_isWordNumber_61 rfl hl (by decide) rfl (fun ls hl => ?_)
              refine lv_goto (tgt := 20) F.1 F.2.1 dX12_isWordNumber_62 (by decide) ?_
              exact ih (j / 2 ^ 5) _ _ (by omega) (by omega) (Or.inr ⟨rfl, hi⟩) (lv_sub hl [1, 0, 2] rfl)
      exact loop 8 j0 1 _ (wv_c1 hj0 hc2) (by decide) (Or.inl ⟨rfl, wv_s h0 (wv_c1 hj0 hc2)⟩) (lv_sub hl [1, 0, 2] rfl)
    · refine lv_iconst (v := 0) F.1 F.2.1 dX12_isWordNumber_14 (by decide) ?_
      exact x_iret F h hr hlk (by decide +kernel) (fun _ => 0) [] (by rw [wv_b1 hc2]; rfl) (by decide +kernel) rfl (Nat.le_of_ble_eq_true rfl) (Nat.le_of_ble_eq_true rfl) dX12_isWordNumber_15
