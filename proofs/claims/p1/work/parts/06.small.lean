theorem dX11_settle_0 : decode cX11_settle 0 = .ok (.aload_n 0, 1) := by decide +kernel
theorem dX11_settle_1 : decode cX11_settle 1 = .ok (.iload_n 1, 1) := by decide +kernel
theorem dX11_settle_2 : decode cX11_settle 2 = .ok (.putfield 79, 3) := by decide +kernel
theorem mw_45 : Cond.fieldLink RX11 79 "AskBack" "status" "I" ∈ wsL_law := inr_2 _ (List.mem_of_getElem? (i := 21) rfl)
theorem dX11_settle_5 : decode cX11_settle 5 = .ok (.iload_n 1, 1) := by decide +kernel
theorem dX11_settle_6 : decode cX11_settle 6 = .ok (.ifCond .ne 7, 3) := by decide +kernel
theorem dX11_settle_13 : decode cX11_settle 13 = .ok (.iconst 0, 1) := by decide +kernel
theorem dX11_settle_14 : decode cX11_settle 14 = .ok (.ireturn, 1) := by decide +kernel
theorem dX11_settle_9 : decode cX11_settle 9 = .ok (.iconst 1, 1) := by decide +kernel
theorem dX11_settle_10 : decode cX11_settle 10 = .ok (.goto 4, 3) := by decide +kernel
theorem dX11_refuse_0 : decode cX11_refuse 0 = .ok (.aload_n 0, 1) := by decide +kernel
theorem dX11_refuse_1 : decode cX11_refuse 1 = .ok (.iload_n 1, 1) := by decide +kernel
theorem dX11_refuse_2 : decode cX11_refuse 2 = .ok (.putfield 79, 3) := by decide +kernel
theorem dX11_refuse_5 : decode cX11_refuse 5 = .ok (.iconst (-1), 1) := by decide +kernel
theorem dX11_refuse_6 : decode cX11_refuse 6 = .ok (.ireturn, 1) := by decide +kernel
theorem dX11_grant_0 : decode cX11_grant 0 = .ok (.aload_n 0, 1) := by decide +kernel
theorem dX11_grant_1 : decode cX11_grant 1 = .ok (.iconst 0, 1) := by decide +kernel
theorem dX11_grant_2 : decode cX11_grant 2 = .ok (.putfield 79, 3) := by decide +kernel
theorem dX11_grant_5 : decode cX11_grant 5 = .ok (.iload_n 1, 1) := by decide +kernel
theorem dX11_grant_6 : decode cX11_grant 6 = .ok (.ireturn, 1) := by decide +kernel
theorem dX12_is_0 : decode cX12_is 0 = .ok (.aload_n 0, 1) := by decide +kernel
theorem dX12_is_1 : decode cX12_is 1 = .ok (.iload_n 1, 1) := by decide +kernel
theorem dX12_is_2 : decode cX12_is 2 = .ok (.putfield 121, 3) := by decide +kernel
theorem mw_246 : Cond.fieldLink RX12 121 "AskBackModel" "status" "I" ∈ wsL_law := inr_11 _ (List.mem_of_getElem? (i := 6) rfl)
theorem dX12_is_5 : decode cX12_is 5 = .ok (.iload_n 1, 1) := by decide +kernel
theorem dX12_is_6 : decode cX12_is 6 = .ok (.ifCond .ne 7, 3) := by decide +kernel
theorem dX12_is_13 : decode cX12_is 13 = .ok (.iconst 0, 1) := by decide +kernel
theorem dX12_is_14 : decode cX12_is 14 = .ok (.ireturn, 1) := by decide +kernel
theorem dX12_is_9 : decode cX12_is 9 = .ok (.iconst 1, 1) := by decide +kernel
theorem dX12_is_10 : decode cX12_is 10 = .ok (.goto 4, 3) := by decide +kernel
theorem dX12_refuse_0 : decode cX12_refuse 0 = .ok (.aload_n 0, 1) := by decide +kernel
theorem dX12_refuse_1 : decode cX12_refuse 1 = .ok (.iload_n 1, 1) := by decide +kernel
theorem dX12_refuse_2 : decode cX12_refuse 2 = .ok (.putfield 121, 3) := by decide +kernel
theorem dX12_refuse_5 : decode cX12_refuse 5 = .ok (.iconst (-1), 1) := by decide +kernel
theorem dX12_refuse_6 : decode cX12_refuse 6 = .ok (.ireturn, 1) := by decide +kernel
theorem dX12_gives_0 : decode cX12_gives 0 = .ok (.aload_n 0, 1) := by decide +kernel
theorem dX12_gives_1 : decode cX12_gives 1 = .ok (.iconst 0, 1) := by decide +kernel
theorem dX12_gives_2 : decode cX12_gives 2 = .ok (.putfield 121, 3) := by decide +kernel
theorem dX12_gives_5 : decode cX12_gives 5 = .ok (.iload_n 1, 1) := by decide +kernel
theorem dX12_gives_6 : decode cX12_gives 6 = .ok (.ireturn, 1) := by decide +kernel
theorem dX12_givesLong_0 : decode cX12_givesLong 0 = .ok (.aload_n 0, 1) := by decide +kernel
theorem dX12_givesLong_1 : decode cX12_givesLong 1 = .ok (.iconst 0, 1) := by decide +kernel
theorem dX12_givesLong_2 : decode cX12_givesLong 2 = .ok (.putfield 121, 3) := by decide +kernel
theorem dX12_givesLong_5 : decode cX12_givesLong 5 = .ok (.lload_n 1, 1) := by decide +kernel
theorem dX12_givesLong_6 : decode cX12_givesLong 6 = .ok (.lreturn, 1) := by decide +kernel
theorem dX11_isTray_0 : decode cX11_isTray 0 = .ok (.iload_n 0, 1) := by decide +kernel
theorem dX11_isTray_1 : decode cX11_isTray 1 = .ok (.ifCond .lt 12, 3) := by decide +kernel
theorem dX11_isTray_13 : decode cX11_isTray 13 = .ok (.iconst 0, 1) := by decide +kernel
theorem dX11_isTray_14 : decode cX11_isTray 14 = .ok (.ireturn, 1) := by decide +kernel
theorem dX11_isTray_4 : decode cX11_isTray 4 = .ok (.iload_n 0, 1) := by decide +kernel
theorem dX11_isTray_5 : decode cX11_isTray 5 = .ok (.iconst 4, 1) := by decide +kernel
theorem dX11_isTray_6 : decode cX11_isTray 6 = .ok (.if_icmp .ge 7, 3) := by decide +kernel
theorem dX11_isTray_9 : decode cX11_isTray 9 = .ok (.iconst 1, 1) := by decide +kernel
theorem dX11_isTray_10 : decode cX11_isTray 10 = .ok (.goto 4, 3) := by decide +kernel
theorem dX12_isTray_0 : decode cX12_isTray 0 = .ok (.iload_n 0, 1) := by decide +kernel
theorem dX12_isTray_1 : decode cX12_isTray 1 = .ok (.ifCond .lt 12, 3) := by decide +kernel
theorem dX12_isTray_13 : decode cX12_isTray 13 = .ok (.iconst 0, 1) := by decide +kernel
theorem dX12_isTray_14 : decode cX12_isTray 14 = .ok (.ireturn, 1) := by decide +kernel
theorem dX12_isTray_4 : decode cX12_isTray 4 = .ok (.iload_n 0, 1) := by decide +kernel
theorem dX12_isTray_5 : decode cX12_isTray 5 = .ok (.iconst 4, 1) := by decide +kernel
theorem dX12_isTray_6 : decode cX12_isTray 6 = .ok (.if_icmp .ge 7, 3) := by decide +kernel
theorem dX12_isTray_9 : decode cX12_isTray 9 = .ok (.iconst 1, 1) := by decide +kernel
theorem dX12_isTray_10 : decode cX12_isTray 10 = .ok (.goto 4, 3) := by decide +kernel
theorem dX11_isScript_0 : decode cX11_isScript 0 = .ok (.iload_n 0, 1) := by decide +kernel
theorem dX11_isScript_1 : decode cX11_isScript 1 = .ok (.ifCond .lt 12, 3) := by decide +kernel
theorem dX11_isScript_13 : decode cX11_isScript 13 = .ok (.iconst 0, 1) := by decide +kernel
theorem dX11_isScript_14 : decode cX11_isScript 14 = .ok (.ireturn, 1) := by decide +kernel
theorem dX11_isScript_4 : decode cX11_isScript 4 = .ok (.iload_n 0, 1) := by decide +kernel
theorem dX11_isScript_5 : decode cX11_isScript 5 = .ok (.iconst 3, 1) := by decide +kernel
theorem dX11_isScript_6 : decode cX11_isScript 6 = .ok (.if_icmp .ge 7, 3) := by decide +kernel
theorem dX11_isScript_9 : decode cX11_isScript 9 = .ok (.iconst 1, 1) := by decide +kernel
theorem dX11_isScript_10 : decode cX11_isScript 10 = .ok (.goto 4, 3) := by decide +kernel
theorem dX12_isScript_0 : decode cX12_isScript 0 = .ok (.iload_n 1, 1) := by decide +kernel
theorem dX12_isScript_1 : decode cX12_isScript 1 = .ok (.ifCond .lt 12, 3) := by decide +kernel
theorem dX12_isScript_13 : decode cX12_isScript 13 = .ok (.iconst 0, 1) := by decide +kernel
theorem dX12_isScript_14 : decode cX12_isScript 14 = .ok (.ireturn, 1) := by decide +kernel
theorem dX12_isScript_4 : decode cX12_isScript 4 = .ok (.iload_n 1, 1) := by decide +kernel
theorem dX12_isScript_5 : decode cX12_isScript 5 = .ok (.iconst 3, 1) := by decide +kernel
theorem dX12_isScript_6 : decode cX12_isScript 6 = .ok (.if_icmp .ge 7, 3) := by decide +kernel
theorem dX12_isScript_9 : decode cX12_isScript 9 = .ok (.iconst 1, 1) := by decide +kernel
theorem dX12_isScript_10 : decode cX12_isScript 10 = .ok (.goto 4, 3) := by decide +kernel
set_option maxHeartbeats 4000000 in
set_option maxRecDepth 100000 in
theorem c_settle (l : Launch) (D : va_G) (cy : Nat → ClassId) (q : Nat) (fs : List Value) (hfs : fs.length = 17) (v : Int32) : ∀ sz, Met l yX11_settle (Cond.code yX11_settle cX11_settle 2 (some .boolean) :: wsL_law) { frames := 0, cells := 0, slots := 0, locals := 0 } (va_Pc [.ref q, .int v] (xP D cy ([(q, .inr (11, fs))]) sz)) (va_Qi (fun r _ => r = if v = 0 then 1 else 0) (xB D (va_A ([(q, .inr (11, fs))]) sz) (fun _ => [])) (va_A ([(q, .inr (11, fs))]) sz)) 0 0 (va_A ([(q, .inr (11, fs))]) sz) := by
  refine x_enter (fun A => va_Qi (fun r _ => r = if v = 0 then 1 else 0) (xB D A (fun _ => [])) A) (by decide +kernel) rfl (Nat.le_of_ble_eq_true rfl) ?_
  intro p e s m below meth c A ls F hr hlk hin h hl
  have hl : lv_has ls 2 [(0, .ref q), (1, .int v)] := hl
  refine lv_aload_n F.1 F.2.1 dX11_settle_0 rfl (lv_at hl 0 rfl) ?_
  refine lv_iload_n F.1 F.2.1 dX11_settle_1 rfl (lv_at hl 1 rfl) ?_
  refine x_put F h 0 14 inlX11 tyX11_ok nmX11 rfl (by decide) mw_45 dX11_settle_2 rfl rfl rfl rfl (by omega) (ws' := [(q, .inr (11, fs.set 14 (.int v)))]) rfl (fun H locs h => ?_)
  refine lv_iload_n F.1 F.2.1 dX11_settle_5 rfl (lv_at hl 1 rfl) ?_
  refine lv_if_ne (tgt := 13) F.1 F.2.1 dX11_settle_6 (by decide) (fun hc1 => ?_) (fun hc1 => ?_)
  · refine lv_iconst (v := 0) F.1 F.2.1 dX11_settle_13 (by decide) ?_
    exact x_iret F h hr hlk (by decide +kernel) (fun _ => 0) [] (by simp [hc1]) (by decide +kernel) rfl (Nat.le_of_ble_eq_true rfl) (Nat.le_of_ble_eq_true rfl) dX11_settle_14
  · refine lv_iconst (v := 1) F.1 F.2.1 dX11_settle_9 (by decide) ?_
    refine lv_goto (tgt := 14) F.1 F.2.1 dX11_settle_10 (by decide) ?_
    exact x_iret F h hr hlk (by decide +kernel) (fun _ => 0) [] (by simp [hc1]) (by decide +kernel) rfl (Nat.le_of_ble_eq_true rfl) (Nat.le_of_ble_eq_true rfl) dX11_settle_14
set_option maxHeartbeats 4000000 in
set_option maxRecDepth 100000 in
theorem c_refuse (l : Launch) (D : va_G) (cy : Nat → ClassId) (q : Nat) (fs : List Value) (hfs : fs.length = 17) (v : Int32) : ∀ sz, Met l yX11_refuse (Cond.code yX11_refuse cX11_refuse 2 (some .int) :: wsL_law) { frames := 0, cells := 0, slots := 0, locals := 0 } (va_Pc [.ref q, .int v] (xP D cy ([(q, .inr (11, fs))]) sz)) (va_Qi (fun r _ => r = -1) (xB D (va_A ([(q, .inr (11, fs))]) sz) (fun _ => [])) (va_A ([(q, .inr (11, fs))]) sz)) 0 0 (va_A ([(q, .inr (11, fs))]) sz) := by
  refine x_enter (fun A => va_Qi (fun r _ => r = -1) (xB D A (fun _ => [])) A) (by decide +kernel) rfl (Nat.le_of_ble_eq_true rfl) ?_
  intro p e s m below meth c A ls F hr hlk hin h hl
  have hl : lv_has ls 2 [(0, .ref q), (1, .int v)] := hl
  refine lv_aload_n F.1 F.2.1 dX11_refuse_0 rfl (lv_at hl 0 rfl) ?_
  refine lv_iload_n F.1 F.2.1 dX11_refuse_1 rfl (lv_at hl 1 rfl) ?_
  refine x_put F h 0 14 inlX11 tyX11_ok nmX11 rfl (by decide) mw_45 dX11_refuse_2 rfl rfl rfl rfl (by omega) (ws' := [(q, .inr (11, fs.set 14 (.int v)))]) rfl (fun H locs h => ?_)
  refine lv_iconst (v := (-1)) F.1 F.2.1 dX11_refuse_5 (by decide) ?_
  exact x_iret F h hr hlk rfl (fun _ => 0) [] (rfl) (by decide +kernel) rfl (Nat.le_of_ble_eq_true rfl) (Nat.le_of_ble_eq_true rfl) dX11_refuse_6
set_option maxHeartbeats 4000000 in
set_option maxRecDepth 100000 in
theorem c_grant (l : Launch) (D : va_G) (cy : Nat → ClassId) (q : Nat) (fs : List Value) (hfs : fs.length = 17) (v : Int32) : ∀ sz, Met l yX11_grant (Cond.code yX11_grant cX11_grant 2 (some .int) :: wsL_law) { frames := 0, cells := 0, slots := 0, locals := 0 } (va_Pc [.ref q, .int v] (xP D cy ([(q, .inr (11, fs))]) sz)) (va_Qi (fun r _ => r = v) (xB D (va_A ([(q, .inr (11, fs))]) sz) (fun _ => [])) (va_A ([(q, .inr (11, fs))]) sz)) 0 0 (va_A ([(q, .inr (11, fs))]) sz) := by
  refine x_enter (fun A => va_Qi (fun r _ => r = v) (xB D A (fun _ => [])) A) (by decide +kernel) rfl (Nat.le_of_ble_eq_true rfl) ?_
  intro p e s m below meth c A ls F hr hlk hin h hl
  have hl : lv_has ls 2 [(0, .ref q), (1, .int v)] := hl
  refine lv_aload_n F.1 F.2.1 dX11_grant_0 rfl (lv_at hl 0 rfl) ?_
  refine lv_iconst (v := 0) F.1 F.2.1 dX11_grant_1 (by decide) ?_
  refine x_put F h 0 14 inlX11 tyX11_ok nmX11 rfl (by decide) mw_45 dX11_grant_2 rfl rfl rfl rfl (by omega) (ws' := [(q, .inr (11, fs.set 14 (.int 0)))]) rfl (fun H locs h => ?_)
  refine lv_iload_n F.1 F.2.1 dX11_grant_5 rfl (lv_at hl 1 rfl) ?_
  exact x_iret F h hr hlk rfl (fun _ => 0) [] (rfl) (by decide +kernel) rfl (Nat.le_of_ble_eq_true rfl) (Nat.le_of_ble_eq_true rfl) dX11_grant_6
set_option maxHeartbeats 4000000 in
set_option maxRecDepth 100000 in
theorem c_m_is (l : Launch) (D : va_G) (cy : Nat → ClassId) (q : Nat) (fs : List Value) (hfs : fs.length = 65) (v : Int32) : ∀ sz, Met l yX12_is (Cond.code yX12_is cX12_is 2 (some .boolean) :: wsL_law) { frames := 0, cells := 0, slots := 0, locals := 0 } (va_Pc [.ref q, .int v] (xP D cy ([(q, .inr (12, fs))]) sz)) (va_Qi (fun r _ => r = if v = 0 then 1 else 0) (xB D (va_A ([(q, .inr (12, fs))]) sz) (fun _ => [])) (va_A ([(q, .inr (12, fs))]) sz)) 0 0 (va_A ([(q, .inr (12, fs))]) sz) := by
  refine x_enter (fun A => va_Qi (fun r _ => r = if v = 0 then 1 else 0) (xB D A (fun _ => [])) A) (by decide +kernel) rfl (Nat.le_of_ble_eq_true rfl) ?_
  intro p e s m below meth c A ls F hr hlk hin h hl
  have hl : lv_has ls 2 [(0, .ref q), (1, .int v)] := hl
  refine lv_aload_n F.1 F.2.1 dX12_is_0 rfl (lv_at hl 0 rfl) ?_
  refine lv_iload_n F.1 F.2.1 dX12_is_1 rfl (lv_at hl 1 rfl) ?_
  refine x_put F h 0 1 inlX12 tyX12_ok nmX12 rfl (by decide) mw_246 dX12_is_2 rfl rfl rfl rfl (by omega) (ws' := [(q, .inr (12, fs.set 1 (.int v)))]) rfl (fun H locs h => ?_)
  refine lv_iload_n F.1 F.2.1 dX12_is_5 rfl (lv_at hl 1 rfl) ?_
  refine lv_if_ne (tgt := 13) F.1 F.2.1 dX12_is_6 (by decide) (fun hc1 => ?_) (fun hc1 => ?_)
  · refine lv_iconst (v := 0) F.1 F.2.1 dX12_is_13 (by decide) ?_
    exact x_iret F h hr hlk (by decide +kernel) (fun _ => 0) [] (by simp [hc1]) (by decide +kernel) rfl (Nat.le_of_ble_eq_true rfl) (Nat.le_of_ble_eq_true rfl) dX12_is_14
  · refine lv_iconst (v := 1) F.1 F.2.1 dX12_is_9 (by decide) ?_
    refine lv_goto (tgt := 14) F.1 F.2.1 dX12_is_10 (by decide) ?_
    exact x_iret F h hr hlk (by decide +kernel) (fun _ => 0) [] (by simp [hc1]) (by decide +kernel) rfl (Nat.le_of_ble_eq_true rfl) (Nat.le_of_ble_eq_true rfl) dX12_is_14
set_option maxHeartbeats 4000000 in
set_option maxRecDepth 100000 in
theorem c_m_refuse (l : Launch) (D : va_G) (cy : Nat → ClassId) (q : Nat) (fs : List Value) (hfs : fs.length = 65) (v : Int32) : ∀ sz, Met l yX12_refuse (Cond.code yX12_refuse cX12_refuse 2 (some .int) :: wsL_law) { frames := 0, cells := 0, slots := 0, locals := 0 } (va_Pc [.ref q, .int v] (xP D cy ([(q, .inr (12, fs))]) sz)) (va_Qi (fun r _ => r = -1) (xB D (va_A ([(q, .inr (12, fs))]) sz) (fun _ => [])) (va_A ([(q, .inr (12, fs))]) sz)) 0 0 (va_A ([(q, .inr (12, fs))]) sz) := by
  refine x_enter (fun A => va_Qi (fun r _ => r = -1) (xB D A (fun _ => [])) A) (by decide +kernel) rfl (Nat.le_of_ble_eq_true rfl) ?_
  intro p e s m below meth c A ls F hr hlk hin h hl
  have hl : lv_has ls 2 [(0, .ref q), (1, .int v)] := hl
  refine lv_aload_n F.1 F.2.1 dX12_refuse_0 rfl (lv_at hl 0 rfl) ?_
  refine lv_iload_n F.1 F.2.1 dX12_refuse_1 rfl (lv_at hl 1 rfl) ?_
  refine x_put F h 0 1 inlX12 tyX12_ok nmX12 rfl (by decide) mw_246 dX12_refuse_2 rfl rfl rfl rfl (by omega) (ws' := [(q, .inr (12, fs.set 1 (.int v)))]) rfl (fun H locs h => ?_)
  refine lv_iconst (v := (-1)) F.1 F.2.1 dX12_refuse_5 (by decide) ?_
  exact x_iret F h hr hlk rfl (fun _ => 0) [] (rfl) (by decide +kernel) rfl (Nat.le_of_ble_eq_true rfl) (Nat.le_of_ble_eq_true rfl) dX12_refuse_6
set_option maxHeartbeats 4000000 in
set_option maxRecDepth 100000 in
theorem c_m_gives (l : Launch) (D : va_G) (cy : Nat → ClassId) (q : Nat) (fs : List Value) (hfs : fs.length = 65) (v : Int32) : ∀ sz, Met l yX12_gives (Cond.code yX12_gives cX12_gives 2 (some .int) :: wsL_law) { frames := 0, cells := 0, slots := 0, locals := 0 } (va_Pc [.ref q, .int v] (xP D cy ([(q, .inr (12, fs))]) sz)) (va_Qi (fun r _ => r = v) (xB D (va_A ([(q, .inr (12, fs))]) sz) (fun _ => [])) (va_A ([(q, .inr (12, fs))]) sz)) 0 0 (va_A ([(q, .inr (12, fs))]) sz) := by
  refine x_enter (fun A => va_Qi (fun r _ => r = v) (xB D A (fun _ => [])) A) (by decide +kernel) rfl (Nat.le_of_ble_eq_true rfl) ?_
  intro p e s m below meth c A ls F hr hlk hin h hl
  have hl : lv_has ls 2 [(0, .ref q), (1, .int v)] := hl
  refine lv_aload_n F.1 F.2.1 dX12_gives_0 rfl (lv_at hl 0 rfl) ?_
  refine lv_iconst (v := 0) F.1 F.2.1 dX12_gives_1 (by decide) ?_
  refine x_put F h 0 1 inlX12 tyX12_ok nmX12 rfl (by decide) mw_246 dX12_gives_2 rfl rfl rfl rfl (by omega) (ws' := [(q, .inr (12, fs.set 1 (.int 0)))]) rfl (fun H locs h => ?_)
  refine lv_iload_n F.1 F.2.1 dX12_gives_5 rfl (lv_at hl 1 rfl) ?_
  exact x_iret F h hr hlk rfl (fun _ => 0) [] (rfl) (by decide +kernel) rfl (Nat.le_of_ble_eq_true rfl) (Nat.le_of_ble_eq_true rfl) dX12_gives_6
set_option maxHeartbeats 4000000 in
set_option maxRecDepth 100000 in
theorem c_m_givesLong (l : Launch) (D : va_G) (cy : Nat → ClassId) (q : Nat) (fs : List Value) (hfs : fs.length = 65) (v : Int64) : ∀ sz, Met l yX12_givesLong (Cond.code yX12_givesLong cX12_givesLong 3 (some .long) :: wsL_law) { frames := 0, cells := 0, slots := 0, locals := 0 } (va_Pc [.ref q, .long v] (xP D cy ([(q, .inr (12, fs))]) sz)) (va_Ql (fun r _ => r = v) (xB D (va_A ([(q, .inr (12, fs))]) sz) (fun _ => [])) (va_A ([(q, .inr (12, fs))]) sz)) 0 0 (va_A ([(q, .inr (12, fs))]) sz) := by
  refine x_enter (fun A => va_Ql (fun r _ => r = v) (xB D A (fun _ => [])) A) (by decide +kernel) rfl (Nat.le_of_ble_eq_true rfl) ?_
  intro p e s m below meth c A ls F hr hlk hin h hl
  have hl : lv_has ls 3 [(0, .ref q), (1, .long v)] := hl
  refine lv_aload_n F.1 F.2.1 dX12_givesLong_0 rfl (lv_at hl 0 rfl) ?_
  refine lv_iconst (v := 0) F.1 F.2.1 dX12_givesLong_1 (by decide) ?_
  refine x_put F h 0 1 inlX12 tyX12_ok nmX12 rfl (by decide) mw_246 dX12_givesLong_2 rfl rfl rfl rfl (by omega) (ws' := [(q, .inr (12, fs.set 1 (.int 0)))]) rfl (fun H locs h => ?_)
  refine lv_lload_n F.1 F.2.1 dX12_givesLong_5 rfl (lv_at hl 1 rfl) ?_
  exact x_lret F h hr hlk (fun _ => 0) [] (rfl) (by decide +kernel) rfl (Nat.le_of_ble_eq_true rfl) (Nat.le_of_ble_eq_true rfl) dX12_givesLong_6
set_option maxHeartbeats 4000000 in
set_option maxRecDepth 100000 in
theorem c_isTray (l : Launch) (D : va_G) (cy : Nat → ClassId) (t : Int32) : ∀ sz, Met l yX11_isTray (Cond.code yX11_isTray cX11_isTray 1 (some .boolean) :: wsL_law) { frames := 0, cells := 0, slots := 0, locals := 0 } (va_Pc [.int t] (xP D cy ([]) sz)) (va_Qi (fun r _ => r = if t < 0 then 0 else if 4 ≤ t then 0 else 1) (xB D (va_A ([]) sz) (fun _ => [])) (va_A ([]) sz)) 0 0 (va_A ([]) sz) := by
  refine x_enter (fun A => va_Qi (fun r _ => r = if t < 0 then 0 else if 4 ≤ t then 0 else 1) (xB D A (fun _ => [])) A) (by decide +kernel) rfl (Nat.le_of_ble_eq_true rfl) ?_
  intro p e s m below meth c A ls F hr hlk hin h hl
  have hl : lv_has ls 1 [(0, .int t)] := hl
  refine lv_iload_n F.1 F.2.1 dX11_isTray_0 rfl (lv_at hl 0 rfl) ?_
  refine lv_if_lt (tgt := 13) F.1 F.2.1 dX11_isTray_1 (by decide) (fun hc1 => ?_) (fun hc1 => ?_)
  · refine lv_iconst (v := 0) F.1 F.2.1 dX11_isTray_13 (by decide) ?_
    exact x_iret F h hr hlk (by decide +kernel) (fun _ => 0) [] (by simp [hc1]) (by decide +kernel) rfl (Nat.le_of_ble_eq_true rfl) (Nat.le_of_ble_eq_true rfl) dX11_isTray_14
  · refine lv_iload_n F.1 F.2.1 dX11_isTray_4 rfl (lv_at hl 0 rfl) ?_
    refine lv_iconst (v := 4) F.1 F.2.1 dX11_isTray_5 (by decide) ?_
    refine lv_icmp_ge (tgt := 13) F.1 F.2.1 dX11_isTray_6 (by decide) (fun hc2 => ?_) (fun hc2 => ?_)
    · refine lv_iconst (v := 0) F.1 F.2.1 dX11_isTray_13 (by decide) ?_
      exact x_iret F h hr hlk (by decide +kernel) (fun _ => 0) [] (by simp [hc1, hc2]) (by decide +kernel) rfl (Nat.le_of_ble_eq_true rfl) (Nat.le_of_ble_eq_true rfl) dX11_isTray_14
    · refine lv_iconst (v := 1) F.1 F.2.1 dX11_isTray_9 (by decide) ?_
      refine lv_goto (tgt := 14) F.1 F.2.1 dX11_isTray_10 (by decide) ?_
      exact x_iret F h hr hlk (by decide +kernel) (fun _ => 0) [] (by simp [hc1, hc2]) (by decide +kernel) rfl (Nat.le_of_ble_eq_true rfl) (Nat.le_of_ble_eq_true rfl) dX11_isTray_14
set_option maxHeartbeats 4000000 in
set_option maxRecDepth 100000 in
theorem c_m_isTray (l : Launch) (D : va_G) (cy : Nat → ClassId) (t : Int32) : ∀ sz, Met l yX12_isTray (Cond.code yX12_isTray cX12_isTray 1 (some .boolean) :: wsL_law) { frames := 0, cells := 0, slots := 0, locals := 0 } (va_Pc [.int t] (xP D cy ([]) sz)) (va_Qi (fun r _ => r = if t < 0 then 0 else if 4 ≤ t then 0 else 1) (xB D (va_A ([]) sz) (fun _ => [])) (va_A ([]) sz)) 0 0 (va_A ([]) sz) := by
  refine x_enter (fun A => va_Qi (fun r _ => r = if t < 0 then 0 else if 4 ≤ t then 0 else 1) (xB D A (fun _ => [])) A) (by decide +kernel) rfl (Nat.le_of_ble_eq_true rfl) ?_
  intro p e s m below meth c A ls F hr hlk hin h hl
  have hl : lv_has ls 1 [(0, .int t)] := hl
  refine lv_iload_n F.1 F.2.1 dX12_isTray_0 rfl (lv_at hl 0 rfl) ?_
  refine lv_if_lt (tgt := 13) F.1 F.2.1 dX12_isTray_1 (by decide) (fun hc1 => ?_) (fun hc1 => ?_)
  · refine lv_iconst (v := 0) F.1 F.2.1 dX12_isTray_13 (by decide) ?_
    exact x_iret F h hr hlk (by decide +kernel) (fun _ => 0) [] (by simp [hc1]) (by decide +kernel) rfl (Nat.le_of_ble_eq_true rfl) (Nat.le_of_ble_eq_true rfl) dX12_isTray_14
  · refine lv_iload_n F.1 F.2.1 dX12_isTray_4 rfl (lv_at hl 0 rfl) ?_
    refine lv_iconst (v := 4) F.1 F.2.1 dX12_isTray_5 (by decide) ?_
    refine lv_icmp_ge (tgt := 13) F.1 F.2.1 dX12_isTray_6 (by decide) (fun hc2 => ?_) (fun hc2 => ?_)
    · refine lv_iconst (v := 0) F.1 F.2.1 dX12_isTray_13 (by decide) ?_
      exact x_iret F h hr hlk (by decide +kernel) (fun _ => 0) [] (by simp [hc1, hc2]) (by decide +kernel) rfl (Nat.le_of_ble_eq_true rfl) (Nat.le_of_ble_eq_true rfl) dX12_isTray_14
    · refine lv_iconst (v := 1) F.1 F.2.1 dX12_isTray_9 (by decide) ?_
      refine lv_goto (tgt := 14) F.1 F.2.1 dX12_isTray_10 (by decide) ?_
      exact x_iret F h hr hlk (by decide +kernel) (fun _ => 0) [] (by simp [hc1, hc2]) (by decide +kernel) rfl (Nat.le_of_ble_eq_true rfl) (Nat.le_of_ble_eq_true rfl) dX12_isTray_14
set_option maxHeartbeats 4000000 in
set_option maxRecDepth 100000 in
theorem c_isScript (l : Launch) (D : va_G) (cy : Nat → ClassId) (t : Int32) : ∀ sz, Met l yX11_isScript (Cond.code yX11_isScript cX11_isScript 1 (some .boolean) :: wsL_law) { frames := 0, cells := 0, slots := 0, locals := 0 } (va_Pc [.int t] (xP D cy ([]) sz)) (va_Qi (fun r _ => r = if t < 0 then 0 else if 3 ≤ t then 0 else 1) (xB D (va_A ([]) sz) (fun _ => [])) (va_A ([]) sz)) 0 0 (va_A ([]) sz) := by
  refine x_enter (fun A => va_Qi (fun r _ => r = if t < 0 then 0 else if 3 ≤ t then 0 else 1) (xB D A (fun _ => [])) A) (by decide +kernel) rfl (Nat.le_of_ble_eq_true rfl) ?_
  intro p e s m below meth c A ls F hr hlk hin h hl
  have hl : lv_has ls 1 [(0, .int t)] := hl
  refine lv_iload_n F.1 F.2.1 dX11_isScript_0 rfl (lv_at hl 0 rfl) ?_
  refine lv_if_lt (tgt := 13) F.1 F.2.1 dX11_isScript_1 (by decide) (fun hc1 => ?_) (fun hc1 => ?_)
  · refine lv_iconst (v := 0) F.1 F.2.1 dX11_isScript_13 (by decide) ?_
    exact x_iret F h hr hlk (by decide +kernel) (fun _ => 0) [] (by simp [hc1]) (by decide +kernel) rfl (Nat.le_of_ble_eq_true rfl) (Nat.le_of_ble_eq_true rfl) dX11_isScript_14
  · refine lv_iload_n F.1 F.2.1 dX11_isScript_4 rfl (lv_at hl 0 rfl) ?_
    refine lv_iconst (v := 3) F.1 F.2.1 dX11_isScript_5 (by decide) ?_
    refine lv_icmp_ge (tgt := 13) F.1 F.2.1 dX11_isScript_6 (by decide) (fun hc2 => ?_) (fun hc2 => ?_)
    · refine lv_iconst (v := 0) F.1 F.2.1 dX11_isScript_13 (by decide) ?_
      exact x_iret F h hr hlk (by decide +kernel) (fun _ => 0) [] (by simp [hc1, hc2]) (by decide +kernel) rfl (Nat.le_of_ble_eq_true rfl) (Nat.le_of_ble_eq_true rfl) dX11_isScript_14
    · refine lv_iconst (v := 1) F.1 F.2.1 dX11_isScript_9 (by decide) ?_
      refine lv_goto (tgt := 14) F.1 F.2.1 dX11_isScript_10 (by decide) ?_
      exact x_iret F h hr hlk (by decide +kernel) (fun _ => 0) [] (by simp [hc1, hc2]) (by decide +kernel) rfl (Nat.le_of_ble_eq_true rfl) (Nat.le_of_ble_eq_true rfl) dX11_isScript_14
set_option maxHeartbeats 4000000 in
set_option maxRecDepth 100000 in
theorem c_m_isScript (l : Launch) (D : va_G) (cy : Nat → ClassId) (q : Nat) (fs : List Value) (t : Int32) : ∀ sz, Met l yX12_isScript (Cond.code yX12_isScript cX12_isScript 2 (some .boolean) :: wsL_law) { frames := 0, cells := 0, slots := 0, locals := 0 } (va_Pc [.ref q, .int t] (xP D cy ([(q, .inr (12, fs))]) sz)) (va_Qi (fun r _ => r = if t < 0 then 0 else if 3 ≤ t then 0 else 1) (xB D (va_A ([(q, .inr (12, fs))]) sz) (fun _ => [(q, .inr (12, fs))])) (va_A ([(q, .inr (12, fs))]) sz)) 0 0 (va_A ([(q, .inr (12, fs))]) sz) := by
  refine x_enter (fun A => va_Qi (fun r _ => r = if t < 0 then 0 else if 3 ≤ t then 0 else 1) (xB D A (fun _ => [(q, .inr (12, fs))])) A) (by decide +kernel) rfl (Nat.le_of_ble_eq_true rfl) ?_
  intro p e s m below meth c A ls F hr hlk hin h hl
  have hl : lv_has ls 2 [(0, .ref q), (1, .int t)] := hl
  refine lv_iload_n F.1 F.2.1 dX12_isScript_0 rfl (lv_at hl 1 rfl) ?_
  refine lv_if_lt (tgt := 13) F.1 F.2.1 dX12_isScript_1 (by decide) (fun hc1 => ?_) (fun hc1 => ?_)
  · refine lv_iconst (v := 0) F.1 F.2.1 dX12_isScript_13 (by decide) ?_
    exact x_iret F h hr hlk (by decide +kernel) (fun _ => 0) [0] (by simp [hc1]) (by decide +kernel) rfl (Nat.le_of_ble_eq_true rfl) (Nat.le_of_ble_eq_true rfl) dX12_isScript_14
  · refine lv_iload_n F.1 F.2.1 dX12_isScript_4 rfl (lv_at hl 1 rfl) ?_
    refine lv_iconst (v := 3) F.1 F.2.1 dX12_isScript_5 (by decide) ?_
    refine lv_icmp_ge (tgt := 13) F.1 F.2.1 dX12_isScript_6 (by decide) (fun hc2 => ?_) (fun hc2 => ?_)
    · refine lv_iconst (v := 0) F.1 F.2.1 dX12_isScript_13 (by decide) ?_
      exact x_iret F h hr hlk (by decide +kernel) (fun _ => 0) [0] (by simp [hc1, hc2]) (by decide +kernel) rfl (Nat.le_of_ble_eq_true rfl) (Nat.le_of_ble_eq_true rfl) dX12_isScript_14
    · refine lv_iconst (v := 1) F.1 F.2.1 dX12_isScript_9 (by decide) ?_
      refine lv_goto (tgt := 14) F.1 F.2.1 dX12_isScript_10 (by decide) ?_
      exact x_iret F h hr hlk (by decide +kernel) (fun _ => 0) [0] (by simp [hc1, hc2]) (by decide +kernel) rfl (Nat.le_of_ble_eq_true rfl) (Nat.le_of_ble_eq_true rfl) dX12_isScript_14
