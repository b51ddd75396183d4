theorem dX4_init_0 : decode cX4_init 0 = .ok (.aload_n 0, 1) := by decide +kernel
theorem dX4_init_1 : decode cX4_init 1 = .ok (.invokespecial 3, 3) := by decide +kernel
theorem mw_74 : Cond.methodLink RX4 3 objectInit ∈ wsL_law := inr_4 _ (List.mem_of_getElem? (i := 2) rfl)
theorem mw_11 : Cond.instanceMethod objectInit ∈ wsL_law := inr_1 _ (List.mem_of_getElem? (i := 11) rfl)
theorem mw_12 : Cond.code objectInit ⟨#[0xb1]⟩ 1 none ∈ wsL_law := inr_1 _ (List.mem_of_getElem? (i := 12) rfl)
theorem dX4_init_4 : decode cX4_init 4 = .ok (.aload_n 0, 1) := by decide +kernel
theorem dX4_init_5 : decode cX4_init 5 = .ok (.bipush 12, 2) := by decide +kernel
theorem dX4_init_7 : decode cX4_init 7 = .ok (.newarray .long, 2) := by decide +kernel
theorem mw_64 : Cond.arrayClass .long ∈ wsL_law := inr_3 _ (List.mem_of_getElem? (i := 16) rfl)
theorem dX4_init_9 : decode cX4_init 9 = .ok (.putfield 9, 3) := by decide +kernel
theorem mw_75 : Cond.fieldLink RX4 9 "AskBack$Row" "words" "[J" ∈ wsL_law := inr_4 _ (List.mem_of_getElem? (i := 3) rfl)
theorem dX4_init_12 : decode cX4_init 12 = .ok (.aload_n 0, 1) := by decide +kernel
theorem dX4_init_13 : decode cX4_init 13 = .ok (.iconst 0, 1) := by decide +kernel
theorem dX4_init_14 : decode cX4_init 14 = .ok (.putfield 15, 3) := by decide +kernel
theorem mw_76 : Cond.fieldLink RX4 15 "AskBack$Row" "size" "I" ∈ wsL_law := inr_4 _ (List.mem_of_getElem? (i := 4) rfl)
theorem dX4_init_17 : decode cX4_init 17 = .ok (.return_, 1) := by decide +kernel
theorem dX10_init_0 : decode cX10_init 0 = .ok (.aload_n 0, 1) := by decide +kernel
theorem dX10_init_1 : decode cX10_init 1 = .ok (.invokespecial 3, 3) := by decide +kernel
theorem mw_194 : Cond.methodLink RX10 3 objectInit ∈ wsL_law := inr_9 _ (List.mem_of_getElem? (i := 2) rfl)
theorem dX10_init_4 : decode cX10_init 4 = .ok (.aload_n 0, 1) := by decide +kernel
theorem dX10_init_5 : decode cX10_init 5 = .ok (.bipush 60, 2) := by decide +kernel
theorem dX10_init_7 : decode cX10_init 7 = .ok (.newarray .long, 2) := by decide +kernel
theorem dX10_init_9 : decode cX10_init 9 = .ok (.putfield 9, 3) := by decide +kernel
theorem mw_195 : Cond.fieldLink RX10 9 "AskBack$Tray" "numbers" "[J" ∈ wsL_law := inr_9 _ (List.mem_of_getElem? (i := 3) rfl)
theorem dX10_init_12 : decode cX10_init 12 = .ok (.aload_n 0, 1) := by decide +kernel
theorem dX10_init_13 : decode cX10_init 13 = .ok (.iconst (-1), 1) := by decide +kernel
theorem dX10_init_14 : decode cX10_init 14 = .ok (.putfield 15, 3) := by decide +kernel
theorem mw_196 : Cond.fieldLink RX10 15 "AskBack$Tray" "size" "I" ∈ wsL_law := inr_9 _ (List.mem_of_getElem? (i := 4) rfl)
theorem dX10_init_17 : decode cX10_init 17 = .ok (.aload_n 0, 1) := by decide +kernel
theorem dX10_init_18 : decode cX10_init 18 = .ok (.iconst 0, 1) := by decide +kernel
theorem dX10_init_19 : decode cX10_init 19 = .ok (.putfield 19, 3) := by decide +kernel
theorem mw_197 : Cond.fieldLink RX10 19 "AskBack$Tray" "sort" "I" ∈ wsL_law := inr_9 _ (List.mem_of_getElem? (i := 5) rfl)
theorem dX10_init_22 : decode cX10_init 22 = .ok (.return_, 1) := by decide +kernel
theorem dX6_init_0 : decode cX6_init 0 = .ok (.aload_n 0, 1) := by decide +kernel
theorem dX6_init_1 : decode cX6_init 1 = .ok (.invokespecial 3, 3) := by decide +kernel
theorem mw_79 : Cond.methodLink RX6 3 objectInit ∈ wsL_law := inr_4 _ (List.mem_of_getElem? (i := 7) rfl)
theorem dX6_init_4 : decode cX6_init 4 = .ok (.aload_n 0, 1) := by decide +kernel
theorem dX6_init_5 : decode cX6_init 5 = .ok (.sipush 600, 3) := by decide +kernel
theorem dX6_init_8 : decode cX6_init 8 = .ok (.newarray .long, 2) := by decide +kernel
theorem dX6_init_10 : decode cX6_init 10 = .ok (.putfield 9, 3) := by decide +kernel
theorem mw_80 : Cond.fieldLink RX6 9 "AskBack$Script" "parts" "[J" ∈ wsL_law := inr_4 _ (List.mem_of_getElem? (i := 8) rfl)
theorem dX6_init_13 : decode cX6_init 13 = .ok (.aload_n 0, 1) := by decide +kernel
theorem dX6_init_14 : decode cX6_init 14 = .ok (.bipush 12, 2) := by decide +kernel
theorem dX6_init_16 : decode cX6_init 16 = .ok (.newarray .long, 2) := by decide +kernel
theorem dX6_init_18 : decode cX6_init 18 = .ok (.putfield 15, 3) := by decide +kernel
theorem mw_81 : Cond.fieldLink RX6 15 "AskBack$Script" "keyNames" "[J" ∈ wsL_law := inr_4 _ (List.mem_of_getElem? (i := 9) rfl)
theorem dX6_init_21 : decode cX6_init 21 = .ok (.aload_n 0, 1) := by decide +kernel
theorem dX6_init_22 : decode cX6_init 22 = .ok (.bipush 12, 2) := by decide +kernel
theorem dX6_init_24 : decode cX6_init 24 = .ok (.newarray .int, 2) := by decide +kernel
theorem mw_38 : Cond.arrayClass .int ∈ wsL_law := inr_2 _ (List.mem_of_getElem? (i := 14) rfl)
theorem dX6_init_26 : decode cX6_init 26 = .ok (.putfield 18, 3) := by decide +kernel
theorem mw_82 : Cond.fieldLink RX6 18 "AskBack$Script" "keyRanks" "[I" ∈ wsL_law := inr_4 _ (List.mem_of_getElem? (i := 10) rfl)
theorem dX6_init_29 : decode cX6_init 29 = .ok (.aload_n 0, 1) := by decide +kernel
theorem dX6_init_30 : decode cX6_init 30 = .ok (.bipush 12, 2) := by decide +kernel
theorem dX6_init_32 : decode cX6_init 32 = .ok (.newarray .int, 2) := by decide +kernel
theorem dX6_init_34 : decode cX6_init 34 = .ok (.putfield 22, 3) := by decide +kernel
theorem mw_83 : Cond.fieldLink RX6 22 "AskBack$Script" "keyStarts" "[I" ∈ wsL_law := inr_4 _ (List.mem_of_getElem? (i := 11) rfl)
theorem dX6_init_37 : decode cX6_init 37 = .ok (.aload_n 0, 1) := by decide +kernel
theorem dX6_init_38 : decode cX6_init 38 = .ok (.bipush 12, 2) := by decide +kernel
theorem dX6_init_40 : decode cX6_init 40 = .ok (.newarray .int, 2) := by decide +kernel
theorem dX6_init_42 : decode cX6_init 42 = .ok (.putfield 25, 3) := by decide +kernel
theorem mw_84 : Cond.fieldLink RX6 25 "AskBack$Script" "keyEnds" "[I" ∈ wsL_law := inr_4 _ (List.mem_of_getElem? (i := 12) rfl)
theorem dX6_init_45 : decode cX6_init 45 = .ok (.aload_n 0, 1) := by decide +kernel
theorem dX6_init_46 : decode cX6_init 46 = .ok (.bipush 12, 2) := by decide +kernel
theorem dX6_init_48 : decode cX6_init 48 = .ok (.newarray .long, 2) := by decide +kernel
theorem dX6_init_50 : decode cX6_init 50 = .ok (.putfield 28, 3) := by decide +kernel
theorem mw_85 : Cond.fieldLink RX6 28 "AskBack$Script" "turnFrom" "[J" ∈ wsL_law := inr_4 _ (List.mem_of_getElem? (i := 13) rfl)
theorem dX6_init_53 : decode cX6_init 53 = .ok (.aload_n 0, 1) := by decide +kernel
theorem dX6_init_54 : decode cX6_init 54 = .ok (.bipush 12, 2) := by decide +kernel
theorem dX6_init_56 : decode cX6_init 56 = .ok (.newarray .long, 2) := by decide +kernel
theorem dX6_init_58 : decode cX6_init 58 = .ok (.putfield 31, 3) := by decide +kernel
theorem mw_86 : Cond.fieldLink RX6 31 "AskBack$Script" "turnTo" "[J" ∈ wsL_law := inr_4 _ (List.mem_of_getElem? (i := 14) rfl)
theorem dX6_init_61 : decode cX6_init 61 = .ok (.aload_n 0, 1) := by decide +kernel
theorem dX6_init_62 : decode cX6_init 62 = .ok (.bipush 24, 2) := by decide +kernel
theorem dX6_init_64 : decode cX6_init 64 = .ok (.newarray .int, 2) := by decide +kernel
theorem dX6_init_66 : decode cX6_init 66 = .ok (.putfield 34, 3) := by decide +kernel
theorem mw_87 : Cond.fieldLink RX6 34 "AskBack$Script" "ruleKeys" "[I" ∈ wsL_law := inr_4 _ (List.mem_of_getElem? (i := 15) rfl)
theorem dX6_init_69 : decode cX6_init 69 = .ok (.aload_n 0, 1) := by decide +kernel
theorem dX6_init_70 : decode cX6_init 70 = .ok (.bipush 24, 2) := by decide +kernel
theorem dX6_init_72 : decode cX6_init 72 = .ok (.newarray .int, 2) := by decide +kernel
theorem dX6_init_74 : decode cX6_init 74 = .ok (.putfield 37, 3) := by decide +kernel
theorem mw_88 : Cond.fieldLink RX6 37 "AskBack$Script" "itemStarts" "[I" ∈ wsL_law := inr_4 _ (List.mem_of_getElem? (i := 16) rfl)
theorem dX6_init_77 : decode cX6_init 77 = .ok (.aload_n 0, 1) := by decide +kernel
theorem dX6_init_78 : decode cX6_init 78 = .ok (.bipush 24, 2) := by decide +kernel
theorem dX6_init_80 : decode cX6_init 80 = .ok (.newarray .int, 2) := by decide +kernel
theorem dX6_init_82 : decode cX6_init 82 = .ok (.putfield 40, 3) := by decide +kernel
theorem mw_89 : Cond.fieldLink RX6 40 "AskBack$Script" "itemCounts" "[I" ∈ wsL_law := inr_4 _ (List.mem_of_getElem? (i := 17) rfl)
theorem dX6_init_85 : decode cX6_init 85 = .ok (.aload_n 0, 1) := by decide +kernel
theorem dX6_init_86 : decode cX6_init 86 = .ok (.bipush 25, 2) := by decide +kernel
theorem dX6_init_88 : decode cX6_init 88 = .ok (.newarray .int, 2) := by decide +kernel
theorem dX6_init_90 : decode cX6_init 90 = .ok (.putfield 43, 3) := by decide +kernel
theorem mw_90 : Cond.fieldLink RX6 43 "AskBack$Script" "answerCounts" "[I" ∈ wsL_law := inr_4 _ (List.mem_of_getElem? (i := 18) rfl)
theorem dX6_init_93 : decode cX6_init 93 = .ok (.aload_n 0, 1) := by decide +kernel
theorem dX6_init_94 : decode cX6_init 94 = .ok (.bipush 100, 2) := by decide +kernel
theorem dX6_init_96 : decode cX6_init 96 = .ok (.newarray .int, 2) := by decide +kernel
theorem dX6_init_98 : decode cX6_init 98 = .ok (.putfield 46, 3) := by decide +kernel
theorem mw_91 : Cond.fieldLink RX6 46 "AskBack$Script" "answerStarts" "[I" ∈ wsL_law := inr_4 _ (List.mem_of_getElem? (i := 19) rfl)
theorem dX6_init_101 : decode cX6_init 101 = .ok (.aload_n 0, 1) := by decide +kernel
theorem dX6_init_102 : decode cX6_init 102 = .ok (.bipush 100, 2) := by decide +kernel
theorem dX6_init_104 : decode cX6_init 104 = .ok (.newarray .int, 2) := by decide +kernel
theorem dX6_init_106 : decode cX6_init 106 = .ok (.putfield 49, 3) := by decide +kernel
theorem mw_92 : Cond.fieldLink RX6 49 "AskBack$Script" "answerSizes" "[I" ∈ wsL_law := inr_4 _ (List.mem_of_getElem? (i := 20) rfl)
theorem dX6_init_109 : decode cX6_init 109 = .ok (.aload_n 0, 1) := by decide +kernel
theorem dX6_init_110 : decode cX6_init 110 = .ok (.bipush 100, 2) := by decide +kernel
theorem dX6_init_112 : decode cX6_init 112 = .ok (.newarray .int, 2) := by decide +kernel
theorem dX6_init_114 : decode cX6_init 114 = .ok (.putfield 52, 3) := by decide +kernel
theorem mw_93 : Cond.fieldLink RX6 52 "AskBack$Script" "answerGoes" "[I" ∈ wsL_law := inr_4 _ (List.mem_of_getElem? (i := 21) rfl)
theorem dX6_init_117 : decode cX6_init 117 = .ok (.aload_n 0, 1) := by decide +kernel
theorem dX6_init_118 : decode cX6_init 118 = .ok (.iconst 0, 1) := by decide +kernel
theorem dX6_init_119 : decode cX6_init 119 = .ok (.putfield 55, 3) := by decide +kernel
theorem mw_94 : Cond.fieldLink RX6 55 "AskBack$Script" "partCount" "I" ∈ wsL_law := inr_4 _ (List.mem_of_getElem? (i := 22) rfl)
theorem dX6_init_122 : decode cX6_init 122 = .ok (.aload_n 0, 1) := by decide +kernel
theorem dX6_init_123 : decode cX6_init 123 = .ok (.iconst 0, 1) := by decide +kernel
theorem dX6_init_124 : decode cX6_init 124 = .ok (.putfield 59, 3) := by decide +kernel
theorem mw_95 : Cond.fieldLink RX6 59 "AskBack$Script" "keyCount" "I" ∈ wsL_law := inr_4 _ (List.mem_of_getElem? (i := 23) rfl)
theorem dX6_init_127 : decode cX6_init 127 = .ok (.aload_n 0, 1) := by decide +kernel
theorem dX6_init_128 : decode cX6_init 128 = .ok (.iconst 0, 1) := by decide +kernel
theorem dX6_init_129 : decode cX6_init 129 = .ok (.putfield 62, 3) := by decide +kernel
theorem mw_96 : Cond.fieldLink RX6 62 "AskBack$Script" "turnCount" "I" ∈ wsL_law := inr_5 _ (List.mem_of_getElem? (i := 0) rfl)
theorem dX6_init_132 : decode cX6_init 132 = .ok (.aload_n 0, 1) := by decide +kernel
theorem dX6_init_133 : decode cX6_init 133 = .ok (.iconst 0, 1) := by decide +kernel
theorem dX6_init_134 : decode cX6_init 134 = .ok (.putfield 65, 3) := by decide +kernel
theorem mw_97 : Cond.fieldLink RX6 65 "AskBack$Script" "ruleCount" "I" ∈ wsL_law := inr_5 _ (List.mem_of_getElem? (i := 1) rfl)
theorem dX6_init_137 : decode cX6_init 137 = .ok (.aload_n 0, 1) := by decide +kernel
theorem dX6_init_138 : decode cX6_init 138 = .ok (.iconst 0, 1) := by decide +kernel
theorem dX6_init_139 : decode cX6_init 139 = .ok (.putfield 68, 3) := by decide +kernel
theorem mw_98 : Cond.fieldLink RX6 68 "AskBack$Script" "keepSet" "I" ∈ wsL_law := inr_5 _ (List.mem_of_getElem? (i := 2) rfl)
theorem dX6_init_142 : decode cX6_init 142 = .ok (.return_, 1) := by decide +kernel
def rowW (cy : Nat → ClassId) (q : Nat) (u : Nat → Nat) : va_W := [(q, .inr (4, [.ref ((u 0)), .int 0])), (((u 0)), .inl (cy 2, 12, .inr (.inl (fun _ => 0))))]
def scriptW (cy : Nat → ClassId) (q : Nat) (u : Nat → Nat) : va_W := [(q, .inr (6, [.ref ((u 0)), .ref ((u 1)), .ref ((u 2)), .ref ((u 3)), .ref ((u 4)), .ref ((u 5)), .ref ((u 6)), .ref ((u 7)), .ref ((u 8)), .ref ((u 9)), .ref ((u 10)), .ref ((u 11)), .ref ((u 12)), .ref ((u 13)), .int 0, .int 0, .int 0, .int 0, .int 0])), (((u 0)), .inl (cy 2, 600, .inr (.inl (fun _ => 0)))), (((u 1)), .inl (cy 2, 12, .inr (.inl (fun _ => 0)))), (((u 2)), .inl (cy 1, 12, .inl (fun _ => 0))), (((u 3)), .inl (cy 1, 12, .inl (fun _ => 0))), (((u 4)), .inl (cy 1, 12, .inl (fun _ => 0))), (((u 5)), .inl (cy 2, 12, .inr (.inl (fun _ => 0)))), (((u 6)), .inl (cy 2, 12, .inr (.inl (fun _ => 0)))), (((u 7)), .inl (cy 1, 24, .inl (fun _ => 0))), (((u 8)), .inl (cy 1, 24, .inl (fun _ => 0))), (((u 9)), .inl (cy 1, 24, .inl (fun _ => 0))), (((u 10)), .inl (cy 1, 25, .inl (fun _ => 0))), (((u 11)), .inl (cy 1, 100, .inl (fun _ => 0))), (((u 12)), .inl (cy 1, 100, .inl (fun _ => 0))), (((u 13)), .inl (cy 1, 100, .inl (fun _ => 0)))]
def trayW (cy : Nat → ClassId) (q : Nat) (u : Nat → Nat) : va_W := [(q, .inr (10, [.ref ((u 0)), .int (-1), .int 0])), (((u 0)), .inl (cy 2, 60, .inr (.inl (fun _ => 0))))]
set_option maxHeartbeats 4000000 in
set_option maxRecDepth 100000 in
theorem c_Row_init (l : Launch) (D : va_G) (cy : Nat → ClassId) (q : Nat) : ∀ sz, Met l yX4_init (Cond.code yX4_init cX4_init 1 none :: wsL_law) { frames := 1, cells := 1, slots := 12, locals := 20 } (va_Pc [.ref q] (xP D cy ([(q, .inr (4, [.null, .int 0]))]) sz)) (va_Qv (fun _ => True) (xB D (va_A ([(q, .inr (4, [.null, .int 0]))]) sz) (fun u => rowW cy q u)) (va_A ([(q, .inr (4, [.null, .int 0]))]) sz)) 1 12 (va_A ([(q, .inr (4, [.null, .int 0]))]) sz) := by
  refine x_enter (fun A => va_Qv (fun _ => True) (xB D A (fun u => rowW cy q u)) A) (by decide +kernel) rfl (Nat.le_of_ble_eq_true rfl) ?_
  intro p e s m below meth c A ls F hr hlk hin h hl
  have hl : lv_has ls 1 [(0, .ref q)] := hl
  refine lv_aload_n F.1 F.2.1 dX4_init_0 rfl (lv_at hl 0 rfl) ?_
  refine x_obj F mw_74 mw_11 mw_12 hl.1 dX4_init_1 (Nat.le_of_ble_eq_true rfl) (Nat.le_of_ble_eq_true rfl) ?_
  refine lv_aload_n F.1 F.2.1 dX4_init_4 rfl (lv_at hl 0 rfl) ?_
  refine lv_bipush (v := 12) F.1 F.2.1 dX4_init_5 (by decide) ?_
  refine x_newa (atype := .long) (ty := .long) (k := 2) (N' := 12) (a0 := (12, .inr (.inl (fun _ => 0)))) F h rfl rfl mw_64 (fun _ => rfl) (by decide) (by decide) (Nat.le_of_ble_eq_true rfl) (Nat.le_of_ble_eq_true rfl) (Nat.le_of_ble_eq_true rfl) dX4_init_7 (ws' := fun q1 => [(q, .inr (4, [.null, .int 0])), (q1, .inl (cy 2, 12, .inr (.inl (fun _ => 0))))]) (fun _ => rfl) (fun q1 H h => ?_)
  refine x_putF F h hin 0 0 inlX4 tyX4_ok nmX4 rfl (by decide) mw_75 dX4_init_9 rfl rfl rfl rfl rfl (Nat.le_of_ble_eq_true rfl) (ws' := [(q, .inr (4, [.ref q1, .int 0])), (q1, .inl (cy 2, 12, .inr (.inl (fun _ => 0))))]) rfl (fun H locs h => ?_)
  refine lv_aload_n F.1 F.2.1 dX4_init_12 rfl (lv_at hl 0 rfl) ?_
  refine lv_iconst (v := 0) F.1 F.2.1 dX4_init_13 (by decide) ?_
  refine x_put F h 0 1 inlX4 tyX4_ok nmX4 rfl (by decide) mw_76 dX4_init_14 rfl rfl rfl rfl (Nat.le_of_ble_eq_true rfl) (ws' := [(q, .inr (4, [.ref q1, .int 0])), (q1, .inl (cy 2, 12, .inr (.inl (fun _ => 0))))]) rfl (fun H locs h => ?_)
  exact x_vret F h hr hlk (fun k => ([q1] : List Nat).getD k 0) [0, 1] (trivial) (by decide +kernel) rfl (Nat.le_of_ble_eq_true rfl) (Nat.le_of_ble_eq_true rfl) dX4_init_17
set_option maxHeartbeats 4000000 in
set_option maxRecDepth 100000 in
theorem c_Tray_init (l : Launch) (D : va_G) (cy : Nat → ClassId) (q : Nat) : ∀ sz, Met l yX10_init (Cond.code yX10_init cX10_init 1 none :: wsL_law) { frames := 1, cells := 1, slots := 60, locals := 20 } (va_Pc [.ref q] (xP D cy ([(q, .inr (10, [.null, .int 0, .int 0]))]) sz)) (va_Qv (fun _ => True) (xB D (va_A ([(q, .inr (10, [.null, .int 0, .int 0]))]) sz) (fun u => trayW cy q u)) (va_A ([(q, .inr (10, [.null, .int 0, .int 0]))]) sz)) 1 60 (va_A ([(q, .inr (10, [.null, .int 0, .int 0]))]) sz) := by
  refine x_enter (fun A => va_Qv (fun _ => True) (xB D A (fun u => trayW cy q u)) A) (by decide +kernel) rfl (Nat.le_of_ble_eq_true rfl) ?_
  intro p e s m below meth c A ls F hr hlk hin h hl
  have hl : lv_has ls 1 [(0, .ref q)] := hl
  refine lv_aload_n F.1 F.2.1 dX10_init_0 rfl (lv_at hl 0 rfl) ?_
  refine x_obj F mw_194 mw_11 mw_12 hl.1 dX10_init_1 (Nat.le_of_ble_eq_true rfl) (Nat.le_of_ble_eq_true rfl) ?_
  refine lv_aload_n F.1 F.2.1 dX10_init_4 rfl (lv_at hl 0 rfl) ?_
  refine lv_bipush (v := 60) F.1 F.2.1 dX10_init_5 (by decide) ?_
  refine x_newa (atype := .long) (ty := .long) (k := 2) (N' := 60) (a0 := (60, .inr (.inl (fun _ => 0)))) F h rfl rfl mw_64 (fun _ => rfl) (by decide) (by decide) (Nat.le_of_ble_eq_true rfl) (Nat.le_of_ble_eq_true rfl) (Nat.le_of_ble_eq_true rfl) dX10_init_7 (ws' := fun q1 => [(q, .inr (10, [.null, .int 0, .int 0])), (q1, .inl (cy 2, 60, .inr (.inl (fun _ => 0))))]) (fun _ => rfl) (fun q1 H h => ?_)
  refine x_putF F h hin 0 0 inlX10 tyX10_ok nmX10 rfl (by decide) mw_195 dX10_init_9 rfl rfl rfl rfl rfl (Nat.le_of_ble_eq_true rfl) (ws' := [(q, .inr (10, [.ref q1, .int 0, .int 0])), (q1, .inl (cy 2, 60, .inr (.inl (fun _ => 0))))]) rfl (fun H locs h => ?_)
  refine lv_aload_n F.1 F.2.1 dX10_init_12 rfl (lv_at hl 0 rfl) ?_
  refine lv_iconst (v := (-1)) F.1 F.2.1 dX10_init_13 (by decide) ?_
  refine x_put F h 0 1 inlX10 tyX10_ok nmX10 rfl (by decide) mw_196 dX10_init_14 rfl rfl rfl rfl (Nat.le_of_ble_eq_true rfl) (ws' := [(q, .inr (10, [.ref q1, .int (-1), .int 0])), (q1, .inl (cy 2, 60, .inr (.inl (fun _ => 0))))]) rfl (fun H locs h => ?_)
  refine lv_aload_n F.1 F.2.1 dX10_init_17 rfl (lv_at hl 0 rfl) ?_
  refine lv_iconst (v := 0) F.1 F.2.1 dX10_init_18 (by decide) ?_
  refine x_put F h 0 2 inlX10 tyX10_ok nmX10 rfl (by decide) mw_197 dX10_init_19 rfl rfl rfl rfl (Nat.le_of_ble_eq_true rfl) (ws' := [(q, .inr (10, [.ref q1, .int (-1), .int 0])), (q1, .inl (cy 2, 60, .inr (.inl (fun _ => 0))))]) rfl (fun H locs h => ?_)
  exact x_vret F h hr hlk (fun k => ([q1] : List Nat).getD k 0) [0, 1] (trivial) (by decide +kernel) rfl (Nat.le_of_ble_eq_true rfl) (Nat.le_of_ble_eq_true rfl) dX10_init_22
set_option maxHeartbeats 4000000 in
set_option maxRecDepth 100000 in
theorem c_Script_init (l : Launch) (D : va_G) (cy : Nat → ClassId) (q : Nat) : ∀ sz, Met l yX6_init (Cond.code yX6_init cX6_init 1 none :: wsL_law) { frames := 1, cells := 14, slots := 1069, locals := 20 } (va_Pc [.ref q] (xP D cy ([(q, .inr (6, [.null, .null, .null, .null, .null, .null, .null, .null, .null, .null, .null, .null, .null, .null, .int 0, .int 0, .int 0, .int 0, .int 0]))]) sz)) (va_Qv (fun _ => True) (xB D (va_A ([(q, .inr (6, [.null, .null, .null, .null, .null, .null, .null, .null, .null, .null, .null, .null, .null, .null, .int 0, .int 0, .int 0, .int 0, .int 0]))]) sz) (fun u => scriptW cy q u)) (va_A ([(q, .inr (6, [.null, .null, .null, .null, .null, .null, .null, .null, .null, .null, .null, .null, .null, .null, .int 0, .int 0, .int 0, .int 0, .int 0]))]) sz)) 14 1069 (va_A ([(q, .inr (6, [.null, .null, .null, .null, .null, .null, .null, .null, .null, .null, .null, .null, .null, .null, .int 0, .int 0, .int 0, .int 0, .int 0]))]) sz) := by
  refine x_enter (fun A => va_Qv (fun _ => True) (xB D A (fun u => scriptW cy q u)) A) (by decide +kernel) rfl (Nat.le_of_ble_eq_true rfl) ?_
  intro p e s m below meth c A ls F hr hlk hin h hl
  have hl : lv_has ls 1 [(0, .ref q)] := hl
  refine lv_aload_n F.1 F.2.1 dX6_init_0 rfl (lv_at hl 0 rfl) ?_
  refine x_obj F mw_79 mw_11 mw_12 hl.1 dX6_init_1 (Nat.le_of_ble_eq_true rfl) (Nat.le_of_ble_eq_true rfl) ?_
  refine lv_aload_n F.1 F.2.1 dX6_init_4 rfl (lv_at hl 0 rfl) ?_
  refine lv_sipush (v := 600) F.1 F.2.1 dX6_init_5 (by decide) ?_
  refine x_newa (atype := .long) (ty := .long) (k := 2) (N' := 600) (a0 := (600, .inr (.inl (fun _ => 0)))) F h rfl rfl mw_64 (fun _ => rfl) (by decide) (by decide) (Nat.le_of_ble_eq_true rfl) (Nat.le_of_ble_eq_true rfl) (Nat.le_of_ble_eq_true rfl) dX6_init_8 (ws' := fun q1 => [(q, .inr (6, [.null, .null, .null, .null, .null, .null, .null, .null, .null, .null, .null, .null, .null, .null, .int 0, .int 0, .int 0, .int 0, .int 0])), (q1, .inl (cy 2, 600, .inr (.inl (fun _ => 0))))]) (fun _ => rfl) (fun q1 H h => ?_)
  refine x_putF F h hin 0 0 inlX6 tyX6_ok nmX6 rfl (by decide) mw_80 dX6_init_10 rfl rfl rfl rfl rfl (Nat.le_of_ble_eq_true rfl) (ws' := [(q, .inr (6, [.ref q1, .null, .null, .null, .null, .null, .null, .null, .null, .null, .null, .null, .null, .null, .int 0, .int 0, .int 0, .int 0, .int 0])), (q1, .inl (cy 2, 600, .inr (.inl (fun _ => 0))))]) rfl (fun H locs h => ?_)
  refine lv_aload_n F.1 F.2.1 dX6_init_13 rfl (lv_at hl 0 rfl) ?_
  refine lv_bipush (v := 12) F.1 F.2.1 dX6_init_14 (by decide) ?_
  refine x_newa (atype := .long) (ty := .long) (k := 2) (N' := 12) (a0 := (12, .inr (.inl (fun _ => 0)))) F h rfl rfl mw_64 (fun _ => rfl) (by decide) (by decide) (Nat.le_of_ble_eq_true rfl) (Nat.le_of_ble_eq_true rfl) (Nat.le_of_ble_eq_true rfl) dX6_init_16 (ws' := fun q2 => [(q, .inr (6, [.ref q1, .null, .null, .null, .null, .null, .null, .null, .null, .null, .null, .null, .null, .null, .int 0, .int 0, .int 0, .int 0, .int 0])), (q1, .inl (cy 2, 600, .inr (.inl (fun _ => 0)))), (q2, .inl (cy 2, 12, .inr (.inl (fun _ => 0))))]) (fun _ => rfl) (fun q2 H h => ?_)
  refine x_putF F h hin 0 1 inlX6 tyX6_ok nmX6 rfl (by decide) mw_81 dX6_init_18 rfl rfl rfl rfl rfl (Nat.le_of_ble_eq_true rfl) (ws' := [(q, .inr (6, [.ref q1, .ref q2, .null, .null, .null, .null, .null, .null, .null, .null, .null, .null, .null, .null, .int 0, .int 0, .int 0, .int 0, .int 0])), (q1, .inl (cy 2, 600, .inr (.inl (fun _ => 0)))), (q2, .inl (cy 2, 12, .inr (.inl (fun _ => 0))))]) rfl (fun H locs h => ?_)
  refine lv_aload_n F.1 F.2.1 dX6_init_21 rfl (lv_at hl 0 rfl) ?_
  refine lv_bipush (v := 12) F.1 F.2.1 dX6_init_22 (by decide) ?_
  refine x_newa (atype := .int) (ty := .int) (k := 1) (N' := 12) (a0 := (12, .inl (fun _ => 0))) F h rfl rfl mw_38 (fun _ => rfl) (by decide) (by decide) (Nat.le_of_ble_eq_true rfl) (Nat.le_of_ble_eq_true rfl) (Nat.le_of_ble_eq_true rfl) dX6_init_24 (ws' := fun q3 => [(q, .inr (6, [.ref q1, .ref q2, .null, .null, .null, .null, .null, .null, .null, .null, .null, .null, .null, .null, .int 0, .int 0, .int 0, .int 0, .int 0])), (q1, .inl (cy 2, 600, .inr (.inl (fun _ => 0)))), (q2, .inl (cy 2, 12, .inr (.inl (fun _ => 0)))), (q3, .inl (cy 1, 12, .inl (fun _ => 0)))]) (fun _ => rfl) (fun q3 H h => ?_)
  refine x_putF F h hin 0 2 inlX6 tyX6_ok nmX6 rfl (by decide) mw_82 dX6_init_26 rfl rfl rfl rfl rfl (Nat.le_of_ble_eq_true rfl) (ws' := [(q, .inr (6, [.ref q1, .ref q2, .ref q3, .null, .null, .null, .null, .null, .null, .null, .null, .null, .null, .null, .int 0, .int 0, .int 0, .int 0, .int 0])), (q1, .inl (cy 2, 600, .inr (.inl (fun _ => 0)))), (q2, .inl (cy 2, 12, .inr (.inl (fun _ => 0)))), (q3, .inl (cy 1, 12, .inl (fun _ => 0)))]) rfl (fun H locs h => ?_)
  refine lv_aload_n F.1 F.2.1 dX6_init_29 rfl (lv_at hl 0 rfl) ?_
  refine lv_bipush (v := 12) F.1 F.2.1 dX6_init_30 (by decide) ?_
  refine x_newa (atype := .int) (ty := .int) (k := 1) (N' := 12) (a0 := (12, .inl (fun _ => 0))) F h rfl rfl mw_38 (fun _ => rfl) (by decide) (by decide) (Nat.le_of_ble_eq_true rfl) (Nat.le_of_ble_eq_true rfl) (Nat.le_of_ble_eq_true rfl) dX6_init_32 (ws' := fun q4 => [(q, .inr (6, [.ref q1, .ref q2, .ref q3, .null, .null, .null, .null, .null, .null, .null, .null, .null, .null, .null, .int 0, .int 0, .int 0, .int 0, .int 0])), (q1, .inl (cy 2, 600, .inr (.inl (fun _ => 0)))), (q2, .inl (cy 2, 12, .inr (.inl (fun _ => 0)))), (q3, .inl (cy 1, 12, .inl (fun _ => 0))), (q4, .inl (cy 1, 12, .inl (fun _ => 0)))]) (fun _ => rfl) (fun q4 H h => ?_)
  refine x_putF F h hin 0 3 inlX6 tyX6_ok nmX6 rfl (by decide) mw_83 dX6_init_34 rfl rfl rfl rfl rfl (Nat.le_of_ble_eq_true rfl) (ws' := [(q, .inr (6, [.ref q1, .ref q2, .ref q3, .ref q4, .null, .null, .null, .null, .null, .null, .null, .null, .null, .null, .int 0, .int 0, .int 0, .int 0, .int 0])), (q1, .inl (cy 2, 600, .inr (.inl (fun _ => 0)))), (q2, .inl (cy 2, 12, .inr (.inl (fun _ => 0)))), (q3, .inl (cy 1, 12, .inl (fun _ => 0))), (q4, .inl (cy 1, 12, .inl (fun _ => 0)))]) rfl (fun H locs h => ?_)
  refine lv_aload_n F.1 F.2.1 dX6_init_37 rfl (lv_at hl 0 rfl) ?_
  refine lv_bipush (v := 12) F.1 F.2.1 dX6_init_38 (by decide) ?_
  refine x_newa (atype := .int) (ty := .int) (k := 1) (N' := 12) (a0 := (12, .inl (fun _ => 0))) F h rfl rfl mw_38 (fun _ => rfl) (by decide) (by decide) (Nat.le_of_ble_eq_true rfl) (Nat.le_of_ble_eq_true rfl) (Nat.le_of_ble_eq_true rfl) dX6_init_40 (ws' := fun q5 => [(q, .inr (6, [.ref q1, .ref q2, .ref q3, .ref q4, .null, .null, .null, .null, .null, .null, .null, .null, .null, .null, .int 0, .int 0, .int 0, .int 0, .int 0])), (q1, .inl (cy 2, 600, .inr (.inl (fun _ => 0)))), (q2, .inl (cy 2, 12, .inr (.inl (fun _ => 0)))), (q3, .inl (cy 1, 12, .inl (fun _ => 0))), (q4, .inl (cy 1, 12, .inl (fun _ => 0))), (q5, .inl (cy 1, 12, .inl (fun _ => 0)))]) (fun _ => rfl) (fun q5 H h => ?_)
  refine x_putF F h hin 0 4 inlX6 tyX6_ok nmX6 rfl (by decide) mw_84 dX6_init_42 rfl rfl rfl rfl rfl (Nat.le_of_ble_eq_true rfl) (ws' := [(q, .inr (6, [.ref q1, .ref q2, .ref q3, .ref q4, .ref q5, .null, .null, .null, .null, .null, .null, .null, .null, .null, .int 0, .int 0, .int 0, .int 0, .int 0])), (q1, .inl (cy 2, 600, .inr (.inl (fun _ => 0)))), (q2, .inl (cy 2, 12, .inr (.inl (fun _ => 0)))), (q3, .inl (cy 1, 12, .inl (fun _ => 0))), (q4, .inl (cy 1, 12, .inl (fun _ => 0))), (q5, .inl (cy 1, 12, .inl (fun _ => 0)))]) rfl (fun H locs h => ?_)
  refine lv_aload_n F.1 F.2.1 dX6_init_45 rfl (lv_at hl 0 rfl) ?_
  refine lv_bipush (v := 12) F.1 F.2.1 dX6_init_46 (by decide) ?_
  refine x_newa (atype := .long) (ty := .long) (k := 2) (N' := 12) (a0 := (12, .inr (.inl (fun _ => 0)))) F h rfl rfl mw_64 (fun _ => rfl) (by decide) (by decide) (Nat.le_of_ble_eq_true rfl) (Nat.le_of_ble_eq_true rfl) (Nat.le_of_ble_eq_true rfl) dX6_init_48 (ws' := fun q6 => [(q, .inr (6, [.ref q1, .ref q2, .ref q3, .ref q4, .ref q5, .null, .null, .null, .null, .null, .null, .null, .null, .null, .int 0, .int 0, .int 0, .int 0, .int 0])), (q1, .inl (cy 2, 600, .inr (.inl (fun _ => 0)))), (q2, .inl (cy 2, 12, .inr (.inl (fun _ => 0)))), (q3, .inl (cy 1, 12, .inl (fun _ => 0))), (q4, .inl (cy 1, 12, .inl (fun _ => 0))), (q5, .inl (cy 1, 12, .inl (fun _ => 0))), (q6, .inl (cy 2, 12, .inr (.inl (fun _ => 0))))]) (fun _ => rfl) (fun q6 H h => ?_)
  refine x_putF F h hin 0 5 inlX6 tyX6_ok nmX6 rfl (by decide) mw_85 dX6_init_50 rfl rfl rfl rfl rfl (Nat.le_of_ble_eq_true rfl) (ws' := [(q, .inr (6, [.ref q1, .ref q2, .ref q3, .ref q4, .ref q5, .ref q6, .null, .null, .null, .null, .null, .null, .null, .null, .int 0, .int 0, .int 0, .int 0, .int 0])), (q1, .inl (cy 2, 600, .inr (.inl (fun _ => 0)))), (q2, .inl (cy 2, 12, .inr (.inl (fun _ => 0)))), (q3, .inl (cy 1, 12, .inl (fun _ => 0))), (q4, .inl (cy 1, 12, .inl (fun _ => 0))), (q5, .inl (cy 1, 12, .inl (fun _ => 0))), (q6, .inl (cy 2, 12, .inr (.inl (fun _ => 0))))]) rfl (fun H locs h => ?_)
  refine lv_aload_n F.1 F.2.1 dX6_init_53 rfl (lv_at hl 0 rfl) ?_
  refine lv_bipush (v := 12) F.1 F.2.1 dX6_init_54 (by decide) ?_
  refine x_newa (atype := .long) (ty := .long) (k := 2) (N' := 12) (a0 := (12, .inr (.inl (fun _ => 0)))) F h rfl rfl mw_64 (fun _ => rfl) (by decide) (by decide) (Nat.le_of_ble_eq_true rfl) (Nat.le_of_ble_eq_true rfl) (Nat.le_of_ble_eq_true rfl) dX6_init_56 (ws' := fun q7 => [(q, .inr (6, [.ref q1, .ref q2, .ref q3, .ref q4, .ref q5, .ref q6, .null, .null, .null, .null, .null, .null, .null, .null, .int 0, .int 0, .int 0, .int 0, .int 0])), (q1, .inl (cy 2, 600, .inr (.inl (fun _ => 0)))), (q2, .inl (cy 2, 12, .inr (.inl (fun _ => 0)))), (q3, .inl (cy 1, 12, .inl (fun _ => 0))), (q4, .inl (cy 1, 12, .inl (fun _ => 0))), (q5, .inl (cy 1, 12, .inl (fun _ => 0))), (q6, .inl (cy 2, 12, .inr (.inl (fun _ => 0)))), (q7, .inl (cy 2, 12, .inr (.inl (fun _ => 0))))]) (fun _ => rfl) (fun q7 H h => ?_)
  refine x_putF F h hin 0 6 inlX6 tyX6_ok nmX6 rfl (by decide) mw_86 dX6_init_58 rfl rfl rfl rfl rfl (Nat.le_of_ble_eq_true rfl) (ws' := [(q, .inr (6, [.ref q1, .ref q2, .ref q3, .ref q4, .ref q5, .ref q6, .ref q7, .null, .null, .null, .null, .null, .null, .null, .int 0, .int 0, .int 0, .int 0, .int 0])), (q1, .inl (cy 2, 600, .inr (.inl (fun _ => 0)))), (q2, .inl (cy 2, 12, .inr (.inl (fun _ => 0)))), (q3, .inl (cy 1, 12, .inl (fun _ => 0))), (q4, .inl (cy 1, 12, .inl (fun _ => 0))), (q5, .inl (cy 1, 12, .inl (fun _ => 0))), (q6, .inl (cy 2, 12, .inr (.inl (fun _ => 0)))), (q7, .inl (cy 2, 12, .inr (.inl (fun _ => 0))))]) rfl (fun H locs h => ?_)
  refine lv_aload_n F.1 F.2.1 dX6_init_61 rfl (lv_at hl 0 rfl) ?_
  refine lv_bipush (v := 24) F.1 F.2.1 dX6_init_62 (by decide) ?_
  refine x_newa (atype := .int) (ty := .int) (k := 1) (N' := 24) (a0 := (24, .inl (fun _ => 0))) F h rfl rfl mw_38 (fun _ => rfl) (by decide) (by decide) (Nat.le_of_ble_eq_true rfl) (Nat.le_of_ble_eq_true rfl) (Nat.le_of_ble_eq_true rfl) dX6_init_64 (ws' := fun q8 => [(q, .inr (6, [.ref q1, .ref q2, .ref q3, .ref q4, .ref q5, .ref q6, .ref q7, .null, .null, .null, .null, .null, .null, .null, .int 0, .int 0, .int 0, .int 0, .int 0])), (q1, .inl (cy 2, 600, .inr (.inl (fun _ => 0)))), (q2, .inl (cy 2, 12, .inr (.inl (fun _ => 0)))), (q3, .inl (cy 1, 12, .inl (fun _ => 0))), (q4, .inl (cy 1, 12, .inl (fun _ => 0))), (q5, .inl (cy 1, 12, .inl (fun _ => 0))), (q6, .inl (cy 2, 12, .inr (.inl (fun _ => 0)))), (q7, .inl (cy 2, 12, .inr (.inl (fun _ => 0)))), (q8, .inl (cy 1, 24, .inl (fun _ => 0)))]) (fun _ => rfl) (fun q8 H h => ?_)
  refine x_putF F h hin 0 7 inlX6 tyX6_ok nmX6 rfl (by decide) mw_87 dX6_init_66 rfl rfl rfl rfl rfl (Nat.le_of_ble_eq_true rfl) (ws' := [(q, .inr (6, [.ref q1, .ref q2, .ref q3, .ref q4, .ref q5, .ref q6, .ref q7, .ref q8, .null, .null, .null, .null, .null, .null, .int 0, .int 0, .int 0, .int 0, .int 0])), (q1, .inl (cy 2, 600, .inr (.inl (fun _ => 0)))), (q2, .inl (cy 2, 12, .inr (.inl (fun _ => 0)))), (q3, .inl (cy 1, 12, .inl (fun _ => 0))), (q4, .inl (cy 1, 12, .inl (fun _ => 0))), (q5, .inl (cy 1, 12, .inl (fun _ => 0))), (q6, .inl (cy 2, 12, .inr (.inl (fun _ => 0)))), (q7, .inl (cy 2, 12, .inr (.inl (fun _ => 0)))), (q8, .inl (cy 1, 24, .inl (fun _ => 0)))]) rfl (fun H locs h => ?_)
  refine lv_aload_n F.1 F.2.1 dX6_init_69 rfl (lv_at hl 0 rfl) ?_
  refine lv_bipush (v := 24) F.1 F.2.1 dX6_init_70 (by decide) ?_
  refine x_newa (atype := .int) (ty := .int) (k := 1) (N' := 24) (a0 := (24, .inl (fun _ => 0))) F h rfl rfl mw_38 (fun _ => rfl) (by decide) (by decide) (Nat.le_of_ble_eq_true rfl) (Nat.le_of_ble_eq_true rfl) (Nat.le_of_ble_eq_true rfl) dX6_init_72 (ws' := fun q9 => [(q, .inr (6, [.ref q1, .ref q2, .ref q3, .ref q4, .ref q5, .ref q6, .ref q7, .ref q8, .null, .null, .null, .null, .null, .null, .int 0, .int 0, .int 0, .int 0, .int 0])), (q1, .inl (cy 2, 600, .inr (.inl (fun _ => 0)))), (q2, .inl (cy 2, 12, .inr (.inl (fun _ => 0)))), (q3, .inl (cy 1, 12, .inl (fun _ => 0))), (q4, .inl (cy 1, 12, .inl (fun _ => 0))), (q5, .inl (cy 1, 12, .inl (fun _ => 0))), (q6, .inl (cy 2, 12, .inr (.inl (fun _ => 0)))), (q7, .inl (cy 2, 12, .inr (.inl (fun _ => 0)))), (q8, .inl (cy 1, 24, .inl (fun _ => 0))), (q9, .inl (cy 1, 24, .inl (fun _ => 0)))]) (fun _ => rfl) (fun q9 H h => ?_)
  refine x_putF F h hin 0 8 inlX6 tyX6_ok nmX6 rfl (by decide) mw_88 dX6_init_74 rfl rfl rfl rfl rfl (Nat.le_of_ble_eq_true rfl) (ws' := [(q, .inr (6, [.ref q1, .ref q2, .ref q3, .ref q4, .ref q5, .ref q6, .ref q7, .ref q8, .ref q9, .null, .null, .null, .null, .null, .int 0, .int 0, .int 0, .int 0, .int 0])), (q1, .inl (cy 2, 600, .inr (.inl (fun _ => 0)))), (q2, .inl (cy 2, 12, .inr (.inl (fun _ => 0)))), (q3, .inl (cy 1, 12, .inl (fun _ => 0))), (q4, .inl (cy 1, 12, .inl (fun _ => 0))), (q5, .inl (cy 1, 12, .inl (fun _ => 0))), (q6, .inl (cy 2, 12, .inr (.inl (fun _ => 0)))), (q7, .inl (cy 2, 12, .inr (.inl (fun _ => 0)))), (q8, .inl (cy 1, 24, .inl (fun _ => 0))), (q9, .inl (cy 1, 24, .inl (fun _ => 0)))]) rfl (fun H locs h => ?_)
  refine lv_aload_n F.1 F.2.1 dX6_init_77 rfl (lv_at hl 0 rfl) ?_
  refine lv_bipush (v := 24) F.1 F.2.1 dX6_init_78 (by decide) ?_
  refine x_newa (atype := .int) (ty := .int) (k := 1) (N' := 24) (a0 := (24, .inl (fun _ => 0))) F h rfl rfl mw_38 (fun _ => rfl) (by decide) (by decide) (Nat.le_of_ble_eq_true rfl) (Nat.le_of_ble_eq_true rfl) (Nat.le_of_ble_eq_true rfl) dX6_init_80 (ws' := fun q10 => [(q, .inr (6, [.ref q1, .ref q2, .ref q3, .ref q4, .ref q5, .ref q6, .ref q7, .ref q8, .ref q9, .null, .null, .null, .null, .null, .int 0, .int 0, .int 0, .int 0, .int 0])), (q1, .inl (cy 2, 600, .inr (.inl (fun _ => 0)))), (q2, .inl (cy 2, 12, .inr (.inl (fun _ => 0)))), (q3, .inl (cy 1, 12, .inl (fun _ => 0))), (q4, .inl (cy 1, 12, .inl (fun _ => 0))), (q5, .inl (cy 1, 12, .inl (fun _ => 0))), (q6, .inl (cy 2, 12, .inr (.inl (fun _ => 0)))), (q7, .inl (cy 2, 12, .inr (.inl (fun _ => 0)))), (q8, .inl (cy 1, 24, .inl (fun _ => 0))), (q9, .inl (cy 1, 24, .inl (fun _ => 0))), (q10, .inl (cy 1, 24, .inl (fun _ => 0)))]) (fun _ => rfl) (fun q10 H h => ?_)
  refine x_putF F h hin 0 9 inlX6 tyX6_ok nmX6 rfl (by decide) mw_89 dX6_init_82 rfl rfl rfl rfl rfl (Nat.le_of_ble_eq_true rfl) (ws' := [(q, .inr (6, [.ref q1, .ref q2, .ref q3, .ref q4, .ref q5, .ref q6, .ref q7, .ref q8, .ref q9, .ref q10, .null, .null, .null, .null, .int 0, .int 0, .int 0, .int 0, .int 0])), (q1, .inl (cy 2, 600, .inr (.inl (fun _ => 0)))), (q2, .inl (cy 2, 12, .inr (.inl (fun _ => 0)))), (q3, .inl (cy 1, 12, .inl (fun _ => 0))), (q4, .inl (cy 1, 12, .inl (fun _ => 0))), (q5, .inl (cy 1, 12, .inl (fun _ => 0))), (q6, .inl (cy 2, 12, .inr (.inl (fun _ => 0)))), (q7, .inl (cy 2, 12, .inr (.inl (fun _ => 0)))), (q8, .inl (cy 1, 24, .inl (fun _ => 0))), (q9, .inl (cy 1, 24, .inl (fun _ => 0))), (q10, .inl (cy 1, 24, .inl (fun _ => 0)))]) rfl (fun H locs h => ?_)
  refine lv_aload_n F.1 F.2.1 dX6_init_85 rfl (lv_at hl 0 rfl) ?_
  refine lv_bipush (v := 25) F.1 F.2.1 dX6_init_86 (by decide) ?_
  refine x_newa (atype := .int) (ty := .int) (k := 1) (N' := 25) (a0 := (25, .inl (fun _ => 0))) F h rfl rfl mw_38 (fun _ => rfl) (by decide) (by decide) (Nat.le_of_ble_eq_true rfl) (Nat.le_of_ble_eq_true rfl) (Nat.le_of_ble_eq_true rfl) dX6_init_88 (ws' := fun q11 => [(q, .inr (6, [.ref q1, .ref q2, .ref q3, .ref q4, .ref q5, .ref q6, .ref q7, .ref q8, .ref q9, .ref q10, .null, .null, .null, .null, .int 0, .int 0, .int 0, .int 0, .int 0])), (q1, .inl (cy 2, 600, .inr (.inl (fun _ => 0)))), (q2, .inl (cy 2, 12, .inr (.inl (fun _ => 0)))), (q3, .inl (cy 1, 12, .inl (fun _ => 0))), (q4, .inl (cy 1, 12, .inl (fun _ => 0))), (q5, .inl (cy 1, 12, .inl (fun _ => 0))), (q6, .inl (cy 2, 12, .inr (.inl (fun _ => 0)))), (q7, .inl (cy 2, 12, .inr (.inl (fun _ => 0)))), (q8, .inl (cy 1, 24, .inl (fun _ => 0))), (q9, .inl (cy 1, 24, .inl (fun _ => 0))), (q10, .inl (cy 1, 24, .inl (fun _ => 0))), (q11, .inl (cy 1, 25, .inl (fun _ => 0)))]) (fun _ => rfl) (fun q11 H h => ?_)
  refine x_putF F h hin 0 10 inlX6 tyX6_ok nmX6 rfl (by decide) mw_90 dX6_init_90 rfl rfl rfl rfl rfl (Nat.le_of_ble_eq_true rfl) (ws' := [(q, .inr (6, [.ref q1, .ref q2, .ref q3, .ref q4, .ref q5, .ref q6, .ref q7, .ref q8, .ref q9, .ref q10, .ref q11, .null, .null, .null, .int 0, .int 0, .int 0, .int 0, .int 0])), (q1, .inl (cy 2, 600, .inr (.inl (fun _ => 0)))), (q2, .inl (cy 2, 12, .inr (.inl (fun _ => 0)))), (q3, .inl (cy 1, 12, .inl (fun _ => 0))), (q4, .inl (cy 1, 12, .inl (fun _ => 0))), (q5, .inl (cy 1, 12, .inl (fun _ => 0))), (q6, .inl (cy 2, 12, .inr (.inl (fun _ => 0)))), (q7, .inl (cy 2, 12, .inr (.inl (fun _ => 0)))), (q8, .inl (cy 1, 24, .inl (fun _ => 0))), (q9, .inl (cy 1, 24, .inl (fun _ => 0))), (q10, .inl (cy 1, 24, .inl (fun _ => 0))), (q11, .inl (cy 1, 25, .inl (fun _ => 0)))]) rfl (fun H locs h => ?_)
  refine lv_aload_n F.1 F.2.1 dX6_init_93 rfl (lv_at hl 0 rfl) ?_
  refine lv_bipush (v := 100) F.1 F.2.1 dX6_init_94 (by decide) ?_
  refine x_newa (atype := .int) (ty := .int) (k := 1) (N' := 100) (a0 := (100, .inl (fun _ => 0))) F h rfl rfl mw_38 (fun _ => rfl) (by decide) (by decide) (Nat.le_of_ble_eq_true rfl) (Nat.le_of_ble_eq_true rfl) (Nat.le_of_ble_eq_true rfl) dX6_init_96 (ws' := fun q12 => [(q, .inr (6, [.ref q1, .ref q2, .ref q3, .ref q4, .ref q5, .ref q6, .ref q7, .ref q8, .ref q9, .ref q10, .ref q11, .null, .null, .null, .int 0, .int 0, .int 0, .int 0, .int 0])), (q1, .inl (cy 2, 600, .inr (.inl (fun _ => 0)))), (q2, .inl (cy 2, 12, .inr (.inl (fun _ => 0)))), (q3, .inl (cy 1, 12, .inl (fun _ => 0))), (q4, .inl (cy 1, 12, .inl (fun _ => 0))), (q5, .inl (cy 1, 12, .inl (fun _ => 0))), (q6, .inl (cy 2, 12, .inr (.inl (fun _ => 0)))), (q7, .inl (cy 2, 12, .inr (.inl (fun _ => 0)))), (q8, .inl (cy 1, 24, .inl (fun _ => 0))), (q9, .inl (cy 1, 24, .inl (fun _ => 0))), (q10, .inl (cy 1, 24, .inl (fun _ => 0))), (q11, .inl (cy 1, 25, .inl (fun _ => 0))), (q12, .inl (cy 1, 100, .inl (fun _ => 0)))]) (fun _ => rfl) (fun q12 H h => ?_)
  refine x_putF F h hin 0 11 inlX6 tyX6_ok nmX6 rfl (by decide) mw_91 dX6_init_98 rfl rfl rfl rfl rfl (Nat.le_of_ble_eq_true rfl) (ws' := [(q, .inr (6, [.ref q1, .ref q2, .ref q3, .ref q4, .ref q5, .ref q6, .ref q7, .ref q8, .ref q9, .ref q10, .ref q11, .ref q12, .null, .null, .int 0, .int 0, .int 0, .int 0, .int 0])), (q1, .inl (cy 2, 600, .inr (.inl (fun _ => 0)))), (q2, .inl (cy 2, 12, .inr (.inl (fun _ => 0)))), (q3, .inl (cy 1, 12, .inl (fun _ => 0))), (q4, .inl (cy 1, 12, .inl (fun _ => 0))), (q5, .inl (cy 1, 12, .inl (fun _ => 0))), (q6, .inl (cy 2, 12, .inr (.inl (fun _ => 0)))), (q7, .inl (cy 2, 12, .inr (.inl (fun _ => 0)))), (q8, .inl (cy 1, 24, .inl (fun _ => 0))), (q9, .inl (cy 1, 24, .inl (fun _ => 0))), (q10, .inl (cy 1, 24, .inl (fun _ => 0))), (q11, .inl (cy 1, 25, .inl (fun _ => 0))), (q12, .inl (cy 1, 100, .inl (fun _ => 0)))]) rfl (fun H locs h => ?_)
  refine lv_aload_n F.1 F.2.1 dX6_init_101 rfl (lv_at hl 0 rfl) ?_
  refine lv_bipush (v := 100) F.1 F.2.1 dX6_init_102 (by decide) ?_
  refine x_newa (atype := .int) (ty := .int) (k := 1) (N' := 100) (a0 := (100, .inl (fun _ => 0))) F h rfl rfl mw_38 (fun _ => rfl) (by decide) (by decide) (Nat.le_of_ble_eq_true rfl) (Nat.le_of_ble_eq_true rfl) (Nat.le_of_ble_eq_true rfl) dX6_init_104 (ws' := fun q13 => [(q, .inr (6, [.ref q1, .ref q2, .ref q3, .ref q4, .ref q5, .ref q6, .ref q7, .ref q8, .ref q9, .ref q10, .ref q11, .ref q12, .null, .null, .int 0, .int 0, .int 0, .int 0, .int 0])), (q1, .inl (cy 2, 600, .inr (.inl (fun _ => 0)))), (q2, .inl (cy 2, 12, .inr (.inl (fun _ => 0)))), (q3, .inl (cy 1, 12, .inl (fun _ => 0))), (q4, .inl (cy 1, 12, .inl (fun _ => 0))), (q5, .inl (cy 1, 12, .inl (fun _ => 0))), (q6, .inl (cy 2, 12, .inr (.inl (fun _ => 0)))), (q7, .inl (cy 2, 12, .inr (.inl (fun _ => 0)))), (q8, .inl (cy 1, 24, .inl (fun _ => 0))), (q9, .inl (cy 1, 24, .inl (fun _ => 0))), (q10, .inl (cy 1, 24, .inl (fun _ => 0))), (q11, .inl (cy 1, 25, .inl (fun _ => 0))), (q12, .inl (cy 1, 100, .inl (fun _ => 0))), (q13, .inl (cy 1, 100, .inl (fun _ => 0)))]) (fun _ => rfl) (fun q13 H h => ?_)
  refine x_putF F h hin 0 12 inlX6 tyX6_ok nmX6 rfl (by decide) mw_92 dX6_init_106 rfl rfl rfl rfl rfl (Nat.le_of_ble_eq_true rfl) (ws' := [(q, .inr (6, [.ref q1, .ref q2, .ref q3, .ref q4, .ref q5, .ref q6, .ref q7, .ref q8, .ref q9, .ref q10, .ref q11, .ref q12, .ref q13, .null, .int 0, .int 0, .int 0, .int 0, .int 0])), (q1, .inl (cy 2, 600, .inr (.inl (fun _ => 0)))), (q2, .inl (cy 2, 12, .inr (.inl (fun _ => 0)))), (q3, .inl (cy 1, 12, .inl (fun _ => 0))), (q4, .inl (cy 1, 12, .inl (fun _ => 0))), (q5, .inl (cy 1, 12, .inl (fun _ => 0))), (q6, .inl (cy 2, 12, .inr (.inl (fun _ => 0)))), (q7, .inl (cy 2, 12, .inr (.inl (fun _ => 0)))), (q8, .inl (cy 1, 24, .inl (fun _ => 0))), (q9, .inl (cy 1, 24, .inl (fun _ => 0))), (q10, .inl (cy 1, 24, .inl (fun _ => 0))), (q11, .inl (cy 1, 25, .inl (fun _ => 0))), (q12, .inl (cy 1, 100, .inl (fun _ => 0))), (q13, .inl (cy 1, 100, .inl (fun _ => 0)))]) rfl (fun H locs h => ?_)
  refine lv_aload_n F.1 F.2.1 dX6_init_109 rfl (lv_at hl 0 rfl) ?_
  refine lv_bipush (v := 100) F.1 F.2.1 dX6_init_110 (by decide) ?_
  refine x_newa (atype := .int) (ty := .int) (k := 1) (N' := 100) (a0 := (100, .inl (fun _ => 0))) F h rfl rfl mw_38 (fun _ => rfl) (by decide) (by decide) (Nat.le_of_ble_eq_true rfl) (Nat.le_of_ble_eq_true rfl) (Nat.le_of_ble_eq_true rfl) dX6_init_112 (ws' := fun q14 => [(q, .inr (6, [.ref q1, .ref q2, .ref q3, .ref q4, .ref q5, .ref q6, .ref q7, .ref q8, .ref q9, .ref q10, .ref q11, .ref q12, .ref q13, .null, .int 0, .int 0, .int 0, .int 0, .int 0])), (q1, .inl (cy 2, 600, .inr (.inl (fun _ => 0)))), (q2, .inl (cy 2, 12, .inr (.inl (fun _ => 0)))), (q3, .inl (cy 1, 12, .inl (fun _ => 0))), (q4, .inl (cy 1, 12, .inl (fun _ => 0))), (q5, .inl (cy 1, 12, .inl (fun _ => 0))), (q6, .inl (cy 2, 12, .inr (.inl (fun _ => 0)))), (q7, .inl (cy 2, 12, .inr (.inl (fun _ => 0)))), (q8, .inl (cy 1, 24, .inl (fun _ => 0))), (q9, .inl (cy 1, 24, .inl (fun _ => 0))), (q10, .inl (cy 1, 24, .inl (fun _ => 0))), (q11, .inl (cy 1, 25, .inl (fun _ => 0))), (q12, .inl (cy 1, 100, .inl (fun _ => 0))), (q13, .inl (cy 1, 100, .inl (fun _ => 0))), (q14, .inl (cy 1, 100, .inl (fun _ => 0)))]) (fun _ => rfl) (fun q14 H h => ?_)
  refine x_putF F h hin 0 13 inlX6 tyX6_ok nmX6 rfl (by decide) mw_93 dX6_init_114 rfl rfl rfl rfl rfl (Nat.le_of_ble_eq_true rfl) (ws' := [(q, .inr (6, [.ref q1, .ref q2, .ref q3, .ref q4, .ref q5, .ref q6, .ref q7, .ref q8, .ref q9, .ref q10, .ref q11, .ref q12, .ref q13, .ref q14, .int 0, .int 0, .int 0, .int 0, .int 0])), (q1, .inl (cy 2, 600, .inr (.inl (fun _ => 0)))), (q2, .inl (cy 2, 12, .inr (.inl (fun _ => 0)))), (q3, .inl (cy 1, 12, .inl (fun _ => 0))), (q4, .inl (cy 1, 12, .inl (fun _ => 0))), (q5, .inl (cy 1, 12, .inl (fun _ => 0))), (q6, .inl (cy 2, 12, .inr (.inl (fun _ => 0)))), (q7, .inl (cy 2, 12, .inr (.inl (fun _ => 0)))), (q8, .inl (cy 1, 24, .inl (fun _ => 0))), (q9, .inl (cy 1, 24, .inl (fun _ => 0))), (q10, .inl (cy 1, 24, .inl (fun _ => 0))), (q11, .inl (cy 1, 25, .inl (fun _ => 0))), (q12, .inl (cy 1, 100, .inl (fun _ => 0))), (q13, .inl (cy 1, 100, .inl (fun _ => 0))), (q14, .inl (cy 1, 100, .inl (fun _ => 0)))]) rfl (fun H locs h => ?_)
  refine lv_aload_n F.1 F.2.1 dX6_init_117 rfl (lv_at hl 0 rfl) ?_
  refine lv_iconst (v := 0) F.1 F.2.1 dX6_init_118 (by decide) ?_
  refine x_put F h 0 14 inlX6 tyX6_ok nmX6 rfl (by decide) mw_94 dX6_init_119 rfl rfl rfl rfl (Nat.le_of_ble_eq_true rfl) (ws' := [(q, .inr (6, [.ref q1, .ref q2, .ref q3, .ref q4, .ref q5, .ref q6, .ref q7, .ref q8, .ref q9, .ref q10, .ref q11, .ref q12, .ref q13, .ref q14, .int 0, .int 0, .int 0, .int 0, .int 0])), (q1, .inl (cy 2, 600, .inr (.inl (fun _ => 0)))), (q2, .inl (cy 2, 12, .inr (.inl (fun _ => 0)))), (q3, .inl (cy 1, 12, .inl (fun _ => 0))), (q4, .inl (cy 1, 12, .inl (fun _ => 0))), (q5, .inl (cy 1, 12, .inl (fun _ => 0))), (q6, .inl (cy 2, 12, .inr (.inl (fun _ => 0)))), (q7, .inl (cy 2, 12, .inr (.inl (fun _ => 0)))), (q8, .inl (cy 1, 24, .inl (fun _ => 0))), (q9, .inl (cy 1, 24, .inl (fun _ => 0))), (q10, .inl (cy 1, 24, .inl (fun _ => 0))), (q11, .inl (cy 1, 25, .inl (fun _ => 0))), (q12, .inl (cy 1, 100, .inl (fun _ => 0))), (q13, .inl (cy 1, 100, .inl (fun _ => 0))), (q14, .inl (cy 1, 100, .inl (fun _ => 0)))]) rfl (fun H locs h => ?_)
  refine lv_aload_n F.1 F.2.1 dX6_init_122 rfl (lv_at hl 0 rfl) ?_
  refine lv_iconst (v := 0) F.1 F.2.1 dX6_init_123 (by decide) ?_
  refine x_put F h 0 15 inlX6 tyX6_ok nmX6 rfl (by decide) mw_95 dX6_init_124 rfl rfl rfl rfl (Nat.le_of_ble_eq_true rfl) (ws' := [(q, .inr (6, [.ref q1, .ref q2, .ref q3, .ref q4, .ref q5, .ref q6, .ref q7, .ref q8, .ref q9, .ref q10, .ref q11, .ref q12, .ref q13, .ref q14, .int 0, .int 0, .int 0, .int 0, .int 0])), (q1, .inl (cy 2, 600, .inr (.inl (fun _ => 0)))), (q2, .inl (cy 2, 12, .inr (.inl (fun _ => 0)))), (q3, .inl (cy 1, 12, .inl (fun _ => 0))), (q4, .inl (cy 1, 12, .inl (fun _ => 0))), (q5, .inl (cy 1, 12, .inl (fun _ => 0))), (q6, .inl (cy 2, 12, .inr (.inl (fun _ => 0)))), (q7, .inl (cy 2, 12, .inr (.inl (fun _ => 0)))), (q8, .inl (cy 1, 24, .inl (fun _ => 0))), (q9, .inl (cy 1, 24, .inl (fun _ => 0))), (q10, .inl (cy 1, 24, .inl (fun _ => 0))), (q11, .inl (cy 1, 25, .inl (fun _ => 0))), (q12, .inl (cy 1, 100, .inl (fun _ => 0))), (q13, .inl (cy 1, 100, .inl (fun _ => 0))), (q14, .inl (cy 1, 100, .inl (fun _ => 0)))]) rfl (fun H locs h => ?_)
  refine lv_aload_n F.1 F.2.1 dX6_init_127 rfl (lv_at hl 0 rfl) ?_
  refine lv_iconst (v := 0) F.1 F.2.1 dX6_init_128 (by decide) ?_
  refine x_put F h 0 16 inlX6 tyX6_ok nmX6 rfl (by decide) mw_96 dX6_init_129 rfl rfl rfl rfl (Nat.le_of_ble_eq_true rfl) (ws' := [(q, .inr (6, [.ref q1, .ref q2, .ref q3, .ref q4, .ref q5, .ref q6, .ref q7, .ref q8, .ref q9, .ref q10, .ref q11, .ref q12, .ref q13, .ref q14, .int 0, .int 0, .int 0, .int 0, .int 0])), (q1, .inl (cy 2, 600, .inr (.inl (fun _ => 0)))), (q2, .inl (cy 2, 12, .inr (.inl (fun _ => 0)))), (q3, .inl (cy 1, 12, .inl (fun _ => 0))), (q4, .inl (cy 1, 12, .inl (fun _ => 0))), (q5, .inl (cy 1, 12, .inl (fun _ => 0))), (q6, .inl (cy 2, 12, .inr (.inl (fun _ => 0)))), (q7, .inl (cy 2, 12, .inr (.inl (fun _ => 0)))), (q8, .inl (cy 1, 24, .inl (fun _ => 0))), (q9, .inl (cy 1, 24, .inl (fun _ => 0))), (q10, .inl (cy 1, 24, .inl (fun _ => 0))), (q11, .inl (cy 1, 25, .inl (fun _ => 0))), (q12, .inl (cy 1, 100, .inl (fun _ => 0))), (q13, .inl (cy 1, 100, .inl (fun _ => 0))), (q14, .inl (cy 1, 100, .inl (fun _ => 0)))]) rfl (fun H locs h => ?_)
  refine lv_aload_n F.1 F.2.1 dX6_init_132 rfl (lv_at hl 0 rfl) ?_
  refine lv_iconst (v := 0) F.1 F.2.1 dX6_init_133 (by decide) ?_
  refine x_put F h 0 17 inlX6 tyX6_ok nmX6 rfl (by decide) mw_97 dX6_init_134 rfl rfl rfl rfl (Nat.le_of_ble_eq_true rfl) (ws' := [(q, .inr (6, [.ref q1, .ref q2, .ref q3, .ref q4, .ref q5, .ref q6, .ref q7, .ref q8, .ref q9, .ref q10, .ref q11, .ref q12, .ref q13, .ref q14, .int 0, .int 0, .int 0, .int 0, .int 0])), (q1, .inl (cy 2, 600, .inr (.inl (fun _ => 0)))), (q2, .inl (cy 2, 12, .inr (.inl (fun _ => 0)))), (q3, .inl (cy 1, 12, .inl (fun _ => 0))), (q4, .inl (cy 1, 12, .inl (fun _ => 0))), (q5, .inl (cy 1, 12, .inl (fun _ => 0))), (q6, .inl (cy 2, 12, .inr (.inl (fun _ => 0)))), (q7, .inl (cy 2, 12, .inr (.inl (fun _ => 0)))), (q8, .inl (cy 1, 24, .inl (fun _ => 0))), (q9, .inl (cy 1, 24, .inl (fun _ => 0))), (q10, .inl (cy 1, 24, .inl (fun _ => 0))), (q11, .inl (cy 1, 25, .inl (fun _ => 0))), (q12, .inl (cy 1, 100, .inl (fun _ => 0))), (q13, .inl (cy 1, 100, .inl (fun _ => 0))), (q14, .inl (cy 1, 100, .inl (fun _ => 0)))]) rfl (fun H locs h => ?_)
  refine lv_aload_n F.1 F.2.1 dX6_init_137 rfl (lv_at hl 0 rfl) ?_
  refine lv_iconst (v := 0) F.1 F.2.1 dX6_init_138 (by decide) ?_
  refine x_put F h 0 18 inlX6 tyX6_ok nmX6 rfl (by decide) mw_98 dX6_init_139 rfl rfl rfl rfl (Nat.le_of_ble_eq_true rfl) (ws' := [(q, .inr (6, [.ref q1, .ref q2, .ref q3, .ref q4, .ref q5, .ref q6, .ref q7, .ref q8, .ref q9, .ref q10, .ref q11, .ref q12, .ref q13, .ref q14, .int 0, .int 0, .int 0, .int 0, .int 0])), (q1, .inl (cy 2, 600, .inr (.inl (fun _ => 0)))), (q2, .inl (cy 2, 12, .inr (.inl (fun _ => 0)))), (q3, .inl (cy 1, 12, .inl (fun _ => 0))), (q4, .inl (cy 1, 12, .inl (fun _ => 0))), (q5, .inl (cy 1, 12, .inl (fun _ => 0))), (q6, .inl (cy 2, 12, .inr (.inl (fun _ => 0)))), (q7, .inl (cy 2, 12, .inr (.inl (fun _ => 0)))), (q8, .inl (cy 1, 24, .inl (fun _ => 0))), (q9, .inl (cy 1, 24, .inl (fun _ => 0))), (q10, .inl (cy 1, 24, .inl (fun _ => 0))), (q11, .inl (cy 1, 25, .inl (fun _ => 0))), (q12, .inl (cy 1, 100, .inl (fun _ => 0))), (q13, .inl (cy 1, 100, .inl (fun _ => 0))), (q14, .inl (cy 1, 100, .inl (fun _ => 0)))]) rfl (fun H locs h => ?_)
  exact x_vret F h hr hlk (fun k => ([q1, q2, q3, q4, q5, q6, q7, q8, q9, q10, q11, q12, q13, q14] : List Nat).getD k 0) [0, 1, 2, 3, 4, 5, 6, 7, 8, 9, 10, 11, 12, 13, 14] (trivial) (by decide +kernel) rfl (Nat.le_of_ble_eq_true rfl) (Nat.le_of_ble_eq_true rfl) dX6_init_142
