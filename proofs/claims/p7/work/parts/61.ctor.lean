theorem dX8_init_0 : decode cX8_init 0 = .ok (.aload_n 0, 1) := by decide +kernel
theorem dX8_init_1 : decode cX8_init 1 = .ok (.invokespecial 3, 3) := by decide +kernel
theorem mw_118 : Cond.methodLink RX8 3 objectInit ∈ wsL_law := inr_5 _ (List.mem_of_getElem? (i := 22) rfl)
theorem dX8_init_4 : decode cX8_init 4 = .ok (.aload_n 0, 1) := by decide +kernel
theorem dX8_init_5 : decode cX8_init 5 = .ok (.bipush 6, 2) := by decide +kernel
theorem dX8_init_7 : decode cX8_init 7 = .ok (.anewarray 9, 3) := by decide +kernel
theorem mw_119 : Cond.classLink RX8 9 RX4 ∈ wsL_law := inr_5 _ (List.mem_of_getElem? (i := 23) rfl)
theorem dX8_init_10 : decode cX8_init 10 = .ok (.putfield 11, 3) := by decide +kernel
theorem dX8_init_13 : decode cX8_init 13 = .ok (.aload_n 0, 1) := by decide +kernel
theorem dX8_init_14 : decode cX8_init 14 = .ok (.iconst 0, 1) := by decide +kernel
theorem dX8_init_15 : decode cX8_init 15 = .ok (.putfield 17, 3) := by decide +kernel
theorem dX8_init_18 : decode cX8_init 18 = .ok (.aload_n 0, 1) := by decide +kernel
theorem dX8_init_19 : decode cX8_init 19 = .ok (.lconst 0, 1) := by decide +kernel
theorem dX8_init_20 : decode cX8_init 20 = .ok (.putfield 21, 3) := by decide +kernel
theorem dX8_init_23 : decode cX8_init 23 = .ok (.iconst 0, 1) := by decide +kernel
theorem dX8_init_24 : decode cX8_init 24 = .ok (.istore_n 1, 1) := by decide +kernel
theorem dX8_init_25 : decode cX8_init 25 = .ok (.iload_n 1, 1) := by decide +kernel
theorem dX8_init_26 : decode cX8_init 26 = .ok (.aload_n 0, 1) := by decide +kernel
theorem dX8_init_27 : decode cX8_init 27 = .ok (.getfield 11, 3) := by decide +kernel
theorem dX8_init_30 : decode cX8_init 30 = .ok (.arraylength, 1) := by decide +kernel
theorem dX8_init_31 : decode cX8_init 31 = .ok (.if_icmp .ge 22, 3) := by decide +kernel
theorem dX8_init_34 : decode cX8_init 34 = .ok (.aload_n 0, 1) := by decide +kernel
theorem dX8_init_35 : decode cX8_init 35 = .ok (.getfield 11, 3) := by decide +kernel
theorem dX8_init_38 : decode cX8_init 38 = .ok (.iload_n 1, 1) := by decide +kernel
theorem dX8_init_39 : decode cX8_init 39 = .ok (.new 9, 3) := by decide +kernel
theorem dfX4 : ∀ j, j < 2 → defaultValue (tyX4 j) = vp_V [.null, .int 0] j := by
  intro j hj
  match j, hj with
  | 0, _ => rfl
  | 1, _ => rfl
  | k + 2, hj => omega
theorem mw_35 : Cond.instantiable RX4 2 ∈ wsL_law := inr_2 _ (List.mem_of_getElem? (i := 11) rfl)
theorem dX8_init_42 : decode cX8_init 42 = .ok (.dup, 1) := by decide +kernel
theorem dX8_init_43 : decode cX8_init 43 = .ok (.invokespecial 25, 3) := by decide +kernel
theorem mw_73 : Cond.code yX4_init cX4_init 1 none ∈ wsL_law := inr_4 _ (List.mem_of_getElem? (i := 1) rfl)
theorem yk_X4_init : xY yX4_init RX4 cX4_init 1 none 0 := ⟨⟨rfl, by decide +kernel, by decide +kernel, by decide +kernel⟩, mw_36, mw_73⟩
theorem mw_72 : Cond.instanceMethod yX4_init ∈ wsL_law := inr_4 _ (List.mem_of_getElem? (i := 0) rfl)
theorem dX8_init_46 : decode cX8_init 46 = .ok (.aastore, 1) := by decide +kernel
theorem dX8_init_47 : decode cX8_init 47 = .ok (.iinc 1 1, 3) := by decide +kernel
theorem dX8_init_50 : decode cX8_init 50 = .ok (.goto (-25), 3) := by decide +kernel
theorem dX8_init_53 : decode cX8_init 53 = .ok (.return_, 1) := by decide +kernel
theorem dX1_init_0 : decode cX1_init 0 = .ok (.aload_n 0, 1) := by decide +kernel
theorem dX1_init_1 : decode cX1_init 1 = .ok (.invokespecial 3, 3) := by decide +kernel
theorem mw_167 : Cond.methodLink RX1 3 objectInit ∈ wsL_law := inr_7 _ (List.mem_of_getElem? (i := 23) rfl)
theorem dX1_init_4 : decode cX1_init 4 = .ok (.aload_n 0, 1) := by decide +kernel
theorem dX1_init_5 : decode cX1_init 5 = .ok (.iconst 0, 1) := by decide +kernel
theorem dX1_init_6 : decode cX1_init 6 = .ok (.putfield 9, 3) := by decide +kernel
theorem dX1_init_9 : decode cX1_init 9 = .ok (.aload_n 0, 1) := by decide +kernel
theorem dX1_init_10 : decode cX1_init 10 = .ok (.iconst 0, 1) := by decide +kernel
theorem dX1_init_11 : decode cX1_init 11 = .ok (.putfield 15, 3) := by decide +kernel
theorem dX1_init_14 : decode cX1_init 14 = .ok (.aload_n 0, 1) := by decide +kernel
theorem dX1_init_15 : decode cX1_init 15 = .ok (.bipush 12, 2) := by decide +kernel
theorem dX1_init_17 : decode cX1_init 17 = .ok (.newarray .int, 2) := by decide +kernel
theorem dX1_init_19 : decode cX1_init 19 = .ok (.putfield 18, 3) := by decide +kernel
theorem dX1_init_22 : decode cX1_init 22 = .ok (.aload_n 0, 1) := by decide +kernel
theorem dX1_init_23 : decode cX1_init 23 = .ok (.iconst 0, 1) := by decide +kernel
theorem dX1_init_24 : decode cX1_init 24 = .ok (.putfield 22, 3) := by decide +kernel
theorem dX1_init_27 : decode cX1_init 27 = .ok (.aload_n 0, 1) := by decide +kernel
theorem dX1_init_28 : decode cX1_init 28 = .ok (.sipush 192, 3) := by decide +kernel
theorem dX1_init_31 : decode cX1_init 31 = .ok (.newarray .int, 2) := by decide +kernel
theorem dX1_init_33 : decode cX1_init 33 = .ok (.putfield 25, 3) := by decide +kernel
theorem dX1_init_36 : decode cX1_init 36 = .ok (.aload_n 0, 1) := by decide +kernel
theorem dX1_init_37 : decode cX1_init 37 = .ok (.bipush 12, 2) := by decide +kernel
theorem dX1_init_39 : decode cX1_init 39 = .ok (.newarray .int, 2) := by decide +kernel
theorem dX1_init_41 : decode cX1_init 41 = .ok (.putfield 28, 3) := by decide +kernel
theorem dX1_init_44 : decode cX1_init 44 = .ok (.aload_n 0, 1) := by decide +kernel
theorem dX1_init_45 : decode cX1_init 45 = .ok (.bipush 9, 2) := by decide +kernel
theorem dX1_init_47 : decode cX1_init 47 = .ok (.newarray .int, 2) := by decide +kernel
theorem dX1_init_49 : decode cX1_init 49 = .ok (.putfield 31, 3) := by decide +kernel
theorem dX1_init_52 : decode cX1_init 52 = .ok (.aload_n 0, 1) := by decide +kernel
theorem dX1_init_53 : decode cX1_init 53 = .ok (.aload_n 1, 1) := by decide +kernel
theorem dX1_init_54 : decode cX1_init 54 = .ok (.putfield 34, 3) := by decide +kernel
theorem dX1_init_57 : decode cX1_init 57 = .ok (.aload_n 0, 1) := by decide +kernel
theorem dX1_init_58 : decode cX1_init 58 = .ok (.aload_n 2, 1) := by decide +kernel
theorem dX1_init_59 : decode cX1_init 59 = .ok (.putfield 38, 3) := by decide +kernel
theorem dX1_init_62 : decode cX1_init 62 = .ok (.return_, 1) := by decide +kernel
theorem dX5_init_0 : decode cX5_init 0 = .ok (.aload_n 0, 1) := by decide +kernel
theorem dX5_init_1 : decode cX5_init 1 = .ok (.invokespecial 3, 3) := by decide +kernel
theorem mw_181 : Cond.methodLink RX5 3 objectInit ∈ wsL_law := inr_8 _ (List.mem_of_getElem? (i := 13) rfl)
theorem dX5_init_4 : decode cX5_init 4 = .ok (.aload_n 0, 1) := by decide +kernel
theorem dX5_init_5 : decode cX5_init 5 = .ok (.new 9, 3) := by decide +kernel
theorem mw_182 : Cond.classLink RX5 9 RX4 ∈ wsL_law := inr_8 _ (List.mem_of_getElem? (i := 14) rfl)
theorem dX5_init_8 : decode cX5_init 8 = .ok (.dup, 1) := by decide +kernel
theorem dX5_init_9 : decode cX5_init 9 = .ok (.invokespecial 11, 3) := by decide +kernel
theorem dX5_init_12 : decode cX5_init 12 = .ok (.putfield 12, 3) := by decide +kernel
theorem dX5_init_15 : decode cX5_init 15 = .ok (.aload_n 0, 1) := by decide +kernel
theorem dX5_init_16 : decode cX5_init 16 = .ok (.iconst 5, 1) := by decide +kernel
theorem dX5_init_17 : decode cX5_init 17 = .ok (.newarray .int, 2) := by decide +kernel
theorem dX5_init_19 : decode cX5_init 19 = .ok (.putfield 18, 3) := by decide +kernel
theorem dX5_init_22 : decode cX5_init 22 = .ok (.aload_n 0, 1) := by decide +kernel
theorem dX5_init_23 : decode cX5_init 23 = .ok (.iconst 0, 1) := by decide +kernel
theorem dX5_init_24 : decode cX5_init 24 = .ok (.putfield 22, 3) := by decide +kernel
theorem dX5_init_27 : decode cX5_init 27 = .ok (.aload_n 0, 1) := by decide +kernel
theorem dX5_init_28 : decode cX5_init 28 = .ok (.iconst (-1), 1) := by decide +kernel
theorem dX5_init_29 : decode cX5_init 29 = .ok (.putfield 26, 3) := by decide +kernel
theorem dX5_init_32 : decode cX5_init 32 = .ok (.aload_n 0, 1) := by decide +kernel
theorem dX5_init_33 : decode cX5_init 33 = .ok (.iconst 0, 1) := by decide +kernel
theorem dX5_init_34 : decode cX5_init 34 = .ok (.putfield 29, 3) := by decide +kernel
theorem dX5_init_37 : decode cX5_init 37 = .ok (.aload_n 0, 1) := by decide +kernel
theorem dX5_init_38 : decode cX5_init 38 = .ok (.aload_n 1, 1) := by decide +kernel
theorem dX5_init_39 : decode cX5_init 39 = .ok (.putfield 32, 3) := by decide +kernel
theorem dX5_init_42 : decode cX5_init 42 = .ok (.aload_n 0, 1) := by decide +kernel
theorem dX5_init_43 : decode cX5_init 43 = .ok (.aload_n 1, 1) := by decide +kernel
theorem dX5_init_44 : decode cX5_init 44 = .ok (.getfield 36, 3) := by decide +kernel
theorem dX5_init_47 : decode cX5_init 47 = .ok (.putfield 42, 3) := by decide +kernel
theorem dX5_init_50 : decode cX5_init 50 = .ok (.aload_n 0, 1) := by decide +kernel
theorem dX5_init_51 : decode cX5_init 51 = .ok (.aload_n 2, 1) := by decide +kernel
theorem dX5_init_52 : decode cX5_init 52 = .ok (.putfield 43, 3) := by decide +kernel
theorem dX5_init_55 : decode cX5_init 55 = .ok (.return_, 1) := by decide +kernel
theorem dX3_init_0 : decode cX3_init 0 = .ok (.aload_n 0, 1) := by decide +kernel
theorem dX3_init_1 : decode cX3_init 1 = .ok (.invokespecial 3, 3) := by decide +kernel
theorem mw_52 : Cond.methodLink RX3 3 objectInit ∈ wsL_law := inr_3 _ (List.mem_of_getElem? (i := 4) rfl)
theorem dX3_init_4 : decode cX3_init 4 = .ok (.aload_n 0, 1) := by decide +kernel
theorem dX3_init_5 : decode cX3_init 5 = .ok (.new 9, 3) := by decide +kernel
theorem mw_53 : Cond.classLink RX3 9 RX4 ∈ wsL_law := inr_3 _ (List.mem_of_getElem? (i := 5) rfl)
theorem dX3_init_8 : decode cX3_init 8 = .ok (.dup, 1) := by decide +kernel
theorem dX3_init_9 : decode cX3_init 9 = .ok (.invokespecial 11, 3) := by decide +kernel
theorem dX3_init_12 : decode cX3_init 12 = .ok (.putfield 12, 3) := by decide +kernel
theorem dX3_init_15 : decode cX3_init 15 = .ok (.aload_n 0, 1) := by decide +kernel
theorem dX3_init_16 : decode cX3_init 16 = .ok (.new 18, 3) := by decide +kernel
theorem dfX6 : ∀ j, j < 19 → defaultValue (tyX6 j) = vp_V [.null, .null, .null, .null, .null, .null, .null, .null, .null, .null, .null, .null, .null, .null, .int 0, .int 0, .int 0, .int 0, .int 0] j := by
  intro j hj
  match j, hj with
  | 0, _ => rfl
  | 1, _ => rfl
  | 2, _ => rfl
  | 3, _ => rfl
  | 4, _ => rfl
  | 5, _ => rfl
  | 6, _ => rfl
  | 7, _ => rfl
  | 8, _ => rfl
  | 9, _ => rfl
  | 10, _ => rfl
  | 11, _ => rfl
  | 12, _ => rfl
  | 13, _ => rfl
  | 14, _ => rfl
  | 15, _ => rfl
  | 16, _ => rfl
  | 17, _ => rfl
  | 18, _ => rfl
  | k + 19, hj => omega
theorem mw_55 : Cond.classLink RX3 18 RX6 ∈ wsL_law := inr_3 _ (List.mem_of_getElem? (i := 7) rfl)
theorem mw_56 : Cond.instantiable RX6 19 ∈ wsL_law := inr_3 _ (List.mem_of_getElem? (i := 8) rfl)
theorem dX3_init_19 : decode cX3_init 19 = .ok (.dup, 1) := by decide +kernel
theorem dX3_init_20 : decode cX3_init 20 = .ok (.invokespecial 20, 3) := by decide +kernel
theorem mw_78 : Cond.code yX6_init cX6_init 1 none ∈ wsL_law := inr_4 _ (List.mem_of_getElem? (i := 6) rfl)
theorem yk_X6_init : xY yX6_init RX6 cX6_init 1 none 0 := ⟨⟨rfl, by decide +kernel, by decide +kernel, by decide +kernel⟩, mw_57, mw_78⟩
theorem mw_77 : Cond.instanceMethod yX6_init ∈ wsL_law := inr_4 _ (List.mem_of_getElem? (i := 5) rfl)
theorem dX3_init_23 : decode cX3_init 23 = .ok (.putfield 21, 3) := by decide +kernel
theorem dX3_init_26 : decode cX3_init 26 = .ok (.aload_n 0, 1) := by decide +kernel
theorem dX3_init_27 : decode cX3_init 27 = .ok (.iconst (-1), 1) := by decide +kernel
theorem dX3_init_28 : decode cX3_init 28 = .ok (.putfield 25, 3) := by decide +kernel
theorem dX3_init_31 : decode cX3_init 31 = .ok (.aload_n 0, 1) := by decide +kernel
theorem dX3_init_32 : decode cX3_init 32 = .ok (.iconst (-1), 1) := by decide +kernel
theorem dX3_init_33 : decode cX3_init 33 = .ok (.putfield 29, 3) := by decide +kernel
theorem dX3_init_36 : decode cX3_init 36 = .ok (.aload_n 0, 1) := by decide +kernel
theorem dX3_init_37 : decode cX3_init 37 = .ok (.sipush 601, 3) := by decide +kernel
theorem dX3_init_40 : decode cX3_init 40 = .ok (.newarray .int, 2) := by decide +kernel
theorem dX3_init_42 : decode cX3_init 42 = .ok (.putfield 32, 3) := by decide +kernel
theorem dX3_init_45 : decode cX3_init 45 = .ok (.aload_n 0, 1) := by decide +kernel
theorem dX3_init_46 : decode cX3_init 46 = .ok (.sipush 601, 3) := by decide +kernel
theorem dX3_init_49 : decode cX3_init 49 = .ok (.newarray .int, 2) := by decide +kernel
theorem dX3_init_51 : decode cX3_init 51 = .ok (.putfield 36, 3) := by decide +kernel
theorem dX3_init_54 : decode cX3_init 54 = .ok (.aload_n 0, 1) := by decide +kernel
theorem dX3_init_55 : decode cX3_init 55 = .ok (.sipush 601, 3) := by decide +kernel
theorem dX3_init_58 : decode cX3_init 58 = .ok (.newarray .int, 2) := by decide +kernel
theorem dX3_init_60 : decode cX3_init 60 = .ok (.putfield 39, 3) := by decide +kernel
theorem dX3_init_63 : decode cX3_init 63 = .ok (.aload_n 0, 1) := by decide +kernel
theorem dX3_init_64 : decode cX3_init 64 = .ok (.sipush 601, 3) := by decide +kernel
theorem dX3_init_67 : decode cX3_init 67 = .ok (.newarray .long, 2) := by decide +kernel
theorem dX3_init_69 : decode cX3_init 69 = .ok (.putfield 42, 3) := by decide +kernel
theorem dX3_init_72 : decode cX3_init 72 = .ok (.aload_n 0, 1) := by decide +kernel
theorem dX3_init_73 : decode cX3_init 73 = .ok (.iconst 0, 1) := by decide +kernel
theorem dX3_init_74 : decode cX3_init 74 = .ok (.putfield 46, 3) := by decide +kernel
theorem dX3_init_77 : decode cX3_init 77 = .ok (.aload_n 0, 1) := by decide +kernel
theorem dX3_init_78 : decode cX3_init 78 = .ok (.bipush 100, 2) := by decide +kernel
theorem dX3_init_80 : decode cX3_init 80 = .ok (.newarray .int, 2) := by decide +kernel
theorem dX3_init_82 : decode cX3_init 82 = .ok (.putfield 49, 3) := by decide +kernel
theorem dX3_init_85 : decode cX3_init 85 = .ok (.aload_n 0, 1) := by decide +kernel
theorem dX3_init_86 : decode cX3_init 86 = .ok (.bipush 100, 2) := by decide +kernel
theorem dX3_init_88 : decode cX3_init 88 = .ok (.newarray .int, 2) := by decide +kernel
theorem dX3_init_90 : decode cX3_init 90 = .ok (.putfield 52, 3) := by decide +kernel
theorem dX3_init_93 : decode cX3_init 93 = .ok (.aload_n 0, 1) := by decide +kernel
theorem dX3_init_94 : decode cX3_init 94 = .ok (.iconst 0, 1) := by decide +kernel
theorem dX3_init_95 : decode cX3_init 95 = .ok (.putfield 55, 3) := by decide +kernel
theorem dX3_init_98 : decode cX3_init 98 = .ok (.aload_n 0, 1) := by decide +kernel
theorem dX3_init_99 : decode cX3_init 99 = .ok (.iconst 0, 1) := by decide +kernel
theorem dX3_init_100 : decode cX3_init 100 = .ok (.putfield 58, 3) := by decide +kernel
theorem dX3_init_103 : decode cX3_init 103 = .ok (.aload_n 0, 1) := by decide +kernel
theorem dX3_init_104 : decode cX3_init 104 = .ok (.iconst 0, 1) := by decide +kernel
theorem dX3_init_105 : decode cX3_init 105 = .ok (.putfield 61, 3) := by decide +kernel
theorem dX3_init_108 : decode cX3_init 108 = .ok (.return_, 1) := by decide +kernel
def stateFW (cy : Nat → ClassId) (q : Nat) (u : Nat → Nat) : va_W := [(q, .inr (8, [.ref ((u 0)), .int 0, .long 0])), (((u 0)), .inl (cy 6, 6, .inr (.inr (.inr (.inr (va_up (va_up (va_up (va_up (va_up (va_up (fun _ => none) 0 (some ((u 1)))) 1 (some ((u 2)))) 2 (some ((u 3)))) 3 (some ((u 4)))) 4 (some ((u 5)))) 5 (some ((u 6))))))))), (((u 1)), .inr (4, [.ref ((u 7)), .int 0])), (((u 7)), .inl (cy 2, 12, .inr (.inl (fun _ => 0)))), (((u 2)), .inr (4, [.ref ((u 8)), .int 0])), (((u 8)), .inl (cy 2, 12, .inr (.inl (fun _ => 0)))), (((u 3)), .inr (4, [.ref ((u 9)), .int 0])), (((u 9)), .inl (cy 2, 12, .inr (.inl (fun _ => 0)))), (((u 4)), .inr (4, [.ref ((u 10)), .int 0])), (((u 10)), .inl (cy 2, 12, .inr (.inl (fun _ => 0)))), (((u 5)), .inr (4, [.ref ((u 11)), .int 0])), (((u 11)), .inl (cy 2, 12, .inr (.inl (fun _ => 0)))), (((u 6)), .inr (4, [.ref ((u 12)), .int 0])), (((u 12)), .inl (cy 2, 12, .inr (.inl (fun _ => 0))))]
def readerFW (cy : Nat → ClassId) (q : Nat) (u : Nat → Nat) : va_W := [(q, .inr (3, [.ref ((u 0)), .ref ((u 1)), .int (-1), .int (-1), .ref ((u 2)), .ref ((u 3)), .ref ((u 4)), .ref ((u 5)), .int 0, .ref ((u 6)), .ref ((u 7)), .int 0, .int 0, .int 0])), (((u 0)), .inr (4, [.ref ((u 8)), .int 0])), (((u 8)), .inl (cy 2, 12, .inr (.inl (fun _ => 0)))), (((u 1)), .inr (6, [.ref ((u 9)), .ref ((u 10)), .ref ((u 11)), .ref ((u 12)), .ref ((u 13)), .ref ((u 14)), .ref ((u 15)), .ref ((u 16)), .ref ((u 17)), .ref ((u 18)), .ref ((u 19)), .ref ((u 20)), .ref ((u 21)), .ref ((u 22)), .int 0, .int 0, .int 0, .int 0, .int 0])), (((u 9)), .inl (cy 2, 600, .inr (.inl (fun _ => 0)))), (((u 10)), .inl (cy 2, 12, .inr (.inl (fun _ => 0)))), (((u 11)), .inl (cy 1, 12, .inl (fun _ => 0))), (((u 12)), .inl (cy 1, 12, .inl (fun _ => 0))), (((u 13)), .inl (cy 1, 12, .inl (fun _ => 0))), (((u 14)), .inl (cy 2, 12, .inr (.inl (fun _ => 0)))), (((u 15)), .inl (cy 2, 12, .inr (.inl (fun _ => 0)))), (((u 16)), .inl (cy 1, 24, .inl (fun _ => 0))), (((u 17)), .inl (cy 1, 24, .inl (fun _ => 0))), (((u 18)), .inl (cy 1, 24, .inl (fun _ => 0))), (((u 19)), .inl (cy 1, 25, .inl (fun _ => 0))), (((u 20)), .inl (cy 1, 100, .inl (fun _ => 0))), (((u 21)), .inl (cy 1, 100, .inl (fun _ => 0))), (((u 22)), .inl (cy 1, 100, .inl (fun _ => 0))), (((u 2)), .inl (cy 1, 601, .inl (fun _ => 0))), (((u 3)), .inl (cy 1, 601, .inl (fun _ => 0))), (((u 4)), .inl (cy 1, 601, .inl (fun _ => 0))), (((u 5)), .inl (cy 2, 601, .inr (.inl (fun _ => 0)))), (((u 6)), .inl (cy 1, 100, .inl (fun _ => 0))), (((u 7)), .inl (cy 1, 100, .inl (fun _ => 0)))]
set_option maxHeartbeats 4000000 in
set_option maxRecDepth 100000 in
theorem c_stateF_init (l : Launch) (D : va_G) (cy : Nat → ClassId) (q : Nat) : ∀ sz, Met l yX8_init (Cond.code yX8_init cX8_init 2 none :: wsL_law) { frames := 2, cells := 13, slots := 90, locals := 40 } (va_Pc [.ref q] (xP D cy ([(q, .inr (8, [.null, .int 0, .long 0]))]) sz)) (va_Qv (fun _ => True) (xB D (va_A ([(q, .inr (8, [.null, .int 0, .long 0]))]) sz) (fun u => stateFW cy q u)) (va_A ([(q, .inr (8, [.null, .int 0, .long 0]))]) sz)) 13 90 (va_A ([(q, .inr (8, [.null, .int 0, .long 0]))]) sz) := by
  refine x_enter (fun A => va_Qv (fun _ => True) (xB D A (fun u => stateFW cy q u)) A) (by decide +kernel) rfl (Nat.le_of_ble_eq_true rfl) ?_
  intro p e s m below meth c A ls F hr hlk hin h hl
  have hl : lv_has ls 2 [(0, .ref q)] := hl
  refine lv_aload_n F.1 F.2.1 dX8_init_0 rfl (lv_at hl 0 rfl) ?_
  refine x_obj F mw_118 mw_11 mw_12 hl.1 dX8_init_1 (Nat.le_of_ble_eq_true rfl) (Nat.le_of_ble_eq_true rfl) ?_
  refine lv_aload_n F.1 F.2.1 dX8_init_4 rfl (lv_at hl 0 rfl) ?_
  refine lv_bipush (v := 6) F.1 F.2.1 dX8_init_5 (by decide) ?_
  refine x_newq (C := "AskBack$Row") (k := 6) (N' := 6) F h rfl mw_119 h.2.2.2.2.2.1.2.2.1 (by decide) (by decide) (by decide) (Nat.le_of_ble_eq_true rfl) (Nat.le_of_ble_eq_true rfl) dX8_init_7 (ws' := fun q1 => [(q, .inr (8, [.null, .int 0, .long 0])), (q1, .inl (cy 6, 6, .inr (.inr (.inr (.inr (fun _ => none))))))]) (fun _ => rfl) (fun q1 H h => ?_)
  refine x_putF F h hin 0 0 inlX8 tyX8_ok nmX8 rfl (by decide) mw_120 dX8_init_10 rfl rfl rfl rfl rfl (Nat.le_of_ble_eq_true rfl) (ws' := [(q, .inr (8, [.ref q1, .int 0, .long 0])), (q1, .inl (cy 6, 6, .inr (.inr (.inr (.inr (fun _ => none))))))]) rfl (fun H locs h => ?_)
  refine lv_aload_n F.1 F.2.1 dX8_init_13 rfl (lv_at hl 0 rfl) ?_
  refine lv_iconst (v := 0) F.1 F.2.1 dX8_init_14 (by decide) ?_
  refine x_put F h 0 1 inlX8 tyX8_ok nmX8 rfl (by decide) mw_121 dX8_init_15 rfl rfl rfl rfl (Nat.le_of_ble_eq_true rfl) (ws' := [(q, .inr (8, [.ref q1, .int 0, .long 0])), (q1, .inl (cy 6, 6, .inr (.inr (.inr (.inr (fun _ => none))))))]) rfl (fun H locs h => ?_)
  refine lv_aload_n F.1 F.2.1 dX8_init_18 rfl (lv_at hl 0 rfl) ?_
  refine lv_lconst (v := 0) F.1 F.2.1 dX8_init_19 (by decide) ?_
  refine x_put F h 0 2 inlX8 tyX8_ok nmX8 rfl (by decide) mw_122 dX8_init_20 rfl rfl rfl rfl (Nat.le_of_ble_eq_true rfl) (ws' := [(q, .inr (8, [.ref q1, .int 0, .long 0])), (q1, .inl (cy 6, 6, .inr (.inr (.inr (.inr (fun _ => none))))))]) rfl (fun H locs h => ?_)
  refine lv_iconst (v := 0) F.1 F.2.1 dX8_init_23 (by decide) ?_
  refine lv_istore_n (lv' := [(1, .int 0), (0, .ref q)]) F.1 F.2.1 dX8_init_24 rfl hl (by decide) rfl (fun ls hl => ?_)
  refine lv_iload_n F.1 F.2.1 dX8_init_25 rfl (lv_at hl 0 rfl) ?_
  refine lv_aload_n F.1 F.2.1 dX8_init_26 rfl (lv_at hl 1 rfl) ?_
  refine x_get F h 0 0 inlX8 rfl (by decide) mw_120 dX8_init_27 rfl rfl ?_
  refine x_alen (v := 6) F h 1 6 rfl rfl rfl dX8_init_30 ?_
  refine lv_icmp_ge (tgt := 53) F.1 F.2.1 dX8_init_31 (by decide) (fun hc => absurd hc (by decide)) (fun _ => ?_)
  refine lv_aload_n F.1 F.2.1 dX8_init_34 rfl (lv_at hl 1 rfl) ?_
  refine x_get F h 0 0 inlX8 rfl (by decide) mw_120 dX8_init_35 rfl rfl ?_
  refine lv_iload_n F.1 F.2.1 dX8_init_38 rfl (lv_at hl 0 rfl) ?_
  refine x_new F h inlX4 tyX4_ok dfX4 rfl mw_119 mw_35 mw_36 dX8_init_39 (Nat.le_of_ble_eq_true rfl) (Nat.le_of_ble_eq_true rfl) (ws' := fun q2 => [(q, .inr (8, [.ref q1, .int 0, .long 0])), (q1, .inl (cy 6, 6, .inr (.inr (.inr (.inr (fun _ => none)))))), (q2, .inr (4, [.null, .int 0]))]) (fun _ => rfl) (fun q2 H h => ?_)
  refine lv_dup F.1 F.2.1 dX8_init_42 rfl ?_
  refine x_Nt (wr := [(q, .inr (8, [.ref q1, .int 0, .long 0])), (q1, .inl (cy 6, 6, .inr (.inr (.inr (.inr (fun _ => none))))))]) F h yk_X4_init h.2.2.2.2.2.2.2.2.2.2.2.2.2.2.2.2.1 mw_72 rfl (c_Row_init l D cy q2) rfl hl.1 rfl (Nat.le_of_ble_eq_true rfl) ⟨Nat.le_of_ble_eq_true rfl, Nat.le_of_ble_eq_true rfl⟩ ⟨Nat.le_of_ble_eq_true rfl, Nat.le_of_ble_eq_true rfl⟩ dX8_init_43 (fun u5 H locs hp3 h => ?_)
  have h : xS D cy A s.heap ([(q, .inr (8, [.ref q1, .int 0, .long 0])), (q1, .inl (cy 6, 6, .inr (.inr (.inr (.inr (fun _ => none))))))] ++ rowW cy q2 u5) s H locs := h
  refine x_aast F h 1 6 2 4 rfl rfl rfl rfl (x_in (by decide +kernel)) dX8_init_46 (ws' := [(q, .inr (8, [.ref q1, .int 0, .long 0])), (q1, .inl (cy 6, 6, .inr (.inr (.inr (.inr (va_up (fun _ => none) 0 (some q2)))))))] ++ rowW cy q2 u5) rfl (fun H locs h => ?_)
  refine lv_iinc (v := 1) (lv' := [(1, .int 1), (0, .ref q)]) F.1 F.2.1 dX8_init_47 hl (k := 0) rfl (by decide) (by decide) rfl (fun ls hl => ?_)
  refine lv_goto (tgt := 25) F.1 F.2.1 dX8_init_50 (by decide) ?_
  refine lv_iload_n F.1 F.2.1 dX8_init_25 rfl (lv_at hl 0 rfl) ?_
  refine lv_aload_n F.1 F.2.1 dX8_init_26 rfl (lv_at hl 1 rfl) ?_
  refine x_get F h 0 0 inlX8 rfl (by decide) mw_120 dX8_init_27 rfl rfl ?_
  refine x_alen (v := 6) F h 1 6 rfl rfl rfl dX8_init_30 ?_
  refine lv_icmp_ge (tgt := 53) F.1 F.2.1 dX8_init_31 (by decide) (fun hc => absurd hc (by decide)) (fun _ => ?_)
  refine lv_aload_n F.1 F.2.1 dX8_init_34 rfl (lv_at hl 1 rfl) ?_
  refine x_get F h 0 0 inlX8 rfl (by decide) mw_120 dX8_init_35 rfl rfl ?_
  refine lv_iload_n F.1 F.2.1 dX8_init_38 rfl (lv_at hl 0 rfl) ?_
  refine x_new F h inlX4 tyX4_ok dfX4 rfl mw_119 mw_35 mw_36 dX8_init_39 (Nat.le_of_ble_eq_true rfl) (Nat.le_of_ble_eq_true rfl) (ws' := fun q6 => [(q, .inr (8, [.ref q1, .int 0, .long 0])), (q1, .inl (cy 6, 6, .inr (.inr (.inr (.inr (va_up (fun _ => none) 0 (some q2)))))))] ++ (rowW cy q2 u5 ++ [(q6, .inr (4, [.null, .int 0]))])) (fun _ => rfl) (fun q6 H h => ?_)
  refine lv_dup F.1 F.2.1 dX8_init_42 rfl ?_
  refine x_Nt (wr := [(q, .inr (8, [.ref q1, .int 0, .long 0])), (q1, .inl (cy 6, 6, .inr (.inr (.inr (.inr (va_up (fun _ => none) 0 (some q2)))))))] ++ rowW cy q2 u5) F h yk_X4_init h.2.2.2.2.2.2.2.2.2.2.2.2.2.2.2.2.1 mw_72 rfl (c_Row_init l D cy q6) rfl hl.1 rfl (Nat.le_of_ble_eq_true rfl) ⟨Nat.le_of_ble_eq_true rfl, Nat.le_of_ble_eq_true rfl⟩ ⟨Nat.le_of_ble_eq_true rfl, Nat.le_of_ble_eq_true rfl⟩ dX8_init_43 (fun u9 H locs hp7 h => ?_)
  have h : xS D cy A s.heap ([(q, .inr (8, [.ref q1, .int 0, .long 0])), (q1, .inl (cy 6, 6, .inr (.inr (.inr (.inr (va_up (fun _ => none) 0 (some q2)))))))] ++ (rowW cy q2 u5 ++ rowW cy q6 u9)) s H locs := h
  refine x_aast F h 1 6 4 4 rfl rfl rfl rfl (x_in (by decide +kernel)) dX8_init_46 (ws' := [(q, .inr (8, [.ref q1, .int 0, .long 0])), (q1, .inl (cy 6, 6, .inr (.inr (.inr (.inr (va_up (va_up (fun _ => none) 0 (some q2)) 1 (some q6)))))))] ++ (rowW cy q2 u5 ++ rowW cy q6 u9)) rfl (fun H locs h => ?_)
  refine lv_iinc (v := 2) (lv' := [(1, .int 2), (0, .ref q)]) F.1 F.2.1 dX8_init_47 hl (k := 0) rfl (by decide) (by decide) rfl (fun ls hl => ?_)
  refine lv_goto (tgt := 25) F.1 F.2.1 dX8_init_50 (by decide) ?_
  refine lv_iload_n F.1 F.2.1 dX8_init_25 rfl (lv_at hl 0 rfl) ?_
  refine lv_aload_n F.1 F.2.1 dX8_init_26 rfl (lv_at hl 1 rfl) ?_
  refine x_get F h 0 0 inlX8 rfl (by decide) mw_120 dX8_init_27 rfl rfl ?_
  refine x_alen (v := 6) F h 1 6 rfl rfl rfl dX8_init_30 ?_
  refine lv_icmp_ge (tgt := 53) F.1 F.2.1 dX8_init_31 (by decide) (fun hc => absurd hc (by decide)) (fun _ => ?_)
  refine lv_aload_n F.1 F.2.1 dX8_init_34 rfl (lv_at hl 1 rfl) ?_
  refine x_get F h 0 0 inlX8 rfl (by decide) mw_120 dX8_init_35 rfl rfl ?_
  refine lv_iload_n F.1 F.2.1 dX8_init_38 rfl (lv_at hl 0 rfl) ?_
  refine x_new F h inlX4 tyX4_ok dfX4 rfl mw_119 mw_35 mw_36 dX8_init_39 (Nat.le_of_ble_eq_true rfl) (Nat.le_of_ble_eq_true rfl) (ws' := fun q10 => [(q, .inr (8, [.ref q1, .int 0, .long 0])), (q1, .inl (cy 6, 6, .inr (.inr (.inr (.inr (va_up (va_up (fun _ => none) 0 (some q2)) 1 (some q6)))))))] ++ (rowW cy q2 u5 ++ (rowW cy q6 u9 ++ [(q10, .inr (4, [.null, .int 0]))]))) (fun _ => rfl) (fun q10 H h => ?_)
  refine lv_dup F.1 F.2.1 dX8_init_42 rfl ?_
  refine x_Nt (wr := [(q, .inr (8, [.ref q1, .int 0, .long 0])), (q1, .inl (cy 6, 6, .inr (.inr (.inr (.inr (va_up (va_up (fun _ => none) 0 (some q2)) 1 (some q6)))))))] ++ (rowW cy q2 u5 ++ rowW cy q6 u9)) F h yk_X4_init h.2.2.2.2.2.2.2.2.2.2.2.2.2.2.2.2.1 mw_72 rfl (c_Row_init l D cy q10) rfl hl.1 rfl (Nat.le_of_ble_eq_true rfl) ⟨Nat.le_of_ble_eq_true rfl, Nat.le_of_ble_eq_true rfl⟩ ⟨Nat.le_of_ble_eq_true rfl, Nat.le_of_ble_eq_true rfl⟩ dX8_init_43 (fun u13 H locs hp11 h => ?_)
  have h : xS D cy A s.heap ([(q, .inr (8, [.ref q1, .int 0, .long 0])), (q1, .inl (cy 6, 6, .inr (.inr (.inr (.inr (va_up (va_up (fun _ => none) 0 (some q2)) 1 (some q6)))))))] ++ (rowW cy q2 u5 ++ (rowW cy q6 u9 ++ rowW cy q10 u13))) s H locs := h
  refine x_aast F h 1 6 6 4 rfl rfl rfl rfl (x_in (by decide +kernel)) dX8_init_46 (ws' := [(q, .inr (8, [.ref q1, .int 0, .long 0])), (q1, .inl (cy 6, 6, .inr (.inr (.inr (.inr (va_up (va_up (va_up (fun _ => none) 0 (some q2)) 1 (some q6)) 2 (some q10)))))))] ++ (rowW cy q2 u5 ++ (rowW cy q6 u9 ++ rowW cy q10 u13))) rfl (fun H locs h => ?_)
  refine lv_iinc (v := 3) (lv' := [(1, .int 3), (0, .ref q)]) F.1 F.2.1 dX8_init_47 hl (k := 0) rfl (by decide) (by decide) rfl (fun ls hl => ?_)
  refine lv_goto (tgt := 25) F.1 F.2.1 dX8_init_50 (by decide) ?_
  refine lv_iload_n F.1 F.2.1 dX8_init_25 rfl (lv_at hl 0 rfl) ?_
  refine lv_aload_n F.1 F.2.1 dX8_init_26 rfl (lv_at hl 1 rfl) ?_
  refine x_get F h 0 0 inlX8 rfl (by decide) mw_120 dX8_init_27 rfl rfl ?_
  refine x_alen (v := 6) F h 1 6 rfl rfl rfl dX8_init_30 ?_
  refine lv_icmp_ge (tgt := 53) F.1 F.2.1 dX8_init_31 (by decide) (fun hc => absurd hc (by decide)) (fun _ => ?_)
  refine lv_aload_n F.1 F.2.1 dX8_init_34 rfl (lv_at hl 1 rfl) ?_
  refine x_get F h 0 0 inlX8 rfl (by decide) mw_120 dX8_init_35 rfl rfl ?_
  refine lv_iload_n F.1 F.2.1 dX8_init_38 rfl (lv_at hl 0 rfl) ?_
  refine x_new F h inlX4 tyX4_ok dfX4 rfl mw_119 mw_35 mw_36 dX8_init_39 (Nat.le_of_ble_eq_true rfl) (Nat.le_of_ble_eq_true rfl) (ws' := fun q14 => [(q, .inr (8, [.ref q1, .int 0, .long 0])), (q1, .inl (cy 6, 6, .inr (.inr (.inr (.inr (va_up (va_up (va_up (fun _ => none) 0 (some q2)) 1 (some q6)) 2 (some q10)))))))] ++ (rowW cy q2 u5 ++ (rowW cy q6 u9 ++ (rowW cy q10 u13 ++ [(q14, .inr (4, [.null, .int 0]))])))) (fun _ => rfl) (fun q14 H h => ?_)
  refine lv_dup F.1 F.2.1 dX8_init_42 rfl ?_
  refine x_Nt (wr := [(q, .inr (8, [.ref q1, .int 0, .long 0])), (q1, .inl (cy 6, 6, .inr (.inr (.inr (.inr (va_up (va_up (va_up (fun _ => none) 0 (some q2)) 1 (some q6)) 2 (some q10)))))))] ++ (rowW cy q2 u5 ++ (rowW cy q6 u9 ++ rowW cy q10 u13))) F h yk_X4_init h.2.2.2.2.2.2.2.2.2.2.2.2.2.2.2.2.1 mw_72 rfl (c_Row_init l D cy q14) rfl hl.1 rfl (Nat.le_of_ble_eq_true rfl) ⟨Nat.le_of_ble_eq_true rfl, Nat.le_of_ble_eq_true rfl⟩ ⟨Nat.le_of_ble_eq_true rfl, Nat.le_of_ble_eq_true rfl⟩ dX8_init_43 (fun u17 H locs hp15 h => ?_)
  have h : xS D cy A s.heap ([(q, .inr (8, [.ref q1, .int 0, .long 0])), (q1, .inl (cy 6, 6, .inr (.inr (.inr (.inr (va_up (va_up (va_up (fun _ => none) 0 (some q2)) 1 (some q6)) 2 (some q10)))))))] ++ (rowW cy q2 u5 ++ (rowW cy q6 u9 ++ (rowW cy q10 u13 ++ rowW cy q14 u17)))) s H locs := h
  refine x_aast F h 1 6 8 4 rfl rfl rfl rfl (x_in (by decide +kernel)) dX8_init_46 (ws' := [(q, .inr (8, [.ref q1, .int 0, .long 0])), (q1, .inl (cy 6, 6, .inr (.inr (.inr (.inr (va_up (va_up (va_up (va_up (fun _ => none) 0 (some q2)) 1 (some q6)) 2 (some q10)) 3 (some q14)))))))] ++ (rowW cy q2 u5 ++ (rowW cy q6 u9 ++ (rowW cy q10 u13 ++ rowW cy q14 u17)))) rfl (fun H locs h => ?_)
  refine lv_iinc (v := 4) (lv' := [(1, .int 4), (0, .ref q)]) F.1 F.2.1 dX8_init_47 hl (k := 0) rfl (by decide) (by decide) rfl (fun ls hl => ?_)
  refine lv_goto (tgt := 25) F.1 F.2.1 dX8_init_50 (by decide) ?_
  refine lv_iload_n F.1 F.2.1 dX8_init_25 rfl (lv_at hl 0 rfl) ?_
  refine lv_aload_n F.1 F.2.1 dX8_init_26 rfl (lv_at hl 1 rfl) ?_
  refine x_get F h 0 0 inlX8 rfl (by decide) mw_120 dX8_init_27 rfl rfl ?_
  refine x_alen (v := 6) F h 1 6 rfl rfl rfl dX8_init_30 ?_
  refine lv_icmp_ge (tgt := 53) F.1 F.2.1 dX8_init_31 (by decide) (fun hc => absurd hc (by decide)) (fun _ => ?_)
  refine lv_aload_n F.1 F.2.1 dX8_init_34 rfl (lv_at hl 1 rfl) ?_
  refine x_get F h 0 0 inlX8 rfl (by decide) mw_120 dX8_init_35 rfl rfl ?_
  refine lv_iload_n F.1 F.2.1 dX8_init_38 rfl (lv_at hl 0 rfl) ?_
  refine x_new F h inlX4 tyX4_ok dfX4 rfl mw_119 mw_35 mw_36 dX8_init_39 (Nat.le_of_ble_eq_true rfl) (Nat.le_of_ble_eq_true rfl) (ws' := fun q18 => [(q, .inr (8, [.ref q1, .int 0, .long 0])), (q1, .inl (cy 6, 6, .inr (.inr (.inr (.inr (va_up (va_up (va_up (va_up (fun _ => none) 0 (some q2)) 1 (some q6)) 2 (some q10)) 3 (some q14)))))))] ++ (rowW cy q2 u5 ++ (rowW cy q6 u9 ++ (rowW cy q10 u13 ++ (rowW cy q14 u17 ++ [(q18, .inr (4, [.null, .int 0]))]))))) (fun _ => rfl) (fun q18 H h => ?_)
  refine lv_dup F.1 F.2.1 dX8_init_42 rfl ?_
  refine x_Nt (wr := [(q, .inr (8, [.ref q1, .int 0, .long 0])), (q1, .inl (cy 6, 6, .inr (.inr (.inr (.inr (va_up (va_up (va_up (va_up (fun _ => none) 0 (some q2)) 1 (some q6)) 2 (some q10)) 3 (some q14)))))))] ++ (rowW cy q2 u5 ++ (rowW cy q6 u9 ++ (rowW cy q10 u13 ++ rowW cy q14 u17)))) F h yk_X4_init h.2.2.2.2.2.2.2.2.2.2.2.2.2.2.2.2.1 mw_72 rfl (c_Row_init l D cy q18) rfl hl.1 rfl (Nat.le_of_ble_eq_true rfl) ⟨Nat.le_of_ble_eq_true rfl, Nat.le_of_ble_eq_true rfl⟩ ⟨Nat.le_of_ble_eq_true rfl, Nat.le_of_ble_eq_true rfl⟩ dX8_init_43 (fun u21 H locs hp19 h => ?_)
  have h : xS D cy A s.heap ([(q, .inr (8, [.ref q1, .int 0, .long 0])), (q1, .inl (cy 6, 6, .inr (.inr (.inr (.inr (va_up (va_up (va_up (va_up (fun _ => none) 0 (some q2)) 1 (some q6)) 2 (some q10)) 3 (some q14)))))))] ++ (rowW cy q2 u5 ++ (rowW cy q6 u9 ++ (rowW cy q10 u13 ++ (rowW cy q14 u17 ++ rowW cy q18 u21))))) s H locs := h
  refine x_aast F h 1 6 10 4 rfl rfl rfl rfl (x_in (by decide +kernel)) dX8_init_46 (ws' := [(q, .inr (8, [.ref q1, .int 0, .long 0])), (q1, .inl (cy 6, 6, .inr (.inr (.inr (.inr (va_up (va_up (va_up (va_up (va_up (fun _ => none) 0 (some q2)) 1 (some q6)) 2 (some q10)) 3 (some q14)) 4 (some q18)))))))] ++ (rowW cy q2 u5 ++ (rowW cy q6 u9 ++ (rowW cy q10 u13 ++ (rowW cy q14 u17 ++ rowW cy q18 u21))))) rfl (fun H locs h => ?_)
  refine lv_iinc (v := 5) (lv' := [(1, .int 5), (0, .ref q)]) F.1 F.2.1 dX8_init_47 hl (k := 0) rfl (by decide) (by decide) rfl (fun ls hl => ?_)
  refine lv_goto (tgt := 25) F.1 F.2.1 dX8_init_50 (by decide) ?_
  refine lv_iload_n F.1 F.2.1 dX8_init_25 rfl (lv_at hl 0 rfl) ?_
  refine lv_aload_n F.1 F.2.1 dX8_init_26 rfl (lv_at hl 1 rfl) ?_
  refine x_get F h 0 0 inlX8 rfl (by decide) mw_120 dX8_init_27 rfl rfl ?_
  refine x_alen (v := 6) F h 1 6 rfl rfl rfl dX8_init_30 ?_
  refine lv_icmp_ge (tgt := 53) F.1 F.2.1 dX8_init_31 (by decide) (fun hc => absurd hc (by decide)) (fun _ => ?_)
  refine lv_aload_n F.1 F.2.1 dX8_init_34 rfl (lv_at hl 1 rfl) ?_
  refine x_get F h 0 0 inlX8 rfl (by decide) mw_120 dX8_init_35 rfl rfl ?_
  refine lv_iload_n F.1 F.2.1 dX8_init_38 rfl (lv_at hl 0 rfl) ?_
  refine x_new F h inlX4 tyX4_ok dfX4 rfl mw_119 mw_35 mw_36 dX8_init_39 (Nat.le_of_ble_eq_true rfl) (Nat.le_of_ble_eq_true rfl) (ws' := fun q22 => [(q, .inr (8, [.ref q1, .int 0, .long 0])), (q1, .inl (cy 6, 6, .inr (.inr (.inr (.inr (va_up (va_up (va_up (va_up (va_up (fun _ => none) 0 (some q2)) 1 (some q6)) 2 (some q10)) 3 (some q14)) 4 (some q18)))))))] ++ (rowW cy q2 u5 ++ (rowW cy q6 u9 ++ (rowW cy q10 u13 ++ (rowW cy q14 u17 ++ (rowW cy q18 u21 ++ [(q22, .inr (4, [.null, .int 0]))])))))) (fun _ => rfl) (fun q22 H h => ?_)
  refine lv_dup F.1 F.2.1 dX8_init_42 rfl ?_
  refine x_Nt (wr := [(q, .inr (8, [.ref q1, .int 0, .long 0])), (q1, .inl (cy 6, 6, .inr (.inr (.inr (.inr (va_up (va_up (va_up (va_up (va_up (fun _ => none) 0 (some q2)) 1 (some q6)) 2 (some q10)) 3 (some q14)) 4 (some q18)))))))] ++ (rowW cy q2 u5 ++ (rowW cy q6 u9 ++ (rowW cy q10 u13 ++ (rowW cy q14 u17 ++ rowW cy q18 u21))))) F h yk_X4_init h.2.2.2.2.2.2.2.2.2.2.2.2.2.2.2.2.1 mw_72 rfl (c_Row_init l D cy q22) rfl hl.1 rfl (Nat.le_of_ble_eq_true rfl) ⟨Nat.le_of_ble_eq_true rfl, Nat.le_of_ble_eq_true rfl⟩ ⟨Nat.le_of_ble_eq_true rfl, Nat.le_of_ble_eq_true rfl⟩ dX8_init_43 (fun u25 H locs hp23 h => ?_)
  have h : xS D cy A s.heap ([(q, .inr (8, [.ref q1, .int 0, .long 0])), (q1, .inl (cy 6, 6, .inr (.inr (.inr (.inr (va_up (va_up (va_up (va_up (va_up (fun _ => none) 0 (some q2)) 1 (some q6)) 2 (some q10)) 3 (some q14)) 4 (some q18)))))))] ++ (rowW cy q2 u5 ++ (rowW cy q6 u9 ++ (rowW cy q10 u13 ++ (rowW cy q14 u17 ++ (rowW cy q18 u21 ++ rowW cy q22 u25)))))) s H locs := h
  refine x_aast F h 1 6 12 4 rfl rfl rfl rfl (x_in (by decide +kernel)) dX8_init_46 (ws' := [(q, .inr (8, [.ref q1, .int 0, .long 0])), (q1, .inl (cy 6, 6, .inr (.inr (.inr (.inr (va_up (va_up (va_up (va_up (va_up (va_up (fun _ => none) 0 (some q2)) 1 (some q6)) 2 (some q10)) 3 (some q14)) 4 (some q18)) 5 (some q22)))))))] ++ (rowW cy q2 u5 ++ (rowW cy q6 u9 ++ (rowW cy q10 u13 ++ (rowW cy q14 u17 ++ (rowW cy q18 u21 ++ rowW cy q22 u25)))))) rfl (fun H locs h => ?_)
  refine lv_iinc (v := 6) (lv' := [(1, .int 6), (0, .ref q)]) F.1 F.2.1 dX8_init_47 hl (k := 0) rfl (by decide) (by decide) rfl (fun ls hl => ?_)
  refine lv_goto (tgt := 25) F.1 F.2.1 dX8_init_50 (by decide) ?_
  refine lv_iload_n F.1 F.2.1 dX8_init_25 rfl (lv_at hl 0 rfl) ?_
  refine lv_aload_n F.1 F.2.1 dX8_init_26 rfl (lv_at hl 1 rfl) ?_
  refine x_get F h 0 0 inlX8 rfl (by decide) mw_120 dX8_init_27 rfl rfl ?_
  refine x_alen (v := 6) F h 1 6 rfl rfl rfl dX8_init_30 ?_
  refine lv_icmp_ge (tgt := 53) F.1 F.2.1 dX8_init_31 (by decide) (fun _ => ?_) (fun hc => absurd (by decide) hc)
  exact x_vret F h hr hlk (fun k => ([q1, q2, q6, q10, q14, q18, q22, (u5 0), (u9 0), (u13 0), (u17 0), (u21 0), (u25 0)] : List Nat).getD k 0) [0, 1, 2, 3, 4, 5, 6, 7, 8, 9, 10, 11, 12, 13] (trivial) (by decide +kernel) rfl (Nat.le_of_ble_eq_true rfl) (Nat.le_of_ble_eq_true rfl) dX8_init_53
def earFW (cy : Nat → ClassId) (q a b : Nat) (u : Nat → Nat) : va_W := [(q, .inr (1, [.ref a, .ref b, .int 0, .int 0, .ref ((u 0)), .int 0, .ref ((u 1)), .ref ((u 2)), .ref ((u 3))])), (((u 0)), .inl (cy 1, 12, .inl (fun _ => 0))), (((u 1)), .inl (cy 1, 192, .inl (fun _ => 0))), (((u 2)), .inl (cy 1, 12, .inl (fun _ => 0))), (((u 3)), .inl (cy 1, 9, .inl (fun _ => 0)))]
set_option maxHeartbeats 4000000 in
set_option maxRecDepth 100000 in
theorem c_earF_init (l : Launch) (D : va_G) (cy : Nat → ClassId) (q a b : Nat) : ∀ sz, Met l yX1_init (Cond.code yX1_init cX1_init 3 none :: wsL_law) { frames := 1, cells := 4, slots := 225, locals := 20 } (va_Pc [.ref q, .ref a, .ref b] (xP D cy ([(q, .inr (1, [.null, .null, .int 0, .int 0, .null, .int 0, .null, .null, .null]))]) sz)) (va_Qv (fun _ => True) (xB D (va_A ([(q, .inr (1, [.null, .null, .int 0, .int 0, .null, .int 0, .null, .null, .null]))]) sz) (fun u => earFW cy q a b u)) (va_A ([(q, .inr (1, [.null, .null, .int 0, .int 0, .null, .int 0, .null, .null, .null]))]) sz)) 4 225 (va_A ([(q, .inr (1, [.null, .null, .int 0, .int 0, .null, .int 0, .null, .null, .null]))]) sz) := by
  refine x_enter (fun A => va_Qv (fun _ => True) (xB D A (fun u => earFW cy q a b u)) A) (by decide +kernel) rfl (Nat.le_of_ble_eq_true rfl) ?_
  intro p e s m below meth c A ls F hr hlk hin h hl
  have hl : lv_has ls 3 [(0, .ref q), (1, .ref a), (2, .ref b)] := hl
  refine lv_aload_n F.1 F.2.1 dX1_init_0 rfl (lv_at hl 0 rfl) ?_
  refine x_obj F mw_167 mw_11 mw_12 hl.1 dX1_init_1 (Nat.le_of_ble_eq_true rfl) (Nat.le_of_ble_eq_true rfl) ?_
  refine lv_aload_n F.1 F.2.1 dX1_init_4 rfl (lv_at hl 0 rfl) ?_
  refine lv_iconst (v := 0) F.1 F.2.1 dX1_init_5 (by decide) ?_
  refine x_put F h 0 2 inlX1 tyX1_ok nmX1 rfl (by decide) mw_168 dX1_init_6 rfl rfl rfl rfl (Nat.le_of_ble_eq_true rfl) (ws' := [(q, .inr (1, [.null, .null, .int 0, .int 0, .null, .int 0, .null, .null, .null]))]) rfl (fun H locs h => ?_)
  refine lv_aload_n F.1 F.2.1 dX1_init_9 rfl (lv_at hl 0 rfl) ?_
  refine lv_iconst (v := 0) F.1 F.2.1 dX1_init_10 (by decide) ?_
  refine x_put F h 0 3 inlX1 tyX1_ok nmX1 rfl (by decide) mw_169 dX1_init_11 rfl rfl rfl rfl (Nat.le_of_ble_eq_true rfl) (ws' := [(q, .inr (1, [.null, .null, .int 0, .int 0, .null, .int 0, .null, .null, .null]))]) rfl (fun H locs h => ?_)
  refine lv_aload_n F.1 F.2.1 dX1_init_14 rfl (lv_at hl 0 rfl) ?_
  refine lv_bipush (v := 12) F.1 F.2.1 dX1_init_15 (by decide) ?_
  refine x_newa (atype := .int) (ty := .int) (k := 1) (N' := 12) (a0 := (12, .inl (fun _ => 0))) F h rfl rfl mw_38 (fun _ => rfl) (by decide) (by decide) (Nat.le_of_ble_eq_true rfl) (Nat.le_of_ble_eq_true rfl) (Nat.le_of_ble_eq_true rfl) dX1_init_17 (ws' := fun q1 => [(q, .inr (1, [.null, .null, .int 0, .int 0, .null, .int 0, .null, .null, .null])), (q1, .inl (cy 1, 12, .inl (fun _ => 0)))]) (fun _ => rfl) (fun q1 H h => ?_)
  refine x_putF F h hin 0 4 inlX1 tyX1_ok nmX1 rfl (by decide) mw_170 dX1_init_19 rfl rfl rfl rfl rfl (Nat.le_of_ble_eq_true rfl) (ws' := [(q, .inr (1, [.null, .null, .int 0, .int 0, .ref q1, .int 0, .null, .null, .null])), (q1, .inl (cy 1, 12, .inl (fun _ => 0)))]) rfl (fun H locs h => ?_)
  refine lv_aload_n F.1 F.2.1 dX1_init_22 rfl (lv_at hl 0 rfl) ?_
  refine lv_iconst (v := 0) F.1 F.2.1 dX1_init_23 (by decide) ?_
  refine x_put F h 0 5 inlX1 tyX1_ok nmX1 rfl (by decide) mw_171 dX1_init_24 rfl rfl rfl rfl (Nat.le_of_ble_eq_true rfl) (ws' := [(q, .inr (1, [.null, .null, .int 0, .int 0, .ref q1, .int 0, .null, .null, .null])), (q1, .inl (cy 1, 12, .inl (fun _ => 0)))]) rfl (fun H locs h => ?_)
  refine lv_aload_n F.1 F.2.1 dX1_init_27 rfl (lv_at hl 0 rfl) ?_
  refine lv_sipush (v := 192) F.1 F.2.1 dX1_init_28 (by decide) ?_
  refine x_newa (atype := .int) (ty := .int) (k := 1) (N' := 192) (a0 := (192, .inl (fun _ => 0))) F h rfl rfl mw_38 (fun _ => rfl) (by decide) (by decide) (Nat.le_of_ble_eq_true rfl) (Nat.le_of_ble_eq_true rfl) (Nat.le_of_ble_eq_true rfl) dX1_init_31 (ws' := fun q2 => [(q, .inr (1, [.null, .null, .int 0, .int 0, .ref q1, .int 0, .null, .null, .null])), (q1, .inl (cy 1, 12, .inl (fun _ => 0))), (q2, .inl (cy 1, 192, .inl (fun _ => 0)))]) (fun _ => rfl) (fun q2 H h => ?_)
  refine x_putF F h hin 0 6 inlX1 tyX1_ok nmX1 rfl (by decide) mw_172 dX1_init_33 rfl rfl rfl rfl rfl (Nat.le_of_ble_eq_true rfl) (ws' := [(q, .inr (1, [.null, .null, .int 0, .int 0, .ref q1, .int 0, .ref q2, .null, .null])), (q1, .inl (cy 1, 12, .inl (fun _ => 0))), (q2, .inl (cy 1, 192, .inl (fun _ => 0)))]) rfl (fun H locs h => ?_)
  refine lv_aload_n F.1 F.2.1 dX1_init_36 rfl (lv_at hl 0 rfl) ?_
  refine lv_bipush (v := 12) F.1 F.2.1 dX1_init_37 (by decide) ?_
  refine x_newa (atype := .int) (ty := .int) (k := 1) (N' := 12) (a0 := (12, .inl (fun _ => 0))) F h rfl rfl mw_38 (fun _ => rfl) (by decide) (by decide) (Nat.le_of_ble_eq_true rfl) (Nat.le_of_ble_eq_true rfl) (Nat.le_of_ble_eq_true rfl) dX1_init_39 (ws' := fun q3 => [(q, .inr (1, [.null, .null, .int 0, .int 0, .ref q1, .int 0, .ref q2, .null, .null])), (q1, .inl (cy 1, 12, .inl (fun _ => 0))), (q2, .inl (cy 1, 192, .inl (fun _ => 0))), (q3, .inl (cy 1, 12, .inl (fun _ => 0)))]) (fun _ => rfl) (fun q3 H h => ?_)
  refine x_putF F h hin 0 7 inlX1 tyX1_ok nmX1 rfl (by decide) mw_173 dX1_init_41 rfl rfl rfl rfl rfl (Nat.le_of_ble_eq_true rfl) (ws' := [(q, .inr (1, [.null, .null, .int 0, .int 0, .ref q1, .int 0, .ref q2, .ref q3, .null])), (q1, .inl (cy 1, 12, .inl (fun _ => 0))), (q2, .inl (cy 1, 192, .inl (fun _ => 0))), (q3, .inl (cy 1, 12, .inl (fun _ => 0)))]) rfl (fun H locs h => ?_)
  refine lv_aload_n F.1 F.2.1 dX1_init_44 rfl (lv_at hl 0 rfl) ?_
  refine lv_bipush (v := 9) F.1 F.2.1 dX1_init_45 (by decide) ?_
  refine x_newa (atype := .int) (ty := .int) (k := 1) (N' := 9) (a0 := (9, .inl (fun _ => 0))) F h rfl rfl mw_38 (fun _ => rfl) (by decide) (by decide) (Nat.le_of_ble_eq_true rfl) (Nat.le_of_ble_eq_true rfl) (Nat.le_of_ble_eq_true rfl) dX1_init_47 (ws' := fun q4 => [(q, .inr (1, [.null, .null, .int 0, .int 0, .ref q1, .int 0, .ref q2, .ref q3, .null])), (q1, .inl (cy 1, 12, .inl (fun _ => 0))), (q2, .inl (cy 1, 192, .inl (fun _ => 0))), (q3, .inl (cy 1, 12, .inl (fun _ => 0))), (q4, .inl (cy 1, 9, .inl (fun _ => 0)))]) (fun _ => rfl) (fun q4 H h => ?_)
  refine x_putF F h hin 0 8 inlX1 tyX1_ok nmX1 rfl (by decide) mw_174 dX1_init_49 rfl rfl rfl rfl rfl (Nat.le_of_ble_eq_true rfl) (ws' := [(q, .inr (1, [.null, .null, .int 0, .int 0, .ref q1, .int 0, .ref q2, .ref q3, .ref q4])), (q1, .inl (cy 1, 12, .inl (fun _ => 0))), (q2, .inl (cy 1, 192, .inl (fun _ => 0))), (q3, .inl (cy 1, 12, .inl (fun _ => 0))), (q4, .inl (cy 1, 9, .inl (fun _ => 0)))]) rfl (fun H locs h => ?_)
  refine lv_aload_n F.1 F.2.1 dX1_init_52 rfl (lv_at hl 0 rfl) ?_
  refine lv_aload_n F.1 F.2.1 dX1_init_53 rfl (lv_at hl 1 rfl) ?_
  refine x_put F h 0 0 inlX1 tyX1_ok nmX1 rfl (by decide) mw_175 dX1_init_54 rfl rfl rfl rfl (Nat.le_of_ble_eq_true rfl) (ws' := [(q, .inr (1, [.ref a, .null, .int 0, .int 0, .ref q1, .int 0, .ref q2, .ref q3, .ref q4])), (q1, .inl (cy 1, 12, .inl (fun _ => 0))), (q2, .inl (cy 1, 192, .inl (fun _ => 0))), (q3, .inl (cy 1, 12, .inl (fun _ => 0))), (q4, .inl (cy 1, 9, .inl (fun _ => 0)))]) rfl (fun H locs h => ?_)
  refine lv_aload_n F.1 F.2.1 dX1_init_57 rfl (lv_at hl 0 rfl) ?_
  refine lv_aload_n F.1 F.2.1 dX1_init_58 rfl (lv_at hl 2 rfl) ?_
  refine x_put F h 0 1 inlX1 tyX1_ok nmX1 rfl (by decide) mw_176 dX1_init_59 rfl rfl rfl rfl (Nat.le_of_ble_eq_true rfl) (ws' := [(q, .inr (1, [.ref a, .ref b, .int 0, .int 0, .ref q1, .int 0, .ref q2, .ref q3, .ref q4])), (q1, .inl (cy 1, 12, .inl (fun _ => 0))), (q2, .inl (cy 1, 192, .inl (fun _ => 0))), (q3, .inl (cy 1, 12, .inl (fun _ => 0))), (q4, .inl (cy 1, 9, .inl (fun _ => 0)))]) rfl (fun H locs h => ?_)
  exact x_vret F h hr hlk (fun k => ([q1, q2, q3, q4] : List Nat).getD k 0) [0, 1, 2, 3, 4] (trivial) (by decide +kernel) rfl (Nat.le_of_ble_eq_true rfl) (Nat.le_of_ble_eq_true rfl) dX1_init_62
def sayFW (cy : Nat → ClassId) (q a b s0 s1 g0 g1 g2 g3 : Nat) (u : Nat → Nat) : va_W := [(q, .inr (5, [.ref ((u 0)), .ref ((u 2)), .int 0, .int (-1), .ref a, .ref s0, .ref b, .int 0])), (a, .inr (1, [.ref s0, .ref s1, .int 0, .int 0, .ref g0, .int 0, .ref g1, .ref g2, .ref g3])), (((u 0)), .inr (4, [.ref ((u 1)), .int 0])), (((u 1)), .inl (cy 2, 12, .inr (.inl (fun _ => 0)))), (((u 2)), .inl (cy 1, 5, .inl (fun _ => 0)))]
set_option maxHeartbeats 4000000 in
set_option maxRecDepth 100000 in
theorem c_sayF_init (l : Launch) (D : va_G) (cy : Nat → ClassId) (q a b s0 s1 g0 g1 g2 g3 : Nat) : ∀ sz, Met l yX5_init (Cond.code yX5_init cX5_init 3 none :: wsL_law) { frames := 2, cells := 3, slots := 19, locals := 40 } (va_Pc [.ref q, .ref a, .ref b] (xP D cy ([(q, .inr (5, [.null, .null, .int 0, .int 0, .null, .null, .null, .int 0])), (a, .inr (1, [.ref s0, .ref s1, .int 0, .int 0, .ref g0, .int 0, .ref g1, .ref g2, .ref g3]))]) sz)) (va_Qv (fun _ => True) (xB D (va_A ([(q, .inr (5, [.null, .null, .int 0, .int 0, .null, .null, .null, .int 0])), (a, .inr (1, [.ref s0, .ref s1, .int 0, .int 0, .ref g0, .int 0, .ref g1, .ref g2, .ref g3]))]) sz) (fun u => sayFW cy q a b s0 s1 g0 g1 g2 g3 u)) (va_A ([(q, .inr (5, [.null, .null, .int 0, .int 0, .null, .null, .null, .int 0])), (a, .inr (1, [.ref s0, .ref s1, .int 0, .int 0, .ref g0, .int 0, .ref g1, .ref g2, .ref g3]))]) sz)) 3 19 (va_A ([(q, .inr (5, [.null, .null, .int 0, .int 0, .null, .null, .null, .int 0])), (a, .inr (1, [.ref s0, .ref s1, .int 0, .int 0, .ref g0, .int 0, .ref g1, .ref g2, .ref g3]))]) sz) := by
  refine x_enter (fun A => va_Qv (fun _ => True) (xB D A (fun u => sayFW cy q a b s0 s1 g0 g1 g2 g3 u)) A) (by decide +kernel) rfl (Nat.le_of_ble_eq_true rfl) ?_
  intro p e s m below meth c A ls F hr hlk hin h hl
  have hl : lv_has ls 3 [(0, .ref q), (1, .ref a), (2, .ref b)] := hl
  refine lv_aload_n F.1 F.2.1 dX5_init_0 rfl (lv_at hl 0 rfl) ?_
  refine x_obj F mw_181 mw_11 mw_12 hl.1 dX5_init_1 (Nat.le_of_ble_eq_true rfl) (Nat.le_of_ble_eq_true rfl) ?_
  refine lv_aload_n F.1 F.2.1 dX5_init_4 rfl (lv_at hl 0 rfl) ?_
  refine x_new F h inlX4 tyX4_ok dfX4 rfl mw_182 mw_35 mw_36 dX5_init_5 (Nat.le_of_ble_eq_true rfl) (Nat.le_of_ble_eq_true rfl) (ws' := fun q1 => [(q, .inr (5, [.null, .null, .int 0, .int 0, .null, .null, .null, .int 0])), (a, .inr (1, [.ref s0, .ref s1, .int 0, .int 0, .ref g0, .int 0, .ref g1, .ref g2, .ref g3])), (q1, .inr (4, [.null, .int 0]))]) (fun _ => rfl) (fun q1 H h => ?_)
  refine lv_dup F.1 F.2.1 dX5_init_8 rfl ?_
  refine x_Nt (wr := [(q, .inr (5, [.null, .null, .int 0, .int 0, .null, .null, .null, .int 0])), (a, .inr (1, [.ref s0, .ref s1, .int 0, .int 0, .ref g0, .int 0, .ref g1, .ref g2, .ref g3]))]) F h yk_X4_init h.2.2.2.2.2.2.2.2.2.2.2.2.2.1 mw_72 rfl (c_Row_init l D cy q1) rfl hl.1 rfl (Nat.le_of_ble_eq_true rfl) ⟨Nat.le_of_ble_eq_true rfl, Nat.le_of_ble_eq_true rfl⟩ ⟨Nat.le_of_ble_eq_true rfl, Nat.le_of_ble_eq_true rfl⟩ dX5_init_9 (fun u4 H locs hp2 h => ?_)
  have h : xS D cy A s.heap ([(q, .inr (5, [.null, .null, .int 0, .int 0, .null, .null, .null, .int 0])), (a, .inr (1, [.ref s0, .ref s1, .int 0, .int 0, .ref g0, .int 0, .ref g1, .ref g2, .ref g3]))] ++ rowW cy q1 u4) s H locs := h
  refine x_putF F h hin 0 0 inlX5 tyX5_ok nmX5 rfl (by decide) mw_183 dX5_init_12 rfl rfl rfl rfl rfl (Nat.le_of_ble_eq_true rfl) (ws' := [(q, .inr (5, [.ref q1, .null, .int 0, .int 0, .null, .null, .null, .int 0])), (a, .inr (1, [.ref s0, .ref s1, .int 0, .int 0, .ref g0, .int 0, .ref g1, .ref g2, .ref g3]))] ++ rowW cy q1 u4) rfl (fun H locs h => ?_)
  refine lv_aload_n F.1 F.2.1 dX5_init_15 rfl (lv_at hl 0 rfl) ?_
  refine lv_iconst (v := 5) F.1 F.2.1 dX5_init_16 (by decide) ?_
  refine x_newa (atype := .int) (ty := .int) (k := 1) (N' := 5) (a0 := (5, .inl (fun _ => 0))) F h rfl rfl mw_38 (fun _ => rfl) (by decide) (by decide) (Nat.le_of_ble_eq_true rfl) (Nat.le_of_ble_eq_true rfl) (Nat.le_of_ble_eq_true rfl) dX5_init_17 (ws' := fun q5 => [(q, .inr (5, [.ref q1, .null, .int 0, .int 0, .null, .null, .null, .int 0])), (a, .inr (1, [.ref s0, .ref s1, .int 0, .int 0, .ref g0, .int 0, .ref g1, .ref g2, .ref g3]))] ++ (rowW cy q1 u4 ++ [(q5, .inl (cy 1, 5, .inl (fun _ => 0)))])) (fun _ => rfl) (fun q5 H h => ?_)
  refine x_putF F h hin 0 1 inlX5 tyX5_ok nmX5 rfl (by decide) mw_184 dX5_init_19 rfl rfl rfl rfl rfl (Nat.le_of_ble_eq_true rfl) (ws' := [(q, .inr (5, [.ref q1, .ref q5, .int 0, .int 0, .null, .null, .null, .int 0])), (a, .inr (1, [.ref s0, .ref s1, .int 0, .int 0, .ref g0, .int 0, .ref g1, .ref g2, .ref g3]))] ++ (rowW cy q1 u4 ++ [(q5, .inl (cy 1, 5, .inl (fun _ => 0)))])) rfl (fun H locs h => ?_)
  refine lv_aload_n F.1 F.2.1 dX5_init_22 rfl (lv_at hl 0 rfl) ?_
  refine lv_iconst (v := 0) F.1 F.2.1 dX5_init_23 (by decide) ?_
  refine x_put F h 0 2 inlX5 tyX5_ok nmX5 rfl (by decide) mw_185 dX5_init_24 rfl rfl rfl rfl (Nat.le_of_ble_eq_true rfl) (ws' := [(q, .inr (5, [.ref q1, .ref q5, .int 0, .int 0, .null, .null, .null, .int 0])), (a, .inr (1, [.ref s0, .ref s1, .int 0, .int 0, .ref g0, .int 0, .ref g1, .ref g2, .ref g3]))] ++ (rowW cy q1 u4 ++ [(q5, .inl (cy 1, 5, .inl (fun _ => 0)))])) rfl (fun H locs h => ?_)
  refine lv_aload_n F.1 F.2.1 dX5_init_27 rfl (lv_at hl 0 rfl) ?_
  refine lv_iconst (v := (-1)) F.1 F.2.1 dX5_init_28 (by decide) ?_
  refine x_put F h 0 3 inlX5 tyX5_ok nmX5 rfl (by decide) mw_186 dX5_init_29 rfl rfl rfl rfl (Nat.le_of_ble_eq_true rfl) (ws' := [(q, .inr (5, [.ref q1, .ref q5, .int 0, .int (-1), .null, .null, .null, .int 0])), (a, .inr (1, [.ref s0, .ref s1, .int 0, .int 0, .ref g0, .int 0, .ref g1, .ref g2, .ref g3]))] ++ (rowW cy q1 u4 ++ [(q5, .inl (cy 1, 5, .inl (fun _ => 0)))])) rfl (fun H locs h => ?_)
  refine lv_aload_n F.1 F.2.1 dX5_init_32 rfl (lv_at hl 0 rfl) ?_
  refine lv_iconst (v := 0) F.1 F.2.1 dX5_init_33 (by decide) ?_
  refine x_put F h 0 7 inlX5 tyX5_ok nmX5 rfl (by decide) mw_187 dX5_init_34 rfl rfl rfl rfl (Nat.le_of_ble_eq_true rfl) (ws' := [(q, .inr (5, [.ref q1, .ref q5, .int 0, .int (-1), .null, .null, .null, .int 0])), (a, .inr (1, [.ref s0, .ref s1, .int 0, .int 0, .ref g0, .int 0, .ref g1, .ref g2, .ref g3]))] ++ (rowW cy q1 u4 ++ [(q5, .inl (cy 1, 5, .inl (fun _ => 0)))])) rfl (fun H locs h => ?_)
  refine lv_aload_n F.1 F.2.1 dX5_init_37 rfl (lv_at hl 0 rfl) ?_
  refine lv_aload_n F.1 F.2.1 dX5_init_38 rfl (lv_at hl 1 rfl) ?_
  refine x_put F h 0 4 inlX5 tyX5_ok nmX5 rfl (by decide) mw_188 dX5_init_39 rfl rfl rfl rfl (Nat.le_of_ble_eq_true rfl) (ws' := [(q, .inr (5, [.ref q1, .ref q5, .int 0, .int (-1), .ref a, .null, .null, .int 0])), (a, .inr (1, [.ref s0, .ref s1, .int 0, .int 0, .ref g0, .int 0, .ref g1, .ref g2, .ref g3]))] ++ (rowW cy q1 u4 ++ [(q5, .inl (cy 1, 5, .inl (fun _ => 0)))])) rfl (fun H locs h => ?_)
  refine lv_aload_n F.1 F.2.1 dX5_init_42 rfl (lv_at hl 0 rfl) ?_
  refine lv_aload_n F.1 F.2.1 dX5_init_43 rfl (lv_at hl 1 rfl) ?_
  refine x_get F h 1 0 inlX1 rfl (by decide) mw_189 dX5_init_44 rfl rfl ?_
  refine x_put F h 0 5 inlX5 tyX5_ok nmX5 rfl (by decide) mw_190 dX5_init_47 rfl rfl rfl rfl (Nat.le_of_ble_eq_true rfl) (ws' := [(q, .inr (5, [.ref q1, .ref q5, .int 0, .int (-1), .ref a, .ref s0, .null, .int 0])), (a, .inr (1, [.ref s0, .ref s1, .int 0, .int 0, .ref g0, .int 0, .ref g1, .ref g2, .ref g3]))] ++ (rowW cy q1 u4 ++ [(q5, .inl (cy 1, 5, .inl (fun _ => 0)))])) rfl (fun H locs h => ?_)
  refine lv_aload_n F.1 F.2.1 dX5_init_50 rfl (lv_at hl 0 rfl) ?_
  refine lv_aload_n F.1 F.2.1 dX5_init_51 rfl (lv_at hl 2 rfl) ?_
  refine x_put F h 0 6 inlX5 tyX5_ok nmX5 rfl (by decide) mw_191 dX5_init_52 rfl rfl rfl rfl (Nat.le_of_ble_eq_true rfl) (ws' := [(q, .inr (5, [.ref q1, .ref q5, .int 0, .int (-1), .ref a, .ref s0, .ref b, .int 0])), (a, .inr (1, [.ref s0, .ref s1, .int 0, .int 0, .ref g0, .int 0, .ref g1, .ref g2, .ref g3]))] ++ (rowW cy q1 u4 ++ [(q5, .inl (cy 1, 5, .inl (fun _ => 0)))])) rfl (fun H locs h => ?_)
  exact x_vret F h hr hlk (fun k => ([q1, (u4 0), q5] : List Nat).getD k 0) [0, 1, 2, 3, 4] (trivial) (by decide +kernel) rfl (Nat.le_of_ble_eq_true rfl) (Nat.le_of_ble_eq_true rfl) dX5_init_55
set_option maxHeartbeats 4000000 in
set_option maxRecDepth 100000 in
theorem c_readerF_init (l : Launch) (D : va_G) (cy : Nat → ClassId) (q : Nat) : ∀ sz, Met l yX3_init (Cond.code yX3_init cX3_init 1 none :: wsL_law) { frames := 2, cells := 23, slots := 3706, locals := 40 } (va_Pc [.ref q] (xP D cy ([(q, .inr (3, [.null, .null, .int 0, .int 0, .null, .null, .null, .null, .int 0, .null, .null, .int 0, .int 0, .int 0]))]) sz)) (va_Qv (fun _ => True) (xB D (va_A ([(q, .inr (3, [.null, .null, .int 0, .int 0, .null, .null, .null, .null, .int 0, .null, .null, .int 0, .int 0, .int 0]))]) sz) (fun u => readerFW cy q u)) (va_A ([(q, .inr (3, [.null, .null, .int 0, .int 0, .null, .null, .null, .null, .int 0, .null, .null, .int 0, .int 0, .int 0]))]) sz)) 23 3706 (va_A ([(q, .inr (3, [.null, .null, .int 0, .int 0, .null, .null, .null, .null, .int 0, .null, .null, .int 0, .int 0, .int 0]))]) sz) := by
  refine x_enter (fun A => va_Qv (fun _ => True) (xB D A (fun u => readerFW cy q u)) A) (by decide +kernel) rfl (Nat.le_of_ble_eq_true rfl) ?_
  intro p e s m below meth c A ls F hr hlk hin h hl
  have hl : lv_has ls 1 [(0, .ref q)] := hl
  refine lv_aload_n F.1 F.2.1 dX3_init_0 rfl (lv_at hl 0 rfl) ?_
  refine x_obj F mw_52 mw_11 mw_12 hl.1 dX3_init_1 (Nat.le_of_ble_eq_true rfl) (Nat.le_of_ble_eq_true rfl) ?_
  refine lv_aload_n F.1 F.2.1 dX3_init_4 rfl (lv_at hl 0 rfl) ?_
  refine x_new F h inlX4 tyX4_ok dfX4 rfl mw_53 mw_35 mw_36 dX3_init_5 (Nat.le_of_ble_eq_true rfl) (Nat.le_of_ble_eq_true rfl) (ws' := fun q1 => [(q, .inr (3, [.null, .null, .int 0, .int 0, .null, .null, .null, .null, .int 0, .null, .null, .int 0, .int 0, .int 0])), (q1, .inr (4, [.null, .int 0]))]) (fun _ => rfl) (fun q1 H h => ?_)
  refine lv_dup F.1 F.2.1 dX3_init_8 rfl ?_
  refine x_Nt (wr := [(q, .inr (3, [.null, .null, .int 0, .int 0, .null, .null, .null, .null, .int 0, .null, .null, .int 0, .int 0, .int 0]))]) F h yk_X4_init h.2.2.2.2.2.2.2.2.2.2.2.1 mw_72 rfl (c_Row_init l D cy q1) rfl hl.1 rfl (Nat.le_of_ble_eq_true rfl) ⟨Nat.le_of_ble_eq_true rfl, Nat.le_of_ble_eq_true rfl⟩ ⟨Nat.le_of_ble_eq_true rfl, Nat.le_of_ble_eq_true rfl⟩ dX3_init_9 (fun u4 H locs hp2 h => ?_)
  have h : xS D cy A s.heap ([(q, .inr (3, [.null, .null, .int 0, .int 0, .null, .null, .null, .null, .int 0, .null, .null, .int 0, .int 0, .int 0]))] ++ rowW cy q1 u4) s H locs := h
  refine x_putF F h hin 0 0 inlX3 tyX3_ok nmX3 rfl (by decide) mw_54 dX3_init_12 rfl rfl rfl rfl rfl (Nat.le_of_ble_eq_true rfl) (ws' := [(q, .inr (3, [.ref q1, .null, .int 0, .int 0, .null, .null, .null, .null, .int 0, .null, .null, .int 0, .int 0, .int 0]))] ++ rowW cy q1 u4) rfl (fun H locs h => ?_)
  refine lv_aload_n F.1 F.2.1 dX3_init_15 rfl (lv_at hl 0 rfl) ?_
  refine x_new F h inlX6 tyX6_ok dfX6 rfl mw_55 mw_56 mw_57 dX3_init_16 (Nat.le_of_ble_eq_true rfl) (Nat.le_of_ble_eq_true rfl) (ws' := fun q5 => [(q, .inr (3, [.ref q1, .null, .int 0, .int 0, .null, .null, .null, .null, .int 0, .null, .null, .int 0, .int 0, .int 0]))] ++ (rowW cy q1 u4 ++ [(q5, .inr (6, [.null, .null, .null, .null, .null, .null, .null, .null, .null, .null, .null, .null, .null, .null, .int 0, .int 0, .int 0, .int 0, .int 0]))])) (fun _ => rfl) (fun q5 H h => ?_)
  refine lv_dup F.1 F.2.1 dX3_init_19 rfl ?_
  refine x_Nt (wr := [(q, .inr (3, [.ref q1, .null, .int 0, .int 0, .null, .null, .null, .null, .int 0, .null, .null, .int 0, .int 0, .int 0]))] ++ rowW cy q1 u4) F h yk_X6_init h.2.2.2.2.2.2.2.2.2.2.2.2.1 mw_77 rfl (c_Script_init l D cy q5) rfl hl.1 rfl (Nat.le_of_ble_eq_true rfl) ⟨Nat.le_of_ble_eq_true rfl, Nat.le_of_ble_eq_true rfl⟩ ⟨Nat.le_of_ble_eq_true rfl, Nat.le_of_ble_eq_true rfl⟩ dX3_init_20 (fun u8 H locs hp6 h => ?_)
  have h : xS D cy A s.heap ([(q, .inr (3, [.ref q1, .null, .int 0, .int 0, .null, .null, .null, .null, .int 0, .null, .null, .int 0, .int 0, .int 0]))] ++ (rowW cy q1 u4 ++ scriptW cy q5 u8)) s H locs := h
  refine x_put F h 0 1 inlX3 tyX3_ok nmX3 rfl (by decide) mw_58 dX3_init_23 rfl rfl rfl rfl (Nat.le_of_ble_eq_true rfl) (ws' := [(q, .inr (3, [.ref q1, .ref q5, .int 0, .int 0, .null, .null, .null, .null, .int 0, .null, .null, .int 0, .int 0, .int 0]))] ++ (rowW cy q1 u4 ++ scriptW cy q5 u8)) rfl (fun H locs h => ?_)
  refine lv_aload_n F.1 F.2.1 dX3_init_26 rfl (lv_at hl 0 rfl) ?_
  refine lv_iconst (v := (-1)) F.1 F.2.1 dX3_init_27 (by decide) ?_
  refine x_put F h 0 2 inlX3 tyX3_ok nmX3 rfl (by decide) mw_59 dX3_init_28 rfl rfl rfl rfl (Nat.le_of_ble_eq_true rfl) (ws' := [(q, .inr (3, [.ref q1, .ref q5, .int (-1), .int 0, .null, .null, .null, .null, .int 0, .null, .null, .int 0, .int 0, .int 0]))] ++ (rowW cy q1 u4 ++ scriptW cy q5 u8)) rfl (fun H locs h => ?_)
  refine lv_aload_n F.1 F.2.1 dX3_init_31 rfl (lv_at hl 0 rfl) ?_
  refine lv_iconst (v := (-1)) F.1 F.2.1 dX3_init_32 (by decide) ?_
  refine x_put F h 0 3 inlX3 tyX3_ok nmX3 rfl (by decide) mw_60 dX3_init_33 rfl rfl rfl rfl (Nat.le_of_ble_eq_true rfl) (ws' := [(q, .inr (3, [.ref q1, .ref q5, .int (-1), .int (-1), .null, .null, .null, .null, .int 0, .null, .null, .int 0, .int 0, .int 0]))] ++ (rowW cy q1 u4 ++ scriptW cy q5 u8)) rfl (fun H locs h => ?_)
  refine lv_aload_n F.1 F.2.1 dX3_init_36 rfl (lv_at hl 0 rfl) ?_
  refine lv_sipush (v := 601) F.1 F.2.1 dX3_init_37 (by decide) ?_
  refine x_newa (atype := .int) (ty := .int) (k := 1) (N' := 601) (a0 := (601, .inl (fun _ => 0))) F h rfl rfl mw_38 (fun _ => rfl) (by decide) (by decide) (Nat.le_of_ble_eq_true rfl) (Nat.le_of_ble_eq_true rfl) (Nat.le_of_ble_eq_true rfl) dX3_init_40 (ws' := fun q9 => [(q, .inr (3, [.ref q1, .ref q5, .int (-1), .int (-1), .null, .null, .null, .null, .int 0, .null, .null, .int 0, .int 0, .int 0]))] ++ (rowW cy q1 u4 ++ (scriptW cy q5 u8 ++ [(q9, .inl (cy 1, 601, .inl (fun _ => 0)))]))) (fun _ => rfl) (fun q9 H h => ?_)
  refine x_putF F h hin 0 4 inlX3 tyX3_ok nmX3 rfl (by decide) mw_61 dX3_init_42 rfl rfl rfl rfl rfl (Nat.le_of_ble_eq_true rfl) (ws' := [(q, .inr (3, [.ref q1, .ref q5, .int (-1), .int (-1), .ref q9, .null, .null, .null, .int 0, .null, .null, .int 0, .int 0, .int 0]))] ++ (rowW cy q1 u4 ++ (scriptW cy q5 u8 ++ [(q9, .inl (cy 1, 601, .inl (fun _ => 0)))]))) rfl (fun H locs h => ?_)
  refine lv_aload_n F.1 F.2.1 dX3_init_45 rfl (lv_at hl 0 rfl) ?_
  refine lv_sipush (v := 601) F.1 F.2.1 dX3_init_46 (by decide) ?_
  refine x_newa (atype := .int) (ty := .int) (k := 1) (N' := 601) (a0 := (601, .inl (fun _ => 0))) F h rfl rfl mw_38 (fun _ => rfl) (by decide) (by decide) (Nat.le_of_ble_eq_true rfl) (Nat.le_of_ble_eq_true rfl) (Nat.le_of_ble_eq_true rfl) dX3_init_49 (ws' := fun q10 => [(q, .inr (3, [.ref q1, .ref q5, .int (-1), .int (-1), .ref q9, .null, .null, .null, .int 0, .null, .null, .int 0, .int 0, .int 0]))] ++ (rowW cy q1 u4 ++ (scriptW cy q5 u8 ++ [(q9, .inl (cy 1, 601, .inl (fun _ => 0))), (q10, .inl (cy 1, 601, .inl (fun _ => 0)))]))) (fun _ => rfl) (fun q10 H h => ?_)
  refine x_putF F h hin 0 5 inlX3 tyX3_ok nmX3 rfl (by decide) mw_62 dX3_init_51 rfl rfl rfl rfl rfl (Nat.le_of_ble_eq_true rfl) (ws' := [(q, .inr (3, [.ref q1, .ref q5, .int (-1), .int (-1), .ref q9, .ref q10, .null, .null, .int 0, .null, .null, .int 0, .int 0, .int 0]))] ++ (rowW cy q1 u4 ++ (scriptW cy q5 u8 ++ [(q9, .inl (cy 1, 601, .inl (fun _ => 0))), (q10, .inl (cy 1, 601, .inl (fun _ => 0)))]))) rfl (fun H locs h => ?_)
  refine lv_aload_n F.1 F.2.1 dX3_init_54 rfl (lv_at hl 0 rfl) ?_
  refine lv_sipush (v := 601) F.1 F.2.1 dX3_init_55 (by decide) ?_
  refine x_newa (atype := .int) (ty := .int) (k := 1) (N' := 601) (a0 := (601, .inl (fun _ => 0))) F h rfl rfl mw_38 (fun _ => rfl) (by decide) (by decide) (Nat.le_of_ble_eq_true rfl) (Nat.le_of_ble_eq_true rfl) (Nat.le_of_ble_eq_true rfl) dX3_init_58 (ws' := fun q11 => [(q, .inr (3, [.ref q1, .ref q5, .int (-1), .int (-1), .ref q9, .ref q10, .null, .null, .int 0, .null, .null, .int 0, .int 0, .int 0]))] ++ (rowW cy q1 u4 ++ (scriptW cy q5 u8 ++ [(q9, .inl (cy 1, 601, .inl (fun _ => 0))), (q10, .inl (cy 1, 601, .inl (fun _ => 0))), (q11, .inl (cy 1, 601, .inl (fun _ => 0)))]))) (fun _ => rfl) (fun q11 H h => ?_)
  refine x_putF F h hin 0 6 inlX3 tyX3_ok nmX3 rfl (by decide) mw_63 dX3_init_60 rfl rfl rfl rfl rfl (Nat.le_of_ble_eq_true rfl) (ws' := [(q, .inr (3, [.ref q1, .ref q5, .int (-1), .int (-1), .ref q9, .ref q10, .ref q11, .null, .int 0, .null, .null, .int 0, .int 0, .int 0]))] ++ (rowW cy q1 u4 ++ (scriptW cy q5 u8 ++ [(q9, .inl (cy 1, 601, .inl (fun _ => 0))), (q10, .inl (cy 1, 601, .inl (fun _ => 0))), (q11, .inl (cy 1, 601, .inl (fun _ => 0)))]))) rfl (fun H locs h => ?_)
  refine lv_aload_n F.1 F.2.1 dX3_init_63 rfl (lv_at hl 0 rfl) ?_
  refine lv_sipush (v := 601) F.1 F.2.1 dX3_init_64 (by decide) ?_
  refine x_newa (atype := .long) (ty := .long) (k := 2) (N' := 601) (a0 := (601, .inr (.inl (fun _ => 0)))) F h rfl rfl mw_64 (fun _ => rfl) (by decide) (by decide) (Nat.le_of_ble_eq_true rfl) (Nat.le_of_ble_eq_true rfl) (Nat.le_of_ble_eq_true rfl) dX3_init_67 (ws' := fun q12 => [(q, .inr (3, [.ref q1, .ref q5, .int (-1), .int (-1), .ref q9, .ref q10, .ref q11, .null, .int 0, .null, .null, .int 0, .int 0, .int 0]))] ++ (rowW cy q1 u4 ++ (scriptW cy q5 u8 ++ [(q9, .inl (cy 1, 601, .inl (fun _ => 0))), (q10, .inl (cy 1, 601, .inl (fun _ => 0))), (q11, .inl (cy 1, 601, .inl (fun _ => 0))), (q12, .inl (cy 2, 601, .inr (.inl (fun _ => 0))))]))) (fun _ => rfl) (fun q12 H h => ?_)
  refine x_putF F h hin 0 7 inlX3 tyX3_ok nmX3 rfl (by decide) mw_65 dX3_init_69 rfl rfl rfl rfl rfl (Nat.le_of_ble_eq_true rfl) (ws' := [(q, .inr (3, [.ref q1, .ref q5, .int (-1), .int (-1), .ref q9, .ref q10, .ref q11, .ref q12, .int 0, .null, .null, .int 0, .int 0, .int 0]))] ++ (rowW cy q1 u4 ++ (scriptW cy q5 u8 ++ [(q9, .inl (cy 1, 601, .inl (fun _ => 0))), (q10, .inl (cy 1, 601, .inl (fun _ => 0))), (q11, .inl (cy 1, 601, .inl (fun _ => 0))), (q12, .inl (cy 2, 601, .inr (.inl (fun _ => 0))))]))) rfl (fun H locs h => ?_)
  refine lv_aload_n F.1 F.2.1 dX3_init_72 rfl (lv_at hl 0 rfl) ?_
  refine lv_iconst (v := 0) F.1 F.2.1 dX3_init_73 (by decide) ?_
  refine x_put F h 0 8 inlX3 tyX3_ok nmX3 rfl (by decide) mw_66 dX3_init_74 rfl rfl rfl rfl (Nat.le_of_ble_eq_true rfl) (ws' := [(q, .inr (3, [.ref q1, .ref q5, .int (-1), .int (-1), .ref q9, .ref q10, .ref q11, .ref q12, .int 0, .null, .null, .int 0, .int 0, .int 0]))] ++ (rowW cy q1 u4 ++ (scriptW cy q5 u8 ++ [(q9, .inl (cy 1, 601, .inl (fun _ => 0))), (q10, .inl (cy 1, 601, .inl (fun _ => 0))), (q11, .inl (cy 1, 601, .inl (fun _ => 0))), (q12, .inl (cy 2, 601, .inr (.inl (fun _ => 0))))]))) rfl (fun H locs h => ?_)
  refine lv_aload_n F.1 F.2.1 dX3_init_77 rfl (lv_at hl 0 rfl) ?_
  refine lv_bipush (v := 100) F.1 F.2.1 dX3_init_78 (by decide) ?_
  refine x_newa (atype := .int) (ty := .int) (k := 1) (N' := 100) (a0 := (100, .inl (fun _ => 0))) F h rfl rfl mw_38 (fun _ => rfl) (by decide) (by decide) (Nat.le_of_ble_eq_true rfl) (Nat.le_of_ble_eq_true rfl) (Nat.le_of_ble_eq_true rfl) dX3_init_80 (ws' := fun q13 => [(q, .inr (3, [.ref q1, .ref q5, .int (-1), .int (-1), .ref q9, .ref q10, .ref q11, .ref q12, .int 0, .null, .null, .int 0, .int 0, .int 0]))] ++ (rowW cy q1 u4 ++ (scriptW cy q5 u8 ++ [(q9, .inl (cy 1, 601, .inl (fun _ => 0))), (q10, .inl (cy 1, 601, .inl (fun _ => 0))), (q11, .inl (cy 1, 601, .inl (fun _ => 0))), (q12, .inl (cy 2, 601, .inr (.inl (fun _ => 0)))), (q13, .inl (cy 1, 100, .inl (fun _ => 0)))]))) (fun _ => rfl) (fun q13 H h => ?_)
  refine x_putF F h hin 0 9 inlX3 tyX3_ok nmX3 rfl (by decide) mw_67 dX3_init_82 rfl rfl rfl rfl rfl (Nat.le_of_ble_eq_true rfl) (ws' := [(q, .inr (3, [.ref q1, .ref q5, .int (-1), .int (-1), .ref q9, .ref q10, .ref q11, .ref q12, .int 0, .ref q13, .null, .int 0, .int 0, .int 0]))] ++ (rowW cy q1 u4 ++ (scriptW cy q5 u8 ++ [(q9, .inl (cy 1, 601, .inl (fun _ => 0))), (q10, .inl (cy 1, 601, .inl (fun _ => 0))), (q11, .inl (cy 1, 601, .inl (fun _ => 0))), (q12, .inl (cy 2, 601, .inr (.inl (fun _ => 0)))), (q13, .inl (cy 1, 100, .inl (fun _ => 0)))]))) rfl (fun H locs h => ?_)
  refine lv_aload_n F.1 F.2.1 dX3_init_85 rfl (lv_at hl 0 rfl) ?_
  refine lv_bipush (v := 100) F.1 F.2.1 dX3_init_86 (by decide) ?_
  refine x_newa (atype := .int) (ty := .int) (k := 1) (N' := 100) (a0 := (100, .inl (fun _ => 0))) F h rfl rfl mw_38 (fun _ => rfl) (by decide) (by decide) (Nat.le_of_ble_eq_true rfl) (Nat.le_of_ble_eq_true rfl) (Nat.le_of_ble_eq_true rfl) dX3_init_88 (ws' := fun q14 => [(q, .inr (3, [.ref q1, .ref q5, .int (-1), .int (-1), .ref q9, .ref q10, .ref q11, .ref q12, .int 0, .ref q13, .null, .int 0, .int 0, .int 0]))] ++ (rowW cy q1 u4 ++ (scriptW cy q5 u8 ++ [(q9, .inl (cy 1, 601, .inl (fun _ => 0))), (q10, .inl (cy 1, 601, .inl (fun _ => 0))), (q11, .inl (cy 1, 601, .inl (fun _ => 0))), (q12, .inl (cy 2, 601, .inr (.inl (fun _ => 0)))), (q13, .inl (cy 1, 100, .inl (fun _ => 0))), (q14, .inl (cy 1, 100, .inl (fun _ => 0)))]))) (fun _ => rfl) (fun q14 H h => ?_)
  refine x_putF F h hin 0 10 inlX3 tyX3_ok nmX3 rfl (by decide) mw_68 dX3_init_90 rfl rfl rfl rfl rfl (Nat.le_of_ble_eq_true rfl) (ws' := [(q, .inr (3, [.ref q1, .ref q5, .int (-1), .int (-1), .ref q9, .ref q10, .ref q11, .ref q12, .int 0, .ref q13, .ref q14, .int 0, .int 0, .int 0]))] ++ (rowW cy q1 u4 ++ (scriptW cy q5 u8 ++ [(q9, .inl (cy 1, 601, .inl (fun _ => 0))), (q10, .inl (cy 1, 601, .inl (fun _ => 0))), (q11, .inl (cy 1, 601, .inl (fun _ => 0))), (q12, .inl (cy 2, 601, .inr (.inl (fun _ => 0)))), (q13, .inl (cy 1, 100, .inl (fun _ => 0))), (q14, .inl (cy 1, 100, .inl (fun _ => 0)))]))) rfl (fun H locs h => ?_)
  refine lv_aload_n F.1 F.2.1 dX3_init_93 rfl (lv_at hl 0 rfl) ?_
  refine lv_iconst (v := 0) F.1 F.2.1 dX3_init_94 (by decide) ?_
  refine x_put F h 0 11 inlX3 tyX3_ok nmX3 rfl (by decide) mw_69 dX3_init_95 rfl rfl rfl rfl (Nat.le_of_ble_eq_true rfl) (ws' := [(q, .inr (3, [.ref q1, .ref q5, .int (-1), .int (-1), .ref q9, .ref q10, .ref q11, .ref q12, .int 0, .ref q13, .ref q14, .int 0, .int 0, .int 0]))] ++ (rowW cy q1 u4 ++ (scriptW cy q5 u8 ++ [(q9, .inl (cy 1, 601, .inl (fun _ => 0))), (q10, .inl (cy 1, 601, .inl (fun _ => 0))), (q11, .inl (cy 1, 601, .inl (fun _ => 0))), (q12, .inl (cy 2, 601, .inr (.inl (fun _ => 0)))), (q13, .inl (cy 1, 100, .inl (fun _ => 0))), (q14, .inl (cy 1, 100, .inl (fun _ => 0)))]))) rfl (fun H locs h => ?_)
  refine lv_aload_n F.1 F.2.1 dX3_init_98 rfl (lv_at hl 0 rfl) ?_
  refine lv_iconst (v := 0) F.1 F.2.1 dX3_init_99 (by decide) ?_
  refine x_put F h 0 12 inlX3 tyX3_ok nmX3 rfl (by decide) mw_70 dX3_init_100 rfl rfl rfl rfl (Nat.le_of_ble_eq_true rfl) (ws' := [(q, .inr (3, [.ref q1, .ref q5, .int (-1), .int (-1), .ref q9, .ref q10, .ref q11, .ref q12, .int 0, .ref q13, .ref q14, .int 0, .int 0, .int 0]))] ++ (rowW cy q1 u4 ++ (scriptW cy q5 u8 ++ [(q9, .inl (cy 1, 601, .inl (fun _ => 0))), (q10, .inl (cy 1, 601, .inl (fun _ => 0))), (q11, .inl (cy 1, 601, .inl (fun _ => 0))), (q12, .inl (cy 2, 601, .inr (.inl (fun _ => 0)))), (q13, .inl (cy 1, 100, .inl (fun _ => 0))), (q14, .inl (cy 1, 100, .inl (fun _ => 0)))]))) rfl (fun H locs h => ?_)
  refine lv_aload_n F.1 F.2.1 dX3_init_103 rfl (lv_at hl 0 rfl) ?_
  refine lv_iconst (v := 0) F.1 F.2.1 dX3_init_104 (by decide) ?_
  refine x_put F h 0 13 inlX3 tyX3_ok nmX3 rfl (by decide) mw_71 dX3_init_105 rfl rfl rfl rfl (Nat.le_of_ble_eq_true rfl) (ws' := [(q, .inr (3, [.ref q1, .ref q5, .int (-1), .int (-1), .ref q9, .ref q10, .ref q11, .ref q12, .int 0, .ref q13, .ref q14, .int 0, .int 0, .int 0]))] ++ (rowW cy q1 u4 ++ (scriptW cy q5 u8 ++ [(q9, .inl (cy 1, 601, .inl (fun _ => 0))), (q10, .inl (cy 1, 601, .inl (fun _ => 0))), (q11, .inl (cy 1, 601, .inl (fun _ => 0))), (q12, .inl (cy 2, 601, .inr (.inl (fun _ => 0)))), (q13, .inl (cy 1, 100, .inl (fun _ => 0))), (q14, .inl (cy 1, 100, .inl (fun _ => 0)))]))) rfl (fun H locs h => ?_)
  exact x_vret F h hr hlk (fun k => ([q1, q5, q9, q10, q11, q12, q13, q14, (u4 0), (u8 0), (u8 1), (u8 2), (u8 3), (u8 4), (u8 5), (u8 6), (u8 7), (u8 8), (u8 9), (u8 10), (u8 11), (u8 12), (u8 13)] : List Nat).getD k 0) [0, 1, 2, 3, 4, 5, 6, 7, 8, 9, 10, 11, 12, 13, 14, 15, 16, 17, 18, 19, 20, 21, 22, 23] (trivial) (by decide +kernel) rfl (Nat.le_of_ble_eq_true rfl) (Nat.le_of_ble_eq_true rfl) dX3_init_108
