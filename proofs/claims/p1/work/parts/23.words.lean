theorem dX6_turn_0 : decode cX6_turn 0 = .ok (.iconst 0, 1) := by decide +kernel
theorem dX6_turn_1 : decode cX6_turn 1 = .ok (.istore 4, 2) := by decide +kernel
theorem dX6_turn_3 : decode cX6_turn 3 = .ok (.iload 4, 2) := by decide +kernel
theorem dX6_turn_5 : decode cX6_turn 5 = .ok (.aload_n 0, 1) := by decide +kernel
theorem dX6_turn_6 : decode cX6_turn 6 = .ok (.getfield 62, 3) := by decide +kernel
theorem dX6_turn_9 : decode cX6_turn 9 = .ok (.if_icmp .ge 39, 3) := by decide +kernel
theorem dX6_turn_48 : decode cX6_turn 48 = .ok (.lload_n 1, 1) := by decide +kernel
theorem dX6_turn_49 : decode cX6_turn 49 = .ok (.lreturn, 1) := by decide +kernel
theorem dX11_turned_0 : decode cX11_turned 0 = .ok (.iload_n 1, 1) := by decide +kernel
theorem dX11_turned_1 : decode cX11_turned 1 = .ok (.invokestatic 161, 3) := by decide +kernel
theorem dX11_turned_4 : decode cX11_turned 4 = .ok (.ifCond .eq 10, 3) := by decide +kernel
theorem dX11_turned_14 : decode cX11_turned 14 = .ok (.aload_n 0, 1) := by decide +kernel
theorem dX11_turned_15 : decode cX11_turned 15 = .ok (.iconst 1, 1) := by decide +kernel
theorem dX11_turned_16 : decode cX11_turned 16 = .ok (.invokevirtual 140, 3) := by decide +kernel
theorem dX11_turned_19 : decode cX11_turned 19 = .ok (.i2l, 1) := by decide +kernel
theorem dX11_turned_20 : decode cX11_turned 20 = .ok (.lreturn, 1) := by decide +kernel
theorem dX11_turned_7 : decode cX11_turned 7 = .ok (.lload_n 2, 1) := by decide +kernel
theorem dX11_turned_8 : decode cX11_turned 8 = .ok (.invokestatic 260, 3) := by decide +kernel
theorem mw_918 : Cond.methodLink RX11 260 yX11_isWord ∈ wsL_law := inr_39 _ (List.mem_of_getElem? (i := 6) rfl)
theorem mw_920 : Cond.code yX11_isWord cX11_isWord 7 (some .boolean) ∈ wsL_law := inr_39 _ (List.mem_of_getElem? (i := 8) rfl)
theorem yk_X11_isWord : xY yX11_isWord RX11 cX11_isWord 7 (some .boolean) 1 := ⟨⟨rfl, by decide +kernel, by decide +kernel, by decide +kernel⟩, mw_2, mw_920⟩
theorem mw_919 : Cond.static yX11_isWord ∈ wsL_law := inr_39 _ (List.mem_of_getElem? (i := 7) rfl)
theorem dX11_turned_11 : decode cX11_turned 11 = .ok (.ifCond .ne 10, 3) := by decide +kernel
theorem dX11_turned_21 : decode cX11_turned 21 = .ok (.aload_n 0, 1) := by decide +kernel
theorem dX11_turned_22 : decode cX11_turned 22 = .ok (.iconst 0, 1) := by decide +kernel
theorem dX11_turned_23 : decode cX11_turned 23 = .ok (.putfield 79, 3) := by decide +kernel
theorem dX11_turned_26 : decode cX11_turned 26 = .ok (.aload_n 0, 1) := by decide +kernel
theorem dX11_turned_27 : decode cX11_turned 27 = .ok (.getfield 29, 3) := by decide +kernel
theorem dX11_turned_30 : decode cX11_turned 30 = .ok (.getfield 167, 3) := by decide +kernel
theorem dX11_turned_33 : decode cX11_turned 33 = .ok (.iload_n 1, 1) := by decide +kernel
theorem dX11_turned_34 : decode cX11_turned 34 = .ok (.aaload, 1) := by decide +kernel
theorem dX11_turned_35 : decode cX11_turned 35 = .ok (.lload_n 2, 1) := by decide +kernel
theorem dX11_turned_36 : decode cX11_turned 36 = .ok (.iconst (-1), 1) := by decide +kernel
theorem dX11_turned_37 : decode cX11_turned 37 = .ok (.invokevirtual 263, 3) := by decide +kernel
theorem mw_923 : Cond.methodLink RX11 263 yX6_turn ∈ wsL_law := inr_39 _ (List.mem_of_getElem? (i := 11) rfl)
theorem mw_926 : Cond.code yX6_turn cX6_turn 5 (some .long) ∈ wsL_law := inr_39 _ (List.mem_of_getElem? (i := 14) rfl)
theorem yk_X6_turn : xY yX6_turn RX6 cX6_turn 5 (some .long) 2 := ⟨⟨rfl, by decide +kernel, by decide +kernel, by decide +kernel⟩, mw_57, mw_926⟩
theorem mw_924 : Cond.instanceMethod yX6_turn ∈ wsL_law := inr_39 _ (List.mem_of_getElem? (i := 12) rfl)
theorem mw_925 : Cond.selects RX6 yX6_turn yX6_turn ∈ wsL_law := inr_39 _ (List.mem_of_getElem? (i := 13) rfl)
theorem dX11_turned_40 : decode cX11_turned 40 = .ok (.lreturn, 1) := by decide +kernel
theorem dX11_broken_0 : decode cX11_broken 0 = .ok (.lload_n 1, 1) := by decide +kernel
theorem dX11_broken_1 : decode cX11_broken 1 = .ok (.invokestatic 260, 3) := by decide +kernel
theorem dX11_broken_4 : decode cX11_broken 4 = .ok (.ifCond .eq 10, 3) := by decide +kernel
theorem dX11_broken_7 : decode cX11_broken 7 = .ok (.lload_n 3, 1) := by decide +kernel
theorem dX11_broken_8 : decode cX11_broken 8 = .ok (.invokestatic 260, 3) := by decide +kernel
theorem dX11_broken_11 : decode cX11_broken 11 = .ok (.ifCond .ne 9, 3) := by decide +kernel
theorem dX11_broken_20 : decode cX11_broken 20 = .ok (.aload_n 0, 1) := by decide +kernel
theorem dX11_broken_21 : decode cX11_broken 21 = .ok (.getfield 29, 3) := by decide +kernel
theorem dX11_broken_24 : decode cX11_broken 24 = .ok (.getfield 195, 3) := by decide +kernel
theorem dX11_broken_27 : decode cX11_broken 27 = .ok (.bipush 12, 2) := by decide +kernel
theorem dX11_broken_29 : decode cX11_broken 29 = .ok (.if_icmp .lt 9, 3) := by decide +kernel
theorem dX11_broken_38 : decode cX11_broken 38 = .ok (.aload_n 0, 1) := by decide +kernel
theorem dX11_broken_39 : decode cX11_broken 39 = .ok (.aload_n 0, 1) := by decide +kernel
theorem dX11_broken_40 : decode cX11_broken 40 = .ok (.getfield 29, 3) := by decide +kernel
theorem dX11_broken_43 : decode cX11_broken 43 = .ok (.lload_n 1, 1) := by decide +kernel
theorem dX11_broken_44 : decode cX11_broken 44 = .ok (.lload_n 3, 1) := by decide +kernel
theorem dX11_broken_45 : decode cX11_broken 45 = .ok (.invokevirtual 338, 3) := by decide +kernel
theorem mw_1329 : Cond.methodLink RX11 338 yX0_addCouple ∈ wsL_law := inr_56 _ (List.mem_of_getElem? (i := 9) rfl)
theorem mw_1332 : Cond.code yX0_addCouple cX0_addCouple 5 (some .int) ∈ wsL_law := inr_56 _ (List.mem_of_getElem? (i := 12) rfl)
theorem yk_X0_addCouple : xY yX0_addCouple RX0 cX0_addCouple 5 (some .int) 2 := ⟨⟨rfl, by decide +kernel, by decide +kernel, by decide +kernel⟩, mw_23, mw_1332⟩
theorem mw_1330 : Cond.instanceMethod yX0_addCouple ∈ wsL_law := inr_56 _ (List.mem_of_getElem? (i := 10) rfl)
theorem mw_1331 : Cond.selects RX0 yX0_addCouple yX0_addCouple ∈ wsL_law := inr_56 _ (List.mem_of_getElem? (i := 11) rfl)
theorem dX11_broken_48 : decode cX11_broken 48 = .ok (.invokevirtual 158, 3) := by decide +kernel
theorem dX11_broken_51 : decode cX11_broken 51 = .ok (.ireturn, 1) := by decide +kernel
theorem dX11_broken_14 : decode cX11_broken 14 = .ok (.aload_n 0, 1) := by decide +kernel
theorem dX11_broken_15 : decode cX11_broken 15 = .ok (.iconst 1, 1) := by decide +kernel
theorem dX11_broken_16 : decode cX11_broken 16 = .ok (.invokevirtual 140, 3) := by decide +kernel
theorem dX11_broken_19 : decode cX11_broken 19 = .ok (.ireturn, 1) := by decide +kernel
theorem dX11_heard_0 : decode cX11_heard 0 = .ok (.lload_n 1, 1) := by decide +kernel
theorem dX11_heard_1 : decode cX11_heard 1 = .ok (.invokestatic 260, 3) := by decide +kernel
theorem dX11_heard_4 : decode cX11_heard 4 = .ok (.ifCond .ne 9, 3) := by decide +kernel
theorem dX11_heard_13 : decode cX11_heard 13 = .ok (.aload_n 0, 1) := by decide +kernel
theorem dX11_heard_14 : decode cX11_heard 14 = .ok (.aload_n 0, 1) := by decide +kernel
theorem dX11_heard_15 : decode cX11_heard 15 = .ok (.getfield 40, 3) := by decide +kernel
theorem dX11_heard_18 : decode cX11_heard 18 = .ok (.lload_n 1, 1) := by decide +kernel
theorem dX11_heard_19 : decode cX11_heard 19 = .ok (.invokevirtual 403, 3) := by decide +kernel
theorem mw_1545 : Cond.methodLink RX11 403 yX9_timesRead ∈ wsL_law := inr_65 _ (List.mem_of_getElem? (i := 9) rfl)
theorem mw_1548 : Cond.code yX9_timesRead cX9_timesRead 5 (some .int) ∈ wsL_law := inr_65 _ (List.mem_of_getElem? (i := 12) rfl)
theorem yk_X9_timesRead : xY yX9_timesRead RX9 cX9_timesRead 5 (some .int) 1 := ⟨⟨rfl, by decide +kernel, by decide +kernel, by decide +kernel⟩, mw_28, mw_1548⟩
theorem mw_1546 : Cond.instanceMethod yX9_timesRead ∈ wsL_law := inr_65 _ (List.mem_of_getElem? (i := 10) rfl)
theorem mw_1547 : Cond.selects RX9 yX9_timesRead yX9_timesRead ∈ wsL_law := inr_65 _ (List.mem_of_getElem? (i := 11) rfl)
theorem dX11_heard_22 : decode cX11_heard 22 = .ok (.invokevirtual 158, 3) := by decide +kernel
theorem dX11_heard_25 : decode cX11_heard 25 = .ok (.ireturn, 1) := by decide +kernel
theorem dX11_heard_7 : decode cX11_heard 7 = .ok (.aload_n 0, 1) := by decide +kernel
theorem dX11_heard_8 : decode cX11_heard 8 = .ok (.iconst 1, 1) := by decide +kernel
theorem dX11_heard_9 : decode cX11_heard 9 = .ok (.invokevirtual 140, 3) := by decide +kernel
theorem dX11_heard_12 : decode cX11_heard 12 = .ok (.ireturn, 1) := by decide +kernel
theorem dX12_turns_0 : decode cX12_turns 0 = .ok (.iconst 0, 1) := by decide +kernel
theorem dX12_turns_1 : decode cX12_turns 1 = .ok (.istore 4, 2) := by decide +kernel
theorem dX12_turns_3 : decode cX12_turns 3 = .ok (.iload 4, 2) := by decide +kernel
theorem dX12_turns_5 : decode cX12_turns 5 = .ok (.i2l, 1) := by decide +kernel
theorem dX12_turns_6 : decode cX12_turns 6 = .ok (.aload_n 0, 1) := by decide +kernel
theorem dX12_turns_7 : decode cX12_turns 7 = .ok (.getfield 7, 3) := by decide +kernel
theorem dX12_turns_10 : decode cX12_turns 10 = .ok (.iload_n 1, 1) := by decide +kernel
theorem dX12_turns_11 : decode cX12_turns 11 = .ok (.iconst 2, 1) := by decide +kernel
theorem dX12_turns_12 : decode cX12_turns 12 = .ok (.iadd, 1) := by decide +kernel
theorem dX12_turns_13 : decode cX12_turns 13 = .ok (.laload, 1) := by decide +kernel
theorem dX12_turns_14 : decode cX12_turns 14 = .ok (.lcmp, 1) := by decide +kernel
theorem dX12_turns_15 : decode cX12_turns 15 = .ok (.ifCond .ge 54, 3) := by decide +kernel
theorem dX12_turns_69 : decode cX12_turns 69 = .ok (.lload_n 2, 1) := by decide +kernel
theorem dX12_turns_70 : decode cX12_turns 70 = .ok (.lreturn, 1) := by decide +kernel
theorem dX12_turned_0 : decode cX12_turned 0 = .ok (.aload_n 0, 1) := by decide +kernel
theorem dX12_turned_1 : decode cX12_turned 1 = .ok (.iload_n 1, 1) := by decide +kernel
theorem dX12_turned_2 : decode cX12_turned 2 = .ok (.invokevirtual 282, 3) := by decide +kernel
theorem dX12_turned_5 : decode cX12_turned 5 = .ok (.ifCond .eq 27, 3) := by decide +kernel
theorem dX12_turned_32 : decode cX12_turned 32 = .ok (.aload_n 0, 1) := by decide +kernel
theorem dX12_turned_33 : decode cX12_turned 33 = .ok (.iconst 1, 1) := by decide +kernel
theorem dX12_turned_34 : decode cX12_turned 34 = .ok (.invokevirtual 194, 3) := by decide +kernel
theorem dX12_turned_37 : decode cX12_turned 37 = .ok (.i2l, 1) := by decide +kernel
theorem dX12_turned_38 : decode cX12_turned 38 = .ok (.lreturn, 1) := by decide +kernel
theorem dX12_turned_8 : decode cX12_turned 8 = .ok (.lload_n 2, 1) := by decide +kernel
theorem dX12_turned_9 : decode cX12_turned 9 = .ok (.invokestatic 317, 3) := by decide +kernel
theorem mw_931 : Cond.methodLink RX12 317 yX12_isWordNumber ∈ wsL_law := inr_39 _ (List.mem_of_getElem? (i := 19) rfl)
theorem mw_933 : Cond.code yX12_isWordNumber cX12_isWordNumber 5 (some .boolean) ∈ wsL_law := inr_39 _ (List.mem_of_getElem? (i := 21) rfl)
theorem yk_X12_isWordNumber : xY yX12_isWordNumber RX12 cX12_isWordNumber 5 (some .boolean) 1 := ⟨⟨rfl, by decide +kernel, by decide +kernel, by decide +kernel⟩, mw_5, mw_933⟩
theorem mw_932 : Cond.static yX12_isWordNumber ∈ wsL_law := inr_39 _ (List.mem_of_getElem? (i := 20) rfl)
theorem dX12_turned_12 : decode cX12_turned 12 = .ok (.ifCond .eq 20, 3) := by decide +kernel
theorem dX12_turned_15 : decode cX12_turned 15 = .ok (.aload_n 0, 1) := by decide +kernel
theorem dX12_turned_16 : decode cX12_turned 16 = .ok (.aload_n 0, 1) := by decide +kernel
theorem dX12_turned_17 : decode cX12_turned 17 = .ok (.sipush 1650, 3) := by decide +kernel
theorem dX12_turned_20 : decode cX12_turned 20 = .ok (.iload_n 1, 1) := by decide +kernel
theorem dX12_turned_21 : decode cX12_turned 21 = .ok (.imul, 1) := by decide +kernel
theorem dX12_turned_22 : decode cX12_turned 22 = .ok (.lload_n 2, 1) := by decide +kernel
theorem dX12_turned_23 : decode cX12_turned 23 = .ok (.invokevirtual 320, 3) := by decide +kernel
theorem mw_937 : Cond.methodLink RX12 320 yX12_turns ∈ wsL_law := inr_40 _ (List.mem_of_getElem? (i := 1) rfl)
theorem mw_940 : Cond.code yX12_turns cX12_turns 5 (some .long) ∈ wsL_law := inr_40 _ (List.mem_of_getElem? (i := 4) rfl)
theorem yk_X12_turns : xY yX12_turns RX12 cX12_turns 5 (some .long) 2 := ⟨⟨rfl, by decide +kernel, by decide +kernel, by decide +kernel⟩, mw_5, mw_940⟩
theorem mw_938 : Cond.instanceMethod yX12_turns ∈ wsL_law := inr_40 _ (List.mem_of_getElem? (i := 2) rfl)
theorem mw_939 : Cond.selects RX12 yX12_turns yX12_turns ∈ wsL_law := inr_40 _ (List.mem_of_getElem? (i := 3) rfl)
theorem dX12_turned_26 : decode cX12_turned 26 = .ok (.invokevirtual 216, 3) := by decide +kernel
theorem mw_801 : Cond.methodLink RX12 216 yX12_givesLong ∈ wsL_law := inr_34 _ (List.mem_of_getElem? (i := 9) rfl)
theorem mw_804 : Cond.code yX12_givesLong cX12_givesLong 3 (some .long) ∈ wsL_law := inr_34 _ (List.mem_of_getElem? (i := 12) rfl)
theorem yk_X12_givesLong : xY yX12_givesLong RX12 cX12_givesLong 3 (some .long) 1 := ⟨⟨rfl, by decide +kernel, by decide +kernel, by decide +kernel⟩, mw_5, mw_804⟩
theorem mw_802 : Cond.instanceMethod yX12_givesLong ∈ wsL_law := inr_34 _ (List.mem_of_getElem? (i := 10) rfl)
theorem mw_803 : Cond.selects RX12 yX12_givesLong yX12_givesLong ∈ wsL_law := inr_34 _ (List.mem_of_getElem? (i := 11) rfl)
theorem dX12_turned_29 : decode cX12_turned 29 = .ok (.goto 9, 3) := by decide +kernel
theorem dX12_broken_0 : decode cX12_broken 0 = .ok (.lload_n 1, 1) := by decide +kernel
theorem dX12_broken_1 : decode cX12_broken 1 = .ok (.invokestatic 317, 3) := by decide +kernel
theorem dX12_broken_4 : decode cX12_broken 4 = .ok (.ifCond .eq 10, 3) := by decide +kernel
theorem dX12_broken_7 : decode cX12_broken 7 = .ok (.lload_n 3, 1) := by decide +kernel
theorem dX12_broken_8 : decode cX12_broken 8 = .ok (.invokestatic 317, 3) := by decide +kernel
theorem dX12_broken_11 : decode cX12_broken 11 = .ok (.ifCond .ne 9, 3) := by decide +kernel
theorem dX12_broken_20 : decode cX12_broken 20 = .ok (.aload_n 0, 1) := by decide +kernel
theorem dX12_broken_21 : decode cX12_broken 21 = .ok (.getfield 7, 3) := by decide +kernel
theorem dX12_broken_24 : decode cX12_broken 24 = .ok (.sipush 5159, 3) := by decide +kernel
theorem dX12_broken_27 : decode cX12_broken 27 = .ok (.laload, 1) := by decide +kernel
theorem dX12_broken_28 : decode cX12_broken 28 = .ok (.l2i, 1) := by decide +kernel
theorem dX12_broken_29 : decode cX12_broken 29 = .ok (.istore 5, 2) := by decide +kernel
theorem dX12_broken_31 : decode cX12_broken 31 = .ok (.iload 5, 2) := by decide +kernel
theorem dX12_broken_33 : decode cX12_broken 33 = .ok (.bipush 12, 2) := by decide +kernel
theorem dX12_broken_35 : decode cX12_broken 35 = .ok (.if_icmp .ne 9, 3) := by decide +kernel
theorem dX12_broken_44 : decode cX12_broken 44 = .ok (.aload_n 0, 1) := by decide +kernel
theorem dX12_broken_45 : decode cX12_broken 45 = .ok (.getfield 7, 3) := by decide +kernel
theorem dX12_broken_48 : decode cX12_broken 48 = .ok (.sipush 5160, 3) := by decide +kernel
theorem dX12_broken_51 : decode cX12_broken 51 = .ok (.iconst 2, 1) := by decide +kernel
theorem dX12_broken_52 : decode cX12_broken 52 = .ok (.iload 5, 2) := by decide +kernel
theorem dX12_broken_54 : decode cX12_broken 54 = .ok (.imul, 1) := by decide +kernel
theorem dX12_broken_55 : decode cX12_broken 55 = .ok (.iadd, 1) := by decide +kernel
theorem dX12_broken_56 : decode cX12_broken 56 = .ok (.lload_n 1, 1) := by decide +kernel
theorem dX12_broken_57 : decode cX12_broken 57 = .ok (.lastore, 1) := by decide +kernel
theorem dX12_broken_58 : decode cX12_broken 58 = .ok (.aload_n 0, 1) := by decide +kernel
theorem dX12_broken_59 : decode cX12_broken 59 = .ok (.getfield 7, 3) := by decide +kernel
theorem dX12_broken_62 : decode cX12_broken 62 = .ok (.sipush 5160, 3) := by decide +kernel
theorem dX12_broken_65 : decode cX12_broken 65 = .ok (.iconst 2, 1) := by decide +kernel
theorem dX12_broken_66 : decode cX12_broken 66 = .ok (.iload 5, 2) := by decide +kernel
theorem dX12_broken_68 : decode cX12_broken 68 = .ok (.imul, 1) := by decide +kernel
theorem dX12_broken_69 : decode cX12_broken 69 = .ok (.iadd, 1) := by decide +kernel
theorem dX12_broken_70 : decode cX12_broken 70 = .ok (.iconst 1, 1) := by decide +kernel
theorem dX12_broken_71 : decode cX12_broken 71 = .ok (.iadd, 1) := by decide +kernel
theorem dX12_broken_72 : decode cX12_broken 72 = .ok (.lload_n 3, 1) := by decide +kernel
theorem dX12_broken_73 : decode cX12_broken 73 = .ok (.lastore, 1) := by decide +kernel
theorem dX12_broken_74 : decode cX12_broken 74 = .ok (.aload_n 0, 1) := by decide +kernel
theorem dX12_broken_75 : decode cX12_broken 75 = .ok (.getfield 7, 3) := by decide +kernel
theorem dX12_broken_78 : decode cX12_broken 78 = .ok (.sipush 5159, 3) := by decide +kernel
theorem dX12_broken_81 : decode cX12_broken 81 = .ok (.dup2, 1) := by decide +kernel
theorem dX12_broken_82 : decode cX12_broken 82 = .ok (.laload, 1) := by decide +kernel
theorem dX12_broken_83 : decode cX12_broken 83 = .ok (.lconst 1, 1) := by decide +kernel
theorem dX12_broken_84 : decode cX12_broken 84 = .ok (.ladd, 1) := by decide +kernel
theorem dX12_broken_85 : decode cX12_broken 85 = .ok (.lastore, 1) := by decide +kernel
theorem dX12_broken_86 : decode cX12_broken 86 = .ok (.aload_n 0, 1) := by decide +kernel
theorem dX12_broken_87 : decode cX12_broken 87 = .ok (.iload 5, 2) := by decide +kernel
theorem dX12_broken_89 : decode cX12_broken 89 = .ok (.iconst 1, 1) := by decide +kernel
theorem dX12_broken_90 : decode cX12_broken 90 = .ok (.iadd, 1) := by decide +kernel
theorem dX12_broken_91 : decode cX12_broken 91 = .ok (.invokevirtual 209, 3) := by decide +kernel
theorem dX12_broken_94 : decode cX12_broken 94 = .ok (.ireturn, 1) := by decide +kernel
theorem dX12_broken_14 : decode cX12_broken 14 = .ok (.aload_n 0, 1) := by decide +kernel
theorem dX12_broken_15 : decode cX12_broken 15 = .ok (.iconst 1, 1) := by decide +kernel
theorem dX12_broken_16 : decode cX12_broken 16 = .ok (.invokevirtual 194, 3) := by decide +kernel
theorem dX12_broken_19 : decode cX12_broken 19 = .ok (.ireturn, 1) := by decide +kernel
theorem dX12_heard_0 : decode cX12_heard 0 = .ok (.lload_n 1, 1) := by decide +kernel
theorem dX12_heard_1 : decode cX12_heard 1 = .ok (.invokestatic 317, 3) := by decide +kernel
theorem dX12_heard_4 : decode cX12_heard 4 = .ok (.ifCond .ne 9, 3) := by decide +kernel
theorem dX12_heard_13 : decode cX12_heard 13 = .ok (.iconst 0, 1) := by decide +kernel
theorem dX12_heard_14 : decode cX12_heard 14 = .ok (.istore_n 3, 1) := by decide +kernel
theorem dX12_heard_15 : decode cX12_heard 15 = .ok (.iconst 0, 1) := by decide +kernel
theorem dX12_heard_16 : decode cX12_heard 16 = .ok (.istore 4, 2) := by decide +kernel
theorem dX12_heard_18 : decode cX12_heard 18 = .ok (.iload 4, 2) := by decide +kernel
theorem dX12_heard_20 : decode cX12_heard 20 = .ok (.aload_n 0, 1) := by decide +kernel
theorem dX12_heard_21 : decode cX12_heard 21 = .ok (.getfield 416, 3) := by decide +kernel
theorem dX12_heard_24 : decode cX12_heard 24 = .ok (.if_icmp .ge 98, 3) := by decide +kernel
theorem dX12_heard_122 : decode cX12_heard 122 = .ok (.aload_n 0, 1) := by decide +kernel
theorem dX12_heard_123 : decode cX12_heard 123 = .ok (.iload_n 3, 1) := by decide +kernel
theorem dX12_heard_124 : decode cX12_heard 124 = .ok (.invokevirtual 209, 3) := by decide +kernel
theorem dX12_heard_127 : decode cX12_heard 127 = .ok (.ireturn, 1) := by decide +kernel
theorem dX12_heard_7 : decode cX12_heard 7 = .ok (.aload_n 0, 1) := by decide +kernel
theorem dX12_heard_8 : decode cX12_heard 8 = .ok (.iconst 1, 1) := by decide +kernel
theorem dX12_heard_9 : decode cX12_heard 9 = .ok (.invokevirtual 194, 3) := by decide +kernel
theorem dX12_heard_12 : decode cX12_heard 12 = .ok (.ireturn, 1) := by decide +kernel
set_option maxHeartbeats 4000000 in
set_option maxRecDepth 100000 in
theorem c_turn (l : Launch) (D : va_G) (cy : Nat → ClassId) (b : Nat) (v : Nat → Nat) (n : Int64) (k : Int32) : ∀ sz, Met l yX6_turn (Cond.code yX6_turn cX6_turn 5 (some .long) :: wsL_law) { frames := 0, cells := 0, slots := 0, locals := 0 } (va_Pc [.ref b, .long n, .int k] (xP D cy ([(b, .inr (6, [.ref ((v 0)), .ref ((v 1)), .ref ((v 2)), .ref ((v 3)), .ref ((v 4)), .ref ((v 5)), .ref ((v 6)), .ref ((v 7)), .ref ((v 8)), .ref ((v 9)), .ref ((v 10)), .ref ((v 11)), .ref ((v 12)), .ref ((v 13)), .int 0, .int 0, .int 0, .int 0, .int 0]))]) sz)) (va_Ql (fun r _ => r = n) (xB D (va_A ([(b, .inr (6, [.ref ((v 0)), .ref ((v 1)), .ref ((v 2)), .ref ((v 3)), .ref ((v 4)), .ref ((v 5)), .ref ((v 6)), .ref ((v 7)), .ref ((v 8)), .ref ((v 9)), .ref ((v 10)), .ref ((v 11)), .ref ((v 12)), .ref ((v 13)), .int 0, .int 0, .int 0, .int 0, .int 0]))]) sz) (fun _ => [])) (va_A ([(b, .inr (6, [.ref ((v 0)), .ref ((v 1)), .ref ((v 2)), .ref ((v 3)), .ref ((v 4)), .ref ((v 5)), .ref ((v 6)), .ref ((v 7)), .ref ((v 8)), .ref ((v 9)), .ref ((v 10)), .ref ((v 11)), .ref ((v 12)), .ref ((v 13)), .int 0, .int 0, .int 0, .int 0, .int 0]))]) sz)) 0 0 (va_A ([(b, .inr (6, [.ref ((v 0)), .ref ((v 1)), .ref ((v 2)), .ref ((v 3)), .ref ((v 4)), .ref ((v 5)), .ref ((v 6)), .ref ((v 7)), .ref ((v 8)), .ref ((v 9)), .ref ((v 10)), .ref ((v 11)), .ref ((v 12)), .ref ((v 13)), .int 0, .int 0, .int 0, .int 0, .int 0]))]) sz) := by
  refine x_enter (fun A => va_Ql (fun r _ => r = n) (xB D A (fun _ => [])) A) (by decide +kernel) rfl (Nat.le_of_ble_eq_true rfl) ?_
  intro p e s m below meth c A ls F hr hlk hin h hl
  have hl : lv_has ls 5 [(0, .ref b), (1, .long n), (3, .int k)] := hl
  refine lv_iconst (v := 0) F.1 F.2.1 dX6_turn_0 (by decide) ?_
  refine lv_istore (lv' := [(4, .int 0), (0, .ref b), (1, .long n), (3, .int k)]) F.1 F.2.1 dX6_turn_1 hl (by decide) rfl (fun ls hl => ?_)
  refine lv_iload F.1 F.2.1 dX6_turn_3 (lv_at hl 0 rfl) ?_
  refine lv_aload_n F.1 F.2.1 dX6_turn_5 rfl (lv_at hl 1 rfl) ?_
  refine x_get F h 0 16 inlX6 rfl (by decide) mw_96 dX6_turn_6 rfl rfl ?_
  refine lv_icmp_ge (tgt := 48) F.1 F.2.1 dX6_turn_9 (by decide) (fun _ => ?_) (fun hc => absurd (by decide) hc)
  refine lv_lload_n F.1 F.2.1 dX6_turn_48 rfl (lv_at hl 2 rfl) ?_
  exact x_lret F h hr hlk (fun _ => 0) [] (rfl) (by decide +kernel) rfl (Nat.le_of_ble_eq_true rfl) (Nat.le_of_ble_eq_true rfl) dX6_turn_49
set_option maxHeartbeats 4000000 in
set_option maxRecDepth 100000 in
theorem c_turned (l : Launch) (D : va_G) (cy : Nat → ClassId) (q : Nat) (u : Nat → Nat) (sc : Int32) (n : Int64) : ∀ sz, Met l yX11_turned (Cond.code yX11_turned cX11_turned 4 (some .long) :: wsL_law) { frames := 1, cells := 0, slots := 0, locals := 26 } (va_Pc [.ref q, .int sc, .long n] (xP D cy ([(q, .inr (11, [.ref ((u 0)), .ref ((u 1)), .ref ((u 2)), .ref ((u 3)), .ref ((u 4)), .ref ((u 5)), .ref ((u 6)), .ref ((u 7)), .ref ((u 8)), .ref ((u 9)), .int 0, .int 0, .int (-1), .int 0, .int 0, .long 0, .long 1])), (((u 3)), .inr (0, [.ref ((u 57)), .ref ((u 58)), .ref ((u 59)), .ref ((u 60)), .ref ((u 61)), .int 0, .int 0])), (((u 57)), .inl (cy 7, 3, .inr (.inr (.inr (.inr (va_up (va_up (va_up (fun _ => none) 0 (some ((u 62)))) 1 (some ((u 63)))) 2 (some ((u 64))))))))), (((u 62)), .inr (6, [.ref ((u 88)), .ref ((u 89)), .ref ((u 90)), .ref ((u 91)), .ref ((u 92)), .ref ((u 93)), .ref ((u 94)), .ref ((u 95)), .ref ((u 96)), .ref ((u 97)), .ref ((u 98)), .ref ((u 99)), .ref ((u 100)), .ref ((u 101)), .int 0, .int 0, .int 0, .int 0, .int 0])), (((u 63)), .inr (6, [.ref ((u 102)), .ref ((u 103)), .ref ((u 104)), .ref ((u 105)), .ref ((u 106)), .ref ((u 107)), .ref ((u 108)), .ref ((u 109)), .ref ((u 110)), .ref ((u 111)), .ref ((u 112)), .ref ((u 113)), .ref ((u 114)), .ref ((u 115)), .int 0, .int 0, .int 0, .int 0, .int 0])), (((u 64)), .inr (6, [.ref ((u 116)), .ref ((u 117)), .ref ((u 118)), .ref ((u 119)), .ref ((u 120)), .ref ((u 121)), .ref ((u 122)), .ref ((u 123)), .ref ((u 124)), .ref ((u 125)), .ref ((u 126)), .ref ((u 127)), .ref ((u 128)), .ref ((u 129)), .int 0, .int 0, .int 0, .int 0, .int 0]))]) sz)) (va_Ql (fun r _ => r = if (¬ (sc < 0 ∨ nI 3 ≤ sc)) ∧ wv n = true then n else -1) (xB D (va_A ([(q, .inr (11, [.ref ((u 0)), .ref ((u 1)), .ref ((u 2)), .ref ((u 3)), .ref ((u 4)), .ref ((u 5)), .ref ((u 6)), .ref ((u 7)), .ref ((u 8)), .ref ((u 9)), .int 0, .int 0, .int (-1), .int 0, .int 0, .long 0, .long 1])), (((u 3)), .inr (0, [.ref ((u 57)), .ref ((u 58)), .ref ((u 59)), .ref ((u 60)), .ref ((u 61)), .int 0, .int 0])), (((u 57)), .inl (cy 7, 3, .inr (.inr (.inr (.inr (va_up (va_up (va_up (fun _ => none) 0 (some ((u 62)))) 1 (some ((u 63)))) 2 (some ((u 64))))))))), (((u 62)), .inr (6, [.ref ((u 88)), .ref ((u 89)), .ref ((u 90)), .ref ((u 91)), .ref ((u 92)), .ref ((u 93)), .ref ((u 94)), .ref ((u 95)), .ref ((u 96)), .ref ((u 97)), .ref ((u 98)), .ref ((u 99)), .ref ((u 100)), .ref ((u 101)), .int 0, .int 0, .int 0, .int 0, .int 0])), (((u 63)), .inr (6, [.ref ((u 102)), .ref ((u 103)), .ref ((u 104)), .ref ((u 105)), .ref ((u 106)), .ref ((u 107)), .ref ((u 108)), .ref ((u 109)), .ref ((u 110)), .ref ((u 111)), .ref ((u 112)), .ref ((u 113)), .ref ((u 114)), .ref ((u 115)), .int 0, .int 0, .int 0, .int 0, .int 0])), (((u 64)), .inr (6, [.ref ((u 116)), .ref ((u 117)), .ref ((u 118)), .ref ((u 119)), .ref ((u 120)), .ref ((u 121)), .ref ((u 122)), .ref ((u 123)), .ref ((u 124)), .ref ((u 125)), .ref ((u 126)), .ref ((u 127)), .ref ((u 128)), .ref ((u 129)), .int 0, .int 0, .int 0, .int 0, .int 0]))]) sz) (fun _ => [])) (va_A ([(q, .inr (11, [.ref ((u 0)), .ref ((u 1)), .ref ((u 2)), .ref ((u 3)), .ref ((u 4)), .ref ((u 5)), .ref ((u 6)), .ref ((u 7)), .ref ((u 8)), .ref ((u 9)), .int 0, .int 0, .int (-1), .int 0, .int 0, .long 0, .long 1])), (((u 3)), .inr (0, [.ref ((u 57)), .ref ((u 58)), .ref ((u 59)), .ref ((u 60)), .ref ((u 61)), .int 0, .int 0])), (((u 57)), .inl (cy 7, 3, .inr (.inr (.inr (.inr (va_up (va_up (va_up (fun _ => none) 0 (some ((u 62)))) 1 (some ((u 63)))) 2 (some ((u 64))))))))), (((u 62)), .inr (6, [.ref ((u 88)), .ref ((u 89)), .ref ((u 90)), .ref ((u 91)), .ref ((u 92)), .ref ((u 93)), .ref ((u 94)), .ref ((u 95)), .ref ((u 96)), .ref ((u 97)), .ref ((u 98)), .ref ((u 99)), .ref ((u 100)), .ref ((u 101)), .int 0, .int 0, .int 0, .int 0, .int 0])), (((u 63)), .inr (6, [.ref ((u 102)), .ref ((u 103)), .ref ((u 104)), .ref ((u 105)), .ref ((u 106)), .ref ((u 107)), .ref ((u 108)), .ref ((u 109)), .ref ((u 110)), .ref ((u 111)), .ref ((u 112)), .ref ((u 113)), .ref ((u 114)), .ref ((u 115)), .int 0, .int 0, .int 0, .int 0, .int 0])), (((u 64)), .inr (6, [.ref ((u 116)), .ref ((u 117)), .ref ((u 118)), .ref ((u 119)), .ref ((u 120)), .ref ((u 121)), .ref ((u 122)), .ref ((u 123)), .ref ((u 124)), .ref ((u 125)), .ref ((u 126)), .ref ((u 127)), .ref ((u 128)), .ref ((u 129)), .int 0, .int 0, .int 0, .int 0, .int 0]))]) sz)) 0 0 (va_A ([(q, .inr (11, [.ref ((u 0)), .ref ((u 1)), .ref ((u 2)), .ref ((u 3)), .ref ((u 4)), .ref ((u 5)), .ref ((u 6)), .ref ((u 7)), .ref ((u 8)), .ref ((u 9)), .int 0, .int 0, .int (-1), .int 0, .int 0, .long 0, .long 1])), (((u 3)), .inr (0, [.ref ((u 57)), .ref ((u 58)), .ref ((u 59)), .ref ((u 60)), .ref ((u 61)), .int 0, .int 0])), (((u 57)), .inl (cy 7, 3, .inr (.inr (.inr (.inr (va_up (va_up (va_up (fun _ => none) 0 (some ((u 62)))) 1 (some ((u 63)))) 2 (some ((u 64))))))))), (((u 62)), .inr (6, [.ref ((u 88)), .ref ((u 89)), .ref ((u 90)), .ref ((u 91)), .ref ((u 92)), .ref ((u 93)), .ref ((u 94)), .ref ((u 95)), .ref ((u 96)), .ref ((u 97)), .ref ((u 98)), .ref ((u 99)), .ref ((u 100)), .ref ((u 101)), .int 0, .int 0, .int 0, .int 0, .int 0])), (((u 63)), .inr (6, [.ref ((u 102)), .ref ((u 103)), .ref ((u 104)), .ref ((u 105)), .ref ((u 106)), .ref ((u 107)), .ref ((u 108)), .ref ((u 109)), .ref ((u 110)), .ref ((u 111)), .ref ((u 112)), .ref ((u 113)), .ref ((u 114)), .ref ((u 115)), .int 0, .int 0, .int 0, .int 0, .int 0])), (((u 64)), .inr (6, [.ref ((u 116)), .ref ((u 117)), .ref ((u 118)), .ref ((u 119)), .ref ((u 120)), .ref ((u 121)), .ref ((u 122)), .ref ((u 123)), .ref ((u 124)), .ref ((u 125)), .ref ((u 126)), .ref ((u 127)), .ref ((u 128)), .ref ((u 129)), .int 0, .int 0, .int 0, .int 0, .int 0]))]) sz) := by
  refine x_enter (fun A => va_Ql (fun r _ => r = if (¬ (sc < 0 ∨ nI 3 ≤ sc)) ∧ wv n = true then n else -1) (xB D A (fun _ => [])) A) (by decide +kernel) rfl (Nat.le_of_ble_eq_true rfl) ?_
  intro p e s m below meth c A ls F hr hlk hin h hl
  have hl : lv_has ls 4 [(0, .ref q), (1, .int sc), (2, .long n)] := hl
  refine lv_iload_n F.1 F.2.1 dX11_turned_0 rfl (lv_at hl 1 rfl) ?_
  refine x_St F h yk_X11_isScript mw_511 mw_512 (c_isScript l D cy sc) hl.1 rfl (Nat.le_of_ble_eq_true rfl) ⟨Nat.le_of_ble_eq_true rfl, Nat.le_of_ble_eq_true rfl⟩ ⟨Nat.le_of_ble_eq_true rfl, Nat.le_of_ble_eq_true rfl⟩ dX11_turned_1 (fun r2 u3 H locs hp1 h => ?_)
  rcases x_tr (n := 3) hp1 with ⟨rfl, ht4⟩ | ⟨rfl, ht5, ht6⟩
  · refine lv_if_eq (tgt := 14) F.1 F.2.1 dX11_turned_4 (by decide) (fun _ => ?_) (fun hc => absurd (by decide) hc)
    refine lv_aload_n F.1 F.2.1 dX11_turned_14 rfl (lv_at hl 0 rfl) ?_
    refine lv_iconst (v := 1) F.1 F.2.1 dX11_turned_15 (by decide) ?_
    refine x_Vi (wr := [(((u 3)), .inr (0, [.ref ((u 57)), .ref ((u 58)), .ref ((u 59)), .ref ((u 60)), .ref ((u 61)), .int 0, .int 0])), (((u 57)), .inl (cy 7, 3, .inr (.inr (.inr (.inr (va_up (va_up (va_up (fun _ => none) 0 (some ((u 62)))) 1 (some ((u 63)))) 2 (some ((u 64))))))))), (((u 62)), .inr (6, [.ref ((u 88)), .ref ((u 89)), .ref ((u 90)), .ref ((u 91)), .ref ((u 92)), .ref ((u 93)), .ref ((u 94)), .ref ((u 95)), .ref ((u 96)), .ref ((u 97)), .ref ((u 98)), .ref ((u 99)), .ref ((u 100)), .ref ((u 101)), .int 0, .int 0, .int 0, .int 0, .int 0])), (((u 63)), .inr (6, [.ref ((u 102)), .ref ((u 103)), .ref ((u 104)), .ref ((u 105)), .ref ((u 106)), .ref ((u 107)), .ref ((u 108)), .ref ((u 109)), .ref ((u 110)), .ref ((u 111)), .ref ((u 112)), .ref ((u 113)), .ref ((u 114)), .ref ((u 115)), .int 0, .int 0, .int 0, .int 0, .int 0])), (((u 64)), .inr (6, [.ref ((u 116)), .ref ((u 117)), .ref ((u 118)), .ref ((u 119)), .ref ((u 120)), .ref ((u 121)), .ref ((u 122)), .ref ((u 123)), .ref ((u 124)), .ref ((u 125)), .ref ((u 126)), .ref ((u 127)), .ref ((u 128)), .ref ((u 129)), .int 0, .int 0, .int 0, .int 0, .int 0]))]) F h yk_X11_refuse mw_378 mw_379 mw_380 (c_refuse l D cy q ([.ref ((u 0)), .ref ((u 1)), .ref ((u 2)), .ref ((u 3)), .ref ((u 4)), .ref ((u 5)), .ref ((u 6)), .ref ((u 7)), .ref ((u 8)), .ref ((u 9)), .int 0, .int 0, .int (-1), .int 0, .int 0, .long 0, .long 1]) rfl 1) [0] [1, 2, 3, 4, 5] 0 rfl rfl rfl rfl (by decide) rfl rfl hl.1 rfl (Nat.le_of_ble_eq_true rfl) ⟨Nat.le_of_ble_eq_true rfl, Nat.le_of_ble_eq_true rfl⟩ ⟨Nat.le_of_ble_eq_true rfl, Nat.le_of_ble_eq_true rfl⟩ dX11_turned_16 (fun r8 u9 H locs hp7 h => ?_)
    have h : xS D cy A s.heap ([(((u 3)), .inr (0, [.ref ((u 57)), .ref ((u 58)), .ref ((u 59)), .ref ((u 60)), .ref ((u 61)), .int 0, .int 0])), (((u 57)), .inl (cy 7, 3, .inr (.inr (.inr (.inr (va_up (va_up (va_up (fun _ => none) 0 (some ((u 62)))) 1 (some ((u 63)))) 2 (some ((u 64))))))))), (((u 62)), .inr (6, [.ref ((u 88)), .ref ((u 89)), .ref ((u 90)), .ref ((u 91)), .ref ((u 92)), .ref ((u 93)), .ref ((u 94)), .ref ((u 95)), .ref ((u 96)), .ref ((u 97)), .ref ((u 98)), .ref ((u 99)), .ref ((u 100)), .ref ((u 101)), .int 0, .int 0, .int 0, .int 0, .int 0])), (((u 63)), .inr (6, [.ref ((u 102)), .ref ((u 103)), .ref ((u 104)), .ref ((u 105)), .ref ((u 106)), .ref ((u 107)), .ref ((u 108)), .ref ((u 109)), .ref ((u 110)), .ref ((u 111)), .ref ((u 112)), .ref ((u 113)), .ref ((u 114)), .ref ((u 115)), .int 0, .int 0, .int 0, .int 0, .int 0])), (((u 64)), .inr (6, [.ref ((u 116)), .ref ((u 117)), .ref ((u 118)), .ref ((u 119)), .ref ((u 120)), .ref ((u 121)), .ref ((u 122)), .ref ((u 123)), .ref ((u 124)), .ref ((u 125)), .ref ((u 126)), .ref ((u 127)), .ref ((u 128)), .ref ((u 129)), .int 0, .int 0, .int 0, .int 0, .int 0]))]) s H locs := h
    obtain rfl : r8 = (-1) := hp7
    refine lv_i2l (v := (-1)) F.1 F.2.1 dX11_turned_19 (by decide +kernel) ?_
    exact x_lret F h hr hlk (fun _ => 0) [] (by simp [ht4]) (by decide +kernel) rfl (Nat.le_of_ble_eq_true rfl) (Nat.le_of_ble_eq_true rfl) dX11_turned_20
  · refine lv_if_eq (tgt := 14) F.1 F.2.1 dX11_turned_4 (by decide) (fun hc => absurd hc (by decide)) (fun _ => ?_)
    refine lv_lload_n F.1 F.2.1 dX11_turned_7 rfl (lv_at hl 2 rfl) ?_
    refine x_St F h yk_X11_isWord mw_918 mw_919 (c_isWord l D cy n) hl.1 rfl (Nat.le_of_ble_eq_true rfl) ⟨Nat.le_of_ble_eq_true rfl, Nat.le_of_ble_eq_true rfl⟩ ⟨Nat.le_of_ble_eq_true rfl, Nat.le_of_ble_eq_true rfl⟩ dX11_turned_8 (fun r11 u12 H locs hp10 h => ?_)
    by_cases hw13 : wv n = true
    · obtain rfl : r11 = 1 := by rw [hp10]; simp [hw13]
      refine lv_if_ne (tgt := 21) F.1 F.2.1 dX11_turned_11 (by decide) (fun _ => ?_) (fun hc => absurd hc (by decide))
      rcases x_c3 ht5 ht6 with rfl | rfl | rfl
      · refine lv_aload_n F.1 F.2.1 dX11_turned_21 rfl (lv_at hl 0 rfl) ?_
        refine lv_iconst (v := 0) F.1 F.2.1 dX11_turned_22 (by decide) ?_
        refine x_put F h 0 14 inlX11 tyX11_ok nmX11 rfl (by decide) mw_45 dX11_turned_23 rfl rfl rfl rfl (Nat.le_of_ble_eq_true rfl) (ws' := [(q, .inr (11, [.ref ((u 0)), .ref ((u 1)), .ref ((u 2)), .ref ((u 3)), .ref ((u 4)), .ref ((u 5)), .ref ((u 6)), .ref ((u 7)), .ref ((u 8)), .ref ((u 9)), .int 0, .int 0, .int (-1), .int 0, .int 0, .long 0, .long 1])), (((u 3)), .inr (0, [.ref ((u 57)), .ref ((u 58)), .ref ((u 59)), .ref ((u 60)), .ref ((u 61)), .int 0, .int 0])), (((u 57)), .inl (cy 7, 3, .inr (.inr (.inr (.inr (va_up (va_up (va_up (fun _ => none) 0 (some ((u 62)))) 1 (some ((u 63)))) 2 (some ((u 64))))))))), (((u 62)), .inr (6, [.ref ((u 88)), .ref ((u 89)), .ref ((u 90)), .ref ((u 91)), .ref ((u 92)), .ref ((u 93)), .ref ((u 94)), .ref ((u 95)), .ref ((u 96)), .ref ((u 97)), .ref ((u 98)), .ref ((u 99)), .ref ((u 100)), .ref ((u 101)), .int 0, .int 0, .int 0, .int 0, .int 0])), (((u 63)), .inr (6, [.ref ((u 102)), .ref ((u 103)), .ref ((u 104)), .ref ((u 105)), .ref ((u 106)), .ref ((u 107)), .ref ((u 108)), .ref ((u 109)), .ref ((u 110)), .ref ((u 111)), .ref ((u 112)), .ref ((u 113)), .ref ((u 114)), .ref ((u 115)), .int 0, .int 0, .int 0, .int 0, .int 0])), (((u 64)), .inr (6, [.ref ((u 116)), .ref ((u 117)), .ref ((u 118)), .ref ((u 119)), .ref ((u 120)), .ref ((u 121)), .ref ((u 122)), .ref ((u 123)), .ref ((u 124)), .ref ((u 125)), .ref ((u 126)), .ref ((u 127)), .ref ((u 128)), .ref ((u 129)), .int 0, .int 0, .int 0, .int 0, .int 0]))]) rfl (fun H locs h => ?_)
        refine lv_aload_n F.1 F.2.1 dX11_turned_26 rfl (lv_at hl 0 rfl) ?_
        refine x_get F h 0 3 inlX11 rfl (by decide) mw_24 dX11_turned_27 rfl rfl ?_
        refine x_get F h 1 0 inlX0 rfl (by decide) mw_507 dX11_turned_30 rfl rfl ?_
        refine lv_iload_n F.1 F.2.1 dX11_turned_33 rfl (lv_at hl 1 rfl) ?_
        refine x_aald (v := .ref ((u 62))) F h 2 7 rfl rfl (x_in (by decide +kernel)) rfl dX11_turned_34 ?_
        refine lv_lload_n F.1 F.2.1 dX11_turned_35 rfl (lv_at hl 2 rfl) ?_
        refine lv_iconst (v := (-1)) F.1 F.2.1 dX11_turned_36 (by decide) ?_
        refine x_Vl (wr := [(q, .inr (11, [.ref ((u 0)), .ref ((u 1)), .ref ((u 2)), .ref ((u 3)), .ref ((u 4)), .ref ((u 5)), .ref ((u 6)), .ref ((u 7)), .ref ((u 8)), .ref ((u 9)), .int 0, .int 0, .int (-1), .int 0, .int 0, .long 0, .long 1])), (((u 3)), .inr (0, [.ref ((u 57)), .ref ((u 58)), .ref ((u 59)), .ref ((u 60)), .ref ((u 61)), .int 0, .int 0])), (((u 57)), .inl (cy 7, 3, .inr (.inr (.inr (.inr (va_up (va_up (va_up (fun _ => none) 0 (some ((u 62)))) 1 (some ((u 63)))) 2 (some ((u 64))))))))), (((u 63)), .inr (6, [.ref ((u 102)), .ref ((u 103)), .ref ((u 104)), .ref ((u 105)), .ref ((u 106)), .ref ((u 107)), .ref ((u 108)), .ref ((u 109)), .ref ((u 110)), .ref ((u 111)), .ref ((u 112)), .ref ((u 113)), .ref ((u 114)), .ref ((u 115)), .int 0, .int 0, .int 0, .int 0, .int 0])), (((u 64)), .inr (6, [.ref ((u 116)), .ref ((u 117)), .ref ((u 118)), .ref ((u 119)), .ref ((u 120)), .ref ((u 121)), .ref ((u 122)), .ref ((u 123)), .ref ((u 124)), .ref ((u 125)), .ref ((u 126)), .ref ((u 127)), .ref ((u 128)), .ref ((u 129)), .int 0, .int 0, .int 0, .int 0, .int 0]))]) F h yk_X6_turn mw_923 mw_924 mw_925 (c_turn l D cy ((u 62)) (fun k => u (k + 88)) n (-1)) [3] [0, 1, 2, 4, 5] 3 rfl rfl rfl rfl (by decide) rfl rfl hl.1 rfl (Nat.le_of_ble_eq_true rfl) ⟨Nat.le_of_ble_eq_true rfl, Nat.le_of_ble_eq_true rfl⟩ ⟨Nat.le_of_ble_eq_true rfl, Nat.le_of_ble_eq_true rfl⟩ dX11_turned_37 (fun r15 u16 H locs hp14 h => ?_)
        have h : xS D cy A s.heap ([(q, .inr (11, [.ref ((u 0)), .ref ((u 1)), .ref ((u 2)), .ref ((u 3)), .ref ((u 4)), .ref ((u 5)), .ref ((u 6)), .ref ((u 7)), .ref ((u 8)), .ref ((u 9)), .int 0, .int 0, .int (-1), .int 0, .int 0, .long 0, .long 1])), (((u 3)), .inr (0, [.ref ((u 57)), .ref ((u 58)), .ref ((u 59)), .ref ((u 60)), .ref ((u 61)), .int 0, .int 0])), (((u 57)), .inl (cy 7, 3, .inr (.inr (.inr (.inr (va_up (va_up (va_up (fun _ => none) 0 (some ((u 62)))) 1 (some ((u 63)))) 2 (some ((u 64))))))))), (((u 63)), .inr (6, [.ref ((u 102)), .ref ((u 103)), .ref ((u 104)), .ref ((u 105)), .ref ((u 106)), .ref ((u 107)), .ref ((u 108)), .ref ((u 109)), .ref ((u 110)), .ref ((u 111)), .ref ((u 112)), .ref ((u 113)), .ref ((u 114)), .ref ((u 115)), .int 0, .int 0, .int 0, .int 0, .int 0])), (((u 64)), .inr (6, [.ref ((u 116)), .ref ((u 117)), .ref ((u 118)), .ref ((u 119)), .ref ((u 120)), .ref ((u 121)), .ref ((u 122)), .ref ((u 123)), .ref ((u 124)), .ref ((u 125)), .ref ((u 126)), .ref ((u 127)), .ref ((u 128)), .ref ((u 129)), .int 0, .int 0, .int 0, .int 0, .int 0]))]) s H locs := h
        obtain rfl : n = r15 := (hp14).symm
        exact x_lret F h hr hlk (fun _ => 0) [] (by simp [ht5, ht6, hw13]) (by decide +kernel) rfl (Nat.le_of_ble_eq_true rfl) (Nat.le_of_ble_eq_true rfl) dX11_turned_40
      · refine lv_aload_n F.1 F.2.1 dX11_turned_21 rfl (lv_at hl 0 rfl) ?_
        refine lv_iconst (v := 0) F.1 F.2.1 dX11_turned_22 (by decide) ?_
        refine x_put F h 0 14 inlX11 tyX11_ok nmX11 rfl (by decide) mw_45 dX11_turned_23 rfl rfl rfl rfl (Nat.le_of_ble_eq_true rfl) (ws' := [(q, .inr (11, [.ref ((u 0)), .ref ((u 1)), .ref ((u 2)), .ref ((u 3)), .ref ((u 4)), .ref ((u 5)), .ref ((u 6)), .ref ((u 7)), .ref ((u 8)), .ref ((u 9)), .int 0, .int 0, .int (-1), .int 0, .int 0, .long 0, .long 1])), (((u 3)), .inr (0, [.ref ((u 57)), .ref ((u 58)), .ref ((u 59)), .ref ((u 60)), .ref ((u 61)), .int 0, .int 0])), (((u 57)), .inl (cy 7, 3, .inr (.inr (.inr (.inr (va_up (va_up (va_up (fun _ => none) 0 (some ((u 62)))) 1 (some ((u 63)))) 2 (some ((u 64))))))))), (((u 62)), .inr (6, [.ref ((u 88)), .ref ((u 89)), .ref ((u 90)), .ref ((u 91)), .ref ((u 92)), .ref ((u 93)), .ref ((u 94)), .ref ((u 95)), .ref ((u 96)), .ref ((u 97)), .ref ((u 98)), .ref ((u 99)), .ref ((u 100)), .ref ((u 101)), .int 0, .int 0, .int 0, .int 0, .int 0])), (((u 63)), .inr (6, [.ref ((u 102)), .ref ((u 103)), .ref ((u 104)), .ref ((u 105)), .ref ((u 106)), .ref ((u 107)), .ref ((u 108)), .ref ((u 109)), .ref ((u 110)), .ref ((u 111)), .ref ((u 112)), .ref ((u 113)), .ref ((u 114)), .ref ((u 115)), .int 0, .int 0, .int 0, .int 0, .int 0])), (((u 64)), .inr (6, [.ref ((u 116)), .ref ((u 117)), .ref ((u 118)), .ref ((u 119)), .ref ((u 120)), .ref ((u 121)), .ref ((u 122)), .ref ((u 123)), .ref ((u 124)), .ref ((u 125)), .ref ((u 126)), .ref ((u 127)), .ref ((u 128)), .ref ((u 129)), .int 0, .int 0, .int 0, .int 0, .int 0]))]) rfl (fun H locs h => ?_)
        refine lv_aload_n F.1 F.2.1 dX11_turned_26 rfl (lv_at hl 0 rfl) ?_
        refine x_get F h 0 3 inlX11 rfl (by decide) mw_24 dX11_turned_27 rfl rfl ?_
        refine x_get F h 1 0 inlX0 rfl (by decide) mw_507 dX11_turned_30 rfl rfl ?_
        refine lv_iload_n F.1 F.2.1 dX11_turned_33 rfl (lv_at hl 1 rfl) ?_
        refine x_aald (v := .ref ((u 63))) F h 2 7 rfl rfl (x_in (by decide +kernel)) rfl dX11_turned_34 ?_
        refine lv_lload_n F.1 F.2.1 dX11_turned_35 rfl (lv_at hl 2 rfl) ?_
        refine lv_iconst (v := (-1)) F.1 F.2.1 dX11_turned_36 (by decide) ?_
        refine x_Vl (wr := [(q, .inr (11, [.ref ((u 0)), .ref ((u 1)), .ref ((u 2)), .ref ((u 3)), .ref ((u 4)), .ref ((u 5)), .ref ((u 6)), .ref ((u 7)), .ref ((u 8)), .ref ((u 9)), .int 0, .int 0, .int (-1), .int 0, .int 0, .long 0, .long 1])), (((u 3)), .inr (0, [.ref ((u 57)), .ref ((u 58)), .ref ((u 59)), .ref ((u 60)), .ref ((u 61)), .int 0, .int 0])), (((u 57)), .inl (cy 7, 3, .inr (.inr (.inr (.inr (va_up (va_up (va_up (fun _ => none) 0 (some ((u 62)))) 1 (some ((u 63)))) 2 (some ((u 64))))))))), (((u 62)), .inr (6, [.ref ((u 88)), .ref ((u 89)), .ref ((u 90)), .ref ((u 91)), .ref ((u 92)), .ref ((u 93)), .ref ((u 94)), .ref ((u 95)), .ref ((u 96)), .ref ((u 97)), .ref ((u 98)), .ref ((u 99)), .ref ((u 100)), .ref ((u 101)), .int 0, .int 0, .int 0, .int 0, .int 0])), (((u 64)), .inr (6, [.ref ((u 116)), .ref ((u 117)), .ref ((u 118)), .ref ((u 119)), .ref ((u 120)), .ref ((u 121)), .ref ((u 122)), .ref ((u 123)), .ref ((u 124)), .ref ((u 125)), .ref ((u 126)), .ref ((u 127)), .ref ((u 128)), .ref ((u 129)), .int 0, .int 0, .int 0, .int 0, .int 0]))]) F h yk_X6_turn mw_923 mw_924 mw_925 (c_turn l D cy ((u 63)) (fun k => u (k + 102)) n (-1)) [4] [0, 1, 2, 3, 5] 4 rfl rfl rfl rfl (by decide) rfl rfl hl.1 rfl (Nat.le_of_ble_eq_true rfl) ⟨Nat.le_of_ble_eq_true rfl, Nat.le_of_ble_eq_true rfl⟩ ⟨Nat.le_of_ble_eq_true rfl, Nat.le_of_ble_eq_true rfl⟩ dX11_turned_37 (fun r18 u19 H locs hp17 h => ?_)
        have h : xS D cy A s.heap ([(q, .inr (11, [.ref ((u 0)), .ref ((u 1)), .ref ((u 2)), .ref ((u 3)), .ref ((u 4)), .ref ((u 5)), .ref ((u 6)), .ref ((u 7)), .ref ((u 8)), .ref ((u 9)), .int 0, .int 0, .int (-1), .int 0, .int 0, .long 0, .long 1])), (((u 3)), .inr (0, [.ref ((u 57)), .ref ((u 58)), .ref ((u 59)), .ref ((u 60)), .ref ((u 61)), .int 0, .int 0])), (((u 57)), .inl (cy 7, 3, .inr (.inr (.inr (.inr (va_up (va_up (va_up (fun _ => none) 0 (some ((u 62)))) 1 (some ((u 63)))) 2 (some ((u 64))))))))), (((u 62)), .inr (6, [.ref ((u 88)), .ref ((u 89)), .ref ((u 90)), .ref ((u 91)), .ref ((u 92)), .ref ((u 93)), .ref ((u 94)), .ref ((u 95)), .ref ((u 96)), .ref ((u 97)), .ref ((u 98)), .ref ((u 99)), .ref ((u 100)), .ref ((u 101)), .int 0, .int 0, .int 0, .int 0, .int 0])), (((u 64)), .inr (6, [.ref ((u 116)), .ref ((u 117)), .ref ((u 118)), .ref ((u 119)), .ref ((u 120)), .ref ((u 121)), .ref ((u 122)), .ref ((u 123)), .ref ((u 124)), .ref ((u 125)), .ref ((u 126)), .ref ((u 127)), .ref ((u 128)), .ref ((u 129)), .int 0, .int 0, .int 0, .int 0, .int 0]))]) s H locs := h
        obtain rfl : n = r18 := (hp17).symm
        exact x_lret F h hr hlk (fun _ => 0) [] (by simp [ht5, ht6, hw13]) (by decide +kernel) rfl (Nat.le_of_ble_eq_true rfl) (Nat.le_of_ble_eq_true rfl) dX11_turned_40
      · refine lv_aload_n F.1 F.2.1 dX11_turned_21 rfl (lv_at hl 0 rfl) ?_
        refine lv_iconst (v := 0) F.1 F.2.1 dX11_turned_22 (by decide) ?_
        refine x_put F h 0 14 inlX11 tyX11_ok nmX11 rfl (by decide) mw_45 dX11_turned_23 rfl rfl rfl rfl (Nat.le_of_ble_eq_true rfl) (ws' := [(q, .inr (11, [.ref ((u 0)), .ref ((u 1)), .ref ((u 2)), .ref ((u 3)), .ref ((u 4)), .ref ((u 5)), .ref ((u 6)), .ref ((u 7)), .ref ((u 8)), .ref ((u 9)), .int 0, .int 0, .int (-1), .int 0, .int 0, .long 0, .long 1])), (((u 3)), .inr (0, [.ref ((u 57)), .ref ((u 58)), .ref ((u 59)), .ref ((u 60)), .ref ((u 61)), .int 0, .int 0])), (((u 57)), .inl (cy 7, 3, .inr (.inr (.inr (.inr (va_up (va_up (va_up (fun _ => none) 0 (some ((u 62)))) 1 (some ((u 63)))) 2 (some ((u 64))))))))), (((u 62)), .inr (6, [.ref ((u 88)), .ref ((u 89)), .ref ((u 90)), .ref ((u 91)), .ref ((u 92)), .ref ((u 93)), .ref ((u 94)), .ref ((u 95)), .ref ((u 96)), .ref ((u 97)), .ref ((u 98)), .ref ((u 99)), .ref ((u 100)), .ref ((u 101)), .int 0, .int 0, .int 0, .int 0, .int 0])), (((u 63)), .inr (6, [.ref ((u 102)), .ref ((u 103)), .ref ((u 104)), .ref ((u 105)), .ref ((u 106)), .ref ((u 107)), .ref ((u 108)), .ref ((u 109)), .ref ((u 110)), .ref ((u 111)), .ref ((u 112)), .ref ((u 113)), .ref ((u 114)), .ref ((u 115)), .int 0, .int 0, .int 0, .int 0, .int 0])), (((u 64)), .inr (6, [.ref ((u 116)), .ref ((u 117)), .ref ((u 118)), .ref ((u 119)), .ref ((u 120)), .ref ((u 121)), .ref ((u 122)), .ref ((u 123)), .ref ((u 124)), .ref ((u 125)), .ref ((u 126)), .ref ((u 127)), .ref ((u 128)), .ref ((u 129)), .int 0, .int 0, .int 0, .int 0, .int 0]))]) rfl (fun H locs h => ?_)
        refine lv_aload_n F.1 F.2.1 dX11_turned_26 rfl (lv_at hl 0 rfl) ?_
        refine x_get F h 0 3 inlX11 rfl (by decide) mw_24 dX11_turned_27 rfl rfl ?_
        refine x_get F h 1 0 inlX0 rfl (by decide) mw_507 dX11_turned_30 rfl rfl ?_
        refine lv_iload_n F.1 F.2.1 dX11_turned_33 rfl (lv_at hl 1 rfl) ?_
        refine x_aald (v := .ref ((u 64))) F h 2 7 rfl rfl (x_in (by decide +kernel)) rfl dX11_turned_34 ?_
        refine lv_lload_n F.1 F.2.1 dX11_turned_35 rfl (lv_at hl 2 rfl) ?_
        refine lv_iconst (v := (-1)) F.1 F.2.1 dX11_turned_36 (by decide) ?_
        refine x_Vl (wr := [(q, .inr (11, [.ref ((u 0)), .ref ((u 1)), .ref ((u 2)), .ref ((u 3)), .ref ((u 4)), .ref ((u 5)), .ref ((u 6)), .ref ((u 7)), .ref ((u 8)), .ref ((u 9)), .int 0, .int 0, .int (-1), .int 0, .int 0, .long 0, .long 1])), (((u 3)), .inr (0, [.ref ((u 57)), .ref ((u 58)), .ref ((u 59)), .ref ((u 60)), .ref ((u 61)), .int 0, .int 0])), (((u 57)), .inl (cy 7, 3, .inr (.inr (.inr (.inr (va_up (va_up (va_up (fun _ => none) 0 (some ((u 62)))) 1 (some ((u 63)))) 2 (some ((u 64))))))))), (((u 62)), .inr (6, [.ref ((u 88)), .ref ((u 89)), .ref ((u 90)), .ref ((u 91)), .ref ((u 92)), .ref ((u 93)), .ref ((u 94)), .ref ((u 95)), .ref ((u 96)), .ref ((u 97)), .ref ((u 98)), .ref ((u 99)), .ref ((u 100)), .ref ((u 101)), .int 0, .int 0, .int 0, .int 0, .int 0])), (((u 63)), .inr (6, [.ref ((u 102)), .ref ((u 103)), .ref ((u 104)), .ref ((u 105)), .ref ((u 106)), .ref ((u 107)), .ref ((u 108)), .ref ((u 109)), .ref ((u 110)), .ref ((u 111)), .ref ((u 112)), .ref ((u 113)), .ref ((u 114)), .ref ((u 115)), .int 0, .int 0, .int 0, .int 0, .int 0]))]) F h yk_X6_turn mw_923 mw_924 mw_925 (c_turn l D cy ((u 64)) (fun k => u (k + 116)) n (-1)) [5] [0, 1, 2, 3, 4] 5 rfl rfl rfl rfl (by decide) rfl rfl hl.1 rfl (Nat.le_of_ble_eq_true rfl) ⟨Nat.le_of_ble_eq_true rfl, Nat.le_of_ble_eq_true rfl⟩ ⟨Nat.le_of_ble_eq_true rfl, Nat.le_of_ble_eq_true rfl⟩ dX11_turned_37 (fun r21 u22 H locs hp20 h => ?_)
        have h : xS D cy A s.heap ([(q, .inr (11, [.ref ((u 0)), .ref ((u 1)), .ref ((u 2)), .ref ((u 3)), .ref ((u 4)), .ref ((u 5)), .ref ((u 6)), .ref ((u 7)), .ref ((u 8)), .ref ((u 9)), .int 0, .int 0, .int (-1), .int 0, .int 0, .long 0, .long 1])), (((u 3)), .inr (0, [.ref ((u 57)), .ref ((u 58)), .ref ((u 59)), .ref ((u 60)), .ref ((u 61)), .int 0, .int 0])), (((u 57)), .inl (cy 7, 3, .inr (.inr (.inr (.inr (va_up (va_up (va_up (fun _ => none) 0 (some ((u 62)))) 1 (some ((u 63)))) 2 (some ((u 64))))))))), (((u 62)), .inr (6, [.ref ((u 88)), .ref ((u 89)), .ref ((u 90)), .ref ((u 91)), .ref ((u 92)), .ref ((u 93)), .ref ((u 94)), .ref ((u 95)), .ref ((u 96)), .ref ((u 97)), .ref ((u 98)), .ref ((u 99)), .ref ((u 100)), .ref ((u 101)), .int 0, .int 0, .int 0, .int 0, .int 0])), (((u 63)), .inr (6, [.ref ((u 102)), .ref ((u 103)), .ref ((u 104)), .ref ((u 105)), .ref ((u 106)), .ref ((u 107)), .ref ((u 108)), .ref ((u 109)), .ref ((u 110)), .ref ((u 111)), .ref ((u 112)), .ref ((u 113)), .ref ((u 114)), .ref ((u 115)), .int 0, .int 0, .int 0, .int 0, .int 0]))]) s H locs := h
        obtain rfl : n = r21 := (hp20).symm
        exact x_lret F h hr hlk (fun _ => 0) [] (by simp [ht5, ht6, hw13]) (by decide +kernel) rfl (Nat.le_of_ble_eq_true rfl) (Nat.le_of_ble_eq_true rfl) dX11_turned_40
    · obtain rfl : r11 = 0 := by rw [hp10]; simp [hw13]
      refine lv_if_ne (tgt := 21) F.1 F.2.1 dX11_turned_11 (by decide) (fun hc => absurd hc (by decide)) (fun _ => ?_)
      refine lv_aload_n F.1 F.2.1 dX11_turned_14 rfl (lv_at hl 0 rfl) ?_
      refine lv_iconst (v := 1) F.1 F.2.1 dX11_turned_15 (by decide) ?_
      refine x_Vi (wr := [(((u 3)), .inr (0, [.ref ((u 57)), .ref ((u 58)), .ref ((u 59)), .ref ((u 60)), .ref ((u 61)), .int 0, .int 0])), (((u 57)), .inl (cy 7, 3, .inr (.inr (.inr (.inr (va_up (va_up (va_up (fun _ => none) 0 (some ((u 62)))) 1 (some ((u 63)))) 2 (some ((u 64))))))))), (((u 62)), .inr (6, [.ref ((u 88)), .ref ((u 89)), .ref ((u 90)), .ref ((u 91)), .ref ((u 92)), .ref ((u 93)), .ref ((u 94)), .ref ((u 95)), .ref ((u 96)), .ref ((u 97)), .ref ((u 98)), .ref ((u 99)), .ref ((u 100)), .ref ((u 101)), .int 0, .int 0, .int 0, .int 0, .int 0])), (((u 63)), .inr (6, [.ref ((u 102)), .ref ((u 103)), .ref ((u 104)), .ref ((u 105)), .ref ((u 106)), .ref ((u 107)), .ref ((u 108)), .ref ((u 109)), .ref ((u 110)), .ref ((u 111)), .ref ((u 112)), .ref ((u 113)), .ref ((u 114)), .ref ((u 115)), .int 0, .int 0, .int 0, .int 0, .int 0])), (((u 64)), .inr (6, [.ref ((u 116)), .ref ((u 117)), .ref ((u 118)), .ref ((u 119)), .ref ((u 120)), .ref ((u 121)), .ref ((u 122)), .ref ((u 123)), .ref ((u 124)), .ref ((u 125)), .ref ((u 126)), .ref ((u 127)), .ref ((u 128)), .ref ((u 129)), .int 0, .int 0, .int 0, .int 0, .int 0]))]) F h yk_X11_refuse mw_378 mw_379 mw_380 (c_refuse l D cy q ([.ref ((u 0)), .ref ((u 1)), .ref ((u 2)), .ref ((u 3)), .ref ((u 4)), .ref ((u 5)), .ref ((u 6)), .ref ((u 7)), .ref ((u 8)), .ref ((u 9)), .int 0, .int 0, .int (-1), .int 0, .int 0, .long 0, .long 1]) rfl 1) [0] [1, 2, 3, 4, 5] 0 rfl rfl rfl rfl (by decide) rfl rfl hl.1 rfl (Nat.le_of_ble_eq_true rfl) ⟨Nat.le_of_ble_eq_true rfl, Nat.le_of_ble_eq_true rfl⟩ ⟨Nat.le_of_ble_eq_true rfl, Nat.le_of_ble_eq_true rfl⟩ dX11_turned_16 (fun r24 u25 H locs hp23 h => ?_)
      have h : xS D cy A s.heap ([(((u 3)), .inr (0, [.ref ((u 57)), .ref ((u 58)), .ref ((u 59)), .ref ((u 60)), .ref ((u 61)), .int 0, .int 0])), (((u 57)), .inl (cy 7, 3, .inr (.inr (.inr (.inr (va_up (va_up (va_up (fun _ => none) 0 (some ((u 62)))) 1 (some ((u 63)))) 2 (some ((u 64))))))))), (((u 62)), .inr (6, [.ref ((u 88)), .ref ((u 89)), .ref ((u 90)), .ref ((u 91)), .ref ((u 92)), .ref ((u 93)), .ref ((u 94)), .ref ((u 95)), .ref ((u 96)), .ref ((u 97)), .ref ((u 98)), .ref ((u 99)), .ref ((u 100)), .ref ((u 101)), .int 0, .int 0, .int 0, .int 0, .int 0])), (((u 63)), .inr (6, [.ref ((u 102)), .ref ((u 103)), .ref ((u 104)), .ref ((u 105)), .ref ((u 106)), .ref ((u 107)), .ref ((u 108)), .ref ((u 109)), .ref ((u 110)), .ref ((u 111)), .ref ((u 112)), .ref ((u 113)), .ref ((u 114)), .ref ((u 115)), .int 0, .int 0, .int 0, .int 0, .int 0])), (((u 64)), .inr (6, [.ref ((u 116)), .ref ((u 117)), .ref ((u 118)), .ref ((u 119)), .ref ((u 120)), .ref ((u 121)), .ref ((u 122)), .ref ((u 123)), .ref ((u 124)), .ref ((u 125)), .ref ((u 126)), .ref ((u 127)), .ref ((u 128)), .ref ((u 129)), .int 0, .int 0, .int 0, .int 0, .int 0]))]) s H locs := h
      obtain rfl : r24 = (-1) := hp23
      refine lv_i2l (v := (-1)) F.1 F.2.1 dX11_turned_19 (by decide +kernel) ?_
      exact x_lret F h hr hlk (fun _ => 0) [] (by simp [ht5, ht6, hw13]) (by decide +kernel) rfl (Nat.le_of_ble_eq_true rfl) (Nat.le_of_ble_eq_true rfl) dX11_turned_20
set_option maxHeartbeats 4000000 in
set_option maxRecDepth 100000 in
theorem c_broken (l : Launch) (D : va_G) (cy : Nat → ClassId) (q : Nat) (u : Nat → Nat) (a0 : Int64) (b0 : Int64) : ∀ sz, Met l yX11_broken (Cond.code yX11_broken cX11_broken 5 (some .int) :: wsL_law) { frames := 1, cells := 0, slots := 0, locals := 26 } (va_Pc [.ref q, .long a0, .long b0] (xP D cy ([(q, .inr (11, [.ref ((u 0)), .ref ((u 1)), .ref ((u 2)), .ref ((u 3)), .ref ((u 4)), .ref ((u 5)), .ref ((u 6)), .ref ((u 7)), .ref ((u 8)), .ref ((u 9)), .int 0, .int 0, .int (-1), .int 0, .int 0, .long 0, .long 1])), (((u 3)), .inr (0, [.ref ((u 57)), .ref ((u 58)), .ref ((u 59)), .ref ((u 60)), .ref ((u 61)), .int 0, .int 0])), (((u 60)), .inl (cy 2, 12, .inr (.inl (fun _ => 0)))), (((u 61)), .inl (cy 2, 12, .inr (.inl (fun _ => 0))))]) sz)) (va_Qi (fun r _ => r = if wv a0 = true ∧ wv b0 = true then 1 else -1) (xB D (va_A ([(q, .inr (11, [.ref ((u 0)), .ref ((u 1)), .ref ((u 2)), .ref ((u 3)), .ref ((u 4)), .ref ((u 5)), .ref ((u 6)), .ref ((u 7)), .ref ((u 8)), .ref ((u 9)), .int 0, .int 0, .int (-1), .int 0, .int 0, .long 0, .long 1])), (((u 3)), .inr (0, [.ref ((u 57)), .ref ((u 58)), .ref ((u 59)), .ref ((u 60)), .ref ((u 61)), .int 0, .int 0])), (((u 60)), .inl (cy 2, 12, .inr (.inl (fun _ => 0)))), (((u 61)), .inl (cy 2, 12, .inr (.inl (fun _ => 0))))]) sz) (fun _ => [])) (va_A ([(q, .inr (11, [.ref ((u 0)), .ref ((u 1)), .ref ((u 2)), .ref ((u 3)), .ref ((u 4)), .ref ((u 5)), .ref ((u 6)), .ref ((u 7)), .ref ((u 8)), .ref ((u 9)), .int 0, .int 0, .int (-1), .int 0, .int 0, .long 0, .long 1])), (((u 3)), .inr (0, [.ref ((u 57)), .ref ((u 58)), .ref ((u 59)), .ref ((u 60)), .ref ((u 61)), .int 0, .int 0])), (((u 60)), .inl (cy 2, 12, .inr (.inl (fun _ => 0)))), (((u 61)), .inl (cy 2, 12, .inr (.inl (fun _ => 0))))]) sz)) 0 0 (va_A ([(q, .inr (11, [.ref ((u 0)), .ref ((u 1)), .ref ((u 2)), .ref ((u 3)), .ref ((u 4)), .ref ((u 5)), .ref ((u 6)), .ref ((u 7)), .ref ((u 8)), .ref ((u 9)), .int 0, .int 0, .int (-1), .int 0, .int 0, .long 0, .long 1])), (((u 3)), .inr (0, [.ref ((u 57)), .ref ((u 58)), .ref ((u 59)), .ref ((u 60)), .ref ((u 61)), .int 0, .int 0])), (((u 60)), .inl (cy 2, 12, .inr (.inl (fun _ => 0)))), (((u 61)), .inl (cy 2, 12, .inr (.inl (fun _ => 0))))]) sz) := by
  refine x_enter (fun A => va_Qi (fun r _ => r = if wv a0 = true ∧ wv b0 = true then 1 else -1) (xB D A (fun _ => [])) A) (by decide +kernel) rfl (Nat.le_of_ble_eq_true rfl) ?_
  intro p e s m below meth c A ls F hr hlk hin h hl
  have hl : lv_has ls 5 [(0, .ref q), (1, .long a0), (3, .long b0)] := hl
  refine lv_lload_n F.1 F.2.1 dX11_broken_0 rfl (lv_at hl 1 rfl) ?_
  refine x_St F h yk_X11_isWord mw_918 mw_919 (c_isWord l D cy a0) hl.1 rfl (Nat.le_of_ble_eq_true rfl) ⟨Nat.le_of_ble_eq_true rfl, Nat.le_of_ble_eq_true rfl⟩ ⟨Nat.le_of_ble_eq_true rfl, Nat.le_of_ble_eq_true rfl⟩ dX11_broken_1 (fun r2 u3 H locs hp1 h => ?_)
  by_cases hw4 : wv a0 = true
  · obtain rfl : r2 = 1 := by rw [hp1]; simp [hw4]
    refine lv_if_eq (tgt := 14) F.1 F.2.1 dX11_broken_4 (by decide) (fun hc => absurd hc (by decide)) (fun _ => ?_)
    refine lv_lload_n F.1 F.2.1 dX11_broken_7 rfl (lv_at hl 2 rfl) ?_
    refine x_St F h yk_X11_isWord mw_918 mw_919 (c_isWord l D cy b0) hl.1 rfl (Nat.le_of_ble_eq_true rfl) ⟨Nat.le_of_ble_eq_true rfl, Nat.le_of_ble_eq_true rfl⟩ ⟨Nat.le_of_ble_eq_true rfl, Nat.le_of_ble_eq_true rfl⟩ dX11_broken_8 (fun r6 u7 H locs hp5 h => ?_)
    by_cases hw8 : wv b0 = true
    · obtain rfl : r6 = 1 := by rw [hp5]; simp [hw8]
      refine lv_if_ne (tgt := 20) F.1 F.2.1 dX11_broken_11 (by decide) (fun _ => ?_) (fun hc => absurd hc (by decide))
      refine lv_aload_n F.1 F.2.1 dX11_broken_20 rfl (lv_at hl 0 rfl) ?_
      refine x_get F h 0 3 inlX11 rfl (by decide) mw_24 dX11_broken_21 rfl rfl ?_
      refine x_get F h 1 6 inlX0 rfl (by decide) mw_767 dX11_broken_24 rfl rfl ?_
      refine lv_bipush (v := 12) F.1 F.2.1 dX11_broken_27 (by decide) ?_
      refine lv_icmp_lt (tgt := 38) F.1 F.2.1 dX11_broken_29 (by decide) (fun _ => ?_) (fun hc => absurd (by decide) hc)
      refine lv_aload_n F.1 F.2.1 dX11_broken_38 rfl (lv_at hl 0 rfl) ?_
      refine lv_aload_n F.1 F.2.1 dX11_broken_39 rfl (lv_at hl 0 rfl) ?_
      refine x_get F h 0 3 inlX11 rfl (by decide) mw_24 dX11_broken_40 rfl rfl ?_
      refine lv_lload_n F.1 F.2.1 dX11_broken_43 rfl (lv_at hl 1 rfl) ?_
      refine lv_lload_n F.1 F.2.1 dX11_broken_44 rfl (lv_at hl 2 rfl) ?_
      refine x_Vi (wr := [(q, .inr (11, [.ref ((u 0)), .ref ((u 1)), .ref ((u 2)), .ref ((u 3)), .ref ((u 4)), .ref ((u 5)), .ref ((u 6)), .ref ((u 7)), .ref ((u 8)), .ref ((u 9)), .int 0, .int 0, .int (-1), .int 0, .int 0, .long 0, .long 1]))]) F h yk_X0_addCouple mw_1329 mw_1330 mw_1331 (c_addCouple l D cy ((u 3)) ((u 57)) ((u 58)) ((u 59)) ((u 60)) ((u 61)) a0 b0) [1, 2, 3] [0] 1 rfl rfl rfl rfl (by decide) rfl rfl hl.1 rfl (Nat.le_of_ble_eq_true rfl) ⟨Nat.le_of_ble_eq_true rfl, Nat.le_of_ble_eq_true rfl⟩ ⟨Nat.le_of_ble_eq_true rfl, Nat.le_of_ble_eq_true rfl⟩ dX11_broken_45 (fun r10 u11 H locs hp9 h => ?_)
      have h : xS D cy A s.heap ([(q, .inr (11, [.ref ((u 0)), .ref ((u 1)), .ref ((u 2)), .ref ((u 3)), .ref ((u 4)), .ref ((u 5)), .ref ((u 6)), .ref ((u 7)), .ref ((u 8)), .ref ((u 9)), .int 0, .int 0, .int (-1), .int 0, .int 0, .long 0, .long 1]))]) s H locs := h
      obtain rfl : r10 = 1 := hp9
      refine x_Vi (wr := []) F h yk_X11_grant mw_442 mw_443 mw_444 (c_grant l D cy q ([.ref ((u 0)), .ref ((u 1)), .ref ((u 2)), .ref ((u 3)), .ref ((u 4)), .ref ((u 5)), .ref ((u 6)), .ref ((u 7)), .ref ((u 8)), .ref ((u 9)), .int 0, .int 0, .int (-1), .int 0, .int 0, .long 0, .long 1]) rfl 1) [0] [] 0 rfl rfl rfl rfl (by decide) rfl rfl hl.1 rfl (Nat.le_of_ble_eq_true rfl) ⟨Nat.le_of_ble_eq_true rfl, Nat.le_of_ble_eq_true rfl⟩ ⟨Nat.le_of_ble_eq_true rfl, Nat.le_of_ble_eq_true rfl⟩ dX11_broken_48 (fun r13 u14 H locs hp12 h => ?_)
      have h : xS D cy A s.heap ([]) s H locs := h
      obtain rfl : r13 = 1 := hp12
      exact x_iret F h hr hlk rfl (fun _ => 0) [] (by simp [hw4, hw8]) (by decide +kernel) rfl (Nat.le_of_ble_eq_true rfl) (Nat.le_of_ble_eq_true rfl) dX11_broken_51
    · obtain rfl : r6 = 0 := by rw [hp5]; simp [hw8]
      refine lv_if_ne (tgt := 20) F.1 F.2.1 dX11_broken_11 (by decide) (fun hc => absurd hc (by decide)) (fun _ => ?_)
      refine lv_aload_n F.1 F.2.1 dX11_broken_14 rfl (lv_at hl 0 rfl) ?_
      refine lv_iconst (v := 1) F.1 F.2.1 dX11_broken_15 (by decide) ?_
      refine x_Vi (wr := [(((u 3)), .inr (0, [.ref ((u 57)), .ref ((u 58)), .ref ((u 59)), .ref ((u 60)), .ref ((u 61)), .int 0, .int 0])), (((u 60)), .inl (cy 2, 12, .inr (.inl (fun _ => 0)))), (((u 61)), .inl (cy 2, 12, .inr (.inl (fun _ => 0))))]) F h yk_X11_refuse mw_378 mw_379 mw_380 (c_refuse l D cy q ([.ref ((u 0)), .ref ((u 1)), .ref ((u 2)), .ref ((u 3)), .ref ((u 4)), .ref ((u 5)), .ref ((u 6)), .ref ((u 7)), .ref ((u 8)), .ref ((u 9)), .int 0, .int 0, .int (-1), .int 0, .int 0, .long 0, .long 1]) rfl 1) [0] [1, 2, 3] 0 rfl rfl rfl rfl (by decide) rfl rfl hl.1 rfl (Nat.le_of_ble_eq_true rfl) ⟨Nat.le_of_ble_eq_true rfl, Nat.le_of_ble_eq_true rfl⟩ ⟨Nat.le_of_ble_eq_true rfl, Nat.le_of_ble_eq_true rfl⟩ dX11_broken_16 (fun r16 u17 H locs hp15 h => ?_)
      have h : xS D cy A s.heap ([(((u 3)), .inr (0, [.ref ((u 57)), .ref ((u 58)), .ref ((u 59)), .ref ((u 60)), .ref ((u 61)), .int 0, .int 0])), (((u 60)), .inl (cy 2, 12, .inr (.inl (fun _ => 0)))), (((u 61)), .inl (cy 2, 12, .inr (.inl (fun _ => 0))))]) s H locs := h
      obtain rfl : r16 = (-1) := hp15
      exact x_iret F h hr hlk rfl (fun _ => 0) [] (by simp [hw4, hw8]) (by decide +kernel) rfl (Nat.le_of_ble_eq_true rfl) (Nat.le_of_ble_eq_true rfl) dX11_broken_19
  · obtain rfl : r2 = 0 := by rw [hp1]; simp [hw4]
    refine lv_if_eq (tgt := 14) F.1 F.2.1 dX11_broken_4 (by decide) (fun _ => ?_) (fun hc => absurd (by decide) hc)
    refine lv_aload_n F.1 F.2.1 dX11_broken_14 rfl (lv_at hl 0 rfl) ?_
    refine lv_iconst (v := 1) F.1 F.2.1 dX11_broken_15 (by decide) ?_
    refine x_Vi (wr := [(((u 3)), .inr (0, [.ref ((u 57)), .ref ((u 58)), .ref ((u 59)), .ref ((u 60)), .ref ((u 61)), .int 0, .int 0])), (((u 60)), .inl (cy 2, 12, .inr (.inl (fun _ => 0)))), (((u 61)), .inl (cy 2, 12, .inr (.inl (fun _ => 0))))]) F h yk_X11_refuse mw_378 mw_379 mw_380 (c_refuse l D cy q ([.ref ((u 0)), .ref ((u 1)), .ref ((u 2)), .ref ((u 3)), .ref ((u 4)), .ref ((u 5)), .ref ((u 6)), .ref ((u 7)), .ref ((u 8)), .ref ((u 9)), .int 0, .int 0, .int (-1), .int 0, .int 0, .long 0, .long 1]) rfl 1) [0] [1, 2, 3] 0 rfl rfl rfl rfl (by decide) rfl rfl hl.1 rfl (Nat.le_of_ble_eq_true rfl) ⟨Nat.le_of_ble_eq_true rfl, Nat.le_of_ble_eq_true rfl⟩ ⟨Nat.le_of_ble_eq_true rfl, Nat.le_of_ble_eq_true rfl⟩ dX11_broken_16 (fun r19 u20 H locs hp18 h => ?_)
    have h : xS D cy A s.heap ([(((u 3)), .inr (0, [.ref ((u 57)), .ref ((u 58)), .ref ((u 59)), .ref ((u 60)), .ref ((u 61)), .int 0, .int 0])), (((u 60)), .inl (cy 2, 12, .inr (.inl (fun _ => 0)))), (((u 61)), .inl (cy 2, 12, .inr (.inl (fun _ => 0))))]) s H locs := h
    obtain rfl : r19 = (-1) := hp18
    exact x_iret F h hr hlk rfl (fun _ => 0) [] (by simp [hw4]) (by decide +kernel) rfl (Nat.le_of_ble_eq_true rfl) (Nat.le_of_ble_eq_true rfl) dX11_broken_19
set_option maxHeartbeats 4000000 in
set_option maxRecDepth 100000 in
theorem c_heard (l : Launch) (D : va_G) (cy : Nat → ClassId) (q : Nat) (u : Nat → Nat) (n : Int64) : ∀ sz, Met l yX11_heard (Cond.code yX11_heard cX11_heard 3 (some .int) :: wsL_law) { frames := 1, cells := 0, slots := 0, locals := 26 } (va_Pc [.ref q, .long n] (xP D cy ([(q, .inr (11, [.ref ((u 0)), .ref ((u 1)), .ref ((u 2)), .ref ((u 3)), .ref ((u 4)), .ref ((u 5)), .ref ((u 6)), .ref ((u 7)), .ref ((u 8)), .ref ((u 9)), .int 0, .int 0, .int (-1), .int 0, .int 0, .long 0, .long 1])), (((u 5)), .inr (9, [.ref ((u 21)), .ref ((u 22)), .ref ((u 23)), .ref ((u 24)), .int 0]))]) sz)) (va_Qi (fun r _ => r = if wv n = true then 0 else -1) (xB D (va_A ([(q, .inr (11, [.ref ((u 0)), .ref ((u 1)), .ref ((u 2)), .ref ((u 3)), .ref ((u 4)), .ref ((u 5)), .ref ((u 6)), .ref ((u 7)), .ref ((u 8)), .ref ((u 9)), .int 0, .int 0, .int (-1), .int 0, .int 0, .long 0, .long 1])), (((u 5)), .inr (9, [.ref ((u 21)), .ref ((u 22)), .ref ((u 23)), .ref ((u 24)), .int 0]))]) sz) (fun _ => [])) (va_A ([(q, .inr (11, [.ref ((u 0)), .ref ((u 1)), .ref ((u 2)), .ref ((u 3)), .ref ((u 4)), .ref ((u 5)), .ref ((u 6)), .ref ((u 7)), .ref ((u 8)), .ref ((u 9)), .int 0, .int 0, .int (-1), .int 0, .int 0, .long 0, .long 1])), (((u 5)), .inr (9, [.ref ((u 21)), .ref ((u 22)), .ref ((u 23)), .ref ((u 24)), .int 0]))]) sz)) 0 0 (va_A ([(q, .inr (11, [.ref ((u 0)), .ref ((u 1)), .ref ((u 2)), .ref ((u 3)), .ref ((u 4)), .ref ((u 5)), .ref ((u 6)), .ref ((u 7)), .ref ((u 8)), .ref ((u 9)), .int 0, .int 0, .int (-1), .int 0, .int 0, .long 0, .long 1])), (((u 5)), .inr (9, [.ref ((u 21)), .ref ((u 22)), .ref ((u 23)), .ref ((u 24)), .int 0]))]) sz) := by
  refine x_enter (fun A => va_Qi (fun r _ => r = if wv n = true then 0 else -1) (xB D A (fun _ => [])) A) (by decide +kernel) rfl (Nat.le_of_ble_eq_true rfl) ?_
  intro p e s m below meth c A ls F hr hlk hin h hl
  have hl : lv_has ls 3 [(0, .ref q), (1, .long n)] := hl
  refine lv_lload_n F.1 F.2.1 dX11_heard_0 rfl (lv_at hl 1 rfl) ?_
  refine x_St F h yk_X11_isWord mw_918 mw_919 (c_isWord l D cy n) hl.1 rfl (Nat.le_of_ble_eq_true rfl) ⟨Nat.le_of_ble_eq_true rfl, Nat.le_of_ble_eq_true rfl⟩ ⟨Nat.le_of_ble_eq_true rfl, Nat.le_of_ble_eq_true rfl⟩ dX11_heard_1 (fun r2 u3 H locs hp1 h => ?_)
  by_cases hw4 : wv n = true
  · obtain rfl : r2 = 1 := by rw [hp1]; simp [hw4]
    refine lv_if_ne (tgt := 13) F.1 F.2.1 dX11_heard_4 (by decide) (fun _ => ?_) (fun hc => absurd hc (by decide))
    refine lv_aload_n F.1 F.2.1 dX11_heard_13 rfl (lv_at hl 0 rfl) ?_
    refine lv_aload_n F.1 F.2.1 dX11_heard_14 rfl (lv_at hl 0 rfl) ?_
    refine x_get F h 0 5 inlX11 rfl (by decide) mw_29 dX11_heard_15 rfl rfl ?_
    refine lv_lload_n F.1 F.2.1 dX11_heard_18 rfl (lv_at hl 1 rfl) ?_
    refine x_Vi (wr := [(q, .inr (11, [.ref ((u 0)), .ref ((u 1)), .ref ((u 2)), .ref ((u 3)), .ref ((u 4)), .ref ((u 5)), .ref ((u 6)), .ref ((u 7)), .ref ((u 8)), .ref ((u 9)), .int 0, .int 0, .int (-1), .int 0, .int 0, .long 0, .long 1]))]) F h yk_X9_timesRead mw_1545 mw_1546 mw_1547 (c_timesRead l D cy ((u 5)) ((u 21)) ((u 22)) ((u 23)) ((u 24)) n) [1] [0] 1 rfl rfl rfl rfl (by decide) rfl rfl hl.1 rfl (Nat.le_of_ble_eq_true rfl) ⟨Nat.le_of_ble_eq_true rfl, Nat.le_of_ble_eq_true rfl⟩ ⟨Nat.le_of_ble_eq_true rfl, Nat.le_of_ble_eq_true rfl⟩ dX11_heard_19 (fun r6 u7 H locs hp5 h => ?_)
    have h : xS D cy A s.heap ([(q, .inr (11, [.ref ((u 0)), .ref ((u 1)), .ref ((u 2)), .ref ((u 3)), .ref ((u 4)), .ref ((u 5)), .ref ((u 6)), .ref ((u 7)), .ref ((u 8)), .ref ((u 9)), .int 0, .int 0, .int (-1), .int 0, .int 0, .long 0, .long 1]))]) s H locs := h
    obtain rfl : r6 = 0 := hp5
    refine x_Vi (wr := []) F h yk_X11_grant mw_442 mw_443 mw_444 (c_grant l D cy q ([.ref ((u 0)), .ref ((u 1)), .ref ((u 2)), .ref ((u 3)), .ref ((u 4)), .ref ((u 5)), .ref ((u 6)), .ref ((u 7)), .ref ((u 8)), .ref ((u 9)), .int 0, .int 0, .int (-1), .int 0, .int 0, .long 0, .long 1]) rfl 0) [0] [] 0 rfl rfl rfl rfl (by decide) rfl rfl hl.1 rfl (Nat.le_of_ble_eq_true rfl) ⟨Nat.le_of_ble_eq_true rfl, Nat.le_of_ble_eq_true rfl⟩ ⟨Nat.le_of_ble_eq_true rfl, Nat.le_of_ble_eq_true rfl⟩ dX11_heard_22 (fun r9 u10 H locs hp8 h => ?_)
    have h : xS D cy A s.heap ([]) s H locs := h
    obtain rfl : r9 = 0 := hp8
    exact x_iret F h hr hlk rfl (fun _ => 0) [] (by simp [hw4]) (by decide +kernel) rfl (Nat.le_of_ble_eq_true rfl) (Nat.le_of_ble_eq_true rfl) dX11_heard_25
  · obtain rfl : r2 = 0 := by rw [hp1]; simp [hw4]
    refine lv_if_ne (tgt := 13) F.1 F.2.1 dX11_heard_4 (by decide) (fun hc => absurd hc (by decide)) (fun _ => ?_)
    refine lv_aload_n F.1 F.2.1 dX11_heard_7 rfl (lv_at hl 0 rfl) ?_
    refine lv_iconst (v := 1) F.1 F.2.1 dX11_heard_8 (by decide) ?_
    refine x_Vi (wr := [(((u 5)), .inr (9, [.ref ((u 21)), .ref ((u 22)), .ref ((u 23)), .ref ((u 24)), .int 0]))]) F h yk_X11_refuse mw_378 mw_379 mw_380 (c_refuse l D cy q ([.ref ((u 0)), .ref ((u 1)), .ref ((u 2)), .ref ((u 3)), .ref ((u 4)), .ref ((u 5)), .ref ((u 6)), .ref ((u 7)), .ref ((u 8)), .ref ((u 9)), .int 0, .int 0, .int (-1), .int 0, .int 0, .long 0, .long 1]) rfl 1) [0] [1] 0 rfl rfl rfl rfl (by decide) rfl rfl hl.1 rfl (Nat.le_of_ble_eq_true rfl) ⟨Nat.le_of_ble_eq_true rfl, Nat.le_of_ble_eq_true rfl⟩ ⟨Nat.le_of_ble_eq_true rfl, Nat.le_of_ble_eq_true rfl⟩ dX11_heard_9 (fun r12 u13 H locs hp11 h => ?_)
    have h : xS D cy A s.heap ([(((u 5)), .inr (9, [.ref ((u 21)), .ref ((u 22)), .ref ((u 23)), .ref ((u 24)), .int 0]))]) s H locs := h
    obtain rfl : r12 = (-1) := hp11
    exact x_iret F h hr hlk rfl (fun _ => 0) [] (by simp [hw4]) (by decide +kernel) rfl (Nat.le_of_ble_eq_true rfl) (Nat.le_of_ble_eq_true rfl) dX11_heard_12
set_option maxHeartbeats 4000000 in
set_option maxRecDepth 100000 in
theorem c_m_turns0 (l : Launch) (D : va_G) (cy : Nat → ClassId) (q : Nat) (u : Nat → Nat) (n : Int64) : ∀ sz, Met l yX12_turns (Cond.code yX12_turns cX12_turns 5 (some .long) :: wsL_law) { frames := 0, cells := 0, slots := 0, locals := 0 } (va_Pc [.ref q, .int 0, .long n] (xP D cy ([mM q u 0 0 0 (-1) 0, mA_at cy u]) sz)) (va_Ql (fun r _ => r = n) (xB D (va_A ([mM q u 0 0 0 (-1) 0, mA_at cy u]) sz) (fun _ => [mM q u 0 0 0 (-1) 0, mA_at cy u])) (va_A ([mM q u 0 0 0 (-1) 0, mA_at cy u]) sz)) 0 0 (va_A ([mM q u 0 0 0 (-1) 0, mA_at cy u]) sz) := by
  refine x_enter (fun A => va_Ql (fun r _ => r = n) (xB D A (fun _ => [mM q u 0 0 0 (-1) 0, mA_at cy u])) A) (by decide +kernel) rfl (Nat.le_of_ble_eq_true rfl) ?_
  intro p e s m below meth c A ls F hr hlk hin h hl
  have hl : lv_has ls 5 [(0, .ref q), (1, .int 0), (2, .long n)] := hl
  have h : xS D cy A s.heap ([(q, .inr (12, (.ref ((u 0)) :: .int 0 :: .long 0 :: .long 1 :: .ref ((u 1)) :: .ref ((u 2)) :: .ref ((u 3)) :: .ref ((u 4)) :: .ref ((u 5)) :: .int 0 :: .int 0 :: .int 0 :: .int 0 :: .int 0 :: .int 0 :: .int (-1) :: .int (-1) :: .int 0 :: .ref ((u 6)) :: .int 0 :: .int 0 :: .ref ((u 7)) :: .ref ((u 8)) :: .ref ((u 9)) :: .ref ((u 10)) :: .ref ((u 11)) :: .ref ((u 12)) :: .ref ((u 13)) :: .int 0 :: .int 0 :: .int (-1) :: .int 0 :: .int (-1) :: .int 0 :: .ref ((u 14)) :: .int 0 :: .int 0 :: .int 0 :: .int 0 :: .int 0 :: .ref ((u 15)) :: .ref ((u 16)) :: .int 0 :: .int (-1) :: .int 0 :: .int 0 :: .int 0 :: .int 0 :: .ref ((u 17)) :: .ref ((u 18)) :: .ref ((u 19)) :: .int 0 :: .ref ((u 20)) :: .ref ((u 21)) :: .int 0 :: .ref ((u 22)) :: .int (-1) :: .int 0 :: .ref ((u 23)) :: .int (-1) :: .int (-1) :: .int 0 :: .ref ((u 24)) :: .ref ((u 25)) :: .int 0 :: []))), (((u 0)), .inl (cy 2, 25710, .inr (.inl (fun _ => 0))))]) s s.heap [] := h
  refine lv_iconst (v := 0) F.1 F.2.1 dX12_turns_0 (by decide) ?_
  refine lv_istore (lv' := [(4, .int 0), (0, .ref q), (1, .int 0), (2, .long n)]) F.1 F.2.1 dX12_turns_1 hl (by decide) rfl (fun ls hl => ?_)
  refine lv_iload F.1 F.2.1 dX12_turns_3 (lv_at hl 0 rfl) ?_
  refine lv_i2l (v := 0) F.1 F.2.1 dX12_turns_5 (by decide +kernel) ?_
  refine lv_aload_n F.1 F.2.1 dX12_turns_6 rfl (lv_at hl 1 rfl) ?_
  refine x_get F h 0 0 inlX12 rfl (by decide) mw_202 dX12_turns_7 rfl rfl ?_
  refine lv_iload_n F.1 F.2.1 dX12_turns_10 rfl (lv_at hl 2 rfl) ?_
  refine lv_iconst (v := 2) F.1 F.2.1 dX12_turns_11 (by decide) ?_
  refine lv_iadd F.1 F.2.1 dX12_turns_12 ?_
  refine x_topi (y := 2) (by decide +kernel) ?_
  refine x_lald (v := 0) F h 1 rfl rfl (x_in (by decide +kernel)) rfl dX12_turns_13 ?_
  refine W.lcmp F.1 F.2.1 dX12_turns_14 ?_
  refine x_topi (y := 0) (by decide +kernel) ?_
  refine lv_if_ge (tgt := 69) F.1 F.2.1 dX12_turns_15 (by decide) (fun _ => ?_) (fun hc => absurd (by decide) hc)
  refine lv_lload_n F.1 F.2.1 dX12_turns_69 rfl (lv_at hl 3 rfl) ?_
  exact x_lret F h hr hlk (fun _ => 0) [0, 1] (rfl) (by decide +kernel) rfl (Nat.le_of_ble_eq_true rfl) (Nat.le_of_ble_eq_true rfl) dX12_turns_70
set_option maxHeartbeats 4000000 in
set_option maxRecDepth 100000 in
theorem c_m_turns1650 (l : Launch) (D : va_G) (cy : Nat → ClassId) (q : Nat) (u : Nat → Nat) (n : Int64) : ∀ sz, Met l yX12_turns (Cond.code yX12_turns cX12_turns 5 (some .long) :: wsL_law) { frames := 0, cells := 0, slots := 0, locals := 0 } (va_Pc [.ref q, .int 1650, .long n] (xP D cy ([mM q u 0 0 0 (-1) 0, mA_at cy u]) sz)) (va_Ql (fun r _ => r = n) (xB D (va_A ([mM q u 0 0 0 (-1) 0, mA_at cy u]) sz) (fun _ => [mM q u 0 0 0 (-1) 0, mA_at cy u])) (va_A ([mM q u 0 0 0 (-1) 0, mA_at cy u]) sz)) 0 0 (va_A ([mM q u 0 0 0 (-1) 0, mA_at cy u]) sz) := by
  refine x_enter (fun A => va_Ql (fun r _ => r = n) (xB D A (fun _ => [mM q u 0 0 0 (-1) 0, mA_at cy u])) A) (by decide +kernel) rfl (Nat.le_of_ble_eq_true rfl) ?_
  intro p e s m below meth c A ls F hr hlk hin h hl
  have hl : lv_has ls 5 [(0, .ref q), (1, .int 1650), (2, .long n)] := hl
  have h : xS D cy A s.heap ([(q, .inr (12, (.ref ((u 0)) :: .int 0 :: .long 0 :: .long 1 :: .ref ((u 1)) :: .ref ((u 2)) :: .ref ((u 3)) :: .ref ((u 4)) :: .ref ((u 5)) :: .int 0 :: .int 0 :: .int 0 :: .int 0 :: .int 0 :: .int 0 :: .int (-1) :: .int (-1) :: .int 0 :: .ref ((u 6)) :: .int 0 :: .int 0 :: .ref ((u 7)) :: .ref ((u 8)) :: .ref ((u 9)) :: .ref ((u 10)) :: .ref ((u 11)) :: .ref ((u 12)) :: .ref ((u 13)) :: .int 0 :: .int 0 :: .int (-1) :: .int 0 :: .int (-1) :: .int 0 :: .ref ((u 14)) :: .int 0 :: .int 0 :: .int 0 :: .int 0 :: .int 0 :: .ref ((u 15)) :: .ref ((u 16)) :: .int 0 :: .int (-1) :: .int 0 :: .int 0 :: .int 0 :: .int 0 :: .ref ((u 17)) :: .ref ((u 18)) :: .ref ((u 19)) :: .int 0 :: .ref ((u 20)) :: .ref ((u 21)) :: .int 0 :: .ref ((u 22)) :: .int (-1) :: .int 0 :: .ref ((u 23)) :: .int (-1) :: .int (-1) :: .int 0 :: .ref ((u 24)) :: .ref ((u 25)) :: .int 0 :: []))), (((u 0)), .inl (cy 2, 25710, .inr (.inl (fun _ => 0))))]) s s.heap [] := h
  refine lv_iconst (v := 0) F.1 F.2.1 dX12_turns_0 (by decide) ?_
  refine lv_istore (lv' := [(4, .int 0), (0, .ref q), (1, .int 1650), (2, .long n)]) F.1 F.2.1 dX12_turns_1 hl (by decide) rfl (fun ls hl => ?_)
  refine lv_iload F.1 F.2.1 dX12_turns_3 (lv_at hl 0 rfl) ?_
  refine lv_i2l (v := 0) F.1 F.2.1 dX12_turns_5 (by decide +kernel) ?_
  refine lv_aload_n F.1 F.2.1 dX12_turns_6 rfl (lv_at hl 1 rfl) ?_
  refine x_get F h 0 0 inlX12 rfl (by decide) mw_202 dX12_turns_7 rfl rfl ?_
  refine lv_iload_n F.1 F.2.1 dX12_turns_10 rfl (lv_at hl 2 rfl) ?_
  refine lv_iconst (v := 2) F.1 F.2.1 dX12_turns_11 (by decide) ?_
  refine lv_iadd F.1 F.2.1 dX12_turns_12 ?_
  refine x_topi (y := 1652) (by decide +kernel) ?_
  refine x_lald (v := 0) F h 1 rfl rfl (x_in (by decide +kernel)) rfl dX12_turns_13 ?_
  refine W.lcmp F.1 F.2.1 dX12_turns_14 ?_
  refine x_topi (y := 0) (by decide +kernel) ?_
  refine lv_if_ge (tgt := 69) F.1 F.2.1 dX12_turns_15 (by decide) (fun _ => ?_) (fun hc => absurd (by decide) hc)
  refine lv_lload_n F.1 F.2.1 dX12_turns_69 rfl (lv_at hl 3 rfl) ?_
  exact x_lret F h hr hlk (fun _ => 0) [0, 1] (rfl) (by decide +kernel) rfl (Nat.le_of_ble_eq_true rfl) (Nat.le_of_ble_eq_true rfl) dX12_turns_70
set_option maxHeartbeats 4000000 in
set_option maxRecDepth 100000 in
theorem c_m_turns3300 (l : Launch) (D : va_G) (cy : Nat → ClassId) (q : Nat) (u : Nat → Nat) (n : Int64) : ∀ sz, Met l yX12_turns (Cond.code yX12_turns cX12_turns 5 (some .long) :: wsL_law) { frames := 0, cells := 0, slots := 0, locals := 0 } (va_Pc [.ref q, .int 3300, .long n] (xP D cy ([mM q u 0 0 0 (-1) 0, mA_at cy u]) sz)) (va_Ql (fun r _ => r = n) (xB D (va_A ([mM q u 0 0 0 (-1) 0, mA_at cy u]) sz) (fun _ => [mM q u 0 0 0 (-1) 0, mA_at cy u])) (va_A ([mM q u 0 0 0 (-1) 0, mA_at cy u]) sz)) 0 0 (va_A ([mM q u 0 0 0 (-1) 0, mA_at cy u]) sz) := by
  refine x_enter (fun A => va_Ql (fun r _ => r = n) (xB D A (fun _ => [mM q u 0 0 0 (-1) 0, mA_at cy u])) A) (by decide +kernel) rfl (Nat.le_of_ble_eq_true rfl) ?_
  intro p e s m below meth c A ls F hr hlk hin h hl
  have hl : lv_has ls 5 [(0, .ref q), (1, .int 3300), (2, .long n)] := hl
  have h : xS D cy A s.heap ([(q, .inr (12, (.ref ((u 0)) :: .int 0 :: .long 0 :: .long 1 :: .ref ((u 1)) :: .ref ((u 2)) :: .ref ((u 3)) :: .ref ((u 4)) :: .ref ((u 5)) :: .int 0 :: .int 0 :: .int 0 :: .int 0 :: .int 0 :: .int 0 :: .int (-1) :: .int (-1) :: .int 0 :: .ref ((u 6)) :: .int 0 :: .int 0 :: .ref ((u 7)) :: .ref ((u 8)) :: .ref ((u 9)) :: .ref ((u 10)) :: .ref ((u 11)) :: .ref ((u 12)) :: .ref ((u 13)) :: .int 0 :: .int 0 :: .int (-1) :: .int 0 :: .int (-1) :: .int 0 :: .ref ((u 14)) :: .int 0 :: .int 0 :: .int 0 :: .int 0 :: .int 0 :: .ref ((u 15)) :: .ref ((u 16)) :: .int 0 :: .int (-1) :: .int 0 :: .int 0 :: .int 0 :: .int 0 :: .ref ((u 17)) :: .ref ((u 18)) :: .ref ((u 19)) :: .int 0 :: .ref ((u 20)) :: .ref ((u 21)) :: .int 0 :: .ref ((u 22)) :: .int (-1) :: .int 0 :: .ref ((u 23)) :: .int (-1) :: .int (-1) :: .int 0 :: .ref ((u 24)) :: .ref ((u 25)) :: .int 0 :: []))), (((u 0)), .inl (cy 2, 25710, .inr (.inl (fun _ => 0))))]) s s.heap [] := h
  refine lv_iconst (v := 0) F.1 F.2.1 dX12_turns_0 (by decide) ?_
  refine lv_istore (lv' := [(4, .int 0), (0, .ref q), (1, .int 3300), (2, .long n)]) F.1 F.2.1 dX12_turns_1 hl (by decide) rfl (fun ls hl => ?_)
  refine lv_iload F.1 F.2.1 dX12_turns_3 (lv_at hl 0 rfl) ?_
  refine lv_i2l (v := 0) F.1 F.2.1 dX12_turns_5 (by decide +kernel) ?_
  refine lv_aload_n F.1 F.2.1 dX12_turns_6 rfl (lv_at hl 1 rfl) ?_
  refine x_get F h 0 0 inlX12 rfl (by decide) mw_202 dX12_turns_7 rfl rfl ?_
  refine lv_iload_n F.1 F.2.1 dX12_turns_10 rfl (lv_at hl 2 rfl) ?_
  refine lv_iconst (v := 2) F.1 F.2.1 dX12_turns_11 (by decide) ?_
  refine lv_iadd F.1 F.2.1 dX12_turns_12 ?_
  refine x_topi (y := 3302) (by decide +kernel) ?_
  refine x_lald (v := 0) F h 1 rfl rfl (x_in (by decide +kernel)) rfl dX12_turns_13 ?_
  refine W.lcmp F.1 F.2.1 dX12_turns_14 ?_
  refine x_topi (y := 0) (by decide +kernel) ?_
  refine lv_if_ge (tgt := 69) F.1 F.2.1 dX12_turns_15 (by decide) (fun _ => ?_) (fun hc => absurd (by decide) hc)
  refine lv_lload_n F.1 F.2.1 dX12_turns_69 rfl (lv_at hl 3 rfl) ?_
  exact x_lret F h hr hlk (fun _ => 0) [0, 1] (rfl) (by decide +kernel) rfl (Nat.le_of_ble_eq_true rfl) (Nat.le_of_ble_eq_true rfl) dX12_turns_70
set_option maxHeartbeats 4000000 in
set_option maxRecDepth 100000 in
theorem c_m_turned (l : Launch) (D : va_G) (cy : Nat → ClassId) (q : Nat) (u : Nat → Nat) (sc : Int32) (n : Int64) : ∀ sz, Met l yX12_turned (Cond.code yX12_turned cX12_turned 4 (some .long) :: wsL_law) { frames := 1, cells := 0, slots := 0, locals := 24 } (va_Pc [.ref q, .int sc, .long n] (xP D cy ([mM q u 0 0 0 (-1) 0, mA_at cy u]) sz)) (va_Ql (fun r _ => r = if (¬ (sc < 0 ∨ nI 3 ≤ sc)) ∧ wv n = true then n else -1) (xB D (va_A ([mM q u 0 0 0 (-1) 0, mA_at cy u]) sz) (fun _ => [])) (va_A ([mM q u 0 0 0 (-1) 0, mA_at cy u]) sz)) 0 0 (va_A ([mM q u 0 0 0 (-1) 0, mA_at cy u]) sz) := by
  refine x_enter (fun A => va_Ql (fun r _ => r = if (¬ (sc < 0 ∨ nI 3 ≤ sc)) ∧ wv n = true then n else -1) (xB D A (fun _ => [])) A) (by decide +kernel) rfl (Nat.le_of_ble_eq_true rfl) ?_
  intro p e s m below meth c A ls F hr hlk hin h hl
  have hl : lv_has ls 4 [(0, .ref q), (1, .int sc), (2, .long n)] := hl
  have h : xS D cy A s.heap ([(q, .inr (12, (.ref ((u 0)) :: .int 0 :: .long 0 :: .long 1 :: .ref ((u 1)) :: .ref ((u 2)) :: .ref ((u 3)) :: .ref ((u 4)) :: .ref ((u 5)) :: .int 0 :: .int 0 :: .int 0 :: .int 0 :: .int 0 :: .int 0 :: .int (-1) :: .int (-1) :: .int 0 :: .ref ((u 6)) :: .int 0 :: .int 0 :: .ref ((u 7)) :: .ref ((u 8)) :: .ref ((u 9)) :: .ref ((u 10)) :: .ref ((u 11)) :: .ref ((u 12)) :: .ref ((u 13)) :: .int 0 :: .int 0 :: .int (-1) :: .int 0 :: .int (-1) :: .int 0 :: .ref ((u 14)) :: .int 0 :: .int 0 :: .int 0 :: .int 0 :: .int 0 :: .ref ((u 15)) :: .ref ((u 16)) :: .int 0 :: .int (-1) :: .int 0 :: .int 0 :: .int 0 :: .int 0 :: .ref ((u 17)) :: .ref ((u 18)) :: .ref ((u 19)) :: .int 0 :: .ref ((u 20)) :: .ref ((u 21)) :: .int 0 :: .ref ((u 22)) :: .int (-1) :: .int 0 :: .ref ((u 23)) :: .int (-1) :: .int (-1) :: .int 0 :: .ref ((u 24)) :: .ref ((u 25)) :: .int 0 :: []))), (((u 0)), .inl (cy 2, 25710, .inr (.inl (fun _ => 0))))]) s s.heap [] := h
  refine lv_aload_n F.1 F.2.1 dX12_turned_0 rfl (lv_at hl 0 rfl) ?_
  refine lv_iload_n F.1 F.2.1 dX12_turned_1 rfl (lv_at hl 1 rfl) ?_
  refine x_Vi (wr := [(((u 0)), .inl (cy 2, 25710, .inr (.inl (fun _ => 0))))]) F h yk_X12_isScript mw_635 mw_636 mw_637 (c_m_isScript l D cy q ((.ref ((u 0)) :: .int 0 :: .long 0 :: .long 1 :: .ref ((u 1)) :: .ref ((u 2)) :: .ref ((u 3)) :: .ref ((u 4)) :: .ref ((u 5)) :: .int 0 :: .int 0 :: .int 0 :: .int 0 :: .int 0 :: .int 0 :: .int (-1) :: .int (-1) :: .int 0 :: .ref ((u 6)) :: .int 0 :: .int 0 :: .ref ((u 7)) :: .ref ((u 8)) :: .ref ((u 9)) :: .ref ((u 10)) :: .ref ((u 11)) :: .ref ((u 12)) :: .ref ((u 13)) :: .int 0 :: .int 0 :: .int (-1) :: .int 0 :: .int (-1) :: .int 0 :: .ref ((u 14)) :: .int 0 :: .int 0 :: .int 0 :: .int 0 :: .int 0 :: .ref ((u 15)) :: .ref ((u 16)) :: .int 0 :: .int (-1) :: .int 0 :: .int 0 :: .int 0 :: .int 0 :: .ref ((u 17)) :: .ref ((u 18)) :: .ref ((u 19)) :: .int 0 :: .ref ((u 20)) :: .ref ((u 21)) :: .int 0 :: .ref ((u 22)) :: .int (-1) :: .int 0 :: .ref ((u 23)) :: .int (-1) :: .int (-1) :: .int 0 :: .ref ((u 24)) :: .ref ((u 25)) :: .int 0 :: [])) sc) [0] [1] 0 rfl rfl rfl rfl (by decide) rfl rfl hl.1 rfl (Nat.le_of_ble_eq_true rfl) ⟨Nat.le_of_ble_eq_true rfl, Nat.le_of_ble_eq_true rfl⟩ ⟨Nat.le_of_ble_eq_true rfl, Nat.le_of_ble_eq_true rfl⟩ dX12_turned_2 (fun r2 u3 H locs hp1 h => ?_)
  have h : xS D cy A s.heap ([(((u 0)), .inl (cy 2, 25710, .inr (.inl (fun _ => 0)))), (q, .inr (12, (.ref ((u 0)) :: .int 0 :: .long 0 :: .long 1 :: .ref ((u 1)) :: .ref ((u 2)) :: .ref ((u 3)) :: .ref ((u 4)) :: .ref ((u 5)) :: .int 0 :: .int 0 :: .int 0 :: .int 0 :: .int 0 :: .int 0 :: .int (-1) :: .int (-1) :: .int 0 :: .ref ((u 6)) :: .int 0 :: .int 0 :: .ref ((u 7)) :: .ref ((u 8)) :: .ref ((u 9)) :: .ref ((u 10)) :: .ref ((u 11)) :: .ref ((u 12)) :: .ref ((u 13)) :: .int 0 :: .int 0 :: .int (-1) :: .int 0 :: .int (-1) :: .int 0 :: .ref ((u 14)) :: .int 0 :: .int 0 :: .int 0 :: .int 0 :: .int 0 :: .ref ((u 15)) :: .ref ((u 16)) :: .int 0 :: .int (-1) :: .int 0 :: .int 0 :: .int 0 :: .int 0 :: .ref ((u 17)) :: .ref ((u 18)) :: .ref ((u 19)) :: .int 0 :: .ref ((u 20)) :: .ref ((u 21)) :: .int 0 :: .ref ((u 22)) :: .int (-1) :: .int 0 :: .ref ((u 23)) :: .int (-1) :: .int (-1) :: .int 0 :: .ref ((u 24)) :: .ref ((u 25)) :: .int 0 :: [])))]) s H locs := h
  rcases x_tr (n := 3) hp1 with ⟨rfl, ht4⟩ | ⟨rfl, ht5, ht6⟩
  · refine lv_if_eq (tgt := 32) F.1 F.2.1 dX12_turned_5 (by decide) (fun _ => ?_) (fun hc => absurd (by decide) hc)
    refine lv_aload_n F.1 F.2.1 dX12_turned_32 rfl (lv_at hl 0 rfl) ?_
    refine lv_iconst (v := 1) F.1 F.2.1 dX12_turned_33 (by decide) ?_
    refine x_Vi (wr := [(((u 0)), .inl (cy 2, 25710, .inr (.inl (fun _ => 0))))]) F h yk_X12_refuse mw_452 mw_453 mw_454 (c_m_refuse l D cy q ((.ref ((u 0)) :: .int 0 :: .long 0 :: .long 1 :: .ref ((u 1)) :: .ref ((u 2)) :: .ref ((u 3)) :: .ref ((u 4)) :: .ref ((u 5)) :: .int 0 :: .int 0 :: .int 0 :: .int 0 :: .int 0 :: .int 0 :: .int (-1) :: .int (-1) :: .int 0 :: .ref ((u 6)) :: .int 0 :: .int 0 :: .ref ((u 7)) :: .ref ((u 8)) :: .ref ((u 9)) :: .ref ((u 10)) :: .ref ((u 11)) :: .ref ((u 12)) :: .ref ((u 13)) :: .int 0 :: .int 0 :: .int (-1) :: .int 0 :: .int (-1) :: .int 0 :: .ref ((u 14)) :: .int 0 :: .int 0 :: .int 0 :: .int 0 :: .int 0 :: .ref ((u 15)) :: .ref ((u 16)) :: .int 0 :: .int (-1) :: .int 0 :: .int 0 :: .int 0 :: .int 0 :: .ref ((u 17)) :: .ref ((u 18)) :: .ref ((u 19)) :: .int 0 :: .ref ((u 20)) :: .ref ((u 21)) :: .int 0 :: .ref ((u 22)) :: .int (-1) :: .int 0 :: .ref ((u 23)) :: .int (-1) :: .int (-1) :: .int 0 :: .ref ((u 24)) :: .ref ((u 25)) :: .int 0 :: [])) rfl 1) [1] [0] 1 rfl rfl rfl rfl (by decide) rfl rfl hl.1 rfl (Nat.le_of_ble_eq_true rfl) ⟨Nat.le_of_ble_eq_true rfl, Nat.le_of_ble_eq_true rfl⟩ ⟨Nat.le_of_ble_eq_true rfl, Nat.le_of_ble_eq_true rfl⟩ dX12_turned_34 (fun r8 u9 H locs hp7 h => ?_)
    have h : xS D cy A s.heap ([(((u 0)), .inl (cy 2, 25710, .inr (.inl (fun _ => 0))))]) s H locs := h
    obtain rfl : r8 = (-1) := hp7
    refine lv_i2l (v := (-1)) F.1 F.2.1 dX12_turned_37 (by decide +kernel) ?_
    exact x_lret F h hr hlk (fun _ => 0) [] (by simp [ht4]) (by decide +kernel) rfl (Nat.le_of_ble_eq_true rfl) (Nat.le_of_ble_eq_true rfl) dX12_turned_38
  · refine lv_if_eq (tgt := 32) F.1 F.2.1 dX12_turned_5 (by decide) (fun hc => absurd hc (by decide)) (fun _ => ?_)
    refine lv_lload_n F.1 F.2.1 dX12_turned_8 rfl (lv_at hl 2 rfl) ?_
    refine x_St F h yk_X12_isWordNumber mw_931 mw_932 (c_m_isWord l D cy n) hl.1 rfl (Nat.le_of_ble_eq_true rfl) ⟨Nat.le_of_ble_eq_true rfl, Nat.le_of_ble_eq_true rfl⟩ ⟨Nat.le_of_ble_eq_true rfl, Nat.le_of_ble_eq_true rfl⟩ dX12_turned_9 (fun r11 u12 H locs hp10 h => ?_)
    by_cases hw13 : wv n = true
    · obtain rfl : r11 = 1 := by rw [hp10]; simp [hw13]
      refine lv_if_eq (tgt := 32) F.1 F.2.1 dX12_turned_12 (by decide) (fun hc => absurd hc (by decide)) (fun _ => ?_)
      rcases x_c3 ht5 ht6 with rfl | rfl | rfl
      · refine lv_aload_n F.1 F.2.1 dX12_turned_15 rfl (lv_at hl 0 rfl) ?_
        refine lv_aload_n F.1 F.2.1 dX12_turned_16 rfl (lv_at hl 0 rfl) ?_
        refine lv_sipush (v := 1650) F.1 F.2.1 dX12_turned_17 (by decide) ?_
        refine lv_iload_n F.1 F.2.1 dX12_turned_20 rfl (lv_at hl 1 rfl) ?_
        refine lv_imul F.1 F.2.1 dX12_turned_21 ?_
        refine x_topi (y := 0) (by decide +kernel) ?_
        refine lv_lload_n F.1 F.2.1 dX12_turned_22 rfl (lv_at hl 2 rfl) ?_
        refine x_Vl (wr := []) F h yk_X12_turns mw_937 mw_938 mw_939 (c_m_turns0 l D cy q u n) [1, 0] [] 1 rfl rfl rfl rfl (by decide) rfl rfl hl.1 rfl (Nat.le_of_ble_eq_true rfl) ⟨Nat.le_of_ble_eq_true rfl, Nat.le_of_ble_eq_true rfl⟩ ⟨Nat.le_of_ble_eq_true rfl, Nat.le_of_ble_eq_true rfl⟩ dX12_turned_23 (fun r15 u16 H locs hp14 h => ?_)
        have h : xS D cy A s.heap ([(q, .inr (12, (.ref ((u 0)) :: .int 0 :: .long 0 :: .long 1 :: .ref ((u 1)) :: .ref ((u 2)) :: .ref ((u 3)) :: .ref ((u 4)) :: .ref ((u 5)) :: .int 0 :: .int 0 :: .int 0 :: .int 0 :: .int 0 :: .int 0 :: .int (-1) :: .int (-1) :: .int 0 :: .ref ((u 6)) :: .int 0 :: .int 0 :: .ref ((u 7)) :: .ref ((u 8)) :: .ref ((u 9)) :: .ref ((u 10)) :: .ref ((u 11)) :: .ref ((u 12)) :: .ref ((u 13)) :: .int 0 :: .int 0 :: .int (-1) :: .int 0 :: .int (-1) :: .int 0 :: .ref ((u 14)) :: .int 0 :: .int 0 :: .int 0 :: .int 0 :: .int 0 :: .ref ((u 15)) :: .ref ((u 16)) :: .int 0 :: .int (-1) :: .int 0 :: .int 0 :: .int 0 :: .int 0 :: .ref ((u 17)) :: .ref ((u 18)) :: .ref ((u 19)) :: .int 0 :: .ref ((u 20)) :: .ref ((u 21)) :: .int 0 :: .ref ((u 22)) :: .int (-1) :: .int 0 :: .ref ((u 23)) :: .int (-1) :: .int (-1) :: .int 0 :: .ref ((u 24)) :: .ref ((u 25)) :: .int 0 :: []))), (((u 0)), .inl (cy 2, 25710, .inr (.inl (fun _ => 0))))]) s H locs := h
        obtain rfl : n = r15 := (hp14).symm
        refine x_Vl (wr := [(((u 0)), .inl (cy 2, 25710, .inr (.inl (fun _ => 0))))]) F h yk_X12_givesLong mw_801 mw_802 mw_803 (c_m_givesLong l D cy q ((.ref ((u 0)) :: .int 0 :: .long 0 :: .long 1 :: .ref ((u 1)) :: .ref ((u 2)) :: .ref ((u 3)) :: .ref ((u 4)) :: .ref ((u 5)) :: .int 0 :: .int 0 :: .int 0 :: .int 0 :: .int 0 :: .int 0 :: .int (-1) :: .int (-1) :: .int 0 :: .ref ((u 6)) :: .int 0 :: .int 0 :: .ref ((u 7)) :: .ref ((u 8)) :: .ref ((u 9)) :: .ref ((u 10)) :: .ref ((u 11)) :: .ref ((u 12)) :: .ref ((u 13)) :: .int 0 :: .int 0 :: .int (-1) :: .int 0 :: .int (-1) :: .int 0 :: .ref ((u 14)) :: .int 0 :: .int 0 :: .int 0 :: .int 0 :: .int 0 :: .ref ((u 15)) :: .ref ((u 16)) :: .int 0 :: .int (-1) :: .int 0 :: .int 0 :: .int 0 :: .int 0 :: .ref ((u 17)) :: .ref ((u 18)) :: .ref ((u 19)) :: .int 0 :: .ref ((u 20)) :: .ref ((u 21)) :: .int 0 :: .ref ((u 22)) :: .int (-1) :: .int 0 :: .ref ((u 23)) :: .int (-1) :: .int (-1) :: .int 0 :: .ref ((u 24)) :: .ref ((u 25)) :: .int 0 :: [])) rfl n) [0] [1] 0 rfl rfl rfl rfl (by decide) rfl rfl hl.1 rfl (Nat.le_of_ble_eq_true rfl) ⟨Nat.le_of_ble_eq_true rfl, Nat.le_of_ble_eq_true rfl⟩ ⟨Nat.le_of_ble_eq_true rfl, Nat.le_of_ble_eq_true rfl⟩ dX12_turned_26 (fun r18 u19 H locs hp17 h => ?_)
        have h : xS D cy A s.heap ([(((u 0)), .inl (cy 2, 25710, .inr (.inl (fun _ => 0))))]) s H locs := h
        obtain rfl : n = r18 := (hp17).symm
        refine lv_goto (tgt := 38) F.1 F.2.1 dX12_turned_29 (by decide) ?_
        exact x_lret F h hr hlk (fun _ => 0) [] (by simp [ht5, ht6, hw13]) (by decide +kernel) rfl (Nat.le_of_ble_eq_true rfl) (Nat.le_of_ble_eq_true rfl) dX12_turned_38
      · refine lv_aload_n F.1 F.2.1 dX12_turned_15 rfl (lv_at hl 0 rfl) ?_
        refine lv_aload_n F.1 F.2.1 dX12_turned_16 rfl (lv_at hl 0 rfl) ?_
        refine lv_sipush (v := 1650) F.1 F.2.1 dX12_turned_17 (by decide) ?_
        refine lv_iload_n F.1 F.2.1 dX12_turned_20 rfl (lv_at hl 1 rfl) ?_
        refine lv_imul F.1 F.2.1 dX12_turned_21 ?_
        refine x_topi (y := 1650) (by decide +kernel) ?_
        refine lv_lload_n F.1 F.2.1 dX12_turned_22 rfl (lv_at hl 2 rfl) ?_
        refine x_Vl (wr := []) F h yk_X12_turns mw_937 mw_938 mw_939 (c_m_turns1650 l D cy q u n) [1, 0] [] 1 rfl rfl rfl rfl (by decide) rfl rfl hl.1 rfl (Nat.le_of_ble_eq_true rfl) ⟨Nat.le_of_ble_eq_true rfl, Nat.le_of_ble_eq_true rfl⟩ ⟨Nat.le_of_ble_eq_true rfl, Nat.le_of_ble_eq_true rfl⟩ dX12_turned_23 (fun r21 u22 H locs hp20 h => ?_)
        have h : xS D cy A s.heap ([(q, .inr (12, (.ref ((u 0)) :: .int 0 :: .long 0 :: .long 1 :: .ref ((u 1)) :: .ref ((u 2)) :: .ref ((u 3)) :: .ref ((u 4)) :: .ref ((u 5)) :: .int 0 :: .int 0 :: .int 0 :: .int 0 :: .int 0 :: .int 0 :: .int (-1) :: .int (-1) :: .int 0 :: .ref ((u 6)) :: .int 0 :: .int 0 :: .ref ((u 7)) :: .ref ((u 8)) :: .ref ((u 9)) :: .ref ((u 10)) :: .ref ((u 11)) :: .ref ((u 12)) :: .ref ((u 13)) :: .int 0 :: .int 0 :: .int (-1) :: .int 0 :: .int (-1) :: .int 0 :: .ref ((u 14)) :: .int 0 :: .int 0 :: .int 0 :: .int 0 :: .int 0 :: .ref ((u 15)) :: .ref ((u 16)) :: .int 0 :: .int (-1) :: .int 0 :: .int 0 :: .int 0 :: .int 0 :: .ref ((u 17)) :: .ref ((u 18)) :: .ref ((u 19)) :: .int 0 :: .ref ((u 20)) :: .ref ((u 21)) :: .int 0 :: .ref ((u 22)) :: .int (-1) :: .int 0 :: .ref ((u 23)) :: .int (-1) :: .int (-1) :: .int 0 :: .ref ((u 24)) :: .ref ((u 25)) :: .int 0 :: []))), (((u 0)), .inl (cy 2, 25710, .inr (.inl (fun _ => 0))))]) s H locs := h
        obtain rfl : n = r21 := (hp20).symm
        refine x_Vl (wr := [(((u 0)), .inl (cy 2, 25710, .inr (.inl (fun _ => 0))))]) F h yk_X12_givesLong mw_801 mw_802 mw_803 (c_m_givesLong l D cy q ((.ref ((u 0)) :: .int 0 :: .long 0 :: .long 1 :: .ref ((u 1)) :: .ref ((u 2)) :: .ref ((u 3)) :: .ref ((u 4)) :: .ref ((u 5)) :: .int 0 :: .int 0 :: .int 0 :: .int 0 :: .int 0 :: .int 0 :: .int (-1) :: .int (-1) :: .int 0 :: .ref ((u 6)) :: .int 0 :: .int 0 :: .ref ((u 7)) :: .ref ((u 8)) :: .ref ((u 9)) :: .ref ((u 10)) :: .ref ((u 11)) :: .ref ((u 12)) :: .ref ((u 13)) :: .int 0 :: .int 0 :: .int (-1) :: .int 0 :: .int (-1) :: .int 0 :: .ref ((u 14)) :: .int 0 :: .int 0 :: .int 0 :: .int 0 :: .int 0 :: .ref ((u 15)) :: .ref ((u 16)) :: .int 0 :: .int (-1) :: .int 0 :: .int 0 :: .int 0 :: .int 0 :: .ref ((u 17)) :: .ref ((u 18)) :: .ref ((u 19)) :: .int 0 :: .ref ((u 20)) :: .ref ((u 21)) :: .int 0 :: .ref ((u 22)) :: .int (-1) :: .int 0 :: .ref ((u 23)) :: .int (-1) :: .int (-1) :: .int 0 :: .ref ((u 24)) :: .ref ((u 25)) :: .int 0 :: [])) rfl n) [0] [1] 0 rfl rfl rfl rfl (by decide) rfl rfl hl.1 rfl (Nat.le_of_ble_eq_true rfl) ⟨Nat.le_of_ble_eq_true rfl, Nat.le_of_ble_eq_true rfl⟩ ⟨Nat.le_of_ble_eq_true rfl, Nat.le_of_ble_eq_true rfl⟩ dX12_turned_26 (fun r24 u25 H locs hp23 h => ?_)
        have h : xS D cy A s.heap ([(((u 0)), .inl (cy 2, 25710, .inr (.inl (fun _ => 0))))]) s H locs := h
        obtain rfl : n = r24 := (hp23).symm
        refine lv_goto (tgt := 38) F.1 F.2.1 dX12_turned_29 (by decide) ?_
        exact x_lret F h hr hlk (fun _ => 0) [] (by simp [ht5, ht6, hw13]) (by decide +kernel) rfl (Nat.le_of_ble_eq_true rfl) (Nat.le_of_ble_eq_true rfl) dX12_turned_38
      · refine lv_aload_n F.1 F.2.1 dX12_turned_15 rfl (lv_at hl 0 rfl) ?_
        refine lv_aload_n F.1 F.2.1 dX12_turned_16 rfl (lv_at hl 0 rfl) ?_
        refine lv_sipush (v := 1650) F.1 F.2.1 dX12_turned_17 (by decide) ?_
        refine lv_iload_n F.1 F.2.1 dX12_turned_20 rfl (lv_at hl 1 rfl) ?_
        refine lv_imul F.1 F.2.1 dX12_turned_21 ?_
        refine x_topi (y := 3300) (by decide +kernel) ?_
        refine lv_lload_n F.1 F.2.1 dX12_turned_22 rfl (lv_at hl 2 rfl) ?_
        refine x_Vl (wr := []) F h yk_X12_turns mw_937 mw_938 mw_939 (c_m_turns3300 l D cy q u n) [1, 0] [] 1 rfl rfl rfl rfl (by decide) rfl rfl hl.1 rfl (Nat.le_of_ble_eq_true rfl) ⟨Nat.le_of_ble_eq_true rfl, Nat.le_of_ble_eq_true rfl⟩ ⟨Nat.le_of_ble_eq_true rfl, Nat.le_of_ble_eq_true rfl⟩ dX12_turned_23 (fun r27 u28 H locs hp26 h => ?_)
        have h : xS D cy A s.heap ([(q, .inr (12, (.ref ((u 0)) :: .int 0 :: .long 0 :: .long 1 :: .ref ((u 1)) :: .ref ((u 2)) :: .ref ((u 3)) :: .ref ((u 4)) :: .ref ((u 5)) :: .int 0 :: .int 0 :: .int 0 :: .int 0 :: .int 0 :: .int 0 :: .int (-1) :: .int (-1) :: .int 0 :: .ref ((u 6)) :: .int 0 :: .int 0 :: .ref ((u 7)) :: .ref ((u 8)) :: .ref ((u 9)) :: .ref ((u 10)) :: .ref ((u 11)) :: .ref ((u 12)) :: .ref ((u 13)) :: .int 0 :: .int 0 :: .int (-1) :: .int 0 :: .int (-1) :: .int 0 :: .ref ((u 14)) :: .int 0 :: .int 0 :: .int 0 :: .int 0 :: .int 0 :: .ref ((u 15)) :: .ref ((u 16)) :: .int 0 :: .int (-1) :: .int 0 :: .int 0 :: .int 0 :: .int 0 :: .ref ((u 17)) :: .ref ((u 18)) :: .ref ((u 19)) :: .int 0 :: .ref ((u 20)) :: .ref ((u 21)) :: .int 0 :: .ref ((u 22)) :: .int (-1) :: .int 0 :: .ref ((u 23)) :: .int (-1) :: .int (-1) :: .int 0 :: .ref ((u 24)) :: .ref ((u 25)) :: .int 0 :: []))), (((u 0)), .inl (cy 2, 25710, .inr (.inl (fun _ => 0))))]) s H locs := h
        obtain rfl : n = r27 := (hp26).symm
        refine x_Vl (wr := [(((u 0)), .inl (cy 2, 25710, .inr (.inl (fun _ => 0))))]) F h yk_X12_givesLong mw_801 mw_802 mw_803 (c_m_givesLong l D cy q ((.ref ((u 0)) :: .int 0 :: .long 0 :: .long 1 :: .ref ((u 1)) :: .ref ((u 2)) :: .ref ((u 3)) :: .ref ((u 4)) :: .ref ((u 5)) :: .int 0 :: .int 0 :: .int 0 :: .int 0 :: .int 0 :: .int 0 :: .int (-1) :: .int (-1) :: .int 0 :: .ref ((u 6)) :: .int 0 :: .int 0 :: .ref ((u 7)) :: .ref ((u 8)) :: .ref ((u 9)) :: .ref ((u 10)) :: .ref ((u 11)) :: .ref ((u 12)) :: .ref ((u 13)) :: .int 0 :: .int 0 :: .int (-1) :: .int 0 :: .int (-1) :: .int 0 :: .ref ((u 14)) :: .int 0 :: .int 0 :: .int 0 :: .int 0 :: .int 0 :: .ref ((u 15)) :: .ref ((u 16)) :: .int 0 :: .int (-1) :: .int 0 :: .int 0 :: .int 0 :: .int 0 :: .ref ((u 17)) :: .ref ((u 18)) :: .ref ((u 19)) :: .int 0 :: .ref ((u 20)) :: .ref ((u 21)) :: .int 0 :: .ref ((u 22)) :: .int (-1) :: .int 0 :: .ref ((u 23)) :: .int (-1) :: .int (-1) :: .int 0 :: .ref ((u 24)) :: .ref ((u 25)) :: .int 0 :: [])) rfl n) [0] [1] 0 rfl rfl rfl rfl (by decide) rfl rfl hl.1 rfl (Nat.le_of_ble_eq_true rfl) ⟨Nat.le_of_ble_eq_true rfl, Nat.le_of_ble_eq_true rfl⟩ ⟨Nat.le_of_ble_eq_true rfl, Nat.le_of_ble_eq_true rfl⟩ dX12_turned_26 (fun r30 u31 H locs hp29 h => ?_)
        have h : xS D cy A s.heap ([(((u 0)), .inl (cy 2, 25710, .inr (.inl (fun _ => 0))))]) s H locs := h
        obtain rfl : n = r30 := (hp29).symm
        refine lv_goto (tgt := 38) F.1 F.2.1 dX12_turned_29 (by decide) ?_
        exact x_lret F h hr hlk (fun _ => 0) [] (by simp [ht5, ht6, hw13]) (by decide +kernel) rfl (Nat.le_of_ble_eq_true rfl) (Nat.le_of_ble_eq_true rfl) dX12_turned_38
    · obtain rfl : r11 = 0 := by rw [hp10]; simp [hw13]
      refine lv_if_eq (tgt := 32) F.1 F.2.1 dX12_turned_12 (by decide) (fun _ => ?_) (fun hc => absurd (by decide) hc)
      refine lv_aload_n F.1 F.2.1 dX12_turned_32 rfl (lv_at hl 0 rfl) ?_
      refine lv_iconst (v := 1) F.1 F.2.1 dX12_turned_33 (by decide) ?_
      refine x_Vi (wr := [(((u 0)), .inl (cy 2, 25710, .inr (.inl (fun _ => 0))))]) F h yk_X12_refuse mw_452 mw_453 mw_454 (c_m_refuse l D cy q ((.ref ((u 0)) :: .int 0 :: .long 0 :: .long 1 :: .ref ((u 1)) :: .ref ((u 2)) :: .ref ((u 3)) :: .ref ((u 4)) :: .ref ((u 5)) :: .int 0 :: .int 0 :: .int 0 :: .int 0 :: .int 0 :: .int 0 :: .int (-1) :: .int (-1) :: .int 0 :: .ref ((u 6)) :: .int 0 :: .int 0 :: .ref ((u 7)) :: .ref ((u 8)) :: .ref ((u 9)) :: .ref ((u 10)) :: .ref ((u 11)) :: .ref ((u 12)) :: .ref ((u 13)) :: .int 0 :: .int 0 :: .int (-1) :: .int 0 :: .int (-1) :: .int 0 :: .ref ((u 14)) :: .int 0 :: .int 0 :: .int 0 :: .int 0 :: .int 0 :: .ref ((u 15)) :: .ref ((u 16)) :: .int 0 :: .int (-1) :: .int 0 :: .int 0 :: .int 0 :: .int 0 :: .ref ((u 17)) :: .ref ((u 18)) :: .ref ((u 19)) :: .int 0 :: .ref ((u 20)) :: .ref ((u 21)) :: .int 0 :: .ref ((u 22)) :: .int (-1) :: .int 0 :: .ref ((u 23)) :: .int (-1) :: .int (-1) :: .int 0 :: .ref ((u 24)) :: .ref ((u 25)) :: .int 0 :: [])) rfl 1) [1] [0] 1 rfl rfl rfl rfl (by decide) rfl rfl hl.1 rfl (Nat.le_of_ble_eq_true rfl) ⟨Nat.le_of_ble_eq_true rfl, Nat.le_of_ble_eq_true rfl⟩ ⟨Nat.le_of_ble_eq_true rfl, Nat.le_of_ble_eq_true rfl⟩ dX12_turned_34 (fun r33 u34 H locs hp32 h => ?_)
      have h : xS D cy A s.heap ([(((u 0)), .inl (cy 2, 25710, .inr (.inl (fun _ => 0))))]) s H locs := h
      obtain rfl : r33 = (-1) := hp32
      refine lv_i2l (v := (-1)) F.1 F.2.1 dX12_turned_37 (by decide +kernel) ?_
      exact x_lret F h hr hlk (fun _ => 0) [] (by simp [ht5, ht6, hw13]) (by decide +kernel) rfl (Nat.le_of_ble_eq_true rfl) (Nat.le_of_ble_eq_true rfl) dX12_turned_38
set_option maxHeartbeats 4000000 in
set_option maxRecDepth 100000 in
theorem c_m_broken (l : Launch) (D : va_G) (cy : Nat → ClassId) (q : Nat) (u : Nat → Nat) (a0 : Int64) (b0 : Int64) : ∀ sz, Met l yX12_broken (Cond.code yX12_broken cX12_broken 6 (some .int) :: wsL_law) { frames := 1, cells := 0, slots := 0, locals := 24 } (va_Pc [.ref q, .long a0, .long b0] (xP D cy ([mM q u 0 0 0 (-1) 0, mA_at cy u]) sz)) (va_Qi (fun r _ => r = if wv a0 = true ∧ wv b0 = true then 1 else -1) (xB D (va_A ([mM q u 0 0 0 (-1) 0, mA_at cy u]) sz) (fun _ => [])) (va_A ([mM q u 0 0 0 (-1) 0, mA_at cy u]) sz)) 0 0 (va_A ([mM q u 0 0 0 (-1) 0, mA_at cy u]) sz) := by
  refine x_enter (fun A => va_Qi (fun r _ => r = if wv a0 = true ∧ wv b0 = true then 1 else -1) (xB D A (fun _ => [])) A) (by decide +kernel) rfl (Nat.le_of_ble_eq_true rfl) ?_
  intro p e s m below meth c A ls F hr hlk hin h hl
  have hl : lv_has ls 6 [(0, .ref q), (1, .long a0), (3, .long b0)] := hl
  have h : xS D cy A s.heap ([(q, .inr (12, (.ref ((u 0)) :: .int 0 :: .long 0 :: .long 1 :: .ref ((u 1)) :: .ref ((u 2)) :: .ref ((u 3)) :: .ref ((u 4)) :: .ref ((u 5)) :: .int 0 :: .int 0 :: .int 0 :: .int 0 :: .int 0 :: .int 0 :: .int (-1) :: .int (-1) :: .int 0 :: .ref ((u 6)) :: .int 0 :: .int 0 :: .ref ((u 7)) :: .ref ((u 8)) :: .ref ((u 9)) :: .ref ((u 10)) :: .ref ((u 11)) :: .ref ((u 12)) :: .ref ((u 13)) :: .int 0 :: .int 0 :: .int (-1) :: .int 0 :: .int (-1) :: .int 0 :: .ref ((u 14)) :: .int 0 :: .int 0 :: .int 0 :: .int 0 :: .int 0 :: .ref ((u 15)) :: .ref ((u 16)) :: .int 0 :: .int (-1) :: .int 0 :: .int 0 :: .int 0 :: .int 0 :: .ref ((u 17)) :: .ref ((u 18)) :: .ref ((u 19)) :: .int 0 :: .ref ((u 20)) :: .ref ((u 21)) :: .int 0 :: .ref ((u 22)) :: .int (-1) :: .int 0 :: .ref ((u 23)) :: .int (-1) :: .int (-1) :: .int 0 :: .ref ((u 24)) :: .ref ((u 25)) :: .int 0 :: []))), (((u 0)), .inl (cy 2, 25710, .inr (.inl (fun _ => 0))))]) s s.heap [] := h
  refine lv_lload_n F.1 F.2.1 dX12_broken_0 rfl (lv_at hl 1 rfl) ?_
  refine x_St F h yk_X12_isWordNumber mw_931 mw_932 (c_m_isWord l D cy a0) hl.1 rfl (Nat.le_of_ble_eq_true rfl) ⟨Nat.le_of_ble_eq_true rfl, Nat.le_of_ble_eq_true rfl⟩ ⟨Nat.le_of_ble_eq_true rfl, Nat.le_of_ble_eq_true rfl⟩ dX12_broken_1 (fun r2 u3 H locs hp1 h => ?_)
  by_cases hw4 : wv a0 = true
  · obtain rfl : r2 = 1 := by rw [hp1]; simp [hw4]
    refine lv_if_eq (tgt := 14) F.1 F.2.1 dX12_broken_4 (by decide) (fun hc => absurd hc (by decide)) (fun _ => ?_)
    refine lv_lload_n F.1 F.2.1 dX12_broken_7 rfl (lv_at hl 2 rfl) ?_
    refine x_St F h yk_X12_isWordNumber mw_931 mw_932 (c_m_isWord l D cy b0) hl.1 rfl (Nat.le_of_ble_eq_true rfl) ⟨Nat.le_of_ble_eq_true rfl, Nat.le_of_ble_eq_true rfl⟩ ⟨Nat.le_of_ble_eq_true rfl, Nat.le_of_ble_eq_true rfl⟩ dX12_broken_8 (fun r6 u7 H locs hp5 h => ?_)
    by_cases hw8 : wv b0 = true
    · obtain rfl : r6 = 1 := by rw [hp5]; simp [hw8]
      refine lv_if_ne (tgt := 20) F.1 F.2.1 dX12_broken_11 (by decide) (fun _ => ?_) (fun hc => absurd hc (by decide))
      refine lv_aload_n F.1 F.2.1 dX12_broken_20 rfl (lv_at hl 0 rfl) ?_
      refine x_get F h 0 0 inlX12 rfl (by decide) mw_202 dX12_broken_21 rfl rfl ?_
      refine lv_sipush (v := 5159) F.1 F.2.1 dX12_broken_24 (by decide) ?_
      refine x_lald (v := 0) F h 1 rfl rfl (x_in (by decide +kernel)) rfl dX12_broken_27 ?_
      refine lv_l2i (v := 0) F.1 F.2.1 dX12_broken_28 (by decide +kernel) ?_
      refine lv_istore (lv' := [(5, .int 0), (0, .ref q), (1, .long a0), (3, .long b0)]) F.1 F.2.1 dX12_broken_29 hl (by decide) rfl (fun ls hl => ?_)
      refine lv_iload F.1 F.2.1 dX12_broken_31 (lv_at hl 0 rfl) ?_
      refine lv_bipush (v := 12) F.1 F.2.1 dX12_broken_33 (by decide) ?_
      refine lv_icmp_ne (tgt := 44) F.1 F.2.1 dX12_broken_35 (by decide) (fun _ => ?_) (fun hc => absurd hc (by decide))
      refine lv_aload_n F.1 F.2.1 dX12_broken_44 rfl (lv_at hl 1 rfl) ?_
      refine x_get F h 0 0 inlX12 rfl (by decide) mw_202 dX12_broken_45 rfl rfl ?_
      refine lv_sipush (v := 5160) F.1 F.2.1 dX12_broken_48 (by decide) ?_
      refine lv_iconst (v := 2) F.1 F.2.1 dX12_broken_51 (by decide) ?_
      refine lv_iload F.1 F.2.1 dX12_broken_52 (lv_at hl 0 rfl) ?_
      refine lv_imul F.1 F.2.1 dX12_broken_54 ?_
      refine x_topi (y := 0) (by decide +kernel) ?_
      refine lv_iadd F.1 F.2.1 dX12_broken_55 ?_
      refine x_topi (y := 5160) (by decide +kernel) ?_
      refine lv_lload_n F.1 F.2.1 dX12_broken_56 rfl (lv_at hl 2 rfl) ?_
      refine x_last F h 1 rfl rfl (x_in (by decide +kernel)) dX12_broken_57 (ws' := [(q, .inr (12, (.ref ((u 0)) :: .int 0 :: .long 0 :: .long 1 :: .ref ((u 1)) :: .ref ((u 2)) :: .ref ((u 3)) :: .ref ((u 4)) :: .ref ((u 5)) :: .int 0 :: .int 0 :: .int 0 :: .int 0 :: .int 0 :: .int 0 :: .int (-1) :: .int (-1) :: .int 0 :: .ref ((u 6)) :: .int 0 :: .int 0 :: .ref ((u 7)) :: .ref ((u 8)) :: .ref ((u 9)) :: .ref ((u 10)) :: .ref ((u 11)) :: .ref ((u 12)) :: .ref ((u 13)) :: .int 0 :: .int 0 :: .int (-1) :: .int 0 :: .int (-1) :: .int 0 :: .ref ((u 14)) :: .int 0 :: .int 0 :: .int 0 :: .int 0 :: .int 0 :: .ref ((u 15)) :: .ref ((u 16)) :: .int 0 :: .int (-1) :: .int 0 :: .int 0 :: .int 0 :: .int 0 :: .ref ((u 17)) :: .ref ((u 18)) :: .ref ((u 19)) :: .int 0 :: .ref ((u 20)) :: .ref ((u 21)) :: .int 0 :: .ref ((u 22)) :: .int (-1) :: .int 0 :: .ref ((u 23)) :: .int (-1) :: .int (-1) :: .int 0 :: .ref ((u 24)) :: .ref ((u 25)) :: .int 0 :: []))), (((u 0)), .inl (cy 2, 25710, .inr (.inl (vp_updL (fun _ => 0) 5160 a0))))]) rfl (fun H locs h => ?_)
      refine lv_aload_n F.1 F.2.1 dX12_broken_58 rfl (lv_at hl 1 rfl) ?_
      refine x_get F h 0 0 inlX12 rfl (by decide) mw_202 dX12_broken_59 rfl rfl ?_
      refine lv_sipush (v := 5160) F.1 F.2.1 dX12_broken_62 (by decide) ?_
      refine lv_iconst (v := 2) F.1 F.2.1 dX12_broken_65 (by decide) ?_
      refine lv_iload F.1 F.2.1 dX12_broken_66 (lv_at hl 0 rfl) ?_
      refine lv_imul F.1 F.2.1 dX12_broken_68 ?_
      refine x_topi (y := 0) (by decide +kernel) ?_
      refine lv_iadd F.1 F.2.1 dX12_broken_69 ?_
      refine x_topi (y := 5160) (by decide +kernel) ?_
      refine lv_iconst (v := 1) F.1 F.2.1 dX12_broken_70 (by decide) ?_
      refine lv_iadd F.1 F.2.1 dX12_broken_71 ?_
      refine x_topi (y := 5161) (by decide +kernel) ?_
      refine lv_lload_n F.1 F.2.1 dX12_broken_72 rfl (lv_at hl 3 rfl) ?_
      refine x_last F h 1 rfl rfl (x_in (by decide +kernel)) dX12_broken_73 (ws' := [(q, .inr (12, (.ref ((u 0)) :: .int 0 :: .long 0 :: .long 1 :: .ref ((u 1)) :: .ref ((u 2)) :: .ref ((u 3)) :: .ref ((u 4)) :: .ref ((u 5)) :: .int 0 :: .int 0 :: .int 0 :: .int 0 :: .int 0 :: .int 0 :: .int (-1) :: .int (-1) :: .int 0 :: .ref ((u 6)) :: .int 0 :: .int 0 :: .ref ((u 7)) :: .ref ((u 8)) :: .ref ((u 9)) :: .ref ((u 10)) :: .ref ((u 11)) :: .ref ((u 12)) :: .ref ((u 13)) :: .int 0 :: .int 0 :: .int (-1) :: .int 0 :: .int (-1) :: .int 0 :: .ref ((u 14)) :: .int 0 :: .int 0 :: .int 0 :: .int 0 :: .int 0 :: .ref ((u 15)) :: .ref ((u 16)) :: .int 0 :: .int (-1) :: .int 0 :: .int 0 :: .int 0 :: .int 0 :: .ref ((u 17)) :: .ref ((u 18)) :: .ref ((u 19)) :: .int 0 :: .ref ((u 20)) :: .ref ((u 21)) :: .int 0 :: .ref ((u 22)) :: .int (-1) :: .int 0 :: .ref ((u 23)) :: .int (-1) :: .int (-1) :: .int 0 :: .ref ((u 24)) :: .ref ((u 25)) :: .int 0 :: []))), (((u 0)), .inl (cy 2, 25710, .inr (.inl (vp_updL (vp_updL (fun _ => 0) 5160 a0) 5161 b0))))]) rfl (fun H locs h => ?_)
      refine lv_aload_n F.1 F.2.1 dX12_broken_74 rfl (lv_at hl 1 rfl) ?_
      refine x_get F h 0 0 inlX12 rfl (by decide) mw_202 dX12_broken_75 rfl rfl ?_
      refine lv_sipush (v := 5159) F.1 F.2.1 dX12_broken_78 (by decide) ?_
      refine lv_dup2_11 F.1 F.2.1 dX12_broken_81 rfl rfl ?_
      refine x_lald (v := 0) F h 1 rfl rfl (x_in (by decide +kernel)) rfl dX12_broken_82 ?_
      refine lv_lconst (v := 1) F.1 F.2.1 dX12_broken_83 (by decide) ?_
      refine lv_ladd F.1 F.2.1 dX12_broken_84 ?_
      refine x_topl (y := 1) (by decide +kernel) ?_
      refine x_last F h 1 rfl rfl (x_in (by decide +kernel)) dX12_broken_85 (ws' := [(q, .inr (12, (.ref ((u 0)) :: .int 0 :: .long 0 :: .long 1 :: .ref ((u 1)) :: .ref ((u 2)) :: .ref ((u 3)) :: .ref ((u 4)) :: .ref ((u 5)) :: .int 0 :: .int 0 :: .int 0 :: .int 0 :: .int 0 :: .int 0 :: .int (-1) :: .int (-1) :: .int 0 :: .ref ((u 6)) :: .int 0 :: .int 0 :: .ref ((u 7)) :: .ref ((u 8)) :: .ref ((u 9)) :: .ref ((u 10)) :: .ref ((u 11)) :: .ref ((u 12)) :: .ref ((u 13)) :: .int 0 :: .int 0 :: .int (-1) :: .int 0 :: .int (-1) :: .int 0 :: .ref ((u 14)) :: .int 0 :: .int 0 :: .int 0 :: .int 0 :: .int 0 :: .ref ((u 15)) :: .ref ((u 16)) :: .int 0 :: .int (-1) :: .int 0 :: .int 0 :: .int 0 :: .int 0 :: .ref ((u 17)) :: .ref ((u 18)) :: .ref ((u 19)) :: .int 0 :: .ref ((u 20)) :: .ref ((u 21)) :: .int 0 :: .ref ((u 22)) :: .int (-1) :: .int 0 :: .ref ((u 23)) :: .int (-1) :: .int (-1) :: .int 0 :: .ref ((u 24)) :: .ref ((u 25)) :: .int 0 :: []))), (((u 0)), .inl (cy 2, 25710, .inr (.inl (vp_updL (vp_updL (vp_updL (fun _ => 0) 5160 a0) 5161 b0) 5159 1))))]) rfl (fun H locs h => ?_)
      refine lv_aload_n F.1 F.2.1 dX12_broken_86 rfl (lv_at hl 1 rfl) ?_
      refine lv_iload F.1 F.2.1 dX12_broken_87 (lv_at hl 0 rfl) ?_
      refine lv_iconst (v := 1) F.1 F.2.1 dX12_broken_89 (by decide) ?_
      refine lv_iadd F.1 F.2.1 dX12_broken_90 ?_
      refine x_topi (y := 1) (by decide +kernel) ?_
      refine x_Vi (wr := [(((u 0)), .inl (cy 2, 25710, .inr (.inl (vp_updL (vp_updL (vp_updL (fun _ => 0) 5160 a0) 5161 b0) 5159 1))))]) F h yk_X12_gives mw_499 mw_500 mw_501 (c_m_gives l D cy q ((.ref ((u 0)) :: .int 0 :: .long 0 :: .long 1 :: .ref ((u 1)) :: .ref ((u 2)) :: .ref ((u 3)) :: .ref ((u 4)) :: .ref ((u 5)) :: .int 0 :: .int 0 :: .int 0 :: .int 0 :: .int 0 :: .int 0 :: .int (-1) :: .int (-1) :: .int 0 :: .ref ((u 6)) :: .int 0 :: .int 0 :: .ref ((u 7)) :: .ref ((u 8)) :: .ref ((u 9)) :: .ref ((u 10)) :: .ref ((u 11)) :: .ref ((u 12)) :: .ref ((u 13)) :: .int 0 :: .int 0 :: .int (-1) :: .int 0 :: .int (-1) :: .int 0 :: .ref ((u 14)) :: .int 0 :: .int 0 :: .int 0 :: .int 0 :: .int 0 :: .ref ((u 15)) :: .ref ((u 16)) :: .int 0 :: .int (-1) :: .int 0 :: .int 0 :: .int 0 :: .int 0 :: .ref ((u 17)) :: .ref ((u 18)) :: .ref ((u 19)) :: .int 0 :: .ref ((u 20)) :: .ref ((u 21)) :: .int 0 :: .ref ((u 22)) :: .int (-1) :: .int 0 :: .ref ((u 23)) :: .int (-1) :: .int (-1) :: .int 0 :: .ref ((u 24)) :: .ref ((u 25)) :: .int 0 :: [])) rfl 1) [0] [1] 0 rfl rfl rfl rfl (by decide) rfl rfl hl.1 rfl (Nat.le_of_ble_eq_true rfl) ⟨Nat.le_of_ble_eq_true rfl, Nat.le_of_ble_eq_true rfl⟩ ⟨Nat.le_of_ble_eq_true rfl, Nat.le_of_ble_eq_true rfl⟩ dX12_broken_91 (fun r10 u11 H locs hp9 h => ?_)
      have h : xS D cy A s.heap ([(((u 0)), .inl (cy 2, 25710, .inr (.inl (vp_updL (vp_updL (vp_updL (fun _ => 0) 5160 a0) 5161 b0) 5159 1))))]) s H locs := h
      obtain rfl : r10 = 1 := hp9
      exact x_iret F h hr hlk rfl (fun _ => 0) [] (by simp [hw4, hw8]) (by decide +kernel) rfl (Nat.le_of_ble_eq_true rfl) (Nat.le_of_ble_eq_true rfl) dX12_broken_94
    · obtain rfl : r6 = 0 := by rw [hp5]; simp [hw8]
      refine lv_if_ne (tgt := 20) F.1 F.2.1 dX12_broken_11 (by decide) (fun hc => absurd hc (by decide)) (fun _ => ?_)
      refine lv_aload_n F.1 F.2.1 dX12_broken_14 rfl (lv_at hl 0 rfl) ?_
      refine lv_iconst (v := 1) F.1 F.2.1 dX12_broken_15 (by decide) ?_
      refine x_Vi (wr := [(((u 0)), .inl (cy 2, 25710, .inr (.inl (fun _ => 0))))]) F h yk_X12_refuse mw_452 mw_453 mw_454 (c_m_refuse l D cy q ((.ref ((u 0)) :: .int 0 :: .long 0 :: .long 1 :: .ref ((u 1)) :: .ref ((u 2)) :: .ref ((u 3)) :: .ref ((u 4)) :: .ref ((u 5)) :: .int 0 :: .int 0 :: .int 0 :: .int 0 :: .int 0 :: .int 0 :: .int (-1) :: .int (-1) :: .int 0 :: .ref ((u 6)) :: .int 0 :: .int 0 :: .ref ((u 7)) :: .ref ((u 8)) :: .ref ((u 9)) :: .ref ((u 10)) :: .ref ((u 11)) :: .ref ((u 12)) :: .ref ((u 13)) :: .int 0 :: .int 0 :: .int (-1) :: .int 0 :: .int (-1) :: .int 0 :: .ref ((u 14)) :: .int 0 :: .int 0 :: .int 0 :: .int 0 :: .int 0 :: .ref ((u 15)) :: .ref ((u 16)) :: .int 0 :: .int (-1) :: .int 0 :: .int 0 :: .int 0 :: .int 0 :: .ref ((u 17)) :: .ref ((u 18)) :: .ref ((u 19)) :: .int 0 :: .ref ((u 20)) :: .ref ((u 21)) :: .int 0 :: .ref ((u 22)) :: .int (-1) :: .int 0 :: .ref ((u 23)) :: .int (-1) :: .int (-1) :: .int 0 :: .ref ((u 24)) :: .ref ((u 25)) :: .int 0 :: [])) rfl 1) [0] [1] 0 rfl rfl rfl rfl (by decide) rfl rfl hl.1 rfl (Nat.le_of_ble_eq_true rfl) ⟨Nat.le_of_ble_eq_true rfl, Nat.le_of_ble_eq_true rfl⟩ ⟨Nat.le_of_ble_eq_true rfl, Nat.le_of_ble_eq_true rfl⟩ dX12_broken_16 (fun r13 u14 H locs hp12 h => ?_)
      have h : xS D cy A s.heap ([(((u 0)), .inl (cy 2, 25710, .inr (.inl (fun _ => 0))))]) s H locs := h
      obtain rfl : r13 = (-1) := hp12
      exact x_iret F h hr hlk rfl (fun _ => 0) [] (by simp [hw4, hw8]) (by decide +kernel) rfl (Nat.le_of_ble_eq_true rfl) (Nat.le_of_ble_eq_true rfl) dX12_broken_19
  · obtain rfl : r2 = 0 := by rw [hp1]; simp [hw4]
    refine lv_if_eq (tgt := 14) F.1 F.2.1 dX12_broken_4 (by decide) (fun _ => ?_) (fun hc => absurd (by decide) hc)
    refine lv_aload_n F.1 F.2.1 dX12_broken_14 rfl (lv_at hl 0 rfl) ?_
    refine lv_iconst (v := 1) F.1 F.2.1 dX12_broken_15 (by decide) ?_
    refine x_Vi (wr := [(((u 0)), .inl (cy 2, 25710, .inr (.inl (fun _ => 0))))]) F h yk_X12_refuse mw_452 mw_453 mw_454 (c_m_refuse l D cy q ((.ref ((u 0)) :: .int 0 :: .long 0 :: .long 1 :: .ref ((u 1)) :: .ref ((u 2)) :: .ref ((u 3)) :: .ref ((u 4)) :: .ref ((u 5)) :: .int 0 :: .int 0 :: .int 0 :: .int 0 :: .int 0 :: .int 0 :: .int (-1) :: .int (-1) :: .int 0 :: .ref ((u 6)) :: .int 0 :: .int 0 :: .ref ((u 7)) :: .ref ((u 8)) :: .ref ((u 9)) :: .ref ((u 10)) :: .ref ((u 11)) :: .ref ((u 12)) :: .ref ((u 13)) :: .int 0 :: .int 0 :: .int (-1) :: .int 0 :: .int (-1) :: .int 0 :: .ref ((u 14)) :: .int 0 :: .int 0 :: .int 0 :: .int 0 :: .int 0 :: .ref ((u 15)) :: .ref ((u 16)) :: .int 0 :: .int (-1) :: .int 0 :: .int 0 :: .int 0 :: .int 0 :: .ref ((u 17)) :: .ref ((u 18)) :: .ref ((u 19)) :: .int 0 :: .ref ((u 20)) :: .ref ((u 21)) :: .int 0 :: .ref ((u 22)) :: .int (-1) :: .int 0 :: .ref ((u 23)) :: .int (-1) :: .int (-1) :: .int 0 :: .ref ((u 24)) :: .ref ((u 25)) :: .int 0 :: [])) rfl 1) [0] [1] 0 rfl rfl rfl rfl (by decide) rfl rfl hl.1 rfl (Nat.le_of_ble_eq_true rfl) ⟨Nat.le_of_ble_eq_true rfl, Nat.le_of_ble_eq_true rfl⟩ ⟨Nat.le_of_ble_eq_true rfl, Nat.le_of_ble_eq_true rfl⟩ dX12_broken_16 (fun r16 u17 H locs hp15 h => ?_)
    have h : xS D cy A s.heap ([(((u 0)), .inl (cy 2, 25710, .inr (.inl (fun _ => 0))))]) s H locs := h
    obtain rfl : r16 = (-1) := hp15
    exact x_iret F h hr hlk rfl (fun _ => 0) [] (by simp [hw4]) (by decide +kernel) rfl (Nat.le_of_ble_eq_true rfl) (Nat.le_of_ble_eq_true rfl) dX12_broken_19
set_option maxHeartbeats 4000000 in
set_option maxRecDepth 100000 in
theorem c_m_heard (l : Launch) (D : va_G) (cy : Nat → ClassId) (q : Nat) (u : Nat → Nat) (n : Int64) : ∀ sz, Met l yX12_heard (Cond.code yX12_heard cX12_heard 7 (some .int) :: wsL_law) { frames := 1, cells := 0, slots := 0, locals := 24 } (va_Pc [.ref q, .long n] (xP D cy ([mM q u 0 0 0 (-1) 0]) sz)) (va_Qi (fun r _ => r = if wv n = true then 0 else -1) (xB D (va_A ([mM q u 0 0 0 (-1) 0]) sz) (fun _ => [])) (va_A ([mM q u 0 0 0 (-1) 0]) sz)) 0 0 (va_A ([mM q u 0 0 0 (-1) 0]) sz) := by
  refine x_enter (fun A => va_Qi (fun r _ => r = if wv n = true then 0 else -1) (xB D A (fun _ => [])) A) (by decide +kernel) rfl (Nat.le_of_ble_eq_true rfl) ?_
  intro p e s m below meth c A ls F hr hlk hin h hl
  have hl : lv_has ls 7 [(0, .ref q), (1, .long n)] := hl
  have h : xS D cy A s.heap ([(q, .inr (12, (.ref ((u 0)) :: .int 0 :: .long 0 :: .long 1 :: .ref ((u 1)) :: .ref ((u 2)) :: .ref ((u 3)) :: .ref ((u 4)) :: .ref ((u 5)) :: .int 0 :: .int 0 :: .int 0 :: .int 0 :: .int 0 :: .int 0 :: .int (-1) :: .int (-1) :: .int 0 :: .ref ((u 6)) :: .int 0 :: .int 0 :: .ref ((u 7)) :: .ref ((u 8)) :: .ref ((u 9)) :: .ref ((u 10)) :: .ref ((u 11)) :: .ref ((u 12)) :: .ref ((u 13)) :: .int 0 :: .int 0 :: .int (-1) :: .int 0 :: .int (-1) :: .int 0 :: .ref ((u 14)) :: .int 0 :: .int 0 :: .int 0 :: .int 0 :: .int 0 :: .ref ((u 15)) :: .ref ((u 16)) :: .int 0 :: .int (-1) :: .int 0 :: .int 0 :: .int 0 :: .int 0 :: .ref ((u 17)) :: .ref ((u 18)) :: .ref ((u 19)) :: .int 0 :: .ref ((u 20)) :: .ref ((u 21)) :: .int 0 :: .ref ((u 22)) :: .int (-1) :: .int 0 :: .ref ((u 23)) :: .int (-1) :: .int (-1) :: .int 0 :: .ref ((u 24)) :: .ref ((u 25)) :: .int 0 :: [])))]) s s.heap [] := h
  refine lv_lload_n F.1 F.2.1 dX12_heard_0 rfl (lv_at hl 1 rfl) ?_
  refine x_St F h yk_X12_isWordNumber mw_931 mw_932 (c_m_isWord l D cy n) hl.1 rfl (Nat.le_of_ble_eq_true rfl) ⟨Nat.le_of_ble_eq_true rfl, Nat.le_of_ble_eq_true rfl⟩ ⟨Nat.le_of_ble_eq_true rfl, Nat.le_of_ble_eq_true rfl⟩ dX12_heard_1 (fun r2 u3 H locs hp1 h => ?_)
  by_cases hw4 : wv n = true
  · obtain rfl : r2 = 1 := by rw [hp1]; simp [hw4]
    refine lv_if_ne (tgt := 13) F.1 F.2.1 dX12_heard_4 (by decide) (fun _ => ?_) (fun hc => absurd hc (by decide))
    refine lv_iconst (v := 0) F.1 F.2.1 dX12_heard_13 (by decide) ?_
    refine lv_istore_n (lv' := [(3, .int 0), (0, .ref q), (1, .long n)]) F.1 F.2.1 dX12_heard_14 rfl hl (by decide) rfl (fun ls hl => ?_)
    refine lv_iconst (v := 0) F.1 F.2.1 dX12_heard_15 (by decide) ?_
    refine lv_istore (lv' := [(4, .int 0), (3, .int 0), (0, .ref q), (1, .long n)]) F.1 F.2.1 dX12_heard_16 hl (by decide) rfl (fun ls hl => ?_)
    refine lv_iload F.1 F.2.1 dX12_heard_18 (lv_at hl 0 rfl) ?_
    refine lv_aload_n F.1 F.2.1 dX12_heard_20 rfl (lv_at hl 2 rfl) ?_
    refine x_get F h 0 51 inlX12 rfl (by decide) mw_773 dX12_heard_21 rfl rfl ?_
    refine lv_icmp_ge (tgt := 122) F.1 F.2.1 dX12_heard_24 (by decide) (fun _ => ?_) (fun hc => absurd (by decide) hc)
    refine lv_aload_n F.1 F.2.1 dX12_heard_122 rfl (lv_at hl 2 rfl) ?_
    refine lv_iload_n F.1 F.2.1 dX12_heard_123 rfl (lv_at hl 1 rfl) ?_
    refine x_Vi (wr := []) F h yk_X12_gives mw_499 mw_500 mw_501 (c_m_gives l D cy q ((.ref ((u 0)) :: .int 0 :: .long 0 :: .long 1 :: .ref ((u 1)) :: .ref ((u 2)) :: .ref ((u 3)) :: .ref ((u 4)) :: .ref ((u 5)) :: .int 0 :: .int 0 :: .int 0 :: .int 0 :: .int 0 :: .int 0 :: .int (-1) :: .int (-1) :: .int 0 :: .ref ((u 6)) :: .int 0 :: .int 0 :: .ref ((u 7)) :: .ref ((u 8)) :: .ref ((u 9)) :: .ref ((u 10)) :: .ref ((u 11)) :: .ref ((u 12)) :: .ref ((u 13)) :: .int 0 :: .int 0 :: .int (-1) :: .int 0 :: .int (-1) :: .int 0 :: .ref ((u 14)) :: .int 0 :: .int 0 :: .int 0 :: .int 0 :: .int 0 :: .ref ((u 15)) :: .ref ((u 16)) :: .int 0 :: .int (-1) :: .int 0 :: .int 0 :: .int 0 :: .int 0 :: .ref ((u 17)) :: .ref ((u 18)) :: .ref ((u 19)) :: .int 0 :: .ref ((u 20)) :: .ref ((u 21)) :: .int 0 :: .ref ((u 22)) :: .int (-1) :: .int 0 :: .ref ((u 23)) :: .int (-1) :: .int (-1) :: .int 0 :: .ref ((u 24)) :: .ref ((u 25)) :: .int 0 :: [])) rfl 0) [0] [] 0 rfl rfl rfl rfl (by decide) rfl rfl hl.1 rfl (Nat.le_of_ble_eq_true rfl) ⟨Nat.le_of_ble_eq_true rfl, Nat.le_of_ble_eq_true rfl⟩ ⟨Nat.le_of_ble_eq_true rfl, Nat.le_of_ble_eq_true rfl⟩ dX12_heard_124 (fun r6 u7 H locs hp5 h => ?_)
    have h : xS D cy A s.heap ([]) s H locs := h
    obtain rfl : r6 = 0 := hp5
    exact x_iret F h hr hlk rfl (fun _ => 0) [] (by simp [hw4]) (by decide +kernel) rfl (Nat.le_of_ble_eq_true rfl) (Nat.le_of_ble_eq_true rfl) dX12_heard_127
  · obtain rfl : r2 = 0 := by rw [hp1]; simp [hw4]
    refine lv_if_ne (tgt := 13) F.1 F.2.1 dX12_heard_4 (by decide) (fun hc => absurd hc (by decide)) (fun _ => ?_)
    refine lv_aload_n F.1 F.2.1 dX12_heard_7 rfl (lv_at hl 0 rfl) ?_
    refine lv_iconst (v := 1) F.1 F.2.1 dX12_heard_8 (by decide) ?_
    refine x_Vi (wr := []) F h yk_X12_refuse mw_452 mw_453 mw_454 (c_m_refuse l D cy q ((.ref ((u 0)) :: .int 0 :: .long 0 :: .long 1 :: .ref ((u 1)) :: .ref ((u 2)) :: .ref ((u 3)) :: .ref ((u 4)) :: .ref ((u 5)) :: .int 0 :: .int 0 :: .int 0 :: .int 0 :: .int 0 :: .int 0 :: .int (-1) :: .int (-1) :: .int 0 :: .ref ((u 6)) :: .int 0 :: .int 0 :: .ref ((u 7)) :: .ref ((u 8)) :: .ref ((u 9)) :: .ref ((u 10)) :: .ref ((u 11)) :: .ref ((u 12)) :: .ref ((u 13)) :: .int 0 :: .int 0 :: .int (-1) :: .int 0 :: .int (-1) :: .int 0 :: .ref ((u 14)) :: .int 0 :: .int 0 :: .int 0 :: .int 0 :: .int 0 :: .ref ((u 15)) :: .ref ((u 16)) :: .int 0 :: .int (-1) :: .int 0 :: .int 0 :: .int 0 :: .int 0 :: .ref ((u 17)) :: .ref ((u 18)) :: .ref ((u 19)) :: .int 0 :: .ref ((u 20)) :: .ref ((u 21)) :: .int 0 :: .ref ((u 22)) :: .int (-1) :: .int 0 :: .ref ((u 23)) :: .int (-1) :: .int (-1) :: .int 0 :: .ref ((u 24)) :: .ref ((u 25)) :: .int 0 :: [])) rfl 1) [0] [] 0 rfl rfl rfl rfl (by decide) rfl rfl hl.1 rfl (Nat.le_of_ble_eq_true rfl) ⟨Nat.le_of_ble_eq_true rfl, Nat.le_of_ble_eq_true rfl⟩ ⟨Nat.le_of_ble_eq_true rfl, Nat.le_of_ble_eq_true rfl⟩ dX12_heard_9 (fun r9 u10 H locs hp8 h => ?_)
    have h : xS D cy A s.heap ([]) s H locs := h
    obtain rfl : r9 = (-1) := hp8
    exact x_iret F h hr hlk rfl (fun _ => 0) [] (by simp [hw4]) (by decide +kernel) rfl (Nat.le_of_ble_eq_true rfl) (Nat.le_of_ble_eq_true rfl) dX12_heard_12
