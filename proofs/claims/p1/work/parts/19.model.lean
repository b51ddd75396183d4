theorem dX12_status_0 : decode cX12_status 0 = .ok (.aload_n 0, 1) := by decide +kernel
theorem dX12_status_1 : decode cX12_status 1 = .ok (.getfield 121, 3) := by decide +kernel
theorem dX12_status_4 : decode cX12_status 4 = .ok (.ireturn, 1) := by decide +kernel
theorem dX12_top_0 : decode cX12_top 0 = .ok (.aload_n 0, 1) := by decide +kernel
theorem dX12_top_1 : decode cX12_top 1 = .ok (.getfield 124, 3) := by decide +kernel
theorem mw_255 : Cond.fieldLink RX12 124 "AskBackModel" "top" "J" ∈ wsL_law := inr_11 _ (List.mem_of_getElem? (i := 15) rfl)
theorem dX12_top_4 : decode cX12_top 4 = .ok (.lreturn, 1) := by decide +kernel
theorem dX12_bottom_0 : decode cX12_bottom 0 = .ok (.aload_n 0, 1) := by decide +kernel
theorem dX12_bottom_1 : decode cX12_bottom 1 = .ok (.getfield 13, 3) := by decide +kernel
theorem dX12_bottom_4 : decode cX12_bottom 4 = .ok (.lreturn, 1) := by decide +kernel
theorem dX12_wrongPlace_0 : decode cX12_wrongPlace 0 = .ok (.iload_n 1, 1) := by decide +kernel
theorem dX12_wrongPlace_1 : decode cX12_wrongPlace 1 = .ok (.invokestatic 127, 3) := by decide +kernel
theorem mw_283 : Cond.methodLink RX12 127 yX12_isTray ∈ wsL_law := inr_12 _ (List.mem_of_getElem? (i := 19) rfl)
theorem mw_5 : Cond.initialized RX12 ∈ wsL_law := inr_1 _ (List.mem_of_getElem? (i := 5) rfl)
theorem mw_285 : Cond.code yX12_isTray cX12_isTray 1 (some .boolean) ∈ wsL_law := inr_12 _ (List.mem_of_getElem? (i := 21) rfl)
theorem yk_X12_isTray : xY yX12_isTray RX12 cX12_isTray 1 (some .boolean) 1 := ⟨⟨rfl, by decide +kernel, by decide +kernel, by decide +kernel⟩, mw_5, mw_285⟩
theorem mw_284 : Cond.static yX12_isTray ∈ wsL_law := inr_12 _ (List.mem_of_getElem? (i := 20) rfl)
theorem dX12_wrongPlace_4 : decode cX12_wrongPlace 4 = .ok (.ifCond .ne 7, 3) := by decide +kernel
theorem dX12_wrongPlace_7 : decode cX12_wrongPlace 7 = .ok (.iconst 1, 1) := by decide +kernel
theorem dX12_wrongPlace_8 : decode cX12_wrongPlace 8 = .ok (.goto 36, 3) := by decide +kernel
theorem dX12_wrongPlace_44 : decode cX12_wrongPlace 44 = .ok (.ireturn, 1) := by decide +kernel
theorem dX12_wrongPlace_11 : decode cX12_wrongPlace 11 = .ok (.aload_n 0, 1) := by decide +kernel
theorem dX12_wrongPlace_12 : decode cX12_wrongPlace 12 = .ok (.getfield 21, 3) := by decide +kernel
theorem dX12_wrongPlace_15 : decode cX12_wrongPlace 15 = .ok (.iload_n 1, 1) := by decide +kernel
theorem dX12_wrongPlace_16 : decode cX12_wrongPlace 16 = .ok (.iaload, 1) := by decide +kernel
theorem dX12_wrongPlace_17 : decode cX12_wrongPlace 17 = .ok (.iconst (-1), 1) := by decide +kernel
theorem dX12_wrongPlace_18 : decode cX12_wrongPlace 18 = .ok (.if_icmp .ne 7, 3) := by decide +kernel
theorem dX12_wrongPlace_21 : decode cX12_wrongPlace 21 = .ok (.iconst 2, 1) := by decide +kernel
theorem dX12_wrongPlace_22 : decode cX12_wrongPlace 22 = .ok (.goto 22, 3) := by decide +kernel
theorem dX12_write_0 : decode cX12_write 0 = .ok (.aload_n 0, 1) := by decide +kernel
theorem dX12_write_1 : decode cX12_write 1 = .ok (.iload_n 1, 1) := by decide +kernel
theorem dX12_write_2 : decode cX12_write 2 = .ok (.iload_n 2, 1) := by decide +kernel
theorem dX12_write_3 : decode cX12_write 3 = .ok (.invokevirtual 134, 3) := by decide +kernel
theorem mw_319 : Cond.methodLink RX12 134 yX12_wrongPlace ∈ wsL_law := inr_14 _ (List.mem_of_getElem? (i := 7) rfl)
theorem mw_322 : Cond.code yX12_wrongPlace cX12_wrongPlace 3 (some .int) ∈ wsL_law := inr_14 _ (List.mem_of_getElem? (i := 10) rfl)
theorem yk_X12_wrongPlace : xY yX12_wrongPlace RX12 cX12_wrongPlace 3 (some .int) 2 := ⟨⟨rfl, by decide +kernel, by decide +kernel, by decide +kernel⟩, mw_5, mw_322⟩
theorem mw_320 : Cond.instanceMethod yX12_wrongPlace ∈ wsL_law := inr_14 _ (List.mem_of_getElem? (i := 8) rfl)
theorem mw_321 : Cond.selects RX12 yX12_wrongPlace yX12_wrongPlace ∈ wsL_law := inr_14 _ (List.mem_of_getElem? (i := 9) rfl)
theorem dX12_write_6 : decode cX12_write 6 = .ok (.istore 5, 2) := by decide +kernel
theorem dX12_write_8 : decode cX12_write 8 = .ok (.iload 5, 2) := by decide +kernel
theorem dX12_write_10 : decode cX12_write 10 = .ok (.ifCond .ne 24, 3) := by decide +kernel
theorem dX12_write_34 : decode cX12_write 34 = .ok (.aload_n 0, 1) := by decide +kernel
theorem dX12_write_35 : decode cX12_write 35 = .ok (.iload 5, 2) := by decide +kernel
theorem dX12_write_37 : decode cX12_write 37 = .ok (.invokevirtual 131, 3) := by decide +kernel
theorem mw_286 : Cond.methodLink RX12 131 yX12_is ∈ wsL_law := inr_12 _ (List.mem_of_getElem? (i := 22) rfl)
theorem mw_289 : Cond.code yX12_is cX12_is 2 (some .boolean) ∈ wsL_law := inr_13 _ (List.mem_of_getElem? (i := 1) rfl)
theorem yk_X12_is : xY yX12_is RX12 cX12_is 2 (some .boolean) 1 := ⟨⟨rfl, by decide +kernel, by decide +kernel, by decide +kernel⟩, mw_5, mw_289⟩
theorem mw_287 : Cond.instanceMethod yX12_is ∈ wsL_law := inr_12 _ (List.mem_of_getElem? (i := 23) rfl)
theorem mw_288 : Cond.selects RX12 yX12_is yX12_is ∈ wsL_law := inr_13 _ (List.mem_of_getElem? (i := 0) rfl)
theorem dX12_write_40 : decode cX12_write 40 = .ok (.ireturn, 1) := by decide +kernel
theorem dX12_read_0 : decode cX12_read 0 = .ok (.aload_n 0, 1) := by decide +kernel
theorem dX12_read_1 : decode cX12_read 1 = .ok (.aload_n 0, 1) := by decide +kernel
theorem dX12_read_2 : decode cX12_read 2 = .ok (.iload_n 1, 1) := by decide +kernel
theorem dX12_read_3 : decode cX12_read 3 = .ok (.iload_n 2, 1) := by decide +kernel
theorem dX12_read_4 : decode cX12_read 4 = .ok (.invokevirtual 134, 3) := by decide +kernel
theorem dX12_read_7 : decode cX12_read 7 = .ok (.putfield 121, 3) := by decide +kernel
theorem dX12_read_10 : decode cX12_read 10 = .ok (.aload_n 0, 1) := by decide +kernel
theorem dX12_read_11 : decode cX12_read 11 = .ok (.getfield 121, 3) := by decide +kernel
theorem dX12_read_14 : decode cX12_read 14 = .ok (.ifCond .le 9, 3) := by decide +kernel
theorem dX12_read_17 : decode cX12_read 17 = .ok (.ldc2_w 142, 3) := by decide +kernel
theorem mw_340 : Cond.constantLong RX12 142 (-1) ∈ wsL_law := inr_15 _ (List.mem_of_getElem? (i := 4) rfl)
theorem dX12_read_20 : decode cX12_read 20 = .ok (.goto 14, 3) := by decide +kernel
theorem dX12_read_34 : decode cX12_read 34 = .ok (.lreturn, 1) := by decide +kernel
theorem dX12_pour_0 : decode cX12_pour 0 = .ok (.iload_n 1, 1) := by decide +kernel
theorem dX12_pour_1 : decode cX12_pour 1 = .ok (.invokestatic 127, 3) := by decide +kernel
theorem dX12_pour_4 : decode cX12_pour 4 = .ok (.ifCond .eq 24, 3) := by decide +kernel
theorem dX12_pour_28 : decode cX12_pour 28 = .ok (.aload_n 0, 1) := by decide +kernel
theorem dX12_pour_29 : decode cX12_pour 29 = .ok (.iconst 1, 1) := by decide +kernel
theorem dX12_pour_30 : decode cX12_pour 30 = .ok (.invokevirtual 131, 3) := by decide +kernel
theorem dX12_pour_33 : decode cX12_pour 33 = .ok (.ireturn, 1) := by decide +kernel
theorem dX12_pour_7 : decode cX12_pour 7 = .ok (.iload_n 3, 1) := by decide +kernel
theorem dX12_pour_8 : decode cX12_pour 8 = .ok (.invokestatic 127, 3) := by decide +kernel
theorem dX12_pour_11 : decode cX12_pour 11 = .ok (.ifCond .eq 17, 3) := by decide +kernel
theorem dX12_pour_14 : decode cX12_pour 14 = .ok (.iload_n 2, 1) := by decide +kernel
theorem dX12_pour_15 : decode cX12_pour 15 = .ok (.ifCond .lt 13, 3) := by decide +kernel
theorem dX12_pour_18 : decode cX12_pour 18 = .ok (.iload 4, 2) := by decide +kernel
theorem dX12_pour_20 : decode cX12_pour 20 = .ok (.ifCond .lt 8, 3) := by decide +kernel
theorem dX12_pour_23 : decode cX12_pour 23 = .ok (.iload 5, 2) := by decide +kernel
theorem dX12_pour_25 : decode cX12_pour 25 = .ok (.ifCond .ge 9, 3) := by decide +kernel
theorem dX12_pour_34 : decode cX12_pour 34 = .ok (.aload_n 0, 1) := by decide +kernel
theorem dX12_pour_35 : decode cX12_pour 35 = .ok (.getfield 21, 3) := by decide +kernel
theorem dX12_pour_38 : decode cX12_pour 38 = .ok (.iload_n 1, 1) := by decide +kernel
theorem dX12_pour_39 : decode cX12_pour 39 = .ok (.iaload, 1) := by decide +kernel
theorem dX12_pour_40 : decode cX12_pour 40 = .ok (.iconst (-1), 1) := by decide +kernel
theorem dX12_pour_41 : decode cX12_pour 41 = .ok (.if_icmp .eq 13, 3) := by decide +kernel
theorem dX12_pour_54 : decode cX12_pour 54 = .ok (.aload_n 0, 1) := by decide +kernel
theorem dX12_pour_55 : decode cX12_pour 55 = .ok (.iconst 2, 1) := by decide +kernel
theorem dX12_pour_56 : decode cX12_pour 56 = .ok (.invokevirtual 131, 3) := by decide +kernel
theorem dX12_pour_59 : decode cX12_pour 59 = .ok (.ireturn, 1) := by decide +kernel
theorem dX12_tray_0 : decode cX12_tray 0 = .ok (.iload_n 1, 1) := by decide +kernel
theorem dX12_tray_1 : decode cX12_tray 1 = .ok (.invokestatic 127, 3) := by decide +kernel
theorem dX12_tray_4 : decode cX12_tray 4 = .ok (.ifCond .eq 22, 3) := by decide +kernel
theorem dX12_tray_26 : decode cX12_tray 26 = .ok (.aload_n 0, 1) := by decide +kernel
theorem dX12_tray_27 : decode cX12_tray 27 = .ok (.iconst 1, 1) := by decide +kernel
theorem dX12_tray_28 : decode cX12_tray 28 = .ok (.invokevirtual 131, 3) := by decide +kernel
theorem dX12_tray_31 : decode cX12_tray 31 = .ok (.ireturn, 1) := by decide +kernel
theorem dX12_tray_7 : decode cX12_tray 7 = .ok (.iload_n 2, 1) := by decide +kernel
theorem dX12_tray_8 : decode cX12_tray 8 = .ok (.ifCond .lt 18, 3) := by decide +kernel
theorem dX12_tray_11 : decode cX12_tray 11 = .ok (.iload_n 2, 1) := by decide +kernel
theorem dX12_tray_12 : decode cX12_tray 12 = .ok (.iconst 3, 1) := by decide +kernel
theorem dX12_tray_13 : decode cX12_tray 13 = .ok (.if_icmp .gt 13, 3) := by decide +kernel
theorem dX12_tray_16 : decode cX12_tray 16 = .ok (.iload_n 3, 1) := by decide +kernel
theorem dX12_tray_17 : decode cX12_tray 17 = .ok (.ifCond .lt 9, 3) := by decide +kernel
theorem dX12_tray_20 : decode cX12_tray 20 = .ok (.iload_n 3, 1) := by decide +kernel
theorem dX12_tray_21 : decode cX12_tray 21 = .ok (.bipush 60, 2) := by decide +kernel
theorem dX12_tray_23 : decode cX12_tray 23 = .ok (.if_icmp .le 9, 3) := by decide +kernel
theorem dX12_tray_32 : decode cX12_tray 32 = .ok (.aload_n 0, 1) := by decide +kernel
theorem dX12_tray_33 : decode cX12_tray 33 = .ok (.getfield 17, 3) := by decide +kernel
theorem dX12_tray_36 : decode cX12_tray 36 = .ok (.iload_n 1, 1) := by decide +kernel
theorem dX12_tray_37 : decode cX12_tray 37 = .ok (.iload_n 2, 1) := by decide +kernel
theorem dX12_tray_38 : decode cX12_tray 38 = .ok (.iastore, 1) := by decide +kernel
theorem dX12_tray_39 : decode cX12_tray 39 = .ok (.aload_n 0, 1) := by decide +kernel
theorem dX12_tray_40 : decode cX12_tray 40 = .ok (.getfield 21, 3) := by decide +kernel
theorem dX12_tray_43 : decode cX12_tray 43 = .ok (.iload_n 1, 1) := by decide +kernel
theorem dX12_tray_44 : decode cX12_tray 44 = .ok (.iload_n 3, 1) := by decide +kernel
theorem dX12_tray_45 : decode cX12_tray 45 = .ok (.iastore, 1) := by decide +kernel
theorem dX12_tray_46 : decode cX12_tray 46 = .ok (.iconst 0, 1) := by decide +kernel
theorem dX12_tray_47 : decode cX12_tray 47 = .ok (.istore 4, 2) := by decide +kernel
theorem dX12_tray_49 : decode cX12_tray 49 = .ok (.iload 4, 2) := by decide +kernel
theorem dX12_tray_51 : decode cX12_tray 51 = .ok (.iload_n 3, 1) := by decide +kernel
theorem dX12_tray_52 : decode cX12_tray 52 = .ok (.if_icmp .ge 22, 3) := by decide +kernel
theorem dX12_tray_74 : decode cX12_tray 74 = .ok (.aload_n 0, 1) := by decide +kernel
theorem dX12_tray_75 : decode cX12_tray 75 = .ok (.iconst 0, 1) := by decide +kernel
theorem dX12_tray_76 : decode cX12_tray 76 = .ok (.invokevirtual 131, 3) := by decide +kernel
theorem dX12_tray_79 : decode cX12_tray 79 = .ok (.ireturn, 1) := by decide +kernel
theorem dX12_tray_55 : decode cX12_tray 55 = .ok (.aload_n 0, 1) := by decide +kernel
theorem dX12_tray_56 : decode cX12_tray 56 = .ok (.getfield 24, 3) := by decide +kernel
theorem dX12_tray_59 : decode cX12_tray 59 = .ok (.bipush 60, 2) := by decide +kernel
theorem dX12_tray_61 : decode cX12_tray 61 = .ok (.iload_n 1, 1) := by decide +kernel
theorem dX12_tray_62 : decode cX12_tray 62 = .ok (.imul, 1) := by decide +kernel
theorem dX12_tray_63 : decode cX12_tray 63 = .ok (.iload 4, 2) := by decide +kernel
theorem dX12_tray_65 : decode cX12_tray 65 = .ok (.iadd, 1) := by decide +kernel
theorem dX12_tray_66 : decode cX12_tray 66 = .ok (.lconst 0, 1) := by decide +kernel
theorem dX12_tray_67 : decode cX12_tray 67 = .ok (.lastore, 1) := by decide +kernel
theorem dX12_tray_68 : decode cX12_tray 68 = .ok (.iinc 4 1, 3) := by decide +kernel
theorem dX12_tray_71 : decode cX12_tray 71 = .ok (.goto (-22), 3) := by decide +kernel
theorem dX12_four_0 : decode cX12_four 0 = .ok (.bipush 24, 2) := by decide +kernel
theorem dX12_four_2 : decode cX12_four 2 = .ok (.istore_n 2, 1) := by decide +kernel
theorem dX12_four_3 : decode cX12_four 3 = .ok (.iload_n 2, 1) := by decide +kernel
theorem dX12_four_4 : decode cX12_four 4 = .ok (.ifCond .lt 32, 3) := by decide +kernel
theorem dX12_four_7 : decode cX12_four 7 = .ok (.aload_n 0, 1) := by decide +kernel
theorem dX12_four_8 : decode cX12_four 8 = .ok (.getfield 27, 3) := by decide +kernel
theorem dX12_four_11 : decode cX12_four 11 = .ok (.aload_n 0, 1) := by decide +kernel
theorem dX12_four_12 : decode cX12_four 12 = .ok (.getfield 144, 3) := by decide +kernel
theorem mw_367 : Cond.fieldLink RX12 144 "AskBackModel" "taped" "I" ∈ wsL_law := inr_16 _ (List.mem_of_getElem? (i := 7) rfl)
theorem dX12_four_15 : decode cX12_four 15 = .ok (.iload_n 1, 1) := by decide +kernel
theorem dX12_four_16 : decode cX12_four 16 = .ok (.iload_n 2, 1) := by decide +kernel
theorem dX12_four_17 : decode cX12_four 17 = .ok (.ishr, 1) := by decide +kernel
theorem dX12_four_18 : decode cX12_four 18 = .ok (.i2b, 1) := by decide +kernel
theorem dX12_four_19 : decode cX12_four 19 = .ok (.bastore, 1) := by decide +kernel
theorem dX12_four_20 : decode cX12_four 20 = .ok (.aload_n 0, 1) := by decide +kernel
theorem dX12_four_21 : decode cX12_four 21 = .ok (.dup, 1) := by decide +kernel
theorem dX12_four_22 : decode cX12_four 22 = .ok (.getfield 144, 3) := by decide +kernel
theorem dX12_four_25 : decode cX12_four 25 = .ok (.iconst 1, 1) := by decide +kernel
theorem dX12_four_26 : decode cX12_four 26 = .ok (.iadd, 1) := by decide +kernel
theorem dX12_four_27 : decode cX12_four 27 = .ok (.putfield 144, 3) := by decide +kernel
theorem dX12_four_30 : decode cX12_four 30 = .ok (.iinc 2 (-8), 3) := by decide +kernel
theorem dX12_four_33 : decode cX12_four 33 = .ok (.goto (-30), 3) := by decide +kernel
theorem dX12_four_36 : decode cX12_four 36 = .ok (.return_, 1) := by decide +kernel
theorem dX12_feed_0 : decode cX12_feed 0 = .ok (.aload_n 0, 1) := by decide +kernel
theorem dX12_feed_1 : decode cX12_feed 1 = .ok (.getfield 144, 3) := by decide +kernel
theorem dX12_feed_4 : decode cX12_feed 4 = .ok (.bipush 20, 2) := by decide +kernel
theorem dX12_feed_6 : decode cX12_feed 6 = .ok (.iadd, 1) := by decide +kernel
theorem dX12_feed_7 : decode cX12_feed 7 = .ok (.sipush 600, 3) := by decide +kernel
theorem dX12_feed_10 : decode cX12_feed 10 = .ok (.if_icmp .le 5, 3) := by decide +kernel
theorem dX12_feed_15 : decode cX12_feed 15 = .ok (.aload_n 0, 1) := by decide +kernel
theorem dX12_feed_16 : decode cX12_feed 16 = .ok (.iload_n 1, 1) := by decide +kernel
theorem dX12_feed_17 : decode cX12_feed 17 = .ok (.invokevirtual 147, 3) := by decide +kernel
theorem mw_368 : Cond.methodLink RX12 147 yX12_four ∈ wsL_law := inr_16 _ (List.mem_of_getElem? (i := 8) rfl)
theorem mw_371 : Cond.code yX12_four cX12_four 3 none ∈ wsL_law := inr_16 _ (List.mem_of_getElem? (i := 11) rfl)
theorem yk_X12_four : xY yX12_four RX12 cX12_four 3 none 1 := ⟨⟨rfl, by decide +kernel, by decide +kernel, by decide +kernel⟩, mw_5, mw_371⟩
theorem mw_369 : Cond.instanceMethod yX12_four ∈ wsL_law := inr_16 _ (List.mem_of_getElem? (i := 9) rfl)
theorem mw_370 : Cond.selects RX12 yX12_four yX12_four ∈ wsL_law := inr_16 _ (List.mem_of_getElem? (i := 10) rfl)
theorem dX12_feed_20 : decode cX12_feed 20 = .ok (.aload_n 0, 1) := by decide +kernel
theorem dX12_feed_21 : decode cX12_feed 21 = .ok (.iload_n 2, 1) := by decide +kernel
theorem dX12_feed_22 : decode cX12_feed 22 = .ok (.invokevirtual 147, 3) := by decide +kernel
theorem dX12_feed_25 : decode cX12_feed 25 = .ok (.aload_n 0, 1) := by decide +kernel
theorem dX12_feed_26 : decode cX12_feed 26 = .ok (.iload_n 3, 1) := by decide +kernel
theorem dX12_feed_27 : decode cX12_feed 27 = .ok (.invokevirtual 147, 3) := by decide +kernel
theorem dX12_feed_30 : decode cX12_feed 30 = .ok (.aload_n 0, 1) := by decide +kernel
theorem dX12_feed_31 : decode cX12_feed 31 = .ok (.iload 4, 2) := by decide +kernel
theorem dX12_feed_33 : decode cX12_feed 33 = .ok (.invokevirtual 147, 3) := by decide +kernel
theorem dX12_feed_36 : decode cX12_feed 36 = .ok (.aload_n 0, 1) := by decide +kernel
theorem dX12_feed_37 : decode cX12_feed 37 = .ok (.iload 5, 2) := by decide +kernel
theorem dX12_feed_39 : decode cX12_feed 39 = .ok (.invokevirtual 147, 3) := by decide +kernel
theorem dX12_feed_42 : decode cX12_feed 42 = .ok (.aload_n 0, 1) := by decide +kernel
theorem dX12_feed_43 : decode cX12_feed 43 = .ok (.getfield 144, 3) := by decide +kernel
theorem dX12_feed_46 : decode cX12_feed 46 = .ok (.ireturn, 1) := by decide +kernel
theorem dX12_isLine_0 : decode cX12_isLine 0 = .ok (.lload_n 1, 1) := by decide +kernel
theorem dX12_isLine_1 : decode cX12_isLine 1 = .ok (.lconst 0, 1) := by decide +kernel
theorem dX12_isLine_2 : decode cX12_isLine 2 = .ok (.lcmp, 1) := by decide +kernel
theorem dX12_isLine_3 : decode cX12_isLine 3 = .ok (.ifCond .lt 20, 3) := by decide +kernel
theorem dX12_isLine_23 : decode cX12_isLine 23 = .ok (.iconst 0, 1) := by decide +kernel
theorem dX12_isLine_24 : decode cX12_isLine 24 = .ok (.ireturn, 1) := by decide +kernel
theorem dX12_isLine_6 : decode cX12_isLine 6 = .ok (.lload_n 1, 1) := by decide +kernel
theorem dX12_isLine_7 : decode cX12_isLine 7 = .ok (.aload_n 0, 1) := by decide +kernel
theorem dX12_isLine_8 : decode cX12_isLine 8 = .ok (.getfield 7, 3) := by decide +kernel
theorem dX12_isLine_11 : decode cX12_isLine 11 = .ok (.sipush 4950, 3) := by decide +kernel
theorem dX12_isLine_14 : decode cX12_isLine 14 = .ok (.laload, 1) := by decide +kernel
theorem dX12_isLine_15 : decode cX12_isLine 15 = .ok (.lcmp, 1) := by decide +kernel
theorem dX12_isLine_16 : decode cX12_isLine 16 = .ok (.ifCond .ge 7, 3) := by decide +kernel
theorem dX12_begins_0 : decode cX12_begins 0 = .ok (.aload_n 0, 1) := by decide +kernel
theorem dX12_begins_1 : decode cX12_begins 1 = .ok (.iload_n 1, 1) := by decide +kernel
theorem dX12_begins_2 : decode cX12_begins 2 = .ok (.putfield 151, 3) := by decide +kernel
theorem mw_460 : Cond.fieldLink RX12 151 "AskBackModel" "size" "I" ∈ wsL_law := inr_20 _ (List.mem_of_getElem? (i := 4) rfl)
theorem dX12_begins_5 : decode cX12_begins 5 = .ok (.iconst 0, 1) := by decide +kernel
theorem dX12_begins_6 : decode cX12_begins 6 = .ok (.istore_n 2, 1) := by decide +kernel
theorem dX12_begins_7 : decode cX12_begins 7 = .ok (.iload_n 2, 1) := by decide +kernel
theorem dX12_begins_8 : decode cX12_begins 8 = .ok (.iload_n 1, 1) := by decide +kernel
theorem dX12_begins_9 : decode cX12_begins 9 = .ok (.if_icmp .ge 21, 3) := by decide +kernel
theorem dX12_begins_30 : decode cX12_begins 30 = .ok (.aload_n 0, 1) := by decide +kernel
theorem dX12_begins_31 : decode cX12_begins 31 = .ok (.iconst 0, 1) := by decide +kernel
theorem dX12_begins_32 : decode cX12_begins 32 = .ok (.putfield 144, 3) := by decide +kernel
theorem dX12_begins_35 : decode cX12_begins 35 = .ok (.aload_n 0, 1) := by decide +kernel
theorem dX12_begins_36 : decode cX12_begins 36 = .ok (.iconst 0, 1) := by decide +kernel
theorem dX12_begins_37 : decode cX12_begins 37 = .ok (.putfield 181, 3) := by decide +kernel
theorem mw_450 : Cond.fieldLink RX12 181 "AskBackModel" "faults" "I" ∈ wsL_law := inr_19 _ (List.mem_of_getElem? (i := 18) rfl)
theorem dX12_begins_40 : decode cX12_begins 40 = .ok (.aload_n 0, 1) := by decide +kernel
theorem dX12_begins_41 : decode cX12_begins 41 = .ok (.iconst (-1), 1) := by decide +kernel
theorem dX12_begins_42 : decode cX12_begins 42 = .ok (.putfield 38, 3) := by decide +kernel
theorem dX12_begins_45 : decode cX12_begins 45 = .ok (.aload_n 0, 1) := by decide +kernel
theorem dX12_begins_46 : decode cX12_begins 46 = .ok (.iconst 0, 1) := by decide +kernel
theorem dX12_begins_47 : decode cX12_begins 47 = .ok (.putfield 154, 3) := by decide +kernel
theorem mw_461 : Cond.fieldLink RX12 154 "AskBackModel" "end" "I" ∈ wsL_law := inr_20 _ (List.mem_of_getElem? (i := 5) rfl)
theorem dX12_begins_50 : decode cX12_begins 50 = .ok (.return_, 1) := by decide +kernel
theorem dX12_byteAt_0 : decode cX12_byteAt 0 = .ok (.iload_n 1, 1) := by decide +kernel
theorem dX12_byteAt_1 : decode cX12_byteAt 1 = .ok (.aload_n 0, 1) := by decide +kernel
theorem dX12_byteAt_2 : decode cX12_byteAt 2 = .ok (.getfield 151, 3) := by decide +kernel
theorem dX12_byteAt_5 : decode cX12_byteAt 5 = .ok (.if_icmp .ge 16, 3) := by decide +kernel
theorem dX12_byteAt_21 : decode cX12_byteAt 21 = .ok (.iconst (-1), 1) := by decide +kernel
theorem dX12_byteAt_22 : decode cX12_byteAt 22 = .ok (.ireturn, 1) := by decide +kernel
theorem dX12_ahead0_0 : decode cX12_ahead0 0 = .ok (.aload_n 0, 1) := by decide +kernel
theorem dX12_ahead0_1 : decode cX12_ahead0 1 = .ok (.aload_n 0, 1) := by decide +kernel
theorem dX12_ahead0_2 : decode cX12_ahead0 2 = .ok (.getfield 154, 3) := by decide +kernel
theorem dX12_ahead0_5 : decode cX12_ahead0 5 = .ok (.invokevirtual 157, 3) := by decide +kernel
theorem mw_477 : Cond.methodLink RX12 157 yX12_byteAt ∈ wsL_law := inr_20 _ (List.mem_of_getElem? (i := 21) rfl)
theorem mw_480 : Cond.code yX12_byteAt cX12_byteAt 2 (some .int) ∈ wsL_law := inr_21 _ (List.mem_of_getElem? (i := 0) rfl)
theorem yk_X12_byteAt : xY yX12_byteAt RX12 cX12_byteAt 2 (some .int) 1 := ⟨⟨rfl, by decide +kernel, by decide +kernel, by decide +kernel⟩, mw_5, mw_480⟩
theorem mw_478 : Cond.instanceMethod yX12_byteAt ∈ wsL_law := inr_20 _ (List.mem_of_getElem? (i := 22) rfl)
theorem mw_479 : Cond.selects RX12 yX12_byteAt yX12_byteAt ∈ wsL_law := inr_20 _ (List.mem_of_getElem? (i := 23) rfl)
theorem dX12_ahead0_8 : decode cX12_ahead0 8 = .ok (.bipush 32, 2) := by decide +kernel
theorem dX12_ahead0_10 : decode cX12_ahead0 10 = .ok (.if_icmp .eq 16, 3) := by decide +kernel
theorem dX12_ahead0_13 : decode cX12_ahead0 13 = .ok (.aload_n 0, 1) := by decide +kernel
theorem dX12_ahead0_14 : decode cX12_ahead0 14 = .ok (.aload_n 0, 1) := by decide +kernel
theorem dX12_ahead0_15 : decode cX12_ahead0 15 = .ok (.getfield 154, 3) := by decide +kernel
theorem dX12_ahead0_18 : decode cX12_ahead0 18 = .ok (.invokevirtual 157, 3) := by decide +kernel
theorem dX12_ahead0_21 : decode cX12_ahead0 21 = .ok (.bipush 10, 2) := by decide +kernel
theorem dX12_ahead0_23 : decode cX12_ahead0 23 = .ok (.if_icmp .ne 16, 3) := by decide +kernel
theorem dX12_ahead0_39 : decode cX12_ahead0 39 = .ok (.aload_n 0, 1) := by decide +kernel
theorem dX12_ahead0_40 : decode cX12_ahead0 40 = .ok (.aload_n 0, 1) := by decide +kernel
theorem dX12_ahead0_41 : decode cX12_ahead0 41 = .ok (.getfield 154, 3) := by decide +kernel
theorem dX12_ahead0_44 : decode cX12_ahead0 44 = .ok (.putfield 161, 3) := by decide +kernel
theorem mw_467 : Cond.fieldLink RX12 161 "AskBackModel" "from" "I" ∈ wsL_law := inr_20 _ (List.mem_of_getElem? (i := 11) rfl)
theorem dX12_ahead0_47 : decode cX12_ahead0 47 = .ok (.aload_n 0, 1) := by decide +kernel
theorem dX12_ahead0_48 : decode cX12_ahead0 48 = .ok (.aload_n 0, 1) := by decide +kernel
theorem dX12_ahead0_49 : decode cX12_ahead0 49 = .ok (.getfield 154, 3) := by decide +kernel
theorem dX12_ahead0_52 : decode cX12_ahead0 52 = .ok (.invokevirtual 157, 3) := by decide +kernel
theorem dX12_ahead0_55 : decode cX12_ahead0 55 = .ok (.istore_n 1, 1) := by decide +kernel
theorem dX12_ahead0_56 : decode cX12_ahead0 56 = .ok (.aload_n 0, 1) := by decide +kernel
theorem dX12_ahead0_57 : decode cX12_ahead0 57 = .ok (.iload_n 1, 1) := by decide +kernel
theorem dX12_ahead0_58 : decode cX12_ahead0 58 = .ok (.putfield 164, 3) := by decide +kernel
theorem mw_472 : Cond.fieldLink RX12 164 "AskBackModel" "value" "I" ∈ wsL_law := inr_20 _ (List.mem_of_getElem? (i := 16) rfl)
theorem dX12_ahead0_61 : decode cX12_ahead0 61 = .ok (.iload_n 1, 1) := by decide +kernel
theorem dX12_ahead0_62 : decode cX12_ahead0 62 = .ok (.iconst (-1), 1) := by decide +kernel
theorem dX12_ahead0_63 : decode cX12_ahead0 63 = .ok (.if_icmp .ne 11, 3) := by decide +kernel
theorem dX12_ahead0_66 : decode cX12_ahead0 66 = .ok (.aload_n 0, 1) := by decide +kernel
theorem dX12_ahead0_67 : decode cX12_ahead0 67 = .ok (.iconst 0, 1) := by decide +kernel
theorem dX12_ahead0_68 : decode cX12_ahead0 68 = .ok (.putfield 167, 3) := by decide +kernel
theorem mw_466 : Cond.fieldLink RX12 167 "AskBackModel" "token" "I" ∈ wsL_law := inr_20 _ (List.mem_of_getElem? (i := 10) rfl)
theorem dX12_ahead0_71 : decode cX12_ahead0 71 = .ok (.goto 175, 3) := by decide +kernel
theorem dX12_ahead0_246 : decode cX12_ahead0 246 = .ok (.return_, 1) := by decide +kernel
theorem dX12_readsLine_0 : decode cX12_readsLine 0 = .ok (.iconst 0, 1) := by decide +kernel
theorem dX12_readsLine_1 : decode cX12_readsLine 1 = .ok (.istore_n 1, 1) := by decide +kernel
theorem dX12_readsLine_2 : decode cX12_readsLine 2 = .ok (.aload_n 0, 1) := by decide +kernel
theorem dX12_readsLine_3 : decode cX12_readsLine 3 = .ok (.invokevirtual 184, 3) := by decide +kernel
theorem mw_468 : Cond.methodLink RX12 184 yX12_ahead0 ∈ wsL_law := inr_20 _ (List.mem_of_getElem? (i := 12) rfl)
theorem mw_471 : Cond.code yX12_ahead0 cX12_ahead0 2 none ∈ wsL_law := inr_20 _ (List.mem_of_getElem? (i := 15) rfl)
theorem yk_X12_ahead0 : xY yX12_ahead0 RX12 cX12_ahead0 2 none 0 := ⟨⟨rfl, by decide +kernel, by decide +kernel, by decide +kernel⟩, mw_5, mw_471⟩
theorem mw_469 : Cond.instanceMethod yX12_ahead0 ∈ wsL_law := inr_20 _ (List.mem_of_getElem? (i := 13) rfl)
theorem mw_470 : Cond.selects RX12 yX12_ahead0 yX12_ahead0 ∈ wsL_law := inr_20 _ (List.mem_of_getElem? (i := 14) rfl)
theorem dX12_readsLine_6 : decode cX12_readsLine 6 = .ok (.aload_n 0, 1) := by decide +kernel
theorem dX12_readsLine_7 : decode cX12_readsLine 7 = .ok (.getfield 167, 3) := by decide +kernel
theorem dX12_readsLine_10 : decode cX12_readsLine 10 = .ok (.ifCond .eq 90, 3) := by decide +kernel
theorem dX12_readsLine_100 : decode cX12_readsLine 100 = .ok (.iload_n 1, 1) := by decide +kernel
theorem dX12_readsLine_101 : decode cX12_readsLine 101 = .ok (.ireturn, 1) := by decide +kernel
theorem dX12_lineAt_0 : decode cX12_lineAt 0 = .ok (.sipush 4951, 3) := by decide +kernel
theorem dX12_lineAt_3 : decode cX12_lineAt 3 = .ok (.bipush 13, 2) := by decide +kernel
theorem dX12_lineAt_5 : decode cX12_lineAt 5 = .ok (.iload_n 1, 1) := by decide +kernel
theorem dX12_lineAt_6 : decode cX12_lineAt 6 = .ok (.imul, 1) := by decide +kernel
theorem dX12_lineAt_7 : decode cX12_lineAt 7 = .ok (.iadd, 1) := by decide +kernel
theorem dX12_lineAt_8 : decode cX12_lineAt 8 = .ok (.ireturn, 1) := by decide +kernel
theorem dX12_line_0 : decode cX12_line 0 = .ok (.iload_n 1, 1) := by decide +kernel
theorem dX12_line_1 : decode cX12_line 1 = .ok (.ifCond .lt 17, 3) := by decide +kernel
theorem dX12_line_18 : decode cX12_line 18 = .ok (.aload_n 0, 1) := by decide +kernel
theorem dX12_line_19 : decode cX12_line 19 = .ok (.iconst 1, 1) := by decide +kernel
theorem dX12_line_20 : decode cX12_line 20 = .ok (.invokevirtual 194, 3) := by decide +kernel
theorem mw_452 : Cond.methodLink RX12 194 yX12_refuse ∈ wsL_law := inr_19 _ (List.mem_of_getElem? (i := 20) rfl)
theorem mw_455 : Cond.code yX12_refuse cX12_refuse 2 (some .int) ∈ wsL_law := inr_19 _ (List.mem_of_getElem? (i := 23) rfl)
theorem yk_X12_refuse : xY yX12_refuse RX12 cX12_refuse 2 (some .int) 1 := ⟨⟨rfl, by decide +kernel, by decide +kernel, by decide +kernel⟩, mw_5, mw_455⟩
theorem mw_453 : Cond.instanceMethod yX12_refuse ∈ wsL_law := inr_19 _ (List.mem_of_getElem? (i := 21) rfl)
theorem mw_454 : Cond.selects RX12 yX12_refuse yX12_refuse ∈ wsL_law := inr_19 _ (List.mem_of_getElem? (i := 22) rfl)
theorem dX12_line_23 : decode cX12_line 23 = .ok (.ireturn, 1) := by decide +kernel
theorem dX12_line_4 : decode cX12_line 4 = .ok (.iload_n 1, 1) := by decide +kernel
theorem dX12_line_5 : decode cX12_line 5 = .ok (.aload_n 0, 1) := by decide +kernel
theorem dX12_line_6 : decode cX12_line 6 = .ok (.getfield 144, 3) := by decide +kernel
theorem dX12_line_9 : decode cX12_line 9 = .ok (.if_icmp .gt 9, 3) := by decide +kernel
theorem dX12_line_12 : decode cX12_line 12 = .ok (.iload_n 1, 1) := by decide +kernel
theorem dX12_line_13 : decode cX12_line 13 = .ok (.bipush 120, 2) := by decide +kernel
theorem dX12_line_15 : decode cX12_line 15 = .ok (.if_icmp .le 9, 3) := by decide +kernel
theorem dX12_line_24 : decode cX12_line 24 = .ok (.aload_n 0, 1) := by decide +kernel
theorem dX12_line_25 : decode cX12_line 25 = .ok (.iload_n 1, 1) := by decide +kernel
theorem dX12_line_26 : decode cX12_line 26 = .ok (.invokevirtual 197, 3) := by decide +kernel
theorem mw_456 : Cond.methodLink RX12 197 yX12_begins ∈ wsL_law := inr_20 _ (List.mem_of_getElem? (i := 0) rfl)
theorem mw_459 : Cond.code yX12_begins cX12_begins 3 none ∈ wsL_law := inr_20 _ (List.mem_of_getElem? (i := 3) rfl)
theorem yk_X12_begins : xY yX12_begins RX12 cX12_begins 3 none 1 := ⟨⟨rfl, by decide +kernel, by decide +kernel, by decide +kernel⟩, mw_5, mw_459⟩
theorem mw_457 : Cond.instanceMethod yX12_begins ∈ wsL_law := inr_20 _ (List.mem_of_getElem? (i := 1) rfl)
theorem mw_458 : Cond.selects RX12 yX12_begins yX12_begins ∈ wsL_law := inr_20 _ (List.mem_of_getElem? (i := 2) rfl)
theorem dX12_line_29 : decode cX12_line 29 = .ok (.aload_n 0, 1) := by decide +kernel
theorem dX12_line_30 : decode cX12_line 30 = .ok (.invokevirtual 200, 3) := by decide +kernel
theorem mw_462 : Cond.methodLink RX12 200 yX12_readsLine ∈ wsL_law := inr_20 _ (List.mem_of_getElem? (i := 6) rfl)
theorem mw_465 : Cond.code yX12_readsLine cX12_readsLine 2 (some .int) ∈ wsL_law := inr_20 _ (List.mem_of_getElem? (i := 9) rfl)
theorem yk_X12_readsLine : xY yX12_readsLine RX12 cX12_readsLine 2 (some .int) 0 := ⟨⟨rfl, by decide +kernel, by decide +kernel, by decide +kernel⟩, mw_5, mw_465⟩
theorem mw_463 : Cond.instanceMethod yX12_readsLine ∈ wsL_law := inr_20 _ (List.mem_of_getElem? (i := 7) rfl)
theorem mw_464 : Cond.selects RX12 yX12_readsLine yX12_readsLine ∈ wsL_law := inr_20 _ (List.mem_of_getElem? (i := 8) rfl)
theorem dX12_line_33 : decode cX12_line 33 = .ok (.istore_n 2, 1) := by decide +kernel
theorem dX12_line_34 : decode cX12_line 34 = .ok (.aload_n 0, 1) := by decide +kernel
theorem dX12_line_35 : decode cX12_line 35 = .ok (.aload_n 0, 1) := by decide +kernel
theorem dX12_line_36 : decode cX12_line 36 = .ok (.getfield 181, 3) := by decide +kernel
theorem dX12_line_39 : decode cX12_line 39 = .ok (.putfield 34, 3) := by decide +kernel
theorem dX12_line_42 : decode cX12_line 42 = .ok (.aload_n 0, 1) := by decide +kernel
theorem dX12_line_43 : decode cX12_line 43 = .ok (.getfield 181, 3) := by decide +kernel
theorem dX12_line_46 : decode cX12_line 46 = .ok (.ifCond .le 10, 3) := by decide +kernel
theorem dX12_line_56 : decode cX12_line 56 = .ok (.aload_n 0, 1) := by decide +kernel
theorem dX12_line_57 : decode cX12_line 57 = .ok (.getfield 7, 3) := by decide +kernel
theorem dX12_line_60 : decode cX12_line 60 = .ok (.sipush 4950, 3) := by decide +kernel
theorem dX12_line_63 : decode cX12_line 63 = .ok (.laload, 1) := by decide +kernel
theorem dX12_line_64 : decode cX12_line 64 = .ok (.ldc2_w 204, 3) := by decide +kernel
theorem mw_451 : Cond.constantLong RX12 204 (16) ∈ wsL_law := inr_19 _ (List.mem_of_getElem? (i := 19) rfl)
theorem dX12_line_67 : decode cX12_line 67 = .ok (.lcmp, 1) := by decide +kernel
theorem dX12_line_68 : decode cX12_line 68 = .ok (.ifCond .ne 9, 3) := by decide +kernel
theorem dX12_line_77 : decode cX12_line 77 = .ok (.aload_n 0, 1) := by decide +kernel
theorem dX12_line_78 : decode cX12_line 78 = .ok (.aload_n 0, 1) := by decide +kernel
theorem dX12_line_79 : decode cX12_line 79 = .ok (.getfield 7, 3) := by decide +kernel
theorem dX12_line_82 : decode cX12_line 82 = .ok (.sipush 4950, 3) := by decide +kernel
theorem dX12_line_85 : decode cX12_line 85 = .ok (.laload, 1) := by decide +kernel
theorem dX12_line_86 : decode cX12_line 86 = .ok (.l2i, 1) := by decide +kernel
theorem dX12_line_87 : decode cX12_line 87 = .ok (.invokevirtual 206, 3) := by decide +kernel
theorem mw_495 : Cond.methodLink RX12 206 yX12_lineAt ∈ wsL_law := inr_21 _ (List.mem_of_getElem? (i := 15) rfl)
theorem mw_498 : Cond.code yX12_lineAt cX12_lineAt 2 (some .int) ∈ wsL_law := inr_21 _ (List.mem_of_getElem? (i := 18) rfl)
theorem yk_X12_lineAt : xY yX12_lineAt RX12 cX12_lineAt 2 (some .int) 1 := ⟨⟨rfl, by decide +kernel, by decide +kernel, by decide +kernel⟩, mw_5, mw_498⟩
theorem mw_496 : Cond.instanceMethod yX12_lineAt ∈ wsL_law := inr_21 _ (List.mem_of_getElem? (i := 16) rfl)
theorem mw_497 : Cond.selects RX12 yX12_lineAt yX12_lineAt ∈ wsL_law := inr_21 _ (List.mem_of_getElem? (i := 17) rfl)
theorem dX12_line_90 : decode cX12_line 90 = .ok (.istore_n 3, 1) := by decide +kernel
theorem dX12_line_91 : decode cX12_line 91 = .ok (.aload_n 0, 1) := by decide +kernel
theorem dX12_line_92 : decode cX12_line 92 = .ok (.getfield 7, 3) := by decide +kernel
theorem dX12_line_95 : decode cX12_line 95 = .ok (.iload_n 3, 1) := by decide +kernel
theorem dX12_line_96 : decode cX12_line 96 = .ok (.iload_n 2, 1) := by decide +kernel
theorem dX12_line_97 : decode cX12_line 97 = .ok (.i2l, 1) := by decide +kernel
theorem dX12_line_98 : decode cX12_line 98 = .ok (.lastore, 1) := by decide +kernel
theorem dX12_line_99 : decode cX12_line 99 = .ok (.iconst 0, 1) := by decide +kernel
theorem dX12_line_100 : decode cX12_line 100 = .ok (.istore 4, 2) := by decide +kernel
theorem dX12_line_102 : decode cX12_line 102 = .ok (.iload 4, 2) := by decide +kernel
theorem dX12_line_104 : decode cX12_line 104 = .ok (.iload_n 2, 1) := by decide +kernel
theorem dX12_line_105 : decode cX12_line 105 = .ok (.if_icmp .ge 27, 3) := by decide +kernel
theorem dX12_line_132 : decode cX12_line 132 = .ok (.aload_n 0, 1) := by decide +kernel
theorem dX12_line_133 : decode cX12_line 133 = .ok (.getfield 7, 3) := by decide +kernel
theorem dX12_line_136 : decode cX12_line 136 = .ok (.sipush 4950, 3) := by decide +kernel
theorem dX12_line_139 : decode cX12_line 139 = .ok (.dup2, 1) := by decide +kernel
theorem dX12_line_140 : decode cX12_line 140 = .ok (.laload, 1) := by decide +kernel
theorem dX12_line_141 : decode cX12_line 141 = .ok (.lconst 1, 1) := by decide +kernel
theorem dX12_line_142 : decode cX12_line 142 = .ok (.ladd, 1) := by decide +kernel
theorem dX12_line_143 : decode cX12_line 143 = .ok (.lastore, 1) := by decide +kernel
theorem dX12_line_144 : decode cX12_line 144 = .ok (.aload_n 0, 1) := by decide +kernel
theorem dX12_line_145 : decode cX12_line 145 = .ok (.aload_n 0, 1) := by decide +kernel
theorem dX12_line_146 : decode cX12_line 146 = .ok (.getfield 7, 3) := by decide +kernel
theorem dX12_line_149 : decode cX12_line 149 = .ok (.sipush 4950, 3) := by decide +kernel
theorem dX12_line_152 : decode cX12_line 152 = .ok (.laload, 1) := by decide +kernel
theorem dX12_line_153 : decode cX12_line 153 = .ok (.l2i, 1) := by decide +kernel
theorem dX12_line_154 : decode cX12_line 154 = .ok (.iconst 1, 1) := by decide +kernel
theorem dX12_line_155 : decode cX12_line 155 = .ok (.isub, 1) := by decide +kernel
theorem dX12_line_156 : decode cX12_line 156 = .ok (.invokevirtual 209, 3) := by decide +kernel
theorem mw_499 : Cond.methodLink RX12 209 yX12_gives ∈ wsL_law := inr_21 _ (List.mem_of_getElem? (i := 19) rfl)
theorem mw_502 : Cond.code yX12_gives cX12_gives 2 (some .int) ∈ wsL_law := inr_21 _ (List.mem_of_getElem? (i := 22) rfl)
theorem yk_X12_gives : xY yX12_gives RX12 cX12_gives 2 (some .int) 1 := ⟨⟨rfl, by decide +kernel, by decide +kernel, by decide +kernel⟩, mw_5, mw_502⟩
theorem mw_500 : Cond.instanceMethod yX12_gives ∈ wsL_law := inr_21 _ (List.mem_of_getElem? (i := 20) rfl)
theorem mw_501 : Cond.selects RX12 yX12_gives yX12_gives ∈ wsL_law := inr_21 _ (List.mem_of_getElem? (i := 21) rfl)
theorem dX12_line_159 : decode cX12_line 159 = .ok (.ireturn, 1) := by decide +kernel
theorem dX12_fresh_0 : decode cX12_fresh 0 = .ok (.sipush 1542, 3) := by decide +kernel
theorem dX12_fresh_3 : decode cX12_fresh 3 = .ok (.istore_n 2, 1) := by decide +kernel
theorem dX12_fresh_4 : decode cX12_fresh 4 = .ok (.iload_n 2, 1) := by decide +kernel
theorem dX12_fresh_5 : decode cX12_fresh 5 = .ok (.sipush 1567, 3) := by decide +kernel
theorem dX12_fresh_8 : decode cX12_fresh 8 = .ok (.if_icmp .gt 18, 3) := by decide +kernel
theorem dX12_fresh_26 : decode cX12_fresh 26 = .ok (.return_, 1) := by decide +kernel
theorem dX12_fresh_11 : decode cX12_fresh 11 = .ok (.aload_n 0, 1) := by decide +kernel
theorem dX12_fresh_12 : decode cX12_fresh 12 = .ok (.getfield 7, 3) := by decide +kernel
theorem dX12_fresh_15 : decode cX12_fresh 15 = .ok (.iload_n 1, 1) := by decide +kernel
theorem dX12_fresh_16 : decode cX12_fresh 16 = .ok (.iload_n 2, 1) := by decide +kernel
theorem dX12_fresh_17 : decode cX12_fresh 17 = .ok (.iadd, 1) := by decide +kernel
theorem dX12_fresh_18 : decode cX12_fresh 18 = .ok (.lconst 0, 1) := by decide +kernel
theorem dX12_fresh_19 : decode cX12_fresh 19 = .ok (.lastore, 1) := by decide +kernel
theorem dX12_fresh_20 : decode cX12_fresh 20 = .ok (.iinc 2 1, 3) := by decide +kernel
theorem dX12_fresh_23 : decode cX12_fresh 23 = .ok (.goto (-19), 3) := by decide +kernel
theorem dX12_copies_0 : decode cX12_copies 0 = .ok (.iconst 0, 1) := by decide +kernel
theorem dX12_copies_1 : decode cX12_copies 1 = .ok (.istore 4, 2) := by decide +kernel
theorem dX12_copies_3 : decode cX12_copies 3 = .ok (.iload 4, 2) := by decide +kernel
theorem dX12_copies_5 : decode cX12_copies 5 = .ok (.iload_n 3, 1) := by decide +kernel
theorem dX12_copies_6 : decode cX12_copies 6 = .ok (.if_icmp .ge 27, 3) := by decide +kernel
theorem dX12_copies_33 : decode cX12_copies 33 = .ok (.return_, 1) := by decide +kernel
theorem dX12_copies_9 : decode cX12_copies 9 = .ok (.aload_n 0, 1) := by decide +kernel
theorem dX12_copies_10 : decode cX12_copies 10 = .ok (.getfield 7, 3) := by decide +kernel
theorem dX12_copies_13 : decode cX12_copies 13 = .ok (.iload_n 2, 1) := by decide +kernel
theorem dX12_copies_14 : decode cX12_copies 14 = .ok (.iload 4, 2) := by decide +kernel
theorem dX12_copies_16 : decode cX12_copies 16 = .ok (.iadd, 1) := by decide +kernel
theorem dX12_copies_17 : decode cX12_copies 17 = .ok (.aload_n 0, 1) := by decide +kernel
theorem dX12_copies_18 : decode cX12_copies 18 = .ok (.getfield 7, 3) := by decide +kernel
theorem dX12_copies_21 : decode cX12_copies 21 = .ok (.iload_n 1, 1) := by decide +kernel
theorem dX12_copies_22 : decode cX12_copies 22 = .ok (.iload 4, 2) := by decide +kernel
theorem dX12_copies_24 : decode cX12_copies 24 = .ok (.iadd, 1) := by decide +kernel
theorem dX12_copies_25 : decode cX12_copies 25 = .ok (.laload, 1) := by decide +kernel
theorem dX12_copies_26 : decode cX12_copies 26 = .ok (.lastore, 1) := by decide +kernel
theorem dX12_copies_27 : decode cX12_copies 27 = .ok (.iinc 4 1, 3) := by decide +kernel
theorem dX12_copies_30 : decode cX12_copies 30 = .ok (.goto (-27), 3) := by decide +kernel
theorem dX12_leads_0 : decode cX12_leads 0 = .ok (.iconst 0, 1) := by decide +kernel
theorem dX12_leads_1 : decode cX12_leads 1 = .ok (.istore_n 2, 1) := by decide +kernel
theorem dX12_leads_2 : decode cX12_leads 2 = .ok (.iload_n 2, 1) := by decide +kernel
theorem dX12_leads_3 : decode cX12_leads 3 = .ok (.i2l, 1) := by decide +kernel
theorem dX12_leads_4 : decode cX12_leads 4 = .ok (.aload_n 0, 1) := by decide +kernel
theorem dX12_leads_5 : decode cX12_leads 5 = .ok (.getfield 7, 3) := by decide +kernel
theorem dX12_leads_8 : decode cX12_leads 8 = .ok (.iload_n 1, 1) := by decide +kernel
theorem dX12_leads_9 : decode cX12_leads 9 = .ok (.laload, 1) := by decide +kernel
theorem dX12_leads_10 : decode cX12_leads 10 = .ok (.lcmp, 1) := by decide +kernel
theorem dX12_leads_11 : decode cX12_leads 11 = .ok (.ifCond .ge 102, 3) := by decide +kernel
theorem dX12_leads_113 : decode cX12_leads 113 = .ok (.return_, 1) := by decide +kernel
def mM (q : Nat) (u : Nat → Nat) (ta va ma fk gp : Int32) : Nat × va_E := (q, .inr (12, (.ref ((u 0)) :: .int 0 :: .long 0 :: .long 1 :: .ref ((u 1)) :: .ref ((u 2)) :: .ref ((u 3)) :: .ref ((u 4)) :: .ref ((u 5)) :: .int ta :: .int 0 :: .int 0 :: .int 0 :: .int 0 :: .int va :: .int fk :: .int (-1) :: .int 0 :: .ref ((u 6)) :: .int 0 :: .int gp :: .ref ((u 7)) :: .ref ((u 8)) :: .ref ((u 9)) :: .ref ((u 10)) :: .ref ((u 11)) :: .ref ((u 12)) :: .ref ((u 13)) :: .int 0 :: .int 0 :: .int (-1) :: .int 0 :: .int (-1) :: .int 0 :: .ref ((u 14)) :: .int 0 :: .int 0 :: .int 0 :: .int 0 :: .int 0 :: .ref ((u 15)) :: .ref ((u 16)) :: .int 0 :: .int (-1) :: .int 0 :: .int 0 :: .int 0 :: .int 0 :: .ref ((u 17)) :: .ref ((u 18)) :: .ref ((u 19)) :: .int 0 :: .ref ((u 20)) :: .ref ((u 21)) :: .int 0 :: .ref ((u 22)) :: .int (-1) :: .int 0 :: .ref ((u 23)) :: .int (-1) :: .int (-1) :: .int 0 :: .ref ((u 24)) :: .ref ((u 25)) :: .int ma :: [])))
def mA_at (cy : Nat → ClassId) (u : Nat → Nat) : Nat × va_E := (((u 0)), .inl (cy 2, 25710, .inr (.inl (fun _ => 0))))
def mA_sort (cy : Nat → ClassId) (u : Nat → Nat) : Nat × va_E := (((u 1)), .inl (cy 1, 4, .inl (fun _ => 0)))
def mA_trayMany (cy : Nat → ClassId) (u : Nat → Nat) : Nat × va_E := (((u 2)), .inl (cy 1, 4, .inl (upd (upd (upd (upd (fun _ => 0) 0 (-1)) 1 (-1)) 2 (-1)) 3 (-1))))
def mA_trays (cy : Nat → ClassId) (u : Nat → Nat) : Nat × va_E := (((u 3)), .inl (cy 2, 240, .inr (.inl (fun _ => 0))))
def mA_tape (cy : Nat → ClassId) (u : Nat → Nat) : Nat × va_E := (((u 4)), .inl (cy 0, 600, .inl (fun _ => 0)))
def mA_text (cy : Nat → ClassId) (u : Nat → Nat) : Nat × va_E := (((u 5)), .inl (cy 0, 600, .inl (fun _ => 0)))
set_option maxHeartbeats 4000000 in
set_option maxRecDepth 100000 in
theorem c_m_status (l : Launch) (D : va_G) (cy : Nat → ClassId) (q : Nat) (u : Nat → Nat) : ∀ sz, Met l yX12_status (Cond.code yX12_status cX12_status 1 (some .int) :: wsL_law) { frames := 0, cells := 0, slots := 0, locals := 0 } (va_Pc [.ref q] (xP D cy ([mM q u 0 0 0 (-1) 0]) sz)) (va_Qi (fun r _ => r = 0) (xB D (va_A ([mM q u 0 0 0 (-1) 0]) sz) (fun _ => [])) (va_A ([mM q u 0 0 0 (-1) 0]) sz)) 0 0 (va_A ([mM q u 0 0 0 (-1) 0]) sz) := by
  refine x_enter (fun A => va_Qi (fun r _ => r = 0) (xB D A (fun _ => [])) A) (by decide +kernel) rfl (Nat.le_of_ble_eq_true rfl) ?_
  intro p e s m below meth c A ls F hr hlk hin h hl
  have hl : lv_has ls 1 [(0, .ref q)] := hl
  have h : xS D cy A s.heap ([(q, .inr (12, (.ref ((u 0)) :: .int 0 :: .long 0 :: .long 1 :: .ref ((u 1)) :: .ref ((u 2)) :: .ref ((u 3)) :: .ref ((u 4)) :: .ref ((u 5)) :: .int 0 :: .int 0 :: .int 0 :: .int 0 :: .int 0 :: .int 0 :: .int (-1) :: .int (-1) :: .int 0 :: .ref ((u 6)) :: .int 0 :: .int 0 :: .ref ((u 7)) :: .ref ((u 8)) :: .ref ((u 9)) :: .ref ((u 10)) :: .ref ((u 11)) :: .ref ((u 12)) :: .ref ((u 13)) :: .int 0 :: .int 0 :: .int (-1) :: .int 0 :: .int (-1) :: .int 0 :: .ref ((u 14)) :: .int 0 :: .int 0 :: .int 0 :: .int 0 :: .int 0 :: .ref ((u 15)) :: .ref ((u 16)) :: .int 0 :: .int (-1) :: .int 0 :: .int 0 :: .int 0 :: .int 0 :: .ref ((u 17)) :: .ref ((u 18)) :: .ref ((u 19)) :: .int 0 :: .ref ((u 20)) :: .ref ((u 21)) :: .int 0 :: .ref ((u 22)) :: .int (-1) :: .int 0 :: .ref ((u 23)) :: .int (-1) :: .int (-1) :: .int 0 :: .ref ((u 24)) :: .ref ((u 25)) :: .int 0 :: [])))]) s s.heap [] := h
  refine lv_aload_n F.1 F.2.1 dX12_status_0 rfl (lv_at hl 0 rfl) ?_
  refine x_get F h 0 1 inlX12 rfl (by decide) mw_246 dX12_status_1 rfl rfl ?_
  exact x_iret F h hr hlk rfl (fun _ => 0) [] (rfl) (by decide +kernel) rfl (Nat.le_of_ble_eq_true rfl) (Nat.le_of_ble_eq_true rfl) dX12_status_4
set_option maxHeartbeats 4000000 in
set_option maxRecDepth 100000 in
theorem c_m_top (l : Launch) (D : va_G) (cy : Nat → ClassId) (q : Nat) (u : Nat → Nat) : ∀ sz, Met l yX12_top (Cond.code yX12_top cX12_top 1 (some .long) :: wsL_law) { frames := 0, cells := 0, slots := 0, locals := 0 } (va_Pc [.ref q] (xP D cy ([mM q u 0 0 0 (-1) 0]) sz)) (va_Ql (fun r _ => r = 0) (xB D (va_A ([mM q u 0 0 0 (-1) 0]) sz) (fun _ => [])) (va_A ([mM q u 0 0 0 (-1) 0]) sz)) 0 0 (va_A ([mM q u 0 0 0 (-1) 0]) sz) := by
  refine x_enter (fun A => va_Ql (fun r _ => r = 0) (xB D A (fun _ => [])) A) (by decide +kernel) rfl (Nat.le_of_ble_eq_true rfl) ?_
  intro p e s m below meth c A ls F hr hlk hin h hl
  have hl : lv_has ls 1 [(0, .ref q)] := hl
  have h : xS D cy A s.heap ([(q, .inr (12, (.ref ((u 0)) :: .int 0 :: .long 0 :: .long 1 :: .ref ((u 1)) :: .ref ((u 2)) :: .ref ((u 3)) :: .ref ((u 4)) :: .ref ((u 5)) :: .int 0 :: .int 0 :: .int 0 :: .int 0 :: .int 0 :: .int 0 :: .int (-1) :: .int (-1) :: .int 0 :: .ref ((u 6)) :: .int 0 :: .int 0 :: .ref ((u 7)) :: .ref ((u 8)) :: .ref ((u 9)) :: .ref ((u 10)) :: .ref ((u 11)) :: .ref ((u 12)) :: .ref ((u 13)) :: .int 0 :: .int 0 :: .int (-1) :: .int 0 :: .int (-1) :: .int 0 :: .ref ((u 14)) :: .int 0 :: .int 0 :: .int 0 :: .int 0 :: .int 0 :: .ref ((u 15)) :: .ref ((u 16)) :: .int 0 :: .int (-1) :: .int 0 :: .int 0 :: .int 0 :: .int 0 :: .ref ((u 17)) :: .ref ((u 18)) :: .ref ((u 19)) :: .int 0 :: .ref ((u 20)) :: .ref ((u 21)) :: .int 0 :: .ref ((u 22)) :: .int (-1) :: .int 0 :: .ref ((u 23)) :: .int (-1) :: .int (-1) :: .int 0 :: .ref ((u 24)) :: .ref ((u 25)) :: .int 0 :: [])))]) s s.heap [] := h
  refine lv_aload_n F.1 F.2.1 dX12_top_0 rfl (lv_at hl 0 rfl) ?_
  refine x_get F h 0 2 inlX12 rfl (by decide) mw_255 dX12_top_1 rfl rfl ?_
  exact x_lret F h hr hlk (fun _ => 0) [] (rfl) (by decide +kernel) rfl (Nat.le_of_ble_eq_true rfl) (Nat.le_of_ble_eq_true rfl) dX12_top_4
set_option maxHeartbeats 4000000 in
set_option maxRecDepth 100000 in
theorem c_m_bottom (l : Launch) (D : va_G) (cy : Nat → ClassId) (q : Nat) (u : Nat → Nat) : ∀ sz, Met l yX12_bottom (Cond.code yX12_bottom cX12_bottom 1 (some .long) :: wsL_law) { frames := 0, cells := 0, slots := 0, locals := 0 } (va_Pc [.ref q] (xP D cy ([mM q u 0 0 0 (-1) 0]) sz)) (va_Ql (fun r _ => r = 1) (xB D (va_A ([mM q u 0 0 0 (-1) 0]) sz) (fun _ => [])) (va_A ([mM q u 0 0 0 (-1) 0]) sz)) 0 0 (va_A ([mM q u 0 0 0 (-1) 0]) sz) := by
  refine x_enter (fun A => va_Ql (fun r _ => r = 1) (xB D A (fun _ => [])) A) (by decide +kernel) rfl (Nat.le_of_ble_eq_true rfl) ?_
  intro p e s m below meth c A ls F hr hlk hin h hl
  have hl : lv_has ls 1 [(0, .ref q)] := hl
  have h : xS D cy A s.heap ([(q, .inr (12, (.ref ((u 0)) :: .int 0 :: .long 0 :: .long 1 :: .ref ((u 1)) :: .ref ((u 2)) :: .ref ((u 3)) :: .ref ((u 4)) :: .ref ((u 5)) :: .int 0 :: .int 0 :: .int 0 :: .int 0 :: .int 0 :: .int 0 :: .int (-1) :: .int (-1) :: .int 0 :: .ref ((u 6)) :: .int 0 :: .int 0 :: .ref ((u 7)) :: .ref ((u 8)) :: .ref ((u 9)) :: .ref ((u 10)) :: .ref ((u 11)) :: .ref ((u 12)) :: .ref ((u 13)) :: .int 0 :: .int 0 :: .int (-1) :: .int 0 :: .int (-1) :: .int 0 :: .ref ((u 14)) :: .int 0 :: .int 0 :: .int 0 :: .int 0 :: .int 0 :: .ref ((u 15)) :: .ref ((u 16)) :: .int 0 :: .int (-1) :: .int 0 :: .int 0 :: .int 0 :: .int 0 :: .ref ((u 17)) :: .ref ((u 18)) :: .ref ((u 19)) :: .int 0 :: .ref ((u 20)) :: .ref ((u 21)) :: .int 0 :: .ref ((u 22)) :: .int (-1) :: .int 0 :: .ref ((u 23)) :: .int (-1) :: .int (-1) :: .int 0 :: .ref ((u 24)) :: .ref ((u 25)) :: .int 0 :: [])))]) s s.heap [] := h
  refine lv_aload_n F.1 F.2.1 dX12_bottom_0 rfl (lv_at hl 0 rfl) ?_
  refine x_get F h 0 3 inlX12 rfl (by decide) mw_203 dX12_bottom_1 rfl rfl ?_
  exact x_lret F h hr hlk (fun _ => 0) [] (rfl) (by decide +kernel) rfl (Nat.le_of_ble_eq_true rfl) (Nat.le_of_ble_eq_true rfl) dX12_bottom_4
set_option maxHeartbeats 4000000 in
set_option maxRecDepth 100000 in
theorem c_m_wrongPlace (l : Launch) (D : va_G) (cy : Nat → ClassId) (q : Nat) (u : Nat → Nat) (t : Int32) (pl : Int32) : ∀ sz, Met l yX12_wrongPlace (Cond.code yX12_wrongPlace cX12_wrongPlace 3 (some .int) :: wsL_law) { frames := 1, cells := 0, slots := 0, locals := 20 } (va_Pc [.ref q, .int t, .int pl] (xP D cy ([mM q u 0 0 0 (-1) 0, mA_trayMany cy u]) sz)) (va_Qi (fun r _ => r = 1 ∨ r = 2) (xB D (va_A ([mM q u 0 0 0 (-1) 0, mA_trayMany cy u]) sz) (fun _ => [mM q u 0 0 0 (-1) 0, mA_trayMany cy u])) (va_A ([mM q u 0 0 0 (-1) 0, mA_trayMany cy u]) sz)) 0 0 (va_A ([mM q u 0 0 0 (-1) 0, mA_trayMany cy u]) sz) := by
  refine x_enter (fun A => va_Qi (fun r _ => r = 1 ∨ r = 2) (xB D A (fun _ => [mM q u 0 0 0 (-1) 0, mA_trayMany cy u])) A) (by decide +kernel) rfl (Nat.le_of_ble_eq_true rfl) ?_
  intro p e s m below meth c A ls F hr hlk hin h hl
  have hl : lv_has ls 3 [(0, .ref q), (1, .int t), (2, .int pl)] := hl
  have h : xS D cy A s.heap ([(q, .inr (12, (.ref ((u 0)) :: .int 0 :: .long 0 :: .long 1 :: .ref ((u 1)) :: .ref ((u 2)) :: .ref ((u 3)) :: .ref ((u 4)) :: .ref ((u 5)) :: .int 0 :: .int 0 :: .int 0 :: .int 0 :: .int 0 :: .int 0 :: .int (-1) :: .int (-1) :: .int 0 :: .ref ((u 6)) :: .int 0 :: .int 0 :: .ref ((u 7)) :: .ref ((u 8)) :: .ref ((u 9)) :: .ref ((u 10)) :: .ref ((u 11)) :: .ref ((u 12)) :: .ref ((u 13)) :: .int 0 :: .int 0 :: .int (-1) :: .int 0 :: .int (-1) :: .int 0 :: .ref ((u 14)) :: .int 0 :: .int 0 :: .int 0 :: .int 0 :: .int 0 :: .ref ((u 15)) :: .ref ((u 16)) :: .int 0 :: .int (-1) :: .int 0 :: .int 0 :: .int 0 :: .int 0 :: .ref ((u 17)) :: .ref ((u 18)) :: .ref ((u 19)) :: .int 0 :: .ref ((u 20)) :: .ref ((u 21)) :: .int 0 :: .ref ((u 22)) :: .int (-1) :: .int 0 :: .ref ((u 23)) :: .int (-1) :: .int (-1) :: .int 0 :: .ref ((u 24)) :: .ref ((u 25)) :: .int 0 :: []))), (((u 2)), .inl (cy 1, 4, .inl (upd (upd (upd (upd (fun _ => 0) 0 (-1)) 1 (-1)) 2 (-1)) 3 (-1))))]) s s.heap [] := h
  refine lv_iload_n F.1 F.2.1 dX12_wrongPlace_0 rfl (lv_at hl 1 rfl) ?_
  refine x_St F h yk_X12_isTray mw_283 mw_284 (c_m_isTray l D cy t) hl.1 rfl (Nat.le_of_ble_eq_true rfl) ⟨Nat.le_of_ble_eq_true rfl, Nat.le_of_ble_eq_true rfl⟩ ⟨Nat.le_of_ble_eq_true rfl, Nat.le_of_ble_eq_true rfl⟩ dX12_wrongPlace_1 (fun r2 u3 H locs hp1 h => ?_)
  rcases x_tr (n := 4) hp1 with ⟨rfl, ht4⟩ | ⟨rfl, ht5, ht6⟩
  · refine lv_if_ne (tgt := 11) F.1 F.2.1 dX12_wrongPlace_4 (by decide) (fun hc => absurd hc (by decide)) (fun _ => ?_)
    refine lv_iconst (v := 1) F.1 F.2.1 dX12_wrongPlace_7 (by decide) ?_
    refine lv_goto (tgt := 44) F.1 F.2.1 dX12_wrongPlace_8 (by decide) ?_
    exact x_iret F h hr hlk rfl (fun _ => 0) [0, 1] (Or.inl rfl) (by decide +kernel) rfl (Nat.le_of_ble_eq_true rfl) (Nat.le_of_ble_eq_true rfl) dX12_wrongPlace_44
  · refine lv_if_ne (tgt := 11) F.1 F.2.1 dX12_wrongPlace_4 (by decide) (fun _ => ?_) (fun hc => absurd hc (by decide))
    rcases x_c4 ht5 ht6 with rfl | rfl | rfl | rfl
    · refine lv_aload_n F.1 F.2.1 dX12_wrongPlace_11 rfl (lv_at hl 0 rfl) ?_
      refine x_get F h 0 5 inlX12 rfl (by decide) mw_205 dX12_wrongPlace_12 rfl rfl ?_
      refine lv_iload_n F.1 F.2.1 dX12_wrongPlace_15 rfl (lv_at hl 1 rfl) ?_
      refine x_iald (v := (-1)) F h 1 rfl rfl (x_in (by decide +kernel)) rfl dX12_wrongPlace_16 ?_
      refine lv_iconst (v := (-1)) F.1 F.2.1 dX12_wrongPlace_17 (by decide) ?_
      refine lv_icmp_ne (tgt := 25) F.1 F.2.1 dX12_wrongPlace_18 (by decide) (fun hc => absurd hc (by decide)) (fun _ => ?_)
      refine lv_iconst (v := 2) F.1 F.2.1 dX12_wrongPlace_21 (by decide) ?_
      refine lv_goto (tgt := 44) F.1 F.2.1 dX12_wrongPlace_22 (by decide) ?_
      exact x_iret F h hr hlk rfl (fun _ => 0) [0, 1] (Or.inr (rfl)) (by decide +kernel) rfl (Nat.le_of_ble_eq_true rfl) (Nat.le_of_ble_eq_true rfl) dX12_wrongPlace_44
    · refine lv_aload_n F.1 F.2.1 dX12_wrongPlace_11 rfl (lv_at hl 0 rfl) ?_
      refine x_get F h 0 5 inlX12 rfl (by decide) mw_205 dX12_wrongPlace_12 rfl rfl ?_
      refine lv_iload_n F.1 F.2.1 dX12_wrongPlace_15 rfl (lv_at hl 1 rfl) ?_
      refine x_iald (v := (-1)) F h 1 rfl rfl (x_in (by decide +kernel)) rfl dX12_wrongPlace_16 ?_
      refine lv_iconst (v := (-1)) F.1 F.2.1 dX12_wrongPlace_17 (by decide) ?_
      refine lv_icmp_ne (tgt := 25) F.1 F.2.1 dX12_wrongPlace_18 (by decide) (fun hc => absurd hc (by decide)) (fun _ => ?_)
      refine lv_iconst (v := 2) F.1 F.2.1 dX12_wrongPlace_21 (by decide) ?_
      refine lv_goto (tgt := 44) F.1 F.2.1 dX12_wrongPlace_22 (by decide) ?_
      exact x_iret F h hr hlk rfl (fun _ => 0) [0, 1] (Or.inr (rfl)) (by decide +kernel) rfl (Nat.le_of_ble_eq_true rfl) (Nat.le_of_ble_eq_true rfl) dX12_wrongPlace_44
    · refine lv_aload_n F.1 F.2.1 dX12_wrongPlace_11 rfl (lv_at hl 0 rfl) ?_
      refine x_get F h 0 5 inlX12 rfl (by decide) mw_205 dX12_wrongPlace_12 rfl rfl ?_
      refine lv_iload_n F.1 F.2.1 dX12_wrongPlace_15 rfl (lv_at hl 1 rfl) ?_
      refine x_iald (v := (-1)) F h 1 rfl rfl (x_in (by decide +kernel)) rfl dX12_wrongPlace_16 ?_
      refine lv_iconst (v := (-1)) F.1 F.2.1 dX12_wrongPlace_17 (by decide) ?_
      refine lv_icmp_ne (tgt := 25) F.1 F.2.1 dX12_wrongPlace_18 (by decide) (fun hc => absurd hc (by decide)) (fun _ => ?_)
      refine lv_iconst (v := 2) F.1 F.2.1 dX12_wrongPlace_21 (by decide) ?_
      refine lv_goto (tgt := 44) F.1 F.2.1 dX12_wrongPlace_22 (by decide) ?_
      exact x_iret F h hr hlk rfl (fun _ => 0) [0, 1] (Or.inr (rfl)) (by decide +kernel) rfl (Nat.le_of_ble_eq_true rfl) (Nat.le_of_ble_eq_true rfl) dX12_wrongPlace_44
    · refine lv_aload_n F.1 F.2.1 dX12_wrongPlace_11 rfl (lv_at hl 0 rfl) ?_
      refine x_get F h 0 5 inlX12 rfl (by decide) mw_205 dX12_wrongPlace_12 rfl rfl ?_
      refine lv_iload_n F.1 F.2.1 dX12_wrongPlace_15 rfl (lv_at hl 1 rfl) ?_
      refine x_iald (v := (-1)) F h 1 rfl rfl (x_in (by decide +kernel)) rfl dX12_wrongPlace_16 ?_
      refine lv_iconst (v := (-1)) F.1 F.2.1 dX12_wrongPlace_17 (by decide) ?_
      refine lv_icmp_ne (tgt := 25) F.1 F.2.1 dX12_wrongPlace_18 (by decide) (fun hc => absurd hc (by decide)) (fun _ => ?_)
      refine lv_iconst (v := 2) F.1 F.2.1 dX12_wrongPlace_21 (by decide) ?_
      refine lv_goto (tgt := 44) F.1 F.2.1 dX12_wrongPlace_22 (by decide) ?_
      exact x_iret F h hr hlk rfl (fun _ => 0) [0, 1] (Or.inr (rfl)) (by decide +kernel) rfl (Nat.le_of_ble_eq_true rfl) (Nat.le_of_ble_eq_true rfl) dX12_wrongPlace_44
set_option maxHeartbeats 4000000 in
set_option maxRecDepth 100000 in
theorem c_m_write (l : Launch) (D : va_G) (cy : Nat → ClassId) (q : Nat) (u : Nat → Nat) (t : Int32) (pl : Int32) (v : Int64) : ∀ sz, Met l yX12_write (Cond.code yX12_write cX12_write 6 (some .boolean) :: wsL_law) { frames := 2, cells := 0, slots := 0, locals := 42 } (va_Pc [.ref q, .int t, .int pl, .long v] (xP D cy ([mM q u 0 0 0 (-1) 0, mA_trayMany cy u]) sz)) (va_Qi (fun r _ => r = 0) (xB D (va_A ([mM q u 0 0 0 (-1) 0, mA_trayMany cy u]) sz) (fun _ => [])) (va_A ([mM q u 0 0 0 (-1) 0, mA_trayMany cy u]) sz)) 0 0 (va_A ([mM q u 0 0 0 (-1) 0, mA_trayMany cy u]) sz) := by
  refine x_enter (fun A => va_Qi (fun r _ => r = 0) (xB D A (fun _ => [])) A) (by decide +kernel) rfl (Nat.le_of_ble_eq_true rfl) ?_
  intro p e s m below meth c A ls F hr hlk hin h hl
  have hl : lv_has ls 6 [(0, .ref q), (1, .int t), (2, .int pl), (3, .long v)] := hl
  have h : xS D cy A s.heap ([(q, .inr (12, (.ref ((u 0)) :: .int 0 :: .long 0 :: .long 1 :: .ref ((u 1)) :: .ref ((u 2)) :: .ref ((u 3)) :: .ref ((u 4)) :: .ref ((u 5)) :: .int 0 :: .int 0 :: .int 0 :: .int 0 :: .int 0 :: .int 0 :: .int (-1) :: .int (-1) :: .int 0 :: .ref ((u 6)) :: .int 0 :: .int 0 :: .ref ((u 7)) :: .ref ((u 8)) :: .ref ((u 9)) :: .ref ((u 10)) :: .ref ((u 11)) :: .ref ((u 12)) :: .ref ((u 13)) :: .int 0 :: .int 0 :: .int (-1) :: .int 0 :: .int (-1) :: .int 0 :: .ref ((u 14)) :: .int 0 :: .int 0 :: .int 0 :: .int 0 :: .int 0 :: .ref ((u 15)) :: .ref ((u 16)) :: .int 0 :: .int (-1) :: .int 0 :: .int 0 :: .int 0 :: .int 0 :: .ref ((u 17)) :: .ref ((u 18)) :: .ref ((u 19)) :: .int 0 :: .ref ((u 20)) :: .ref ((u 21)) :: .int 0 :: .ref ((u 22)) :: .int (-1) :: .int 0 :: .ref ((u 23)) :: .int (-1) :: .int (-1) :: .int 0 :: .ref ((u 24)) :: .ref ((u 25)) :: .int 0 :: []))), (((u 2)), .inl (cy 1, 4, .inl (upd (upd (upd (upd (fun _ => 0) 0 (-1)) 1 (-1)) 2 (-1)) 3 (-1))))]) s s.heap [] := h
  refine lv_aload_n F.1 F.2.1 dX12_write_0 rfl (lv_at hl 0 rfl) ?_
  refine lv_iload_n F.1 F.2.1 dX12_write_1 rfl (lv_at hl 1 rfl) ?_
  refine lv_iload_n F.1 F.2.1 dX12_write_2 rfl (lv_at hl 2 rfl) ?_
  refine x_Vi (wr := []) F h yk_X12_wrongPlace mw_319 mw_320 mw_321 (c_m_wrongPlace l D cy q u t pl) [0, 1] [] 0 rfl rfl rfl rfl (by decide) rfl rfl hl.1 rfl (Nat.le_of_ble_eq_true rfl) ⟨Nat.le_of_ble_eq_true rfl, Nat.le_of_ble_eq_true rfl⟩ ⟨Nat.le_of_ble_eq_true rfl, Nat.le_of_ble_eq_true rfl⟩ dX12_write_3 (fun r2 u3 H locs hp1 h => ?_)
  have h : xS D cy A s.heap ([(q, .inr (12, (.ref ((u 0)) :: .int 0 :: .long 0 :: .long 1 :: .ref ((u 1)) :: .ref ((u 2)) :: .ref ((u 3)) :: .ref ((u 4)) :: .ref ((u 5)) :: .int 0 :: .int 0 :: .int 0 :: .int 0 :: .int 0 :: .int 0 :: .int (-1) :: .int (-1) :: .int 0 :: .ref ((u 6)) :: .int 0 :: .int 0 :: .ref ((u 7)) :: .ref ((u 8)) :: .ref ((u 9)) :: .ref ((u 10)) :: .ref ((u 11)) :: .ref ((u 12)) :: .ref ((u 13)) :: .int 0 :: .int 0 :: .int (-1) :: .int 0 :: .int (-1) :: .int 0 :: .ref ((u 14)) :: .int 0 :: .int 0 :: .int 0 :: .int 0 :: .int 0 :: .ref ((u 15)) :: .ref ((u 16)) :: .int 0 :: .int (-1) :: .int 0 :: .int 0 :: .int 0 :: .int 0 :: .ref ((u 17)) :: .ref ((u 18)) :: .ref ((u 19)) :: .int 0 :: .ref ((u 20)) :: .ref ((u 21)) :: .int 0 :: .ref ((u 22)) :: .int (-1) :: .int 0 :: .ref ((u 23)) :: .int (-1) :: .int (-1) :: .int 0 :: .ref ((u 24)) :: .ref ((u 25)) :: .int 0 :: []))), (((u 2)), .inl (cy 1, 4, .inl (upd (upd (upd (upd (fun _ => 0) 0 (-1)) 1 (-1)) 2 (-1)) 3 (-1))))]) s H locs := h
  rcases hp1 with rfl | rfl
  · refine lv_istore (lv' := [(5, .int 1), (0, .ref q), (1, .int t), (2, .int pl), (3, .long v)]) F.1 F.2.1 dX12_write_6 hl (by decide) rfl (fun ls hl => ?_)
    refine lv_iload F.1 F.2.1 dX12_write_8 (lv_at hl 0 rfl) ?_
    refine lv_if_ne (tgt := 34) F.1 F.2.1 dX12_write_10 (by decide) (fun _ => ?_) (fun hc => absurd hc (by decide))
    refine lv_aload_n F.1 F.2.1 dX12_write_34 rfl (lv_at hl 1 rfl) ?_
    refine lv_iload F.1 F.2.1 dX12_write_35 (lv_at hl 0 rfl) ?_
    refine x_Vi (wr := [(((u 2)), .inl (cy 1, 4, .inl (upd (upd (upd (upd (fun _ => 0) 0 (-1)) 1 (-1)) 2 (-1)) 3 (-1))))]) F h yk_X12_is mw_286 mw_287 mw_288 (c_m_is l D cy q ((.ref ((u 0)) :: .int 0 :: .long 0 :: .long 1 :: .ref ((u 1)) :: .ref ((u 2)) :: .ref ((u 3)) :: .ref ((u 4)) :: .ref ((u 5)) :: .int 0 :: .int 0 :: .int 0 :: .int 0 :: .int 0 :: .int 0 :: .int (-1) :: .int (-1) :: .int 0 :: .ref ((u 6)) :: .int 0 :: .int 0 :: .ref ((u 7)) :: .ref ((u 8)) :: .ref ((u 9)) :: .ref ((u 10)) :: .ref ((u 11)) :: .ref ((u 12)) :: .ref ((u 13)) :: .int 0 :: .int 0 :: .int (-1) :: .int 0 :: .int (-1) :: .int 0 :: .ref ((u 14)) :: .int 0 :: .int 0 :: .int 0 :: .int 0 :: .int 0 :: .ref ((u 15)) :: .ref ((u 16)) :: .int 0 :: .int (-1) :: .int 0 :: .int 0 :: .int 0 :: .int 0 :: .ref ((u 17)) :: .ref ((u 18)) :: .ref ((u 19)) :: .int 0 :: .ref ((u 20)) :: .ref ((u 21)) :: .int 0 :: .ref ((u 22)) :: .int (-1) :: .int 0 :: .ref ((u 23)) :: .int (-1) :: .int (-1) :: .int 0 :: .ref ((u 24)) :: .ref ((u 25)) :: .int 0 :: [])) rfl 1) [0] [1] 0 rfl rfl rfl rfl (by decide) rfl rfl hl.1 rfl (Nat.le_of_ble_eq_true rfl) ⟨Nat.le_of_ble_eq_true rfl, Nat.le_of_ble_eq_true rfl⟩ ⟨Nat.le_of_ble_eq_true rfl, Nat.le_of_ble_eq_true rfl⟩ dX12_write_37 (fun r5 u6 H locs hp4 h => ?_)
    have h : xS D cy A s.heap ([(((u 2)), .inl (cy 1, 4, .inl (upd (upd (upd (upd (fun _ => 0) 0 (-1)) 1 (-1)) 2 (-1)) 3 (-1))))]) s H locs := h
    obtain rfl : r5 = 0 := (by rw [hp4]; decide)
    exact x_iret F h hr hlk (by decide +kernel) (fun _ => 0) [] (rfl) (by decide +kernel) rfl (Nat.le_of_ble_eq_true rfl) (Nat.le_of_ble_eq_true rfl) dX12_write_40
  · refine lv_istore (lv' := [(5, .int 2), (0, .ref q), (1, .int t), (2, .int pl), (3, .long v)]) F.1 F.2.1 dX12_write_6 hl (by decide) rfl (fun ls hl => ?_)
    refine lv_iload F.1 F.2.1 dX12_write_8 (lv_at hl 0 rfl) ?_
    refine lv_if_ne (tgt := 34) F.1 F.2.1 dX12_write_10 (by decide) (fun _ => ?_) (fun hc => absurd hc (by decide))
    refine lv_aload_n F.1 F.2.1 dX12_write_34 rfl (lv_at hl 1 rfl) ?_
    refine lv_iload F.1 F.2.1 dX12_write_35 (lv_at hl 0 rfl) ?_
    refine x_Vi (wr := [(((u 2)), .inl (cy 1, 4, .inl (upd (upd (upd (upd (fun _ => 0) 0 (-1)) 1 (-1)) 2 (-1)) 3 (-1))))]) F h yk_X12_is mw_286 mw_287 mw_288 (c_m_is l D cy q ((.ref ((u 0)) :: .int 0 :: .long 0 :: .long 1 :: .ref ((u 1)) :: .ref ((u 2)) :: .ref ((u 3)) :: .ref ((u 4)) :: .ref ((u 5)) :: .int 0 :: .int 0 :: .int 0 :: .int 0 :: .int 0 :: .int 0 :: .int (-1) :: .int (-1) :: .int 0 :: .ref ((u 6)) :: .int 0 :: .int 0 :: .ref ((u 7)) :: .ref ((u 8)) :: .ref ((u 9)) :: .ref ((u 10)) :: .ref ((u 11)) :: .ref ((u 12)) :: .ref ((u 13)) :: .int 0 :: .int 0 :: .int (-1) :: .int 0 :: .int (-1) :: .int 0 :: .ref ((u 14)) :: .int 0 :: .int 0 :: .int 0 :: .int 0 :: .int 0 :: .ref ((u 15)) :: .ref ((u 16)) :: .int 0 :: .int (-1) :: .int 0 :: .int 0 :: .int 0 :: .int 0 :: .ref ((u 17)) :: .ref ((u 18)) :: .ref ((u 19)) :: .int 0 :: .ref ((u 20)) :: .ref ((u 21)) :: .int 0 :: .ref ((u 22)) :: .int (-1) :: .int 0 :: .ref ((u 23)) :: .int (-1) :: .int (-1) :: .int 0 :: .ref ((u 24)) :: .ref ((u 25)) :: .int 0 :: [])) rfl 2) [0] [1] 0 rfl rfl rfl rfl (by decide) rfl rfl hl.1 rfl (Nat.le_of_ble_eq_true rfl) ⟨Nat.le_of_ble_eq_true rfl, Nat.le_of_ble_eq_true rfl⟩ ⟨Nat.le_of_ble_eq_true rfl, Nat.le_of_ble_eq_true rfl⟩ dX12_write_37 (fun r8 u9 H locs hp7 h => ?_)
    have h : xS D cy A s.heap ([(((u 2)), .inl (cy 1, 4, .inl (upd (upd (upd (upd (fun _ => 0) 0 (-1)) 1 (-1)) 2 (-1)) 3 (-1))))]) s H locs := h
    obtain rfl : r8 = 0 := (by rw [hp7]; decide)
    exact x_iret F h hr hlk (by decide +kernel) (fun _ => 0) [] (rfl) (by decide +kernel) rfl (Nat.le_of_ble_eq_true rfl) (Nat.le_of_ble_eq_true rfl) dX12_write_40
set_option maxHeartbeats 4000000 in
set_option maxRecDepth 100000 in
theorem c_m_read (l : Launch) (D : va_G) (cy : Nat → ClassId) (q : Nat) (u : Nat → Nat) (t : Int32) (pl : Int32) : ∀ sz, Met l yX12_read (Cond.code yX12_read cX12_read 3 (some .long) :: wsL_law) { frames := 2, cells := 0, slots := 0, locals := 42 } (va_Pc [.ref q, .int t, .int pl] (xP D cy ([mM q u 0 0 0 (-1) 0, mA_trayMany cy u]) sz)) (va_Ql (fun r _ => r = (-1)) (xB D (va_A ([mM q u 0 0 0 (-1) 0, mA_trayMany cy u]) sz) (fun _ => [])) (va_A ([mM q u 0 0 0 (-1) 0, mA_trayMany cy u]) sz)) 0 0 (va_A ([mM q u 0 0 0 (-1) 0, mA_trayMany cy u]) sz) := by
  refine x_enter (fun A => va_Ql (fun r _ => r = (-1)) (xB D A (fun _ => [])) A) (by decide +kernel) rfl (Nat.le_of_ble_eq_true rfl) ?_
  intro p e s m below meth c A ls F hr hlk hin h hl
  have hl : lv_has ls 3 [(0, .ref q), (1, .int t), (2, .int pl)] := hl
  have h : xS D cy A s.heap ([(q, .inr (12, (.ref ((u 0)) :: .int 0 :: .long 0 :: .long 1 :: .ref ((u 1)) :: .ref ((u 2)) :: .ref ((u 3)) :: .ref ((u 4)) :: .ref ((u 5)) :: .int 0 :: .int 0 :: .int 0 :: .int 0 :: .int 0 :: .int 0 :: .int (-1) :: .int (-1) :: .int 0 :: .ref ((u 6)) :: .int 0 :: .int 0 :: .ref ((u 7)) :: .ref ((u 8)) :: .ref ((u 9)) :: .ref ((u 10)) :: .ref ((u 11)) :: .ref ((u 12)) :: .ref ((u 13)) :: .int 0 :: .int 0 :: .int (-1) :: .int 0 :: .int (-1) :: .int 0 :: .ref ((u 14)) :: .int 0 :: .int 0 :: .int 0 :: .int 0 :: .int 0 :: .ref ((u 15)) :: .ref ((u 16)) :: .int 0 :: .int (-1) :: .int 0 :: .int 0 :: .int 0 :: .int 0 :: .ref ((u 17)) :: .ref ((u 18)) :: .ref ((u 19)) :: .int 0 :: .ref ((u 20)) :: .ref ((u 21)) :: .int 0 :: .ref ((u 22)) :: .int (-1) :: .int 0 :: .ref ((u 23)) :: .int (-1) :: .int (-1) :: .int 0 :: .ref ((u 24)) :: .ref ((u 25)) :: .int 0 :: []))), (((u 2)), .inl (cy 1, 4, .inl (upd (upd (upd (upd (fun _ => 0) 0 (-1)) 1 (-1)) 2 (-1)) 3 (-1))))]) s s.heap [] := h
  refine lv_aload_n F.1 F.2.1 dX12_read_0 rfl (lv_at hl 0 rfl) ?_
  refine lv_aload_n F.1 F.2.1 dX12_read_1 rfl (lv_at hl 0 rfl) ?_
  refine lv_iload_n F.1 F.2.1 dX12_read_2 rfl (lv_at hl 1 rfl) ?_
  refine lv_iload_n F.1 F.2.1 dX12_read_3 rfl (lv_at hl 2 rfl) ?_
  refine x_Vi (wr := []) F h yk_X12_wrongPlace mw_319 mw_320 mw_321 (c_m_wrongPlace l D cy q u t pl) [0, 1] [] 0 rfl rfl rfl rfl (by decide) rfl rfl hl.1 rfl (Nat.le_of_ble_eq_true rfl) ⟨Nat.le_of_ble_eq_true rfl, Nat.le_of_ble_eq_true rfl⟩ ⟨Nat.le_of_ble_eq_true rfl, Nat.le_of_ble_eq_true rfl⟩ dX12_read_4 (fun r2 u3 H locs hp1 h => ?_)
  have h : xS D cy A s.heap ([(q, .inr (12, (.ref ((u 0)) :: .int 0 :: .long 0 :: .long 1 :: .ref ((u 1)) :: .ref ((u 2)) :: .ref ((u 3)) :: .ref ((u 4)) :: .ref ((u 5)) :: .int 0 :: .int 0 :: .int 0 :: .int 0 :: .int 0 :: .int 0 :: .int (-1) :: .int (-1) :: .int 0 :: .ref ((u 6)) :: .int 0 :: .int 0 :: .ref ((u 7)) :: .ref ((u 8)) :: .ref ((u 9)) :: .ref ((u 10)) :: .ref ((u 11)) :: .ref ((u 12)) :: .ref ((u 13)) :: .int 0 :: .int 0 :: .int (-1) :: .int 0 :: .int (-1) :: .int 0 :: .ref ((u 14)) :: .int 0 :: .int 0 :: .int 0 :: .int 0 :: .int 0 :: .ref ((u 15)) :: .ref ((u 16)) :: .int 0 :: .int (-1) :: .int 0 :: .int 0 :: .int 0 :: .int 0 :: .ref ((u 17)) :: .ref ((u 18)) :: .ref ((u 19)) :: .int 0 :: .ref ((u 20)) :: .ref ((u 21)) :: .int 0 :: .ref ((u 22)) :: .int (-1) :: .int 0 :: .ref ((u 23)) :: .int (-1) :: .int (-1) :: .int 0 :: .ref ((u 24)) :: .ref ((u 25)) :: .int 0 :: []))), (((u 2)), .inl (cy 1, 4, .inl (upd (upd (upd (upd (fun _ => 0) 0 (-1)) 1 (-1)) 2 (-1)) 3 (-1))))]) s H locs := h
  rcases hp1 with rfl | rfl
  · refine x_put F h 0 1 inlX12 tyX12_ok nmX12 rfl (by decide) mw_246 dX12_read_7 rfl rfl rfl rfl (Nat.le_of_ble_eq_true rfl) (ws' := [(q, .inr (12, (.ref ((u 0)) :: .int 1 :: .long 0 :: .long 1 :: .ref ((u 1)) :: .ref ((u 2)) :: .ref ((u 3)) :: .ref ((u 4)) :: .ref ((u 5)) :: .int 0 :: .int 0 :: .int 0 :: .int 0 :: .int 0 :: .int 0 :: .int (-1) :: .int (-1) :: .int 0 :: .ref ((u 6)) :: .int 0 :: .int 0 :: .ref ((u 7)) :: .ref ((u 8)) :: .ref ((u 9)) :: .ref ((u 10)) :: .ref ((u 11)) :: .ref ((u 12)) :: .ref ((u 13)) :: .int 0 :: .int 0 :: .int (-1) :: .int 0 :: .int (-1) :: .int 0 :: .ref ((u 14)) :: .int 0 :: .int 0 :: .int 0 :: .int 0 :: .int 0 :: .ref ((u 15)) :: .ref ((u 16)) :: .int 0 :: .int (-1) :: .int 0 :: .int 0 :: .int 0 :: .int 0 :: .ref ((u 17)) :: .ref ((u 18)) :: .ref ((u 19)) :: .int 0 :: .ref ((u 20)) :: .ref ((u 21)) :: .int 0 :: .ref ((u 22)) :: .int (-1) :: .int 0 :: .ref ((u 23)) :: .int (-1) :: .int (-1) :: .int 0 :: .ref ((u 24)) :: .ref ((u 25)) :: .int 0 :: []))), (((u 2)), .inl (cy 1, 4, .inl (upd (upd (upd (upd (fun _ => 0) 0 (-1)) 1 (-1)) 2 (-1)) 3 (-1))))]) rfl (fun H locs h => ?_)
    refine lv_aload_n F.1 F.2.1 dX12_read_10 rfl (lv_at hl 0 rfl) ?_
    refine x_get F h 0 1 inlX12 rfl (by decide) mw_246 dX12_read_11 rfl rfl ?_
    refine lv_if_le (tgt := 23) F.1 F.2.1 dX12_read_14 (by decide) (fun hc => absurd hc (by decide)) (fun _ => ?_)
    refine lv_ldc2 (v := (-1)) F.1 F.2.1 F.2.2.2.1 (F.2.2.2.2 _ mw_340) dX12_read_17 ?_
    refine lv_goto (tgt := 34) F.1 F.2.1 dX12_read_20 (by decide) ?_
    exact x_lret F h hr hlk (fun _ => 0) [] (rfl) (by decide +kernel) rfl (Nat.le_of_ble_eq_true rfl) (Nat.le_of_ble_eq_true rfl) dX12_read_34
  · refine x_put F h 0 1 inlX12 tyX12_ok nmX12 rfl (by decide) mw_246 dX12_read_7 rfl rfl rfl rfl (Nat.le_of_ble_eq_true rfl) (ws' := [(q, .inr (12, (.ref ((u 0)) :: .int 2 :: .long 0 :: .long 1 :: .ref ((u 1)) :: .ref ((u 2)) :: .ref ((u 3)) :: .ref ((u 4)) :: .ref ((u 5)) :: .int 0 :: .int 0 :: .int 0 :: .int 0 :: .int 0 :: .int 0 :: .int (-1) :: .int (-1) :: .int 0 :: .ref ((u 6)) :: .int 0 :: .int 0 :: .ref ((u 7)) :: .ref ((u 8)) :: .ref ((u 9)) :: .ref ((u 10)) :: .ref ((u 11)) :: .ref ((u 12)) :: .ref ((u 13)) :: .int 0 :: .int 0 :: .int (-1) :: .int 0 :: .int (-1) :: .int 0 :: .ref ((u 14)) :: .int 0 :: .int 0 :: .int 0 :: .int 0 :: .int 0 :: .ref ((u 15)) :: .ref ((u 16)) :: .int 0 :: .int (-1) :: .int 0 :: .int 0 :: .int 0 :: .int 0 :: .ref ((u 17)) :: .ref ((u 18)) :: .ref ((u 19)) :: .int 0 :: .ref ((u 20)) :: .ref ((u 21)) :: .int 0 :: .ref ((u 22)) :: .int (-1) :: .int 0 :: .ref ((u 23)) :: .int (-1) :: .int (-1) :: .int 0 :: .ref ((u 24)) :: .ref ((u 25)) :: .int 0 :: []))), (((u 2)), .inl (cy 1, 4, .inl (upd (upd (upd (upd (fun _ => 0) 0 (-1)) 1 (-1)) 2 (-1)) 3 (-1))))]) rfl (fun H locs h => ?_)
    refine lv_aload_n F.1 F.2.1 dX12_read_10 rfl (lv_at hl 0 rfl) ?_
    refine x_get F h 0 1 inlX12 rfl (by decide) mw_246 dX12_read_11 rfl rfl ?_
    refine lv_if_le (tgt := 23) F.1 F.2.1 dX12_read_14 (by decide) (fun hc => absurd hc (by decide)) (fun _ => ?_)
    refine lv_ldc2 (v := (-1)) F.1 F.2.1 F.2.2.2.1 (F.2.2.2.2 _ mw_340) dX12_read_17 ?_
    refine lv_goto (tgt := 34) F.1 F.2.1 dX12_read_20 (by decide) ?_
    exact x_lret F h hr hlk (fun _ => 0) [] (rfl) (by decide +kernel) rfl (Nat.le_of_ble_eq_true rfl) (Nat.le_of_ble_eq_true rfl) dX12_read_34
set_option maxHeartbeats 4000000 in
set_option maxRecDepth 100000 in
theorem c_m_pour (l : Launch) (D : va_G) (cy : Nat → ClassId) (q : Nat) (u : Nat → Nat) (a0 : Int32) (b0 : Int32) (c0 : Int32) (d0 : Int32) (e0 : Int32) : ∀ sz, Met l yX12_pour (Cond.code yX12_pour cX12_pour 8 (some .boolean) :: wsL_law) { frames := 1, cells := 0, slots := 0, locals := 21 } (va_Pc [.ref q, .int a0, .int b0, .int c0, .int d0, .int e0] (xP D cy ([mM q u 0 0 0 (-1) 0, mA_trayMany cy u]) sz)) (va_Qi (fun r _ => r = 0) (xB D (va_A ([mM q u 0 0 0 (-1) 0, mA_trayMany cy u]) sz) (fun _ => [])) (va_A ([mM q u 0 0 0 (-1) 0, mA_trayMany cy u]) sz)) 0 0 (va_A ([mM q u 0 0 0 (-1) 0, mA_trayMany cy u]) sz) := by
  refine x_enter (fun A => va_Qi (fun r _ => r = 0) (xB D A (fun _ => [])) A) (by decide +kernel) rfl (Nat.le_of_ble_eq_true rfl) ?_
  intro p e s m below meth c A ls F hr hlk hin h hl
  have hl : lv_has ls 8 [(0, .ref q), (1, .int a0), (2, .int b0), (3, .int c0), (4, .int d0), (5, .int e0)] := hl
  have h : xS D cy A s.heap ([(q, .inr (12, (.ref ((u 0)) :: .int 0 :: .long 0 :: .long 1 :: .ref ((u 1)) :: .ref ((u 2)) :: .ref ((u 3)) :: .ref ((u 4)) :: .ref ((u 5)) :: .int 0 :: .int 0 :: .int 0 :: .int 0 :: .int 0 :: .int 0 :: .int (-1) :: .int (-1) :: .int 0 :: .ref ((u 6)) :: .int 0 :: .int 0 :: .ref ((u 7)) :: .ref ((u 8)) :: .ref ((u 9)) :: .ref ((u 10)) :: .ref ((u 11)) :: .ref ((u 12)) :: .ref ((u 13)) :: .int 0 :: .int 0 :: .int (-1) :: .int 0 :: .int (-1) :: .int 0 :: .ref ((u 14)) :: .int 0 :: .int 0 :: .int 0 :: .int 0 :: .int 0 :: .ref ((u 15)) :: .ref ((u 16)) :: .int 0 :: .int (-1) :: .int 0 :: .int 0 :: .int 0 :: .int 0 :: .ref ((u 17)) :: .ref ((u 18)) :: .ref ((u 19)) :: .int 0 :: .ref ((u 20)) :: .ref ((u 21)) :: .int 0 :: .ref ((u 22)) :: .int (-1) :: .int 0 :: .ref ((u 23)) :: .int (-1) :: .int (-1) :: .int 0 :: .ref ((u 24)) :: .ref ((u 25)) :: .int 0 :: []))), (((u 2)), .inl (cy 1, 4, .inl (upd (upd (upd (upd (fun _ => 0) 0 (-1)) 1 (-1)) 2 (-1)) 3 (-1))))]) s s.heap [] := h
  refine lv_iload_n F.1 F.2.1 dX12_pour_0 rfl (lv_at hl 1 rfl) ?_
  refine x_St F h yk_X12_isTray mw_283 mw_284 (c_m_isTray l D cy a0) hl.1 rfl (Nat.le_of_ble_eq_true rfl) ⟨Nat.le_of_ble_eq_true rfl, Nat.le_of_ble_eq_true rfl⟩ ⟨Nat.le_of_ble_eq_true rfl, Nat.le_of_ble_eq_true rfl⟩ dX12_pour_1 (fun r2 u3 H locs hp1 h => ?_)
  rcases x_tr (n := 4) hp1 with ⟨rfl, ht4⟩ | ⟨rfl, ht5, ht6⟩
  · refine lv_if_eq (tgt := 28) F.1 F.2.1 dX12_pour_4 (by decide) (fun _ => ?_) (fun hc => absurd (by decide) hc)
    refine lv_aload_n F.1 F.2.1 dX12_pour_28 rfl (lv_at hl 0 rfl) ?_
    refine lv_iconst (v := 1) F.1 F.2.1 dX12_pour_29 (by decide) ?_
    refine x_Vi (wr := [(((u 2)), .inl (cy 1, 4, .inl (upd (upd (upd (upd (fun _ => 0) 0 (-1)) 1 (-1)) 2 (-1)) 3 (-1))))]) F h yk_X12_is mw_286 mw_287 mw_288 (c_m_is l D cy q ((.ref ((u 0)) :: .int 0 :: .long 0 :: .long 1 :: .ref ((u 1)) :: .ref ((u 2)) :: .ref ((u 3)) :: .ref ((u 4)) :: .ref ((u 5)) :: .int 0 :: .int 0 :: .int 0 :: .int 0 :: .int 0 :: .int 0 :: .int (-1) :: .int (-1) :: .int 0 :: .ref ((u 6)) :: .int 0 :: .int 0 :: .ref ((u 7)) :: .ref ((u 8)) :: .ref ((u 9)) :: .ref ((u 10)) :: .ref ((u 11)) :: .ref ((u 12)) :: .ref ((u 13)) :: .int 0 :: .int 0 :: .int (-1) :: .int 0 :: .int (-1) :: .int 0 :: .ref ((u 14)) :: .int 0 :: .int 0 :: .int 0 :: .int 0 :: .int 0 :: .ref ((u 15)) :: .ref ((u 16)) :: .int 0 :: .int (-1) :: .int 0 :: .int 0 :: .int 0 :: .int 0 :: .ref ((u 17)) :: .ref ((u 18)) :: .ref ((u 19)) :: .int 0 :: .ref ((u 20)) :: .ref ((u 21)) :: .int 0 :: .ref ((u 22)) :: .int (-1) :: .int 0 :: .ref ((u 23)) :: .int (-1) :: .int (-1) :: .int 0 :: .ref ((u 24)) :: .ref ((u 25)) :: .int 0 :: [])) rfl 1) [0] [1] 0 rfl rfl rfl rfl (by decide) rfl rfl hl.1 rfl (Nat.le_of_ble_eq_true rfl) ⟨Nat.le_of_ble_eq_true rfl, Nat.le_of_ble_eq_true rfl⟩ ⟨Nat.le_of_ble_eq_true rfl, Nat.le_of_ble_eq_true rfl⟩ dX12_pour_30 (fun r8 u9 H locs hp7 h => ?_)
    have h : xS D cy A s.heap ([(((u 2)), .inl (cy 1, 4, .inl (upd (upd (upd (upd (fun _ => 0) 0 (-1)) 1 (-1)) 2 (-1)) 3 (-1))))]) s H locs := h
    obtain rfl : r8 = 0 := (by rw [hp7]; decide)
    exact x_iret F h hr hlk (by decide +kernel) (fun _ => 0) [] (rfl) (by decide +kernel) rfl (Nat.le_of_ble_eq_true rfl) (Nat.le_of_ble_eq_true rfl) dX12_pour_33
  · refine lv_if_eq (tgt := 28) F.1 F.2.1 dX12_pour_4 (by decide) (fun hc => absurd hc (by decide)) (fun _ => ?_)
    refine lv_iload_n F.1 F.2.1 dX12_pour_7 rfl (lv_at hl 3 rfl) ?_
    refine x_St F h yk_X12_isTray mw_283 mw_284 (c_m_isTray l D cy c0) hl.1 rfl (Nat.le_of_ble_eq_true rfl) ⟨Nat.le_of_ble_eq_true rfl, Nat.le_of_ble_eq_true rfl⟩ ⟨Nat.le_of_ble_eq_true rfl, Nat.le_of_ble_eq_true rfl⟩ dX12_pour_8 (fun r11 u12 H locs hp10 h => ?_)
    rcases x_tr (n := 4) hp10 with ⟨rfl, ht13⟩ | ⟨rfl, ht14, ht15⟩
    · refine lv_if_eq (tgt := 28) F.1 F.2.1 dX12_pour_11 (by decide) (fun _ => ?_) (fun hc => absurd (by decide) hc)
      refine lv_aload_n F.1 F.2.1 dX12_pour_28 rfl (lv_at hl 0 rfl) ?_
      refine lv_iconst (v := 1) F.1 F.2.1 dX12_pour_29 (by decide) ?_
      refine x_Vi (wr := [(((u 2)), .inl (cy 1, 4, .inl (upd (upd (upd (upd (fun _ => 0) 0 (-1)) 1 (-1)) 2 (-1)) 3 (-1))))]) F h yk_X12_is mw_286 mw_287 mw_288 (c_m_is l D cy q ((.ref ((u 0)) :: .int 0 :: .long 0 :: .long 1 :: .ref ((u 1)) :: .ref ((u 2)) :: .ref ((u 3)) :: .ref ((u 4)) :: .ref ((u 5)) :: .int 0 :: .int 0 :: .int 0 :: .int 0 :: .int 0 :: .int 0 :: .int (-1) :: .int (-1) :: .int 0 :: .ref ((u 6)) :: .int 0 :: .int 0 :: .ref ((u 7)) :: .ref ((u 8)) :: .ref ((u 9)) :: .ref ((u 10)) :: .ref ((u 11)) :: .ref ((u 12)) :: .ref ((u 13)) :: .int 0 :: .int 0 :: .int (-1) :: .int 0 :: .int (-1) :: .int 0 :: .ref ((u 14)) :: .int 0 :: .int 0 :: .int 0 :: .int 0 :: .int 0 :: .ref ((u 15)) :: .ref ((u 16)) :: .int 0 :: .int (-1) :: .int 0 :: .int 0 :: .int 0 :: .int 0 :: .ref ((u 17)) :: .ref ((u 18)) :: .ref ((u 19)) :: .int 0 :: .ref ((u 20)) :: .ref ((u 21)) :: .int 0 :: .ref ((u 22)) :: .int (-1) :: .int 0 :: .ref ((u 23)) :: .int (-1) :: .int (-1) :: .int 0 :: .ref ((u 24)) :: .ref ((u 25)) :: .int 0 :: [])) rfl 1) [0] [1] 0 rfl rfl rfl rfl (by decide) rfl rfl hl.1 rfl (Nat.le_of_ble_eq_true rfl) ⟨Nat.le_of_ble_eq_true rfl, Nat.le_of_ble_eq_true rfl⟩ ⟨Nat.le_of_ble_eq_true rfl, Nat.le_of_ble_eq_true rfl⟩ dX12_pour_30 (fun r17 u18 H locs hp16 h => ?_)
      have h : xS D cy A s.heap ([(((u 2)), .inl (cy 1, 4, .inl (upd (upd (upd (upd (fun _ => 0) 0 (-1)) 1 (-1)) 2 (-1)) 3 (-1))))]) s H locs := h
      obtain rfl : r17 = 0 := (by rw [hp16]; decide)
      exact x_iret F h hr hlk (by decide +kernel) (fun _ => 0) [] (rfl) (by decide +kernel) rfl (Nat.le_of_ble_eq_true rfl) (Nat.le_of_ble_eq_true rfl) dX12_pour_33
    · refine lv_if_eq (tgt := 28) F.1 F.2.1 dX12_pour_11 (by decide) (fun hc => absurd hc (by decide)) (fun _ => ?_)
      refine lv_iload_n F.1 F.2.1 dX12_pour_14 rfl (lv_at hl 2 rfl) ?_
      refine lv_if_lt (tgt := 28) F.1 F.2.1 dX12_pour_15 (by decide) (fun hc19 => ?_) (fun hc19 => ?_)
      · refine lv_aload_n F.1 F.2.1 dX12_pour_28 rfl (lv_at hl 0 rfl) ?_
        refine lv_iconst (v := 1) F.1 F.2.1 dX12_pour_29 (by decide) ?_
        refine x_Vi (wr := [(((u 2)), .inl (cy 1, 4, .inl (upd (upd (upd (upd (fun _ => 0) 0 (-1)) 1 (-1)) 2 (-1)) 3 (-1))))]) F h yk_X12_is mw_286 mw_287 mw_288 (c_m_is l D cy q ((.ref ((u 0)) :: .int 0 :: .long 0 :: .long 1 :: .ref ((u 1)) :: .ref ((u 2)) :: .ref ((u 3)) :: .ref ((u 4)) :: .ref ((u 5)) :: .int 0 :: .int 0 :: .int 0 :: .int 0 :: .int 0 :: .int 0 :: .int (-1) :: .int (-1) :: .int 0 :: .ref ((u 6)) :: .int 0 :: .int 0 :: .ref ((u 7)) :: .ref ((u 8)) :: .ref ((u 9)) :: .ref ((u 10)) :: .ref ((u 11)) :: .ref ((u 12)) :: .ref ((u 13)) :: .int 0 :: .int 0 :: .int (-1) :: .int 0 :: .int (-1) :: .int 0 :: .ref ((u 14)) :: .int 0 :: .int 0 :: .int 0 :: .int 0 :: .int 0 :: .ref ((u 15)) :: .ref ((u 16)) :: .int 0 :: .int (-1) :: .int 0 :: .int 0 :: .int 0 :: .int 0 :: .ref ((u 17)) :: .ref ((u 18)) :: .ref ((u 19)) :: .int 0 :: .ref ((u 20)) :: .ref ((u 21)) :: .int 0 :: .ref ((u 22)) :: .int (-1) :: .int 0 :: .ref ((u 23)) :: .int (-1) :: .int (-1) :: .int 0 :: .ref ((u 24)) :: .ref ((u 25)) :: .int 0 :: [])) rfl 1) [0] [1] 0 rfl rfl rfl rfl (by decide) rfl rfl hl.1 rfl (Nat.le_of_ble_eq_true rfl) ⟨Nat.le_of_ble_eq_true rfl, Nat.le_of_ble_eq_true rfl⟩ ⟨Nat.le_of_ble_eq_true rfl, Nat.le_of_ble_eq_true rfl⟩ dX12_pour_30 (fun r21 u22 H locs hp20 h => ?_)
        have h : xS D cy A s.heap ([(((u 2)), .inl (cy 1, 4, .inl (upd (upd (upd (upd (fun _ => 0) 0 (-1)) 1 (-1)) 2 (-1)) 3 (-1))))]) s H locs := h
        obtain rfl : r21 = 0 := (by rw [hp20]; decide)
        exact x_iret F h hr hlk (by decide +kernel) (fun _ => 0) [] (rfl) (by decide +kernel) rfl (Nat.le_of_ble_eq_true rfl) (Nat.le_of_ble_eq_true rfl) dX12_pour_33
      · refine lv_iload F.1 F.2.1 dX12_pour_18 (lv_at hl 4 rfl) ?_
        refine lv_if_lt (tgt := 28) F.1 F.2.1 dX12_pour_20 (by decide) (fun hc23 => ?_) (fun hc23 => ?_)
        · refine lv_aload_n F.1 F.2.1 dX12_pour_28 rfl (lv_at hl 0 rfl) ?_
          refine lv_iconst (v := 1) F.1 F.2.1 dX12_pour_29 (by decide) ?_
          refine x_Vi (wr := [(((u 2)), .inl (cy 1, 4, .inl (upd (upd (upd (upd (fun _ => 0) 0 (-1)) 1 (-1)) 2 (-1)) 3 (-1))))]) F h yk_X12_is mw_286 mw_287 mw_288 (c_m_is l D cy q ((.ref ((u 0)) :: .int 0 :: .long 0 :: .long 1 :: .ref ((u 1)) :: .ref ((u 2)) :: .ref ((u 3)) :: .ref ((u 4)) :: .ref ((u 5)) :: .int 0 :: .int 0 :: .int 0 :: .int 0 :: .int 0 :: .int 0 :: .int (-1) :: .int (-1) :: .int 0 :: .ref ((u 6)) :: .int 0 :: .int 0 :: .ref ((u 7)) :: .ref ((u 8)) :: .ref ((u 9)) :: .ref ((u 10)) :: .ref ((u 11)) :: .ref ((u 12)) :: .ref ((u 13)) :: .int 0 :: .int 0 :: .int (-1) :: .int 0 :: .int (-1) :: .int 0 :: .ref ((u 14)) :: .int 0 :: .int 0 :: .int 0 :: .int 0 :: .int 0 :: .ref ((u 15)) :: .ref ((u 16)) :: .int 0 :: .int (-1) :: .int 0 :: .int 0 :: .int 0 :: .int 0 :: .ref ((u 17)) :: .ref ((u 18)) :: .ref ((u 19)) :: .int 0 :: .ref ((u 20)) :: .ref ((u 21)) :: .int 0 :: .ref ((u 22)) :: .int (-1) :: .int 0 :: .ref ((u 23)) :: .int (-1) :: .int (-1) :: .int 0 :: .ref ((u 24)) :: .ref ((u 25)) :: .int 0 :: [])) rfl 1) [0] [1] 0 rfl rfl rfl rfl (by decide) rfl rfl hl.1 rfl (Nat.le_of_ble_eq_true rfl) ⟨Nat.le_of_ble_eq_true rfl, Nat.le_of_ble_eq_true rfl⟩ ⟨Nat.le_of_ble_eq_true rfl, Nat.le_of_ble_eq_true rfl⟩ dX12_pour_30 (fun r25 u26 H locs hp24 h => ?_)
          have h : xS D cy A s.heap ([(((u 2)), .inl (cy 1, 4, .inl (upd (upd (upd (upd (fun _ => 0) 0 (-1)) 1 (-1)) 2 (-1)) 3 (-1))))]) s H locs := h
          obtain rfl : r25 = 0 := (by rw [hp24]; decide)
          exact x_iret F h hr hlk (by decide +kernel) (fun _ => 0) [] (rfl) (by decide +kernel) rfl (Nat.le_of_ble_eq_true rfl) (Nat.le_of_ble_eq_true rfl) dX12_pour_33
        · refine lv_iload F.1 F.2.1 dX12_pour_23 (lv_at hl 5 rfl) ?_
          refine lv_if_ge (tgt := 34) F.1 F.2.1 dX12_pour_25 (by decide) (fun hc27 => ?_) (fun hc27 => ?_)
          · rcases x_c4 ht5 ht6 with rfl | rfl | rfl | rfl
            · rcases x_c4 ht14 ht15 with rfl | rfl | rfl | rfl
              · refine lv_aload_n F.1 F.2.1 dX12_pour_34 rfl (lv_at hl 0 rfl) ?_
                refine x_get F h 0 5 inlX12 rfl (by decide) mw_205 dX12_pour_35 rfl rfl ?_
                refine lv_iload_n F.1 F.2.1 dX12_pour_38 rfl (lv_at hl 1 rfl) ?_
                refine x_iald (v := (-1)) F h 1 rfl rfl (x_in (by decide +kernel)) rfl dX12_pour_39 ?_
                refine lv_iconst (v := (-1)) F.1 F.2.1 dX12_pour_40 (by decide) ?_
                refine lv_icmp_eq (tgt := 54) F.1 F.2.1 dX12_pour_41 (by decide) (fun _ => ?_) (fun hc => absurd (by decide) hc)
                refine lv_aload_n F.1 F.2.1 dX12_pour_54 rfl (lv_at hl 0 rfl) ?_
                refine lv_iconst (v := 2) F.1 F.2.1 dX12_pour_55 (by decide) ?_
                refine x_Vi (wr := [(((u 2)), .inl (cy 1, 4, .inl (upd (upd (upd (upd (fun _ => 0) 0 (-1)) 1 (-1)) 2 (-1)) 3 (-1))))]) F h yk_X12_is mw_286 mw_287 mw_288 (c_m_is l D cy q ((.ref ((u 0)) :: .int 0 :: .long 0 :: .long 1 :: .ref ((u 1)) :: .ref ((u 2)) :: .ref ((u 3)) :: .ref ((u 4)) :: .ref ((u 5)) :: .int 0 :: .int 0 :: .int 0 :: .int 0 :: .int 0 :: .int 0 :: .int (-1) :: .int (-1) :: .int 0 :: .ref ((u 6)) :: .int 0 :: .int 0 :: .ref ((u 7)) :: .ref ((u 8)) :: .ref ((u 9)) :: .ref ((u 10)) :: .ref ((u 11)) :: .ref ((u 12)) :: .ref ((u 13)) :: .int 0 :: .int 0 :: .int (-1) :: .int 0 :: .int (-1) :: .int 0 :: .ref ((u 14)) :: .int 0 :: .int 0 :: .int 0 :: .int 0 :: .int 0 :: .ref ((u 15)) :: .ref ((u 16)) :: .int 0 :: .int (-1) :: .int 0 :: .int 0 :: .int 0 :: .int 0 :: .ref ((u 17)) :: .ref ((u 18)) :: .ref ((u 19)) :: .int 0 :: .ref ((u 20)) :: .ref ((u 21)) :: .int 0 :: .ref ((u 22)) :: .int (-1) :: .int 0 :: .ref ((u 23)) :: .int (-1) :: .int (-1) :: .int 0 :: .ref ((u 24)) :: .ref ((u 25)) :: .int 0 :: [])) rfl 2) [0] [1] 0 rfl rfl rfl rfl (by decide) rfl rfl hl.1 rfl (Nat.le_of_ble_eq_true rfl) ⟨Nat.le_of_ble_eq_true rfl, Nat.le_of_ble_eq_true rfl⟩ ⟨Nat.le_of_ble_eq_true rfl, Nat.le_of_ble_eq_true rfl⟩ dX12_pour_56 (fun r29 u30 H locs hp28 h => ?_)
                have h : xS D cy A s.heap ([(((u 2)), .inl (cy 1, 4, .inl (upd (upd (upd (upd (fun _ => 0) 0 (-1)) 1 (-1)) 2 (-1)) 3 (-1))))]) s H locs := h
                obtain rfl : r29 = 0 := (by rw [hp28]; decide)
                exact x_iret F h hr hlk (by decide +kernel) (fun _ => 0) [] (rfl) (by decide +kernel) rfl (Nat.le_of_ble_eq_true rfl) (Nat.le_of_ble_eq_true rfl) dX12_pour_59
              · refine lv_aload_n F.1 F.2.1 dX12_pour_34 rfl (lv_at hl 0 rfl) ?_
                refine x_get F h 0 5 inlX12 rfl (by decide) mw_205 dX12_pour_35 rfl rfl ?_
                refine lv_iload_n F.1 F.2.1 dX12_pour_38 rfl (lv_at hl 1 rfl) ?_
                refine x_iald (v := (-1)) F h 1 rfl rfl (x_in (by decide +kernel)) rfl dX12_pour_39 ?_
                refine lv_iconst (v := (-1)) F.1 F.2.1 dX12_pour_40 (by decide) ?_
                refine lv_icmp_eq (tgt := 54) F.1 F.2.1 dX12_pour_41 (by decide) (fun _ => ?_) (fun hc => absurd (by decide) hc)
                refine lv_aload_n F.1 F.2.1 dX12_pour_54 rfl (lv_at hl 0 rfl) ?_
                refine lv_iconst (v := 2) F.1 F.2.1 dX12_pour_55 (by decide) ?_
                refine x_Vi (wr := [(((u 2)), .inl (cy 1, 4, .inl (upd (upd (upd (upd (fun _ => 0) 0 (-1)) 1 (-1)) 2 (-1)) 3 (-1))))]) F h yk_X12_is mw_286 mw_287 mw_288 (c_m_is l D cy q ((.ref ((u 0)) :: .int 0 :: .long 0 :: .long 1 :: .ref ((u 1)) :: .ref ((u 2)) :: .ref ((u 3)) :: .ref ((u 4)) :: .ref ((u 5)) :: .int 0 :: .int 0 :: .int 0 :: .int 0 :: .int 0 :: .int 0 :: .int (-1) :: .int (-1) :: .int 0 :: .ref ((u 6)) :: .int 0 :: .int 0 :: .ref ((u 7)) :: .ref ((u 8)) :: .ref ((u 9)) :: .ref ((u 10)) :: .ref ((u 11)) :: .ref ((u 12)) :: .ref ((u 13)) :: .int 0 :: .int 0 :: .int (-1) :: .int 0 :: .int (-1) :: .int 0 :: .ref ((u 14)) :: .int 0 :: .int 0 :: .int 0 :: .int 0 :: .int 0 :: .ref ((u 15)) :: .ref ((u 16)) :: .int 0 :: .int (-1) :: .int 0 :: .int 0 :: .int 0 :: .int 0 :: .ref ((u 17)) :: .ref ((u 18)) :: .ref ((u 19)) :: .int 0 :: .ref ((u 20)) :: .ref ((u 21)) :: .int 0 :: .ref ((u 22)) :: .int (-1) :: .int 0 :: .ref ((u 23)) :: .int (-1) :: .int (-1) :: .int 0 :: .ref ((u 24)) :: .ref ((u 25)) :: .int 0 :: [])) rfl 2) [0] [1] 0 rfl rfl rfl rfl (by decide) rfl rfl hl.1 rfl (Nat.le_of_ble_eq_true rfl) ⟨Nat.le_of_ble_eq_true rfl, Nat.le_of_ble_eq_true rfl⟩ ⟨Nat.le_of_ble_eq_true rfl, Nat.le_of_ble_eq_true rfl⟩ dX12_pour_56 (fun r32 u33 H locs hp31 h => ?_)
                have h : xS D cy A s.heap ([(((u 2)), .inl (cy 1, 4, .inl (upd (upd (upd (upd (fun _ => 0) 0 (-1)) 1 (-1)) 2 (-1)) 3 (-1))))]) s H locs := h
                obtain rfl : r32 = 0 := (by rw [hp31]; decide)
                exact x_iret F h hr hlk (by decide +kernel) (fun _ => 0) [] (rfl) (by decide +kernel) rfl (Nat.le_of_ble_eq_true rfl) (Nat.le_of_ble_eq_true rfl) dX12_pour_59
              · refine lv_aload_n F.1 F.2.1 dX12_pour_34 rfl (lv_at hl 0 rfl) ?_
                refine x_get F h 0 5 inlX12 rfl (by decide) mw_205 dX12_pour_35 rfl rfl ?_
                refine lv_iload_n F.1 F.2.1 dX12_pour_38 rfl (lv_at hl 1 rfl) ?_
                refine x_iald (v := (-1)) F h 1 rfl rfl (x_in (by decide +kernel)) rfl dX12_pour_39 ?_
                refine lv_iconst (v := (-1)) F.1 F.2.1 dX12_pour_40 (by decide) ?_
                refine lv_icmp_eq (tgt := 54) F.1 F.2.1 dX12_pour_41 (by decide) (fun _ => ?_) (fun hc => absurd (by decide) hc)
                refine lv_aload_n F.1 F.2.1 dX12_pour_54 rfl (lv_at hl 0 rfl) ?_
                refine lv_iconst (v := 2) F.1 F.2.1 dX12_pour_55 (by decide) ?_
                refine x_Vi (wr := [(((u 2)), .inl (cy 1, 4, .inl (upd (upd (upd (upd (fun _ => 0) 0 (-1)) 1 (-1)) 2 (-1)) 3 (-1))))]) F h yk_X12_is mw_286 mw_287 mw_288 (c_m_is l D cy q ((.ref ((u 0)) :: .int 0 :: .long 0 :: .long 1 :: .ref ((u 1)) :: .ref ((u 2)) :: .ref ((u 3)) :: .ref ((u 4)) :: .ref ((u 5)) :: .int 0 :: .int 0 :: .int 0 :: .int 0 :: .int 0 :: .int 0 :: .int (-1) :: .int (-1) :: .int 0 :: .ref ((u 6)) :: .int 0 :: .int 0 :: .ref ((u 7)) :: .ref ((u 8)) :: .ref ((u 9)) :: .ref ((u 10)) :: .ref ((u 11)) :: .ref ((u 12)) :: .ref ((u 13)) :: .int 0 :: .int 0 :: .int (-1) :: .int 0 :: .int (-1) :: .int 0 :: .ref ((u 14)) :: .int 0 :: .int 0 :: .int 0 :: .int 0 :: .int 0 :: .ref ((u 15)) :: .ref ((u 16)) :: .int 0 :: .int (-1) :: .int 0 :: .int 0 :: .int 0 :: .int 0 :: .ref ((u 17)) :: .ref ((u 18)) :: .ref ((u 19)) :: .int 0 :: .ref ((u 20)) :: .ref ((u 21)) :: .int 0 :: .ref ((u 22)) :: .int (-1) :: .int 0 :: .ref ((u 23)) :: .int (-1) :: .int (-1) :: .int 0 :: .ref ((u 24)) :: .ref ((u 25)) :: .int 0 :: [])) rfl 2) [0] [1] 0 rfl rfl rfl rfl (by decide) rfl rfl hl.1 rfl (Nat.le_of_ble_eq_true rfl) ⟨Nat.le_of_ble_eq_true rfl, Nat.le_of_ble_eq_true rfl⟩ ⟨Nat.le_of_ble_eq_true rfl, Nat.le_of_ble_eq_true rfl⟩ dX12_pour_56 (fun r35 u36 H locs hp34 h => ?_)
                have h : xS D cy A s.heap ([(((u 2)), .inl (cy 1, 4, .inl (upd (upd (upd (upd (fun _ => 0) 0 (-1)) 1 (-1)) 2 (-1)) 3 (-1))))]) s H locs := h
                obtain rfl : r35 = 0 := (by rw [hp34]; decide)
                exact x_iret F h hr hlk (by decide +kernel) (fun _ => 0) [] (rfl) (by decide +kernel) rfl (Nat.le_of_ble_eq_true rfl) (Nat.le_of_ble_eq_true rfl) dX12_pour_59
              · refine lv_aload_n F.1 F.2.1 dX12_pour_34 rfl (lv_at hl 0 rfl) ?_
                refine x_get F h 0 5 inlX12 rfl (by decide) mw_205 dX12_pour_35 rfl rfl ?_
                refine lv_iload_n F.1 F.2.1 dX12_pour_38 rfl (lv_at hl 1 rfl) ?_
                refine x_iald (v := (-1)) F h 1 rfl rfl (x_in (by decide +kernel)) rfl dX12_pour_39 ?_
                refine lv_iconst (v := (-1)) F.1 F.2.1 dX12_pour_40 (by decide) ?_
                refine lv_icmp_eq (tgt := 54) F.1 F.2.1 dX12_pour_41 (by decide) (fun _ => ?_) (fun hc => absurd (by decide) hc)
                refine lv_aload_n F.1 F.2.1 dX12_pour_54 rfl (lv_at hl 0 rfl) ?_
                refine lv_iconst (v := 2) F.1 F.2.1 dX12_pour_55 (by decide) ?_
                refine x_Vi (wr := [(((u 2)), .inl (cy 1, 4, .inl (upd (upd (upd (upd (fun _ => 0) 0 (-1)) 1 (-1)) 2 (-1)) 3 (-1))))]) F h yk_X12_is mw_286 mw_287 mw_288 (c_m_is l D cy q ((.ref ((u 0)) :: .int 0 :: .long 0 :: .long 1 :: .ref ((u 1)) :: .ref ((u 2)) :: .ref ((u 3)) :: .ref ((u 4)) :: .ref ((u 5)) :: .int 0 :: .int 0 :: .int 0 :: .int 0 :: .int 0 :: .int 0 :: .int (-1) :: .int (-1) :: .int 0 :: .ref ((u 6)) :: .int 0 :: .int 0 :: .ref ((u 7)) :: .ref ((u 8)) :: .ref ((u 9)) :: .ref ((u 10)) :: .ref ((u 11)) :: .ref ((u 12)) :: .ref ((u 13)) :: .int 0 :: .int 0 :: .int (-1) :: .int 0 :: .int (-1) :: .int 0 :: .ref ((u 14)) :: .int 0 :: .int 0 :: .int 0 :: .int 0 :: .int 0 :: .ref ((u 15)) :: .ref ((u 16)) :: .int 0 :: .int (-1) :: .int 0 :: .int 0 :: .int 0 :: .int 0 :: .ref ((u 17)) :: .ref ((u 18)) :: .ref ((u 19)) :: .int 0 :: .ref ((u 20)) :: .ref ((u 21)) :: .int 0 :: .ref ((u 22)) :: .int (-1) :: .int 0 :: .ref ((u 23)) :: .int (-1) :: .int (-1) :: .int 0 :: .ref ((u 24)) :: .ref ((u 25)) :: .int 0 :: [])) rfl 2) [0] [1] 0 rfl rfl rfl rfl (by decide) rfl rfl hl.1 rfl (Nat.le_of_ble_eq_true rfl) ⟨Nat.le_of_ble_eq_true rfl, Nat.le_of_ble_eq_true rfl⟩ ⟨Nat.le_of_ble_eq_true rfl, Nat.le_of_ble_eq_true rfl⟩ dX12_pour_56 (fun r38 u39 H locs hp37 h => ?_)
                have h : xS D cy A s.heap ([(((u 2)), .inl (cy 1, 4, .inl (upd (upd (upd (upd (fun _ => 0) 0 (-1)) 1 (-1)) 2 (-1)) 3 (-1))))]) s H locs := h
                obtain rfl : r38 = 0 := (by rw [hp37]; decide)
                exact x_iret F h hr hlk (by decide +kernel) (fun _ => 0) [] (rfl) (by decide +kernel) rfl (Nat.le_of_ble_eq_true rfl) (Nat.le_of_ble_eq_true rfl) dX12_pour_59
            · rcases x_c4 ht14 ht15 with rfl | rfl | rfl | rfl
              · refine lv_aload_n F.1 F.2.1 dX12_pour_34 rfl (lv_at hl 0 rfl) ?_
                refine x_get F h 0 5 inlX12 rfl (by decide) mw_205 dX12_pour_35 rfl rfl ?_
                refine lv_iload_n F.1 F.2.1 dX12_pour_38 rfl (lv_at hl 1 rfl) ?_
                refine x_iald (v := (-1)) F h 1 rfl rfl (x_in (by decide +kernel)) rfl dX12_pour_39 ?_
                refine lv_iconst (v := (-1)) F.1 F.2.1 dX12_pour_40 (by decide) ?_
                refine lv_icmp_eq (tgt := 54) F.1 F.2.1 dX12_pour_41 (by decide) (fun _ => ?_) (fun hc => absurd (by decide) hc)
                refine lv_aload_n F.1 F.2.1 dX12_pour_54 rfl (lv_at hl 0 rfl) ?_
                refine lv_iconst (v := 2) F.1 F.2.1 dX12_pour_55 (by decide) ?_
                refine x_Vi (wr := [(((u 2)), .inl (cy 1, 4, .inl (upd (upd (upd (upd (fun _ => 0) 0 (-1)) 1 (-1)) 2 (-1)) 3 (-1))))]) F h yk_X12_is mw_286 mw_287 mw_288 (c_m_is l D cy q ((.ref ((u 0)) :: .int 0 :: .long 0 :: .long 1 :: .ref ((u 1)) :: .ref ((u 2)) :: .ref ((u 3)) :: .ref ((u 4)) :: .ref ((u 5)) :: .int 0 :: .int 0 :: .int 0 :: .int 0 :: .int 0 :: .int 0 :: .int (-1) :: .int (-1) :: .int 0 :: .ref ((u 6)) :: .int 0 :: .int 0 :: .ref ((u 7)) :: .ref ((u 8)) :: .ref ((u 9)) :: .ref ((u 10)) :: .ref ((u 11)) :: .ref ((u 12)) :: .ref ((u 13)) :: .int 0 :: .int 0 :: .int (-1) :: .int 0 :: .int (-1) :: .int 0 :: .ref ((u 14)) :: .int 0 :: .int 0 :: .int 0 :: .int 0 :: .int 0 :: .ref ((u 15)) :: .ref ((u 16)) :: .int 0 :: .int (-1) :: .int 0 :: .int 0 :: .int 0 :: .int 0 :: .ref ((u 17)) :: .ref ((u 18)) :: .ref ((u 19)) :: .int 0 :: .ref ((u 20)) :: .ref ((u 21)) :: .int 0 :: .ref ((u 22)) :: .int (-1) :: .int 0 :: .ref ((u 23)) :: .int (-1) :: .int (-1) :: .int 0 :: .ref ((u 24)) :: .ref ((u 25)) :: .int 0 :: [])) rfl 2) [0] [1] 0 rfl rfl rfl rfl (by decide) rfl rfl hl.1 rfl (Nat.le_of_ble_eq_true rfl) ⟨Nat.le_of_ble_eq_true rfl, Nat.le_of_ble_eq_true rfl⟩ ⟨Nat.le_of_ble_eq_true rfl, Nat.le_of_ble_eq_true rfl⟩ dX12_pour_56 (fun r41 u42 H locs hp40 h => ?_)
                have h : xS D cy A s.heap ([(((u 2)), .inl (cy 1, 4, .inl (upd (upd (upd (upd (fun _ => 0) 0 (-1)) 1 (-1)) 2 (-1)) 3 (-1))))]) s H locs := h
                obtain rfl : r41 = 0 := (by rw [hp40]; decide)
                exact x_iret F h hr hlk (by decide +kernel) (fun _ => 0) [] (rfl) (by decide +kernel) rfl (Nat.le_of_ble_eq_true rfl) (Nat.le_of_ble_eq_true rfl) dX12_pour_59
              · refine lv_aload_n F.1 F.2.1 dX12_pour_34 rfl (lv_at hl 0 rfl) ?_
                refine x_get F h 0 5 inlX12 rfl (by decide) mw_205 dX12_pour_35 rfl rfl ?_
                refine lv_iload_n F.1 F.2.1 dX12_pour_38 rfl (lv_at hl 1 rfl) ?_
                refine x_iald (v := (-1)) F h 1 rfl rfl (x_in (by decide +kernel)) rfl dX12_pour_39 ?_
                refine lv_iconst (v := (-1)) F.1 F.2.1 dX12_pour_40 (by decide) ?_
                refine lv_icmp_eq (tgt := 54) F.1 F.2.1 dX12_pour_41 (by decide) (fun _ => ?_) (fun hc => absurd (by decide) hc)
                refine lv_aload_n F.1 F.2.1 dX12_pour_54 rfl (lv_at hl 0 rfl) ?_
                refine lv_iconst (v := 2) F.1 F.2.1 dX12_pour_55 (by decide) ?_
                refine x_Vi (wr := [(((u 2)), .inl (cy 1, 4, .inl (upd (upd (upd (upd (fun _ => 0) 0 (-1)) 1 (-1)) 2 (-1)) 3 (-1))))]) F h yk_X12_is mw_286 mw_287 mw_288 (c_m_is l D cy q ((.ref ((u 0)) :: .int 0 :: .long 0 :: .long 1 :: .ref ((u 1)) :: .ref ((u 2)) :: .ref ((u 3)) :: .ref ((u 4)) :: .ref ((u 5)) :: .int 0 :: .int 0 :: .int 0 :: .int 0 :: .int 0 :: .int 0 :: .int (-1) :: .int (-1) :: .int 0 :: .ref ((u 6)) :: .int 0 :: .int 0 :: .ref ((u 7)) :: .ref ((u 8)) :: .ref ((u 9)) :: .ref ((u 10)) :: .ref ((u 11)) :: .ref ((u 12)) :: .ref ((u 13)) :: .int 0 :: .int 0 :: .int (-1) :: .int 0 :: .int (-1) :: .int 0 :: .ref ((u 14)) :: .int 0 :: .int 0 :: .int 0 :: .int 0 :: .int 0 :: .ref ((u 15)) :: .ref ((u 16)) :: .int 0 :: .int (-1) :: .int 0 :: .int 0 :: .int 0 :: .int 0 :: .ref ((u 17)) :: .ref ((u 18)) :: .ref ((u 19)) :: .int 0 :: .ref ((u 20)) :: .ref ((u 21)) :: .int 0 :: .ref ((u 22)) :: .int (-1) :: .int 0 :: .ref ((u 23)) :: .int (-1) :: .int (-1) :: .int 0 :: .ref ((u 24)) :: .ref ((u 25)) :: .int 0 :: [])) rfl 2) [0] [1] 0 rfl rfl rfl rfl (by decide) rfl rfl hl.1 rfl (Nat.le_of_ble_eq_true rfl) ⟨Nat.le_of_ble_eq_true rfl, Nat.le_of_ble_eq_true rfl⟩ ⟨Nat.le_of_ble_eq_true rfl, Nat.le_of_ble_eq_true rfl⟩ dX12_pour_56 (fun r44 u45 H locs hp43 h => ?_)
                have h : xS D cy A s.heap ([(((u 2)), .inl (cy 1, 4, .inl (upd (upd (upd (upd (fun _ => 0) 0 (-1)) 1 (-1)) 2 (-1)) 3 (-1))))]) s H locs := h
                obtain rfl : r44 = 0 := (by rw [hp43]; decide)
                exact x_iret F h hr hlk (by decide +kernel) (fun _ => 0) [] (rfl) (by decide +kernel) rfl (Nat.le_of_ble_eq_true rfl) (Nat.le_of_ble_eq_true rfl) dX12_pour_59
              · refine lv_aload_n F.1 F.2.1 dX12_pour_34 rfl (lv_at hl 0 rfl) ?_
                refine x_get F h 0 5 inlX12 rfl (by decide) mw_205 dX12_pour_35 rfl rfl ?_
                refine lv_iload_n F.1 F.2.1 dX12_pour_38 rfl (lv_at hl 1 rfl) ?_
                refine x_iald (v := (-1)) F h 1 rfl rfl (x_in (by decide +kernel)) rfl dX12_pour_39 ?_
                refine lv_iconst (v := (-1)) F.1 F.2.1 dX12_pour_40 (by decide) ?_
                refine lv_icmp_eq (tgt := 54) F.1 F.2.1 dX12_pour_41 (by decide) (fun _ => ?_) (fun hc => absurd (by decide) hc)
                refine lv_aload_n F.1 F.2.1 dX12_pour_54 rfl (lv_at hl 0 rfl) ?_
                refine lv_iconst (v := 2) F.1 F.2.1 dX12_pour_55 (by decide) ?_
                refine x_Vi (wr := [(((u 2)), .inl (cy 1, 4, .inl (upd (upd (upd (upd (fun _ => 0) 0 (-1)) 1 (-1)) 2 (-1)) 3 (-1))))]) F h yk_X12_is mw_286 mw_287 mw_288 (c_m_is l D cy q ((.ref ((u 0)) :: .int 0 :: .long 0 :: .long 1 :: .ref ((u 1)) :: .ref ((u 2)) :: .ref ((u 3)) :: .ref ((u 4)) :: .ref ((u 5)) :: .int 0 :: .int 0 :: .int 0 :: .int 0 :: .int 0 :: .int 0 :: .int (-1) :: .int (-1) :: .int 0 :: .ref ((u 6)) :: .int 0 :: .int 0 :: .ref ((u 7)) :: .ref ((u 8)) :: .ref ((u 9)) :: .ref ((u 10)) :: .ref ((u 11)) :: .ref ((u 12)) :: .ref ((u 13)) :: .int 0 :: .int 0 :: .int (-1) :: .int 0 :: .int (-1) :: .int 0 :: .ref ((u 14)) :: .int 0 :: .int 0 :: .int 0 :: .int 0 :: .int 0 :: .ref ((u 15)) :: .ref ((u 16)) :: .int 0 :: .int (-1) :: .int 0 :: .int 0 :: .int 0 :: .int 0 :: .ref ((u 17)) :: .ref ((u 18)) :: .ref ((u 19)) :: .int 0 :: .ref ((u 20)) :: .ref ((u 21)) :: .int 0 :: .ref ((u 22)) :: .int (-1) :: .int 0 :: .ref ((u 23)) :: .int (-1) :: .int (-1) :: .int 0 :: .ref ((u 24)) :: .ref ((u 25)) :: .int 0 :: [])) rfl 2) [0] [1] 0 rfl rfl rfl rfl (by decide) rfl rfl hl.1 rfl (Nat.le_of_ble_eq_true rfl) ⟨Nat.le_of_ble_eq_true rfl, Nat.le_of_ble_eq_true rfl⟩ ⟨Nat.le_of_ble_eq_true rfl, Nat.le_of_ble_eq_true rfl⟩ dX12_pour_56 (fun r47 u48 H locs hp46 h => ?_)
                have h : xS D cy A s.heap ([(((u 2)), .inl (cy 1, 4, .inl (upd (upd (upd (upd (fun _ => 0) 0 (-1)) 1 (-1)) 2 (-1)) 3 (-1))))]) s H locs := h
                obtain rfl : r47 = 0 := (by rw [hp46]; decide)
                exact x_iret F h hr hlk (by decide +kernel) (fun _ => 0) [] (rfl) (by decide +kernel) rfl (Nat.le_of_ble_eq_true rfl) (Nat.le_of_ble_eq_true rfl) dX12_pour_59
              · refine lv_aload_n F.1 F.2.1 dX12_pour_34 rfl (lv_at hl 0 rfl) ?_
                refine x_get F h 0 5 inlX12 rfl (by decide) mw_205 dX12_pour_35 rfl rfl ?_
                refine lv_iload_n F.1 F.2.1 dX12_pour_38 rfl (lv_at hl 1 rfl) ?_
                refine x_iald (v := (-1)) F h 1 rfl rfl (x_in (by decide +kernel)) rfl dX12_pour_39 ?_
                refine lv_iconst (v := (-1)) F.1 F.2.1 dX12_pour_40 (by decide) ?_
                refine lv_icmp_eq (tgt := 54) F.1 F.2.1 dX12_pour_41 (by decide) (fun _ => ?_) (fun hc => absurd (by decide) hc)
                refine lv_aload_n F.1 F.2.1 dX12_pour_54 rfl (lv_at hl 0 rfl) ?_
                refine lv_iconst (v := 2) F.1 F.2.1 dX12_pour_55 (by decide) ?_
                refine x_Vi (wr := [(((u 2)), .inl (cy 1, 4, .inl (upd (upd (upd (upd (fun _ => 0) 0 (-1)) 1 (-1)) 2 (-1)) 3 (-1))))]) F h yk_X12_is mw_286 mw_287 mw_288 (c_m_is l D cy q ((.ref ((u 0)) :: .int 0 :: .long 0 :: .long 1 :: .ref ((u 1)) :: .ref ((u 2)) :: .ref ((u 3)) :: .ref ((u 4)) :: .ref ((u 5)) :: .int 0 :: .int 0 :: .int 0 :: .int 0 :: .int 0 :: .int 0 :: .int (-1) :: .int (-1) :: .int 0 :: .ref ((u 6)) :: .int 0 :: .int 0 :: .ref ((u 7)) :: .ref ((u 8)) :: .ref ((u 9)) :: .ref ((u 10)) :: .ref ((u 11)) :: .ref ((u 12)) :: .ref ((u 13)) :: .int 0 :: .int 0 :: .int (-1) :: .int 0 :: .int (-1) :: .int 0 :: .ref ((u 14)) :: .int 0 :: .int 0 :: .int 0 :: .int 0 :: .int 0 :: .ref ((u 15)) :: .ref ((u 16)) :: .int 0 :: .int (-1) :: .int 0 :: .int 0 :: .int 0 :: .int 0 :: .ref ((u 17)) :: .ref ((u 18)) :: .ref ((u 19)) :: .int 0 :: .ref ((u 20)) :: .ref ((u 21)) :: .int 0 :: .ref ((u 22)) :: .int (-1) :: .int 0 :: .ref ((u 23)) :: .int (-1) :: .int (-1) :: .int 0 :: .ref ((u 24)) :: .ref ((u 25)) :: .int 0 :: [])) rfl 2) [0] [1] 0 rfl rfl rfl rfl (by decide) rfl rfl hl.1 rfl (Nat.le_of_ble_eq_true rfl) ⟨Nat.le_of_ble_eq_true rfl, Nat.le_of_ble_eq_true rfl⟩ ⟨Nat.le_of_ble_eq_true rfl, Nat.le_of_ble_eq_true rfl⟩ dX12_pour_56 (fun r50 u51 H locs hp49 h => ?_)
                have h : xS D cy A s.heap ([(((u 2)), .inl (cy 1, 4, .inl (upd (upd (upd (upd (fun _ => 0) 0 (-1)) 1 (-1)) 2 (-1)) 3 (-1))))]) s H locs := h
                obtain rfl : r50 = 0 := (by rw [hp49]; decide)
                exact x_iret F h hr hlk (by decide +kernel) (fun _ => 0) [] (rfl) (by decide +kernel) rfl (Nat.le_of_ble_eq_true rfl) (Nat.le_of_ble_eq_true rfl) dX12_pour_59
            · rcases x_c4 ht14 ht15 with rfl | rfl | rfl | rfl
              · refine lv_aload_n F.1 F.2.1 dX12_pour_34 rfl (lv_at hl 0 rfl) ?_
                refine x_get F h 0 5 inlX12 rfl (by decide) mw_205 dX12_pour_35 rfl rfl ?_
                refine lv_iload_n F.1 F.2.1 dX12_pour_38 rfl (lv_at hl 1 rfl) ?_
                refine x_iald (v := (-1)) F h 1 rfl rfl (x_in (by decide +kernel)) rfl dX12_pour_39 ?_
                refine lv_iconst (v := (-1)) F.1 F.2.1 dX12_pour_40 (by decide) ?_
                refine lv_icmp_eq (tgt := 54) F.1 F.2.1 dX12_pour_41 (by decide) (fun _ => ?_) (fun hc => absurd (by decide) hc)
                refine lv_aload_n F.1 F.2.1 dX12_pour_54 rfl (lv_at hl 0 rfl) ?_
                refine lv_iconst (v := 2) F.1 F.2.1 dX12_pour_55 (by decide) ?_
                refine x_Vi (wr := [(((u 2)), .inl (cy 1, 4, .inl (upd (upd (upd (upd (fun _ => 0) 0 (-1)) 1 (-1)) 2 (-1)) 3 (-1))))]) F h yk_X12_is mw_286 mw_287 mw_288 (c_m_is l D cy q ((.ref ((u 0)) :: .int 0 :: .long 0 :: .long 1 :: .ref ((u 1)) :: .ref ((u 2)) :: .ref ((u 3)) :: .ref ((u 4)) :: .ref ((u 5)) :: .int 0 :: .int 0 :: .int 0 :: .int 0 :: .int 0 :: .int 0 :: .int (-1) :: .int (-1) :: .int 0 :: .ref ((u 6)) :: .int 0 :: .int 0 :: .ref ((u 7)) :: .ref ((u 8)) :: .ref ((u 9)) :: .ref ((u 10)) :: .ref ((u 11)) :: .ref ((u 12)) :: .ref ((u 13)) :: .int 0 :: .int 0 :: .int (-1) :: .int 0 :: .int (-1) :: .int 0 :: .ref ((u 14)) :: .int 0 :: .int 0 :: .int 0 :: .int 0 :: .int 0 :: .ref ((u 15)) :: .ref ((u 16)) :: .int 0 :: .int (-1) :: .int 0 :: .int 0 :: .int 0 :: .int 0 :: .ref ((u 17)) :: .ref ((u 18)) :: .ref ((u 19)) :: .int 0 :: .ref ((u 20)) :: .ref ((u 21)) :: .int 0 :: .ref ((u 22)) :: .int (-1) :: .int 0 :: .ref ((u 23)) :: .int (-1) :: .int (-1) :: .int 0 :: .ref ((u 24)) :: .ref ((u 25)) :: .int 0 :: [])) rfl 2) [0] [1] 0 rfl rfl rfl rfl (by decide) rfl rfl hl.1 rfl (Nat.le_of_ble_eq_true rfl) ⟨Nat.le_of_ble_eq_true rfl, Nat.le_of_ble_eq_true rfl⟩ ⟨Nat.le_of_ble_eq_true rfl, Nat.le_of_ble_eq_true rfl⟩ dX12_pour_56 (fun r53 u54 H locs hp52 h => ?_)
                have h : xS D cy A s.heap ([(((u 2)), .inl (cy 1, 4, .inl (upd (upd (upd (upd (fun _ => 0) 0 (-1)) 1 (-1)) 2 (-1)) 3 (-1))))]) s H locs := h
                obtain rfl : r53 = 0 := (by rw [hp52]; decide)
                exact x_iret F h hr hlk (by decide +kernel) (fun _ => 0) [] (rfl) (by decide +kernel) rfl (Nat.le_of_ble_eq_true rfl) (Nat.le_of_ble_eq_true rfl) dX12_pour_59
              · refine lv_aload_n F.1 F.2.1 dX12_pour_34 rfl (lv_at hl 0 rfl) ?_
                refine x_get F h 0 5 inlX12 rfl (by decide) mw_205 dX12_pour_35 rfl rfl ?_
                refine lv_iload_n F.1 F.2.1 dX12_pour_38 rfl (lv_at hl 1 rfl) ?_
                refine x_iald (v := (-1)) F h 1 rfl rfl (x_in (by decide +kernel)) rfl dX12_pour_39 ?_
                refine lv_iconst (v := (-1)) F.1 F.2.1 dX12_pour_40 (by decide) ?_
                refine lv_icmp_eq (tgt := 54) F.1 F.2.1 dX12_pour_41 (by decide) (fun _ => ?_) (fun hc => absurd (by decide) hc)
                refine lv_aload_n F.1 F.2.1 dX12_pour_54 rfl (lv_at hl 0 rfl) ?_
                refine lv_iconst (v := 2) F.1 F.2.1 dX12_pour_55 (by decide) ?_
                refine x_Vi (wr := [(((u 2)), .inl (cy 1, 4, .inl (upd (upd (upd (upd (fun _ => 0) 0 (-1)) 1 (-1)) 2 (-1)) 3 (-1))))]) F h yk_X12_is mw_286 mw_287 mw_288 (c_m_is l D cy q ((.ref ((u 0)) :: .int 0 :: .long 0 :: .long 1 :: .ref ((u 1)) :: .ref ((u 2)) :: .ref ((u 3)) :: .ref ((u 4)) :: .ref ((u 5)) :: .int 0 :: .int 0 :: .int 0 :: .int 0 :: .int 0 :: .int 0 :: .int (-1) :: .int (-1) :: .int 0 :: .ref ((u 6)) :: .int 0 :: .int 0 :: .ref ((u 7)) :: .ref ((u 8)) :: .ref ((u 9)) :: .ref ((u 10)) :: .ref ((u 11)) :: .ref ((u 12)) :: .ref ((u 13)) :: .int 0 :: .int 0 :: .int (-1) :: .int 0 :: .int (-1) :: .int 0 :: .ref ((u 14)) :: .int 0 :: .int 0 :: .int 0 :: .int 0 :: .int 0 :: .ref ((u 15)) :: .ref ((u 16)) :: .int 0 :: .int (-1) :: .int 0 :: .int 0 :: .int 0 :: .int 0 :: .ref ((u 17)) :: .ref ((u 18)) :: .ref ((u 19)) :: .int 0 :: .ref ((u 20)) :: .ref ((u 21)) :: .int 0 :: .ref ((u 22)) :: .int (-1) :: .int 0 :: .ref ((u 23)) :: .int (-1) :: .int (-1) :: .int 0 :: .ref ((u 24)) :: .ref ((u 25)) :: .int 0 :: [])) rfl 2) [0] [1] 0 rfl rfl rfl rfl (by decide) rfl rfl hl.1 rfl (Nat.le_of_ble_eq_true rfl) ⟨Nat.le_of_ble_eq_true rfl, Nat.le_of_ble_eq_true rfl⟩ ⟨Nat.le_of_ble_eq_true rfl, Nat.le_of_ble_eq_true rfl⟩ dX12_pour_56 (fun r56 u57 H locs hp55 h => ?_)
                have h : xS D cy A s.heap ([(((u 2)), .inl (cy 1, 4, .inl (upd (upd (upd (upd (fun _ => 0) 0 (-1)) 1 (-1)) 2 (-1)) 3 (-1))))]) s H locs := h
                obtain rfl : r56 = 0 := (by rw [hp55]; decide)
                exact x_iret F h hr hlk (by decide +kernel) (fun _ => 0) [] (rfl) (by decide +kernel) rfl (Nat.le_of_ble_eq_true rfl) (Nat.le_of_ble_eq_true rfl) dX12_pour_59
              · refine lv_aload_n F.1 F.2.1 dX12_pour_34 rfl (lv_at hl 0 rfl) ?_
                refine x_get F h 0 5 inlX12 rfl (by decide) mw_205 dX12_pour_35 rfl rfl ?_
                refine lv_iload_n F.1 F.2.1 dX12_pour_38 rfl (lv_at hl 1 rfl) ?_
                refine x_iald (v := (-1)) F h 1 rfl rfl (x_in (by decide +kernel)) rfl dX12_pour_39 ?_
                refine lv_iconst (v := (-1)) F.1 F.2.1 dX12_pour_40 (by decide) ?_
                refine lv_icmp_eq (tgt := 54) F.1 F.2.1 dX12_pour_41 (by decide) (fun _ => ?_) (fun hc => absurd (by decide) hc)
                refine lv_aload_n F.1 F.2.1 dX12_pour_54 rfl (lv_at hl 0 rfl) ?_
                refine lv_iconst (v := 2) F.1 F.2.1 dX12_pour_55 (by decide) ?_
                refine x_Vi (wr := [(((u 2)), .inl (cy 1, 4, .inl (upd (upd (upd (upd (fun _ => 0) 0 (-1)) 1 (-1)) 2 (-1)) 3 (-1))))]) F h yk_X12_is mw_286 mw_287 mw_288 (c_m_is l D cy q ((.ref ((u 0)) :: .int 0 :: .long 0 :: .long 1 :: .ref ((u 1)) :: .ref ((u 2)) :: .ref ((u 3)) :: .ref ((u 4)) :: .ref ((u 5)) :: .int 0 :: .int 0 :: .int 0 :: .int 0 :: .int 0 :: .int 0 :: .int (-1) :: .int (-1) :: .int 0 :: .ref ((u 6)) :: .int 0 :: .int 0 :: .ref ((u 7)) :: .ref ((u 8)) :: .ref ((u 9)) :: .ref ((u 10)) :: .ref ((u 11)) :: .ref ((u 12)) :: .ref ((u 13)) :: .int 0 :: .int 0 :: .int (-1) :: .int 0 :: .int (-1) :: .int 0 :: .ref ((u 14)) :: .int 0 :: .int 0 :: .int 0 :: .int 0 :: .int 0 :: .ref ((u 15)) :: .ref ((u 16)) :: .int 0 :: .int (-1) :: .int 0 :: .int 0 :: .int 0 :: .int 0 :: .ref ((u 17)) :: .ref ((u 18)) :: .ref ((u 19)) :: .int 0 :: .ref ((u 20)) :: .ref ((u 21)) :: .int 0 :: .ref ((u 22)) :: .int (-1) :: .int 0 :: .ref ((u 23)) :: .int (-1) :: .int (-1) :: .int 0 :: .ref ((u 24)) :: .ref ((u 25)) :: .int 0 :: [])) rfl 2) [0] [1] 0 rfl rfl rfl rfl (by decide) rfl rfl hl.1 rfl (Nat.le_of_ble_eq_true rfl) ⟨Nat.le_of_ble_eq_true rfl, Nat.le_of_ble_eq_true rfl⟩ ⟨Nat.le_of_ble_eq_true rfl, Nat.le_of_ble_eq_true rfl⟩ dX12_pour_56 (fun r59 u60 H locs hp58 h => ?_)
                have h : xS D cy A s.heap ([(((u 2)), .inl (cy 1, 4, .inl (upd (upd (upd (upd (fun _ => 0) 0 (-1)) 1 (-1)) 2 (-1)) 3 (-1))))]) s H locs := h
                obtain rfl : r59 = 0 := (by rw [hp58]; decide)
                exact x_iret F h hr hlk (by decide +kernel) (fun _ => 0) [] (rfl) (by decide +kernel) rfl (Nat.le_of_ble_eq_true rfl) (Nat.le_of_ble_eq_true rfl) dX12_pour_59
              · refine lv_aload_n F.1 F.2.1 dX12_pour_34 rfl (lv_at hl 0 rfl) ?_
                refine x_get F h 0 5 inlX12 rfl (by decide) mw_205 dX12_pour_35 rfl rfl ?_
                refine lv_iload_n F.1 F.2.1 dX12_pour_38 rfl (lv_at hl 1 rfl) ?_
                refine x_iald (v := (-1)) F h 1 rfl rfl (x_in (by decide +kernel)) rfl dX12_pour_39 ?_
                refine lv_iconst (v := (-1)) F.1 F.2.1 dX12_pour_40 (by decide) ?_
                refine lv_icmp_eq (tgt := 54) F.1 F.2.1 dX12_pour_41 (by decide) (fun _ => ?_) (fun hc => absurd (by decide) hc)
                refine lv_aload_n F.1 F.2.1 dX12_pour_54 rfl (lv_at hl 0 rfl) ?_
                refine lv_iconst (v := 2) F.1 F.2.1 dX12_pour_55 (by decide) ?_
                refine x_Vi (wr := [(((u 2)), .inl (cy 1, 4, .inl (upd (upd (upd (upd (fun _ => 0) 0 (-1)) 1 (-1)) 2 (-1)) 3 (-1))))]) F h yk_X12_is mw_286 mw_287 mw_288 (c_m_is l D cy q ((.ref ((u 0)) :: .int 0 :: .long 0 :: .long 1 :: .ref ((u 1)) :: .ref ((u 2)) :: .ref ((u 3)) :: .ref ((u 4)) :: .ref ((u 5)) :: .int 0 :: .int 0 :: .int 0 :: .int 0 :: .int 0 :: .int 0 :: .int (-1) :: .int (-1) :: .int 0 :: .ref ((u 6)) :: .int 0 :: .int 0 :: .ref ((u 7)) :: .ref ((u 8)) :: .ref ((u 9)) :: .ref ((u 10)) :: .ref ((u 11)) :: .ref ((u 12)) :: .ref ((u 13)) :: .int 0 :: .int 0 :: .int (-1) :: .int 0 :: .int (-1) :: .int 0 :: .ref ((u 14)) :: .int 0 :: .int 0 :: .int 0 :: .int 0 :: .int 0 :: .ref ((u 15)) :: .ref ((u 16)) :: .int 0 :: .int (-1) :: .int 0 :: .int 0 :: .int 0 :: .int 0 :: .ref ((u 17)) :: .ref ((u 18)) :: .ref ((u 19)) :: .int 0 :: .ref ((u 20)) :: .ref ((u 21)) :: .int 0 :: .ref ((u 22)) :: .int (-1) :: .int 0 :: .ref ((u 23)) :: .int (-1) :: .int (-1) :: .int 0 :: .ref ((u 24)) :: .ref ((u 25)) :: .int 0 :: [])) rfl 2) [0] [1] 0 rfl rfl rfl rfl (by decide) rfl rfl hl.1 rfl (Nat.le_of_ble_eq_true rfl) ⟨Nat.le_of_ble_eq_true rfl, Nat.le_of_ble_eq_true rfl⟩ ⟨Nat.le_of_ble_eq_true rfl, Nat.le_of_ble_eq_true rfl⟩ dX12_pour_56 (fun r62 u63 H locs hp61 h => ?_)
                have h : xS D cy A s.heap ([(((u 2)), .inl (cy 1, 4, .inl (upd (upd (upd (upd (fun _ => 0) 0 (-1)) 1 (-1)) 2 (-1)) 3 (-1))))]) s H locs := h
                obtain rfl : r62 = 0 := (by rw [hp61]; decide)
                exact x_iret F h hr hlk (by decide +kernel) (fun _ => 0) [] (rfl) (by decide +kernel) rfl (Nat.le_of_ble_eq_true rfl) (Nat.le_of_ble_eq_true rfl) dX12_pour_59
            · rcases x_c4 ht14 ht15 with rfl | rfl | rfl | rfl
              · refine lv_aload_n F.1 F.2.1 dX12_pour_34 rfl (lv_at hl 0 rfl) ?_
                refine x_get F h 0 5 inlX12 rfl (by decide) mw_205 dX12_pour_35 rfl rfl ?_
                refine lv_iload_n F.1 F.2.1 dX12_pour_38 rfl (lv_at hl 1 rfl) ?_
                refine x_iald (v := (-1)) F h 1 rfl rfl (x_in (by decide +kernel)) rfl dX12_pour_39 ?_
                refine lv_iconst (v := (-1)) F.1 F.2.1 dX12_pour_40 (by decide) ?_
                refine lv_icmp_eq (tgt := 54) F.1 F.2.1 dX12_pour_41 (by decide) (fun _ => ?_) (fun hc => absurd (by decide) hc)
                refine lv_aload_n F.1 F.2.1 dX12_pour_54 rfl (lv_at hl 0 rfl) ?_
                refine lv_iconst (v := 2) F.1 F.2.1 dX12_pour_55 (by decide) ?_
                refine x_Vi (wr := [(((u 2)), .inl (cy 1, 4, .inl (upd (upd (upd (upd (fun _ => 0) 0 (-1)) 1 (-1)) 2 (-1)) 3 (-1))))]) F h yk_X12_is mw_286 mw_287 mw_288 (c_m_is l D cy q ((.ref ((u 0)) :: .int 0 :: .long 0 :: .long 1 :: .ref ((u 1)) :: .ref ((u 2)) :: .ref ((u 3)) :: .ref ((u 4)) :: .ref ((u 5)) :: .int 0 :: .int 0 :: .int 0 :: .int 0 :: .int 0 :: .int 0 :: .int (-1) :: .int (-1) :: .int 0 :: .ref ((u 6)) :: .int 0 :: .int 0 :: .ref ((u 7)) :: .ref ((u 8)) :: .ref ((u 9)) :: .ref ((u 10)) :: .ref ((u 11)) :: .ref ((u 12)) :: .ref ((u 13)) :: .int 0 :: .int 0 :: .int (-1) :: .int 0 :: .int (-1) :: .int 0 :: .ref ((u 14)) :: .int 0 :: .int 0 :: .int 0 :: .int 0 :: .int 0 :: .ref ((u 15)) :: .ref ((u 16)) :: .int 0 :: .int (-1) :: .int 0 :: .int 0 :: .int 0 :: .int 0 :: .ref ((u 17)) :: .ref ((u 18)) :: .ref ((u 19)) :: .int 0 :: .ref ((u 20)) :: .ref ((u 21)) :: .int 0 :: .ref ((u 22)) :: .int (-1) :: .int 0 :: .ref ((u 23)) :: .int (-1) :: .int (-1) :: .int 0 :: .ref ((u 24)) :: .ref ((u 25)) :: .int 0 :: [])) rfl 2) [0] [1] 0 rfl rfl rfl rfl (by decide) rfl rfl hl.1 rfl (Nat.le_of_ble_eq_true rfl) ⟨Nat.le_of_ble_eq_true rfl, Nat.le_of_ble_eq_true rfl⟩ ⟨Nat.le_of_ble_eq_true rfl, Nat.le_of_ble_eq_true rfl⟩ dX12_pour_56 (fun r65 u66 H locs hp64 h => ?_)
                have h : xS D cy A s.heap ([(((u 2)), .inl (cy 1, 4, .inl (upd (upd (upd (upd (fun _ => 0) 0 (-1)) 1 (-1)) 2 (-1)) 3 (-1))))]) s H locs := h
                obtain rfl : r65 = 0 := (by rw [hp64]; decide)
                exact x_iret F h hr hlk (by decide +kernel) (fun _ => 0) [] (rfl) (by decide +kernel) rfl (Nat.le_of_ble_eq_true rfl) (Nat.le_of_ble_eq_true rfl) dX12_pour_59
              · refine lv_aload_n F.1 F.2.1 dX12_pour_34 rfl (lv_at hl 0 rfl) ?_
                refine x_get F h 0 5 inlX12 rfl (by decide) mw_205 dX12_pour_35 rfl rfl ?_
                refine lv_iload_n F.1 F.2.1 dX12_pour_38 rfl (lv_at hl 1 rfl) ?_
                refine x_iald (v := (-1)) F h 1 rfl rfl (x_in (by decide +kernel)) rfl dX12_pour_39 ?_
                refine lv_iconst (v := (-1)) F.1 F.2.1 dX12_pour_40 (by decide) ?_
                refine lv_icmp_eq (tgt := 54) F.1 F.2.1 dX12_pour_41 (by decide) (fun _ => ?_) (fun hc => absurd (by decide) hc)
                refine lv_aload_n F.1 F.2.1 dX12_pour_54 rfl (lv_at hl 0 rfl) ?_
                refine lv_iconst (v := 2) F.1 F.2.1 dX12_pour_55 (by decide) ?_
                refine x_Vi (wr := [(((u 2)), .inl (cy 1, 4, .inl (upd (upd (upd (upd (fun _ => 0) 0 (-1)) 1 (-1)) 2 (-1)) 3 (-1))))]) F h yk_X12_is mw_286 mw_287 mw_288 (c_m_is l D cy q ((.ref ((u 0)) :: .int 0 :: .long 0 :: .long 1 :: .ref ((u 1)) :: .ref ((u 2)) :: .ref ((u 3)) :: .ref ((u 4)) :: .ref ((u 5)) :: .int 0 :: .int 0 :: .int 0 :: .int 0 :: .int 0 :: .int 0 :: .int (-1) :: .int (-1) :: .int 0 :: .ref ((u 6)) :: .int 0 :: .int 0 :: .ref ((u 7)) :: .ref ((u 8)) :: .ref ((u 9)) :: .ref ((u 10)) :: .ref ((u 11)) :: .ref ((u 12)) :: .ref ((u 13)) :: .int 0 :: .int 0 :: .int (-1) :: .int 0 :: .int (-1) :: .int 0 :: .ref ((u 14)) :: .int 0 :: .int 0 :: .int 0 :: .int 0 :: .int 0 :: .ref ((u 15)) :: .ref ((u 16)) :: .int 0 :: .int (-1) :: .int 0 :: .int 0 :: .int 0 :: .int 0 :: .ref ((u 17)) :: .ref ((u 18)) :: .ref ((u 19)) :: .int 0 :: .ref ((u 20)) :: .ref ((u 21)) :: .int 0 :: .ref ((u 22)) :: .int (-1) :: .int 0 :: .ref ((u 23)) :: .int (-1) :: .int (-1) :: .int 0 :: .ref ((u 24)) :: .ref ((u 25)) :: .int 0 :: [])) rfl 2) [0] [1] 0 rfl rfl rfl rfl (by decide) rfl rfl hl.1 rfl (Nat.le_of_ble_eq_true rfl) ⟨Nat.le_of_ble_eq_true rfl, Nat.le_of_ble_eq_true rfl⟩ ⟨Nat.le_of_ble_eq_true rfl, Nat.le_of_ble_eq_true rfl⟩ dX12_pour_56 (fun r68 u69 H locs hp67 h => ?_)
                have h : xS D cy A s.heap ([(((u 2)), .inl (cy 1, 4, .inl (upd (upd (upd (upd (fun _ => 0) 0 (-1)) 1 (-1)) 2 (-1)) 3 (-1))))]) s H locs := h
                obtain rfl : r68 = 0 := (by rw [hp67]; decide)
                exact x_iret F h hr hlk (by decide +kernel) (fun _ => 0) [] (rfl) (by decide +kernel) rfl (Nat.le_of_ble_eq_true rfl) (Nat.le_of_ble_eq_true rfl) dX12_pour_59
              · refine lv_aload_n F.1 F.2.1 dX12_pour_34 rfl (lv_at hl 0 rfl) ?_
                refine x_get F h 0 5 inlX12 rfl (by decide) mw_205 dX12_pour_35 rfl rfl ?_
                refine lv_iload_n F.1 F.2.1 dX12_pour_38 rfl (lv_at hl 1 rfl) ?_
                refine x_iald (v := (-1)) F h 1 rfl rfl (x_in (by decide +kernel)) rfl dX12_pour_39 ?_
                refine lv_iconst (v := (-1)) F.1 F.2.1 dX12_pour_40 (by decide) ?_
                refine lv_icmp_eq (tgt := 54) F.1 F.2.1 dX12_pour_41 (by decide) (fun _ => ?_) (fun hc => absurd (by decide) hc)
                refine lv_aload_n F.1 F.2.1 dX12_pour_54 rfl (lv_at hl 0 rfl) ?_
                refine lv_iconst (v := 2) F.1 F.2.1 dX12_pour_55 (by decide) ?_
                refine x_Vi (wr := [(((u 2)), .inl (cy 1, 4, .inl (upd (upd (upd (upd (fun _ => 0) 0 (-1)) 1 (-1)) 2 (-1)) 3 (-1))))]) F h yk_X12_is mw_286 mw_287 mw_288 (c_m_is l D cy q ((.ref ((u 0)) :: .int 0 :: .long 0 :: .long 1 :: .ref ((u 1)) :: .ref ((u 2)) :: .ref ((u 3)) :: .ref ((u 4)) :: .ref ((u 5)) :: .int 0 :: .int 0 :: .int 0 :: .int 0 :: .int 0 :: .int 0 :: .int (-1) :: .int (-1) :: .int 0 :: .ref ((u 6)) :: .int 0 :: .int 0 :: .ref ((u 7)) :: .ref ((u 8)) :: .ref ((u 9)) :: .ref ((u 10)) :: .ref ((u 11)) :: .ref ((u 12)) :: .ref ((u 13)) :: .int 0 :: .int 0 :: .int (-1) :: .int 0 :: .int (-1) :: .int 0 :: .ref ((u 14)) :: .int 0 :: .int 0 :: .int 0 :: .int 0 :: .int 0 :: .ref ((u 15)) :: .ref ((u 16)) :: .int 0 :: .int (-1) :: .int 0 :: .int 0 :: .int 0 :: .int 0 :: .ref ((u 17)) :: .ref ((u 18)) :: .ref ((u 19)) :: .int 0 :: .ref ((u 20)) :: .ref ((u 21)) :: .int 0 :: .ref ((u 22)) :: .int (-1) :: .int 0 :: .ref ((u 23)) :: .int (-1) :: .int (-1) :: .int 0 :: .ref ((u 24)) :: .ref ((u 25)) :: .int 0 :: [])) rfl 2) [0] [1] 0 rfl rfl rfl rfl (by decide) rfl rfl hl.1 rfl (Nat.le_of_ble_eq_true rfl) ⟨Nat.le_of_ble_eq_true rfl, Nat.le_of_ble_eq_true rfl⟩ ⟨Nat.le_of_ble_eq_true rfl, Nat.le_of_ble_eq_true rfl⟩ dX12_pour_56 (fun r71 u72 H locs hp70 h => ?_)
                have h : xS D cy A s.heap ([(((u 2)), .inl (cy 1, 4, .inl (upd (upd (upd (upd (fun _ => 0) 0 (-1)) 1 (-1)) 2 (-1)) 3 (-1))))]) s H locs := h
                obtain rfl : r71 = 0 := (by rw [hp70]; decide)
                exact x_iret F h hr hlk (by decide +kernel) (fun _ => 0) [] (rfl) (by decide +kernel) rfl (Nat.le_of_ble_eq_true rfl) (Nat.le_of_ble_eq_true rfl) dX12_pour_59
              · refine lv_aload_n F.1 F.2.1 dX12_pour_34 rfl (lv_at hl 0 rfl) ?_
                refine x_get F h 0 5 inlX12 rfl (by decide) mw_205 dX12_pour_35 rfl rfl ?_
                refine lv_iload_n F.1 F.2.1 dX12_pour_38 rfl (lv_at hl 1 rfl) ?_
                refine x_iald (v := (-1)) F h 1 rfl rfl (x_in (by decide +kernel)) rfl dX12_pour_39 ?_
                refine lv_iconst (v := (-1)) F.1 F.2.1 dX12_pour_40 (by decide) ?_
                refine lv_icmp_eq (tgt := 54) F.1 F.2.1 dX12_pour_41 (by decide) (fun _ => ?_) (fun hc => absurd (by decide) hc)
                refine lv_aload_n F.1 F.2.1 dX12_pour_54 rfl (lv_at hl 0 rfl) ?_
                refine lv_iconst (v := 2) F.1 F.2.1 dX12_pour_55 (by decide) ?_
                refine x_Vi (wr := [(((u 2)), .inl (cy 1, 4, .inl (upd (upd (upd (upd (fun _ => 0) 0 (-1)) 1 (-1)) 2 (-1)) 3 (-1))))]) F h yk_X12_is mw_286 mw_287 mw_288 (c_m_is l D cy q ((.ref ((u 0)) :: .int 0 :: .long 0 :: .long 1 :: .ref ((u 1)) :: .ref ((u 2)) :: .ref ((u 3)) :: .ref ((u 4)) :: .ref ((u 5)) :: .int 0 :: .int 0 :: .int 0 :: .int 0 :: .int 0 :: .int 0 :: .int (-1) :: .int (-1) :: .int 0 :: .ref ((u 6)) :: .int 0 :: .int 0 :: .ref ((u 7)) :: .ref ((u 8)) :: .ref ((u 9)) :: .ref ((u 10)) :: .ref ((u 11)) :: .ref ((u 12)) :: .ref ((u 13)) :: .int 0 :: .int 0 :: .int (-1) :: .int 0 :: .int (-1) :: .int 0 :: .ref ((u 14)) :: .int 0 :: .int 0 :: .int 0 :: .int 0 :: .int 0 :: .ref ((u 15)) :: .ref ((u 16)) :: .int 0 :: .int (-1) :: .int 0 :: .int 0 :: .int 0 :: .int 0 :: .ref ((u 17)) :: .ref ((u 18)) :: .ref ((u 19)) :: .int 0 :: .ref ((u 20)) :: .ref ((u 21)) :: .int 0 :: .ref ((u 22)) :: .int (-1) :: .int 0 :: .ref ((u 23)) :: .int (-1) :: .int (-1) :: .int 0 :: .ref ((u 24)) :: .ref ((u 25)) :: .int 0 :: [])) rfl 2) [0] [1] 0 rfl rfl rfl rfl (by decide) rfl rfl hl.1 rfl (Nat.le_of_ble_eq_true rfl) ⟨Nat.le_of_ble_eq_true rfl, Nat.le_of_ble_eq_true rfl⟩ ⟨Nat.le_of_ble_eq_true rfl, Nat.le_of_ble_eq_true rfl⟩ dX12_pour_56 (fun r74 u75 H locs hp73 h => ?_)
                have h : xS D cy A s.heap ([(((u 2)), .inl (cy 1, 4, .inl (upd (upd (upd (upd (fun _ => 0) 0 (-1)) 1 (-1)) 2 (-1)) 3 (-1))))]) s H locs := h
                obtain rfl : r74 = 0 := (by rw [hp73]; decide)
                exact x_iret F h hr hlk (by decide +kernel) (fun _ => 0) [] (rfl) (by decide +kernel) rfl (Nat.le_of_ble_eq_true rfl) (Nat.le_of_ble_eq_true rfl) dX12_pour_59
          · refine lv_aload_n F.1 F.2.1 dX12_pour_28 rfl (lv_at hl 0 rfl) ?_
            refine lv_iconst (v := 1) F.1 F.2.1 dX12_pour_29 (by decide) ?_
            refine x_Vi (wr := [(((u 2)), .inl (cy 1, 4, .inl (upd (upd (upd (upd (fun _ => 0) 0 (-1)) 1 (-1)) 2 (-1)) 3 (-1))))]) F h yk_X12_is mw_286 mw_287 mw_288 (c_m_is l D cy q ((.ref ((u 0)) :: .int 0 :: .long 0 :: .long 1 :: .ref ((u 1)) :: .ref ((u 2)) :: .ref ((u 3)) :: .ref ((u 4)) :: .ref ((u 5)) :: .int 0 :: .int 0 :: .int 0 :: .int 0 :: .int 0 :: .int 0 :: .int (-1) :: .int (-1) :: .int 0 :: .ref ((u 6)) :: .int 0 :: .int 0 :: .ref ((u 7)) :: .ref ((u 8)) :: .ref ((u 9)) :: .ref ((u 10)) :: .ref ((u 11)) :: .ref ((u 12)) :: .ref ((u 13)) :: .int 0 :: .int 0 :: .int (-1) :: .int 0 :: .int (-1) :: .int 0 :: .ref ((u 14)) :: .int 0 :: .int 0 :: .int 0 :: .int 0 :: .int 0 :: .ref ((u 15)) :: .ref ((u 16)) :: .int 0 :: .int (-1) :: .int 0 :: .int 0 :: .int 0 :: .int 0 :: .ref ((u 17)) :: .ref ((u 18)) :: .ref ((u 19)) :: .int 0 :: .ref ((u 20)) :: .ref ((u 21)) :: .int 0 :: .ref ((u 22)) :: .int (-1) :: .int 0 :: .ref ((u 23)) :: .int (-1) :: .int (-1) :: .int 0 :: .ref ((u 24)) :: .ref ((u 25)) :: .int 0 :: [])) rfl 1) [0] [1] 0 rfl rfl rfl rfl (by decide) rfl rfl hl.1 rfl (Nat.le_of_ble_eq_true rfl) ⟨Nat.le_of_ble_eq_true rfl, Nat.le_of_ble_eq_true rfl⟩ ⟨Nat.le_of_ble_eq_true rfl, Nat.le_of_ble_eq_true rfl⟩ dX12_pour_30 (fun r77 u78 H locs hp76 h => ?_)
            have h : xS D cy A s.heap ([(((u 2)), .inl (cy 1, 4, .inl (upd (upd (upd (upd (fun _ => 0) 0 (-1)) 1 (-1)) 2 (-1)) 3 (-1))))]) s H locs := h
            obtain rfl : r77 = 0 := (by rw [hp76]; decide)
            exact x_iret F h hr hlk (by decide +kernel) (fun _ => 0) [] (rfl) (by decide +kernel) rfl (Nat.le_of_ble_eq_true rfl) (Nat.le_of_ble_eq_true rfl) dX12_pour_33
set_option maxHeartbeats 4000000 in
set_option maxRecDepth 100000 in
theorem c_m_tray (l : Launch) (D : va_G) (cy : Nat → ClassId) (q : Nat) (u : Nat → Nat) (t : Int32) (s0 : Int32) (z0 : Int32) : ∀ sz, Met l yX12_tray (Cond.code yX12_tray cX12_tray 5 (some .boolean) :: wsL_law) { frames := 1, cells := 0, slots := 0, locals := 21 } (va_Pc [.ref q, .int t, .int s0, .int z0] (xP D cy ([mM q u 0 0 0 (-1) 0, mA_sort cy u, mA_trayMany cy u, mA_trays cy u]) sz)) (va_Qi (fun r _ => r = if (t < 0 ∨ nI 4 ≤ t) ∨ s0 < 0 ∨ 4 ≤ s0 ∨ z0 < 0 ∨ ¬ z0 ≤ 60 then 0 else 1) (xB D (va_A ([mM q u 0 0 0 (-1) 0, mA_sort cy u, mA_trayMany cy u, mA_trays cy u]) sz) (fun _ => [])) (va_A ([mM q u 0 0 0 (-1) 0, mA_sort cy u, mA_trayMany cy u, mA_trays cy u]) sz)) 0 0 (va_A ([mM q u 0 0 0 (-1) 0, mA_sort cy u, mA_trayMany cy u, mA_trays cy u]) sz) := by
  refine x_enter (fun A => va_Qi (fun r _ => r = if (t < 0 ∨ nI 4 ≤ t) ∨ s0 < 0 ∨ 4 ≤ s0 ∨ z0 < 0 ∨ ¬ z0 ≤ 60 then 0 else 1) (xB D A (fun _ => [])) A) (by decide +kernel) rfl (Nat.le_of_ble_eq_true rfl) ?_
  intro p e s m below meth c A ls F hr hlk hin h hl
  have hl : lv_has ls 5 [(0, .ref q), (1, .int t), (2, .int s0), (3, .int z0)] := hl
  have h : xS D cy A s.heap ([(q, .inr (12, (.ref ((u 0)) :: .int 0 :: .long 0 :: .long 1 :: .ref ((u 1)) :: .ref ((u 2)) :: .ref ((u 3)) :: .ref ((u 4)) :: .ref ((u 5)) :: .int 0 :: .int 0 :: .int 0 :: .int 0 :: .int 0 :: .int 0 :: .int (-1) :: .int (-1) :: .int 0 :: .ref ((u 6)) :: .int 0 :: .int 0 :: .ref ((u 7)) :: .ref ((u 8)) :: .ref ((u 9)) :: .ref ((u 10)) :: .ref ((u 11)) :: .ref ((u 12)) :: .ref ((u 13)) :: .int 0 :: .int 0 :: .int (-1) :: .int 0 :: .int (-1) :: .int 0 :: .ref ((u 14)) :: .int 0 :: .int 0 :: .int 0 :: .int 0 :: .int 0 :: .ref ((u 15)) :: .ref ((u 16)) :: .int 0 :: .int (-1) :: .int 0 :: .int 0 :: .int 0 :: .int 0 :: .ref ((u 17)) :: .ref ((u 18)) :: .ref ((u 19)) :: .int 0 :: .ref ((u 20)) :: .ref ((u 21)) :: .int 0 :: .ref ((u 22)) :: .int (-1) :: .int 0 :: .ref ((u 23)) :: .int (-1) :: .int (-1) :: .int 0 :: .ref ((u 24)) :: .ref ((u 25)) :: .int 0 :: []))), (((u 1)), .inl (cy 1, 4, .inl (fun _ => 0))), (((u 2)), .inl (cy 1, 4, .inl (upd (upd (upd (upd (fun _ => 0) 0 (-1)) 1 (-1)) 2 (-1)) 3 (-1)))), (((u 3)), .inl (cy 2, 240, .inr (.inl (fun _ => 0))))]) s s.heap [] := h
  refine lv_iload_n F.1 F.2.1 dX12_tray_0 rfl (lv_at hl 1 rfl) ?_
  refine x_St F h yk_X12_isTray mw_283 mw_284 (c_m_isTray l D cy t) hl.1 rfl (Nat.le_of_ble_eq_true rfl) ⟨Nat.le_of_ble_eq_true rfl, Nat.le_of_ble_eq_true rfl⟩ ⟨Nat.le_of_ble_eq_true rfl, Nat.le_of_ble_eq_true rfl⟩ dX12_tray_1 (fun r2 u3 H locs hp1 h => ?_)
  rcases x_tr (n := 4) hp1 with ⟨rfl, ht4⟩ | ⟨rfl, ht5, ht6⟩
  · refine lv_if_eq (tgt := 26) F.1 F.2.1 dX12_tray_4 (by decide) (fun _ => ?_) (fun hc => absurd (by decide) hc)
    refine lv_aload_n F.1 F.2.1 dX12_tray_26 rfl (lv_at hl 0 rfl) ?_
    refine lv_iconst (v := 1) F.1 F.2.1 dX12_tray_27 (by decide) ?_
    refine x_Vi (wr := [(((u 1)), .inl (cy 1, 4, .inl (fun _ => 0))), (((u 2)), .inl (cy 1, 4, .inl (upd (upd (upd (upd (fun _ => 0) 0 (-1)) 1 (-1)) 2 (-1)) 3 (-1)))), (((u 3)), .inl (cy 2, 240, .inr (.inl (fun _ => 0))))]) F h yk_X12_is mw_286 mw_287 mw_288 (c_m_is l D cy q ((.ref ((u 0)) :: .int 0 :: .long 0 :: .long 1 :: .ref ((u 1)) :: .ref ((u 2)) :: .ref ((u 3)) :: .ref ((u 4)) :: .ref ((u 5)) :: .int 0 :: .int 0 :: .int 0 :: .int 0 :: .int 0 :: .int 0 :: .int (-1) :: .int (-1) :: .int 0 :: .ref ((u 6)) :: .int 0 :: .int 0 :: .ref ((u 7)) :: .ref ((u 8)) :: .ref ((u 9)) :: .ref ((u 10)) :: .ref ((u 11)) :: .ref ((u 12)) :: .ref ((u 13)) :: .int 0 :: .int 0 :: .int (-1) :: .int 0 :: .int (-1) :: .int 0 :: .ref ((u 14)) :: .int 0 :: .int 0 :: .int 0 :: .int 0 :: .int 0 :: .ref ((u 15)) :: .ref ((u 16)) :: .int 0 :: .int (-1) :: .int 0 :: .int 0 :: .int 0 :: .int 0 :: .ref ((u 17)) :: .ref ((u 18)) :: .ref ((u 19)) :: .int 0 :: .ref ((u 20)) :: .ref ((u 21)) :: .int 0 :: .ref ((u 22)) :: .int (-1) :: .int 0 :: .ref ((u 23)) :: .int (-1) :: .int (-1) :: .int 0 :: .ref ((u 24)) :: .ref ((u 25)) :: .int 0 :: [])) rfl 1) [0] [1, 2, 3] 0 rfl rfl rfl rfl (by decide) rfl rfl hl.1 rfl (Nat.le_of_ble_eq_true rfl) ⟨Nat.le_of_ble_eq_true rfl, Nat.le_of_ble_eq_true rfl⟩ ⟨Nat.le_of_ble_eq_true rfl, Nat.le_of_ble_eq_true rfl⟩ dX12_tray_28 (fun r8 u9 H locs hp7 h => ?_)
    have h : xS D cy A s.heap ([(((u 1)), .inl (cy 1, 4, .inl (fun _ => 0))), (((u 2)), .inl (cy 1, 4, .inl (upd (upd (upd (upd (fun _ => 0) 0 (-1)) 1 (-1)) 2 (-1)) 3 (-1)))), (((u 3)), .inl (cy 2, 240, .inr (.inl (fun _ => 0))))]) s H locs := h
    obtain rfl : r8 = 0 := (by rw [hp7]; decide)
    exact x_iret F h hr hlk (by decide +kernel) (fun _ => 0) [] (by simp [ht4, ← x_34]) (by decide +kernel) rfl (Nat.le_of_ble_eq_true rfl) (Nat.le_of_ble_eq_true rfl) dX12_tray_31
  · refine lv_if_eq (tgt := 26) F.1 F.2.1 dX12_tray_4 (by decide) (fun hc => absurd hc (by decide)) (fun _ => ?_)
    refine lv_iload_n F.1 F.2.1 dX12_tray_7 rfl (lv_at hl 2 rfl) ?_
    refine lv_if_lt (tgt := 26) F.1 F.2.1 dX12_tray_8 (by decide) (fun hc10 => ?_) (fun hc10 => ?_)
    · refine lv_aload_n F.1 F.2.1 dX12_tray_26 rfl (lv_at hl 0 rfl) ?_
      refine lv_iconst (v := 1) F.1 F.2.1 dX12_tray_27 (by decide) ?_
      refine x_Vi (wr := [(((u 1)), .inl (cy 1, 4, .inl (fun _ => 0))), (((u 2)), .inl (cy 1, 4, .inl (upd (upd (upd (upd (fun _ => 0) 0 (-1)) 1 (-1)) 2 (-1)) 3 (-1)))), (((u 3)), .inl (cy 2, 240, .inr (.inl (fun _ => 0))))]) F h yk_X12_is mw_286 mw_287 mw_288 (c_m_is l D cy q ((.ref ((u 0)) :: .int 0 :: .long 0 :: .long 1 :: .ref ((u 1)) :: .ref ((u 2)) :: .ref ((u 3)) :: .ref ((u 4)) :: .ref ((u 5)) :: .int 0 :: .int 0 :: .int 0 :: .int 0 :: .int 0 :: .int 0 :: .int (-1) :: .int (-1) :: .int 0 :: .ref ((u 6)) :: .int 0 :: .int 0 :: .ref ((u 7)) :: .ref ((u 8)) :: .ref ((u 9)) :: .ref ((u 10)) :: .ref ((u 11)) :: .ref ((u 12)) :: .ref ((u 13)) :: .int 0 :: .int 0 :: .int (-1) :: .int 0 :: .int (-1) :: .int 0 :: .ref ((u 14)) :: .int 0 :: .int 0 :: .int 0 :: .int 0 :: .int 0 :: .ref ((u 15)) :: .ref ((u 16)) :: .int 0 :: .int (-1) :: .int 0 :: .int 0 :: .int 0 :: .int 0 :: .ref ((u 17)) :: .ref ((u 18)) :: .ref ((u 19)) :: .int 0 :: .ref ((u 20)) :: .ref ((u 21)) :: .int 0 :: .ref ((u 22)) :: .int (-1) :: .int 0 :: .ref ((u 23)) :: .int (-1) :: .int (-1) :: .int 0 :: .ref ((u 24)) :: .ref ((u 25)) :: .int 0 :: [])) rfl 1) [0] [1, 2, 3] 0 rfl rfl rfl rfl (by decide) rfl rfl hl.1 rfl (Nat.le_of_ble_eq_true rfl) ⟨Nat.le_of_ble_eq_true rfl, Nat.le_of_ble_eq_true rfl⟩ ⟨Nat.le_of_ble_eq_true rfl, Nat.le_of_ble_eq_true rfl⟩ dX12_tray_28 (fun r12 u13 H locs hp11 h => ?_)
      have h : xS D cy A s.heap ([(((u 1)), .inl (cy 1, 4, .inl (fun _ => 0))), (((u 2)), .inl (cy 1, 4, .inl (upd (upd (upd (upd (fun _ => 0) 0 (-1)) 1 (-1)) 2 (-1)) 3 (-1)))), (((u 3)), .inl (cy 2, 240, .inr (.inl (fun _ => 0))))]) s H locs := h
      obtain rfl : r12 = 0 := (by rw [hp11]; decide)
      exact x_iret F h hr hlk (by decide +kernel) (fun _ => 0) [] (by simp [ht5, ht6, hc10, ← x_34]) (by decide +kernel) rfl (Nat.le_of_ble_eq_true rfl) (Nat.le_of_ble_eq_true rfl) dX12_tray_31
    · refine lv_iload_n F.1 F.2.1 dX12_tray_11 rfl (lv_at hl 2 rfl) ?_
      refine lv_iconst (v := 3) F.1 F.2.1 dX12_tray_12 (by decide) ?_
      refine lv_icmp_gt (tgt := 26) F.1 F.2.1 dX12_tray_13 (by decide) (fun hc14 => ?_) (fun hc14 => ?_)
      · refine lv_aload_n F.1 F.2.1 dX12_tray_26 rfl (lv_at hl 0 rfl) ?_
        refine lv_iconst (v := 1) F.1 F.2.1 dX12_tray_27 (by decide) ?_
        refine x_Vi (wr := [(((u 1)), .inl (cy 1, 4, .inl (fun _ => 0))), (((u 2)), .inl (cy 1, 4, .inl (upd (upd (upd (upd (fun _ => 0) 0 (-1)) 1 (-1)) 2 (-1)) 3 (-1)))), (((u 3)), .inl (cy 2, 240, .inr (.inl (fun _ => 0))))]) F h yk_X12_is mw_286 mw_287 mw_288 (c_m_is l D cy q ((.ref ((u 0)) :: .int 0 :: .long 0 :: .long 1 :: .ref ((u 1)) :: .ref ((u 2)) :: .ref ((u 3)) :: .ref ((u 4)) :: .ref ((u 5)) :: .int 0 :: .int 0 :: .int 0 :: .int 0 :: .int 0 :: .int 0 :: .int (-1) :: .int (-1) :: .int 0 :: .ref ((u 6)) :: .int 0 :: .int 0 :: .ref ((u 7)) :: .ref ((u 8)) :: .ref ((u 9)) :: .ref ((u 10)) :: .ref ((u 11)) :: .ref ((u 12)) :: .ref ((u 13)) :: .int 0 :: .int 0 :: .int (-1) :: .int 0 :: .int (-1) :: .int 0 :: .ref ((u 14)) :: .int 0 :: .int 0 :: .int 0 :: .int 0 :: .int 0 :: .ref ((u 15)) :: .ref ((u 16)) :: .int 0 :: .int (-1) :: .int 0 :: .int 0 :: .int 0 :: .int 0 :: .ref ((u 17)) :: .ref ((u 18)) :: .ref ((u 19)) :: .int 0 :: .ref ((u 20)) :: .ref ((u 21)) :: .int 0 :: .ref ((u 22)) :: .int (-1) :: .int 0 :: .ref ((u 23)) :: .int (-1) :: .int (-1) :: .int 0 :: .ref ((u 24)) :: .ref ((u 25)) :: .int 0 :: [])) rfl 1) [0] [1, 2, 3] 0 rfl rfl rfl rfl (by decide) rfl rfl hl.1 rfl (Nat.le_of_ble_eq_true rfl) ⟨Nat.le_of_ble_eq_true rfl, Nat.le_of_ble_eq_true rfl⟩ ⟨Nat.le_of_ble_eq_true rfl, Nat.le_of_ble_eq_true rfl⟩ dX12_tray_28 (fun r16 u17 H locs hp15 h => ?_)
        have h : xS D cy A s.heap ([(((u 1)), .inl (cy 1, 4, .inl (fun _ => 0))), (((u 2)), .inl (cy 1, 4, .inl (upd (upd (upd (upd (fun _ => 0) 0 (-1)) 1 (-1)) 2 (-1)) 3 (-1)))), (((u 3)), .inl (cy 2, 240, .inr (.inl (fun _ => 0))))]) s H locs := h
        obtain rfl : r16 = 0 := (by rw [hp15]; decide)
        exact x_iret F h hr hlk (by decide +kernel) (fun _ => 0) [] (by simp [ht5, ht6, hc10, hc14, ← x_34]) (by decide +kernel) rfl (Nat.le_of_ble_eq_true rfl) (Nat.le_of_ble_eq_true rfl) dX12_tray_31
      · refine lv_iload_n F.1 F.2.1 dX12_tray_16 rfl (lv_at hl 3 rfl) ?_
        refine lv_if_lt (tgt := 26) F.1 F.2.1 dX12_tray_17 (by decide) (fun hc18 => ?_) (fun hc18 => ?_)
        · refine lv_aload_n F.1 F.2.1 dX12_tray_26 rfl (lv_at hl 0 rfl) ?_
          refine lv_iconst (v := 1) F.1 F.2.1 dX12_tray_27 (by decide) ?_
          refine x_Vi (wr := [(((u 1)), .inl (cy 1, 4, .inl (fun _ => 0))), (((u 2)), .inl (cy 1, 4, .inl (upd (upd (upd (upd (fun _ => 0) 0 (-1)) 1 (-1)) 2 (-1)) 3 (-1)))), (((u 3)), .inl (cy 2, 240, .inr (.inl (fun _ => 0))))]) F h yk_X12_is mw_286 mw_287 mw_288 (c_m_is l D cy q ((.ref ((u 0)) :: .int 0 :: .long 0 :: .long 1 :: .ref ((u 1)) :: .ref ((u 2)) :: .ref ((u 3)) :: .ref ((u 4)) :: .ref ((u 5)) :: .int 0 :: .int 0 :: .int 0 :: .int 0 :: .int 0 :: .int 0 :: .int (-1) :: .int (-1) :: .int 0 :: .ref ((u 6)) :: .int 0 :: .int 0 :: .ref ((u 7)) :: .ref ((u 8)) :: .ref ((u 9)) :: .ref ((u 10)) :: .ref ((u 11)) :: .ref ((u 12)) :: .ref ((u 13)) :: .int 0 :: .int 0 :: .int (-1) :: .int 0 :: .int (-1) :: .int 0 :: .ref ((u 14)) :: .int 0 :: .int 0 :: .int 0 :: .int 0 :: .int 0 :: .ref ((u 15)) :: .ref ((u 16)) :: .int 0 :: .int (-1) :: .int 0 :: .int 0 :: .int 0 :: .int 0 :: .ref ((u 17)) :: .ref ((u 18)) :: .ref ((u 19)) :: .int 0 :: .ref ((u 20)) :: .ref ((u 21)) :: .int 0 :: .ref ((u 22)) :: .int (-1) :: .int 0 :: .ref ((u 23)) :: .int (-1) :: .int (-1) :: .int 0 :: .ref ((u 24)) :: .ref ((u 25)) :: .int 0 :: [])) rfl 1) [0] [1, 2, 3] 0 rfl rfl rfl rfl (by decide) rfl rfl hl.1 rfl (Nat.le_of_ble_eq_true rfl) ⟨Nat.le_of_ble_eq_true rfl, Nat.le_of_ble_eq_true rfl⟩ ⟨Nat.le_of_ble_eq_true rfl, Nat.le_of_ble_eq_true rfl⟩ dX12_tray_28 (fun r20 u21 H locs hp19 h => ?_)
          have h : xS D cy A s.heap ([(((u 1)), .inl (cy 1, 4, .inl (fun _ => 0))), (((u 2)), .inl (cy 1, 4, .inl (upd (upd (upd (upd (fun _ => 0) 0 (-1)) 1 (-1)) 2 (-1)) 3 (-1)))), (((u 3)), .inl (cy 2, 240, .inr (.inl (fun _ => 0))))]) s H locs := h
          obtain rfl : r20 = 0 := (by rw [hp19]; decide)
          exact x_iret F h hr hlk (by decide +kernel) (fun _ => 0) [] (by simp [ht5, ht6, hc10, hc14, hc18, ← x_34]) (by decide +kernel) rfl (Nat.le_of_ble_eq_true rfl) (Nat.le_of_ble_eq_true rfl) dX12_tray_31
        · refine lv_iload_n F.1 F.2.1 dX12_tray_20 rfl (lv_at hl 3 rfl) ?_
          refine lv_bipush (v := 60) F.1 F.2.1 dX12_tray_21 (by decide) ?_
          refine lv_icmp_le (tgt := 32) F.1 F.2.1 dX12_tray_23 (by decide) (fun hc22 => ?_) (fun hc22 => ?_)
          · obtain ⟨n0, hn0, rfl⟩ := x_le60 hc18 hc22
            rcases x_c4 ht5 ht6 with rfl | rfl | rfl | rfl
            · refine lv_aload_n F.1 F.2.1 dX12_tray_32 rfl (lv_at hl 0 rfl) ?_
              refine x_get F h 0 4 inlX12 rfl (by decide) mw_204 dX12_tray_33 rfl rfl ?_
              refine lv_iload_n F.1 F.2.1 dX12_tray_36 rfl (lv_at hl 1 rfl) ?_
              refine lv_iload_n F.1 F.2.1 dX12_tray_37 rfl (lv_at hl 2 rfl) ?_
              refine x_iast F h 1 rfl rfl (x_in (by decide +kernel)) dX12_tray_38 (ws' := [(q, .inr (12, (.ref ((u 0)) :: .int 0 :: .long 0 :: .long 1 :: .ref ((u 1)) :: .ref ((u 2)) :: .ref ((u 3)) :: .ref ((u 4)) :: .ref ((u 5)) :: .int 0 :: .int 0 :: .int 0 :: .int 0 :: .int 0 :: .int 0 :: .int (-1) :: .int (-1) :: .int 0 :: .ref ((u 6)) :: .int 0 :: .int 0 :: .ref ((u 7)) :: .ref ((u 8)) :: .ref ((u 9)) :: .ref ((u 10)) :: .ref ((u 11)) :: .ref ((u 12)) :: .ref ((u 13)) :: .int 0 :: .int 0 :: .int (-1) :: .int 0 :: .int (-1) :: .int 0 :: .ref ((u 14)) :: .int 0 :: .int 0 :: .int 0 :: .int 0 :: .int 0 :: .ref ((u 15)) :: .ref ((u 16)) :: .int 0 :: .int (-1) :: .int 0 :: .int 0 :: .int 0 :: .int 0 :: .ref ((u 17)) :: .ref ((u 18)) :: .ref ((u 19)) :: .int 0 :: .ref ((u 20)) :: .ref ((u 21)) :: .int 0 :: .ref ((u 22)) :: .int (-1) :: .int 0 :: .ref ((u 23)) :: .int (-1) :: .int (-1) :: .int 0 :: .ref ((u 24)) :: .ref ((u 25)) :: .int 0 :: []))), (((u 1)), .inl (cy 1, 4, .inl (upd (fun _ => 0) 0 s0))), (((u 2)), .inl (cy 1, 4, .inl (upd (upd (upd (upd (fun _ => 0) 0 (-1)) 1 (-1)) 2 (-1)) 3 (-1)))), (((u 3)), .inl (cy 2, 240, .inr (.inl (fun _ => 0))))]) rfl (fun H locs h => ?_)
              refine lv_aload_n F.1 F.2.1 dX12_tray_39 rfl (lv_at hl 0 rfl) ?_
              refine x_get F h 0 5 inlX12 rfl (by decide) mw_205 dX12_tray_40 rfl rfl ?_
              refine lv_iload_n F.1 F.2.1 dX12_tray_43 rfl (lv_at hl 1 rfl) ?_
              refine lv_iload_n F.1 F.2.1 dX12_tray_44 rfl (lv_at hl 3 rfl) ?_
              refine x_iast F h 2 rfl rfl (x_in (by decide +kernel)) dX12_tray_45 (ws' := [(q, .inr (12, (.ref ((u 0)) :: .int 0 :: .long 0 :: .long 1 :: .ref ((u 1)) :: .ref ((u 2)) :: .ref ((u 3)) :: .ref ((u 4)) :: .ref ((u 5)) :: .int 0 :: .int 0 :: .int 0 :: .int 0 :: .int 0 :: .int 0 :: .int (-1) :: .int (-1) :: .int 0 :: .ref ((u 6)) :: .int 0 :: .int 0 :: .ref ((u 7)) :: .ref ((u 8)) :: .ref ((u 9)) :: .ref ((u 10)) :: .ref ((u 11)) :: .ref ((u 12)) :: .ref ((u 13)) :: .int 0 :: .int 0 :: .int (-1) :: .int 0 :: .int (-1) :: .int 0 :: .ref ((u 14)) :: .int 0 :: .int 0 :: .int 0 :: .int 0 :: .int 0 :: .ref ((u 15)) :: .ref ((u 16)) :: .int 0 :: .int (-1) :: .int 0 :: .int 0 :: .int 0 :: .int 0 :: .ref ((u 17)) :: .ref ((u 18)) :: .ref ((u 19)) :: .int 0 :: .ref ((u 20)) :: .ref ((u 21)) :: .int 0 :: .ref ((u 22)) :: .int (-1) :: .int 0 :: .ref ((u 23)) :: .int (-1) :: .int (-1) :: .int 0 :: .ref ((u 24)) :: .ref ((u 25)) :: .int 0 :: []))), (((u 1)), .inl (cy 1, 4, .inl (upd (fun _ => 0) 0 s0))), (((u 2)), .inl (cy 1, 4, .inl (upd (upd (upd (upd (upd (fun _ => 0) 0 (-1)) 1 (-1)) 2 (-1)) 3 (-1)) 0 (nI n0)))), (((u 3)), .inl (cy 2, 240, .inr (.inl (fun _ => 0))))]) rfl (fun H locs h => ?_)
              refine lv_iconst (v := 0) F.1 F.2.1 dX12_tray_46 (by decide) ?_
              refine lv_istore (lv' := [(4, .int 0), (0, .ref q), (1, .int 0), (2, .int s0), (3, .int (nI n0))]) F.1 F.2.1 dX12_tray_47 hl (by decide) rfl (fun ls hl => ?_)
              refine x_loop (fun (g23 : Unit) => [(q, .inr (12, (.ref ((u 0)) :: .int 0 :: .long 0 :: .long 1 :: .ref ((u 1)) :: .ref ((u 2)) :: .ref ((u 3)) :: .ref ((u 4)) :: .ref ((u 5)) :: .int 0 :: .int 0 :: .int 0 :: .int 0 :: .int 0 :: .int 0 :: .int (-1) :: .int (-1) :: .int 0 :: .ref ((u 6)) :: .int 0 :: .int 0 :: .ref ((u 7)) :: .ref ((u 8)) :: .ref ((u 9)) :: .ref ((u 10)) :: .ref ((u 11)) :: .ref ((u 12)) :: .ref ((u 13)) :: .int 0 :: .int 0 :: .int (-1) :: .int 0 :: .int (-1) :: .int 0 :: .ref ((u 14)) :: .int 0 :: .int 0 :: .int 0 :: .int 0 :: .int 0 :: .ref ((u 15)) :: .ref ((u 16)) :: .int 0 :: .int (-1) :: .int 0 :: .int 0 :: .int 0 :: .int 0 :: .ref ((u 17)) :: .ref ((u 18)) :: .ref ((u 19)) :: .int 0 :: .ref ((u 20)) :: .ref ((u 21)) :: .int 0 :: .ref ((u 22)) :: .int (-1) :: .int 0 :: .ref ((u 23)) :: .int (-1) :: .int (-1) :: .int 0 :: .ref ((u 24)) :: .ref ((u 25)) :: .int 0 :: []))), (((u 1)), .inl (cy 1, 4, .inl (upd (fun _ => 0) 0 s0))), (((u 2)), .inl (cy 1, 4, .inl (upd (upd (upd (upd (upd (fun _ => 0) 0 (-1)) 1 (-1)) 2 (-1)) 3 (-1)) 0 (nI n0)))), (((u 3)), .inl (cy 2, 240, .inr (.inl (fun _ => 0))))]) n0 (fun i => [(4, .int i), (0, .ref q), (1, .int 0), (2, .int s0), (3, .int (nI n0))]) (fun g23 H locs ls h hl => ?_) (fun j24 g23 H locs ls hj25 h hl ih26 => ?_) 0 () _ _ _ (Nat.zero_le _) h (lv_sub hl [0, 1, 2, 3, 4] rfl)
              · have hl : lv_has ls 5 [(4, .int (nI n0)), (0, .ref q), (1, .int 0), (2, .int s0), (3, .int (nI n0))] := hl
                refine lv_iload F.1 F.2.1 dX12_tray_49 (lv_at hl 0 rfl) ?_
                refine lv_iload_n F.1 F.2.1 dX12_tray_51 rfl (lv_at hl 4 rfl) ?_
                refine lv_icmp_ge (tgt := 74) F.1 F.2.1 dX12_tray_52 (by decide) (fun _ => ?_) (fun hc => absurd (Int32.le_refl _) hc)
                refine lv_aload_n F.1 F.2.1 dX12_tray_74 rfl (lv_at hl 1 rfl) ?_
                refine lv_iconst (v := 0) F.1 F.2.1 dX12_tray_75 (by decide) ?_
                refine x_Vi (wr := [(((u 1)), .inl (cy 1, 4, .inl (upd (fun _ => 0) 0 s0))), (((u 2)), .inl (cy 1, 4, .inl (upd (upd (upd (upd (upd (fun _ => 0) 0 (-1)) 1 (-1)) 2 (-1)) 3 (-1)) 0 (nI n0)))), (((u 3)), .inl (cy 2, 240, .inr (.inl (fun _ => 0))))]) F h yk_X12_is mw_286 mw_287 mw_288 (c_m_is l D cy q ((.ref ((u 0)) :: .int 0 :: .long 0 :: .long 1 :: .ref ((u 1)) :: .ref ((u 2)) :: .ref ((u 3)) :: .ref ((u 4)) :: .ref ((u 5)) :: .int 0 :: .int 0 :: .int 0 :: .int 0 :: .int 0 :: .int 0 :: .int (-1) :: .int (-1) :: .int 0 :: .ref ((u 6)) :: .int 0 :: .int 0 :: .ref ((u 7)) :: .ref ((u 8)) :: .ref ((u 9)) :: .ref ((u 10)) :: .ref ((u 11)) :: .ref ((u 12)) :: .ref ((u 13)) :: .int 0 :: .int 0 :: .int (-1) :: .int 0 :: .int (-1) :: .int 0 :: .ref ((u 14)) :: .int 0 :: .int 0 :: .int 0 :: .int 0 :: .int 0 :: .ref ((u 15)) :: .ref ((u 16)) :: .int 0 :: .int (-1) :: .int 0 :: .int 0 :: .int 0 :: .int 0 :: .ref ((u 17)) :: .ref ((u 18)) :: .ref ((u 19)) :: .int 0 :: .ref ((u 20)) :: .ref ((u 21)) :: .int 0 :: .ref ((u 22)) :: .int (-1) :: .int 0 :: .ref ((u 23)) :: .int (-1) :: .int (-1) :: .int 0 :: .ref ((u 24)) :: .ref ((u 25)) :: .int 0 :: [])) rfl 0) [0] [1, 2, 3] 0 rfl rfl rfl rfl (by decide) rfl rfl hl.1 rfl (Nat.le_of_ble_eq_true rfl) ⟨Nat.le_of_ble_eq_true rfl, Nat.le_of_ble_eq_true rfl⟩ ⟨Nat.le_of_ble_eq_true rfl, Nat.le_of_ble_eq_true rfl⟩ dX12_tray_76 (fun r28 u29 H locs hp27 h => ?_)
                have h : xS D cy A s.heap ([(((u 1)), .inl (cy 1, 4, .inl (upd (fun _ => 0) 0 s0))), (((u 2)), .inl (cy 1, 4, .inl (upd (upd (upd (upd (upd (fun _ => 0) 0 (-1)) 1 (-1)) 2 (-1)) 3 (-1)) 0 (nI n0)))), (((u 3)), .inl (cy 2, 240, .inr (.inl (fun _ => 0))))]) s H locs := h
                obtain rfl : r28 = 1 := (by rw [hp27]; decide)
                exact x_iret F h hr hlk (by decide +kernel) (fun _ => 0) [] (by simp [ht5, ht6, hc10, hc14, hc18, hc22, ← x_34]) (by decide +kernel) rfl (Nat.le_of_ble_eq_true rfl) (Nat.le_of_ble_eq_true rfl) dX12_tray_79
              · have hl : lv_has ls 5 [(4, .int (nI j24)), (0, .ref q), (1, .int 0), (2, .int s0), (3, .int (nI n0))] := hl
                refine lv_iload F.1 F.2.1 dX12_tray_49 (lv_at hl 0 rfl) ?_
                refine lv_iload_n F.1 F.2.1 dX12_tray_51 rfl (lv_at hl 4 rfl) ?_
                refine lv_icmp_ge (tgt := 74) F.1 F.2.1 dX12_tray_52 (by decide) (fun hc => absurd hc (x_nle hj25 (by omega))) (fun _ => ?_)
                refine lv_aload_n F.1 F.2.1 dX12_tray_55 rfl (lv_at hl 1 rfl) ?_
                refine x_get F h 0 6 inlX12 rfl (by decide) mw_206 dX12_tray_56 rfl rfl ?_
                refine lv_bipush (v := 60) F.1 F.2.1 dX12_tray_59 (by decide) ?_
                refine lv_iload_n F.1 F.2.1 dX12_tray_61 rfl (lv_at hl 2 rfl) ?_
                refine lv_imul F.1 F.2.1 dX12_tray_62 ?_
                refine x_topi (y := 0) (by decide +kernel) ?_
                refine lv_iload F.1 F.2.1 dX12_tray_63 (lv_at hl 0 rfl) ?_
                refine lv_iadd F.1 F.2.1 dX12_tray_65 ?_
                refine x_topi (y := nI (0 + j24)) (nI_add 0 j24) ?_
                refine lv_lconst (v := 0) F.1 F.2.1 dX12_tray_66 (by decide) ?_
                refine x_last F h 3 rfl rfl (vp_in_nI (by omega) (by decide)) dX12_tray_67 (ws' := [(q, .inr (12, (.ref ((u 0)) :: .int 0 :: .long 0 :: .long 1 :: .ref ((u 1)) :: .ref ((u 2)) :: .ref ((u 3)) :: .ref ((u 4)) :: .ref ((u 5)) :: .int 0 :: .int 0 :: .int 0 :: .int 0 :: .int 0 :: .int 0 :: .int (-1) :: .int (-1) :: .int 0 :: .ref ((u 6)) :: .int 0 :: .int 0 :: .ref ((u 7)) :: .ref ((u 8)) :: .ref ((u 9)) :: .ref ((u 10)) :: .ref ((u 11)) :: .ref ((u 12)) :: .ref ((u 13)) :: .int 0 :: .int 0 :: .int (-1) :: .int 0 :: .int (-1) :: .int 0 :: .ref ((u 14)) :: .int 0 :: .int 0 :: .int 0 :: .int 0 :: .int 0 :: .ref ((u 15)) :: .ref ((u 16)) :: .int 0 :: .int (-1) :: .int 0 :: .int 0 :: .int 0 :: .int 0 :: .ref ((u 17)) :: .ref ((u 18)) :: .ref ((u 19)) :: .int 0 :: .ref ((u 20)) :: .ref ((u 21)) :: .int 0 :: .ref ((u 22)) :: .int (-1) :: .int 0 :: .ref ((u 23)) :: .int (-1) :: .int (-1) :: .int 0 :: .ref ((u 24)) :: .ref ((u 25)) :: .int 0 :: []))), (((u 1)), .inl (cy 1, 4, .inl (upd (fun _ => 0) 0 s0))), (((u 2)), .inl (cy 1, 4, .inl (upd (upd (upd (upd (upd (fun _ => 0) 0 (-1)) 1 (-1)) 2 (-1)) 3 (-1)) 0 (nI n0)))), (((u 3)), .inl (cy 2, 240, .inr (.inl (fun _ => 0))))]) (by rw [x_z]; rfl) (fun H locs h => ?_)
                refine lv_iinc (v := (nI (j24 + 1))) (lv' := [(4, .int (nI (j24 + 1))), (0, .ref q), (1, .int 0), (2, .int s0), (3, .int (nI n0))]) F.1 F.2.1 dX12_tray_68 hl (k := 0) rfl (nI_1 j24) (by decide) rfl (fun ls hl => ?_)
                refine lv_goto (tgt := 49) F.1 F.2.1 dX12_tray_71 (by decide) ?_
                exact ih26 () _ _ _ h (lv_sub hl [0, 1, 2, 3, 4] rfl)
            · refine lv_aload_n F.1 F.2.1 dX12_tray_32 rfl (lv_at hl 0 rfl) ?_
              refine x_get F h 0 4 inlX12 rfl (by decide) mw_204 dX12_tray_33 rfl rfl ?_
              refine lv_iload_n F.1 F.2.1 dX12_tray_36 rfl (lv_at hl 1 rfl) ?_
              refine lv_iload_n F.1 F.2.1 dX12_tray_37 rfl (lv_at hl 2 rfl) ?_
              refine x_iast F h 1 rfl rfl (x_in (by decide +kernel)) dX12_tray_38 (ws' := [(q, .inr (12, (.ref ((u 0)) :: .int 0 :: .long 0 :: .long 1 :: .ref ((u 1)) :: .ref ((u 2)) :: .ref ((u 3)) :: .ref ((u 4)) :: .ref ((u 5)) :: .int 0 :: .int 0 :: .int 0 :: .int 0 :: .int 0 :: .int 0 :: .int (-1) :: .int (-1) :: .int 0 :: .ref ((u 6)) :: .int 0 :: .int 0 :: .ref ((u 7)) :: .ref ((u 8)) :: .ref ((u 9)) :: .ref ((u 10)) :: .ref ((u 11)) :: .ref ((u 12)) :: .ref ((u 13)) :: .int 0 :: .int 0 :: .int (-1) :: .int 0 :: .int (-1) :: .int 0 :: .ref ((u 14)) :: .int 0 :: .int 0 :: .int 0 :: .int 0 :: .int 0 :: .ref ((u 15)) :: .ref ((u 16)) :: .int 0 :: .int (-1) :: .int 0 :: .int 0 :: .int 0 :: .int 0 :: .ref ((u 17)) :: .ref ((u 18)) :: .ref ((u 19)) :: .int 0 :: .ref ((u 20)) :: .ref ((u 21)) :: .int 0 :: .ref ((u 22)) :: .int (-1) :: .int 0 :: .ref ((u 23)) :: .int (-1) :: .int (-1) :: .int 0 :: .ref ((u 24)) :: .ref ((u 25)) :: .int 0 :: []))), (((u 1)), .inl (cy 1, 4, .inl (upd (fun _ => 0) 1 s0))), (((u 2)), .inl (cy 1, 4, .inl (upd (upd (upd (upd (fun _ => 0) 0 (-1)) 1 (-1)) 2 (-1)) 3 (-1)))), (((u 3)), .inl (cy 2, 240, .inr (.inl (fun _ => 0))))]) rfl (fun H locs h => ?_)
              refine lv_aload_n F.1 F.2.1 dX12_tray_39 rfl (lv_at hl 0 rfl) ?_
              refine x_get F h 0 5 inlX12 rfl (by decide) mw_205 dX12_tray_40 rfl rfl ?_
              refine lv_iload_n F.1 F.2.1 dX12_tray_43 rfl (lv_at hl 1 rfl) ?_
              refine lv_iload_n F.1 F.2.1 dX12_tray_44 rfl (lv_at hl 3 rfl) ?_
              refine x_iast F h 2 rfl rfl (x_in (by decide +kernel)) dX12_tray_45 (ws' := [(q, .inr (12, (.ref ((u 0)) :: .int 0 :: .long 0 :: .long 1 :: .ref ((u 1)) :: .ref ((u 2)) :: .ref ((u 3)) :: .ref ((u 4)) :: .ref ((u 5)) :: .int 0 :: .int 0 :: .int 0 :: .int 0 :: .int 0 :: .int 0 :: .int (-1) :: .int (-1) :: .int 0 :: .ref ((u 6)) :: .int 0 :: .int 0 :: .ref ((u 7)) :: .ref ((u 8)) :: .ref ((u 9)) :: .ref ((u 10)) :: .ref ((u 11)) :: .ref ((u 12)) :: .ref ((u 13)) :: .int 0 :: .int 0 :: .int (-1) :: .int 0 :: .int (-1) :: .int 0 :: .ref ((u 14)) :: .int 0 :: .int 0 :: .int 0 :: .int 0 :: .int 0 :: .ref ((u 15)) :: .ref ((u 16)) :: .int 0 :: .int (-1) :: .int 0 :: .int 0 :: .int 0 :: .int 0 :: .ref ((u 17)) :: .ref ((u 18)) :: .ref ((u 19)) :: .int 0 :: .ref ((u 20)) :: .ref ((u 21)) :: .int 0 :: .ref ((u 22)) :: .int (-1) :: .int 0 :: .ref ((u 23)) :: .int (-1) :: .int (-1) :: .int 0 :: .ref ((u 24)) :: .ref ((u 25)) :: .int 0 :: []))), (((u 1)), .inl (cy 1, 4, .inl (upd (fun _ => 0) 1 s0))), (((u 2)), .inl (cy 1, 4, .inl (upd (upd (upd (upd (upd (fun _ => 0) 0 (-1)) 1 (-1)) 2 (-1)) 3 (-1)) 1 (nI n0)))), (((u 3)), .inl (cy 2, 240, .inr (.inl (fun _ => 0))))]) rfl (fun H locs h => ?_)
              refine lv_iconst (v := 0) F.1 F.2.1 dX12_tray_46 (by decide) ?_
              refine lv_istore (lv' := [(4, .int 0), (0, .ref q), (1, .int 1), (2, .int s0), (3, .int (nI n0))]) F.1 F.2.1 dX12_tray_47 hl (by decide) rfl (fun ls hl => ?_)
              refine x_loop (fun (g30 : Unit) => [(q, .inr (12, (.ref ((u 0)) :: .int 0 :: .long 0 :: .long 1 :: .ref ((u 1)) :: .ref ((u 2)) :: .ref ((u 3)) :: .ref ((u 4)) :: .ref ((u 5)) :: .int 0 :: .int 0 :: .int 0 :: .int 0 :: .int 0 :: .int 0 :: .int (-1) :: .int (-1) :: .int 0 :: .ref ((u 6)) :: .int 0 :: .int 0 :: .ref ((u 7)) :: .ref ((u 8)) :: .ref ((u 9)) :: .ref ((u 10)) :: .ref ((u 11)) :: .ref ((u 12)) :: .ref ((u 13)) :: .int 0 :: .int 0 :: .int (-1) :: .int 0 :: .int (-1) :: .int 0 :: .ref ((u 14)) :: .int 0 :: .int 0 :: .int 0 :: .int 0 :: .int 0 :: .ref ((u 15)) :: .ref ((u 16)) :: .int 0 :: .int (-1) :: .int 0 :: .int 0 :: .int 0 :: .int 0 :: .ref ((u 17)) :: .ref ((u 18)) :: .ref ((u 19)) :: .int 0 :: .ref ((u 20)) :: .ref ((u 21)) :: .int 0 :: .ref ((u 22)) :: .int (-1) :: .int 0 :: .ref ((u 23)) :: .int (-1) :: .int (-1) :: .int 0 :: .ref ((u 24)) :: .ref ((u 25)) :: .int 0 :: []))), (((u 1)), .inl (cy 1, 4, .inl (upd (fun _ => 0) 1 s0))), (((u 2)), .inl (cy 1, 4, .inl (upd (upd (upd (upd (upd (fun _ => 0) 0 (-1)) 1 (-1)) 2 (-1)) 3 (-1)) 1 (nI n0)))), (((u 3)), .inl (cy 2, 240, .inr (.inl (fun _ => 0))))]) n0 (fun i => [(4, .int i), (0, .ref q), (1, .int 1), (2, .int s0), (3, .int (nI n0))]) (fun g30 H locs ls h hl => ?_) (fun j31 g30 H locs ls hj32 h hl ih33 => ?_) 0 () _ _ _ (Nat.zero_le _) h (lv_sub hl [0, 1, 2, 3, 4] rfl)
              · have hl : lv_has ls 5 [(4, .int (nI n0)), (0, .ref q), (1, .int 1), (2, .int s0), (3, .int (nI n0))] := hl
                refine lv_iload F.1 F.2.1 dX12_tray_49 (lv_at hl 0 rfl) ?_
                refine lv_iload_n F.1 F.2.1 dX12_tray_51 rfl (lv_at hl 4 rfl) ?_
                refine lv_icmp_ge (tgt := 74) F.1 F.2.1 dX12_tray_52 (by decide) (fun _ => ?_) (fun hc => absurd (Int32.le_refl _) hc)
                refine lv_aload_n F.1 F.2.1 dX12_tray_74 rfl (lv_at hl 1 rfl) ?_
                refine lv_iconst (v := 0) F.1 F.2.1 dX12_tray_75 (by decide) ?_
                refine x_Vi (wr := [(((u 1)), .inl (cy 1, 4, .inl (upd (fun _ => 0) 1 s0))), (((u 2)), .inl (cy 1, 4, .inl (upd (upd (upd (upd (upd (fun _ => 0) 0 (-1)) 1 (-1)) 2 (-1)) 3 (-1)) 1 (nI n0)))), (((u 3)), .inl (cy 2, 240, .inr (.inl (fun _ => 0))))]) F h yk_X12_is mw_286 mw_287 mw_288 (c_m_is l D cy q ((.ref ((u 0)) :: .int 0 :: .long 0 :: .long 1 :: .ref ((u 1)) :: .ref ((u 2)) :: .ref ((u 3)) :: .ref ((u 4)) :: .ref ((u 5)) :: .int 0 :: .int 0 :: .int 0 :: .int 0 :: .int 0 :: .int 0 :: .int (-1) :: .int (-1) :: .int 0 :: .ref ((u 6)) :: .int 0 :: .int 0 :: .ref ((u 7)) :: .ref ((u 8)) :: .ref ((u 9)) :: .ref ((u 10)) :: .ref ((u 11)) :: .ref ((u 12)) :: .ref ((u 13)) :: .int 0 :: .int 0 :: .int (-1) :: .int 0 :: .int (-1) :: .int 0 :: .ref ((u 14)) :: .int 0 :: .int 0 :: .int 0 :: .int 0 :: .int 0 :: .ref ((u 15)) :: .ref ((u 16)) :: .int 0 :: .int (-1) :: .int 0 :: .int 0 :: .int 0 :: .int 0 :: .ref ((u 17)) :: .ref ((u 18)) :: .ref ((u 19)) :: .int 0 :: .ref ((u 20)) :: .ref ((u 21)) :: .int 0 :: .ref ((u 22)) :: .int (-1) :: .int 0 :: .ref ((u 23)) :: .int (-1) :: .int (-1) :: .int 0 :: .ref ((u 24)) :: .ref ((u 25)) :: .int 0 :: [])) rfl 0) [0] [1, 2, 3] 0 rfl rfl rfl rfl (by decide) rfl rfl hl.1 rfl (Nat.le_of_ble_eq_true rfl) ⟨Nat.le_of_ble_eq_true rfl, Nat.le_of_ble_eq_true rfl⟩ ⟨Nat.le_of_ble_eq_true rfl, Nat.le_of_ble_eq_true rfl⟩ dX12_tray_76 (fun r35 u36 H locs hp34 h => ?_)
                have h : xS D cy A s.heap ([(((u 1)), .inl (cy 1, 4, .inl (upd (fun _ => 0) 1 s0))), (((u 2)), .inl (cy 1, 4, .inl (upd (upd (upd (upd (upd (fun _ => 0) 0 (-1)) 1 (-1)) 2 (-1)) 3 (-1)) 1 (nI n0)))), (((u 3)), .inl (cy 2, 240, .inr (.inl (fun _ => 0))))]) s H locs := h
                obtain rfl : r35 = 1 := (by rw [hp34]; decide)
                exact x_iret F h hr hlk (by decide +kernel) (fun _ => 0) [] (by simp [ht5, ht6, hc10, hc14, hc18, hc22, ← x_34]) (by decide +kernel) rfl (Nat.le_of_ble_eq_true rfl) (Nat.le_of_ble_eq_true rfl) dX12_tray_79
              · have hl : lv_has ls 5 [(4, .int (nI j31)), (0, .ref q), (1, .int 1), (2, .int s0), (3, .int (nI n0))] := hl
                refine lv_iload F.1 F.2.1 dX12_tray_49 (lv_at hl 0 rfl) ?_
                refine lv_iload_n F.1 F.2.1 dX12_tray_51 rfl (lv_at hl 4 rfl) ?_
                refine lv_icmp_ge (tgt := 74) F.1 F.2.1 dX12_tray_52 (by decide) (fun hc => absurd hc (x_nle hj32 (by omega))) (fun _ => ?_)
                refine lv_aload_n F.1 F.2.1 dX12_tray_55 rfl (lv_at hl 1 rfl) ?_
                refine x_get F h 0 6 inlX12 rfl (by decide) mw_206 dX12_tray_56 rfl rfl ?_
                refine lv_bipush (v := 60) F.1 F.2.1 dX12_tray_59 (by decide) ?_
                refine lv_iload_n F.1 F.2.1 dX12_tray_61 rfl (lv_at hl 2 rfl) ?_
                refine lv_imul F.1 F.2.1 dX12_tray_62 ?_
                refine x_topi (y := 60) (by decide +kernel) ?_
                refine lv_iload F.1 F.2.1 dX12_tray_63 (lv_at hl 0 rfl) ?_
                refine lv_iadd F.1 F.2.1 dX12_tray_65 ?_
                refine x_topi (y := nI (60 + j31)) (nI_add 60 j31) ?_
                refine lv_lconst (v := 0) F.1 F.2.1 dX12_tray_66 (by decide) ?_
                refine x_last F h 3 rfl rfl (vp_in_nI (by omega) (by decide)) dX12_tray_67 (ws' := [(q, .inr (12, (.ref ((u 0)) :: .int 0 :: .long 0 :: .long 1 :: .ref ((u 1)) :: .ref ((u 2)) :: .ref ((u 3)) :: .ref ((u 4)) :: .ref ((u 5)) :: .int 0 :: .int 0 :: .int 0 :: .int 0 :: .int 0 :: .int 0 :: .int (-1) :: .int (-1) :: .int 0 :: .ref ((u 6)) :: .int 0 :: .int 0 :: .ref ((u 7)) :: .ref ((u 8)) :: .ref ((u 9)) :: .ref ((u 10)) :: .ref ((u 11)) :: .ref ((u 12)) :: .ref ((u 13)) :: .int 0 :: .int 0 :: .int (-1) :: .int 0 :: .int (-1) :: .int 0 :: .ref ((u 14)) :: .int 0 :: .int 0 :: .int 0 :: .int 0 :: .int 0 :: .ref ((u 15)) :: .ref ((u 16)) :: .int 0 :: .int (-1) :: .int 0 :: .int 0 :: .int 0 :: .int 0 :: .ref ((u 17)) :: .ref ((u 18)) :: .ref ((u 19)) :: .int 0 :: .ref ((u 20)) :: .ref ((u 21)) :: .int 0 :: .ref ((u 22)) :: .int (-1) :: .int 0 :: .ref ((u 23)) :: .int (-1) :: .int (-1) :: .int 0 :: .ref ((u 24)) :: .ref ((u 25)) :: .int 0 :: []))), (((u 1)), .inl (cy 1, 4, .inl (upd (fun _ => 0) 1 s0))), (((u 2)), .inl (cy 1, 4, .inl (upd (upd (upd (upd (upd (fun _ => 0) 0 (-1)) 1 (-1)) 2 (-1)) 3 (-1)) 1 (nI n0)))), (((u 3)), .inl (cy 2, 240, .inr (.inl (fun _ => 0))))]) (by rw [x_z]; rfl) (fun H locs h => ?_)
                refine lv_iinc (v := (nI (j31 + 1))) (lv' := [(4, .int (nI (j31 + 1))), (0, .ref q), (1, .int 1), (2, .int s0), (3, .int (nI n0))]) F.1 F.2.1 dX12_tray_68 hl (k := 0) rfl (nI_1 j31) (by decide) rfl (fun ls hl => ?_)
                refine lv_goto (tgt := 49) F.1 F.2.1 dX12_tray_71 (by decide) ?_
                exact ih33 () _ _ _ h (lv_sub hl [0, 1, 2, 3, 4] rfl)
            · refine lv_aload_n F.1 F.2.1 dX12_tray_32 rfl (lv_at hl 0 rfl) ?_
              refine x_get F h 0 4 inlX12 rfl (by decide) mw_204 dX12_tray_33 rfl rfl ?_
              refine lv_iload_n F.1 F.2.1 dX12_tray_36 rfl (lv_at hl 1 rfl) ?_
              refine lv_iload_n F.1 F.2.1 dX12_tray_37 rfl (lv_at hl 2 rfl) ?_
              refine x_iast F h 1 rfl rfl (x_in (by decide +kernel)) dX12_tray_38 (ws' := [(q, .inr (12, (.ref ((u 0)) :: .int 0 :: .long 0 :: .long 1 :: .ref ((u 1)) :: .ref ((u 2)) :: .ref ((u 3)) :: .ref ((u 4)) :: .ref ((u 5)) :: .int 0 :: .int 0 :: .int 0 :: .int 0 :: .int 0 :: .int 0 :: .int (-1) :: .int (-1) :: .int 0 :: .ref ((u 6)) :: .int 0 :: .int 0 :: .ref ((u 7)) :: .ref ((u 8)) :: .ref ((u 9)) :: .ref ((u 10)) :: .ref ((u 11)) :: .ref ((u 12)) :: .ref ((u 13)) :: .int 0 :: .int 0 :: .int (-1) :: .int 0 :: .int (-1) :: .int 0 :: .ref ((u 14)) :: .int 0 :: .int 0 :: .int 0 :: .int 0 :: .int 0 :: .ref ((u 15)) :: .ref ((u 16)) :: .int 0 :: .int (-1) :: .int 0 :: .int 0 :: .int 0 :: .int 0 :: .ref ((u 17)) :: .ref ((u 18)) :: .ref ((u 19)) :: .int 0 :: .ref ((u 20)) :: .ref ((u 21)) :: .int 0 :: .ref ((u 22)) :: .int (-1) :: .int 0 :: .ref ((u 23)) :: .int (-1) :: .int (-1) :: .int 0 :: .ref ((u 24)) :: .ref ((u 25)) :: .int 0 :: []))), (((u 1)), .inl (cy 1, 4, .inl (upd (fun _ => 0) 2 s0))), (((u 2)), .inl (cy 1, 4, .inl (upd (upd (upd (upd (fun _ => 0) 0 (-1)) 1 (-1)) 2 (-1)) 3 (-1)))), (((u 3)), .inl (cy 2, 240, .inr (.inl (fun _ => 0))))]) rfl (fun H locs h => ?_)
              refine lv_aload_n F.1 F.2.1 dX12_tray_39 rfl (lv_at hl 0 rfl) ?_
              refine x_get F h 0 5 inlX12 rfl (by decide) mw_205 dX12_tray_40 rfl rfl ?_
              refine lv_iload_n F.1 F.2.1 dX12_tray_43 rfl (lv_at hl 1 rfl) ?_
              refine lv_iload_n F.1 F.2.1 dX12_tray_44 rfl (lv_at hl 3 rfl) ?_
              refine x_iast F h 2 rfl rfl (x_in (by decide +kernel)) dX12_tray_45 (ws' := [(q, .inr (12, (.ref ((u 0)) :: .int 0 :: .long 0 :: .long 1 :: .ref ((u 1)) :: .ref ((u 2)) :: .ref ((u 3)) :: .ref ((u 4)) :: .ref ((u 5)) :: .int 0 :: .int 0 :: .int 0 :: .int 0 :: .int 0 :: .int 0 :: .int (-1) :: .int (-1) :: .int 0 :: .ref ((u 6)) :: .int 0 :: .int 0 :: .ref ((u 7)) :: .ref ((u 8)) :: .ref ((u 9)) :: .ref ((u 10)) :: .ref ((u 11)) :: .ref ((u 12)) :: .ref ((u 13)) :: .int 0 :: .int 0 :: .int (-1) :: .int 0 :: .int (-1) :: .int 0 :: .ref ((u 14)) :: .int 0 :: .int 0 :: .int 0 :: .int 0 :: .int 0 :: .ref ((u 15)) :: .ref ((u 16)) :: .int 0 :: .int (-1) :: .int 0 :: .int 0 :: .int 0 :: .int 0 :: .ref ((u 17)) :: .ref ((u 18)) :: .ref ((u 19)) :: .int 0 :: .ref ((u 20)) :: .ref ((u 21)) :: .int 0 :: .ref ((u 22)) :: .int (-1) :: .int 0 :: .ref ((u 23)) :: .int (-1) :: .int (-1) :: .int 0 :: .ref ((u 24)) :: .ref ((u 25)) :: .int 0 :: []))), (((u 1)), .inl (cy 1, 4, .inl (upd (fun _ => 0) 2 s0))), (((u 2)), .inl (cy 1, 4, .inl (upd (upd (upd (upd (upd (fun _ => 0) 0 (-1)) 1 (-1)) 2 (-1)) 3 (-1)) 2 (nI n0)))), (((u 3)), .inl (cy 2, 240, .inr (.inl (fun _ => 0))))]) rfl (fun H locs h => ?_)
              refine lv_iconst (v := 0) F.1 F.2.1 dX12_tray_46 (by decide) ?_
              refine lv_istore (lv' := [(4, .int 0), (0, .ref q), (1, .int 2), (2, .int s0), (3, .int (nI n0))]) F.1 F.2.1 dX12_tray_47 hl (by decide) rfl (fun ls hl => ?_)
              refine x_loop (fun (g37 : Unit) => [(q, .inr (12, (.ref ((u 0)) :: .int 0 :: .long 0 :: .long 1 :: .ref ((u 1)) :: .ref ((u 2)) :: .ref ((u 3)) :: .ref ((u 4)) :: .ref ((u 5)) :: .int 0 :: .int 0 :: .int 0 :: .int 0 :: .int 0 :: .int 0 :: .int (-1) :: .int (-1) :: .int 0 :: .ref ((u 6)) :: .int 0 :: .int 0 :: .ref ((u 7)) :: .ref ((u 8)) :: .ref ((u 9)) :: .ref ((u 10)) :: .ref ((u 11)) :: .ref ((u 12)) :: .ref ((u 13)) :: .int 0 :: .int 0 :: .int (-1) :: .int 0 :: .int (-1) :: .int 0 :: .ref ((u 14)) :: .int 0 :: .int 0 :: .int 0 :: .int 0 :: .int 0 :: .ref ((u 15)) :: .ref ((u 16)) :: .int 0 :: .int (-1) :: .int 0 :: .int 0 :: .int 0 :: .int 0 :: .ref ((u 17)) :: .ref ((u 18)) :: .ref ((u 19)) :: .int 0 :: .ref ((u 20)) :: .ref ((u 21)) :: .int 0 :: .ref ((u 22)) :: .int (-1) :: .int 0 :: .ref ((u 23)) :: .int (-1) :: .int (-1) :: .int 0 :: .ref ((u 24)) :: .ref ((u 25)) :: .int 0 :: []))), (((u 1)), .inl (cy 1, 4, .inl (upd (fun _ => 0) 2 s0))), (((u 2)), .inl (cy 1, 4, .inl (upd (upd (upd (upd (upd (fun _ => 0) 0 (-1)) 1 (-1)) 2 (-1)) 3 (-1)) 2 (nI n0)))), (((u 3)), .inl (cy 2, 240, .inr (.inl (fun _ => 0))))]) n0 (fun i => [(4, .int i), (0, .ref q), (1, .int 2), (2, .int s0), (3, .int (nI n0))]) (fun g37 H locs ls h hl => ?_) (fun j38 g37 H locs ls hj39 h hl ih40 => ?_) 0 () _ _ _ (Nat.zero_le _) h (lv_sub hl [0, 1, 2, 3, 4] rfl)
              · have hl : lv_has ls 5 [(4, .int (nI n0)), (0, .ref q), (1, .int 2), (2, .int s0), (3, .int (nI n0))] := hl
                refine lv_iload F.1 F.2.1 dX12_tray_49 (lv_at hl 0 rfl) ?_
                refine lv_iload_n F.1 F.2.1 dX12_tray_51 rfl (lv_at hl 4 rfl) ?_
                refine lv_icmp_ge (tgt := 74) F.1 F.2.1 dX12_tray_52 (by decide) (fun _ => ?_) (fun hc => absurd (Int32.le_refl _) hc)
                refine lv_aload_n F.1 F.2.1 dX12_tray_74 rfl (lv_at hl 1 rfl) ?_
                refine lv_iconst (v := 0) F.1 F.2.1 dX12_tray_75 (by decide) ?_
                refine x_Vi (wr := [(((u 1)), .inl (cy 1, 4, .inl (upd (fun _ => 0) 2 s0))), (((u 2)), .inl (cy 1, 4, .inl (upd (upd (upd (upd (upd (fun _ => 0) 0 (-1)) 1 (-1)) 2 (-1)) 3 (-1)) 2 (nI n0)))), (((u 3)), .inl (cy 2, 240, .inr (.inl (fun _ => 0))))]) F h yk_X12_is mw_286 mw_287 mw_288 (c_m_is l D cy q ((.ref ((u 0)) :: .int 0 :: .long 0 :: .long 1 :: .ref ((u 1)) :: .ref ((u 2)) :: .ref ((u 3)) :: .ref ((u 4)) :: .ref ((u 5)) :: .int 0 :: .int 0 :: .int 0 :: .int 0 :: .int 0 :: .int 0 :: .int (-1) :: .int (-1) :: .int 0 :: .ref ((u 6)) :: .int 0 :: .int 0 :: .ref ((u 7)) :: .ref ((u 8)) :: .ref ((u 9)) :: .ref ((u 10)) :: .ref ((u 11)) :: .ref ((u 12)) :: .ref ((u 13)) :: .int 0 :: .int 0 :: .int (-1) :: .int 0 :: .int (-1) :: .int 0 :: .ref ((u 14)) :: .int 0 :: .int 0 :: .int 0 :: .int 0 :: .int 0 :: .ref ((u 15)) :: .ref ((u 16)) :: .int 0 :: .int (-1) :: .int 0 :: .int 0 :: .int 0 :: .int 0 :: .ref ((u 17)) :: .ref ((u 18)) :: .ref ((u 19)) :: .int 0 :: .ref ((u 20)) :: .ref ((u 21)) :: .int 0 :: .ref ((u 22)) :: .int (-1) :: .int 0 :: .ref ((u 23)) :: .int (-1) :: .int (-1) :: .int 0 :: .ref ((u 24)) :: .ref ((u 25)) :: .int 0 :: [])) rfl 0) [0] [1, 2, 3] 0 rfl rfl rfl rfl (by decide) rfl rfl hl.1 rfl (Nat.le_of_ble_eq_true rfl) ⟨Nat.le_of_ble_eq_true rfl, Nat.le_of_ble_eq_true rfl⟩ ⟨Nat.le_of_ble_eq_true rfl, Nat.le_of_ble_eq_true rfl⟩ dX12_tray_76 (fun r42 u43 H locs hp41 h => ?_)
                have h : xS D cy A s.heap ([(((u 1)), .inl (cy 1, 4, .inl (upd (fun _ => 0) 2 s0))), (((u 2)), .inl (cy 1, 4, .inl (upd (upd (upd (upd (upd (fun _ => 0) 0 (-1)) 1 (-1)) 2 (-1)) 3 (-1)) 2 (nI n0)))), (((u 3)), .inl (cy 2, 240, .inr (.inl (fun _ => 0))))]) s H locs := h
                obtain rfl : r42 = 1 := (by rw [hp41]; decide)
                exact x_iret F h hr hlk (by decide +kernel) (fun _ => 0) [] (by simp [ht5, ht6, hc10, hc14, hc18, hc22, ← x_34]) (by decide +kernel) rfl (Nat.le_of_ble_eq_true rfl) (Nat.le_of_ble_eq_true rfl) dX12_tray_79
              · have hl : lv_has ls 5 [(4, .int (nI j38)), (0, .ref q), (1, .int 2), (2, .int s0), (3, .int (nI n0))] := hl
                refine lv_iload F.1 F.2.1 dX12_tray_49 (lv_at hl 0 rfl) ?_
                refine lv_iload_n F.1 F.2.1 dX12_tray_51 rfl (lv_at hl 4 rfl) ?_
                refine lv_icmp_ge (tgt := 74) F.1 F.2.1 dX12_tray_52 (by decide) (fun hc => absurd hc (x_nle hj39 (by omega))) (fun _ => ?_)
                refine lv_aload_n F.1 F.2.1 dX12_tray_55 rfl (lv_at hl 1 rfl) ?_
                refine x_get F h 0 6 inlX12 rfl (by decide) mw_206 dX12_tray_56 rfl rfl ?_
                refine lv_bipush (v := 60) F.1 F.2.1 dX12_tray_59 (by decide) ?_
                refine lv_iload_n F.1 F.2.1 dX12_tray_61 rfl (lv_at hl 2 rfl) ?_
                refine lv_imul F.1 F.2.1 dX12_tray_62 ?_
                refine x_topi (y := 120) (by decide +kernel) ?_
                refine lv_iload F.1 F.2.1 dX12_tray_63 (lv_at hl 0 rfl) ?_
                refine lv_iadd F.1 F.2.1 dX12_tray_65 ?_
                refine x_topi (y := nI (120 + j38)) (nI_add 120 j38) ?_
                refine lv_lconst (v := 0) F.1 F.2.1 dX12_tray_66 (by decide) ?_
                refine x_last F h 3 rfl rfl (vp_in_nI (by omega) (by decide)) dX12_tray_67 (ws' := [(q, .inr (12, (.ref ((u 0)) :: .int 0 :: .long 0 :: .long 1 :: .ref ((u 1)) :: .ref ((u 2)) :: .ref ((u 3)) :: .ref ((u 4)) :: .ref ((u 5)) :: .int 0 :: .int 0 :: .int 0 :: .int 0 :: .int 0 :: .int 0 :: .int (-1) :: .int (-1) :: .int 0 :: .ref ((u 6)) :: .int 0 :: .int 0 :: .ref ((u 7)) :: .ref ((u 8)) :: .ref ((u 9)) :: .ref ((u 10)) :: .ref ((u 11)) :: .ref ((u 12)) :: .ref ((u 13)) :: .int 0 :: .int 0 :: .int (-1) :: .int 0 :: .int (-1) :: .int 0 :: .ref ((u 14)) :: .int 0 :: .int 0 :: .int 0 :: .int 0 :: .int 0 :: .ref ((u 15)) :: .ref ((u 16)) :: .int 0 :: .int (-1) :: .int 0 :: .int 0 :: .int 0 :: .int 0 :: .ref ((u 17)) :: .ref ((u 18)) :: .ref ((u 19)) :: .int 0 :: .ref ((u 20)) :: .ref ((u 21)) :: .int 0 :: .ref ((u 22)) :: .int (-1) :: .int 0 :: .ref ((u 23)) :: .int (-1) :: .int (-1) :: .int 0 :: .ref ((u 24)) :: .ref ((u 25)) :: .int 0 :: []))), (((u 1)), .inl (cy 1, 4, .inl (upd (fun _ => 0) 2 s0))), (((u 2)), .inl (cy 1, 4, .inl (upd (upd (upd (upd (upd (fun _ => 0) 0 (-1)) 1 (-1)) 2 (-1)) 3 (-1)) 2 (nI n0)))), (((u 3)), .inl (cy 2, 240, .inr (.inl (fun _ => 0))))]) (by rw [x_z]; rfl) (fun H locs h => ?_)
                refine lv_iinc (v := (nI (j38 + 1))) (lv' := [(4, .int (nI (j38 + 1))), (0, .ref q), (1, .int 2), (2, .int s0), (3, .int (nI n0))]) F.1 F.2.1 dX12_tray_68 hl (k := 0) rfl (nI_1 j38) (by decide) rfl (fun ls hl => ?_)
                refine lv_goto (tgt := 49) F.1 F.2.1 dX12_tray_71 (by decide) ?_
                exact ih40 () _ _ _ h (lv_sub hl [0, 1, 2, 3, 4] rfl)
            · refine lv_aload_n F.1 F.2.1 dX12_tray_32 rfl (lv_at hl 0 rfl) ?_
              refine x_get F h 0 4 inlX12 rfl (by decide) mw_204 dX12_tray_33 rfl rfl ?_
              refine lv_iload_n F.1 F.2.1 dX12_tray_36 rfl (lv_at hl 1 rfl) ?_
              refine lv_iload_n F.1 F.2.1 dX12_tray_37 rfl (lv_at hl 2 rfl) ?_
              refine x_iast F h 1 rfl rfl (x_in (by decide +kernel)) dX12_tray_38 (ws' := [(q, .inr (12, (.ref ((u 0)) :: .int 0 :: .long 0 :: .long 1 :: .ref ((u 1)) :: .ref ((u 2)) :: .ref ((u 3)) :: .ref ((u 4)) :: .ref ((u 5)) :: .int 0 :: .int 0 :: .int 0 :: .int 0 :: .int 0 :: .int 0 :: .int (-1) :: .int (-1) :: .int 0 :: .ref ((u 6)) :: .int 0 :: .int 0 :: .ref ((u 7)) :: .ref ((u 8)) :: .ref ((u 9)) :: .ref ((u 10)) :: .ref ((u 11)) :: .ref ((u 12)) :: .ref ((u 13)) :: .int 0 :: .int 0 :: .int (-1) :: .int 0 :: .int (-1) :: .int 0 :: .ref ((u 14)) :: .int 0 :: .int 0 :: .int 0 :: .int 0 :: .int 0 :: .ref ((u 15)) :: .ref ((u 16)) :: .int 0 :: .int (-1) :: .int 0 :: .int 0 :: .int 0 :: .int 0 :: .ref ((u 17)) :: .ref ((u 18)) :: .ref ((u 19)) :: .int 0 :: .ref ((u 20)) :: .ref ((u 21)) :: .int 0 :: .ref ((u 22)) :: .int (-1) :: .int 0 :: .ref ((u 23)) :: .int (-1) :: .int (-1) :: .int 0 :: .ref ((u 24)) :: .ref ((u 25)) :: .int 0 :: []))), (((u 1)), .inl (cy 1, 4, .inl (upd (fun _ => 0) 3 s0))), (((u 2)), .inl (cy 1, 4, .inl (upd (upd (upd (upd (fun _ => 0) 0 (-1)) 1 (-1)) 2 (-1)) 3 (-1)))), (((u 3)), .inl (cy 2, 240, .inr (.inl (fun _ => 0))))]) rfl (fun H locs h => ?_)
              refine lv_aload_n F.1 F.2.1 dX12_tray_39 rfl (lv_at hl 0 rfl) ?_
              refine x_get F h 0 5 inlX12 rfl (by decide) mw_205 dX12_tray_40 rfl rfl ?_
              refine lv_iload_n F.1 F.2.1 dX12_tray_43 rfl (lv_at hl 1 rfl) ?_
              refine lv_iload_n F.1 F.2.1 dX12_tray_44 rfl (lv_at hl 3 rfl) ?_
              refine x_iast F h 2 rfl rfl (x_in (by decide +kernel)) dX12_tray_45 (ws' := [(q, .inr (12, (.ref ((u 0)) :: .int 0 :: .long 0 :: .long 1 :: .ref ((u 1)) :: .ref ((u 2)) :: .ref ((u 3)) :: .ref ((u 4)) :: .ref ((u 5)) :: .int 0 :: .int 0 :: .int 0 :: .int 0 :: .int 0 :: .int 0 :: .int (-1) :: .int (-1) :: .int 0 :: .ref ((u 6)) :: .int 0 :: .int 0 :: .ref ((u 7)) :: .ref ((u 8)) :: .ref ((u 9)) :: .ref ((u 10)) :: .ref ((u 11)) :: .ref ((u 12)) :: .ref ((u 13)) :: .int 0 :: .int 0 :: .int (-1) :: .int 0 :: .int (-1) :: .int 0 :: .ref ((u 14)) :: .int 0 :: .int 0 :: .int 0 :: .int 0 :: .int 0 :: .ref ((u 15)) :: .ref ((u 16)) :: .int 0 :: .int (-1) :: .int 0 :: .int 0 :: .int 0 :: .int 0 :: .ref ((u 17)) :: .ref ((u 18)) :: .ref ((u 19)) :: .int 0 :: .ref ((u 20)) :: .ref ((u 21)) :: .int 0 :: .ref ((u 22)) :: .int (-1) :: .int 0 :: .ref ((u 23)) :: .int (-1) :: .int (-1) :: .int 0 :: .ref ((u 24)) :: .ref ((u 25)) :: .int 0 :: []))), (((u 1)), .inl (cy 1, 4, .inl (upd (fun _ => 0) 3 s0))), (((u 2)), .inl (cy 1, 4, .inl (upd (upd (upd (upd (upd (fun _ => 0) 0 (-1)) 1 (-1)) 2 (-1)) 3 (-1)) 3 (nI n0)))), (((u 3)), .inl (cy 2, 240, .inr (.inl (fun _ => 0))))]) rfl (fun H locs h => ?_)
              refine lv_iconst (v := 0) F.1 F.2.1 dX12_tray_46 (by decide) ?_
              refine lv_istore (lv' := [(4, .int 0), (0, .ref q), (1, .int 3), (2, .int s0), (3, .int (nI n0))]) F.1 F.2.1 dX12_tray_47 hl (by decide) rfl (fun ls hl => ?_)
              refine x_loop (fun (g44 : Unit) => [(q, .inr (12, (.ref ((u 0)) :: .int 0 :: .long 0 :: .long 1 :: .ref ((u 1)) :: .ref ((u 2)) :: .ref ((u 3)) :: .ref ((u 4)) :: .ref ((u 5)) :: .int 0 :: .int 0 :: .int 0 :: .int 0 :: .int 0 :: .int 0 :: .int (-1) :: .int (-1) :: .int 0 :: .ref ((u 6)) :: .int 0 :: .int 0 :: .ref ((u 7)) :: .ref ((u 8)) :: .ref ((u 9)) :: .ref ((u 10)) :: .ref ((u 11)) :: .ref ((u 12)) :: .ref ((u 13)) :: .int 0 :: .int 0 :: .int (-1) :: .int 0 :: .int (-1) :: .int 0 :: .ref ((u 14)) :: .int 0 :: .int 0 :: .int 0 :: .int 0 :: .int 0 :: .ref ((u 15)) :: .ref ((u 16)) :: .int 0 :: .int (-1) :: .int 0 :: .int 0 :: .int 0 :: .int 0 :: .ref ((u 17)) :: .ref ((u 18)) :: .ref ((u 19)) :: .int 0 :: .ref ((u 20)) :: .ref ((u 21)) :: .int 0 :: .ref ((u 22)) :: .int (-1) :: .int 0 :: .ref ((u 23)) :: .int (-1) :: .int (-1) :: .int 0 :: .ref ((u 24)) :: .ref ((u 25)) :: .int 0 :: []))), (((u 1)), .inl (cy 1, 4, .inl (upd (fun _ => 0) 3 s0))), (((u 2)), .inl (cy 1, 4, .inl (upd (upd (upd (upd (upd (fun _ => 0) 0 (-1)) 1 (-1)) 2 (-1)) 3 (-1)) 3 (nI n0)))), (((u 3)), .inl (cy 2, 240, .inr (.inl (fun _ => 0))))]) n0 (fun i => [(4, .int i), (0, .ref q), (1, .int 3), (2, .int s0), (3, .int (nI n0))]) (fun g44 H locs ls h hl => ?_) (fun j45 g44 H locs ls hj46 h hl ih47 => ?_) 0 () _ _ _ (Nat.zero_le _) h (lv_sub hl [0, 1, 2, 3, 4] rfl)
              · have hl : lv_has ls 5 [(4, .int (nI n0)), (0, .ref q), (1, .int 3), (2, .int s0), (3, .int (nI n0))] := hl
                refine lv_iload F.1 F.2.1 dX12_tray_49 (lv_at hl 0 rfl) ?_
                refine lv_iload_n F.1 F.2.1 dX12_tray_51 rfl (lv_at hl 4 rfl) ?_
                refine lv_icmp_ge (tgt := 74) F.1 F.2.1 dX12_tray_52 (by decide) (fun _ => ?_) (fun hc => absurd (Int32.le_refl _) hc)
                refine lv_aload_n F.1 F.2.1 dX12_tray_74 rfl (lv_at hl 1 rfl) ?_
                refine lv_iconst (v := 0) F.1 F.2.1 dX12_tray_75 (by decide) ?_
                refine x_Vi (wr := [(((u 1)), .inl (cy 1, 4, .inl (upd (fun _ => 0) 3 s0))), (((u 2)), .inl (cy 1, 4, .inl (upd (upd (upd (upd (upd (fun _ => 0) 0 (-1)) 1 (-1)) 2 (-1)) 3 (-1)) 3 (nI n0)))), (((u 3)), .inl (cy 2, 240, .inr (.inl (fun _ => 0))))]) F h yk_X12_is mw_286 mw_287 mw_288 (c_m_is l D cy q ((.ref ((u 0)) :: .int 0 :: .long 0 :: .long 1 :: .ref ((u 1)) :: .ref ((u 2)) :: .ref ((u 3)) :: .ref ((u 4)) :: .ref ((u 5)) :: .int 0 :: .int 0 :: .int 0 :: .int 0 :: .int 0 :: .int 0 :: .int (-1) :: .int (-1) :: .int 0 :: .ref ((u 6)) :: .int 0 :: .int 0 :: .ref ((u 7)) :: .ref ((u 8)) :: .ref ((u 9)) :: .ref ((u 10)) :: .ref ((u 11)) :: .ref ((u 12)) :: .ref ((u 13)) :: .int 0 :: .int 0 :: .int (-1) :: .int 0 :: .int (-1) :: .int 0 :: .ref ((u 14)) :: .int 0 :: .int 0 :: .int 0 :: .int 0 :: .int 0 :: .ref ((u 15)) :: .ref ((u 16)) :: .int 0 :: .int (-1) :: .int 0 :: .int 0 :: .int 0 :: .int 0 :: .ref ((u 17)) :: .ref ((u 18)) :: .ref ((u 19)) :: .int 0 :: .ref ((u 20)) :: .ref ((u 21)) :: .int 0 :: .ref ((u 22)) :: .int (-1) :: .int 0 :: .ref ((u 23)) :: .int (-1) :: .int (-1) :: .int 0 :: .ref ((u 24)) :: .ref ((u 25)) :: .int 0 :: [])) rfl 0) [0] [1, 2, 3] 0 rfl rfl rfl rfl (by decide) rfl rfl hl.1 rfl (Nat.le_of_ble_eq_true rfl) ⟨Nat.le_of_ble_eq_true rfl, Nat.le_of_ble_eq_true rfl⟩ ⟨Nat.le_of_ble_eq_true rfl, Nat.le_of_ble_eq_true rfl⟩ dX12_tray_76 (fun r49 u50 H locs hp48 h => ?_)
                have h : xS D cy A s.heap ([(((u 1)), .inl (cy 1, 4, .inl (upd (fun _ => 0) 3 s0))), (((u 2)), .inl (cy 1, 4, .inl (upd (upd (upd (upd (upd (fun _ => 0) 0 (-1)) 1 (-1)) 2 (-1)) 3 (-1)) 3 (nI n0)))), (((u 3)), .inl (cy 2, 240, .inr (.inl (fun _ => 0))))]) s H locs := h
                obtain rfl : r49 = 1 := (by rw [hp48]; decide)
                exact x_iret F h hr hlk (by decide +kernel) (fun _ => 0) [] (by simp [ht5, ht6, hc10, hc14, hc18, hc22, ← x_34]) (by decide +kernel) rfl (Nat.le_of_ble_eq_true rfl) (Nat.le_of_ble_eq_true rfl) dX12_tray_79
              · have hl : lv_has ls 5 [(4, .int (nI j45)), (0, .ref q), (1, .int 3), (2, .int s0), (3, .int (nI n0))] := hl
                refine lv_iload F.1 F.2.1 dX12_tray_49 (lv_at hl 0 rfl) ?_
                refine lv_iload_n F.1 F.2.1 dX12_tray_51 rfl (lv_at hl 4 rfl) ?_
                refine lv_icmp_ge (tgt := 74) F.1 F.2.1 dX12_tray_52 (by decide) (fun hc => absurd hc (x_nle hj46 (by omega))) (fun _ => ?_)
                refine lv_aload_n F.1 F.2.1 dX12_tray_55 rfl (lv_at hl 1 rfl) ?_
                refine x_get F h 0 6 inlX12 rfl (by decide) mw_206 dX12_tray_56 rfl rfl ?_
                refine lv_bipush (v := 60) F.1 F.2.1 dX12_tray_59 (by decide) ?_
                refine lv_iload_n F.1 F.2.1 dX12_tray_61 rfl (lv_at hl 2 rfl) ?_
                refine lv_imul F.1 F.2.1 dX12_tray_62 ?_
                refine x_topi (y := 180) (by decide +kernel) ?_
                refine lv_iload F.1 F.2.1 dX12_tray_63 (lv_at hl 0 rfl) ?_
                refine lv_iadd F.1 F.2.1 dX12_tray_65 ?_
                refine x_topi (y := nI (180 + j45)) (nI_add 180 j45) ?_
                refine lv_lconst (v := 0) F.1 F.2.1 dX12_tray_66 (by decide) ?_
                refine x_last F h 3 rfl rfl (vp_in_nI (by omega) (by decide)) dX12_tray_67 (ws' := [(q, .inr (12, (.ref ((u 0)) :: .int 0 :: .long 0 :: .long 1 :: .ref ((u 1)) :: .ref ((u 2)) :: .ref ((u 3)) :: .ref ((u 4)) :: .ref ((u 5)) :: .int 0 :: .int 0 :: .int 0 :: .int 0 :: .int 0 :: .int 0 :: .int (-1) :: .int (-1) :: .int 0 :: .ref ((u 6)) :: .int 0 :: .int 0 :: .ref ((u 7)) :: .ref ((u 8)) :: .ref ((u 9)) :: .ref ((u 10)) :: .ref ((u 11)) :: .ref ((u 12)) :: .ref ((u 13)) :: .int 0 :: .int 0 :: .int (-1) :: .int 0 :: .int (-1) :: .int 0 :: .ref ((u 14)) :: .int 0 :: .int 0 :: .int 0 :: .int 0 :: .int 0 :: .ref ((u 15)) :: .ref ((u 16)) :: .int 0 :: .int (-1) :: .int 0 :: .int 0 :: .int 0 :: .int 0 :: .ref ((u 17)) :: .ref ((u 18)) :: .ref ((u 19)) :: .int 0 :: .ref ((u 20)) :: .ref ((u 21)) :: .int 0 :: .ref ((u 22)) :: .int (-1) :: .int 0 :: .ref ((u 23)) :: .int (-1) :: .int (-1) :: .int 0 :: .ref ((u 24)) :: .ref ((u 25)) :: .int 0 :: []))), (((u 1)), .inl (cy 1, 4, .inl (upd (fun _ => 0) 3 s0))), (((u 2)), .inl (cy 1, 4, .inl (upd (upd (upd (upd (upd (fun _ => 0) 0 (-1)) 1 (-1)) 2 (-1)) 3 (-1)) 3 (nI n0)))), (((u 3)), .inl (cy 2, 240, .inr (.inl (fun _ => 0))))]) (by rw [x_z]; rfl) (fun H locs h => ?_)
                refine lv_iinc (v := (nI (j45 + 1))) (lv' := [(4, .int (nI (j45 + 1))), (0, .ref q), (1, .int 3), (2, .int s0), (3, .int (nI n0))]) F.1 F.2.1 dX12_tray_68 hl (k := 0) rfl (nI_1 j45) (by decide) rfl (fun ls hl => ?_)
                refine lv_goto (tgt := 49) F.1 F.2.1 dX12_tray_71 (by decide) ?_
                exact ih47 () _ _ _ h (lv_sub hl [0, 1, 2, 3, 4] rfl)
          · refine lv_aload_n F.1 F.2.1 dX12_tray_26 rfl (lv_at hl 0 rfl) ?_
            refine lv_iconst (v := 1) F.1 F.2.1 dX12_tray_27 (by decide) ?_
            refine x_Vi (wr := [(((u 1)), .inl (cy 1, 4, .inl (fun _ => 0))), (((u 2)), .inl (cy 1, 4, .inl (upd (upd (upd (upd (fun _ => 0) 0 (-1)) 1 (-1)) 2 (-1)) 3 (-1)))), (((u 3)), .inl (cy 2, 240, .inr (.inl (fun _ => 0))))]) F h yk_X12_is mw_286 mw_287 mw_288 (c_m_is l D cy q ((.ref ((u 0)) :: .int 0 :: .long 0 :: .long 1 :: .ref ((u 1)) :: .ref ((u 2)) :: .ref ((u 3)) :: .ref ((u 4)) :: .ref ((u 5)) :: .int 0 :: .int 0 :: .int 0 :: .int 0 :: .int 0 :: .int 0 :: .int (-1) :: .int (-1) :: .int 0 :: .ref ((u 6)) :: .int 0 :: .int 0 :: .ref ((u 7)) :: .ref ((u 8)) :: .ref ((u 9)) :: .ref ((u 10)) :: .ref ((u 11)) :: .ref ((u 12)) :: .ref ((u 13)) :: .int 0 :: .int 0 :: .int (-1) :: .int 0 :: .int (-1) :: .int 0 :: .ref ((u 14)) :: .int 0 :: .int 0 :: .int 0 :: .int 0 :: .int 0 :: .ref ((u 15)) :: .ref ((u 16)) :: .int 0 :: .int (-1) :: .int 0 :: .int 0 :: .int 0 :: .int 0 :: .ref ((u 17)) :: .ref ((u 18)) :: .ref ((u 19)) :: .int 0 :: .ref ((u 20)) :: .ref ((u 21)) :: .int 0 :: .ref ((u 22)) :: .int (-1) :: .int 0 :: .ref ((u 23)) :: .int (-1) :: .int (-1) :: .int 0 :: .ref ((u 24)) :: .ref ((u 25)) :: .int 0 :: [])) rfl 1) [0] [1, 2, 3] 0 rfl rfl rfl rfl (by decide) rfl rfl hl.1 rfl (Nat.le_of_ble_eq_true rfl) ⟨Nat.le_of_ble_eq_true rfl, Nat.le_of_ble_eq_true rfl⟩ ⟨Nat.le_of_ble_eq_true rfl, Nat.le_of_ble_eq_true rfl⟩ dX12_tray_28 (fun r52 u53 H locs hp51 h => ?_)
            have h : xS D cy A s.heap ([(((u 1)), .inl (cy 1, 4, .inl (fun _ => 0))), (((u 2)), .inl (cy 1, 4, .inl (upd (upd (upd (upd (fun _ => 0) 0 (-1)) 1 (-1)) 2 (-1)) 3 (-1)))), (((u 3)), .inl (cy 2, 240, .inr (.inl (fun _ => 0))))]) s H locs := h
            obtain rfl : r52 = 0 := (by rw [hp51]; decide)
            exact x_iret F h hr hlk (by decide +kernel) (fun _ => 0) [] (by simp [ht5, ht6, hc10, hc14, hc18, hc22, ← x_34]) (by decide +kernel) rfl (Nat.le_of_ble_eq_true rfl) (Nat.le_of_ble_eq_true rfl) dX12_tray_31
set_option maxHeartbeats 4000000 in
set_option maxRecDepth 100000 in
theorem c_m_four0 (l : Launch) (D : va_G) (cy : Nat → ClassId) (q : Nat) (u : Nat → Nat) (f : Nat → Int32) (v : Int32) : ∀ sz, Met l yX12_four (Cond.code yX12_four cX12_four 3 none :: wsL_law) { frames := 0, cells := 0, slots := 0, locals := 0 } (va_Pc [.ref q, .int v] (xP D cy ([mM q u 0 0 0 (-1) 0, (((u 4)), .inl (cy 0, 600, .inl f))]) sz)) (va_Qv (fun _ => True) (xB D (va_A ([mM q u 0 0 0 (-1) 0, (((u 4)), .inl (cy 0, 600, .inl f))]) sz) (fun _ => [mM q u 4 0 0 (-1) 0, (((u 4)), .inl (cy 0, 600, .inl (upd (upd (upd (upd f 0 (vp_nar .byte (v >>> ((24 : Int32) &&& 31)).toInt8.toInt32)) 1 (vp_nar .byte (v >>> ((16 : Int32) &&& 31)).toInt8.toInt32)) 2 (vp_nar .byte (v >>> ((8 : Int32) &&& 31)).toInt8.toInt32)) 3 (vp_nar .byte (v >>> ((0 : Int32) &&& 31)).toInt8.toInt32))))])) (va_A ([mM q u 0 0 0 (-1) 0, (((u 4)), .inl (cy 0, 600, .inl f))]) sz)) 0 0 (va_A ([mM q u 0 0 0 (-1) 0, (((u 4)), .inl (cy 0, 600, .inl f))]) sz) := by
  refine x_enter (fun A => va_Qv (fun _ => True) (xB D A (fun _ => [mM q u 4 0 0 (-1) 0, (((u 4)), .inl (cy 0, 600, .inl (upd (upd (upd (upd f 0 (vp_nar .byte (v >>> ((24 : Int32) &&& 31)).toInt8.toInt32)) 1 (vp_nar .byte (v >>> ((16 : Int32) &&& 31)).toInt8.toInt32)) 2 (vp_nar .byte (v >>> ((8 : Int32) &&& 31)).toInt8.toInt32)) 3 (vp_nar .byte (v >>> ((0 : Int32) &&& 31)).toInt8.toInt32))))])) A) (by decide +kernel) rfl (Nat.le_of_ble_eq_true rfl) ?_
  intro p e s m below meth c A ls F hr hlk hin h hl
  have hl : lv_has ls 3 [(0, .ref q), (1, .int v)] := hl
  have h : xS D cy A s.heap ([(q, .inr (12, (.ref ((u 0)) :: .int 0 :: .long 0 :: .long 1 :: .ref ((u 1)) :: .ref ((u 2)) :: .ref ((u 3)) :: .ref ((u 4)) :: .ref ((u 5)) :: .int 0 :: .int 0 :: .int 0 :: .int 0 :: .int 0 :: .int 0 :: .int (-1) :: .int (-1) :: .int 0 :: .ref ((u 6)) :: .int 0 :: .int 0 :: .ref ((u 7)) :: .ref ((u 8)) :: .ref ((u 9)) :: .ref ((u 10)) :: .ref ((u 11)) :: .ref ((u 12)) :: .ref ((u 13)) :: .int 0 :: .int 0 :: .int (-1) :: .int 0 :: .int (-1) :: .int 0 :: .ref ((u 14)) :: .int 0 :: .int 0 :: .int 0 :: .int 0 :: .int 0 :: .ref ((u 15)) :: .ref ((u 16)) :: .int 0 :: .int (-1) :: .int 0 :: .int 0 :: .int 0 :: .int 0 :: .ref ((u 17)) :: .ref ((u 18)) :: .ref ((u 19)) :: .int 0 :: .ref ((u 20)) :: .ref ((u 21)) :: .int 0 :: .ref ((u 22)) :: .int (-1) :: .int 0 :: .ref ((u 23)) :: .int (-1) :: .int (-1) :: .int 0 :: .ref ((u 24)) :: .ref ((u 25)) :: .int 0 :: []))), (((u 4)), .inl (cy 0, 600, .inl f))]) s s.heap [] := h
  refine lv_bipush (v := 24) F.1 F.2.1 dX12_four_0 (by decide) ?_
  refine lv_istore_n (lv' := [(2, .int 24), (0, .ref q), (1, .int v)]) F.1 F.2.1 dX12_four_2 rfl hl (by decide) rfl (fun ls hl => ?_)
  refine lv_iload_n F.1 F.2.1 dX12_four_3 rfl (lv_at hl 0 rfl) ?_
  refine lv_if_lt (tgt := 36) F.1 F.2.1 dX12_four_4 (by decide) (fun hc => absurd hc (by decide)) (fun _ => ?_)
  refine lv_aload_n F.1 F.2.1 dX12_four_7 rfl (lv_at hl 1 rfl) ?_
  refine x_get F h 0 7 inlX12 rfl (by decide) mw_207 dX12_four_8 rfl rfl ?_
  refine lv_aload_n F.1 F.2.1 dX12_four_11 rfl (lv_at hl 1 rfl) ?_
  refine x_get F h 0 9 inlX12 rfl (by decide) mw_367 dX12_four_12 rfl rfl ?_
  refine lv_iload_n F.1 F.2.1 dX12_four_15 rfl (lv_at hl 2 rfl) ?_
  refine lv_iload_n F.1 F.2.1 dX12_four_16 rfl (lv_at hl 0 rfl) ?_
  refine lv_ishr F.1 F.2.1 dX12_four_17 ?_
  refine lv_i2b (v := (v >>> ((24 : Int32) &&& 31)).toInt8.toInt32) F.1 F.2.1 dX12_four_18 rfl ?_
  refine x_bast F h 1 rfl rfl (x_in (by decide +kernel)) dX12_four_19 (ws' := [(q, .inr (12, (.ref ((u 0)) :: .int 0 :: .long 0 :: .long 1 :: .ref ((u 1)) :: .ref ((u 2)) :: .ref ((u 3)) :: .ref ((u 4)) :: .ref ((u 5)) :: .int 0 :: .int 0 :: .int 0 :: .int 0 :: .int 0 :: .int 0 :: .int (-1) :: .int (-1) :: .int 0 :: .ref ((u 6)) :: .int 0 :: .int 0 :: .ref ((u 7)) :: .ref ((u 8)) :: .ref ((u 9)) :: .ref ((u 10)) :: .ref ((u 11)) :: .ref ((u 12)) :: .ref ((u 13)) :: .int 0 :: .int 0 :: .int (-1) :: .int 0 :: .int (-1) :: .int 0 :: .ref ((u 14)) :: .int 0 :: .int 0 :: .int 0 :: .int 0 :: .int 0 :: .ref ((u 15)) :: .ref ((u 16)) :: .int 0 :: .int (-1) :: .int 0 :: .int 0 :: .int 0 :: .int 0 :: .ref ((u 17)) :: .ref ((u 18)) :: .ref ((u 19)) :: .int 0 :: .ref ((u 20)) :: .ref ((u 21)) :: .int 0 :: .ref ((u 22)) :: .int (-1) :: .int 0 :: .ref ((u 23)) :: .int (-1) :: .int (-1) :: .int 0 :: .ref ((u 24)) :: .ref ((u 25)) :: .int 0 :: []))), (((u 4)), .inl (cy 0, 600, .inl (upd f 0 (vp_nar .byte ((v >>> ((24 : Int32) &&& 31)).toInt8.toInt32)))))]) rfl (fun H locs h => ?_)
  refine lv_aload_n F.1 F.2.1 dX12_four_20 rfl (lv_at hl 1 rfl) ?_
  refine lv_dup F.1 F.2.1 dX12_four_21 rfl ?_
  refine x_get F h 0 9 inlX12 rfl (by decide) mw_367 dX12_four_22 rfl rfl ?_
  refine lv_iconst (v := 1) F.1 F.2.1 dX12_four_25 (by decide) ?_
  refine lv_iadd F.1 F.2.1 dX12_four_26 ?_
  refine x_topi (y := 1) (by decide +kernel) ?_
  refine x_put F h 0 9 inlX12 tyX12_ok nmX12 rfl (by decide) mw_367 dX12_four_27 rfl rfl rfl rfl (Nat.le_of_ble_eq_true rfl) (ws' := [(q, .inr (12, (.ref ((u 0)) :: .int 0 :: .long 0 :: .long 1 :: .ref ((u 1)) :: .ref ((u 2)) :: .ref ((u 3)) :: .ref ((u 4)) :: .ref ((u 5)) :: .int 1 :: .int 0 :: .int 0 :: .int 0 :: .int 0 :: .int 0 :: .int (-1) :: .int (-1) :: .int 0 :: .ref ((u 6)) :: .int 0 :: .int 0 :: .ref ((u 7)) :: .ref ((u 8)) :: .ref ((u 9)) :: .ref ((u 10)) :: .ref ((u 11)) :: .ref ((u 12)) :: .ref ((u 13)) :: .int 0 :: .int 0 :: .int (-1) :: .int 0 :: .int (-1) :: .int 0 :: .ref ((u 14)) :: .int 0 :: .int 0 :: .int 0 :: .int 0 :: .int 0 :: .ref ((u 15)) :: .ref ((u 16)) :: .int 0 :: .int (-1) :: .int 0 :: .int 0 :: .int 0 :: .int 0 :: .ref ((u 17)) :: .ref ((u 18)) :: .ref ((u 19)) :: .int 0 :: .ref ((u 20)) :: .ref ((u 21)) :: .int 0 :: .ref ((u 22)) :: .int (-1) :: .int 0 :: .ref ((u 23)) :: .int (-1) :: .int (-1) :: .int 0 :: .ref ((u 24)) :: .ref ((u 25)) :: .int 0 :: []))), (((u 4)), .inl (cy 0, 600, .inl (upd f 0 (vp_nar .byte ((v >>> ((24 : Int32) &&& 31)).toInt8.toInt32)))))]) rfl (fun H locs h => ?_)
  refine lv_iinc (v := 16) (lv' := [(2, .int 16), (0, .ref q), (1, .int v)]) F.1 F.2.1 dX12_four_30 hl (k := 0) rfl (by decide) (by decide) rfl (fun ls hl => ?_)
  refine lv_goto (tgt := 3) F.1 F.2.1 dX12_four_33 (by decide) ?_
  refine lv_iload_n F.1 F.2.1 dX12_four_3 rfl (lv_at hl 0 rfl) ?_
  refine lv_if_lt (tgt := 36) F.1 F.2.1 dX12_four_4 (by decide) (fun hc => absurd hc (by decide)) (fun _ => ?_)
  refine lv_aload_n F.1 F.2.1 dX12_four_7 rfl (lv_at hl 1 rfl) ?_
  refine x_get F h 0 7 inlX12 rfl (by decide) mw_207 dX12_four_8 rfl rfl ?_
  refine lv_aload_n F.1 F.2.1 dX12_four_11 rfl (lv_at hl 1 rfl) ?_
  refine x_get F h 0 9 inlX12 rfl (by decide) mw_367 dX12_four_12 rfl rfl ?_
  refine lv_iload_n F.1 F.2.1 dX12_four_15 rfl (lv_at hl 2 rfl) ?_
  refine lv_iload_n F.1 F.2.1 dX12_four_16 rfl (lv_at hl 0 rfl) ?_
  refine lv_ishr F.1 F.2.1 dX12_four_17 ?_
  refine lv_i2b (v := (v >>> ((16 : Int32) &&& 31)).toInt8.toInt32) F.1 F.2.1 dX12_four_18 rfl ?_
  refine x_bast F h 1 rfl rfl (x_in (by decide +kernel)) dX12_four_19 (ws' := [(q, .inr (12, (.ref ((u 0)) :: .int 0 :: .long 0 :: .long 1 :: .ref ((u 1)) :: .ref ((u 2)) :: .ref ((u 3)) :: .ref ((u 4)) :: .ref ((u 5)) :: .int 1 :: .int 0 :: .int 0 :: .int 0 :: .int 0 :: .int 0 :: .int (-1) :: .int (-1) :: .int 0 :: .ref ((u 6)) :: .int 0 :: .int 0 :: .ref ((u 7)) :: .ref ((u 8)) :: .ref ((u 9)) :: .ref ((u 10)) :: .ref ((u 11)) :: .ref ((u 12)) :: .ref ((u 13)) :: .int 0 :: .int 0 :: .int (-1) :: .int 0 :: .int (-1) :: .int 0 :: .ref ((u 14)) :: .int 0 :: .int 0 :: .int 0 :: .int 0 :: .int 0 :: .ref ((u 15)) :: .ref ((u 16)) :: .int 0 :: .int (-1) :: .int 0 :: .int 0 :: .int 0 :: .int 0 :: .ref ((u 17)) :: .ref ((u 18)) :: .ref ((u 19)) :: .int 0 :: .ref ((u 20)) :: .ref ((u 21)) :: .int 0 :: .ref ((u 22)) :: .int (-1) :: .int 0 :: .ref ((u 23)) :: .int (-1) :: .int (-1) :: .int 0 :: .ref ((u 24)) :: .ref ((u 25)) :: .int 0 :: []))), (((u 4)), .inl (cy 0, 600, .inl (upd (upd f 0 (vp_nar .byte ((v >>> ((24 : Int32) &&& 31)).toInt8.toInt32))) 1 (vp_nar .byte ((v >>> ((16 : Int32) &&& 31)).toInt8.toInt32)))))]) rfl (fun H locs h => ?_)
  refine lv_aload_n F.1 F.2.1 dX12_four_20 rfl (lv_at hl 1 rfl) ?_
  refine lv_dup F.1 F.2.1 dX12_four_21 rfl ?_
  refine x_get F h 0 9 inlX12 rfl (by decide) mw_367 dX12_four_22 rfl rfl ?_
  refine lv_iconst (v := 1) F.1 F.2.1 dX12_four_25 (by decide) ?_
  refine lv_iadd F.1 F.2.1 dX12_four_26 ?_
  refine x_topi (y := 2) (by decide +kernel) ?_
  refine x_put F h 0 9 inlX12 tyX12_ok nmX12 rfl (by decide) mw_367 dX12_four_27 rfl rfl rfl rfl (Nat.le_of_ble_eq_true rfl) (ws' := [(q, .inr (12, (.ref ((u 0)) :: .int 0 :: .long 0 :: .long 1 :: .ref ((u 1)) :: .ref ((u 2)) :: .ref ((u 3)) :: .ref ((u 4)) :: .ref ((u 5)) :: .int 2 :: .int 0 :: .int 0 :: .int 0 :: .int 0 :: .int 0 :: .int (-1) :: .int (-1) :: .int 0 :: .ref ((u 6)) :: .int 0 :: .int 0 :: .ref ((u 7)) :: .ref ((u 8)) :: .ref ((u 9)) :: .ref ((u 10)) :: .ref ((u 11)) :: .ref ((u 12)) :: .ref ((u 13)) :: .int 0 :: .int 0 :: .int (-1) :: .int 0 :: .int (-1) :: .int 0 :: .ref ((u 14)) :: .int 0 :: .int 0 :: .int 0 :: .int 0 :: .int 0 :: .ref ((u 15)) :: .ref ((u 16)) :: .int 0 :: .int (-1) :: .int 0 :: .int 0 :: .int 0 :: .int 0 :: .ref ((u 17)) :: .ref ((u 18)) :: .ref ((u 19)) :: .int 0 :: .ref ((u 20)) :: .ref ((u 21)) :: .int 0 :: .ref ((u 22)) :: .int (-1) :: .int 0 :: .ref ((u 23)) :: .int (-1) :: .int (-1) :: .int 0 :: .ref ((u 24)) :: .ref ((u 25)) :: .int 0 :: []))), (((u 4)), .inl (cy 0, 600, .inl (upd (upd f 0 (vp_nar .byte ((v >>> ((24 : Int32) &&& 31)).toInt8.toInt32))) 1 (vp_nar .byte ((v >>> ((16 : Int32) &&& 31)).toInt8.toInt32)))))]) rfl (fun H locs h => ?_)
  refine lv_iinc (v := 8) (lv' := [(2, .int 8), (0, .ref q), (1, .int v)]) F.1 F.2.1 dX12_four_30 hl (k := 0) rfl (by decide) (by decide) rfl (fun ls hl => ?_)
  refine lv_goto (tgt := 3) F.1 F.2.1 dX12_four_33 (by decide) ?_
  refine lv_iload_n F.1 F.2.1 dX12_four_3 rfl (lv_at hl 0 rfl) ?_
  refine lv_if_lt (tgt := 36) F.1 F.2.1 dX12_four_4 (by decide) (fun hc => absurd hc (by decide)) (fun _ => ?_)
  refine lv_aload_n F.1 F.2.1 dX12_four_7 rfl (lv_at hl 1 rfl) ?_
  refine x_get F h 0 7 inlX12 rfl (by decide) mw_207 dX12_four_8 rfl rfl ?_
  refine lv_aload_n F.1 F.2.1 dX12_four_11 rfl (lv_at hl 1 rfl) ?_
  refine x_get F h 0 9 inlX12 rfl (by decide) mw_367 dX12_four_12 rfl rfl ?_
  refine lv_iload_n F.1 F.2.1 dX12_four_15 rfl (lv_at hl 2 rfl) ?_
  refine lv_iload_n F.1 F.2.1 dX12_four_16 rfl (lv_at hl 0 rfl) ?_
  refine lv_ishr F.1 F.2.1 dX12_four_17 ?_
  refine lv_i2b (v := (v >>> ((8 : Int32) &&& 31)).toInt8.toInt32) F.1 F.2.1 dX12_four_18 rfl ?_
  refine x_bast F h 1 rfl rfl (x_in (by decide +kernel)) dX12_four_19 (ws' := [(q, .inr (12, (.ref ((u 0)) :: .int 0 :: .long 0 :: .long 1 :: .ref ((u 1)) :: .ref ((u 2)) :: .ref ((u 3)) :: .ref ((u 4)) :: .ref ((u 5)) :: .int 2 :: .int 0 :: .int 0 :: .int 0 :: .int 0 :: .int 0 :: .int (-1) :: .int (-1) :: .int 0 :: .ref ((u 6)) :: .int 0 :: .int 0 :: .ref ((u 7)) :: .ref ((u 8)) :: .ref ((u 9)) :: .ref ((u 10)) :: .ref ((u 11)) :: .ref ((u 12)) :: .ref ((u 13)) :: .int 0 :: .int 0 :: .int (-1) :: .int 0 :: .int (-1) :: .int 0 :: .ref ((u 14)) :: .int 0 :: .int 0 :: .int 0 :: .int 0 :: .int 0 :: .ref ((u 15)) :: .ref ((u 16)) :: .int 0 :: .int (-1) :: .int 0 :: .int 0 :: .int 0 :: .int 0 :: .ref ((u 17)) :: .ref ((u 18)) :: .ref ((u 19)) :: .int 0 :: .ref ((u 20)) :: .ref ((u 21)) :: .int 0 :: .ref ((u 22)) :: .int (-1) :: .int 0 :: .ref ((u 23)) :: .int (-1) :: .int (-1) :: .int 0 :: .ref ((u 24)) :: .ref ((u 25)) :: .int 0 :: []))), (((u 4)), .inl (cy 0, 600, .inl (upd (upd (upd f 0 (vp_nar .byte ((v >>> ((24 : Int32) &&& 31)).toInt8.toInt32))) 1 (vp_nar .byte ((v >>> ((16 : Int32) &&& 31)).toInt8.toInt32))) 2 (vp_nar .byte ((v >>> ((8 : Int32) &&& 31)).toInt8.toInt32)))))]) rfl (fun H locs h => ?_)
  refine lv_aload_n F.1 F.2.1 dX12_four_20 rfl (lv_at hl 1 rfl) ?_
  refine lv_dup F.1 F.2.1 dX12_four_21 rfl ?_
  refine x_get F h 0 9 inlX12 rfl (by decide) mw_367 dX12_four_22 rfl rfl ?_
  refine lv_iconst (v := 1) F.1 F.2.1 dX12_four_25 (by decide) ?_
  refine lv_iadd F.1 F.2.1 dX12_four_26 ?_
  refine x_topi (y := 3) (by decide +kernel) ?_
  refine x_put F h 0 9 inlX12 tyX12_ok nmX12 rfl (by decide) mw_367 dX12_four_27 rfl rfl rfl rfl (Nat.le_of_ble_eq_true rfl) (ws' := [(q, .inr (12, (.ref ((u 0)) :: .int 0 :: .long 0 :: .long 1 :: .ref ((u 1)) :: .ref ((u 2)) :: .ref ((u 3)) :: .ref ((u 4)) :: .ref ((u 5)) :: .int 3 :: .int 0 :: .int 0 :: .int 0 :: .int 0 :: .int 0 :: .int (-1) :: .int (-1) :: .int 0 :: .ref ((u 6)) :: .int 0 :: .int 0 :: .ref ((u 7)) :: .ref ((u 8)) :: .ref ((u 9)) :: .ref ((u 10)) :: .ref ((u 11)) :: .ref ((u 12)) :: .ref ((u 13)) :: .int 0 :: .int 0 :: .int (-1) :: .int 0 :: .int (-1) :: .int 0 :: .ref ((u 14)) :: .int 0 :: .int 0 :: .int 0 :: .int 0 :: .int 0 :: .ref ((u 15)) :: .ref ((u 16)) :: .int 0 :: .int (-1) :: .int 0 :: .int 0 :: .int 0 :: .int 0 :: .ref ((u 17)) :: .ref ((u 18)) :: .ref ((u 19)) :: .int 0 :: .ref ((u 20)) :: .ref ((u 21)) :: .int 0 :: .ref ((u 22)) :: .int (-1) :: .int 0 :: .ref ((u 23)) :: .int (-1) :: .int (-1) :: .int 0 :: .ref ((u 24)) :: .ref ((u 25)) :: .int 0 :: []))), (((u 4)), .inl (cy 0, 600, .inl (upd (upd (upd f 0 (vp_nar .byte ((v >>> ((24 : Int32) &&& 31)).toInt8.toInt32))) 1 (vp_nar .byte ((v >>> ((16 : Int32) &&& 31)).toInt8.toInt32))) 2 (vp_nar .byte ((v >>> ((8 : Int32) &&& 31)).toInt8.toInt32)))))]) rfl (fun H locs h => ?_)
  refine lv_iinc (v := 0) (lv' := [(2, .int 0), (0, .ref q), (1, .int v)]) F.1 F.2.1 dX12_four_30 hl (k := 0) rfl (by decide) (by decide) rfl (fun ls hl => ?_)
  refine lv_goto (tgt := 3) F.1 F.2.1 dX12_four_33 (by decide) ?_
  refine lv_iload_n F.1 F.2.1 dX12_four_3 rfl (lv_at hl 0 rfl) ?_
  refine lv_if_lt (tgt := 36) F.1 F.2.1 dX12_four_4 (by decide) (fun hc => absurd hc (by decide)) (fun _ => ?_)
  refine lv_aload_n F.1 F.2.1 dX12_four_7 rfl (lv_at hl 1 rfl) ?_
  refine x_get F h 0 7 inlX12 rfl (by decide) mw_207 dX12_four_8 rfl rfl ?_
  refine lv_aload_n F.1 F.2.1 dX12_four_11 rfl (lv_at hl 1 rfl) ?_
  refine x_get F h 0 9 inlX12 rfl (by decide) mw_367 dX12_four_12 rfl rfl ?_
  refine lv_iload_n F.1 F.2.1 dX12_four_15 rfl (lv_at hl 2 rfl) ?_
  refine lv_iload_n F.1 F.2.1 dX12_four_16 rfl (lv_at hl 0 rfl) ?_
  refine lv_ishr F.1 F.2.1 dX12_four_17 ?_
  refine lv_i2b (v := (v >>> ((0 : Int32) &&& 31)).toInt8.toInt32) F.1 F.2.1 dX12_four_18 rfl ?_
  refine x_bast F h 1 rfl rfl (x_in (by decide +kernel)) dX12_four_19 (ws' := [(q, .inr (12, (.ref ((u 0)) :: .int 0 :: .long 0 :: .long 1 :: .ref ((u 1)) :: .ref ((u 2)) :: .ref ((u 3)) :: .ref ((u 4)) :: .ref ((u 5)) :: .int 3 :: .int 0 :: .int 0 :: .int 0 :: .int 0 :: .int 0 :: .int (-1) :: .int (-1) :: .int 0 :: .ref ((u 6)) :: .int 0 :: .int 0 :: .ref ((u 7)) :: .ref ((u 8)) :: .ref ((u 9)) :: .ref ((u 10)) :: .ref ((u 11)) :: .ref ((u 12)) :: .ref ((u 13)) :: .int 0 :: .int 0 :: .int (-1) :: .int 0 :: .int (-1) :: .int 0 :: .ref ((u 14)) :: .int 0 :: .int 0 :: .int 0 :: .int 0 :: .int 0 :: .ref ((u 15)) :: .ref ((u 16)) :: .int 0 :: .int (-1) :: .int 0 :: .int 0 :: .int 0 :: .int 0 :: .ref ((u 17)) :: .ref ((u 18)) :: .ref ((u 19)) :: .int 0 :: .ref ((u 20)) :: .ref ((u 21)) :: .int 0 :: .ref ((u 22)) :: .int (-1) :: .int 0 :: .ref ((u 23)) :: .int (-1) :: .int (-1) :: .int 0 :: .ref ((u 24)) :: .ref ((u 25)) :: .int 0 :: []))), (((u 4)), .inl (cy 0, 600, .inl (upd (upd (upd (upd f 0 (vp_nar .byte ((v >>> ((24 : Int32) &&& 31)).toInt8.toInt32))) 1 (vp_nar .byte ((v >>> ((16 : Int32) &&& 31)).toInt8.toInt32))) 2 (vp_nar .byte ((v >>> ((8 : Int32) &&& 31)).toInt8.toInt32))) 3 (vp_nar .byte ((v >>> ((0 : Int32) &&& 31)).toInt8.toInt32)))))]) rfl (fun H locs h => ?_)
  refine lv_aload_n F.1 F.2.1 dX12_four_20 rfl (lv_at hl 1 rfl) ?_
  refine lv_dup F.1 F.2.1 dX12_four_21 rfl ?_
  refine x_get F h 0 9 inlX12 rfl (by decide) mw_367 dX12_four_22 rfl rfl ?_
  refine lv_iconst (v := 1) F.1 F.2.1 dX12_four_25 (by decide) ?_
  refine lv_iadd F.1 F.2.1 dX12_four_26 ?_
  refine x_topi (y := 4) (by decide +kernel) ?_
  refine x_put F h 0 9 inlX12 tyX12_ok nmX12 rfl (by decide) mw_367 dX12_four_27 rfl rfl rfl rfl (Nat.le_of_ble_eq_true rfl) (ws' := [(q, .inr (12, (.ref ((u 0)) :: .int 0 :: .long 0 :: .long 1 :: .ref ((u 1)) :: .ref ((u 2)) :: .ref ((u 3)) :: .ref ((u 4)) :: .ref ((u 5)) :: .int 4 :: .int 0 :: .int 0 :: .int 0 :: .int 0 :: .int 0 :: .int (-1) :: .int (-1) :: .int 0 :: .ref ((u 6)) :: .int 0 :: .int 0 :: .ref ((u 7)) :: .ref ((u 8)) :: .ref ((u 9)) :: .ref ((u 10)) :: .ref ((u 11)) :: .ref ((u 12)) :: .ref ((u 13)) :: .int 0 :: .int 0 :: .int (-1) :: .int 0 :: .int (-1) :: .int 0 :: .ref ((u 14)) :: .int 0 :: .int 0 :: .int 0 :: .int 0 :: .int 0 :: .ref ((u 15)) :: .ref ((u 16)) :: .int 0 :: .int (-1) :: .int 0 :: .int 0 :: .int 0 :: .int 0 :: .ref ((u 17)) :: .ref ((u 18)) :: .ref ((u 19)) :: .int 0 :: .ref ((u 20)) :: .ref ((u 21)) :: .int 0 :: .ref ((u 22)) :: .int (-1) :: .int 0 :: .ref ((u 23)) :: .int (-1) :: .int (-1) :: .int 0 :: .ref ((u 24)) :: .ref ((u 25)) :: .int 0 :: []))), (((u 4)), .inl (cy 0, 600, .inl (upd (upd (upd (upd f 0 (vp_nar .byte ((v >>> ((24 : Int32) &&& 31)).toInt8.toInt32))) 1 (vp_nar .byte ((v >>> ((16 : Int32) &&& 31)).toInt8.toInt32))) 2 (vp_nar .byte ((v >>> ((8 : Int32) &&& 31)).toInt8.toInt32))) 3 (vp_nar .byte ((v >>> ((0 : Int32) &&& 31)).toInt8.toInt32)))))]) rfl (fun H locs h => ?_)
  refine lv_iinc (v := (-8)) (lv' := [(2, .int (-8)), (0, .ref q), (1, .int v)]) F.1 F.2.1 dX12_four_30 hl (k := 0) rfl (by decide) (by decide) rfl (fun ls hl => ?_)
  refine lv_goto (tgt := 3) F.1 F.2.1 dX12_four_33 (by decide) ?_
  refine lv_iload_n F.1 F.2.1 dX12_four_3 rfl (lv_at hl 0 rfl) ?_
  refine lv_if_lt (tgt := 36) F.1 F.2.1 dX12_four_4 (by decide) (fun _ => ?_) (fun hc => absurd (by decide) hc)
  exact x_vret F h hr hlk (fun _ => 0) [0, 1] (trivial) (by decide +kernel) rfl (Nat.le_of_ble_eq_true rfl) (Nat.le_of_ble_eq_true rfl) dX12_four_36
set_option maxHeartbeats 4000000 in
set_option maxRecDepth 100000 in
theorem c_m_four4 (l : Launch) (D : va_G) (cy : Nat → ClassId) (q : Nat) (u : Nat → Nat) (f : Nat → Int32) (v : Int32) : ∀ sz, Met l yX12_four (Cond.code yX12_four cX12_four 3 none :: wsL_law) { frames := 0, cells := 0, slots := 0, locals := 0 } (va_Pc [.ref q, .int v] (xP D cy ([mM q u 4 0 0 (-1) 0, (((u 4)), .inl (cy 0, 600, .inl f))]) sz)) (va_Qv (fun _ => True) (xB D (va_A ([mM q u 4 0 0 (-1) 0, (((u 4)), .inl (cy 0, 600, .inl f))]) sz) (fun _ => [mM q u 8 0 0 (-1) 0, (((u 4)), .inl (cy 0, 600, .inl (upd (upd (upd (upd f 4 (vp_nar .byte (v >>> ((24 : Int32) &&& 31)).toInt8.toInt32)) 5 (vp_nar .byte (v >>> ((16 : Int32) &&& 31)).toInt8.toInt32)) 6 (vp_nar .byte (v >>> ((8 : Int32) &&& 31)).toInt8.toInt32)) 7 (vp_nar .byte (v >>> ((0 : Int32) &&& 31)).toInt8.toInt32))))])) (va_A ([mM q u 4 0 0 (-1) 0, (((u 4)), .inl (cy 0, 600, .inl f))]) sz)) 0 0 (va_A ([mM q u 4 0 0 (-1) 0, (((u 4)), .inl (cy 0, 600, .inl f))]) sz) := by
  refine x_enter (fun A => va_Qv (fun _ => True) (xB D A (fun _ => [mM q u 8 0 0 (-1) 0, (((u 4)), .inl (cy 0, 600, .inl (upd (upd (upd (upd f 4 (vp_nar .byte (v >>> ((24 : Int32) &&& 31)).toInt8.toInt32)) 5 (vp_nar .byte (v >>> ((16 : Int32) &&& 31)).toInt8.toInt32)) 6 (vp_nar .byte (v >>> ((8 : Int32) &&& 31)).toInt8.toInt32)) 7 (vp_nar .byte (v >>> ((0 : Int32) &&& 31)).toInt8.toInt32))))])) A) (by decide +kernel) rfl (Nat.le_of_ble_eq_true rfl) ?_
  intro p e s m below meth c A ls F hr hlk hin h hl
  have hl : lv_has ls 3 [(0, .ref q), (1, .int v)] := hl
  have h : xS D cy A s.heap ([(q, .inr (12, (.ref ((u 0)) :: .int 0 :: .long 0 :: .long 1 :: .ref ((u 1)) :: .ref ((u 2)) :: .ref ((u 3)) :: .ref ((u 4)) :: .ref ((u 5)) :: .int 4 :: .int 0 :: .int 0 :: .int 0 :: .int 0 :: .int 0 :: .int (-1) :: .int (-1) :: .int 0 :: .ref ((u 6)) :: .int 0 :: .int 0 :: .ref ((u 7)) :: .ref ((u 8)) :: .ref ((u 9)) :: .ref ((u 10)) :: .ref ((u 11)) :: .ref ((u 12)) :: .ref ((u 13)) :: .int 0 :: .int 0 :: .int (-1) :: .int 0 :: .int (-1) :: .int 0 :: .ref ((u 14)) :: .int 0 :: .int 0 :: .int 0 :: .int 0 :: .int 0 :: .ref ((u 15)) :: .ref ((u 16)) :: .int 0 :: .int (-1) :: .int 0 :: .int 0 :: .int 0 :: .int 0 :: .ref ((u 17)) :: .ref ((u 18)) :: .ref ((u 19)) :: .int 0 :: .ref ((u 20)) :: .ref ((u 21)) :: .int 0 :: .ref ((u 22)) :: .int (-1) :: .int 0 :: .ref ((u 23)) :: .int (-1) :: .int (-1) :: .int 0 :: .ref ((u 24)) :: .ref ((u 25)) :: .int 0 :: []))), (((u 4)), .inl (cy 0, 600, .inl f))]) s s.heap [] := h
  refine lv_bipush (v := 24) F.1 F.2.1 dX12_four_0 (by decide) ?_
  refine lv_istore_n (lv' := [(2, .int 24), (0, .ref q), (1, .int v)]) F.1 F.2.1 dX12_four_2 rfl hl (by decide) rfl (fun ls hl => ?_)
  refine lv_iload_n F.1 F.2.1 dX12_four_3 rfl (lv_at hl 0 rfl) ?_
  refine lv_if_lt (tgt := 36) F.1 F.2.1 dX12_four_4 (by decide) (fun hc => absurd hc (by decide)) (fun _ => ?_)
  refine lv_aload_n F.1 F.2.1 dX12_four_7 rfl (lv_at hl 1 rfl) ?_
  refine x_get F h 0 7 inlX12 rfl (by decide) mw_207 dX12_four_8 rfl rfl ?_
  refine lv_aload_n F.1 F.2.1 dX12_four_11 rfl (lv_at hl 1 rfl) ?_
  refine x_get F h 0 9 inlX12 rfl (by decide) mw_367 dX12_four_12 rfl rfl ?_
  refine lv_iload_n F.1 F.2.1 dX12_four_15 rfl (lv_at hl 2 rfl) ?_
  refine lv_iload_n F.1 F.2.1 dX12_four_16 rfl (lv_at hl 0 rfl) ?_
  refine lv_ishr F.1 F.2.1 dX12_four_17 ?_
  refine lv_i2b (v := (v >>> ((24 : Int32) &&& 31)).toInt8.toInt32) F.1 F.2.1 dX12_four_18 rfl ?_
  refine x_bast F h 1 rfl rfl (x_in (by decide +kernel)) dX12_four_19 (ws' := [(q, .inr (12, (.ref ((u 0)) :: .int 0 :: .long 0 :: .long 1 :: .ref ((u 1)) :: .ref ((u 2)) :: .ref ((u 3)) :: .ref ((u 4)) :: .ref ((u 5)) :: .int 4 :: .int 0 :: .int 0 :: .int 0 :: .int 0 :: .int 0 :: .int (-1) :: .int (-1) :: .int 0 :: .ref ((u 6)) :: .int 0 :: .int 0 :: .ref ((u 7)) :: .ref ((u 8)) :: .ref ((u 9)) :: .ref ((u 10)) :: .ref ((u 11)) :: .ref ((u 12)) :: .ref ((u 13)) :: .int 0 :: .int 0 :: .int (-1) :: .int 0 :: .int (-1) :: .int 0 :: .ref ((u 14)) :: .int 0 :: .int 0 :: .int 0 :: .int 0 :: .int 0 :: .ref ((u 15)) :: .ref ((u 16)) :: .int 0 :: .int (-1) :: .int 0 :: .int 0 :: .int 0 :: .int 0 :: .ref ((u 17)) :: .ref ((u 18)) :: .ref ((u 19)) :: .int 0 :: .ref ((u 20)) :: .ref ((u 21)) :: .int 0 :: .ref ((u 22)) :: .int (-1) :: .int 0 :: .ref ((u 23)) :: .int (-1) :: .int (-1) :: .int 0 :: .ref ((u 24)) :: .ref ((u 25)) :: .int 0 :: []))), (((u 4)), .inl (cy 0, 600, .inl (upd f 4 (vp_nar .byte ((v >>> ((24 : Int32) &&& 31)).toInt8.toInt32)))))]) rfl (fun H locs h => ?_)
  refine lv_aload_n F.1 F.2.1 dX12_four_20 rfl (lv_at hl 1 rfl) ?_
  refine lv_dup F.1 F.2.1 dX12_four_21 rfl ?_
  refine x_get F h 0 9 inlX12 rfl (by decide) mw_367 dX12_four_22 rfl rfl ?_
  refine lv_iconst (v := 1) F.1 F.2.1 dX12_four_25 (by decide) ?_
  refine lv_iadd F.1 F.2.1 dX12_four_26 ?_
  refine x_topi (y := 5) (by decide +kernel) ?_
  refine x_put F h 0 9 inlX12 tyX12_ok nmX12 rfl (by decide) mw_367 dX12_four_27 rfl rfl rfl rfl (Nat.le_of_ble_eq_true rfl) (ws' := [(q, .inr (12, (.ref ((u 0)) :: .int 0 :: .long 0 :: .long 1 :: .ref ((u 1)) :: .ref ((u 2)) :: .ref ((u 3)) :: .ref ((u 4)) :: .ref ((u 5)) :: .int 5 :: .int 0 :: .int 0 :: .int 0 :: .int 0 :: .int 0 :: .int (-1) :: .int (-1) :: .int 0 :: .ref ((u 6)) :: .int 0 :: .int 0 :: .ref ((u 7)) :: .ref ((u 8)) :: .ref ((u 9)) :: .ref ((u 10)) :: .ref ((u 11)) :: .ref ((u 12)) :: .ref ((u 13)) :: .int 0 :: .int 0 :: .int (-1) :: .int 0 :: .int (-1) :: .int 0 :: .ref ((u 14)) :: .int 0 :: .int 0 :: .int 0 :: .int 0 :: .int 0 :: .ref ((u 15)) :: .ref ((u 16)) :: .int 0 :: .int (-1) :: .int 0 :: .int 0 :: .int 0 :: .int 0 :: .ref ((u 17)) :: .ref ((u 18)) :: .ref ((u 19)) :: .int 0 :: .ref ((u 20)) :: .ref ((u 21)) :: .int 0 :: .ref ((u 22)) :: .int (-1) :: .int 0 :: .ref ((u 23)) :: .int (-1) :: .int (-1) :: .int 0 :: .ref ((u 24)) :: .ref ((u 25)) :: .int 0 :: []))), (((u 4)), .inl (cy 0, 600, .inl (upd f 4 (vp_nar .byte ((v >>> ((24 : Int32) &&& 31)).toInt8.toInt32)))))]) rfl (fun H locs h => ?_)
  refine lv_iinc (v := 16) (lv' := [(2, .int 16), (0, .ref q), (1, .int v)]) F.1 F.2.1 dX12_four_30 hl (k := 0) rfl (by decide) (by decide) rfl (fun ls hl => ?_)
  refine lv_goto (tgt := 3) F.1 F.2.1 dX12_four_33 (by decide) ?_
  refine lv_iload_n F.1 F.2.1 dX12_four_3 rfl (lv_at hl 0 rfl) ?_
  refine lv_if_lt (tgt := 36) F.1 F.2.1 dX12_four_4 (by decide) (fun hc => absurd hc (by decide)) (fun _ => ?_)
  refine lv_aload_n F.1 F.2.1 dX12_four_7 rfl (lv_at hl 1 rfl) ?_
  refine x_get F h 0 7 inlX12 rfl (by decide) mw_207 dX12_four_8 rfl rfl ?_
  refine lv_aload_n F.1 F.2.1 dX12_four_11 rfl (lv_at hl 1 rfl) ?_
  refine x_get F h 0 9 inlX12 rfl (by decide) mw_367 dX12_four_12 rfl rfl ?_
  refine lv_iload_n F.1 F.2.1 dX12_four_15 rfl (lv_at hl 2 rfl) ?_
  refine lv_iload_n F.1 F.2.1 dX12_four_16 rfl (lv_at hl 0 rfl) ?_
  refine lv_ishr F.1 F.2.1 dX12_four_17 ?_
  refine lv_i2b (v := (v >>> ((16 : Int32) &&& 31)).toInt8.toInt32) F.1 F.2.1 dX12_four_18 rfl ?_
  refine x_bast F h 1 rfl rfl (x_in (by decide +kernel)) dX12_four_19 (ws' := [(q, .inr (12, (.ref ((u 0)) :: .int 0 :: .long 0 :: .long 1 :: .ref ((u 1)) :: .ref ((u 2)) :: .ref ((u 3)) :: .ref ((u 4)) :: .ref ((u 5)) :: .int 5 :: .int 0 :: .int 0 :: .int 0 :: .int 0 :: .int 0 :: .int (-1) :: .int (-1) :: .int 0 :: .ref ((u 6)) :: .int 0 :: .int 0 :: .ref ((u 7)) :: .ref ((u 8)) :: .ref ((u 9)) :: .ref ((u 10)) :: .ref ((u 11)) :: .ref ((u 12)) :: .ref ((u 13)) :: .int 0 :: .int 0 :: .int (-1) :: .int 0 :: .int (-1) :: .int 0 :: .ref ((u 14)) :: .int 0 :: .int 0 :: .int 0 :: .int 0 :: .int 0 :: .ref ((u 15)) :: .ref ((u 16)) :: .int 0 :: .int (-1) :: .int 0 :: .int 0 :: .int 0 :: .int 0 :: .ref ((u 17)) :: .ref ((u 18)) :: .ref ((u 19)) :: .int 0 :: .ref ((u 20)) :: .ref ((u 21)) :: .int 0 :: .ref ((u 22)) :: .int (-1) :: .int 0 :: .ref ((u 23)) :: .int (-1) :: .int (-1) :: .int 0 :: .ref ((u 24)) :: .ref ((u 25)) :: .int 0 :: []))), (((u 4)), .inl (cy 0, 600, .inl (upd (upd f 4 (vp_nar .byte ((v >>> ((24 : Int32) &&& 31)).toInt8.toInt32))) 5 (vp_nar .byte ((v >>> ((16 : Int32) &&& 31)).toInt8.toInt32)))))]) rfl (fun H locs h => ?_)
  refine lv_aload_n F.1 F.2.1 dX12_four_20 rfl (lv_at hl 1 rfl) ?_
  refine lv_dup F.1 F.2.1 dX12_four_21 rfl ?_
  refine x_get F h 0 9 inlX12 rfl (by decide) mw_367 dX12_four_22 rfl rfl ?_
  refine lv_iconst (v := 1) F.1 F.2.1 dX12_four_25 (by decide) ?_
  refine lv_iadd F.1 F.2.1 dX12_four_26 ?_
  refine x_topi (y := 6) (by decide +kernel) ?_
  refine x_put F h 0 9 inlX12 tyX12_ok nmX12 rfl (by decide) mw_367 dX12_four_27 rfl rfl rfl rfl (Nat.le_of_ble_eq_true rfl) (ws' := [(q, .inr (12, (.ref ((u 0)) :: .int 0 :: .long 0 :: .long 1 :: .ref ((u 1)) :: .ref ((u 2)) :: .ref ((u 3)) :: .ref ((u 4)) :: .ref ((u 5)) :: .int 6 :: .int 0 :: .int 0 :: .int 0 :: .int 0 :: .int 0 :: .int (-1) :: .int (-1) :: .int 0 :: .ref ((u 6)) :: .int 0 :: .int 0 :: .ref ((u 7)) :: .ref ((u 8)) :: .ref ((u 9)) :: .ref ((u 10)) :: .ref ((u 11)) :: .ref ((u 12)) :: .ref ((u 13)) :: .int 0 :: .int 0 :: .int (-1) :: .int 0 :: .int (-1) :: .int 0 :: .ref ((u 14)) :: .int 0 :: .int 0 :: .int 0 :: .int 0 :: .int 0 :: .ref ((u 15)) :: .ref ((u 16)) :: .int 0 :: .int (-1) :: .int 0 :: .int 0 :: .int 0 :: .int 0 :: .ref ((u 17)) :: .ref ((u 18)) :: .ref ((u 19)) :: .int 0 :: .ref ((u 20)) :: .ref ((u 21)) :: .int 0 :: .ref ((u 22)) :: .int (-1) :: .int 0 :: .ref ((u 23)) :: .int (-1) :: .int (-1) :: .int 0 :: .ref ((u 24)) :: .ref ((u 25)) :: .int 0 :: []))), (((u 4)), .inl (cy 0, 600, .inl (upd (upd f 4 (vp_nar .byte ((v >>> ((24 : Int32) &&& 31)).toInt8.toInt32))) 5 (vp_nar .byte ((v >>> ((16 : Int32) &&& 31)).toInt8.toInt32)))))]) rfl (fun H locs h => ?_)
  refine lv_iinc (v := 8) (lv' := [(2, .int 8), (0, .ref q), (1, .int v)]) F.1 F.2.1 dX12_four_30 hl (k := 0) rfl (by decide) (by decide) rfl (fun ls hl => ?_)
  refine lv_goto (tgt := 3) F.1 F.2.1 dX12_four_33 (by decide) ?_
  refine lv_iload_n F.1 F.2.1 dX12_four_3 rfl (lv_at hl 0 rfl) ?_
  refine lv_if_lt (tgt := 36) F.1 F.2.1 dX12_four_4 (by decide) (fun hc => absurd hc (by decide)) (fun _ => ?_)
  refine lv_aload_n F.1 F.2.1 dX12_four_7 rfl (lv_at hl 1 rfl) ?_
  refine x_get F h 0 7 inlX12 rfl (by decide) mw_207 dX12_four_8 rfl rfl ?_
  refine lv_aload_n F.1 F.2.1 dX12_four_11 rfl (lv_at hl 1 rfl) ?_
  refine x_get F h 0 9 inlX12 rfl (by decide) mw_367 dX12_four_12 rfl rfl ?_
  refine lv_iload_n F.1 F.2.1 dX12_four_15 rfl (lv_at hl 2 rfl) ?_
  refine lv_iload_n F.1 F.2.1 dX12_four_16 rfl (lv_at hl 0 rfl) ?_
  refine lv_ishr F.1 F.2.1 dX12_four_17 ?_
  refine lv_i2b (v := (v >>> ((8 : Int32) &&& 31)).toInt8.toInt32) F.1 F.2.1 dX12_four_18 rfl ?_
  refine x_bast F h 1 rfl rfl (x_in (by decide +kernel)) dX12_four_19 (ws' := [(q, .inr (12, (.ref ((u 0)) :: .int 0 :: .long 0 :: .long 1 :: .ref ((u 1)) :: .ref ((u 2)) :: .ref ((u 3)) :: .ref ((u 4)) :: .ref ((u 5)) :: .int 6 :: .int 0 :: .int 0 :: .int 0 :: .int 0 :: .int 0 :: .int (-1) :: .int (-1) :: .int 0 :: .ref ((u 6)) :: .int 0 :: .int 0 :: .ref ((u 7)) :: .ref ((u 8)) :: .ref ((u 9)) :: .ref ((u 10)) :: .ref ((u 11)) :: .ref ((u 12)) :: .ref ((u 13)) :: .int 0 :: .int 0 :: .int (-1) :: .int 0 :: .int (-1) :: .int 0 :: .ref ((u 14)) :: .int 0 :: .int 0 :: .int 0 :: .int 0 :: .int 0 :: .ref ((u 15)) :: .ref ((u 16)) :: .int 0 :: .int (-1) :: .int 0 :: .int 0 :: .int 0 :: .int 0 :: .ref ((u 17)) :: .ref ((u 18)) :: .ref ((u 19)) :: .int 0 :: .ref ((u 20)) :: .ref ((u 21)) :: .int 0 :: .ref ((u 22)) :: .int (-1) :: .int 0 :: .ref ((u 23)) :: .int (-1) :: .int (-1) :: .int 0 :: .ref ((u 24)) :: .ref ((u 25)) :: .int 0 :: []))), (((u 4)), .inl (cy 0, 600, .inl (upd (upd (upd f 4 (vp_nar .byte ((v >>> ((24 : Int32) &&& 31)).toInt8.toInt32))) 5 (vp_nar .byte ((v >>> ((16 : Int32) &&& 31)).toInt8.toInt32))) 6 (vp_nar .byte ((v >>> ((8 : Int32) &&& 31)).toInt8.toInt32)))))]) rfl (fun H locs h => ?_)
  refine lv_aload_n F.1 F.2.1 dX12_four_20 rfl (lv_at hl 1 rfl) ?_
  refine lv_dup F.1 F.2.1 dX12_four_21 rfl ?_
  refine x_get F h 0 9 inlX12 rfl (by decide) mw_367 dX12_four_22 rfl rfl ?_
  refine lv_iconst (v := 1) F.1 F.2.1 dX12_four_25 (by decide) ?_
  refine lv_iadd F.1 F.2.1 dX12_four_26 ?_
  refine x_topi (y := 7) (by decide +kernel) ?_
  refine x_put F h 0 9 inlX12 tyX12_ok nmX12 rfl (by decide) mw_367 dX12_four_27 rfl rfl rfl rfl (Nat.le_of_ble_eq_true rfl) (ws' := [(q, .inr (12, (.ref ((u 0)) :: .int 0 :: .long 0 :: .long 1 :: .ref ((u 1)) :: .ref ((u 2)) :: .ref ((u 3)) :: .ref ((u 4)) :: .ref ((u 5)) :: .int 7 :: .int 0 :: .int 0 :: .int 0 :: .int 0 :: .int 0 :: .int (-1) :: .int (-1) :: .int 0 :: .ref ((u 6)) :: .int 0 :: .int 0 :: .ref ((u 7)) :: .ref ((u 8)) :: .ref ((u 9)) :: .ref ((u 10)) :: .ref ((u 11)) :: .ref ((u 12)) :: .ref ((u 13)) :: .int 0 :: .int 0 :: .int (-1) :: .int 0 :: .int (-1) :: .int 0 :: .ref ((u 14)) :: .int 0 :: .int 0 :: .int 0 :: .int 0 :: .int 0 :: .ref ((u 15)) :: .ref ((u 16)) :: .int 0 :: .int (-1) :: .int 0 :: .int 0 :: .int 0 :: .int 0 :: .ref ((u 17)) :: .ref ((u 18)) :: .ref ((u 19)) :: .int 0 :: .ref ((u 20)) :: .ref ((u 21)) :: .int 0 :: .ref ((u 22)) :: .int (-1) :: .int 0 :: .ref ((u 23)) :: .int (-1) :: .int (-1) :: .int 0 :: .ref ((u 24)) :: .ref ((u 25)) :: .int 0 :: []))), (((u 4)), .inl (cy 0, 600, .inl (upd (upd (upd f 4 (vp_nar .byte ((v >>> ((24 : Int32) &&& 31)).toInt8.toInt32))) 5 (vp_nar .byte ((v >>> ((16 : Int32) &&& 31)).toInt8.toInt32))) 6 (vp_nar .byte ((v >>> ((8 : Int32) &&& 31)).toInt8.toInt32)))))]) rfl (fun H locs h => ?_)
  refine lv_iinc (v := 0) (lv' := [(2, .int 0), (0, .ref q), (1, .int v)]) F.1 F.2.1 dX12_four_30 hl (k := 0) rfl (by decide) (by decide) rfl (fun ls hl => ?_)
  refine lv_goto (tgt := 3) F.1 F.2.1 dX12_four_33 (by decide) ?_
  refine lv_iload_n F.1 F.2.1 dX12_four_3 rfl (lv_at hl 0 rfl) ?_
  refine lv_if_lt (tgt := 36) F.1 F.2.1 dX12_four_4 (by decide) (fun hc => absurd hc (by decide)) (fun _ => ?_)
  refine lv_aload_n F.1 F.2.1 dX12_four_7 rfl (lv_at hl 1 rfl) ?_
  refine x_get F h 0 7 inlX12 rfl (by decide) mw_207 dX12_four_8 rfl rfl ?_
  refine lv_aload_n F.1 F.2.1 dX12_four_11 rfl (lv_at hl 1 rfl) ?_
  refine x_get F h 0 9 inlX12 rfl (by decide) mw_367 dX12_four_12 rfl rfl ?_
  refine lv_iload_n F.1 F.2.1 dX12_four_15 rfl (lv_at hl 2 rfl) ?_
  refine lv_iload_n F.1 F.2.1 dX12_four_16 rfl (lv_at hl 0 rfl) ?_
  refine lv_ishr F.1 F.2.1 dX12_four_17 ?_
  refine lv_i2b (v := (v >>> ((0 : Int32) &&& 31)).toInt8.toInt32) F.1 F.2.1 dX12_four_18 rfl ?_
  refine x_bast F h 1 rfl rfl (x_in (by decide +kernel)) dX12_four_19 (ws' := [(q, .inr (12, (.ref ((u 0)) :: .int 0 :: .long 0 :: .long 1 :: .ref ((u 1)) :: .ref ((u 2)) :: .ref ((u 3)) :: .ref ((u 4)) :: .ref ((u 5)) :: .int 7 :: .int 0 :: .int 0 :: .int 0 :: .int 0 :: .int 0 :: .int (-1) :: .int (-1) :: .int 0 :: .ref ((u 6)) :: .int 0 :: .int 0 :: .ref ((u 7)) :: .ref ((u 8)) :: .ref ((u 9)) :: .ref ((u 10)) :: .ref ((u 11)) :: .ref ((u 12)) :: .ref ((u 13)) :: .int 0 :: .int 0 :: .int (-1) :: .int 0 :: .int (-1) :: .int 0 :: .ref ((u 14)) :: .int 0 :: .int 0 :: .int 0 :: .int 0 :: .int 0 :: .ref ((u 15)) :: .ref ((u 16)) :: .int 0 :: .int (-1) :: .int 0 :: .int 0 :: .int 0 :: .int 0 :: .ref ((u 17)) :: .ref ((u 18)) :: .ref ((u 19)) :: .int 0 :: .ref ((u 20)) :: .ref ((u 21)) :: .int 0 :: .ref ((u 22)) :: .int (-1) :: .int 0 :: .ref ((u 23)) :: .int (-1) :: .int (-1) :: .int 0 :: .ref ((u 24)) :: .ref ((u 25)) :: .int 0 :: []))), (((u 4)), .inl (cy 0, 600, .inl (upd (upd (upd (upd f 4 (vp_nar .byte ((v >>> ((24 : Int32) &&& 31)).toInt8.toInt32))) 5 (vp_nar .byte ((v >>> ((16 : Int32) &&& 31)).toInt8.toInt32))) 6 (vp_nar .byte ((v >>> ((8 : Int32) &&& 31)).toInt8.toInt32))) 7 (vp_nar .byte ((v >>> ((0 : Int32) &&& 31)).toInt8.toInt32)))))]) rfl (fun H locs h => ?_)
  refine lv_aload_n F.1 F.2.1 dX12_four_20 rfl (lv_at hl 1 rfl) ?_
  refine lv_dup F.1 F.2.1 dX12_four_21 rfl ?_
  refine x_get F h 0 9 inlX12 rfl (by decide) mw_367 dX12_four_22 rfl rfl ?_
  refine lv_iconst (v := 1) F.1 F.2.1 dX12_four_25 (by decide) ?_
  refine lv_iadd F.1 F.2.1 dX12_four_26 ?_
  refine x_topi (y := 8) (by decide +kernel) ?_
  refine x_put F h 0 9 inlX12 tyX12_ok nmX12 rfl (by decide) mw_367 dX12_four_27 rfl rfl rfl rfl (Nat.le_of_ble_eq_true rfl) (ws' := [(q, .inr (12, (.ref ((u 0)) :: .int 0 :: .long 0 :: .long 1 :: .ref ((u 1)) :: .ref ((u 2)) :: .ref ((u 3)) :: .ref ((u 4)) :: .ref ((u 5)) :: .int 8 :: .int 0 :: .int 0 :: .int 0 :: .int 0 :: .int 0 :: .int (-1) :: .int (-1) :: .int 0 :: .ref ((u 6)) :: .int 0 :: .int 0 :: .ref ((u 7)) :: .ref ((u 8)) :: .ref ((u 9)) :: .ref ((u 10)) :: .ref ((u 11)) :: .ref ((u 12)) :: .ref ((u 13)) :: .int 0 :: .int 0 :: .int (-1) :: .int 0 :: .int (-1) :: .int 0 :: .ref ((u 14)) :: .int 0 :: .int 0 :: .int 0 :: .int 0 :: .int 0 :: .ref ((u 15)) :: .ref ((u 16)) :: .int 0 :: .int (-1) :: .int 0 :: .int 0 :: .int 0 :: .int 0 :: .ref ((u 17)) :: .ref ((u 18)) :: .ref ((u 19)) :: .int 0 :: .ref ((u 20)) :: .ref ((u 21)) :: .int 0 :: .ref ((u 22)) :: .int (-1) :: .int 0 :: .ref ((u 23)) :: .int (-1) :: .int (-1) :: .int 0 :: .ref ((u 24)) :: .ref ((u 25)) :: .int 0 :: []))), (((u 4)), .inl (cy 0, 600, .inl (upd (upd (upd (upd f 4 (vp_nar .byte ((v >>> ((24 : Int32) &&& 31)).toInt8.toInt32))) 5 (vp_nar .byte ((v >>> ((16 : Int32) &&& 31)).toInt8.toInt32))) 6 (vp_nar .byte ((v >>> ((8 : Int32) &&& 31)).toInt8.toInt32))) 7 (vp_nar .byte ((v >>> ((0 : Int32) &&& 31)).toInt8.toInt32)))))]) rfl (fun H locs h => ?_)
  refine lv_iinc (v := (-8)) (lv' := [(2, .int (-8)), (0, .ref q), (1, .int v)]) F.1 F.2.1 dX12_four_30 hl (k := 0) rfl (by decide) (by decide) rfl (fun ls hl => ?_)
  refine lv_goto (tgt := 3) F.1 F.2.1 dX12_four_33 (by decide) ?_
  refine lv_iload_n F.1 F.2.1 dX12_four_3 rfl (lv_at hl 0 rfl) ?_
  refine lv_if_lt (tgt := 36) F.1 F.2.1 dX12_four_4 (by decide) (fun _ => ?_) (fun hc => absurd (by decide) hc)
  exact x_vret F h hr hlk (fun _ => 0) [0, 1] (trivial) (by decide +kernel) rfl (Nat.le_of_ble_eq_true rfl) (Nat.le_of_ble_eq_true rfl) dX12_four_36
set_option maxHeartbeats 4000000 in
set_option maxRecDepth 100000 in
theorem c_m_four8 (l : Launch) (D : va_G) (cy : Nat → ClassId) (q : Nat) (u : Nat → Nat) (f : Nat → Int32) (v : Int32) : ∀ sz, Met l yX12_four (Cond.code yX12_four cX12_four 3 none :: wsL_law) { frames := 0, cells := 0, slots := 0, locals := 0 } (va_Pc [.ref q, .int v] (xP D cy ([mM q u 8 0 0 (-1) 0, (((u 4)), .inl (cy 0, 600, .inl f))]) sz)) (va_Qv (fun _ => True) (xB D (va_A ([mM q u 8 0 0 (-1) 0, (((u 4)), .inl (cy 0, 600, .inl f))]) sz) (fun _ => [mM q u 12 0 0 (-1) 0, (((u 4)), .inl (cy 0, 600, .inl (upd (upd (upd (upd f 8 (vp_nar .byte (v >>> ((24 : Int32) &&& 31)).toInt8.toInt32)) 9 (vp_nar .byte (v >>> ((16 : Int32) &&& 31)).toInt8.toInt32)) 10 (vp_nar .byte (v >>> ((8 : Int32) &&& 31)).toInt8.toInt32)) 11 (vp_nar .byte (v >>> ((0 : Int32) &&& 31)).toInt8.toInt32))))])) (va_A ([mM q u 8 0 0 (-1) 0, (((u 4)), .inl (cy 0, 600, .inl f))]) sz)) 0 0 (va_A ([mM q u 8 0 0 (-1) 0, (((u 4)), .inl (cy 0, 600, .inl f))]) sz) := by
  refine x_enter (fun A => va_Qv (fun _ => True) (xB D A (fun _ => [mM q u 12 0 0 (-1) 0, (((u 4)), .inl (cy 0, 600, .inl (upd (upd (upd (upd f 8 (vp_nar .byte (v >>> ((24 : Int32) &&& 31)).toInt8.toInt32)) 9 (vp_nar .byte (v >>> ((16 : Int32) &&& 31)).toInt8.toInt32)) 10 (vp_nar .byte (v >>> ((8 : Int32) &&& 31)).toInt8.toInt32)) 11 (vp_nar .byte (v >>> ((0 : Int32) &&& 31)).toInt8.toInt32))))])) A) (by decide +kernel) rfl (Nat.le_of_ble_eq_true rfl) ?_
  intro p e s m below meth c A ls F hr hlk hin h hl
  have hl : lv_has ls 3 [(0, .ref q), (1, .int v)] := hl
  have h : xS D cy A s.heap ([(q, .inr (12, (.ref ((u 0)) :: .int 0 :: .long 0 :: .long 1 :: .ref ((u 1)) :: .ref ((u 2)) :: .ref ((u 3)) :: .ref ((u 4)) :: .ref ((u 5)) :: .int 8 :: .int 0 :: .int 0 :: .int 0 :: .int 0 :: .int 0 :: .int (-1) :: .int (-1) :: .int 0 :: .ref ((u 6)) :: .int 0 :: .int 0 :: .ref ((u 7)) :: .ref ((u 8)) :: .ref ((u 9)) :: .ref ((u 10)) :: .ref ((u 11)) :: .ref ((u 12)) :: .ref ((u 13)) :: .int 0 :: .int 0 :: .int (-1) :: .int 0 :: .int (-1) :: .int 0 :: .ref ((u 14)) :: .int 0 :: .int 0 :: .int 0 :: .int 0 :: .int 0 :: .ref ((u 15)) :: .ref ((u 16)) :: .int 0 :: .int (-1) :: .int 0 :: .int 0 :: .int 0 :: .int 0 :: .ref ((u 17)) :: .ref ((u 18)) :: .ref ((u 19)) :: .int 0 :: .ref ((u 20)) :: .ref ((u 21)) :: .int 0 :: .ref ((u 22)) :: .int (-1) :: .int 0 :: .ref ((u 23)) :: .int (-1) :: .int (-1) :: .int 0 :: .ref ((u 24)) :: .ref ((u 25)) :: .int 0 :: []))), (((u 4)), .inl (cy 0, 600, .inl f))]) s s.heap [] := h
  refine lv_bipush (v := 24) F.1 F.2.1 dX12_four_0 (by decide) ?_
  refine lv_istore_n (lv' := [(2, .int 24), (0, .ref q), (1, .int v)]) F.1 F.2.1 dX12_four_2 rfl hl (by decide) rfl (fun ls hl => ?_)
  refine lv_iload_n F.1 F.2.1 dX12_four_3 rfl (lv_at hl 0 rfl) ?_
  refine lv_if_lt (tgt := 36) F.1 F.2.1 dX12_four_4 (by decide) (fun hc => absurd hc (by decide)) (fun _ => ?_)
  refine lv_aload_n F.1 F.2.1 dX12_four_7 rfl (lv_at hl 1 rfl) ?_
  refine x_get F h 0 7 inlX12 rfl (by decide) mw_207 dX12_four_8 rfl rfl ?_
  refine lv_aload_n F.1 F.2.1 dX12_four_11 rfl (lv_at hl 1 rfl) ?_
  refine x_get F h 0 9 inlX12 rfl (by decide) mw_367 dX12_four_12 rfl rfl ?_
  refine lv_iload_n F.1 F.2.1 dX12_four_15 rfl (lv_at hl 2 rfl) ?_
  refine lv_iload_n F.1 F.2.1 dX12_four_16 rfl (lv_at hl 0 rfl) ?_
  refine lv_ishr F.1 F.2.1 dX12_four_17 ?_
  refine lv_i2b (v := (v >>> ((24 : Int32) &&& 31)).toInt8.toInt32) F.1 F.2.1 dX12_four_18 rfl ?_
  refine x_bast F h 1 rfl rfl (x_in (by decide +kernel)) dX12_four_19 (ws' := [(q, .inr (12, (.ref ((u 0)) :: .int 0 :: .long 0 :: .long 1 :: .ref ((u 1)) :: .ref ((u 2)) :: .ref ((u 3)) :: .ref ((u 4)) :: .ref ((u 5)) :: .int 8 :: .int 0 :: .int 0 :: .int 0 :: .int 0 :: .int 0 :: .int (-1) :: .int (-1) :: .int 0 :: .ref ((u 6)) :: .int 0 :: .int 0 :: .ref ((u 7)) :: .ref ((u 8)) :: .ref ((u 9)) :: .ref ((u 10)) :: .ref ((u 11)) :: .ref ((u 12)) :: .ref ((u 13)) :: .int 0 :: .int 0 :: .int (-1) :: .int 0 :: .int (-1) :: .int 0 :: .ref ((u 14)) :: .int 0 :: .int 0 :: .int 0 :: .int 0 :: .int 0 :: .ref ((u 15)) :: .ref ((u 16)) :: .int 0 :: .int (-1) :: .int 0 :: .int 0 :: .int 0 :: .int 0 :: .ref ((u 17)) :: .ref ((u 18)) :: .ref ((u 19)) :: .int 0 :: .ref ((u 20)) :: .ref ((u 21)) :: .int 0 :: .ref ((u 22)) :: .int (-1) :: .int 0 :: .ref ((u 23)) :: .int (-1) :: .int (-1) :: .int 0 :: .ref ((u 24)) :: .ref ((u 25)) :: .int 0 :: []))), (((u 4)), .inl (cy 0, 600, .inl (upd f 8 (vp_nar .byte ((v >>> ((24 : Int32) &&& 31)).toInt8.toInt32)))))]) rfl (fun H locs h => ?_)
  refine lv_aload_n F.1 F.2.1 dX12_four_20 rfl (lv_at hl 1 rfl) ?_
  refine lv_dup F.1 F.2.1 dX12_four_21 rfl ?_
  refine x_get F h 0 9 inlX12 rfl (by decide) mw_367 dX12_four_22 rfl rfl ?_
  refine lv_iconst (v := 1) F.1 F.2.1 dX12_four_25 (by decide) ?_
  refine lv_iadd F.1 F.2.1 dX12_four_26 ?_
  refine x_topi (y := 9) (by decide +kernel) ?_
  refine x_put F h 0 9 inlX12 tyX12_ok nmX12 rfl (by decide) mw_367 dX12_four_27 rfl rfl rfl rfl (Nat.le_of_ble_eq_true rfl) (ws' := [(q, .inr (12, (.ref ((u 0)) :: .int 0 :: .long 0 :: .long 1 :: .ref ((u 1)) :: .ref ((u 2)) :: .ref ((u 3)) :: .ref ((u 4)) :: .ref ((u 5)) :: .int 9 :: .int 0 :: .int 0 :: .int 0 :: .int 0 :: .int 0 :: .int (-1) :: .int (-1) :: .int 0 :: .ref ((u 6)) :: .int 0 :: .int 0 :: .ref ((u 7)) :: .ref ((u 8)) :: .ref ((u 9)) :: .ref ((u 10)) :: .ref ((u 11)) :: .ref ((u 12)) :: .ref ((u 13)) :: .int 0 :: .int 0 :: .int (-1) :: .int 0 :: .int (-1) :: .int 0 :: .ref ((u 14)) :: .int 0 :: .int 0 :: .int 0 :: .int 0 :: .int 0 :: .ref ((u 15)) :: .ref ((u 16)) :: .int 0 :: .int (-1) :: .int 0 :: .int 0 :: .int 0 :: .int 0 :: .ref ((u 17)) :: .ref ((u 18)) :: .ref ((u 19)) :: .int 0 :: .ref ((u 20)) :: .ref ((u 21)) :: .int 0 :: .ref ((u 22)) :: .int (-1) :: .int 0 :: .ref ((u 23)) :: .int (-1) :: .int (-1) :: .int 0 :: .ref ((u 24)) :: .ref ((u 25)) :: .int 0 :: []))), (((u 4)), .inl (cy 0, 600, .inl (upd f 8 (vp_nar .byte ((v >>> ((24 : Int32) &&& 31)).toInt8.toInt32)))))]) rfl (fun H locs h => ?_)
  refine lv_iinc (v := 16) (lv' := [(2, .int 16), (0, .ref q), (1, .int v)]) F.1 F.2.1 dX12_four_30 hl (k := 0) rfl (by decide) (by decide) rfl (fun ls hl => ?_)
  refine lv_goto (tgt := 3) F.1 F.2.1 dX12_four_33 (by decide) ?_
  refine lv_iload_n F.1 F.2.1 dX12_four_3 rfl (lv_at hl 0 rfl) ?_
  refine lv_if_lt (tgt := 36) F.1 F.2.1 dX12_four_4 (by decide) (fun hc => absurd hc (by decide)) (fun _ => ?_)
  refine lv_aload_n F.1 F.2.1 dX12_four_7 rfl (lv_at hl 1 rfl) ?_
  refine x_get F h 0 7 inlX12 rfl (by decide) mw_207 dX12_four_8 rfl rfl ?_
  refine lv_aload_n F.1 F.2.1 dX12_four_11 rfl (lv_at hl 1 rfl) ?_
  refine x_get F h 0 9 inlX12 rfl (by decide) mw_367 dX12_four_12 rfl rfl ?_
  refine lv_iload_n F.1 F.2.1 dX12_four_15 rfl (lv_at hl 2 rfl) ?_
  refine lv_iload_n F.1 F.2.1 dX12_four_16 rfl (lv_at hl 0 rfl) ?_
  refine lv_ishr F.1 F.2.1 dX12_four_17 ?_
  refine lv_i2b (v := (v >>> ((16 : Int32) &&& 31)).toInt8.toInt32) F.1 F.2.1 dX12_four_18 rfl ?_
  refine x_bast F h 1 rfl rfl (x_in (by decide +kernel)) dX12_four_19 (ws' := [(q, .inr (12, (.ref ((u 0)) :: .int 0 :: .long 0 :: .long 1 :: .ref ((u 1)) :: .ref ((u 2)) :: .ref ((u 3)) :: .ref ((u 4)) :: .ref ((u 5)) :: .int 9 :: .int 0 :: .int 0 :: .int 0 :: .int 0 :: .int 0 :: .int (-1) :: .int (-1) :: .int 0 :: .ref ((u 6)) :: .int 0 :: .int 0 :: .ref ((u 7)) :: .ref ((u 8)) :: .ref ((u 9)) :: .ref ((u 10)) :: .ref ((u 11)) :: .ref ((u 12)) :: .ref ((u 13)) :: .int 0 :: .int 0 :: .int (-1) :: .int 0 :: .int (-1) :: .int 0 :: .ref ((u 14)) :: .int 0 :: .int 0 :: .int 0 :: .int 0 :: .int 0 :: .ref ((u 15)) :: .ref ((u 16)) :: .int 0 :: .int (-1) :: .int 0 :: .int 0 :: .int 0 :: .int 0 :: .ref ((u 17)) :: .ref ((u 18)) :: .ref ((u 19)) :: .int 0 :: .ref ((u 20)) :: .ref ((u 21)) :: .int 0 :: .ref ((u 22)) :: .int (-1) :: .int 0 :: .ref ((u 23)) :: .int (-1) :: .int (-1) :: .int 0 :: .ref ((u 24)) :: .ref ((u 25)) :: .int 0 :: []))), (((u 4)), .inl (cy 0, 600, .inl (upd (upd f 8 (vp_nar .byte ((v >>> ((24 : Int32) &&& 31)).toInt8.toInt32))) 9 (vp_nar .byte ((v >>> ((16 : Int32) &&& 31)).toInt8.toInt32)))))]) rfl (fun H locs h => ?_)
  refine lv_aload_n F.1 F.2.1 dX12_four_20 rfl (lv_at hl 1 rfl) ?_
  refine lv_dup F.1 F.2.1 dX12_four_21 rfl ?_
  refine x_get F h 0 9 inlX12 rfl (by decide) mw_367 dX12_four_22 rfl rfl ?_
  refine lv_iconst (v := 1) F.1 F.2.1 dX12_four_25 (by decide) ?_
  refine lv_iadd F.1 F.2.1 dX12_four_26 ?_
  refine x_topi (y := 10) (by decide +kernel) ?_
  refine x_put F h 0 9 inlX12 tyX12_ok nmX12 rfl (by decide) mw_367 dX12_four_27 rfl rfl rfl rfl (Nat.le_of_ble_eq_true rfl) (ws' := [(q, .inr (12, (.ref ((u 0)) :: .int 0 :: .long 0 :: .long 1 :: .ref ((u 1)) :: .ref ((u 2)) :: .ref ((u 3)) :: .ref ((u 4)) :: .ref ((u 5)) :: .int 10 :: .int 0 :: .int 0 :: .int 0 :: .int 0 :: .int 0 :: .int (-1) :: .int (-1) :: .int 0 :: .ref ((u 6)) :: .int 0 :: .int 0 :: .ref ((u 7)) :: .ref ((u 8)) :: .ref ((u 9)) :: .ref ((u 10)) :: .ref ((u 11)) :: .ref ((u 12)) :: .ref ((u 13)) :: .int 0 :: .int 0 :: .int (-1) :: .int 0 :: .int (-1) :: .int 0 :: .ref ((u 14)) :: .int 0 :: .int 0 :: .int 0 :: .int 0 :: .int 0 :: .ref ((u 15)) :: .ref ((u 16)) :: .int 0 :: .int (-1) :: .int 0 :: .int 0 :: .int 0 :: .int 0 :: .ref ((u 17)) :: .ref ((u 18)) :: .ref ((u 19)) :: .int 0 :: .ref ((u 20)) :: .ref ((u 21)) :: .int 0 :: .ref ((u 22)) :: .int (-1) :: .int 0 :: .ref ((u 23)) :: .int (-1) :: .int (-1) :: .int 0 :: .ref ((u 24)) :: .ref ((u 25)) :: .int 0 :: []))), (((u 4)), .inl (cy 0, 600, .inl (upd (upd f 8 (vp_nar .byte ((v >>> ((24 : Int32) &&& 31)).toInt8.toInt32))) 9 (vp_nar .byte ((v >>> ((16 : Int32) &&& 31)).toInt8.toInt32)))))]) rfl (fun H locs h => ?_)
  refine lv_iinc (v := 8) (lv' := [(2, .int 8), (0, .ref q), (1, .int v)]) F.1 F.2.1 dX12_four_30 hl (k := 0) rfl (by decide) (by decide) rfl (fun ls hl => ?_)
  refine lv_goto (tgt := 3) F.1 F.2.1 dX12_four_33 (by decide) ?_
  refine lv_iload_n F.1 F.2.1 dX12_four_3 rfl (lv_at hl 0 rfl) ?_
  refine lv_if_lt (tgt := 36) F.1 F.2.1 dX12_four_4 (by decide) (fun hc => absurd hc (by decide)) (fun _ => ?_)
  refine lv_aload_n F.1 F.2.1 dX12_four_7 rfl (lv_at hl 1 rfl) ?_
  refine x_get F h 0 7 inlX12 rfl (by decide) mw_207 dX12_four_8 rfl rfl ?_
  refine lv_aload_n F.1 F.2.1 dX12_four_11 rfl (lv_at hl 1 rfl) ?_
  refine x_get F h 0 9 inlX12 rfl (by decide) mw_367 dX12_four_12 rfl rfl ?_
  refine lv_iload_n F.1 F.2.1 dX12_four_15 rfl (lv_at hl 2 rfl) ?_
  refine lv_iload_n F.1 F.2.1 dX12_four_16 rfl (lv_at hl 0 rfl) ?_
  refine lv_ishr F.1 F.2.1 dX12_four_17 ?_
  refine lv_i2b (v := (v >>> ((8 : Int32) &&& 31)).toInt8.toInt32) F.1 F.2.1 dX12_four_18 rfl ?_
  refine x_bast F h 1 rfl rfl (x_in (by decide +kernel)) dX12_four_19 (ws' := [(q, .inr (12, (.ref ((u 0)) :: .int 0 :: .long 0 :: .long 1 :: .ref ((u 1)) :: .ref ((u 2)) :: .ref ((u 3)) :: .ref ((u 4)) :: .ref ((u 5)) :: .int 10 :: .int 0 :: .int 0 :: .int 0 :: .int 0 :: .int 0 :: .int (-1) :: .int (-1) :: .int 0 :: .ref ((u 6)) :: .int 0 :: .int 0 :: .ref ((u 7)) :: .ref ((u 8)) :: .ref ((u 9)) :: .ref ((u 10)) :: .ref ((u 11)) :: .ref ((u 12)) :: .ref ((u 13)) :: .int 0 :: .int 0 :: .int (-1) :: .int 0 :: .int (-1) :: .int 0 :: .ref ((u 14)) :: .int 0 :: .int 0 :: .int 0 :: .int 0 :: .int 0 :: .ref ((u 15)) :: .ref ((u 16)) :: .int 0 :: .int (-1) :: .int 0 :: .int 0 :: .int 0 :: .int 0 :: .ref ((u 17)) :: .ref ((u 18)) :: .ref ((u 19)) :: .int 0 :: .ref ((u 20)) :: .ref ((u 21)) :: .int 0 :: .ref ((u 22)) :: .int (-1) :: .int 0 :: .ref ((u 23)) :: .int (-1) :: .int (-1) :: .int 0 :: .ref ((u 24)) :: .ref ((u 25)) :: .int 0 :: []))), (((u 4)), .inl (cy 0, 600, .inl (upd (upd (upd f 8 (vp_nar .byte ((v >>> ((24 : Int32) &&& 31)).toInt8.toInt32))) 9 (vp_nar .byte ((v >>> ((16 : Int32) &&& 31)).toInt8.toInt32))) 10 (vp_nar .byte ((v >>> ((8 : Int32) &&& 31)).toInt8.toInt32)))))]) rfl (fun H locs h => ?_)
  refine lv_aload_n F.1 F.2.1 dX12_four_20 rfl (lv_at hl 1 rfl) ?_
  refine lv_dup F.1 F.2.1 dX12_four_21 rfl ?_
  refine x_get F h 0 9 inlX12 rfl (by decide) mw_367 dX12_four_22 rfl rfl ?_
  refine lv_iconst (v := 1) F.1 F.2.1 dX12_four_25 (by decide) ?_
  refine lv_iadd F.1 F.2.1 dX12_four_26 ?_
  refine x_topi (y := 11) (by decide +kernel) ?_
  refine x_put F h 0 9 inlX12 tyX12_ok nmX12 rfl (by decide) mw_367 dX12_four_27 rfl rfl rfl rfl (Nat.le_of_ble_eq_true rfl) (ws' := [(q, .inr (12, (.ref ((u 0)) :: .int 0 :: .long 0 :: .long 1 :: .ref ((u 1)) :: .ref ((u 2)) :: .ref ((u 3)) :: .ref ((u 4)) :: .ref ((u 5)) :: .int 11 :: .int 0 :: .int 0 :: .int 0 :: .int 0 :: .int 0 :: .int (-1) :: .int (-1) :: .int 0 :: .ref ((u 6)) :: .int 0 :: .int 0 :: .ref ((u 7)) :: .ref ((u 8)) :: .ref ((u 9)) :: .ref ((u 10)) :: .ref ((u 11)) :: .ref ((u 12)) :: .ref ((u 13)) :: .int 0 :: .int 0 :: .int (-1) :: .int 0 :: .int (-1) :: .int 0 :: .ref ((u 14)) :: .int 0 :: .int 0 :: .int 0 :: .int 0 :: .int 0 :: .ref ((u 15)) :: .ref ((u 16)) :: .int 0 :: .int (-1) :: .int 0 :: .int 0 :: .int 0 :: .int 0 :: .ref ((u 17)) :: .ref ((u 18)) :: .ref ((u 19)) :: .int 0 :: .ref ((u 20)) :: .ref ((u 21)) :: .int 0 :: .ref ((u 22)) :: .int (-1) :: .int 0 :: .ref ((u 23)) :: .int (-1) :: .int (-1) :: .int 0 :: .ref ((u 24)) :: .ref ((u 25)) :: .int 0 :: []))), (((u 4)), .inl (cy 0, 600, .inl (upd (upd (upd f 8 (vp_nar .byte ((v >>> ((24 : Int32) &&& 31)).toInt8.toInt32))) 9 (vp_nar .byte ((v >>> ((16 : Int32) &&& 31)).toInt8.toInt32))) 10 (vp_nar .byte ((v >>> ((8 : Int32) &&& 31)).toInt8.toInt32)))))]) rfl (fun H locs h => ?_)
  refine lv_iinc (v := 0) (lv' := [(2, .int 0), (0, .ref q), (1, .int v)]) F.1 F.2.1 dX12_four_30 hl (k := 0) rfl (by decide) (by decide) rfl (fun ls hl => ?_)
  refine lv_goto (tgt := 3) F.1 F.2.1 dX12_four_33 (by decide) ?_
  refine lv_iload_n F.1 F.2.1 dX12_four_3 rfl (lv_at hl 0 rfl) ?_
  refine lv_if_lt (tgt := 36) F.1 F.2.1 dX12_four_4 (by decide) (fun hc => absurd hc (by decide)) (fun _ => ?_)
  refine lv_aload_n F.1 F.2.1 dX12_four_7 rfl (lv_at hl 1 rfl) ?_
  refine x_get F h 0 7 inlX12 rfl (by decide) mw_207 dX12_four_8 rfl rfl ?_
  refine lv_aload_n F.1 F.2.1 dX12_four_11 rfl (lv_at hl 1 rfl) ?_
  refine x_get F h 0 9 inlX12 rfl (by decide) mw_367 dX12_four_12 rfl rfl ?_
  refine lv_iload_n F.1 F.2.1 dX12_four_15 rfl (lv_at hl 2 rfl) ?_
  refine lv_iload_n F.1 F.2.1 dX12_four_16 rfl (lv_at hl 0 rfl) ?_
  refine lv_ishr F.1 F.2.1 dX12_four_17 ?_
  refine lv_i2b (v := (v >>> ((0 : Int32) &&& 31)).toInt8.toInt32) F.1 F.2.1 dX12_four_18 rfl ?_
  refine x_bast F h 1 rfl rfl (x_in (by decide +kernel)) dX12_four_19 (ws' := [(q, .inr (12, (.ref ((u 0)) :: .int 0 :: .long 0 :: .long 1 :: .ref ((u 1)) :: .ref ((u 2)) :: .ref ((u 3)) :: .ref ((u 4)) :: .ref ((u 5)) :: .int 11 :: .int 0 :: .int 0 :: .int 0 :: .int 0 :: .int 0 :: .int (-1) :: .int (-1) :: .int 0 :: .ref ((u 6)) :: .int 0 :: .int 0 :: .ref ((u 7)) :: .ref ((u 8)) :: .ref ((u 9)) :: .ref ((u 10)) :: .ref ((u 11)) :: .ref ((u 12)) :: .ref ((u 13)) :: .int 0 :: .int 0 :: .int (-1) :: .int 0 :: .int (-1) :: .int 0 :: .ref ((u 14)) :: .int 0 :: .int 0 :: .int 0 :: .int 0 :: .int 0 :: .ref ((u 15)) :: .ref ((u 16)) :: .int 0 :: .int (-1) :: .int 0 :: .int 0 :: .int 0 :: .int 0 :: .ref ((u 17)) :: .ref ((u 18)) :: .ref ((u 19)) :: .int 0 :: .ref ((u 20)) :: .ref ((u 21)) :: .int 0 :: .ref ((u 22)) :: .int (-1) :: .int 0 :: .ref ((u 23)) :: .int (-1) :: .int (-1) :: .int 0 :: .ref ((u 24)) :: .ref ((u 25)) :: .int 0 :: []))), (((u 4)), .inl (cy 0, 600, .inl (upd (upd (upd (upd f 8 (vp_nar .byte ((v >>> ((24 : Int32) &&& 31)).toInt8.toInt32))) 9 (vp_nar .byte ((v >>> ((16 : Int32) &&& 31)).toInt8.toInt32))) 10 (vp_nar .byte ((v >>> ((8 : Int32) &&& 31)).toInt8.toInt32))) 11 (vp_nar .byte ((v >>> ((0 : Int32) &&& 31)).toInt8.toInt32)))))]) rfl (fun H locs h => ?_)
  refine lv_aload_n F.1 F.2.1 dX12_four_20 rfl (lv_at hl 1 rfl) ?_
  refine lv_dup F.1 F.2.1 dX12_four_21 rfl ?_
  refine x_get F h 0 9 inlX12 rfl (by decide) mw_367 dX12_four_22 rfl rfl ?_
  refine lv_iconst (v := 1) F.1 F.2.1 dX12_four_25 (by decide) ?_
  refine lv_iadd F.1 F.2.1 dX12_four_26 ?_
  refine x_topi (y := 12) (by decide +kernel) ?_
  refine x_put F h 0 9 inlX12 tyX12_ok nmX12 rfl (by decide) mw_367 dX12_four_27 rfl rfl rfl rfl (Nat.le_of_ble_eq_true rfl) (ws' := [(q, .inr (12, (.ref ((u 0)) :: .int 0 :: .long 0 :: .long 1 :: .ref ((u 1)) :: .ref ((u 2)) :: .ref ((u 3)) :: .ref ((u 4)) :: .ref ((u 5)) :: .int 12 :: .int 0 :: .int 0 :: .int 0 :: .int 0 :: .int 0 :: .int (-1) :: .int (-1) :: .int 0 :: .ref ((u 6)) :: .int 0 :: .int 0 :: .ref ((u 7)) :: .ref ((u 8)) :: .ref ((u 9)) :: .ref ((u 10)) :: .ref ((u 11)) :: .ref ((u 12)) :: .ref ((u 13)) :: .int 0 :: .int 0 :: .int (-1) :: .int 0 :: .int (-1) :: .int 0 :: .ref ((u 14)) :: .int 0 :: .int 0 :: .int 0 :: .int 0 :: .int 0 :: .ref ((u 15)) :: .ref ((u 16)) :: .int 0 :: .int (-1) :: .int 0 :: .int 0 :: .int 0 :: .int 0 :: .ref ((u 17)) :: .ref ((u 18)) :: .ref ((u 19)) :: .int 0 :: .ref ((u 20)) :: .ref ((u 21)) :: .int 0 :: .ref ((u 22)) :: .int (-1) :: .int 0 :: .ref ((u 23)) :: .int (-1) :: .int (-1) :: .int 0 :: .ref ((u 24)) :: .ref ((u 25)) :: .int 0 :: []))), (((u 4)), .inl (cy 0, 600, .inl (upd (upd (upd (upd f 8 (vp_nar .byte ((v >>> ((24 : Int32) &&& 31)).toInt8.toInt32))) 9 (vp_nar .byte ((v >>> ((16 : Int32) &&& 31)).toInt8.toInt32))) 10 (vp_nar .byte ((v >>> ((8 : Int32) &&& 31)).toInt8.toInt32))) 11 (vp_nar .byte ((v >>> ((0 : Int32) &&& 31)).toInt8.toInt32)))))]) rfl (fun H locs h => ?_)
  refine lv_iinc (v := (-8)) (lv' := [(2, .int (-8)), (0, .ref q), (1, .int v)]) F.1 F.2.1 dX12_four_30 hl (k := 0) rfl (by decide) (by decide) rfl (fun ls hl => ?_)
  refine lv_goto (tgt := 3) F.1 F.2.1 dX12_four_33 (by decide) ?_
  refine lv_iload_n F.1 F.2.1 dX12_four_3 rfl (lv_at hl 0 rfl) ?_
  refine lv_if_lt (tgt := 36) F.1 F.2.1 dX12_four_4 (by decide) (fun _ => ?_) (fun hc => absurd (by decide) hc)
  exact x_vret F h hr hlk (fun _ => 0) [0, 1] (trivial) (by decide +kernel) rfl (Nat.le_of_ble_eq_true rfl) (Nat.le_of_ble_eq_true rfl) dX12_four_36
set_option maxHeartbeats 4000000 in
set_option maxRecDepth 100000 in
theorem c_m_four12 (l : Launch) (D : va_G) (cy : Nat → ClassId) (q : Nat) (u : Nat → Nat) (f : Nat → Int32) (v : Int32) : ∀ sz, Met l yX12_four (Cond.code yX12_four cX12_four 3 none :: wsL_law) { frames := 0, cells := 0, slots := 0, locals := 0 } (va_Pc [.ref q, .int v] (xP D cy ([mM q u 12 0 0 (-1) 0, (((u 4)), .inl (cy 0, 600, .inl f))]) sz)) (va_Qv (fun _ => True) (xB D (va_A ([mM q u 12 0 0 (-1) 0, (((u 4)), .inl (cy 0, 600, .inl f))]) sz) (fun _ => [mM q u 16 0 0 (-1) 0, (((u 4)), .inl (cy 0, 600, .inl (upd (upd (upd (upd f 12 (vp_nar .byte (v >>> ((24 : Int32) &&& 31)).toInt8.toInt32)) 13 (vp_nar .byte (v >>> ((16 : Int32) &&& 31)).toInt8.toInt32)) 14 (vp_nar .byte (v >>> ((8 : Int32) &&& 31)).toInt8.toInt32)) 15 (vp_nar .byte (v >>> ((0 : Int32) &&& 31)).toInt8.toInt32))))])) (va_A ([mM q u 12 0 0 (-1) 0, (((u 4)), .inl (cy 0, 600, .inl f))]) sz)) 0 0 (va_A ([mM q u 12 0 0 (-1) 0, (((u 4)), .inl (cy 0, 600, .inl f))]) sz) := by
  refine x_enter (fun A => va_Qv (fun _ => True) (xB D A (fun _ => [mM q u 16 0 0 (-1) 0, (((u 4)), .inl (cy 0, 600, .inl (upd (upd (upd (upd f 12 (vp_nar .byte (v >>> ((24 : Int32) &&& 31)).toInt8.toInt32)) 13 (vp_nar .byte (v >>> ((16 : Int32) &&& 31)).toInt8.toInt32)) 14 (vp_nar .byte (v >>> ((8 : Int32) &&& 31)).toInt8.toInt32)) 15 (vp_nar .byte (v >>> ((0 : Int32) &&& 31)).toInt8.toInt32))))])) A) (by decide +kernel) rfl (Nat.le_of_ble_eq_true rfl) ?_
  intro p e s m below meth c A ls F hr hlk hin h hl
  have hl : lv_has ls 3 [(0, .ref q), (1, .int v)] := hl
  have h : xS D cy A s.heap ([(q, .inr (12, (.ref ((u 0)) :: .int 0 :: .long 0 :: .long 1 :: .ref ((u 1)) :: .ref ((u 2)) :: .ref ((u 3)) :: .ref ((u 4)) :: .ref ((u 5)) :: .int 12 :: .int 0 :: .int 0 :: .int 0 :: .int 0 :: .int 0 :: .int (-1) :: .int (-1) :: .int 0 :: .ref ((u 6)) :: .int 0 :: .int 0 :: .ref ((u 7)) :: .ref ((u 8)) :: .ref ((u 9)) :: .ref ((u 10)) :: .ref ((u 11)) :: .ref ((u 12)) :: .ref ((u 13)) :: .int 0 :: .int 0 :: .int (-1) :: .int 0 :: .int (-1) :: .int 0 :: .ref ((u 14)) :: .int 0 :: .int 0 :: .int 0 :: .int 0 :: .int 0 :: .ref ((u 15)) :: .ref ((u 16)) :: .int 0 :: .int (-1) :: .int 0 :: .int 0 :: .int 0 :: .int 0 :: .ref ((u 17)) :: .ref ((u 18)) :: .ref ((u 19)) :: .int 0 :: .ref ((u 20)) :: .ref ((u 21)) :: .int 0 :: .ref ((u 22)) :: .int (-1) :: .int 0 :: .ref ((u 23)) :: .int (-1) :: .int (-1) :: .int 0 :: .ref ((u 24)) :: .ref ((u 25)) :: .int 0 :: []))), (((u 4)), .inl (cy 0, 600, .inl f))]) s s.heap [] := h
  refine lv_bipush (v := 24) F.1 F.2.1 dX12_four_0 (by decide) ?_
  refine lv_istore_n (lv' := [(2, .int 24), (0, .ref q), (1, .int v)]) F.1 F.2.1 dX12_four_2 rfl hl (by decide) rfl (fun ls hl => ?_)
  refine lv_iload_n F.1 F.2.1 dX12_four_3 rfl (lv_at hl 0 rfl) ?_
  refine lv_if_lt (tgt := 36) F.1 F.2.1 dX12_four_4 (by decide) (fun hc => absurd hc (by decide)) (fun _ => ?_)
  refine lv_aload_n F.1 F.2.1 dX12_four_7 rfl (lv_at hl 1 rfl) ?_
  refine x_get F h 0 7 inlX12 rfl (by decide) mw_207 dX12_four_8 rfl rfl ?_
  refine lv_aload_n F.1 F.2.1 dX12_four_11 rfl (lv_at hl 1 rfl) ?_
  refine x_get F h 0 9 inlX12 rfl (by decide) mw_367 dX12_four_12 rfl rfl ?_
  refine lv_iload_n F.1 F.2.1 dX12_four_15 rfl (lv_at hl 2 rfl) ?_
  refine lv_iload_n F.1 F.2.1 dX12_four_16 rfl (lv_at hl 0 rfl) ?_
  refine lv_ishr F.1 F.2.1 dX12_four_17 ?_
  refine lv_i2b (v := (v >>> ((24 : Int32) &&& 31)).toInt8.toInt32) F.1 F.2.1 dX12_four_18 rfl ?_
  refine x_bast F h 1 rfl rfl (x_in (by decide +kernel)) dX12_four_19 (ws' := [(q, .inr (12, (.ref ((u 0)) :: .int 0 :: .long 0 :: .long 1 :: .ref ((u 1)) :: .ref ((u 2)) :: .ref ((u 3)) :: .ref ((u 4)) :: .ref ((u 5)) :: .int 12 :: .int 0 :: .int 0 :: .int 0 :: .int 0 :: .int 0 :: .int (-1) :: .int (-1) :: .int 0 :: .ref ((u 6)) :: .int 0 :: .int 0 :: .ref ((u 7)) :: .ref ((u 8)) :: .ref ((u 9)) :: .ref ((u 10)) :: .ref ((u 11)) :: .ref ((u 12)) :: .ref ((u 13)) :: .int 0 :: .int 0 :: .int (-1) :: .int 0 :: .int (-1) :: .int 0 :: .ref ((u 14)) :: .int 0 :: .int 0 :: .int 0 :: .int 0 :: .int 0 :: .ref ((u 15)) :: .ref ((u 16)) :: .int 0 :: .int (-1) :: .int 0 :: .int 0 :: .int 0 :: .int 0 :: .ref ((u 17)) :: .ref ((u 18)) :: .ref ((u 19)) :: .int 0 :: .ref ((u 20)) :: .ref ((u 21)) :: .int 0 :: .ref ((u 22)) :: .int (-1) :: .int 0 :: .ref ((u 23)) :: .int (-1) :: .int (-1) :: .int 0 :: .ref ((u 24)) :: .ref ((u 25)) :: .int 0 :: []))), (((u 4)), .inl (cy 0, 600, .inl (upd f 12 (vp_nar .byte ((v >>> ((24 : Int32) &&& 31)).toInt8.toInt32)))))]) rfl (fun H locs h => ?_)
  refine lv_aload_n F.1 F.2.1 dX12_four_20 rfl (lv_at hl 1 rfl) ?_
  refine lv_dup F.1 F.2.1 dX12_four_21 rfl ?_
  refine x_get F h 0 9 inlX12 rfl (by decide) mw_367 dX12_four_22 rfl rfl ?_
  refine lv_iconst (v := 1) F.1 F.2.1 dX12_four_25 (by decide) ?_
  refine lv_iadd F.1 F.2.1 dX12_four_26 ?_
  refine x_topi (y := 13) (by decide +kernel) ?_
  refine x_put F h 0 9 inlX12 tyX12_ok nmX12 rfl (by decide) mw_367 dX12_four_27 rfl rfl rfl rfl (Nat.le_of_ble_eq_true rfl) (ws' := [(q, .inr (12, (.ref ((u 0)) :: .int 0 :: .long 0 :: .long 1 :: .ref ((u 1)) :: .ref ((u 2)) :: .ref ((u 3)) :: .ref ((u 4)) :: .ref ((u 5)) :: .int 13 :: .int 0 :: .int 0 :: .int 0 :: .int 0 :: .int 0 :: .int (-1) :: .int (-1) :: .int 0 :: .ref ((u 6)) :: .int 0 :: .int 0 :: .ref ((u 7)) :: .ref ((u 8)) :: .ref ((u 9)) :: .ref ((u 10)) :: .ref ((u 11)) :: .ref ((u 12)) :: .ref ((u 13)) :: .int 0 :: .int 0 :: .int (-1) :: .int 0 :: .int (-1) :: .int 0 :: .ref ((u 14)) :: .int 0 :: .int 0 :: .int 0 :: .int 0 :: .int 0 :: .ref ((u 15)) :: .ref ((u 16)) :: .int 0 :: .int (-1) :: .int 0 :: .int 0 :: .int 0 :: .int 0 :: .ref ((u 17)) :: .ref ((u 18)) :: .ref ((u 19)) :: .int 0 :: .ref ((u 20)) :: .ref ((u 21)) :: .int 0 :: .ref ((u 22)) :: .int (-1) :: .int 0 :: .ref ((u 23)) :: .int (-1) :: .int (-1) :: .int 0 :: .ref ((u 24)) :: .ref ((u 25)) :: .int 0 :: []))), (((u 4)), .inl (cy 0, 600, .inl (upd f 12 (vp_nar .byte ((v >>> ((24 : Int32) &&& 31)).toInt8.toInt32)))))]) rfl (fun H locs h => ?_)
  refine lv_iinc (v := 16) (lv' := [(2, .int 16), (0, .ref q), (1, .int v)]) F.1 F.2.1 dX12_four_30 hl (k := 0) rfl (by decide) (by decide) rfl (fun ls hl => ?_)
  refine lv_goto (tgt := 3) F.1 F.2.1 dX12_four_33 (by decide) ?_
  refine lv_iload_n F.1 F.2.1 dX12_four_3 rfl (lv_at hl 0 rfl) ?_
  refine lv_if_lt (tgt := 36) F.1 F.2.1 dX12_four_4 (by decide) (fun hc => absurd hc (by decide)) (fun _ => ?_)
  refine lv_aload_n F.1 F.2.1 dX12_four_7 rfl (lv_at hl 1 rfl) ?_
  refine x_get F h 0 7 inlX12 rfl (by decide) mw_207 dX12_four_8 rfl rfl ?_
  refine lv_aload_n F.1 F.2.1 dX12_four_11 rfl (lv_at hl 1 rfl) ?_
  refine x_get F h 0 9 inlX12 rfl (by decide) mw_367 dX12_four_12 rfl rfl ?_
  refine lv_iload_n F.1 F.2.1 dX12_four_15 rfl (lv_at hl 2 rfl) ?_
  refine lv_iload_n F.1 F.2.1 dX12_four_16 rfl (lv_at hl 0 rfl) ?_
  refine lv_ishr F.1 F.2.1 dX12_four_17 ?_
  refine lv_i2b (v := (v >>> ((16 : Int32) &&& 31)).toInt8.toInt32) F.1 F.2.1 dX12_four_18 rfl ?_
  refine x_bast F h 1 rfl rfl (x_in (by decide +kernel)) dX12_four_19 (ws' := [(q, .inr (12, (.ref ((u 0)) :: .int 0 :: .long 0 :: .long 1 :: .ref ((u 1)) :: .ref ((u 2)) :: .ref ((u 3)) :: .ref ((u 4)) :: .ref ((u 5)) :: .int 13 :: .int 0 :: .int 0 :: .int 0 :: .int 0 :: .int 0 :: .int (-1) :: .int (-1) :: .int 0 :: .ref ((u 6)) :: .int 0 :: .int 0 :: .ref ((u 7)) :: .ref ((u 8)) :: .ref ((u 9)) :: .ref ((u 10)) :: .ref ((u 11)) :: .ref ((u 12)) :: .ref ((u 13)) :: .int 0 :: .int 0 :: .int (-1) :: .int 0 :: .int (-1) :: .int 0 :: .ref ((u 14)) :: .int 0 :: .int 0 :: .int 0 :: .int 0 :: .int 0 :: .ref ((u 15)) :: .ref ((u 16)) :: .int 0 :: .int (-1) :: .int 0 :: .int 0 :: .int 0 :: .int 0 :: .ref ((u 17)) :: .ref ((u 18)) :: .ref ((u 19)) :: .int 0 :: .ref ((u 20)) :: .ref ((u 21)) :: .int 0 :: .ref ((u 22)) :: .int (-1) :: .int 0 :: .ref ((u 23)) :: .int (-1) :: .int (-1) :: .int 0 :: .ref ((u 24)) :: .ref ((u 25)) :: .int 0 :: []))), (((u 4)), .inl (cy 0, 600, .inl (upd (upd f 12 (vp_nar .byte ((v >>> ((24 : Int32) &&& 31)).toInt8.toInt32))) 13 (vp_nar .byte ((v >>> ((16 : Int32) &&& 31)).toInt8.toInt32)))))]) rfl (fun H locs h => ?_)
  refine lv_aload_n F.1 F.2.1 dX12_four_20 rfl (lv_at hl 1 rfl) ?_
  refine lv_dup F.1 F.2.1 dX12_four_21 rfl ?_
  refine x_get F h 0 9 inlX12 rfl (by decide) mw_367 dX12_four_22 rfl rfl ?_
  refine lv_iconst (v := 1) F.1 F.2.1 dX12_four_25 (by decide) ?_
  refine lv_iadd F.1 F.2.1 dX12_four_26 ?_
  refine x_topi (y := 14) (by decide +kernel) ?_
  refine x_put F h 0 9 inlX12 tyX12_ok nmX12 rfl (by decide) mw_367 dX12_four_27 rfl rfl rfl rfl (Nat.le_of_ble_eq_true rfl) (ws' := [(q, .inr (12, (.ref ((u 0)) :: .int 0 :: .long 0 :: .long 1 :: .ref ((u 1)) :: .ref ((u 2)) :: .ref ((u 3)) :: .ref ((u 4)) :: .ref ((u 5)) :: .int 14 :: .int 0 :: .int 0 :: .int 0 :: .int 0 :: .int 0 :: .int (-1) :: .int (-1) :: .int 0 :: .ref ((u 6)) :: .int 0 :: .int 0 :: .ref ((u 7)) :: .ref ((u 8)) :: .ref ((u 9)) :: .ref ((u 10)) :: .ref ((u 11)) :: .ref ((u 12)) :: .ref ((u 13)) :: .int 0 :: .int 0 :: .int (-1) :: .int 0 :: .int (-1) :: .int 0 :: .ref ((u 14)) :: .int 0 :: .int 0 :: .int 0 :: .int 0 :: .int 0 :: .ref ((u 15)) :: .ref ((u 16)) :: .int 0 :: .int (-1) :: .int 0 :: .int 0 :: .int 0 :: .int 0 :: .ref ((u 17)) :: .ref ((u 18)) :: .ref ((u 19)) :: .int 0 :: .ref ((u 20)) :: .ref ((u 21)) :: .int 0 :: .ref ((u 22)) :: .int (-1) :: .int 0 :: .ref ((u 23)) :: .int (-1) :: .int (-1) :: .int 0 :: .ref ((u 24)) :: .ref ((u 25)) :: .int 0 :: []))), (((u 4)), .inl (cy 0, 600, .inl (upd (upd f 12 (vp_nar .byte ((v >>> ((24 : Int32) &&& 31)).toInt8.toInt32))) 13 (vp_nar .byte ((v >>> ((16 : Int32) &&& 31)).toInt8.toInt32)))))]) rfl (fun H locs h => ?_)
  refine lv_iinc (v := 8) (lv' := [(2, .int 8), (0, .ref q), (1, .int v)]) F.1 F.2.1 dX12_four_30 hl (k := 0) rfl (by decide) (by decide) rfl (fun ls hl => ?_)
  refine lv_goto (tgt := 3) F.1 F.2.1 dX12_four_33 (by decide) ?_
  refine lv_iload_n F.1 F.2.1 dX12_four_3 rfl (lv_at hl 0 rfl) ?_
  refine lv_if_lt (tgt := 36) F.1 F.2.1 dX12_four_4 (by decide) (fun hc => absurd hc (by decide)) (fun _ => ?_)
  refine lv_aload_n F.1 F.2.1 dX12_four_7 rfl (lv_at hl 1 rfl) ?_
  refine x_get F h 0 7 inlX12 rfl (by decide) mw_207 dX12_four_8 rfl rfl ?_
  refine lv_aload_n F.1 F.2.1 dX12_four_11 rfl (lv_at hl 1 rfl) ?_
  refine x_get F h 0 9 inlX12 rfl (by decide) mw_367 dX12_four_12 rfl rfl ?_
  refine lv_iload_n F.1 F.2.1 dX12_four_15 rfl (lv_at hl 2 rfl) ?_
  refine lv_iload_n F.1 F.2.1 dX12_four_16 rfl (lv_at hl 0 rfl) ?_
  refine lv_ishr F.1 F.2.1 dX12_four_17 ?_
  refine lv_i2b (v := (v >>> ((8 : Int32) &&& 31)).toInt8.toInt32) F.1 F.2.1 dX12_four_18 rfl ?_
  refine x_bast F h 1 rfl rfl (x_in (by decide +kernel)) dX12_four_19 (ws' := [(q, .inr (12, (.ref ((u 0)) :: .int 0 :: .long 0 :: .long 1 :: .ref ((u 1)) :: .ref ((u 2)) :: .ref ((u 3)) :: .ref ((u 4)) :: .ref ((u 5)) :: .int 14 :: .int 0 :: .int 0 :: .int 0 :: .int 0 :: .int 0 :: .int (-1) :: .int (-1) :: .int 0 :: .ref ((u 6)) :: .int 0 :: .int 0 :: .ref ((u 7)) :: .ref ((u 8)) :: .ref ((u 9)) :: .ref ((u 10)) :: .ref ((u 11)) :: .ref ((u 12)) :: .ref ((u 13)) :: .int 0 :: .int 0 :: .int (-1) :: .int 0 :: .int (-1) :: .int 0 :: .ref ((u 14)) :: .int 0 :: .int 0 :: .int 0 :: .int 0 :: .int 0 :: .ref ((u 15)) :: .ref ((u 16)) :: .int 0 :: .int (-1) :: .int 0 :: .int 0 :: .int 0 :: .int 0 :: .ref ((u 17)) :: .ref ((u 18)) :: .ref ((u 19)) :: .int 0 :: .ref ((u 20)) :: .ref ((u 21)) :: .int 0 :: .ref ((u 22)) :: .int (-1) :: .int 0 :: .ref ((u 23)) :: .int (-1) :: .int (-1) :: .int 0 :: .ref ((u 24)) :: .ref ((u 25)) :: .int 0 :: []))), (((u 4)), .inl (cy 0, 600, .inl (upd (upd (upd f 12 (vp_nar .byte ((v >>> ((24 : Int32) &&& 31)).toInt8.toInt32))) 13 (vp_nar .byte ((v >>> ((16 : Int32) &&& 31)).toInt8.toInt32))) 14 (vp_nar .byte ((v >>> ((8 : Int32) &&& 31)).toInt8.toInt32)))))]) rfl (fun H locs h => ?_)
  refine lv_aload_n F.1 F.2.1 dX12_four_20 rfl (lv_at hl 1 rfl) ?_
  refine lv_dup F.1 F.2.1 dX12_four_21 rfl ?_
  refine x_get F h 0 9 inlX12 rfl (by decide) mw_367 dX12_four_22 rfl rfl ?_
  refine lv_iconst (v := 1) F.1 F.2.1 dX12_four_25 (by decide) ?_
  refine lv_iadd F.1 F.2.1 dX12_four_26 ?_
  refine x_topi (y := 15) (by decide +kernel) ?_
  refine x_put F h 0 9 inlX12 tyX12_ok nmX12 rfl (by decide) mw_367 dX12_four_27 rfl rfl rfl rfl (Nat.le_of_ble_eq_true rfl) (ws' := [(q, .inr (12, (.ref ((u 0)) :: .int 0 :: .long 0 :: .long 1 :: .ref ((u 1)) :: .ref ((u 2)) :: .ref ((u 3)) :: .ref ((u 4)) :: .ref ((u 5)) :: .int 15 :: .int 0 :: .int 0 :: .int 0 :: .int 0 :: .int 0 :: .int (-1) :: .int (-1) :: .int 0 :: .ref ((u 6)) :: .int 0 :: .int 0 :: .ref ((u 7)) :: .ref ((u 8)) :: .ref ((u 9)) :: .ref ((u 10)) :: .ref ((u 11)) :: .ref ((u 12)) :: .ref ((u 13)) :: .int 0 :: .int 0 :: .int (-1) :: .int 0 :: .int (-1) :: .int 0 :: .ref ((u 14)) :: .int 0 :: .int 0 :: .int 0 :: .int 0 :: .int 0 :: .ref ((u 15)) :: .ref ((u 16)) :: .int 0 :: .int (-1) :: .int 0 :: .int 0 :: .int 0 :: .int 0 :: .ref ((u 17)) :: .ref ((u 18)) :: .ref ((u 19)) :: .int 0 :: .ref ((u 20)) :: .ref ((u 21)) :: .int 0 :: .ref ((u 22)) :: .int (-1) :: .int 0 :: .ref ((u 23)) :: .int (-1) :: .int (-1) :: .int 0 :: .ref ((u 24)) :: .ref ((u 25)) :: .int 0 :: []))), (((u 4)), .inl (cy 0, 600, .inl (upd (upd (upd f 12 (vp_nar .byte ((v >>> ((24 : Int32) &&& 31)).toInt8.toInt32))) 13 (vp_nar .byte ((v >>> ((16 : Int32) &&& 31)).toInt8.toInt32))) 14 (vp_nar .byte ((v >>> ((8 : Int32) &&& 31)).toInt8.toInt32)))))]) rfl (fun H locs h => ?_)
  refine lv_iinc (v := 0) (lv' := [(2, .int 0), (0, .ref q), (1, .int v)]) F.1 F.2.1 dX12_four_30 hl (k := 0) rfl (by decide) (by decide) rfl (fun ls hl => ?_)
  refine lv_goto (tgt := 3) F.1 F.2.1 dX12_four_33 (by decide) ?_
  refine lv_iload_n F.1 F.2.1 dX12_four_3 rfl (lv_at hl 0 rfl) ?_
  refine lv_if_lt (tgt := 36) F.1 F.2.1 dX12_four_4 (by decide) (fun hc => absurd hc (by decide)) (fun _ => ?_)
  refine lv_aload_n F.1 F.2.1 dX12_four_7 rfl (lv_at hl 1 rfl) ?_
  refine x_get F h 0 7 inlX12 rfl (by decide) mw_207 dX12_four_8 rfl rfl ?_
  refine lv_aload_n F.1 F.2.1 dX12_four_11 rfl (lv_at hl 1 rfl) ?_
  refine x_get F h 0 9 inlX12 rfl (by decide) mw_367 dX12_four_12 rfl rfl ?_
  refine lv_iload_n F.1 F.2.1 dX12_four_15 rfl (lv_at hl 2 rfl) ?_
  refine lv_iload_n F.1 F.2.1 dX12_four_16 rfl (lv_at hl 0 rfl) ?_
  refine lv_ishr F.1 F.2.1 dX12_four_17 ?_
  refine lv_i2b (v := (v >>> ((0 : Int32) &&& 31)).toInt8.toInt32) F.1 F.2.1 dX12_four_18 rfl ?_
  refine x_bast F h 1 rfl rfl (x_in (by decide +kernel)) dX12_four_19 (ws' := [(q, .inr (12, (.ref ((u 0)) :: .int 0 :: .long 0 :: .long 1 :: .ref ((u 1)) :: .ref ((u 2)) :: .ref ((u 3)) :: .ref ((u 4)) :: .ref ((u 5)) :: .int 15 :: .int 0 :: .int 0 :: .int 0 :: .int 0 :: .int 0 :: .int (-1) :: .int (-1) :: .int 0 :: .ref ((u 6)) :: .int 0 :: .int 0 :: .ref ((u 7)) :: .ref ((u 8)) :: .ref ((u 9)) :: .ref ((u 10)) :: .ref ((u 11)) :: .ref ((u 12)) :: .ref ((u 13)) :: .int 0 :: .int 0 :: .int (-1) :: .int 0 :: .int (-1) :: .int 0 :: .ref ((u 14)) :: .int 0 :: .int 0 :: .int 0 :: .int 0 :: .int 0 :: .ref ((u 15)) :: .ref ((u 16)) :: .int 0 :: .int (-1) :: .int 0 :: .int 0 :: .int 0 :: .int 0 :: .ref ((u 17)) :: .ref ((u 18)) :: .ref ((u 19)) :: .int 0 :: .ref ((u 20)) :: .ref ((u 21)) :: .int 0 :: .ref ((u 22)) :: .int (-1) :: .int 0 :: .ref ((u 23)) :: .int (-1) :: .int (-1) :: .int 0 :: .ref ((u 24)) :: .ref ((u 25)) :: .int 0 :: []))), (((u 4)), .inl (cy 0, 600, .inl (upd (upd (upd (upd f 12 (vp_nar .byte ((v >>> ((24 : Int32) &&& 31)).toInt8.toInt32))) 13 (vp_nar .byte ((v >>> ((16 : Int32) &&& 31)).toInt8.toInt32))) 14 (vp_nar .byte ((v >>> ((8 : Int32) &&& 31)).toInt8.toInt32))) 15 (vp_nar .byte ((v >>> ((0 : Int32) &&& 31)).toInt8.toInt32)))))]) rfl (fun H locs h => ?_)
  refine lv_aload_n F.1 F.2.1 dX12_four_20 rfl (lv_at hl 1 rfl) ?_
  refine lv_dup F.1 F.2.1 dX12_four_21 rfl ?_
  refine x_get F h 0 9 inlX12 rfl (by decide) mw_367 dX12_four_22 rfl rfl ?_
  refine lv_iconst (v := 1) F.1 F.2.1 dX12_four_25 (by decide) ?_
  refine lv_iadd F.1 F.2.1 dX12_four_26 ?_
  refine x_topi (y := 16) (by decide +kernel) ?_
  refine x_put F h 0 9 inlX12 tyX12_ok nmX12 rfl (by decide) mw_367 dX12_four_27 rfl rfl rfl rfl (Nat.le_of_ble_eq_true rfl) (ws' := [(q, .inr (12, (.ref ((u 0)) :: .int 0 :: .long 0 :: .long 1 :: .ref ((u 1)) :: .ref ((u 2)) :: .ref ((u 3)) :: .ref ((u 4)) :: .ref ((u 5)) :: .int 16 :: .int 0 :: .int 0 :: .int 0 :: .int 0 :: .int 0 :: .int (-1) :: .int (-1) :: .int 0 :: .ref ((u 6)) :: .int 0 :: .int 0 :: .ref ((u 7)) :: .ref ((u 8)) :: .ref ((u 9)) :: .ref ((u 10)) :: .ref ((u 11)) :: .ref ((u 12)) :: .ref ((u 13)) :: .int 0 :: .int 0 :: .int (-1) :: .int 0 :: .int (-1) :: .int 0 :: .ref ((u 14)) :: .int 0 :: .int 0 :: .int 0 :: .int 0 :: .int 0 :: .ref ((u 15)) :: .ref ((u 16)) :: .int 0 :: .int (-1) :: .int 0 :: .int 0 :: .int 0 :: .int 0 :: .ref ((u 17)) :: .ref ((u 18)) :: .ref ((u 19)) :: .int 0 :: .ref ((u 20)) :: .ref ((u 21)) :: .int 0 :: .ref ((u 22)) :: .int (-1) :: .int 0 :: .ref ((u 23)) :: .int (-1) :: .int (-1) :: .int 0 :: .ref ((u 24)) :: .ref ((u 25)) :: .int 0 :: []))), (((u 4)), .inl (cy 0, 600, .inl (upd (upd (upd (upd f 12 (vp_nar .byte ((v >>> ((24 : Int32) &&& 31)).toInt8.toInt32))) 13 (vp_nar .byte ((v >>> ((16 : Int32) &&& 31)).toInt8.toInt32))) 14 (vp_nar .byte ((v >>> ((8 : Int32) &&& 31)).toInt8.toInt32))) 15 (vp_nar .byte ((v >>> ((0 : Int32) &&& 31)).toInt8.toInt32)))))]) rfl (fun H locs h => ?_)
  refine lv_iinc (v := (-8)) (lv' := [(2, .int (-8)), (0, .ref q), (1, .int v)]) F.1 F.2.1 dX12_four_30 hl (k := 0) rfl (by decide) (by decide) rfl (fun ls hl => ?_)
  refine lv_goto (tgt := 3) F.1 F.2.1 dX12_four_33 (by decide) ?_
  refine lv_iload_n F.1 F.2.1 dX12_four_3 rfl (lv_at hl 0 rfl) ?_
  refine lv_if_lt (tgt := 36) F.1 F.2.1 dX12_four_4 (by decide) (fun _ => ?_) (fun hc => absurd (by decide) hc)
  exact x_vret F h hr hlk (fun _ => 0) [0, 1] (trivial) (by decide +kernel) rfl (Nat.le_of_ble_eq_true rfl) (Nat.le_of_ble_eq_true rfl) dX12_four_36
set_option maxHeartbeats 4000000 in
set_option maxRecDepth 100000 in
theorem c_m_four16 (l : Launch) (D : va_G) (cy : Nat → ClassId) (q : Nat) (u : Nat → Nat) (f : Nat → Int32) (v : Int32) : ∀ sz, Met l yX12_four (Cond.code yX12_four cX12_four 3 none :: wsL_law) { frames := 0, cells := 0, slots := 0, locals := 0 } (va_Pc [.ref q, .int v] (xP D cy ([mM q u 16 0 0 (-1) 0, (((u 4)), .inl (cy 0, 600, .inl f))]) sz)) (va_Qv (fun _ => True) (xB D (va_A ([mM q u 16 0 0 (-1) 0, (((u 4)), .inl (cy 0, 600, .inl f))]) sz) (fun _ => [mM q u 20 0 0 (-1) 0, (((u 4)), .inl (cy 0, 600, .inl (upd (upd (upd (upd f 16 (vp_nar .byte (v >>> ((24 : Int32) &&& 31)).toInt8.toInt32)) 17 (vp_nar .byte (v >>> ((16 : Int32) &&& 31)).toInt8.toInt32)) 18 (vp_nar .byte (v >>> ((8 : Int32) &&& 31)).toInt8.toInt32)) 19 (vp_nar .byte (v >>> ((0 : Int32) &&& 31)).toInt8.toInt32))))])) (va_A ([mM q u 16 0 0 (-1) 0, (((u 4)), .inl (cy 0, 600, .inl f))]) sz)) 0 0 (va_A ([mM q u 16 0 0 (-1) 0, (((u 4)), .inl (cy 0, 600, .inl f))]) sz) := by
  refine x_enter (fun A => va_Qv (fun _ => True) (xB D A (fun _ => [mM q u 20 0 0 (-1) 0, (((u 4)), .inl (cy 0, 600, .inl (upd (upd (upd (upd f 16 (vp_nar .byte (v >>> ((24 : Int32) &&& 31)).toInt8.toInt32)) 17 (vp_nar .byte (v >>> ((16 : Int32) &&& 31)).toInt8.toInt32)) 18 (vp_nar .byte (v >>> ((8 : Int32) &&& 31)).toInt8.toInt32)) 19 (vp_nar .byte (v >>> ((0 : Int32) &&& 31)).toInt8.toInt32))))])) A) (by decide +kernel) rfl (Nat.le_of_ble_eq_true rfl) ?_
  intro p e s m below meth c A ls F hr hlk hin h hl
  have hl : lv_has ls 3 [(0, .ref q), (1, .int v)] := hl
  have h : xS D cy A s.heap ([(q, .inr (12, (.ref ((u 0)) :: .int 0 :: .long 0 :: .long 1 :: .ref ((u 1)) :: .ref ((u 2)) :: .ref ((u 3)) :: .ref ((u 4)) :: .ref ((u 5)) :: .int 16 :: .int 0 :: .int 0 :: .int 0 :: .int 0 :: .int 0 :: .int (-1) :: .int (-1) :: .int 0 :: .ref ((u 6)) :: .int 0 :: .int 0 :: .ref ((u 7)) :: .ref ((u 8)) :: .ref ((u 9)) :: .ref ((u 10)) :: .ref ((u 11)) :: .ref ((u 12)) :: .ref ((u 13)) :: .int 0 :: .int 0 :: .int (-1) :: .int 0 :: .int (-1) :: .int 0 :: .ref ((u 14)) :: .int 0 :: .int 0 :: .int 0 :: .int 0 :: .int 0 :: .ref ((u 15)) :: .ref ((u 16)) :: .int 0 :: .int (-1) :: .int 0 :: .int 0 :: .int 0 :: .int 0 :: .ref ((u 17)) :: .ref ((u 18)) :: .ref ((u 19)) :: .int 0 :: .ref ((u 20)) :: .ref ((u 21)) :: .int 0 :: .ref ((u 22)) :: .int (-1) :: .int 0 :: .ref ((u 23)) :: .int (-1) :: .int (-1) :: .int 0 :: .ref ((u 24)) :: .ref ((u 25)) :: .int 0 :: []))), (((u 4)), .inl (cy 0, 600, .inl f))]) s s.heap [] := h
  refine lv_bipush (v := 24) F.1 F.2.1 dX12_four_0 (by decide) ?_
  refine lv_istore_n (lv' := [(2, .int 24), (0, .ref q), (1, .int v)]) F.1 F.2.1 dX12_four_2 rfl hl (by decide) rfl (fun ls hl => ?_)
  refine lv_iload_n F.1 F.2.1 dX12_four_3 rfl (lv_at hl 0 rfl) ?_
  refine lv_if_lt (tgt := 36) F.1 F.2.1 dX12_four_4 (by decide) (fun hc => absurd hc (by decide)) (fun _ => ?_)
  refine lv_aload_n F.1 F.2.1 dX12_four_7 rfl (lv_at hl 1 rfl) ?_
  refine x_get F h 0 7 inlX12 rfl (by decide) mw_207 dX12_four_8 rfl rfl ?_
  refine lv_aload_n F.1 F.2.1 dX12_four_11 rfl (lv_at hl 1 rfl) ?_
  refine x_get F h 0 9 inlX12 rfl (by decide) mw_367 dX12_four_12 rfl rfl ?_
  refine lv_iload_n F.1 F.2.1 dX12_four_15 rfl (lv_at hl 2 rfl) ?_
  refine lv_iload_n F.1 F.2.1 dX12_four_16 rfl (lv_at hl 0 rfl) ?_
  refine lv_ishr F.1 F.2.1 dX12_four_17 ?_
  refine lv_i2b (v := (v >>> ((24 : Int32) &&& 31)).toInt8.toInt32) F.1 F.2.1 dX12_four_18 rfl ?_
  refine x_bast F h 1 rfl rfl (x_in (by decide +kernel)) dX12_four_19 (ws' := [(q, .inr (12, (.ref ((u 0)) :: .int 0 :: .long 0 :: .long 1 :: .ref ((u 1)) :: .ref ((u 2)) :: .ref ((u 3)) :: .ref ((u 4)) :: .ref ((u 5)) :: .int 16 :: .int 0 :: .int 0 :: .int 0 :: .int 0 :: .int 0 :: .int (-1) :: .int (-1) :: .int 0 :: .ref ((u 6)) :: .int 0 :: .int 0 :: .ref ((u 7)) :: .ref ((u 8)) :: .ref ((u 9)) :: .ref ((u 10)) :: .ref ((u 11)) :: .ref ((u 12)) :: .ref ((u 13)) :: .int 0 :: .int 0 :: .int (-1) :: .int 0 :: .int (-1) :: .int 0 :: .ref ((u 14)) :: .int 0 :: .int 0 :: .int 0 :: .int 0 :: .int 0 :: .ref ((u 15)) :: .ref ((u 16)) :: .int 0 :: .int (-1) :: .int 0 :: .int 0 :: .int 0 :: .int 0 :: .ref ((u 17)) :: .ref ((u 18)) :: .ref ((u 19)) :: .int 0 :: .ref ((u 20)) :: .ref ((u 21)) :: .int 0 :: .ref ((u 22)) :: .int (-1) :: .int 0 :: .ref ((u 23)) :: .int (-1) :: .int (-1) :: .int 0 :: .ref ((u 24)) :: .ref ((u 25)) :: .int 0 :: []))), (((u 4)), .inl (cy 0, 600, .inl (upd f 16 (vp_nar .byte ((v >>> ((24 : Int32) &&& 31)).toInt8.toInt32)))))]) rfl (fun H locs h => ?_)
  refine lv_aload_n F.1 F.2.1 dX12_four_20 rfl (lv_at hl 1 rfl) ?_
  refine lv_dup F.1 F.2.1 dX12_four_21 rfl ?_
  refine x_get F h 0 9 inlX12 rfl (by decide) mw_367 dX12_four_22 rfl rfl ?_
  refine lv_iconst (v := 1) F.1 F.2.1 dX12_four_25 (by decide) ?_
  refine lv_iadd F.1 F.2.1 dX12_four_26 ?_
  refine x_topi (y := 17) (by decide +kernel) ?_
  refine x_put F h 0 9 inlX12 tyX12_ok nmX12 rfl (by decide) mw_367 dX12_four_27 rfl rfl rfl rfl (Nat.le_of_ble_eq_true rfl) (ws' := [(q, .inr (12, (.ref ((u 0)) :: .int 0 :: .long 0 :: .long 1 :: .ref ((u 1)) :: .ref ((u 2)) :: .ref ((u 3)) :: .ref ((u 4)) :: .ref ((u 5)) :: .int 17 :: .int 0 :: .int 0 :: .int 0 :: .int 0 :: .int 0 :: .int (-1) :: .int (-1) :: .int 0 :: .ref ((u 6)) :: .int 0 :: .int 0 :: .ref ((u 7)) :: .ref ((u 8)) :: .ref ((u 9)) :: .ref ((u 10)) :: .ref ((u 11)) :: .ref ((u 12)) :: .ref ((u 13)) :: .int 0 :: .int 0 :: .int (-1) :: .int 0 :: .int (-1) :: .int 0 :: .ref ((u 14)) :: .int 0 :: .int 0 :: .int 0 :: .int 0 :: .int 0 :: .ref ((u 15)) :: .ref ((u 16)) :: .int 0 :: .int (-1) :: .int 0 :: .int 0 :: .int 0 :: .int 0 :: .ref ((u 17)) :: .ref ((u 18)) :: .ref ((u 19)) :: .int 0 :: .ref ((u 20)) :: .ref ((u 21)) :: .int 0 :: .ref ((u 22)) :: .int (-1) :: .int 0 :: .ref ((u 23)) :: .int (-1) :: .int (-1) :: .int 0 :: .ref ((u 24)) :: .ref ((u 25)) :: .int 0 :: []))), (((u 4)), .inl (cy 0, 600, .inl (upd f 16 (vp_nar .byte ((v >>> ((24 : Int32) &&& 31)).toInt8.toInt32)))))]) rfl (fun H locs h => ?_)
  refine lv_iinc (v := 16) (lv' := [(2, .int 16), (0, .ref q), (1, .int v)]) F.1 F.2.1 dX12_four_30 hl (k := 0) rfl (by decide) (by decide) rfl (fun ls hl => ?_)
  refine lv_goto (tgt := 3) F.1 F.2.1 dX12_four_33 (by decide) ?_
  refine lv_iload_n F.1 F.2.1 dX12_four_3 rfl (lv_at hl 0 rfl) ?_
  refine lv_if_lt (tgt := 36) F.1 F.2.1 dX12_four_4 (by decide) (fun hc => absurd hc (by decide)) (fun _ => ?_)
  refine lv_aload_n F.1 F.2.1 dX12_four_7 rfl (lv_at hl 1 rfl) ?_
  refine x_get F h 0 7 inlX12 rfl (by decide) mw_207 dX12_four_8 rfl rfl ?_
  refine lv_aload_n F.1 F.2.1 dX12_four_11 rfl (lv_at hl 1 rfl) ?_
  refine x_get F h 0 9 inlX12 rfl (by decide) mw_367 dX12_four_12 rfl rfl ?_
  refine lv_iload_n F.1 F.2.1 dX12_four_15 rfl (lv_at hl 2 rfl) ?_
  refine lv_iload_n F.1 F.2.1 dX12_four_16 rfl (lv_at hl 0 rfl) ?_
  refine lv_ishr F.1 F.2.1 dX12_four_17 ?_
  refine lv_i2b (v := (v >>> ((16 : Int32) &&& 31)).toInt8.toInt32) F.1 F.2.1 dX12_four_18 rfl ?_
  refine x_bast F h 1 rfl rfl (x_in (by decide +kernel)) dX12_four_19 (ws' := [(q, .inr (12, (.ref ((u 0)) :: .int 0 :: .long 0 :: .long 1 :: .ref ((u 1)) :: .ref ((u 2)) :: .ref ((u 3)) :: .ref ((u 4)) :: .ref ((u 5)) :: .int 17 :: .int 0 :: .int 0 :: .int 0 :: .int 0 :: .int 0 :: .int (-1) :: .int (-1) :: .int 0 :: .ref ((u 6)) :: .int 0 :: .int 0 :: .ref ((u 7)) :: .ref ((u 8)) :: .ref ((u 9)) :: .ref ((u 10)) :: .ref ((u 11)) :: .ref ((u 12)) :: .ref ((u 13)) :: .int 0 :: .int 0 :: .int (-1) :: .int 0 :: .int (-1) :: .int 0 :: .ref ((u 14)) :: .int 0 :: .int 0 :: .int 0 :: .int 0 :: .int 0 :: .ref ((u 15)) :: .ref ((u 16)) :: .int 0 :: .int (-1) :: .int 0 :: .int 0 :: .int 0 :: .int 0 :: .ref ((u 17)) :: .ref ((u 18)) :: .ref ((u 19)) :: .int 0 :: .ref ((u 20)) :: .ref ((u 21)) :: .int 0 :: .ref ((u 22)) :: .int (-1) :: .int 0 :: .ref ((u 23)) :: .int (-1) :: .int (-1) :: .int 0 :: .ref ((u 24)) :: .ref ((u 25)) :: .int 0 :: []))), (((u 4)), .inl (cy 0, 600, .inl (upd (upd f 16 (vp_nar .byte ((v >>> ((24 : Int32) &&& 31)).toInt8.toInt32))) 17 (vp_nar .byte ((v >>> ((16 : Int32) &&& 31)).toInt8.toInt32)))))]) rfl (fun H locs h => ?_)
  refine lv_aload_n F.1 F.2.1 dX12_four_20 rfl (lv_at hl 1 rfl) ?_
  refine lv_dup F.1 F.2.1 dX12_four_21 rfl ?_
  refine x_get F h 0 9 inlX12 rfl (by decide) mw_367 dX12_four_22 rfl rfl ?_
  refine lv_iconst (v := 1) F.1 F.2.1 dX12_four_25 (by decide) ?_
  refine lv_iadd F.1 F.2.1 dX12_four_26 ?_
  refine x_topi (y := 18) (by decide +kernel) ?_
  refine x_put F h 0 9 inlX12 tyX12_ok nmX12 rfl (by decide) mw_367 dX12_four_27 rfl rfl rfl rfl (Nat.le_of_ble_eq_true rfl) (ws' := [(q, .inr (12, (.ref ((u 0)) :: .int 0 :: .long 0 :: .long 1 :: .ref ((u 1)) :: .ref ((u 2)) :: .ref ((u 3)) :: .ref ((u 4)) :: .ref ((u 5)) :: .int 18 :: .int 0 :: .int 0 :: .int 0 :: .int 0 :: .int 0 :: .int (-1) :: .int (-1) :: .int 0 :: .ref ((u 6)) :: .int 0 :: .int 0 :: .ref ((u 7)) :: .ref ((u 8)) :: .ref ((u 9)) :: .ref ((u 10)) :: .ref ((u 11)) :: .ref ((u 12)) :: .ref ((u 13)) :: .int 0 :: .int 0 :: .int (-1) :: .int 0 :: .int (-1) :: .int 0 :: .ref ((u 14)) :: .int 0 :: .int 0 :: .int 0 :: .int 0 :: .int 0 :: .ref ((u 15)) :: .ref ((u 16)) :: .int 0 :: .int (-1) :: .int 0 :: .int 0 :: .int 0 :: .int 0 :: .ref ((u 17)) :: .ref ((u 18)) :: .ref ((u 19)) :: .int 0 :: .ref ((u 20)) :: .ref ((u 21)) :: .int 0 :: .ref ((u 22)) :: .int (-1) :: .int 0 :: .ref ((u 23)) :: .int (-1) :: .int (-1) :: .int 0 :: .ref ((u 24)) :: .ref ((u 25)) :: .int 0 :: []))), (((u 4)), .inl (cy 0, 600, .inl (upd (upd f 16 (vp_nar .byte ((v >>> ((24 : Int32) &&& 31)).toInt8.toInt32))) 17 (vp_nar .byte ((v >>> ((16 : Int32) &&& 31)).toInt8.toInt32)))))]) rfl (fun H locs h => ?_)
  refine lv_iinc (v := 8) (lv' := [(2, .int 8), (0, .ref q), (1, .int v)]) F.1 F.2.1 dX12_four_30 hl (k := 0) rfl (by decide) (by decide) rfl (fun ls hl => ?_)
  refine lv_goto (tgt := 3) F.1 F.2.1 dX12_four_33 (by decide) ?_
  refine lv_iload_n F.1 F.2.1 dX12_four_3 rfl (lv_at hl 0 rfl) ?_
  refine lv_if_lt (tgt := 36) F.1 F.2.1 dX12_four_4 (by decide) (fun hc => absurd hc (by decide)) (fun _ => ?_)
  refine lv_aload_n F.1 F.2.1 dX12_four_7 rfl (lv_at hl 1 rfl) ?_
  refine x_get F h 0 7 inlX12 rfl (by decide) mw_207 dX12_four_8 rfl rfl ?_
  refine lv_aload_n F.1 F.2.1 dX12_four_11 rfl (lv_at hl 1 rfl) ?_
  refine x_get F h 0 9 inlX12 rfl (by decide) mw_367 dX12_four_12 rfl rfl ?_
  refine lv_iload_n F.1 F.2.1 dX12_four_15 rfl (lv_at hl 2 rfl) ?_
  refine lv_iload_n F.1 F.2.1 dX12_four_16 rfl (lv_at hl 0 rfl) ?_
  refine lv_ishr F.1 F.2.1 dX12_four_17 ?_
  refine lv_i2b (v := (v >>> ((8 : Int32) &&& 31)).toInt8.toInt32) F.1 F.2.1 dX12_four_18 rfl ?_
  refine x_bast F h 1 rfl rfl (x_in (by decide +kernel)) dX12_four_19 (ws' := [(q, .inr (12, (.ref ((u 0)) :: .int 0 :: .long 0 :: .long 1 :: .ref ((u 1)) :: .ref ((u 2)) :: .ref ((u 3)) :: .ref ((u 4)) :: .ref ((u 5)) :: .int 18 :: .int 0 :: .int 0 :: .int 0 :: .int 0 :: .int 0 :: .int (-1) :: .int (-1) :: .int 0 :: .ref ((u 6)) :: .int 0 :: .int 0 :: .ref ((u 7)) :: .ref ((u 8)) :: .ref ((u 9)) :: .ref ((u 10)) :: .ref ((u 11)) :: .ref ((u 12)) :: .ref ((u 13)) :: .int 0 :: .int 0 :: .int (-1) :: .int 0 :: .int (-1) :: .int 0 :: .ref ((u 14)) :: .int 0 :: .int 0 :: .int 0 :: .int 0 :: .int 0 :: .ref ((u 15)) :: .ref ((u 16)) :: .int 0 :: .int (-1) :: .int 0 :: .int 0 :: .int 0 :: .int 0 :: .ref ((u 17)) :: .ref ((u 18)) :: .ref ((u 19)) :: .int 0 :: .ref ((u 20)) :: .ref ((u 21)) :: .int 0 :: .ref ((u 22)) :: .int (-1) :: .int 0 :: .ref ((u 23)) :: .int (-1) :: .int (-1) :: .int 0 :: .ref ((u 24)) :: .ref ((u 25)) :: .int 0 :: []))), (((u 4)), .inl (cy 0, 600, .inl (upd (upd (upd f 16 (vp_nar .byte ((v >>> ((24 : Int32) &&& 31)).toInt8.toInt32))) 17 (vp_nar .byte ((v >>> ((16 : Int32) &&& 31)).toInt8.toInt32))) 18 (vp_nar .byte ((v >>> ((8 : Int32) &&& 31)).toInt8.toInt32)))))]) rfl (fun H locs h => ?_)
  refine lv_aload_n F.1 F.2.1 dX12_four_20 rfl (lv_at hl 1 rfl) ?_
  refine lv_dup F.1 F.2.1 dX12_four_21 rfl ?_
  refine x_get F h 0 9 inlX12 rfl (by decide) mw_367 dX12_four_22 rfl rfl ?_
  refine lv_iconst (v := 1) F.1 F.2.1 dX12_four_25 (by decide) ?_
  refine lv_iadd F.1 F.2.1 dX12_four_26 ?_
  refine x_topi (y := 19) (by decide +kernel) ?_
  refine x_put F h 0 9 inlX12 tyX12_ok nmX12 rfl (by decide) mw_367 dX12_four_27 rfl rfl rfl rfl (Nat.le_of_ble_eq_true rfl) (ws' := [(q, .inr (12, (.ref ((u 0)) :: .int 0 :: .long 0 :: .long 1 :: .ref ((u 1)) :: .ref ((u 2)) :: .ref ((u 3)) :: .ref ((u 4)) :: .ref ((u 5)) :: .int 19 :: .int 0 :: .int 0 :: .int 0 :: .int 0 :: .int 0 :: .int (-1) :: .int (-1) :: .int 0 :: .ref ((u 6)) :: .int 0 :: .int 0 :: .ref ((u 7)) :: .ref ((u 8)) :: .ref ((u 9)) :: .ref ((u 10)) :: .ref ((u 11)) :: .ref ((u 12)) :: .ref ((u 13)) :: .int 0 :: .int 0 :: .int (-1) :: .int 0 :: .int (-1) :: .int 0 :: .ref ((u 14)) :: .int 0 :: .int 0 :: .int 0 :: .int 0 :: .int 0 :: .ref ((u 15)) :: .ref ((u 16)) :: .int 0 :: .int (-1) :: .int 0 :: .int 0 :: .int 0 :: .int 0 :: .ref ((u 17)) :: .ref ((u 18)) :: .ref ((u 19)) :: .int 0 :: .ref ((u 20)) :: .ref ((u 21)) :: .int 0 :: .ref ((u 22)) :: .int (-1) :: .int 0 :: .ref ((u 23)) :: .int (-1) :: .int (-1) :: .int 0 :: .ref ((u 24)) :: .ref ((u 25)) :: .int 0 :: []))), (((u 4)), .inl (cy 0, 600, .inl (upd (upd (upd f 16 (vp_nar .byte ((v >>> ((24 : Int32) &&& 31)).toInt8.toInt32))) 17 (vp_nar .byte ((v >>> ((16 : Int32) &&& 31)).toInt8.toInt32))) 18 (vp_nar .byte ((v >>> ((8 : Int32) &&& 31)).toInt8.toInt32)))))]) rfl (fun H locs h => ?_)
  refine lv_iinc (v := 0) (lv' := [(2, .int 0), (0, .ref q), (1, .int v)]) F.1 F.2.1 dX12_four_30 hl (k := 0) rfl (by decide) (by decide) rfl (fun ls hl => ?_)
  refine lv_goto (tgt := 3) F.1 F.2.1 dX12_four_33 (by decide) ?_
  refine lv_iload_n F.1 F.2.1 dX12_four_3 rfl (lv_at hl 0 rfl) ?_
  refine lv_if_lt (tgt := 36) F.1 F.2.1 dX12_four_4 (by decide) (fun hc => absurd hc (by decide)) (fun _ => ?_)
  refine lv_aload_n F.1 F.2.1 dX12_four_7 rfl (lv_at hl 1 rfl) ?_
  refine x_get F h 0 7 inlX12 rfl (by decide) mw_207 dX12_four_8 rfl rfl ?_
  refine lv_aload_n F.1 F.2.1 dX12_four_11 rfl (lv_at hl 1 rfl) ?_
  refine x_get F h 0 9 inlX12 rfl (by decide) mw_367 dX12_four_12 rfl rfl ?_
  refine lv_iload_n F.1 F.2.1 dX12_four_15 rfl (lv_at hl 2 rfl) ?_
  refine lv_iload_n F.1 F.2.1 dX12_four_16 rfl (lv_at hl 0 rfl) ?_
  refine lv_ishr F.1 F.2.1 dX12_four_17 ?_
  refine lv_i2b (v := (v >>> ((0 : Int32) &&& 31)).toInt8.toInt32) F.1 F.2.1 dX12_four_18 rfl ?_
  refine x_bast F h 1 rfl rfl (x_in (by decide +kernel)) dX12_four_19 (ws' := [(q, .inr (12, (.ref ((u 0)) :: .int 0 :: .long 0 :: .long 1 :: .ref ((u 1)) :: .ref ((u 2)) :: .ref ((u 3)) :: .ref ((u 4)) :: .ref ((u 5)) :: .int 19 :: .int 0 :: .int 0 :: .int 0 :: .int 0 :: .int 0 :: .int (-1) :: .int (-1) :: .int 0 :: .ref ((u 6)) :: .int 0 :: .int 0 :: .ref ((u 7)) :: .ref ((u 8)) :: .ref ((u 9)) :: .ref ((u 10)) :: .ref ((u 11)) :: .ref ((u 12)) :: .ref ((u 13)) :: .int 0 :: .int 0 :: .int (-1) :: .int 0 :: .int (-1) :: .int 0 :: .ref ((u 14)) :: .int 0 :: .int 0 :: .int 0 :: .int 0 :: .int 0 :: .ref ((u 15)) :: .ref ((u 16)) :: .int 0 :: .int (-1) :: .int 0 :: .int 0 :: .int 0 :: .int 0 :: .ref ((u 17)) :: .ref ((u 18)) :: .ref ((u 19)) :: .int 0 :: .ref ((u 20)) :: .ref ((u 21)) :: .int 0 :: .ref ((u 22)) :: .int (-1) :: .int 0 :: .ref ((u 23)) :: .int (-1) :: .int (-1) :: .int 0 :: .ref ((u 24)) :: .ref ((u 25)) :: .int 0 :: []))), (((u 4)), .inl (cy 0, 600, .inl (upd (upd (upd (upd f 16 (vp_nar .byte ((v >>> ((24 : Int32) &&& 31)).toInt8.toInt32))) 17 (vp_nar .byte ((v >>> ((16 : Int32) &&& 31)).toInt8.toInt32))) 18 (vp_nar .byte ((v >>> ((8 : Int32) &&& 31)).toInt8.toInt32))) 19 (vp_nar .byte ((v >>> ((0 : Int32) &&& 31)).toInt8.toInt32)))))]) rfl (fun H locs h => ?_)
  refine lv_aload_n F.1 F.2.1 dX12_four_20 rfl (lv_at hl 1 rfl) ?_
  refine lv_dup F.1 F.2.1 dX12_four_21 rfl ?_
  refine x_get F h 0 9 inlX12 rfl (by decide) mw_367 dX12_four_22 rfl rfl ?_
  refine lv_iconst (v := 1) F.1 F.2.1 dX12_four_25 (by decide) ?_
  refine lv_iadd F.1 F.2.1 dX12_four_26 ?_
  refine x_topi (y := 20) (by decide +kernel) ?_
  refine x_put F h 0 9 inlX12 tyX12_ok nmX12 rfl (by decide) mw_367 dX12_four_27 rfl rfl rfl rfl (Nat.le_of_ble_eq_true rfl) (ws' := [(q, .inr (12, (.ref ((u 0)) :: .int 0 :: .long 0 :: .long 1 :: .ref ((u 1)) :: .ref ((u 2)) :: .ref ((u 3)) :: .ref ((u 4)) :: .ref ((u 5)) :: .int 20 :: .int 0 :: .int 0 :: .int 0 :: .int 0 :: .int 0 :: .int (-1) :: .int (-1) :: .int 0 :: .ref ((u 6)) :: .int 0 :: .int 0 :: .ref ((u 7)) :: .ref ((u 8)) :: .ref ((u 9)) :: .ref ((u 10)) :: .ref ((u 11)) :: .ref ((u 12)) :: .ref ((u 13)) :: .int 0 :: .int 0 :: .int (-1) :: .int 0 :: .int (-1) :: .int 0 :: .ref ((u 14)) :: .int 0 :: .int 0 :: .int 0 :: .int 0 :: .int 0 :: .ref ((u 15)) :: .ref ((u 16)) :: .int 0 :: .int (-1) :: .int 0 :: .int 0 :: .int 0 :: .int 0 :: .ref ((u 17)) :: .ref ((u 18)) :: .ref ((u 19)) :: .int 0 :: .ref ((u 20)) :: .ref ((u 21)) :: .int 0 :: .ref ((u 22)) :: .int (-1) :: .int 0 :: .ref ((u 23)) :: .int (-1) :: .int (-1) :: .int 0 :: .ref ((u 24)) :: .ref ((u 25)) :: .int 0 :: []))), (((u 4)), .inl (cy 0, 600, .inl (upd (upd (upd (upd f 16 (vp_nar .byte ((v >>> ((24 : Int32) &&& 31)).toInt8.toInt32))) 17 (vp_nar .byte ((v >>> ((16 : Int32) &&& 31)).toInt8.toInt32))) 18 (vp_nar .byte ((v >>> ((8 : Int32) &&& 31)).toInt8.toInt32))) 19 (vp_nar .byte ((v >>> ((0 : Int32) &&& 31)).toInt8.toInt32)))))]) rfl (fun H locs h => ?_)
  refine lv_iinc (v := (-8)) (lv' := [(2, .int (-8)), (0, .ref q), (1, .int v)]) F.1 F.2.1 dX12_four_30 hl (k := 0) rfl (by decide) (by decide) rfl (fun ls hl => ?_)
  refine lv_goto (tgt := 3) F.1 F.2.1 dX12_four_33 (by decide) ?_
  refine lv_iload_n F.1 F.2.1 dX12_four_3 rfl (lv_at hl 0 rfl) ?_
  refine lv_if_lt (tgt := 36) F.1 F.2.1 dX12_four_4 (by decide) (fun _ => ?_) (fun hc => absurd (by decide) hc)
  exact x_vret F h hr hlk (fun _ => 0) [0, 1] (trivial) (by decide +kernel) rfl (Nat.le_of_ble_eq_true rfl) (Nat.le_of_ble_eq_true rfl) dX12_four_36
set_option maxHeartbeats 4000000 in
set_option maxRecDepth 100000 in
theorem c_m_feed (l : Launch) (D : va_G) (cy : Nat → ClassId) (q : Nat) (u : Nat → Nat) (a0 : Int32) (b0 : Int32) (c0 : Int32) (d0 : Int32) (e0 : Int32) : ∀ sz, Met l yX12_feed (Cond.code yX12_feed cX12_feed 6 (some .int) :: wsL_law) { frames := 1, cells := 0, slots := 0, locals := 22 } (va_Pc [.ref q, .int a0, .int b0, .int c0, .int d0, .int e0] (xP D cy ([mM q u 0 0 0 (-1) 0, mA_tape cy u]) sz)) (va_Qi (fun r _ => r = 20) (xB D (va_A ([mM q u 0 0 0 (-1) 0, mA_tape cy u]) sz) (fun _ => [])) (va_A ([mM q u 0 0 0 (-1) 0, mA_tape cy u]) sz)) 0 0 (va_A ([mM q u 0 0 0 (-1) 0, mA_tape cy u]) sz) := by
  refine x_enter (fun A => va_Qi (fun r _ => r = 20) (xB D A (fun _ => [])) A) (by decide +kernel) rfl (Nat.le_of_ble_eq_true rfl) ?_
  intro p e s m below meth c A ls F hr hlk hin h hl
  have hl : lv_has ls 6 [(0, .ref q), (1, .int a0), (2, .int b0), (3, .int c0), (4, .int d0), (5, .int e0)] := hl
  have h : xS D cy A s.heap ([(q, .inr (12, (.ref ((u 0)) :: .int 0 :: .long 0 :: .long 1 :: .ref ((u 1)) :: .ref ((u 2)) :: .ref ((u 3)) :: .ref ((u 4)) :: .ref ((u 5)) :: .int 0 :: .int 0 :: .int 0 :: .int 0 :: .int 0 :: .int 0 :: .int (-1) :: .int (-1) :: .int 0 :: .ref ((u 6)) :: .int 0 :: .int 0 :: .ref ((u 7)) :: .ref ((u 8)) :: .ref ((u 9)) :: .ref ((u 10)) :: .ref ((u 11)) :: .ref ((u 12)) :: .ref ((u 13)) :: .int 0 :: .int 0 :: .int (-1) :: .int 0 :: .int (-1) :: .int 0 :: .ref ((u 14)) :: .int 0 :: .int 0 :: .int 0 :: .int 0 :: .int 0 :: .ref ((u 15)) :: .ref ((u 16)) :: .int 0 :: .int (-1) :: .int 0 :: .int 0 :: .int 0 :: .int 0 :: .ref ((u 17)) :: .ref ((u 18)) :: .ref ((u 19)) :: .int 0 :: .ref ((u 20)) :: .ref ((u 21)) :: .int 0 :: .ref ((u 22)) :: .int (-1) :: .int 0 :: .ref ((u 23)) :: .int (-1) :: .int (-1) :: .int 0 :: .ref ((u 24)) :: .ref ((u 25)) :: .int 0 :: []))), (((u 4)), .inl (cy 0, 600, .inl (fun _ => 0)))]) s s.heap [] := h
  refine lv_aload_n F.1 F.2.1 dX12_feed_0 rfl (lv_at hl 0 rfl) ?_
  refine x_get F h 0 9 inlX12 rfl (by decide) mw_367 dX12_feed_1 rfl rfl ?_
  refine lv_bipush (v := 20) F.1 F.2.1 dX12_feed_4 (by decide) ?_
  refine lv_iadd F.1 F.2.1 dX12_feed_6 ?_
  refine x_topi (y := 20) (by decide +kernel) ?_
  refine lv_sipush (v := 600) F.1 F.2.1 dX12_feed_7 (by decide) ?_
  refine lv_icmp_le (tgt := 15) F.1 F.2.1 dX12_feed_10 (by decide) (fun _ => ?_) (fun hc => absurd (by decide) hc)
  refine lv_aload_n F.1 F.2.1 dX12_feed_15 rfl (lv_at hl 0 rfl) ?_
  refine lv_iload_n F.1 F.2.1 dX12_feed_16 rfl (lv_at hl 1 rfl) ?_
  refine x_Vv (wr := []) F h yk_X12_four mw_368 mw_369 mw_370 (c_m_four0 l D cy q u (fun _ => 0) a0) [0, 1] [] 0 rfl rfl rfl rfl (by decide) rfl rfl hl.1 rfl (Nat.le_of_ble_eq_true rfl) ⟨Nat.le_of_ble_eq_true rfl, Nat.le_of_ble_eq_true rfl⟩ ⟨Nat.le_of_ble_eq_true rfl, Nat.le_of_ble_eq_true rfl⟩ dX12_feed_17 (fun u3 H locs hp1 h => ?_)
  have h : xS D cy A s.heap ([(q, .inr (12, (.ref ((u 0)) :: .int 0 :: .long 0 :: .long 1 :: .ref ((u 1)) :: .ref ((u 2)) :: .ref ((u 3)) :: .ref ((u 4)) :: .ref ((u 5)) :: .int 4 :: .int 0 :: .int 0 :: .int 0 :: .int 0 :: .int 0 :: .int (-1) :: .int (-1) :: .int 0 :: .ref ((u 6)) :: .int 0 :: .int 0 :: .ref ((u 7)) :: .ref ((u 8)) :: .ref ((u 9)) :: .ref ((u 10)) :: .ref ((u 11)) :: .ref ((u 12)) :: .ref ((u 13)) :: .int 0 :: .int 0 :: .int (-1) :: .int 0 :: .int (-1) :: .int 0 :: .ref ((u 14)) :: .int 0 :: .int 0 :: .int 0 :: .int 0 :: .int 0 :: .ref ((u 15)) :: .ref ((u 16)) :: .int 0 :: .int (-1) :: .int 0 :: .int 0 :: .int 0 :: .int 0 :: .ref ((u 17)) :: .ref ((u 18)) :: .ref ((u 19)) :: .int 0 :: .ref ((u 20)) :: .ref ((u 21)) :: .int 0 :: .ref ((u 22)) :: .int (-1) :: .int 0 :: .ref ((u 23)) :: .int (-1) :: .int (-1) :: .int 0 :: .ref ((u 24)) :: .ref ((u 25)) :: .int 0 :: []))), (((u 4)), .inl (cy 0, 600, .inl (upd (upd (upd (upd (fun _ => 0) 0 (vp_nar .byte (a0 >>> ((24 : Int32) &&& 31)).toInt8.toInt32)) 1 (vp_nar .byte (a0 >>> ((16 : Int32) &&& 31)).toInt8.toInt32)) 2 (vp_nar .byte (a0 >>> ((8 : Int32) &&& 31)).toInt8.toInt32)) 3 (vp_nar .byte (a0 >>> ((0 : Int32) &&& 31)).toInt8.toInt32))))]) s H locs := h
  generalize (upd (upd (upd (upd (fun _ => 0) 0 (vp_nar .byte (a0 >>> ((24 : Int32) &&& 31)).toInt8.toInt32)) 1 (vp_nar .byte (a0 >>> ((16 : Int32) &&& 31)).toInt8.toInt32)) 2 (vp_nar .byte (a0 >>> ((8 : Int32) &&& 31)).toInt8.toInt32)) 3 (vp_nar .byte (a0 >>> ((0 : Int32) &&& 31)).toInt8.toInt32)) = f4 at h
  refine lv_aload_n F.1 F.2.1 dX12_feed_20 rfl (lv_at hl 0 rfl) ?_
  refine lv_iload_n F.1 F.2.1 dX12_feed_21 rfl (lv_at hl 2 rfl) ?_
  refine x_Vv (wr := []) F h yk_X12_four mw_368 mw_369 mw_370 (c_m_four4 l D cy q u f4 b0) [0, 1] [] 0 rfl rfl rfl rfl (by decide) rfl rfl hl.1 rfl (Nat.le_of_ble_eq_true rfl) ⟨Nat.le_of_ble_eq_true rfl, Nat.le_of_ble_eq_true rfl⟩ ⟨Nat.le_of_ble_eq_true rfl, Nat.le_of_ble_eq_true rfl⟩ dX12_feed_22 (fun u7 H locs hp5 h => ?_)
  have h : xS D cy A s.heap ([(q, .inr (12, (.ref ((u 0)) :: .int 0 :: .long 0 :: .long 1 :: .ref ((u 1)) :: .ref ((u 2)) :: .ref ((u 3)) :: .ref ((u 4)) :: .ref ((u 5)) :: .int 8 :: .int 0 :: .int 0 :: .int 0 :: .int 0 :: .int 0 :: .int (-1) :: .int (-1) :: .int 0 :: .ref ((u 6)) :: .int 0 :: .int 0 :: .ref ((u 7)) :: .ref ((u 8)) :: .ref ((u 9)) :: .ref ((u 10)) :: .ref ((u 11)) :: .ref ((u 12)) :: .ref ((u 13)) :: .int 0 :: .int 0 :: .int (-1) :: .int 0 :: .int (-1) :: .int 0 :: .ref ((u 14)) :: .int 0 :: .int 0 :: .int 0 :: .int 0 :: .int 0 :: .ref ((u 15)) :: .ref ((u 16)) :: .int 0 :: .int (-1) :: .int 0 :: .int 0 :: .int 0 :: .int 0 :: .ref ((u 17)) :: .ref ((u 18)) :: .ref ((u 19)) :: .int 0 :: .ref ((u 20)) :: .ref ((u 21)) :: .int 0 :: .ref ((u 22)) :: .int (-1) :: .int 0 :: .ref ((u 23)) :: .int (-1) :: .int (-1) :: .int 0 :: .ref ((u 24)) :: .ref ((u 25)) :: .int 0 :: []))), (((u 4)), .inl (cy 0, 600, .inl (upd (upd (upd (upd f4 4 (vp_nar .byte (b0 >>> ((24 : Int32) &&& 31)).toInt8.toInt32)) 5 (vp_nar .byte (b0 >>> ((16 : Int32) &&& 31)).toInt8.toInt32)) 6 (vp_nar .byte (b0 >>> ((8 : Int32) &&& 31)).toInt8.toInt32)) 7 (vp_nar .byte (b0 >>> ((0 : Int32) &&& 31)).toInt8.toInt32))))]) s H locs := h
  generalize (upd (upd (upd (upd f4 4 (vp_nar .byte (b0 >>> ((24 : Int32) &&& 31)).toInt8.toInt32)) 5 (vp_nar .byte (b0 >>> ((16 : Int32) &&& 31)).toInt8.toInt32)) 6 (vp_nar .byte (b0 >>> ((8 : Int32) &&& 31)).toInt8.toInt32)) 7 (vp_nar .byte (b0 >>> ((0 : Int32) &&& 31)).toInt8.toInt32)) = f8 at h
  refine lv_aload_n F.1 F.2.1 dX12_feed_25 rfl (lv_at hl 0 rfl) ?_
  refine lv_iload_n F.1 F.2.1 dX12_feed_26 rfl (lv_at hl 3 rfl) ?_
  refine x_Vv (wr := []) F h yk_X12_four mw_368 mw_369 mw_370 (c_m_four8 l D cy q u f8 c0) [0, 1] [] 0 rfl rfl rfl rfl (by decide) rfl rfl hl.1 rfl (Nat.le_of_ble_eq_true rfl) ⟨Nat.le_of_ble_eq_true rfl, Nat.le_of_ble_eq_true rfl⟩ ⟨Nat.le_of_ble_eq_true rfl, Nat.le_of_ble_eq_true rfl⟩ dX12_feed_27 (fun u11 H locs hp9 h => ?_)
  have h : xS D cy A s.heap ([(q, .inr (12, (.ref ((u 0)) :: .int 0 :: .long 0 :: .long 1 :: .ref ((u 1)) :: .ref ((u 2)) :: .ref ((u 3)) :: .ref ((u 4)) :: .ref ((u 5)) :: .int 12 :: .int 0 :: .int 0 :: .int 0 :: .int 0 :: .int 0 :: .int (-1) :: .int (-1) :: .int 0 :: .ref ((u 6)) :: .int 0 :: .int 0 :: .ref ((u 7)) :: .ref ((u 8)) :: .ref ((u 9)) :: .ref ((u 10)) :: .ref ((u 11)) :: .ref ((u 12)) :: .ref ((u 13)) :: .int 0 :: .int 0 :: .int (-1) :: .int 0 :: .int (-1) :: .int 0 :: .ref ((u 14)) :: .int 0 :: .int 0 :: .int 0 :: .int 0 :: .int 0 :: .ref ((u 15)) :: .ref ((u 16)) :: .int 0 :: .int (-1) :: .int 0 :: .int 0 :: .int 0 :: .int 0 :: .ref ((u 17)) :: .ref ((u 18)) :: .ref ((u 19)) :: .int 0 :: .ref ((u 20)) :: .ref ((u 21)) :: .int 0 :: .ref ((u 22)) :: .int (-1) :: .int 0 :: .ref ((u 23)) :: .int (-1) :: .int (-1) :: .int 0 :: .ref ((u 24)) :: .ref ((u 25)) :: .int 0 :: []))), (((u 4)), .inl (cy 0, 600, .inl (upd (upd (upd (upd f8 8 (vp_nar .byte (c0 >>> ((24 : Int32) &&& 31)).toInt8.toInt32)) 9 (vp_nar .byte (c0 >>> ((16 : Int32) &&& 31)).toInt8.toInt32)) 10 (vp_nar .byte (c0 >>> ((8 : Int32) &&& 31)).toInt8.toInt32)) 11 (vp_nar .byte (c0 >>> ((0 : Int32) &&& 31)).toInt8.toInt32))))]) s H locs := h
  generalize (upd (upd (upd (upd f8 8 (vp_nar .byte (c0 >>> ((24 : Int32) &&& 31)).toInt8.toInt32)) 9 (vp_nar .byte (c0 >>> ((16 : Int32) &&& 31)).toInt8.toInt32)) 10 (vp_nar .byte (c0 >>> ((8 : Int32) &&& 31)).toInt8.toInt32)) 11 (vp_nar .byte (c0 >>> ((0 : Int32) &&& 31)).toInt8.toInt32)) = f12 at h
  refine lv_aload_n F.1 F.2.1 dX12_feed_30 rfl (lv_at hl 0 rfl) ?_
  refine lv_iload F.1 F.2.1 dX12_feed_31 (lv_at hl 4 rfl) ?_
  refine x_Vv (wr := []) F h yk_X12_four mw_368 mw_369 mw_370 (c_m_four12 l D cy q u f12 d0) [0, 1] [] 0 rfl rfl rfl rfl (by decide) rfl rfl hl.1 rfl (Nat.le_of_ble_eq_true rfl) ⟨Nat.le_of_ble_eq_true rfl, Nat.le_of_ble_eq_true rfl⟩ ⟨Nat.le_of_ble_eq_true rfl, Nat.le_of_ble_eq_true rfl⟩ dX12_feed_33 (fun u15 H locs hp13 h => ?_)
  have h : xS D cy A s.heap ([(q, .inr (12, (.ref ((u 0)) :: .int 0 :: .long 0 :: .long 1 :: .ref ((u 1)) :: .ref ((u 2)) :: .ref ((u 3)) :: .ref ((u 4)) :: .ref ((u 5)) :: .int 16 :: .int 0 :: .int 0 :: .int 0 :: .int 0 :: .int 0 :: .int (-1) :: .int (-1) :: .int 0 :: .ref ((u 6)) :: .int 0 :: .int 0 :: .ref ((u 7)) :: .ref ((u 8)) :: .ref ((u 9)) :: .ref ((u 10)) :: .ref ((u 11)) :: .ref ((u 12)) :: .ref ((u 13)) :: .int 0 :: .int 0 :: .int (-1) :: .int 0 :: .int (-1) :: .int 0 :: .ref ((u 14)) :: .int 0 :: .int 0 :: .int 0 :: .int 0 :: .int 0 :: .ref ((u 15)) :: .ref ((u 16)) :: .int 0 :: .int (-1) :: .int 0 :: .int 0 :: .int 0 :: .int 0 :: .ref ((u 17)) :: .ref ((u 18)) :: .ref ((u 19)) :: .int 0 :: .ref ((u 20)) :: .ref ((u 21)) :: .int 0 :: .ref ((u 22)) :: .int (-1) :: .int 0 :: .ref ((u 23)) :: .int (-1) :: .int (-1) :: .int 0 :: .ref ((u 24)) :: .ref ((u 25)) :: .int 0 :: []))), (((u 4)), .inl (cy 0, 600, .inl (upd (upd (upd (upd f12 12 (vp_nar .byte (d0 >>> ((24 : Int32) &&& 31)).toInt8.toInt32)) 13 (vp_nar .byte (d0 >>> ((16 : Int32) &&& 31)).toInt8.toInt32)) 14 (vp_nar .byte (d0 >>> ((8 : Int32) &&& 31)).toInt8.toInt32)) 15 (vp_nar .byte (d0 >>> ((0 : Int32) &&& 31)).toInt8.toInt32))))]) s H locs := h
  generalize (upd (upd (upd (upd f12 12 (vp_nar .byte (d0 >>> ((24 : Int32) &&& 31)).toInt8.toInt32)) 13 (vp_nar .byte (d0 >>> ((16 : Int32) &&& 31)).toInt8.toInt32)) 14 (vp_nar .byte (d0 >>> ((8 : Int32) &&& 31)).toInt8.toInt32)) 15 (vp_nar .byte (d0 >>> ((0 : Int32) &&& 31)).toInt8.toInt32)) = f16 at h
  refine lv_aload_n F.1 F.2.1 dX12_feed_36 rfl (lv_at hl 0 rfl) ?_
  refine lv_iload F.1 F.2.1 dX12_feed_37 (lv_at hl 5 rfl) ?_
  refine x_Vv (wr := []) F h yk_X12_four mw_368 mw_369 mw_370 (c_m_four16 l D cy q u f16 e0) [0, 1] [] 0 rfl rfl rfl rfl (by decide) rfl rfl hl.1 rfl (Nat.le_of_ble_eq_true rfl) ⟨Nat.le_of_ble_eq_true rfl, Nat.le_of_ble_eq_true rfl⟩ ⟨Nat.le_of_ble_eq_true rfl, Nat.le_of_ble_eq_true rfl⟩ dX12_feed_39 (fun u19 H locs hp17 h => ?_)
  have h : xS D cy A s.heap ([(q, .inr (12, (.ref ((u 0)) :: .int 0 :: .long 0 :: .long 1 :: .ref ((u 1)) :: .ref ((u 2)) :: .ref ((u 3)) :: .ref ((u 4)) :: .ref ((u 5)) :: .int 20 :: .int 0 :: .int 0 :: .int 0 :: .int 0 :: .int 0 :: .int (-1) :: .int (-1) :: .int 0 :: .ref ((u 6)) :: .int 0 :: .int 0 :: .ref ((u 7)) :: .ref ((u 8)) :: .ref ((u 9)) :: .ref ((u 10)) :: .ref ((u 11)) :: .ref ((u 12)) :: .ref ((u 13)) :: .int 0 :: .int 0 :: .int (-1) :: .int 0 :: .int (-1) :: .int 0 :: .ref ((u 14)) :: .int 0 :: .int 0 :: .int 0 :: .int 0 :: .int 0 :: .ref ((u 15)) :: .ref ((u 16)) :: .int 0 :: .int (-1) :: .int 0 :: .int 0 :: .int 0 :: .int 0 :: .ref ((u 17)) :: .ref ((u 18)) :: .ref ((u 19)) :: .int 0 :: .ref ((u 20)) :: .ref ((u 21)) :: .int 0 :: .ref ((u 22)) :: .int (-1) :: .int 0 :: .ref ((u 23)) :: .int (-1) :: .int (-1) :: .int 0 :: .ref ((u 24)) :: .ref ((u 25)) :: .int 0 :: []))), (((u 4)), .inl (cy 0, 600, .inl (upd (upd (upd (upd f16 16 (vp_nar .byte (e0 >>> ((24 : Int32) &&& 31)).toInt8.toInt32)) 17 (vp_nar .byte (e0 >>> ((16 : Int32) &&& 31)).toInt8.toInt32)) 18 (vp_nar .byte (e0 >>> ((8 : Int32) &&& 31)).toInt8.toInt32)) 19 (vp_nar .byte (e0 >>> ((0 : Int32) &&& 31)).toInt8.toInt32))))]) s H locs := h
  generalize (upd (upd (upd (upd f16 16 (vp_nar .byte (e0 >>> ((24 : Int32) &&& 31)).toInt8.toInt32)) 17 (vp_nar .byte (e0 >>> ((16 : Int32) &&& 31)).toInt8.toInt32)) 18 (vp_nar .byte (e0 >>> ((8 : Int32) &&& 31)).toInt8.toInt32)) 19 (vp_nar .byte (e0 >>> ((0 : Int32) &&& 31)).toInt8.toInt32)) = f20 at h
  refine lv_aload_n F.1 F.2.1 dX12_feed_42 rfl (lv_at hl 0 rfl) ?_
  refine x_get F h 0 9 inlX12 rfl (by decide) mw_367 dX12_feed_43 rfl rfl ?_
  exact x_iret F h hr hlk rfl (fun _ => 0) [] (rfl) (by decide +kernel) rfl (Nat.le_of_ble_eq_true rfl) (Nat.le_of_ble_eq_true rfl) dX12_feed_46
set_option maxHeartbeats 4000000 in
set_option maxRecDepth 100000 in
theorem c_m_isLine (l : Launch) (D : va_G) (cy : Nat → ClassId) (q : Nat) (u : Nat → Nat) (n : Int64) : ∀ sz, Met l yX12_isLine (Cond.code yX12_isLine cX12_isLine 3 (some .boolean) :: wsL_law) { frames := 0, cells := 0, slots := 0, locals := 0 } (va_Pc [.ref q, .long n] (xP D cy ([mM q u 0 0 0 (-1) 0, mA_at cy u]) sz)) (va_Qi (fun r _ => r = 0) (xB D (va_A ([mM q u 0 0 0 (-1) 0, mA_at cy u]) sz) (fun _ => [mM q u 0 0 0 (-1) 0, mA_at cy u])) (va_A ([mM q u 0 0 0 (-1) 0, mA_at cy u]) sz)) 0 0 (va_A ([mM q u 0 0 0 (-1) 0, mA_at cy u]) sz) := by
  refine x_enter (fun A => va_Qi (fun r _ => r = 0) (xB D A (fun _ => [mM q u 0 0 0 (-1) 0, mA_at cy u])) A) (by decide +kernel) rfl (Nat.le_of_ble_eq_true rfl) ?_
  intro p e s m below meth c A ls F hr hlk hin h hl
  have hl : lv_has ls 3 [(0, .ref q), (1, .long n)] := hl
  have h : xS D cy A s.heap ([(q, .inr (12, (.ref ((u 0)) :: .int 0 :: .long 0 :: .long 1 :: .ref ((u 1)) :: .ref ((u 2)) :: .ref ((u 3)) :: .ref ((u 4)) :: .ref ((u 5)) :: .int 0 :: .int 0 :: .int 0 :: .int 0 :: .int 0 :: .int 0 :: .int (-1) :: .int (-1) :: .int 0 :: .ref ((u 6)) :: .int 0 :: .int 0 :: .ref ((u 7)) :: .ref ((u 8)) :: .ref ((u 9)) :: .ref ((u 10)) :: .ref ((u 11)) :: .ref ((u 12)) :: .ref ((u 13)) :: .int 0 :: .int 0 :: .int (-1) :: .int 0 :: .int (-1) :: .int 0 :: .ref ((u 14)) :: .int 0 :: .int 0 :: .int 0 :: .int 0 :: .int 0 :: .ref ((u 15)) :: .ref ((u 16)) :: .int 0 :: .int (-1) :: .int 0 :: .int 0 :: .int 0 :: .int 0 :: .ref ((u 17)) :: .ref ((u 18)) :: .ref ((u 19)) :: .int 0 :: .ref ((u 20)) :: .ref ((u 21)) :: .int 0 :: .ref ((u 22)) :: .int (-1) :: .int 0 :: .ref ((u 23)) :: .int (-1) :: .int (-1) :: .int 0 :: .ref ((u 24)) :: .ref ((u 25)) :: .int 0 :: []))), (((u 0)), .inl (cy 2, 25710, .inr (.inl (fun _ => 0))))]) s s.heap [] := h
  refine lv_lload_n F.1 F.2.1 dX12_isLine_0 rfl (lv_at hl 1 rfl) ?_
  refine lv_lconst (v := 0) F.1 F.2.1 dX12_isLine_1 (by decide) ?_
  refine W.lcmp F.1 F.2.1 dX12_isLine_2 ?_
  refine lv_if_lt (tgt := 23) F.1 F.2.1 dX12_isLine_3 (by decide) (fun hc1 => ?_) (fun hc1 => ?_)
  · refine lv_iconst (v := 0) F.1 F.2.1 dX12_isLine_23 (by decide) ?_
    exact x_iret F h hr hlk (by decide +kernel) (fun _ => 0) [0, 1] (rfl) (by decide +kernel) rfl (Nat.le_of_ble_eq_true rfl) (Nat.le_of_ble_eq_true rfl) dX12_isLine_24
  · refine lv_lload_n F.1 F.2.1 dX12_isLine_6 rfl (lv_at hl 1 rfl) ?_
    refine lv_aload_n F.1 F.2.1 dX12_isLine_7 rfl (lv_at hl 0 rfl) ?_
    refine x_get F h 0 0 inlX12 rfl (by decide) mw_202 dX12_isLine_8 rfl rfl ?_
    refine lv_sipush (v := 4950) F.1 F.2.1 dX12_isLine_11 (by decide) ?_
    refine x_lald (v := 0) F h 1 rfl rfl (x_in (by decide +kernel)) rfl dX12_isLine_14 ?_
    refine W.lcmp F.1 F.2.1 dX12_isLine_15 ?_
    refine lv_if_ge (tgt := 23) F.1 F.2.1 dX12_isLine_16 (by decide) (fun _ => ?_) (fun hc => absurd (Int32.not_lt.mp hc1) hc)
    refine lv_iconst (v := 0) F.1 F.2.1 dX12_isLine_23 (by decide) ?_
    exact x_iret F h hr hlk (by decide +kernel) (fun _ => 0) [0, 1] (rfl) (by decide +kernel) rfl (Nat.le_of_ble_eq_true rfl) (Nat.le_of_ble_eq_true rfl) dX12_isLine_24
set_option maxHeartbeats 4000000 in
set_option maxRecDepth 100000 in
theorem c_m_begins (l : Launch) (D : va_G) (cy : Nat → ClassId) (q : Nat) (u : Nat → Nat) : ∀ sz, Met l yX12_begins (Cond.code yX12_begins cX12_begins 3 none :: wsL_law) { frames := 0, cells := 0, slots := 0, locals := 0 } (va_Pc [.ref q, .int 0] (xP D cy ([mM q u 0 0 0 (-1) 0]) sz)) (va_Qv (fun _ => True) (xB D (va_A ([mM q u 0 0 0 (-1) 0]) sz) (fun _ => [mM q u 0 0 0 (-1) 0])) (va_A ([mM q u 0 0 0 (-1) 0]) sz)) 0 0 (va_A ([mM q u 0 0 0 (-1) 0]) sz) := by
  refine x_enter (fun A => va_Qv (fun _ => True) (xB D A (fun _ => [mM q u 0 0 0 (-1) 0])) A) (by decide +kernel) rfl (Nat.le_of_ble_eq_true rfl) ?_
  intro p e s m below meth c A ls F hr hlk hin h hl
  have hl : lv_has ls 3 [(0, .ref q), (1, .int 0)] := hl
  have h : xS D cy A s.heap ([(q, .inr (12, (.ref ((u 0)) :: .int 0 :: .long 0 :: .long 1 :: .ref ((u 1)) :: .ref ((u 2)) :: .ref ((u 3)) :: .ref ((u 4)) :: .ref ((u 5)) :: .int 0 :: .int 0 :: .int 0 :: .int 0 :: .int 0 :: .int 0 :: .int (-1) :: .int (-1) :: .int 0 :: .ref ((u 6)) :: .int 0 :: .int 0 :: .ref ((u 7)) :: .ref ((u 8)) :: .ref ((u 9)) :: .ref ((u 10)) :: .ref ((u 11)) :: .ref ((u 12)) :: .ref ((u 13)) :: .int 0 :: .int 0 :: .int (-1) :: .int 0 :: .int (-1) :: .int 0 :: .ref ((u 14)) :: .int 0 :: .int 0 :: .int 0 :: .int 0 :: .int 0 :: .ref ((u 15)) :: .ref ((u 16)) :: .int 0 :: .int (-1) :: .int 0 :: .int 0 :: .int 0 :: .int 0 :: .ref ((u 17)) :: .ref ((u 18)) :: .ref ((u 19)) :: .int 0 :: .ref ((u 20)) :: .ref ((u 21)) :: .int 0 :: .ref ((u 22)) :: .int (-1) :: .int 0 :: .ref ((u 23)) :: .int (-1) :: .int (-1) :: .int 0 :: .ref ((u 24)) :: .ref ((u 25)) :: .int 0 :: [])))]) s s.heap [] := h
  refine lv_aload_n F.1 F.2.1 dX12_begins_0 rfl (lv_at hl 0 rfl) ?_
  refine lv_iload_n F.1 F.2.1 dX12_begins_1 rfl (lv_at hl 1 rfl) ?_
  refine x_put F h 0 10 inlX12 tyX12_ok nmX12 rfl (by decide) mw_460 dX12_begins_2 rfl rfl rfl rfl (Nat.le_of_ble_eq_true rfl) (ws' := [(q, .inr (12, (.ref ((u 0)) :: .int 0 :: .long 0 :: .long 1 :: .ref ((u 1)) :: .ref ((u 2)) :: .ref ((u 3)) :: .ref ((u 4)) :: .ref ((u 5)) :: .int 0 :: .int 0 :: .int 0 :: .int 0 :: .int 0 :: .int 0 :: .int (-1) :: .int (-1) :: .int 0 :: .ref ((u 6)) :: .int 0 :: .int 0 :: .ref ((u 7)) :: .ref ((u 8)) :: .ref ((u 9)) :: .ref ((u 10)) :: .ref ((u 11)) :: .ref ((u 12)) :: .ref ((u 13)) :: .int 0 :: .int 0 :: .int (-1) :: .int 0 :: .int (-1) :: .int 0 :: .ref ((u 14)) :: .int 0 :: .int 0 :: .int 0 :: .int 0 :: .int 0 :: .ref ((u 15)) :: .ref ((u 16)) :: .int 0 :: .int (-1) :: .int 0 :: .int 0 :: .int 0 :: .int 0 :: .ref ((u 17)) :: .ref ((u 18)) :: .ref ((u 19)) :: .int 0 :: .ref ((u 20)) :: .ref ((u 21)) :: .int 0 :: .ref ((u 22)) :: .int (-1) :: .int 0 :: .ref ((u 23)) :: .int (-1) :: .int (-1) :: .int 0 :: .ref ((u 24)) :: .ref ((u 25)) :: .int 0 :: [])))]) rfl (fun H locs h => ?_)
  refine lv_iconst (v := 0) F.1 F.2.1 dX12_begins_5 (by decide) ?_
  refine lv_istore_n (lv' := [(2, .int 0), (0, .ref q), (1, .int 0)]) F.1 F.2.1 dX12_begins_6 rfl hl (by decide) rfl (fun ls hl => ?_)
  refine lv_iload_n F.1 F.2.1 dX12_begins_7 rfl (lv_at hl 0 rfl) ?_
  refine lv_iload_n F.1 F.2.1 dX12_begins_8 rfl (lv_at hl 2 rfl) ?_
  refine lv_icmp_ge (tgt := 30) F.1 F.2.1 dX12_begins_9 (by decide) (fun _ => ?_) (fun hc => absurd (by decide) hc)
  refine lv_aload_n F.1 F.2.1 dX12_begins_30 rfl (lv_at hl 1 rfl) ?_
  refine lv_iconst (v := 0) F.1 F.2.1 dX12_begins_31 (by decide) ?_
  refine x_put F h 0 9 inlX12 tyX12_ok nmX12 rfl (by decide) mw_367 dX12_begins_32 rfl rfl rfl rfl (Nat.le_of_ble_eq_true rfl) (ws' := [(q, .inr (12, (.ref ((u 0)) :: .int 0 :: .long 0 :: .long 1 :: .ref ((u 1)) :: .ref ((u 2)) :: .ref ((u 3)) :: .ref ((u 4)) :: .ref ((u 5)) :: .int 0 :: .int 0 :: .int 0 :: .int 0 :: .int 0 :: .int 0 :: .int (-1) :: .int (-1) :: .int 0 :: .ref ((u 6)) :: .int 0 :: .int 0 :: .ref ((u 7)) :: .ref ((u 8)) :: .ref ((u 9)) :: .ref ((u 10)) :: .ref ((u 11)) :: .ref ((u 12)) :: .ref ((u 13)) :: .int 0 :: .int 0 :: .int (-1) :: .int 0 :: .int (-1) :: .int 0 :: .ref ((u 14)) :: .int 0 :: .int 0 :: .int 0 :: .int 0 :: .int 0 :: .ref ((u 15)) :: .ref ((u 16)) :: .int 0 :: .int (-1) :: .int 0 :: .int 0 :: .int 0 :: .int 0 :: .ref ((u 17)) :: .ref ((u 18)) :: .ref ((u 19)) :: .int 0 :: .ref ((u 20)) :: .ref ((u 21)) :: .int 0 :: .ref ((u 22)) :: .int (-1) :: .int 0 :: .ref ((u 23)) :: .int (-1) :: .int (-1) :: .int 0 :: .ref ((u 24)) :: .ref ((u 25)) :: .int 0 :: [])))]) rfl (fun H locs h => ?_)
  refine lv_aload_n F.1 F.2.1 dX12_begins_35 rfl (lv_at hl 1 rfl) ?_
  refine lv_iconst (v := 0) F.1 F.2.1 dX12_begins_36 (by decide) ?_
  refine x_put F h 0 17 inlX12 tyX12_ok nmX12 rfl (by decide) mw_450 dX12_begins_37 rfl rfl rfl rfl (Nat.le_of_ble_eq_true rfl) (ws' := [(q, .inr (12, (.ref ((u 0)) :: .int 0 :: .long 0 :: .long 1 :: .ref ((u 1)) :: .ref ((u 2)) :: .ref ((u 3)) :: .ref ((u 4)) :: .ref ((u 5)) :: .int 0 :: .int 0 :: .int 0 :: .int 0 :: .int 0 :: .int 0 :: .int (-1) :: .int (-1) :: .int 0 :: .ref ((u 6)) :: .int 0 :: .int 0 :: .ref ((u 7)) :: .ref ((u 8)) :: .ref ((u 9)) :: .ref ((u 10)) :: .ref ((u 11)) :: .ref ((u 12)) :: .ref ((u 13)) :: .int 0 :: .int 0 :: .int (-1) :: .int 0 :: .int (-1) :: .int 0 :: .ref ((u 14)) :: .int 0 :: .int 0 :: .int 0 :: .int 0 :: .int 0 :: .ref ((u 15)) :: .ref ((u 16)) :: .int 0 :: .int (-1) :: .int 0 :: .int 0 :: .int 0 :: .int 0 :: .ref ((u 17)) :: .ref ((u 18)) :: .ref ((u 19)) :: .int 0 :: .ref ((u 20)) :: .ref ((u 21)) :: .int 0 :: .ref ((u 22)) :: .int (-1) :: .int 0 :: .ref ((u 23)) :: .int (-1) :: .int (-1) :: .int 0 :: .ref ((u 24)) :: .ref ((u 25)) :: .int 0 :: [])))]) rfl (fun H locs h => ?_)
  refine lv_aload_n F.1 F.2.1 dX12_begins_40 rfl (lv_at hl 1 rfl) ?_
  refine lv_iconst (v := (-1)) F.1 F.2.1 dX12_begins_41 (by decide) ?_
  refine x_put F h 0 16 inlX12 tyX12_ok nmX12 rfl (by decide) mw_210 dX12_begins_42 rfl rfl rfl rfl (Nat.le_of_ble_eq_true rfl) (ws' := [(q, .inr (12, (.ref ((u 0)) :: .int 0 :: .long 0 :: .long 1 :: .ref ((u 1)) :: .ref ((u 2)) :: .ref ((u 3)) :: .ref ((u 4)) :: .ref ((u 5)) :: .int 0 :: .int 0 :: .int 0 :: .int 0 :: .int 0 :: .int 0 :: .int (-1) :: .int (-1) :: .int 0 :: .ref ((u 6)) :: .int 0 :: .int 0 :: .ref ((u 7)) :: .ref ((u 8)) :: .ref ((u 9)) :: .ref ((u 10)) :: .ref ((u 11)) :: .ref ((u 12)) :: .ref ((u 13)) :: .int 0 :: .int 0 :: .int (-1) :: .int 0 :: .int (-1) :: .int 0 :: .ref ((u 14)) :: .int 0 :: .int 0 :: .int 0 :: .int 0 :: .int 0 :: .ref ((u 15)) :: .ref ((u 16)) :: .int 0 :: .int (-1) :: .int 0 :: .int 0 :: .int 0 :: .int 0 :: .ref ((u 17)) :: .ref ((u 18)) :: .ref ((u 19)) :: .int 0 :: .ref ((u 20)) :: .ref ((u 21)) :: .int 0 :: .ref ((u 22)) :: .int (-1) :: .int 0 :: .ref ((u 23)) :: .int (-1) :: .int (-1) :: .int 0 :: .ref ((u 24)) :: .ref ((u 25)) :: .int 0 :: [])))]) rfl (fun H locs h => ?_)
  refine lv_aload_n F.1 F.2.1 dX12_begins_45 rfl (lv_at hl 1 rfl) ?_
  refine lv_iconst (v := 0) F.1 F.2.1 dX12_begins_46 (by decide) ?_
  refine x_put F h 0 13 inlX12 tyX12_ok nmX12 rfl (by decide) mw_461 dX12_begins_47 rfl rfl rfl rfl (Nat.le_of_ble_eq_true rfl) (ws' := [(q, .inr (12, (.ref ((u 0)) :: .int 0 :: .long 0 :: .long 1 :: .ref ((u 1)) :: .ref ((u 2)) :: .ref ((u 3)) :: .ref ((u 4)) :: .ref ((u 5)) :: .int 0 :: .int 0 :: .int 0 :: .int 0 :: .int 0 :: .int 0 :: .int (-1) :: .int (-1) :: .int 0 :: .ref ((u 6)) :: .int 0 :: .int 0 :: .ref ((u 7)) :: .ref ((u 8)) :: .ref ((u 9)) :: .ref ((u 10)) :: .ref ((u 11)) :: .ref ((u 12)) :: .ref ((u 13)) :: .int 0 :: .int 0 :: .int (-1) :: .int 0 :: .int (-1) :: .int 0 :: .ref ((u 14)) :: .int 0 :: .int 0 :: .int 0 :: .int 0 :: .int 0 :: .ref ((u 15)) :: .ref ((u 16)) :: .int 0 :: .int (-1) :: .int 0 :: .int 0 :: .int 0 :: .int 0 :: .ref ((u 17)) :: .ref ((u 18)) :: .ref ((u 19)) :: .int 0 :: .ref ((u 20)) :: .ref ((u 21)) :: .int 0 :: .ref ((u 22)) :: .int (-1) :: .int 0 :: .ref ((u 23)) :: .int (-1) :: .int (-1) :: .int 0 :: .ref ((u 24)) :: .ref ((u 25)) :: .int 0 :: [])))]) rfl (fun H locs h => ?_)
  exact x_vret F h hr hlk (fun _ => 0) [0] (trivial) (by decide +kernel) rfl (Nat.le_of_ble_eq_true rfl) (Nat.le_of_ble_eq_true rfl) dX12_begins_50
set_option maxHeartbeats 4000000 in
set_option maxRecDepth 100000 in
theorem c_m_byteAt (l : Launch) (D : va_G) (cy : Nat → ClassId) (q : Nat) (u : Nat → Nat) : ∀ sz, Met l yX12_byteAt (Cond.code yX12_byteAt cX12_byteAt 2 (some .int) :: wsL_law) { frames := 0, cells := 0, slots := 0, locals := 0 } (va_Pc [.ref q, .int 0] (xP D cy ([mM q u 0 0 0 (-1) 0]) sz)) (va_Qi (fun r _ => r = (-1)) (xB D (va_A ([mM q u 0 0 0 (-1) 0]) sz) (fun _ => [mM q u 0 0 0 (-1) 0])) (va_A ([mM q u 0 0 0 (-1) 0]) sz)) 0 0 (va_A ([mM q u 0 0 0 (-1) 0]) sz) := by
  refine x_enter (fun A => va_Qi (fun r _ => r = (-1)) (xB D A (fun _ => [mM q u 0 0 0 (-1) 0])) A) (by decide +kernel) rfl (Nat.le_of_ble_eq_true rfl) ?_
  intro p e s m below meth c A ls F hr hlk hin h hl
  have hl : lv_has ls 2 [(0, .ref q), (1, .int 0)] := hl
  have h : xS D cy A s.heap ([(q, .inr (12, (.ref ((u 0)) :: .int 0 :: .long 0 :: .long 1 :: .ref ((u 1)) :: .ref ((u 2)) :: .ref ((u 3)) :: .ref ((u 4)) :: .ref ((u 5)) :: .int 0 :: .int 0 :: .int 0 :: .int 0 :: .int 0 :: .int 0 :: .int (-1) :: .int (-1) :: .int 0 :: .ref ((u 6)) :: .int 0 :: .int 0 :: .ref ((u 7)) :: .ref ((u 8)) :: .ref ((u 9)) :: .ref ((u 10)) :: .ref ((u 11)) :: .ref ((u 12)) :: .ref ((u 13)) :: .int 0 :: .int 0 :: .int (-1) :: .int 0 :: .int (-1) :: .int 0 :: .ref ((u 14)) :: .int 0 :: .int 0 :: .int 0 :: .int 0 :: .int 0 :: .ref ((u 15)) :: .ref ((u 16)) :: .int 0 :: .int (-1) :: .int 0 :: .int 0 :: .int 0 :: .int 0 :: .ref ((u 17)) :: .ref ((u 18)) :: .ref ((u 19)) :: .int 0 :: .ref ((u 20)) :: .ref ((u 21)) :: .int 0 :: .ref ((u 22)) :: .int (-1) :: .int 0 :: .ref ((u 23)) :: .int (-1) :: .int (-1) :: .int 0 :: .ref ((u 24)) :: .ref ((u 25)) :: .int 0 :: [])))]) s s.heap [] := h
  refine lv_iload_n F.1 F.2.1 dX12_byteAt_0 rfl (lv_at hl 1 rfl) ?_
  refine lv_aload_n F.1 F.2.1 dX12_byteAt_1 rfl (lv_at hl 0 rfl) ?_
  refine x_get F h 0 10 inlX12 rfl (by decide) mw_460 dX12_byteAt_2 rfl rfl ?_
  refine lv_icmp_ge (tgt := 21) F.1 F.2.1 dX12_byteAt_5 (by decide) (fun _ => ?_) (fun hc => absurd (by decide) hc)
  refine lv_iconst (v := (-1)) F.1 F.2.1 dX12_byteAt_21 (by decide) ?_
  exact x_iret F h hr hlk rfl (fun _ => 0) [0] (rfl) (by decide +kernel) rfl (Nat.le_of_ble_eq_true rfl) (Nat.le_of_ble_eq_true rfl) dX12_byteAt_22
set_option maxHeartbeats 4000000 in
set_option maxRecDepth 100000 in
theorem c_m_ahead0 (l : Launch) (D : va_G) (cy : Nat → ClassId) (q : Nat) (u : Nat → Nat) : ∀ sz, Met l yX12_ahead0 (Cond.code yX12_ahead0 cX12_ahead0 2 none :: wsL_law) { frames := 1, cells := 0, slots := 0, locals := 21 } (va_Pc [.ref q] (xP D cy ([mM q u 0 0 0 (-1) 0]) sz)) (va_Qv (fun _ => True) (xB D (va_A ([mM q u 0 0 0 (-1) 0]) sz) (fun _ => [mM q u 0 (-1) 0 (-1) 0])) (va_A ([mM q u 0 0 0 (-1) 0]) sz)) 0 0 (va_A ([mM q u 0 0 0 (-1) 0]) sz) := by
  refine x_enter (fun A => va_Qv (fun _ => True) (xB D A (fun _ => [mM q u 0 (-1) 0 (-1) 0])) A) (by decide +kernel) rfl (Nat.le_of_ble_eq_true rfl) ?_
  intro p e s m below meth c A ls F hr hlk hin h hl
  have hl : lv_has ls 2 [(0, .ref q)] := hl
  have h : xS D cy A s.heap ([(q, .inr (12, (.ref ((u 0)) :: .int 0 :: .long 0 :: .long 1 :: .ref ((u 1)) :: .ref ((u 2)) :: .ref ((u 3)) :: .ref ((u 4)) :: .ref ((u 5)) :: .int 0 :: .int 0 :: .int 0 :: .int 0 :: .int 0 :: .int 0 :: .int (-1) :: .int (-1) :: .int 0 :: .ref ((u 6)) :: .int 0 :: .int 0 :: .ref ((u 7)) :: .ref ((u 8)) :: .ref ((u 9)) :: .ref ((u 10)) :: .ref ((u 11)) :: .ref ((u 12)) :: .ref ((u 13)) :: .int 0 :: .int 0 :: .int (-1) :: .int 0 :: .int (-1) :: .int 0 :: .ref ((u 14)) :: .int 0 :: .int 0 :: .int 0 :: .int 0 :: .int 0 :: .ref ((u 15)) :: .ref ((u 16)) :: .int 0 :: .int (-1) :: .int 0 :: .int 0 :: .int 0 :: .int 0 :: .ref ((u 17)) :: .ref ((u 18)) :: .ref ((u 19)) :: .int 0 :: .ref ((u 20)) :: .ref ((u 21)) :: .int 0 :: .ref ((u 22)) :: .int (-1) :: .int 0 :: .ref ((u 23)) :: .int (-1) :: .int (-1) :: .int 0 :: .ref ((u 24)) :: .ref ((u 25)) :: .int 0 :: [])))]) s s.heap [] := h
  refine lv_aload_n F.1 F.2.1 dX12_ahead0_0 rfl (lv_at hl 0 rfl) ?_
  refine lv_aload_n F.1 F.2.1 dX12_ahead0_1 rfl (lv_at hl 0 rfl) ?_
  refine x_get F h 0 13 inlX12 rfl (by decide) mw_461 dX12_ahead0_2 rfl rfl ?_
  refine x_Vi (wr := []) F h yk_X12_byteAt mw_477 mw_478 mw_479 (c_m_byteAt l D cy q u ) [0] [] 0 rfl rfl rfl rfl (by decide) rfl rfl hl.1 rfl (Nat.le_of_ble_eq_true rfl) ⟨Nat.le_of_ble_eq_true rfl, Nat.le_of_ble_eq_true rfl⟩ ⟨Nat.le_of_ble_eq_true rfl, Nat.le_of_ble_eq_true rfl⟩ dX12_ahead0_5 (fun r2 u3 H locs hp1 h => ?_)
  have h : xS D cy A s.heap ([(q, .inr (12, (.ref ((u 0)) :: .int 0 :: .long 0 :: .long 1 :: .ref ((u 1)) :: .ref ((u 2)) :: .ref ((u 3)) :: .ref ((u 4)) :: .ref ((u 5)) :: .int 0 :: .int 0 :: .int 0 :: .int 0 :: .int 0 :: .int 0 :: .int (-1) :: .int (-1) :: .int 0 :: .ref ((u 6)) :: .int 0 :: .int 0 :: .ref ((u 7)) :: .ref ((u 8)) :: .ref ((u 9)) :: .ref ((u 10)) :: .ref ((u 11)) :: .ref ((u 12)) :: .ref ((u 13)) :: .int 0 :: .int 0 :: .int (-1) :: .int 0 :: .int (-1) :: .int 0 :: .ref ((u 14)) :: .int 0 :: .int 0 :: .int 0 :: .int 0 :: .int 0 :: .ref ((u 15)) :: .ref ((u 16)) :: .int 0 :: .int (-1) :: .int 0 :: .int 0 :: .int 0 :: .int 0 :: .ref ((u 17)) :: .ref ((u 18)) :: .ref ((u 19)) :: .int 0 :: .ref ((u 20)) :: .ref ((u 21)) :: .int 0 :: .ref ((u 22)) :: .int (-1) :: .int 0 :: .ref ((u 23)) :: .int (-1) :: .int (-1) :: .int 0 :: .ref ((u 24)) :: .ref ((u 25)) :: .int 0 :: [])))]) s H locs := h
  obtain rfl : r2 = (-1) := hp1
  refine lv_bipush (v := 32) F.1 F.2.1 dX12_ahead0_8 (by decide) ?_
  refine lv_icmp_eq (tgt := 26) F.1 F.2.1 dX12_ahead0_10 (by decide) (fun hc => absurd hc (by decide)) (fun _ => ?_)
  refine lv_aload_n F.1 F.2.1 dX12_ahead0_13 rfl (lv_at hl 0 rfl) ?_
  refine lv_aload_n F.1 F.2.1 dX12_ahead0_14 rfl (lv_at hl 0 rfl) ?_
  refine x_get F h 0 13 inlX12 rfl (by decide) mw_461 dX12_ahead0_15 rfl rfl ?_
  refine x_Vi (wr := []) F h yk_X12_byteAt mw_477 mw_478 mw_479 (c_m_byteAt l D cy q u ) [0] [] 0 rfl rfl rfl rfl (by decide) rfl rfl hl.1 rfl (Nat.le_of_ble_eq_true rfl) ⟨Nat.le_of_ble_eq_true rfl, Nat.le_of_ble_eq_true rfl⟩ ⟨Nat.le_of_ble_eq_true rfl, Nat.le_of_ble_eq_true rfl⟩ dX12_ahead0_18 (fun r5 u6 H locs hp4 h => ?_)
  have h : xS D cy A s.heap ([(q, .inr (12, (.ref ((u 0)) :: .int 0 :: .long 0 :: .long 1 :: .ref ((u 1)) :: .ref ((u 2)) :: .ref ((u 3)) :: .ref ((u 4)) :: .ref ((u 5)) :: .int 0 :: .int 0 :: .int 0 :: .int 0 :: .int 0 :: .int 0 :: .int (-1) :: .int (-1) :: .int 0 :: .ref ((u 6)) :: .int 0 :: .int 0 :: .ref ((u 7)) :: .ref ((u 8)) :: .ref ((u 9)) :: .ref ((u 10)) :: .ref ((u 11)) :: .ref ((u 12)) :: .ref ((u 13)) :: .int 0 :: .int 0 :: .int (-1) :: .int 0 :: .int (-1) :: .int 0 :: .ref ((u 14)) :: .int 0 :: .int 0 :: .int 0 :: .int 0 :: .int 0 :: .ref ((u 15)) :: .ref ((u 16)) :: .int 0 :: .int (-1) :: .int 0 :: .int 0 :: .int 0 :: .int 0 :: .ref ((u 17)) :: .ref ((u 18)) :: .ref ((u 19)) :: .int 0 :: .ref ((u 20)) :: .ref ((u 21)) :: .int 0 :: .ref ((u 22)) :: .int (-1) :: .int 0 :: .ref ((u 23)) :: .int (-1) :: .int (-1) :: .int 0 :: .ref ((u 24)) :: .ref ((u 25)) :: .int 0 :: [])))]) s H locs := h
  obtain rfl : r5 = (-1) := hp4
  refine lv_bipush (v := 10) F.1 F.2.1 dX12_ahead0_21 (by decide) ?_
  refine lv_icmp_ne (tgt := 39) F.1 F.2.1 dX12_ahead0_23 (by decide) (fun _ => ?_) (fun hc => absurd hc (by decide))
  refine lv_aload_n F.1 F.2.1 dX12_ahead0_39 rfl (lv_at hl 0 rfl) ?_
  refine lv_aload_n F.1 F.2.1 dX12_ahead0_40 rfl (lv_at hl 0 rfl) ?_
  refine x_get F h 0 13 inlX12 rfl (by decide) mw_461 dX12_ahead0_41 rfl rfl ?_
  refine x_put F h 0 12 inlX12 tyX12_ok nmX12 rfl (by decide) mw_467 dX12_ahead0_44 rfl rfl rfl rfl (Nat.le_of_ble_eq_true rfl) (ws' := [(q, .inr (12, (.ref ((u 0)) :: .int 0 :: .long 0 :: .long 1 :: .ref ((u 1)) :: .ref ((u 2)) :: .ref ((u 3)) :: .ref ((u 4)) :: .ref ((u 5)) :: .int 0 :: .int 0 :: .int 0 :: .int 0 :: .int 0 :: .int 0 :: .int (-1) :: .int (-1) :: .int 0 :: .ref ((u 6)) :: .int 0 :: .int 0 :: .ref ((u 7)) :: .ref ((u 8)) :: .ref ((u 9)) :: .ref ((u 10)) :: .ref ((u 11)) :: .ref ((u 12)) :: .ref ((u 13)) :: .int 0 :: .int 0 :: .int (-1) :: .int 0 :: .int (-1) :: .int 0 :: .ref ((u 14)) :: .int 0 :: .int 0 :: .int 0 :: .int 0 :: .int 0 :: .ref ((u 15)) :: .ref ((u 16)) :: .int 0 :: .int (-1) :: .int 0 :: .int 0 :: .int 0 :: .int 0 :: .ref ((u 17)) :: .ref ((u 18)) :: .ref ((u 19)) :: .int 0 :: .ref ((u 20)) :: .ref ((u 21)) :: .int 0 :: .ref ((u 22)) :: .int (-1) :: .int 0 :: .ref ((u 23)) :: .int (-1) :: .int (-1) :: .int 0 :: .ref ((u 24)) :: .ref ((u 25)) :: .int 0 :: [])))]) rfl (fun H locs h => ?_)
  refine lv_aload_n F.1 F.2.1 dX12_ahead0_47 rfl (lv_at hl 0 rfl) ?_
  refine lv_aload_n F.1 F.2.1 dX12_ahead0_48 rfl (lv_at hl 0 rfl) ?_
  refine x_get F h 0 13 inlX12 rfl (by decide) mw_461 dX12_ahead0_49 rfl rfl ?_
  refine x_Vi (wr := []) F h yk_X12_byteAt mw_477 mw_478 mw_479 (c_m_byteAt l D cy q u ) [0] [] 0 rfl rfl rfl rfl (by decide) rfl rfl hl.1 rfl (Nat.le_of_ble_eq_true rfl) ⟨Nat.le_of_ble_eq_true rfl, Nat.le_of_ble_eq_true rfl⟩ ⟨Nat.le_of_ble_eq_true rfl, Nat.le_of_ble_eq_true rfl⟩ dX12_ahead0_52 (fun r8 u9 H locs hp7 h => ?_)
  have h : xS D cy A s.heap ([(q, .inr (12, (.ref ((u 0)) :: .int 0 :: .long 0 :: .long 1 :: .ref ((u 1)) :: .ref ((u 2)) :: .ref ((u 3)) :: .ref ((u 4)) :: .ref ((u 5)) :: .int 0 :: .int 0 :: .int 0 :: .int 0 :: .int 0 :: .int 0 :: .int (-1) :: .int (-1) :: .int 0 :: .ref ((u 6)) :: .int 0 :: .int 0 :: .ref ((u 7)) :: .ref ((u 8)) :: .ref ((u 9)) :: .ref ((u 10)) :: .ref ((u 11)) :: .ref ((u 12)) :: .ref ((u 13)) :: .int 0 :: .int 0 :: .int (-1) :: .int 0 :: .int (-1) :: .int 0 :: .ref ((u 14)) :: .int 0 :: .int 0 :: .int 0 :: .int 0 :: .int 0 :: .ref ((u 15)) :: .ref ((u 16)) :: .int 0 :: .int (-1) :: .int 0 :: .int 0 :: .int 0 :: .int 0 :: .ref ((u 17)) :: .ref ((u 18)) :: .ref ((u 19)) :: .int 0 :: .ref ((u 20)) :: .ref ((u 21)) :: .int 0 :: .ref ((u 22)) :: .int (-1) :: .int 0 :: .ref ((u 23)) :: .int (-1) :: .int (-1) :: .int 0 :: .ref ((u 24)) :: .ref ((u 25)) :: .int 0 :: [])))]) s H locs := h
  obtain rfl : r8 = (-1) := hp7
  refine lv_istore_n (lv' := [(1, .int (-1)), (0, .ref q)]) F.1 F.2.1 dX12_ahead0_55 rfl hl (by decide) rfl (fun ls hl => ?_)
  refine lv_aload_n F.1 F.2.1 dX12_ahead0_56 rfl (lv_at hl 1 rfl) ?_
  refine lv_iload_n F.1 F.2.1 dX12_ahead0_57 rfl (lv_at hl 0 rfl) ?_
  refine x_put F h 0 14 inlX12 tyX12_ok nmX12 rfl (by decide) mw_472 dX12_ahead0_58 rfl rfl rfl rfl (Nat.le_of_ble_eq_true rfl) (ws' := [(q, .inr (12, (.ref ((u 0)) :: .int 0 :: .long 0 :: .long 1 :: .ref ((u 1)) :: .ref ((u 2)) :: .ref ((u 3)) :: .ref ((u 4)) :: .ref ((u 5)) :: .int 0 :: .int 0 :: .int 0 :: .int 0 :: .int 0 :: .int (-1) :: .int (-1) :: .int (-1) :: .int 0 :: .ref ((u 6)) :: .int 0 :: .int 0 :: .ref ((u 7)) :: .ref ((u 8)) :: .ref ((u 9)) :: .ref ((u 10)) :: .ref ((u 11)) :: .ref ((u 12)) :: .ref ((u 13)) :: .int 0 :: .int 0 :: .int (-1) :: .int 0 :: .int (-1) :: .int 0 :: .ref ((u 14)) :: .int 0 :: .int 0 :: .int 0 :: .int 0 :: .int 0 :: .ref ((u 15)) :: .ref ((u 16)) :: .int 0 :: .int (-1) :: .int 0 :: .int 0 :: .int 0 :: .int 0 :: .ref ((u 17)) :: .ref ((u 18)) :: .ref ((u 19)) :: .int 0 :: .ref ((u 20)) :: .ref ((u 21)) :: .int 0 :: .ref ((u 22)) :: .int (-1) :: .int 0 :: .ref ((u 23)) :: .int (-1) :: .int (-1) :: .int 0 :: .ref ((u 24)) :: .ref ((u 25)) :: .int 0 :: [])))]) rfl (fun H locs h => ?_)
  refine lv_iload_n F.1 F.2.1 dX12_ahead0_61 rfl (lv_at hl 0 rfl) ?_
  refine lv_iconst (v := (-1)) F.1 F.2.1 dX12_ahead0_62 (by decide) ?_
  refine lv_icmp_ne (tgt := 74) F.1 F.2.1 dX12_ahead0_63 (by decide) (fun hc => absurd hc (by decide)) (fun _ => ?_)
  refine lv_aload_n F.1 F.2.1 dX12_ahead0_66 rfl (lv_at hl 1 rfl) ?_
  refine lv_iconst (v := 0) F.1 F.2.1 dX12_ahead0_67 (by decide) ?_
  refine x_put F h 0 11 inlX12 tyX12_ok nmX12 rfl (by decide) mw_466 dX12_ahead0_68 rfl rfl rfl rfl (Nat.le_of_ble_eq_true rfl) (ws' := [(q, .inr (12, (.ref ((u 0)) :: .int 0 :: .long 0 :: .long 1 :: .ref ((u 1)) :: .ref ((u 2)) :: .ref ((u 3)) :: .ref ((u 4)) :: .ref ((u 5)) :: .int 0 :: .int 0 :: .int 0 :: .int 0 :: .int 0 :: .int (-1) :: .int (-1) :: .int (-1) :: .int 0 :: .ref ((u 6)) :: .int 0 :: .int 0 :: .ref ((u 7)) :: .ref ((u 8)) :: .ref ((u 9)) :: .ref ((u 10)) :: .ref ((u 11)) :: .ref ((u 12)) :: .ref ((u 13)) :: .int 0 :: .int 0 :: .int (-1) :: .int 0 :: .int (-1) :: .int 0 :: .ref ((u 14)) :: .int 0 :: .int 0 :: .int 0 :: .int 0 :: .int 0 :: .ref ((u 15)) :: .ref ((u 16)) :: .int 0 :: .int (-1) :: .int 0 :: .int 0 :: .int 0 :: .int 0 :: .ref ((u 17)) :: .ref ((u 18)) :: .ref ((u 19)) :: .int 0 :: .ref ((u 20)) :: .ref ((u 21)) :: .int 0 :: .ref ((u 22)) :: .int (-1) :: .int 0 :: .ref ((u 23)) :: .int (-1) :: .int (-1) :: .int 0 :: .ref ((u 24)) :: .ref ((u 25)) :: .int 0 :: [])))]) rfl (fun H locs h => ?_)
  refine lv_goto (tgt := 246) F.1 F.2.1 dX12_ahead0_71 (by decide) ?_
  exact x_vret F h hr hlk (fun _ => 0) [0] (trivial) (by decide +kernel) rfl (Nat.le_of_ble_eq_true rfl) (Nat.le_of_ble_eq_true rfl) dX12_ahead0_246
set_option maxHeartbeats 4000000 in
set_option maxRecDepth 100000 in
theorem c_m_readsLine (l : Launch) (D : va_G) (cy : Nat → ClassId) (q : Nat) (u : Nat → Nat) : ∀ sz, Met l yX12_readsLine (Cond.code yX12_readsLine cX12_readsLine 2 (some .int) :: wsL_law) { frames := 2, cells := 0, slots := 0, locals := 42 } (va_Pc [.ref q] (xP D cy ([mM q u 0 0 0 (-1) 0]) sz)) (va_Qi (fun r _ => r = 0) (xB D (va_A ([mM q u 0 0 0 (-1) 0]) sz) (fun _ => [mM q u 0 (-1) 0 (-1) 0])) (va_A ([mM q u 0 0 0 (-1) 0]) sz)) 0 0 (va_A ([mM q u 0 0 0 (-1) 0]) sz) := by
  refine x_enter (fun A => va_Qi (fun r _ => r = 0) (xB D A (fun _ => [mM q u 0 (-1) 0 (-1) 0])) A) (by decide +kernel) rfl (Nat.le_of_ble_eq_true rfl) ?_
  intro p e s m below meth c A ls F hr hlk hin h hl
  have hl : lv_has ls 2 [(0, .ref q)] := hl
  have h : xS D cy A s.heap ([(q, .inr (12, (.ref ((u 0)) :: .int 0 :: .long 0 :: .long 1 :: .ref ((u 1)) :: .ref ((u 2)) :: .ref ((u 3)) :: .ref ((u 4)) :: .ref ((u 5)) :: .int 0 :: .int 0 :: .int 0 :: .int 0 :: .int 0 :: .int 0 :: .int (-1) :: .int (-1) :: .int 0 :: .ref ((u 6)) :: .int 0 :: .int 0 :: .ref ((u 7)) :: .ref ((u 8)) :: .ref ((u 9)) :: .ref ((u 10)) :: .ref ((u 11)) :: .ref ((u 12)) :: .ref ((u 13)) :: .int 0 :: .int 0 :: .int (-1) :: .int 0 :: .int (-1) :: .int 0 :: .ref ((u 14)) :: .int 0 :: .int 0 :: .int 0 :: .int 0 :: .int 0 :: .ref ((u 15)) :: .ref ((u 16)) :: .int 0 :: .int (-1) :: .int 0 :: .int 0 :: .int 0 :: .int 0 :: .ref ((u 17)) :: .ref ((u 18)) :: .ref ((u 19)) :: .int 0 :: .ref ((u 20)) :: .ref ((u 21)) :: .int 0 :: .ref ((u 22)) :: .int (-1) :: .int 0 :: .ref ((u 23)) :: .int (-1) :: .int (-1) :: .int 0 :: .ref ((u 24)) :: .ref ((u 25)) :: .int 0 :: [])))]) s s.heap [] := h
  refine lv_iconst (v := 0) F.1 F.2.1 dX12_readsLine_0 (by decide) ?_
  refine lv_istore_n (lv' := [(1, .int 0), (0, .ref q)]) F.1 F.2.1 dX12_readsLine_1 rfl hl (by decide) rfl (fun ls hl => ?_)
  refine lv_aload_n F.1 F.2.1 dX12_readsLine_2 rfl (lv_at hl 1 rfl) ?_
  refine x_Vv (wr := []) F h yk_X12_ahead0 mw_468 mw_469 mw_470 (c_m_ahead0 l D cy q u ) [0] [] 0 rfl rfl rfl rfl (by decide) rfl rfl hl.1 rfl (Nat.le_of_ble_eq_true rfl) ⟨Nat.le_of_ble_eq_true rfl, Nat.le_of_ble_eq_true rfl⟩ ⟨Nat.le_of_ble_eq_true rfl, Nat.le_of_ble_eq_true rfl⟩ dX12_readsLine_3 (fun u3 H locs hp1 h => ?_)
  have h : xS D cy A s.heap ([(q, .inr (12, (.ref ((u 0)) :: .int 0 :: .long 0 :: .long 1 :: .ref ((u 1)) :: .ref ((u 2)) :: .ref ((u 3)) :: .ref ((u 4)) :: .ref ((u 5)) :: .int 0 :: .int 0 :: .int 0 :: .int 0 :: .int 0 :: .int (-1) :: .int (-1) :: .int (-1) :: .int 0 :: .ref ((u 6)) :: .int 0 :: .int 0 :: .ref ((u 7)) :: .ref ((u 8)) :: .ref ((u 9)) :: .ref ((u 10)) :: .ref ((u 11)) :: .ref ((u 12)) :: .ref ((u 13)) :: .int 0 :: .int 0 :: .int (-1) :: .int 0 :: .int (-1) :: .int 0 :: .ref ((u 14)) :: .int 0 :: .int 0 :: .int 0 :: .int 0 :: .int 0 :: .ref ((u 15)) :: .ref ((u 16)) :: .int 0 :: .int (-1) :: .int 0 :: .int 0 :: .int 0 :: .int 0 :: .ref ((u 17)) :: .ref ((u 18)) :: .ref ((u 19)) :: .int 0 :: .ref ((u 20)) :: .ref ((u 21)) :: .int 0 :: .ref ((u 22)) :: .int (-1) :: .int 0 :: .ref ((u 23)) :: .int (-1) :: .int (-1) :: .int 0 :: .ref ((u 24)) :: .ref ((u 25)) :: .int 0 :: [])))]) s H locs := h
  refine lv_aload_n F.1 F.2.1 dX12_readsLine_6 rfl (lv_at hl 1 rfl) ?_
  refine x_get F h 0 11 inlX12 rfl (by decide) mw_466 dX12_readsLine_7 rfl rfl ?_
  refine lv_if_eq (tgt := 100) F.1 F.2.1 dX12_readsLine_10 (by decide) (fun _ => ?_) (fun hc => absurd (by decide) hc)
  refine lv_iload_n F.1 F.2.1 dX12_readsLine_100 rfl (lv_at hl 0 rfl) ?_
  exact x_iret F h hr hlk rfl (fun _ => 0) [0] (rfl) (by decide +kernel) rfl (Nat.le_of_ble_eq_true rfl) (Nat.le_of_ble_eq_true rfl) dX12_readsLine_101
set_option maxHeartbeats 4000000 in
set_option maxRecDepth 100000 in
theorem c_m_lineAt (l : Launch) (D : va_G) (cy : Nat → ClassId) (q : Nat) (u : Nat → Nat) : ∀ sz, Met l yX12_lineAt (Cond.code yX12_lineAt cX12_lineAt 2 (some .int) :: wsL_law) { frames := 0, cells := 0, slots := 0, locals := 0 } (va_Pc [.ref q, .int 0] (xP D cy ([mM q u 0 (-1) 0 0 0]) sz)) (va_Qi (fun r _ => r = 4951) (xB D (va_A ([mM q u 0 (-1) 0 0 0]) sz) (fun _ => [mM q u 0 (-1) 0 0 0])) (va_A ([mM q u 0 (-1) 0 0 0]) sz)) 0 0 (va_A ([mM q u 0 (-1) 0 0 0]) sz) := by
  refine x_enter (fun A => va_Qi (fun r _ => r = 4951) (xB D A (fun _ => [mM q u 0 (-1) 0 0 0])) A) (by decide +kernel) rfl (Nat.le_of_ble_eq_true rfl) ?_
  intro p e s m below meth c A ls F hr hlk hin h hl
  have hl : lv_has ls 2 [(0, .ref q), (1, .int 0)] := hl
  have h : xS D cy A s.heap ([(q, .inr (12, (.ref ((u 0)) :: .int 0 :: .long 0 :: .long 1 :: .ref ((u 1)) :: .ref ((u 2)) :: .ref ((u 3)) :: .ref ((u 4)) :: .ref ((u 5)) :: .int 0 :: .int 0 :: .int 0 :: .int 0 :: .int 0 :: .int (-1) :: .int 0 :: .int (-1) :: .int 0 :: .ref ((u 6)) :: .int 0 :: .int 0 :: .ref ((u 7)) :: .ref ((u 8)) :: .ref ((u 9)) :: .ref ((u 10)) :: .ref ((u 11)) :: .ref ((u 12)) :: .ref ((u 13)) :: .int 0 :: .int 0 :: .int (-1) :: .int 0 :: .int (-1) :: .int 0 :: .ref ((u 14)) :: .int 0 :: .int 0 :: .int 0 :: .int 0 :: .int 0 :: .ref ((u 15)) :: .ref ((u 16)) :: .int 0 :: .int (-1) :: .int 0 :: .int 0 :: .int 0 :: .int 0 :: .ref ((u 17)) :: .ref ((u 18)) :: .ref ((u 19)) :: .int 0 :: .ref ((u 20)) :: .ref ((u 21)) :: .int 0 :: .ref ((u 22)) :: .int (-1) :: .int 0 :: .ref ((u 23)) :: .int (-1) :: .int (-1) :: .int 0 :: .ref ((u 24)) :: .ref ((u 25)) :: .int 0 :: [])))]) s s.heap [] := h
  refine lv_sipush (v := 4951) F.1 F.2.1 dX12_lineAt_0 (by decide) ?_
  refine lv_bipush (v := 13) F.1 F.2.1 dX12_lineAt_3 (by decide) ?_
  refine lv_iload_n F.1 F.2.1 dX12_lineAt_5 rfl (lv_at hl 1 rfl) ?_
  refine lv_imul F.1 F.2.1 dX12_lineAt_6 ?_
  refine x_topi (y := 0) (by decide +kernel) ?_
  refine lv_iadd F.1 F.2.1 dX12_lineAt_7 ?_
  refine x_topi (y := 4951) (by decide +kernel) ?_
  exact x_iret F h hr hlk rfl (fun _ => 0) [0] (rfl) (by decide +kernel) rfl (Nat.le_of_ble_eq_true rfl) (Nat.le_of_ble_eq_true rfl) dX12_lineAt_8
set_option maxHeartbeats 4000000 in
set_option maxRecDepth 100000 in
theorem c_m_line (l : Launch) (D : va_G) (cy : Nat → ClassId) (q : Nat) (u : Nat → Nat) (n : Int32) : ∀ sz, Met l yX12_line (Cond.code yX12_line cX12_line 5 (some .int) :: wsL_law) { frames := 3, cells := 0, slots := 0, locals := 63 } (va_Pc [.ref q, .int n] (xP D cy ([mM q u 0 0 0 (-1) 0, mA_at cy u]) sz)) (va_Qi (fun r _ => r = if n = 0 then 0 else -1) (xB D (va_A ([mM q u 0 0 0 (-1) 0, mA_at cy u]) sz) (fun _ => [])) (va_A ([mM q u 0 0 0 (-1) 0, mA_at cy u]) sz)) 0 0 (va_A ([mM q u 0 0 0 (-1) 0, mA_at cy u]) sz) := by
  refine x_enter (fun A => va_Qi (fun r _ => r = if n = 0 then 0 else -1) (xB D A (fun _ => [])) A) (by decide +kernel) rfl (Nat.le_of_ble_eq_true rfl) ?_
  intro p e s m below meth c A ls F hr hlk hin h hl
  have hl : lv_has ls 5 [(0, .ref q), (1, .int n)] := hl
  have h : xS D cy A s.heap ([(q, .inr (12, (.ref ((u 0)) :: .int 0 :: .long 0 :: .long 1 :: .ref ((u 1)) :: .ref ((u 2)) :: .ref ((u 3)) :: .ref ((u 4)) :: .ref ((u 5)) :: .int 0 :: .int 0 :: .int 0 :: .int 0 :: .int 0 :: .int 0 :: .int (-1) :: .int (-1) :: .int 0 :: .ref ((u 6)) :: .int 0 :: .int 0 :: .ref ((u 7)) :: .ref ((u 8)) :: .ref ((u 9)) :: .ref ((u 10)) :: .ref ((u 11)) :: .ref ((u 12)) :: .ref ((u 13)) :: .int 0 :: .int 0 :: .int (-1) :: .int 0 :: .int (-1) :: .int 0 :: .ref ((u 14)) :: .int 0 :: .int 0 :: .int 0 :: .int 0 :: .int 0 :: .ref ((u 15)) :: .ref ((u 16)) :: .int 0 :: .int (-1) :: .int 0 :: .int 0 :: .int 0 :: .int 0 :: .ref ((u 17)) :: .ref ((u 18)) :: .ref ((u 19)) :: .int 0 :: .ref ((u 20)) :: .ref ((u 21)) :: .int 0 :: .ref ((u 22)) :: .int (-1) :: .int 0 :: .ref ((u 23)) :: .int (-1) :: .int (-1) :: .int 0 :: .ref ((u 24)) :: .ref ((u 25)) :: .int 0 :: []))), (((u 0)), .inl (cy 2, 25710, .inr (.inl (fun _ => 0))))]) s s.heap [] := h
  refine lv_iload_n F.1 F.2.1 dX12_line_0 rfl (lv_at hl 1 rfl) ?_
  refine lv_if_lt (tgt := 18) F.1 F.2.1 dX12_line_1 (by decide) (fun hc1 => ?_) (fun hc1 => ?_)
  · refine lv_aload_n F.1 F.2.1 dX12_line_18 rfl (lv_at hl 0 rfl) ?_
    refine lv_iconst (v := 1) F.1 F.2.1 dX12_line_19 (by decide) ?_
    refine x_Vi (wr := [(((u 0)), .inl (cy 2, 25710, .inr (.inl (fun _ => 0))))]) F h yk_X12_refuse mw_452 mw_453 mw_454 (c_m_refuse l D cy q ((.ref ((u 0)) :: .int 0 :: .long 0 :: .long 1 :: .ref ((u 1)) :: .ref ((u 2)) :: .ref ((u 3)) :: .ref ((u 4)) :: .ref ((u 5)) :: .int 0 :: .int 0 :: .int 0 :: .int 0 :: .int 0 :: .int 0 :: .int (-1) :: .int (-1) :: .int 0 :: .ref ((u 6)) :: .int 0 :: .int 0 :: .ref ((u 7)) :: .ref ((u 8)) :: .ref ((u 9)) :: .ref ((u 10)) :: .ref ((u 11)) :: .ref ((u 12)) :: .ref ((u 13)) :: .int 0 :: .int 0 :: .int (-1) :: .int 0 :: .int (-1) :: .int 0 :: .ref ((u 14)) :: .int 0 :: .int 0 :: .int 0 :: .int 0 :: .int 0 :: .ref ((u 15)) :: .ref ((u 16)) :: .int 0 :: .int (-1) :: .int 0 :: .int 0 :: .int 0 :: .int 0 :: .ref ((u 17)) :: .ref ((u 18)) :: .ref ((u 19)) :: .int 0 :: .ref ((u 20)) :: .ref ((u 21)) :: .int 0 :: .ref ((u 22)) :: .int (-1) :: .int 0 :: .ref ((u 23)) :: .int (-1) :: .int (-1) :: .int 0 :: .ref ((u 24)) :: .ref ((u 25)) :: .int 0 :: [])) rfl 1) [0] [1] 0 rfl rfl rfl rfl (by decide) rfl rfl hl.1 rfl (Nat.le_of_ble_eq_true rfl) ⟨Nat.le_of_ble_eq_true rfl, Nat.le_of_ble_eq_true rfl⟩ ⟨Nat.le_of_ble_eq_true rfl, Nat.le_of_ble_eq_true rfl⟩ dX12_line_20 (fun r3 u4 H locs hp2 h => ?_)
    have h : xS D cy A s.heap ([(((u 0)), .inl (cy 2, 25710, .inr (.inl (fun _ => 0))))]) s H locs := h
    obtain rfl : r3 = (-1) := hp2
    exact x_iret F h hr hlk rfl (fun _ => 0) [] (by first | (rw [if_neg]; rintro rfl; revert hc1; decide) | (rw [if_neg]; rintro ⟨hx, rfl⟩; first | exact hx hc1 | (revert hc1; decide))) (by decide +kernel) rfl (Nat.le_of_ble_eq_true rfl) (Nat.le_of_ble_eq_true rfl) dX12_line_23
  · refine lv_iload_n F.1 F.2.1 dX12_line_4 rfl (lv_at hl 1 rfl) ?_
    refine lv_aload_n F.1 F.2.1 dX12_line_5 rfl (lv_at hl 0 rfl) ?_
    refine x_get F h 0 9 inlX12 rfl (by decide) mw_367 dX12_line_6 rfl rfl ?_
    refine lv_icmp_gt (tgt := 18) F.1 F.2.1 dX12_line_9 (by decide) (fun hc5 => ?_) (fun hc5 => ?_)
    · refine lv_aload_n F.1 F.2.1 dX12_line_18 rfl (lv_at hl 0 rfl) ?_
      refine lv_iconst (v := 1) F.1 F.2.1 dX12_line_19 (by decide) ?_
      refine x_Vi (wr := [(((u 0)), .inl (cy 2, 25710, .inr (.inl (fun _ => 0))))]) F h yk_X12_refuse mw_452 mw_453 mw_454 (c_m_refuse l D cy q ((.ref ((u 0)) :: .int 0 :: .long 0 :: .long 1 :: .ref ((u 1)) :: .ref ((u 2)) :: .ref ((u 3)) :: .ref ((u 4)) :: .ref ((u 5)) :: .int 0 :: .int 0 :: .int 0 :: .int 0 :: .int 0 :: .int 0 :: .int (-1) :: .int (-1) :: .int 0 :: .ref ((u 6)) :: .int 0 :: .int 0 :: .ref ((u 7)) :: .ref ((u 8)) :: .ref ((u 9)) :: .ref ((u 10)) :: .ref ((u 11)) :: .ref ((u 12)) :: .ref ((u 13)) :: .int 0 :: .int 0 :: .int (-1) :: .int 0 :: .int (-1) :: .int 0 :: .ref ((u 14)) :: .int 0 :: .int 0 :: .int 0 :: .int 0 :: .int 0 :: .ref ((u 15)) :: .ref ((u 16)) :: .int 0 :: .int (-1) :: .int 0 :: .int 0 :: .int 0 :: .int 0 :: .ref ((u 17)) :: .ref ((u 18)) :: .ref ((u 19)) :: .int 0 :: .ref ((u 20)) :: .ref ((u 21)) :: .int 0 :: .ref ((u 22)) :: .int (-1) :: .int 0 :: .ref ((u 23)) :: .int (-1) :: .int (-1) :: .int 0 :: .ref ((u 24)) :: .ref ((u 25)) :: .int 0 :: [])) rfl 1) [0] [1] 0 rfl rfl rfl rfl (by decide) rfl rfl hl.1 rfl (Nat.le_of_ble_eq_true rfl) ⟨Nat.le_of_ble_eq_true rfl, Nat.le_of_ble_eq_true rfl⟩ ⟨Nat.le_of_ble_eq_true rfl, Nat.le_of_ble_eq_true rfl⟩ dX12_line_20 (fun r7 u8 H locs hp6 h => ?_)
      have h : xS D cy A s.heap ([(((u 0)), .inl (cy 2, 25710, .inr (.inl (fun _ => 0))))]) s H locs := h
      obtain rfl : r7 = (-1) := hp6
      exact x_iret F h hr hlk rfl (fun _ => 0) [] (by first | (rw [if_neg]; rintro rfl; revert hc5; decide) | (rw [if_neg]; rintro ⟨hx, rfl⟩; first | exact hx hc5 | (revert hc5; decide))) (by decide +kernel) rfl (Nat.le_of_ble_eq_true rfl) (Nat.le_of_ble_eq_true rfl) dX12_line_23
    · obtain rfl := x_0 hc1 hc5
      refine lv_iload_n F.1 F.2.1 dX12_line_12 rfl (lv_at hl 1 rfl) ?_
      refine lv_bipush (v := 120) F.1 F.2.1 dX12_line_13 (by decide) ?_
      refine lv_icmp_le (tgt := 24) F.1 F.2.1 dX12_line_15 (by decide) (fun _ => ?_) (fun hc => absurd (by decide) hc)
      refine lv_aload_n F.1 F.2.1 dX12_line_24 rfl (lv_at hl 0 rfl) ?_
      refine lv_iload_n F.1 F.2.1 dX12_line_25 rfl (lv_at hl 1 rfl) ?_
      refine x_Vv (wr := [(((u 0)), .inl (cy 2, 25710, .inr (.inl (fun _ => 0))))]) F h yk_X12_begins mw_456 mw_457 mw_458 (c_m_begins l D cy q u ) [0] [1] 0 rfl rfl rfl rfl (by decide) rfl rfl hl.1 rfl (Nat.le_of_ble_eq_true rfl) ⟨Nat.le_of_ble_eq_true rfl, Nat.le_of_ble_eq_true rfl⟩ ⟨Nat.le_of_ble_eq_true rfl, Nat.le_of_ble_eq_true rfl⟩ dX12_line_26 (fun u11 H locs hp9 h => ?_)
      have h : xS D cy A s.heap ([(((u 0)), .inl (cy 2, 25710, .inr (.inl (fun _ => 0)))), (q, .inr (12, (.ref ((u 0)) :: .int 0 :: .long 0 :: .long 1 :: .ref ((u 1)) :: .ref ((u 2)) :: .ref ((u 3)) :: .ref ((u 4)) :: .ref ((u 5)) :: .int 0 :: .int 0 :: .int 0 :: .int 0 :: .int 0 :: .int 0 :: .int (-1) :: .int (-1) :: .int 0 :: .ref ((u 6)) :: .int 0 :: .int 0 :: .ref ((u 7)) :: .ref ((u 8)) :: .ref ((u 9)) :: .ref ((u 10)) :: .ref ((u 11)) :: .ref ((u 12)) :: .ref ((u 13)) :: .int 0 :: .int 0 :: .int (-1) :: .int 0 :: .int (-1) :: .int 0 :: .ref ((u 14)) :: .int 0 :: .int 0 :: .int 0 :: .int 0 :: .int 0 :: .ref ((u 15)) :: .ref ((u 16)) :: .int 0 :: .int (-1) :: .int 0 :: .int 0 :: .int 0 :: .int 0 :: .ref ((u 17)) :: .ref ((u 18)) :: .ref ((u 19)) :: .int 0 :: .ref ((u 20)) :: .ref ((u 21)) :: .int 0 :: .ref ((u 22)) :: .int (-1) :: .int 0 :: .ref ((u 23)) :: .int (-1) :: .int (-1) :: .int 0 :: .ref ((u 24)) :: .ref ((u 25)) :: .int 0 :: [])))]) s H locs := h
      refine lv_aload_n F.1 F.2.1 dX12_line_29 rfl (lv_at hl 0 rfl) ?_
      refine x_Vi (wr := [(((u 0)), .inl (cy 2, 25710, .inr (.inl (fun _ => 0))))]) F h yk_X12_readsLine mw_462 mw_463 mw_464 (c_m_readsLine l D cy q u ) [1] [0] 1 rfl rfl rfl rfl (by decide) rfl rfl hl.1 rfl (Nat.le_of_ble_eq_true rfl) ⟨Nat.le_of_ble_eq_true rfl, Nat.le_of_ble_eq_true rfl⟩ ⟨Nat.le_of_ble_eq_true rfl, Nat.le_of_ble_eq_true rfl⟩ dX12_line_30 (fun r13 u14 H locs hp12 h => ?_)
      have h : xS D cy A s.heap ([(((u 0)), .inl (cy 2, 25710, .inr (.inl (fun _ => 0)))), (q, .inr (12, (.ref ((u 0)) :: .int 0 :: .long 0 :: .long 1 :: .ref ((u 1)) :: .ref ((u 2)) :: .ref ((u 3)) :: .ref ((u 4)) :: .ref ((u 5)) :: .int 0 :: .int 0 :: .int 0 :: .int 0 :: .int 0 :: .int (-1) :: .int (-1) :: .int (-1) :: .int 0 :: .ref ((u 6)) :: .int 0 :: .int 0 :: .ref ((u 7)) :: .ref ((u 8)) :: .ref ((u 9)) :: .ref ((u 10)) :: .ref ((u 11)) :: .ref ((u 12)) :: .ref ((u 13)) :: .int 0 :: .int 0 :: .int (-1) :: .int 0 :: .int (-1) :: .int 0 :: .ref ((u 14)) :: .int 0 :: .int 0 :: .int 0 :: .int 0 :: .int 0 :: .ref ((u 15)) :: .ref ((u 16)) :: .int 0 :: .int (-1) :: .int 0 :: .int 0 :: .int 0 :: .int 0 :: .ref ((u 17)) :: .ref ((u 18)) :: .ref ((u 19)) :: .int 0 :: .ref ((u 20)) :: .ref ((u 21)) :: .int 0 :: .ref ((u 22)) :: .int (-1) :: .int 0 :: .ref ((u 23)) :: .int (-1) :: .int (-1) :: .int 0 :: .ref ((u 24)) :: .ref ((u 25)) :: .int 0 :: [])))]) s H locs := h
      obtain rfl : r13 = 0 := hp12
      refine lv_istore_n (lv' := [(2, .int 0), (0, .ref q), (1, .int 0)]) F.1 F.2.1 dX12_line_33 rfl hl (by decide) rfl (fun ls hl => ?_)
      refine lv_aload_n F.1 F.2.1 dX12_line_34 rfl (lv_at hl 1 rfl) ?_
      refine lv_aload_n F.1 F.2.1 dX12_line_35 rfl (lv_at hl 1 rfl) ?_
      refine x_get F h 1 17 inlX12 rfl (by decide) mw_450 dX12_line_36 rfl rfl ?_
      refine x_put F h 1 15 inlX12 tyX12_ok nmX12 rfl (by decide) mw_209 dX12_line_39 rfl rfl rfl rfl (Nat.le_of_ble_eq_true rfl) (ws' := [(((u 0)), .inl (cy 2, 25710, .inr (.inl (fun _ => 0)))), (q, .inr (12, (.ref ((u 0)) :: .int 0 :: .long 0 :: .long 1 :: .ref ((u 1)) :: .ref ((u 2)) :: .ref ((u 3)) :: .ref ((u 4)) :: .ref ((u 5)) :: .int 0 :: .int 0 :: .int 0 :: .int 0 :: .int 0 :: .int (-1) :: .int 0 :: .int (-1) :: .int 0 :: .ref ((u 6)) :: .int 0 :: .int 0 :: .ref ((u 7)) :: .ref ((u 8)) :: .ref ((u 9)) :: .ref ((u 10)) :: .ref ((u 11)) :: .ref ((u 12)) :: .ref ((u 13)) :: .int 0 :: .int 0 :: .int (-1) :: .int 0 :: .int (-1) :: .int 0 :: .ref ((u 14)) :: .int 0 :: .int 0 :: .int 0 :: .int 0 :: .int 0 :: .ref ((u 15)) :: .ref ((u 16)) :: .int 0 :: .int (-1) :: .int 0 :: .int 0 :: .int 0 :: .int 0 :: .ref ((u 17)) :: .ref ((u 18)) :: .ref ((u 19)) :: .int 0 :: .ref ((u 20)) :: .ref ((u 21)) :: .int 0 :: .ref ((u 22)) :: .int (-1) :: .int 0 :: .ref ((u 23)) :: .int (-1) :: .int (-1) :: .int 0 :: .ref ((u 24)) :: .ref ((u 25)) :: .int 0 :: [])))]) rfl (fun H locs h => ?_)
      refine lv_aload_n F.1 F.2.1 dX12_line_42 rfl (lv_at hl 1 rfl) ?_
      refine x_get F h 1 17 inlX12 rfl (by decide) mw_450 dX12_line_43 rfl rfl ?_
      refine lv_if_le (tgt := 56) F.1 F.2.1 dX12_line_46 (by decide) (fun _ => ?_) (fun hc => absurd (by decide) hc)
      refine lv_aload_n F.1 F.2.1 dX12_line_56 rfl (lv_at hl 1 rfl) ?_
      refine x_get F h 1 0 inlX12 rfl (by decide) mw_202 dX12_line_57 rfl rfl ?_
      refine lv_sipush (v := 4950) F.1 F.2.1 dX12_line_60 (by decide) ?_
      refine x_lald (v := 0) F h 0 rfl rfl (x_in (by decide +kernel)) rfl dX12_line_63 ?_
      refine lv_ldc2 (v := 16) F.1 F.2.1 F.2.2.2.1 (F.2.2.2.2 _ mw_451) dX12_line_64 ?_
      refine W.lcmp F.1 F.2.1 dX12_line_67 ?_
      refine x_topi (y := (-1)) (by decide +kernel) ?_
      refine lv_if_ne (tgt := 77) F.1 F.2.1 dX12_line_68 (by decide) (fun _ => ?_) (fun hc => absurd hc (by decide))
      refine lv_aload_n F.1 F.2.1 dX12_line_77 rfl (lv_at hl 1 rfl) ?_
      refine lv_aload_n F.1 F.2.1 dX12_line_78 rfl (lv_at hl 1 rfl) ?_
      refine x_get F h 1 0 inlX12 rfl (by decide) mw_202 dX12_line_79 rfl rfl ?_
      refine lv_sipush (v := 4950) F.1 F.2.1 dX12_line_82 (by decide) ?_
      refine x_lald (v := 0) F h 0 rfl rfl (x_in (by decide +kernel)) rfl dX12_line_85 ?_
      refine lv_l2i (v := 0) F.1 F.2.1 dX12_line_86 (by decide +kernel) ?_
      refine x_Vi (wr := [(((u 0)), .inl (cy 2, 25710, .inr (.inl (fun _ => 0))))]) F h yk_X12_lineAt mw_495 mw_496 mw_497 (c_m_lineAt l D cy q u ) [1] [0] 1 rfl rfl rfl rfl (by decide) rfl rfl hl.1 rfl (Nat.le_of_ble_eq_true rfl) ⟨Nat.le_of_ble_eq_true rfl, Nat.le_of_ble_eq_true rfl⟩ ⟨Nat.le_of_ble_eq_true rfl, Nat.le_of_ble_eq_true rfl⟩ dX12_line_87 (fun r16 u17 H locs hp15 h => ?_)
      have h : xS D cy A s.heap ([(((u 0)), .inl (cy 2, 25710, .inr (.inl (fun _ => 0)))), (q, .inr (12, (.ref ((u 0)) :: .int 0 :: .long 0 :: .long 1 :: .ref ((u 1)) :: .ref ((u 2)) :: .ref ((u 3)) :: .ref ((u 4)) :: .ref ((u 5)) :: .int 0 :: .int 0 :: .int 0 :: .int 0 :: .int 0 :: .int (-1) :: .int 0 :: .int (-1) :: .int 0 :: .ref ((u 6)) :: .int 0 :: .int 0 :: .ref ((u 7)) :: .ref ((u 8)) :: .ref ((u 9)) :: .ref ((u 10)) :: .ref ((u 11)) :: .ref ((u 12)) :: .ref ((u 13)) :: .int 0 :: .int 0 :: .int (-1) :: .int 0 :: .int (-1) :: .int 0 :: .ref ((u 14)) :: .int 0 :: .int 0 :: .int 0 :: .int 0 :: .int 0 :: .ref ((u 15)) :: .ref ((u 16)) :: .int 0 :: .int (-1) :: .int 0 :: .int 0 :: .int 0 :: .int 0 :: .ref ((u 17)) :: .ref ((u 18)) :: .ref ((u 19)) :: .int 0 :: .ref ((u 20)) :: .ref ((u 21)) :: .int 0 :: .ref ((u 22)) :: .int (-1) :: .int 0 :: .ref ((u 23)) :: .int (-1) :: .int (-1) :: .int 0 :: .ref ((u 24)) :: .ref ((u 25)) :: .int 0 :: [])))]) s H locs := h
      obtain rfl : r16 = 4951 := hp15
      refine lv_istore_n (lv' := [(3, .int 4951), (2, .int 0), (0, .ref q), (1, .int 0)]) F.1 F.2.1 dX12_line_90 rfl hl (by decide) rfl (fun ls hl => ?_)
      refine lv_aload_n F.1 F.2.1 dX12_line_91 rfl (lv_at hl 2 rfl) ?_
      refine x_get F h 1 0 inlX12 rfl (by decide) mw_202 dX12_line_92 rfl rfl ?_
      refine lv_iload_n F.1 F.2.1 dX12_line_95 rfl (lv_at hl 0 rfl) ?_
      refine lv_iload_n F.1 F.2.1 dX12_line_96 rfl (lv_at hl 1 rfl) ?_
      refine lv_i2l (v := 0) F.1 F.2.1 dX12_line_97 (by decide +kernel) ?_
      refine x_last F h 0 rfl rfl (x_in (by decide +kernel)) dX12_line_98 (ws' := [(((u 0)), .inl (cy 2, 25710, .inr (.inl (fun _ => 0)))), (q, .inr (12, (.ref ((u 0)) :: .int 0 :: .long 0 :: .long 1 :: .ref ((u 1)) :: .ref ((u 2)) :: .ref ((u 3)) :: .ref ((u 4)) :: .ref ((u 5)) :: .int 0 :: .int 0 :: .int 0 :: .int 0 :: .int 0 :: .int (-1) :: .int 0 :: .int (-1) :: .int 0 :: .ref ((u 6)) :: .int 0 :: .int 0 :: .ref ((u 7)) :: .ref ((u 8)) :: .ref ((u 9)) :: .ref ((u 10)) :: .ref ((u 11)) :: .ref ((u 12)) :: .ref ((u 13)) :: .int 0 :: .int 0 :: .int (-1) :: .int 0 :: .int (-1) :: .int 0 :: .ref ((u 14)) :: .int 0 :: .int 0 :: .int 0 :: .int 0 :: .int 0 :: .ref ((u 15)) :: .ref ((u 16)) :: .int 0 :: .int (-1) :: .int 0 :: .int 0 :: .int 0 :: .int 0 :: .ref ((u 17)) :: .ref ((u 18)) :: .ref ((u 19)) :: .int 0 :: .ref ((u 20)) :: .ref ((u 21)) :: .int 0 :: .ref ((u 22)) :: .int (-1) :: .int 0 :: .ref ((u 23)) :: .int (-1) :: .int (-1) :: .int 0 :: .ref ((u 24)) :: .ref ((u 25)) :: .int 0 :: [])))]) (by rw [x_z]; rfl) (fun H locs h => ?_)
      refine lv_iconst (v := 0) F.1 F.2.1 dX12_line_99 (by decide) ?_
      refine lv_istore (lv' := [(4, .int 0), (3, .int 4951), (2, .int 0), (0, .ref q), (1, .int 0)]) F.1 F.2.1 dX12_line_100 hl (by decide) rfl (fun ls hl => ?_)
      refine lv_iload F.1 F.2.1 dX12_line_102 (lv_at hl 0 rfl) ?_
      refine lv_iload_n F.1 F.2.1 dX12_line_104 rfl (lv_at hl 2 rfl) ?_
      refine lv_icmp_ge (tgt := 132) F.1 F.2.1 dX12_line_105 (by decide) (fun _ => ?_) (fun hc => absurd (by decide) hc)
      refine lv_aload_n F.1 F.2.1 dX12_line_132 rfl (lv_at hl 3 rfl) ?_
      refine x_get F h 1 0 inlX12 rfl (by decide) mw_202 dX12_line_133 rfl rfl ?_
      refine lv_sipush (v := 4950) F.1 F.2.1 dX12_line_136 (by decide) ?_
      refine lv_dup2_11 F.1 F.2.1 dX12_line_139 rfl rfl ?_
      refine x_lald (v := 0) F h 0 rfl rfl (x_in (by decide +kernel)) rfl dX12_line_140 ?_
      refine lv_lconst (v := 1) F.1 F.2.1 dX12_line_141 (by decide) ?_
      refine lv_ladd F.1 F.2.1 dX12_line_142 ?_
      refine x_topl (y := 1) (by decide +kernel) ?_
      refine x_last F h 0 rfl rfl (x_in (by decide +kernel)) dX12_line_143 (ws' := [(((u 0)), .inl (cy 2, 25710, .inr (.inl (vp_updL (fun _ => 0) 4950 1)))), (q, .inr (12, (.ref ((u 0)) :: .int 0 :: .long 0 :: .long 1 :: .ref ((u 1)) :: .ref ((u 2)) :: .ref ((u 3)) :: .ref ((u 4)) :: .ref ((u 5)) :: .int 0 :: .int 0 :: .int 0 :: .int 0 :: .int 0 :: .int (-1) :: .int 0 :: .int (-1) :: .int 0 :: .ref ((u 6)) :: .int 0 :: .int 0 :: .ref ((u 7)) :: .ref ((u 8)) :: .ref ((u 9)) :: .ref ((u 10)) :: .ref ((u 11)) :: .ref ((u 12)) :: .ref ((u 13)) :: .int 0 :: .int 0 :: .int (-1) :: .int 0 :: .int (-1) :: .int 0 :: .ref ((u 14)) :: .int 0 :: .int 0 :: .int 0 :: .int 0 :: .int 0 :: .ref ((u 15)) :: .ref ((u 16)) :: .int 0 :: .int (-1) :: .int 0 :: .int 0 :: .int 0 :: .int 0 :: .ref ((u 17)) :: .ref ((u 18)) :: .ref ((u 19)) :: .int 0 :: .ref ((u 20)) :: .ref ((u 21)) :: .int 0 :: .ref ((u 22)) :: .int (-1) :: .int 0 :: .ref ((u 23)) :: .int (-1) :: .int (-1) :: .int 0 :: .ref ((u 24)) :: .ref ((u 25)) :: .int 0 :: [])))]) rfl (fun H locs h => ?_)
      refine lv_aload_n F.1 F.2.1 dX12_line_144 rfl (lv_at hl 3 rfl) ?_
      refine lv_aload_n F.1 F.2.1 dX12_line_145 rfl (lv_at hl 3 rfl) ?_
      refine x_get F h 1 0 inlX12 rfl (by decide) mw_202 dX12_line_146 rfl rfl ?_
      refine lv_sipush (v := 4950) F.1 F.2.1 dX12_line_149 (by decide) ?_
      refine x_lald (v := 1) F h 0 rfl rfl (x_in (by decide +kernel)) rfl dX12_line_152 ?_
      refine lv_l2i (v := 1) F.1 F.2.1 dX12_line_153 (by decide +kernel) ?_
      refine lv_iconst (v := 1) F.1 F.2.1 dX12_line_154 (by decide) ?_
      refine lv_isub F.1 F.2.1 dX12_line_155 ?_
      refine x_topi (y := 0) (by decide +kernel) ?_
      refine x_Vi (wr := [(((u 0)), .inl (cy 2, 25710, .inr (.inl (vp_updL (fun _ => 0) 4950 1))))]) F h yk_X12_gives mw_499 mw_500 mw_501 (c_m_gives l D cy q ((.ref ((u 0)) :: .int 0 :: .long 0 :: .long 1 :: .ref ((u 1)) :: .ref ((u 2)) :: .ref ((u 3)) :: .ref ((u 4)) :: .ref ((u 5)) :: .int 0 :: .int 0 :: .int 0 :: .int 0 :: .int 0 :: .int (-1) :: .int 0 :: .int (-1) :: .int 0 :: .ref ((u 6)) :: .int 0 :: .int 0 :: .ref ((u 7)) :: .ref ((u 8)) :: .ref ((u 9)) :: .ref ((u 10)) :: .ref ((u 11)) :: .ref ((u 12)) :: .ref ((u 13)) :: .int 0 :: .int 0 :: .int (-1) :: .int 0 :: .int (-1) :: .int 0 :: .ref ((u 14)) :: .int 0 :: .int 0 :: .int 0 :: .int 0 :: .int 0 :: .ref ((u 15)) :: .ref ((u 16)) :: .int 0 :: .int (-1) :: .int 0 :: .int 0 :: .int 0 :: .int 0 :: .ref ((u 17)) :: .ref ((u 18)) :: .ref ((u 19)) :: .int 0 :: .ref ((u 20)) :: .ref ((u 21)) :: .int 0 :: .ref ((u 22)) :: .int (-1) :: .int 0 :: .ref ((u 23)) :: .int (-1) :: .int (-1) :: .int 0 :: .ref ((u 24)) :: .ref ((u 25)) :: .int 0 :: [])) rfl 0) [1] [0] 1 rfl rfl rfl rfl (by decide) rfl rfl hl.1 rfl (Nat.le_of_ble_eq_true rfl) ⟨Nat.le_of_ble_eq_true rfl, Nat.le_of_ble_eq_true rfl⟩ ⟨Nat.le_of_ble_eq_true rfl, Nat.le_of_ble_eq_true rfl⟩ dX12_line_156 (fun r19 u20 H locs hp18 h => ?_)
      have h : xS D cy A s.heap ([(((u 0)), .inl (cy 2, 25710, .inr (.inl (vp_updL (fun _ => 0) 4950 1))))]) s H locs := h
      obtain rfl : r19 = 0 := hp18
      exact x_iret F h hr hlk rfl (fun _ => 0) [] (rfl) (by decide +kernel) rfl (Nat.le_of_ble_eq_true rfl) (Nat.le_of_ble_eq_true rfl) dX12_line_159
set_option maxHeartbeats 4000000 in
set_option maxRecDepth 100000 in
theorem c_m_fresh0 (l : Launch) (D : va_G) (cy : Nat → ClassId) (q : Nat) (u : Nat → Nat) : ∀ sz, Met l yX12_fresh (Cond.code yX12_fresh cX12_fresh 3 none :: wsL_law) { frames := 0, cells := 0, slots := 0, locals := 0 } (va_Pc [.ref q, .int 0] (xP D cy ([mM q u 0 0 0 (-1) 0, mA_at cy u]) sz)) (va_Qv (fun _ => True) (xB D (va_A ([mM q u 0 0 0 (-1) 0, mA_at cy u]) sz) (fun _ => [mM q u 0 0 0 (-1) 0, mA_at cy u])) (va_A ([mM q u 0 0 0 (-1) 0, mA_at cy u]) sz)) 0 0 (va_A ([mM q u 0 0 0 (-1) 0, mA_at cy u]) sz) := by
  refine x_enter (fun A => va_Qv (fun _ => True) (xB D A (fun _ => [mM q u 0 0 0 (-1) 0, mA_at cy u])) A) (by decide +kernel) rfl (Nat.le_of_ble_eq_true rfl) ?_
  intro p e s m below meth c A ls F hr hlk hin h hl
  have hl : lv_has ls 3 [(0, .ref q), (1, .int 0)] := hl
  have h : xS D cy A s.heap ([(q, .inr (12, (.ref ((u 0)) :: .int 0 :: .long 0 :: .long 1 :: .ref ((u 1)) :: .ref ((u 2)) :: .ref ((u 3)) :: .ref ((u 4)) :: .ref ((u 5)) :: .int 0 :: .int 0 :: .int 0 :: .int 0 :: .int 0 :: .int 0 :: .int (-1) :: .int (-1) :: .int 0 :: .ref ((u 6)) :: .int 0 :: .int 0 :: .ref ((u 7)) :: .ref ((u 8)) :: .ref ((u 9)) :: .ref ((u 10)) :: .ref ((u 11)) :: .ref ((u 12)) :: .ref ((u 13)) :: .int 0 :: .int 0 :: .int (-1) :: .int 0 :: .int (-1) :: .int 0 :: .ref ((u 14)) :: .int 0 :: .int 0 :: .int 0 :: .int 0 :: .int 0 :: .ref ((u 15)) :: .ref ((u 16)) :: .int 0 :: .int (-1) :: .int 0 :: .int 0 :: .int 0 :: .int 0 :: .ref ((u 17)) :: .ref ((u 18)) :: .ref ((u 19)) :: .int 0 :: .ref ((u 20)) :: .ref ((u 21)) :: .int 0 :: .ref ((u 22)) :: .int (-1) :: .int 0 :: .ref ((u 23)) :: .int (-1) :: .int (-1) :: .int 0 :: .ref ((u 24)) :: .ref ((u 25)) :: .int 0 :: []))), (((u 0)), .inl (cy 2, 25710, .inr (.inl (fun _ => 0))))]) s s.heap [] := h
  refine lv_sipush (v := 1542) F.1 F.2.1 dX12_fresh_0 (by decide) ?_
  refine lv_istore_n (lv' := [(2, .int 1542), (0, .ref q), (1, .int 0)]) F.1 F.2.1 dX12_fresh_3 rfl hl (by decide) rfl (fun ls hl => ?_)
  refine x_loop (fun (g1 : Unit) => [(q, .inr (12, (.ref ((u 0)) :: .int 0 :: .long 0 :: .long 1 :: .ref ((u 1)) :: .ref ((u 2)) :: .ref ((u 3)) :: .ref ((u 4)) :: .ref ((u 5)) :: .int 0 :: .int 0 :: .int 0 :: .int 0 :: .int 0 :: .int 0 :: .int (-1) :: .int (-1) :: .int 0 :: .ref ((u 6)) :: .int 0 :: .int 0 :: .ref ((u 7)) :: .ref ((u 8)) :: .ref ((u 9)) :: .ref ((u 10)) :: .ref ((u 11)) :: .ref ((u 12)) :: .ref ((u 13)) :: .int 0 :: .int 0 :: .int (-1) :: .int 0 :: .int (-1) :: .int 0 :: .ref ((u 14)) :: .int 0 :: .int 0 :: .int 0 :: .int 0 :: .int 0 :: .ref ((u 15)) :: .ref ((u 16)) :: .int 0 :: .int (-1) :: .int 0 :: .int 0 :: .int 0 :: .int 0 :: .ref ((u 17)) :: .ref ((u 18)) :: .ref ((u 19)) :: .int 0 :: .ref ((u 20)) :: .ref ((u 21)) :: .int 0 :: .ref ((u 22)) :: .int (-1) :: .int 0 :: .ref ((u 23)) :: .int (-1) :: .int (-1) :: .int 0 :: .ref ((u 24)) :: .ref ((u 25)) :: .int 0 :: []))), (((u 0)), .inl (cy 2, 25710, .inr (.inl (fun _ => 0))))]) 1568 (fun i => [(2, .int i), (0, .ref q), (1, .int 0)]) (fun g1 H locs ls h hl => ?_) (fun j2 g1 H locs ls hj3 h hl ih4 => ?_) 1542 () _ _ _ (by decide) h (lv_sub hl [0, 1, 2] rfl)
  · have hl : lv_has ls 3 [(2, .int 1568), (0, .ref q), (1, .int 0)] := hl
    refine lv_iload_n F.1 F.2.1 dX12_fresh_4 rfl (lv_at hl 0 rfl) ?_
    refine lv_sipush (v := 1567) F.1 F.2.1 dX12_fresh_5 (by decide) ?_
    refine lv_icmp_gt (tgt := 26) F.1 F.2.1 dX12_fresh_8 (by decide) (fun _ => ?_) (fun hc => absurd (by decide) hc)
    exact x_vret F h hr hlk (fun _ => 0) [0, 1] (trivial) (by decide +kernel) rfl (Nat.le_of_ble_eq_true rfl) (Nat.le_of_ble_eq_true rfl) dX12_fresh_26
  · have hl : lv_has ls 3 [(2, .int (nI j2)), (0, .ref q), (1, .int 0)] := hl
    refine lv_iload_n F.1 F.2.1 dX12_fresh_4 rfl (lv_at hl 0 rfl) ?_
    refine lv_sipush (v := 1567) F.1 F.2.1 dX12_fresh_5 (by decide) ?_
    refine lv_icmp_gt (tgt := 26) F.1 F.2.1 dX12_fresh_8 (by decide) (fun hc => absurd hc (nI_nlt (a := 1567) (by omega) (by decide))) (fun _ => ?_)
    refine lv_aload_n F.1 F.2.1 dX12_fresh_11 rfl (lv_at hl 1 rfl) ?_
    refine x_get F h 0 0 inlX12 rfl (by decide) mw_202 dX12_fresh_12 rfl rfl ?_
    refine lv_iload_n F.1 F.2.1 dX12_fresh_15 rfl (lv_at hl 2 rfl) ?_
    refine lv_iload_n F.1 F.2.1 dX12_fresh_16 rfl (lv_at hl 0 rfl) ?_
    refine lv_iadd F.1 F.2.1 dX12_fresh_17 ?_
    refine x_topi (y := nI (0 + j2)) (nI_add 0 j2) ?_
    refine lv_lconst (v := 0) F.1 F.2.1 dX12_fresh_18 (by decide) ?_
    refine x_last F h 1 rfl rfl (vp_in_nI (by omega) (by decide)) dX12_fresh_19 (ws' := [(q, .inr (12, (.ref ((u 0)) :: .int 0 :: .long 0 :: .long 1 :: .ref ((u 1)) :: .ref ((u 2)) :: .ref ((u 3)) :: .ref ((u 4)) :: .ref ((u 5)) :: .int 0 :: .int 0 :: .int 0 :: .int 0 :: .int 0 :: .int 0 :: .int (-1) :: .int (-1) :: .int 0 :: .ref ((u 6)) :: .int 0 :: .int 0 :: .ref ((u 7)) :: .ref ((u 8)) :: .ref ((u 9)) :: .ref ((u 10)) :: .ref ((u 11)) :: .ref ((u 12)) :: .ref ((u 13)) :: .int 0 :: .int 0 :: .int (-1) :: .int 0 :: .int (-1) :: .int 0 :: .ref ((u 14)) :: .int 0 :: .int 0 :: .int 0 :: .int 0 :: .int 0 :: .ref ((u 15)) :: .ref ((u 16)) :: .int 0 :: .int (-1) :: .int 0 :: .int 0 :: .int 0 :: .int 0 :: .ref ((u 17)) :: .ref ((u 18)) :: .ref ((u 19)) :: .int 0 :: .ref ((u 20)) :: .ref ((u 21)) :: .int 0 :: .ref ((u 22)) :: .int (-1) :: .int 0 :: .ref ((u 23)) :: .int (-1) :: .int (-1) :: .int 0 :: .ref ((u 24)) :: .ref ((u 25)) :: .int 0 :: []))), (((u 0)), .inl (cy 2, 25710, .inr (.inl (fun _ => 0))))]) (by rw [x_z]; rfl) (fun H locs h => ?_)
    refine lv_iinc (v := (nI (j2 + 1))) (lv' := [(2, .int (nI (j2 + 1))), (0, .ref q), (1, .int 0)]) F.1 F.2.1 dX12_fresh_20 hl (k := 0) rfl (nI_1 j2) (by decide) rfl (fun ls hl => ?_)
    refine lv_goto (tgt := 4) F.1 F.2.1 dX12_fresh_23 (by decide) ?_
    exact ih4 () _ _ _ h (lv_sub hl [0, 1, 2] rfl)
set_option maxHeartbeats 4000000 in
set_option maxRecDepth 100000 in
theorem c_m_fresh1650 (l : Launch) (D : va_G) (cy : Nat → ClassId) (q : Nat) (u : Nat → Nat) : ∀ sz, Met l yX12_fresh (Cond.code yX12_fresh cX12_fresh 3 none :: wsL_law) { frames := 0, cells := 0, slots := 0, locals := 0 } (va_Pc [.ref q, .int 1650] (xP D cy ([mM q u 0 0 0 (-1) 0, mA_at cy u]) sz)) (va_Qv (fun _ => True) (xB D (va_A ([mM q u 0 0 0 (-1) 0, mA_at cy u]) sz) (fun _ => [mM q u 0 0 0 (-1) 0, mA_at cy u])) (va_A ([mM q u 0 0 0 (-1) 0, mA_at cy u]) sz)) 0 0 (va_A ([mM q u 0 0 0 (-1) 0, mA_at cy u]) sz) := by
  refine x_enter (fun A => va_Qv (fun _ => True) (xB D A (fun _ => [mM q u 0 0 0 (-1) 0, mA_at cy u])) A) (by decide +kernel) rfl (Nat.le_of_ble_eq_true rfl) ?_
  intro p e s m below meth c A ls F hr hlk hin h hl
  have hl : lv_has ls 3 [(0, .ref q), (1, .int 1650)] := hl
  have h : xS D cy A s.heap ([(q, .inr (12, (.ref ((u 0)) :: .int 0 :: .long 0 :: .long 1 :: .ref ((u 1)) :: .ref ((u 2)) :: .ref ((u 3)) :: .ref ((u 4)) :: .ref ((u 5)) :: .int 0 :: .int 0 :: .int 0 :: .int 0 :: .int 0 :: .int 0 :: .int (-1) :: .int (-1) :: .int 0 :: .ref ((u 6)) :: .int 0 :: .int 0 :: .ref ((u 7)) :: .ref ((u 8)) :: .ref ((u 9)) :: .ref ((u 10)) :: .ref ((u 11)) :: .ref ((u 12)) :: .ref ((u 13)) :: .int 0 :: .int 0 :: .int (-1) :: .int 0 :: .int (-1) :: .int 0 :: .ref ((u 14)) :: .int 0 :: .int 0 :: .int 0 :: .int 0 :: .int 0 :: .ref ((u 15)) :: .ref ((u 16)) :: .int 0 :: .int (-1) :: .int 0 :: .int 0 :: .int 0 :: .int 0 :: .ref ((u 17)) :: .ref ((u 18)) :: .ref ((u 19)) :: .int 0 :: .ref ((u 20)) :: .ref ((u 21)) :: .int 0 :: .ref ((u 22)) :: .int (-1) :: .int 0 :: .ref ((u 23)) :: .int (-1) :: .int (-1) :: .int 0 :: .ref ((u 24)) :: .ref ((u 25)) :: .int 0 :: []))), (((u 0)), .inl (cy 2, 25710, .inr (.inl (fun _ => 0))))]) s s.heap [] := h
  refine lv_sipush (v := 1542) F.1 F.2.1 dX12_fresh_0 (by decide) ?_
  refine lv_istore_n (lv' := [(2, .int 1542), (0, .ref q), (1, .int 1650)]) F.1 F.2.1 dX12_fresh_3 rfl hl (by decide) rfl (fun ls hl => ?_)
  refine x_loop (fun (g1 : Unit) => [(q, .inr (12, (.ref ((u 0)) :: .int 0 :: .long 0 :: .long 1 :: .ref ((u 1)) :: .ref ((u 2)) :: .ref ((u 3)) :: .ref ((u 4)) :: .ref ((u 5)) :: .int 0 :: .int 0 :: .int 0 :: .int 0 :: .int 0 :: .int 0 :: .int (-1) :: .int (-1) :: .int 0 :: .ref ((u 6)) :: .int 0 :: .int 0 :: .ref ((u 7)) :: .ref ((u 8)) :: .ref ((u 9)) :: .ref ((u 10)) :: .ref ((u 11)) :: .ref ((u 12)) :: .ref ((u 13)) :: .int 0 :: .int 0 :: .int (-1) :: .int 0 :: .int (-1) :: .int 0 :: .ref ((u 14)) :: .int 0 :: .int 0 :: .int 0 :: .int 0 :: .int 0 :: .ref ((u 15)) :: .ref ((u 16)) :: .int 0 :: .int (-1) :: .int 0 :: .int 0 :: .int 0 :: .int 0 :: .ref ((u 17)) :: .ref ((u 18)) :: .ref ((u 19)) :: .int 0 :: .ref ((u 20)) :: .ref ((u 21)) :: .int 0 :: .ref ((u 22)) :: .int (-1) :: .int 0 :: .ref ((u 23)) :: .int (-1) :: .int (-1) :: .int 0 :: .ref ((u 24)) :: .ref ((u 25)) :: .int 0 :: []))), (((u 0)), .inl (cy 2, 25710, .inr (.inl (fun _ => 0))))]) 1568 (fun i => [(2, .int i), (0, .ref q), (1, .int 1650)]) (fun g1 H locs ls h hl => ?_) (fun j2 g1 H locs ls hj3 h hl ih4 => ?_) 1542 () _ _ _ (by decide) h (lv_sub hl [0, 1, 2] rfl)
  · have hl : lv_has ls 3 [(2, .int 1568), (0, .ref q), (1, .int 1650)] := hl
    refine lv_iload_n F.1 F.2.1 dX12_fresh_4 rfl (lv_at hl 0 rfl) ?_
    refine lv_sipush (v := 1567) F.1 F.2.1 dX12_fresh_5 (by decide) ?_
    refine lv_icmp_gt (tgt := 26) F.1 F.2.1 dX12_fresh_8 (by decide) (fun _ => ?_) (fun hc => absurd (by decide) hc)
    exact x_vret F h hr hlk (fun _ => 0) [0, 1] (trivial) (by decide +kernel) rfl (Nat.le_of_ble_eq_true rfl) (Nat.le_of_ble_eq_true rfl) dX12_fresh_26
  · have hl : lv_has ls 3 [(2, .int (nI j2)), (0, .ref q), (1, .int 1650)] := hl
    refine lv_iload_n F.1 F.2.1 dX12_fresh_4 rfl (lv_at hl 0 rfl) ?_
    refine lv_sipush (v := 1567) F.1 F.2.1 dX12_fresh_5 (by decide) ?_
    refine lv_icmp_gt (tgt := 26) F.1 F.2.1 dX12_fresh_8 (by decide) (fun hc => absurd hc (nI_nlt (a := 1567) (by omega) (by decide))) (fun _ => ?_)
    refine lv_aload_n F.1 F.2.1 dX12_fresh_11 rfl (lv_at hl 1 rfl) ?_
    refine x_get F h 0 0 inlX12 rfl (by decide) mw_202 dX12_fresh_12 rfl rfl ?_
    refine lv_iload_n F.1 F.2.1 dX12_fresh_15 rfl (lv_at hl 2 rfl) ?_
    refine lv_iload_n F.1 F.2.1 dX12_fresh_16 rfl (lv_at hl 0 rfl) ?_
    refine lv_iadd F.1 F.2.1 dX12_fresh_17 ?_
    refine x_topi (y := nI (1650 + j2)) (nI_add 1650 j2) ?_
    refine lv_lconst (v := 0) F.1 F.2.1 dX12_fresh_18 (by decide) ?_
    refine x_last F h 1 rfl rfl (vp_in_nI (by omega) (by decide)) dX12_fresh_19 (ws' := [(q, .inr (12, (.ref ((u 0)) :: .int 0 :: .long 0 :: .long 1 :: .ref ((u 1)) :: .ref ((u 2)) :: .ref ((u 3)) :: .ref ((u 4)) :: .ref ((u 5)) :: .int 0 :: .int 0 :: .int 0 :: .int 0 :: .int 0 :: .int 0 :: .int (-1) :: .int (-1) :: .int 0 :: .ref ((u 6)) :: .int 0 :: .int 0 :: .ref ((u 7)) :: .ref ((u 8)) :: .ref ((u 9)) :: .ref ((u 10)) :: .ref ((u 11)) :: .ref ((u 12)) :: .ref ((u 13)) :: .int 0 :: .int 0 :: .int (-1) :: .int 0 :: .int (-1) :: .int 0 :: .ref ((u 14)) :: .int 0 :: .int 0 :: .int 0 :: .int 0 :: .int 0 :: .ref ((u 15)) :: .ref ((u 16)) :: .int 0 :: .int (-1) :: .int 0 :: .int 0 :: .int 0 :: .int 0 :: .ref ((u 17)) :: .ref ((u 18)) :: .ref ((u 19)) :: .int 0 :: .ref ((u 20)) :: .ref ((u 21)) :: .int 0 :: .ref ((u 22)) :: .int (-1) :: .int 0 :: .ref ((u 23)) :: .int (-1) :: .int (-1) :: .int 0 :: .ref ((u 24)) :: .ref ((u 25)) :: .int 0 :: []))), (((u 0)), .inl (cy 2, 25710, .inr (.inl (fun _ => 0))))]) (by rw [x_z]; rfl) (fun H locs h => ?_)
    refine lv_iinc (v := (nI (j2 + 1))) (lv' := [(2, .int (nI (j2 + 1))), (0, .ref q), (1, .int 1650)]) F.1 F.2.1 dX12_fresh_20 hl (k := 0) rfl (nI_1 j2) (by decide) rfl (fun ls hl => ?_)
    refine lv_goto (tgt := 4) F.1 F.2.1 dX12_fresh_23 (by decide) ?_
    exact ih4 () _ _ _ h (lv_sub hl [0, 1, 2] rfl)
set_option maxHeartbeats 4000000 in
set_option maxRecDepth 100000 in
theorem c_m_fresh3300 (l : Launch) (D : va_G) (cy : Nat → ClassId) (q : Nat) (u : Nat → Nat) : ∀ sz, Met l yX12_fresh (Cond.code yX12_fresh cX12_fresh 3 none :: wsL_law) { frames := 0, cells := 0, slots := 0, locals := 0 } (va_Pc [.ref q, .int 3300] (xP D cy ([mM q u 0 0 0 (-1) 0, mA_at cy u]) sz)) (va_Qv (fun _ => True) (xB D (va_A ([mM q u 0 0 0 (-1) 0, mA_at cy u]) sz) (fun _ => [mM q u 0 0 0 (-1) 0, mA_at cy u])) (va_A ([mM q u 0 0 0 (-1) 0, mA_at cy u]) sz)) 0 0 (va_A ([mM q u 0 0 0 (-1) 0, mA_at cy u]) sz) := by
  refine x_enter (fun A => va_Qv (fun _ => True) (xB D A (fun _ => [mM q u 0 0 0 (-1) 0, mA_at cy u])) A) (by decide +kernel) rfl (Nat.le_of_ble_eq_true rfl) ?_
  intro p e s m below meth c A ls F hr hlk hin h hl
  have hl : lv_has ls 3 [(0, .ref q), (1, .int 3300)] := hl
  have h : xS D cy A s.heap ([(q, .inr (12, (.ref ((u 0)) :: .int 0 :: .long 0 :: .long 1 :: .ref ((u 1)) :: .ref ((u 2)) :: .ref ((u 3)) :: .ref ((u 4)) :: .ref ((u 5)) :: .int 0 :: .int 0 :: .int 0 :: .int 0 :: .int 0 :: .int 0 :: .int (-1) :: .int (-1) :: .int 0 :: .ref ((u 6)) :: .int 0 :: .int 0 :: .ref ((u 7)) :: .ref ((u 8)) :: .ref ((u 9)) :: .ref ((u 10)) :: .ref ((u 11)) :: .ref ((u 12)) :: .ref ((u 13)) :: .int 0 :: .int 0 :: .int (-1) :: .int 0 :: .int (-1) :: .int 0 :: .ref ((u 14)) :: .int 0 :: .int 0 :: .int 0 :: .int 0 :: .int 0 :: .ref ((u 15)) :: .ref ((u 16)) :: .int 0 :: .int (-1) :: .int 0 :: .int 0 :: .int 0 :: .int 0 :: .ref ((u 17)) :: .ref ((u 18)) :: .ref ((u 19)) :: .int 0 :: .ref ((u 20)) :: .ref ((u 21)) :: .int 0 :: .ref ((u 22)) :: .int (-1) :: .int 0 :: .ref ((u 23)) :: .int (-1) :: .int (-1) :: .int 0 :: .ref ((u 24)) :: .ref ((u 25)) :: .int 0 :: []))), (((u 0)), .inl (cy 2, 25710, .inr (.inl (fun _ => 0))))]) s s.heap [] := h
  refine lv_sipush (v := 1542) F.1 F.2.1 dX12_fresh_0 (by decide) ?_
  refine lv_istore_n (lv' := [(2, .int 1542), (0, .ref q), (1, .int 3300)]) F.1 F.2.1 dX12_fresh_3 rfl hl (by decide) rfl (fun ls hl => ?_)
  refine x_loop (fun (g1 : Unit) => [(q, .inr (12, (.ref ((u 0)) :: .int 0 :: .long 0 :: .long 1 :: .ref ((u 1)) :: .ref ((u 2)) :: .ref ((u 3)) :: .ref ((u 4)) :: .ref ((u 5)) :: .int 0 :: .int 0 :: .int 0 :: .int 0 :: .int 0 :: .int 0 :: .int (-1) :: .int (-1) :: .int 0 :: .ref ((u 6)) :: .int 0 :: .int 0 :: .ref ((u 7)) :: .ref ((u 8)) :: .ref ((u 9)) :: .ref ((u 10)) :: .ref ((u 11)) :: .ref ((u 12)) :: .ref ((u 13)) :: .int 0 :: .int 0 :: .int (-1) :: .int 0 :: .int (-1) :: .int 0 :: .ref ((u 14)) :: .int 0 :: .int 0 :: .int 0 :: .int 0 :: .int 0 :: .ref ((u 15)) :: .ref ((u 16)) :: .int 0 :: .int (-1) :: .int 0 :: .int 0 :: .int 0 :: .int 0 :: .ref ((u 17)) :: .ref ((u 18)) :: .ref ((u 19)) :: .int 0 :: .ref ((u 20)) :: .ref ((u 21)) :: .int 0 :: .ref ((u 22)) :: .int (-1) :: .int 0 :: .ref ((u 23)) :: .int (-1) :: .int (-1) :: .int 0 :: .ref ((u 24)) :: .ref ((u 25)) :: .int 0 :: []))), (((u 0)), .inl (cy 2, 25710, .inr (.inl (fun _ => 0))))]) 1568 (fun i => [(2, .int i), (0, .ref q), (1, .int 3300)]) (fun g1 H locs ls h hl => ?_) (fun j2 g1 H locs ls hj3 h hl ih4 => ?_) 1542 () _ _ _ (by decide) h (lv_sub hl [0, 1, 2] rfl)
  · have hl : lv_has ls 3 [(2, .int 1568), (0, .ref q), (1, .int 3300)] := hl
    refine lv_iload_n F.1 F.2.1 dX12_fresh_4 rfl (lv_at hl 0 rfl) ?_
    refine lv_sipush (v := 1567) F.1 F.2.1 dX12_fresh_5 (by decide) ?_
    refine lv_icmp_gt (tgt := 26) F.1 F.2.1 dX12_fresh_8 (by decide) (fun _ => ?_) (fun hc => absurd (by decide) hc)
    exact x_vret F h hr hlk (fun _ => 0) [0, 1] (trivial) (by decide +kernel) rfl (Nat.le_of_ble_eq_true rfl) (Nat.le_of_ble_eq_true rfl) dX12_fresh_26
  · have hl : lv_has ls 3 [(2, .int (nI j2)), (0, .ref q), (1, .int 3300)] := hl
    refine lv_iload_n F.1 F.2.1 dX12_fresh_4 rfl (lv_at hl 0 rfl) ?_
    refine lv_sipush (v := 1567) F.1 F.2.1 dX12_fresh_5 (by decide) ?_
    refine lv_icmp_gt (tgt := 26) F.1 F.2.1 dX12_fresh_8 (by decide) (fun hc => absurd hc (nI_nlt (a := 1567) (by omega) (by decide))) (fun _ => ?_)
    refine lv_aload_n F.1 F.2.1 dX12_fresh_11 rfl (lv_at hl 1 rfl) ?_
    refine x_get F h 0 0 inlX12 rfl (by decide) mw_202 dX12_fresh_12 rfl rfl ?_
    refine lv_iload_n F.1 F.2.1 dX12_fresh_15 rfl (lv_at hl 2 rfl) ?_
    refine lv_iload_n F.1 F.2.1 dX12_fresh_16 rfl (lv_at hl 0 rfl) ?_
    refine lv_iadd F.1 F.2.1 dX12_fresh_17 ?_
    refine x_topi (y := nI (3300 + j2)) (nI_add 3300 j2) ?_
    refine lv_lconst (v := 0) F.1 F.2.1 dX12_fresh_18 (by decide) ?_
    refine x_last F h 1 rfl rfl (vp_in_nI (by omega) (by decide)) dX12_fresh_19 (ws' := [(q, .inr (12, (.ref ((u 0)) :: .int 0 :: .long 0 :: .long 1 :: .ref ((u 1)) :: .ref ((u 2)) :: .ref ((u 3)) :: .ref ((u 4)) :: .ref ((u 5)) :: .int 0 :: .int 0 :: .int 0 :: .int 0 :: .int 0 :: .int 0 :: .int (-1) :: .int (-1) :: .int 0 :: .ref ((u 6)) :: .int 0 :: .int 0 :: .ref ((u 7)) :: .ref ((u 8)) :: .ref ((u 9)) :: .ref ((u 10)) :: .ref ((u 11)) :: .ref ((u 12)) :: .ref ((u 13)) :: .int 0 :: .int 0 :: .int (-1) :: .int 0 :: .int (-1) :: .int 0 :: .ref ((u 14)) :: .int 0 :: .int 0 :: .int 0 :: .int 0 :: .int 0 :: .ref ((u 15)) :: .ref ((u 16)) :: .int 0 :: .int (-1) :: .int 0 :: .int 0 :: .int 0 :: .int 0 :: .ref ((u 17)) :: .ref ((u 18)) :: .ref ((u 19)) :: .int 0 :: .ref ((u 20)) :: .ref ((u 21)) :: .int 0 :: .ref ((u 22)) :: .int (-1) :: .int 0 :: .ref ((u 23)) :: .int (-1) :: .int (-1) :: .int 0 :: .ref ((u 24)) :: .ref ((u 25)) :: .int 0 :: []))), (((u 0)), .inl (cy 2, 25710, .inr (.inl (fun _ => 0))))]) (by rw [x_z]; rfl) (fun H locs h => ?_)
    refine lv_iinc (v := (nI (j2 + 1))) (lv' := [(2, .int (nI (j2 + 1))), (0, .ref q), (1, .int 3300)]) F.1 F.2.1 dX12_fresh_20 hl (k := 0) rfl (nI_1 j2) (by decide) rfl (fun ls hl => ?_)
    refine lv_goto (tgt := 4) F.1 F.2.1 dX12_fresh_23 (by decide) ?_
    exact ih4 () _ _ _ h (lv_sub hl [0, 1, 2] rfl)
set_option maxHeartbeats 4000000 in
set_option maxRecDepth 100000 in
theorem c_m_fresh20760 (l : Launch) (D : va_G) (cy : Nat → ClassId) (q : Nat) (u : Nat → Nat) : ∀ sz, Met l yX12_fresh (Cond.code yX12_fresh cX12_fresh 3 none :: wsL_law) { frames := 0, cells := 0, slots := 0, locals := 0 } (va_Pc [.ref q, .int 20760] (xP D cy ([mM q u 0 (-1) 0 0 (-1), mA_at cy u]) sz)) (va_Qv (fun _ => True) (xB D (va_A ([mM q u 0 (-1) 0 0 (-1), mA_at cy u]) sz) (fun _ => [mM q u 0 (-1) 0 0 (-1), mA_at cy u])) (va_A ([mM q u 0 (-1) 0 0 (-1), mA_at cy u]) sz)) 0 0 (va_A ([mM q u 0 (-1) 0 0 (-1), mA_at cy u]) sz) := by
  refine x_enter (fun A => va_Qv (fun _ => True) (xB D A (fun _ => [mM q u 0 (-1) 0 0 (-1), mA_at cy u])) A) (by decide +kernel) rfl (Nat.le_of_ble_eq_true rfl) ?_
  intro p e s m below meth c A ls F hr hlk hin h hl
  have hl : lv_has ls 3 [(0, .ref q), (1, .int 20760)] := hl
  have h : xS D cy A s.heap ([(q, .inr (12, (.ref ((u 0)) :: .int 0 :: .long 0 :: .long 1 :: .ref ((u 1)) :: .ref ((u 2)) :: .ref ((u 3)) :: .ref ((u 4)) :: .ref ((u 5)) :: .int 0 :: .int 0 :: .int 0 :: .int 0 :: .int 0 :: .int (-1) :: .int 0 :: .int (-1) :: .int 0 :: .ref ((u 6)) :: .int 0 :: .int (-1) :: .ref ((u 7)) :: .ref ((u 8)) :: .ref ((u 9)) :: .ref ((u 10)) :: .ref ((u 11)) :: .ref ((u 12)) :: .ref ((u 13)) :: .int 0 :: .int 0 :: .int (-1) :: .int 0 :: .int (-1) :: .int 0 :: .ref ((u 14)) :: .int 0 :: .int 0 :: .int 0 :: .int 0 :: .int 0 :: .ref ((u 15)) :: .ref ((u 16)) :: .int 0 :: .int (-1) :: .int 0 :: .int 0 :: .int 0 :: .int 0 :: .ref ((u 17)) :: .ref ((u 18)) :: .ref ((u 19)) :: .int 0 :: .ref ((u 20)) :: .ref ((u 21)) :: .int 0 :: .ref ((u 22)) :: .int (-1) :: .int 0 :: .ref ((u 23)) :: .int (-1) :: .int (-1) :: .int 0 :: .ref ((u 24)) :: .ref ((u 25)) :: .int 0 :: []))), (((u 0)), .inl (cy 2, 25710, .inr (.inl (fun _ => 0))))]) s s.heap [] := h
  refine lv_sipush (v := 1542) F.1 F.2.1 dX12_fresh_0 (by decide) ?_
  refine lv_istore_n (lv' := [(2, .int 1542), (0, .ref q), (1, .int 20760)]) F.1 F.2.1 dX12_fresh_3 rfl hl (by decide) rfl (fun ls hl => ?_)
  refine x_loop (fun (g1 : Unit) => [(q, .inr (12, (.ref ((u 0)) :: .int 0 :: .long 0 :: .long 1 :: .ref ((u 1)) :: .ref ((u 2)) :: .ref ((u 3)) :: .ref ((u 4)) :: .ref ((u 5)) :: .int 0 :: .int 0 :: .int 0 :: .int 0 :: .int 0 :: .int (-1) :: .int 0 :: .int (-1) :: .int 0 :: .ref ((u 6)) :: .int 0 :: .int (-1) :: .ref ((u 7)) :: .ref ((u 8)) :: .ref ((u 9)) :: .ref ((u 10)) :: .ref ((u 11)) :: .ref ((u 12)) :: .ref ((u 13)) :: .int 0 :: .int 0 :: .int (-1) :: .int 0 :: .int (-1) :: .int 0 :: .ref ((u 14)) :: .int 0 :: .int 0 :: .int 0 :: .int 0 :: .int 0 :: .ref ((u 15)) :: .ref ((u 16)) :: .int 0 :: .int (-1) :: .int 0 :: .int 0 :: .int 0 :: .int 0 :: .ref ((u 17)) :: .ref ((u 18)) :: .ref ((u 19)) :: .int 0 :: .ref ((u 20)) :: .ref ((u 21)) :: .int 0 :: .ref ((u 22)) :: .int (-1) :: .int 0 :: .ref ((u 23)) :: .int (-1) :: .int (-1) :: .int 0 :: .ref ((u 24)) :: .ref ((u 25)) :: .int 0 :: []))), (((u 0)), .inl (cy 2, 25710, .inr (.inl (fun _ => 0))))]) 1568 (fun i => [(2, .int i), (0, .ref q), (1, .int 20760)]) (fun g1 H locs ls h hl => ?_) (fun j2 g1 H locs ls hj3 h hl ih4 => ?_) 1542 () _ _ _ (by decide) h (lv_sub hl [0, 1, 2] rfl)
  · have hl : lv_has ls 3 [(2, .int 1568), (0, .ref q), (1, .int 20760)] := hl
    refine lv_iload_n F.1 F.2.1 dX12_fresh_4 rfl (lv_at hl 0 rfl) ?_
    refine lv_sipush (v := 1567) F.1 F.2.1 dX12_fresh_5 (by decide) ?_
    refine lv_icmp_gt (tgt := 26) F.1 F.2.1 dX12_fresh_8 (by decide) (fun _ => ?_) (fun hc => absurd (by decide) hc)
    exact x_vret F h hr hlk (fun _ => 0) [0, 1] (trivial) (by decide +kernel) rfl (Nat.le_of_ble_eq_true rfl) (Nat.le_of_ble_eq_true rfl) dX12_fresh_26
  · have hl : lv_has ls 3 [(2, .int (nI j2)), (0, .ref q), (1, .int 20760)] := hl
    refine lv_iload_n F.1 F.2.1 dX12_fresh_4 rfl (lv_at hl 0 rfl) ?_
    refine lv_sipush (v := 1567) F.1 F.2.1 dX12_fresh_5 (by decide) ?_
    refine lv_icmp_gt (tgt := 26) F.1 F.2.1 dX12_fresh_8 (by decide) (fun hc => absurd hc (nI_nlt (a := 1567) (by omega) (by decide))) (fun _ => ?_)
    refine lv_aload_n F.1 F.2.1 dX12_fresh_11 rfl (lv_at hl 1 rfl) ?_
    refine x_get F h 0 0 inlX12 rfl (by decide) mw_202 dX12_fresh_12 rfl rfl ?_
    refine lv_iload_n F.1 F.2.1 dX12_fresh_15 rfl (lv_at hl 2 rfl) ?_
    refine lv_iload_n F.1 F.2.1 dX12_fresh_16 rfl (lv_at hl 0 rfl) ?_
    refine lv_iadd F.1 F.2.1 dX12_fresh_17 ?_
    refine x_topi (y := nI (20760 + j2)) (nI_add 20760 j2) ?_
    refine lv_lconst (v := 0) F.1 F.2.1 dX12_fresh_18 (by decide) ?_
    refine x_last F h 1 rfl rfl (vp_in_nI (by omega) (by decide)) dX12_fresh_19 (ws' := [(q, .inr (12, (.ref ((u 0)) :: .int 0 :: .long 0 :: .long 1 :: .ref ((u 1)) :: .ref ((u 2)) :: .ref ((u 3)) :: .ref ((u 4)) :: .ref ((u 5)) :: .int 0 :: .int 0 :: .int 0 :: .int 0 :: .int 0 :: .int (-1) :: .int 0 :: .int (-1) :: .int 0 :: .ref ((u 6)) :: .int 0 :: .int (-1) :: .ref ((u 7)) :: .ref ((u 8)) :: .ref ((u 9)) :: .ref ((u 10)) :: .ref ((u 11)) :: .ref ((u 12)) :: .ref ((u 13)) :: .int 0 :: .int 0 :: .int (-1) :: .int 0 :: .int (-1) :: .int 0 :: .ref ((u 14)) :: .int 0 :: .int 0 :: .int 0 :: .int 0 :: .int 0 :: .ref ((u 15)) :: .ref ((u 16)) :: .int 0 :: .int (-1) :: .int 0 :: .int 0 :: .int 0 :: .int 0 :: .ref ((u 17)) :: .ref ((u 18)) :: .ref ((u 19)) :: .int 0 :: .ref ((u 20)) :: .ref ((u 21)) :: .int 0 :: .ref ((u 22)) :: .int (-1) :: .int 0 :: .ref ((u 23)) :: .int (-1) :: .int (-1) :: .int 0 :: .ref ((u 24)) :: .ref ((u 25)) :: .int 0 :: []))), (((u 0)), .inl (cy 2, 25710, .inr (.inl (fun _ => 0))))]) (by rw [x_z]; rfl) (fun H locs h => ?_)
    refine lv_iinc (v := (nI (j2 + 1))) (lv' := [(2, .int (nI (j2 + 1))), (0, .ref q), (1, .int 20760)]) F.1 F.2.1 dX12_fresh_20 hl (k := 0) rfl (nI_1 j2) (by decide) rfl (fun ls hl => ?_)
    refine lv_goto (tgt := 4) F.1 F.2.1 dX12_fresh_23 (by decide) ?_
    exact ih4 () _ _ _ h (lv_sub hl [0, 1, 2] rfl)
set_option maxHeartbeats 4000000 in
set_option maxRecDepth 100000 in
theorem c_m_copies0 (l : Launch) (D : va_G) (cy : Nat → ClassId) (q : Nat) (u : Nat → Nat) : ∀ sz, Met l yX12_copies (Cond.code yX12_copies cX12_copies 5 none :: wsL_law) { frames := 0, cells := 0, slots := 0, locals := 0 } (va_Pc [.ref q, .int 20760, .int 0, .int 1650] (xP D cy ([mM q u 0 (-1) 0 0 (-1), mA_at cy u]) sz)) (va_Qv (fun _ => True) (xB D (va_A ([mM q u 0 (-1) 0 0 (-1), mA_at cy u]) sz) (fun _ => [mM q u 0 (-1) 0 0 (-1), mA_at cy u])) (va_A ([mM q u 0 (-1) 0 0 (-1), mA_at cy u]) sz)) 0 0 (va_A ([mM q u 0 (-1) 0 0 (-1), mA_at cy u]) sz) := by
  refine x_enter (fun A => va_Qv (fun _ => True) (xB D A (fun _ => [mM q u 0 (-1) 0 0 (-1), mA_at cy u])) A) (by decide +kernel) rfl (Nat.le_of_ble_eq_true rfl) ?_
  intro p e s m below meth c A ls F hr hlk hin h hl
  have hl : lv_has ls 5 [(0, .ref q), (1, .int 20760), (2, .int 0), (3, .int 1650)] := hl
  have h : xS D cy A s.heap ([(q, .inr (12, (.ref ((u 0)) :: .int 0 :: .long 0 :: .long 1 :: .ref ((u 1)) :: .ref ((u 2)) :: .ref ((u 3)) :: .ref ((u 4)) :: .ref ((u 5)) :: .int 0 :: .int 0 :: .int 0 :: .int 0 :: .int 0 :: .int (-1) :: .int 0 :: .int (-1) :: .int 0 :: .ref ((u 6)) :: .int 0 :: .int (-1) :: .ref ((u 7)) :: .ref ((u 8)) :: .ref ((u 9)) :: .ref ((u 10)) :: .ref ((u 11)) :: .ref ((u 12)) :: .ref ((u 13)) :: .int 0 :: .int 0 :: .int (-1) :: .int 0 :: .int (-1) :: .int 0 :: .ref ((u 14)) :: .int 0 :: .int 0 :: .int 0 :: .int 0 :: .int 0 :: .ref ((u 15)) :: .ref ((u 16)) :: .int 0 :: .int (-1) :: .int 0 :: .int 0 :: .int 0 :: .int 0 :: .ref ((u 17)) :: .ref ((u 18)) :: .ref ((u 19)) :: .int 0 :: .ref ((u 20)) :: .ref ((u 21)) :: .int 0 :: .ref ((u 22)) :: .int (-1) :: .int 0 :: .ref ((u 23)) :: .int (-1) :: .int (-1) :: .int 0 :: .ref ((u 24)) :: .ref ((u 25)) :: .int 0 :: []))), (((u 0)), .inl (cy 2, 25710, .inr (.inl (fun _ => 0))))]) s s.heap [] := h
  refine lv_iconst (v := 0) F.1 F.2.1 dX12_copies_0 (by decide) ?_
  refine lv_istore (lv' := [(4, .int 0), (0, .ref q), (1, .int 20760), (2, .int 0), (3, .int 1650)]) F.1 F.2.1 dX12_copies_1 hl (by decide) rfl (fun ls hl => ?_)
  refine x_loop (fun (g1 : Unit) => [(q, .inr (12, (.ref ((u 0)) :: .int 0 :: .long 0 :: .long 1 :: .ref ((u 1)) :: .ref ((u 2)) :: .ref ((u 3)) :: .ref ((u 4)) :: .ref ((u 5)) :: .int 0 :: .int 0 :: .int 0 :: .int 0 :: .int 0 :: .int (-1) :: .int 0 :: .int (-1) :: .int 0 :: .ref ((u 6)) :: .int 0 :: .int (-1) :: .ref ((u 7)) :: .ref ((u 8)) :: .ref ((u 9)) :: .ref ((u 10)) :: .ref ((u 11)) :: .ref ((u 12)) :: .ref ((u 13)) :: .int 0 :: .int 0 :: .int (-1) :: .int 0 :: .int (-1) :: .int 0 :: .ref ((u 14)) :: .int 0 :: .int 0 :: .int 0 :: .int 0 :: .int 0 :: .ref ((u 15)) :: .ref ((u 16)) :: .int 0 :: .int (-1) :: .int 0 :: .int 0 :: .int 0 :: .int 0 :: .ref ((u 17)) :: .ref ((u 18)) :: .ref ((u 19)) :: .int 0 :: .ref ((u 20)) :: .ref ((u 21)) :: .int 0 :: .ref ((u 22)) :: .int (-1) :: .int 0 :: .ref ((u 23)) :: .int (-1) :: .int (-1) :: .int 0 :: .ref ((u 24)) :: .ref ((u 25)) :: .int 0 :: []))), (((u 0)), .inl (cy 2, 25710, .inr (.inl (fun _ => 0))))]) 1650 (fun i => [(4, .int i), (0, .ref q), (1, .int 20760), (2, .int 0), (3, .int 1650)]) (fun g1 H locs ls h hl => ?_) (fun j2 g1 H locs ls hj3 h hl ih4 => ?_) 0 () _ _ _ (by decide) h (lv_sub hl [0, 1, 2, 3, 4] rfl)
  · have hl : lv_has ls 5 [(4, .int 1650), (0, .ref q), (1, .int 20760), (2, .int 0), (3, .int 1650)] := hl
    refine lv_iload F.1 F.2.1 dX12_copies_3 (lv_at hl 0 rfl) ?_
    refine lv_iload_n F.1 F.2.1 dX12_copies_5 rfl (lv_at hl 4 rfl) ?_
    refine lv_icmp_ge (tgt := 33) F.1 F.2.1 dX12_copies_6 (by decide) (fun _ => ?_) (fun hc => absurd (by decide) hc)
    exact x_vret F h hr hlk (fun _ => 0) [0, 1] (trivial) (by decide +kernel) rfl (Nat.le_of_ble_eq_true rfl) (Nat.le_of_ble_eq_true rfl) dX12_copies_33
  · have hl : lv_has ls 5 [(4, .int (nI j2)), (0, .ref q), (1, .int 20760), (2, .int 0), (3, .int 1650)] := hl
    refine lv_iload F.1 F.2.1 dX12_copies_3 (lv_at hl 0 rfl) ?_
    refine lv_iload_n F.1 F.2.1 dX12_copies_5 rfl (lv_at hl 4 rfl) ?_
    refine lv_icmp_ge (tgt := 33) F.1 F.2.1 dX12_copies_6 (by decide) (fun hc => absurd hc (x_nle (N := 1650) hj3 (by decide))) (fun _ => ?_)
    refine lv_aload_n F.1 F.2.1 dX12_copies_9 rfl (lv_at hl 1 rfl) ?_
    refine x_get F h 0 0 inlX12 rfl (by decide) mw_202 dX12_copies_10 rfl rfl ?_
    refine lv_iload_n F.1 F.2.1 dX12_copies_13 rfl (lv_at hl 3 rfl) ?_
    refine lv_iload F.1 F.2.1 dX12_copies_14 (lv_at hl 0 rfl) ?_
    refine lv_iadd F.1 F.2.1 dX12_copies_16 ?_
    refine x_topi (y := nI (0 + j2)) (nI_add 0 j2) ?_
    refine lv_aload_n F.1 F.2.1 dX12_copies_17 rfl (lv_at hl 1 rfl) ?_
    refine x_get F h 0 0 inlX12 rfl (by decide) mw_202 dX12_copies_18 rfl rfl ?_
    refine lv_iload_n F.1 F.2.1 dX12_copies_21 rfl (lv_at hl 2 rfl) ?_
    refine lv_iload F.1 F.2.1 dX12_copies_22 (lv_at hl 0 rfl) ?_
    refine lv_iadd F.1 F.2.1 dX12_copies_24 ?_
    refine x_topi (y := nI (20760 + j2)) (nI_add 20760 j2) ?_
    refine x_lald (v := 0) F h 1 rfl rfl (vp_in_nI (by omega) (by decide)) rfl dX12_copies_25 ?_
    refine x_last F h 1 rfl rfl (vp_in_nI (by omega) (by decide)) dX12_copies_26 (ws' := [(q, .inr (12, (.ref ((u 0)) :: .int 0 :: .long 0 :: .long 1 :: .ref ((u 1)) :: .ref ((u 2)) :: .ref ((u 3)) :: .ref ((u 4)) :: .ref ((u 5)) :: .int 0 :: .int 0 :: .int 0 :: .int 0 :: .int 0 :: .int (-1) :: .int 0 :: .int (-1) :: .int 0 :: .ref ((u 6)) :: .int 0 :: .int (-1) :: .ref ((u 7)) :: .ref ((u 8)) :: .ref ((u 9)) :: .ref ((u 10)) :: .ref ((u 11)) :: .ref ((u 12)) :: .ref ((u 13)) :: .int 0 :: .int 0 :: .int (-1) :: .int 0 :: .int (-1) :: .int 0 :: .ref ((u 14)) :: .int 0 :: .int 0 :: .int 0 :: .int 0 :: .int 0 :: .ref ((u 15)) :: .ref ((u 16)) :: .int 0 :: .int (-1) :: .int 0 :: .int 0 :: .int 0 :: .int 0 :: .ref ((u 17)) :: .ref ((u 18)) :: .ref ((u 19)) :: .int 0 :: .ref ((u 20)) :: .ref ((u 21)) :: .int 0 :: .ref ((u 22)) :: .int (-1) :: .int 0 :: .ref ((u 23)) :: .int (-1) :: .int (-1) :: .int 0 :: .ref ((u 24)) :: .ref ((u 25)) :: .int 0 :: []))), (((u 0)), .inl (cy 2, 25710, .inr (.inl (fun _ => 0))))]) (by rw [x_z]; rfl) (fun H locs h => ?_)
    refine lv_iinc (v := (nI (j2 + 1))) (lv' := [(4, .int (nI (j2 + 1))), (0, .ref q), (1, .int 20760), (2, .int 0), (3, .int 1650)]) F.1 F.2.1 dX12_copies_27 hl (k := 0) rfl (nI_1 j2) (by decide) rfl (fun ls hl => ?_)
    refine lv_goto (tgt := 3) F.1 F.2.1 dX12_copies_30 (by decide) ?_
    exact ih4 () _ _ _ h (lv_sub hl [0, 1, 2, 3, 4] rfl)
set_option maxHeartbeats 4000000 in
set_option maxRecDepth 100000 in
theorem c_m_copies1 (l : Launch) (D : va_G) (cy : Nat → ClassId) (q : Nat) (u : Nat → Nat) : ∀ sz, Met l yX12_copies (Cond.code yX12_copies cX12_copies 5 none :: wsL_law) { frames := 0, cells := 0, slots := 0, locals := 0 } (va_Pc [.ref q, .int 20760, .int 1650, .int 1650] (xP D cy ([mM q u 0 (-1) 0 0 (-1), mA_at cy u]) sz)) (va_Qv (fun _ => True) (xB D (va_A ([mM q u 0 (-1) 0 0 (-1), mA_at cy u]) sz) (fun _ => [mM q u 0 (-1) 0 0 (-1), mA_at cy u])) (va_A ([mM q u 0 (-1) 0 0 (-1), mA_at cy u]) sz)) 0 0 (va_A ([mM q u 0 (-1) 0 0 (-1), mA_at cy u]) sz) := by
  refine x_enter (fun A => va_Qv (fun _ => True) (xB D A (fun _ => [mM q u 0 (-1) 0 0 (-1), mA_at cy u])) A) (by decide +kernel) rfl (Nat.le_of_ble_eq_true rfl) ?_
  intro p e s m below meth c A ls F hr hlk hin h hl
  have hl : lv_has ls 5 [(0, .ref q), (1, .int 20760), (2, .int 1650), (3, .int 1650)] := hl
  have h : xS D cy A s.heap ([(q, .inr (12, (.ref ((u 0)) :: .int 0 :: .long 0 :: .long 1 :: .ref ((u 1)) :: .ref ((u 2)) :: .ref ((u 3)) :: .ref ((u 4)) :: .ref ((u 5)) :: .int 0 :: .int 0 :: .int 0 :: .int 0 :: .int 0 :: .int (-1) :: .int 0 :: .int (-1) :: .int 0 :: .ref ((u 6)) :: .int 0 :: .int (-1) :: .ref ((u 7)) :: .ref ((u 8)) :: .ref ((u 9)) :: .ref ((u 10)) :: .ref ((u 11)) :: .ref ((u 12)) :: .ref ((u 13)) :: .int 0 :: .int 0 :: .int (-1) :: .int 0 :: .int (-1) :: .int 0 :: .ref ((u 14)) :: .int 0 :: .int 0 :: .int 0 :: .int 0 :: .int 0 :: .ref ((u 15)) :: .ref ((u 16)) :: .int 0 :: .int (-1) :: .int 0 :: .int 0 :: .int 0 :: .int 0 :: .ref ((u 17)) :: .ref ((u 18)) :: .ref ((u 19)) :: .int 0 :: .ref ((u 20)) :: .ref ((u 21)) :: .int 0 :: .ref ((u 22)) :: .int (-1) :: .int 0 :: .ref ((u 23)) :: .int (-1) :: .int (-1) :: .int 0 :: .ref ((u 24)) :: .ref ((u 25)) :: .int 0 :: []))), (((u 0)), .inl (cy 2, 25710, .inr (.inl (fun _ => 0))))]) s s.heap [] := h
  refine lv_iconst (v := 0) F.1 F.2.1 dX12_copies_0 (by decide) ?_
  refine lv_istore (lv' := [(4, .int 0), (0, .ref q), (1, .int 20760), (2, .int 1650), (3, .int 1650)]) F.1 F.2.1 dX12_copies_1 hl (by decide) rfl (fun ls hl => ?_)
  refine x_loop (fun (g1 : Unit) => [(q, .inr (12, (.ref ((u 0)) :: .int 0 :: .long 0 :: .long 1 :: .ref ((u 1)) :: .ref ((u 2)) :: .ref ((u 3)) :: .ref ((u 4)) :: .ref ((u 5)) :: .int 0 :: .int 0 :: .int 0 :: .int 0 :: .int 0 :: .int (-1) :: .int 0 :: .int (-1) :: .int 0 :: .ref ((u 6)) :: .int 0 :: .int (-1) :: .ref ((u 7)) :: .ref ((u 8)) :: .ref ((u 9)) :: .ref ((u 10)) :: .ref ((u 11)) :: .ref ((u 12)) :: .ref ((u 13)) :: .int 0 :: .int 0 :: .int (-1) :: .int 0 :: .int (-1) :: .int 0 :: .ref ((u 14)) :: .int 0 :: .int 0 :: .int 0 :: .int 0 :: .int 0 :: .ref ((u 15)) :: .ref ((u 16)) :: .int 0 :: .int (-1) :: .int 0 :: .int 0 :: .int 0 :: .int 0 :: .ref ((u 17)) :: .ref ((u 18)) :: .ref ((u 19)) :: .int 0 :: .ref ((u 20)) :: .ref ((u 21)) :: .int 0 :: .ref ((u 22)) :: .int (-1) :: .int 0 :: .ref ((u 23)) :: .int (-1) :: .int (-1) :: .int 0 :: .ref ((u 24)) :: .ref ((u 25)) :: .int 0 :: []))), (((u 0)), .inl (cy 2, 25710, .inr (.inl (fun _ => 0))))]) 1650 (fun i => [(4, .int i), (0, .ref q), (1, .int 20760), (2, .int 1650), (3, .int 1650)]) (fun g1 H locs ls h hl => ?_) (fun j2 g1 H locs ls hj3 h hl ih4 => ?_) 0 () _ _ _ (by decide) h (lv_sub hl [0, 1, 2, 3, 4] rfl)
  · have hl : lv_has ls 5 [(4, .int 1650), (0, .ref q), (1, .int 20760), (2, .int 1650), (3, .int 1650)] := hl
    refine lv_iload F.1 F.2.1 dX12_copies_3 (lv_at hl 0 rfl) ?_
    refine lv_iload_n F.1 F.2.1 dX12_copies_5 rfl (lv_at hl 4 rfl) ?_
    refine lv_icmp_ge (tgt := 33) F.1 F.2.1 dX12_copies_6 (by decide) (fun _ => ?_) (fun hc => absurd (by decide) hc)
    exact x_vret F h hr hlk (fun _ => 0) [0, 1] (trivial) (by decide +kernel) rfl (Nat.le_of_ble_eq_true rfl) (Nat.le_of_ble_eq_true rfl) dX12_copies_33
  · have hl : lv_has ls 5 [(4, .int (nI j2)), (0, .ref q), (1, .int 20760), (2, .int 1650), (3, .int 1650)] := hl
    refine lv_iload F.1 F.2.1 dX12_copies_3 (lv_at hl 0 rfl) ?_
    refine lv_iload_n F.1 F.2.1 dX12_copies_5 rfl (lv_at hl 4 rfl) ?_
    refine lv_icmp_ge (tgt := 33) F.1 F.2.1 dX12_copies_6 (by decide) (fun hc => absurd hc (x_nle (N := 1650) hj3 (by decide))) (fun _ => ?_)
    refine lv_aload_n F.1 F.2.1 dX12_copies_9 rfl (lv_at hl 1 rfl) ?_
    refine x_get F h 0 0 inlX12 rfl (by decide) mw_202 dX12_copies_10 rfl rfl ?_
    refine lv_iload_n F.1 F.2.1 dX12_copies_13 rfl (lv_at hl 3 rfl) ?_
    refine lv_iload F.1 F.2.1 dX12_copies_14 (lv_at hl 0 rfl) ?_
    refine lv_iadd F.1 F.2.1 dX12_copies_16 ?_
    refine x_topi (y := nI (1650 + j2)) (nI_add 1650 j2) ?_
    refine lv_aload_n F.1 F.2.1 dX12_copies_17 rfl (lv_at hl 1 rfl) ?_
    refine x_get F h 0 0 inlX12 rfl (by decide) mw_202 dX12_copies_18 rfl rfl ?_
    refine lv_iload_n F.1 F.2.1 dX12_copies_21 rfl (lv_at hl 2 rfl) ?_
    refine lv_iload F.1 F.2.1 dX12_copies_22 (lv_at hl 0 rfl) ?_
    refine lv_iadd F.1 F.2.1 dX12_copies_24 ?_
    refine x_topi (y := nI (20760 + j2)) (nI_add 20760 j2) ?_
    refine x_lald (v := 0) F h 1 rfl rfl (vp_in_nI (by omega) (by decide)) rfl dX12_copies_25 ?_
    refine x_last F h 1 rfl rfl (vp_in_nI (by omega) (by decide)) dX12_copies_26 (ws' := [(q, .inr (12, (.ref ((u 0)) :: .int 0 :: .long 0 :: .long 1 :: .ref ((u 1)) :: .ref ((u 2)) :: .ref ((u 3)) :: .ref ((u 4)) :: .ref ((u 5)) :: .int 0 :: .int 0 :: .int 0 :: .int 0 :: .int 0 :: .int (-1) :: .int 0 :: .int (-1) :: .int 0 :: .ref ((u 6)) :: .int 0 :: .int (-1) :: .ref ((u 7)) :: .ref ((u 8)) :: .ref ((u 9)) :: .ref ((u 10)) :: .ref ((u 11)) :: .ref ((u 12)) :: .ref ((u 13)) :: .int 0 :: .int 0 :: .int (-1) :: .int 0 :: .int (-1) :: .int 0 :: .ref ((u 14)) :: .int 0 :: .int 0 :: .int 0 :: .int 0 :: .int 0 :: .ref ((u 15)) :: .ref ((u 16)) :: .int 0 :: .int (-1) :: .int 0 :: .int 0 :: .int 0 :: .int 0 :: .ref ((u 17)) :: .ref ((u 18)) :: .ref ((u 19)) :: .int 0 :: .ref ((u 20)) :: .ref ((u 21)) :: .int 0 :: .ref ((u 22)) :: .int (-1) :: .int 0 :: .ref ((u 23)) :: .int (-1) :: .int (-1) :: .int 0 :: .ref ((u 24)) :: .ref ((u 25)) :: .int 0 :: []))), (((u 0)), .inl (cy 2, 25710, .inr (.inl (fun _ => 0))))]) (by rw [x_z]; rfl) (fun H locs h => ?_)
    refine lv_iinc (v := (nI (j2 + 1))) (lv' := [(4, .int (nI (j2 + 1))), (0, .ref q), (1, .int 20760), (2, .int 1650), (3, .int 1650)]) F.1 F.2.1 dX12_copies_27 hl (k := 0) rfl (nI_1 j2) (by decide) rfl (fun ls hl => ?_)
    refine lv_goto (tgt := 3) F.1 F.2.1 dX12_copies_30 (by decide) ?_
    exact ih4 () _ _ _ h (lv_sub hl [0, 1, 2, 3, 4] rfl)
set_option maxHeartbeats 4000000 in
set_option maxRecDepth 100000 in
theorem c_m_copies2 (l : Launch) (D : va_G) (cy : Nat → ClassId) (q : Nat) (u : Nat → Nat) : ∀ sz, Met l yX12_copies (Cond.code yX12_copies cX12_copies 5 none :: wsL_law) { frames := 0, cells := 0, slots := 0, locals := 0 } (va_Pc [.ref q, .int 20760, .int 3300, .int 1650] (xP D cy ([mM q u 0 (-1) 0 0 (-1), mA_at cy u]) sz)) (va_Qv (fun _ => True) (xB D (va_A ([mM q u 0 (-1) 0 0 (-1), mA_at cy u]) sz) (fun _ => [mM q u 0 (-1) 0 0 (-1), mA_at cy u])) (va_A ([mM q u 0 (-1) 0 0 (-1), mA_at cy u]) sz)) 0 0 (va_A ([mM q u 0 (-1) 0 0 (-1), mA_at cy u]) sz) := by
  refine x_enter (fun A => va_Qv (fun _ => True) (xB D A (fun _ => [mM q u 0 (-1) 0 0 (-1), mA_at cy u])) A) (by decide +kernel) rfl (Nat.le_of_ble_eq_true rfl) ?_
  intro p e s m below meth c A ls F hr hlk hin h hl
  have hl : lv_has ls 5 [(0, .ref q), (1, .int 20760), (2, .int 3300), (3, .int 1650)] := hl
  have h : xS D cy A s.heap ([(q, .inr (12, (.ref ((u 0)) :: .int 0 :: .long 0 :: .long 1 :: .ref ((u 1)) :: .ref ((u 2)) :: .ref ((u 3)) :: .ref ((u 4)) :: .ref ((u 5)) :: .int 0 :: .int 0 :: .int 0 :: .int 0 :: .int 0 :: .int (-1) :: .int 0 :: .int (-1) :: .int 0 :: .ref ((u 6)) :: .int 0 :: .int (-1) :: .ref ((u 7)) :: .ref ((u 8)) :: .ref ((u 9)) :: .ref ((u 10)) :: .ref ((u 11)) :: .ref ((u 12)) :: .ref ((u 13)) :: .int 0 :: .int 0 :: .int (-1) :: .int 0 :: .int (-1) :: .int 0 :: .ref ((u 14)) :: .int 0 :: .int 0 :: .int 0 :: .int 0 :: .int 0 :: .ref ((u 15)) :: .ref ((u 16)) :: .int 0 :: .int (-1) :: .int 0 :: .int 0 :: .int 0 :: .int 0 :: .ref ((u 17)) :: .ref ((u 18)) :: .ref ((u 19)) :: .int 0 :: .ref ((u 20)) :: .ref ((u 21)) :: .int 0 :: .ref ((u 22)) :: .int (-1) :: .int 0 :: .ref ((u 23)) :: .int (-1) :: .int (-1) :: .int 0 :: .ref ((u 24)) :: .ref ((u 25)) :: .int 0 :: []))), (((u 0)), .inl (cy 2, 25710, .inr (.inl (fun _ => 0))))]) s s.heap [] := h
  refine lv_iconst (v := 0) F.1 F.2.1 dX12_copies_0 (by decide) ?_
  refine lv_istore (lv' := [(4, .int 0), (0, .ref q), (1, .int 20760), (2, .int 3300), (3, .int 1650)]) F.1 F.2.1 dX12_copies_1 hl (by decide) rfl (fun ls hl => ?_)
  refine x_loop (fun (g1 : Unit) => [(q, .inr (12, (.ref ((u 0)) :: .int 0 :: .long 0 :: .long 1 :: .ref ((u 1)) :: .ref ((u 2)) :: .ref ((u 3)) :: .ref ((u 4)) :: .ref ((u 5)) :: .int 0 :: .int 0 :: .int 0 :: .int 0 :: .int 0 :: .int (-1) :: .int 0 :: .int (-1) :: .int 0 :: .ref ((u 6)) :: .int 0 :: .int (-1) :: .ref ((u 7)) :: .ref ((u 8)) :: .ref ((u 9)) :: .ref ((u 10)) :: .ref ((u 11)) :: .ref ((u 12)) :: .ref ((u 13)) :: .int 0 :: .int 0 :: .int (-1) :: .int 0 :: .int (-1) :: .int 0 :: .ref ((u 14)) :: .int 0 :: .int 0 :: .int 0 :: .int 0 :: .int 0 :: .ref ((u 15)) :: .ref ((u 16)) :: .int 0 :: .int (-1) :: .int 0 :: .int 0 :: .int 0 :: .int 0 :: .ref ((u 17)) :: .ref ((u 18)) :: .ref ((u 19)) :: .int 0 :: .ref ((u 20)) :: .ref ((u 21)) :: .int 0 :: .ref ((u 22)) :: .int (-1) :: .int 0 :: .ref ((u 23)) :: .int (-1) :: .int (-1) :: .int 0 :: .ref ((u 24)) :: .ref ((u 25)) :: .int 0 :: []))), (((u 0)), .inl (cy 2, 25710, .inr (.inl (fun _ => 0))))]) 1650 (fun i => [(4, .int i), (0, .ref q), (1, .int 20760), (2, .int 3300), (3, .int 1650)]) (fun g1 H locs ls h hl => ?_) (fun j2 g1 H locs ls hj3 h hl ih4 => ?_) 0 () _ _ _ (by decide) h (lv_sub hl [0, 1, 2, 3, 4] rfl)
  · have hl : lv_has ls 5 [(4, .int 1650), (0, .ref q), (1, .int 20760), (2, .int 3300), (3, .int 1650)] := hl
    refine lv_iload F.1 F.2.1 dX12_copies_3 (lv_at hl 0 rfl) ?_
    refine lv_iload_n F.1 F.2.1 dX12_copies_5 rfl (lv_at hl 4 rfl) ?_
    refine lv_icmp_ge (tgt := 33) F.1 F.2.1 dX12_copies_6 (by decide) (fun _ => ?_) (fun hc => absurd (by decide) hc)
    exact x_vret F h hr hlk (fun _ => 0) [0, 1] (trivial) (by decide +kernel) rfl (Nat.le_of_ble_eq_true rfl) (Nat.le_of_ble_eq_true rfl) dX12_copies_33
  · have hl : lv_has ls 5 [(4, .int (nI j2)), (0, .ref q), (1, .int 20760), (2, .int 3300), (3, .int 1650)] := hl
    refine lv_iload F.1 F.2.1 dX12_copies_3 (lv_at hl 0 rfl) ?_
    refine lv_iload_n F.1 F.2.1 dX12_copies_5 rfl (lv_at hl 4 rfl) ?_
    refine lv_icmp_ge (tgt := 33) F.1 F.2.1 dX12_copies_6 (by decide) (fun hc => absurd hc (x_nle (N := 1650) hj3 (by decide))) (fun _ => ?_)
    refine lv_aload_n F.1 F.2.1 dX12_copies_9 rfl (lv_at hl 1 rfl) ?_
    refine x_get F h 0 0 inlX12 rfl (by decide) mw_202 dX12_copies_10 rfl rfl ?_
    refine lv_iload_n F.1 F.2.1 dX12_copies_13 rfl (lv_at hl 3 rfl) ?_
    refine lv_iload F.1 F.2.1 dX12_copies_14 (lv_at hl 0 rfl) ?_
    refine lv_iadd F.1 F.2.1 dX12_copies_16 ?_
    refine x_topi (y := nI (3300 + j2)) (nI_add 3300 j2) ?_
    refine lv_aload_n F.1 F.2.1 dX12_copies_17 rfl (lv_at hl 1 rfl) ?_
    refine x_get F h 0 0 inlX12 rfl (by decide) mw_202 dX12_copies_18 rfl rfl ?_
    refine lv_iload_n F.1 F.2.1 dX12_copies_21 rfl (lv_at hl 2 rfl) ?_
    refine lv_iload F.1 F.2.1 dX12_copies_22 (lv_at hl 0 rfl) ?_
    refine lv_iadd F.1 F.2.1 dX12_copies_24 ?_
    refine x_topi (y := nI (20760 + j2)) (nI_add 20760 j2) ?_
    refine x_lald (v := 0) F h 1 rfl rfl (vp_in_nI (by omega) (by decide)) rfl dX12_copies_25 ?_
    refine x_last F h 1 rfl rfl (vp_in_nI (by omega) (by decide)) dX12_copies_26 (ws' := [(q, .inr (12, (.ref ((u 0)) :: .int 0 :: .long 0 :: .long 1 :: .ref ((u 1)) :: .ref ((u 2)) :: .ref ((u 3)) :: .ref ((u 4)) :: .ref ((u 5)) :: .int 0 :: .int 0 :: .int 0 :: .int 0 :: .int 0 :: .int (-1) :: .int 0 :: .int (-1) :: .int 0 :: .ref ((u 6)) :: .int 0 :: .int (-1) :: .ref ((u 7)) :: .ref ((u 8)) :: .ref ((u 9)) :: .ref ((u 10)) :: .ref ((u 11)) :: .ref ((u 12)) :: .ref ((u 13)) :: .int 0 :: .int 0 :: .int (-1) :: .int 0 :: .int (-1) :: .int 0 :: .ref ((u 14)) :: .int 0 :: .int 0 :: .int 0 :: .int 0 :: .int 0 :: .ref ((u 15)) :: .ref ((u 16)) :: .int 0 :: .int (-1) :: .int 0 :: .int 0 :: .int 0 :: .int 0 :: .ref ((u 17)) :: .ref ((u 18)) :: .ref ((u 19)) :: .int 0 :: .ref ((u 20)) :: .ref ((u 21)) :: .int 0 :: .ref ((u 22)) :: .int (-1) :: .int 0 :: .ref ((u 23)) :: .int (-1) :: .int (-1) :: .int 0 :: .ref ((u 24)) :: .ref ((u 25)) :: .int 0 :: []))), (((u 0)), .inl (cy 2, 25710, .inr (.inl (fun _ => 0))))]) (by rw [x_z]; rfl) (fun H locs h => ?_)
    refine lv_iinc (v := (nI (j2 + 1))) (lv' := [(4, .int (nI (j2 + 1))), (0, .ref q), (1, .int 20760), (2, .int 3300), (3, .int 1650)]) F.1 F.2.1 dX12_copies_27 hl (k := 0) rfl (nI_1 j2) (by decide) rfl (fun ls hl => ?_)
    refine lv_goto (tgt := 3) F.1 F.2.1 dX12_copies_30 (by decide) ?_
    exact ih4 () _ _ _ h (lv_sub hl [0, 1, 2, 3, 4] rfl)
set_option maxHeartbeats 4000000 in
set_option maxRecDepth 100000 in
theorem c_m_copiesM (l : Launch) (D : va_G) (cy : Nat → ClassId) (q : Nat) (u : Nat → Nat) : ∀ sz, Met l yX12_copies (Cond.code yX12_copies cX12_copies 5 none :: wsL_law) { frames := 0, cells := 0, slots := 0, locals := 0 } (va_Pc [.ref q, .int 0, .int 5190, .int 5190] (xP D cy ([mM q u 0 0 1 (-1) 0, mA_at cy u]) sz)) (va_Qv (fun _ => True) (xB D (va_A ([mM q u 0 0 1 (-1) 0, mA_at cy u]) sz) (fun _ => [mM q u 0 0 1 (-1) 0, mA_at cy u])) (va_A ([mM q u 0 0 1 (-1) 0, mA_at cy u]) sz)) 0 0 (va_A ([mM q u 0 0 1 (-1) 0, mA_at cy u]) sz) := by
  refine x_enter (fun A => va_Qv (fun _ => True) (xB D A (fun _ => [mM q u 0 0 1 (-1) 0, mA_at cy u])) A) (by decide +kernel) rfl (Nat.le_of_ble_eq_true rfl) ?_
  intro p e s m below meth c A ls F hr hlk hin h hl
  have hl : lv_has ls 5 [(0, .ref q), (1, .int 0), (2, .int 5190), (3, .int 5190)] := hl
  have h : xS D cy A s.heap ([(q, .inr (12, (.ref ((u 0)) :: .int 0 :: .long 0 :: .long 1 :: .ref ((u 1)) :: .ref ((u 2)) :: .ref ((u 3)) :: .ref ((u 4)) :: .ref ((u 5)) :: .int 0 :: .int 0 :: .int 0 :: .int 0 :: .int 0 :: .int 0 :: .int (-1) :: .int (-1) :: .int 0 :: .ref ((u 6)) :: .int 0 :: .int 0 :: .ref ((u 7)) :: .ref ((u 8)) :: .ref ((u 9)) :: .ref ((u 10)) :: .ref ((u 11)) :: .ref ((u 12)) :: .ref ((u 13)) :: .int 0 :: .int 0 :: .int (-1) :: .int 0 :: .int (-1) :: .int 0 :: .ref ((u 14)) :: .int 0 :: .int 0 :: .int 0 :: .int 0 :: .int 0 :: .ref ((u 15)) :: .ref ((u 16)) :: .int 0 :: .int (-1) :: .int 0 :: .int 0 :: .int 0 :: .int 0 :: .ref ((u 17)) :: .ref ((u 18)) :: .ref ((u 19)) :: .int 0 :: .ref ((u 20)) :: .ref ((u 21)) :: .int 0 :: .ref ((u 22)) :: .int (-1) :: .int 0 :: .ref ((u 23)) :: .int (-1) :: .int (-1) :: .int 0 :: .ref ((u 24)) :: .ref ((u 25)) :: .int 1 :: []))), (((u 0)), .inl (cy 2, 25710, .inr (.inl (fun _ => 0))))]) s s.heap [] := h
  refine lv_iconst (v := 0) F.1 F.2.1 dX12_copies_0 (by decide) ?_
  refine lv_istore (lv' := [(4, .int 0), (0, .ref q), (1, .int 0), (2, .int 5190), (3, .int 5190)]) F.1 F.2.1 dX12_copies_1 hl (by decide) rfl (fun ls hl => ?_)
  refine x_loop (fun (g1 : Unit) => [(q, .inr (12, (.ref ((u 0)) :: .int 0 :: .long 0 :: .long 1 :: .ref ((u 1)) :: .ref ((u 2)) :: .ref ((u 3)) :: .ref ((u 4)) :: .ref ((u 5)) :: .int 0 :: .int 0 :: .int 0 :: .int 0 :: .int 0 :: .int 0 :: .int (-1) :: .int (-1) :: .int 0 :: .ref ((u 6)) :: .int 0 :: .int 0 :: .ref ((u 7)) :: .ref ((u 8)) :: .ref ((u 9)) :: .ref ((u 10)) :: .ref ((u 11)) :: .ref ((u 12)) :: .ref ((u 13)) :: .int 0 :: .int 0 :: .int (-1) :: .int 0 :: .int (-1) :: .int 0 :: .ref ((u 14)) :: .int 0 :: .int 0 :: .int 0 :: .int 0 :: .int 0 :: .ref ((u 15)) :: .ref ((u 16)) :: .int 0 :: .int (-1) :: .int 0 :: .int 0 :: .int 0 :: .int 0 :: .ref ((u 17)) :: .ref ((u 18)) :: .ref ((u 19)) :: .int 0 :: .ref ((u 20)) :: .ref ((u 21)) :: .int 0 :: .ref ((u 22)) :: .int (-1) :: .int 0 :: .ref ((u 23)) :: .int (-1) :: .int (-1) :: .int 0 :: .ref ((u 24)) :: .ref ((u 25)) :: .int 1 :: []))), (((u 0)), .inl (cy 2, 25710, .inr (.inl (fun _ => 0))))]) 5190 (fun i => [(4, .int i), (0, .ref q), (1, .int 0), (2, .int 5190), (3, .int 5190)]) (fun g1 H locs ls h hl => ?_) (fun j2 g1 H locs ls hj3 h hl ih4 => ?_) 0 () _ _ _ (by decide) h (lv_sub hl [0, 1, 2, 3, 4] rfl)
  · have hl : lv_has ls 5 [(4, .int 5190), (0, .ref q), (1, .int 0), (2, .int 5190), (3, .int 5190)] := hl
    refine lv_iload F.1 F.2.1 dX12_copies_3 (lv_at hl 0 rfl) ?_
    refine lv_iload_n F.1 F.2.1 dX12_copies_5 rfl (lv_at hl 4 rfl) ?_
    refine lv_icmp_ge (tgt := 33) F.1 F.2.1 dX12_copies_6 (by decide) (fun _ => ?_) (fun hc => absurd (by decide) hc)
    exact x_vret F h hr hlk (fun _ => 0) [0, 1] (trivial) (by decide +kernel) rfl (Nat.le_of_ble_eq_true rfl) (Nat.le_of_ble_eq_true rfl) dX12_copies_33
  · have hl : lv_has ls 5 [(4, .int (nI j2)), (0, .ref q), (1, .int 0), (2, .int 5190), (3, .int 5190)] := hl
    refine lv_iload F.1 F.2.1 dX12_copies_3 (lv_at hl 0 rfl) ?_
    refine lv_iload_n F.1 F.2.1 dX12_copies_5 rfl (lv_at hl 4 rfl) ?_
    refine lv_icmp_ge (tgt := 33) F.1 F.2.1 dX12_copies_6 (by decide) (fun hc => absurd hc (x_nle (N := 5190) hj3 (by decide))) (fun _ => ?_)
    refine lv_aload_n F.1 F.2.1 dX12_copies_9 rfl (lv_at hl 1 rfl) ?_
    refine x_get F h 0 0 inlX12 rfl (by decide) mw_202 dX12_copies_10 rfl rfl ?_
    refine lv_iload_n F.1 F.2.1 dX12_copies_13 rfl (lv_at hl 3 rfl) ?_
    refine lv_iload F.1 F.2.1 dX12_copies_14 (lv_at hl 0 rfl) ?_
    refine lv_iadd F.1 F.2.1 dX12_copies_16 ?_
    refine x_topi (y := nI (5190 + j2)) (nI_add 5190 j2) ?_
    refine lv_aload_n F.1 F.2.1 dX12_copies_17 rfl (lv_at hl 1 rfl) ?_
    refine x_get F h 0 0 inlX12 rfl (by decide) mw_202 dX12_copies_18 rfl rfl ?_
    refine lv_iload_n F.1 F.2.1 dX12_copies_21 rfl (lv_at hl 2 rfl) ?_
    refine lv_iload F.1 F.2.1 dX12_copies_22 (lv_at hl 0 rfl) ?_
    refine lv_iadd F.1 F.2.1 dX12_copies_24 ?_
    refine x_topi (y := nI (0 + j2)) (nI_add 0 j2) ?_
    refine x_lald (v := 0) F h 1 rfl rfl (vp_in_nI (by omega) (by decide)) rfl dX12_copies_25 ?_
    refine x_last F h 1 rfl rfl (vp_in_nI (by omega) (by decide)) dX12_copies_26 (ws' := [(q, .inr (12, (.ref ((u 0)) :: .int 0 :: .long 0 :: .long 1 :: .ref ((u 1)) :: .ref ((u 2)) :: .ref ((u 3)) :: .ref ((u 4)) :: .ref ((u 5)) :: .int 0 :: .int 0 :: .int 0 :: .int 0 :: .int 0 :: .int 0 :: .int (-1) :: .int (-1) :: .int 0 :: .ref ((u 6)) :: .int 0 :: .int 0 :: .ref ((u 7)) :: .ref ((u 8)) :: .ref ((u 9)) :: .ref ((u 10)) :: .ref ((u 11)) :: .ref ((u 12)) :: .ref ((u 13)) :: .int 0 :: .int 0 :: .int (-1) :: .int 0 :: .int (-1) :: .int 0 :: .ref ((u 14)) :: .int 0 :: .int 0 :: .int 0 :: .int 0 :: .int 0 :: .ref ((u 15)) :: .ref ((u 16)) :: .int 0 :: .int (-1) :: .int 0 :: .int 0 :: .int 0 :: .int 0 :: .ref ((u 17)) :: .ref ((u 18)) :: .ref ((u 19)) :: .int 0 :: .ref ((u 20)) :: .ref ((u 21)) :: .int 0 :: .ref ((u 22)) :: .int (-1) :: .int 0 :: .ref ((u 23)) :: .int (-1) :: .int (-1) :: .int 0 :: .ref ((u 24)) :: .ref ((u 25)) :: .int 1 :: []))), (((u 0)), .inl (cy 2, 25710, .inr (.inl (fun _ => 0))))]) (by rw [x_z]; rfl) (fun H locs h => ?_)
    refine lv_iinc (v := (nI (j2 + 1))) (lv' := [(4, .int (nI (j2 + 1))), (0, .ref q), (1, .int 0), (2, .int 5190), (3, .int 5190)]) F.1 F.2.1 dX12_copies_27 hl (k := 0) rfl (nI_1 j2) (by decide) rfl (fun ls hl => ?_)
    refine lv_goto (tgt := 3) F.1 F.2.1 dX12_copies_30 (by decide) ?_
    exact ih4 () _ _ _ h (lv_sub hl [0, 1, 2, 3, 4] rfl)
set_option maxHeartbeats 4000000 in
set_option maxRecDepth 100000 in
theorem c_m_leads (l : Launch) (D : va_G) (cy : Nat → ClassId) (q : Nat) (u : Nat → Nat) : ∀ sz, Met l yX12_leads (Cond.code yX12_leads cX12_leads 5 none :: wsL_law) { frames := 0, cells := 0, slots := 0, locals := 0 } (va_Pc [.ref q, .int 22252] (xP D cy ([mM q u 0 (-1) 0 (-1) (-1), mA_at cy u]) sz)) (va_Qv (fun _ => True) (xB D (va_A ([mM q u 0 (-1) 0 (-1) (-1), mA_at cy u]) sz) (fun _ => [mM q u 0 (-1) 0 (-1) (-1), mA_at cy u])) (va_A ([mM q u 0 (-1) 0 (-1) (-1), mA_at cy u]) sz)) 0 0 (va_A ([mM q u 0 (-1) 0 (-1) (-1), mA_at cy u]) sz) := by
  refine x_enter (fun A => va_Qv (fun _ => True) (xB D A (fun _ => [mM q u 0 (-1) 0 (-1) (-1), mA_at cy u])) A) (by decide +kernel) rfl (Nat.le_of_ble_eq_true rfl) ?_
  intro p e s m below meth c A ls F hr hlk hin h hl
  have hl : lv_has ls 5 [(0, .ref q), (1, .int 22252)] := hl
  have h : xS D cy A s.heap ([(q, .inr (12, (.ref ((u 0)) :: .int 0 :: .long 0 :: .long 1 :: .ref ((u 1)) :: .ref ((u 2)) :: .ref ((u 3)) :: .ref ((u 4)) :: .ref ((u 5)) :: .int 0 :: .int 0 :: .int 0 :: .int 0 :: .int 0 :: .int (-1) :: .int (-1) :: .int (-1) :: .int 0 :: .ref ((u 6)) :: .int 0 :: .int (-1) :: .ref ((u 7)) :: .ref ((u 8)) :: .ref ((u 9)) :: .ref ((u 10)) :: .ref ((u 11)) :: .ref ((u 12)) :: .ref ((u 13)) :: .int 0 :: .int 0 :: .int (-1) :: .int 0 :: .int (-1) :: .int 0 :: .ref ((u 14)) :: .int 0 :: .int 0 :: .int 0 :: .int 0 :: .int 0 :: .ref ((u 15)) :: .ref ((u 16)) :: .int 0 :: .int (-1) :: .int 0 :: .int 0 :: .int 0 :: .int 0 :: .ref ((u 17)) :: .ref ((u 18)) :: .ref ((u 19)) :: .int 0 :: .ref ((u 20)) :: .ref ((u 21)) :: .int 0 :: .ref ((u 22)) :: .int (-1) :: .int 0 :: .ref ((u 23)) :: .int (-1) :: .int (-1) :: .int 0 :: .ref ((u 24)) :: .ref ((u 25)) :: .int 0 :: []))), (((u 0)), .inl (cy 2, 25710, .inr (.inl (fun _ => 0))))]) s s.heap [] := h
  refine lv_iconst (v := 0) F.1 F.2.1 dX12_leads_0 (by decide) ?_
  refine lv_istore_n (lv' := [(2, .int 0), (0, .ref q), (1, .int 22252)]) F.1 F.2.1 dX12_leads_1 rfl hl (by decide) rfl (fun ls hl => ?_)
  refine lv_iload_n F.1 F.2.1 dX12_leads_2 rfl (lv_at hl 0 rfl) ?_
  refine lv_i2l (v := 0) F.1 F.2.1 dX12_leads_3 (by decide +kernel) ?_
  refine lv_aload_n F.1 F.2.1 dX12_leads_4 rfl (lv_at hl 1 rfl) ?_
  refine x_get F h 0 0 inlX12 rfl (by decide) mw_202 dX12_leads_5 rfl rfl ?_
  refine lv_iload_n F.1 F.2.1 dX12_leads_8 rfl (lv_at hl 2 rfl) ?_
  refine x_lald (v := 0) F h 1 rfl rfl (x_in (by decide +kernel)) rfl dX12_leads_9 ?_
  refine W.lcmp F.1 F.2.1 dX12_leads_10 ?_
  refine x_topi (y := 0) (by decide +kernel) ?_
  refine lv_if_ge (tgt := 113) F.1 F.2.1 dX12_leads_11 (by decide) (fun _ => ?_) (fun hc => absurd (by decide) hc)
  exact x_vret F h hr hlk (fun _ => 0) [0, 1] (trivial) (by decide +kernel) rfl (Nat.le_of_ble_eq_true rfl) (Nat.le_of_ble_eq_true rfl) dX12_leads_113
