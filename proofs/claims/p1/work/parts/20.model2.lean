theorem dX12_script_0 : decode cX12_script 0 = .ok (.aload_n 0, 1) := by decide +kernel
theorem dX12_script_1 : decode cX12_script 1 = .ok (.iload_n 1, 1) := by decide +kernel
theorem dX12_script_2 : decode cX12_script 2 = .ok (.invokevirtual 282, 3) := by decide +kernel
theorem mw_635 : Cond.methodLink RX12 282 yX12_isScript ∈ wsL_law := inr_27 _ (List.mem_of_getElem? (i := 11) rfl)
theorem mw_638 : Cond.code yX12_isScript cX12_isScript 2 (some .boolean) ∈ wsL_law := inr_27 _ (List.mem_of_getElem? (i := 14) rfl)
theorem yk_X12_isScript : xY yX12_isScript RX12 cX12_isScript 2 (some .boolean) 1 := ⟨⟨rfl, by decide +kernel, by decide +kernel, by decide +kernel⟩, mw_5, mw_638⟩
theorem mw_636 : Cond.instanceMethod yX12_isScript ∈ wsL_law := inr_27 _ (List.mem_of_getElem? (i := 12) rfl)
theorem mw_637 : Cond.selects RX12 yX12_isScript yX12_isScript ∈ wsL_law := inr_27 _ (List.mem_of_getElem? (i := 13) rfl)
theorem dX12_script_5 : decode cX12_script 5 = .ok (.ifCond .eq 15, 3) := by decide +kernel
theorem dX12_script_20 : decode cX12_script 20 = .ok (.aload_n 0, 1) := by decide +kernel
theorem dX12_script_21 : decode cX12_script 21 = .ok (.iconst 1, 1) := by decide +kernel
theorem dX12_script_22 : decode cX12_script 22 = .ok (.invokevirtual 194, 3) := by decide +kernel
theorem dX12_script_25 : decode cX12_script 25 = .ok (.ireturn, 1) := by decide +kernel
theorem dX12_script_8 : decode cX12_script 8 = .ok (.iload_n 2, 1) := by decide +kernel
theorem dX12_script_9 : decode cX12_script 9 = .ok (.ifCond .lt 11, 3) := by decide +kernel
theorem dX12_script_12 : decode cX12_script 12 = .ok (.iload_n 2, 1) := by decide +kernel
theorem dX12_script_13 : decode cX12_script 13 = .ok (.aload_n 0, 1) := by decide +kernel
theorem dX12_script_14 : decode cX12_script 14 = .ok (.getfield 144, 3) := by decide +kernel
theorem dX12_script_17 : decode cX12_script 17 = .ok (.if_icmp .le 9, 3) := by decide +kernel
theorem dX12_script_26 : decode cX12_script 26 = .ok (.aload_n 0, 1) := by decide +kernel
theorem dX12_script_27 : decode cX12_script 27 = .ok (.iload_n 2, 1) := by decide +kernel
theorem dX12_script_28 : decode cX12_script 28 = .ok (.invokevirtual 197, 3) := by decide +kernel
theorem dX12_script_31 : decode cX12_script 31 = .ok (.iconst 0, 1) := by decide +kernel
theorem dX12_script_32 : decode cX12_script 32 = .ok (.istore_n 3, 1) := by decide +kernel
theorem dX12_script_33 : decode cX12_script 33 = .ok (.iload_n 3, 1) := by decide +kernel
theorem dX12_script_34 : decode cX12_script 34 = .ok (.sipush 1650, 3) := by decide +kernel
theorem dX12_script_37 : decode cX12_script 37 = .ok (.if_icmp .ge 20, 3) := by decide +kernel
theorem dX12_script_57 : decode cX12_script 57 = .ok (.aload_n 0, 1) := by decide +kernel
theorem dX12_script_58 : decode cX12_script 58 = .ok (.invokevirtual 184, 3) := by decide +kernel
theorem dX12_script_61 : decode cX12_script 61 = .ok (.aload_n 0, 1) := by decide +kernel
theorem dX12_script_62 : decode cX12_script 62 = .ok (.getfield 167, 3) := by decide +kernel
theorem dX12_script_65 : decode cX12_script 65 = .ok (.ifCond .eq 7, 3) := by decide +kernel
theorem dX12_script_72 : decode cX12_script 72 = .ok (.iconst 0, 1) := by decide +kernel
theorem dX12_script_73 : decode cX12_script 73 = .ok (.istore_n 3, 1) := by decide +kernel
theorem dX12_script_74 : decode cX12_script 74 = .ok (.iload_n 3, 1) := by decide +kernel
theorem dX12_script_75 : decode cX12_script 75 = .ok (.ifCond .eq 26, 3) := by decide +kernel
theorem dX12_script_101 : decode cX12_script 101 = .ok (.aload_n 0, 1) := by decide +kernel
theorem dX12_script_102 : decode cX12_script 102 = .ok (.getfield 181, 3) := by decide +kernel
theorem dX12_script_105 : decode cX12_script 105 = .ok (.ifCond .ne 77, 3) := by decide +kernel
theorem dX12_script_108 : decode cX12_script 108 = .ok (.aload_n 0, 1) := by decide +kernel
theorem dX12_script_109 : decode cX12_script 109 = .ok (.iconst (-1), 1) := by decide +kernel
theorem dX12_script_110 : decode cX12_script 110 = .ok (.putfield 279, 3) := by decide +kernel
theorem mw_634 : Cond.fieldLink RX12 279 "AskBackModel" "goPlace" "I" ∈ wsL_law := inr_27 _ (List.mem_of_getElem? (i := 10) rfl)
theorem dX12_script_113 : decode cX12_script 113 = .ok (.iconst 0, 1) := by decide +kernel
theorem dX12_script_114 : decode cX12_script 114 = .ok (.istore 4, 2) := by decide +kernel
theorem dX12_script_116 : decode cX12_script 116 = .ok (.iload 4, 2) := by decide +kernel
theorem dX12_script_118 : decode cX12_script 118 = .ok (.i2l, 1) := by decide +kernel
theorem dX12_script_119 : decode cX12_script 119 = .ok (.aload_n 0, 1) := by decide +kernel
theorem dX12_script_120 : decode cX12_script 120 = .ok (.getfield 7, 3) := by decide +kernel
theorem dX12_script_123 : decode cX12_script 123 = .ok (.sipush 20761, 3) := by decide +kernel
theorem dX12_script_126 : decode cX12_script 126 = .ok (.laload, 1) := by decide +kernel
theorem dX12_script_127 : decode cX12_script 127 = .ok (.lcmp, 1) := by decide +kernel
theorem dX12_script_128 : decode cX12_script 128 = .ok (.ifCond .ge 25, 3) := by decide +kernel
theorem dX12_script_153 : decode cX12_script 153 = .ok (.aload_n 0, 1) := by decide +kernel
theorem dX12_script_154 : decode cX12_script 154 = .ok (.sipush 22252, 3) := by decide +kernel
theorem dX12_script_157 : decode cX12_script 157 = .ok (.invokevirtual 288, 3) := by decide +kernel
theorem mw_741 : Cond.methodLink RX12 288 yX12_leads ∈ wsL_law := inr_31 _ (List.mem_of_getElem? (i := 21) rfl)
theorem mw_744 : Cond.code yX12_leads cX12_leads 5 none ∈ wsL_law := inr_32 _ (List.mem_of_getElem? (i := 0) rfl)
theorem yk_X12_leads : xY yX12_leads RX12 cX12_leads 5 none 1 := ⟨⟨rfl, by decide +kernel, by decide +kernel, by decide +kernel⟩, mw_5, mw_744⟩
theorem mw_742 : Cond.instanceMethod yX12_leads ∈ wsL_law := inr_31 _ (List.mem_of_getElem? (i := 22) rfl)
theorem mw_743 : Cond.selects RX12 yX12_leads yX12_leads ∈ wsL_law := inr_31 _ (List.mem_of_getElem? (i := 23) rfl)
theorem dX12_script_160 : decode cX12_script 160 = .ok (.aload_n 0, 1) := by decide +kernel
theorem dX12_script_161 : decode cX12_script 161 = .ok (.getfield 279, 3) := by decide +kernel
theorem dX12_script_164 : decode cX12_script 164 = .ok (.iconst (-1), 1) := by decide +kernel
theorem dX12_script_165 : decode cX12_script 165 = .ok (.if_icmp .eq 17, 3) := by decide +kernel
theorem dX12_script_182 : decode cX12_script 182 = .ok (.aload_n 0, 1) := by decide +kernel
theorem dX12_script_183 : decode cX12_script 183 = .ok (.aload_n 0, 1) := by decide +kernel
theorem dX12_script_184 : decode cX12_script 184 = .ok (.getfield 181, 3) := by decide +kernel
theorem dX12_script_187 : decode cX12_script 187 = .ok (.putfield 34, 3) := by decide +kernel
theorem dX12_script_190 : decode cX12_script 190 = .ok (.aload_n 0, 1) := by decide +kernel
theorem dX12_script_191 : decode cX12_script 191 = .ok (.getfield 181, 3) := by decide +kernel
theorem dX12_script_194 : decode cX12_script 194 = .ok (.ifCond .le 10, 3) := by decide +kernel
theorem dX12_script_204 : decode cX12_script 204 = .ok (.aload_n 0, 1) := by decide +kernel
theorem dX12_script_205 : decode cX12_script 205 = .ok (.sipush 20760, 3) := by decide +kernel
theorem dX12_script_208 : decode cX12_script 208 = .ok (.invokevirtual 291, 3) := by decide +kernel
theorem mw_745 : Cond.methodLink RX12 291 yX12_fresh ∈ wsL_law := inr_32 _ (List.mem_of_getElem? (i := 1) rfl)
theorem mw_748 : Cond.code yX12_fresh cX12_fresh 3 none ∈ wsL_law := inr_32 _ (List.mem_of_getElem? (i := 4) rfl)
theorem yk_X12_fresh : xY yX12_fresh RX12 cX12_fresh 3 none 1 := ⟨⟨rfl, by decide +kernel, by decide +kernel, by decide +kernel⟩, mw_5, mw_748⟩
theorem mw_746 : Cond.instanceMethod yX12_fresh ∈ wsL_law := inr_32 _ (List.mem_of_getElem? (i := 2) rfl)
theorem mw_747 : Cond.selects RX12 yX12_fresh yX12_fresh ∈ wsL_law := inr_32 _ (List.mem_of_getElem? (i := 3) rfl)
theorem dX12_script_211 : decode cX12_script 211 = .ok (.aload_n 0, 1) := by decide +kernel
theorem dX12_script_212 : decode cX12_script 212 = .ok (.sipush 20760, 3) := by decide +kernel
theorem dX12_script_215 : decode cX12_script 215 = .ok (.sipush 1650, 3) := by decide +kernel
theorem dX12_script_218 : decode cX12_script 218 = .ok (.iload_n 1, 1) := by decide +kernel
theorem dX12_script_219 : decode cX12_script 219 = .ok (.imul, 1) := by decide +kernel
theorem dX12_script_220 : decode cX12_script 220 = .ok (.sipush 1650, 3) := by decide +kernel
theorem dX12_script_223 : decode cX12_script 223 = .ok (.invokevirtual 294, 3) := by decide +kernel
theorem mw_749 : Cond.methodLink RX12 294 yX12_copies ∈ wsL_law := inr_32 _ (List.mem_of_getElem? (i := 5) rfl)
theorem mw_752 : Cond.code yX12_copies cX12_copies 5 none ∈ wsL_law := inr_32 _ (List.mem_of_getElem? (i := 8) rfl)
theorem yk_X12_copies : xY yX12_copies RX12 cX12_copies 5 none 3 := ⟨⟨rfl, by decide +kernel, by decide +kernel, by decide +kernel⟩, mw_5, mw_752⟩
theorem mw_750 : Cond.instanceMethod yX12_copies ∈ wsL_law := inr_32 _ (List.mem_of_getElem? (i := 6) rfl)
theorem mw_751 : Cond.selects RX12 yX12_copies yX12_copies ∈ wsL_law := inr_32 _ (List.mem_of_getElem? (i := 7) rfl)
theorem dX12_script_226 : decode cX12_script 226 = .ok (.aload_n 0, 1) := by decide +kernel
theorem dX12_script_227 : decode cX12_script 227 = .ok (.aload_n 0, 1) := by decide +kernel
theorem dX12_script_228 : decode cX12_script 228 = .ok (.getfield 7, 3) := by decide +kernel
theorem dX12_script_231 : decode cX12_script 231 = .ok (.sipush 20761, 3) := by decide +kernel
theorem dX12_script_234 : decode cX12_script 234 = .ok (.laload, 1) := by decide +kernel
theorem dX12_script_235 : decode cX12_script 235 = .ok (.l2i, 1) := by decide +kernel
theorem dX12_script_236 : decode cX12_script 236 = .ok (.invokevirtual 209, 3) := by decide +kernel
theorem dX12_script_239 : decode cX12_script 239 = .ok (.ireturn, 1) := by decide +kernel
theorem dX12_script_40 : decode cX12_script 40 = .ok (.aload_n 0, 1) := by decide +kernel
theorem dX12_script_41 : decode cX12_script 41 = .ok (.getfield 7, 3) := by decide +kernel
theorem dX12_script_44 : decode cX12_script 44 = .ok (.sipush 20760, 3) := by decide +kernel
theorem dX12_script_47 : decode cX12_script 47 = .ok (.iload_n 3, 1) := by decide +kernel
theorem dX12_script_48 : decode cX12_script 48 = .ok (.iadd, 1) := by decide +kernel
theorem dX12_script_49 : decode cX12_script 49 = .ok (.lconst 0, 1) := by decide +kernel
theorem dX12_script_50 : decode cX12_script 50 = .ok (.lastore, 1) := by decide +kernel
theorem dX12_script_51 : decode cX12_script 51 = .ok (.iinc 3 1, 3) := by decide +kernel
theorem dX12_script_54 : decode cX12_script 54 = .ok (.goto (-21), 3) := by decide +kernel
theorem dX12_fault_0 : decode cX12_fault 0 = .ok (.iload_n 1, 1) := by decide +kernel
theorem dX12_fault_1 : decode cX12_fault 1 = .ok (.ifCond .ne 10, 3) := by decide +kernel
theorem dX12_fault_11 : decode cX12_fault 11 = .ok (.iload_n 1, 1) := by decide +kernel
theorem dX12_fault_12 : decode cX12_fault 12 = .ok (.iconst 1, 1) := by decide +kernel
theorem dX12_fault_13 : decode cX12_fault 13 = .ok (.if_icmp .ne 10, 3) := by decide +kernel
theorem dX12_fault_23 : decode cX12_fault 23 = .ok (.iconst (-1), 1) := by decide +kernel
theorem dX12_fault_24 : decode cX12_fault 24 = .ok (.ireturn, 1) := by decide +kernel
theorem dX12_fault_16 : decode cX12_fault 16 = .ok (.aload_n 0, 1) := by decide +kernel
theorem dX12_fault_17 : decode cX12_fault 17 = .ok (.getfield 38, 3) := by decide +kernel
theorem dX12_fault_20 : decode cX12_fault 20 = .ok (.goto 4, 3) := by decide +kernel
theorem dX12_fault_4 : decode cX12_fault 4 = .ok (.aload_n 0, 1) := by decide +kernel
theorem dX12_fault_5 : decode cX12_fault 5 = .ok (.getfield 34, 3) := by decide +kernel
theorem dX12_fault_8 : decode cX12_fault 8 = .ok (.goto 16, 3) := by decide +kernel
theorem dX12_word_0 : decode cX12_word 0 = .ok (.aload_n 0, 1) := by decide +kernel
theorem dX12_word_1 : decode cX12_word 1 = .ok (.iload_n 1, 1) := by decide +kernel
theorem dX12_word_2 : decode cX12_word 2 = .ok (.i2l, 1) := by decide +kernel
theorem dX12_word_3 : decode cX12_word 3 = .ok (.invokevirtual 212, 3) := by decide +kernel
theorem mw_797 : Cond.methodLink RX12 212 yX12_isLine ∈ wsL_law := inr_34 _ (List.mem_of_getElem? (i := 5) rfl)
theorem mw_800 : Cond.code yX12_isLine cX12_isLine 3 (some .boolean) ∈ wsL_law := inr_34 _ (List.mem_of_getElem? (i := 8) rfl)
theorem yk_X12_isLine : xY yX12_isLine RX12 cX12_isLine 3 (some .boolean) 1 := ⟨⟨rfl, by decide +kernel, by decide +kernel, by decide +kernel⟩, mw_5, mw_800⟩
theorem mw_798 : Cond.instanceMethod yX12_isLine ∈ wsL_law := inr_34 _ (List.mem_of_getElem? (i := 6) rfl)
theorem mw_799 : Cond.selects RX12 yX12_isLine yX12_isLine ∈ wsL_law := inr_34 _ (List.mem_of_getElem? (i := 7) rfl)
theorem dX12_word_6 : decode cX12_word 6 = .ok (.ifCond .eq 8, 3) := by decide +kernel
theorem dX12_word_14 : decode cX12_word 14 = .ok (.aload_n 0, 1) := by decide +kernel
theorem dX12_word_15 : decode cX12_word 15 = .ok (.iconst 1, 1) := by decide +kernel
theorem dX12_word_16 : decode cX12_word 16 = .ok (.invokevirtual 194, 3) := by decide +kernel
theorem dX12_word_19 : decode cX12_word 19 = .ok (.i2l, 1) := by decide +kernel
theorem dX12_word_20 : decode cX12_word 20 = .ok (.lreturn, 1) := by decide +kernel
theorem dX12_rule_0 : decode cX12_rule 0 = .ok (.aload_n 0, 1) := by decide +kernel
theorem dX12_rule_1 : decode cX12_rule 1 = .ok (.iload_n 1, 1) := by decide +kernel
theorem dX12_rule_2 : decode cX12_rule 2 = .ok (.invokevirtual 282, 3) := by decide +kernel
theorem dX12_rule_5 : decode cX12_rule 5 = .ok (.ifCond .eq 34, 3) := by decide +kernel
theorem dX12_rule_39 : decode cX12_rule 39 = .ok (.aload_n 0, 1) := by decide +kernel
theorem dX12_rule_40 : decode cX12_rule 40 = .ok (.iconst 1, 1) := by decide +kernel
theorem dX12_rule_41 : decode cX12_rule 41 = .ok (.invokevirtual 194, 3) := by decide +kernel
theorem dX12_rule_44 : decode cX12_rule 44 = .ok (.ireturn, 1) := by decide +kernel
theorem dX12_rule_8 : decode cX12_rule 8 = .ok (.iload_n 2, 1) := by decide +kernel
theorem dX12_rule_9 : decode cX12_rule 9 = .ok (.ifCond .lt 30, 3) := by decide +kernel
theorem dX12_rule_12 : decode cX12_rule 12 = .ok (.iload_n 2, 1) := by decide +kernel
theorem dX12_rule_13 : decode cX12_rule 13 = .ok (.i2l, 1) := by decide +kernel
theorem dX12_rule_14 : decode cX12_rule 14 = .ok (.aload_n 0, 1) := by decide +kernel
theorem dX12_rule_15 : decode cX12_rule 15 = .ok (.getfield 7, 3) := by decide +kernel
theorem dX12_rule_18 : decode cX12_rule 18 = .ok (.sipush 1650, 3) := by decide +kernel
theorem dX12_rule_21 : decode cX12_rule 21 = .ok (.iload_n 1, 1) := by decide +kernel
theorem dX12_rule_22 : decode cX12_rule 22 = .ok (.imul, 1) := by decide +kernel
theorem dX12_rule_23 : decode cX12_rule 23 = .ok (.iconst 1, 1) := by decide +kernel
theorem dX12_rule_24 : decode cX12_rule 24 = .ok (.iadd, 1) := by decide +kernel
theorem dX12_rule_25 : decode cX12_rule 25 = .ok (.laload, 1) := by decide +kernel
theorem dX12_rule_26 : decode cX12_rule 26 = .ok (.lcmp, 1) := by decide +kernel
theorem dX12_rule_27 : decode cX12_rule 27 = .ok (.ifCond .ge 12, 3) := by decide +kernel
theorem dX12_fit_0 : decode cX12_fit 0 = .ok (.aload_n 0, 1) := by decide +kernel
theorem dX12_fit_1 : decode cX12_fit 1 = .ok (.iload_n 1, 1) := by decide +kernel
theorem dX12_fit_2 : decode cX12_fit 2 = .ok (.invokevirtual 282, 3) := by decide +kernel
theorem dX12_fit_5 : decode cX12_fit 5 = .ok (.ifCond .eq 34, 3) := by decide +kernel
theorem dX12_fit_39 : decode cX12_fit 39 = .ok (.aload_n 0, 1) := by decide +kernel
theorem dX12_fit_40 : decode cX12_fit 40 = .ok (.iconst 1, 1) := by decide +kernel
theorem dX12_fit_41 : decode cX12_fit 41 = .ok (.invokevirtual 194, 3) := by decide +kernel
theorem dX12_fit_44 : decode cX12_fit 44 = .ok (.ireturn, 1) := by decide +kernel
theorem dX12_fit_8 : decode cX12_fit 8 = .ok (.iload_n 2, 1) := by decide +kernel
theorem dX12_fit_9 : decode cX12_fit 9 = .ok (.ifCond .lt 30, 3) := by decide +kernel
theorem dX12_fit_12 : decode cX12_fit 12 = .ok (.iload_n 2, 1) := by decide +kernel
theorem dX12_fit_13 : decode cX12_fit 13 = .ok (.i2l, 1) := by decide +kernel
theorem dX12_fit_14 : decode cX12_fit 14 = .ok (.aload_n 0, 1) := by decide +kernel
theorem dX12_fit_15 : decode cX12_fit 15 = .ok (.getfield 7, 3) := by decide +kernel
theorem dX12_fit_18 : decode cX12_fit 18 = .ok (.sipush 1650, 3) := by decide +kernel
theorem dX12_fit_21 : decode cX12_fit 21 = .ok (.iload_n 1, 1) := by decide +kernel
theorem dX12_fit_22 : decode cX12_fit 22 = .ok (.imul, 1) := by decide +kernel
theorem dX12_fit_23 : decode cX12_fit 23 = .ok (.iconst 1, 1) := by decide +kernel
theorem dX12_fit_24 : decode cX12_fit 24 = .ok (.iadd, 1) := by decide +kernel
theorem dX12_fit_25 : decode cX12_fit 25 = .ok (.laload, 1) := by decide +kernel
theorem dX12_fit_26 : decode cX12_fit 26 = .ok (.lcmp, 1) := by decide +kernel
theorem dX12_fit_27 : decode cX12_fit 27 = .ok (.ifCond .ge 12, 3) := by decide +kernel
theorem dX12_gap_0 : decode cX12_gap 0 = .ok (.iload_n 2, 1) := by decide +kernel
theorem dX12_gap_1 : decode cX12_gap 1 = .ok (.ifCond .lt 13, 3) := by decide +kernel
theorem dX12_gap_14 : decode cX12_gap 14 = .ok (.aload_n 0, 1) := by decide +kernel
theorem dX12_gap_15 : decode cX12_gap 15 = .ok (.iconst 1, 1) := by decide +kernel
theorem dX12_gap_16 : decode cX12_gap 16 = .ok (.invokevirtual 194, 3) := by decide +kernel
theorem dX12_gap_19 : decode cX12_gap 19 = .ok (.ireturn, 1) := by decide +kernel
theorem dX12_gap_4 : decode cX12_gap 4 = .ok (.iload_n 2, 1) := by decide +kernel
theorem dX12_gap_5 : decode cX12_gap 5 = .ok (.iconst 1, 1) := by decide +kernel
theorem dX12_gap_6 : decode cX12_gap 6 = .ok (.if_icmp .gt 8, 3) := by decide +kernel
theorem dX12_gap_9 : decode cX12_gap 9 = .ok (.iload_n 1, 1) := by decide +kernel
theorem dX12_gap_10 : decode cX12_gap 10 = .ok (.iconst 1, 1) := by decide +kernel
theorem dX12_gap_11 : decode cX12_gap 11 = .ok (.if_icmp .ge 9, 3) := by decide +kernel
theorem dX12_gap_20 : decode cX12_gap 20 = .ok (.iload_n 1, 1) := by decide +kernel
theorem dX12_gap_21 : decode cX12_gap 21 = .ok (.aload_n 0, 1) := by decide +kernel
theorem dX12_gap_22 : decode cX12_gap 22 = .ok (.getfield 66, 3) := by decide +kernel
theorem dX12_gap_25 : decode cX12_gap 25 = .ok (.if_icmp .le 10, 3) := by decide +kernel
theorem dX12_gap_28 : decode cX12_gap 28 = .ok (.aload_n 0, 1) := by decide +kernel
theorem dX12_gap_29 : decode cX12_gap 29 = .ok (.bipush 6, 2) := by decide +kernel
theorem dX12_gap_31 : decode cX12_gap 31 = .ok (.invokevirtual 194, 3) := by decide +kernel
theorem dX12_gap_34 : decode cX12_gap 34 = .ok (.ireturn, 1) := by decide +kernel
theorem dX12_say_0 : decode cX12_say 0 = .ok (.aload_n 0, 1) := by decide +kernel
theorem dX12_say_1 : decode cX12_say 1 = .ok (.iload_n 1, 1) := by decide +kernel
theorem dX12_say_2 : decode cX12_say 2 = .ok (.invokevirtual 282, 3) := by decide +kernel
theorem dX12_say_5 : decode cX12_say 5 = .ok (.ifCond .eq 12, 3) := by decide +kernel
theorem dX12_say_17 : decode cX12_say 17 = .ok (.aload_n 0, 1) := by decide +kernel
theorem dX12_say_18 : decode cX12_say 18 = .ok (.iconst 1, 1) := by decide +kernel
theorem dX12_say_19 : decode cX12_say 19 = .ok (.invokevirtual 194, 3) := by decide +kernel
theorem dX12_say_22 : decode cX12_say 22 = .ok (.ireturn, 1) := by decide +kernel
theorem dX12_say_8 : decode cX12_say 8 = .ok (.aload_n 0, 1) := by decide +kernel
theorem dX12_say_9 : decode cX12_say 9 = .ok (.iload_n 2, 1) := by decide +kernel
theorem dX12_say_10 : decode cX12_say 10 = .ok (.i2l, 1) := by decide +kernel
theorem dX12_say_11 : decode cX12_say 11 = .ok (.invokevirtual 212, 3) := by decide +kernel
theorem dX12_say_14 : decode cX12_say 14 = .ok (.ifCond .ne 9, 3) := by decide +kernel
theorem dX12_said_0 : decode cX12_said 0 = .ok (.iload_n 1, 1) := by decide +kernel
theorem dX12_said_1 : decode cX12_said 1 = .ok (.ifCond .ge 12, 3) := by decide +kernel
theorem dX12_said_13 : decode cX12_said 13 = .ok (.iload_n 1, 1) := by decide +kernel
theorem dX12_said_14 : decode cX12_said 14 = .ok (.aload_n 0, 1) := by decide +kernel
theorem dX12_said_15 : decode cX12_said 15 = .ok (.getfield 390, 3) := by decide +kernel
theorem mw_1047 : Cond.fieldLink RX12 390 "AskBackModel" "toldMany" "I" ∈ wsL_law := inr_44 _ (List.mem_of_getElem? (i := 15) rfl)
theorem dX12_said_18 : decode cX12_said 18 = .ok (.if_icmp .lt 13, 3) := by decide +kernel
theorem dX12_said_21 : decode cX12_said 21 = .ok (.aload_n 0, 1) := by decide +kernel
theorem dX12_said_22 : decode cX12_said 22 = .ok (.bipush 6, 2) := by decide +kernel
theorem dX12_said_24 : decode cX12_said 24 = .ok (.invokevirtual 194, 3) := by decide +kernel
theorem dX12_said_27 : decode cX12_said 27 = .ok (.i2l, 1) := by decide +kernel
theorem dX12_said_28 : decode cX12_said 28 = .ok (.goto 13, 3) := by decide +kernel
theorem dX12_said_41 : decode cX12_said 41 = .ok (.lreturn, 1) := by decide +kernel
theorem dX12_said_4 : decode cX12_said 4 = .ok (.aload_n 0, 1) := by decide +kernel
theorem dX12_said_5 : decode cX12_said 5 = .ok (.iconst 1, 1) := by decide +kernel
theorem dX12_said_6 : decode cX12_said 6 = .ok (.invokevirtual 194, 3) := by decide +kernel
theorem dX12_said_9 : decode cX12_said 9 = .ok (.i2l, 1) := by decide +kernel
theorem dX12_said_10 : decode cX12_said 10 = .ok (.goto 31, 3) := by decide +kernel
theorem dX12_how_0 : decode cX12_how 0 = .ok (.iload_n 1, 1) := by decide +kernel
theorem dX12_how_1 : decode cX12_how 1 = .ok (.ifCond .lt 8, 3) := by decide +kernel
theorem dX12_how_9 : decode cX12_how 9 = .ok (.aload_n 0, 1) := by decide +kernel
theorem dX12_how_10 : decode cX12_how 10 = .ok (.iconst 1, 1) := by decide +kernel
theorem dX12_how_11 : decode cX12_how 11 = .ok (.invokevirtual 194, 3) := by decide +kernel
theorem dX12_how_14 : decode cX12_how 14 = .ok (.ireturn, 1) := by decide +kernel
theorem dX12_how_4 : decode cX12_how 4 = .ok (.iload_n 1, 1) := by decide +kernel
theorem dX12_how_5 : decode cX12_how 5 = .ok (.iconst 4, 1) := by decide +kernel
theorem dX12_how_6 : decode cX12_how 6 = .ok (.if_icmp .le 9, 3) := by decide +kernel
theorem dX12_how_15 : decode cX12_how 15 = .ok (.aload_n 0, 1) := by decide +kernel
theorem dX12_how_16 : decode cX12_how 16 = .ok (.getfield 81, 3) := by decide +kernel
theorem dX12_how_19 : decode cX12_how 19 = .ok (.iconst (-1), 1) := by decide +kernel
theorem dX12_how_20 : decode cX12_how 20 = .ok (.if_icmp .ne 10, 3) := by decide +kernel
theorem dX12_how_23 : decode cX12_how 23 = .ok (.aload_n 0, 1) := by decide +kernel
theorem dX12_how_24 : decode cX12_how 24 = .ok (.bipush 6, 2) := by decide +kernel
theorem dX12_how_26 : decode cX12_how 26 = .ok (.invokevirtual 194, 3) := by decide +kernel
theorem dX12_how_29 : decode cX12_how 29 = .ok (.ireturn, 1) := by decide +kernel
theorem dX12_remembered_0 : decode cX12_remembered 0 = .ok (.aload_n 0, 1) := by decide +kernel
theorem dX12_remembered_1 : decode cX12_remembered 1 = .ok (.iload_n 1, 1) := by decide +kernel
theorem dX12_remembered_2 : decode cX12_remembered 2 = .ok (.invokevirtual 282, 3) := by decide +kernel
theorem dX12_remembered_5 : decode cX12_remembered 5 = .ok (.ifCond .eq 12, 3) := by decide +kernel
theorem dX12_remembered_17 : decode cX12_remembered 17 = .ok (.aload_n 0, 1) := by decide +kernel
theorem dX12_remembered_18 : decode cX12_remembered 18 = .ok (.iconst 1, 1) := by decide +kernel
theorem dX12_remembered_19 : decode cX12_remembered 19 = .ok (.invokevirtual 194, 3) := by decide +kernel
theorem dX12_remembered_22 : decode cX12_remembered 22 = .ok (.i2l, 1) := by decide +kernel
theorem dX12_remembered_23 : decode cX12_remembered 23 = .ok (.lreturn, 1) := by decide +kernel
theorem dX12_remembered_8 : decode cX12_remembered 8 = .ok (.iload_n 2, 1) := by decide +kernel
theorem dX12_remembered_9 : decode cX12_remembered 9 = .ok (.ifCond .lt 8, 3) := by decide +kernel
theorem dX12_remembered_12 : decode cX12_remembered 12 = .ok (.iload_n 3, 1) := by decide +kernel
theorem dX12_remembered_13 : decode cX12_remembered 13 = .ok (.iconst (-1), 1) := by decide +kernel
theorem dX12_remembered_14 : decode cX12_remembered 14 = .ok (.if_icmp .ge 10, 3) := by decide +kernel
theorem dX12_remembered_24 : decode cX12_remembered 24 = .ok (.sipush 1650, 3) := by decide +kernel
theorem dX12_remembered_27 : decode cX12_remembered 27 = .ok (.iload_n 1, 1) := by decide +kernel
theorem dX12_remembered_28 : decode cX12_remembered 28 = .ok (.imul, 1) := by decide +kernel
theorem dX12_remembered_29 : decode cX12_remembered 29 = .ok (.istore 4, 2) := by decide +kernel
theorem dX12_remembered_31 : decode cX12_remembered 31 = .ok (.iload 4, 2) := by decide +kernel
theorem dX12_remembered_33 : decode cX12_remembered 33 = .ok (.sipush 1568, 3) := by decide +kernel
theorem dX12_remembered_36 : decode cX12_remembered 36 = .ok (.iadd, 1) := by decide +kernel
theorem dX12_remembered_37 : decode cX12_remembered 37 = .ok (.bipush 13, 2) := by decide +kernel
theorem dX12_remembered_39 : decode cX12_remembered 39 = .ok (.iload_n 2, 1) := by decide +kernel
theorem dX12_remembered_40 : decode cX12_remembered 40 = .ok (.imul, 1) := by decide +kernel
theorem dX12_remembered_41 : decode cX12_remembered 41 = .ok (.iadd, 1) := by decide +kernel
theorem dX12_remembered_42 : decode cX12_remembered 42 = .ok (.istore 5, 2) := by decide +kernel
theorem dX12_remembered_44 : decode cX12_remembered 44 = .ok (.iload_n 2, 1) := by decide +kernel
theorem dX12_remembered_45 : decode cX12_remembered 45 = .ok (.i2l, 1) := by decide +kernel
theorem dX12_remembered_46 : decode cX12_remembered 46 = .ok (.aload_n 0, 1) := by decide +kernel
theorem dX12_remembered_47 : decode cX12_remembered 47 = .ok (.getfield 7, 3) := by decide +kernel
theorem dX12_remembered_50 : decode cX12_remembered 50 = .ok (.iload 4, 2) := by decide +kernel
theorem dX12_remembered_52 : decode cX12_remembered 52 = .ok (.sipush 1567, 3) := by decide +kernel
theorem dX12_remembered_55 : decode cX12_remembered 55 = .ok (.iadd, 1) := by decide +kernel
theorem dX12_remembered_56 : decode cX12_remembered 56 = .ok (.laload, 1) := by decide +kernel
theorem dX12_remembered_57 : decode cX12_remembered 57 = .ok (.lcmp, 1) := by decide +kernel
theorem dX12_remembered_58 : decode cX12_remembered 58 = .ok (.ifCond .ge 16, 3) := by decide +kernel
theorem dX12_remembered_74 : decode cX12_remembered 74 = .ok (.aload_n 0, 1) := by decide +kernel
theorem dX12_remembered_75 : decode cX12_remembered 75 = .ok (.bipush 6, 2) := by decide +kernel
theorem dX12_remembered_77 : decode cX12_remembered 77 = .ok (.invokevirtual 194, 3) := by decide +kernel
theorem dX12_remembered_80 : decode cX12_remembered 80 = .ok (.i2l, 1) := by decide +kernel
theorem dX12_remembered_81 : decode cX12_remembered 81 = .ok (.lreturn, 1) := by decide +kernel
theorem dX12_spoken_0 : decode cX12_spoken 0 = .ok (.iload_n 1, 1) := by decide +kernel
theorem dX12_spoken_1 : decode cX12_spoken 1 = .ok (.ifCond .lt 14, 3) := by decide +kernel
theorem dX12_spoken_15 : decode cX12_spoken 15 = .ok (.aload_n 0, 1) := by decide +kernel
theorem dX12_spoken_16 : decode cX12_spoken 16 = .ok (.iconst 1, 1) := by decide +kernel
theorem dX12_spoken_17 : decode cX12_spoken 17 = .ok (.invokevirtual 194, 3) := by decide +kernel
theorem dX12_spoken_20 : decode cX12_spoken 20 = .ok (.i2l, 1) := by decide +kernel
theorem dX12_spoken_21 : decode cX12_spoken 21 = .ok (.lreturn, 1) := by decide +kernel
theorem dX12_spoken_4 : decode cX12_spoken 4 = .ok (.iload_n 2, 1) := by decide +kernel
theorem dX12_spoken_5 : decode cX12_spoken 5 = .ok (.iconst (-1), 1) := by decide +kernel
theorem dX12_spoken_6 : decode cX12_spoken 6 = .ok (.if_icmp .lt 9, 3) := by decide +kernel
theorem dX12_spoken_9 : decode cX12_spoken 9 = .ok (.iload_n 2, 1) := by decide +kernel
theorem dX12_spoken_10 : decode cX12_spoken 10 = .ok (.bipush 11, 2) := by decide +kernel
theorem dX12_spoken_12 : decode cX12_spoken 12 = .ok (.if_icmp .le 10, 3) := by decide +kernel
theorem dX12_spoken_22 : decode cX12_spoken 22 = .ok (.iload_n 1, 1) := by decide +kernel
theorem dX12_spoken_23 : decode cX12_spoken 23 = .ok (.aload_n 0, 1) := by decide +kernel
theorem dX12_spoken_24 : decode cX12_spoken 24 = .ok (.getfield 416, 3) := by decide +kernel
theorem mw_773 : Cond.fieldLink RX12 416 "AskBackModel" "talkMany" "I" ∈ wsL_law := inr_33 _ (List.mem_of_getElem? (i := 5) rfl)
theorem dX12_spoken_27 : decode cX12_spoken 27 = .ok (.if_icmp .ge 21, 3) := by decide +kernel
theorem dX12_spoken_48 : decode cX12_spoken 48 = .ok (.aload_n 0, 1) := by decide +kernel
theorem dX12_spoken_49 : decode cX12_spoken 49 = .ok (.bipush 6, 2) := by decide +kernel
theorem dX12_spoken_51 : decode cX12_spoken 51 = .ok (.invokevirtual 194, 3) := by decide +kernel
theorem dX12_spoken_54 : decode cX12_spoken 54 = .ok (.i2l, 1) := by decide +kernel
theorem dX12_spoken_55 : decode cX12_spoken 55 = .ok (.lreturn, 1) := by decide +kernel
theorem dX12_led_0 : decode cX12_led 0 = .ok (.iload_n 1, 1) := by decide +kernel
theorem dX12_led_1 : decode cX12_led 1 = .ok (.ifCond .ge 11, 3) := by decide +kernel
theorem dX12_led_12 : decode cX12_led 12 = .ok (.iload_n 1, 1) := by decide +kernel
theorem dX12_led_13 : decode cX12_led 13 = .ok (.aload_n 0, 1) := by decide +kernel
theorem dX12_led_14 : decode cX12_led 14 = .ok (.getfield 422, 3) := by decide +kernel
theorem mw_1231 : Cond.fieldLink RX12 422 "AskBackModel" "ledMany" "I" ∈ wsL_law := inr_52 _ (List.mem_of_getElem? (i := 7) rfl)
theorem dX12_led_17 : decode cX12_led 17 = .ok (.if_icmp .lt 12, 3) := by decide +kernel
theorem dX12_led_20 : decode cX12_led 20 = .ok (.aload_n 0, 1) := by decide +kernel
theorem dX12_led_21 : decode cX12_led 21 = .ok (.bipush 6, 2) := by decide +kernel
theorem dX12_led_23 : decode cX12_led 23 = .ok (.invokevirtual 194, 3) := by decide +kernel
theorem dX12_led_26 : decode cX12_led 26 = .ok (.goto 13, 3) := by decide +kernel
theorem dX12_led_39 : decode cX12_led 39 = .ok (.ireturn, 1) := by decide +kernel
theorem dX12_led_4 : decode cX12_led 4 = .ok (.aload_n 0, 1) := by decide +kernel
theorem dX12_led_5 : decode cX12_led 5 = .ok (.iconst 1, 1) := by decide +kernel
theorem dX12_led_6 : decode cX12_led 6 = .ok (.invokevirtual 194, 3) := by decide +kernel
theorem dX12_led_9 : decode cX12_led 9 = .ok (.goto 30, 3) := by decide +kernel
theorem dX12_face_0 : decode cX12_face 0 = .ok (.aload_n 0, 1) := by decide +kernel
theorem dX12_face_1 : decode cX12_face 1 = .ok (.iload_n 1, 1) := by decide +kernel
theorem dX12_face_2 : decode cX12_face 2 = .ok (.invokevirtual 282, 3) := by decide +kernel
theorem dX12_face_5 : decode cX12_face 5 = .ok (.ifCond .eq 34, 3) := by decide +kernel
theorem dX12_face_39 : decode cX12_face 39 = .ok (.aload_n 0, 1) := by decide +kernel
theorem dX12_face_40 : decode cX12_face 40 = .ok (.iconst 1, 1) := by decide +kernel
theorem dX12_face_41 : decode cX12_face 41 = .ok (.invokevirtual 194, 3) := by decide +kernel
theorem dX12_face_44 : decode cX12_face 44 = .ok (.ireturn, 1) := by decide +kernel
theorem dX12_face_8 : decode cX12_face 8 = .ok (.aload_n 0, 1) := by decide +kernel
theorem dX12_face_9 : decode cX12_face 9 = .ok (.iload_n 2, 1) := by decide +kernel
theorem dX12_face_10 : decode cX12_face 10 = .ok (.invokevirtual 282, 3) := by decide +kernel
theorem dX12_face_13 : decode cX12_face 13 = .ok (.ifCond .eq 26, 3) := by decide +kernel
theorem dX12_face_16 : decode cX12_face 16 = .ok (.aload_n 0, 1) := by decide +kernel
theorem dX12_face_17 : decode cX12_face 17 = .ok (.iload_n 3, 1) := by decide +kernel
theorem dX12_face_18 : decode cX12_face 18 = .ok (.i2l, 1) := by decide +kernel
theorem dX12_face_19 : decode cX12_face 19 = .ok (.invokevirtual 212, 3) := by decide +kernel
theorem dX12_face_22 : decode cX12_face 22 = .ok (.ifCond .eq 17, 3) := by decide +kernel
theorem dX12_wrongLines_0 : decode cX12_wrongLines 0 = .ok (.iload_n 1, 1) := by decide +kernel
theorem dX12_wrongLines_1 : decode cX12_wrongLines 1 = .ok (.ifCond .eq 21, 3) := by decide +kernel
theorem dX12_wrongLines_22 : decode cX12_wrongLines 22 = .ok (.iconst 1, 1) := by decide +kernel
theorem dX12_wrongLines_23 : decode cX12_wrongLines 23 = .ok (.ireturn, 1) := by decide +kernel
theorem dX12_wrongLines_4 : decode cX12_wrongLines 4 = .ok (.iload_n 2, 1) := by decide +kernel
theorem dX12_wrongLines_5 : decode cX12_wrongLines 5 = .ok (.invokestatic 127, 3) := by decide +kernel
theorem dX12_wrongLines_8 : decode cX12_wrongLines 8 = .ok (.ifCond .eq 14, 3) := by decide +kernel
theorem dX12_wrongLines_11 : decode cX12_wrongLines 11 = .ok (.iload_n 3, 1) := by decide +kernel
theorem dX12_wrongLines_12 : decode cX12_wrongLines 12 = .ok (.iconst 1, 1) := by decide +kernel
theorem dX12_wrongLines_13 : decode cX12_wrongLines 13 = .ok (.if_icmp .lt 9, 3) := by decide +kernel
theorem dX12_wrongLines_16 : decode cX12_wrongLines 16 = .ok (.iload_n 3, 1) := by decide +kernel
theorem dX12_wrongLines_17 : decode cX12_wrongLines 17 = .ok (.iload 4, 2) := by decide +kernel
theorem dX12_wrongLines_19 : decode cX12_wrongLines 19 = .ok (.if_icmp .le 5, 3) := by decide +kernel
theorem dX12_wrongLines_24 : decode cX12_wrongLines 24 = .ok (.aload_n 0, 1) := by decide +kernel
theorem dX12_wrongLines_25 : decode cX12_wrongLines 25 = .ok (.getfield 21, 3) := by decide +kernel
theorem dX12_wrongLines_28 : decode cX12_wrongLines 28 = .ok (.iload_n 2, 1) := by decide +kernel
theorem dX12_wrongLines_29 : decode cX12_wrongLines 29 = .ok (.iaload, 1) := by decide +kernel
theorem dX12_wrongLines_30 : decode cX12_wrongLines 30 = .ok (.iconst (-1), 1) := by decide +kernel
theorem dX12_wrongLines_31 : decode cX12_wrongLines 31 = .ok (.if_icmp .ne 5, 3) := by decide +kernel
theorem dX12_wrongLines_34 : decode cX12_wrongLines 34 = .ok (.iconst 2, 1) := by decide +kernel
theorem dX12_wrongLines_35 : decode cX12_wrongLines 35 = .ok (.ireturn, 1) := by decide +kernel
theorem dX12_talk_0 : decode cX12_talk 0 = .ok (.aload_n 0, 1) := by decide +kernel
theorem dX12_talk_1 : decode cX12_talk 1 = .ok (.aload_n 0, 1) := by decide +kernel
theorem dX12_talk_2 : decode cX12_talk 2 = .ok (.iload_n 1, 1) := by decide +kernel
theorem dX12_talk_3 : decode cX12_talk 3 = .ok (.invokevirtual 282, 3) := by decide +kernel
theorem dX12_talk_6 : decode cX12_talk 6 = .ok (.iload_n 2, 1) := by decide +kernel
theorem dX12_talk_7 : decode cX12_talk 7 = .ok (.iload_n 3, 1) := by decide +kernel
theorem dX12_talk_8 : decode cX12_talk 8 = .ok (.bipush 15, 2) := by decide +kernel
theorem dX12_talk_10 : decode cX12_talk 10 = .ok (.invokevirtual 405, 3) := by decide +kernel
theorem mw_1183 : Cond.methodLink RX12 405 yX12_wrongLines ∈ wsL_law := inr_50 _ (List.mem_of_getElem? (i := 7) rfl)
theorem mw_1186 : Cond.code yX12_wrongLines cX12_wrongLines 7 (some .int) ∈ wsL_law := inr_50 _ (List.mem_of_getElem? (i := 10) rfl)
theorem yk_X12_wrongLines : xY yX12_wrongLines RX12 cX12_wrongLines 7 (some .int) 4 := ⟨⟨rfl, by decide +kernel, by decide +kernel, by decide +kernel⟩, mw_5, mw_1186⟩
theorem mw_1184 : Cond.instanceMethod yX12_wrongLines ∈ wsL_law := inr_50 _ (List.mem_of_getElem? (i := 8) rfl)
theorem mw_1185 : Cond.selects RX12 yX12_wrongLines yX12_wrongLines ∈ wsL_law := inr_50 _ (List.mem_of_getElem? (i := 9) rfl)
theorem dX12_talk_13 : decode cX12_talk 13 = .ok (.istore 4, 2) := by decide +kernel
theorem dX12_talk_15 : decode cX12_talk 15 = .ok (.iload 4, 2) := by decide +kernel
theorem dX12_talk_17 : decode cX12_talk 17 = .ok (.ifCond .le 10, 3) := by decide +kernel
theorem dX12_talk_20 : decode cX12_talk 20 = .ok (.aload_n 0, 1) := by decide +kernel
theorem dX12_talk_21 : decode cX12_talk 21 = .ok (.iload 4, 2) := by decide +kernel
theorem dX12_talk_23 : decode cX12_talk 23 = .ok (.invokevirtual 194, 3) := by decide +kernel
theorem dX12_talk_26 : decode cX12_talk 26 = .ok (.ireturn, 1) := by decide +kernel
theorem dX12_lead_0 : decode cX12_lead 0 = .ok (.aload_n 0, 1) := by decide +kernel
theorem dX12_lead_1 : decode cX12_lead 1 = .ok (.aload_n 0, 1) := by decide +kernel
theorem dX12_lead_2 : decode cX12_lead 2 = .ok (.iload_n 1, 1) := by decide +kernel
theorem dX12_lead_3 : decode cX12_lead 3 = .ok (.invokevirtual 282, 3) := by decide +kernel
theorem dX12_lead_6 : decode cX12_lead 6 = .ok (.ifCond .eq 17, 3) := by decide +kernel
theorem dX12_lead_23 : decode cX12_lead 23 = .ok (.iconst 0, 1) := by decide +kernel
theorem dX12_lead_24 : decode cX12_lead 24 = .ok (.iload_n 2, 1) := by decide +kernel
theorem dX12_lead_25 : decode cX12_lead 25 = .ok (.iload_n 3, 1) := by decide +kernel
theorem dX12_lead_26 : decode cX12_lead 26 = .ok (.bipush 6, 2) := by decide +kernel
theorem dX12_lead_28 : decode cX12_lead 28 = .ok (.invokevirtual 405, 3) := by decide +kernel
theorem dX12_lead_31 : decode cX12_lead 31 = .ok (.istore 5, 2) := by decide +kernel
theorem dX12_lead_33 : decode cX12_lead 33 = .ok (.iload 5, 2) := by decide +kernel
theorem dX12_lead_35 : decode cX12_lead 35 = .ok (.ifCond .le 10, 3) := by decide +kernel
theorem dX12_lead_38 : decode cX12_lead 38 = .ok (.aload_n 0, 1) := by decide +kernel
theorem dX12_lead_39 : decode cX12_lead 39 = .ok (.iload 5, 2) := by decide +kernel
theorem dX12_lead_41 : decode cX12_lead 41 = .ok (.invokevirtual 194, 3) := by decide +kernel
theorem dX12_lead_44 : decode cX12_lead 44 = .ok (.ireturn, 1) := by decide +kernel
theorem dX12_lead_9 : decode cX12_lead 9 = .ok (.aload_n 0, 1) := by decide +kernel
theorem dX12_lead_10 : decode cX12_lead 10 = .ok (.iload 4, 2) := by decide +kernel
theorem dX12_lead_12 : decode cX12_lead 12 = .ok (.i2l, 1) := by decide +kernel
theorem dX12_lead_13 : decode cX12_lead 13 = .ok (.invokevirtual 212, 3) := by decide +kernel
theorem dX12_lead_16 : decode cX12_lead 16 = .ok (.ifCond .eq 7, 3) := by decide +kernel
theorem dX12_ring_0 : decode cX12_ring 0 = .ok (.iload_n 1, 1) := by decide +kernel
theorem dX12_ring_1 : decode cX12_ring 1 = .ok (.ifCond .lt 8, 3) := by decide +kernel
theorem dX12_ring_9 : decode cX12_ring 9 = .ok (.aload_n 0, 1) := by decide +kernel
theorem dX12_ring_10 : decode cX12_ring 10 = .ok (.iconst 1, 1) := by decide +kernel
theorem dX12_ring_11 : decode cX12_ring 11 = .ok (.invokevirtual 194, 3) := by decide +kernel
theorem dX12_ring_14 : decode cX12_ring 14 = .ok (.ireturn, 1) := by decide +kernel
theorem dX12_ring_4 : decode cX12_ring 4 = .ok (.iload_n 1, 1) := by decide +kernel
theorem dX12_ring_5 : decode cX12_ring 5 = .ok (.iconst 1, 1) := by decide +kernel
theorem dX12_ring_6 : decode cX12_ring 6 = .ok (.if_icmp .le 9, 3) := by decide +kernel
theorem dX12_ring_15 : decode cX12_ring 15 = .ok (.aload_n 0, 1) := by decide +kernel
theorem dX12_ring_16 : decode cX12_ring 16 = .ok (.getfield 103, 3) := by decide +kernel
theorem dX12_ring_19 : decode cX12_ring 19 = .ok (.iconst (-1), 1) := by decide +kernel
theorem dX12_ring_20 : decode cX12_ring 20 = .ok (.if_icmp .ne 12, 3) := by decide +kernel
theorem dX12_ring_23 : decode cX12_ring 23 = .ok (.aload_n 0, 1) := by decide +kernel
theorem dX12_ring_24 : decode cX12_ring 24 = .ok (.bipush 6, 2) := by decide +kernel
theorem dX12_ring_26 : decode cX12_ring 26 = .ok (.invokevirtual 194, 3) := by decide +kernel
theorem dX12_ring_29 : decode cX12_ring 29 = .ok (.goto 22, 3) := by decide +kernel
theorem dX12_ring_51 : decode cX12_ring 51 = .ok (.ireturn, 1) := by decide +kernel
theorem dX12_broke_0 : decode cX12_broke 0 = .ok (.aload_n 0, 1) := by decide +kernel
theorem dX12_broke_1 : decode cX12_broke 1 = .ok (.aload_n 0, 1) := by decide +kernel
theorem dX12_broke_2 : decode cX12_broke 2 = .ok (.iload_n 1, 1) := by decide +kernel
theorem dX12_broke_3 : decode cX12_broke 3 = .ok (.invokevirtual 282, 3) := by decide +kernel
theorem dX12_broke_6 : decode cX12_broke 6 = .ok (.iload_n 2, 1) := by decide +kernel
theorem dX12_broke_7 : decode cX12_broke 7 = .ok (.iload_n 3, 1) := by decide +kernel
theorem dX12_broke_8 : decode cX12_broke 8 = .ok (.bipush 16, 2) := by decide +kernel
theorem dX12_broke_10 : decode cX12_broke 10 = .ok (.invokevirtual 405, 3) := by decide +kernel
theorem dX12_broke_13 : decode cX12_broke 13 = .ok (.istore 4, 2) := by decide +kernel
theorem dX12_broke_15 : decode cX12_broke 15 = .ok (.iload 4, 2) := by decide +kernel
theorem dX12_broke_17 : decode cX12_broke 17 = .ok (.ifCond .le 12, 3) := by decide +kernel
theorem dX12_broke_20 : decode cX12_broke 20 = .ok (.aload_n 0, 1) := by decide +kernel
theorem dX12_broke_21 : decode cX12_broke 21 = .ok (.iload 4, 2) := by decide +kernel
theorem dX12_broke_23 : decode cX12_broke 23 = .ok (.invokevirtual 194, 3) := by decide +kernel
theorem dX12_broke_26 : decode cX12_broke 26 = .ok (.goto 14, 3) := by decide +kernel
theorem dX12_broke_40 : decode cX12_broke 40 = .ok (.ireturn, 1) := by decide +kernel
theorem dX12_mend_0 : decode cX12_mend 0 = .ok (.aload_n 0, 1) := by decide +kernel
theorem dX12_mend_1 : decode cX12_mend 1 = .ok (.aload_n 0, 1) := by decide +kernel
theorem dX12_mend_2 : decode cX12_mend 2 = .ok (.iload_n 1, 1) := by decide +kernel
theorem dX12_mend_3 : decode cX12_mend 3 = .ok (.invokevirtual 282, 3) := by decide +kernel
theorem dX12_mend_6 : decode cX12_mend 6 = .ok (.ifCond .eq 18, 3) := by decide +kernel
theorem dX12_mend_24 : decode cX12_mend 24 = .ok (.iconst 0, 1) := by decide +kernel
theorem dX12_mend_25 : decode cX12_mend 25 = .ok (.iload_n 2, 1) := by decide +kernel
theorem dX12_mend_26 : decode cX12_mend 26 = .ok (.iload_n 3, 1) := by decide +kernel
theorem dX12_mend_27 : decode cX12_mend 27 = .ok (.bipush 16, 2) := by decide +kernel
theorem dX12_mend_29 : decode cX12_mend 29 = .ok (.invokevirtual 405, 3) := by decide +kernel
theorem dX12_mend_32 : decode cX12_mend 32 = .ok (.istore 5, 2) := by decide +kernel
theorem dX12_mend_34 : decode cX12_mend 34 = .ok (.iload 5, 2) := by decide +kernel
theorem dX12_mend_36 : decode cX12_mend 36 = .ok (.ifCond .le 10, 3) := by decide +kernel
theorem dX12_mend_39 : decode cX12_mend 39 = .ok (.aload_n 0, 1) := by decide +kernel
theorem dX12_mend_40 : decode cX12_mend 40 = .ok (.iload 5, 2) := by decide +kernel
theorem dX12_mend_42 : decode cX12_mend 42 = .ok (.invokevirtual 194, 3) := by decide +kernel
theorem dX12_mend_45 : decode cX12_mend 45 = .ok (.ireturn, 1) := by decide +kernel
theorem dX12_mend_9 : decode cX12_mend 9 = .ok (.iload 4, 2) := by decide +kernel
theorem dX12_mend_11 : decode cX12_mend 11 = .ok (.ifCond .lt 13, 3) := by decide +kernel
theorem dX12_mend_14 : decode cX12_mend 14 = .ok (.iload 4, 2) := by decide +kernel
theorem dX12_mend_16 : decode cX12_mend 16 = .ok (.iconst 3, 1) := by decide +kernel
theorem dX12_mend_17 : decode cX12_mend 17 = .ok (.if_icmp .gt 7, 3) := by decide +kernel
theorem dX12_mend_20 : decode cX12_mend 20 = .ok (.iconst 1, 1) := by decide +kernel
theorem dX12_mend_21 : decode cX12_mend 21 = .ok (.goto 4, 3) := by decide +kernel
theorem dX12_doubt_0 : decode cX12_doubt 0 = .ok (.iload_n 1, 1) := by decide +kernel
theorem dX12_doubt_1 : decode cX12_doubt 1 = .ok (.iconst 1, 1) := by decide +kernel
theorem dX12_doubt_2 : decode cX12_doubt 2 = .ok (.if_icmp .lt 9, 3) := by decide +kernel
theorem dX12_doubt_11 : decode cX12_doubt 11 = .ok (.aload_n 0, 1) := by decide +kernel
theorem dX12_doubt_12 : decode cX12_doubt 12 = .ok (.iconst 1, 1) := by decide +kernel
theorem dX12_doubt_13 : decode cX12_doubt 13 = .ok (.invokevirtual 194, 3) := by decide +kernel
theorem dX12_doubt_16 : decode cX12_doubt 16 = .ok (.ireturn, 1) := by decide +kernel
theorem dX12_doubt_5 : decode cX12_doubt 5 = .ok (.iload_n 1, 1) := by decide +kernel
theorem dX12_doubt_6 : decode cX12_doubt 6 = .ok (.bipush 9, 2) := by decide +kernel
theorem dX12_doubt_8 : decode cX12_doubt 8 = .ok (.if_icmp .le 9, 3) := by decide +kernel
theorem dX12_doubt_17 : decode cX12_doubt 17 = .ok (.iconst 0, 1) := by decide +kernel
theorem dX12_doubt_18 : decode cX12_doubt 18 = .ok (.istore_n 2, 1) := by decide +kernel
theorem dX12_doubt_19 : decode cX12_doubt 19 = .ok (.iload_n 2, 1) := by decide +kernel
theorem dX12_doubt_20 : decode cX12_doubt 20 = .ok (.aload_n 0, 1) := by decide +kernel
theorem dX12_doubt_21 : decode cX12_doubt 21 = .ok (.getfield 416, 3) := by decide +kernel
theorem dX12_doubt_24 : decode cX12_doubt 24 = .ok (.if_icmp .ge 24, 3) := by decide +kernel
theorem dX12_doubt_48 : decode cX12_doubt 48 = .ok (.aload_n 0, 1) := by decide +kernel
theorem dX12_doubt_49 : decode cX12_doubt 49 = .ok (.iconst (-1), 1) := by decide +kernel
theorem dX12_doubt_50 : decode cX12_doubt 50 = .ok (.invokevirtual 209, 3) := by decide +kernel
theorem dX12_doubt_53 : decode cX12_doubt 53 = .ok (.ireturn, 1) := by decide +kernel
theorem dX12_odds_0 : decode cX12_odds 0 = .ok (.iload_n 1, 1) := by decide +kernel
theorem dX12_odds_1 : decode cX12_odds 1 = .ok (.ifCond .lt 9, 3) := by decide +kernel
theorem dX12_odds_10 : decode cX12_odds 10 = .ok (.aload_n 0, 1) := by decide +kernel
theorem dX12_odds_11 : decode cX12_odds 11 = .ok (.iconst 1, 1) := by decide +kernel
theorem dX12_odds_12 : decode cX12_odds 12 = .ok (.invokevirtual 131, 3) := by decide +kernel
theorem dX12_odds_15 : decode cX12_odds 15 = .ok (.ireturn, 1) := by decide +kernel
theorem dX12_odds_4 : decode cX12_odds 4 = .ok (.iload_n 1, 1) := by decide +kernel
theorem dX12_odds_5 : decode cX12_odds 5 = .ok (.bipush 16, 2) := by decide +kernel
theorem dX12_odds_7 : decode cX12_odds 7 = .ok (.if_icmp .le 9, 3) := by decide +kernel
theorem dX12_odds_16 : decode cX12_odds 16 = .ok (.lconst 1, 1) := by decide +kernel
theorem dX12_odds_17 : decode cX12_odds 17 = .ok (.lstore_n 2, 1) := by decide +kernel
theorem dX12_odds_18 : decode cX12_odds 18 = .ok (.lconst 1, 1) := by decide +kernel
theorem dX12_odds_19 : decode cX12_odds 19 = .ok (.lstore 4, 2) := by decide +kernel
theorem dX12_odds_21 : decode cX12_odds 21 = .ok (.iconst 0, 1) := by decide +kernel
theorem dX12_odds_22 : decode cX12_odds 22 = .ok (.istore 6, 2) := by decide +kernel
theorem dX12_odds_24 : decode cX12_odds 24 = .ok (.iload 6, 2) := by decide +kernel
theorem dX12_odds_26 : decode cX12_odds 26 = .ok (.aload_n 0, 1) := by decide +kernel
theorem dX12_odds_27 : decode cX12_odds 27 = .ok (.getfield 416, 3) := by decide +kernel
theorem dX12_odds_30 : decode cX12_odds 30 = .ok (.if_icmp .ge 34, 3) := by decide +kernel
theorem dX12_odds_64 : decode cX12_odds 64 = .ok (.lload_n 2, 1) := by decide +kernel
theorem dX12_odds_65 : decode cX12_odds 65 = .ok (.lstore 6, 2) := by decide +kernel
theorem dX12_odds_67 : decode cX12_odds 67 = .ok (.lload 4, 2) := by decide +kernel
theorem dX12_odds_69 : decode cX12_odds 69 = .ok (.lstore 8, 2) := by decide +kernel
theorem dX12_odds_71 : decode cX12_odds 71 = .ok (.lload 8, 2) := by decide +kernel
theorem dX12_odds_73 : decode cX12_odds 73 = .ok (.lconst 0, 1) := by decide +kernel
theorem dX12_odds_74 : decode cX12_odds 74 = .ok (.lcmp, 1) := by decide +kernel
theorem dX12_odds_75 : decode cX12_odds 75 = .ok (.ifCond .eq 21, 3) := by decide +kernel
theorem dX12_odds_78 : decode cX12_odds 78 = .ok (.lload 6, 2) := by decide +kernel
theorem dX12_odds_80 : decode cX12_odds 80 = .ok (.lload 8, 2) := by decide +kernel
theorem dX12_odds_82 : decode cX12_odds 82 = .ok (.lrem, 1) := by decide +kernel
theorem dX12_odds_83 : decode cX12_odds 83 = .ok (.lstore 10, 2) := by decide +kernel
theorem dX12_odds_85 : decode cX12_odds 85 = .ok (.lload 8, 2) := by decide +kernel
theorem dX12_odds_87 : decode cX12_odds 87 = .ok (.lstore 6, 2) := by decide +kernel
theorem dX12_odds_89 : decode cX12_odds 89 = .ok (.lload 10, 2) := by decide +kernel
theorem dX12_odds_91 : decode cX12_odds 91 = .ok (.lstore 8, 2) := by decide +kernel
theorem dX12_odds_93 : decode cX12_odds 93 = .ok (.goto (-22), 3) := by decide +kernel
theorem dX12_odds_96 : decode cX12_odds 96 = .ok (.aload_n 0, 1) := by decide +kernel
theorem dX12_odds_97 : decode cX12_odds 97 = .ok (.lload_n 2, 1) := by decide +kernel
theorem dX12_odds_98 : decode cX12_odds 98 = .ok (.lload 6, 2) := by decide +kernel
theorem dX12_odds_100 : decode cX12_odds 100 = .ok (.ldiv, 1) := by decide +kernel
theorem dX12_odds_101 : decode cX12_odds 101 = .ok (.putfield 124, 3) := by decide +kernel
theorem dX12_odds_104 : decode cX12_odds 104 = .ok (.aload_n 0, 1) := by decide +kernel
theorem dX12_odds_105 : decode cX12_odds 105 = .ok (.lload 4, 2) := by decide +kernel
theorem dX12_odds_107 : decode cX12_odds 107 = .ok (.lload 6, 2) := by decide +kernel
theorem dX12_odds_109 : decode cX12_odds 109 = .ok (.ldiv, 1) := by decide +kernel
theorem dX12_odds_110 : decode cX12_odds 110 = .ok (.putfield 13, 3) := by decide +kernel
theorem dX12_odds_113 : decode cX12_odds 113 = .ok (.aload_n 0, 1) := by decide +kernel
theorem dX12_odds_114 : decode cX12_odds 114 = .ok (.iconst 0, 1) := by decide +kernel
theorem dX12_odds_115 : decode cX12_odds 115 = .ok (.invokevirtual 131, 3) := by decide +kernel
theorem dX12_odds_118 : decode cX12_odds 118 = .ok (.ireturn, 1) := by decide +kernel
theorem dX12_claim_0 : decode cX12_claim 0 = .ok (.iload_n 1, 1) := by decide +kernel
theorem dX12_claim_1 : decode cX12_claim 1 = .ok (.ifCond .lt 8, 3) := by decide +kernel
theorem dX12_claim_9 : decode cX12_claim 9 = .ok (.aload_n 0, 1) := by decide +kernel
theorem dX12_claim_10 : decode cX12_claim 10 = .ok (.iconst 1, 1) := by decide +kernel
theorem dX12_claim_11 : decode cX12_claim 11 = .ok (.invokevirtual 194, 3) := by decide +kernel
theorem dX12_claim_14 : decode cX12_claim 14 = .ok (.ireturn, 1) := by decide +kernel
theorem dX12_claim_4 : decode cX12_claim 4 = .ok (.iload_n 1, 1) := by decide +kernel
theorem dX12_claim_5 : decode cX12_claim 5 = .ok (.iconst 3, 1) := by decide +kernel
theorem dX12_claim_6 : decode cX12_claim 6 = .ok (.if_icmp .le 9, 3) := by decide +kernel
theorem dX12_claim_15 : decode cX12_claim 15 = .ok (.iconst 0, 1) := by decide +kernel
theorem dX12_claim_16 : decode cX12_claim 16 = .ok (.istore_n 2, 1) := by decide +kernel
theorem dX12_claim_17 : decode cX12_claim 17 = .ok (.iload_n 2, 1) := by decide +kernel
theorem dX12_claim_18 : decode cX12_claim 18 = .ok (.aload_n 0, 1) := by decide +kernel
theorem dX12_claim_19 : decode cX12_claim 19 = .ok (.getfield 416, 3) := by decide +kernel
theorem dX12_claim_22 : decode cX12_claim 22 = .ok (.if_icmp .ge 24, 3) := by decide +kernel
theorem dX12_claim_46 : decode cX12_claim 46 = .ok (.aload_n 0, 1) := by decide +kernel
theorem dX12_claim_47 : decode cX12_claim 47 = .ok (.iconst (-1), 1) := by decide +kernel
theorem dX12_claim_48 : decode cX12_claim 48 = .ok (.invokevirtual 209, 3) := by decide +kernel
theorem dX12_claim_51 : decode cX12_claim 51 = .ok (.ireturn, 1) := by decide +kernel
theorem dX12_least_0 : decode cX12_least 0 = .ok (.aload_n 0, 1) := by decide +kernel
theorem dX12_least_1 : decode cX12_least 1 = .ok (.iload_n 1, 1) := by decide +kernel
theorem dX12_least_2 : decode cX12_least 2 = .ok (.invokevirtual 282, 3) := by decide +kernel
theorem dX12_least_5 : decode cX12_least 5 = .ok (.ifCond .eq 21, 3) := by decide +kernel
theorem dX12_least_26 : decode cX12_least 26 = .ok (.aload_n 0, 1) := by decide +kernel
theorem dX12_least_27 : decode cX12_least 27 = .ok (.iconst 1, 1) := by decide +kernel
theorem dX12_least_28 : decode cX12_least 28 = .ok (.invokevirtual 194, 3) := by decide +kernel
theorem dX12_least_31 : decode cX12_least 31 = .ok (.ireturn, 1) := by decide +kernel
theorem dX12_least_8 : decode cX12_least 8 = .ok (.iload_n 2, 1) := by decide +kernel
theorem dX12_least_9 : decode cX12_least 9 = .ok (.invokestatic 127, 3) := by decide +kernel
theorem dX12_least_12 : decode cX12_least 12 = .ok (.ifCond .eq 14, 3) := by decide +kernel
theorem dX12_least_15 : decode cX12_least 15 = .ok (.iload_n 3, 1) := by decide +kernel
theorem dX12_least_16 : decode cX12_least 16 = .ok (.iconst 1, 1) := by decide +kernel
theorem dX12_least_17 : decode cX12_least 17 = .ok (.if_icmp .lt 9, 3) := by decide +kernel
theorem dX12_least_20 : decode cX12_least 20 = .ok (.iload_n 3, 1) := by decide +kernel
theorem dX12_least_21 : decode cX12_least 21 = .ok (.bipush 15, 2) := by decide +kernel
theorem dX12_least_23 : decode cX12_least 23 = .ok (.if_icmp .le 9, 3) := by decide +kernel
theorem dX12_least_32 : decode cX12_least 32 = .ok (.aload_n 0, 1) := by decide +kernel
theorem dX12_least_33 : decode cX12_least 33 = .ok (.getfield 7, 3) := by decide +kernel
theorem dX12_least_36 : decode cX12_least 36 = .ok (.sipush 1650, 3) := by decide +kernel
theorem dX12_least_39 : decode cX12_least 39 = .ok (.iload_n 1, 1) := by decide +kernel
theorem dX12_least_40 : decode cX12_least 40 = .ok (.imul, 1) := by decide +kernel
theorem dX12_least_41 : decode cX12_least 41 = .ok (.iconst 1, 1) := by decide +kernel
theorem dX12_least_42 : decode cX12_least 42 = .ok (.iadd, 1) := by decide +kernel
theorem dX12_least_43 : decode cX12_least 43 = .ok (.laload, 1) := by decide +kernel
theorem dX12_least_44 : decode cX12_least 44 = .ok (.l2i, 1) := by decide +kernel
theorem dX12_least_45 : decode cX12_least 45 = .ok (.istore 4, 2) := by decide +kernel
theorem dX12_least_47 : decode cX12_least 47 = .ok (.iload 4, 2) := by decide +kernel
theorem dX12_least_49 : decode cX12_least 49 = .ok (.bipush 12, 2) := by decide +kernel
theorem dX12_least_51 : decode cX12_least 51 = .ok (.if_icmp .le 9, 3) := by decide +kernel
theorem dX12_least_60 : decode cX12_least 60 = .ok (.aload_n 0, 1) := by decide +kernel
theorem dX12_least_61 : decode cX12_least 61 = .ok (.iconst 1, 1) := by decide +kernel
theorem dX12_least_62 : decode cX12_least 62 = .ok (.iload_n 2, 1) := by decide +kernel
theorem dX12_least_63 : decode cX12_least 63 = .ok (.iload_n 3, 1) := by decide +kernel
theorem dX12_least_64 : decode cX12_least 64 = .ok (.bipush 15, 2) := by decide +kernel
theorem dX12_least_66 : decode cX12_least 66 = .ok (.invokevirtual 405, 3) := by decide +kernel
theorem dX12_least_69 : decode cX12_least 69 = .ok (.istore 5, 2) := by decide +kernel
theorem dX12_least_71 : decode cX12_least 71 = .ok (.iload 5, 2) := by decide +kernel
theorem dX12_least_73 : decode cX12_least 73 = .ok (.ifCond .le 10, 3) := by decide +kernel
theorem dX12_least_76 : decode cX12_least 76 = .ok (.aload_n 0, 1) := by decide +kernel
theorem dX12_least_77 : decode cX12_least 77 = .ok (.iload 5, 2) := by decide +kernel
theorem dX12_least_79 : decode cX12_least 79 = .ok (.invokevirtual 194, 3) := by decide +kernel
theorem dX12_least_82 : decode cX12_least 82 = .ok (.ireturn, 1) := by decide +kernel
theorem dX12_leastSet_0 : decode cX12_leastSet 0 = .ok (.aload_n 0, 1) := by decide +kernel
theorem dX12_leastSet_1 : decode cX12_leastSet 1 = .ok (.getfield 109, 3) := by decide +kernel
theorem dX12_leastSet_4 : decode cX12_leastSet 4 = .ok (.iconst (-1), 1) := by decide +kernel
theorem dX12_leastSet_5 : decode cX12_leastSet 5 = .ok (.if_icmp .ne 12, 3) := by decide +kernel
theorem dX12_leastSet_8 : decode cX12_leastSet 8 = .ok (.aload_n 0, 1) := by decide +kernel
theorem dX12_leastSet_9 : decode cX12_leastSet 9 = .ok (.bipush 6, 2) := by decide +kernel
theorem dX12_leastSet_11 : decode cX12_leastSet 11 = .ok (.invokevirtual 194, 3) := by decide +kernel
theorem dX12_leastSet_14 : decode cX12_leastSet 14 = .ok (.goto 11, 3) := by decide +kernel
theorem dX12_leastSet_25 : decode cX12_leastSet 25 = .ok (.ireturn, 1) := by decide +kernel
theorem dX12_orders_0 : decode cX12_orders 0 = .ok (.aload_n 0, 1) := by decide +kernel
theorem dX12_orders_1 : decode cX12_orders 1 = .ok (.iload_n 1, 1) := by decide +kernel
theorem dX12_orders_2 : decode cX12_orders 2 = .ok (.invokevirtual 282, 3) := by decide +kernel
theorem dX12_orders_5 : decode cX12_orders 5 = .ok (.ifCond .ne 9, 3) := by decide +kernel
theorem dX12_orders_8 : decode cX12_orders 8 = .ok (.aload_n 0, 1) := by decide +kernel
theorem dX12_orders_9 : decode cX12_orders 9 = .ok (.iconst 1, 1) := by decide +kernel
theorem dX12_orders_10 : decode cX12_orders 10 = .ok (.invokevirtual 194, 3) := by decide +kernel
theorem dX12_orders_13 : decode cX12_orders 13 = .ok (.ireturn, 1) := by decide +kernel
theorem dX12_orders_14 : decode cX12_orders 14 = .ok (.aload_n 0, 1) := by decide +kernel
theorem dX12_orders_15 : decode cX12_orders 15 = .ok (.getfield 7, 3) := by decide +kernel
theorem dX12_orders_18 : decode cX12_orders 18 = .ok (.sipush 1650, 3) := by decide +kernel
theorem dX12_orders_21 : decode cX12_orders 21 = .ok (.iload_n 1, 1) := by decide +kernel
theorem dX12_orders_22 : decode cX12_orders 22 = .ok (.imul, 1) := by decide +kernel
theorem dX12_orders_23 : decode cX12_orders 23 = .ok (.iconst 0, 1) := by decide +kernel
theorem dX12_orders_24 : decode cX12_orders 24 = .ok (.iadd, 1) := by decide +kernel
theorem dX12_orders_25 : decode cX12_orders 25 = .ok (.laload, 1) := by decide +kernel
theorem dX12_orders_26 : decode cX12_orders 26 = .ok (.l2i, 1) := by decide +kernel
theorem dX12_orders_27 : decode cX12_orders 27 = .ok (.istore_n 2, 1) := by decide +kernel
theorem dX12_orders_28 : decode cX12_orders 28 = .ok (.iload_n 2, 1) := by decide +kernel
theorem dX12_orders_29 : decode cX12_orders 29 = .ok (.bipush 6, 2) := by decide +kernel
theorem dX12_orders_31 : decode cX12_orders 31 = .ok (.if_icmp .le 9, 3) := by decide +kernel
theorem dX12_orders_40 : decode cX12_orders 40 = .ok (.aload_n 0, 1) := by decide +kernel
theorem dX12_orders_41 : decode cX12_orders 41 = .ok (.getfield 416, 3) := by decide +kernel
theorem dX12_orders_44 : decode cX12_orders 44 = .ok (.ifCond .ne 10, 3) := by decide +kernel
theorem dX12_orders_47 : decode cX12_orders 47 = .ok (.aload_n 0, 1) := by decide +kernel
theorem dX12_orders_48 : decode cX12_orders 48 = .ok (.bipush 6, 2) := by decide +kernel
theorem dX12_orders_50 : decode cX12_orders 50 = .ok (.invokevirtual 194, 3) := by decide +kernel
theorem dX12_orders_53 : decode cX12_orders 53 = .ok (.ireturn, 1) := by decide +kernel
theorem dX12_ahead_0 : decode cX12_ahead 0 = .ok (.aload_n 0, 1) := by decide +kernel
theorem dX12_ahead_1 : decode cX12_ahead 1 = .ok (.getfield 112, 3) := by decide +kernel
theorem dX12_ahead_4 : decode cX12_ahead 4 = .ok (.iconst (-1), 1) := by decide +kernel
theorem dX12_ahead_5 : decode cX12_ahead 5 = .ok (.if_icmp .ne 10, 3) := by decide +kernel
theorem dX12_ahead_8 : decode cX12_ahead 8 = .ok (.aload_n 0, 1) := by decide +kernel
theorem dX12_ahead_9 : decode cX12_ahead 9 = .ok (.bipush 6, 2) := by decide +kernel
theorem dX12_ahead_11 : decode cX12_ahead 11 = .ok (.invokevirtual 194, 3) := by decide +kernel
theorem dX12_ahead_14 : decode cX12_ahead 14 = .ok (.ireturn, 1) := by decide +kernel
theorem dX12_many_0 : decode cX12_many 0 = .ok (.iload_n 1, 1) := by decide +kernel
theorem dX12_many_1 : decode cX12_many 1 = .ok (.ifCond .lt 8, 3) := by decide +kernel
theorem dX12_many_9 : decode cX12_many 9 = .ok (.aload_n 0, 1) := by decide +kernel
theorem dX12_many_10 : decode cX12_many 10 = .ok (.iconst 1, 1) := by decide +kernel
theorem dX12_many_11 : decode cX12_many 11 = .ok (.invokevirtual 194, 3) := by decide +kernel
theorem dX12_many_14 : decode cX12_many 14 = .ok (.ireturn, 1) := by decide +kernel
theorem dX12_many_4 : decode cX12_many 4 = .ok (.iload_n 1, 1) := by decide +kernel
theorem dX12_many_5 : decode cX12_many 5 = .ok (.iconst 2, 1) := by decide +kernel
theorem dX12_many_6 : decode cX12_many 6 = .ok (.if_icmp .le 9, 3) := by decide +kernel
theorem dX12_many_15 : decode cX12_many 15 = .ok (.aload_n 0, 1) := by decide +kernel
theorem dX12_many_16 : decode cX12_many 16 = .ok (.iload_n 1, 1) := by decide +kernel
theorem dX12_many_17 : decode cX12_many 17 = .ok (.ifCond .ne 15, 3) := by decide +kernel
theorem dX12_many_20 : decode cX12_many 20 = .ok (.aload_n 0, 1) := by decide +kernel
theorem dX12_many_21 : decode cX12_many 21 = .ok (.getfield 7, 3) := by decide +kernel
theorem dX12_many_24 : decode cX12_many 24 = .ok (.sipush 4950, 3) := by decide +kernel
theorem dX12_many_27 : decode cX12_many 27 = .ok (.laload, 1) := by decide +kernel
theorem dX12_many_28 : decode cX12_many 28 = .ok (.l2i, 1) := by decide +kernel
theorem dX12_many_29 : decode cX12_many 29 = .ok (.goto 24, 3) := by decide +kernel
theorem dX12_many_53 : decode cX12_many 53 = .ok (.invokevirtual 209, 3) := by decide +kernel
theorem dX12_many_56 : decode cX12_many 56 = .ok (.ireturn, 1) := by decide +kernel
theorem dX12_many_32 : decode cX12_many 32 = .ok (.iload_n 1, 1) := by decide +kernel
theorem dX12_many_33 : decode cX12_many 33 = .ok (.iconst 1, 1) := by decide +kernel
theorem dX12_many_34 : decode cX12_many 34 = .ok (.if_icmp .ne 15, 3) := by decide +kernel
theorem dX12_many_37 : decode cX12_many 37 = .ok (.aload_n 0, 1) := by decide +kernel
theorem dX12_many_38 : decode cX12_many 38 = .ok (.getfield 7, 3) := by decide +kernel
theorem dX12_many_41 : decode cX12_many 41 = .ok (.sipush 5159, 3) := by decide +kernel
theorem dX12_many_44 : decode cX12_many 44 = .ok (.laload, 1) := by decide +kernel
theorem dX12_many_45 : decode cX12_many 45 = .ok (.l2i, 1) := by decide +kernel
theorem dX12_many_46 : decode cX12_many 46 = .ok (.goto 7, 3) := by decide +kernel
theorem dX12_many_49 : decode cX12_many 49 = .ok (.aload_n 0, 1) := by decide +kernel
theorem dX12_many_50 : decode cX12_many 50 = .ok (.getfield 416, 3) := by decide +kernel
theorem dX12_count_0 : decode cX12_count 0 = .ok (.aload_n 0, 1) := by decide +kernel
theorem dX12_count_1 : decode cX12_count 1 = .ok (.iload_n 1, 1) := by decide +kernel
theorem dX12_count_2 : decode cX12_count 2 = .ok (.invokevirtual 282, 3) := by decide +kernel
theorem dX12_count_5 : decode cX12_count 5 = .ok (.ifCond .eq 12, 3) := by decide +kernel
theorem dX12_count_17 : decode cX12_count 17 = .ok (.aload_n 0, 1) := by decide +kernel
theorem dX12_count_18 : decode cX12_count 18 = .ok (.iconst 1, 1) := by decide +kernel
theorem dX12_count_19 : decode cX12_count 19 = .ok (.invokevirtual 194, 3) := by decide +kernel
theorem dX12_count_22 : decode cX12_count 22 = .ok (.ireturn, 1) := by decide +kernel
theorem dX12_count_8 : decode cX12_count 8 = .ok (.iload_n 2, 1) := by decide +kernel
theorem dX12_count_9 : decode cX12_count 9 = .ok (.ifCond .lt 8, 3) := by decide +kernel
theorem dX12_count_12 : decode cX12_count 12 = .ok (.iload_n 2, 1) := by decide +kernel
theorem dX12_count_13 : decode cX12_count 13 = .ok (.iconst 3, 1) := by decide +kernel
theorem dX12_count_14 : decode cX12_count 14 = .ok (.if_icmp .le 9, 3) := by decide +kernel
theorem dX12_count_23 : decode cX12_count 23 = .ok (.aload_n 0, 1) := by decide +kernel
theorem dX12_count_24 : decode cX12_count 24 = .ok (.aload_n 0, 1) := by decide +kernel
theorem dX12_count_25 : decode cX12_count 25 = .ok (.getfield 7, 3) := by decide +kernel
theorem dX12_count_28 : decode cX12_count 28 = .ok (.sipush 1650, 3) := by decide +kernel
theorem dX12_count_31 : decode cX12_count 31 = .ok (.iload_n 1, 1) := by decide +kernel
theorem dX12_count_32 : decode cX12_count 32 = .ok (.imul, 1) := by decide +kernel
theorem dX12_count_33 : decode cX12_count 33 = .ok (.iload_n 2, 1) := by decide +kernel
theorem dX12_count_34 : decode cX12_count 34 = .ok (.iconst 3, 1) := by decide +kernel
theorem dX12_count_35 : decode cX12_count 35 = .ok (.if_icmp .ne 9, 3) := by decide +kernel
theorem dX12_count_44 : decode cX12_count 44 = .ok (.iload_n 2, 1) := by decide +kernel
theorem dX12_count_45 : decode cX12_count 45 = .ok (.iadd, 1) := by decide +kernel
theorem dX12_count_46 : decode cX12_count 46 = .ok (.laload, 1) := by decide +kernel
theorem dX12_count_47 : decode cX12_count 47 = .ok (.l2i, 1) := by decide +kernel
theorem dX12_count_48 : decode cX12_count 48 = .ok (.invokevirtual 209, 3) := by decide +kernel
theorem dX12_count_51 : decode cX12_count 51 = .ok (.ireturn, 1) := by decide +kernel
theorem dX12_count_38 : decode cX12_count 38 = .ok (.sipush 1567, 3) := by decide +kernel
theorem dX12_count_41 : decode cX12_count 41 = .ok (.goto 4, 3) := by decide +kernel
theorem dX12_leave_0 : decode cX12_leave 0 = .ok (.iload_n 1, 1) := by decide +kernel
theorem dX12_leave_1 : decode cX12_leave 1 = .ok (.ifCond .lt 11, 3) := by decide +kernel
theorem dX12_leave_12 : decode cX12_leave 12 = .ok (.aload_n 0, 1) := by decide +kernel
theorem dX12_leave_13 : decode cX12_leave 13 = .ok (.iconst 1, 1) := by decide +kernel
theorem dX12_leave_14 : decode cX12_leave 14 = .ok (.invokevirtual 131, 3) := by decide +kernel
theorem dX12_leave_17 : decode cX12_leave 17 = .ok (.ireturn, 1) := by decide +kernel
theorem dX12_leave_4 : decode cX12_leave 4 = .ok (.iload_n 1, 1) := by decide +kernel
theorem dX12_leave_5 : decode cX12_leave 5 = .ok (.aload_n 0, 1) := by decide +kernel
theorem dX12_leave_6 : decode cX12_leave 6 = .ok (.getfield 416, 3) := by decide +kernel
theorem dX12_leave_9 : decode cX12_leave 9 = .ok (.if_icmp .lt 9, 3) := by decide +kernel
theorem dX12_begin_0 : decode cX12_begin 0 = .ok (.aload_n 0, 1) := by decide +kernel
theorem dX12_begin_1 : decode cX12_begin 1 = .ok (.iload_n 1, 1) := by decide +kernel
theorem dX12_begin_2 : decode cX12_begin 2 = .ok (.invokevirtual 282, 3) := by decide +kernel
theorem dX12_begin_5 : decode cX12_begin 5 = .ok (.ifCond .ne 9, 3) := by decide +kernel
theorem dX12_begin_8 : decode cX12_begin 8 = .ok (.aload_n 0, 1) := by decide +kernel
theorem dX12_begin_9 : decode cX12_begin 9 = .ok (.iconst 1, 1) := by decide +kernel
theorem dX12_begin_10 : decode cX12_begin 10 = .ok (.invokevirtual 131, 3) := by decide +kernel
theorem dX12_begin_13 : decode cX12_begin 13 = .ok (.ireturn, 1) := by decide +kernel
theorem dX12_begin_14 : decode cX12_begin 14 = .ok (.aload_n 0, 1) := by decide +kernel
theorem dX12_begin_15 : decode cX12_begin 15 = .ok (.sipush 1650, 3) := by decide +kernel
theorem dX12_begin_18 : decode cX12_begin 18 = .ok (.iload_n 1, 1) := by decide +kernel
theorem dX12_begin_19 : decode cX12_begin 19 = .ok (.imul, 1) := by decide +kernel
theorem dX12_begin_20 : decode cX12_begin 20 = .ok (.invokevirtual 291, 3) := by decide +kernel
theorem dX12_begin_23 : decode cX12_begin 23 = .ok (.aload_n 0, 1) := by decide +kernel
theorem dX12_begin_24 : decode cX12_begin 24 = .ok (.iconst 0, 1) := by decide +kernel
theorem dX12_begin_25 : decode cX12_begin 25 = .ok (.invokevirtual 131, 3) := by decide +kernel
theorem dX12_begin_28 : decode cX12_begin 28 = .ok (.ireturn, 1) := by decide +kernel
theorem dX12_mark_0 : decode cX12_mark 0 = .ok (.aload_n 0, 1) := by decide +kernel
theorem dX12_mark_1 : decode cX12_mark 1 = .ok (.getfield 460, 3) := by decide +kernel
theorem mw_1576 : Cond.fieldLink RX12 460 "AskBackModel" "marks" "I" ∈ wsL_law := inr_66 _ (List.mem_of_getElem? (i := 16) rfl)
theorem dX12_mark_4 : decode cX12_mark 4 = .ok (.iconst 3, 1) := by decide +kernel
theorem dX12_mark_5 : decode cX12_mark 5 = .ok (.if_icmp .ne 9, 3) := by decide +kernel
theorem dX12_mark_14 : decode cX12_mark 14 = .ok (.aload_n 0, 1) := by decide +kernel
theorem dX12_mark_15 : decode cX12_mark 15 = .ok (.dup, 1) := by decide +kernel
theorem dX12_mark_16 : decode cX12_mark 16 = .ok (.getfield 460, 3) := by decide +kernel
theorem dX12_mark_19 : decode cX12_mark 19 = .ok (.iconst 1, 1) := by decide +kernel
theorem dX12_mark_20 : decode cX12_mark 20 = .ok (.iadd, 1) := by decide +kernel
theorem dX12_mark_21 : decode cX12_mark 21 = .ok (.putfield 460, 3) := by decide +kernel
theorem dX12_mark_24 : decode cX12_mark 24 = .ok (.aload_n 0, 1) := by decide +kernel
theorem dX12_mark_25 : decode cX12_mark 25 = .ok (.iconst 0, 1) := by decide +kernel
theorem dX12_mark_26 : decode cX12_mark 26 = .ok (.sipush 5190, 3) := by decide +kernel
theorem dX12_mark_29 : decode cX12_mark 29 = .ok (.aload_n 0, 1) := by decide +kernel
theorem dX12_mark_30 : decode cX12_mark 30 = .ok (.getfield 460, 3) := by decide +kernel
theorem dX12_mark_33 : decode cX12_mark 33 = .ok (.imul, 1) := by decide +kernel
theorem dX12_mark_34 : decode cX12_mark 34 = .ok (.sipush 5190, 3) := by decide +kernel
theorem dX12_mark_37 : decode cX12_mark 37 = .ok (.invokevirtual 294, 3) := by decide +kernel
theorem dX12_mark_40 : decode cX12_mark 40 = .ok (.aload_n 0, 1) := by decide +kernel
theorem dX12_mark_41 : decode cX12_mark 41 = .ok (.aload_n 0, 1) := by decide +kernel
theorem dX12_mark_42 : decode cX12_mark 42 = .ok (.getfield 460, 3) := by decide +kernel
theorem dX12_mark_45 : decode cX12_mark 45 = .ok (.invokevirtual 209, 3) := by decide +kernel
theorem dX12_mark_48 : decode cX12_mark 48 = .ok (.ireturn, 1) := by decide +kernel
theorem dX12_back_0 : decode cX12_back 0 = .ok (.aload_n 0, 1) := by decide +kernel
theorem dX12_back_1 : decode cX12_back 1 = .ok (.getfield 460, 3) := by decide +kernel
theorem dX12_back_4 : decode cX12_back 4 = .ok (.ifCond .ne 10, 3) := by decide +kernel
theorem dX12_back_7 : decode cX12_back 7 = .ok (.aload_n 0, 1) := by decide +kernel
theorem dX12_back_8 : decode cX12_back 8 = .ok (.bipush 6, 2) := by decide +kernel
theorem dX12_back_10 : decode cX12_back 10 = .ok (.invokevirtual 194, 3) := by decide +kernel
theorem dX12_back_13 : decode cX12_back 13 = .ok (.ireturn, 1) := by decide +kernel
set_option maxHeartbeats 4000000 in
set_option maxRecDepth 100000 in
theorem c_m_script (l : Launch) (D : va_G) (cy : Nat → ClassId) (q : Nat) (u : Nat → Nat) (sc : Int32) (n : Int32) : ∀ sz, Met l yX12_script (Cond.code yX12_script cX12_script 5 (some .int) :: wsL_law) { frames := 2, cells := 0, slots := 0, locals := 42 } (va_Pc [.ref q, .int sc, .int n] (xP D cy ([mM q u 0 0 0 (-1) 0, mA_at cy u]) sz)) (va_Qi (fun r _ => r = if ¬ (sc < 0 ∨ nI 3 ≤ sc) ∧ n = 0 then 0 else -1) (xB D (va_A ([mM q u 0 0 0 (-1) 0, mA_at cy u]) sz) (fun _ => [])) (va_A ([mM q u 0 0 0 (-1) 0, mA_at cy u]) sz)) 0 0 (va_A ([mM q u 0 0 0 (-1) 0, mA_at cy u]) sz) := by
  refine x_enter (fun A => va_Qi (fun r _ => r = if ¬ (sc < 0 ∨ nI 3 ≤ sc) ∧ n = 0 then 0 else -1) (xB D A (fun _ => [])) A) (by decide +kernel) rfl (Nat.le_of_ble_eq_true rfl) ?_
  intro p e s m below meth c A ls F hr hlk hin h hl
  have hl : lv_has ls 5 [(0, .ref q), (1, .int sc), (2, .int n)] := hl
  have h : xS D cy A s.heap ([(q, .inr (12, (.ref ((u 0)) :: .int 0 :: .long 0 :: .long 1 :: .ref ((u 1)) :: .ref ((u 2)) :: .ref ((u 3)) :: .ref ((u 4)) :: .ref ((u 5)) :: .int 0 :: .int 0 :: .int 0 :: .int 0 :: .int 0 :: .int 0 :: .int (-1) :: .int (-1) :: .int 0 :: .ref ((u 6)) :: .int 0 :: .int 0 :: .ref ((u 7)) :: .ref ((u 8)) :: .ref ((u 9)) :: .ref ((u 10)) :: .ref ((u 11)) :: .ref ((u 12)) :: .ref ((u 13)) :: .int 0 :: .int 0 :: .int (-1) :: .int 0 :: .int (-1) :: .int 0 :: .ref ((u 14)) :: .int 0 :: .int 0 :: .int 0 :: .int 0 :: .int 0 :: .ref ((u 15)) :: .ref ((u 16)) :: .int 0 :: .int (-1) :: .int 0 :: .int 0 :: .int 0 :: .int 0 :: .ref ((u 17)) :: .ref ((u 18)) :: .ref ((u 19)) :: .int 0 :: .ref ((u 20)) :: .ref ((u 21)) :: .int 0 :: .ref ((u 22)) :: .int (-1) :: .int 0 :: .ref ((u 23)) :: .int (-1) :: .int (-1) :: .int 0 :: .ref ((u 24)) :: .ref ((u 25)) :: .int 0 :: []))), (((u 0)), .inl (cy 2, 25710, .inr (.inl (fun _ => 0))))]) s s.heap [] := h
  refine lv_aload_n F.1 F.2.1 dX12_script_0 rfl (lv_at hl 0 rfl) ?_
  refine lv_iload_n F.1 F.2.1 dX12_script_1 rfl (lv_at hl 1 rfl) ?_
  refine x_Vi (wr := [(((u 0)), .inl (cy 2, 25710, .inr (.inl (fun _ => 0))))]) F h yk_X12_isScript mw_635 mw_636 mw_637 (c_m_isScript l D cy q ((.ref ((u 0)) :: .int 0 :: .long 0 :: .long 1 :: .ref ((u 1)) :: .ref ((u 2)) :: .ref ((u 3)) :: .ref ((u 4)) :: .ref ((u 5)) :: .int 0 :: .int 0 :: .int 0 :: .int 0 :: .int 0 :: .int 0 :: .int (-1) :: .int (-1) :: .int 0 :: .ref ((u 6)) :: .int 0 :: .int 0 :: .ref ((u 7)) :: .ref ((u 8)) :: .ref ((u 9)) :: .ref ((u 10)) :: .ref ((u 11)) :: .ref ((u 12)) :: .ref ((u 13)) :: .int 0 :: .int 0 :: .int (-1) :: .int 0 :: .int (-1) :: .int 0 :: .ref ((u 14)) :: .int 0 :: .int 0 :: .int 0 :: .int 0 :: .int 0 :: .ref ((u 15)) :: .ref ((u 16)) :: .int 0 :: .int (-1) :: .int 0 :: .int 0 :: .int 0 :: .int 0 :: .ref ((u 17)) :: .ref ((u 18)) :: .ref ((u 19)) :: .int 0 :: .ref ((u 20)) :: .ref ((u 21)) :: .int 0 :: .ref ((u 22)) :: .int (-1) :: .int 0 :: .ref ((u 23)) :: .int (-1) :: .int (-1) :: .int 0 :: .ref ((u 24)) :: .ref ((u 25)) :: .int 0 :: [])) sc) [0] [1] 0 rfl rfl rfl rfl (by decide) rfl rfl hl.1 rfl (Nat.le_of_ble_eq_true rfl) ⟨Nat.le_of_ble_eq_true rfl, Nat.le_of_ble_eq_true rfl⟩ ⟨Nat.le_of_ble_eq_true rfl, Nat.le_of_ble_eq_true rfl⟩ dX12_script_2 (fun r2 u3 H locs hp1 h => ?_)
  have h : xS D cy A s.heap ([(((u 0)), .inl (cy 2, 25710, .inr (.inl (fun _ => 0)))), (q, .inr (12, (.ref ((u 0)) :: .int 0 :: .long 0 :: .long 1 :: .ref ((u 1)) :: .ref ((u 2)) :: .ref ((u 3)) :: .ref ((u 4)) :: .ref ((u 5)) :: .int 0 :: .int 0 :: .int 0 :: .int 0 :: .int 0 :: .int 0 :: .int (-1) :: .int (-1) :: .int 0 :: .ref ((u 6)) :: .int 0 :: .int 0 :: .ref ((u 7)) :: .ref ((u 8)) :: .ref ((u 9)) :: .ref ((u 10)) :: .ref ((u 11)) :: .ref ((u 12)) :: .ref ((u 13)) :: .int 0 :: .int 0 :: .int (-1) :: .int 0 :: .int (-1) :: .int 0 :: .ref ((u 14)) :: .int 0 :: .int 0 :: .int 0 :: .int 0 :: .int 0 :: .ref ((u 15)) :: .ref ((u 16)) :: .int 0 :: .int (-1) :: .int 0 :: .int 0 :: .int 0 :: .int 0 :: .ref ((u 17)) :: .ref ((u 18)) :: .ref ((u 19)) :: .int 0 :: .ref ((u 20)) :: .ref ((u 21)) :: .int 0 :: .ref ((u 22)) :: .int (-1) :: .int 0 :: .ref ((u 23)) :: .int (-1) :: .int (-1) :: .int 0 :: .ref ((u 24)) :: .ref ((u 25)) :: .int 0 :: [])))]) s H locs := h
  rcases x_tr (n := 3) hp1 with ⟨rfl, ht4⟩ | ⟨rfl, ht5, ht6⟩
  · refine lv_if_eq (tgt := 20) F.1 F.2.1 dX12_script_5 (by decide) (fun _ => ?_) (fun hc => absurd (by decide) hc)
    refine lv_aload_n F.1 F.2.1 dX12_script_20 rfl (lv_at hl 0 rfl) ?_
    refine lv_iconst (v := 1) F.1 F.2.1 dX12_script_21 (by decide) ?_
    refine x_Vi (wr := [(((u 0)), .inl (cy 2, 25710, .inr (.inl (fun _ => 0))))]) F h yk_X12_refuse mw_452 mw_453 mw_454 (c_m_refuse l D cy q ((.ref ((u 0)) :: .int 0 :: .long 0 :: .long 1 :: .ref ((u 1)) :: .ref ((u 2)) :: .ref ((u 3)) :: .ref ((u 4)) :: .ref ((u 5)) :: .int 0 :: .int 0 :: .int 0 :: .int 0 :: .int 0 :: .int 0 :: .int (-1) :: .int (-1) :: .int 0 :: .ref ((u 6)) :: .int 0 :: .int 0 :: .ref ((u 7)) :: .ref ((u 8)) :: .ref ((u 9)) :: .ref ((u 10)) :: .ref ((u 11)) :: .ref ((u 12)) :: .ref ((u 13)) :: .int 0 :: .int 0 :: .int (-1) :: .int 0 :: .int (-1) :: .int 0 :: .ref ((u 14)) :: .int 0 :: .int 0 :: .int 0 :: .int 0 :: .int 0 :: .ref ((u 15)) :: .ref ((u 16)) :: .int 0 :: .int (-1) :: .int 0 :: .int 0 :: .int 0 :: .int 0 :: .ref ((u 17)) :: .ref ((u 18)) :: .ref ((u 19)) :: .int 0 :: .ref ((u 20)) :: .ref ((u 21)) :: .int 0 :: .ref ((u 22)) :: .int (-1) :: .int 0 :: .ref ((u 23)) :: .int (-1) :: .int (-1) :: .int 0 :: .ref ((u 24)) :: .ref ((u 25)) :: .int 0 :: [])) rfl 1) [1] [0] 1 rfl rfl rfl rfl (by decide) rfl rfl hl.1 rfl (Nat.le_of_ble_eq_true rfl) ⟨Nat.le_of_ble_eq_true rfl, Nat.le_of_ble_eq_true rfl⟩ ⟨Nat.le_of_ble_eq_true rfl, Nat.le_of_ble_eq_true rfl⟩ dX12_script_22 (fun r8 u9 H locs hp7 h => ?_)
    have h : xS D cy A s.heap ([(((u 0)), .inl (cy 2, 25710, .inr (.inl (fun _ => 0))))]) s H locs := h
    obtain rfl : r8 = (-1) := hp7
    exact x_iret F h hr hlk rfl (fun _ => 0) [] (by first | (rw [if_neg]; rintro rfl; revert ht4; decide) | (rw [if_neg]; rintro ⟨hx, rfl⟩; first | exact hx ht4 | (revert ht4; decide))) (by decide +kernel) rfl (Nat.le_of_ble_eq_true rfl) (Nat.le_of_ble_eq_true rfl) dX12_script_25
  · refine lv_if_eq (tgt := 20) F.1 F.2.1 dX12_script_5 (by decide) (fun hc => absurd hc (by decide)) (fun _ => ?_)
    refine lv_iload_n F.1 F.2.1 dX12_script_8 rfl (lv_at hl 2 rfl) ?_
    refine lv_if_lt (tgt := 20) F.1 F.2.1 dX12_script_9 (by decide) (fun hc10 => ?_) (fun hc10 => ?_)
    · refine lv_aload_n F.1 F.2.1 dX12_script_20 rfl (lv_at hl 0 rfl) ?_
      refine lv_iconst (v := 1) F.1 F.2.1 dX12_script_21 (by decide) ?_
      refine x_Vi (wr := [(((u 0)), .inl (cy 2, 25710, .inr (.inl (fun _ => 0))))]) F h yk_X12_refuse mw_452 mw_453 mw_454 (c_m_refuse l D cy q ((.ref ((u 0)) :: .int 0 :: .long 0 :: .long 1 :: .ref ((u 1)) :: .ref ((u 2)) :: .ref ((u 3)) :: .ref ((u 4)) :: .ref ((u 5)) :: .int 0 :: .int 0 :: .int 0 :: .int 0 :: .int 0 :: .int 0 :: .int (-1) :: .int (-1) :: .int 0 :: .ref ((u 6)) :: .int 0 :: .int 0 :: .ref ((u 7)) :: .ref ((u 8)) :: .ref ((u 9)) :: .ref ((u 10)) :: .ref ((u 11)) :: .ref ((u 12)) :: .ref ((u 13)) :: .int 0 :: .int 0 :: .int (-1) :: .int 0 :: .int (-1) :: .int 0 :: .ref ((u 14)) :: .int 0 :: .int 0 :: .int 0 :: .int 0 :: .int 0 :: .ref ((u 15)) :: .ref ((u 16)) :: .int 0 :: .int (-1) :: .int 0 :: .int 0 :: .int 0 :: .int 0 :: .ref ((u 17)) :: .ref ((u 18)) :: .ref ((u 19)) :: .int 0 :: .ref ((u 20)) :: .ref ((u 21)) :: .int 0 :: .ref ((u 22)) :: .int (-1) :: .int 0 :: .ref ((u 23)) :: .int (-1) :: .int (-1) :: .int 0 :: .ref ((u 24)) :: .ref ((u 25)) :: .int 0 :: [])) rfl 1) [1] [0] 1 rfl rfl rfl rfl (by decide) rfl rfl hl.1 rfl (Nat.le_of_ble_eq_true rfl) ⟨Nat.le_of_ble_eq_true rfl, Nat.le_of_ble_eq_true rfl⟩ ⟨Nat.le_of_ble_eq_true rfl, Nat.le_of_ble_eq_true rfl⟩ dX12_script_22 (fun r12 u13 H locs hp11 h => ?_)
      have h : xS D cy A s.heap ([(((u 0)), .inl (cy 2, 25710, .inr (.inl (fun _ => 0))))]) s H locs := h
      obtain rfl : r12 = (-1) := hp11
      exact x_iret F h hr hlk rfl (fun _ => 0) [] (by first | (rw [if_neg]; rintro rfl; revert hc10; decide) | (rw [if_neg]; rintro ⟨hx, rfl⟩; first | exact hx ht5 | (revert hc10; decide))) (by decide +kernel) rfl (Nat.le_of_ble_eq_true rfl) (Nat.le_of_ble_eq_true rfl) dX12_script_25
    · refine lv_iload_n F.1 F.2.1 dX12_script_12 rfl (lv_at hl 2 rfl) ?_
      refine lv_aload_n F.1 F.2.1 dX12_script_13 rfl (lv_at hl 0 rfl) ?_
      refine x_get F h 1 9 inlX12 rfl (by decide) mw_367 dX12_script_14 rfl rfl ?_
      refine lv_icmp_le (tgt := 26) F.1 F.2.1 dX12_script_17 (by decide) (fun hc14 => ?_) (fun hc14 => ?_)
      · obtain rfl := x_0' hc10 hc14
        rcases x_c3 ht5 ht6 with rfl | rfl | rfl
        · refine lv_aload_n F.1 F.2.1 dX12_script_26 rfl (lv_at hl 0 rfl) ?_
          refine lv_iload_n F.1 F.2.1 dX12_script_27 rfl (lv_at hl 2 rfl) ?_
          refine x_Vv (wr := [(((u 0)), .inl (cy 2, 25710, .inr (.inl (fun _ => 0))))]) F h yk_X12_begins mw_456 mw_457 mw_458 (c_m_begins l D cy q u ) [1] [0] 1 rfl rfl rfl rfl (by decide) rfl rfl hl.1 rfl (Nat.le_of_ble_eq_true rfl) ⟨Nat.le_of_ble_eq_true rfl, Nat.le_of_ble_eq_true rfl⟩ ⟨Nat.le_of_ble_eq_true rfl, Nat.le_of_ble_eq_true rfl⟩ dX12_script_28 (fun u17 H locs hp15 h => ?_)
          have h : xS D cy A s.heap ([(((u 0)), .inl (cy 2, 25710, .inr (.inl (fun _ => 0)))), (q, .inr (12, (.ref ((u 0)) :: .int 0 :: .long 0 :: .long 1 :: .ref ((u 1)) :: .ref ((u 2)) :: .ref ((u 3)) :: .ref ((u 4)) :: .ref ((u 5)) :: .int 0 :: .int 0 :: .int 0 :: .int 0 :: .int 0 :: .int 0 :: .int (-1) :: .int (-1) :: .int 0 :: .ref ((u 6)) :: .int 0 :: .int 0 :: .ref ((u 7)) :: .ref ((u 8)) :: .ref ((u 9)) :: .ref ((u 10)) :: .ref ((u 11)) :: .ref ((u 12)) :: .ref ((u 13)) :: .int 0 :: .int 0 :: .int (-1) :: .int 0 :: .int (-1) :: .int 0 :: .ref ((u 14)) :: .int 0 :: .int 0 :: .int 0 :: .int 0 :: .int 0 :: .ref ((u 15)) :: .ref ((u 16)) :: .int 0 :: .int (-1) :: .int 0 :: .int 0 :: .int 0 :: .int 0 :: .ref ((u 17)) :: .ref ((u 18)) :: .ref ((u 19)) :: .int 0 :: .ref ((u 20)) :: .ref ((u 21)) :: .int 0 :: .ref ((u 22)) :: .int (-1) :: .int 0 :: .ref ((u 23)) :: .int (-1) :: .int (-1) :: .int 0 :: .ref ((u 24)) :: .ref ((u 25)) :: .int 0 :: [])))]) s H locs := h
          refine lv_iconst (v := 0) F.1 F.2.1 dX12_script_31 (by decide) ?_
          refine lv_istore_n (lv' := [(3, .int 0), (0, .ref q), (1, .int 0), (2, .int 0)]) F.1 F.2.1 dX12_script_32 rfl hl (by decide) rfl (fun ls hl => ?_)
          refine x_loop (fun (g18 : Unit) => [(((u 0)), .inl (cy 2, 25710, .inr (.inl (fun _ => 0)))), (q, .inr (12, (.ref ((u 0)) :: .int 0 :: .long 0 :: .long 1 :: .ref ((u 1)) :: .ref ((u 2)) :: .ref ((u 3)) :: .ref ((u 4)) :: .ref ((u 5)) :: .int 0 :: .int 0 :: .int 0 :: .int 0 :: .int 0 :: .int 0 :: .int (-1) :: .int (-1) :: .int 0 :: .ref ((u 6)) :: .int 0 :: .int 0 :: .ref ((u 7)) :: .ref ((u 8)) :: .ref ((u 9)) :: .ref ((u 10)) :: .ref ((u 11)) :: .ref ((u 12)) :: .ref ((u 13)) :: .int 0 :: .int 0 :: .int (-1) :: .int 0 :: .int (-1) :: .int 0 :: .ref ((u 14)) :: .int 0 :: .int 0 :: .int 0 :: .int 0 :: .int 0 :: .ref ((u 15)) :: .ref ((u 16)) :: .int 0 :: .int (-1) :: .int 0 :: .int 0 :: .int 0 :: .int 0 :: .ref ((u 17)) :: .ref ((u 18)) :: .ref ((u 19)) :: .int 0 :: .ref ((u 20)) :: .ref ((u 21)) :: .int 0 :: .ref ((u 22)) :: .int (-1) :: .int 0 :: .ref ((u 23)) :: .int (-1) :: .int (-1) :: .int 0 :: .ref ((u 24)) :: .ref ((u 25)) :: .int 0 :: [])))]) 1650 (fun i => [(3, .int i), (0, .ref q), (1, .int 0), (2, .int 0)]) (fun g18 H locs ls h hl => ?_) (fun j19 g18 H locs ls hj20 h hl ih21 => ?_) 0 () _ _ _ (by decide) h (lv_sub hl [0, 1, 2, 3] rfl)
          · have hl : lv_has ls 5 [(3, .int 1650), (0, .ref q), (1, .int 0), (2, .int 0)] := hl
            refine lv_iload_n F.1 F.2.1 dX12_script_33 rfl (lv_at hl 0 rfl) ?_
            refine lv_sipush (v := 1650) F.1 F.2.1 dX12_script_34 (by decide) ?_
            refine lv_icmp_ge (tgt := 57) F.1 F.2.1 dX12_script_37 (by decide) (fun _ => ?_) (fun hc => absurd (by decide) hc)
            refine lv_aload_n F.1 F.2.1 dX12_script_57 rfl (lv_at hl 1 rfl) ?_
            refine x_Vv (wr := [(((u 0)), .inl (cy 2, 25710, .inr (.inl (fun _ => 0))))]) F h yk_X12_ahead0 mw_468 mw_469 mw_470 (c_m_ahead0 l D cy q u ) [1] [0] 1 rfl rfl rfl rfl (by decide) rfl rfl hl.1 rfl (Nat.le_of_ble_eq_true rfl) ⟨Nat.le_of_ble_eq_true rfl, Nat.le_of_ble_eq_true rfl⟩ ⟨Nat.le_of_ble_eq_true rfl, Nat.le_of_ble_eq_true rfl⟩ dX12_script_58 (fun u24 H locs hp22 h => ?_)
            have h : xS D cy A s.heap ([(((u 0)), .inl (cy 2, 25710, .inr (.inl (fun _ => 0)))), (q, .inr (12, (.ref ((u 0)) :: .int 0 :: .long 0 :: .long 1 :: .ref ((u 1)) :: .ref ((u 2)) :: .ref ((u 3)) :: .ref ((u 4)) :: .ref ((u 5)) :: .int 0 :: .int 0 :: .int 0 :: .int 0 :: .int 0 :: .int (-1) :: .int (-1) :: .int (-1) :: .int 0 :: .ref ((u 6)) :: .int 0 :: .int 0 :: .ref ((u 7)) :: .ref ((u 8)) :: .ref ((u 9)) :: .ref ((u 10)) :: .ref ((u 11)) :: .ref ((u 12)) :: .ref ((u 13)) :: .int 0 :: .int 0 :: .int (-1) :: .int 0 :: .int (-1) :: .int 0 :: .ref ((u 14)) :: .int 0 :: .int 0 :: .int 0 :: .int 0 :: .int 0 :: .ref ((u 15)) :: .ref ((u 16)) :: .int 0 :: .int (-1) :: .int 0 :: .int 0 :: .int 0 :: .int 0 :: .ref ((u 17)) :: .ref ((u 18)) :: .ref ((u 19)) :: .int 0 :: .ref ((u 20)) :: .ref ((u 21)) :: .int 0 :: .ref ((u 22)) :: .int (-1) :: .int 0 :: .ref ((u 23)) :: .int (-1) :: .int (-1) :: .int 0 :: .ref ((u 24)) :: .ref ((u 25)) :: .int 0 :: [])))]) s H locs := h
            refine lv_aload_n F.1 F.2.1 dX12_script_61 rfl (lv_at hl 1 rfl) ?_
            refine x_get F h 1 11 inlX12 rfl (by decide) mw_466 dX12_script_62 rfl rfl ?_
            refine lv_if_eq (tgt := 72) F.1 F.2.1 dX12_script_65 (by decide) (fun _ => ?_) (fun hc => absurd (by decide) hc)
            refine lv_iconst (v := 0) F.1 F.2.1 dX12_script_72 (by decide) ?_
            refine lv_istore_n (lv' := [(3, .int 0), (0, .ref q), (1, .int 0), (2, .int 0)]) F.1 F.2.1 dX12_script_73 rfl hl (by decide) rfl (fun ls hl => ?_)
            refine lv_iload_n F.1 F.2.1 dX12_script_74 rfl (lv_at hl 0 rfl) ?_
            refine lv_if_eq (tgt := 101) F.1 F.2.1 dX12_script_75 (by decide) (fun _ => ?_) (fun hc => absurd (by decide) hc)
            refine lv_aload_n F.1 F.2.1 dX12_script_101 rfl (lv_at hl 1 rfl) ?_
            refine x_get F h 1 17 inlX12 rfl (by decide) mw_450 dX12_script_102 rfl rfl ?_
            refine lv_if_ne (tgt := 182) F.1 F.2.1 dX12_script_105 (by decide) (fun hc => absurd hc (by decide)) (fun _ => ?_)
            refine lv_aload_n F.1 F.2.1 dX12_script_108 rfl (lv_at hl 1 rfl) ?_
            refine lv_iconst (v := (-1)) F.1 F.2.1 dX12_script_109 (by decide) ?_
            refine x_put F h 1 20 inlX12 tyX12_ok nmX12 rfl (by decide) mw_634 dX12_script_110 rfl rfl rfl rfl (Nat.le_of_ble_eq_true rfl) (ws' := [(((u 0)), .inl (cy 2, 25710, .inr (.inl (fun _ => 0)))), (q, .inr (12, (.ref ((u 0)) :: .int 0 :: .long 0 :: .long 1 :: .ref ((u 1)) :: .ref ((u 2)) :: .ref ((u 3)) :: .ref ((u 4)) :: .ref ((u 5)) :: .int 0 :: .int 0 :: .int 0 :: .int 0 :: .int 0 :: .int (-1) :: .int (-1) :: .int (-1) :: .int 0 :: .ref ((u 6)) :: .int 0 :: .int (-1) :: .ref ((u 7)) :: .ref ((u 8)) :: .ref ((u 9)) :: .ref ((u 10)) :: .ref ((u 11)) :: .ref ((u 12)) :: .ref ((u 13)) :: .int 0 :: .int 0 :: .int (-1) :: .int 0 :: .int (-1) :: .int 0 :: .ref ((u 14)) :: .int 0 :: .int 0 :: .int 0 :: .int 0 :: .int 0 :: .ref ((u 15)) :: .ref ((u 16)) :: .int 0 :: .int (-1) :: .int 0 :: .int 0 :: .int 0 :: .int 0 :: .ref ((u 17)) :: .ref ((u 18)) :: .ref ((u 19)) :: .int 0 :: .ref ((u 20)) :: .ref ((u 21)) :: .int 0 :: .ref ((u 22)) :: .int (-1) :: .int 0 :: .ref ((u 23)) :: .int (-1) :: .int (-1) :: .int 0 :: .ref ((u 24)) :: .ref ((u 25)) :: .int 0 :: [])))]) rfl (fun H locs h => ?_)
            refine lv_iconst (v := 0) F.1 F.2.1 dX12_script_113 (by decide) ?_
            refine lv_istore (lv' := [(4, .int 0), (3, .int 0), (0, .ref q), (1, .int 0), (2, .int 0)]) F.1 F.2.1 dX12_script_114 hl (by decide) rfl (fun ls hl => ?_)
            refine lv_iload F.1 F.2.1 dX12_script_116 (lv_at hl 0 rfl) ?_
            refine lv_i2l (v := 0) F.1 F.2.1 dX12_script_118 (by decide +kernel) ?_
            refine lv_aload_n F.1 F.2.1 dX12_script_119 rfl (lv_at hl 2 rfl) ?_
            refine x_get F h 1 0 inlX12 rfl (by decide) mw_202 dX12_script_120 rfl rfl ?_
            refine lv_sipush (v := 20761) F.1 F.2.1 dX12_script_123 (by decide) ?_
            refine x_lald (v := 0) F h 0 rfl rfl (x_in (by decide +kernel)) rfl dX12_script_126 ?_
            refine W.lcmp F.1 F.2.1 dX12_script_127 ?_
            refine x_topi (y := 0) (by decide +kernel) ?_
            refine lv_if_ge (tgt := 153) F.1 F.2.1 dX12_script_128 (by decide) (fun _ => ?_) (fun hc => absurd (by decide) hc)
            refine lv_aload_n F.1 F.2.1 dX12_script_153 rfl (lv_at hl 2 rfl) ?_
            refine lv_sipush (v := 22252) F.1 F.2.1 dX12_script_154 (by decide) ?_
            refine x_Vv (wr := []) F h yk_X12_leads mw_741 mw_742 mw_743 (c_m_leads l D cy q u ) [1, 0] [] 1 rfl rfl rfl rfl (by decide) rfl rfl hl.1 rfl (Nat.le_of_ble_eq_true rfl) ⟨Nat.le_of_ble_eq_true rfl, Nat.le_of_ble_eq_true rfl⟩ ⟨Nat.le_of_ble_eq_true rfl, Nat.le_of_ble_eq_true rfl⟩ dX12_script_157 (fun u27 H locs hp25 h => ?_)
            have h : xS D cy A s.heap ([(q, .inr (12, (.ref ((u 0)) :: .int 0 :: .long 0 :: .long 1 :: .ref ((u 1)) :: .ref ((u 2)) :: .ref ((u 3)) :: .ref ((u 4)) :: .ref ((u 5)) :: .int 0 :: .int 0 :: .int 0 :: .int 0 :: .int 0 :: .int (-1) :: .int (-1) :: .int (-1) :: .int 0 :: .ref ((u 6)) :: .int 0 :: .int (-1) :: .ref ((u 7)) :: .ref ((u 8)) :: .ref ((u 9)) :: .ref ((u 10)) :: .ref ((u 11)) :: .ref ((u 12)) :: .ref ((u 13)) :: .int 0 :: .int 0 :: .int (-1) :: .int 0 :: .int (-1) :: .int 0 :: .ref ((u 14)) :: .int 0 :: .int 0 :: .int 0 :: .int 0 :: .int 0 :: .ref ((u 15)) :: .ref ((u 16)) :: .int 0 :: .int (-1) :: .int 0 :: .int 0 :: .int 0 :: .int 0 :: .ref ((u 17)) :: .ref ((u 18)) :: .ref ((u 19)) :: .int 0 :: .ref ((u 20)) :: .ref ((u 21)) :: .int 0 :: .ref ((u 22)) :: .int (-1) :: .int 0 :: .ref ((u 23)) :: .int (-1) :: .int (-1) :: .int 0 :: .ref ((u 24)) :: .ref ((u 25)) :: .int 0 :: []))), (((u 0)), .inl (cy 2, 25710, .inr (.inl (fun _ => 0))))]) s H locs := h
            refine lv_aload_n F.1 F.2.1 dX12_script_160 rfl (lv_at hl 2 rfl) ?_
            refine x_get F h 0 20 inlX12 rfl (by decide) mw_634 dX12_script_161 rfl rfl ?_
            refine lv_iconst (v := (-1)) F.1 F.2.1 dX12_script_164 (by decide) ?_
            refine lv_icmp_eq (tgt := 182) F.1 F.2.1 dX12_script_165 (by decide) (fun _ => ?_) (fun hc => absurd (by decide) hc)
            refine lv_aload_n F.1 F.2.1 dX12_script_182 rfl (lv_at hl 2 rfl) ?_
            refine lv_aload_n F.1 F.2.1 dX12_script_183 rfl (lv_at hl 2 rfl) ?_
            refine x_get F h 0 17 inlX12 rfl (by decide) mw_450 dX12_script_184 rfl rfl ?_
            refine x_put F h 0 15 inlX12 tyX12_ok nmX12 rfl (by decide) mw_209 dX12_script_187 rfl rfl rfl rfl (Nat.le_of_ble_eq_true rfl) (ws' := [(q, .inr (12, (.ref ((u 0)) :: .int 0 :: .long 0 :: .long 1 :: .ref ((u 1)) :: .ref ((u 2)) :: .ref ((u 3)) :: .ref ((u 4)) :: .ref ((u 5)) :: .int 0 :: .int 0 :: .int 0 :: .int 0 :: .int 0 :: .int (-1) :: .int 0 :: .int (-1) :: .int 0 :: .ref ((u 6)) :: .int 0 :: .int (-1) :: .ref ((u 7)) :: .ref ((u 8)) :: .ref ((u 9)) :: .ref ((u 10)) :: .ref ((u 11)) :: .ref ((u 12)) :: .ref ((u 13)) :: .int 0 :: .int 0 :: .int (-1) :: .int 0 :: .int (-1) :: .int 0 :: .ref ((u 14)) :: .int 0 :: .int 0 :: .int 0 :: .int 0 :: .int 0 :: .ref ((u 15)) :: .ref ((u 16)) :: .int 0 :: .int (-1) :: .int 0 :: .int 0 :: .int 0 :: .int 0 :: .ref ((u 17)) :: .ref ((u 18)) :: .ref ((u 19)) :: .int 0 :: .ref ((u 20)) :: .ref ((u 21)) :: .int 0 :: .ref ((u 22)) :: .int (-1) :: .int 0 :: .ref ((u 23)) :: .int (-1) :: .int (-1) :: .int 0 :: .ref ((u 24)) :: .ref ((u 25)) :: .int 0 :: []))), (((u 0)), .inl (cy 2, 25710, .inr (.inl (fun _ => 0))))]) rfl (fun H locs h => ?_)
            refine lv_aload_n F.1 F.2.1 dX12_script_190 rfl (lv_at hl 2 rfl) ?_
            refine x_get F h 0 17 inlX12 rfl (by decide) mw_450 dX12_script_191 rfl rfl ?_
            refine lv_if_le (tgt := 204) F.1 F.2.1 dX12_script_194 (by decide) (fun _ => ?_) (fun hc => absurd (by decide) hc)
            refine lv_aload_n F.1 F.2.1 dX12_script_204 rfl (lv_at hl 2 rfl) ?_
            refine lv_sipush (v := 20760) F.1 F.2.1 dX12_script_205 (by decide) ?_
            refine x_Vv (wr := []) F h yk_X12_fresh mw_745 mw_746 mw_747 (c_m_fresh20760 l D cy q u ) [0, 1] [] 0 rfl rfl rfl rfl (by decide) rfl rfl hl.1 rfl (Nat.le_of_ble_eq_true rfl) ⟨Nat.le_of_ble_eq_true rfl, Nat.le_of_ble_eq_true rfl⟩ ⟨Nat.le_of_ble_eq_true rfl, Nat.le_of_ble_eq_true rfl⟩ dX12_script_208 (fun u30 H locs hp28 h => ?_)
            have h : xS D cy A s.heap ([(q, .inr (12, (.ref ((u 0)) :: .int 0 :: .long 0 :: .long 1 :: .ref ((u 1)) :: .ref ((u 2)) :: .ref ((u 3)) :: .ref ((u 4)) :: .ref ((u 5)) :: .int 0 :: .int 0 :: .int 0 :: .int 0 :: .int 0 :: .int (-1) :: .int 0 :: .int (-1) :: .int 0 :: .ref ((u 6)) :: .int 0 :: .int (-1) :: .ref ((u 7)) :: .ref ((u 8)) :: .ref ((u 9)) :: .ref ((u 10)) :: .ref ((u 11)) :: .ref ((u 12)) :: .ref ((u 13)) :: .int 0 :: .int 0 :: .int (-1) :: .int 0 :: .int (-1) :: .int 0 :: .ref ((u 14)) :: .int 0 :: .int 0 :: .int 0 :: .int 0 :: .int 0 :: .ref ((u 15)) :: .ref ((u 16)) :: .int 0 :: .int (-1) :: .int 0 :: .int 0 :: .int 0 :: .int 0 :: .ref ((u 17)) :: .ref ((u 18)) :: .ref ((u 19)) :: .int 0 :: .ref ((u 20)) :: .ref ((u 21)) :: .int 0 :: .ref ((u 22)) :: .int (-1) :: .int 0 :: .ref ((u 23)) :: .int (-1) :: .int (-1) :: .int 0 :: .ref ((u 24)) :: .ref ((u 25)) :: .int 0 :: []))), (((u 0)), .inl (cy 2, 25710, .inr (.inl (fun _ => 0))))]) s H locs := h
            refine lv_aload_n F.1 F.2.1 dX12_script_211 rfl (lv_at hl 2 rfl) ?_
            refine lv_sipush (v := 20760) F.1 F.2.1 dX12_script_212 (by decide) ?_
            refine lv_sipush (v := 1650) F.1 F.2.1 dX12_script_215 (by decide) ?_
            refine lv_iload_n F.1 F.2.1 dX12_script_218 rfl (lv_at hl 3 rfl) ?_
            refine lv_imul F.1 F.2.1 dX12_script_219 ?_
            refine x_topi (y := 0) (by decide +kernel) ?_
            refine lv_sipush (v := 1650) F.1 F.2.1 dX12_script_220 (by decide) ?_
            refine x_Vv (wr := []) F h yk_X12_copies mw_749 mw_750 mw_751 (c_m_copies0 l D cy q u ) [0, 1] [] 0 rfl rfl rfl rfl (by decide) rfl rfl hl.1 rfl (Nat.le_of_ble_eq_true rfl) ⟨Nat.le_of_ble_eq_true rfl, Nat.le_of_ble_eq_true rfl⟩ ⟨Nat.le_of_ble_eq_true rfl, Nat.le_of_ble_eq_true rfl⟩ dX12_script_223 (fun u33 H locs hp31 h => ?_)
            have h : xS D cy A s.heap ([(q, .inr (12, (.ref ((u 0)) :: .int 0 :: .long 0 :: .long 1 :: .ref ((u 1)) :: .ref ((u 2)) :: .ref ((u 3)) :: .ref ((u 4)) :: .ref ((u 5)) :: .int 0 :: .int 0 :: .int 0 :: .int 0 :: .int 0 :: .int (-1) :: .int 0 :: .int (-1) :: .int 0 :: .ref ((u 6)) :: .int 0 :: .int (-1) :: .ref ((u 7)) :: .ref ((u 8)) :: .ref ((u 9)) :: .ref ((u 10)) :: .ref ((u 11)) :: .ref ((u 12)) :: .ref ((u 13)) :: .int 0 :: .int 0 :: .int (-1) :: .int 0 :: .int (-1) :: .int 0 :: .ref ((u 14)) :: .int 0 :: .int 0 :: .int 0 :: .int 0 :: .int 0 :: .ref ((u 15)) :: .ref ((u 16)) :: .int 0 :: .int (-1) :: .int 0 :: .int 0 :: .int 0 :: .int 0 :: .ref ((u 17)) :: .ref ((u 18)) :: .ref ((u 19)) :: .int 0 :: .ref ((u 20)) :: .ref ((u 21)) :: .int 0 :: .ref ((u 22)) :: .int (-1) :: .int 0 :: .ref ((u 23)) :: .int (-1) :: .int (-1) :: .int 0 :: .ref ((u 24)) :: .ref ((u 25)) :: .int 0 :: []))), (((u 0)), .inl (cy 2, 25710, .inr (.inl (fun _ => 0))))]) s H locs := h
            refine lv_aload_n F.1 F.2.1 dX12_script_226 rfl (lv_at hl 2 rfl) ?_
            refine lv_aload_n F.1 F.2.1 dX12_script_227 rfl (lv_at hl 2 rfl) ?_
            refine x_get F h 0 0 inlX12 rfl (by decide) mw_202 dX12_script_228 rfl rfl ?_
            refine lv_sipush (v := 20761) F.1 F.2.1 dX12_script_231 (by decide) ?_
            refine x_lald (v := 0) F h 1 rfl rfl (x_in (by decide +kernel)) rfl dX12_script_234 ?_
            refine lv_l2i (v := 0) F.1 F.2.1 dX12_script_235 (by decide +kernel) ?_
            refine x_Vi (wr := [(((u 0)), .inl (cy 2, 25710, .inr (.inl (fun _ => 0))))]) F h yk_X12_gives mw_499 mw_500 mw_501 (c_m_gives l D cy q ((.ref ((u 0)) :: .int 0 :: .long 0 :: .long 1 :: .ref ((u 1)) :: .ref ((u 2)) :: .ref ((u 3)) :: .ref ((u 4)) :: .ref ((u 5)) :: .int 0 :: .int 0 :: .int 0 :: .int 0 :: .int 0 :: .int (-1) :: .int 0 :: .int (-1) :: .int 0 :: .ref ((u 6)) :: .int 0 :: .int (-1) :: .ref ((u 7)) :: .ref ((u 8)) :: .ref ((u 9)) :: .ref ((u 10)) :: .ref ((u 11)) :: .ref ((u 12)) :: .ref ((u 13)) :: .int 0 :: .int 0 :: .int (-1) :: .int 0 :: .int (-1) :: .int 0 :: .ref ((u 14)) :: .int 0 :: .int 0 :: .int 0 :: .int 0 :: .int 0 :: .ref ((u 15)) :: .ref ((u 16)) :: .int 0 :: .int (-1) :: .int 0 :: .int 0 :: .int 0 :: .int 0 :: .ref ((u 17)) :: .ref ((u 18)) :: .ref ((u 19)) :: .int 0 :: .ref ((u 20)) :: .ref ((u 21)) :: .int 0 :: .ref ((u 22)) :: .int (-1) :: .int 0 :: .ref ((u 23)) :: .int (-1) :: .int (-1) :: .int 0 :: .ref ((u 24)) :: .ref ((u 25)) :: .int 0 :: [])) rfl 0) [0] [1] 0 rfl rfl rfl rfl (by decide) rfl rfl hl.1 rfl (Nat.le_of_ble_eq_true rfl) ⟨Nat.le_of_ble_eq_true rfl, Nat.le_of_ble_eq_true rfl⟩ ⟨Nat.le_of_ble_eq_true rfl, Nat.le_of_ble_eq_true rfl⟩ dX12_script_236 (fun r35 u36 H locs hp34 h => ?_)
            have h : xS D cy A s.heap ([(((u 0)), .inl (cy 2, 25710, .inr (.inl (fun _ => 0))))]) s H locs := h
            obtain rfl : r35 = 0 := hp34
            exact x_iret F h hr hlk rfl (fun _ => 0) [] (by simp [ht5, ht6]) (by decide +kernel) rfl (Nat.le_of_ble_eq_true rfl) (Nat.le_of_ble_eq_true rfl) dX12_script_239
          · have hl : lv_has ls 5 [(3, .int (nI j19)), (0, .ref q), (1, .int 0), (2, .int 0)] := hl
            refine lv_iload_n F.1 F.2.1 dX12_script_33 rfl (lv_at hl 0 rfl) ?_
            refine lv_sipush (v := 1650) F.1 F.2.1 dX12_script_34 (by decide) ?_
            refine lv_icmp_ge (tgt := 57) F.1 F.2.1 dX12_script_37 (by decide) (fun hc => absurd hc (x_nle (N := 1650) hj20 (by decide))) (fun _ => ?_)
            refine lv_aload_n F.1 F.2.1 dX12_script_40 rfl (lv_at hl 1 rfl) ?_
            refine x_get F h 1 0 inlX12 rfl (by decide) mw_202 dX12_script_41 rfl rfl ?_
            refine lv_sipush (v := 20760) F.1 F.2.1 dX12_script_44 (by decide) ?_
            refine lv_iload_n F.1 F.2.1 dX12_script_47 rfl (lv_at hl 0 rfl) ?_
            refine lv_iadd F.1 F.2.1 dX12_script_48 ?_
            refine x_topi (y := nI (20760 + j19)) (nI_add 20760 j19) ?_
            refine lv_lconst (v := 0) F.1 F.2.1 dX12_script_49 (by decide) ?_
            refine x_last F h 0 rfl rfl (vp_in_nI (by omega) (by decide)) dX12_script_50 (ws' := [(((u 0)), .inl (cy 2, 25710, .inr (.inl (fun _ => 0)))), (q, .inr (12, (.ref ((u 0)) :: .int 0 :: .long 0 :: .long 1 :: .ref ((u 1)) :: .ref ((u 2)) :: .ref ((u 3)) :: .ref ((u 4)) :: .ref ((u 5)) :: .int 0 :: .int 0 :: .int 0 :: .int 0 :: .int 0 :: .int 0 :: .int (-1) :: .int (-1) :: .int 0 :: .ref ((u 6)) :: .int 0 :: .int 0 :: .ref ((u 7)) :: .ref ((u 8)) :: .ref ((u 9)) :: .ref ((u 10)) :: .ref ((u 11)) :: .ref ((u 12)) :: .ref ((u 13)) :: .int 0 :: .int 0 :: .int (-1) :: .int 0 :: .int (-1) :: .int 0 :: .ref ((u 14)) :: .int 0 :: .int 0 :: .int 0 :: .int 0 :: .int 0 :: .ref ((u 15)) :: .ref ((u 16)) :: .int 0 :: .int (-1) :: .int 0 :: .int 0 :: .int 0 :: .int 0 :: .ref ((u 17)) :: .ref ((u 18)) :: .ref ((u 19)) :: .int 0 :: .ref ((u 20)) :: .ref ((u 21)) :: .int 0 :: .ref ((u 22)) :: .int (-1) :: .int 0 :: .ref ((u 23)) :: .int (-1) :: .int (-1) :: .int 0 :: .ref ((u 24)) :: .ref ((u 25)) :: .int 0 :: [])))]) (by rw [x_z]; rfl) (fun H locs h => ?_)
            refine lv_iinc (v := (nI (j19 + 1))) (lv' := [(3, .int (nI (j19 + 1))), (0, .ref q), (1, .int 0), (2, .int 0)]) F.1 F.2.1 dX12_script_51 hl (k := 0) rfl (nI_1 j19) (by decide) rfl (fun ls hl => ?_)
            refine lv_goto (tgt := 33) F.1 F.2.1 dX12_script_54 (by decide) ?_
            exact ih21 () _ _ _ h (lv_sub hl [0, 1, 2, 3] rfl)
        · refine lv_aload_n F.1 F.2.1 dX12_script_26 rfl (lv_at hl 0 rfl) ?_
          refine lv_iload_n F.1 F.2.1 dX12_script_27 rfl (lv_at hl 2 rfl) ?_
          refine x_Vv (wr := [(((u 0)), .inl (cy 2, 25710, .inr (.inl (fun _ => 0))))]) F h yk_X12_begins mw_456 mw_457 mw_458 (c_m_begins l D cy q u ) [1] [0] 1 rfl rfl rfl rfl (by decide) rfl rfl hl.1 rfl (Nat.le_of_ble_eq_true rfl) ⟨Nat.le_of_ble_eq_true rfl, Nat.le_of_ble_eq_true rfl⟩ ⟨Nat.le_of_ble_eq_true rfl, Nat.le_of_ble_eq_true rfl⟩ dX12_script_28 (fun u39 H locs hp37 h => ?_)
          have h : xS D cy A s.heap ([(((u 0)), .inl (cy 2, 25710, .inr (.inl (fun _ => 0)))), (q, .inr (12, (.ref ((u 0)) :: .int 0 :: .long 0 :: .long 1 :: .ref ((u 1)) :: .ref ((u 2)) :: .ref ((u 3)) :: .ref ((u 4)) :: .ref ((u 5)) :: .int 0 :: .int 0 :: .int 0 :: .int 0 :: .int 0 :: .int 0 :: .int (-1) :: .int (-1) :: .int 0 :: .ref ((u 6)) :: .int 0 :: .int 0 :: .ref ((u 7)) :: .ref ((u 8)) :: .ref ((u 9)) :: .ref ((u 10)) :: .ref ((u 11)) :: .ref ((u 12)) :: .ref ((u 13)) :: .int 0 :: .int 0 :: .int (-1) :: .int 0 :: .int (-1) :: .int 0 :: .ref ((u 14)) :: .int 0 :: .int 0 :: .int 0 :: .int 0 :: .int 0 :: .ref ((u 15)) :: .ref ((u 16)) :: .int 0 :: .int (-1) :: .int 0 :: .int 0 :: .int 0 :: .int 0 :: .ref ((u 17)) :: .ref ((u 18)) :: .ref ((u 19)) :: .int 0 :: .ref ((u 20)) :: .ref ((u 21)) :: .int 0 :: .ref ((u 22)) :: .int (-1) :: .int 0 :: .ref ((u 23)) :: .int (-1) :: .int (-1) :: .int 0 :: .ref ((u 24)) :: .ref ((u 25)) :: .int 0 :: [])))]) s H locs := h
          refine lv_iconst (v := 0) F.1 F.2.1 dX12_script_31 (by decide) ?_
          refine lv_istore_n (lv' := [(3, .int 0), (0, .ref q), (1, .int 1), (2, .int 0)]) F.1 F.2.1 dX12_script_32 rfl hl (by decide) rfl (fun ls hl => ?_)
          refine x_loop (fun (g40 : Unit) => [(((u 0)), .inl (cy 2, 25710, .inr (.inl (fun _ => 0)))), (q, .inr (12, (.ref ((u 0)) :: .int 0 :: .long 0 :: .long 1 :: .ref ((u 1)) :: .ref ((u 2)) :: .ref ((u 3)) :: .ref ((u 4)) :: .ref ((u 5)) :: .int 0 :: .int 0 :: .int 0 :: .int 0 :: .int 0 :: .int 0 :: .int (-1) :: .int (-1) :: .int 0 :: .ref ((u 6)) :: .int 0 :: .int 0 :: .ref ((u 7)) :: .ref ((u 8)) :: .ref ((u 9)) :: .ref ((u 10)) :: .ref ((u 11)) :: .ref ((u 12)) :: .ref ((u 13)) :: .int 0 :: .int 0 :: .int (-1) :: .int 0 :: .int (-1) :: .int 0 :: .ref ((u 14)) :: .int 0 :: .int 0 :: .int 0 :: .int 0 :: .int 0 :: .ref ((u 15)) :: .ref ((u 16)) :: .int 0 :: .int (-1) :: .int 0 :: .int 0 :: .int 0 :: .int 0 :: .ref ((u 17)) :: .ref ((u 18)) :: .ref ((u 19)) :: .int 0 :: .ref ((u 20)) :: .ref ((u 21)) :: .int 0 :: .ref ((u 22)) :: .int (-1) :: .int 0 :: .ref ((u 23)) :: .int (-1) :: .int (-1) :: .int 0 :: .ref ((u 24)) :: .ref ((u 25)) :: .int 0 :: [])))]) 1650 (fun i => [(3, .int i), (0, .ref q), (1, .int 1), (2, .int 0)]) (fun g40 H locs ls h hl => ?_) (fun j41 g40 H locs ls hj42 h hl ih43 => ?_) 0 () _ _ _ (by decide) h (lv_sub hl [0, 1, 2, 3] rfl)
          · have hl : lv_has ls 5 [(3, .int 1650), (0, .ref q), (1, .int 1), (2, .int 0)] := hl
            refine lv_iload_n F.1 F.2.1 dX12_script_33 rfl (lv_at hl 0 rfl) ?_
            refine lv_sipush (v := 1650) F.1 F.2.1 dX12_script_34 (by decide) ?_
            refine lv_icmp_ge (tgt := 57) F.1 F.2.1 dX12_script_37 (by decide) (fun _ => ?_) (fun hc => absurd (by decide) hc)
            refine lv_aload_n F.1 F.2.1 dX12_script_57 rfl (lv_at hl 1 rfl) ?_
            refine x_Vv (wr := [(((u 0)), .inl (cy 2, 25710, .inr (.inl (fun _ => 0))))]) F h yk_X12_ahead0 mw_468 mw_469 mw_470 (c_m_ahead0 l D cy q u ) [1] [0] 1 rfl rfl rfl rfl (by decide) rfl rfl hl.1 rfl (Nat.le_of_ble_eq_true rfl) ⟨Nat.le_of_ble_eq_true rfl, Nat.le_of_ble_eq_true rfl⟩ ⟨Nat.le_of_ble_eq_true rfl, Nat.le_of_ble_eq_true rfl⟩ dX12_script_58 (fun u46 H locs hp44 h => ?_)
            have h : xS D cy A s.heap ([(((u 0)), .inl (cy 2, 25710, .inr (.inl (fun _ => 0)))), (q, .inr (12, (.ref ((u 0)) :: .int 0 :: .long 0 :: .long 1 :: .ref ((u 1)) :: .ref ((u 2)) :: .ref ((u 3)) :: .ref ((u 4)) :: .ref ((u 5)) :: .int 0 :: .int 0 :: .int 0 :: .int 0 :: .int 0 :: .int (-1) :: .int (-1) :: .int (-1) :: .int 0 :: .ref ((u 6)) :: .int 0 :: .int 0 :: .ref ((u 7)) :: .ref ((u 8)) :: .ref ((u 9)) :: .ref ((u 10)) :: .ref ((u 11)) :: .ref ((u 12)) :: .ref ((u 13)) :: .int 0 :: .int 0 :: .int (-1) :: .int 0 :: .int (-1) :: .int 0 :: .ref ((u 14)) :: .int 0 :: .int 0 :: .int 0 :: .int 0 :: .int 0 :: .ref ((u 15)) :: .ref ((u 16)) :: .int 0 :: .int (-1) :: .int 0 :: .int 0 :: .int 0 :: .int 0 :: .ref ((u 17)) :: .ref ((u 18)) :: .ref ((u 19)) :: .int 0 :: .ref ((u 20)) :: .ref ((u 21)) :: .int 0 :: .ref ((u 22)) :: .int (-1) :: .int 0 :: .ref ((u 23)) :: .int (-1) :: .int (-1) :: .int 0 :: .ref ((u 24)) :: .ref ((u 25)) :: .int 0 :: [])))]) s H locs := h
            refine lv_aload_n F.1 F.2.1 dX12_script_61 rfl (lv_at hl 1 rfl) ?_
            refine x_get F h 1 11 inlX12 rfl (by decide) mw_466 dX12_script_62 rfl rfl ?_
            refine lv_if_eq (tgt := 72) F.1 F.2.1 dX12_script_65 (by decide) (fun _ => ?_) (fun hc => absurd (by decide) hc)
            refine lv_iconst (v := 0) F.1 F.2.1 dX12_script_72 (by decide) ?_
            refine lv_istore_n (lv' := [(3, .int 0), (0, .ref q), (1, .int 1), (2, .int 0)]) F.1 F.2.1 dX12_script_73 rfl hl (by decide) rfl (fun ls hl => ?_)
            refine lv_iload_n F.1 F.2.1 dX12_script_74 rfl (lv_at hl 0 rfl) ?_
            refine lv_if_eq (tgt := 101) F.1 F.2.1 dX12_script_75 (by decide) (fun _ => ?_) (fun hc => absurd (by decide) hc)
            refine lv_aload_n F.1 F.2.1 dX12_script_101 rfl (lv_at hl 1 rfl) ?_
            refine x_get F h 1 17 inlX12 rfl (by decide) mw_450 dX12_script_102 rfl rfl ?_
            refine lv_if_ne (tgt := 182) F.1 F.2.1 dX12_script_105 (by decide) (fun hc => absurd hc (by decide)) (fun _ => ?_)
            refine lv_aload_n F.1 F.2.1 dX12_script_108 rfl (lv_at hl 1 rfl) ?_
            refine lv_iconst (v := (-1)) F.1 F.2.1 dX12_script_109 (by decide) ?_
            refine x_put F h 1 20 inlX12 tyX12_ok nmX12 rfl (by decide) mw_634 dX12_script_110 rfl rfl rfl rfl (Nat.le_of_ble_eq_true rfl) (ws' := [(((u 0)), .inl (cy 2, 25710, .inr (.inl (fun _ => 0)))), (q, .inr (12, (.ref ((u 0)) :: .int 0 :: .long 0 :: .long 1 :: .ref ((u 1)) :: .ref ((u 2)) :: .ref ((u 3)) :: .ref ((u 4)) :: .ref ((u 5)) :: .int 0 :: .int 0 :: .int 0 :: .int 0 :: .int 0 :: .int (-1) :: .int (-1) :: .int (-1) :: .int 0 :: .ref ((u 6)) :: .int 0 :: .int (-1) :: .ref ((u 7)) :: .ref ((u 8)) :: .ref ((u 9)) :: .ref ((u 10)) :: .ref ((u 11)) :: .ref ((u 12)) :: .ref ((u 13)) :: .int 0 :: .int 0 :: .int (-1) :: .int 0 :: .int (-1) :: .int 0 :: .ref ((u 14)) :: .int 0 :: .int 0 :: .int 0 :: .int 0 :: .int 0 :: .ref ((u 15)) :: .ref ((u 16)) :: .int 0 :: .int (-1) :: .int 0 :: .int 0 :: .int 0 :: .int 0 :: .ref ((u 17)) :: .ref ((u 18)) :: .ref ((u 19)) :: .int 0 :: .ref ((u 20)) :: .ref ((u 21)) :: .int 0 :: .ref ((u 22)) :: .int (-1) :: .int 0 :: .ref ((u 23)) :: .int (-1) :: .int (-1) :: .int 0 :: .ref ((u 24)) :: .ref ((u 25)) :: .int 0 :: [])))]) rfl (fun H locs h => ?_)
            refine lv_iconst (v := 0) F.1 F.2.1 dX12_script_113 (by decide) ?_
            refine lv_istore (lv' := [(4, .int 0), (3, .int 0), (0, .ref q), (1, .int 1), (2, .int 0)]) F.1 F.2.1 dX12_script_114 hl (by decide) rfl (fun ls hl => ?_)
            refine lv_iload F.1 F.2.1 dX12_script_116 (lv_at hl 0 rfl) ?_
            refine lv_i2l (v := 0) F.1 F.2.1 dX12_script_118 (by decide +kernel) ?_
            refine lv_aload_n F.1 F.2.1 dX12_script_119 rfl (lv_at hl 2 rfl) ?_
            refine x_get F h 1 0 inlX12 rfl (by decide) mw_202 dX12_script_120 rfl rfl ?_
            refine lv_sipush (v := 20761) F.1 F.2.1 dX12_script_123 (by decide) ?_
            refine x_lald (v := 0) F h 0 rfl rfl (x_in (by decide +kernel)) rfl dX12_script_126 ?_
            refine W.lcmp F.1 F.2.1 dX12_script_127 ?_
            refine x_topi (y := 0) (by decide +kernel) ?_
            refine lv_if_ge (tgt := 153) F.1 F.2.1 dX12_script_128 (by decide) (fun _ => ?_) (fun hc => absurd (by decide) hc)
            refine lv_aload_n F.1 F.2.1 dX12_script_153 rfl (lv_at hl 2 rfl) ?_
            refine lv_sipush (v := 22252) F.1 F.2.1 dX12_script_154 (by decide) ?_
            refine x_Vv (wr := []) F h yk_X12_leads mw_741 mw_742 mw_743 (c_m_leads l D cy q u ) [1, 0] [] 1 rfl rfl rfl rfl (by decide) rfl rfl hl.1 rfl (Nat.le_of_ble_eq_true rfl) ⟨Nat.le_of_ble_eq_true rfl, Nat.le_of_ble_eq_true rfl⟩ ⟨Nat.le_of_ble_eq_true rfl, Nat.le_of_ble_eq_true rfl⟩ dX12_script_157 (fun u49 H locs hp47 h => ?_)
            have h : xS D cy A s.heap ([(q, .inr (12, (.ref ((u 0)) :: .int 0 :: .long 0 :: .long 1 :: .ref ((u 1)) :: .ref ((u 2)) :: .ref ((u 3)) :: .ref ((u 4)) :: .ref ((u 5)) :: .int 0 :: .int 0 :: .int 0 :: .int 0 :: .int 0 :: .int (-1) :: .int (-1) :: .int (-1) :: .int 0 :: .ref ((u 6)) :: .int 0 :: .int (-1) :: .ref ((u 7)) :: .ref ((u 8)) :: .ref ((u 9)) :: .ref ((u 10)) :: .ref ((u 11)) :: .ref ((u 12)) :: .ref ((u 13)) :: .int 0 :: .int 0 :: .int (-1) :: .int 0 :: .int (-1) :: .int 0 :: .ref ((u 14)) :: .int 0 :: .int 0 :: .int 0 :: .int 0 :: .int 0 :: .ref ((u 15)) :: .ref ((u 16)) :: .int 0 :: .int (-1) :: .int 0 :: .int 0 :: .int 0 :: .int 0 :: .ref ((u 17)) :: .ref ((u 18)) :: .ref ((u 19)) :: .int 0 :: .ref ((u 20)) :: .ref ((u 21)) :: .int 0 :: .ref ((u 22)) :: .int (-1) :: .int 0 :: .ref ((u 23)) :: .int (-1) :: .int (-1) :: .int 0 :: .ref ((u 24)) :: .ref ((u 25)) :: .int 0 :: []))), (((u 0)), .inl (cy 2, 25710, .inr (.inl (fun _ => 0))))]) s H locs := h
            refine lv_aload_n F.1 F.2.1 dX12_script_160 rfl (lv_at hl 2 rfl) ?_
            refine x_get F h 0 20 inlX12 rfl (by decide) mw_634 dX12_script_161 rfl rfl ?_
            refine lv_iconst (v := (-1)) F.1 F.2.1 dX12_script_164 (by decide) ?_
            refine lv_icmp_eq (tgt := 182) F.1 F.2.1 dX12_script_165 (by decide) (fun _ => ?_) (fun hc => absurd (by decide) hc)
            refine lv_aload_n F.1 F.2.1 dX12_script_182 rfl (lv_at hl 2 rfl) ?_
            refine lv_aload_n F.1 F.2.1 dX12_script_183 rfl (lv_at hl 2 rfl) ?_
            refine x_get F h 0 17 inlX12 rfl (by decide) mw_450 dX12_script_184 rfl rfl ?_
            refine x_put F h 0 15 inlX12 tyX12_ok nmX12 rfl (by decide) mw_209 dX12_script_187 rfl rfl rfl rfl (Nat.le_of_ble_eq_true rfl) (ws' := [(q, .inr (12, (.ref ((u 0)) :: .int 0 :: .long 0 :: .long 1 :: .ref ((u 1)) :: .ref ((u 2)) :: .ref ((u 3)) :: .ref ((u 4)) :: .ref ((u 5)) :: .int 0 :: .int 0 :: .int 0 :: .int 0 :: .int 0 :: .int (-1) :: .int 0 :: .int (-1) :: .int 0 :: .ref ((u 6)) :: .int 0 :: .int (-1) :: .ref ((u 7)) :: .ref ((u 8)) :: .ref ((u 9)) :: .ref ((u 10)) :: .ref ((u 11)) :: .ref ((u 12)) :: .ref ((u 13)) :: .int 0 :: .int 0 :: .int (-1) :: .int 0 :: .int (-1) :: .int 0 :: .ref ((u 14)) :: .int 0 :: .int 0 :: .int 0 :: .int 0 :: .int 0 :: .ref ((u 15)) :: .ref ((u 16)) :: .int 0 :: .int (-1) :: .int 0 :: .int 0 :: .int 0 :: .int 0 :: .ref ((u 17)) :: .ref ((u 18)) :: .ref ((u 19)) :: .int 0 :: .ref ((u 20)) :: .ref ((u 21)) :: .int 0 :: .ref ((u 22)) :: .int (-1) :: .int 0 :: .ref ((u 23)) :: .int (-1) :: .int (-1) :: .int 0 :: .ref ((u 24)) :: .ref ((u 25)) :: .int 0 :: []))), (((u 0)), .inl (cy 2, 25710, .inr (.inl (fun _ => 0))))]) rfl (fun H locs h => ?_)
            refine lv_aload_n F.1 F.2.1 dX12_script_190 rfl (lv_at hl 2 rfl) ?_
            refine x_get F h 0 17 inlX12 rfl (by decide) mw_450 dX12_script_191 rfl rfl ?_
            refine lv_if_le (tgt := 204) F.1 F.2.1 dX12_script_194 (by decide) (fun _ => ?_) (fun hc => absurd (by decide) hc)
            refine lv_aload_n F.1 F.2.1 dX12_script_204 rfl (lv_at hl 2 rfl) ?_
            refine lv_sipush (v := 20760) F.1 F.2.1 dX12_script_205 (by decide) ?_
            refine x_Vv (wr := []) F h yk_X12_fresh mw_745 mw_746 mw_747 (c_m_fresh20760 l D cy q u ) [0, 1] [] 0 rfl rfl rfl rfl (by decide) rfl rfl hl.1 rfl (Nat.le_of_ble_eq_true rfl) ⟨Nat.le_of_ble_eq_true rfl, Nat.le_of_ble_eq_true rfl⟩ ⟨Nat.le_of_ble_eq_true rfl, Nat.le_of_ble_eq_true rfl⟩ dX12_script_208 (fun u52 H locs hp50 h => ?_)
            have h : xS D cy A s.heap ([(q, .inr (12, (.ref ((u 0)) :: .int 0 :: .long 0 :: .long 1 :: .ref ((u 1)) :: .ref ((u 2)) :: .ref ((u 3)) :: .ref ((u 4)) :: .ref ((u 5)) :: .int 0 :: .int 0 :: .int 0 :: .int 0 :: .int 0 :: .int (-1) :: .int 0 :: .int (-1) :: .int 0 :: .ref ((u 6)) :: .int 0 :: .int (-1) :: .ref ((u 7)) :: .ref ((u 8)) :: .ref ((u 9)) :: .ref ((u 10)) :: .ref ((u 11)) :: .ref ((u 12)) :: .ref ((u 13)) :: .int 0 :: .int 0 :: .int (-1) :: .int 0 :: .int (-1) :: .int 0 :: .ref ((u 14)) :: .int 0 :: .int 0 :: .int 0 :: .int 0 :: .int 0 :: .ref ((u 15)) :: .ref ((u 16)) :: .int 0 :: .int (-1) :: .int 0 :: .int 0 :: .int 0 :: .int 0 :: .ref ((u 17)) :: .ref ((u 18)) :: .ref ((u 19)) :: .int 0 :: .ref ((u 20)) :: .ref ((u 21)) :: .int 0 :: .ref ((u 22)) :: .int (-1) :: .int 0 :: .ref ((u 23)) :: .int (-1) :: .int (-1) :: .int 0 :: .ref ((u 24)) :: .ref ((u 25)) :: .int 0 :: []))), (((u 0)), .inl (cy 2, 25710, .inr (.inl (fun _ => 0))))]) s H locs := h
            refine lv_aload_n F.1 F.2.1 dX12_script_211 rfl (lv_at hl 2 rfl) ?_
            refine lv_sipush (v := 20760) F.1 F.2.1 dX12_script_212 (by decide) ?_
            refine lv_sipush (v := 1650) F.1 F.2.1 dX12_script_215 (by decide) ?_
            refine lv_iload_n F.1 F.2.1 dX12_script_218 rfl (lv_at hl 3 rfl) ?_
            refine lv_imul F.1 F.2.1 dX12_script_219 ?_
            refine x_topi (y := 1650) (by decide +kernel) ?_
            refine lv_sipush (v := 1650) F.1 F.2.1 dX12_script_220 (by decide) ?_
            refine x_Vv (wr := []) F h yk_X12_copies mw_749 mw_750 mw_751 (c_m_copies1 l D cy q u ) [0, 1] [] 0 rfl rfl rfl rfl (by decide) rfl rfl hl.1 rfl (Nat.le_of_ble_eq_true rfl) ⟨Nat.le_of_ble_eq_true rfl, Nat.le_of_ble_eq_true rfl⟩ ⟨Nat.le_of_ble_eq_true rfl, Nat.le_of_ble_eq_true rfl⟩ dX12_script_223 (fun u55 H locs hp53 h => ?_)
            have h : xS D cy A s.heap ([(q, .inr (12, (.ref ((u 0)) :: .int 0 :: .long 0 :: .long 1 :: .ref ((u 1)) :: .ref ((u 2)) :: .ref ((u 3)) :: .ref ((u 4)) :: .ref ((u 5)) :: .int 0 :: .int 0 :: .int 0 :: .int 0 :: .int 0 :: .int (-1) :: .int 0 :: .int (-1) :: .int 0 :: .ref ((u 6)) :: .int 0 :: .int (-1) :: .ref ((u 7)) :: .ref ((u 8)) :: .ref ((u 9)) :: .ref ((u 10)) :: .ref ((u 11)) :: .ref ((u 12)) :: .ref ((u 13)) :: .int 0 :: .int 0 :: .int (-1) :: .int 0 :: .int (-1) :: .int 0 :: .ref ((u 14)) :: .int 0 :: .int 0 :: .int 0 :: .int 0 :: .int 0 :: .ref ((u 15)) :: .ref ((u 16)) :: .int 0 :: .int (-1) :: .int 0 :: .int 0 :: .int 0 :: .int 0 :: .ref ((u 17)) :: .ref ((u 18)) :: .ref ((u 19)) :: .int 0 :: .ref ((u 20)) :: .ref ((u 21)) :: .int 0 :: .ref ((u 22)) :: .int (-1) :: .int 0 :: .ref ((u 23)) :: .int (-1) :: .int (-1) :: .int 0 :: .ref ((u 24)) :: .ref ((u 25)) :: .int 0 :: []))), (((u 0)), .inl (cy 2, 25710, .inr (.inl (fun _ => 0))))]) s H locs := h
            refine lv_aload_n F.1 F.2.1 dX12_script_226 rfl (lv_at hl 2 rfl) ?_
            refine lv_aload_n F.1 F.2.1 dX12_script_227 rfl (lv_at hl 2 rfl) ?_
            refine x_get F h 0 0 inlX12 rfl (by decide) mw_202 dX12_script_228 rfl rfl ?_
            refine lv_sipush (v := 20761) F.1 F.2.1 dX12_script_231 (by decide) ?_
            refine x_lald (v := 0) F h 1 rfl rfl (x_in (by decide +kernel)) rfl dX12_script_234 ?_
            refine lv_l2i (v := 0) F.1 F.2.1 dX12_script_235 (by decide +kernel) ?_
            refine x_Vi (wr := [(((u 0)), .inl (cy 2, 25710, .inr (.inl (fun _ => 0))))]) F h yk_X12_gives mw_499 mw_500 mw_501 (c_m_gives l D cy q ((.ref ((u 0)) :: .int 0 :: .long 0 :: .long 1 :: .ref ((u 1)) :: .ref ((u 2)) :: .ref ((u 3)) :: .ref ((u 4)) :: .ref ((u 5)) :: .int 0 :: .int 0 :: .int 0 :: .int 0 :: .int 0 :: .int (-1) :: .int 0 :: .int (-1) :: .int 0 :: .ref ((u 6)) :: .int 0 :: .int (-1) :: .ref ((u 7)) :: .ref ((u 8)) :: .ref ((u 9)) :: .ref ((u 10)) :: .ref ((u 11)) :: .ref ((u 12)) :: .ref ((u 13)) :: .int 0 :: .int 0 :: .int (-1) :: .int 0 :: .int (-1) :: .int 0 :: .ref ((u 14)) :: .int 0 :: .int 0 :: .int 0 :: .int 0 :: .int 0 :: .ref ((u 15)) :: .ref ((u 16)) :: .int 0 :: .int (-1) :: .int 0 :: .int 0 :: .int 0 :: .int 0 :: .ref ((u 17)) :: .ref ((u 18)) :: .ref ((u 19)) :: .int 0 :: .ref ((u 20)) :: .ref ((u 21)) :: .int 0 :: .ref ((u 22)) :: .int (-1) :: .int 0 :: .ref ((u 23)) :: .int (-1) :: .int (-1) :: .int 0 :: .ref ((u 24)) :: .ref ((u 25)) :: .int 0 :: [])) rfl 0) [0] [1] 0 rfl rfl rfl rfl (by decide) rfl rfl hl.1 rfl (Nat.le_of_ble_eq_true rfl) ⟨Nat.le_of_ble_eq_true rfl, Nat.le_of_ble_eq_true rfl⟩ ⟨Nat.le_of_ble_eq_true rfl, Nat.le_of_ble_eq_true rfl⟩ dX12_script_236 (fun r57 u58 H locs hp56 h => ?_)
            have h : xS D cy A s.heap ([(((u 0)), .inl (cy 2, 25710, .inr (.inl (fun _ => 0))))]) s H locs := h
            obtain rfl : r57 = 0 := hp56
            exact x_iret F h hr hlk rfl (fun _ => 0) [] (by simp [ht5, ht6]) (by decide +kernel) rfl (Nat.le_of_ble_eq_true rfl) (Nat.le_of_ble_eq_true rfl) dX12_script_239
          · have hl : lv_has ls 5 [(3, .int (nI j41)), (0, .ref q), (1, .int 1), (2, .int 0)] := hl
            refine lv_iload_n F.1 F.2.1 dX12_script_33 rfl (lv_at hl 0 rfl) ?_
            refine lv_sipush (v := 1650) F.1 F.2.1 dX12_script_34 (by decide) ?_
            refine lv_icmp_ge (tgt := 57) F.1 F.2.1 dX12_script_37 (by decide) (fun hc => absurd hc (x_nle (N := 1650) hj42 (by decide))) (fun _ => ?_)
            refine lv_aload_n F.1 F.2.1 dX12_script_40 rfl (lv_at hl 1 rfl) ?_
            refine x_get F h 1 0 inlX12 rfl (by decide) mw_202 dX12_script_41 rfl rfl ?_
            refine lv_sipush (v := 20760) F.1 F.2.1 dX12_script_44 (by decide) ?_
            refine lv_iload_n F.1 F.2.1 dX12_script_47 rfl (lv_at hl 0 rfl) ?_
            refine lv_iadd F.1 F.2.1 dX12_script_48 ?_
            refine x_topi (y := nI (20760 + j41)) (nI_add 20760 j41) ?_
            refine lv_lconst (v := 0) F.1 F.2.1 dX12_script_49 (by decide) ?_
            refine x_last F h 0 rfl rfl (vp_in_nI (by omega) (by decide)) dX12_script_50 (ws' := [(((u 0)), .inl (cy 2, 25710, .inr (.inl (fun _ => 0)))), (q, .inr (12, (.ref ((u 0)) :: .int 0 :: .long 0 :: .long 1 :: .ref ((u 1)) :: .ref ((u 2)) :: .ref ((u 3)) :: .ref ((u 4)) :: .ref ((u 5)) :: .int 0 :: .int 0 :: .int 0 :: .int 0 :: .int 0 :: .int 0 :: .int (-1) :: .int (-1) :: .int 0 :: .ref ((u 6)) :: .int 0 :: .int 0 :: .ref ((u 7)) :: .ref ((u 8)) :: .ref ((u 9)) :: .ref ((u 10)) :: .ref ((u 11)) :: .ref ((u 12)) :: .ref ((u 13)) :: .int 0 :: .int 0 :: .int (-1) :: .int 0 :: .int (-1) :: .int 0 :: .ref ((u 14)) :: .int 0 :: .int 0 :: .int 0 :: .int 0 :: .int 0 :: .ref ((u 15)) :: .ref ((u 16)) :: .int 0 :: .int (-1) :: .int 0 :: .int 0 :: .int 0 :: .int 0 :: .ref ((u 17)) :: .ref ((u 18)) :: .ref ((u 19)) :: .int 0 :: .ref ((u 20)) :: .ref ((u 21)) :: .int 0 :: .ref ((u 22)) :: .int (-1) :: .int 0 :: .ref ((u 23)) :: .int (-1) :: .int (-1) :: .int 0 :: .ref ((u 24)) :: .ref ((u 25)) :: .int 0 :: [])))]) (by rw [x_z]; rfl) (fun H locs h => ?_)
            refine lv_iinc (v := (nI (j41 + 1))) (lv' := [(3, .int (nI (j41 + 1))), (0, .ref q), (1, .int 1), (2, .int 0)]) F.1 F.2.1 dX12_script_51 hl (k := 0) rfl (nI_1 j41) (by decide) rfl (fun ls hl => ?_)
            refine lv_goto (tgt := 33) F.1 F.2.1 dX12_script_54 (by decide) ?_
            exact ih43 () _ _ _ h (lv_sub hl [0, 1, 2, 3] rfl)
        · refine lv_aload_n F.1 F.2.1 dX12_script_26 rfl (lv_at hl 0 rfl) ?_
          refine lv_iload_n F.1 F.2.1 dX12_script_27 rfl (lv_at hl 2 rfl) ?_
          refine x_Vv (wr := [(((u 0)), .inl (cy 2, 25710, .inr (.inl (fun _ => 0))))]) F h yk_X12_begins mw_456 mw_457 mw_458 (c_m_begins l D cy q u ) [1] [0] 1 rfl rfl rfl rfl (by decide) rfl rfl hl.1 rfl (Nat.le_of_ble_eq_true rfl) ⟨Nat.le_of_ble_eq_true rfl, Nat.le_of_ble_eq_true rfl⟩ ⟨Nat.le_of_ble_eq_true rfl, Nat.le_of_ble_eq_true rfl⟩ dX12_script_28 (fun u61 H locs hp59 h => ?_)
          have h : xS D cy A s.heap ([(((u 0)), .inl (cy 2, 25710, .inr (.inl (fun _ => 0)))), (q, .inr (12, (.ref ((u 0)) :: .int 0 :: .long 0 :: .long 1 :: .ref ((u 1)) :: .ref ((u 2)) :: .ref ((u 3)) :: .ref ((u 4)) :: .ref ((u 5)) :: .int 0 :: .int 0 :: .int 0 :: .int 0 :: .int 0 :: .int 0 :: .int (-1) :: .int (-1) :: .int 0 :: .ref ((u 6)) :: .int 0 :: .int 0 :: .ref ((u 7)) :: .ref ((u 8)) :: .ref ((u 9)) :: .ref ((u 10)) :: .ref ((u 11)) :: .ref ((u 12)) :: .ref ((u 13)) :: .int 0 :: .int 0 :: .int (-1) :: .int 0 :: .int (-1) :: .int 0 :: .ref ((u 14)) :: .int 0 :: .int 0 :: .int 0 :: .int 0 :: .int 0 :: .ref ((u 15)) :: .ref ((u 16)) :: .int 0 :: .int (-1) :: .int 0 :: .int 0 :: .int 0 :: .int 0 :: .ref ((u 17)) :: .ref ((u 18)) :: .ref ((u 19)) :: .int 0 :: .ref ((u 20)) :: .ref ((u 21)) :: .int 0 :: .ref ((u 22)) :: .int (-1) :: .int 0 :: .ref ((u 23)) :: .int (-1) :: .int (-1) :: .int 0 :: .ref ((u 24)) :: .ref ((u 25)) :: .int 0 :: [])))]) s H locs := h
          refine lv_iconst (v := 0) F.1 F.2.1 dX12_script_31 (by decide) ?_
          refine lv_istore_n (lv' := [(3, .int 0), (0, .ref q), (1, .int 2), (2, .int 0)]) F.1 F.2.1 dX12_script_32 rfl hl (by decide) rfl (fun ls hl => ?_)
          refine x_loop (fun (g62 : Unit) => [(((u 0)), .inl (cy 2, 25710, .inr (.inl (fun _ => 0)))), (q, .inr (12, (.ref ((u 0)) :: .int 0 :: .long 0 :: .long 1 :: .ref ((u 1)) :: .ref ((u 2)) :: .ref ((u 3)) :: .ref ((u 4)) :: .ref ((u 5)) :: .int 0 :: .int 0 :: .int 0 :: .int 0 :: .int 0 :: .int 0 :: .int (-1) :: .int (-1) :: .int 0 :: .ref ((u 6)) :: .int 0 :: .int 0 :: .ref ((u 7)) :: .ref ((u 8)) :: .ref ((u 9)) :: .ref ((u 10)) :: .ref ((u 11)) :: .ref ((u 12)) :: .ref ((u 13)) :: .int 0 :: .int 0 :: .int (-1) :: .int 0 :: .int (-1) :: .int 0 :: .ref ((u 14)) :: .int 0 :: .int 0 :: .int 0 :: .int 0 :: .int 0 :: .ref ((u 15)) :: .ref ((u 16)) :: .int 0 :: .int (-1) :: .int 0 :: .int 0 :: .int 0 :: .int 0 :: .ref ((u 17)) :: .ref ((u 18)) :: .ref ((u 19)) :: .int 0 :: .ref ((u 20)) :: .ref ((u 21)) :: .int 0 :: .ref ((u 22)) :: .int (-1) :: .int 0 :: .ref ((u 23)) :: .int (-1) :: .int (-1) :: .int 0 :: .ref ((u 24)) :: .ref ((u 25)) :: .int 0 :: [])))]) 1650 (fun i => [(3, .int i), (0, .ref q), (1, .int 2), (2, .int 0)]) (fun g62 H locs ls h hl => ?_) (fun j63 g62 H locs ls hj64 h hl ih65 => ?_) 0 () _ _ _ (by decide) h (lv_sub hl [0, 1, 2, 3] rfl)
          · have hl : lv_has ls 5 [(3, .int 1650), (0, .ref q), (1, .int 2), (2, .int 0)] := hl
            refine lv_iload_n F.1 F.2.1 dX12_script_33 rfl (lv_at hl 0 rfl) ?_
            refine lv_sipush (v := 1650) F.1 F.2.1 dX12_script_34 (by decide) ?_
            refine lv_icmp_ge (tgt := 57) F.1 F.2.1 dX12_script_37 (by decide) (fun _ => ?_) (fun hc => absurd (by decide) hc)
            refine lv_aload_n F.1 F.2.1 dX12_script_57 rfl (lv_at hl 1 rfl) ?_
            refine x_Vv (wr := [(((u 0)), .inl (cy 2, 25710, .inr (.inl (fun _ => 0))))]) F h yk_X12_ahead0 mw_468 mw_469 mw_470 (c_m_ahead0 l D cy q u ) [1] [0] 1 rfl rfl rfl rfl (by decide) rfl rfl hl.1 rfl (Nat.le_of_ble_eq_true rfl) ⟨Nat.le_of_ble_eq_true rfl, Nat.le_of_ble_eq_true rfl⟩ ⟨Nat.le_of_ble_eq_true rfl, Nat.le_of_ble_eq_true rfl⟩ dX12_script_58 (fun u68 H locs hp66 h => ?_)
            have h : xS D cy A s.heap ([(((u 0)), .inl (cy 2, 25710, .inr (.inl (fun _ => 0)))), (q, .inr (12, (.ref ((u 0)) :: .int 0 :: .long 0 :: .long 1 :: .ref ((u 1)) :: .ref ((u 2)) :: .ref ((u 3)) :: .ref ((u 4)) :: .ref ((u 5)) :: .int 0 :: .int 0 :: .int 0 :: .int 0 :: .int 0 :: .int (-1) :: .int (-1) :: .int (-1) :: .int 0 :: .ref ((u 6)) :: .int 0 :: .int 0 :: .ref ((u 7)) :: .ref ((u 8)) :: .ref ((u 9)) :: .ref ((u 10)) :: .ref ((u 11)) :: .ref ((u 12)) :: .ref ((u 13)) :: .int 0 :: .int 0 :: .int (-1) :: .int 0 :: .int (-1) :: .int 0 :: .ref ((u 14)) :: .int 0 :: .int 0 :: .int 0 :: .int 0 :: .int 0 :: .ref ((u 15)) :: .ref ((u 16)) :: .int 0 :: .int (-1) :: .int 0 :: .int 0 :: .int 0 :: .int 0 :: .ref ((u 17)) :: .ref ((u 18)) :: .ref ((u 19)) :: .int 0 :: .ref ((u 20)) :: .ref ((u 21)) :: .int 0 :: .ref ((u 22)) :: .int (-1) :: .int 0 :: .ref ((u 23)) :: .int (-1) :: .int (-1) :: .int 0 :: .ref ((u 24)) :: .ref ((u 25)) :: .int 0 :: [])))]) s H locs := h
            refine lv_aload_n F.1 F.2.1 dX12_script_61 rfl (lv_at hl 1 rfl) ?_
            refine x_get F h 1 11 inlX12 rfl (by decide) mw_466 dX12_script_62 rfl rfl ?_
            refine lv_if_eq (tgt := 72) F.1 F.2.1 dX12_script_65 (by decide) (fun _ => ?_) (fun hc => absurd (by decide) hc)
            refine lv_iconst (v := 0) F.1 F.2.1 dX12_script_72 (by decide) ?_
            refine lv_istore_n (lv' := [(3, .int 0), (0, .ref q), (1, .int 2), (2, .int 0)]) F.1 F.2.1 dX12_script_73 rfl hl (by decide) rfl (fun ls hl => ?_)
            refine lv_iload_n F.1 F.2.1 dX12_script_74 rfl (lv_at hl 0 rfl) ?_
            refine lv_if_eq (tgt := 101) F.1 F.2.1 dX12_script_75 (by decide) (fun _ => ?_) (fun hc => absurd (by decide) hc)
            refine lv_aload_n F.1 F.2.1 dX12_script_101 rfl (lv_at hl 1 rfl) ?_
            refine x_get F h 1 17 inlX12 rfl (by decide) mw_450 dX12_script_102 rfl rfl ?_
            refine lv_if_ne (tgt := 182) F.1 F.2.1 dX12_script_105 (by decide) (fun hc => absurd hc (by decide)) (fun _ => ?_)
            refine lv_aload_n F.1 F.2.1 dX12_script_108 rfl (lv_at hl 1 rfl) ?_
            refine lv_iconst (v := (-1)) F.1 F.2.1 dX12_script_109 (by decide) ?_
            refine x_put F h 1 20 inlX12 tyX12_ok nmX12 rfl (by decide) mw_634 dX12_script_110 rfl rfl rfl rfl (Nat.le_of_ble_eq_true rfl) (ws' := [(((u 0)), .inl (cy 2, 25710, .inr (.inl (fun _ => 0)))), (q, .inr (12, (.ref ((u 0)) :: .int 0 :: .long 0 :: .long 1 :: .ref ((u 1)) :: .ref ((u 2)) :: .ref ((u 3)) :: .ref ((u 4)) :: .ref ((u 5)) :: .int 0 :: .int 0 :: .int 0 :: .int 0 :: .int 0 :: .int (-1) :: .int (-1) :: .int (-1) :: .int 0 :: .ref ((u 6)) :: .int 0 :: .int (-1) :: .ref ((u 7)) :: .ref ((u 8)) :: .ref ((u 9)) :: .ref ((u 10)) :: .ref ((u 11)) :: .ref ((u 12)) :: .ref ((u 13)) :: .int 0 :: .int 0 :: .int (-1) :: .int 0 :: .int (-1) :: .int 0 :: .ref ((u 14)) :: .int 0 :: .int 0 :: .int 0 :: .int 0 :: .int 0 :: .ref ((u 15)) :: .ref ((u 16)) :: .int 0 :: .int (-1) :: .int 0 :: .int 0 :: .int 0 :: .int 0 :: .ref ((u 17)) :: .ref ((u 18)) :: .ref ((u 19)) :: .int 0 :: .ref ((u 20)) :: .ref ((u 21)) :: .int 0 :: .ref ((u 22)) :: .int (-1) :: .int 0 :: .ref ((u 23)) :: .int (-1) :: .int (-1) :: .int 0 :: .ref ((u 24)) :: .ref ((u 25)) :: .int 0 :: [])))]) rfl (fun H locs h => ?_)
            refine lv_iconst (v := 0) F.1 F.2.1 dX12_script_113 (by decide) ?_
            refine lv_istore (lv' := [(4, .int 0), (3, .int 0), (0, .ref q), (1, .int 2), (2, .int 0)]) F.1 F.2.1 dX12_script_114 hl (by decide) rfl (fun ls hl => ?_)
            refine lv_iload F.1 F.2.1 dX12_script_116 (lv_at hl 0 rfl) ?_
            refine lv_i2l (v := 0) F.1 F.2.1 dX12_script_118 (by decide +kernel) ?_
            refine lv_aload_n F.1 F.2.1 dX12_script_119 rfl (lv_at hl 2 rfl) ?_
            refine x_get F h 1 0 inlX12 rfl (by decide) mw_202 dX12_script_120 rfl rfl ?_
            refine lv_sipush (v := 20761) F.1 F.2.1 dX12_script_123 (by decide) ?_
            refine x_lald (v := 0) F h 0 rfl rfl (x_in (by decide +kernel)) rfl dX12_script_126 ?_
            refine W.lcmp F.1 F.2.1 dX12_script_127 ?_
            refine x_topi (y := 0) (by decide +kernel) ?_
            refine lv_if_ge (tgt := 153) F.1 F.2.1 dX12_script_128 (by decide) (fun _ => ?_) (fun hc => absurd (by decide) hc)
            refine lv_aload_n F.1 F.2.1 dX12_script_153 rfl (lv_at hl 2 rfl) ?_
            refine lv_sipush (v := 22252) F.1 F.2.1 dX12_script_154 (by decide) ?_
            refine x_Vv (wr := []) F h yk_X12_leads mw_741 mw_742 mw_743 (c_m_leads l D cy q u ) [1, 0] [] 1 rfl rfl rfl rfl (by decide) rfl rfl hl.1 rfl (Nat.le_of_ble_eq_true rfl) ⟨Nat.le_of_ble_eq_true rfl, Nat.le_of_ble_eq_true rfl⟩ ⟨Nat.le_of_ble_eq_true rfl, Nat.le_of_ble_eq_true rfl⟩ dX12_script_157 (fun u71 H locs hp69 h => ?_)
            have h : xS D cy A s.heap ([(q, .inr (12, (.ref ((u 0)) :: .int 0 :: .long 0 :: .long 1 :: .ref ((u 1)) :: .ref ((u 2)) :: .ref ((u 3)) :: .ref ((u 4)) :: .ref ((u 5)) :: .int 0 :: .int 0 :: .int 0 :: .int 0 :: .int 0 :: .int (-1) :: .int (-1) :: .int (-1) :: .int 0 :: .ref ((u 6)) :: .int 0 :: .int (-1) :: .ref ((u 7)) :: .ref ((u 8)) :: .ref ((u 9)) :: .ref ((u 10)) :: .ref ((u 11)) :: .ref ((u 12)) :: .ref ((u 13)) :: .int 0 :: .int 0 :: .int (-1) :: .int 0 :: .int (-1) :: .int 0 :: .ref ((u 14)) :: .int 0 :: .int 0 :: .int 0 :: .int 0 :: .int 0 :: .ref ((u 15)) :: .ref ((u 16)) :: .int 0 :: .int (-1) :: .int 0 :: .int 0 :: .int 0 :: .int 0 :: .ref ((u 17)) :: .ref ((u 18)) :: .ref ((u 19)) :: .int 0 :: .ref ((u 20)) :: .ref ((u 21)) :: .int 0 :: .ref ((u 22)) :: .int (-1) :: .int 0 :: .ref ((u 23)) :: .int (-1) :: .int (-1) :: .int 0 :: .ref ((u 24)) :: .ref ((u 25)) :: .int 0 :: []))), (((u 0)), .inl (cy 2, 25710, .inr (.inl (fun _ => 0))))]) s H locs := h
            refine lv_aload_n F.1 F.2.1 dX12_script_160 rfl (lv_at hl 2 rfl) ?_
            refine x_get F h 0 20 inlX12 rfl (by decide) mw_634 dX12_script_161 rfl rfl ?_
            refine lv_iconst (v := (-1)) F.1 F.2.1 dX12_script_164 (by decide) ?_
            refine lv_icmp_eq (tgt := 182) F.1 F.2.1 dX12_script_165 (by decide) (fun _ => ?_) (fun hc => absurd (by decide) hc)
            refine lv_aload_n F.1 F.2.1 dX12_script_182 rfl (lv_at hl 2 rfl) ?_
            refine lv_aload_n F.1 F.2.1 dX12_script_183 rfl (lv_at hl 2 rfl) ?_
            refine x_get F h 0 17 inlX12 rfl (by decide) mw_450 dX12_script_184 rfl rfl ?_
            refine x_put F h 0 15 inlX12 tyX12_ok nmX12 rfl (by decide) mw_209 dX12_script_187 rfl rfl rfl rfl (Nat.le_of_ble_eq_true rfl) (ws' := [(q, .inr (12, (.ref ((u 0)) :: .int 0 :: .long 0 :: .long 1 :: .ref ((u 1)) :: .ref ((u 2)) :: .ref ((u 3)) :: .ref ((u 4)) :: .ref ((u 5)) :: .int 0 :: .int 0 :: .int 0 :: .int 0 :: .int 0 :: .int (-1) :: .int 0 :: .int (-1) :: .int 0 :: .ref ((u 6)) :: .int 0 :: .int (-1) :: .ref ((u 7)) :: .ref ((u 8)) :: .ref ((u 9)) :: .ref ((u 10)) :: .ref ((u 11)) :: .ref ((u 12)) :: .ref ((u 13)) :: .int 0 :: .int 0 :: .int (-1) :: .int 0 :: .int (-1) :: .int 0 :: .ref ((u 14)) :: .int 0 :: .int 0 :: .int 0 :: .int 0 :: .int 0 :: .ref ((u 15)) :: .ref ((u 16)) :: .int 0 :: .int (-1) :: .int 0 :: .int 0 :: .int 0 :: .int 0 :: .ref ((u 17)) :: .ref ((u 18)) :: .ref ((u 19)) :: .int 0 :: .ref ((u 20)) :: .ref ((u 21)) :: .int 0 :: .ref ((u 22)) :: .int (-1) :: .int 0 :: .ref ((u 23)) :: .int (-1) :: .int (-1) :: .int 0 :: .ref ((u 24)) :: .ref ((u 25)) :: .int 0 :: []))), (((u 0)), .inl (cy 2, 25710, .inr (.inl (fun _ => 0))))]) rfl (fun H locs h => ?_)
            refine lv_aload_n F.1 F.2.1 dX12_script_190 rfl (lv_at hl 2 rfl) ?_
            refine x_get F h 0 17 inlX12 rfl (by decide) mw_450 dX12_script_191 rfl rfl ?_
            refine lv_if_le (tgt := 204) F.1 F.2.1 dX12_script_194 (by decide) (fun _ => ?_) (fun hc => absurd (by decide) hc)
            refine lv_aload_n F.1 F.2.1 dX12_script_204 rfl (lv_at hl 2 rfl) ?_
            refine lv_sipush (v := 20760) F.1 F.2.1 dX12_script_205 (by decide) ?_
            refine x_Vv (wr := []) F h yk_X12_fresh mw_745 mw_746 mw_747 (c_m_fresh20760 l D cy q u ) [0, 1] [] 0 rfl rfl rfl rfl (by decide) rfl rfl hl.1 rfl (Nat.le_of_ble_eq_true rfl) ⟨Nat.le_of_ble_eq_true rfl, Nat.le_of_ble_eq_true rfl⟩ ⟨Nat.le_of_ble_eq_true rfl, Nat.le_of_ble_eq_true rfl⟩ dX12_script_208 (fun u74 H locs hp72 h => ?_)
            have h : xS D cy A s.heap ([(q, .inr (12, (.ref ((u 0)) :: .int 0 :: .long 0 :: .long 1 :: .ref ((u 1)) :: .ref ((u 2)) :: .ref ((u 3)) :: .ref ((u 4)) :: .ref ((u 5)) :: .int 0 :: .int 0 :: .int 0 :: .int 0 :: .int 0 :: .int (-1) :: .int 0 :: .int (-1) :: .int 0 :: .ref ((u 6)) :: .int 0 :: .int (-1) :: .ref ((u 7)) :: .ref ((u 8)) :: .ref ((u 9)) :: .ref ((u 10)) :: .ref ((u 11)) :: .ref ((u 12)) :: .ref ((u 13)) :: .int 0 :: .int 0 :: .int (-1) :: .int 0 :: .int (-1) :: .int 0 :: .ref ((u 14)) :: .int 0 :: .int 0 :: .int 0 :: .int 0 :: .int 0 :: .ref ((u 15)) :: .ref ((u 16)) :: .int 0 :: .int (-1) :: .int 0 :: .int 0 :: .int 0 :: .int 0 :: .ref ((u 17)) :: .ref ((u 18)) :: .ref ((u 19)) :: .int 0 :: .ref ((u 20)) :: .ref ((u 21)) :: .int 0 :: .ref ((u 22)) :: .int (-1) :: .int 0 :: .ref ((u 23)) :: .int (-1) :: .int (-1) :: .int 0 :: .ref ((u 24)) :: .ref ((u 25)) :: .int 0 :: []))), (((u 0)), .inl (cy 2, 25710, .inr (.inl (fun _ => 0))))]) s H locs := h
            refine lv_aload_n F.1 F.2.1 dX12_script_211 rfl (lv_at hl 2 rfl) ?_
            refine lv_sipush (v := 20760) F.1 F.2.1 dX12_script_212 (by decide) ?_
            refine lv_sipush (v := 1650) F.1 F.2.1 dX12_script_215 (by decide) ?_
            refine lv_iload_n F.1 F.2.1 dX12_script_218 rfl (lv_at hl 3 rfl) ?_
            refine lv_imul F.1 F.2.1 dX12_script_219 ?_
            refine x_topi (y := 3300) (by decide +kernel) ?_
            refine lv_sipush (v := 1650) F.1 F.2.1 dX12_script_220 (by decide) ?_
            refine x_Vv (wr := []) F h yk_X12_copies mw_749 mw_750 mw_751 (c_m_copies2 l D cy q u ) [0, 1] [] 0 rfl rfl rfl rfl (by decide) rfl rfl hl.1 rfl (Nat.le_of_ble_eq_true rfl) ⟨Nat.le_of_ble_eq_true rfl, Nat.le_of_ble_eq_true rfl⟩ ⟨Nat.le_of_ble_eq_true rfl, Nat.le_of_ble_eq_true rfl⟩ dX12_script_223 (fun u77 H locs hp75 h => ?_)
            have h : xS D cy A s.heap ([(q, .inr (12, (.ref ((u 0)) :: .int 0 :: .long 0 :: .long 1 :: .ref ((u 1)) :: .ref ((u 2)) :: .ref ((u 3)) :: .ref ((u 4)) :: .ref ((u 5)) :: .int 0 :: .int 0 :: .int 0 :: .int 0 :: .int 0 :: .int (-1) :: .int 0 :: .int (-1) :: .int 0 :: .ref ((u 6)) :: .int 0 :: .int (-1) :: .ref ((u 7)) :: .ref ((u 8)) :: .ref ((u 9)) :: .ref ((u 10)) :: .ref ((u 11)) :: .ref ((u 12)) :: .ref ((u 13)) :: .int 0 :: .int 0 :: .int (-1) :: .int 0 :: .int (-1) :: .int 0 :: .ref ((u 14)) :: .int 0 :: .int 0 :: .int 0 :: .int 0 :: .int 0 :: .ref ((u 15)) :: .ref ((u 16)) :: .int 0 :: .int (-1) :: .int 0 :: .int 0 :: .int 0 :: .int 0 :: .ref ((u 17)) :: .ref ((u 18)) :: .ref ((u 19)) :: .int 0 :: .ref ((u 20)) :: .ref ((u 21)) :: .int 0 :: .ref ((u 22)) :: .int (-1) :: .int 0 :: .ref ((u 23)) :: .int (-1) :: .int (-1) :: .int 0 :: .ref ((u 24)) :: .ref ((u 25)) :: .int 0 :: []))), (((u 0)), .inl (cy 2, 25710, .inr (.inl (fun _ => 0))))]) s H locs := h
            refine lv_aload_n F.1 F.2.1 dX12_script_226 rfl (lv_at hl 2 rfl) ?_
            refine lv_aload_n F.1 F.2.1 dX12_script_227 rfl (lv_at hl 2 rfl) ?_
            refine x_get F h 0 0 inlX12 rfl (by decide) mw_202 dX12_script_228 rfl rfl ?_
            refine lv_sipush (v := 20761) F.1 F.2.1 dX12_script_231 (by decide) ?_
            refine x_lald (v := 0) F h 1 rfl rfl (x_in (by decide +kernel)) rfl dX12_script_234 ?_
            refine lv_l2i (v := 0) F.1 F.2.1 dX12_script_235 (by decide +kernel) ?_
            refine x_Vi (wr := [(((u 0)), .inl (cy 2, 25710, .inr (.inl (fun _ => 0))))]) F h yk_X12_gives mw_499 mw_500 mw_501 (c_m_gives l D cy q ((.ref ((u 0)) :: .int 0 :: .long 0 :: .long 1 :: .ref ((u 1)) :: .ref ((u 2)) :: .ref ((u 3)) :: .ref ((u 4)) :: .ref ((u 5)) :: .int 0 :: .int 0 :: .int 0 :: .int 0 :: .int 0 :: .int (-1) :: .int 0 :: .int (-1) :: .int 0 :: .ref ((u 6)) :: .int 0 :: .int (-1) :: .ref ((u 7)) :: .ref ((u 8)) :: .ref ((u 9)) :: .ref ((u 10)) :: .ref ((u 11)) :: .ref ((u 12)) :: .ref ((u 13)) :: .int 0 :: .int 0 :: .int (-1) :: .int 0 :: .int (-1) :: .int 0 :: .ref ((u 14)) :: .int 0 :: .int 0 :: .int 0 :: .int 0 :: .int 0 :: .ref ((u 15)) :: .ref ((u 16)) :: .int 0 :: .int (-1) :: .int 0 :: .int 0 :: .int 0 :: .int 0 :: .ref ((u 17)) :: .ref ((u 18)) :: .ref ((u 19)) :: .int 0 :: .ref ((u 20)) :: .ref ((u 21)) :: .int 0 :: .ref ((u 22)) :: .int (-1) :: .int 0 :: .ref ((u 23)) :: .int (-1) :: .int (-1) :: .int 0 :: .ref ((u 24)) :: .ref ((u 25)) :: .int 0 :: [])) rfl 0) [0] [1] 0 rfl rfl rfl rfl (by decide) rfl rfl hl.1 rfl (Nat.le_of_ble_eq_true rfl) ⟨Nat.le_of_ble_eq_true rfl, Nat.le_of_ble_eq_true rfl⟩ ⟨Nat.le_of_ble_eq_true rfl, Nat.le_of_ble_eq_true rfl⟩ dX12_script_236 (fun r79 u80 H locs hp78 h => ?_)
            have h : xS D cy A s.heap ([(((u 0)), .inl (cy 2, 25710, .inr (.inl (fun _ => 0))))]) s H locs := h
            obtain rfl : r79 = 0 := hp78
            exact x_iret F h hr hlk rfl (fun _ => 0) [] (by simp [ht5, ht6]) (by decide +kernel) rfl (Nat.le_of_ble_eq_true rfl) (Nat.le_of_ble_eq_true rfl) dX12_script_239
          · have hl : lv_has ls 5 [(3, .int (nI j63)), (0, .ref q), (1, .int 2), (2, .int 0)] := hl
            refine lv_iload_n F.1 F.2.1 dX12_script_33 rfl (lv_at hl 0 rfl) ?_
            refine lv_sipush (v := 1650) F.1 F.2.1 dX12_script_34 (by decide) ?_
            refine lv_icmp_ge (tgt := 57) F.1 F.2.1 dX12_script_37 (by decide) (fun hc => absurd hc (x_nle (N := 1650) hj64 (by decide))) (fun _ => ?_)
            refine lv_aload_n F.1 F.2.1 dX12_script_40 rfl (lv_at hl 1 rfl) ?_
            refine x_get F h 1 0 inlX12 rfl (by decide) mw_202 dX12_script_41 rfl rfl ?_
            refine lv_sipush (v := 20760) F.1 F.2.1 dX12_script_44 (by decide) ?_
            refine lv_iload_n F.1 F.2.1 dX12_script_47 rfl (lv_at hl 0 rfl) ?_
            refine lv_iadd F.1 F.2.1 dX12_script_48 ?_
            refine x_topi (y := nI (20760 + j63)) (nI_add 20760 j63) ?_
            refine lv_lconst (v := 0) F.1 F.2.1 dX12_script_49 (by decide) ?_
            refine x_last F h 0 rfl rfl (vp_in_nI (by omega) (by decide)) dX12_script_50 (ws' := [(((u 0)), .inl (cy 2, 25710, .inr (.inl (fun _ => 0)))), (q, .inr (12, (.ref ((u 0)) :: .int 0 :: .long 0 :: .long 1 :: .ref ((u 1)) :: .ref ((u 2)) :: .ref ((u 3)) :: .ref ((u 4)) :: .ref ((u 5)) :: .int 0 :: .int 0 :: .int 0 :: .int 0 :: .int 0 :: .int 0 :: .int (-1) :: .int (-1) :: .int 0 :: .ref ((u 6)) :: .int 0 :: .int 0 :: .ref ((u 7)) :: .ref ((u 8)) :: .ref ((u 9)) :: .ref ((u 10)) :: .ref ((u 11)) :: .ref ((u 12)) :: .ref ((u 13)) :: .int 0 :: .int 0 :: .int (-1) :: .int 0 :: .int (-1) :: .int 0 :: .ref ((u 14)) :: .int 0 :: .int 0 :: .int 0 :: .int 0 :: .int 0 :: .ref ((u 15)) :: .ref ((u 16)) :: .int 0 :: .int (-1) :: .int 0 :: .int 0 :: .int 0 :: .int 0 :: .ref ((u 17)) :: .ref ((u 18)) :: .ref ((u 19)) :: .int 0 :: .ref ((u 20)) :: .ref ((u 21)) :: .int 0 :: .ref ((u 22)) :: .int (-1) :: .int 0 :: .ref ((u 23)) :: .int (-1) :: .int (-1) :: .int 0 :: .ref ((u 24)) :: .ref ((u 25)) :: .int 0 :: [])))]) (by rw [x_z]; rfl) (fun H locs h => ?_)
            refine lv_iinc (v := (nI (j63 + 1))) (lv' := [(3, .int (nI (j63 + 1))), (0, .ref q), (1, .int 2), (2, .int 0)]) F.1 F.2.1 dX12_script_51 hl (k := 0) rfl (nI_1 j63) (by decide) rfl (fun ls hl => ?_)
            refine lv_goto (tgt := 33) F.1 F.2.1 dX12_script_54 (by decide) ?_
            exact ih65 () _ _ _ h (lv_sub hl [0, 1, 2, 3] rfl)
      · refine lv_aload_n F.1 F.2.1 dX12_script_20 rfl (lv_at hl 0 rfl) ?_
        refine lv_iconst (v := 1) F.1 F.2.1 dX12_script_21 (by decide) ?_
        refine x_Vi (wr := [(((u 0)), .inl (cy 2, 25710, .inr (.inl (fun _ => 0))))]) F h yk_X12_refuse mw_452 mw_453 mw_454 (c_m_refuse l D cy q ((.ref ((u 0)) :: .int 0 :: .long 0 :: .long 1 :: .ref ((u 1)) :: .ref ((u 2)) :: .ref ((u 3)) :: .ref ((u 4)) :: .ref ((u 5)) :: .int 0 :: .int 0 :: .int 0 :: .int 0 :: .int 0 :: .int 0 :: .int (-1) :: .int (-1) :: .int 0 :: .ref ((u 6)) :: .int 0 :: .int 0 :: .ref ((u 7)) :: .ref ((u 8)) :: .ref ((u 9)) :: .ref ((u 10)) :: .ref ((u 11)) :: .ref ((u 12)) :: .ref ((u 13)) :: .int 0 :: .int 0 :: .int (-1) :: .int 0 :: .int (-1) :: .int 0 :: .ref ((u 14)) :: .int 0 :: .int 0 :: .int 0 :: .int 0 :: .int 0 :: .ref ((u 15)) :: .ref ((u 16)) :: .int 0 :: .int (-1) :: .int 0 :: .int 0 :: .int 0 :: .int 0 :: .ref ((u 17)) :: .ref ((u 18)) :: .ref ((u 19)) :: .int 0 :: .ref ((u 20)) :: .ref ((u 21)) :: .int 0 :: .ref ((u 22)) :: .int (-1) :: .int 0 :: .ref ((u 23)) :: .int (-1) :: .int (-1) :: .int 0 :: .ref ((u 24)) :: .ref ((u 25)) :: .int 0 :: [])) rfl 1) [1] [0] 1 rfl rfl rfl rfl (by decide) rfl rfl hl.1 rfl (Nat.le_of_ble_eq_true rfl) ⟨Nat.le_of_ble_eq_true rfl, Nat.le_of_ble_eq_true rfl⟩ ⟨Nat.le_of_ble_eq_true rfl, Nat.le_of_ble_eq_true rfl⟩ dX12_script_22 (fun r82 u83 H locs hp81 h => ?_)
        have h : xS D cy A s.heap ([(((u 0)), .inl (cy 2, 25710, .inr (.inl (fun _ => 0))))]) s H locs := h
        obtain rfl : r82 = (-1) := hp81
        exact x_iret F h hr hlk rfl (fun _ => 0) [] (by first | (rw [if_neg]; rintro rfl; revert hc14; decide) | (rw [if_neg]; rintro ⟨hx, rfl⟩; first | exact hx ht5 | (revert hc14; decide))) (by decide +kernel) rfl (Nat.le_of_ble_eq_true rfl) (Nat.le_of_ble_eq_true rfl) dX12_script_25
set_option maxHeartbeats 4000000 in
set_option maxRecDepth 100000 in
theorem c_m_fault (l : Launch) (D : va_G) (cy : Nat → ClassId) (q : Nat) (u : Nat → Nat) (k : Int32) : ∀ sz, Met l yX12_fault (Cond.code yX12_fault cX12_fault 2 (some .int) :: wsL_law) { frames := 0, cells := 0, slots := 0, locals := 0 } (va_Pc [.ref q, .int k] (xP D cy ([mM q u 0 0 0 (-1) 0]) sz)) (va_Qi (fun r _ => r = (-1)) (xB D (va_A ([mM q u 0 0 0 (-1) 0]) sz) (fun _ => [])) (va_A ([mM q u 0 0 0 (-1) 0]) sz)) 0 0 (va_A ([mM q u 0 0 0 (-1) 0]) sz) := by
  refine x_enter (fun A => va_Qi (fun r _ => r = (-1)) (xB D A (fun _ => [])) A) (by decide +kernel) rfl (Nat.le_of_ble_eq_true rfl) ?_
  intro p e s m below meth c A ls F hr hlk hin h hl
  have hl : lv_has ls 2 [(0, .ref q), (1, .int k)] := hl
  have h : xS D cy A s.heap ([(q, .inr (12, (.ref ((u 0)) :: .int 0 :: .long 0 :: .long 1 :: .ref ((u 1)) :: .ref ((u 2)) :: .ref ((u 3)) :: .ref ((u 4)) :: .ref ((u 5)) :: .int 0 :: .int 0 :: .int 0 :: .int 0 :: .int 0 :: .int 0 :: .int (-1) :: .int (-1) :: .int 0 :: .ref ((u 6)) :: .int 0 :: .int 0 :: .ref ((u 7)) :: .ref ((u 8)) :: .ref ((u 9)) :: .ref ((u 10)) :: .ref ((u 11)) :: .ref ((u 12)) :: .ref ((u 13)) :: .int 0 :: .int 0 :: .int (-1) :: .int 0 :: .int (-1) :: .int 0 :: .ref ((u 14)) :: .int 0 :: .int 0 :: .int 0 :: .int 0 :: .int 0 :: .ref ((u 15)) :: .ref ((u 16)) :: .int 0 :: .int (-1) :: .int 0 :: .int 0 :: .int 0 :: .int 0 :: .ref ((u 17)) :: .ref ((u 18)) :: .ref ((u 19)) :: .int 0 :: .ref ((u 20)) :: .ref ((u 21)) :: .int 0 :: .ref ((u 22)) :: .int (-1) :: .int 0 :: .ref ((u 23)) :: .int (-1) :: .int (-1) :: .int 0 :: .ref ((u 24)) :: .ref ((u 25)) :: .int 0 :: [])))]) s s.heap [] := h
  refine lv_iload_n F.1 F.2.1 dX12_fault_0 rfl (lv_at hl 1 rfl) ?_
  refine lv_if_ne (tgt := 11) F.1 F.2.1 dX12_fault_1 (by decide) (fun hc1 => ?_) (fun hc1 => ?_)
  · refine lv_iload_n F.1 F.2.1 dX12_fault_11 rfl (lv_at hl 1 rfl) ?_
    refine lv_iconst (v := 1) F.1 F.2.1 dX12_fault_12 (by decide) ?_
    refine lv_icmp_ne (tgt := 23) F.1 F.2.1 dX12_fault_13 (by decide) (fun hc2 => ?_) (fun hc2 => ?_)
    · refine lv_iconst (v := (-1)) F.1 F.2.1 dX12_fault_23 (by decide) ?_
      exact x_iret F h hr hlk rfl (fun _ => 0) [] (rfl) (by decide +kernel) rfl (Nat.le_of_ble_eq_true rfl) (Nat.le_of_ble_eq_true rfl) dX12_fault_24
    · refine lv_aload_n F.1 F.2.1 dX12_fault_16 rfl (lv_at hl 0 rfl) ?_
      refine x_get F h 0 16 inlX12 rfl (by decide) mw_210 dX12_fault_17 rfl rfl ?_
      refine lv_goto (tgt := 24) F.1 F.2.1 dX12_fault_20 (by decide) ?_
      exact x_iret F h hr hlk rfl (fun _ => 0) [] (rfl) (by decide +kernel) rfl (Nat.le_of_ble_eq_true rfl) (Nat.le_of_ble_eq_true rfl) dX12_fault_24
  · refine lv_aload_n F.1 F.2.1 dX12_fault_4 rfl (lv_at hl 0 rfl) ?_
    refine x_get F h 0 15 inlX12 rfl (by decide) mw_209 dX12_fault_5 rfl rfl ?_
    refine lv_goto (tgt := 24) F.1 F.2.1 dX12_fault_8 (by decide) ?_
    exact x_iret F h hr hlk rfl (fun _ => 0) [] (rfl) (by decide +kernel) rfl (Nat.le_of_ble_eq_true rfl) (Nat.le_of_ble_eq_true rfl) dX12_fault_24
set_option maxHeartbeats 4000000 in
set_option maxRecDepth 100000 in
theorem c_m_word (l : Launch) (D : va_G) (cy : Nat → ClassId) (q : Nat) (u : Nat → Nat) (k : Int32) (i : Int32) : ∀ sz, Met l yX12_word (Cond.code yX12_word cX12_word 4 (some .long) :: wsL_law) { frames := 1, cells := 0, slots := 0, locals := 22 } (va_Pc [.ref q, .int k, .int i] (xP D cy ([mM q u 0 0 0 (-1) 0, mA_at cy u]) sz)) (va_Ql (fun r _ => r = (-1)) (xB D (va_A ([mM q u 0 0 0 (-1) 0, mA_at cy u]) sz) (fun _ => [])) (va_A ([mM q u 0 0 0 (-1) 0, mA_at cy u]) sz)) 0 0 (va_A ([mM q u 0 0 0 (-1) 0, mA_at cy u]) sz) := by
  refine x_enter (fun A => va_Ql (fun r _ => r = (-1)) (xB D A (fun _ => [])) A) (by decide +kernel) rfl (Nat.le_of_ble_eq_true rfl) ?_
  intro p e s m below meth c A ls F hr hlk hin h hl
  have hl : lv_has ls 4 [(0, .ref q), (1, .int k), (2, .int i)] := hl
  have h : xS D cy A s.heap ([(q, .inr (12, (.ref ((u 0)) :: .int 0 :: .long 0 :: .long 1 :: .ref ((u 1)) :: .ref ((u 2)) :: .ref ((u 3)) :: .ref ((u 4)) :: .ref ((u 5)) :: .int 0 :: .int 0 :: .int 0 :: .int 0 :: .int 0 :: .int 0 :: .int (-1) :: .int (-1) :: .int 0 :: .ref ((u 6)) :: .int 0 :: .int 0 :: .ref ((u 7)) :: .ref ((u 8)) :: .ref ((u 9)) :: .ref ((u 10)) :: .ref ((u 11)) :: .ref ((u 12)) :: .ref ((u 13)) :: .int 0 :: .int 0 :: .int (-1) :: .int 0 :: .int (-1) :: .int 0 :: .ref ((u 14)) :: .int 0 :: .int 0 :: .int 0 :: .int 0 :: .int 0 :: .ref ((u 15)) :: .ref ((u 16)) :: .int 0 :: .int (-1) :: .int 0 :: .int 0 :: .int 0 :: .int 0 :: .ref ((u 17)) :: .ref ((u 18)) :: .ref ((u 19)) :: .int 0 :: .ref ((u 20)) :: .ref ((u 21)) :: .int 0 :: .ref ((u 22)) :: .int (-1) :: .int 0 :: .ref ((u 23)) :: .int (-1) :: .int (-1) :: .int 0 :: .ref ((u 24)) :: .ref ((u 25)) :: .int 0 :: []))), (((u 0)), .inl (cy 2, 25710, .inr (.inl (fun _ => 0))))]) s s.heap [] := h
  refine lv_aload_n F.1 F.2.1 dX12_word_0 rfl (lv_at hl 0 rfl) ?_
  refine lv_iload_n F.1 F.2.1 dX12_word_1 rfl (lv_at hl 1 rfl) ?_
  refine lv_i2l (v := k.toInt64) F.1 F.2.1 dX12_word_2 rfl ?_
  refine x_Vi (wr := []) F h yk_X12_isLine mw_797 mw_798 mw_799 (c_m_isLine l D cy q u k.toInt64) [0, 1] [] 0 rfl rfl rfl rfl (by decide) rfl rfl hl.1 rfl (Nat.le_of_ble_eq_true rfl) ⟨Nat.le_of_ble_eq_true rfl, Nat.le_of_ble_eq_true rfl⟩ ⟨Nat.le_of_ble_eq_true rfl, Nat.le_of_ble_eq_true rfl⟩ dX12_word_3 (fun r2 u3 H locs hp1 h => ?_)
  have h : xS D cy A s.heap ([(q, .inr (12, (.ref ((u 0)) :: .int 0 :: .long 0 :: .long 1 :: .ref ((u 1)) :: .ref ((u 2)) :: .ref ((u 3)) :: .ref ((u 4)) :: .ref ((u 5)) :: .int 0 :: .int 0 :: .int 0 :: .int 0 :: .int 0 :: .int 0 :: .int (-1) :: .int (-1) :: .int 0 :: .ref ((u 6)) :: .int 0 :: .int 0 :: .ref ((u 7)) :: .ref ((u 8)) :: .ref ((u 9)) :: .ref ((u 10)) :: .ref ((u 11)) :: .ref ((u 12)) :: .ref ((u 13)) :: .int 0 :: .int 0 :: .int (-1) :: .int 0 :: .int (-1) :: .int 0 :: .ref ((u 14)) :: .int 0 :: .int 0 :: .int 0 :: .int 0 :: .int 0 :: .ref ((u 15)) :: .ref ((u 16)) :: .int 0 :: .int (-1) :: .int 0 :: .int 0 :: .int 0 :: .int 0 :: .ref ((u 17)) :: .ref ((u 18)) :: .ref ((u 19)) :: .int 0 :: .ref ((u 20)) :: .ref ((u 21)) :: .int 0 :: .ref ((u 22)) :: .int (-1) :: .int 0 :: .ref ((u 23)) :: .int (-1) :: .int (-1) :: .int 0 :: .ref ((u 24)) :: .ref ((u 25)) :: .int 0 :: []))), (((u 0)), .inl (cy 2, 25710, .inr (.inl (fun _ => 0))))]) s H locs := h
  obtain rfl : r2 = 0 := hp1
  refine lv_if_eq (tgt := 14) F.1 F.2.1 dX12_word_6 (by decide) (fun _ => ?_) (fun hc => absurd (by decide) hc)
  refine lv_aload_n F.1 F.2.1 dX12_word_14 rfl (lv_at hl 0 rfl) ?_
  refine lv_iconst (v := 1) F.1 F.2.1 dX12_word_15 (by decide) ?_
  refine x_Vi (wr := [(((u 0)), .inl (cy 2, 25710, .inr (.inl (fun _ => 0))))]) F h yk_X12_refuse mw_452 mw_453 mw_454 (c_m_refuse l D cy q ((.ref ((u 0)) :: .int 0 :: .long 0 :: .long 1 :: .ref ((u 1)) :: .ref ((u 2)) :: .ref ((u 3)) :: .ref ((u 4)) :: .ref ((u 5)) :: .int 0 :: .int 0 :: .int 0 :: .int 0 :: .int 0 :: .int 0 :: .int (-1) :: .int (-1) :: .int 0 :: .ref ((u 6)) :: .int 0 :: .int 0 :: .ref ((u 7)) :: .ref ((u 8)) :: .ref ((u 9)) :: .ref ((u 10)) :: .ref ((u 11)) :: .ref ((u 12)) :: .ref ((u 13)) :: .int 0 :: .int 0 :: .int (-1) :: .int 0 :: .int (-1) :: .int 0 :: .ref ((u 14)) :: .int 0 :: .int 0 :: .int 0 :: .int 0 :: .int 0 :: .ref ((u 15)) :: .ref ((u 16)) :: .int 0 :: .int (-1) :: .int 0 :: .int 0 :: .int 0 :: .int 0 :: .ref ((u 17)) :: .ref ((u 18)) :: .ref ((u 19)) :: .int 0 :: .ref ((u 20)) :: .ref ((u 21)) :: .int 0 :: .ref ((u 22)) :: .int (-1) :: .int 0 :: .ref ((u 23)) :: .int (-1) :: .int (-1) :: .int 0 :: .ref ((u 24)) :: .ref ((u 25)) :: .int 0 :: [])) rfl 1) [0] [1] 0 rfl rfl rfl rfl (by decide) rfl rfl hl.1 rfl (Nat.le_of_ble_eq_true rfl) ⟨Nat.le_of_ble_eq_true rfl, Nat.le_of_ble_eq_true rfl⟩ ⟨Nat.le_of_ble_eq_true rfl, Nat.le_of_ble_eq_true rfl⟩ dX12_word_16 (fun r5 u6 H locs hp4 h => ?_)
  have h : xS D cy A s.heap ([(((u 0)), .inl (cy 2, 25710, .inr (.inl (fun _ => 0))))]) s H locs := h
  obtain rfl : r5 = (-1) := hp4
  refine lv_i2l (v := (-1)) F.1 F.2.1 dX12_word_19 (by decide +kernel) ?_
  exact x_lret F h hr hlk (fun _ => 0) [] (rfl) (by decide +kernel) rfl (Nat.le_of_ble_eq_true rfl) (Nat.le_of_ble_eq_true rfl) dX12_word_20
set_option maxHeartbeats 4000000 in
set_option maxRecDepth 100000 in
theorem c_m_rule (l : Launch) (D : va_G) (cy : Nat → ClassId) (q : Nat) (u : Nat → Nat) (sc : Int32) (ru : Int32) (k : Int32) : ∀ sz, Met l yX12_rule (Cond.code yX12_rule cX12_rule 5 (some .int) :: wsL_law) { frames := 1, cells := 0, slots := 0, locals := 21 } (va_Pc [.ref q, .int sc, .int ru, .int k] (xP D cy ([mM q u 0 0 0 (-1) 0, mA_at cy u]) sz)) (va_Qi (fun r _ => r = (-1)) (xB D (va_A ([mM q u 0 0 0 (-1) 0, mA_at cy u]) sz) (fun _ => [])) (va_A ([mM q u 0 0 0 (-1) 0, mA_at cy u]) sz)) 0 0 (va_A ([mM q u 0 0 0 (-1) 0, mA_at cy u]) sz) := by
  refine x_enter (fun A => va_Qi (fun r _ => r = (-1)) (xB D A (fun _ => [])) A) (by decide +kernel) rfl (Nat.le_of_ble_eq_true rfl) ?_
  intro p e s m below meth c A ls F hr hlk hin h hl
  have hl : lv_has ls 5 [(0, .ref q), (1, .int sc), (2, .int ru), (3, .int k)] := hl
  have h : xS D cy A s.heap ([(q, .inr (12, (.ref ((u 0)) :: .int 0 :: .long 0 :: .long 1 :: .ref ((u 1)) :: .ref ((u 2)) :: .ref ((u 3)) :: .ref ((u 4)) :: .ref ((u 5)) :: .int 0 :: .int 0 :: .int 0 :: .int 0 :: .int 0 :: .int 0 :: .int (-1) :: .int (-1) :: .int 0 :: .ref ((u 6)) :: .int 0 :: .int 0 :: .ref ((u 7)) :: .ref ((u 8)) :: .ref ((u 9)) :: .ref ((u 10)) :: .ref ((u 11)) :: .ref ((u 12)) :: .ref ((u 13)) :: .int 0 :: .int 0 :: .int (-1) :: .int 0 :: .int (-1) :: .int 0 :: .ref ((u 14)) :: .int 0 :: .int 0 :: .int 0 :: .int 0 :: .int 0 :: .ref ((u 15)) :: .ref ((u 16)) :: .int 0 :: .int (-1) :: .int 0 :: .int 0 :: .int 0 :: .int 0 :: .ref ((u 17)) :: .ref ((u 18)) :: .ref ((u 19)) :: .int 0 :: .ref ((u 20)) :: .ref ((u 21)) :: .int 0 :: .ref ((u 22)) :: .int (-1) :: .int 0 :: .ref ((u 23)) :: .int (-1) :: .int (-1) :: .int 0 :: .ref ((u 24)) :: .ref ((u 25)) :: .int 0 :: []))), (((u 0)), .inl (cy 2, 25710, .inr (.inl (fun _ => 0))))]) s s.heap [] := h
  refine lv_aload_n F.1 F.2.1 dX12_rule_0 rfl (lv_at hl 0 rfl) ?_
  refine lv_iload_n F.1 F.2.1 dX12_rule_1 rfl (lv_at hl 1 rfl) ?_
  refine x_Vi (wr := [(((u 0)), .inl (cy 2, 25710, .inr (.inl (fun _ => 0))))]) F h yk_X12_isScript mw_635 mw_636 mw_637 (c_m_isScript l D cy q ((.ref ((u 0)) :: .int 0 :: .long 0 :: .long 1 :: .ref ((u 1)) :: .ref ((u 2)) :: .ref ((u 3)) :: .ref ((u 4)) :: .ref ((u 5)) :: .int 0 :: .int 0 :: .int 0 :: .int 0 :: .int 0 :: .int 0 :: .int (-1) :: .int (-1) :: .int 0 :: .ref ((u 6)) :: .int 0 :: .int 0 :: .ref ((u 7)) :: .ref ((u 8)) :: .ref ((u 9)) :: .ref ((u 10)) :: .ref ((u 11)) :: .ref ((u 12)) :: .ref ((u 13)) :: .int 0 :: .int 0 :: .int (-1) :: .int 0 :: .int (-1) :: .int 0 :: .ref ((u 14)) :: .int 0 :: .int 0 :: .int 0 :: .int 0 :: .int 0 :: .ref ((u 15)) :: .ref ((u 16)) :: .int 0 :: .int (-1) :: .int 0 :: .int 0 :: .int 0 :: .int 0 :: .ref ((u 17)) :: .ref ((u 18)) :: .ref ((u 19)) :: .int 0 :: .ref ((u 20)) :: .ref ((u 21)) :: .int 0 :: .ref ((u 22)) :: .int (-1) :: .int 0 :: .ref ((u 23)) :: .int (-1) :: .int (-1) :: .int 0 :: .ref ((u 24)) :: .ref ((u 25)) :: .int 0 :: [])) sc) [0] [1] 0 rfl rfl rfl rfl (by decide) rfl rfl hl.1 rfl (Nat.le_of_ble_eq_true rfl) ⟨Nat.le_of_ble_eq_true rfl, Nat.le_of_ble_eq_true rfl⟩ ⟨Nat.le_of_ble_eq_true rfl, Nat.le_of_ble_eq_true rfl⟩ dX12_rule_2 (fun r2 u3 H locs hp1 h => ?_)
  have h : xS D cy A s.heap ([(((u 0)), .inl (cy 2, 25710, .inr (.inl (fun _ => 0)))), (q, .inr (12, (.ref ((u 0)) :: .int 0 :: .long 0 :: .long 1 :: .ref ((u 1)) :: .ref ((u 2)) :: .ref ((u 3)) :: .ref ((u 4)) :: .ref ((u 5)) :: .int 0 :: .int 0 :: .int 0 :: .int 0 :: .int 0 :: .int 0 :: .int (-1) :: .int (-1) :: .int 0 :: .ref ((u 6)) :: .int 0 :: .int 0 :: .ref ((u 7)) :: .ref ((u 8)) :: .ref ((u 9)) :: .ref ((u 10)) :: .ref ((u 11)) :: .ref ((u 12)) :: .ref ((u 13)) :: .int 0 :: .int 0 :: .int (-1) :: .int 0 :: .int (-1) :: .int 0 :: .ref ((u 14)) :: .int 0 :: .int 0 :: .int 0 :: .int 0 :: .int 0 :: .ref ((u 15)) :: .ref ((u 16)) :: .int 0 :: .int (-1) :: .int 0 :: .int 0 :: .int 0 :: .int 0 :: .ref ((u 17)) :: .ref ((u 18)) :: .ref ((u 19)) :: .int 0 :: .ref ((u 20)) :: .ref ((u 21)) :: .int 0 :: .ref ((u 22)) :: .int (-1) :: .int 0 :: .ref ((u 23)) :: .int (-1) :: .int (-1) :: .int 0 :: .ref ((u 24)) :: .ref ((u 25)) :: .int 0 :: [])))]) s H locs := h
  rcases x_tr (n := 3) hp1 with ⟨rfl, ht4⟩ | ⟨rfl, ht5, ht6⟩
  · refine lv_if_eq (tgt := 39) F.1 F.2.1 dX12_rule_5 (by decide) (fun _ => ?_) (fun hc => absurd (by decide) hc)
    refine lv_aload_n F.1 F.2.1 dX12_rule_39 rfl (lv_at hl 0 rfl) ?_
    refine lv_iconst (v := 1) F.1 F.2.1 dX12_rule_40 (by decide) ?_
    refine x_Vi (wr := [(((u 0)), .inl (cy 2, 25710, .inr (.inl (fun _ => 0))))]) F h yk_X12_refuse mw_452 mw_453 mw_454 (c_m_refuse l D cy q ((.ref ((u 0)) :: .int 0 :: .long 0 :: .long 1 :: .ref ((u 1)) :: .ref ((u 2)) :: .ref ((u 3)) :: .ref ((u 4)) :: .ref ((u 5)) :: .int 0 :: .int 0 :: .int 0 :: .int 0 :: .int 0 :: .int 0 :: .int (-1) :: .int (-1) :: .int 0 :: .ref ((u 6)) :: .int 0 :: .int 0 :: .ref ((u 7)) :: .ref ((u 8)) :: .ref ((u 9)) :: .ref ((u 10)) :: .ref ((u 11)) :: .ref ((u 12)) :: .ref ((u 13)) :: .int 0 :: .int 0 :: .int (-1) :: .int 0 :: .int (-1) :: .int 0 :: .ref ((u 14)) :: .int 0 :: .int 0 :: .int 0 :: .int 0 :: .int 0 :: .ref ((u 15)) :: .ref ((u 16)) :: .int 0 :: .int (-1) :: .int 0 :: .int 0 :: .int 0 :: .int 0 :: .ref ((u 17)) :: .ref ((u 18)) :: .ref ((u 19)) :: .int 0 :: .ref ((u 20)) :: .ref ((u 21)) :: .int 0 :: .ref ((u 22)) :: .int (-1) :: .int 0 :: .ref ((u 23)) :: .int (-1) :: .int (-1) :: .int 0 :: .ref ((u 24)) :: .ref ((u 25)) :: .int 0 :: [])) rfl 1) [1] [0] 1 rfl rfl rfl rfl (by decide) rfl rfl hl.1 rfl (Nat.le_of_ble_eq_true rfl) ⟨Nat.le_of_ble_eq_true rfl, Nat.le_of_ble_eq_true rfl⟩ ⟨Nat.le_of_ble_eq_true rfl, Nat.le_of_ble_eq_true rfl⟩ dX12_rule_41 (fun r8 u9 H locs hp7 h => ?_)
    have h : xS D cy A s.heap ([(((u 0)), .inl (cy 2, 25710, .inr (.inl (fun _ => 0))))]) s H locs := h
    obtain rfl : r8 = (-1) := hp7
    exact x_iret F h hr hlk rfl (fun _ => 0) [] (rfl) (by decide +kernel) rfl (Nat.le_of_ble_eq_true rfl) (Nat.le_of_ble_eq_true rfl) dX12_rule_44
  · refine lv_if_eq (tgt := 39) F.1 F.2.1 dX12_rule_5 (by decide) (fun hc => absurd hc (by decide)) (fun _ => ?_)
    refine lv_iload_n F.1 F.2.1 dX12_rule_8 rfl (lv_at hl 2 rfl) ?_
    refine lv_if_lt (tgt := 39) F.1 F.2.1 dX12_rule_9 (by decide) (fun hc10 => ?_) (fun hc10 => ?_)
    · refine lv_aload_n F.1 F.2.1 dX12_rule_39 rfl (lv_at hl 0 rfl) ?_
      refine lv_iconst (v := 1) F.1 F.2.1 dX12_rule_40 (by decide) ?_
      refine x_Vi (wr := [(((u 0)), .inl (cy 2, 25710, .inr (.inl (fun _ => 0))))]) F h yk_X12_refuse mw_452 mw_453 mw_454 (c_m_refuse l D cy q ((.ref ((u 0)) :: .int 0 :: .long 0 :: .long 1 :: .ref ((u 1)) :: .ref ((u 2)) :: .ref ((u 3)) :: .ref ((u 4)) :: .ref ((u 5)) :: .int 0 :: .int 0 :: .int 0 :: .int 0 :: .int 0 :: .int 0 :: .int (-1) :: .int (-1) :: .int 0 :: .ref ((u 6)) :: .int 0 :: .int 0 :: .ref ((u 7)) :: .ref ((u 8)) :: .ref ((u 9)) :: .ref ((u 10)) :: .ref ((u 11)) :: .ref ((u 12)) :: .ref ((u 13)) :: .int 0 :: .int 0 :: .int (-1) :: .int 0 :: .int (-1) :: .int 0 :: .ref ((u 14)) :: .int 0 :: .int 0 :: .int 0 :: .int 0 :: .int 0 :: .ref ((u 15)) :: .ref ((u 16)) :: .int 0 :: .int (-1) :: .int 0 :: .int 0 :: .int 0 :: .int 0 :: .ref ((u 17)) :: .ref ((u 18)) :: .ref ((u 19)) :: .int 0 :: .ref ((u 20)) :: .ref ((u 21)) :: .int 0 :: .ref ((u 22)) :: .int (-1) :: .int 0 :: .ref ((u 23)) :: .int (-1) :: .int (-1) :: .int 0 :: .ref ((u 24)) :: .ref ((u 25)) :: .int 0 :: [])) rfl 1) [1] [0] 1 rfl rfl rfl rfl (by decide) rfl rfl hl.1 rfl (Nat.le_of_ble_eq_true rfl) ⟨Nat.le_of_ble_eq_true rfl, Nat.le_of_ble_eq_true rfl⟩ ⟨Nat.le_of_ble_eq_true rfl, Nat.le_of_ble_eq_true rfl⟩ dX12_rule_41 (fun r12 u13 H locs hp11 h => ?_)
      have h : xS D cy A s.heap ([(((u 0)), .inl (cy 2, 25710, .inr (.inl (fun _ => 0))))]) s H locs := h
      obtain rfl : r12 = (-1) := hp11
      exact x_iret F h hr hlk rfl (fun _ => 0) [] (rfl) (by decide +kernel) rfl (Nat.le_of_ble_eq_true rfl) (Nat.le_of_ble_eq_true rfl) dX12_rule_44
    · rcases x_c3 ht5 ht6 with rfl | rfl | rfl
      · refine lv_iload_n F.1 F.2.1 dX12_rule_12 rfl (lv_at hl 2 rfl) ?_
        refine lv_i2l (v := ru.toInt64) F.1 F.2.1 dX12_rule_13 rfl ?_
        refine lv_aload_n F.1 F.2.1 dX12_rule_14 rfl (lv_at hl 0 rfl) ?_
        refine x_get F h 1 0 inlX12 rfl (by decide) mw_202 dX12_rule_15 rfl rfl ?_
        refine lv_sipush (v := 1650) F.1 F.2.1 dX12_rule_18 (by decide) ?_
        refine lv_iload_n F.1 F.2.1 dX12_rule_21 rfl (lv_at hl 1 rfl) ?_
        refine lv_imul F.1 F.2.1 dX12_rule_22 ?_
        refine x_topi (y := 0) (by decide +kernel) ?_
        refine lv_iconst (v := 1) F.1 F.2.1 dX12_rule_23 (by decide) ?_
        refine lv_iadd F.1 F.2.1 dX12_rule_24 ?_
        refine x_topi (y := 1) (by decide +kernel) ?_
        refine x_lald (v := 0) F h 0 rfl rfl (x_in (by decide +kernel)) rfl dX12_rule_25 ?_
        refine W.lcmp F.1 F.2.1 dX12_rule_26 ?_
        refine lv_if_ge (tgt := 39) F.1 F.2.1 dX12_rule_27 (by decide) (fun _ => ?_) (fun hc => absurd (x_lc hc10) hc)
        refine lv_aload_n F.1 F.2.1 dX12_rule_39 rfl (lv_at hl 0 rfl) ?_
        refine lv_iconst (v := 1) F.1 F.2.1 dX12_rule_40 (by decide) ?_
        refine x_Vi (wr := [(((u 0)), .inl (cy 2, 25710, .inr (.inl (fun _ => 0))))]) F h yk_X12_refuse mw_452 mw_453 mw_454 (c_m_refuse l D cy q ((.ref ((u 0)) :: .int 0 :: .long 0 :: .long 1 :: .ref ((u 1)) :: .ref ((u 2)) :: .ref ((u 3)) :: .ref ((u 4)) :: .ref ((u 5)) :: .int 0 :: .int 0 :: .int 0 :: .int 0 :: .int 0 :: .int 0 :: .int (-1) :: .int (-1) :: .int 0 :: .ref ((u 6)) :: .int 0 :: .int 0 :: .ref ((u 7)) :: .ref ((u 8)) :: .ref ((u 9)) :: .ref ((u 10)) :: .ref ((u 11)) :: .ref ((u 12)) :: .ref ((u 13)) :: .int 0 :: .int 0 :: .int (-1) :: .int 0 :: .int (-1) :: .int 0 :: .ref ((u 14)) :: .int 0 :: .int 0 :: .int 0 :: .int 0 :: .int 0 :: .ref ((u 15)) :: .ref ((u 16)) :: .int 0 :: .int (-1) :: .int 0 :: .int 0 :: .int 0 :: .int 0 :: .ref ((u 17)) :: .ref ((u 18)) :: .ref ((u 19)) :: .int 0 :: .ref ((u 20)) :: .ref ((u 21)) :: .int 0 :: .ref ((u 22)) :: .int (-1) :: .int 0 :: .ref ((u 23)) :: .int (-1) :: .int (-1) :: .int 0 :: .ref ((u 24)) :: .ref ((u 25)) :: .int 0 :: [])) rfl 1) [1] [0] 1 rfl rfl rfl rfl (by decide) rfl rfl hl.1 rfl (Nat.le_of_ble_eq_true rfl) ⟨Nat.le_of_ble_eq_true rfl, Nat.le_of_ble_eq_true rfl⟩ ⟨Nat.le_of_ble_eq_true rfl, Nat.le_of_ble_eq_true rfl⟩ dX12_rule_41 (fun r15 u16 H locs hp14 h => ?_)
        have h : xS D cy A s.heap ([(((u 0)), .inl (cy 2, 25710, .inr (.inl (fun _ => 0))))]) s H locs := h
        obtain rfl : r15 = (-1) := hp14
        exact x_iret F h hr hlk rfl (fun _ => 0) [] (rfl) (by decide +kernel) rfl (Nat.le_of_ble_eq_true rfl) (Nat.le_of_ble_eq_true rfl) dX12_rule_44
      · refine lv_iload_n F.1 F.2.1 dX12_rule_12 rfl (lv_at hl 2 rfl) ?_
        refine lv_i2l (v := ru.toInt64) F.1 F.2.1 dX12_rule_13 rfl ?_
        refine lv_aload_n F.1 F.2.1 dX12_rule_14 rfl (lv_at hl 0 rfl) ?_
        refine x_get F h 1 0 inlX12 rfl (by decide) mw_202 dX12_rule_15 rfl rfl ?_
        refine lv_sipush (v := 1650) F.1 F.2.1 dX12_rule_18 (by decide) ?_
        refine lv_iload_n F.1 F.2.1 dX12_rule_21 rfl (lv_at hl 1 rfl) ?_
        refine lv_imul F.1 F.2.1 dX12_rule_22 ?_
        refine x_topi (y := 1650) (by decide +kernel) ?_
        refine lv_iconst (v := 1) F.1 F.2.1 dX12_rule_23 (by decide) ?_
        refine lv_iadd F.1 F.2.1 dX12_rule_24 ?_
        refine x_topi (y := 1651) (by decide +kernel) ?_
        refine x_lald (v := 0) F h 0 rfl rfl (x_in (by decide +kernel)) rfl dX12_rule_25 ?_
        refine W.lcmp F.1 F.2.1 dX12_rule_26 ?_
        refine lv_if_ge (tgt := 39) F.1 F.2.1 dX12_rule_27 (by decide) (fun _ => ?_) (fun hc => absurd (x_lc hc10) hc)
        refine lv_aload_n F.1 F.2.1 dX12_rule_39 rfl (lv_at hl 0 rfl) ?_
        refine lv_iconst (v := 1) F.1 F.2.1 dX12_rule_40 (by decide) ?_
        refine x_Vi (wr := [(((u 0)), .inl (cy 2, 25710, .inr (.inl (fun _ => 0))))]) F h yk_X12_refuse mw_452 mw_453 mw_454 (c_m_refuse l D cy q ((.ref ((u 0)) :: .int 0 :: .long 0 :: .long 1 :: .ref ((u 1)) :: .ref ((u 2)) :: .ref ((u 3)) :: .ref ((u 4)) :: .ref ((u 5)) :: .int 0 :: .int 0 :: .int 0 :: .int 0 :: .int 0 :: .int 0 :: .int (-1) :: .int (-1) :: .int 0 :: .ref ((u 6)) :: .int 0 :: .int 0 :: .ref ((u 7)) :: .ref ((u 8)) :: .ref ((u 9)) :: .ref ((u 10)) :: .ref ((u 11)) :: .ref ((u 12)) :: .ref ((u 13)) :: .int 0 :: .int 0 :: .int (-1) :: .int 0 :: .int (-1) :: .int 0 :: .ref ((u 14)) :: .int 0 :: .int 0 :: .int 0 :: .int 0 :: .int 0 :: .ref ((u 15)) :: .ref ((u 16)) :: .int 0 :: .int (-1) :: .int 0 :: .int 0 :: .int 0 :: .int 0 :: .ref ((u 17)) :: .ref ((u 18)) :: .ref ((u 19)) :: .int 0 :: .ref ((u 20)) :: .ref ((u 21)) :: .int 0 :: .ref ((u 22)) :: .int (-1) :: .int 0 :: .ref ((u 23)) :: .int (-1) :: .int (-1) :: .int 0 :: .ref ((u 24)) :: .ref ((u 25)) :: .int 0 :: [])) rfl 1) [1] [0] 1 rfl rfl rfl rfl (by decide) rfl rfl hl.1 rfl (Nat.le_of_ble_eq_true rfl) ⟨Nat.le_of_ble_eq_true rfl, Nat.le_of_ble_eq_true rfl⟩ ⟨Nat.le_of_ble_eq_true rfl, Nat.le_of_ble_eq_true rfl⟩ dX12_rule_41 (fun r18 u19 H locs hp17 h => ?_)
        have h : xS D cy A s.heap ([(((u 0)), .inl (cy 2, 25710, .inr (.inl (fun _ => 0))))]) s H locs := h
        obtain rfl : r18 = (-1) := hp17
        exact x_iret F h hr hlk rfl (fun _ => 0) [] (rfl) (by decide +kernel) rfl (Nat.le_of_ble_eq_true rfl) (Nat.le_of_ble_eq_true rfl) dX12_rule_44
      · refine lv_iload_n F.1 F.2.1 dX12_rule_12 rfl (lv_at hl 2 rfl) ?_
        refine lv_i2l (v := ru.toInt64) F.1 F.2.1 dX12_rule_13 rfl ?_
        refine lv_aload_n F.1 F.2.1 dX12_rule_14 rfl (lv_at hl 0 rfl) ?_
        refine x_get F h 1 0 inlX12 rfl (by decide) mw_202 dX12_rule_15 rfl rfl ?_
        refine lv_sipush (v := 1650) F.1 F.2.1 dX12_rule_18 (by decide) ?_
        refine lv_iload_n F.1 F.2.1 dX12_rule_21 rfl (lv_at hl 1 rfl) ?_
        refine lv_imul F.1 F.2.1 dX12_rule_22 ?_
        refine x_topi (y := 3300) (by decide +kernel) ?_
        refine lv_iconst (v := 1) F.1 F.2.1 dX12_rule_23 (by decide) ?_
        refine lv_iadd F.1 F.2.1 dX12_rule_24 ?_
        refine x_topi (y := 3301) (by decide +kernel) ?_
        refine x_lald (v := 0) F h 0 rfl rfl (x_in (by decide +kernel)) rfl dX12_rule_25 ?_
        refine W.lcmp F.1 F.2.1 dX12_rule_26 ?_
        refine lv_if_ge (tgt := 39) F.1 F.2.1 dX12_rule_27 (by decide) (fun _ => ?_) (fun hc => absurd (x_lc hc10) hc)
        refine lv_aload_n F.1 F.2.1 dX12_rule_39 rfl (lv_at hl 0 rfl) ?_
        refine lv_iconst (v := 1) F.1 F.2.1 dX12_rule_40 (by decide) ?_
        refine x_Vi (wr := [(((u 0)), .inl (cy 2, 25710, .inr (.inl (fun _ => 0))))]) F h yk_X12_refuse mw_452 mw_453 mw_454 (c_m_refuse l D cy q ((.ref ((u 0)) :: .int 0 :: .long 0 :: .long 1 :: .ref ((u 1)) :: .ref ((u 2)) :: .ref ((u 3)) :: .ref ((u 4)) :: .ref ((u 5)) :: .int 0 :: .int 0 :: .int 0 :: .int 0 :: .int 0 :: .int 0 :: .int (-1) :: .int (-1) :: .int 0 :: .ref ((u 6)) :: .int 0 :: .int 0 :: .ref ((u 7)) :: .ref ((u 8)) :: .ref ((u 9)) :: .ref ((u 10)) :: .ref ((u 11)) :: .ref ((u 12)) :: .ref ((u 13)) :: .int 0 :: .int 0 :: .int (-1) :: .int 0 :: .int (-1) :: .int 0 :: .ref ((u 14)) :: .int 0 :: .int 0 :: .int 0 :: .int 0 :: .int 0 :: .ref ((u 15)) :: .ref ((u 16)) :: .int 0 :: .int (-1) :: .int 0 :: .int 0 :: .int 0 :: .int 0 :: .ref ((u 17)) :: .ref ((u 18)) :: .ref ((u 19)) :: .int 0 :: .ref ((u 20)) :: .ref ((u 21)) :: .int 0 :: .ref ((u 22)) :: .int (-1) :: .int 0 :: .ref ((u 23)) :: .int (-1) :: .int (-1) :: .int 0 :: .ref ((u 24)) :: .ref ((u 25)) :: .int 0 :: [])) rfl 1) [1] [0] 1 rfl rfl rfl rfl (by decide) rfl rfl hl.1 rfl (Nat.le_of_ble_eq_true rfl) ⟨Nat.le_of_ble_eq_true rfl, Nat.le_of_ble_eq_true rfl⟩ ⟨Nat.le_of_ble_eq_true rfl, Nat.le_of_ble_eq_true rfl⟩ dX12_rule_41 (fun r21 u22 H locs hp20 h => ?_)
        have h : xS D cy A s.heap ([(((u 0)), .inl (cy 2, 25710, .inr (.inl (fun _ => 0))))]) s H locs := h
        obtain rfl : r21 = (-1) := hp20
        exact x_iret F h hr hlk rfl (fun _ => 0) [] (rfl) (by decide +kernel) rfl (Nat.le_of_ble_eq_true rfl) (Nat.le_of_ble_eq_true rfl) dX12_rule_44
set_option maxHeartbeats 4000000 in
set_option maxRecDepth 100000 in
theorem c_m_fit (l : Launch) (D : va_G) (cy : Nat → ClassId) (q : Nat) (u : Nat → Nat) (sc : Int32) (ru : Int32) (k : Int32) : ∀ sz, Met l yX12_fit (Cond.code yX12_fit cX12_fit 6 (some .int) :: wsL_law) { frames := 1, cells := 0, slots := 0, locals := 21 } (va_Pc [.ref q, .int sc, .int ru, .int k] (xP D cy ([mM q u 0 0 0 (-1) 0, mA_at cy u]) sz)) (va_Qi (fun r _ => r = (-1)) (xB D (va_A ([mM q u 0 0 0 (-1) 0, mA_at cy u]) sz) (fun _ => [])) (va_A ([mM q u 0 0 0 (-1) 0, mA_at cy u]) sz)) 0 0 (va_A ([mM q u 0 0 0 (-1) 0, mA_at cy u]) sz) := by
  refine x_enter (fun A => va_Qi (fun r _ => r = (-1)) (xB D A (fun _ => [])) A) (by decide +kernel) rfl (Nat.le_of_ble_eq_true rfl) ?_
  intro p e s m below meth c A ls F hr hlk hin h hl
  have hl : lv_has ls 6 [(0, .ref q), (1, .int sc), (2, .int ru), (3, .int k)] := hl
  have h : xS D cy A s.heap ([(q, .inr (12, (.ref ((u 0)) :: .int 0 :: .long 0 :: .long 1 :: .ref ((u 1)) :: .ref ((u 2)) :: .ref ((u 3)) :: .ref ((u 4)) :: .ref ((u 5)) :: .int 0 :: .int 0 :: .int 0 :: .int 0 :: .int 0 :: .int 0 :: .int (-1) :: .int (-1) :: .int 0 :: .ref ((u 6)) :: .int 0 :: .int 0 :: .ref ((u 7)) :: .ref ((u 8)) :: .ref ((u 9)) :: .ref ((u 10)) :: .ref ((u 11)) :: .ref ((u 12)) :: .ref ((u 13)) :: .int 0 :: .int 0 :: .int (-1) :: .int 0 :: .int (-1) :: .int 0 :: .ref ((u 14)) :: .int 0 :: .int 0 :: .int 0 :: .int 0 :: .int 0 :: .ref ((u 15)) :: .ref ((u 16)) :: .int 0 :: .int (-1) :: .int 0 :: .int 0 :: .int 0 :: .int 0 :: .ref ((u 17)) :: .ref ((u 18)) :: .ref ((u 19)) :: .int 0 :: .ref ((u 20)) :: .ref ((u 21)) :: .int 0 :: .ref ((u 22)) :: .int (-1) :: .int 0 :: .ref ((u 23)) :: .int (-1) :: .int (-1) :: .int 0 :: .ref ((u 24)) :: .ref ((u 25)) :: .int 0 :: []))), (((u 0)), .inl (cy 2, 25710, .inr (.inl (fun _ => 0))))]) s s.heap [] := h
  refine lv_aload_n F.1 F.2.1 dX12_fit_0 rfl (lv_at hl 0 rfl) ?_
  refine lv_iload_n F.1 F.2.1 dX12_fit_1 rfl (lv_at hl 1 rfl) ?_
  refine x_Vi (wr := [(((u 0)), .inl (cy 2, 25710, .inr (.inl (fun _ => 0))))]) F h yk_X12_isScript mw_635 mw_636 mw_637 (c_m_isScript l D cy q ((.ref ((u 0)) :: .int 0 :: .long 0 :: .long 1 :: .ref ((u 1)) :: .ref ((u 2)) :: .ref ((u 3)) :: .ref ((u 4)) :: .ref ((u 5)) :: .int 0 :: .int 0 :: .int 0 :: .int 0 :: .int 0 :: .int 0 :: .int (-1) :: .int (-1) :: .int 0 :: .ref ((u 6)) :: .int 0 :: .int 0 :: .ref ((u 7)) :: .ref ((u 8)) :: .ref ((u 9)) :: .ref ((u 10)) :: .ref ((u 11)) :: .ref ((u 12)) :: .ref ((u 13)) :: .int 0 :: .int 0 :: .int (-1) :: .int 0 :: .int (-1) :: .int 0 :: .ref ((u 14)) :: .int 0 :: .int 0 :: .int 0 :: .int 0 :: .int 0 :: .ref ((u 15)) :: .ref ((u 16)) :: .int 0 :: .int (-1) :: .int 0 :: .int 0 :: .int 0 :: .int 0 :: .ref ((u 17)) :: .ref ((u 18)) :: .ref ((u 19)) :: .int 0 :: .ref ((u 20)) :: .ref ((u 21)) :: .int 0 :: .ref ((u 22)) :: .int (-1) :: .int 0 :: .ref ((u 23)) :: .int (-1) :: .int (-1) :: .int 0 :: .ref ((u 24)) :: .ref ((u 25)) :: .int 0 :: [])) sc) [0] [1] 0 rfl rfl rfl rfl (by decide) rfl rfl hl.1 rfl (Nat.le_of_ble_eq_true rfl) ⟨Nat.le_of_ble_eq_true rfl, Nat.le_of_ble_eq_true rfl⟩ ⟨Nat.le_of_ble_eq_true rfl, Nat.le_of_ble_eq_true rfl⟩ dX12_fit_2 (fun r2 u3 H locs hp1 h => ?_)
  have h : xS D cy A s.heap ([(((u 0)), .inl (cy 2, 25710, .inr (.inl (fun _ => 0)))), (q, .inr (12, (.ref ((u 0)) :: .int 0 :: .long 0 :: .long 1 :: .ref ((u 1)) :: .ref ((u 2)) :: .ref ((u 3)) :: .ref ((u 4)) :: .ref ((u 5)) :: .int 0 :: .int 0 :: .int 0 :: .int 0 :: .int 0 :: .int 0 :: .int (-1) :: .int (-1) :: .int 0 :: .ref ((u 6)) :: .int 0 :: .int 0 :: .ref ((u 7)) :: .ref ((u 8)) :: .ref ((u 9)) :: .ref ((u 10)) :: .ref ((u 11)) :: .ref ((u 12)) :: .ref ((u 13)) :: .int 0 :: .int 0 :: .int (-1) :: .int 0 :: .int (-1) :: .int 0 :: .ref ((u 14)) :: .int 0 :: .int 0 :: .int 0 :: .int 0 :: .int 0 :: .ref ((u 15)) :: .ref ((u 16)) :: .int 0 :: .int (-1) :: .int 0 :: .int 0 :: .int 0 :: .int 0 :: .ref ((u 17)) :: .ref ((u 18)) :: .ref ((u 19)) :: .int 0 :: .ref ((u 20)) :: .ref ((u 21)) :: .int 0 :: .ref ((u 22)) :: .int (-1) :: .int 0 :: .ref ((u 23)) :: .int (-1) :: .int (-1) :: .int 0 :: .ref ((u 24)) :: .ref ((u 25)) :: .int 0 :: [])))]) s H locs := h
  rcases x_tr (n := 3) hp1 with ⟨rfl, ht4⟩ | ⟨rfl, ht5, ht6⟩
  · refine lv_if_eq (tgt := 39) F.1 F.2.1 dX12_fit_5 (by decide) (fun _ => ?_) (fun hc => absurd (by decide) hc)
    refine lv_aload_n F.1 F.2.1 dX12_fit_39 rfl (lv_at hl 0 rfl) ?_
    refine lv_iconst (v := 1) F.1 F.2.1 dX12_fit_40 (by decide) ?_
    refine x_Vi (wr := [(((u 0)), .inl (cy 2, 25710, .inr (.inl (fun _ => 0))))]) F h yk_X12_refuse mw_452 mw_453 mw_454 (c_m_refuse l D cy q ((.ref ((u 0)) :: .int 0 :: .long 0 :: .long 1 :: .ref ((u 1)) :: .ref ((u 2)) :: .ref ((u 3)) :: .ref ((u 4)) :: .ref ((u 5)) :: .int 0 :: .int 0 :: .int 0 :: .int 0 :: .int 0 :: .int 0 :: .int (-1) :: .int (-1) :: .int 0 :: .ref ((u 6)) :: .int 0 :: .int 0 :: .ref ((u 7)) :: .ref ((u 8)) :: .ref ((u 9)) :: .ref ((u 10)) :: .ref ((u 11)) :: .ref ((u 12)) :: .ref ((u 13)) :: .int 0 :: .int 0 :: .int (-1) :: .int 0 :: .int (-1) :: .int 0 :: .ref ((u 14)) :: .int 0 :: .int 0 :: .int 0 :: .int 0 :: .int 0 :: .ref ((u 15)) :: .ref ((u 16)) :: .int 0 :: .int (-1) :: .int 0 :: .int 0 :: .int 0 :: .int 0 :: .ref ((u 17)) :: .ref ((u 18)) :: .ref ((u 19)) :: .int 0 :: .ref ((u 20)) :: .ref ((u 21)) :: .int 0 :: .ref ((u 22)) :: .int (-1) :: .int 0 :: .ref ((u 23)) :: .int (-1) :: .int (-1) :: .int 0 :: .ref ((u 24)) :: .ref ((u 25)) :: .int 0 :: [])) rfl 1) [1] [0] 1 rfl rfl rfl rfl (by decide) rfl rfl hl.1 rfl (Nat.le_of_ble_eq_true rfl) ⟨Nat.le_of_ble_eq_true rfl, Nat.le_of_ble_eq_true rfl⟩ ⟨Nat.le_of_ble_eq_true rfl, Nat.le_of_ble_eq_true rfl⟩ dX12_fit_41 (fun r8 u9 H locs hp7 h => ?_)
    have h : xS D cy A s.heap ([(((u 0)), .inl (cy 2, 25710, .inr (.inl (fun _ => 0))))]) s H locs := h
    obtain rfl : r8 = (-1) := hp7
    exact x_iret F h hr hlk rfl (fun _ => 0) [] (rfl) (by decide +kernel) rfl (Nat.le_of_ble_eq_true rfl) (Nat.le_of_ble_eq_true rfl) dX12_fit_44
  · refine lv_if_eq (tgt := 39) F.1 F.2.1 dX12_fit_5 (by decide) (fun hc => absurd hc (by decide)) (fun _ => ?_)
    refine lv_iload_n F.1 F.2.1 dX12_fit_8 rfl (lv_at hl 2 rfl) ?_
    refine lv_if_lt (tgt := 39) F.1 F.2.1 dX12_fit_9 (by decide) (fun hc10 => ?_) (fun hc10 => ?_)
    · refine lv_aload_n F.1 F.2.1 dX12_fit_39 rfl (lv_at hl 0 rfl) ?_
      refine lv_iconst (v := 1) F.1 F.2.1 dX12_fit_40 (by decide) ?_
      refine x_Vi (wr := [(((u 0)), .inl (cy 2, 25710, .inr (.inl (fun _ => 0))))]) F h yk_X12_refuse mw_452 mw_453 mw_454 (c_m_refuse l D cy q ((.ref ((u 0)) :: .int 0 :: .long 0 :: .long 1 :: .ref ((u 1)) :: .ref ((u 2)) :: .ref ((u 3)) :: .ref ((u 4)) :: .ref ((u 5)) :: .int 0 :: .int 0 :: .int 0 :: .int 0 :: .int 0 :: .int 0 :: .int (-1) :: .int (-1) :: .int 0 :: .ref ((u 6)) :: .int 0 :: .int 0 :: .ref ((u 7)) :: .ref ((u 8)) :: .ref ((u 9)) :: .ref ((u 10)) :: .ref ((u 11)) :: .ref ((u 12)) :: .ref ((u 13)) :: .int 0 :: .int 0 :: .int (-1) :: .int 0 :: .int (-1) :: .int 0 :: .ref ((u 14)) :: .int 0 :: .int 0 :: .int 0 :: .int 0 :: .int 0 :: .ref ((u 15)) :: .ref ((u 16)) :: .int 0 :: .int (-1) :: .int 0 :: .int 0 :: .int 0 :: .int 0 :: .ref ((u 17)) :: .ref ((u 18)) :: .ref ((u 19)) :: .int 0 :: .ref ((u 20)) :: .ref ((u 21)) :: .int 0 :: .ref ((u 22)) :: .int (-1) :: .int 0 :: .ref ((u 23)) :: .int (-1) :: .int (-1) :: .int 0 :: .ref ((u 24)) :: .ref ((u 25)) :: .int 0 :: [])) rfl 1) [1] [0] 1 rfl rfl rfl rfl (by decide) rfl rfl hl.1 rfl (Nat.le_of_ble_eq_true rfl) ⟨Nat.le_of_ble_eq_true rfl, Nat.le_of_ble_eq_true rfl⟩ ⟨Nat.le_of_ble_eq_true rfl, Nat.le_of_ble_eq_true rfl⟩ dX12_fit_41 (fun r12 u13 H locs hp11 h => ?_)
      have h : xS D cy A s.heap ([(((u 0)), .inl (cy 2, 25710, .inr (.inl (fun _ => 0))))]) s H locs := h
      obtain rfl : r12 = (-1) := hp11
      exact x_iret F h hr hlk rfl (fun _ => 0) [] (rfl) (by decide +kernel) rfl (Nat.le_of_ble_eq_true rfl) (Nat.le_of_ble_eq_true rfl) dX12_fit_44
    · rcases x_c3 ht5 ht6 with rfl | rfl | rfl
      · refine lv_iload_n F.1 F.2.1 dX12_fit_12 rfl (lv_at hl 2 rfl) ?_
        refine lv_i2l (v := ru.toInt64) F.1 F.2.1 dX12_fit_13 rfl ?_
        refine lv_aload_n F.1 F.2.1 dX12_fit_14 rfl (lv_at hl 0 rfl) ?_
        refine x_get F h 1 0 inlX12 rfl (by decide) mw_202 dX12_fit_15 rfl rfl ?_
        refine lv_sipush (v := 1650) F.1 F.2.1 dX12_fit_18 (by decide) ?_
        refine lv_iload_n F.1 F.2.1 dX12_fit_21 rfl (lv_at hl 1 rfl) ?_
        refine lv_imul F.1 F.2.1 dX12_fit_22 ?_
        refine x_topi (y := 0) (by decide +kernel) ?_
        refine lv_iconst (v := 1) F.1 F.2.1 dX12_fit_23 (by decide) ?_
        refine lv_iadd F.1 F.2.1 dX12_fit_24 ?_
        refine x_topi (y := 1) (by decide +kernel) ?_
        refine x_lald (v := 0) F h 0 rfl rfl (x_in (by decide +kernel)) rfl dX12_fit_25 ?_
        refine W.lcmp F.1 F.2.1 dX12_fit_26 ?_
        refine lv_if_ge (tgt := 39) F.1 F.2.1 dX12_fit_27 (by decide) (fun _ => ?_) (fun hc => absurd (x_lc hc10) hc)
        refine lv_aload_n F.1 F.2.1 dX12_fit_39 rfl (lv_at hl 0 rfl) ?_
        refine lv_iconst (v := 1) F.1 F.2.1 dX12_fit_40 (by decide) ?_
        refine x_Vi (wr := [(((u 0)), .inl (cy 2, 25710, .inr (.inl (fun _ => 0))))]) F h yk_X12_refuse mw_452 mw_453 mw_454 (c_m_refuse l D cy q ((.ref ((u 0)) :: .int 0 :: .long 0 :: .long 1 :: .ref ((u 1)) :: .ref ((u 2)) :: .ref ((u 3)) :: .ref ((u 4)) :: .ref ((u 5)) :: .int 0 :: .int 0 :: .int 0 :: .int 0 :: .int 0 :: .int 0 :: .int (-1) :: .int (-1) :: .int 0 :: .ref ((u 6)) :: .int 0 :: .int 0 :: .ref ((u 7)) :: .ref ((u 8)) :: .ref ((u 9)) :: .ref ((u 10)) :: .ref ((u 11)) :: .ref ((u 12)) :: .ref ((u 13)) :: .int 0 :: .int 0 :: .int (-1) :: .int 0 :: .int (-1) :: .int 0 :: .ref ((u 14)) :: .int 0 :: .int 0 :: .int 0 :: .int 0 :: .int 0 :: .ref ((u 15)) :: .ref ((u 16)) :: .int 0 :: .int (-1) :: .int 0 :: .int 0 :: .int 0 :: .int 0 :: .ref ((u 17)) :: .ref ((u 18)) :: .ref ((u 19)) :: .int 0 :: .ref ((u 20)) :: .ref ((u 21)) :: .int 0 :: .ref ((u 22)) :: .int (-1) :: .int 0 :: .ref ((u 23)) :: .int (-1) :: .int (-1) :: .int 0 :: .ref ((u 24)) :: .ref ((u 25)) :: .int 0 :: [])) rfl 1) [1] [0] 1 rfl rfl rfl rfl (by decide) rfl rfl hl.1 rfl (Nat.le_of_ble_eq_true rfl) ⟨Nat.le_of_ble_eq_true rfl, Nat.le_of_ble_eq_true rfl⟩ ⟨Nat.le_of_ble_eq_true rfl, Nat.le_of_ble_eq_true rfl⟩ dX12_fit_41 (fun r15 u16 H locs hp14 h => ?_)
        have h : xS D cy A s.heap ([(((u 0)), .inl (cy 2, 25710, .inr (.inl (fun _ => 0))))]) s H locs := h
        obtain rfl : r15 = (-1) := hp14
        exact x_iret F h hr hlk rfl (fun _ => 0) [] (rfl) (by decide +kernel) rfl (Nat.le_of_ble_eq_true rfl) (Nat.le_of_ble_eq_true rfl) dX12_fit_44
      · refine lv_iload_n F.1 F.2.1 dX12_fit_12 rfl (lv_at hl 2 rfl) ?_
        refine lv_i2l (v := ru.toInt64) F.1 F.2.1 dX12_fit_13 rfl ?_
        refine lv_aload_n F.1 F.2.1 dX12_fit_14 rfl (lv_at hl 0 rfl) ?_
        refine x_get F h 1 0 inlX12 rfl (by decide) mw_202 dX12_fit_15 rfl rfl ?_
        refine lv_sipush (v := 1650) F.1 F.2.1 dX12_fit_18 (by decide) ?_
        refine lv_iload_n F.1 F.2.1 dX12_fit_21 rfl (lv_at hl 1 rfl) ?_
        refine lv_imul F.1 F.2.1 dX12_fit_22 ?_
        refine x_topi (y := 1650) (by decide +kernel) ?_
        refine lv_iconst (v := 1) F.1 F.2.1 dX12_fit_23 (by decide) ?_
        refine lv_iadd F.1 F.2.1 dX12_fit_24 ?_
        refine x_topi (y := 1651) (by decide +kernel) ?_
        refine x_lald (v := 0) F h 0 rfl rfl (x_in (by decide +kernel)) rfl dX12_fit_25 ?_
        refine W.lcmp F.1 F.2.1 dX12_fit_26 ?_
        refine lv_if_ge (tgt := 39) F.1 F.2.1 dX12_fit_27 (by decide) (fun _ => ?_) (fun hc => absurd (x_lc hc10) hc)
        refine lv_aload_n F.1 F.2.1 dX12_fit_39 rfl (lv_at hl 0 rfl) ?_
        refine lv_iconst (v := 1) F.1 F.2.1 dX12_fit_40 (by decide) ?_
        refine x_Vi (wr := [(((u 0)), .inl (cy 2, 25710, .inr (.inl (fun _ => 0))))]) F h yk_X12_refuse mw_452 mw_453 mw_454 (c_m_refuse l D cy q ((.ref ((u 0)) :: .int 0 :: .long 0 :: .long 1 :: .ref ((u 1)) :: .ref ((u 2)) :: .ref ((u 3)) :: .ref ((u 4)) :: .ref ((u 5)) :: .int 0 :: .int 0 :: .int 0 :: .int 0 :: .int 0 :: .int 0 :: .int (-1) :: .int (-1) :: .int 0 :: .ref ((u 6)) :: .int 0 :: .int 0 :: .ref ((u 7)) :: .ref ((u 8)) :: .ref ((u 9)) :: .ref ((u 10)) :: .ref ((u 11)) :: .ref ((u 12)) :: .ref ((u 13)) :: .int 0 :: .int 0 :: .int (-1) :: .int 0 :: .int (-1) :: .int 0 :: .ref ((u 14)) :: .int 0 :: .int 0 :: .int 0 :: .int 0 :: .int 0 :: .ref ((u 15)) :: .ref ((u 16)) :: .int 0 :: .int (-1) :: .int 0 :: .int 0 :: .int 0 :: .int 0 :: .ref ((u 17)) :: .ref ((u 18)) :: .ref ((u 19)) :: .int 0 :: .ref ((u 20)) :: .ref ((u 21)) :: .int 0 :: .ref ((u 22)) :: .int (-1) :: .int 0 :: .ref ((u 23)) :: .int (-1) :: .int (-1) :: .int 0 :: .ref ((u 24)) :: .ref ((u 25)) :: .int 0 :: [])) rfl 1) [1] [0] 1 rfl rfl rfl rfl (by decide) rfl rfl hl.1 rfl (Nat.le_of_ble_eq_true rfl) ⟨Nat.le_of_ble_eq_true rfl, Nat.le_of_ble_eq_true rfl⟩ ⟨Nat.le_of_ble_eq_true rfl, Nat.le_of_ble_eq_true rfl⟩ dX12_fit_41 (fun r18 u19 H locs hp17 h => ?_)
        have h : xS D cy A s.heap ([(((u 0)), .inl (cy 2, 25710, .inr (.inl (fun _ => 0))))]) s H locs := h
        obtain rfl : r18 = (-1) := hp17
        exact x_iret F h hr hlk rfl (fun _ => 0) [] (rfl) (by decide +kernel) rfl (Nat.le_of_ble_eq_true rfl) (Nat.le_of_ble_eq_true rfl) dX12_fit_44
      · refine lv_iload_n F.1 F.2.1 dX12_fit_12 rfl (lv_at hl 2 rfl) ?_
        refine lv_i2l (v := ru.toInt64) F.1 F.2.1 dX12_fit_13 rfl ?_
        refine lv_aload_n F.1 F.2.1 dX12_fit_14 rfl (lv_at hl 0 rfl) ?_
        refine x_get F h 1 0 inlX12 rfl (by decide) mw_202 dX12_fit_15 rfl rfl ?_
        refine lv_sipush (v := 1650) F.1 F.2.1 dX12_fit_18 (by decide) ?_
        refine lv_iload_n F.1 F.2.1 dX12_fit_21 rfl (lv_at hl 1 rfl) ?_
        refine lv_imul F.1 F.2.1 dX12_fit_22 ?_
        refine x_topi (y := 3300) (by decide +kernel) ?_
        refine lv_iconst (v := 1) F.1 F.2.1 dX12_fit_23 (by decide) ?_
        refine lv_iadd F.1 F.2.1 dX12_fit_24 ?_
        refine x_topi (y := 3301) (by decide +kernel) ?_
        refine x_lald (v := 0) F h 0 rfl rfl (x_in (by decide +kernel)) rfl dX12_fit_25 ?_
        refine W.lcmp F.1 F.2.1 dX12_fit_26 ?_
        refine lv_if_ge (tgt := 39) F.1 F.2.1 dX12_fit_27 (by decide) (fun _ => ?_) (fun hc => absurd (x_lc hc10) hc)
        refine lv_aload_n F.1 F.2.1 dX12_fit_39 rfl (lv_at hl 0 rfl) ?_
        refine lv_iconst (v := 1) F.1 F.2.1 dX12_fit_40 (by decide) ?_
        refine x_Vi (wr := [(((u 0)), .inl (cy 2, 25710, .inr (.inl (fun _ => 0))))]) F h yk_X12_refuse mw_452 mw_453 mw_454 (c_m_refuse l D cy q ((.ref ((u 0)) :: .int 0 :: .long 0 :: .long 1 :: .ref ((u 1)) :: .ref ((u 2)) :: .ref ((u 3)) :: .ref ((u 4)) :: .ref ((u 5)) :: .int 0 :: .int 0 :: .int 0 :: .int 0 :: .int 0 :: .int 0 :: .int (-1) :: .int (-1) :: .int 0 :: .ref ((u 6)) :: .int 0 :: .int 0 :: .ref ((u 7)) :: .ref ((u 8)) :: .ref ((u 9)) :: .ref ((u 10)) :: .ref ((u 11)) :: .ref ((u 12)) :: .ref ((u 13)) :: .int 0 :: .int 0 :: .int (-1) :: .int 0 :: .int (-1) :: .int 0 :: .ref ((u 14)) :: .int 0 :: .int 0 :: .int 0 :: .int 0 :: .int 0 :: .ref ((u 15)) :: .ref ((u 16)) :: .int 0 :: .int (-1) :: .int 0 :: .int 0 :: .int 0 :: .int 0 :: .ref ((u 17)) :: .ref ((u 18)) :: .ref ((u 19)) :: .int 0 :: .ref ((u 20)) :: .ref ((u 21)) :: .int 0 :: .ref ((u 22)) :: .int (-1) :: .int 0 :: .ref ((u 23)) :: .int (-1) :: .int (-1) :: .int 0 :: .ref ((u 24)) :: .ref ((u 25)) :: .int 0 :: [])) rfl 1) [1] [0] 1 rfl rfl rfl rfl (by decide) rfl rfl hl.1 rfl (Nat.le_of_ble_eq_true rfl) ⟨Nat.le_of_ble_eq_true rfl, Nat.le_of_ble_eq_true rfl⟩ ⟨Nat.le_of_ble_eq_true rfl, Nat.le_of_ble_eq_true rfl⟩ dX12_fit_41 (fun r21 u22 H locs hp20 h => ?_)
        have h : xS D cy A s.heap ([(((u 0)), .inl (cy 2, 25710, .inr (.inl (fun _ => 0))))]) s H locs := h
        obtain rfl : r21 = (-1) := hp20
        exact x_iret F h hr hlk rfl (fun _ => 0) [] (rfl) (by decide +kernel) rfl (Nat.le_of_ble_eq_true rfl) (Nat.le_of_ble_eq_true rfl) dX12_fit_44
set_option maxHeartbeats 4000000 in
set_option maxRecDepth 100000 in
theorem c_m_gap (l : Launch) (D : va_G) (cy : Nat → ClassId) (q : Nat) (u : Nat → Nat) (k : Int32) (i : Int32) : ∀ sz, Met l yX12_gap (Cond.code yX12_gap cX12_gap 3 (some .int) :: wsL_law) { frames := 1, cells := 0, slots := 0, locals := 21 } (va_Pc [.ref q, .int k, .int i] (xP D cy ([mM q u 0 0 0 (-1) 0]) sz)) (va_Qi (fun r _ => r = (-1)) (xB D (va_A ([mM q u 0 0 0 (-1) 0]) sz) (fun _ => [])) (va_A ([mM q u 0 0 0 (-1) 0]) sz)) 0 0 (va_A ([mM q u 0 0 0 (-1) 0]) sz) := by
  refine x_enter (fun A => va_Qi (fun r _ => r = (-1)) (xB D A (fun _ => [])) A) (by decide +kernel) rfl (Nat.le_of_ble_eq_true rfl) ?_
  intro p e s m below meth c A ls F hr hlk hin h hl
  have hl : lv_has ls 3 [(0, .ref q), (1, .int k), (2, .int i)] := hl
  have h : xS D cy A s.heap ([(q, .inr (12, (.ref ((u 0)) :: .int 0 :: .long 0 :: .long 1 :: .ref ((u 1)) :: .ref ((u 2)) :: .ref ((u 3)) :: .ref ((u 4)) :: .ref ((u 5)) :: .int 0 :: .int 0 :: .int 0 :: .int 0 :: .int 0 :: .int 0 :: .int (-1) :: .int (-1) :: .int 0 :: .ref ((u 6)) :: .int 0 :: .int 0 :: .ref ((u 7)) :: .ref ((u 8)) :: .ref ((u 9)) :: .ref ((u 10)) :: .ref ((u 11)) :: .ref ((u 12)) :: .ref ((u 13)) :: .int 0 :: .int 0 :: .int (-1) :: .int 0 :: .int (-1) :: .int 0 :: .ref ((u 14)) :: .int 0 :: .int 0 :: .int 0 :: .int 0 :: .int 0 :: .ref ((u 15)) :: .ref ((u 16)) :: .int 0 :: .int (-1) :: .int 0 :: .int 0 :: .int 0 :: .int 0 :: .ref ((u 17)) :: .ref ((u 18)) :: .ref ((u 19)) :: .int 0 :: .ref ((u 20)) :: .ref ((u 21)) :: .int 0 :: .ref ((u 22)) :: .int (-1) :: .int 0 :: .ref ((u 23)) :: .int (-1) :: .int (-1) :: .int 0 :: .ref ((u 24)) :: .ref ((u 25)) :: .int 0 :: [])))]) s s.heap [] := h
  refine lv_iload_n F.1 F.2.1 dX12_gap_0 rfl (lv_at hl 2 rfl) ?_
  refine lv_if_lt (tgt := 14) F.1 F.2.1 dX12_gap_1 (by decide) (fun hc1 => ?_) (fun hc1 => ?_)
  · refine lv_aload_n F.1 F.2.1 dX12_gap_14 rfl (lv_at hl 0 rfl) ?_
    refine lv_iconst (v := 1) F.1 F.2.1 dX12_gap_15 (by decide) ?_
    refine x_Vi (wr := []) F h yk_X12_refuse mw_452 mw_453 mw_454 (c_m_refuse l D cy q ((.ref ((u 0)) :: .int 0 :: .long 0 :: .long 1 :: .ref ((u 1)) :: .ref ((u 2)) :: .ref ((u 3)) :: .ref ((u 4)) :: .ref ((u 5)) :: .int 0 :: .int 0 :: .int 0 :: .int 0 :: .int 0 :: .int 0 :: .int (-1) :: .int (-1) :: .int 0 :: .ref ((u 6)) :: .int 0 :: .int 0 :: .ref ((u 7)) :: .ref ((u 8)) :: .ref ((u 9)) :: .ref ((u 10)) :: .ref ((u 11)) :: .ref ((u 12)) :: .ref ((u 13)) :: .int 0 :: .int 0 :: .int (-1) :: .int 0 :: .int (-1) :: .int 0 :: .ref ((u 14)) :: .int 0 :: .int 0 :: .int 0 :: .int 0 :: .int 0 :: .ref ((u 15)) :: .ref ((u 16)) :: .int 0 :: .int (-1) :: .int 0 :: .int 0 :: .int 0 :: .int 0 :: .ref ((u 17)) :: .ref ((u 18)) :: .ref ((u 19)) :: .int 0 :: .ref ((u 20)) :: .ref ((u 21)) :: .int 0 :: .ref ((u 22)) :: .int (-1) :: .int 0 :: .ref ((u 23)) :: .int (-1) :: .int (-1) :: .int 0 :: .ref ((u 24)) :: .ref ((u 25)) :: .int 0 :: [])) rfl 1) [0] [] 0 rfl rfl rfl rfl (by decide) rfl rfl hl.1 rfl (Nat.le_of_ble_eq_true rfl) ⟨Nat.le_of_ble_eq_true rfl, Nat.le_of_ble_eq_true rfl⟩ ⟨Nat.le_of_ble_eq_true rfl, Nat.le_of_ble_eq_true rfl⟩ dX12_gap_16 (fun r3 u4 H locs hp2 h => ?_)
    have h : xS D cy A s.heap ([]) s H locs := h
    obtain rfl : r3 = (-1) := hp2
    exact x_iret F h hr hlk rfl (fun _ => 0) [] (rfl) (by decide +kernel) rfl (Nat.le_of_ble_eq_true rfl) (Nat.le_of_ble_eq_true rfl) dX12_gap_19
  · refine lv_iload_n F.1 F.2.1 dX12_gap_4 rfl (lv_at hl 2 rfl) ?_
    refine lv_iconst (v := 1) F.1 F.2.1 dX12_gap_5 (by decide) ?_
    refine lv_icmp_gt (tgt := 14) F.1 F.2.1 dX12_gap_6 (by decide) (fun hc5 => ?_) (fun hc5 => ?_)
    · refine lv_aload_n F.1 F.2.1 dX12_gap_14 rfl (lv_at hl 0 rfl) ?_
      refine lv_iconst (v := 1) F.1 F.2.1 dX12_gap_15 (by decide) ?_
      refine x_Vi (wr := []) F h yk_X12_refuse mw_452 mw_453 mw_454 (c_m_refuse l D cy q ((.ref ((u 0)) :: .int 0 :: .long 0 :: .long 1 :: .ref ((u 1)) :: .ref ((u 2)) :: .ref ((u 3)) :: .ref ((u 4)) :: .ref ((u 5)) :: .int 0 :: .int 0 :: .int 0 :: .int 0 :: .int 0 :: .int 0 :: .int (-1) :: .int (-1) :: .int 0 :: .ref ((u 6)) :: .int 0 :: .int 0 :: .ref ((u 7)) :: .ref ((u 8)) :: .ref ((u 9)) :: .ref ((u 10)) :: .ref ((u 11)) :: .ref ((u 12)) :: .ref ((u 13)) :: .int 0 :: .int 0 :: .int (-1) :: .int 0 :: .int (-1) :: .int 0 :: .ref ((u 14)) :: .int 0 :: .int 0 :: .int 0 :: .int 0 :: .int 0 :: .ref ((u 15)) :: .ref ((u 16)) :: .int 0 :: .int (-1) :: .int 0 :: .int 0 :: .int 0 :: .int 0 :: .ref ((u 17)) :: .ref ((u 18)) :: .ref ((u 19)) :: .int 0 :: .ref ((u 20)) :: .ref ((u 21)) :: .int 0 :: .ref ((u 22)) :: .int (-1) :: .int 0 :: .ref ((u 23)) :: .int (-1) :: .int (-1) :: .int 0 :: .ref ((u 24)) :: .ref ((u 25)) :: .int 0 :: [])) rfl 1) [0] [] 0 rfl rfl rfl rfl (by decide) rfl rfl hl.1 rfl (Nat.le_of_ble_eq_true rfl) ⟨Nat.le_of_ble_eq_true rfl, Nat.le_of_ble_eq_true rfl⟩ ⟨Nat.le_of_ble_eq_true rfl, Nat.le_of_ble_eq_true rfl⟩ dX12_gap_16 (fun r7 u8 H locs hp6 h => ?_)
      have h : xS D cy A s.heap ([]) s H locs := h
      obtain rfl : r7 = (-1) := hp6
      exact x_iret F h hr hlk rfl (fun _ => 0) [] (rfl) (by decide +kernel) rfl (Nat.le_of_ble_eq_true rfl) (Nat.le_of_ble_eq_true rfl) dX12_gap_19
    · refine lv_iload_n F.1 F.2.1 dX12_gap_9 rfl (lv_at hl 1 rfl) ?_
      refine lv_iconst (v := 1) F.1 F.2.1 dX12_gap_10 (by decide) ?_
      refine lv_icmp_ge (tgt := 20) F.1 F.2.1 dX12_gap_11 (by decide) (fun hc9 => ?_) (fun hc9 => ?_)
      · refine lv_iload_n F.1 F.2.1 dX12_gap_20 rfl (lv_at hl 1 rfl) ?_
        refine lv_aload_n F.1 F.2.1 dX12_gap_21 rfl (lv_at hl 0 rfl) ?_
        refine x_get F h 0 30 inlX12 rfl (by decide) mw_219 dX12_gap_22 rfl rfl ?_
        refine lv_icmp_le (tgt := 35) F.1 F.2.1 dX12_gap_25 (by decide) (fun hc => absurd hc (Int32.not_le.mpr (x_gap (Int32.not_lt.mpr hc9)))) (fun _ => ?_)
        refine lv_aload_n F.1 F.2.1 dX12_gap_28 rfl (lv_at hl 0 rfl) ?_
        refine lv_bipush (v := 6) F.1 F.2.1 dX12_gap_29 (by decide) ?_
        refine x_Vi (wr := []) F h yk_X12_refuse mw_452 mw_453 mw_454 (c_m_refuse l D cy q ((.ref ((u 0)) :: .int 0 :: .long 0 :: .long 1 :: .ref ((u 1)) :: .ref ((u 2)) :: .ref ((u 3)) :: .ref ((u 4)) :: .ref ((u 5)) :: .int 0 :: .int 0 :: .int 0 :: .int 0 :: .int 0 :: .int 0 :: .int (-1) :: .int (-1) :: .int 0 :: .ref ((u 6)) :: .int 0 :: .int 0 :: .ref ((u 7)) :: .ref ((u 8)) :: .ref ((u 9)) :: .ref ((u 10)) :: .ref ((u 11)) :: .ref ((u 12)) :: .ref ((u 13)) :: .int 0 :: .int 0 :: .int (-1) :: .int 0 :: .int (-1) :: .int 0 :: .ref ((u 14)) :: .int 0 :: .int 0 :: .int 0 :: .int 0 :: .int 0 :: .ref ((u 15)) :: .ref ((u 16)) :: .int 0 :: .int (-1) :: .int 0 :: .int 0 :: .int 0 :: .int 0 :: .ref ((u 17)) :: .ref ((u 18)) :: .ref ((u 19)) :: .int 0 :: .ref ((u 20)) :: .ref ((u 21)) :: .int 0 :: .ref ((u 22)) :: .int (-1) :: .int 0 :: .ref ((u 23)) :: .int (-1) :: .int (-1) :: .int 0 :: .ref ((u 24)) :: .ref ((u 25)) :: .int 0 :: [])) rfl 6) [0] [] 0 rfl rfl rfl rfl (by decide) rfl rfl hl.1 rfl (Nat.le_of_ble_eq_true rfl) ⟨Nat.le_of_ble_eq_true rfl, Nat.le_of_ble_eq_true rfl⟩ ⟨Nat.le_of_ble_eq_true rfl, Nat.le_of_ble_eq_true rfl⟩ dX12_gap_31 (fun r11 u12 H locs hp10 h => ?_)
        have h : xS D cy A s.heap ([]) s H locs := h
        obtain rfl : r11 = (-1) := hp10
        exact x_iret F h hr hlk rfl (fun _ => 0) [] (rfl) (by decide +kernel) rfl (Nat.le_of_ble_eq_true rfl) (Nat.le_of_ble_eq_true rfl) dX12_gap_34
      · refine lv_aload_n F.1 F.2.1 dX12_gap_14 rfl (lv_at hl 0 rfl) ?_
        refine lv_iconst (v := 1) F.1 F.2.1 dX12_gap_15 (by decide) ?_
        refine x_Vi (wr := []) F h yk_X12_refuse mw_452 mw_453 mw_454 (c_m_refuse l D cy q ((.ref ((u 0)) :: .int 0 :: .long 0 :: .long 1 :: .ref ((u 1)) :: .ref ((u 2)) :: .ref ((u 3)) :: .ref ((u 4)) :: .ref ((u 5)) :: .int 0 :: .int 0 :: .int 0 :: .int 0 :: .int 0 :: .int 0 :: .int (-1) :: .int (-1) :: .int 0 :: .ref ((u 6)) :: .int 0 :: .int 0 :: .ref ((u 7)) :: .ref ((u 8)) :: .ref ((u 9)) :: .ref ((u 10)) :: .ref ((u 11)) :: .ref ((u 12)) :: .ref ((u 13)) :: .int 0 :: .int 0 :: .int (-1) :: .int 0 :: .int (-1) :: .int 0 :: .ref ((u 14)) :: .int 0 :: .int 0 :: .int 0 :: .int 0 :: .int 0 :: .ref ((u 15)) :: .ref ((u 16)) :: .int 0 :: .int (-1) :: .int 0 :: .int 0 :: .int 0 :: .int 0 :: .ref ((u 17)) :: .ref ((u 18)) :: .ref ((u 19)) :: .int 0 :: .ref ((u 20)) :: .ref ((u 21)) :: .int 0 :: .ref ((u 22)) :: .int (-1) :: .int 0 :: .ref ((u 23)) :: .int (-1) :: .int (-1) :: .int 0 :: .ref ((u 24)) :: .ref ((u 25)) :: .int 0 :: [])) rfl 1) [0] [] 0 rfl rfl rfl rfl (by decide) rfl rfl hl.1 rfl (Nat.le_of_ble_eq_true rfl) ⟨Nat.le_of_ble_eq_true rfl, Nat.le_of_ble_eq_true rfl⟩ ⟨Nat.le_of_ble_eq_true rfl, Nat.le_of_ble_eq_true rfl⟩ dX12_gap_16 (fun r14 u15 H locs hp13 h => ?_)
        have h : xS D cy A s.heap ([]) s H locs := h
        obtain rfl : r14 = (-1) := hp13
        exact x_iret F h hr hlk rfl (fun _ => 0) [] (rfl) (by decide +kernel) rfl (Nat.le_of_ble_eq_true rfl) (Nat.le_of_ble_eq_true rfl) dX12_gap_19
set_option maxHeartbeats 4000000 in
set_option maxRecDepth 100000 in
theorem c_m_say (l : Launch) (D : va_G) (cy : Nat → ClassId) (q : Nat) (u : Nat → Nat) (sc : Int32) (k : Int32) : ∀ sz, Met l yX12_say (Cond.code yX12_say cX12_say 4 (some .int) :: wsL_law) { frames := 1, cells := 0, slots := 0, locals := 22 } (va_Pc [.ref q, .int sc, .int k] (xP D cy ([mM q u 0 0 0 (-1) 0, mA_at cy u]) sz)) (va_Qi (fun r _ => r = (-1)) (xB D (va_A ([mM q u 0 0 0 (-1) 0, mA_at cy u]) sz) (fun _ => [])) (va_A ([mM q u 0 0 0 (-1) 0, mA_at cy u]) sz)) 0 0 (va_A ([mM q u 0 0 0 (-1) 0, mA_at cy u]) sz) := by
  refine x_enter (fun A => va_Qi (fun r _ => r = (-1)) (xB D A (fun _ => [])) A) (by decide +kernel) rfl (Nat.le_of_ble_eq_true rfl) ?_
  intro p e s m below meth c A ls F hr hlk hin h hl
  have hl : lv_has ls 4 [(0, .ref q), (1, .int sc), (2, .int k)] := hl
  have h : xS D cy A s.heap ([(q, .inr (12, (.ref ((u 0)) :: .int 0 :: .long 0 :: .long 1 :: .ref ((u 1)) :: .ref ((u 2)) :: .ref ((u 3)) :: .ref ((u 4)) :: .ref ((u 5)) :: .int 0 :: .int 0 :: .int 0 :: .int 0 :: .int 0 :: .int 0 :: .int (-1) :: .int (-1) :: .int 0 :: .ref ((u 6)) :: .int 0 :: .int 0 :: .ref ((u 7)) :: .ref ((u 8)) :: .ref ((u 9)) :: .ref ((u 10)) :: .ref ((u 11)) :: .ref ((u 12)) :: .ref ((u 13)) :: .int 0 :: .int 0 :: .int (-1) :: .int 0 :: .int (-1) :: .int 0 :: .ref ((u 14)) :: .int 0 :: .int 0 :: .int 0 :: .int 0 :: .int 0 :: .ref ((u 15)) :: .ref ((u 16)) :: .int 0 :: .int (-1) :: .int 0 :: .int 0 :: .int 0 :: .int 0 :: .ref ((u 17)) :: .ref ((u 18)) :: .ref ((u 19)) :: .int 0 :: .ref ((u 20)) :: .ref ((u 21)) :: .int 0 :: .ref ((u 22)) :: .int (-1) :: .int 0 :: .ref ((u 23)) :: .int (-1) :: .int (-1) :: .int 0 :: .ref ((u 24)) :: .ref ((u 25)) :: .int 0 :: []))), (((u 0)), .inl (cy 2, 25710, .inr (.inl (fun _ => 0))))]) s s.heap [] := h
  refine lv_aload_n F.1 F.2.1 dX12_say_0 rfl (lv_at hl 0 rfl) ?_
  refine lv_iload_n F.1 F.2.1 dX12_say_1 rfl (lv_at hl 1 rfl) ?_
  refine x_Vi (wr := [(((u 0)), .inl (cy 2, 25710, .inr (.inl (fun _ => 0))))]) F h yk_X12_isScript mw_635 mw_636 mw_637 (c_m_isScript l D cy q ((.ref ((u 0)) :: .int 0 :: .long 0 :: .long 1 :: .ref ((u 1)) :: .ref ((u 2)) :: .ref ((u 3)) :: .ref ((u 4)) :: .ref ((u 5)) :: .int 0 :: .int 0 :: .int 0 :: .int 0 :: .int 0 :: .int 0 :: .int (-1) :: .int (-1) :: .int 0 :: .ref ((u 6)) :: .int 0 :: .int 0 :: .ref ((u 7)) :: .ref ((u 8)) :: .ref ((u 9)) :: .ref ((u 10)) :: .ref ((u 11)) :: .ref ((u 12)) :: .ref ((u 13)) :: .int 0 :: .int 0 :: .int (-1) :: .int 0 :: .int (-1) :: .int 0 :: .ref ((u 14)) :: .int 0 :: .int 0 :: .int 0 :: .int 0 :: .int 0 :: .ref ((u 15)) :: .ref ((u 16)) :: .int 0 :: .int (-1) :: .int 0 :: .int 0 :: .int 0 :: .int 0 :: .ref ((u 17)) :: .ref ((u 18)) :: .ref ((u 19)) :: .int 0 :: .ref ((u 20)) :: .ref ((u 21)) :: .int 0 :: .ref ((u 22)) :: .int (-1) :: .int 0 :: .ref ((u 23)) :: .int (-1) :: .int (-1) :: .int 0 :: .ref ((u 24)) :: .ref ((u 25)) :: .int 0 :: [])) sc) [0] [1] 0 rfl rfl rfl rfl (by decide) rfl rfl hl.1 rfl (Nat.le_of_ble_eq_true rfl) ⟨Nat.le_of_ble_eq_true rfl, Nat.le_of_ble_eq_true rfl⟩ ⟨Nat.le_of_ble_eq_true rfl, Nat.le_of_ble_eq_true rfl⟩ dX12_say_2 (fun r2 u3 H locs hp1 h => ?_)
  have h : xS D cy A s.heap ([(((u 0)), .inl (cy 2, 25710, .inr (.inl (fun _ => 0)))), (q, .inr (12, (.ref ((u 0)) :: .int 0 :: .long 0 :: .long 1 :: .ref ((u 1)) :: .ref ((u 2)) :: .ref ((u 3)) :: .ref ((u 4)) :: .ref ((u 5)) :: .int 0 :: .int 0 :: .int 0 :: .int 0 :: .int 0 :: .int 0 :: .int (-1) :: .int (-1) :: .int 0 :: .ref ((u 6)) :: .int 0 :: .int 0 :: .ref ((u 7)) :: .ref ((u 8)) :: .ref ((u 9)) :: .ref ((u 10)) :: .ref ((u 11)) :: .ref ((u 12)) :: .ref ((u 13)) :: .int 0 :: .int 0 :: .int (-1) :: .int 0 :: .int (-1) :: .int 0 :: .ref ((u 14)) :: .int 0 :: .int 0 :: .int 0 :: .int 0 :: .int 0 :: .ref ((u 15)) :: .ref ((u 16)) :: .int 0 :: .int (-1) :: .int 0 :: .int 0 :: .int 0 :: .int 0 :: .ref ((u 17)) :: .ref ((u 18)) :: .ref ((u 19)) :: .int 0 :: .ref ((u 20)) :: .ref ((u 21)) :: .int 0 :: .ref ((u 22)) :: .int (-1) :: .int 0 :: .ref ((u 23)) :: .int (-1) :: .int (-1) :: .int 0 :: .ref ((u 24)) :: .ref ((u 25)) :: .int 0 :: [])))]) s H locs := h
  rcases x_tr (n := 3) hp1 with ⟨rfl, ht4⟩ | ⟨rfl, ht5, ht6⟩
  · refine lv_if_eq (tgt := 17) F.1 F.2.1 dX12_say_5 (by decide) (fun _ => ?_) (fun hc => absurd (by decide) hc)
    refine lv_aload_n F.1 F.2.1 dX12_say_17 rfl (lv_at hl 0 rfl) ?_
    refine lv_iconst (v := 1) F.1 F.2.1 dX12_say_18 (by decide) ?_
    refine x_Vi (wr := [(((u 0)), .inl (cy 2, 25710, .inr (.inl (fun _ => 0))))]) F h yk_X12_refuse mw_452 mw_453 mw_454 (c_m_refuse l D cy q ((.ref ((u 0)) :: .int 0 :: .long 0 :: .long 1 :: .ref ((u 1)) :: .ref ((u 2)) :: .ref ((u 3)) :: .ref ((u 4)) :: .ref ((u 5)) :: .int 0 :: .int 0 :: .int 0 :: .int 0 :: .int 0 :: .int 0 :: .int (-1) :: .int (-1) :: .int 0 :: .ref ((u 6)) :: .int 0 :: .int 0 :: .ref ((u 7)) :: .ref ((u 8)) :: .ref ((u 9)) :: .ref ((u 10)) :: .ref ((u 11)) :: .ref ((u 12)) :: .ref ((u 13)) :: .int 0 :: .int 0 :: .int (-1) :: .int 0 :: .int (-1) :: .int 0 :: .ref ((u 14)) :: .int 0 :: .int 0 :: .int 0 :: .int 0 :: .int 0 :: .ref ((u 15)) :: .ref ((u 16)) :: .int 0 :: .int (-1) :: .int 0 :: .int 0 :: .int 0 :: .int 0 :: .ref ((u 17)) :: .ref ((u 18)) :: .ref ((u 19)) :: .int 0 :: .ref ((u 20)) :: .ref ((u 21)) :: .int 0 :: .ref ((u 22)) :: .int (-1) :: .int 0 :: .ref ((u 23)) :: .int (-1) :: .int (-1) :: .int 0 :: .ref ((u 24)) :: .ref ((u 25)) :: .int 0 :: [])) rfl 1) [1] [0] 1 rfl rfl rfl rfl (by decide) rfl rfl hl.1 rfl (Nat.le_of_ble_eq_true rfl) ⟨Nat.le_of_ble_eq_true rfl, Nat.le_of_ble_eq_true rfl⟩ ⟨Nat.le_of_ble_eq_true rfl, Nat.le_of_ble_eq_true rfl⟩ dX12_say_19 (fun r8 u9 H locs hp7 h => ?_)
    have h : xS D cy A s.heap ([(((u 0)), .inl (cy 2, 25710, .inr (.inl (fun _ => 0))))]) s H locs := h
    obtain rfl : r8 = (-1) := hp7
    exact x_iret F h hr hlk rfl (fun _ => 0) [] (rfl) (by decide +kernel) rfl (Nat.le_of_ble_eq_true rfl) (Nat.le_of_ble_eq_true rfl) dX12_say_22
  · refine lv_if_eq (tgt := 17) F.1 F.2.1 dX12_say_5 (by decide) (fun hc => absurd hc (by decide)) (fun _ => ?_)
    refine lv_aload_n F.1 F.2.1 dX12_say_8 rfl (lv_at hl 0 rfl) ?_
    refine lv_iload_n F.1 F.2.1 dX12_say_9 rfl (lv_at hl 2 rfl) ?_
    refine lv_i2l (v := k.toInt64) F.1 F.2.1 dX12_say_10 rfl ?_
    refine x_Vi (wr := []) F h yk_X12_isLine mw_797 mw_798 mw_799 (c_m_isLine l D cy q u k.toInt64) [1, 0] [] 1 rfl rfl rfl rfl (by decide) rfl rfl hl.1 rfl (Nat.le_of_ble_eq_true rfl) ⟨Nat.le_of_ble_eq_true rfl, Nat.le_of_ble_eq_true rfl⟩ ⟨Nat.le_of_ble_eq_true rfl, Nat.le_of_ble_eq_true rfl⟩ dX12_say_11 (fun r11 u12 H locs hp10 h => ?_)
    have h : xS D cy A s.heap ([(q, .inr (12, (.ref ((u 0)) :: .int 0 :: .long 0 :: .long 1 :: .ref ((u 1)) :: .ref ((u 2)) :: .ref ((u 3)) :: .ref ((u 4)) :: .ref ((u 5)) :: .int 0 :: .int 0 :: .int 0 :: .int 0 :: .int 0 :: .int 0 :: .int (-1) :: .int (-1) :: .int 0 :: .ref ((u 6)) :: .int 0 :: .int 0 :: .ref ((u 7)) :: .ref ((u 8)) :: .ref ((u 9)) :: .ref ((u 10)) :: .ref ((u 11)) :: .ref ((u 12)) :: .ref ((u 13)) :: .int 0 :: .int 0 :: .int (-1) :: .int 0 :: .int (-1) :: .int 0 :: .ref ((u 14)) :: .int 0 :: .int 0 :: .int 0 :: .int 0 :: .int 0 :: .ref ((u 15)) :: .ref ((u 16)) :: .int 0 :: .int (-1) :: .int 0 :: .int 0 :: .int 0 :: .int 0 :: .ref ((u 17)) :: .ref ((u 18)) :: .ref ((u 19)) :: .int 0 :: .ref ((u 20)) :: .ref ((u 21)) :: .int 0 :: .ref ((u 22)) :: .int (-1) :: .int 0 :: .ref ((u 23)) :: .int (-1) :: .int (-1) :: .int 0 :: .ref ((u 24)) :: .ref ((u 25)) :: .int 0 :: []))), (((u 0)), .inl (cy 2, 25710, .inr (.inl (fun _ => 0))))]) s H locs := h
    obtain rfl : r11 = 0 := hp10
    refine lv_if_ne (tgt := 23) F.1 F.2.1 dX12_say_14 (by decide) (fun hc => absurd hc (by decide)) (fun _ => ?_)
    refine lv_aload_n F.1 F.2.1 dX12_say_17 rfl (lv_at hl 0 rfl) ?_
    refine lv_iconst (v := 1) F.1 F.2.1 dX12_say_18 (by decide) ?_
    refine x_Vi (wr := [(((u 0)), .inl (cy 2, 25710, .inr (.inl (fun _ => 0))))]) F h yk_X12_refuse mw_452 mw_453 mw_454 (c_m_refuse l D cy q ((.ref ((u 0)) :: .int 0 :: .long 0 :: .long 1 :: .ref ((u 1)) :: .ref ((u 2)) :: .ref ((u 3)) :: .ref ((u 4)) :: .ref ((u 5)) :: .int 0 :: .int 0 :: .int 0 :: .int 0 :: .int 0 :: .int 0 :: .int (-1) :: .int (-1) :: .int 0 :: .ref ((u 6)) :: .int 0 :: .int 0 :: .ref ((u 7)) :: .ref ((u 8)) :: .ref ((u 9)) :: .ref ((u 10)) :: .ref ((u 11)) :: .ref ((u 12)) :: .ref ((u 13)) :: .int 0 :: .int 0 :: .int (-1) :: .int 0 :: .int (-1) :: .int 0 :: .ref ((u 14)) :: .int 0 :: .int 0 :: .int 0 :: .int 0 :: .int 0 :: .ref ((u 15)) :: .ref ((u 16)) :: .int 0 :: .int (-1) :: .int 0 :: .int 0 :: .int 0 :: .int 0 :: .ref ((u 17)) :: .ref ((u 18)) :: .ref ((u 19)) :: .int 0 :: .ref ((u 20)) :: .ref ((u 21)) :: .int 0 :: .ref ((u 22)) :: .int (-1) :: .int 0 :: .ref ((u 23)) :: .int (-1) :: .int (-1) :: .int 0 :: .ref ((u 24)) :: .ref ((u 25)) :: .int 0 :: [])) rfl 1) [0] [1] 0 rfl rfl rfl rfl (by decide) rfl rfl hl.1 rfl (Nat.le_of_ble_eq_true rfl) ⟨Nat.le_of_ble_eq_true rfl, Nat.le_of_ble_eq_true rfl⟩ ⟨Nat.le_of_ble_eq_true rfl, Nat.le_of_ble_eq_true rfl⟩ dX12_say_19 (fun r14 u15 H locs hp13 h => ?_)
    have h : xS D cy A s.heap ([(((u 0)), .inl (cy 2, 25710, .inr (.inl (fun _ => 0))))]) s H locs := h
    obtain rfl : r14 = (-1) := hp13
    exact x_iret F h hr hlk rfl (fun _ => 0) [] (rfl) (by decide +kernel) rfl (Nat.le_of_ble_eq_true rfl) (Nat.le_of_ble_eq_true rfl) dX12_say_22
set_option maxHeartbeats 4000000 in
set_option maxRecDepth 100000 in
theorem c_m_said (l : Launch) (D : va_G) (cy : Nat → ClassId) (q : Nat) (u : Nat → Nat) (k : Int32) : ∀ sz, Met l yX12_said (Cond.code yX12_said cX12_said 2 (some .long) :: wsL_law) { frames := 1, cells := 0, slots := 0, locals := 21 } (va_Pc [.ref q, .int k] (xP D cy ([mM q u 0 0 0 (-1) 0]) sz)) (va_Ql (fun r _ => r = (-1)) (xB D (va_A ([mM q u 0 0 0 (-1) 0]) sz) (fun _ => [])) (va_A ([mM q u 0 0 0 (-1) 0]) sz)) 0 0 (va_A ([mM q u 0 0 0 (-1) 0]) sz) := by
  refine x_enter (fun A => va_Ql (fun r _ => r = (-1)) (xB D A (fun _ => [])) A) (by decide +kernel) rfl (Nat.le_of_ble_eq_true rfl) ?_
  intro p e s m below meth c A ls F hr hlk hin h hl
  have hl : lv_has ls 2 [(0, .ref q), (1, .int k)] := hl
  have h : xS D cy A s.heap ([(q, .inr (12, (.ref ((u 0)) :: .int 0 :: .long 0 :: .long 1 :: .ref ((u 1)) :: .ref ((u 2)) :: .ref ((u 3)) :: .ref ((u 4)) :: .ref ((u 5)) :: .int 0 :: .int 0 :: .int 0 :: .int 0 :: .int 0 :: .int 0 :: .int (-1) :: .int (-1) :: .int 0 :: .ref ((u 6)) :: .int 0 :: .int 0 :: .ref ((u 7)) :: .ref ((u 8)) :: .ref ((u 9)) :: .ref ((u 10)) :: .ref ((u 11)) :: .ref ((u 12)) :: .ref ((u 13)) :: .int 0 :: .int 0 :: .int (-1) :: .int 0 :: .int (-1) :: .int 0 :: .ref ((u 14)) :: .int 0 :: .int 0 :: .int 0 :: .int 0 :: .int 0 :: .ref ((u 15)) :: .ref ((u 16)) :: .int 0 :: .int (-1) :: .int 0 :: .int 0 :: .int 0 :: .int 0 :: .ref ((u 17)) :: .ref ((u 18)) :: .ref ((u 19)) :: .int 0 :: .ref ((u 20)) :: .ref ((u 21)) :: .int 0 :: .ref ((u 22)) :: .int (-1) :: .int 0 :: .ref ((u 23)) :: .int (-1) :: .int (-1) :: .int 0 :: .ref ((u 24)) :: .ref ((u 25)) :: .int 0 :: [])))]) s s.heap [] := h
  refine lv_iload_n F.1 F.2.1 dX12_said_0 rfl (lv_at hl 1 rfl) ?_
  refine lv_if_ge (tgt := 13) F.1 F.2.1 dX12_said_1 (by decide) (fun hc1 => ?_) (fun hc1 => ?_)
  · refine lv_iload_n F.1 F.2.1 dX12_said_13 rfl (lv_at hl 1 rfl) ?_
    refine lv_aload_n F.1 F.2.1 dX12_said_14 rfl (lv_at hl 0 rfl) ?_
    refine x_get F h 0 42 inlX12 rfl (by decide) mw_1047 dX12_said_15 rfl rfl ?_
    refine lv_icmp_lt (tgt := 31) F.1 F.2.1 dX12_said_18 (by decide) (fun hc => absurd hc (Int32.not_lt.mpr hc1)) (fun _ => ?_)
    refine lv_aload_n F.1 F.2.1 dX12_said_21 rfl (lv_at hl 0 rfl) ?_
    refine lv_bipush (v := 6) F.1 F.2.1 dX12_said_22 (by decide) ?_
    refine x_Vi (wr := []) F h yk_X12_refuse mw_452 mw_453 mw_454 (c_m_refuse l D cy q ((.ref ((u 0)) :: .int 0 :: .long 0 :: .long 1 :: .ref ((u 1)) :: .ref ((u 2)) :: .ref ((u 3)) :: .ref ((u 4)) :: .ref ((u 5)) :: .int 0 :: .int 0 :: .int 0 :: .int 0 :: .int 0 :: .int 0 :: .int (-1) :: .int (-1) :: .int 0 :: .ref ((u 6)) :: .int 0 :: .int 0 :: .ref ((u 7)) :: .ref ((u 8)) :: .ref ((u 9)) :: .ref ((u 10)) :: .ref ((u 11)) :: .ref ((u 12)) :: .ref ((u 13)) :: .int 0 :: .int 0 :: .int (-1) :: .int 0 :: .int (-1) :: .int 0 :: .ref ((u 14)) :: .int 0 :: .int 0 :: .int 0 :: .int 0 :: .int 0 :: .ref ((u 15)) :: .ref ((u 16)) :: .int 0 :: .int (-1) :: .int 0 :: .int 0 :: .int 0 :: .int 0 :: .ref ((u 17)) :: .ref ((u 18)) :: .ref ((u 19)) :: .int 0 :: .ref ((u 20)) :: .ref ((u 21)) :: .int 0 :: .ref ((u 22)) :: .int (-1) :: .int 0 :: .ref ((u 23)) :: .int (-1) :: .int (-1) :: .int 0 :: .ref ((u 24)) :: .ref ((u 25)) :: .int 0 :: [])) rfl 6) [0] [] 0 rfl rfl rfl rfl (by decide) rfl rfl hl.1 rfl (Nat.le_of_ble_eq_true rfl) ⟨Nat.le_of_ble_eq_true rfl, Nat.le_of_ble_eq_true rfl⟩ ⟨Nat.le_of_ble_eq_true rfl, Nat.le_of_ble_eq_true rfl⟩ dX12_said_24 (fun r3 u4 H locs hp2 h => ?_)
    have h : xS D cy A s.heap ([]) s H locs := h
    obtain rfl : r3 = (-1) := hp2
    refine lv_i2l (v := (-1)) F.1 F.2.1 dX12_said_27 (by decide +kernel) ?_
    refine lv_goto (tgt := 41) F.1 F.2.1 dX12_said_28 (by decide) ?_
    exact x_lret F h hr hlk (fun _ => 0) [] (rfl) (by decide +kernel) rfl (Nat.le_of_ble_eq_true rfl) (Nat.le_of_ble_eq_true rfl) dX12_said_41
  · refine lv_aload_n F.1 F.2.1 dX12_said_4 rfl (lv_at hl 0 rfl) ?_
    refine lv_iconst (v := 1) F.1 F.2.1 dX12_said_5 (by decide) ?_
    refine x_Vi (wr := []) F h yk_X12_refuse mw_452 mw_453 mw_454 (c_m_refuse l D cy q ((.ref ((u 0)) :: .int 0 :: .long 0 :: .long 1 :: .ref ((u 1)) :: .ref ((u 2)) :: .ref ((u 3)) :: .ref ((u 4)) :: .ref ((u 5)) :: .int 0 :: .int 0 :: .int 0 :: .int 0 :: .int 0 :: .int 0 :: .int (-1) :: .int (-1) :: .int 0 :: .ref ((u 6)) :: .int 0 :: .int 0 :: .ref ((u 7)) :: .ref ((u 8)) :: .ref ((u 9)) :: .ref ((u 10)) :: .ref ((u 11)) :: .ref ((u 12)) :: .ref ((u 13)) :: .int 0 :: .int 0 :: .int (-1) :: .int 0 :: .int (-1) :: .int 0 :: .ref ((u 14)) :: .int 0 :: .int 0 :: .int 0 :: .int 0 :: .int 0 :: .ref ((u 15)) :: .ref ((u 16)) :: .int 0 :: .int (-1) :: .int 0 :: .int 0 :: .int 0 :: .int 0 :: .ref ((u 17)) :: .ref ((u 18)) :: .ref ((u 19)) :: .int 0 :: .ref ((u 20)) :: .ref ((u 21)) :: .int 0 :: .ref ((u 22)) :: .int (-1) :: .int 0 :: .ref ((u 23)) :: .int (-1) :: .int (-1) :: .int 0 :: .ref ((u 24)) :: .ref ((u 25)) :: .int 0 :: [])) rfl 1) [0] [] 0 rfl rfl rfl rfl (by decide) rfl rfl hl.1 rfl (Nat.le_of_ble_eq_true rfl) ⟨Nat.le_of_ble_eq_true rfl, Nat.le_of_ble_eq_true rfl⟩ ⟨Nat.le_of_ble_eq_true rfl, Nat.le_of_ble_eq_true rfl⟩ dX12_said_6 (fun r6 u7 H locs hp5 h => ?_)
    have h : xS D cy A s.heap ([]) s H locs := h
    obtain rfl : r6 = (-1) := hp5
    refine lv_i2l (v := (-1)) F.1 F.2.1 dX12_said_9 (by decide +kernel) ?_
    refine lv_goto (tgt := 41) F.1 F.2.1 dX12_said_10 (by decide) ?_
    exact x_lret F h hr hlk (fun _ => 0) [] (rfl) (by decide +kernel) rfl (Nat.le_of_ble_eq_true rfl) (Nat.le_of_ble_eq_true rfl) dX12_said_41
set_option maxHeartbeats 4000000 in
set_option maxRecDepth 100000 in
theorem c_m_how (l : Launch) (D : va_G) (cy : Nat → ClassId) (q : Nat) (u : Nat → Nat) (k : Int32) : ∀ sz, Met l yX12_how (Cond.code yX12_how cX12_how 3 (some .int) :: wsL_law) { frames := 1, cells := 0, slots := 0, locals := 21 } (va_Pc [.ref q, .int k] (xP D cy ([mM q u 0 0 0 (-1) 0]) sz)) (va_Qi (fun r _ => r = (-1)) (xB D (va_A ([mM q u 0 0 0 (-1) 0]) sz) (fun _ => [])) (va_A ([mM q u 0 0 0 (-1) 0]) sz)) 0 0 (va_A ([mM q u 0 0 0 (-1) 0]) sz) := by
  refine x_enter (fun A => va_Qi (fun r _ => r = (-1)) (xB D A (fun _ => [])) A) (by decide +kernel) rfl (Nat.le_of_ble_eq_true rfl) ?_
  intro p e s m below meth c A ls F hr hlk hin h hl
  have hl : lv_has ls 3 [(0, .ref q), (1, .int k)] := hl
  have h : xS D cy A s.heap ([(q, .inr (12, (.ref ((u 0)) :: .int 0 :: .long 0 :: .long 1 :: .ref ((u 1)) :: .ref ((u 2)) :: .ref ((u 3)) :: .ref ((u 4)) :: .ref ((u 5)) :: .int 0 :: .int 0 :: .int 0 :: .int 0 :: .int 0 :: .int 0 :: .int (-1) :: .int (-1) :: .int 0 :: .ref ((u 6)) :: .int 0 :: .int 0 :: .ref ((u 7)) :: .ref ((u 8)) :: .ref ((u 9)) :: .ref ((u 10)) :: .ref ((u 11)) :: .ref ((u 12)) :: .ref ((u 13)) :: .int 0 :: .int 0 :: .int (-1) :: .int 0 :: .int (-1) :: .int 0 :: .ref ((u 14)) :: .int 0 :: .int 0 :: .int 0 :: .int 0 :: .int 0 :: .ref ((u 15)) :: .ref ((u 16)) :: .int 0 :: .int (-1) :: .int 0 :: .int 0 :: .int 0 :: .int 0 :: .ref ((u 17)) :: .ref ((u 18)) :: .ref ((u 19)) :: .int 0 :: .ref ((u 20)) :: .ref ((u 21)) :: .int 0 :: .ref ((u 22)) :: .int (-1) :: .int 0 :: .ref ((u 23)) :: .int (-1) :: .int (-1) :: .int 0 :: .ref ((u 24)) :: .ref ((u 25)) :: .int 0 :: [])))]) s s.heap [] := h
  refine lv_iload_n F.1 F.2.1 dX12_how_0 rfl (lv_at hl 1 rfl) ?_
  refine lv_if_lt (tgt := 9) F.1 F.2.1 dX12_how_1 (by decide) (fun hc1 => ?_) (fun hc1 => ?_)
  · refine lv_aload_n F.1 F.2.1 dX12_how_9 rfl (lv_at hl 0 rfl) ?_
    refine lv_iconst (v := 1) F.1 F.2.1 dX12_how_10 (by decide) ?_
    refine x_Vi (wr := []) F h yk_X12_refuse mw_452 mw_453 mw_454 (c_m_refuse l D cy q ((.ref ((u 0)) :: .int 0 :: .long 0 :: .long 1 :: .ref ((u 1)) :: .ref ((u 2)) :: .ref ((u 3)) :: .ref ((u 4)) :: .ref ((u 5)) :: .int 0 :: .int 0 :: .int 0 :: .int 0 :: .int 0 :: .int 0 :: .int (-1) :: .int (-1) :: .int 0 :: .ref ((u 6)) :: .int 0 :: .int 0 :: .ref ((u 7)) :: .ref ((u 8)) :: .ref ((u 9)) :: .ref ((u 10)) :: .ref ((u 11)) :: .ref ((u 12)) :: .ref ((u 13)) :: .int 0 :: .int 0 :: .int (-1) :: .int 0 :: .int (-1) :: .int 0 :: .ref ((u 14)) :: .int 0 :: .int 0 :: .int 0 :: .int 0 :: .int 0 :: .ref ((u 15)) :: .ref ((u 16)) :: .int 0 :: .int (-1) :: .int 0 :: .int 0 :: .int 0 :: .int 0 :: .ref ((u 17)) :: .ref ((u 18)) :: .ref ((u 19)) :: .int 0 :: .ref ((u 20)) :: .ref ((u 21)) :: .int 0 :: .ref ((u 22)) :: .int (-1) :: .int 0 :: .ref ((u 23)) :: .int (-1) :: .int (-1) :: .int 0 :: .ref ((u 24)) :: .ref ((u 25)) :: .int 0 :: [])) rfl 1) [0] [] 0 rfl rfl rfl rfl (by decide) rfl rfl hl.1 rfl (Nat.le_of_ble_eq_true rfl) ⟨Nat.le_of_ble_eq_true rfl, Nat.le_of_ble_eq_true rfl⟩ ⟨Nat.le_of_ble_eq_true rfl, Nat.le_of_ble_eq_true rfl⟩ dX12_how_11 (fun r3 u4 H locs hp2 h => ?_)
    have h : xS D cy A s.heap ([]) s H locs := h
    obtain rfl : r3 = (-1) := hp2
    exact x_iret F h hr hlk rfl (fun _ => 0) [] (rfl) (by decide +kernel) rfl (Nat.le_of_ble_eq_true rfl) (Nat.le_of_ble_eq_true rfl) dX12_how_14
  · refine lv_iload_n F.1 F.2.1 dX12_how_4 rfl (lv_at hl 1 rfl) ?_
    refine lv_iconst (v := 4) F.1 F.2.1 dX12_how_5 (by decide) ?_
    refine lv_icmp_le (tgt := 15) F.1 F.2.1 dX12_how_6 (by decide) (fun hc5 => ?_) (fun hc5 => ?_)
    · refine lv_aload_n F.1 F.2.1 dX12_how_15 rfl (lv_at hl 0 rfl) ?_
      refine x_get F h 0 43 inlX12 rfl (by decide) mw_224 dX12_how_16 rfl rfl ?_
      refine lv_iconst (v := (-1)) F.1 F.2.1 dX12_how_19 (by decide) ?_
      refine lv_icmp_ne (tgt := 30) F.1 F.2.1 dX12_how_20 (by decide) (fun hc => absurd hc (by decide)) (fun _ => ?_)
      refine lv_aload_n F.1 F.2.1 dX12_how_23 rfl (lv_at hl 0 rfl) ?_
      refine lv_bipush (v := 6) F.1 F.2.1 dX12_how_24 (by decide) ?_
      refine x_Vi (wr := []) F h yk_X12_refuse mw_452 mw_453 mw_454 (c_m_refuse l D cy q ((.ref ((u 0)) :: .int 0 :: .long 0 :: .long 1 :: .ref ((u 1)) :: .ref ((u 2)) :: .ref ((u 3)) :: .ref ((u 4)) :: .ref ((u 5)) :: .int 0 :: .int 0 :: .int 0 :: .int 0 :: .int 0 :: .int 0 :: .int (-1) :: .int (-1) :: .int 0 :: .ref ((u 6)) :: .int 0 :: .int 0 :: .ref ((u 7)) :: .ref ((u 8)) :: .ref ((u 9)) :: .ref ((u 10)) :: .ref ((u 11)) :: .ref ((u 12)) :: .ref ((u 13)) :: .int 0 :: .int 0 :: .int (-1) :: .int 0 :: .int (-1) :: .int 0 :: .ref ((u 14)) :: .int 0 :: .int 0 :: .int 0 :: .int 0 :: .int 0 :: .ref ((u 15)) :: .ref ((u 16)) :: .int 0 :: .int (-1) :: .int 0 :: .int 0 :: .int 0 :: .int 0 :: .ref ((u 17)) :: .ref ((u 18)) :: .ref ((u 19)) :: .int 0 :: .ref ((u 20)) :: .ref ((u 21)) :: .int 0 :: .ref ((u 22)) :: .int (-1) :: .int 0 :: .ref ((u 23)) :: .int (-1) :: .int (-1) :: .int 0 :: .ref ((u 24)) :: .ref ((u 25)) :: .int 0 :: [])) rfl 6) [0] [] 0 rfl rfl rfl rfl (by decide) rfl rfl hl.1 rfl (Nat.le_of_ble_eq_true rfl) ⟨Nat.le_of_ble_eq_true rfl, Nat.le_of_ble_eq_true rfl⟩ ⟨Nat.le_of_ble_eq_true rfl, Nat.le_of_ble_eq_true rfl⟩ dX12_how_26 (fun r7 u8 H locs hp6 h => ?_)
      have h : xS D cy A s.heap ([]) s H locs := h
      obtain rfl : r7 = (-1) := hp6
      exact x_iret F h hr hlk rfl (fun _ => 0) [] (rfl) (by decide +kernel) rfl (Nat.le_of_ble_eq_true rfl) (Nat.le_of_ble_eq_true rfl) dX12_how_29
    · refine lv_aload_n F.1 F.2.1 dX12_how_9 rfl (lv_at hl 0 rfl) ?_
      refine lv_iconst (v := 1) F.1 F.2.1 dX12_how_10 (by decide) ?_
      refine x_Vi (wr := []) F h yk_X12_refuse mw_452 mw_453 mw_454 (c_m_refuse l D cy q ((.ref ((u 0)) :: .int 0 :: .long 0 :: .long 1 :: .ref ((u 1)) :: .ref ((u 2)) :: .ref ((u 3)) :: .ref ((u 4)) :: .ref ((u 5)) :: .int 0 :: .int 0 :: .int 0 :: .int 0 :: .int 0 :: .int 0 :: .int (-1) :: .int (-1) :: .int 0 :: .ref ((u 6)) :: .int 0 :: .int 0 :: .ref ((u 7)) :: .ref ((u 8)) :: .ref ((u 9)) :: .ref ((u 10)) :: .ref ((u 11)) :: .ref ((u 12)) :: .ref ((u 13)) :: .int 0 :: .int 0 :: .int (-1) :: .int 0 :: .int (-1) :: .int 0 :: .ref ((u 14)) :: .int 0 :: .int 0 :: .int 0 :: .int 0 :: .int 0 :: .ref ((u 15)) :: .ref ((u 16)) :: .int 0 :: .int (-1) :: .int 0 :: .int 0 :: .int 0 :: .int 0 :: .ref ((u 17)) :: .ref ((u 18)) :: .ref ((u 19)) :: .int 0 :: .ref ((u 20)) :: .ref ((u 21)) :: .int 0 :: .ref ((u 22)) :: .int (-1) :: .int 0 :: .ref ((u 23)) :: .int (-1) :: .int (-1) :: .int 0 :: .ref ((u 24)) :: .ref ((u 25)) :: .int 0 :: [])) rfl 1) [0] [] 0 rfl rfl rfl rfl (by decide) rfl rfl hl.1 rfl (Nat.le_of_ble_eq_true rfl) ⟨Nat.le_of_ble_eq_true rfl, Nat.le_of_ble_eq_true rfl⟩ ⟨Nat.le_of_ble_eq_true rfl, Nat.le_of_ble_eq_true rfl⟩ dX12_how_11 (fun r10 u11 H locs hp9 h => ?_)
      have h : xS D cy A s.heap ([]) s H locs := h
      obtain rfl : r10 = (-1) := hp9
      exact x_iret F h hr hlk rfl (fun _ => 0) [] (rfl) (by decide +kernel) rfl (Nat.le_of_ble_eq_true rfl) (Nat.le_of_ble_eq_true rfl) dX12_how_14
set_option maxHeartbeats 4000000 in
set_option maxRecDepth 100000 in
theorem c_m_remembered (l : Launch) (D : va_G) (cy : Nat → ClassId) (q : Nat) (u : Nat → Nat) (sc : Int32) (k : Int32) (i : Int32) : ∀ sz, Met l yX12_remembered (Cond.code yX12_remembered cX12_remembered 6 (some .long) :: wsL_law) { frames := 1, cells := 0, slots := 0, locals := 21 } (va_Pc [.ref q, .int sc, .int k, .int i] (xP D cy ([mM q u 0 0 0 (-1) 0, mA_at cy u]) sz)) (va_Ql (fun r _ => r = (-1)) (xB D (va_A ([mM q u 0 0 0 (-1) 0, mA_at cy u]) sz) (fun _ => [])) (va_A ([mM q u 0 0 0 (-1) 0, mA_at cy u]) sz)) 0 0 (va_A ([mM q u 0 0 0 (-1) 0, mA_at cy u]) sz) := by
  refine x_enter (fun A => va_Ql (fun r _ => r = (-1)) (xB D A (fun _ => [])) A) (by decide +kernel) rfl (Nat.le_of_ble_eq_true rfl) ?_
  intro p e s m below meth c A ls F hr hlk hin h hl
  have hl : lv_has ls 6 [(0, .ref q), (1, .int sc), (2, .int k), (3, .int i)] := hl
  have h : xS D cy A s.heap ([(q, .inr (12, (.ref ((u 0)) :: .int 0 :: .long 0 :: .long 1 :: .ref ((u 1)) :: .ref ((u 2)) :: .ref ((u 3)) :: .ref ((u 4)) :: .ref ((u 5)) :: .int 0 :: .int 0 :: .int 0 :: .int 0 :: .int 0 :: .int 0 :: .int (-1) :: .int (-1) :: .int 0 :: .ref ((u 6)) :: .int 0 :: .int 0 :: .ref ((u 7)) :: .ref ((u 8)) :: .ref ((u 9)) :: .ref ((u 10)) :: .ref ((u 11)) :: .ref ((u 12)) :: .ref ((u 13)) :: .int 0 :: .int 0 :: .int (-1) :: .int 0 :: .int (-1) :: .int 0 :: .ref ((u 14)) :: .int 0 :: .int 0 :: .int 0 :: .int 0 :: .int 0 :: .ref ((u 15)) :: .ref ((u 16)) :: .int 0 :: .int (-1) :: .int 0 :: .int 0 :: .int 0 :: .int 0 :: .ref ((u 17)) :: .ref ((u 18)) :: .ref ((u 19)) :: .int 0 :: .ref ((u 20)) :: .ref ((u 21)) :: .int 0 :: .ref ((u 22)) :: .int (-1) :: .int 0 :: .ref ((u 23)) :: .int (-1) :: .int (-1) :: .int 0 :: .ref ((u 24)) :: .ref ((u 25)) :: .int 0 :: []))), (((u 0)), .inl (cy 2, 25710, .inr (.inl (fun _ => 0))))]) s s.heap [] := h
  refine lv_aload_n F.1 F.2.1 dX12_remembered_0 rfl (lv_at hl 0 rfl) ?_
  refine lv_iload_n F.1 F.2.1 dX12_remembered_1 rfl (lv_at hl 1 rfl) ?_
  refine x_Vi (wr := [(((u 0)), .inl (cy 2, 25710, .inr (.inl (fun _ => 0))))]) F h yk_X12_isScript mw_635 mw_636 mw_637 (c_m_isScript l D cy q ((.ref ((u 0)) :: .int 0 :: .long 0 :: .long 1 :: .ref ((u 1)) :: .ref ((u 2)) :: .ref ((u 3)) :: .ref ((u 4)) :: .ref ((u 5)) :: .int 0 :: .int 0 :: .int 0 :: .int 0 :: .int 0 :: .int 0 :: .int (-1) :: .int (-1) :: .int 0 :: .ref ((u 6)) :: .int 0 :: .int 0 :: .ref ((u 7)) :: .ref ((u 8)) :: .ref ((u 9)) :: .ref ((u 10)) :: .ref ((u 11)) :: .ref ((u 12)) :: .ref ((u 13)) :: .int 0 :: .int 0 :: .int (-1) :: .int 0 :: .int (-1) :: .int 0 :: .ref ((u 14)) :: .int 0 :: .int 0 :: .int 0 :: .int 0 :: .int 0 :: .ref ((u 15)) :: .ref ((u 16)) :: .int 0 :: .int (-1) :: .int 0 :: .int 0 :: .int 0 :: .int 0 :: .ref ((u 17)) :: .ref ((u 18)) :: .ref ((u 19)) :: .int 0 :: .ref ((u 20)) :: .ref ((u 21)) :: .int 0 :: .ref ((u 22)) :: .int (-1) :: .int 0 :: .ref ((u 23)) :: .int (-1) :: .int (-1) :: .int 0 :: .ref ((u 24)) :: .ref ((u 25)) :: .int 0 :: [])) sc) [0] [1] 0 rfl rfl rfl rfl (by decide) rfl rfl hl.1 rfl (Nat.le_of_ble_eq_true rfl) ⟨Nat.le_of_ble_eq_true rfl, Nat.le_of_ble_eq_true rfl⟩ ⟨Nat.le_of_ble_eq_true rfl, Nat.le_of_ble_eq_true rfl⟩ dX12_remembered_2 (fun r2 u3 H locs hp1 h => ?_)
  have h : xS D cy A s.heap ([(((u 0)), .inl (cy 2, 25710, .inr (.inl (fun _ => 0)))), (q, .inr (12, (.ref ((u 0)) :: .int 0 :: .long 0 :: .long 1 :: .ref ((u 1)) :: .ref ((u 2)) :: .ref ((u 3)) :: .ref ((u 4)) :: .ref ((u 5)) :: .int 0 :: .int 0 :: .int 0 :: .int 0 :: .int 0 :: .int 0 :: .int (-1) :: .int (-1) :: .int 0 :: .ref ((u 6)) :: .int 0 :: .int 0 :: .ref ((u 7)) :: .ref ((u 8)) :: .ref ((u 9)) :: .ref ((u 10)) :: .ref ((u 11)) :: .ref ((u 12)) :: .ref ((u 13)) :: .int 0 :: .int 0 :: .int (-1) :: .int 0 :: .int (-1) :: .int 0 :: .ref ((u 14)) :: .int 0 :: .int 0 :: .int 0 :: .int 0 :: .int 0 :: .ref ((u 15)) :: .ref ((u 16)) :: .int 0 :: .int (-1) :: .int 0 :: .int 0 :: .int 0 :: .int 0 :: .ref ((u 17)) :: .ref ((u 18)) :: .ref ((u 19)) :: .int 0 :: .ref ((u 20)) :: .ref ((u 21)) :: .int 0 :: .ref ((u 22)) :: .int (-1) :: .int 0 :: .ref ((u 23)) :: .int (-1) :: .int (-1) :: .int 0 :: .ref ((u 24)) :: .ref ((u 25)) :: .int 0 :: [])))]) s H locs := h
  rcases x_tr (n := 3) hp1 with ⟨rfl, ht4⟩ | ⟨rfl, ht5, ht6⟩
  · refine lv_if_eq (tgt := 17) F.1 F.2.1 dX12_remembered_5 (by decide) (fun _ => ?_) (fun hc => absurd (by decide) hc)
    refine lv_aload_n F.1 F.2.1 dX12_remembered_17 rfl (lv_at hl 0 rfl) ?_
    refine lv_iconst (v := 1) F.1 F.2.1 dX12_remembered_18 (by decide) ?_
    refine x_Vi (wr := [(((u 0)), .inl (cy 2, 25710, .inr (.inl (fun _ => 0))))]) F h yk_X12_refuse mw_452 mw_453 mw_454 (c_m_refuse l D cy q ((.ref ((u 0)) :: .int 0 :: .long 0 :: .long 1 :: .ref ((u 1)) :: .ref ((u 2)) :: .ref ((u 3)) :: .ref ((u 4)) :: .ref ((u 5)) :: .int 0 :: .int 0 :: .int 0 :: .int 0 :: .int 0 :: .int 0 :: .int (-1) :: .int (-1) :: .int 0 :: .ref ((u 6)) :: .int 0 :: .int 0 :: .ref ((u 7)) :: .ref ((u 8)) :: .ref ((u 9)) :: .ref ((u 10)) :: .ref ((u 11)) :: .ref ((u 12)) :: .ref ((u 13)) :: .int 0 :: .int 0 :: .int (-1) :: .int 0 :: .int (-1) :: .int 0 :: .ref ((u 14)) :: .int 0 :: .int 0 :: .int 0 :: .int 0 :: .int 0 :: .ref ((u 15)) :: .ref ((u 16)) :: .int 0 :: .int (-1) :: .int 0 :: .int 0 :: .int 0 :: .int 0 :: .ref ((u 17)) :: .ref ((u 18)) :: .ref ((u 19)) :: .int 0 :: .ref ((u 20)) :: .ref ((u 21)) :: .int 0 :: .ref ((u 22)) :: .int (-1) :: .int 0 :: .ref ((u 23)) :: .int (-1) :: .int (-1) :: .int 0 :: .ref ((u 24)) :: .ref ((u 25)) :: .int 0 :: [])) rfl 1) [1] [0] 1 rfl rfl rfl rfl (by decide) rfl rfl hl.1 rfl (Nat.le_of_ble_eq_true rfl) ⟨Nat.le_of_ble_eq_true rfl, Nat.le_of_ble_eq_true rfl⟩ ⟨Nat.le_of_ble_eq_true rfl, Nat.le_of_ble_eq_true rfl⟩ dX12_remembered_19 (fun r8 u9 H locs hp7 h => ?_)
    have h : xS D cy A s.heap ([(((u 0)), .inl (cy 2, 25710, .inr (.inl (fun _ => 0))))]) s H locs := h
    obtain rfl : r8 = (-1) := hp7
    refine lv_i2l (v := (-1)) F.1 F.2.1 dX12_remembered_22 (by decide +kernel) ?_
    exact x_lret F h hr hlk (fun _ => 0) [] (rfl) (by decide +kernel) rfl (Nat.le_of_ble_eq_true rfl) (Nat.le_of_ble_eq_true rfl) dX12_remembered_23
  · refine lv_if_eq (tgt := 17) F.1 F.2.1 dX12_remembered_5 (by decide) (fun hc => absurd hc (by decide)) (fun _ => ?_)
    refine lv_iload_n F.1 F.2.1 dX12_remembered_8 rfl (lv_at hl 2 rfl) ?_
    refine lv_if_lt (tgt := 17) F.1 F.2.1 dX12_remembered_9 (by decide) (fun hc10 => ?_) (fun hc10 => ?_)
    · refine lv_aload_n F.1 F.2.1 dX12_remembered_17 rfl (lv_at hl 0 rfl) ?_
      refine lv_iconst (v := 1) F.1 F.2.1 dX12_remembered_18 (by decide) ?_
      refine x_Vi (wr := [(((u 0)), .inl (cy 2, 25710, .inr (.inl (fun _ => 0))))]) F h yk_X12_refuse mw_452 mw_453 mw_454 (c_m_refuse l D cy q ((.ref ((u 0)) :: .int 0 :: .long 0 :: .long 1 :: .ref ((u 1)) :: .ref ((u 2)) :: .ref ((u 3)) :: .ref ((u 4)) :: .ref ((u 5)) :: .int 0 :: .int 0 :: .int 0 :: .int 0 :: .int 0 :: .int 0 :: .int (-1) :: .int (-1) :: .int 0 :: .ref ((u 6)) :: .int 0 :: .int 0 :: .ref ((u 7)) :: .ref ((u 8)) :: .ref ((u 9)) :: .ref ((u 10)) :: .ref ((u 11)) :: .ref ((u 12)) :: .ref ((u 13)) :: .int 0 :: .int 0 :: .int (-1) :: .int 0 :: .int (-1) :: .int 0 :: .ref ((u 14)) :: .int 0 :: .int 0 :: .int 0 :: .int 0 :: .int 0 :: .ref ((u 15)) :: .ref ((u 16)) :: .int 0 :: .int (-1) :: .int 0 :: .int 0 :: .int 0 :: .int 0 :: .ref ((u 17)) :: .ref ((u 18)) :: .ref ((u 19)) :: .int 0 :: .ref ((u 20)) :: .ref ((u 21)) :: .int 0 :: .ref ((u 22)) :: .int (-1) :: .int 0 :: .ref ((u 23)) :: .int (-1) :: .int (-1) :: .int 0 :: .ref ((u 24)) :: .ref ((u 25)) :: .int 0 :: [])) rfl 1) [1] [0] 1 rfl rfl rfl rfl (by decide) rfl rfl hl.1 rfl (Nat.le_of_ble_eq_true rfl) ⟨Nat.le_of_ble_eq_true rfl, Nat.le_of_ble_eq_true rfl⟩ ⟨Nat.le_of_ble_eq_true rfl, Nat.le_of_ble_eq_true rfl⟩ dX12_remembered_19 (fun r12 u13 H locs hp11 h => ?_)
      have h : xS D cy A s.heap ([(((u 0)), .inl (cy 2, 25710, .inr (.inl (fun _ => 0))))]) s H locs := h
      obtain rfl : r12 = (-1) := hp11
      refine lv_i2l (v := (-1)) F.1 F.2.1 dX12_remembered_22 (by decide +kernel) ?_
      exact x_lret F h hr hlk (fun _ => 0) [] (rfl) (by decide +kernel) rfl (Nat.le_of_ble_eq_true rfl) (Nat.le_of_ble_eq_true rfl) dX12_remembered_23
    · refine lv_iload_n F.1 F.2.1 dX12_remembered_12 rfl (lv_at hl 3 rfl) ?_
      refine lv_iconst (v := (-1)) F.1 F.2.1 dX12_remembered_13 (by decide) ?_
      refine lv_icmp_ge (tgt := 24) F.1 F.2.1 dX12_remembered_14 (by decide) (fun hc14 => ?_) (fun hc14 => ?_)
      · rcases x_c3 ht5 ht6 with rfl | rfl | rfl
        · refine lv_sipush (v := 1650) F.1 F.2.1 dX12_remembered_24 (by decide) ?_
          refine lv_iload_n F.1 F.2.1 dX12_remembered_27 rfl (lv_at hl 1 rfl) ?_
          refine lv_imul F.1 F.2.1 dX12_remembered_28 ?_
          refine x_topi (y := 0) (by decide +kernel) ?_
          refine lv_istore (lv' := [(4, .int 0), (0, .ref q), (1, .int 0), (2, .int k), (3, .int i)]) F.1 F.2.1 dX12_remembered_29 hl (by decide) rfl (fun ls hl => ?_)
          refine lv_iload F.1 F.2.1 dX12_remembered_31 (lv_at hl 0 rfl) ?_
          refine lv_sipush (v := 1568) F.1 F.2.1 dX12_remembered_33 (by decide) ?_
          refine lv_iadd F.1 F.2.1 dX12_remembered_36 ?_
          refine x_topi (y := 1568) (by decide +kernel) ?_
          refine lv_bipush (v := 13) F.1 F.2.1 dX12_remembered_37 (by decide) ?_
          refine lv_iload_n F.1 F.2.1 dX12_remembered_39 rfl (lv_at hl 3 rfl) ?_
          refine lv_imul F.1 F.2.1 dX12_remembered_40 ?_
          refine lv_iadd F.1 F.2.1 dX12_remembered_41 ?_
          refine lv_istore (lv' := [(5, .int (1568 + (13 * k))), (4, .int 0), (0, .ref q), (1, .int 0), (2, .int k), (3, .int i)]) F.1 F.2.1 dX12_remembered_42 hl (by decide) rfl (fun ls hl => ?_)
          refine lv_iload_n F.1 F.2.1 dX12_remembered_44 rfl (lv_at hl 4 rfl) ?_
          refine lv_i2l (v := k.toInt64) F.1 F.2.1 dX12_remembered_45 rfl ?_
          refine lv_aload_n F.1 F.2.1 dX12_remembered_46 rfl (lv_at hl 2 rfl) ?_
          refine x_get F h 1 0 inlX12 rfl (by decide) mw_202 dX12_remembered_47 rfl rfl ?_
          refine lv_iload F.1 F.2.1 dX12_remembered_50 (lv_at hl 1 rfl) ?_
          refine lv_sipush (v := 1567) F.1 F.2.1 dX12_remembered_52 (by decide) ?_
          refine lv_iadd F.1 F.2.1 dX12_remembered_55 ?_
          refine x_topi (y := 1567) (by decide +kernel) ?_
          refine x_lald (v := 0) F h 0 rfl rfl (x_in (by decide +kernel)) rfl dX12_remembered_56 ?_
          refine W.lcmp F.1 F.2.1 dX12_remembered_57 ?_
          refine lv_if_ge (tgt := 74) F.1 F.2.1 dX12_remembered_58 (by decide) (fun _ => ?_) (fun hc => absurd (x_lc hc10) hc)
          refine lv_aload_n F.1 F.2.1 dX12_remembered_74 rfl (lv_at hl 2 rfl) ?_
          refine lv_bipush (v := 6) F.1 F.2.1 dX12_remembered_75 (by decide) ?_
          refine x_Vi (wr := [(((u 0)), .inl (cy 2, 25710, .inr (.inl (fun _ => 0))))]) F h yk_X12_refuse mw_452 mw_453 mw_454 (c_m_refuse l D cy q ((.ref ((u 0)) :: .int 0 :: .long 0 :: .long 1 :: .ref ((u 1)) :: .ref ((u 2)) :: .ref ((u 3)) :: .ref ((u 4)) :: .ref ((u 5)) :: .int 0 :: .int 0 :: .int 0 :: .int 0 :: .int 0 :: .int 0 :: .int (-1) :: .int (-1) :: .int 0 :: .ref ((u 6)) :: .int 0 :: .int 0 :: .ref ((u 7)) :: .ref ((u 8)) :: .ref ((u 9)) :: .ref ((u 10)) :: .ref ((u 11)) :: .ref ((u 12)) :: .ref ((u 13)) :: .int 0 :: .int 0 :: .int (-1) :: .int 0 :: .int (-1) :: .int 0 :: .ref ((u 14)) :: .int 0 :: .int 0 :: .int 0 :: .int 0 :: .int 0 :: .ref ((u 15)) :: .ref ((u 16)) :: .int 0 :: .int (-1) :: .int 0 :: .int 0 :: .int 0 :: .int 0 :: .ref ((u 17)) :: .ref ((u 18)) :: .ref ((u 19)) :: .int 0 :: .ref ((u 20)) :: .ref ((u 21)) :: .int 0 :: .ref ((u 22)) :: .int (-1) :: .int 0 :: .ref ((u 23)) :: .int (-1) :: .int (-1) :: .int 0 :: .ref ((u 24)) :: .ref ((u 25)) :: .int 0 :: [])) rfl 6) [1] [0] 1 rfl rfl rfl rfl (by decide) rfl rfl hl.1 rfl (Nat.le_of_ble_eq_true rfl) ⟨Nat.le_of_ble_eq_true rfl, Nat.le_of_ble_eq_true rfl⟩ ⟨Nat.le_of_ble_eq_true rfl, Nat.le_of_ble_eq_true rfl⟩ dX12_remembered_77 (fun r16 u17 H locs hp15 h => ?_)
          have h : xS D cy A s.heap ([(((u 0)), .inl (cy 2, 25710, .inr (.inl (fun _ => 0))))]) s H locs := h
          obtain rfl : r16 = (-1) := hp15
          refine lv_i2l (v := (-1)) F.1 F.2.1 dX12_remembered_80 (by decide +kernel) ?_
          exact x_lret F h hr hlk (fun _ => 0) [] (rfl) (by decide +kernel) rfl (Nat.le_of_ble_eq_true rfl) (Nat.le_of_ble_eq_true rfl) dX12_remembered_81
        · refine lv_sipush (v := 1650) F.1 F.2.1 dX12_remembered_24 (by decide) ?_
          refine lv_iload_n F.1 F.2.1 dX12_remembered_27 rfl (lv_at hl 1 rfl) ?_
          refine lv_imul F.1 F.2.1 dX12_remembered_28 ?_
          refine x_topi (y := 1650) (by decide +kernel) ?_
          refine lv_istore (lv' := [(4, .int 1650), (0, .ref q), (1, .int 1), (2, .int k), (3, .int i)]) F.1 F.2.1 dX12_remembered_29 hl (by decide) rfl (fun ls hl => ?_)
          refine lv_iload F.1 F.2.1 dX12_remembered_31 (lv_at hl 0 rfl) ?_
          refine lv_sipush (v := 1568) F.1 F.2.1 dX12_remembered_33 (by decide) ?_
          refine lv_iadd F.1 F.2.1 dX12_remembered_36 ?_
          refine x_topi (y := 3218) (by decide +kernel) ?_
          refine lv_bipush (v := 13) F.1 F.2.1 dX12_remembered_37 (by decide) ?_
          refine lv_iload_n F.1 F.2.1 dX12_remembered_39 rfl (lv_at hl 3 rfl) ?_
          refine lv_imul F.1 F.2.1 dX12_remembered_40 ?_
          refine lv_iadd F.1 F.2.1 dX12_remembered_41 ?_
          refine lv_istore (lv' := [(5, .int (3218 + (13 * k))), (4, .int 1650), (0, .ref q), (1, .int 1), (2, .int k), (3, .int i)]) F.1 F.2.1 dX12_remembered_42 hl (by decide) rfl (fun ls hl => ?_)
          refine lv_iload_n F.1 F.2.1 dX12_remembered_44 rfl (lv_at hl 4 rfl) ?_
          refine lv_i2l (v := k.toInt64) F.1 F.2.1 dX12_remembered_45 rfl ?_
          refine lv_aload_n F.1 F.2.1 dX12_remembered_46 rfl (lv_at hl 2 rfl) ?_
          refine x_get F h 1 0 inlX12 rfl (by decide) mw_202 dX12_remembered_47 rfl rfl ?_
          refine lv_iload F.1 F.2.1 dX12_remembered_50 (lv_at hl 1 rfl) ?_
          refine lv_sipush (v := 1567) F.1 F.2.1 dX12_remembered_52 (by decide) ?_
          refine lv_iadd F.1 F.2.1 dX12_remembered_55 ?_
          refine x_topi (y := 3217) (by decide +kernel) ?_
          refine x_lald (v := 0) F h 0 rfl rfl (x_in (by decide +kernel)) rfl dX12_remembered_56 ?_
          refine W.lcmp F.1 F.2.1 dX12_remembered_57 ?_
          refine lv_if_ge (tgt := 74) F.1 F.2.1 dX12_remembered_58 (by decide) (fun _ => ?_) (fun hc => absurd (x_lc hc10) hc)
          refine lv_aload_n F.1 F.2.1 dX12_remembered_74 rfl (lv_at hl 2 rfl) ?_
          refine lv_bipush (v := 6) F.1 F.2.1 dX12_remembered_75 (by decide) ?_
          refine x_Vi (wr := [(((u 0)), .inl (cy 2, 25710, .inr (.inl (fun _ => 0))))]) F h yk_X12_refuse mw_452 mw_453 mw_454 (c_m_refuse l D cy q ((.ref ((u 0)) :: .int 0 :: .long 0 :: .long 1 :: .ref ((u 1)) :: .ref ((u 2)) :: .ref ((u 3)) :: .ref ((u 4)) :: .ref ((u 5)) :: .int 0 :: .int 0 :: .int 0 :: .int 0 :: .int 0 :: .int 0 :: .int (-1) :: .int (-1) :: .int 0 :: .ref ((u 6)) :: .int 0 :: .int 0 :: .ref ((u 7)) :: .ref ((u 8)) :: .ref ((u 9)) :: .ref ((u 10)) :: .ref ((u 11)) :: .ref ((u 12)) :: .ref ((u 13)) :: .int 0 :: .int 0 :: .int (-1) :: .int 0 :: .int (-1) :: .int 0 :: .ref ((u 14)) :: .int 0 :: .int 0 :: .int 0 :: .int 0 :: .int 0 :: .ref ((u 15)) :: .ref ((u 16)) :: .int 0 :: .int (-1) :: .int 0 :: .int 0 :: .int 0 :: .int 0 :: .ref ((u 17)) :: .ref ((u 18)) :: .ref ((u 19)) :: .int 0 :: .ref ((u 20)) :: .ref ((u 21)) :: .int 0 :: .ref ((u 22)) :: .int (-1) :: .int 0 :: .ref ((u 23)) :: .int (-1) :: .int (-1) :: .int 0 :: .ref ((u 24)) :: .ref ((u 25)) :: .int 0 :: [])) rfl 6) [1] [0] 1 rfl rfl rfl rfl (by decide) rfl rfl hl.1 rfl (Nat.le_of_ble_eq_true rfl) ⟨Nat.le_of_ble_eq_true rfl, Nat.le_of_ble_eq_true rfl⟩ ⟨Nat.le_of_ble_eq_true rfl, Nat.le_of_ble_eq_true rfl⟩ dX12_remembered_77 (fun r19 u20 H locs hp18 h => ?_)
          have h : xS D cy A s.heap ([(((u 0)), .inl (cy 2, 25710, .inr (.inl (fun _ => 0))))]) s H locs := h
          obtain rfl : r19 = (-1) := hp18
          refine lv_i2l (v := (-1)) F.1 F.2.1 dX12_remembered_80 (by decide +kernel) ?_
          exact x_lret F h hr hlk (fun _ => 0) [] (rfl) (by decide +kernel) rfl (Nat.le_of_ble_eq_true rfl) (Nat.le_of_ble_eq_true rfl) dX12_remembered_81
        · refine lv_sipush (v := 1650) F.1 F.2.1 dX12_remembered_24 (by decide) ?_
          refine lv_iload_n F.1 F.2.1 dX12_remembered_27 rfl (lv_at hl 1 rfl) ?_
          refine lv_imul F.1 F.2.1 dX12_remembered_28 ?_
          refine x_topi (y := 3300) (by decide +kernel) ?_
          refine lv_istore (lv' := [(4, .int 3300), (0, .ref q), (1, .int 2), (2, .int k), (3, .int i)]) F.1 F.2.1 dX12_remembered_29 hl (by decide) rfl (fun ls hl => ?_)
          refine lv_iload F.1 F.2.1 dX12_remembered_31 (lv_at hl 0 rfl) ?_
          refine lv_sipush (v := 1568) F.1 F.2.1 dX12_remembered_33 (by decide) ?_
          refine lv_iadd F.1 F.2.1 dX12_remembered_36 ?_
          refine x_topi (y := 4868) (by decide +kernel) ?_
          refine lv_bipush (v := 13) F.1 F.2.1 dX12_remembered_37 (by decide) ?_
          refine lv_iload_n F.1 F.2.1 dX12_remembered_39 rfl (lv_at hl 3 rfl) ?_
          refine lv_imul F.1 F.2.1 dX12_remembered_40 ?_
          refine lv_iadd F.1 F.2.1 dX12_remembered_41 ?_
          refine lv_istore (lv' := [(5, .int (4868 + (13 * k))), (4, .int 3300), (0, .ref q), (1, .int 2), (2, .int k), (3, .int i)]) F.1 F.2.1 dX12_remembered_42 hl (by decide) rfl (fun ls hl => ?_)
          refine lv_iload_n F.1 F.2.1 dX12_remembered_44 rfl (lv_at hl 4 rfl) ?_
          refine lv_i2l (v := k.toInt64) F.1 F.2.1 dX12_remembered_45 rfl ?_
          refine lv_aload_n F.1 F.2.1 dX12_remembered_46 rfl (lv_at hl 2 rfl) ?_
          refine x_get F h 1 0 inlX12 rfl (by decide) mw_202 dX12_remembered_47 rfl rfl ?_
          refine lv_iload F.1 F.2.1 dX12_remembered_50 (lv_at hl 1 rfl) ?_
          refine lv_sipush (v := 1567) F.1 F.2.1 dX12_remembered_52 (by decide) ?_
          refine lv_iadd F.1 F.2.1 dX12_remembered_55 ?_
          refine x_topi (y := 4867) (by decide +kernel) ?_
          refine x_lald (v := 0) F h 0 rfl rfl (x_in (by decide +kernel)) rfl dX12_remembered_56 ?_
          refine W.lcmp F.1 F.2.1 dX12_remembered_57 ?_
          refine lv_if_ge (tgt := 74) F.1 F.2.1 dX12_remembered_58 (by decide) (fun _ => ?_) (fun hc => absurd (x_lc hc10) hc)
          refine lv_aload_n F.1 F.2.1 dX12_remembered_74 rfl (lv_at hl 2 rfl) ?_
          refine lv_bipush (v := 6) F.1 F.2.1 dX12_remembered_75 (by decide) ?_
          refine x_Vi (wr := [(((u 0)), .inl (cy 2, 25710, .inr (.inl (fun _ => 0))))]) F h yk_X12_refuse mw_452 mw_453 mw_454 (c_m_refuse l D cy q ((.ref ((u 0)) :: .int 0 :: .long 0 :: .long 1 :: .ref ((u 1)) :: .ref ((u 2)) :: .ref ((u 3)) :: .ref ((u 4)) :: .ref ((u 5)) :: .int 0 :: .int 0 :: .int 0 :: .int 0 :: .int 0 :: .int 0 :: .int (-1) :: .int (-1) :: .int 0 :: .ref ((u 6)) :: .int 0 :: .int 0 :: .ref ((u 7)) :: .ref ((u 8)) :: .ref ((u 9)) :: .ref ((u 10)) :: .ref ((u 11)) :: .ref ((u 12)) :: .ref ((u 13)) :: .int 0 :: .int 0 :: .int (-1) :: .int 0 :: .int (-1) :: .int 0 :: .ref ((u 14)) :: .int 0 :: .int 0 :: .int 0 :: .int 0 :: .int 0 :: .ref ((u 15)) :: .ref ((u 16)) :: .int 0 :: .int (-1) :: .int 0 :: .int 0 :: .int 0 :: .int 0 :: .ref ((u 17)) :: .ref ((u 18)) :: .ref ((u 19)) :: .int 0 :: .ref ((u 20)) :: .ref ((u 21)) :: .int 0 :: .ref ((u 22)) :: .int (-1) :: .int 0 :: .ref ((u 23)) :: .int (-1) :: .int (-1) :: .int 0 :: .ref ((u 24)) :: .ref ((u 25)) :: .int 0 :: [])) rfl 6) [1] [0] 1 rfl rfl rfl rfl (by decide) rfl rfl hl.1 rfl (Nat.le_of_ble_eq_true rfl) ⟨Nat.le_of_ble_eq_true rfl, Nat.le_of_ble_eq_true rfl⟩ ⟨Nat.le_of_ble_eq_true rfl, Nat.le_of_ble_eq_true rfl⟩ dX12_remembered_77 (fun r22 u23 H locs hp21 h => ?_)
          have h : xS D cy A s.heap ([(((u 0)), .inl (cy 2, 25710, .inr (.inl (fun _ => 0))))]) s H locs := h
          obtain rfl : r22 = (-1) := hp21
          refine lv_i2l (v := (-1)) F.1 F.2.1 dX12_remembered_80 (by decide +kernel) ?_
          exact x_lret F h hr hlk (fun _ => 0) [] (rfl) (by decide +kernel) rfl (Nat.le_of_ble_eq_true rfl) (Nat.le_of_ble_eq_true rfl) dX12_remembered_81
      · refine lv_aload_n F.1 F.2.1 dX12_remembered_17 rfl (lv_at hl 0 rfl) ?_
        refine lv_iconst (v := 1) F.1 F.2.1 dX12_remembered_18 (by decide) ?_
        refine x_Vi (wr := [(((u 0)), .inl (cy 2, 25710, .inr (.inl (fun _ => 0))))]) F h yk_X12_refuse mw_452 mw_453 mw_454 (c_m_refuse l D cy q ((.ref ((u 0)) :: .int 0 :: .long 0 :: .long 1 :: .ref ((u 1)) :: .ref ((u 2)) :: .ref ((u 3)) :: .ref ((u 4)) :: .ref ((u 5)) :: .int 0 :: .int 0 :: .int 0 :: .int 0 :: .int 0 :: .int 0 :: .int (-1) :: .int (-1) :: .int 0 :: .ref ((u 6)) :: .int 0 :: .int 0 :: .ref ((u 7)) :: .ref ((u 8)) :: .ref ((u 9)) :: .ref ((u 10)) :: .ref ((u 11)) :: .ref ((u 12)) :: .ref ((u 13)) :: .int 0 :: .int 0 :: .int (-1) :: .int 0 :: .int (-1) :: .int 0 :: .ref ((u 14)) :: .int 0 :: .int 0 :: .int 0 :: .int 0 :: .int 0 :: .ref ((u 15)) :: .ref ((u 16)) :: .int 0 :: .int (-1) :: .int 0 :: .int 0 :: .int 0 :: .int 0 :: .ref ((u 17)) :: .ref ((u 18)) :: .ref ((u 19)) :: .int 0 :: .ref ((u 20)) :: .ref ((u 21)) :: .int 0 :: .ref ((u 22)) :: .int (-1) :: .int 0 :: .ref ((u 23)) :: .int (-1) :: .int (-1) :: .int 0 :: .ref ((u 24)) :: .ref ((u 25)) :: .int 0 :: [])) rfl 1) [1] [0] 1 rfl rfl rfl rfl (by decide) rfl rfl hl.1 rfl (Nat.le_of_ble_eq_true rfl) ⟨Nat.le_of_ble_eq_true rfl, Nat.le_of_ble_eq_true rfl⟩ ⟨Nat.le_of_ble_eq_true rfl, Nat.le_of_ble_eq_true rfl⟩ dX12_remembered_19 (fun r25 u26 H locs hp24 h => ?_)
        have h : xS D cy A s.heap ([(((u 0)), .inl (cy 2, 25710, .inr (.inl (fun _ => 0))))]) s H locs := h
        obtain rfl : r25 = (-1) := hp24
        refine lv_i2l (v := (-1)) F.1 F.2.1 dX12_remembered_22 (by decide +kernel) ?_
        exact x_lret F h hr hlk (fun _ => 0) [] (rfl) (by decide +kernel) rfl (Nat.le_of_ble_eq_true rfl) (Nat.le_of_ble_eq_true rfl) dX12_remembered_23
set_option maxHeartbeats 4000000 in
set_option maxRecDepth 100000 in
theorem c_m_spoken (l : Launch) (D : va_G) (cy : Nat → ClassId) (q : Nat) (u : Nat → Nat) (k : Int32) (i : Int32) : ∀ sz, Met l yX12_spoken (Cond.code yX12_spoken cX12_spoken 3 (some .long) :: wsL_law) { frames := 1, cells := 0, slots := 0, locals := 21 } (va_Pc [.ref q, .int k, .int i] (xP D cy ([mM q u 0 0 0 (-1) 0]) sz)) (va_Ql (fun r _ => r = (-1)) (xB D (va_A ([mM q u 0 0 0 (-1) 0]) sz) (fun _ => [])) (va_A ([mM q u 0 0 0 (-1) 0]) sz)) 0 0 (va_A ([mM q u 0 0 0 (-1) 0]) sz) := by
  refine x_enter (fun A => va_Ql (fun r _ => r = (-1)) (xB D A (fun _ => [])) A) (by decide +kernel) rfl (Nat.le_of_ble_eq_true rfl) ?_
  intro p e s m below meth c A ls F hr hlk hin h hl
  have hl : lv_has ls 3 [(0, .ref q), (1, .int k), (2, .int i)] := hl
  have h : xS D cy A s.heap ([(q, .inr (12, (.ref ((u 0)) :: .int 0 :: .long 0 :: .long 1 :: .ref ((u 1)) :: .ref ((u 2)) :: .ref ((u 3)) :: .ref ((u 4)) :: .ref ((u 5)) :: .int 0 :: .int 0 :: .int 0 :: .int 0 :: .int 0 :: .int 0 :: .int (-1) :: .int (-1) :: .int 0 :: .ref ((u 6)) :: .int 0 :: .int 0 :: .ref ((u 7)) :: .ref ((u 8)) :: .ref ((u 9)) :: .ref ((u 10)) :: .ref ((u 11)) :: .ref ((u 12)) :: .ref ((u 13)) :: .int 0 :: .int 0 :: .int (-1) :: .int 0 :: .int (-1) :: .int 0 :: .ref ((u 14)) :: .int 0 :: .int 0 :: .int 0 :: .int 0 :: .int 0 :: .ref ((u 15)) :: .ref ((u 16)) :: .int 0 :: .int (-1) :: .int 0 :: .int 0 :: .int 0 :: .int 0 :: .ref ((u 17)) :: .ref ((u 18)) :: .ref ((u 19)) :: .int 0 :: .ref ((u 20)) :: .ref ((u 21)) :: .int 0 :: .ref ((u 22)) :: .int (-1) :: .int 0 :: .ref ((u 23)) :: .int (-1) :: .int (-1) :: .int 0 :: .ref ((u 24)) :: .ref ((u 25)) :: .int 0 :: [])))]) s s.heap [] := h
  refine lv_iload_n F.1 F.2.1 dX12_spoken_0 rfl (lv_at hl 1 rfl) ?_
  refine lv_if_lt (tgt := 15) F.1 F.2.1 dX12_spoken_1 (by decide) (fun hc1 => ?_) (fun hc1 => ?_)
  · refine lv_aload_n F.1 F.2.1 dX12_spoken_15 rfl (lv_at hl 0 rfl) ?_
    refine lv_iconst (v := 1) F.1 F.2.1 dX12_spoken_16 (by decide) ?_
    refine x_Vi (wr := []) F h yk_X12_refuse mw_452 mw_453 mw_454 (c_m_refuse l D cy q ((.ref ((u 0)) :: .int 0 :: .long 0 :: .long 1 :: .ref ((u 1)) :: .ref ((u 2)) :: .ref ((u 3)) :: .ref ((u 4)) :: .ref ((u 5)) :: .int 0 :: .int 0 :: .int 0 :: .int 0 :: .int 0 :: .int 0 :: .int (-1) :: .int (-1) :: .int 0 :: .ref ((u 6)) :: .int 0 :: .int 0 :: .ref ((u 7)) :: .ref ((u 8)) :: .ref ((u 9)) :: .ref ((u 10)) :: .ref ((u 11)) :: .ref ((u 12)) :: .ref ((u 13)) :: .int 0 :: .int 0 :: .int (-1) :: .int 0 :: .int (-1) :: .int 0 :: .ref ((u 14)) :: .int 0 :: .int 0 :: .int 0 :: .int 0 :: .int 0 :: .ref ((u 15)) :: .ref ((u 16)) :: .int 0 :: .int (-1) :: .int 0 :: .int 0 :: .int 0 :: .int 0 :: .ref ((u 17)) :: .ref ((u 18)) :: .ref ((u 19)) :: .int 0 :: .ref ((u 20)) :: .ref ((u 21)) :: .int 0 :: .ref ((u 22)) :: .int (-1) :: .int 0 :: .ref ((u 23)) :: .int (-1) :: .int (-1) :: .int 0 :: .ref ((u 24)) :: .ref ((u 25)) :: .int 0 :: [])) rfl 1) [0] [] 0 rfl rfl rfl rfl (by decide) rfl rfl hl.1 rfl (Nat.le_of_ble_eq_true rfl) ⟨Nat.le_of_ble_eq_true rfl, Nat.le_of_ble_eq_true rfl⟩ ⟨Nat.le_of_ble_eq_true rfl, Nat.le_of_ble_eq_true rfl⟩ dX12_spoken_17 (fun r3 u4 H locs hp2 h => ?_)
    have h : xS D cy A s.heap ([]) s H locs := h
    obtain rfl : r3 = (-1) := hp2
    refine lv_i2l (v := (-1)) F.1 F.2.1 dX12_spoken_20 (by decide +kernel) ?_
    exact x_lret F h hr hlk (fun _ => 0) [] (rfl) (by decide +kernel) rfl (Nat.le_of_ble_eq_true rfl) (Nat.le_of_ble_eq_true rfl) dX12_spoken_21
  · refine lv_iload_n F.1 F.2.1 dX12_spoken_4 rfl (lv_at hl 2 rfl) ?_
    refine lv_iconst (v := (-1)) F.1 F.2.1 dX12_spoken_5 (by decide) ?_
    refine lv_icmp_lt (tgt := 15) F.1 F.2.1 dX12_spoken_6 (by decide) (fun hc5 => ?_) (fun hc5 => ?_)
    · refine lv_aload_n F.1 F.2.1 dX12_spoken_15 rfl (lv_at hl 0 rfl) ?_
      refine lv_iconst (v := 1) F.1 F.2.1 dX12_spoken_16 (by decide) ?_
      refine x_Vi (wr := []) F h yk_X12_refuse mw_452 mw_453 mw_454 (c_m_refuse l D cy q ((.ref ((u 0)) :: .int 0 :: .long 0 :: .long 1 :: .ref ((u 1)) :: .ref ((u 2)) :: .ref ((u 3)) :: .ref ((u 4)) :: .ref ((u 5)) :: .int 0 :: .int 0 :: .int 0 :: .int 0 :: .int 0 :: .int 0 :: .int (-1) :: .int (-1) :: .int 0 :: .ref ((u 6)) :: .int 0 :: .int 0 :: .ref ((u 7)) :: .ref ((u 8)) :: .ref ((u 9)) :: .ref ((u 10)) :: .ref ((u 11)) :: .ref ((u 12)) :: .ref ((u 13)) :: .int 0 :: .int 0 :: .int (-1) :: .int 0 :: .int (-1) :: .int 0 :: .ref ((u 14)) :: .int 0 :: .int 0 :: .int 0 :: .int 0 :: .int 0 :: .ref ((u 15)) :: .ref ((u 16)) :: .int 0 :: .int (-1) :: .int 0 :: .int 0 :: .int 0 :: .int 0 :: .ref ((u 17)) :: .ref ((u 18)) :: .ref ((u 19)) :: .int 0 :: .ref ((u 20)) :: .ref ((u 21)) :: .int 0 :: .ref ((u 22)) :: .int (-1) :: .int 0 :: .ref ((u 23)) :: .int (-1) :: .int (-1) :: .int 0 :: .ref ((u 24)) :: .ref ((u 25)) :: .int 0 :: [])) rfl 1) [0] [] 0 rfl rfl rfl rfl (by decide) rfl rfl hl.1 rfl (Nat.le_of_ble_eq_true rfl) ⟨Nat.le_of_ble_eq_true rfl, Nat.le_of_ble_eq_true rfl⟩ ⟨Nat.le_of_ble_eq_true rfl, Nat.le_of_ble_eq_true rfl⟩ dX12_spoken_17 (fun r7 u8 H locs hp6 h => ?_)
      have h : xS D cy A s.heap ([]) s H locs := h
      obtain rfl : r7 = (-1) := hp6
      refine lv_i2l (v := (-1)) F.1 F.2.1 dX12_spoken_20 (by decide +kernel) ?_
      exact x_lret F h hr hlk (fun _ => 0) [] (rfl) (by decide +kernel) rfl (Nat.le_of_ble_eq_true rfl) (Nat.le_of_ble_eq_true rfl) dX12_spoken_21
    · refine lv_iload_n F.1 F.2.1 dX12_spoken_9 rfl (lv_at hl 2 rfl) ?_
      refine lv_bipush (v := 11) F.1 F.2.1 dX12_spoken_10 (by decide) ?_
      refine lv_icmp_le (tgt := 22) F.1 F.2.1 dX12_spoken_12 (by decide) (fun hc9 => ?_) (fun hc9 => ?_)
      · refine lv_iload_n F.1 F.2.1 dX12_spoken_22 rfl (lv_at hl 1 rfl) ?_
        refine lv_aload_n F.1 F.2.1 dX12_spoken_23 rfl (lv_at hl 0 rfl) ?_
        refine x_get F h 0 51 inlX12 rfl (by decide) mw_773 dX12_spoken_24 rfl rfl ?_
        refine lv_icmp_ge (tgt := 48) F.1 F.2.1 dX12_spoken_27 (by decide) (fun _ => ?_) (fun hc => absurd (Int32.not_lt.mp hc1) hc)
        refine lv_aload_n F.1 F.2.1 dX12_spoken_48 rfl (lv_at hl 0 rfl) ?_
        refine lv_bipush (v := 6) F.1 F.2.1 dX12_spoken_49 (by decide) ?_
        refine x_Vi (wr := []) F h yk_X12_refuse mw_452 mw_453 mw_454 (c_m_refuse l D cy q ((.ref ((u 0)) :: .int 0 :: .long 0 :: .long 1 :: .ref ((u 1)) :: .ref ((u 2)) :: .ref ((u 3)) :: .ref ((u 4)) :: .ref ((u 5)) :: .int 0 :: .int 0 :: .int 0 :: .int 0 :: .int 0 :: .int 0 :: .int (-1) :: .int (-1) :: .int 0 :: .ref ((u 6)) :: .int 0 :: .int 0 :: .ref ((u 7)) :: .ref ((u 8)) :: .ref ((u 9)) :: .ref ((u 10)) :: .ref ((u 11)) :: .ref ((u 12)) :: .ref ((u 13)) :: .int 0 :: .int 0 :: .int (-1) :: .int 0 :: .int (-1) :: .int 0 :: .ref ((u 14)) :: .int 0 :: .int 0 :: .int 0 :: .int 0 :: .int 0 :: .ref ((u 15)) :: .ref ((u 16)) :: .int 0 :: .int (-1) :: .int 0 :: .int 0 :: .int 0 :: .int 0 :: .ref ((u 17)) :: .ref ((u 18)) :: .ref ((u 19)) :: .int 0 :: .ref ((u 20)) :: .ref ((u 21)) :: .int 0 :: .ref ((u 22)) :: .int (-1) :: .int 0 :: .ref ((u 23)) :: .int (-1) :: .int (-1) :: .int 0 :: .ref ((u 24)) :: .ref ((u 25)) :: .int 0 :: [])) rfl 6) [0] [] 0 rfl rfl rfl rfl (by decide) rfl rfl hl.1 rfl (Nat.le_of_ble_eq_true rfl) ⟨Nat.le_of_ble_eq_true rfl, Nat.le_of_ble_eq_true rfl⟩ ⟨Nat.le_of_ble_eq_true rfl, Nat.le_of_ble_eq_true rfl⟩ dX12_spoken_51 (fun r11 u12 H locs hp10 h => ?_)
        have h : xS D cy A s.heap ([]) s H locs := h
        obtain rfl : r11 = (-1) := hp10
        refine lv_i2l (v := (-1)) F.1 F.2.1 dX12_spoken_54 (by decide +kernel) ?_
        exact x_lret F h hr hlk (fun _ => 0) [] (rfl) (by decide +kernel) rfl (Nat.le_of_ble_eq_true rfl) (Nat.le_of_ble_eq_true rfl) dX12_spoken_55
      · refine lv_aload_n F.1 F.2.1 dX12_spoken_15 rfl (lv_at hl 0 rfl) ?_
        refine lv_iconst (v := 1) F.1 F.2.1 dX12_spoken_16 (by decide) ?_
        refine x_Vi (wr := []) F h yk_X12_refuse mw_452 mw_453 mw_454 (c_m_refuse l D cy q ((.ref ((u 0)) :: .int 0 :: .long 0 :: .long 1 :: .ref ((u 1)) :: .ref ((u 2)) :: .ref ((u 3)) :: .ref ((u 4)) :: .ref ((u 5)) :: .int 0 :: .int 0 :: .int 0 :: .int 0 :: .int 0 :: .int 0 :: .int (-1) :: .int (-1) :: .int 0 :: .ref ((u 6)) :: .int 0 :: .int 0 :: .ref ((u 7)) :: .ref ((u 8)) :: .ref ((u 9)) :: .ref ((u 10)) :: .ref ((u 11)) :: .ref ((u 12)) :: .ref ((u 13)) :: .int 0 :: .int 0 :: .int (-1) :: .int 0 :: .int (-1) :: .int 0 :: .ref ((u 14)) :: .int 0 :: .int 0 :: .int 0 :: .int 0 :: .int 0 :: .ref ((u 15)) :: .ref ((u 16)) :: .int 0 :: .int (-1) :: .int 0 :: .int 0 :: .int 0 :: .int 0 :: .ref ((u 17)) :: .ref ((u 18)) :: .ref ((u 19)) :: .int 0 :: .ref ((u 20)) :: .ref ((u 21)) :: .int 0 :: .ref ((u 22)) :: .int (-1) :: .int 0 :: .ref ((u 23)) :: .int (-1) :: .int (-1) :: .int 0 :: .ref ((u 24)) :: .ref ((u 25)) :: .int 0 :: [])) rfl 1) [0] [] 0 rfl rfl rfl rfl (by decide) rfl rfl hl.1 rfl (Nat.le_of_ble_eq_true rfl) ⟨Nat.le_of_ble_eq_true rfl, Nat.le_of_ble_eq_true rfl⟩ ⟨Nat.le_of_ble_eq_true rfl, Nat.le_of_ble_eq_true rfl⟩ dX12_spoken_17 (fun r14 u15 H locs hp13 h => ?_)
        have h : xS D cy A s.heap ([]) s H locs := h
        obtain rfl : r14 = (-1) := hp13
        refine lv_i2l (v := (-1)) F.1 F.2.1 dX12_spoken_20 (by decide +kernel) ?_
        exact x_lret F h hr hlk (fun _ => 0) [] (rfl) (by decide +kernel) rfl (Nat.le_of_ble_eq_true rfl) (Nat.le_of_ble_eq_true rfl) dX12_spoken_21
set_option maxHeartbeats 4000000 in
set_option maxRecDepth 100000 in
theorem c_m_led (l : Launch) (D : va_G) (cy : Nat → ClassId) (q : Nat) (u : Nat → Nat) (k : Int32) : ∀ sz, Met l yX12_led (Cond.code yX12_led cX12_led 2 (some .int) :: wsL_law) { frames := 1, cells := 0, slots := 0, locals := 21 } (va_Pc [.ref q, .int k] (xP D cy ([mM q u 0 0 0 (-1) 0]) sz)) (va_Qi (fun r _ => r = (-1)) (xB D (va_A ([mM q u 0 0 0 (-1) 0]) sz) (fun _ => [])) (va_A ([mM q u 0 0 0 (-1) 0]) sz)) 0 0 (va_A ([mM q u 0 0 0 (-1) 0]) sz) := by
  refine x_enter (fun A => va_Qi (fun r _ => r = (-1)) (xB D A (fun _ => [])) A) (by decide +kernel) rfl (Nat.le_of_ble_eq_true rfl) ?_
  intro p e s m below meth c A ls F hr hlk hin h hl
  have hl : lv_has ls 2 [(0, .ref q), (1, .int k)] := hl
  have h : xS D cy A s.heap ([(q, .inr (12, (.ref ((u 0)) :: .int 0 :: .long 0 :: .long 1 :: .ref ((u 1)) :: .ref ((u 2)) :: .ref ((u 3)) :: .ref ((u 4)) :: .ref ((u 5)) :: .int 0 :: .int 0 :: .int 0 :: .int 0 :: .int 0 :: .int 0 :: .int (-1) :: .int (-1) :: .int 0 :: .ref ((u 6)) :: .int 0 :: .int 0 :: .ref ((u 7)) :: .ref ((u 8)) :: .ref ((u 9)) :: .ref ((u 10)) :: .ref ((u 11)) :: .ref ((u 12)) :: .ref ((u 13)) :: .int 0 :: .int 0 :: .int (-1) :: .int 0 :: .int (-1) :: .int 0 :: .ref ((u 14)) :: .int 0 :: .int 0 :: .int 0 :: .int 0 :: .int 0 :: .ref ((u 15)) :: .ref ((u 16)) :: .int 0 :: .int (-1) :: .int 0 :: .int 0 :: .int 0 :: .int 0 :: .ref ((u 17)) :: .ref ((u 18)) :: .ref ((u 19)) :: .int 0 :: .ref ((u 20)) :: .ref ((u 21)) :: .int 0 :: .ref ((u 22)) :: .int (-1) :: .int 0 :: .ref ((u 23)) :: .int (-1) :: .int (-1) :: .int 0 :: .ref ((u 24)) :: .ref ((u 25)) :: .int 0 :: [])))]) s s.heap [] := h
  refine lv_iload_n F.1 F.2.1 dX12_led_0 rfl (lv_at hl 1 rfl) ?_
  refine lv_if_ge (tgt := 12) F.1 F.2.1 dX12_led_1 (by decide) (fun hc1 => ?_) (fun hc1 => ?_)
  · refine lv_iload_n F.1 F.2.1 dX12_led_12 rfl (lv_at hl 1 rfl) ?_
    refine lv_aload_n F.1 F.2.1 dX12_led_13 rfl (lv_at hl 0 rfl) ?_
    refine x_get F h 0 54 inlX12 rfl (by decide) mw_1231 dX12_led_14 rfl rfl ?_
    refine lv_icmp_lt (tgt := 29) F.1 F.2.1 dX12_led_17 (by decide) (fun hc => absurd hc (Int32.not_lt.mpr hc1)) (fun _ => ?_)
    refine lv_aload_n F.1 F.2.1 dX12_led_20 rfl (lv_at hl 0 rfl) ?_
    refine lv_bipush (v := 6) F.1 F.2.1 dX12_led_21 (by decide) ?_
    refine x_Vi (wr := []) F h yk_X12_refuse mw_452 mw_453 mw_454 (c_m_refuse l D cy q ((.ref ((u 0)) :: .int 0 :: .long 0 :: .long 1 :: .ref ((u 1)) :: .ref ((u 2)) :: .ref ((u 3)) :: .ref ((u 4)) :: .ref ((u 5)) :: .int 0 :: .int 0 :: .int 0 :: .int 0 :: .int 0 :: .int 0 :: .int (-1) :: .int (-1) :: .int 0 :: .ref ((u 6)) :: .int 0 :: .int 0 :: .ref ((u 7)) :: .ref ((u 8)) :: .ref ((u 9)) :: .ref ((u 10)) :: .ref ((u 11)) :: .ref ((u 12)) :: .ref ((u 13)) :: .int 0 :: .int 0 :: .int (-1) :: .int 0 :: .int (-1) :: .int 0 :: .ref ((u 14)) :: .int 0 :: .int 0 :: .int 0 :: .int 0 :: .int 0 :: .ref ((u 15)) :: .ref ((u 16)) :: .int 0 :: .int (-1) :: .int 0 :: .int 0 :: .int 0 :: .int 0 :: .ref ((u 17)) :: .ref ((u 18)) :: .ref ((u 19)) :: .int 0 :: .ref ((u 20)) :: .ref ((u 21)) :: .int 0 :: .ref ((u 22)) :: .int (-1) :: .int 0 :: .ref ((u 23)) :: .int (-1) :: .int (-1) :: .int 0 :: .ref ((u 24)) :: .ref ((u 25)) :: .int 0 :: [])) rfl 6) [0] [] 0 rfl rfl rfl rfl (by decide) rfl rfl hl.1 rfl (Nat.le_of_ble_eq_true rfl) ⟨Nat.le_of_ble_eq_true rfl, Nat.le_of_ble_eq_true rfl⟩ ⟨Nat.le_of_ble_eq_true rfl, Nat.le_of_ble_eq_true rfl⟩ dX12_led_23 (fun r3 u4 H locs hp2 h => ?_)
    have h : xS D cy A s.heap ([]) s H locs := h
    obtain rfl : r3 = (-1) := hp2
    refine lv_goto (tgt := 39) F.1 F.2.1 dX12_led_26 (by decide) ?_
    exact x_iret F h hr hlk rfl (fun _ => 0) [] (rfl) (by decide +kernel) rfl (Nat.le_of_ble_eq_true rfl) (Nat.le_of_ble_eq_true rfl) dX12_led_39
  · refine lv_aload_n F.1 F.2.1 dX12_led_4 rfl (lv_at hl 0 rfl) ?_
    refine lv_iconst (v := 1) F.1 F.2.1 dX12_led_5 (by decide) ?_
    refine x_Vi (wr := []) F h yk_X12_refuse mw_452 mw_453 mw_454 (c_m_refuse l D cy q ((.ref ((u 0)) :: .int 0 :: .long 0 :: .long 1 :: .ref ((u 1)) :: .ref ((u 2)) :: .ref ((u 3)) :: .ref ((u 4)) :: .ref ((u 5)) :: .int 0 :: .int 0 :: .int 0 :: .int 0 :: .int 0 :: .int 0 :: .int (-1) :: .int (-1) :: .int 0 :: .ref ((u 6)) :: .int 0 :: .int 0 :: .ref ((u 7)) :: .ref ((u 8)) :: .ref ((u 9)) :: .ref ((u 10)) :: .ref ((u 11)) :: .ref ((u 12)) :: .ref ((u 13)) :: .int 0 :: .int 0 :: .int (-1) :: .int 0 :: .int (-1) :: .int 0 :: .ref ((u 14)) :: .int 0 :: .int 0 :: .int 0 :: .int 0 :: .int 0 :: .ref ((u 15)) :: .ref ((u 16)) :: .int 0 :: .int (-1) :: .int 0 :: .int 0 :: .int 0 :: .int 0 :: .ref ((u 17)) :: .ref ((u 18)) :: .ref ((u 19)) :: .int 0 :: .ref ((u 20)) :: .ref ((u 21)) :: .int 0 :: .ref ((u 22)) :: .int (-1) :: .int 0 :: .ref ((u 23)) :: .int (-1) :: .int (-1) :: .int 0 :: .ref ((u 24)) :: .ref ((u 25)) :: .int 0 :: [])) rfl 1) [0] [] 0 rfl rfl rfl rfl (by decide) rfl rfl hl.1 rfl (Nat.le_of_ble_eq_true rfl) ⟨Nat.le_of_ble_eq_true rfl, Nat.le_of_ble_eq_true rfl⟩ ⟨Nat.le_of_ble_eq_true rfl, Nat.le_of_ble_eq_true rfl⟩ dX12_led_6 (fun r6 u7 H locs hp5 h => ?_)
    have h : xS D cy A s.heap ([]) s H locs := h
    obtain rfl : r6 = (-1) := hp5
    refine lv_goto (tgt := 39) F.1 F.2.1 dX12_led_9 (by decide) ?_
    exact x_iret F h hr hlk rfl (fun _ => 0) [] (rfl) (by decide +kernel) rfl (Nat.le_of_ble_eq_true rfl) (Nat.le_of_ble_eq_true rfl) dX12_led_39
set_option maxHeartbeats 4000000 in
set_option maxRecDepth 100000 in
theorem c_m_face (l : Launch) (D : va_G) (cy : Nat → ClassId) (q : Nat) (u : Nat → Nat) (a0 : Int32) (b0 : Int32) (k : Int32) (z0 : Int32) : ∀ sz, Met l yX12_face (Cond.code yX12_face cX12_face 8 (some .int) :: wsL_law) { frames := 1, cells := 0, slots := 0, locals := 22 } (va_Pc [.ref q, .int a0, .int b0, .int k, .int z0] (xP D cy ([mM q u 0 0 0 (-1) 0, mA_at cy u]) sz)) (va_Qi (fun r _ => r = (-1)) (xB D (va_A ([mM q u 0 0 0 (-1) 0, mA_at cy u]) sz) (fun _ => [])) (va_A ([mM q u 0 0 0 (-1) 0, mA_at cy u]) sz)) 0 0 (va_A ([mM q u 0 0 0 (-1) 0, mA_at cy u]) sz) := by
  refine x_enter (fun A => va_Qi (fun r _ => r = (-1)) (xB D A (fun _ => [])) A) (by decide +kernel) rfl (Nat.le_of_ble_eq_true rfl) ?_
  intro p e s m below meth c A ls F hr hlk hin h hl
  have hl : lv_has ls 8 [(0, .ref q), (1, .int a0), (2, .int b0), (3, .int k), (4, .int z0)] := hl
  have h : xS D cy A s.heap ([(q, .inr (12, (.ref ((u 0)) :: .int 0 :: .long 0 :: .long 1 :: .ref ((u 1)) :: .ref ((u 2)) :: .ref ((u 3)) :: .ref ((u 4)) :: .ref ((u 5)) :: .int 0 :: .int 0 :: .int 0 :: .int 0 :: .int 0 :: .int 0 :: .int (-1) :: .int (-1) :: .int 0 :: .ref ((u 6)) :: .int 0 :: .int 0 :: .ref ((u 7)) :: .ref ((u 8)) :: .ref ((u 9)) :: .ref ((u 10)) :: .ref ((u 11)) :: .ref ((u 12)) :: .ref ((u 13)) :: .int 0 :: .int 0 :: .int (-1) :: .int 0 :: .int (-1) :: .int 0 :: .ref ((u 14)) :: .int 0 :: .int 0 :: .int 0 :: .int 0 :: .int 0 :: .ref ((u 15)) :: .ref ((u 16)) :: .int 0 :: .int (-1) :: .int 0 :: .int 0 :: .int 0 :: .int 0 :: .ref ((u 17)) :: .ref ((u 18)) :: .ref ((u 19)) :: .int 0 :: .ref ((u 20)) :: .ref ((u 21)) :: .int 0 :: .ref ((u 22)) :: .int (-1) :: .int 0 :: .ref ((u 23)) :: .int (-1) :: .int (-1) :: .int 0 :: .ref ((u 24)) :: .ref ((u 25)) :: .int 0 :: []))), (((u 0)), .inl (cy 2, 25710, .inr (.inl (fun _ => 0))))]) s s.heap [] := h
  refine lv_aload_n F.1 F.2.1 dX12_face_0 rfl (lv_at hl 0 rfl) ?_
  refine lv_iload_n F.1 F.2.1 dX12_face_1 rfl (lv_at hl 1 rfl) ?_
  refine x_Vi (wr := [(((u 0)), .inl (cy 2, 25710, .inr (.inl (fun _ => 0))))]) F h yk_X12_isScript mw_635 mw_636 mw_637 (c_m_isScript l D cy q ((.ref ((u 0)) :: .int 0 :: .long 0 :: .long 1 :: .ref ((u 1)) :: .ref ((u 2)) :: .ref ((u 3)) :: .ref ((u 4)) :: .ref ((u 5)) :: .int 0 :: .int 0 :: .int 0 :: .int 0 :: .int 0 :: .int 0 :: .int (-1) :: .int (-1) :: .int 0 :: .ref ((u 6)) :: .int 0 :: .int 0 :: .ref ((u 7)) :: .ref ((u 8)) :: .ref ((u 9)) :: .ref ((u 10)) :: .ref ((u 11)) :: .ref ((u 12)) :: .ref ((u 13)) :: .int 0 :: .int 0 :: .int (-1) :: .int 0 :: .int (-1) :: .int 0 :: .ref ((u 14)) :: .int 0 :: .int 0 :: .int 0 :: .int 0 :: .int 0 :: .ref ((u 15)) :: .ref ((u 16)) :: .int 0 :: .int (-1) :: .int 0 :: .int 0 :: .int 0 :: .int 0 :: .ref ((u 17)) :: .ref ((u 18)) :: .ref ((u 19)) :: .int 0 :: .ref ((u 20)) :: .ref ((u 21)) :: .int 0 :: .ref ((u 22)) :: .int (-1) :: .int 0 :: .ref ((u 23)) :: .int (-1) :: .int (-1) :: .int 0 :: .ref ((u 24)) :: .ref ((u 25)) :: .int 0 :: [])) a0) [0] [1] 0 rfl rfl rfl rfl (by decide) rfl rfl hl.1 rfl (Nat.le_of_ble_eq_true rfl) ⟨Nat.le_of_ble_eq_true rfl, Nat.le_of_ble_eq_true rfl⟩ ⟨Nat.le_of_ble_eq_true rfl, Nat.le_of_ble_eq_true rfl⟩ dX12_face_2 (fun r2 u3 H locs hp1 h => ?_)
  have h : xS D cy A s.heap ([(((u 0)), .inl (cy 2, 25710, .inr (.inl (fun _ => 0)))), (q, .inr (12, (.ref ((u 0)) :: .int 0 :: .long 0 :: .long 1 :: .ref ((u 1)) :: .ref ((u 2)) :: .ref ((u 3)) :: .ref ((u 4)) :: .ref ((u 5)) :: .int 0 :: .int 0 :: .int 0 :: .int 0 :: .int 0 :: .int 0 :: .int (-1) :: .int (-1) :: .int 0 :: .ref ((u 6)) :: .int 0 :: .int 0 :: .ref ((u 7)) :: .ref ((u 8)) :: .ref ((u 9)) :: .ref ((u 10)) :: .ref ((u 11)) :: .ref ((u 12)) :: .ref ((u 13)) :: .int 0 :: .int 0 :: .int (-1) :: .int 0 :: .int (-1) :: .int 0 :: .ref ((u 14)) :: .int 0 :: .int 0 :: .int 0 :: .int 0 :: .int 0 :: .ref ((u 15)) :: .ref ((u 16)) :: .int 0 :: .int (-1) :: .int 0 :: .int 0 :: .int 0 :: .int 0 :: .ref ((u 17)) :: .ref ((u 18)) :: .ref ((u 19)) :: .int 0 :: .ref ((u 20)) :: .ref ((u 21)) :: .int 0 :: .ref ((u 22)) :: .int (-1) :: .int 0 :: .ref ((u 23)) :: .int (-1) :: .int (-1) :: .int 0 :: .ref ((u 24)) :: .ref ((u 25)) :: .int 0 :: [])))]) s H locs := h
  rcases x_tr (n := 3) hp1 with ⟨rfl, ht4⟩ | ⟨rfl, ht5, ht6⟩
  · refine lv_if_eq (tgt := 39) F.1 F.2.1 dX12_face_5 (by decide) (fun _ => ?_) (fun hc => absurd (by decide) hc)
    refine lv_aload_n F.1 F.2.1 dX12_face_39 rfl (lv_at hl 0 rfl) ?_
    refine lv_iconst (v := 1) F.1 F.2.1 dX12_face_40 (by decide) ?_
    refine x_Vi (wr := [(((u 0)), .inl (cy 2, 25710, .inr (.inl (fun _ => 0))))]) F h yk_X12_refuse mw_452 mw_453 mw_454 (c_m_refuse l D cy q ((.ref ((u 0)) :: .int 0 :: .long 0 :: .long 1 :: .ref ((u 1)) :: .ref ((u 2)) :: .ref ((u 3)) :: .ref ((u 4)) :: .ref ((u 5)) :: .int 0 :: .int 0 :: .int 0 :: .int 0 :: .int 0 :: .int 0 :: .int (-1) :: .int (-1) :: .int 0 :: .ref ((u 6)) :: .int 0 :: .int 0 :: .ref ((u 7)) :: .ref ((u 8)) :: .ref ((u 9)) :: .ref ((u 10)) :: .ref ((u 11)) :: .ref ((u 12)) :: .ref ((u 13)) :: .int 0 :: .int 0 :: .int (-1) :: .int 0 :: .int (-1) :: .int 0 :: .ref ((u 14)) :: .int 0 :: .int 0 :: .int 0 :: .int 0 :: .int 0 :: .ref ((u 15)) :: .ref ((u 16)) :: .int 0 :: .int (-1) :: .int 0 :: .int 0 :: .int 0 :: .int 0 :: .ref ((u 17)) :: .ref ((u 18)) :: .ref ((u 19)) :: .int 0 :: .ref ((u 20)) :: .ref ((u 21)) :: .int 0 :: .ref ((u 22)) :: .int (-1) :: .int 0 :: .ref ((u 23)) :: .int (-1) :: .int (-1) :: .int 0 :: .ref ((u 24)) :: .ref ((u 25)) :: .int 0 :: [])) rfl 1) [1] [0] 1 rfl rfl rfl rfl (by decide) rfl rfl hl.1 rfl (Nat.le_of_ble_eq_true rfl) ⟨Nat.le_of_ble_eq_true rfl, Nat.le_of_ble_eq_true rfl⟩ ⟨Nat.le_of_ble_eq_true rfl, Nat.le_of_ble_eq_true rfl⟩ dX12_face_41 (fun r8 u9 H locs hp7 h => ?_)
    have h : xS D cy A s.heap ([(((u 0)), .inl (cy 2, 25710, .inr (.inl (fun _ => 0))))]) s H locs := h
    obtain rfl : r8 = (-1) := hp7
    exact x_iret F h hr hlk rfl (fun _ => 0) [] (rfl) (by decide +kernel) rfl (Nat.le_of_ble_eq_true rfl) (Nat.le_of_ble_eq_true rfl) dX12_face_44
  · refine lv_if_eq (tgt := 39) F.1 F.2.1 dX12_face_5 (by decide) (fun hc => absurd hc (by decide)) (fun _ => ?_)
    refine lv_aload_n F.1 F.2.1 dX12_face_8 rfl (lv_at hl 0 rfl) ?_
    refine lv_iload_n F.1 F.2.1 dX12_face_9 rfl (lv_at hl 2 rfl) ?_
    refine x_Vi (wr := [(((u 0)), .inl (cy 2, 25710, .inr (.inl (fun _ => 0))))]) F h yk_X12_isScript mw_635 mw_636 mw_637 (c_m_isScript l D cy q ((.ref ((u 0)) :: .int 0 :: .long 0 :: .long 1 :: .ref ((u 1)) :: .ref ((u 2)) :: .ref ((u 3)) :: .ref ((u 4)) :: .ref ((u 5)) :: .int 0 :: .int 0 :: .int 0 :: .int 0 :: .int 0 :: .int 0 :: .int (-1) :: .int (-1) :: .int 0 :: .ref ((u 6)) :: .int 0 :: .int 0 :: .ref ((u 7)) :: .ref ((u 8)) :: .ref ((u 9)) :: .ref ((u 10)) :: .ref ((u 11)) :: .ref ((u 12)) :: .ref ((u 13)) :: .int 0 :: .int 0 :: .int (-1) :: .int 0 :: .int (-1) :: .int 0 :: .ref ((u 14)) :: .int 0 :: .int 0 :: .int 0 :: .int 0 :: .int 0 :: .ref ((u 15)) :: .ref ((u 16)) :: .int 0 :: .int (-1) :: .int 0 :: .int 0 :: .int 0 :: .int 0 :: .ref ((u 17)) :: .ref ((u 18)) :: .ref ((u 19)) :: .int 0 :: .ref ((u 20)) :: .ref ((u 21)) :: .int 0 :: .ref ((u 22)) :: .int (-1) :: .int 0 :: .ref ((u 23)) :: .int (-1) :: .int (-1) :: .int 0 :: .ref ((u 24)) :: .ref ((u 25)) :: .int 0 :: [])) b0) [1] [0] 1 rfl rfl rfl rfl (by decide) rfl rfl hl.1 rfl (Nat.le_of_ble_eq_true rfl) ⟨Nat.le_of_ble_eq_true rfl, Nat.le_of_ble_eq_true rfl⟩ ⟨Nat.le_of_ble_eq_true rfl, Nat.le_of_ble_eq_true rfl⟩ dX12_face_10 (fun r11 u12 H locs hp10 h => ?_)
    have h : xS D cy A s.heap ([(((u 0)), .inl (cy 2, 25710, .inr (.inl (fun _ => 0)))), (q, .inr (12, (.ref ((u 0)) :: .int 0 :: .long 0 :: .long 1 :: .ref ((u 1)) :: .ref ((u 2)) :: .ref ((u 3)) :: .ref ((u 4)) :: .ref ((u 5)) :: .int 0 :: .int 0 :: .int 0 :: .int 0 :: .int 0 :: .int 0 :: .int (-1) :: .int (-1) :: .int 0 :: .ref ((u 6)) :: .int 0 :: .int 0 :: .ref ((u 7)) :: .ref ((u 8)) :: .ref ((u 9)) :: .ref ((u 10)) :: .ref ((u 11)) :: .ref ((u 12)) :: .ref ((u 13)) :: .int 0 :: .int 0 :: .int (-1) :: .int 0 :: .int (-1) :: .int 0 :: .ref ((u 14)) :: .int 0 :: .int 0 :: .int 0 :: .int 0 :: .int 0 :: .ref ((u 15)) :: .ref ((u 16)) :: .int 0 :: .int (-1) :: .int 0 :: .int 0 :: .int 0 :: .int 0 :: .ref ((u 17)) :: .ref ((u 18)) :: .ref ((u 19)) :: .int 0 :: .ref ((u 20)) :: .ref ((u 21)) :: .int 0 :: .ref ((u 22)) :: .int (-1) :: .int 0 :: .ref ((u 23)) :: .int (-1) :: .int (-1) :: .int 0 :: .ref ((u 24)) :: .ref ((u 25)) :: .int 0 :: [])))]) s H locs := h
    rcases x_tr (n := 3) hp10 with ⟨rfl, ht13⟩ | ⟨rfl, ht14, ht15⟩
    · refine lv_if_eq (tgt := 39) F.1 F.2.1 dX12_face_13 (by decide) (fun _ => ?_) (fun hc => absurd (by decide) hc)
      refine lv_aload_n F.1 F.2.1 dX12_face_39 rfl (lv_at hl 0 rfl) ?_
      refine lv_iconst (v := 1) F.1 F.2.1 dX12_face_40 (by decide) ?_
      refine x_Vi (wr := [(((u 0)), .inl (cy 2, 25710, .inr (.inl (fun _ => 0))))]) F h yk_X12_refuse mw_452 mw_453 mw_454 (c_m_refuse l D cy q ((.ref ((u 0)) :: .int 0 :: .long 0 :: .long 1 :: .ref ((u 1)) :: .ref ((u 2)) :: .ref ((u 3)) :: .ref ((u 4)) :: .ref ((u 5)) :: .int 0 :: .int 0 :: .int 0 :: .int 0 :: .int 0 :: .int 0 :: .int (-1) :: .int (-1) :: .int 0 :: .ref ((u 6)) :: .int 0 :: .int 0 :: .ref ((u 7)) :: .ref ((u 8)) :: .ref ((u 9)) :: .ref ((u 10)) :: .ref ((u 11)) :: .ref ((u 12)) :: .ref ((u 13)) :: .int 0 :: .int 0 :: .int (-1) :: .int 0 :: .int (-1) :: .int 0 :: .ref ((u 14)) :: .int 0 :: .int 0 :: .int 0 :: .int 0 :: .int 0 :: .ref ((u 15)) :: .ref ((u 16)) :: .int 0 :: .int (-1) :: .int 0 :: .int 0 :: .int 0 :: .int 0 :: .ref ((u 17)) :: .ref ((u 18)) :: .ref ((u 19)) :: .int 0 :: .ref ((u 20)) :: .ref ((u 21)) :: .int 0 :: .ref ((u 22)) :: .int (-1) :: .int 0 :: .ref ((u 23)) :: .int (-1) :: .int (-1) :: .int 0 :: .ref ((u 24)) :: .ref ((u 25)) :: .int 0 :: [])) rfl 1) [1] [0] 1 rfl rfl rfl rfl (by decide) rfl rfl hl.1 rfl (Nat.le_of_ble_eq_true rfl) ⟨Nat.le_of_ble_eq_true rfl, Nat.le_of_ble_eq_true rfl⟩ ⟨Nat.le_of_ble_eq_true rfl, Nat.le_of_ble_eq_true rfl⟩ dX12_face_41 (fun r17 u18 H locs hp16 h => ?_)
      have h : xS D cy A s.heap ([(((u 0)), .inl (cy 2, 25710, .inr (.inl (fun _ => 0))))]) s H locs := h
      obtain rfl : r17 = (-1) := hp16
      exact x_iret F h hr hlk rfl (fun _ => 0) [] (rfl) (by decide +kernel) rfl (Nat.le_of_ble_eq_true rfl) (Nat.le_of_ble_eq_true rfl) dX12_face_44
    · refine lv_if_eq (tgt := 39) F.1 F.2.1 dX12_face_13 (by decide) (fun hc => absurd hc (by decide)) (fun _ => ?_)
      refine lv_aload_n F.1 F.2.1 dX12_face_16 rfl (lv_at hl 0 rfl) ?_
      refine lv_iload_n F.1 F.2.1 dX12_face_17 rfl (lv_at hl 3 rfl) ?_
      refine lv_i2l (v := k.toInt64) F.1 F.2.1 dX12_face_18 rfl ?_
      refine x_Vi (wr := []) F h yk_X12_isLine mw_797 mw_798 mw_799 (c_m_isLine l D cy q u k.toInt64) [1, 0] [] 1 rfl rfl rfl rfl (by decide) rfl rfl hl.1 rfl (Nat.le_of_ble_eq_true rfl) ⟨Nat.le_of_ble_eq_true rfl, Nat.le_of_ble_eq_true rfl⟩ ⟨Nat.le_of_ble_eq_true rfl, Nat.le_of_ble_eq_true rfl⟩ dX12_face_19 (fun r20 u21 H locs hp19 h => ?_)
      have h : xS D cy A s.heap ([(q, .inr (12, (.ref ((u 0)) :: .int 0 :: .long 0 :: .long 1 :: .ref ((u 1)) :: .ref ((u 2)) :: .ref ((u 3)) :: .ref ((u 4)) :: .ref ((u 5)) :: .int 0 :: .int 0 :: .int 0 :: .int 0 :: .int 0 :: .int 0 :: .int (-1) :: .int (-1) :: .int 0 :: .ref ((u 6)) :: .int 0 :: .int 0 :: .ref ((u 7)) :: .ref ((u 8)) :: .ref ((u 9)) :: .ref ((u 10)) :: .ref ((u 11)) :: .ref ((u 12)) :: .ref ((u 13)) :: .int 0 :: .int 0 :: .int (-1) :: .int 0 :: .int (-1) :: .int 0 :: .ref ((u 14)) :: .int 0 :: .int 0 :: .int 0 :: .int 0 :: .int 0 :: .ref ((u 15)) :: .ref ((u 16)) :: .int 0 :: .int (-1) :: .int 0 :: .int 0 :: .int 0 :: .int 0 :: .ref ((u 17)) :: .ref ((u 18)) :: .ref ((u 19)) :: .int 0 :: .ref ((u 20)) :: .ref ((u 21)) :: .int 0 :: .ref ((u 22)) :: .int (-1) :: .int 0 :: .ref ((u 23)) :: .int (-1) :: .int (-1) :: .int 0 :: .ref ((u 24)) :: .ref ((u 25)) :: .int 0 :: []))), (((u 0)), .inl (cy 2, 25710, .inr (.inl (fun _ => 0))))]) s H locs := h
      obtain rfl : r20 = 0 := hp19
      refine lv_if_eq (tgt := 39) F.1 F.2.1 dX12_face_22 (by decide) (fun _ => ?_) (fun hc => absurd (by decide) hc)
      refine lv_aload_n F.1 F.2.1 dX12_face_39 rfl (lv_at hl 0 rfl) ?_
      refine lv_iconst (v := 1) F.1 F.2.1 dX12_face_40 (by decide) ?_
      refine x_Vi (wr := [(((u 0)), .inl (cy 2, 25710, .inr (.inl (fun _ => 0))))]) F h yk_X12_refuse mw_452 mw_453 mw_454 (c_m_refuse l D cy q ((.ref ((u 0)) :: .int 0 :: .long 0 :: .long 1 :: .ref ((u 1)) :: .ref ((u 2)) :: .ref ((u 3)) :: .ref ((u 4)) :: .ref ((u 5)) :: .int 0 :: .int 0 :: .int 0 :: .int 0 :: .int 0 :: .int 0 :: .int (-1) :: .int (-1) :: .int 0 :: .ref ((u 6)) :: .int 0 :: .int 0 :: .ref ((u 7)) :: .ref ((u 8)) :: .ref ((u 9)) :: .ref ((u 10)) :: .ref ((u 11)) :: .ref ((u 12)) :: .ref ((u 13)) :: .int 0 :: .int 0 :: .int (-1) :: .int 0 :: .int (-1) :: .int 0 :: .ref ((u 14)) :: .int 0 :: .int 0 :: .int 0 :: .int 0 :: .int 0 :: .ref ((u 15)) :: .ref ((u 16)) :: .int 0 :: .int (-1) :: .int 0 :: .int 0 :: .int 0 :: .int 0 :: .ref ((u 17)) :: .ref ((u 18)) :: .ref ((u 19)) :: .int 0 :: .ref ((u 20)) :: .ref ((u 21)) :: .int 0 :: .ref ((u 22)) :: .int (-1) :: .int 0 :: .ref ((u 23)) :: .int (-1) :: .int (-1) :: .int 0 :: .ref ((u 24)) :: .ref ((u 25)) :: .int 0 :: [])) rfl 1) [0] [1] 0 rfl rfl rfl rfl (by decide) rfl rfl hl.1 rfl (Nat.le_of_ble_eq_true rfl) ⟨Nat.le_of_ble_eq_true rfl, Nat.le_of_ble_eq_true rfl⟩ ⟨Nat.le_of_ble_eq_true rfl, Nat.le_of_ble_eq_true rfl⟩ dX12_face_41 (fun r23 u24 H locs hp22 h => ?_)
      have h : xS D cy A s.heap ([(((u 0)), .inl (cy 2, 25710, .inr (.inl (fun _ => 0))))]) s H locs := h
      obtain rfl : r23 = (-1) := hp22
      exact x_iret F h hr hlk rfl (fun _ => 0) [] (rfl) (by decide +kernel) rfl (Nat.le_of_ble_eq_true rfl) (Nat.le_of_ble_eq_true rfl) dX12_face_44
set_option maxHeartbeats 4000000 in
set_option maxRecDepth 100000 in
theorem c_m_wrongLines (l : Launch) (D : va_G) (cy : Nat → ClassId) (q : Nat) (u : Nat → Nat) (g : Int32) (t : Int32) (n : Int32) (z : Int32) : ∀ sz, Met l yX12_wrongLines (Cond.code yX12_wrongLines cX12_wrongLines 7 (some .int) :: wsL_law) { frames := 1, cells := 0, slots := 0, locals := 20 } (va_Pc [.ref q, .int g, .int t, .int n, .int z] (xP D cy ([mM q u 0 0 0 (-1) 0, mA_trayMany cy u]) sz)) (va_Qi (fun r _ => r = 1 ∨ r = 2) (xB D (va_A ([mM q u 0 0 0 (-1) 0, mA_trayMany cy u]) sz) (fun _ => [mM q u 0 0 0 (-1) 0, mA_trayMany cy u])) (va_A ([mM q u 0 0 0 (-1) 0, mA_trayMany cy u]) sz)) 0 0 (va_A ([mM q u 0 0 0 (-1) 0, mA_trayMany cy u]) sz) := by
  refine x_enter (fun A => va_Qi (fun r _ => r = 1 ∨ r = 2) (xB D A (fun _ => [mM q u 0 0 0 (-1) 0, mA_trayMany cy u])) A) (by decide +kernel) rfl (Nat.le_of_ble_eq_true rfl) ?_
  intro p e s m below meth c A ls F hr hlk hin h hl
  have hl : lv_has ls 7 [(0, .ref q), (1, .int g), (2, .int t), (3, .int n), (4, .int z)] := hl
  have h : xS D cy A s.heap ([(q, .inr (12, (.ref ((u 0)) :: .int 0 :: .long 0 :: .long 1 :: .ref ((u 1)) :: .ref ((u 2)) :: .ref ((u 3)) :: .ref ((u 4)) :: .ref ((u 5)) :: .int 0 :: .int 0 :: .int 0 :: .int 0 :: .int 0 :: .int 0 :: .int (-1) :: .int (-1) :: .int 0 :: .ref ((u 6)) :: .int 0 :: .int 0 :: .ref ((u 7)) :: .ref ((u 8)) :: .ref ((u 9)) :: .ref ((u 10)) :: .ref ((u 11)) :: .ref ((u 12)) :: .ref ((u 13)) :: .int 0 :: .int 0 :: .int (-1) :: .int 0 :: .int (-1) :: .int 0 :: .ref ((u 14)) :: .int 0 :: .int 0 :: .int 0 :: .int 0 :: .int 0 :: .ref ((u 15)) :: .ref ((u 16)) :: .int 0 :: .int (-1) :: .int 0 :: .int 0 :: .int 0 :: .int 0 :: .ref ((u 17)) :: .ref ((u 18)) :: .ref ((u 19)) :: .int 0 :: .ref ((u 20)) :: .ref ((u 21)) :: .int 0 :: .ref ((u 22)) :: .int (-1) :: .int 0 :: .ref ((u 23)) :: .int (-1) :: .int (-1) :: .int 0 :: .ref ((u 24)) :: .ref ((u 25)) :: .int 0 :: []))), (((u 2)), .inl (cy 1, 4, .inl (upd (upd (upd (upd (fun _ => 0) 0 (-1)) 1 (-1)) 2 (-1)) 3 (-1))))]) s s.heap [] := h
  refine lv_iload_n F.1 F.2.1 dX12_wrongLines_0 rfl (lv_at hl 1 rfl) ?_
  refine lv_if_eq (tgt := 22) F.1 F.2.1 dX12_wrongLines_1 (by decide) (fun hc1 => ?_) (fun hc1 => ?_)
  · refine lv_iconst (v := 1) F.1 F.2.1 dX12_wrongLines_22 (by decide) ?_
    exact x_iret F h hr hlk rfl (fun _ => 0) [0, 1] (Or.inl rfl) (by decide +kernel) rfl (Nat.le_of_ble_eq_true rfl) (Nat.le_of_ble_eq_true rfl) dX12_wrongLines_23
  · refine lv_iload_n F.1 F.2.1 dX12_wrongLines_4 rfl (lv_at hl 2 rfl) ?_
    refine x_St F h yk_X12_isTray mw_283 mw_284 (c_m_isTray l D cy t) hl.1 rfl (Nat.le_of_ble_eq_true rfl) ⟨Nat.le_of_ble_eq_true rfl, Nat.le_of_ble_eq_true rfl⟩ ⟨Nat.le_of_ble_eq_true rfl, Nat.le_of_ble_eq_true rfl⟩ dX12_wrongLines_5 (fun r3 u4 H locs hp2 h => ?_)
    rcases x_tr (n := 4) hp2 with ⟨rfl, ht5⟩ | ⟨rfl, ht6, ht7⟩
    · refine lv_if_eq (tgt := 22) F.1 F.2.1 dX12_wrongLines_8 (by decide) (fun _ => ?_) (fun hc => absurd (by decide) hc)
      refine lv_iconst (v := 1) F.1 F.2.1 dX12_wrongLines_22 (by decide) ?_
      exact x_iret F h hr hlk rfl (fun _ => 0) [0, 1] (Or.inl rfl) (by decide +kernel) rfl (Nat.le_of_ble_eq_true rfl) (Nat.le_of_ble_eq_true rfl) dX12_wrongLines_23
    · refine lv_if_eq (tgt := 22) F.1 F.2.1 dX12_wrongLines_8 (by decide) (fun hc => absurd hc (by decide)) (fun _ => ?_)
      refine lv_iload_n F.1 F.2.1 dX12_wrongLines_11 rfl (lv_at hl 3 rfl) ?_
      refine lv_iconst (v := 1) F.1 F.2.1 dX12_wrongLines_12 (by decide) ?_
      refine lv_icmp_lt (tgt := 22) F.1 F.2.1 dX12_wrongLines_13 (by decide) (fun hc8 => ?_) (fun hc8 => ?_)
      · refine lv_iconst (v := 1) F.1 F.2.1 dX12_wrongLines_22 (by decide) ?_
        exact x_iret F h hr hlk rfl (fun _ => 0) [0, 1] (Or.inl rfl) (by decide +kernel) rfl (Nat.le_of_ble_eq_true rfl) (Nat.le_of_ble_eq_true rfl) dX12_wrongLines_23
      · refine lv_iload_n F.1 F.2.1 dX12_wrongLines_16 rfl (lv_at hl 3 rfl) ?_
        refine lv_iload F.1 F.2.1 dX12_wrongLines_17 (lv_at hl 4 rfl) ?_
        refine lv_icmp_le (tgt := 24) F.1 F.2.1 dX12_wrongLines_19 (by decide) (fun hc9 => ?_) (fun hc9 => ?_)
        · rcases x_c4 ht6 ht7 with rfl | rfl | rfl | rfl
          · refine lv_aload_n F.1 F.2.1 dX12_wrongLines_24 rfl (lv_at hl 0 rfl) ?_
            refine x_get F h 0 5 inlX12 rfl (by decide) mw_205 dX12_wrongLines_25 rfl rfl ?_
            refine lv_iload_n F.1 F.2.1 dX12_wrongLines_28 rfl (lv_at hl 2 rfl) ?_
            refine x_iald (v := (-1)) F h 1 rfl rfl (x_in (by decide +kernel)) rfl dX12_wrongLines_29 ?_
            refine lv_iconst (v := (-1)) F.1 F.2.1 dX12_wrongLines_30 (by decide) ?_
            refine lv_icmp_ne (tgt := 36) F.1 F.2.1 dX12_wrongLines_31 (by decide) (fun hc => absurd hc (by decide)) (fun _ => ?_)
            refine lv_iconst (v := 2) F.1 F.2.1 dX12_wrongLines_34 (by decide) ?_
            exact x_iret F h hr hlk rfl (fun _ => 0) [0, 1] (Or.inr (rfl)) (by decide +kernel) rfl (Nat.le_of_ble_eq_true rfl) (Nat.le_of_ble_eq_true rfl) dX12_wrongLines_35
          · refine lv_aload_n F.1 F.2.1 dX12_wrongLines_24 rfl (lv_at hl 0 rfl) ?_
            refine x_get F h 0 5 inlX12 rfl (by decide) mw_205 dX12_wrongLines_25 rfl rfl ?_
            refine lv_iload_n F.1 F.2.1 dX12_wrongLines_28 rfl (lv_at hl 2 rfl) ?_
            refine x_iald (v := (-1)) F h 1 rfl rfl (x_in (by decide +kernel)) rfl dX12_wrongLines_29 ?_
            refine lv_iconst (v := (-1)) F.1 F.2.1 dX12_wrongLines_30 (by decide) ?_
            refine lv_icmp_ne (tgt := 36) F.1 F.2.1 dX12_wrongLines_31 (by decide) (fun hc => absurd hc (by decide)) (fun _ => ?_)
            refine lv_iconst (v := 2) F.1 F.2.1 dX12_wrongLines_34 (by decide) ?_
            exact x_iret F h hr hlk rfl (fun _ => 0) [0, 1] (Or.inr (rfl)) (by decide +kernel) rfl (Nat.le_of_ble_eq_true rfl) (Nat.le_of_ble_eq_true rfl) dX12_wrongLines_35
          · refine lv_aload_n F.1 F.2.1 dX12_wrongLines_24 rfl (lv_at hl 0 rfl) ?_
            refine x_get F h 0 5 inlX12 rfl (by decide) mw_205 dX12_wrongLines_25 rfl rfl ?_
            refine lv_iload_n F.1 F.2.1 dX12_wrongLines_28 rfl (lv_at hl 2 rfl) ?_
            refine x_iald (v := (-1)) F h 1 rfl rfl (x_in (by decide +kernel)) rfl dX12_wrongLines_29 ?_
            refine lv_iconst (v := (-1)) F.1 F.2.1 dX12_wrongLines_30 (by decide) ?_
            refine lv_icmp_ne (tgt := 36) F.1 F.2.1 dX12_wrongLines_31 (by decide) (fun hc => absurd hc (by decide)) (fun _ => ?_)
            refine lv_iconst (v := 2) F.1 F.2.1 dX12_wrongLines_34 (by decide) ?_
            exact x_iret F h hr hlk rfl (fun _ => 0) [0, 1] (Or.inr (rfl)) (by decide +kernel) rfl (Nat.le_of_ble_eq_true rfl) (Nat.le_of_ble_eq_true rfl) dX12_wrongLines_35
          · refine lv_aload_n F.1 F.2.1 dX12_wrongLines_24 rfl (lv_at hl 0 rfl) ?_
            refine x_get F h 0 5 inlX12 rfl (by decide) mw_205 dX12_wrongLines_25 rfl rfl ?_
            refine lv_iload_n F.1 F.2.1 dX12_wrongLines_28 rfl (lv_at hl 2 rfl) ?_
            refine x_iald (v := (-1)) F h 1 rfl rfl (x_in (by decide +kernel)) rfl dX12_wrongLines_29 ?_
            refine lv_iconst (v := (-1)) F.1 F.2.1 dX12_wrongLines_30 (by decide) ?_
            refine lv_icmp_ne (tgt := 36) F.1 F.2.1 dX12_wrongLines_31 (by decide) (fun hc => absurd hc (by decide)) (fun _ => ?_)
            refine lv_iconst (v := 2) F.1 F.2.1 dX12_wrongLines_34 (by decide) ?_
            exact x_iret F h hr hlk rfl (fun _ => 0) [0, 1] (Or.inr (rfl)) (by decide +kernel) rfl (Nat.le_of_ble_eq_true rfl) (Nat.le_of_ble_eq_true rfl) dX12_wrongLines_35
        · refine lv_iconst (v := 1) F.1 F.2.1 dX12_wrongLines_22 (by decide) ?_
          exact x_iret F h hr hlk rfl (fun _ => 0) [0, 1] (Or.inl rfl) (by decide +kernel) rfl (Nat.le_of_ble_eq_true rfl) (Nat.le_of_ble_eq_true rfl) dX12_wrongLines_23
set_option maxHeartbeats 4000000 in
set_option maxRecDepth 100000 in
theorem c_m_talk (l : Launch) (D : va_G) (cy : Nat → ClassId) (q : Nat) (u : Nat → Nat) (sc : Int32) (t : Int32) (n : Int32) : ∀ sz, Met l yX12_talk (Cond.code yX12_talk cX12_talk 9 (some .int) :: wsL_law) { frames := 2, cells := 0, slots := 0, locals := 46 } (va_Pc [.ref q, .int sc, .int t, .int n] (xP D cy ([mM q u 0 0 0 (-1) 0, mA_trayMany cy u]) sz)) (va_Qi (fun r _ => r = (-1)) (xB D (va_A ([mM q u 0 0 0 (-1) 0, mA_trayMany cy u]) sz) (fun _ => [])) (va_A ([mM q u 0 0 0 (-1) 0, mA_trayMany cy u]) sz)) 0 0 (va_A ([mM q u 0 0 0 (-1) 0, mA_trayMany cy u]) sz) := by
  refine x_enter (fun A => va_Qi (fun r _ => r = (-1)) (xB D A (fun _ => [])) A) (by decide +kernel) rfl (Nat.le_of_ble_eq_true rfl) ?_
  intro p e s m below meth c A ls F hr hlk hin h hl
  have hl : lv_has ls 9 [(0, .ref q), (1, .int sc), (2, .int t), (3, .int n)] := hl
  have h : xS D cy A s.heap ([(q, .inr (12, (.ref ((u 0)) :: .int 0 :: .long 0 :: .long 1 :: .ref ((u 1)) :: .ref ((u 2)) :: .ref ((u 3)) :: .ref ((u 4)) :: .ref ((u 5)) :: .int 0 :: .int 0 :: .int 0 :: .int 0 :: .int 0 :: .int 0 :: .int (-1) :: .int (-1) :: .int 0 :: .ref ((u 6)) :: .int 0 :: .int 0 :: .ref ((u 7)) :: .ref ((u 8)) :: .ref ((u 9)) :: .ref ((u 10)) :: .ref ((u 11)) :: .ref ((u 12)) :: .ref ((u 13)) :: .int 0 :: .int 0 :: .int (-1) :: .int 0 :: .int (-1) :: .int 0 :: .ref ((u 14)) :: .int 0 :: .int 0 :: .int 0 :: .int 0 :: .int 0 :: .ref ((u 15)) :: .ref ((u 16)) :: .int 0 :: .int (-1) :: .int 0 :: .int 0 :: .int 0 :: .int 0 :: .ref ((u 17)) :: .ref ((u 18)) :: .ref ((u 19)) :: .int 0 :: .ref ((u 20)) :: .ref ((u 21)) :: .int 0 :: .ref ((u 22)) :: .int (-1) :: .int 0 :: .ref ((u 23)) :: .int (-1) :: .int (-1) :: .int 0 :: .ref ((u 24)) :: .ref ((u 25)) :: .int 0 :: []))), (((u 2)), .inl (cy 1, 4, .inl (upd (upd (upd (upd (fun _ => 0) 0 (-1)) 1 (-1)) 2 (-1)) 3 (-1))))]) s s.heap [] := h
  refine lv_aload_n F.1 F.2.1 dX12_talk_0 rfl (lv_at hl 0 rfl) ?_
  refine lv_aload_n F.1 F.2.1 dX12_talk_1 rfl (lv_at hl 0 rfl) ?_
  refine lv_iload_n F.1 F.2.1 dX12_talk_2 rfl (lv_at hl 1 rfl) ?_
  refine x_Vi (wr := [(((u 2)), .inl (cy 1, 4, .inl (upd (upd (upd (upd (fun _ => 0) 0 (-1)) 1 (-1)) 2 (-1)) 3 (-1))))]) F h yk_X12_isScript mw_635 mw_636 mw_637 (c_m_isScript l D cy q ((.ref ((u 0)) :: .int 0 :: .long 0 :: .long 1 :: .ref ((u 1)) :: .ref ((u 2)) :: .ref ((u 3)) :: .ref ((u 4)) :: .ref ((u 5)) :: .int 0 :: .int 0 :: .int 0 :: .int 0 :: .int 0 :: .int 0 :: .int (-1) :: .int (-1) :: .int 0 :: .ref ((u 6)) :: .int 0 :: .int 0 :: .ref ((u 7)) :: .ref ((u 8)) :: .ref ((u 9)) :: .ref ((u 10)) :: .ref ((u 11)) :: .ref ((u 12)) :: .ref ((u 13)) :: .int 0 :: .int 0 :: .int (-1) :: .int 0 :: .int (-1) :: .int 0 :: .ref ((u 14)) :: .int 0 :: .int 0 :: .int 0 :: .int 0 :: .int 0 :: .ref ((u 15)) :: .ref ((u 16)) :: .int 0 :: .int (-1) :: .int 0 :: .int 0 :: .int 0 :: .int 0 :: .ref ((u 17)) :: .ref ((u 18)) :: .ref ((u 19)) :: .int 0 :: .ref ((u 20)) :: .ref ((u 21)) :: .int 0 :: .ref ((u 22)) :: .int (-1) :: .int 0 :: .ref ((u 23)) :: .int (-1) :: .int (-1) :: .int 0 :: .ref ((u 24)) :: .ref ((u 25)) :: .int 0 :: [])) sc) [0] [1] 0 rfl rfl rfl rfl (by decide) rfl rfl hl.1 rfl (Nat.le_of_ble_eq_true rfl) ⟨Nat.le_of_ble_eq_true rfl, Nat.le_of_ble_eq_true rfl⟩ ⟨Nat.le_of_ble_eq_true rfl, Nat.le_of_ble_eq_true rfl⟩ dX12_talk_3 (fun r2 u3 H locs hp1 h => ?_)
  have h : xS D cy A s.heap ([(((u 2)), .inl (cy 1, 4, .inl (upd (upd (upd (upd (fun _ => 0) 0 (-1)) 1 (-1)) 2 (-1)) 3 (-1)))), (q, .inr (12, (.ref ((u 0)) :: .int 0 :: .long 0 :: .long 1 :: .ref ((u 1)) :: .ref ((u 2)) :: .ref ((u 3)) :: .ref ((u 4)) :: .ref ((u 5)) :: .int 0 :: .int 0 :: .int 0 :: .int 0 :: .int 0 :: .int 0 :: .int (-1) :: .int (-1) :: .int 0 :: .ref ((u 6)) :: .int 0 :: .int 0 :: .ref ((u 7)) :: .ref ((u 8)) :: .ref ((u 9)) :: .ref ((u 10)) :: .ref ((u 11)) :: .ref ((u 12)) :: .ref ((u 13)) :: .int 0 :: .int 0 :: .int (-1) :: .int 0 :: .int (-1) :: .int 0 :: .ref ((u 14)) :: .int 0 :: .int 0 :: .int 0 :: .int 0 :: .int 0 :: .ref ((u 15)) :: .ref ((u 16)) :: .int 0 :: .int (-1) :: .int 0 :: .int 0 :: .int 0 :: .int 0 :: .ref ((u 17)) :: .ref ((u 18)) :: .ref ((u 19)) :: .int 0 :: .ref ((u 20)) :: .ref ((u 21)) :: .int 0 :: .ref ((u 22)) :: .int (-1) :: .int 0 :: .ref ((u 23)) :: .int (-1) :: .int (-1) :: .int 0 :: .ref ((u 24)) :: .ref ((u 25)) :: .int 0 :: [])))]) s H locs := h
  rcases x_tr (n := 3) hp1 with ⟨rfl, ht4⟩ | ⟨rfl, ht5, ht6⟩
  · refine lv_iload_n F.1 F.2.1 dX12_talk_6 rfl (lv_at hl 2 rfl) ?_
    refine lv_iload_n F.1 F.2.1 dX12_talk_7 rfl (lv_at hl 3 rfl) ?_
    refine lv_bipush (v := 15) F.1 F.2.1 dX12_talk_8 (by decide) ?_
    refine x_Vi (wr := []) F h yk_X12_wrongLines mw_1183 mw_1184 mw_1185 (c_m_wrongLines l D cy q u 0 t n 15) [1, 0] [] 1 rfl rfl rfl rfl (by decide) rfl rfl hl.1 rfl (Nat.le_of_ble_eq_true rfl) ⟨Nat.le_of_ble_eq_true rfl, Nat.le_of_ble_eq_true rfl⟩ ⟨Nat.le_of_ble_eq_true rfl, Nat.le_of_ble_eq_true rfl⟩ dX12_talk_10 (fun r8 u9 H locs hp7 h => ?_)
    have h : xS D cy A s.heap ([(q, .inr (12, (.ref ((u 0)) :: .int 0 :: .long 0 :: .long 1 :: .ref ((u 1)) :: .ref ((u 2)) :: .ref ((u 3)) :: .ref ((u 4)) :: .ref ((u 5)) :: .int 0 :: .int 0 :: .int 0 :: .int 0 :: .int 0 :: .int 0 :: .int (-1) :: .int (-1) :: .int 0 :: .ref ((u 6)) :: .int 0 :: .int 0 :: .ref ((u 7)) :: .ref ((u 8)) :: .ref ((u 9)) :: .ref ((u 10)) :: .ref ((u 11)) :: .ref ((u 12)) :: .ref ((u 13)) :: .int 0 :: .int 0 :: .int (-1) :: .int 0 :: .int (-1) :: .int 0 :: .ref ((u 14)) :: .int 0 :: .int 0 :: .int 0 :: .int 0 :: .int 0 :: .ref ((u 15)) :: .ref ((u 16)) :: .int 0 :: .int (-1) :: .int 0 :: .int 0 :: .int 0 :: .int 0 :: .ref ((u 17)) :: .ref ((u 18)) :: .ref ((u 19)) :: .int 0 :: .ref ((u 20)) :: .ref ((u 21)) :: .int 0 :: .ref ((u 22)) :: .int (-1) :: .int 0 :: .ref ((u 23)) :: .int (-1) :: .int (-1) :: .int 0 :: .ref ((u 24)) :: .ref ((u 25)) :: .int 0 :: []))), (((u 2)), .inl (cy 1, 4, .inl (upd (upd (upd (upd (fun _ => 0) 0 (-1)) 1 (-1)) 2 (-1)) 3 (-1))))]) s H locs := h
    rcases hp7 with rfl | rfl
    · refine lv_istore (lv' := [(4, .int 1), (0, .ref q), (1, .int sc), (2, .int t), (3, .int n)]) F.1 F.2.1 dX12_talk_13 hl (by decide) rfl (fun ls hl => ?_)
      refine lv_iload F.1 F.2.1 dX12_talk_15 (lv_at hl 0 rfl) ?_
      refine lv_if_le (tgt := 27) F.1 F.2.1 dX12_talk_17 (by decide) (fun hc => absurd hc (by decide)) (fun _ => ?_)
      refine lv_aload_n F.1 F.2.1 dX12_talk_20 rfl (lv_at hl 1 rfl) ?_
      refine lv_iload F.1 F.2.1 dX12_talk_21 (lv_at hl 0 rfl) ?_
      refine x_Vi (wr := [(((u 2)), .inl (cy 1, 4, .inl (upd (upd (upd (upd (fun _ => 0) 0 (-1)) 1 (-1)) 2 (-1)) 3 (-1))))]) F h yk_X12_refuse mw_452 mw_453 mw_454 (c_m_refuse l D cy q ((.ref ((u 0)) :: .int 0 :: .long 0 :: .long 1 :: .ref ((u 1)) :: .ref ((u 2)) :: .ref ((u 3)) :: .ref ((u 4)) :: .ref ((u 5)) :: .int 0 :: .int 0 :: .int 0 :: .int 0 :: .int 0 :: .int 0 :: .int (-1) :: .int (-1) :: .int 0 :: .ref ((u 6)) :: .int 0 :: .int 0 :: .ref ((u 7)) :: .ref ((u 8)) :: .ref ((u 9)) :: .ref ((u 10)) :: .ref ((u 11)) :: .ref ((u 12)) :: .ref ((u 13)) :: .int 0 :: .int 0 :: .int (-1) :: .int 0 :: .int (-1) :: .int 0 :: .ref ((u 14)) :: .int 0 :: .int 0 :: .int 0 :: .int 0 :: .int 0 :: .ref ((u 15)) :: .ref ((u 16)) :: .int 0 :: .int (-1) :: .int 0 :: .int 0 :: .int 0 :: .int 0 :: .ref ((u 17)) :: .ref ((u 18)) :: .ref ((u 19)) :: .int 0 :: .ref ((u 20)) :: .ref ((u 21)) :: .int 0 :: .ref ((u 22)) :: .int (-1) :: .int 0 :: .ref ((u 23)) :: .int (-1) :: .int (-1) :: .int 0 :: .ref ((u 24)) :: .ref ((u 25)) :: .int 0 :: [])) rfl 1) [0] [1] 0 rfl rfl rfl rfl (by decide) rfl rfl hl.1 rfl (Nat.le_of_ble_eq_true rfl) ⟨Nat.le_of_ble_eq_true rfl, Nat.le_of_ble_eq_true rfl⟩ ⟨Nat.le_of_ble_eq_true rfl, Nat.le_of_ble_eq_true rfl⟩ dX12_talk_23 (fun r11 u12 H locs hp10 h => ?_)
      have h : xS D cy A s.heap ([(((u 2)), .inl (cy 1, 4, .inl (upd (upd (upd (upd (fun _ => 0) 0 (-1)) 1 (-1)) 2 (-1)) 3 (-1))))]) s H locs := h
      obtain rfl : r11 = (-1) := hp10
      exact x_iret F h hr hlk rfl (fun _ => 0) [] (rfl) (by decide +kernel) rfl (Nat.le_of_ble_eq_true rfl) (Nat.le_of_ble_eq_true rfl) dX12_talk_26
    · refine lv_istore (lv' := [(4, .int 2), (0, .ref q), (1, .int sc), (2, .int t), (3, .int n)]) F.1 F.2.1 dX12_talk_13 hl (by decide) rfl (fun ls hl => ?_)
      refine lv_iload F.1 F.2.1 dX12_talk_15 (lv_at hl 0 rfl) ?_
      refine lv_if_le (tgt := 27) F.1 F.2.1 dX12_talk_17 (by decide) (fun hc => absurd hc (by decide)) (fun _ => ?_)
      refine lv_aload_n F.1 F.2.1 dX12_talk_20 rfl (lv_at hl 1 rfl) ?_
      refine lv_iload F.1 F.2.1 dX12_talk_21 (lv_at hl 0 rfl) ?_
      refine x_Vi (wr := [(((u 2)), .inl (cy 1, 4, .inl (upd (upd (upd (upd (fun _ => 0) 0 (-1)) 1 (-1)) 2 (-1)) 3 (-1))))]) F h yk_X12_refuse mw_452 mw_453 mw_454 (c_m_refuse l D cy q ((.ref ((u 0)) :: .int 0 :: .long 0 :: .long 1 :: .ref ((u 1)) :: .ref ((u 2)) :: .ref ((u 3)) :: .ref ((u 4)) :: .ref ((u 5)) :: .int 0 :: .int 0 :: .int 0 :: .int 0 :: .int 0 :: .int 0 :: .int (-1) :: .int (-1) :: .int 0 :: .ref ((u 6)) :: .int 0 :: .int 0 :: .ref ((u 7)) :: .ref ((u 8)) :: .ref ((u 9)) :: .ref ((u 10)) :: .ref ((u 11)) :: .ref ((u 12)) :: .ref ((u 13)) :: .int 0 :: .int 0 :: .int (-1) :: .int 0 :: .int (-1) :: .int 0 :: .ref ((u 14)) :: .int 0 :: .int 0 :: .int 0 :: .int 0 :: .int 0 :: .ref ((u 15)) :: .ref ((u 16)) :: .int 0 :: .int (-1) :: .int 0 :: .int 0 :: .int 0 :: .int 0 :: .ref ((u 17)) :: .ref ((u 18)) :: .ref ((u 19)) :: .int 0 :: .ref ((u 20)) :: .ref ((u 21)) :: .int 0 :: .ref ((u 22)) :: .int (-1) :: .int 0 :: .ref ((u 23)) :: .int (-1) :: .int (-1) :: .int 0 :: .ref ((u 24)) :: .ref ((u 25)) :: .int 0 :: [])) rfl 2) [0] [1] 0 rfl rfl rfl rfl (by decide) rfl rfl hl.1 rfl (Nat.le_of_ble_eq_true rfl) ⟨Nat.le_of_ble_eq_true rfl, Nat.le_of_ble_eq_true rfl⟩ ⟨Nat.le_of_ble_eq_true rfl, Nat.le_of_ble_eq_true rfl⟩ dX12_talk_23 (fun r14 u15 H locs hp13 h => ?_)
      have h : xS D cy A s.heap ([(((u 2)), .inl (cy 1, 4, .inl (upd (upd (upd (upd (fun _ => 0) 0 (-1)) 1 (-1)) 2 (-1)) 3 (-1))))]) s H locs := h
      obtain rfl : r14 = (-1) := hp13
      exact x_iret F h hr hlk rfl (fun _ => 0) [] (rfl) (by decide +kernel) rfl (Nat.le_of_ble_eq_true rfl) (Nat.le_of_ble_eq_true rfl) dX12_talk_26
  · refine lv_iload_n F.1 F.2.1 dX12_talk_6 rfl (lv_at hl 2 rfl) ?_
    refine lv_iload_n F.1 F.2.1 dX12_talk_7 rfl (lv_at hl 3 rfl) ?_
    refine lv_bipush (v := 15) F.1 F.2.1 dX12_talk_8 (by decide) ?_
    refine x_Vi (wr := []) F h yk_X12_wrongLines mw_1183 mw_1184 mw_1185 (c_m_wrongLines l D cy q u 1 t n 15) [1, 0] [] 1 rfl rfl rfl rfl (by decide) rfl rfl hl.1 rfl (Nat.le_of_ble_eq_true rfl) ⟨Nat.le_of_ble_eq_true rfl, Nat.le_of_ble_eq_true rfl⟩ ⟨Nat.le_of_ble_eq_true rfl, Nat.le_of_ble_eq_true rfl⟩ dX12_talk_10 (fun r17 u18 H locs hp16 h => ?_)
    have h : xS D cy A s.heap ([(q, .inr (12, (.ref ((u 0)) :: .int 0 :: .long 0 :: .long 1 :: .ref ((u 1)) :: .ref ((u 2)) :: .ref ((u 3)) :: .ref ((u 4)) :: .ref ((u 5)) :: .int 0 :: .int 0 :: .int 0 :: .int 0 :: .int 0 :: .int 0 :: .int (-1) :: .int (-1) :: .int 0 :: .ref ((u 6)) :: .int 0 :: .int 0 :: .ref ((u 7)) :: .ref ((u 8)) :: .ref ((u 9)) :: .ref ((u 10)) :: .ref ((u 11)) :: .ref ((u 12)) :: .ref ((u 13)) :: .int 0 :: .int 0 :: .int (-1) :: .int 0 :: .int (-1) :: .int 0 :: .ref ((u 14)) :: .int 0 :: .int 0 :: .int 0 :: .int 0 :: .int 0 :: .ref ((u 15)) :: .ref ((u 16)) :: .int 0 :: .int (-1) :: .int 0 :: .int 0 :: .int 0 :: .int 0 :: .ref ((u 17)) :: .ref ((u 18)) :: .ref ((u 19)) :: .int 0 :: .ref ((u 20)) :: .ref ((u 21)) :: .int 0 :: .ref ((u 22)) :: .int (-1) :: .int 0 :: .ref ((u 23)) :: .int (-1) :: .int (-1) :: .int 0 :: .ref ((u 24)) :: .ref ((u 25)) :: .int 0 :: []))), (((u 2)), .inl (cy 1, 4, .inl (upd (upd (upd (upd (fun _ => 0) 0 (-1)) 1 (-1)) 2 (-1)) 3 (-1))))]) s H locs := h
    rcases hp16 with rfl | rfl
    · refine lv_istore (lv' := [(4, .int 1), (0, .ref q), (1, .int sc), (2, .int t), (3, .int n)]) F.1 F.2.1 dX12_talk_13 hl (by decide) rfl (fun ls hl => ?_)
      refine lv_iload F.1 F.2.1 dX12_talk_15 (lv_at hl 0 rfl) ?_
      refine lv_if_le (tgt := 27) F.1 F.2.1 dX12_talk_17 (by decide) (fun hc => absurd hc (by decide)) (fun _ => ?_)
      refine lv_aload_n F.1 F.2.1 dX12_talk_20 rfl (lv_at hl 1 rfl) ?_
      refine lv_iload F.1 F.2.1 dX12_talk_21 (lv_at hl 0 rfl) ?_
      refine x_Vi (wr := [(((u 2)), .inl (cy 1, 4, .inl (upd (upd (upd (upd (fun _ => 0) 0 (-1)) 1 (-1)) 2 (-1)) 3 (-1))))]) F h yk_X12_refuse mw_452 mw_453 mw_454 (c_m_refuse l D cy q ((.ref ((u 0)) :: .int 0 :: .long 0 :: .long 1 :: .ref ((u 1)) :: .ref ((u 2)) :: .ref ((u 3)) :: .ref ((u 4)) :: .ref ((u 5)) :: .int 0 :: .int 0 :: .int 0 :: .int 0 :: .int 0 :: .int 0 :: .int (-1) :: .int (-1) :: .int 0 :: .ref ((u 6)) :: .int 0 :: .int 0 :: .ref ((u 7)) :: .ref ((u 8)) :: .ref ((u 9)) :: .ref ((u 10)) :: .ref ((u 11)) :: .ref ((u 12)) :: .ref ((u 13)) :: .int 0 :: .int 0 :: .int (-1) :: .int 0 :: .int (-1) :: .int 0 :: .ref ((u 14)) :: .int 0 :: .int 0 :: .int 0 :: .int 0 :: .int 0 :: .ref ((u 15)) :: .ref ((u 16)) :: .int 0 :: .int (-1) :: .int 0 :: .int 0 :: .int 0 :: .int 0 :: .ref ((u 17)) :: .ref ((u 18)) :: .ref ((u 19)) :: .int 0 :: .ref ((u 20)) :: .ref ((u 21)) :: .int 0 :: .ref ((u 22)) :: .int (-1) :: .int 0 :: .ref ((u 23)) :: .int (-1) :: .int (-1) :: .int 0 :: .ref ((u 24)) :: .ref ((u 25)) :: .int 0 :: [])) rfl 1) [0] [1] 0 rfl rfl rfl rfl (by decide) rfl rfl hl.1 rfl (Nat.le_of_ble_eq_true rfl) ⟨Nat.le_of_ble_eq_true rfl, Nat.le_of_ble_eq_true rfl⟩ ⟨Nat.le_of_ble_eq_true rfl, Nat.le_of_ble_eq_true rfl⟩ dX12_talk_23 (fun r20 u21 H locs hp19 h => ?_)
      have h : xS D cy A s.heap ([(((u 2)), .inl (cy 1, 4, .inl (upd (upd (upd (upd (fun _ => 0) 0 (-1)) 1 (-1)) 2 (-1)) 3 (-1))))]) s H locs := h
      obtain rfl : r20 = (-1) := hp19
      exact x_iret F h hr hlk rfl (fun _ => 0) [] (rfl) (by decide +kernel) rfl (Nat.le_of_ble_eq_true rfl) (Nat.le_of_ble_eq_true rfl) dX12_talk_26
    · refine lv_istore (lv' := [(4, .int 2), (0, .ref q), (1, .int sc), (2, .int t), (3, .int n)]) F.1 F.2.1 dX12_talk_13 hl (by decide) rfl (fun ls hl => ?_)
      refine lv_iload F.1 F.2.1 dX12_talk_15 (lv_at hl 0 rfl) ?_
      refine lv_if_le (tgt := 27) F.1 F.2.1 dX12_talk_17 (by decide) (fun hc => absurd hc (by decide)) (fun _ => ?_)
      refine lv_aload_n F.1 F.2.1 dX12_talk_20 rfl (lv_at hl 1 rfl) ?_
      refine lv_iload F.1 F.2.1 dX12_talk_21 (lv_at hl 0 rfl) ?_
      refine x_Vi (wr := [(((u 2)), .inl (cy 1, 4, .inl (upd (upd (upd (upd (fun _ => 0) 0 (-1)) 1 (-1)) 2 (-1)) 3 (-1))))]) F h yk_X12_refuse mw_452 mw_453 mw_454 (c_m_refuse l D cy q ((.ref ((u 0)) :: .int 0 :: .long 0 :: .long 1 :: .ref ((u 1)) :: .ref ((u 2)) :: .ref ((u 3)) :: .ref ((u 4)) :: .ref ((u 5)) :: .int 0 :: .int 0 :: .int 0 :: .int 0 :: .int 0 :: .int 0 :: .int (-1) :: .int (-1) :: .int 0 :: .ref ((u 6)) :: .int 0 :: .int 0 :: .ref ((u 7)) :: .ref ((u 8)) :: .ref ((u 9)) :: .ref ((u 10)) :: .ref ((u 11)) :: .ref ((u 12)) :: .ref ((u 13)) :: .int 0 :: .int 0 :: .int (-1) :: .int 0 :: .int (-1) :: .int 0 :: .ref ((u 14)) :: .int 0 :: .int 0 :: .int 0 :: .int 0 :: .int 0 :: .ref ((u 15)) :: .ref ((u 16)) :: .int 0 :: .int (-1) :: .int 0 :: .int 0 :: .int 0 :: .int 0 :: .ref ((u 17)) :: .ref ((u 18)) :: .ref ((u 19)) :: .int 0 :: .ref ((u 20)) :: .ref ((u 21)) :: .int 0 :: .ref ((u 22)) :: .int (-1) :: .int 0 :: .ref ((u 23)) :: .int (-1) :: .int (-1) :: .int 0 :: .ref ((u 24)) :: .ref ((u 25)) :: .int 0 :: [])) rfl 2) [0] [1] 0 rfl rfl rfl rfl (by decide) rfl rfl hl.1 rfl (Nat.le_of_ble_eq_true rfl) ⟨Nat.le_of_ble_eq_true rfl, Nat.le_of_ble_eq_true rfl⟩ ⟨Nat.le_of_ble_eq_true rfl, Nat.le_of_ble_eq_true rfl⟩ dX12_talk_23 (fun r23 u24 H locs hp22 h => ?_)
      have h : xS D cy A s.heap ([(((u 2)), .inl (cy 1, 4, .inl (upd (upd (upd (upd (fun _ => 0) 0 (-1)) 1 (-1)) 2 (-1)) 3 (-1))))]) s H locs := h
      obtain rfl : r23 = (-1) := hp22
      exact x_iret F h hr hlk rfl (fun _ => 0) [] (rfl) (by decide +kernel) rfl (Nat.le_of_ble_eq_true rfl) (Nat.le_of_ble_eq_true rfl) dX12_talk_26
set_option maxHeartbeats 4000000 in
set_option maxRecDepth 100000 in
theorem c_m_lead (l : Launch) (D : va_G) (cy : Nat → ClassId) (q : Nat) (u : Nat → Nat) (sc : Int32) (t : Int32) (n : Int32) (k : Int32) : ∀ sz, Met l yX12_lead (Cond.code yX12_lead cX12_lead 11 (some .int) :: wsL_law) { frames := 2, cells := 0, slots := 0, locals := 46 } (va_Pc [.ref q, .int sc, .int t, .int n, .int k] (xP D cy ([mM q u 0 0 0 (-1) 0, mA_at cy u, mA_trayMany cy u]) sz)) (va_Qi (fun r _ => r = (-1)) (xB D (va_A ([mM q u 0 0 0 (-1) 0, mA_at cy u, mA_trayMany cy u]) sz) (fun _ => [])) (va_A ([mM q u 0 0 0 (-1) 0, mA_at cy u, mA_trayMany cy u]) sz)) 0 0 (va_A ([mM q u 0 0 0 (-1) 0, mA_at cy u, mA_trayMany cy u]) sz) := by
  refine x_enter (fun A => va_Qi (fun r _ => r = (-1)) (xB D A (fun _ => [])) A) (by decide +kernel) rfl (Nat.le_of_ble_eq_true rfl) ?_
  intro p e s m below meth c A ls F hr hlk hin h hl
  have hl : lv_has ls 11 [(0, .ref q), (1, .int sc), (2, .int t), (3, .int n), (4, .int k)] := hl
  have h : xS D cy A s.heap ([(q, .inr (12, (.ref ((u 0)) :: .int 0 :: .long 0 :: .long 1 :: .ref ((u 1)) :: .ref ((u 2)) :: .ref ((u 3)) :: .ref ((u 4)) :: .ref ((u 5)) :: .int 0 :: .int 0 :: .int 0 :: .int 0 :: .int 0 :: .int 0 :: .int (-1) :: .int (-1) :: .int 0 :: .ref ((u 6)) :: .int 0 :: .int 0 :: .ref ((u 7)) :: .ref ((u 8)) :: .ref ((u 9)) :: .ref ((u 10)) :: .ref ((u 11)) :: .ref ((u 12)) :: .ref ((u 13)) :: .int 0 :: .int 0 :: .int (-1) :: .int 0 :: .int (-1) :: .int 0 :: .ref ((u 14)) :: .int 0 :: .int 0 :: .int 0 :: .int 0 :: .int 0 :: .ref ((u 15)) :: .ref ((u 16)) :: .int 0 :: .int (-1) :: .int 0 :: .int 0 :: .int 0 :: .int 0 :: .ref ((u 17)) :: .ref ((u 18)) :: .ref ((u 19)) :: .int 0 :: .ref ((u 20)) :: .ref ((u 21)) :: .int 0 :: .ref ((u 22)) :: .int (-1) :: .int 0 :: .ref ((u 23)) :: .int (-1) :: .int (-1) :: .int 0 :: .ref ((u 24)) :: .ref ((u 25)) :: .int 0 :: []))), (((u 0)), .inl (cy 2, 25710, .inr (.inl (fun _ => 0)))), (((u 2)), .inl (cy 1, 4, .inl (upd (upd (upd (upd (fun _ => 0) 0 (-1)) 1 (-1)) 2 (-1)) 3 (-1))))]) s s.heap [] := h
  refine lv_aload_n F.1 F.2.1 dX12_lead_0 rfl (lv_at hl 0 rfl) ?_
  refine lv_aload_n F.1 F.2.1 dX12_lead_1 rfl (lv_at hl 0 rfl) ?_
  refine lv_iload_n F.1 F.2.1 dX12_lead_2 rfl (lv_at hl 1 rfl) ?_
  refine x_Vi (wr := [(((u 0)), .inl (cy 2, 25710, .inr (.inl (fun _ => 0)))), (((u 2)), .inl (cy 1, 4, .inl (upd (upd (upd (upd (fun _ => 0) 0 (-1)) 1 (-1)) 2 (-1)) 3 (-1))))]) F h yk_X12_isScript mw_635 mw_636 mw_637 (c_m_isScript l D cy q ((.ref ((u 0)) :: .int 0 :: .long 0 :: .long 1 :: .ref ((u 1)) :: .ref ((u 2)) :: .ref ((u 3)) :: .ref ((u 4)) :: .ref ((u 5)) :: .int 0 :: .int 0 :: .int 0 :: .int 0 :: .int 0 :: .int 0 :: .int (-1) :: .int (-1) :: .int 0 :: .ref ((u 6)) :: .int 0 :: .int 0 :: .ref ((u 7)) :: .ref ((u 8)) :: .ref ((u 9)) :: .ref ((u 10)) :: .ref ((u 11)) :: .ref ((u 12)) :: .ref ((u 13)) :: .int 0 :: .int 0 :: .int (-1) :: .int 0 :: .int (-1) :: .int 0 :: .ref ((u 14)) :: .int 0 :: .int 0 :: .int 0 :: .int 0 :: .int 0 :: .ref ((u 15)) :: .ref ((u 16)) :: .int 0 :: .int (-1) :: .int 0 :: .int 0 :: .int 0 :: .int 0 :: .ref ((u 17)) :: .ref ((u 18)) :: .ref ((u 19)) :: .int 0 :: .ref ((u 20)) :: .ref ((u 21)) :: .int 0 :: .ref ((u 22)) :: .int (-1) :: .int 0 :: .ref ((u 23)) :: .int (-1) :: .int (-1) :: .int 0 :: .ref ((u 24)) :: .ref ((u 25)) :: .int 0 :: [])) sc) [0] [1, 2] 0 rfl rfl rfl rfl (by decide) rfl rfl hl.1 rfl (Nat.le_of_ble_eq_true rfl) ⟨Nat.le_of_ble_eq_true rfl, Nat.le_of_ble_eq_true rfl⟩ ⟨Nat.le_of_ble_eq_true rfl, Nat.le_of_ble_eq_true rfl⟩ dX12_lead_3 (fun r2 u3 H locs hp1 h => ?_)
  have h : xS D cy A s.heap ([(((u 0)), .inl (cy 2, 25710, .inr (.inl (fun _ => 0)))), (((u 2)), .inl (cy 1, 4, .inl (upd (upd (upd (upd (fun _ => 0) 0 (-1)) 1 (-1)) 2 (-1)) 3 (-1)))), (q, .inr (12, (.ref ((u 0)) :: .int 0 :: .long 0 :: .long 1 :: .ref ((u 1)) :: .ref ((u 2)) :: .ref ((u 3)) :: .ref ((u 4)) :: .ref ((u 5)) :: .int 0 :: .int 0 :: .int 0 :: .int 0 :: .int 0 :: .int 0 :: .int (-1) :: .int (-1) :: .int 0 :: .ref ((u 6)) :: .int 0 :: .int 0 :: .ref ((u 7)) :: .ref ((u 8)) :: .ref ((u 9)) :: .ref ((u 10)) :: .ref ((u 11)) :: .ref ((u 12)) :: .ref ((u 13)) :: .int 0 :: .int 0 :: .int (-1) :: .int 0 :: .int (-1) :: .int 0 :: .ref ((u 14)) :: .int 0 :: .int 0 :: .int 0 :: .int 0 :: .int 0 :: .ref ((u 15)) :: .ref ((u 16)) :: .int 0 :: .int (-1) :: .int 0 :: .int 0 :: .int 0 :: .int 0 :: .ref ((u 17)) :: .ref ((u 18)) :: .ref ((u 19)) :: .int 0 :: .ref ((u 20)) :: .ref ((u 21)) :: .int 0 :: .ref ((u 22)) :: .int (-1) :: .int 0 :: .ref ((u 23)) :: .int (-1) :: .int (-1) :: .int 0 :: .ref ((u 24)) :: .ref ((u 25)) :: .int 0 :: [])))]) s H locs := h
  rcases x_tr (n := 3) hp1 with ⟨rfl, ht4⟩ | ⟨rfl, ht5, ht6⟩
  · refine lv_if_eq (tgt := 23) F.1 F.2.1 dX12_lead_6 (by decide) (fun _ => ?_) (fun hc => absurd (by decide) hc)
    refine lv_iconst (v := 0) F.1 F.2.1 dX12_lead_23 (by decide) ?_
    refine lv_iload_n F.1 F.2.1 dX12_lead_24 rfl (lv_at hl 2 rfl) ?_
    refine lv_iload_n F.1 F.2.1 dX12_lead_25 rfl (lv_at hl 3 rfl) ?_
    refine lv_bipush (v := 6) F.1 F.2.1 dX12_lead_26 (by decide) ?_
    refine x_Vi (wr := [(((u 0)), .inl (cy 2, 25710, .inr (.inl (fun _ => 0))))]) F h yk_X12_wrongLines mw_1183 mw_1184 mw_1185 (c_m_wrongLines l D cy q u 0 t n 6) [2, 1] [0] 2 rfl rfl rfl rfl (by decide) rfl rfl hl.1 rfl (Nat.le_of_ble_eq_true rfl) ⟨Nat.le_of_ble_eq_true rfl, Nat.le_of_ble_eq_true rfl⟩ ⟨Nat.le_of_ble_eq_true rfl, Nat.le_of_ble_eq_true rfl⟩ dX12_lead_28 (fun r8 u9 H locs hp7 h => ?_)
    have h : xS D cy A s.heap ([(((u 0)), .inl (cy 2, 25710, .inr (.inl (fun _ => 0)))), (q, .inr (12, (.ref ((u 0)) :: .int 0 :: .long 0 :: .long 1 :: .ref ((u 1)) :: .ref ((u 2)) :: .ref ((u 3)) :: .ref ((u 4)) :: .ref ((u 5)) :: .int 0 :: .int 0 :: .int 0 :: .int 0 :: .int 0 :: .int 0 :: .int (-1) :: .int (-1) :: .int 0 :: .ref ((u 6)) :: .int 0 :: .int 0 :: .ref ((u 7)) :: .ref ((u 8)) :: .ref ((u 9)) :: .ref ((u 10)) :: .ref ((u 11)) :: .ref ((u 12)) :: .ref ((u 13)) :: .int 0 :: .int 0 :: .int (-1) :: .int 0 :: .int (-1) :: .int 0 :: .ref ((u 14)) :: .int 0 :: .int 0 :: .int 0 :: .int 0 :: .int 0 :: .ref ((u 15)) :: .ref ((u 16)) :: .int 0 :: .int (-1) :: .int 0 :: .int 0 :: .int 0 :: .int 0 :: .ref ((u 17)) :: .ref ((u 18)) :: .ref ((u 19)) :: .int 0 :: .ref ((u 20)) :: .ref ((u 21)) :: .int 0 :: .ref ((u 22)) :: .int (-1) :: .int 0 :: .ref ((u 23)) :: .int (-1) :: .int (-1) :: .int 0 :: .ref ((u 24)) :: .ref ((u 25)) :: .int 0 :: []))), (((u 2)), .inl (cy 1, 4, .inl (upd (upd (upd (upd (fun _ => 0) 0 (-1)) 1 (-1)) 2 (-1)) 3 (-1))))]) s H locs := h
    rcases hp7 with rfl | rfl
    · refine lv_istore (lv' := [(5, .int 1), (0, .ref q), (1, .int sc), (2, .int t), (3, .int n), (4, .int k)]) F.1 F.2.1 dX12_lead_31 hl (by decide) rfl (fun ls hl => ?_)
      refine lv_iload F.1 F.2.1 dX12_lead_33 (lv_at hl 0 rfl) ?_
      refine lv_if_le (tgt := 45) F.1 F.2.1 dX12_lead_35 (by decide) (fun hc => absurd hc (by decide)) (fun _ => ?_)
      refine lv_aload_n F.1 F.2.1 dX12_lead_38 rfl (lv_at hl 1 rfl) ?_
      refine lv_iload F.1 F.2.1 dX12_lead_39 (lv_at hl 0 rfl) ?_
      refine x_Vi (wr := [(((u 0)), .inl (cy 2, 25710, .inr (.inl (fun _ => 0)))), (((u 2)), .inl (cy 1, 4, .inl (upd (upd (upd (upd (fun _ => 0) 0 (-1)) 1 (-1)) 2 (-1)) 3 (-1))))]) F h yk_X12_refuse mw_452 mw_453 mw_454 (c_m_refuse l D cy q ((.ref ((u 0)) :: .int 0 :: .long 0 :: .long 1 :: .ref ((u 1)) :: .ref ((u 2)) :: .ref ((u 3)) :: .ref ((u 4)) :: .ref ((u 5)) :: .int 0 :: .int 0 :: .int 0 :: .int 0 :: .int 0 :: .int 0 :: .int (-1) :: .int (-1) :: .int 0 :: .ref ((u 6)) :: .int 0 :: .int 0 :: .ref ((u 7)) :: .ref ((u 8)) :: .ref ((u 9)) :: .ref ((u 10)) :: .ref ((u 11)) :: .ref ((u 12)) :: .ref ((u 13)) :: .int 0 :: .int 0 :: .int (-1) :: .int 0 :: .int (-1) :: .int 0 :: .ref ((u 14)) :: .int 0 :: .int 0 :: .int 0 :: .int 0 :: .int 0 :: .ref ((u 15)) :: .ref ((u 16)) :: .int 0 :: .int (-1) :: .int 0 :: .int 0 :: .int 0 :: .int 0 :: .ref ((u 17)) :: .ref ((u 18)) :: .ref ((u 19)) :: .int 0 :: .ref ((u 20)) :: .ref ((u 21)) :: .int 0 :: .ref ((u 22)) :: .int (-1) :: .int 0 :: .ref ((u 23)) :: .int (-1) :: .int (-1) :: .int 0 :: .ref ((u 24)) :: .ref ((u 25)) :: .int 0 :: [])) rfl 1) [1] [0, 2] 1 rfl rfl rfl rfl (by decide) rfl rfl hl.1 rfl (Nat.le_of_ble_eq_true rfl) ⟨Nat.le_of_ble_eq_true rfl, Nat.le_of_ble_eq_true rfl⟩ ⟨Nat.le_of_ble_eq_true rfl, Nat.le_of_ble_eq_true rfl⟩ dX12_lead_41 (fun r11 u12 H locs hp10 h => ?_)
      have h : xS D cy A s.heap ([(((u 0)), .inl (cy 2, 25710, .inr (.inl (fun _ => 0)))), (((u 2)), .inl (cy 1, 4, .inl (upd (upd (upd (upd (fun _ => 0) 0 (-1)) 1 (-1)) 2 (-1)) 3 (-1))))]) s H locs := h
      obtain rfl : r11 = (-1) := hp10
      exact x_iret F h hr hlk rfl (fun _ => 0) [] (rfl) (by decide +kernel) rfl (Nat.le_of_ble_eq_true rfl) (Nat.le_of_ble_eq_true rfl) dX12_lead_44
    · refine lv_istore (lv' := [(5, .int 2), (0, .ref q), (1, .int sc), (2, .int t), (3, .int n), (4, .int k)]) F.1 F.2.1 dX12_lead_31 hl (by decide) rfl (fun ls hl => ?_)
      refine lv_iload F.1 F.2.1 dX12_lead_33 (lv_at hl 0 rfl) ?_
      refine lv_if_le (tgt := 45) F.1 F.2.1 dX12_lead_35 (by decide) (fun hc => absurd hc (by decide)) (fun _ => ?_)
      refine lv_aload_n F.1 F.2.1 dX12_lead_38 rfl (lv_at hl 1 rfl) ?_
      refine lv_iload F.1 F.2.1 dX12_lead_39 (lv_at hl 0 rfl) ?_
      refine x_Vi (wr := [(((u 0)), .inl (cy 2, 25710, .inr (.inl (fun _ => 0)))), (((u 2)), .inl (cy 1, 4, .inl (upd (upd (upd (upd (fun _ => 0) 0 (-1)) 1 (-1)) 2 (-1)) 3 (-1))))]) F h yk_X12_refuse mw_452 mw_453 mw_454 (c_m_refuse l D cy q ((.ref ((u 0)) :: .int 0 :: .long 0 :: .long 1 :: .ref ((u 1)) :: .ref ((u 2)) :: .ref ((u 3)) :: .ref ((u 4)) :: .ref ((u 5)) :: .int 0 :: .int 0 :: .int 0 :: .int 0 :: .int 0 :: .int 0 :: .int (-1) :: .int (-1) :: .int 0 :: .ref ((u 6)) :: .int 0 :: .int 0 :: .ref ((u 7)) :: .ref ((u 8)) :: .ref ((u 9)) :: .ref ((u 10)) :: .ref ((u 11)) :: .ref ((u 12)) :: .ref ((u 13)) :: .int 0 :: .int 0 :: .int (-1) :: .int 0 :: .int (-1) :: .int 0 :: .ref ((u 14)) :: .int 0 :: .int 0 :: .int 0 :: .int 0 :: .int 0 :: .ref ((u 15)) :: .ref ((u 16)) :: .int 0 :: .int (-1) :: .int 0 :: .int 0 :: .int 0 :: .int 0 :: .ref ((u 17)) :: .ref ((u 18)) :: .ref ((u 19)) :: .int 0 :: .ref ((u 20)) :: .ref ((u 21)) :: .int 0 :: .ref ((u 22)) :: .int (-1) :: .int 0 :: .ref ((u 23)) :: .int (-1) :: .int (-1) :: .int 0 :: .ref ((u 24)) :: .ref ((u 25)) :: .int 0 :: [])) rfl 2) [1] [0, 2] 1 rfl rfl rfl rfl (by decide) rfl rfl hl.1 rfl (Nat.le_of_ble_eq_true rfl) ⟨Nat.le_of_ble_eq_true rfl, Nat.le_of_ble_eq_true rfl⟩ ⟨Nat.le_of_ble_eq_true rfl, Nat.le_of_ble_eq_true rfl⟩ dX12_lead_41 (fun r14 u15 H locs hp13 h => ?_)
      have h : xS D cy A s.heap ([(((u 0)), .inl (cy 2, 25710, .inr (.inl (fun _ => 0)))), (((u 2)), .inl (cy 1, 4, .inl (upd (upd (upd (upd (fun _ => 0) 0 (-1)) 1 (-1)) 2 (-1)) 3 (-1))))]) s H locs := h
      obtain rfl : r14 = (-1) := hp13
      exact x_iret F h hr hlk rfl (fun _ => 0) [] (rfl) (by decide +kernel) rfl (Nat.le_of_ble_eq_true rfl) (Nat.le_of_ble_eq_true rfl) dX12_lead_44
  · refine lv_if_eq (tgt := 23) F.1 F.2.1 dX12_lead_6 (by decide) (fun hc => absurd hc (by decide)) (fun _ => ?_)
    refine lv_aload_n F.1 F.2.1 dX12_lead_9 rfl (lv_at hl 0 rfl) ?_
    refine lv_iload F.1 F.2.1 dX12_lead_10 (lv_at hl 4 rfl) ?_
    refine lv_i2l (v := k.toInt64) F.1 F.2.1 dX12_lead_12 rfl ?_
    refine x_Vi (wr := [(((u 2)), .inl (cy 1, 4, .inl (upd (upd (upd (upd (fun _ => 0) 0 (-1)) 1 (-1)) 2 (-1)) 3 (-1))))]) F h yk_X12_isLine mw_797 mw_798 mw_799 (c_m_isLine l D cy q u k.toInt64) [2, 0] [1] 2 rfl rfl rfl rfl (by decide) rfl rfl hl.1 rfl (Nat.le_of_ble_eq_true rfl) ⟨Nat.le_of_ble_eq_true rfl, Nat.le_of_ble_eq_true rfl⟩ ⟨Nat.le_of_ble_eq_true rfl, Nat.le_of_ble_eq_true rfl⟩ dX12_lead_13 (fun r17 u18 H locs hp16 h => ?_)
    have h : xS D cy A s.heap ([(((u 2)), .inl (cy 1, 4, .inl (upd (upd (upd (upd (fun _ => 0) 0 (-1)) 1 (-1)) 2 (-1)) 3 (-1)))), (q, .inr (12, (.ref ((u 0)) :: .int 0 :: .long 0 :: .long 1 :: .ref ((u 1)) :: .ref ((u 2)) :: .ref ((u 3)) :: .ref ((u 4)) :: .ref ((u 5)) :: .int 0 :: .int 0 :: .int 0 :: .int 0 :: .int 0 :: .int 0 :: .int (-1) :: .int (-1) :: .int 0 :: .ref ((u 6)) :: .int 0 :: .int 0 :: .ref ((u 7)) :: .ref ((u 8)) :: .ref ((u 9)) :: .ref ((u 10)) :: .ref ((u 11)) :: .ref ((u 12)) :: .ref ((u 13)) :: .int 0 :: .int 0 :: .int (-1) :: .int 0 :: .int (-1) :: .int 0 :: .ref ((u 14)) :: .int 0 :: .int 0 :: .int 0 :: .int 0 :: .int 0 :: .ref ((u 15)) :: .ref ((u 16)) :: .int 0 :: .int (-1) :: .int 0 :: .int 0 :: .int 0 :: .int 0 :: .ref ((u 17)) :: .ref ((u 18)) :: .ref ((u 19)) :: .int 0 :: .ref ((u 20)) :: .ref ((u 21)) :: .int 0 :: .ref ((u 22)) :: .int (-1) :: .int 0 :: .ref ((u 23)) :: .int (-1) :: .int (-1) :: .int 0 :: .ref ((u 24)) :: .ref ((u 25)) :: .int 0 :: []))), (((u 0)), .inl (cy 2, 25710, .inr (.inl (fun _ => 0))))]) s H locs := h
    obtain rfl : r17 = 0 := hp16
    refine lv_if_eq (tgt := 23) F.1 F.2.1 dX12_lead_16 (by decide) (fun _ => ?_) (fun hc => absurd (by decide) hc)
    refine lv_iconst (v := 0) F.1 F.2.1 dX12_lead_23 (by decide) ?_
    refine lv_iload_n F.1 F.2.1 dX12_lead_24 rfl (lv_at hl 2 rfl) ?_
    refine lv_iload_n F.1 F.2.1 dX12_lead_25 rfl (lv_at hl 3 rfl) ?_
    refine lv_bipush (v := 6) F.1 F.2.1 dX12_lead_26 (by decide) ?_
    refine x_Vi (wr := [(((u 0)), .inl (cy 2, 25710, .inr (.inl (fun _ => 0))))]) F h yk_X12_wrongLines mw_1183 mw_1184 mw_1185 (c_m_wrongLines l D cy q u 0 t n 6) [1, 0] [2] 1 rfl rfl rfl rfl (by decide) rfl rfl hl.1 rfl (Nat.le_of_ble_eq_true rfl) ⟨Nat.le_of_ble_eq_true rfl, Nat.le_of_ble_eq_true rfl⟩ ⟨Nat.le_of_ble_eq_true rfl, Nat.le_of_ble_eq_true rfl⟩ dX12_lead_28 (fun r20 u21 H locs hp19 h => ?_)
    have h : xS D cy A s.heap ([(((u 0)), .inl (cy 2, 25710, .inr (.inl (fun _ => 0)))), (q, .inr (12, (.ref ((u 0)) :: .int 0 :: .long 0 :: .long 1 :: .ref ((u 1)) :: .ref ((u 2)) :: .ref ((u 3)) :: .ref ((u 4)) :: .ref ((u 5)) :: .int 0 :: .int 0 :: .int 0 :: .int 0 :: .int 0 :: .int 0 :: .int (-1) :: .int (-1) :: .int 0 :: .ref ((u 6)) :: .int 0 :: .int 0 :: .ref ((u 7)) :: .ref ((u 8)) :: .ref ((u 9)) :: .ref ((u 10)) :: .ref ((u 11)) :: .ref ((u 12)) :: .ref ((u 13)) :: .int 0 :: .int 0 :: .int (-1) :: .int 0 :: .int (-1) :: .int 0 :: .ref ((u 14)) :: .int 0 :: .int 0 :: .int 0 :: .int 0 :: .int 0 :: .ref ((u 15)) :: .ref ((u 16)) :: .int 0 :: .int (-1) :: .int 0 :: .int 0 :: .int 0 :: .int 0 :: .ref ((u 17)) :: .ref ((u 18)) :: .ref ((u 19)) :: .int 0 :: .ref ((u 20)) :: .ref ((u 21)) :: .int 0 :: .ref ((u 22)) :: .int (-1) :: .int 0 :: .ref ((u 23)) :: .int (-1) :: .int (-1) :: .int 0 :: .ref ((u 24)) :: .ref ((u 25)) :: .int 0 :: []))), (((u 2)), .inl (cy 1, 4, .inl (upd (upd (upd (upd (fun _ => 0) 0 (-1)) 1 (-1)) 2 (-1)) 3 (-1))))]) s H locs := h
    rcases hp19 with rfl | rfl
    · refine lv_istore (lv' := [(5, .int 1), (0, .ref q), (1, .int sc), (2, .int t), (3, .int n), (4, .int k)]) F.1 F.2.1 dX12_lead_31 hl (by decide) rfl (fun ls hl => ?_)
      refine lv_iload F.1 F.2.1 dX12_lead_33 (lv_at hl 0 rfl) ?_
      refine lv_if_le (tgt := 45) F.1 F.2.1 dX12_lead_35 (by decide) (fun hc => absurd hc (by decide)) (fun _ => ?_)
      refine lv_aload_n F.1 F.2.1 dX12_lead_38 rfl (lv_at hl 1 rfl) ?_
      refine lv_iload F.1 F.2.1 dX12_lead_39 (lv_at hl 0 rfl) ?_
      refine x_Vi (wr := [(((u 0)), .inl (cy 2, 25710, .inr (.inl (fun _ => 0)))), (((u 2)), .inl (cy 1, 4, .inl (upd (upd (upd (upd (fun _ => 0) 0 (-1)) 1 (-1)) 2 (-1)) 3 (-1))))]) F h yk_X12_refuse mw_452 mw_453 mw_454 (c_m_refuse l D cy q ((.ref ((u 0)) :: .int 0 :: .long 0 :: .long 1 :: .ref ((u 1)) :: .ref ((u 2)) :: .ref ((u 3)) :: .ref ((u 4)) :: .ref ((u 5)) :: .int 0 :: .int 0 :: .int 0 :: .int 0 :: .int 0 :: .int 0 :: .int (-1) :: .int (-1) :: .int 0 :: .ref ((u 6)) :: .int 0 :: .int 0 :: .ref ((u 7)) :: .ref ((u 8)) :: .ref ((u 9)) :: .ref ((u 10)) :: .ref ((u 11)) :: .ref ((u 12)) :: .ref ((u 13)) :: .int 0 :: .int 0 :: .int (-1) :: .int 0 :: .int (-1) :: .int 0 :: .ref ((u 14)) :: .int 0 :: .int 0 :: .int 0 :: .int 0 :: .int 0 :: .ref ((u 15)) :: .ref ((u 16)) :: .int 0 :: .int (-1) :: .int 0 :: .int 0 :: .int 0 :: .int 0 :: .ref ((u 17)) :: .ref ((u 18)) :: .ref ((u 19)) :: .int 0 :: .ref ((u 20)) :: .ref ((u 21)) :: .int 0 :: .ref ((u 22)) :: .int (-1) :: .int 0 :: .ref ((u 23)) :: .int (-1) :: .int (-1) :: .int 0 :: .ref ((u 24)) :: .ref ((u 25)) :: .int 0 :: [])) rfl 1) [1] [0, 2] 1 rfl rfl rfl rfl (by decide) rfl rfl hl.1 rfl (Nat.le_of_ble_eq_true rfl) ⟨Nat.le_of_ble_eq_true rfl, Nat.le_of_ble_eq_true rfl⟩ ⟨Nat.le_of_ble_eq_true rfl, Nat.le_of_ble_eq_true rfl⟩ dX12_lead_41 (fun r23 u24 H locs hp22 h => ?_)
      have h : xS D cy A s.heap ([(((u 0)), .inl (cy 2, 25710, .inr (.inl (fun _ => 0)))), (((u 2)), .inl (cy 1, 4, .inl (upd (upd (upd (upd (fun _ => 0) 0 (-1)) 1 (-1)) 2 (-1)) 3 (-1))))]) s H locs := h
      obtain rfl : r23 = (-1) := hp22
      exact x_iret F h hr hlk rfl (fun _ => 0) [] (rfl) (by decide +kernel) rfl (Nat.le_of_ble_eq_true rfl) (Nat.le_of_ble_eq_true rfl) dX12_lead_44
    · refine lv_istore (lv' := [(5, .int 2), (0, .ref q), (1, .int sc), (2, .int t), (3, .int n), (4, .int k)]) F.1 F.2.1 dX12_lead_31 hl (by decide) rfl (fun ls hl => ?_)
      refine lv_iload F.1 F.2.1 dX12_lead_33 (lv_at hl 0 rfl) ?_
      refine lv_if_le (tgt := 45) F.1 F.2.1 dX12_lead_35 (by decide) (fun hc => absurd hc (by decide)) (fun _ => ?_)
      refine lv_aload_n F.1 F.2.1 dX12_lead_38 rfl (lv_at hl 1 rfl) ?_
      refine lv_iload F.1 F.2.1 dX12_lead_39 (lv_at hl 0 rfl) ?_
      refine x_Vi (wr := [(((u 0)), .inl (cy 2, 25710, .inr (.inl (fun _ => 0)))), (((u 2)), .inl (cy 1, 4, .inl (upd (upd (upd (upd (fun _ => 0) 0 (-1)) 1 (-1)) 2 (-1)) 3 (-1))))]) F h yk_X12_refuse mw_452 mw_453 mw_454 (c_m_refuse l D cy q ((.ref ((u 0)) :: .int 0 :: .long 0 :: .long 1 :: .ref ((u 1)) :: .ref ((u 2)) :: .ref ((u 3)) :: .ref ((u 4)) :: .ref ((u 5)) :: .int 0 :: .int 0 :: .int 0 :: .int 0 :: .int 0 :: .int 0 :: .int (-1) :: .int (-1) :: .int 0 :: .ref ((u 6)) :: .int 0 :: .int 0 :: .ref ((u 7)) :: .ref ((u 8)) :: .ref ((u 9)) :: .ref ((u 10)) :: .ref ((u 11)) :: .ref ((u 12)) :: .ref ((u 13)) :: .int 0 :: .int 0 :: .int (-1) :: .int 0 :: .int (-1) :: .int 0 :: .ref ((u 14)) :: .int 0 :: .int 0 :: .int 0 :: .int 0 :: .int 0 :: .ref ((u 15)) :: .ref ((u 16)) :: .int 0 :: .int (-1) :: .int 0 :: .int 0 :: .int 0 :: .int 0 :: .ref ((u 17)) :: .ref ((u 18)) :: .ref ((u 19)) :: .int 0 :: .ref ((u 20)) :: .ref ((u 21)) :: .int 0 :: .ref ((u 22)) :: .int (-1) :: .int 0 :: .ref ((u 23)) :: .int (-1) :: .int (-1) :: .int 0 :: .ref ((u 24)) :: .ref ((u 25)) :: .int 0 :: [])) rfl 2) [1] [0, 2] 1 rfl rfl rfl rfl (by decide) rfl rfl hl.1 rfl (Nat.le_of_ble_eq_true rfl) ⟨Nat.le_of_ble_eq_true rfl, Nat.le_of_ble_eq_true rfl⟩ ⟨Nat.le_of_ble_eq_true rfl, Nat.le_of_ble_eq_true rfl⟩ dX12_lead_41 (fun r26 u27 H locs hp25 h => ?_)
      have h : xS D cy A s.heap ([(((u 0)), .inl (cy 2, 25710, .inr (.inl (fun _ => 0)))), (((u 2)), .inl (cy 1, 4, .inl (upd (upd (upd (upd (fun _ => 0) 0 (-1)) 1 (-1)) 2 (-1)) 3 (-1))))]) s H locs := h
      obtain rfl : r26 = (-1) := hp25
      exact x_iret F h hr hlk rfl (fun _ => 0) [] (rfl) (by decide +kernel) rfl (Nat.le_of_ble_eq_true rfl) (Nat.le_of_ble_eq_true rfl) dX12_lead_44
set_option maxHeartbeats 4000000 in
set_option maxRecDepth 100000 in
theorem c_m_ring (l : Launch) (D : va_G) (cy : Nat → ClassId) (q : Nat) (u : Nat → Nat) (k : Int32) : ∀ sz, Met l yX12_ring (Cond.code yX12_ring cX12_ring 2 (some .int) :: wsL_law) { frames := 1, cells := 0, slots := 0, locals := 21 } (va_Pc [.ref q, .int k] (xP D cy ([mM q u 0 0 0 (-1) 0]) sz)) (va_Qi (fun r _ => r = (-1)) (xB D (va_A ([mM q u 0 0 0 (-1) 0]) sz) (fun _ => [])) (va_A ([mM q u 0 0 0 (-1) 0]) sz)) 0 0 (va_A ([mM q u 0 0 0 (-1) 0]) sz) := by
  refine x_enter (fun A => va_Qi (fun r _ => r = (-1)) (xB D A (fun _ => [])) A) (by decide +kernel) rfl (Nat.le_of_ble_eq_true rfl) ?_
  intro p e s m below meth c A ls F hr hlk hin h hl
  have hl : lv_has ls 2 [(0, .ref q), (1, .int k)] := hl
  have h : xS D cy A s.heap ([(q, .inr (12, (.ref ((u 0)) :: .int 0 :: .long 0 :: .long 1 :: .ref ((u 1)) :: .ref ((u 2)) :: .ref ((u 3)) :: .ref ((u 4)) :: .ref ((u 5)) :: .int 0 :: .int 0 :: .int 0 :: .int 0 :: .int 0 :: .int 0 :: .int (-1) :: .int (-1) :: .int 0 :: .ref ((u 6)) :: .int 0 :: .int 0 :: .ref ((u 7)) :: .ref ((u 8)) :: .ref ((u 9)) :: .ref ((u 10)) :: .ref ((u 11)) :: .ref ((u 12)) :: .ref ((u 13)) :: .int 0 :: .int 0 :: .int (-1) :: .int 0 :: .int (-1) :: .int 0 :: .ref ((u 14)) :: .int 0 :: .int 0 :: .int 0 :: .int 0 :: .int 0 :: .ref ((u 15)) :: .ref ((u 16)) :: .int 0 :: .int (-1) :: .int 0 :: .int 0 :: .int 0 :: .int 0 :: .ref ((u 17)) :: .ref ((u 18)) :: .ref ((u 19)) :: .int 0 :: .ref ((u 20)) :: .ref ((u 21)) :: .int 0 :: .ref ((u 22)) :: .int (-1) :: .int 0 :: .ref ((u 23)) :: .int (-1) :: .int (-1) :: .int 0 :: .ref ((u 24)) :: .ref ((u 25)) :: .int 0 :: [])))]) s s.heap [] := h
  refine lv_iload_n F.1 F.2.1 dX12_ring_0 rfl (lv_at hl 1 rfl) ?_
  refine lv_if_lt (tgt := 9) F.1 F.2.1 dX12_ring_1 (by decide) (fun hc1 => ?_) (fun hc1 => ?_)
  · refine lv_aload_n F.1 F.2.1 dX12_ring_9 rfl (lv_at hl 0 rfl) ?_
    refine lv_iconst (v := 1) F.1 F.2.1 dX12_ring_10 (by decide) ?_
    refine x_Vi (wr := []) F h yk_X12_refuse mw_452 mw_453 mw_454 (c_m_refuse l D cy q ((.ref ((u 0)) :: .int 0 :: .long 0 :: .long 1 :: .ref ((u 1)) :: .ref ((u 2)) :: .ref ((u 3)) :: .ref ((u 4)) :: .ref ((u 5)) :: .int 0 :: .int 0 :: .int 0 :: .int 0 :: .int 0 :: .int 0 :: .int (-1) :: .int (-1) :: .int 0 :: .ref ((u 6)) :: .int 0 :: .int 0 :: .ref ((u 7)) :: .ref ((u 8)) :: .ref ((u 9)) :: .ref ((u 10)) :: .ref ((u 11)) :: .ref ((u 12)) :: .ref ((u 13)) :: .int 0 :: .int 0 :: .int (-1) :: .int 0 :: .int (-1) :: .int 0 :: .ref ((u 14)) :: .int 0 :: .int 0 :: .int 0 :: .int 0 :: .int 0 :: .ref ((u 15)) :: .ref ((u 16)) :: .int 0 :: .int (-1) :: .int 0 :: .int 0 :: .int 0 :: .int 0 :: .ref ((u 17)) :: .ref ((u 18)) :: .ref ((u 19)) :: .int 0 :: .ref ((u 20)) :: .ref ((u 21)) :: .int 0 :: .ref ((u 22)) :: .int (-1) :: .int 0 :: .ref ((u 23)) :: .int (-1) :: .int (-1) :: .int 0 :: .ref ((u 24)) :: .ref ((u 25)) :: .int 0 :: [])) rfl 1) [0] [] 0 rfl rfl rfl rfl (by decide) rfl rfl hl.1 rfl (Nat.le_of_ble_eq_true rfl) ⟨Nat.le_of_ble_eq_true rfl, Nat.le_of_ble_eq_true rfl⟩ ⟨Nat.le_of_ble_eq_true rfl, Nat.le_of_ble_eq_true rfl⟩ dX12_ring_11 (fun r3 u4 H locs hp2 h => ?_)
    have h : xS D cy A s.heap ([]) s H locs := h
    obtain rfl : r3 = (-1) := hp2
    exact x_iret F h hr hlk rfl (fun _ => 0) [] (rfl) (by decide +kernel) rfl (Nat.le_of_ble_eq_true rfl) (Nat.le_of_ble_eq_true rfl) dX12_ring_14
  · refine lv_iload_n F.1 F.2.1 dX12_ring_4 rfl (lv_at hl 1 rfl) ?_
    refine lv_iconst (v := 1) F.1 F.2.1 dX12_ring_5 (by decide) ?_
    refine lv_icmp_le (tgt := 15) F.1 F.2.1 dX12_ring_6 (by decide) (fun hc5 => ?_) (fun hc5 => ?_)
    · refine lv_aload_n F.1 F.2.1 dX12_ring_15 rfl (lv_at hl 0 rfl) ?_
      refine x_get F h 0 56 inlX12 rfl (by decide) mw_232 dX12_ring_16 rfl rfl ?_
      refine lv_iconst (v := (-1)) F.1 F.2.1 dX12_ring_19 (by decide) ?_
      refine lv_icmp_ne (tgt := 32) F.1 F.2.1 dX12_ring_20 (by decide) (fun hc => absurd hc (by decide)) (fun _ => ?_)
      refine lv_aload_n F.1 F.2.1 dX12_ring_23 rfl (lv_at hl 0 rfl) ?_
      refine lv_bipush (v := 6) F.1 F.2.1 dX12_ring_24 (by decide) ?_
      refine x_Vi (wr := []) F h yk_X12_refuse mw_452 mw_453 mw_454 (c_m_refuse l D cy q ((.ref ((u 0)) :: .int 0 :: .long 0 :: .long 1 :: .ref ((u 1)) :: .ref ((u 2)) :: .ref ((u 3)) :: .ref ((u 4)) :: .ref ((u 5)) :: .int 0 :: .int 0 :: .int 0 :: .int 0 :: .int 0 :: .int 0 :: .int (-1) :: .int (-1) :: .int 0 :: .ref ((u 6)) :: .int 0 :: .int 0 :: .ref ((u 7)) :: .ref ((u 8)) :: .ref ((u 9)) :: .ref ((u 10)) :: .ref ((u 11)) :: .ref ((u 12)) :: .ref ((u 13)) :: .int 0 :: .int 0 :: .int (-1) :: .int 0 :: .int (-1) :: .int 0 :: .ref ((u 14)) :: .int 0 :: .int 0 :: .int 0 :: .int 0 :: .int 0 :: .ref ((u 15)) :: .ref ((u 16)) :: .int 0 :: .int (-1) :: .int 0 :: .int 0 :: .int 0 :: .int 0 :: .ref ((u 17)) :: .ref ((u 18)) :: .ref ((u 19)) :: .int 0 :: .ref ((u 20)) :: .ref ((u 21)) :: .int 0 :: .ref ((u 22)) :: .int (-1) :: .int 0 :: .ref ((u 23)) :: .int (-1) :: .int (-1) :: .int 0 :: .ref ((u 24)) :: .ref ((u 25)) :: .int 0 :: [])) rfl 6) [0] [] 0 rfl rfl rfl rfl (by decide) rfl rfl hl.1 rfl (Nat.le_of_ble_eq_true rfl) ⟨Nat.le_of_ble_eq_true rfl, Nat.le_of_ble_eq_true rfl⟩ ⟨Nat.le_of_ble_eq_true rfl, Nat.le_of_ble_eq_true rfl⟩ dX12_ring_26 (fun r7 u8 H locs hp6 h => ?_)
      have h : xS D cy A s.heap ([]) s H locs := h
      obtain rfl : r7 = (-1) := hp6
      refine lv_goto (tgt := 51) F.1 F.2.1 dX12_ring_29 (by decide) ?_
      exact x_iret F h hr hlk rfl (fun _ => 0) [] (rfl) (by decide +kernel) rfl (Nat.le_of_ble_eq_true rfl) (Nat.le_of_ble_eq_true rfl) dX12_ring_51
    · refine lv_aload_n F.1 F.2.1 dX12_ring_9 rfl (lv_at hl 0 rfl) ?_
      refine lv_iconst (v := 1) F.1 F.2.1 dX12_ring_10 (by decide) ?_
      refine x_Vi (wr := []) F h yk_X12_refuse mw_452 mw_453 mw_454 (c_m_refuse l D cy q ((.ref ((u 0)) :: .int 0 :: .long 0 :: .long 1 :: .ref ((u 1)) :: .ref ((u 2)) :: .ref ((u 3)) :: .ref ((u 4)) :: .ref ((u 5)) :: .int 0 :: .int 0 :: .int 0 :: .int 0 :: .int 0 :: .int 0 :: .int (-1) :: .int (-1) :: .int 0 :: .ref ((u 6)) :: .int 0 :: .int 0 :: .ref ((u 7)) :: .ref ((u 8)) :: .ref ((u 9)) :: .ref ((u 10)) :: .ref ((u 11)) :: .ref ((u 12)) :: .ref ((u 13)) :: .int 0 :: .int 0 :: .int (-1) :: .int 0 :: .int (-1) :: .int 0 :: .ref ((u 14)) :: .int 0 :: .int 0 :: .int 0 :: .int 0 :: .int 0 :: .ref ((u 15)) :: .ref ((u 16)) :: .int 0 :: .int (-1) :: .int 0 :: .int 0 :: .int 0 :: .int 0 :: .ref ((u 17)) :: .ref ((u 18)) :: .ref ((u 19)) :: .int 0 :: .ref ((u 20)) :: .ref ((u 21)) :: .int 0 :: .ref ((u 22)) :: .int (-1) :: .int 0 :: .ref ((u 23)) :: .int (-1) :: .int (-1) :: .int 0 :: .ref ((u 24)) :: .ref ((u 25)) :: .int 0 :: [])) rfl 1) [0] [] 0 rfl rfl rfl rfl (by decide) rfl rfl hl.1 rfl (Nat.le_of_ble_eq_true rfl) ⟨Nat.le_of_ble_eq_true rfl, Nat.le_of_ble_eq_true rfl⟩ ⟨Nat.le_of_ble_eq_true rfl, Nat.le_of_ble_eq_true rfl⟩ dX12_ring_11 (fun r10 u11 H locs hp9 h => ?_)
      have h : xS D cy A s.heap ([]) s H locs := h
      obtain rfl : r10 = (-1) := hp9
      exact x_iret F h hr hlk rfl (fun _ => 0) [] (rfl) (by decide +kernel) rfl (Nat.le_of_ble_eq_true rfl) (Nat.le_of_ble_eq_true rfl) dX12_ring_14
set_option maxHeartbeats 4000000 in
set_option maxRecDepth 100000 in
theorem c_m_broke (l : Launch) (D : va_G) (cy : Nat → ClassId) (q : Nat) (u : Nat → Nat) (sc : Int32) (t : Int32) (n : Int32) : ∀ sz, Met l yX12_broke (Cond.code yX12_broke cX12_broke 5 (some .int) :: wsL_law) { frames := 2, cells := 0, slots := 0, locals := 46 } (va_Pc [.ref q, .int sc, .int t, .int n] (xP D cy ([mM q u 0 0 0 (-1) 0, mA_trayMany cy u]) sz)) (va_Qi (fun r _ => r = (-1)) (xB D (va_A ([mM q u 0 0 0 (-1) 0, mA_trayMany cy u]) sz) (fun _ => [])) (va_A ([mM q u 0 0 0 (-1) 0, mA_trayMany cy u]) sz)) 0 0 (va_A ([mM q u 0 0 0 (-1) 0, mA_trayMany cy u]) sz) := by
  refine x_enter (fun A => va_Qi (fun r _ => r = (-1)) (xB D A (fun _ => [])) A) (by decide +kernel) rfl (Nat.le_of_ble_eq_true rfl) ?_
  intro p e s m below meth c A ls F hr hlk hin h hl
  have hl : lv_has ls 5 [(0, .ref q), (1, .int sc), (2, .int t), (3, .int n)] := hl
  have h : xS D cy A s.heap ([(q, .inr (12, (.ref ((u 0)) :: .int 0 :: .long 0 :: .long 1 :: .ref ((u 1)) :: .ref ((u 2)) :: .ref ((u 3)) :: .ref ((u 4)) :: .ref ((u 5)) :: .int 0 :: .int 0 :: .int 0 :: .int 0 :: .int 0 :: .int 0 :: .int (-1) :: .int (-1) :: .int 0 :: .ref ((u 6)) :: .int 0 :: .int 0 :: .ref ((u 7)) :: .ref ((u 8)) :: .ref ((u 9)) :: .ref ((u 10)) :: .ref ((u 11)) :: .ref ((u 12)) :: .ref ((u 13)) :: .int 0 :: .int 0 :: .int (-1) :: .int 0 :: .int (-1) :: .int 0 :: .ref ((u 14)) :: .int 0 :: .int 0 :: .int 0 :: .int 0 :: .int 0 :: .ref ((u 15)) :: .ref ((u 16)) :: .int 0 :: .int (-1) :: .int 0 :: .int 0 :: .int 0 :: .int 0 :: .ref ((u 17)) :: .ref ((u 18)) :: .ref ((u 19)) :: .int 0 :: .ref ((u 20)) :: .ref ((u 21)) :: .int 0 :: .ref ((u 22)) :: .int (-1) :: .int 0 :: .ref ((u 23)) :: .int (-1) :: .int (-1) :: .int 0 :: .ref ((u 24)) :: .ref ((u 25)) :: .int 0 :: []))), (((u 2)), .inl (cy 1, 4, .inl (upd (upd (upd (upd (fun _ => 0) 0 (-1)) 1 (-1)) 2 (-1)) 3 (-1))))]) s s.heap [] := h
  refine lv_aload_n F.1 F.2.1 dX12_broke_0 rfl (lv_at hl 0 rfl) ?_
  refine lv_aload_n F.1 F.2.1 dX12_broke_1 rfl (lv_at hl 0 rfl) ?_
  refine lv_iload_n F.1 F.2.1 dX12_broke_2 rfl (lv_at hl 1 rfl) ?_
  refine x_Vi (wr := [(((u 2)), .inl (cy 1, 4, .inl (upd (upd (upd (upd (fun _ => 0) 0 (-1)) 1 (-1)) 2 (-1)) 3 (-1))))]) F h yk_X12_isScript mw_635 mw_636 mw_637 (c_m_isScript l D cy q ((.ref ((u 0)) :: .int 0 :: .long 0 :: .long 1 :: .ref ((u 1)) :: .ref ((u 2)) :: .ref ((u 3)) :: .ref ((u 4)) :: .ref ((u 5)) :: .int 0 :: .int 0 :: .int 0 :: .int 0 :: .int 0 :: .int 0 :: .int (-1) :: .int (-1) :: .int 0 :: .ref ((u 6)) :: .int 0 :: .int 0 :: .ref ((u 7)) :: .ref ((u 8)) :: .ref ((u 9)) :: .ref ((u 10)) :: .ref ((u 11)) :: .ref ((u 12)) :: .ref ((u 13)) :: .int 0 :: .int 0 :: .int (-1) :: .int 0 :: .int (-1) :: .int 0 :: .ref ((u 14)) :: .int 0 :: .int 0 :: .int 0 :: .int 0 :: .int 0 :: .ref ((u 15)) :: .ref ((u 16)) :: .int 0 :: .int (-1) :: .int 0 :: .int 0 :: .int 0 :: .int 0 :: .ref ((u 17)) :: .ref ((u 18)) :: .ref ((u 19)) :: .int 0 :: .ref ((u 20)) :: .ref ((u 21)) :: .int 0 :: .ref ((u 22)) :: .int (-1) :: .int 0 :: .ref ((u 23)) :: .int (-1) :: .int (-1) :: .int 0 :: .ref ((u 24)) :: .ref ((u 25)) :: .int 0 :: [])) sc) [0] [1] 0 rfl rfl rfl rfl (by decide) rfl rfl hl.1 rfl (Nat.le_of_ble_eq_true rfl) ⟨Nat.le_of_ble_eq_true rfl, Nat.le_of_ble_eq_true rfl⟩ ⟨Nat.le_of_ble_eq_true rfl, Nat.le_of_ble_eq_true rfl⟩ dX12_broke_3 (fun r2 u3 H locs hp1 h => ?_)
  have h : xS D cy A s.heap ([(((u 2)), .inl (cy 1, 4, .inl (upd (upd (upd (upd (fun _ => 0) 0 (-1)) 1 (-1)) 2 (-1)) 3 (-1)))), (q, .inr (12, (.ref ((u 0)) :: .int 0 :: .long 0 :: .long 1 :: .ref ((u 1)) :: .ref ((u 2)) :: .ref ((u 3)) :: .ref ((u 4)) :: .ref ((u 5)) :: .int 0 :: .int 0 :: .int 0 :: .int 0 :: .int 0 :: .int 0 :: .int (-1) :: .int (-1) :: .int 0 :: .ref ((u 6)) :: .int 0 :: .int 0 :: .ref ((u 7)) :: .ref ((u 8)) :: .ref ((u 9)) :: .ref ((u 10)) :: .ref ((u 11)) :: .ref ((u 12)) :: .ref ((u 13)) :: .int 0 :: .int 0 :: .int (-1) :: .int 0 :: .int (-1) :: .int 0 :: .ref ((u 14)) :: .int 0 :: .int 0 :: .int 0 :: .int 0 :: .int 0 :: .ref ((u 15)) :: .ref ((u 16)) :: .int 0 :: .int (-1) :: .int 0 :: .int 0 :: .int 0 :: .int 0 :: .ref ((u 17)) :: .ref ((u 18)) :: .ref ((u 19)) :: .int 0 :: .ref ((u 20)) :: .ref ((u 21)) :: .int 0 :: .ref ((u 22)) :: .int (-1) :: .int 0 :: .ref ((u 23)) :: .int (-1) :: .int (-1) :: .int 0 :: .ref ((u 24)) :: .ref ((u 25)) :: .int 0 :: [])))]) s H locs := h
  rcases x_tr (n := 3) hp1 with ⟨rfl, ht4⟩ | ⟨rfl, ht5, ht6⟩
  · refine lv_iload_n F.1 F.2.1 dX12_broke_6 rfl (lv_at hl 2 rfl) ?_
    refine lv_iload_n F.1 F.2.1 dX12_broke_7 rfl (lv_at hl 3 rfl) ?_
    refine lv_bipush (v := 16) F.1 F.2.1 dX12_broke_8 (by decide) ?_
    refine x_Vi (wr := []) F h yk_X12_wrongLines mw_1183 mw_1184 mw_1185 (c_m_wrongLines l D cy q u 0 t n 16) [1, 0] [] 1 rfl rfl rfl rfl (by decide) rfl rfl hl.1 rfl (Nat.le_of_ble_eq_true rfl) ⟨Nat.le_of_ble_eq_true rfl, Nat.le_of_ble_eq_true rfl⟩ ⟨Nat.le_of_ble_eq_true rfl, Nat.le_of_ble_eq_true rfl⟩ dX12_broke_10 (fun r8 u9 H locs hp7 h => ?_)
    have h : xS D cy A s.heap ([(q, .inr (12, (.ref ((u 0)) :: .int 0 :: .long 0 :: .long 1 :: .ref ((u 1)) :: .ref ((u 2)) :: .ref ((u 3)) :: .ref ((u 4)) :: .ref ((u 5)) :: .int 0 :: .int 0 :: .int 0 :: .int 0 :: .int 0 :: .int 0 :: .int (-1) :: .int (-1) :: .int 0 :: .ref ((u 6)) :: .int 0 :: .int 0 :: .ref ((u 7)) :: .ref ((u 8)) :: .ref ((u 9)) :: .ref ((u 10)) :: .ref ((u 11)) :: .ref ((u 12)) :: .ref ((u 13)) :: .int 0 :: .int 0 :: .int (-1) :: .int 0 :: .int (-1) :: .int 0 :: .ref ((u 14)) :: .int 0 :: .int 0 :: .int 0 :: .int 0 :: .int 0 :: .ref ((u 15)) :: .ref ((u 16)) :: .int 0 :: .int (-1) :: .int 0 :: .int 0 :: .int 0 :: .int 0 :: .ref ((u 17)) :: .ref ((u 18)) :: .ref ((u 19)) :: .int 0 :: .ref ((u 20)) :: .ref ((u 21)) :: .int 0 :: .ref ((u 22)) :: .int (-1) :: .int 0 :: .ref ((u 23)) :: .int (-1) :: .int (-1) :: .int 0 :: .ref ((u 24)) :: .ref ((u 25)) :: .int 0 :: []))), (((u 2)), .inl (cy 1, 4, .inl (upd (upd (upd (upd (fun _ => 0) 0 (-1)) 1 (-1)) 2 (-1)) 3 (-1))))]) s H locs := h
    rcases hp7 with rfl | rfl
    · refine lv_istore (lv' := [(4, .int 1), (0, .ref q), (1, .int sc), (2, .int t), (3, .int n)]) F.1 F.2.1 dX12_broke_13 hl (by decide) rfl (fun ls hl => ?_)
      refine lv_iload F.1 F.2.1 dX12_broke_15 (lv_at hl 0 rfl) ?_
      refine lv_if_le (tgt := 29) F.1 F.2.1 dX12_broke_17 (by decide) (fun hc => absurd hc (by decide)) (fun _ => ?_)
      refine lv_aload_n F.1 F.2.1 dX12_broke_20 rfl (lv_at hl 1 rfl) ?_
      refine lv_iload F.1 F.2.1 dX12_broke_21 (lv_at hl 0 rfl) ?_
      refine x_Vi (wr := [(((u 2)), .inl (cy 1, 4, .inl (upd (upd (upd (upd (fun _ => 0) 0 (-1)) 1 (-1)) 2 (-1)) 3 (-1))))]) F h yk_X12_refuse mw_452 mw_453 mw_454 (c_m_refuse l D cy q ((.ref ((u 0)) :: .int 0 :: .long 0 :: .long 1 :: .ref ((u 1)) :: .ref ((u 2)) :: .ref ((u 3)) :: .ref ((u 4)) :: .ref ((u 5)) :: .int 0 :: .int 0 :: .int 0 :: .int 0 :: .int 0 :: .int 0 :: .int (-1) :: .int (-1) :: .int 0 :: .ref ((u 6)) :: .int 0 :: .int 0 :: .ref ((u 7)) :: .ref ((u 8)) :: .ref ((u 9)) :: .ref ((u 10)) :: .ref ((u 11)) :: .ref ((u 12)) :: .ref ((u 13)) :: .int 0 :: .int 0 :: .int (-1) :: .int 0 :: .int (-1) :: .int 0 :: .ref ((u 14)) :: .int 0 :: .int 0 :: .int 0 :: .int 0 :: .int 0 :: .ref ((u 15)) :: .ref ((u 16)) :: .int 0 :: .int (-1) :: .int 0 :: .int 0 :: .int 0 :: .int 0 :: .ref ((u 17)) :: .ref ((u 18)) :: .ref ((u 19)) :: .int 0 :: .ref ((u 20)) :: .ref ((u 21)) :: .int 0 :: .ref ((u 22)) :: .int (-1) :: .int 0 :: .ref ((u 23)) :: .int (-1) :: .int (-1) :: .int 0 :: .ref ((u 24)) :: .ref ((u 25)) :: .int 0 :: [])) rfl 1) [0] [1] 0 rfl rfl rfl rfl (by decide) rfl rfl hl.1 rfl (Nat.le_of_ble_eq_true rfl) ⟨Nat.le_of_ble_eq_true rfl, Nat.le_of_ble_eq_true rfl⟩ ⟨Nat.le_of_ble_eq_true rfl, Nat.le_of_ble_eq_true rfl⟩ dX12_broke_23 (fun r11 u12 H locs hp10 h => ?_)
      have h : xS D cy A s.heap ([(((u 2)), .inl (cy 1, 4, .inl (upd (upd (upd (upd (fun _ => 0) 0 (-1)) 1 (-1)) 2 (-1)) 3 (-1))))]) s H locs := h
      obtain rfl : r11 = (-1) := hp10
      refine lv_goto (tgt := 40) F.1 F.2.1 dX12_broke_26 (by decide) ?_
      exact x_iret F h hr hlk rfl (fun _ => 0) [] (rfl) (by decide +kernel) rfl (Nat.le_of_ble_eq_true rfl) (Nat.le_of_ble_eq_true rfl) dX12_broke_40
    · refine lv_istore (lv' := [(4, .int 2), (0, .ref q), (1, .int sc), (2, .int t), (3, .int n)]) F.1 F.2.1 dX12_broke_13 hl (by decide) rfl (fun ls hl => ?_)
      refine lv_iload F.1 F.2.1 dX12_broke_15 (lv_at hl 0 rfl) ?_
      refine lv_if_le (tgt := 29) F.1 F.2.1 dX12_broke_17 (by decide) (fun hc => absurd hc (by decide)) (fun _ => ?_)
      refine lv_aload_n F.1 F.2.1 dX12_broke_20 rfl (lv_at hl 1 rfl) ?_
      refine lv_iload F.1 F.2.1 dX12_broke_21 (lv_at hl 0 rfl) ?_
      refine x_Vi (wr := [(((u 2)), .inl (cy 1, 4, .inl (upd (upd (upd (upd (fun _ => 0) 0 (-1)) 1 (-1)) 2 (-1)) 3 (-1))))]) F h yk_X12_refuse mw_452 mw_453 mw_454 (c_m_refuse l D cy q ((.ref ((u 0)) :: .int 0 :: .long 0 :: .long 1 :: .ref ((u 1)) :: .ref ((u 2)) :: .ref ((u 3)) :: .ref ((u 4)) :: .ref ((u 5)) :: .int 0 :: .int 0 :: .int 0 :: .int 0 :: .int 0 :: .int 0 :: .int (-1) :: .int (-1) :: .int 0 :: .ref ((u 6)) :: .int 0 :: .int 0 :: .ref ((u 7)) :: .ref ((u 8)) :: .ref ((u 9)) :: .ref ((u 10)) :: .ref ((u 11)) :: .ref ((u 12)) :: .ref ((u 13)) :: .int 0 :: .int 0 :: .int (-1) :: .int 0 :: .int (-1) :: .int 0 :: .ref ((u 14)) :: .int 0 :: .int 0 :: .int 0 :: .int 0 :: .int 0 :: .ref ((u 15)) :: .ref ((u 16)) :: .int 0 :: .int (-1) :: .int 0 :: .int 0 :: .int 0 :: .int 0 :: .ref ((u 17)) :: .ref ((u 18)) :: .ref ((u 19)) :: .int 0 :: .ref ((u 20)) :: .ref ((u 21)) :: .int 0 :: .ref ((u 22)) :: .int (-1) :: .int 0 :: .ref ((u 23)) :: .int (-1) :: .int (-1) :: .int 0 :: .ref ((u 24)) :: .ref ((u 25)) :: .int 0 :: [])) rfl 2) [0] [1] 0 rfl rfl rfl rfl (by decide) rfl rfl hl.1 rfl (Nat.le_of_ble_eq_true rfl) ⟨Nat.le_of_ble_eq_true rfl, Nat.le_of_ble_eq_true rfl⟩ ⟨Nat.le_of_ble_eq_true rfl, Nat.le_of_ble_eq_true rfl⟩ dX12_broke_23 (fun r14 u15 H locs hp13 h => ?_)
      have h : xS D cy A s.heap ([(((u 2)), .inl (cy 1, 4, .inl (upd (upd (upd (upd (fun _ => 0) 0 (-1)) 1 (-1)) 2 (-1)) 3 (-1))))]) s H locs := h
      obtain rfl : r14 = (-1) := hp13
      refine lv_goto (tgt := 40) F.1 F.2.1 dX12_broke_26 (by decide) ?_
      exact x_iret F h hr hlk rfl (fun _ => 0) [] (rfl) (by decide +kernel) rfl (Nat.le_of_ble_eq_true rfl) (Nat.le_of_ble_eq_true rfl) dX12_broke_40
  · refine lv_iload_n F.1 F.2.1 dX12_broke_6 rfl (lv_at hl 2 rfl) ?_
    refine lv_iload_n F.1 F.2.1 dX12_broke_7 rfl (lv_at hl 3 rfl) ?_
    refine lv_bipush (v := 16) F.1 F.2.1 dX12_broke_8 (by decide) ?_
    refine x_Vi (wr := []) F h yk_X12_wrongLines mw_1183 mw_1184 mw_1185 (c_m_wrongLines l D cy q u 1 t n 16) [1, 0] [] 1 rfl rfl rfl rfl (by decide) rfl rfl hl.1 rfl (Nat.le_of_ble_eq_true rfl) ⟨Nat.le_of_ble_eq_true rfl, Nat.le_of_ble_eq_true rfl⟩ ⟨Nat.le_of_ble_eq_true rfl, Nat.le_of_ble_eq_true rfl⟩ dX12_broke_10 (fun r17 u18 H locs hp16 h => ?_)
    have h : xS D cy A s.heap ([(q, .inr (12, (.ref ((u 0)) :: .int 0 :: .long 0 :: .long 1 :: .ref ((u 1)) :: .ref ((u 2)) :: .ref ((u 3)) :: .ref ((u 4)) :: .ref ((u 5)) :: .int 0 :: .int 0 :: .int 0 :: .int 0 :: .int 0 :: .int 0 :: .int (-1) :: .int (-1) :: .int 0 :: .ref ((u 6)) :: .int 0 :: .int 0 :: .ref ((u 7)) :: .ref ((u 8)) :: .ref ((u 9)) :: .ref ((u 10)) :: .ref ((u 11)) :: .ref ((u 12)) :: .ref ((u 13)) :: .int 0 :: .int 0 :: .int (-1) :: .int 0 :: .int (-1) :: .int 0 :: .ref ((u 14)) :: .int 0 :: .int 0 :: .int 0 :: .int 0 :: .int 0 :: .ref ((u 15)) :: .ref ((u 16)) :: .int 0 :: .int (-1) :: .int 0 :: .int 0 :: .int 0 :: .int 0 :: .ref ((u 17)) :: .ref ((u 18)) :: .ref ((u 19)) :: .int 0 :: .ref ((u 20)) :: .ref ((u 21)) :: .int 0 :: .ref ((u 22)) :: .int (-1) :: .int 0 :: .ref ((u 23)) :: .int (-1) :: .int (-1) :: .int 0 :: .ref ((u 24)) :: .ref ((u 25)) :: .int 0 :: []))), (((u 2)), .inl (cy 1, 4, .inl (upd (upd (upd (upd (fun _ => 0) 0 (-1)) 1 (-1)) 2 (-1)) 3 (-1))))]) s H locs := h
    rcases hp16 with rfl | rfl
    · refine lv_istore (lv' := [(4, .int 1), (0, .ref q), (1, .int sc), (2, .int t), (3, .int n)]) F.1 F.2.1 dX12_broke_13 hl (by decide) rfl (fun ls hl => ?_)
      refine lv_iload F.1 F.2.1 dX12_broke_15 (lv_at hl 0 rfl) ?_
      refine lv_if_le (tgt := 29) F.1 F.2.1 dX12_broke_17 (by decide) (fun hc => absurd hc (by decide)) (fun _ => ?_)
      refine lv_aload_n F.1 F.2.1 dX12_broke_20 rfl (lv_at hl 1 rfl) ?_
      refine lv_iload F.1 F.2.1 dX12_broke_21 (lv_at hl 0 rfl) ?_
      refine x_Vi (wr := [(((u 2)), .inl (cy 1, 4, .inl (upd (upd (upd (upd (fun _ => 0) 0 (-1)) 1 (-1)) 2 (-1)) 3 (-1))))]) F h yk_X12_refuse mw_452 mw_453 mw_454 (c_m_refuse l D cy q ((.ref ((u 0)) :: .int 0 :: .long 0 :: .long 1 :: .ref ((u 1)) :: .ref ((u 2)) :: .ref ((u 3)) :: .ref ((u 4)) :: .ref ((u 5)) :: .int 0 :: .int 0 :: .int 0 :: .int 0 :: .int 0 :: .int 0 :: .int (-1) :: .int (-1) :: .int 0 :: .ref ((u 6)) :: .int 0 :: .int 0 :: .ref ((u 7)) :: .ref ((u 8)) :: .ref ((u 9)) :: .ref ((u 10)) :: .ref ((u 11)) :: .ref ((u 12)) :: .ref ((u 13)) :: .int 0 :: .int 0 :: .int (-1) :: .int 0 :: .int (-1) :: .int 0 :: .ref ((u 14)) :: .int 0 :: .int 0 :: .int 0 :: .int 0 :: .int 0 :: .ref ((u 15)) :: .ref ((u 16)) :: .int 0 :: .int (-1) :: .int 0 :: .int 0 :: .int 0 :: .int 0 :: .ref ((u 17)) :: .ref ((u 18)) :: .ref ((u 19)) :: .int 0 :: .ref ((u 20)) :: .ref ((u 21)) :: .int 0 :: .ref ((u 22)) :: .int (-1) :: .int 0 :: .ref ((u 23)) :: .int (-1) :: .int (-1) :: .int 0 :: .ref ((u 24)) :: .ref ((u 25)) :: .int 0 :: [])) rfl 1) [0] [1] 0 rfl rfl rfl rfl (by decide) rfl rfl hl.1 rfl (Nat.le_of_ble_eq_true rfl) ⟨Nat.le_of_ble_eq_true rfl, Nat.le_of_ble_eq_true rfl⟩ ⟨Nat.le_of_ble_eq_true rfl, Nat.le_of_ble_eq_true rfl⟩ dX12_broke_23 (fun r20 u21 H locs hp19 h => ?_)
      have h : xS D cy A s.heap ([(((u 2)), .inl (cy 1, 4, .inl (upd (upd (upd (upd (fun _ => 0) 0 (-1)) 1 (-1)) 2 (-1)) 3 (-1))))]) s H locs := h
      obtain rfl : r20 = (-1) := hp19
      refine lv_goto (tgt := 40) F.1 F.2.1 dX12_broke_26 (by decide) ?_
      exact x_iret F h hr hlk rfl (fun _ => 0) [] (rfl) (by decide +kernel) rfl (Nat.le_of_ble_eq_true rfl) (Nat.le_of_ble_eq_true rfl) dX12_broke_40
    · refine lv_istore (lv' := [(4, .int 2), (0, .ref q), (1, .int sc), (2, .int t), (3, .int n)]) F.1 F.2.1 dX12_broke_13 hl (by decide) rfl (fun ls hl => ?_)
      refine lv_iload F.1 F.2.1 dX12_broke_15 (lv_at hl 0 rfl) ?_
      refine lv_if_le (tgt := 29) F.1 F.2.1 dX12_broke_17 (by decide) (fun hc => absurd hc (by decide)) (fun _ => ?_)
      refine lv_aload_n F.1 F.2.1 dX12_broke_20 rfl (lv_at hl 1 rfl) ?_
      refine lv_iload F.1 F.2.1 dX12_broke_21 (lv_at hl 0 rfl) ?_
      refine x_Vi (wr := [(((u 2)), .inl (cy 1, 4, .inl (upd (upd (upd (upd (fun _ => 0) 0 (-1)) 1 (-1)) 2 (-1)) 3 (-1))))]) F h yk_X12_refuse mw_452 mw_453 mw_454 (c_m_refuse l D cy q ((.ref ((u 0)) :: .int 0 :: .long 0 :: .long 1 :: .ref ((u 1)) :: .ref ((u 2)) :: .ref ((u 3)) :: .ref ((u 4)) :: .ref ((u 5)) :: .int 0 :: .int 0 :: .int 0 :: .int 0 :: .int 0 :: .int 0 :: .int (-1) :: .int (-1) :: .int 0 :: .ref ((u 6)) :: .int 0 :: .int 0 :: .ref ((u 7)) :: .ref ((u 8)) :: .ref ((u 9)) :: .ref ((u 10)) :: .ref ((u 11)) :: .ref ((u 12)) :: .ref ((u 13)) :: .int 0 :: .int 0 :: .int (-1) :: .int 0 :: .int (-1) :: .int 0 :: .ref ((u 14)) :: .int 0 :: .int 0 :: .int 0 :: .int 0 :: .int 0 :: .ref ((u 15)) :: .ref ((u 16)) :: .int 0 :: .int (-1) :: .int 0 :: .int 0 :: .int 0 :: .int 0 :: .ref ((u 17)) :: .ref ((u 18)) :: .ref ((u 19)) :: .int 0 :: .ref ((u 20)) :: .ref ((u 21)) :: .int 0 :: .ref ((u 22)) :: .int (-1) :: .int 0 :: .ref ((u 23)) :: .int (-1) :: .int (-1) :: .int 0 :: .ref ((u 24)) :: .ref ((u 25)) :: .int 0 :: [])) rfl 2) [0] [1] 0 rfl rfl rfl rfl (by decide) rfl rfl hl.1 rfl (Nat.le_of_ble_eq_true rfl) ⟨Nat.le_of_ble_eq_true rfl, Nat.le_of_ble_eq_true rfl⟩ ⟨Nat.le_of_ble_eq_true rfl, Nat.le_of_ble_eq_true rfl⟩ dX12_broke_23 (fun r23 u24 H locs hp22 h => ?_)
      have h : xS D cy A s.heap ([(((u 2)), .inl (cy 1, 4, .inl (upd (upd (upd (upd (fun _ => 0) 0 (-1)) 1 (-1)) 2 (-1)) 3 (-1))))]) s H locs := h
      obtain rfl : r23 = (-1) := hp22
      refine lv_goto (tgt := 40) F.1 F.2.1 dX12_broke_26 (by decide) ?_
      exact x_iret F h hr hlk rfl (fun _ => 0) [] (rfl) (by decide +kernel) rfl (Nat.le_of_ble_eq_true rfl) (Nat.le_of_ble_eq_true rfl) dX12_broke_40
set_option maxHeartbeats 4000000 in
set_option maxRecDepth 100000 in
theorem c_m_mend (l : Launch) (D : va_G) (cy : Nat → ClassId) (q : Nat) (u : Nat → Nat) (sc : Int32) (t : Int32) (n : Int32) (k : Int32) : ∀ sz, Met l yX12_mend (Cond.code yX12_mend cX12_mend 10 (some .int) :: wsL_law) { frames := 2, cells := 0, slots := 0, locals := 46 } (va_Pc [.ref q, .int sc, .int t, .int n, .int k] (xP D cy ([mM q u 0 0 0 (-1) 0, mA_trayMany cy u]) sz)) (va_Qi (fun r _ => r = (-1)) (xB D (va_A ([mM q u 0 0 0 (-1) 0, mA_trayMany cy u]) sz) (fun _ => [])) (va_A ([mM q u 0 0 0 (-1) 0, mA_trayMany cy u]) sz)) 0 0 (va_A ([mM q u 0 0 0 (-1) 0, mA_trayMany cy u]) sz) := by
  refine x_enter (fun A => va_Qi (fun r _ => r = (-1)) (xB D A (fun _ => [])) A) (by decide +kernel) rfl (Nat.le_of_ble_eq_true rfl) ?_
  intro p e s m below meth c A ls F hr hlk hin h hl
  have hl : lv_has ls 10 [(0, .ref q), (1, .int sc), (2, .int t), (3, .int n), (4, .int k)] := hl
  have h : xS D cy A s.heap ([(q, .inr (12, (.ref ((u 0)) :: .int 0 :: .long 0 :: .long 1 :: .ref ((u 1)) :: .ref ((u 2)) :: .ref ((u 3)) :: .ref ((u 4)) :: .ref ((u 5)) :: .int 0 :: .int 0 :: .int 0 :: .int 0 :: .int 0 :: .int 0 :: .int (-1) :: .int (-1) :: .int 0 :: .ref ((u 6)) :: .int 0 :: .int 0 :: .ref ((u 7)) :: .ref ((u 8)) :: .ref ((u 9)) :: .ref ((u 10)) :: .ref ((u 11)) :: .ref ((u 12)) :: .ref ((u 13)) :: .int 0 :: .int 0 :: .int (-1) :: .int 0 :: .int (-1) :: .int 0 :: .ref ((u 14)) :: .int 0 :: .int 0 :: .int 0 :: .int 0 :: .int 0 :: .ref ((u 15)) :: .ref ((u 16)) :: .int 0 :: .int (-1) :: .int 0 :: .int 0 :: .int 0 :: .int 0 :: .ref ((u 17)) :: .ref ((u 18)) :: .ref ((u 19)) :: .int 0 :: .ref ((u 20)) :: .ref ((u 21)) :: .int 0 :: .ref ((u 22)) :: .int (-1) :: .int 0 :: .ref ((u 23)) :: .int (-1) :: .int (-1) :: .int 0 :: .ref ((u 24)) :: .ref ((u 25)) :: .int 0 :: []))), (((u 2)), .inl (cy 1, 4, .inl (upd (upd (upd (upd (fun _ => 0) 0 (-1)) 1 (-1)) 2 (-1)) 3 (-1))))]) s s.heap [] := h
  refine lv_aload_n F.1 F.2.1 dX12_mend_0 rfl (lv_at hl 0 rfl) ?_
  refine lv_aload_n F.1 F.2.1 dX12_mend_1 rfl (lv_at hl 0 rfl) ?_
  refine lv_iload_n F.1 F.2.1 dX12_mend_2 rfl (lv_at hl 1 rfl) ?_
  refine x_Vi (wr := [(((u 2)), .inl (cy 1, 4, .inl (upd (upd (upd (upd (fun _ => 0) 0 (-1)) 1 (-1)) 2 (-1)) 3 (-1))))]) F h yk_X12_isScript mw_635 mw_636 mw_637 (c_m_isScript l D cy q ((.ref ((u 0)) :: .int 0 :: .long 0 :: .long 1 :: .ref ((u 1)) :: .ref ((u 2)) :: .ref ((u 3)) :: .ref ((u 4)) :: .ref ((u 5)) :: .int 0 :: .int 0 :: .int 0 :: .int 0 :: .int 0 :: .int 0 :: .int (-1) :: .int (-1) :: .int 0 :: .ref ((u 6)) :: .int 0 :: .int 0 :: .ref ((u 7)) :: .ref ((u 8)) :: .ref ((u 9)) :: .ref ((u 10)) :: .ref ((u 11)) :: .ref ((u 12)) :: .ref ((u 13)) :: .int 0 :: .int 0 :: .int (-1) :: .int 0 :: .int (-1) :: .int 0 :: .ref ((u 14)) :: .int 0 :: .int 0 :: .int 0 :: .int 0 :: .int 0 :: .ref ((u 15)) :: .ref ((u 16)) :: .int 0 :: .int (-1) :: .int 0 :: .int 0 :: .int 0 :: .int 0 :: .ref ((u 17)) :: .ref ((u 18)) :: .ref ((u 19)) :: .int 0 :: .ref ((u 20)) :: .ref ((u 21)) :: .int 0 :: .ref ((u 22)) :: .int (-1) :: .int 0 :: .ref ((u 23)) :: .int (-1) :: .int (-1) :: .int 0 :: .ref ((u 24)) :: .ref ((u 25)) :: .int 0 :: [])) sc) [0] [1] 0 rfl rfl rfl rfl (by decide) rfl rfl hl.1 rfl (Nat.le_of_ble_eq_true rfl) ⟨Nat.le_of_ble_eq_true rfl, Nat.le_of_ble_eq_true rfl⟩ ⟨Nat.le_of_ble_eq_true rfl, Nat.le_of_ble_eq_true rfl⟩ dX12_mend_3 (fun r2 u3 H locs hp1 h => ?_)
  have h : xS D cy A s.heap ([(((u 2)), .inl (cy 1, 4, .inl (upd (upd (upd (upd (fun _ => 0) 0 (-1)) 1 (-1)) 2 (-1)) 3 (-1)))), (q, .inr (12, (.ref ((u 0)) :: .int 0 :: .long 0 :: .long 1 :: .ref ((u 1)) :: .ref ((u 2)) :: .ref ((u 3)) :: .ref ((u 4)) :: .ref ((u 5)) :: .int 0 :: .int 0 :: .int 0 :: .int 0 :: .int 0 :: .int 0 :: .int (-1) :: .int (-1) :: .int 0 :: .ref ((u 6)) :: .int 0 :: .int 0 :: .ref ((u 7)) :: .ref ((u 8)) :: .ref ((u 9)) :: .ref ((u 10)) :: .ref ((u 11)) :: .ref ((u 12)) :: .ref ((u 13)) :: .int 0 :: .int 0 :: .int (-1) :: .int 0 :: .int (-1) :: .int 0 :: .ref ((u 14)) :: .int 0 :: .int 0 :: .int 0 :: .int 0 :: .int 0 :: .ref ((u 15)) :: .ref ((u 16)) :: .int 0 :: .int (-1) :: .int 0 :: .int 0 :: .int 0 :: .int 0 :: .ref ((u 17)) :: .ref ((u 18)) :: .ref ((u 19)) :: .int 0 :: .ref ((u 20)) :: .ref ((u 21)) :: .int 0 :: .ref ((u 22)) :: .int (-1) :: .int 0 :: .ref ((u 23)) :: .int (-1) :: .int (-1) :: .int 0 :: .ref ((u 24)) :: .ref ((u 25)) :: .int 0 :: [])))]) s H locs := h
  rcases x_tr (n := 3) hp1 with ⟨rfl, ht4⟩ | ⟨rfl, ht5, ht6⟩
  · refine lv_if_eq (tgt := 24) F.1 F.2.1 dX12_mend_6 (by decide) (fun _ => ?_) (fun hc => absurd (by decide) hc)
    refine lv_iconst (v := 0) F.1 F.2.1 dX12_mend_24 (by decide) ?_
    refine lv_iload_n F.1 F.2.1 dX12_mend_25 rfl (lv_at hl 2 rfl) ?_
    refine lv_iload_n F.1 F.2.1 dX12_mend_26 rfl (lv_at hl 3 rfl) ?_
    refine lv_bipush (v := 16) F.1 F.2.1 dX12_mend_27 (by decide) ?_
    refine x_Vi (wr := []) F h yk_X12_wrongLines mw_1183 mw_1184 mw_1185 (c_m_wrongLines l D cy q u 0 t n 16) [1, 0] [] 1 rfl rfl rfl rfl (by decide) rfl rfl hl.1 rfl (Nat.le_of_ble_eq_true rfl) ⟨Nat.le_of_ble_eq_true rfl, Nat.le_of_ble_eq_true rfl⟩ ⟨Nat.le_of_ble_eq_true rfl, Nat.le_of_ble_eq_true rfl⟩ dX12_mend_29 (fun r8 u9 H locs hp7 h => ?_)
    have h : xS D cy A s.heap ([(q, .inr (12, (.ref ((u 0)) :: .int 0 :: .long 0 :: .long 1 :: .ref ((u 1)) :: .ref ((u 2)) :: .ref ((u 3)) :: .ref ((u 4)) :: .ref ((u 5)) :: .int 0 :: .int 0 :: .int 0 :: .int 0 :: .int 0 :: .int 0 :: .int (-1) :: .int (-1) :: .int 0 :: .ref ((u 6)) :: .int 0 :: .int 0 :: .ref ((u 7)) :: .ref ((u 8)) :: .ref ((u 9)) :: .ref ((u 10)) :: .ref ((u 11)) :: .ref ((u 12)) :: .ref ((u 13)) :: .int 0 :: .int 0 :: .int (-1) :: .int 0 :: .int (-1) :: .int 0 :: .ref ((u 14)) :: .int 0 :: .int 0 :: .int 0 :: .int 0 :: .int 0 :: .ref ((u 15)) :: .ref ((u 16)) :: .int 0 :: .int (-1) :: .int 0 :: .int 0 :: .int 0 :: .int 0 :: .ref ((u 17)) :: .ref ((u 18)) :: .ref ((u 19)) :: .int 0 :: .ref ((u 20)) :: .ref ((u 21)) :: .int 0 :: .ref ((u 22)) :: .int (-1) :: .int 0 :: .ref ((u 23)) :: .int (-1) :: .int (-1) :: .int 0 :: .ref ((u 24)) :: .ref ((u 25)) :: .int 0 :: []))), (((u 2)), .inl (cy 1, 4, .inl (upd (upd (upd (upd (fun _ => 0) 0 (-1)) 1 (-1)) 2 (-1)) 3 (-1))))]) s H locs := h
    rcases hp7 with rfl | rfl
    · refine lv_istore (lv' := [(5, .int 1), (0, .ref q), (1, .int sc), (2, .int t), (3, .int n), (4, .int k)]) F.1 F.2.1 dX12_mend_32 hl (by decide) rfl (fun ls hl => ?_)
      refine lv_iload F.1 F.2.1 dX12_mend_34 (lv_at hl 0 rfl) ?_
      refine lv_if_le (tgt := 46) F.1 F.2.1 dX12_mend_36 (by decide) (fun hc => absurd hc (by decide)) (fun _ => ?_)
      refine lv_aload_n F.1 F.2.1 dX12_mend_39 rfl (lv_at hl 1 rfl) ?_
      refine lv_iload F.1 F.2.1 dX12_mend_40 (lv_at hl 0 rfl) ?_
      refine x_Vi (wr := [(((u 2)), .inl (cy 1, 4, .inl (upd (upd (upd (upd (fun _ => 0) 0 (-1)) 1 (-1)) 2 (-1)) 3 (-1))))]) F h yk_X12_refuse mw_452 mw_453 mw_454 (c_m_refuse l D cy q ((.ref ((u 0)) :: .int 0 :: .long 0 :: .long 1 :: .ref ((u 1)) :: .ref ((u 2)) :: .ref ((u 3)) :: .ref ((u 4)) :: .ref ((u 5)) :: .int 0 :: .int 0 :: .int 0 :: .int 0 :: .int 0 :: .int 0 :: .int (-1) :: .int (-1) :: .int 0 :: .ref ((u 6)) :: .int 0 :: .int 0 :: .ref ((u 7)) :: .ref ((u 8)) :: .ref ((u 9)) :: .ref ((u 10)) :: .ref ((u 11)) :: .ref ((u 12)) :: .ref ((u 13)) :: .int 0 :: .int 0 :: .int (-1) :: .int 0 :: .int (-1) :: .int 0 :: .ref ((u 14)) :: .int 0 :: .int 0 :: .int 0 :: .int 0 :: .int 0 :: .ref ((u 15)) :: .ref ((u 16)) :: .int 0 :: .int (-1) :: .int 0 :: .int 0 :: .int 0 :: .int 0 :: .ref ((u 17)) :: .ref ((u 18)) :: .ref ((u 19)) :: .int 0 :: .ref ((u 20)) :: .ref ((u 21)) :: .int 0 :: .ref ((u 22)) :: .int (-1) :: .int 0 :: .ref ((u 23)) :: .int (-1) :: .int (-1) :: .int 0 :: .ref ((u 24)) :: .ref ((u 25)) :: .int 0 :: [])) rfl 1) [0] [1] 0 rfl rfl rfl rfl (by decide) rfl rfl hl.1 rfl (Nat.le_of_ble_eq_true rfl) ⟨Nat.le_of_ble_eq_true rfl, Nat.le_of_ble_eq_true rfl⟩ ⟨Nat.le_of_ble_eq_true rfl, Nat.le_of_ble_eq_true rfl⟩ dX12_mend_42 (fun r11 u12 H locs hp10 h => ?_)
      have h : xS D cy A s.heap ([(((u 2)), .inl (cy 1, 4, .inl (upd (upd (upd (upd (fun _ => 0) 0 (-1)) 1 (-1)) 2 (-1)) 3 (-1))))]) s H locs := h
      obtain rfl : r11 = (-1) := hp10
      exact x_iret F h hr hlk rfl (fun _ => 0) [] (rfl) (by decide +kernel) rfl (Nat.le_of_ble_eq_true rfl) (Nat.le_of_ble_eq_true rfl) dX12_mend_45
    · refine lv_istore (lv' := [(5, .int 2), (0, .ref q), (1, .int sc), (2, .int t), (3, .int n), (4, .int k)]) F.1 F.2.1 dX12_mend_32 hl (by decide) rfl (fun ls hl => ?_)
      refine lv_iload F.1 F.2.1 dX12_mend_34 (lv_at hl 0 rfl) ?_
      refine lv_if_le (tgt := 46) F.1 F.2.1 dX12_mend_36 (by decide) (fun hc => absurd hc (by decide)) (fun _ => ?_)
      refine lv_aload_n F.1 F.2.1 dX12_mend_39 rfl (lv_at hl 1 rfl) ?_
      refine lv_iload F.1 F.2.1 dX12_mend_40 (lv_at hl 0 rfl) ?_
      refine x_Vi (wr := [(((u 2)), .inl (cy 1, 4, .inl (upd (upd (upd (upd (fun _ => 0) 0 (-1)) 1 (-1)) 2 (-1)) 3 (-1))))]) F h yk_X12_refuse mw_452 mw_453 mw_454 (c_m_refuse l D cy q ((.ref ((u 0)) :: .int 0 :: .long 0 :: .long 1 :: .ref ((u 1)) :: .ref ((u 2)) :: .ref ((u 3)) :: .ref ((u 4)) :: .ref ((u 5)) :: .int 0 :: .int 0 :: .int 0 :: .int 0 :: .int 0 :: .int 0 :: .int (-1) :: .int (-1) :: .int 0 :: .ref ((u 6)) :: .int 0 :: .int 0 :: .ref ((u 7)) :: .ref ((u 8)) :: .ref ((u 9)) :: .ref ((u 10)) :: .ref ((u 11)) :: .ref ((u 12)) :: .ref ((u 13)) :: .int 0 :: .int 0 :: .int (-1) :: .int 0 :: .int (-1) :: .int 0 :: .ref ((u 14)) :: .int 0 :: .int 0 :: .int 0 :: .int 0 :: .int 0 :: .ref ((u 15)) :: .ref ((u 16)) :: .int 0 :: .int (-1) :: .int 0 :: .int 0 :: .int 0 :: .int 0 :: .ref ((u 17)) :: .ref ((u 18)) :: .ref ((u 19)) :: .int 0 :: .ref ((u 20)) :: .ref ((u 21)) :: .int 0 :: .ref ((u 22)) :: .int (-1) :: .int 0 :: .ref ((u 23)) :: .int (-1) :: .int (-1) :: .int 0 :: .ref ((u 24)) :: .ref ((u 25)) :: .int 0 :: [])) rfl 2) [0] [1] 0 rfl rfl rfl rfl (by decide) rfl rfl hl.1 rfl (Nat.le_of_ble_eq_true rfl) ⟨Nat.le_of_ble_eq_true rfl, Nat.le_of_ble_eq_true rfl⟩ ⟨Nat.le_of_ble_eq_true rfl, Nat.le_of_ble_eq_true rfl⟩ dX12_mend_42 (fun r14 u15 H locs hp13 h => ?_)
      have h : xS D cy A s.heap ([(((u 2)), .inl (cy 1, 4, .inl (upd (upd (upd (upd (fun _ => 0) 0 (-1)) 1 (-1)) 2 (-1)) 3 (-1))))]) s H locs := h
      obtain rfl : r14 = (-1) := hp13
      exact x_iret F h hr hlk rfl (fun _ => 0) [] (rfl) (by decide +kernel) rfl (Nat.le_of_ble_eq_true rfl) (Nat.le_of_ble_eq_true rfl) dX12_mend_45
  · refine lv_if_eq (tgt := 24) F.1 F.2.1 dX12_mend_6 (by decide) (fun hc => absurd hc (by decide)) (fun _ => ?_)
    refine lv_iload F.1 F.2.1 dX12_mend_9 (lv_at hl 4 rfl) ?_
    refine lv_if_lt (tgt := 24) F.1 F.2.1 dX12_mend_11 (by decide) (fun hc16 => ?_) (fun hc16 => ?_)
    · refine lv_iconst (v := 0) F.1 F.2.1 dX12_mend_24 (by decide) ?_
      refine lv_iload_n F.1 F.2.1 dX12_mend_25 rfl (lv_at hl 2 rfl) ?_
      refine lv_iload_n F.1 F.2.1 dX12_mend_26 rfl (lv_at hl 3 rfl) ?_
      refine lv_bipush (v := 16) F.1 F.2.1 dX12_mend_27 (by decide) ?_
      refine x_Vi (wr := []) F h yk_X12_wrongLines mw_1183 mw_1184 mw_1185 (c_m_wrongLines l D cy q u 0 t n 16) [1, 0] [] 1 rfl rfl rfl rfl (by decide) rfl rfl hl.1 rfl (Nat.le_of_ble_eq_true rfl) ⟨Nat.le_of_ble_eq_true rfl, Nat.le_of_ble_eq_true rfl⟩ ⟨Nat.le_of_ble_eq_true rfl, Nat.le_of_ble_eq_true rfl⟩ dX12_mend_29 (fun r18 u19 H locs hp17 h => ?_)
      have h : xS D cy A s.heap ([(q, .inr (12, (.ref ((u 0)) :: .int 0 :: .long 0 :: .long 1 :: .ref ((u 1)) :: .ref ((u 2)) :: .ref ((u 3)) :: .ref ((u 4)) :: .ref ((u 5)) :: .int 0 :: .int 0 :: .int 0 :: .int 0 :: .int 0 :: .int 0 :: .int (-1) :: .int (-1) :: .int 0 :: .ref ((u 6)) :: .int 0 :: .int 0 :: .ref ((u 7)) :: .ref ((u 8)) :: .ref ((u 9)) :: .ref ((u 10)) :: .ref ((u 11)) :: .ref ((u 12)) :: .ref ((u 13)) :: .int 0 :: .int 0 :: .int (-1) :: .int 0 :: .int (-1) :: .int 0 :: .ref ((u 14)) :: .int 0 :: .int 0 :: .int 0 :: .int 0 :: .int 0 :: .ref ((u 15)) :: .ref ((u 16)) :: .int 0 :: .int (-1) :: .int 0 :: .int 0 :: .int 0 :: .int 0 :: .ref ((u 17)) :: .ref ((u 18)) :: .ref ((u 19)) :: .int 0 :: .ref ((u 20)) :: .ref ((u 21)) :: .int 0 :: .ref ((u 22)) :: .int (-1) :: .int 0 :: .ref ((u 23)) :: .int (-1) :: .int (-1) :: .int 0 :: .ref ((u 24)) :: .ref ((u 25)) :: .int 0 :: []))), (((u 2)), .inl (cy 1, 4, .inl (upd (upd (upd (upd (fun _ => 0) 0 (-1)) 1 (-1)) 2 (-1)) 3 (-1))))]) s H locs := h
      rcases hp17 with rfl | rfl
      · refine lv_istore (lv' := [(5, .int 1), (0, .ref q), (1, .int sc), (2, .int t), (3, .int n), (4, .int k)]) F.1 F.2.1 dX12_mend_32 hl (by decide) rfl (fun ls hl => ?_)
        refine lv_iload F.1 F.2.1 dX12_mend_34 (lv_at hl 0 rfl) ?_
        refine lv_if_le (tgt := 46) F.1 F.2.1 dX12_mend_36 (by decide) (fun hc => absurd hc (by decide)) (fun _ => ?_)
        refine lv_aload_n F.1 F.2.1 dX12_mend_39 rfl (lv_at hl 1 rfl) ?_
        refine lv_iload F.1 F.2.1 dX12_mend_40 (lv_at hl 0 rfl) ?_
        refine x_Vi (wr := [(((u 2)), .inl (cy 1, 4, .inl (upd (upd (upd (upd (fun _ => 0) 0 (-1)) 1 (-1)) 2 (-1)) 3 (-1))))]) F h yk_X12_refuse mw_452 mw_453 mw_454 (c_m_refuse l D cy q ((.ref ((u 0)) :: .int 0 :: .long 0 :: .long 1 :: .ref ((u 1)) :: .ref ((u 2)) :: .ref ((u 3)) :: .ref ((u 4)) :: .ref ((u 5)) :: .int 0 :: .int 0 :: .int 0 :: .int 0 :: .int 0 :: .int 0 :: .int (-1) :: .int (-1) :: .int 0 :: .ref ((u 6)) :: .int 0 :: .int 0 :: .ref ((u 7)) :: .ref ((u 8)) :: .ref ((u 9)) :: .ref ((u 10)) :: .ref ((u 11)) :: .ref ((u 12)) :: .ref ((u 13)) :: .int 0 :: .int 0 :: .int (-1) :: .int 0 :: .int (-1) :: .int 0 :: .ref ((u 14)) :: .int 0 :: .int 0 :: .int 0 :: .int 0 :: .int 0 :: .ref ((u 15)) :: .ref ((u 16)) :: .int 0 :: .int (-1) :: .int 0 :: .int 0 :: .int 0 :: .int 0 :: .ref ((u 17)) :: .ref ((u 18)) :: .ref ((u 19)) :: .int 0 :: .ref ((u 20)) :: .ref ((u 21)) :: .int 0 :: .ref ((u 22)) :: .int (-1) :: .int 0 :: .ref ((u 23)) :: .int (-1) :: .int (-1) :: .int 0 :: .ref ((u 24)) :: .ref ((u 25)) :: .int 0 :: [])) rfl 1) [0] [1] 0 rfl rfl rfl rfl (by decide) rfl rfl hl.1 rfl (Nat.le_of_ble_eq_true rfl) ⟨Nat.le_of_ble_eq_true rfl, Nat.le_of_ble_eq_true rfl⟩ ⟨Nat.le_of_ble_eq_true rfl, Nat.le_of_ble_eq_true rfl⟩ dX12_mend_42 (fun r21 u22 H locs hp20 h => ?_)
        have h : xS D cy A s.heap ([(((u 2)), .inl (cy 1, 4, .inl (upd (upd (upd (upd (fun _ => 0) 0 (-1)) 1 (-1)) 2 (-1)) 3 (-1))))]) s H locs := h
        obtain rfl : r21 = (-1) := hp20
        exact x_iret F h hr hlk rfl (fun _ => 0) [] (rfl) (by decide +kernel) rfl (Nat.le_of_ble_eq_true rfl) (Nat.le_of_ble_eq_true rfl) dX12_mend_45
      · refine lv_istore (lv' := [(5, .int 2), (0, .ref q), (1, .int sc), (2, .int t), (3, .int n), (4, .int k)]) F.1 F.2.1 dX12_mend_32 hl (by decide) rfl (fun ls hl => ?_)
        refine lv_iload F.1 F.2.1 dX12_mend_34 (lv_at hl 0 rfl) ?_
        refine lv_if_le (tgt := 46) F.1 F.2.1 dX12_mend_36 (by decide) (fun hc => absurd hc (by decide)) (fun _ => ?_)
        refine lv_aload_n F.1 F.2.1 dX12_mend_39 rfl (lv_at hl 1 rfl) ?_
        refine lv_iload F.1 F.2.1 dX12_mend_40 (lv_at hl 0 rfl) ?_
        refine x_Vi (wr := [(((u 2)), .inl (cy 1, 4, .inl (upd (upd (upd (upd (fun _ => 0) 0 (-1)) 1 (-1)) 2 (-1)) 3 (-1))))]) F h yk_X12_refuse mw_452 mw_453 mw_454 (c_m_refuse l D cy q ((.ref ((u 0)) :: .int 0 :: .long 0 :: .long 1 :: .ref ((u 1)) :: .ref ((u 2)) :: .ref ((u 3)) :: .ref ((u 4)) :: .ref ((u 5)) :: .int 0 :: .int 0 :: .int 0 :: .int 0 :: .int 0 :: .int 0 :: .int (-1) :: .int (-1) :: .int 0 :: .ref ((u 6)) :: .int 0 :: .int 0 :: .ref ((u 7)) :: .ref ((u 8)) :: .ref ((u 9)) :: .ref ((u 10)) :: .ref ((u 11)) :: .ref ((u 12)) :: .ref ((u 13)) :: .int 0 :: .int 0 :: .int (-1) :: .int 0 :: .int (-1) :: .int 0 :: .ref ((u 14)) :: .int 0 :: .int 0 :: .int 0 :: .int 0 :: .int 0 :: .ref ((u 15)) :: .ref ((u 16)) :: .int 0 :: .int (-1) :: .int 0 :: .int 0 :: .int 0 :: .int 0 :: .ref ((u 17)) :: .ref ((u 18)) :: .ref ((u 19)) :: .int 0 :: .ref ((u 20)) :: .ref ((u 21)) :: .int 0 :: .ref ((u 22)) :: .int (-1) :: .int 0 :: .ref ((u 23)) :: .int (-1) :: .int (-1) :: .int 0 :: .ref ((u 24)) :: .ref ((u 25)) :: .int 0 :: [])) rfl 2) [0] [1] 0 rfl rfl rfl rfl (by decide) rfl rfl hl.1 rfl (Nat.le_of_ble_eq_true rfl) ⟨Nat.le_of_ble_eq_true rfl, Nat.le_of_ble_eq_true rfl⟩ ⟨Nat.le_of_ble_eq_true rfl, Nat.le_of_ble_eq_true rfl⟩ dX12_mend_42 (fun r24 u25 H locs hp23 h => ?_)
        have h : xS D cy A s.heap ([(((u 2)), .inl (cy 1, 4, .inl (upd (upd (upd (upd (fun _ => 0) 0 (-1)) 1 (-1)) 2 (-1)) 3 (-1))))]) s H locs := h
        obtain rfl : r24 = (-1) := hp23
        exact x_iret F h hr hlk rfl (fun _ => 0) [] (rfl) (by decide +kernel) rfl (Nat.le_of_ble_eq_true rfl) (Nat.le_of_ble_eq_true rfl) dX12_mend_45
    · refine lv_iload F.1 F.2.1 dX12_mend_14 (lv_at hl 4 rfl) ?_
      refine lv_iconst (v := 3) F.1 F.2.1 dX12_mend_16 (by decide) ?_
      refine lv_icmp_gt (tgt := 24) F.1 F.2.1 dX12_mend_17 (by decide) (fun hc26 => ?_) (fun hc26 => ?_)
      · refine lv_iconst (v := 0) F.1 F.2.1 dX12_mend_24 (by decide) ?_
        refine lv_iload_n F.1 F.2.1 dX12_mend_25 rfl (lv_at hl 2 rfl) ?_
        refine lv_iload_n F.1 F.2.1 dX12_mend_26 rfl (lv_at hl 3 rfl) ?_
        refine lv_bipush (v := 16) F.1 F.2.1 dX12_mend_27 (by decide) ?_
        refine x_Vi (wr := []) F h yk_X12_wrongLines mw_1183 mw_1184 mw_1185 (c_m_wrongLines l D cy q u 0 t n 16) [1, 0] [] 1 rfl rfl rfl rfl (by decide) rfl rfl hl.1 rfl (Nat.le_of_ble_eq_true rfl) ⟨Nat.le_of_ble_eq_true rfl, Nat.le_of_ble_eq_true rfl⟩ ⟨Nat.le_of_ble_eq_true rfl, Nat.le_of_ble_eq_true rfl⟩ dX12_mend_29 (fun r28 u29 H locs hp27 h => ?_)
        have h : xS D cy A s.heap ([(q, .inr (12, (.ref ((u 0)) :: .int 0 :: .long 0 :: .long 1 :: .ref ((u 1)) :: .ref ((u 2)) :: .ref ((u 3)) :: .ref ((u 4)) :: .ref ((u 5)) :: .int 0 :: .int 0 :: .int 0 :: .int 0 :: .int 0 :: .int 0 :: .int (-1) :: .int (-1) :: .int 0 :: .ref ((u 6)) :: .int 0 :: .int 0 :: .ref ((u 7)) :: .ref ((u 8)) :: .ref ((u 9)) :: .ref ((u 10)) :: .ref ((u 11)) :: .ref ((u 12)) :: .ref ((u 13)) :: .int 0 :: .int 0 :: .int (-1) :: .int 0 :: .int (-1) :: .int 0 :: .ref ((u 14)) :: .int 0 :: .int 0 :: .int 0 :: .int 0 :: .int 0 :: .ref ((u 15)) :: .ref ((u 16)) :: .int 0 :: .int (-1) :: .int 0 :: .int 0 :: .int 0 :: .int 0 :: .ref ((u 17)) :: .ref ((u 18)) :: .ref ((u 19)) :: .int 0 :: .ref ((u 20)) :: .ref ((u 21)) :: .int 0 :: .ref ((u 22)) :: .int (-1) :: .int 0 :: .ref ((u 23)) :: .int (-1) :: .int (-1) :: .int 0 :: .ref ((u 24)) :: .ref ((u 25)) :: .int 0 :: []))), (((u 2)), .inl (cy 1, 4, .inl (upd (upd (upd (upd (fun _ => 0) 0 (-1)) 1 (-1)) 2 (-1)) 3 (-1))))]) s H locs := h
        rcases hp27 with rfl | rfl
        · refine lv_istore (lv' := [(5, .int 1), (0, .ref q), (1, .int sc), (2, .int t), (3, .int n), (4, .int k)]) F.1 F.2.1 dX12_mend_32 hl (by decide) rfl (fun ls hl => ?_)
          refine lv_iload F.1 F.2.1 dX12_mend_34 (lv_at hl 0 rfl) ?_
          refine lv_if_le (tgt := 46) F.1 F.2.1 dX12_mend_36 (by decide) (fun hc => absurd hc (by decide)) (fun _ => ?_)
          refine lv_aload_n F.1 F.2.1 dX12_mend_39 rfl (lv_at hl 1 rfl) ?_
          refine lv_iload F.1 F.2.1 dX12_mend_40 (lv_at hl 0 rfl) ?_
          refine x_Vi (wr := [(((u 2)), .inl (cy 1, 4, .inl (upd (upd (upd (upd (fun _ => 0) 0 (-1)) 1 (-1)) 2 (-1)) 3 (-1))))]) F h yk_X12_refuse mw_452 mw_453 mw_454 (c_m_refuse l D cy q ((.ref ((u 0)) :: .int 0 :: .long 0 :: .long 1 :: .ref ((u 1)) :: .ref ((u 2)) :: .ref ((u 3)) :: .ref ((u 4)) :: .ref ((u 5)) :: .int 0 :: .int 0 :: .int 0 :: .int 0 :: .int 0 :: .int 0 :: .int (-1) :: .int (-1) :: .int 0 :: .ref ((u 6)) :: .int 0 :: .int 0 :: .ref ((u 7)) :: .ref ((u 8)) :: .ref ((u 9)) :: .ref ((u 10)) :: .ref ((u 11)) :: .ref ((u 12)) :: .ref ((u 13)) :: .int 0 :: .int 0 :: .int (-1) :: .int 0 :: .int (-1) :: .int 0 :: .ref ((u 14)) :: .int 0 :: .int 0 :: .int 0 :: .int 0 :: .int 0 :: .ref ((u 15)) :: .ref ((u 16)) :: .int 0 :: .int (-1) :: .int 0 :: .int 0 :: .int 0 :: .int 0 :: .ref ((u 17)) :: .ref ((u 18)) :: .ref ((u 19)) :: .int 0 :: .ref ((u 20)) :: .ref ((u 21)) :: .int 0 :: .ref ((u 22)) :: .int (-1) :: .int 0 :: .ref ((u 23)) :: .int (-1) :: .int (-1) :: .int 0 :: .ref ((u 24)) :: .ref ((u 25)) :: .int 0 :: [])) rfl 1) [0] [1] 0 rfl rfl rfl rfl (by decide) rfl rfl hl.1 rfl (Nat.le_of_ble_eq_true rfl) ⟨Nat.le_of_ble_eq_true rfl, Nat.le_of_ble_eq_true rfl⟩ ⟨Nat.le_of_ble_eq_true rfl, Nat.le_of_ble_eq_true rfl⟩ dX12_mend_42 (fun r31 u32 H locs hp30 h => ?_)
          have h : xS D cy A s.heap ([(((u 2)), .inl (cy 1, 4, .inl (upd (upd (upd (upd (fun _ => 0) 0 (-1)) 1 (-1)) 2 (-1)) 3 (-1))))]) s H locs := h
          obtain rfl : r31 = (-1) := hp30
          exact x_iret F h hr hlk rfl (fun _ => 0) [] (rfl) (by decide +kernel) rfl (Nat.le_of_ble_eq_true rfl) (Nat.le_of_ble_eq_true rfl) dX12_mend_45
        · refine lv_istore (lv' := [(5, .int 2), (0, .ref q), (1, .int sc), (2, .int t), (3, .int n), (4, .int k)]) F.1 F.2.1 dX12_mend_32 hl (by decide) rfl (fun ls hl => ?_)
          refine lv_iload F.1 F.2.1 dX12_mend_34 (lv_at hl 0 rfl) ?_
          refine lv_if_le (tgt := 46) F.1 F.2.1 dX12_mend_36 (by decide) (fun hc => absurd hc (by decide)) (fun _ => ?_)
          refine lv_aload_n F.1 F.2.1 dX12_mend_39 rfl (lv_at hl 1 rfl) ?_
          refine lv_iload F.1 F.2.1 dX12_mend_40 (lv_at hl 0 rfl) ?_
          refine x_Vi (wr := [(((u 2)), .inl (cy 1, 4, .inl (upd (upd (upd (upd (fun _ => 0) 0 (-1)) 1 (-1)) 2 (-1)) 3 (-1))))]) F h yk_X12_refuse mw_452 mw_453 mw_454 (c_m_refuse l D cy q ((.ref ((u 0)) :: .int 0 :: .long 0 :: .long 1 :: .ref ((u 1)) :: .ref ((u 2)) :: .ref ((u 3)) :: .ref ((u 4)) :: .ref ((u 5)) :: .int 0 :: .int 0 :: .int 0 :: .int 0 :: .int 0 :: .int 0 :: .int (-1) :: .int (-1) :: .int 0 :: .ref ((u 6)) :: .int 0 :: .int 0 :: .ref ((u 7)) :: .ref ((u 8)) :: .ref ((u 9)) :: .ref ((u 10)) :: .ref ((u 11)) :: .ref ((u 12)) :: .ref ((u 13)) :: .int 0 :: .int 0 :: .int (-1) :: .int 0 :: .int (-1) :: .int 0 :: .ref ((u 14)) :: .int 0 :: .int 0 :: .int 0 :: .int 0 :: .int 0 :: .ref ((u 15)) :: .ref ((u 16)) :: .int 0 :: .int (-1) :: .int 0 :: .int 0 :: .int 0 :: .int 0 :: .ref ((u 17)) :: .ref ((u 18)) :: .ref ((u 19)) :: .int 0 :: .ref ((u 20)) :: .ref ((u 21)) :: .int 0 :: .ref ((u 22)) :: .int (-1) :: .int 0 :: .ref ((u 23)) :: .int (-1) :: .int (-1) :: .int 0 :: .ref ((u 24)) :: .ref ((u 25)) :: .int 0 :: [])) rfl 2) [0] [1] 0 rfl rfl rfl rfl (by decide) rfl rfl hl.1 rfl (Nat.le_of_ble_eq_true rfl) ⟨Nat.le_of_ble_eq_true rfl, Nat.le_of_ble_eq_true rfl⟩ ⟨Nat.le_of_ble_eq_true rfl, Nat.le_of_ble_eq_true rfl⟩ dX12_mend_42 (fun r34 u35 H locs hp33 h => ?_)
          have h : xS D cy A s.heap ([(((u 2)), .inl (cy 1, 4, .inl (upd (upd (upd (upd (fun _ => 0) 0 (-1)) 1 (-1)) 2 (-1)) 3 (-1))))]) s H locs := h
          obtain rfl : r34 = (-1) := hp33
          exact x_iret F h hr hlk rfl (fun _ => 0) [] (rfl) (by decide +kernel) rfl (Nat.le_of_ble_eq_true rfl) (Nat.le_of_ble_eq_true rfl) dX12_mend_45
      · refine lv_iconst (v := 1) F.1 F.2.1 dX12_mend_20 (by decide) ?_
        refine lv_goto (tgt := 25) F.1 F.2.1 dX12_mend_21 (by decide) ?_
        refine lv_iload_n F.1 F.2.1 dX12_mend_25 rfl (lv_at hl 2 rfl) ?_
        refine lv_iload_n F.1 F.2.1 dX12_mend_26 rfl (lv_at hl 3 rfl) ?_
        refine lv_bipush (v := 16) F.1 F.2.1 dX12_mend_27 (by decide) ?_
        refine x_Vi (wr := []) F h yk_X12_wrongLines mw_1183 mw_1184 mw_1185 (c_m_wrongLines l D cy q u 1 t n 16) [1, 0] [] 1 rfl rfl rfl rfl (by decide) rfl rfl hl.1 rfl (Nat.le_of_ble_eq_true rfl) ⟨Nat.le_of_ble_eq_true rfl, Nat.le_of_ble_eq_true rfl⟩ ⟨Nat.le_of_ble_eq_true rfl, Nat.le_of_ble_eq_true rfl⟩ dX12_mend_29 (fun r37 u38 H locs hp36 h => ?_)
        have h : xS D cy A s.heap ([(q, .inr (12, (.ref ((u 0)) :: .int 0 :: .long 0 :: .long 1 :: .ref ((u 1)) :: .ref ((u 2)) :: .ref ((u 3)) :: .ref ((u 4)) :: .ref ((u 5)) :: .int 0 :: .int 0 :: .int 0 :: .int 0 :: .int 0 :: .int 0 :: .int (-1) :: .int (-1) :: .int 0 :: .ref ((u 6)) :: .int 0 :: .int 0 :: .ref ((u 7)) :: .ref ((u 8)) :: .ref ((u 9)) :: .ref ((u 10)) :: .ref ((u 11)) :: .ref ((u 12)) :: .ref ((u 13)) :: .int 0 :: .int 0 :: .int (-1) :: .int 0 :: .int (-1) :: .int 0 :: .ref ((u 14)) :: .int 0 :: .int 0 :: .int 0 :: .int 0 :: .int 0 :: .ref ((u 15)) :: .ref ((u 16)) :: .int 0 :: .int (-1) :: .int 0 :: .int 0 :: .int 0 :: .int 0 :: .ref ((u 17)) :: .ref ((u 18)) :: .ref ((u 19)) :: .int 0 :: .ref ((u 20)) :: .ref ((u 21)) :: .int 0 :: .ref ((u 22)) :: .int (-1) :: .int 0 :: .ref ((u 23)) :: .int (-1) :: .int (-1) :: .int 0 :: .ref ((u 24)) :: .ref ((u 25)) :: .int 0 :: []))), (((u 2)), .inl (cy 1, 4, .inl (upd (upd (upd (upd (fun _ => 0) 0 (-1)) 1 (-1)) 2 (-1)) 3 (-1))))]) s H locs := h
        rcases hp36 with rfl | rfl
        · refine lv_istore (lv' := [(5, .int 1), (0, .ref q), (1, .int sc), (2, .int t), (3, .int n), (4, .int k)]) F.1 F.2.1 dX12_mend_32 hl (by decide) rfl (fun ls hl => ?_)
          refine lv_iload F.1 F.2.1 dX12_mend_34 (lv_at hl 0 rfl) ?_
          refine lv_if_le (tgt := 46) F.1 F.2.1 dX12_mend_36 (by decide) (fun hc => absurd hc (by decide)) (fun _ => ?_)
          refine lv_aload_n F.1 F.2.1 dX12_mend_39 rfl (lv_at hl 1 rfl) ?_
          refine lv_iload F.1 F.2.1 dX12_mend_40 (lv_at hl 0 rfl) ?_
          refine x_Vi (wr := [(((u 2)), .inl (cy 1, 4, .inl (upd (upd (upd (upd (fun _ => 0) 0 (-1)) 1 (-1)) 2 (-1)) 3 (-1))))]) F h yk_X12_refuse mw_452 mw_453 mw_454 (c_m_refuse l D cy q ((.ref ((u 0)) :: .int 0 :: .long 0 :: .long 1 :: .ref ((u 1)) :: .ref ((u 2)) :: .ref ((u 3)) :: .ref ((u 4)) :: .ref ((u 5)) :: .int 0 :: .int 0 :: .int 0 :: .int 0 :: .int 0 :: .int 0 :: .int (-1) :: .int (-1) :: .int 0 :: .ref ((u 6)) :: .int 0 :: .int 0 :: .ref ((u 7)) :: .ref ((u 8)) :: .ref ((u 9)) :: .ref ((u 10)) :: .ref ((u 11)) :: .ref ((u 12)) :: .ref ((u 13)) :: .int 0 :: .int 0 :: .int (-1) :: .int 0 :: .int (-1) :: .int 0 :: .ref ((u 14)) :: .int 0 :: .int 0 :: .int 0 :: .int 0 :: .int 0 :: .ref ((u 15)) :: .ref ((u 16)) :: .int 0 :: .int (-1) :: .int 0 :: .int 0 :: .int 0 :: .int 0 :: .ref ((u 17)) :: .ref ((u 18)) :: .ref ((u 19)) :: .int 0 :: .ref ((u 20)) :: .ref ((u 21)) :: .int 0 :: .ref ((u 22)) :: .int (-1) :: .int 0 :: .ref ((u 23)) :: .int (-1) :: .int (-1) :: .int 0 :: .ref ((u 24)) :: .ref ((u 25)) :: .int 0 :: [])) rfl 1) [0] [1] 0 rfl rfl rfl rfl (by decide) rfl rfl hl.1 rfl (Nat.le_of_ble_eq_true rfl) ⟨Nat.le_of_ble_eq_true rfl, Nat.le_of_ble_eq_true rfl⟩ ⟨Nat.le_of_ble_eq_true rfl, Nat.le_of_ble_eq_true rfl⟩ dX12_mend_42 (fun r40 u41 H locs hp39 h => ?_)
          have h : xS D cy A s.heap ([(((u 2)), .inl (cy 1, 4, .inl (upd (upd (upd (upd (fun _ => 0) 0 (-1)) 1 (-1)) 2 (-1)) 3 (-1))))]) s H locs := h
          obtain rfl : r40 = (-1) := hp39
          exact x_iret F h hr hlk rfl (fun _ => 0) [] (rfl) (by decide +kernel) rfl (Nat.le_of_ble_eq_true rfl) (Nat.le_of_ble_eq_true rfl) dX12_mend_45
        · refine lv_istore (lv' := [(5, .int 2), (0, .ref q), (1, .int sc), (2, .int t), (3, .int n), (4, .int k)]) F.1 F.2.1 dX12_mend_32 hl (by decide) rfl (fun ls hl => ?_)
          refine lv_iload F.1 F.2.1 dX12_mend_34 (lv_at hl 0 rfl) ?_
          refine lv_if_le (tgt := 46) F.1 F.2.1 dX12_mend_36 (by decide) (fun hc => absurd hc (by decide)) (fun _ => ?_)
          refine lv_aload_n F.1 F.2.1 dX12_mend_39 rfl (lv_at hl 1 rfl) ?_
          refine lv_iload F.1 F.2.1 dX12_mend_40 (lv_at hl 0 rfl) ?_
          refine x_Vi (wr := [(((u 2)), .inl (cy 1, 4, .inl (upd (upd (upd (upd (fun _ => 0) 0 (-1)) 1 (-1)) 2 (-1)) 3 (-1))))]) F h yk_X12_refuse mw_452 mw_453 mw_454 (c_m_refuse l D cy q ((.ref ((u 0)) :: .int 0 :: .long 0 :: .long 1 :: .ref ((u 1)) :: .ref ((u 2)) :: .ref ((u 3)) :: .ref ((u 4)) :: .ref ((u 5)) :: .int 0 :: .int 0 :: .int 0 :: .int 0 :: .int 0 :: .int 0 :: .int (-1) :: .int (-1) :: .int 0 :: .ref ((u 6)) :: .int 0 :: .int 0 :: .ref ((u 7)) :: .ref ((u 8)) :: .ref ((u 9)) :: .ref ((u 10)) :: .ref ((u 11)) :: .ref ((u 12)) :: .ref ((u 13)) :: .int 0 :: .int 0 :: .int (-1) :: .int 0 :: .int (-1) :: .int 0 :: .ref ((u 14)) :: .int 0 :: .int 0 :: .int 0 :: .int 0 :: .int 0 :: .ref ((u 15)) :: .ref ((u 16)) :: .int 0 :: .int (-1) :: .int 0 :: .int 0 :: .int 0 :: .int 0 :: .ref ((u 17)) :: .ref ((u 18)) :: .ref ((u 19)) :: .int 0 :: .ref ((u 20)) :: .ref ((u 21)) :: .int 0 :: .ref ((u 22)) :: .int (-1) :: .int 0 :: .ref ((u 23)) :: .int (-1) :: .int (-1) :: .int 0 :: .ref ((u 24)) :: .ref ((u 25)) :: .int 0 :: [])) rfl 2) [0] [1] 0 rfl rfl rfl rfl (by decide) rfl rfl hl.1 rfl (Nat.le_of_ble_eq_true rfl) ⟨Nat.le_of_ble_eq_true rfl, Nat.le_of_ble_eq_true rfl⟩ ⟨Nat.le_of_ble_eq_true rfl, Nat.le_of_ble_eq_true rfl⟩ dX12_mend_42 (fun r43 u44 H locs hp42 h => ?_)
          have h : xS D cy A s.heap ([(((u 2)), .inl (cy 1, 4, .inl (upd (upd (upd (upd (fun _ => 0) 0 (-1)) 1 (-1)) 2 (-1)) 3 (-1))))]) s H locs := h
          obtain rfl : r43 = (-1) := hp42
          exact x_iret F h hr hlk rfl (fun _ => 0) [] (rfl) (by decide +kernel) rfl (Nat.le_of_ble_eq_true rfl) (Nat.le_of_ble_eq_true rfl) dX12_mend_45
set_option maxHeartbeats 4000000 in
set_option maxRecDepth 100000 in
theorem c_m_doubt (l : Launch) (D : va_G) (cy : Nat → ClassId) (q : Nat) (u : Nat → Nat) (k : Int32) : ∀ sz, Met l yX12_doubt (Cond.code yX12_doubt cX12_doubt 3 (some .int) :: wsL_law) { frames := 1, cells := 0, slots := 0, locals := 21 } (va_Pc [.ref q, .int k] (xP D cy ([mM q u 0 0 0 (-1) 0]) sz)) (va_Qi (fun r _ => r = (-1)) (xB D (va_A ([mM q u 0 0 0 (-1) 0]) sz) (fun _ => [])) (va_A ([mM q u 0 0 0 (-1) 0]) sz)) 0 0 (va_A ([mM q u 0 0 0 (-1) 0]) sz) := by
  refine x_enter (fun A => va_Qi (fun r _ => r = (-1)) (xB D A (fun _ => [])) A) (by decide +kernel) rfl (Nat.le_of_ble_eq_true rfl) ?_
  intro p e s m below meth c A ls F hr hlk hin h hl
  have hl : lv_has ls 3 [(0, .ref q), (1, .int k)] := hl
  have h : xS D cy A s.heap ([(q, .inr (12, (.ref ((u 0)) :: .int 0 :: .long 0 :: .long 1 :: .ref ((u 1)) :: .ref ((u 2)) :: .ref ((u 3)) :: .ref ((u 4)) :: .ref ((u 5)) :: .int 0 :: .int 0 :: .int 0 :: .int 0 :: .int 0 :: .int 0 :: .int (-1) :: .int (-1) :: .int 0 :: .ref ((u 6)) :: .int 0 :: .int 0 :: .ref ((u 7)) :: .ref ((u 8)) :: .ref ((u 9)) :: .ref ((u 10)) :: .ref ((u 11)) :: .ref ((u 12)) :: .ref ((u 13)) :: .int 0 :: .int 0 :: .int (-1) :: .int 0 :: .int (-1) :: .int 0 :: .ref ((u 14)) :: .int 0 :: .int 0 :: .int 0 :: .int 0 :: .int 0 :: .ref ((u 15)) :: .ref ((u 16)) :: .int 0 :: .int (-1) :: .int 0 :: .int 0 :: .int 0 :: .int 0 :: .ref ((u 17)) :: .ref ((u 18)) :: .ref ((u 19)) :: .int 0 :: .ref ((u 20)) :: .ref ((u 21)) :: .int 0 :: .ref ((u 22)) :: .int (-1) :: .int 0 :: .ref ((u 23)) :: .int (-1) :: .int (-1) :: .int 0 :: .ref ((u 24)) :: .ref ((u 25)) :: .int 0 :: [])))]) s s.heap [] := h
  refine lv_iload_n F.1 F.2.1 dX12_doubt_0 rfl (lv_at hl 1 rfl) ?_
  refine lv_iconst (v := 1) F.1 F.2.1 dX12_doubt_1 (by decide) ?_
  refine lv_icmp_lt (tgt := 11) F.1 F.2.1 dX12_doubt_2 (by decide) (fun hc1 => ?_) (fun hc1 => ?_)
  · refine lv_aload_n F.1 F.2.1 dX12_doubt_11 rfl (lv_at hl 0 rfl) ?_
    refine lv_iconst (v := 1) F.1 F.2.1 dX12_doubt_12 (by decide) ?_
    refine x_Vi (wr := []) F h yk_X12_refuse mw_452 mw_453 mw_454 (c_m_refuse l D cy q ((.ref ((u 0)) :: .int 0 :: .long 0 :: .long 1 :: .ref ((u 1)) :: .ref ((u 2)) :: .ref ((u 3)) :: .ref ((u 4)) :: .ref ((u 5)) :: .int 0 :: .int 0 :: .int 0 :: .int 0 :: .int 0 :: .int 0 :: .int (-1) :: .int (-1) :: .int 0 :: .ref ((u 6)) :: .int 0 :: .int 0 :: .ref ((u 7)) :: .ref ((u 8)) :: .ref ((u 9)) :: .ref ((u 10)) :: .ref ((u 11)) :: .ref ((u 12)) :: .ref ((u 13)) :: .int 0 :: .int 0 :: .int (-1) :: .int 0 :: .int (-1) :: .int 0 :: .ref ((u 14)) :: .int 0 :: .int 0 :: .int 0 :: .int 0 :: .int 0 :: .ref ((u 15)) :: .ref ((u 16)) :: .int 0 :: .int (-1) :: .int 0 :: .int 0 :: .int 0 :: .int 0 :: .ref ((u 17)) :: .ref ((u 18)) :: .ref ((u 19)) :: .int 0 :: .ref ((u 20)) :: .ref ((u 21)) :: .int 0 :: .ref ((u 22)) :: .int (-1) :: .int 0 :: .ref ((u 23)) :: .int (-1) :: .int (-1) :: .int 0 :: .ref ((u 24)) :: .ref ((u 25)) :: .int 0 :: [])) rfl 1) [0] [] 0 rfl rfl rfl rfl (by decide) rfl rfl hl.1 rfl (Nat.le_of_ble_eq_true rfl) ⟨Nat.le_of_ble_eq_true rfl, Nat.le_of_ble_eq_true rfl⟩ ⟨Nat.le_of_ble_eq_true rfl, Nat.le_of_ble_eq_true rfl⟩ dX12_doubt_13 (fun r3 u4 H locs hp2 h => ?_)
    have h : xS D cy A s.heap ([]) s H locs := h
    obtain rfl : r3 = (-1) := hp2
    exact x_iret F h hr hlk rfl (fun _ => 0) [] (rfl) (by decide +kernel) rfl (Nat.le_of_ble_eq_true rfl) (Nat.le_of_ble_eq_true rfl) dX12_doubt_16
  · refine lv_iload_n F.1 F.2.1 dX12_doubt_5 rfl (lv_at hl 1 rfl) ?_
    refine lv_bipush (v := 9) F.1 F.2.1 dX12_doubt_6 (by decide) ?_
    refine lv_icmp_le (tgt := 17) F.1 F.2.1 dX12_doubt_8 (by decide) (fun hc5 => ?_) (fun hc5 => ?_)
    · refine lv_iconst (v := 0) F.1 F.2.1 dX12_doubt_17 (by decide) ?_
      refine lv_istore_n (lv' := [(2, .int 0), (0, .ref q), (1, .int k)]) F.1 F.2.1 dX12_doubt_18 rfl hl (by decide) rfl (fun ls hl => ?_)
      refine lv_iload_n F.1 F.2.1 dX12_doubt_19 rfl (lv_at hl 0 rfl) ?_
      refine lv_aload_n F.1 F.2.1 dX12_doubt_20 rfl (lv_at hl 1 rfl) ?_
      refine x_get F h 0 51 inlX12 rfl (by decide) mw_773 dX12_doubt_21 rfl rfl ?_
      refine lv_icmp_ge (tgt := 48) F.1 F.2.1 dX12_doubt_24 (by decide) (fun _ => ?_) (fun hc => absurd (by decide) hc)
      refine lv_aload_n F.1 F.2.1 dX12_doubt_48 rfl (lv_at hl 1 rfl) ?_
      refine lv_iconst (v := (-1)) F.1 F.2.1 dX12_doubt_49 (by decide) ?_
      refine x_Vi (wr := []) F h yk_X12_gives mw_499 mw_500 mw_501 (c_m_gives l D cy q ((.ref ((u 0)) :: .int 0 :: .long 0 :: .long 1 :: .ref ((u 1)) :: .ref ((u 2)) :: .ref ((u 3)) :: .ref ((u 4)) :: .ref ((u 5)) :: .int 0 :: .int 0 :: .int 0 :: .int 0 :: .int 0 :: .int 0 :: .int (-1) :: .int (-1) :: .int 0 :: .ref ((u 6)) :: .int 0 :: .int 0 :: .ref ((u 7)) :: .ref ((u 8)) :: .ref ((u 9)) :: .ref ((u 10)) :: .ref ((u 11)) :: .ref ((u 12)) :: .ref ((u 13)) :: .int 0 :: .int 0 :: .int (-1) :: .int 0 :: .int (-1) :: .int 0 :: .ref ((u 14)) :: .int 0 :: .int 0 :: .int 0 :: .int 0 :: .int 0 :: .ref ((u 15)) :: .ref ((u 16)) :: .int 0 :: .int (-1) :: .int 0 :: .int 0 :: .int 0 :: .int 0 :: .ref ((u 17)) :: .ref ((u 18)) :: .ref ((u 19)) :: .int 0 :: .ref ((u 20)) :: .ref ((u 21)) :: .int 0 :: .ref ((u 22)) :: .int (-1) :: .int 0 :: .ref ((u 23)) :: .int (-1) :: .int (-1) :: .int 0 :: .ref ((u 24)) :: .ref ((u 25)) :: .int 0 :: [])) rfl (-1)) [0] [] 0 rfl rfl rfl rfl (by decide) rfl rfl hl.1 rfl (Nat.le_of_ble_eq_true rfl) ⟨Nat.le_of_ble_eq_true rfl, Nat.le_of_ble_eq_true rfl⟩ ⟨Nat.le_of_ble_eq_true rfl, Nat.le_of_ble_eq_true rfl⟩ dX12_doubt_50 (fun r7 u8 H locs hp6 h => ?_)
      have h : xS D cy A s.heap ([]) s H locs := h
      obtain rfl : r7 = (-1) := hp6
      exact x_iret F h hr hlk rfl (fun _ => 0) [] (rfl) (by decide +kernel) rfl (Nat.le_of_ble_eq_true rfl) (Nat.le_of_ble_eq_true rfl) dX12_doubt_53
    · refine lv_aload_n F.1 F.2.1 dX12_doubt_11 rfl (lv_at hl 0 rfl) ?_
      refine lv_iconst (v := 1) F.1 F.2.1 dX12_doubt_12 (by decide) ?_
      refine x_Vi (wr := []) F h yk_X12_refuse mw_452 mw_453 mw_454 (c_m_refuse l D cy q ((.ref ((u 0)) :: .int 0 :: .long 0 :: .long 1 :: .ref ((u 1)) :: .ref ((u 2)) :: .ref ((u 3)) :: .ref ((u 4)) :: .ref ((u 5)) :: .int 0 :: .int 0 :: .int 0 :: .int 0 :: .int 0 :: .int 0 :: .int (-1) :: .int (-1) :: .int 0 :: .ref ((u 6)) :: .int 0 :: .int 0 :: .ref ((u 7)) :: .ref ((u 8)) :: .ref ((u 9)) :: .ref ((u 10)) :: .ref ((u 11)) :: .ref ((u 12)) :: .ref ((u 13)) :: .int 0 :: .int 0 :: .int (-1) :: .int 0 :: .int (-1) :: .int 0 :: .ref ((u 14)) :: .int 0 :: .int 0 :: .int 0 :: .int 0 :: .int 0 :: .ref ((u 15)) :: .ref ((u 16)) :: .int 0 :: .int (-1) :: .int 0 :: .int 0 :: .int 0 :: .int 0 :: .ref ((u 17)) :: .ref ((u 18)) :: .ref ((u 19)) :: .int 0 :: .ref ((u 20)) :: .ref ((u 21)) :: .int 0 :: .ref ((u 22)) :: .int (-1) :: .int 0 :: .ref ((u 23)) :: .int (-1) :: .int (-1) :: .int 0 :: .ref ((u 24)) :: .ref ((u 25)) :: .int 0 :: [])) rfl 1) [0] [] 0 rfl rfl rfl rfl (by decide) rfl rfl hl.1 rfl (Nat.le_of_ble_eq_true rfl) ⟨Nat.le_of_ble_eq_true rfl, Nat.le_of_ble_eq_true rfl⟩ ⟨Nat.le_of_ble_eq_true rfl, Nat.le_of_ble_eq_true rfl⟩ dX12_doubt_13 (fun r10 u11 H locs hp9 h => ?_)
      have h : xS D cy A s.heap ([]) s H locs := h
      obtain rfl : r10 = (-1) := hp9
      exact x_iret F h hr hlk rfl (fun _ => 0) [] (rfl) (by decide +kernel) rfl (Nat.le_of_ble_eq_true rfl) (Nat.le_of_ble_eq_true rfl) dX12_doubt_16
set_option maxHeartbeats 4000000 in
set_option maxRecDepth 100000 in
theorem c_m_odds (l : Launch) (D : va_G) (cy : Nat → ClassId) (q : Nat) (u : Nat → Nat) (of : Int32) : ∀ sz, Met l yX12_odds (Cond.code yX12_odds cX12_odds 12 (some .boolean) :: wsL_law) { frames := 1, cells := 0, slots := 0, locals := 21 } (va_Pc [.ref q, .int of] (xP D cy ([mM q u 0 0 0 (-1) 0]) sz)) (va_Qi (fun r _ => r = if of < 0 ∨ ¬ of ≤ 16 then 0 else 1) (xB D (va_A ([mM q u 0 0 0 (-1) 0]) sz) (fun _ => [])) (va_A ([mM q u 0 0 0 (-1) 0]) sz)) 0 0 (va_A ([mM q u 0 0 0 (-1) 0]) sz) := by
  refine x_enter (fun A => va_Qi (fun r _ => r = if of < 0 ∨ ¬ of ≤ 16 then 0 else 1) (xB D A (fun _ => [])) A) (by decide +kernel) rfl (Nat.le_of_ble_eq_true rfl) ?_
  intro p e s m below meth c A ls F hr hlk hin h hl
  have hl : lv_has ls 12 [(0, .ref q), (1, .int of)] := hl
  have h : xS D cy A s.heap ([(q, .inr (12, (.ref ((u 0)) :: .int 0 :: .long 0 :: .long 1 :: .ref ((u 1)) :: .ref ((u 2)) :: .ref ((u 3)) :: .ref ((u 4)) :: .ref ((u 5)) :: .int 0 :: .int 0 :: .int 0 :: .int 0 :: .int 0 :: .int 0 :: .int (-1) :: .int (-1) :: .int 0 :: .ref ((u 6)) :: .int 0 :: .int 0 :: .ref ((u 7)) :: .ref ((u 8)) :: .ref ((u 9)) :: .ref ((u 10)) :: .ref ((u 11)) :: .ref ((u 12)) :: .ref ((u 13)) :: .int 0 :: .int 0 :: .int (-1) :: .int 0 :: .int (-1) :: .int 0 :: .ref ((u 14)) :: .int 0 :: .int 0 :: .int 0 :: .int 0 :: .int 0 :: .ref ((u 15)) :: .ref ((u 16)) :: .int 0 :: .int (-1) :: .int 0 :: .int 0 :: .int 0 :: .int 0 :: .ref ((u 17)) :: .ref ((u 18)) :: .ref ((u 19)) :: .int 0 :: .ref ((u 20)) :: .ref ((u 21)) :: .int 0 :: .ref ((u 22)) :: .int (-1) :: .int 0 :: .ref ((u 23)) :: .int (-1) :: .int (-1) :: .int 0 :: .ref ((u 24)) :: .ref ((u 25)) :: .int 0 :: [])))]) s s.heap [] := h
  refine lv_iload_n F.1 F.2.1 dX12_odds_0 rfl (lv_at hl 1 rfl) ?_
  refine lv_if_lt (tgt := 10) F.1 F.2.1 dX12_odds_1 (by decide) (fun hc1 => ?_) (fun hc1 => ?_)
  · refine lv_aload_n F.1 F.2.1 dX12_odds_10 rfl (lv_at hl 0 rfl) ?_
    refine lv_iconst (v := 1) F.1 F.2.1 dX12_odds_11 (by decide) ?_
    refine x_Vi (wr := []) F h yk_X12_is mw_286 mw_287 mw_288 (c_m_is l D cy q ((.ref ((u 0)) :: .int 0 :: .long 0 :: .long 1 :: .ref ((u 1)) :: .ref ((u 2)) :: .ref ((u 3)) :: .ref ((u 4)) :: .ref ((u 5)) :: .int 0 :: .int 0 :: .int 0 :: .int 0 :: .int 0 :: .int 0 :: .int (-1) :: .int (-1) :: .int 0 :: .ref ((u 6)) :: .int 0 :: .int 0 :: .ref ((u 7)) :: .ref ((u 8)) :: .ref ((u 9)) :: .ref ((u 10)) :: .ref ((u 11)) :: .ref ((u 12)) :: .ref ((u 13)) :: .int 0 :: .int 0 :: .int (-1) :: .int 0 :: .int (-1) :: .int 0 :: .ref ((u 14)) :: .int 0 :: .int 0 :: .int 0 :: .int 0 :: .int 0 :: .ref ((u 15)) :: .ref ((u 16)) :: .int 0 :: .int (-1) :: .int 0 :: .int 0 :: .int 0 :: .int 0 :: .ref ((u 17)) :: .ref ((u 18)) :: .ref ((u 19)) :: .int 0 :: .ref ((u 20)) :: .ref ((u 21)) :: .int 0 :: .ref ((u 22)) :: .int (-1) :: .int 0 :: .ref ((u 23)) :: .int (-1) :: .int (-1) :: .int 0 :: .ref ((u 24)) :: .ref ((u 25)) :: .int 0 :: [])) rfl 1) [0] [] 0 rfl rfl rfl rfl (by decide) rfl rfl hl.1 rfl (Nat.le_of_ble_eq_true rfl) ⟨Nat.le_of_ble_eq_true rfl, Nat.le_of_ble_eq_true rfl⟩ ⟨Nat.le_of_ble_eq_true rfl, Nat.le_of_ble_eq_true rfl⟩ dX12_odds_12 (fun r3 u4 H locs hp2 h => ?_)
    have h : xS D cy A s.heap ([]) s H locs := h
    obtain rfl : r3 = 0 := (by rw [hp2]; decide)
    exact x_iret F h hr hlk (by decide +kernel) (fun _ => 0) [] (by simp [hc1]) (by decide +kernel) rfl (Nat.le_of_ble_eq_true rfl) (Nat.le_of_ble_eq_true rfl) dX12_odds_15
  · refine lv_iload_n F.1 F.2.1 dX12_odds_4 rfl (lv_at hl 1 rfl) ?_
    refine lv_bipush (v := 16) F.1 F.2.1 dX12_odds_5 (by decide) ?_
    refine lv_icmp_le (tgt := 16) F.1 F.2.1 dX12_odds_7 (by decide) (fun hc5 => ?_) (fun hc5 => ?_)
    · refine lv_lconst (v := 1) F.1 F.2.1 dX12_odds_16 (by decide) ?_
      refine lv_lstore_n (lv' := [(2, .long 1), (0, .ref q), (1, .int of)]) F.1 F.2.1 dX12_odds_17 rfl hl (by decide) rfl (fun ls hl => ?_)
      refine lv_lconst (v := 1) F.1 F.2.1 dX12_odds_18 (by decide) ?_
      refine lv_lstore (lv' := [(4, .long 1), (2, .long 1), (0, .ref q), (1, .int of)]) F.1 F.2.1 dX12_odds_19 hl (by decide) rfl (fun ls hl => ?_)
      refine lv_iconst (v := 0) F.1 F.2.1 dX12_odds_21 (by decide) ?_
      refine lv_istore (lv' := [(6, .int 0), (4, .long 1), (2, .long 1), (0, .ref q), (1, .int of)]) F.1 F.2.1 dX12_odds_22 hl (by decide) rfl (fun ls hl => ?_)
      refine lv_iload F.1 F.2.1 dX12_odds_24 (lv_at hl 0 rfl) ?_
      refine lv_aload_n F.1 F.2.1 dX12_odds_26 rfl (lv_at hl 3 rfl) ?_
      refine x_get F h 0 51 inlX12 rfl (by decide) mw_773 dX12_odds_27 rfl rfl ?_
      refine lv_icmp_ge (tgt := 64) F.1 F.2.1 dX12_odds_30 (by decide) (fun _ => ?_) (fun hc => absurd (by decide) hc)
      refine lv_lload_n F.1 F.2.1 dX12_odds_64 rfl (lv_at hl 2 rfl) ?_
      refine lv_lstore (lv' := [(6, .long 1), (4, .long 1), (2, .long 1), (0, .ref q), (1, .int of)]) F.1 F.2.1 dX12_odds_65 hl (by decide) rfl (fun ls hl => ?_)
      refine lv_lload F.1 F.2.1 dX12_odds_67 (lv_at hl 1 rfl) ?_
      refine lv_lstore (lv' := [(8, .long 1), (6, .long 1), (4, .long 1), (2, .long 1), (0, .ref q), (1, .int of)]) F.1 F.2.1 dX12_odds_69 hl (by decide) rfl (fun ls hl => ?_)
      refine lv_lload F.1 F.2.1 dX12_odds_71 (lv_at hl 0 rfl) ?_
      refine lv_lconst (v := 0) F.1 F.2.1 dX12_odds_73 (by decide) ?_
      refine W.lcmp F.1 F.2.1 dX12_odds_74 ?_
      refine x_topi (y := 1) (by decide +kernel) ?_
      refine lv_if_eq (tgt := 96) F.1 F.2.1 dX12_odds_75 (by decide) (fun hc => absurd hc (by decide)) (fun _ => ?_)
      refine lv_lload F.1 F.2.1 dX12_odds_78 (lv_at hl 1 rfl) ?_
      refine lv_lload F.1 F.2.1 dX12_odds_80 (lv_at hl 0 rfl) ?_
      refine lv_lrem F.1 F.2.1 dX12_odds_82 (by decide) ?_
      refine x_topl (y := 0) (by decide +kernel) ?_
      refine lv_lstore (lv' := [(10, .long 0), (8, .long 1), (6, .long 1), (4, .long 1), (2, .long 1), (0, .ref q), (1, .int of)]) F.1 F.2.1 dX12_odds_83 hl (by decide) rfl (fun ls hl => ?_)
      refine lv_lload F.1 F.2.1 dX12_odds_85 (lv_at hl 1 rfl) ?_
      refine lv_lstore (lv' := [(6, .long 1), (10, .long 0), (8, .long 1), (4, .long 1), (2, .long 1), (0, .ref q), (1, .int of)]) F.1 F.2.1 dX12_odds_87 hl (by decide) rfl (fun ls hl => ?_)
      refine lv_lload F.1 F.2.1 dX12_odds_89 (lv_at hl 1 rfl) ?_
      refine lv_lstore (lv' := [(8, .long 0), (6, .long 1), (10, .long 0), (4, .long 1), (2, .long 1), (0, .ref q), (1, .int of)]) F.1 F.2.1 dX12_odds_91 hl (by decide) rfl (fun ls hl => ?_)
      refine lv_goto (tgt := 71) F.1 F.2.1 dX12_odds_93 (by decide) ?_
      refine lv_lload F.1 F.2.1 dX12_odds_71 (lv_at hl 0 rfl) ?_
      refine lv_lconst (v := 0) F.1 F.2.1 dX12_odds_73 (by decide) ?_
      refine W.lcmp F.1 F.2.1 dX12_odds_74 ?_
      refine x_topi (y := 0) (by decide +kernel) ?_
      refine lv_if_eq (tgt := 96) F.1 F.2.1 dX12_odds_75 (by decide) (fun _ => ?_) (fun hc => absurd (by decide) hc)
      refine lv_aload_n F.1 F.2.1 dX12_odds_96 rfl (lv_at hl 5 rfl) ?_
      refine lv_lload_n F.1 F.2.1 dX12_odds_97 rfl (lv_at hl 4 rfl) ?_
      refine lv_lload F.1 F.2.1 dX12_odds_98 (lv_at hl 1 rfl) ?_
      refine lv_ldiv F.1 F.2.1 dX12_odds_100 (by decide) ?_
      refine x_topl (y := 1) (by decide +kernel) ?_
      refine x_put F h 0 2 inlX12 tyX12_ok nmX12 rfl (by decide) mw_255 dX12_odds_101 rfl rfl rfl rfl (Nat.le_of_ble_eq_true rfl) (ws' := [(q, .inr (12, (.ref ((u 0)) :: .int 0 :: .long 1 :: .long 1 :: .ref ((u 1)) :: .ref ((u 2)) :: .ref ((u 3)) :: .ref ((u 4)) :: .ref ((u 5)) :: .int 0 :: .int 0 :: .int 0 :: .int 0 :: .int 0 :: .int 0 :: .int (-1) :: .int (-1) :: .int 0 :: .ref ((u 6)) :: .int 0 :: .int 0 :: .ref ((u 7)) :: .ref ((u 8)) :: .ref ((u 9)) :: .ref ((u 10)) :: .ref ((u 11)) :: .ref ((u 12)) :: .ref ((u 13)) :: .int 0 :: .int 0 :: .int (-1) :: .int 0 :: .int (-1) :: .int 0 :: .ref ((u 14)) :: .int 0 :: .int 0 :: .int 0 :: .int 0 :: .int 0 :: .ref ((u 15)) :: .ref ((u 16)) :: .int 0 :: .int (-1) :: .int 0 :: .int 0 :: .int 0 :: .int 0 :: .ref ((u 17)) :: .ref ((u 18)) :: .ref ((u 19)) :: .int 0 :: .ref ((u 20)) :: .ref ((u 21)) :: .int 0 :: .ref ((u 22)) :: .int (-1) :: .int 0 :: .ref ((u 23)) :: .int (-1) :: .int (-1) :: .int 0 :: .ref ((u 24)) :: .ref ((u 25)) :: .int 0 :: [])))]) rfl (fun H locs h => ?_)
      refine lv_aload_n F.1 F.2.1 dX12_odds_104 rfl (lv_at hl 5 rfl) ?_
      refine lv_lload F.1 F.2.1 dX12_odds_105 (lv_at hl 3 rfl) ?_
      refine lv_lload F.1 F.2.1 dX12_odds_107 (lv_at hl 1 rfl) ?_
      refine lv_ldiv F.1 F.2.1 dX12_odds_109 (by decide) ?_
      refine x_topl (y := 1) (by decide +kernel) ?_
      refine x_put F h 0 3 inlX12 tyX12_ok nmX12 rfl (by decide) mw_203 dX12_odds_110 rfl rfl rfl rfl (Nat.le_of_ble_eq_true rfl) (ws' := [(q, .inr (12, (.ref ((u 0)) :: .int 0 :: .long 1 :: .long 1 :: .ref ((u 1)) :: .ref ((u 2)) :: .ref ((u 3)) :: .ref ((u 4)) :: .ref ((u 5)) :: .int 0 :: .int 0 :: .int 0 :: .int 0 :: .int 0 :: .int 0 :: .int (-1) :: .int (-1) :: .int 0 :: .ref ((u 6)) :: .int 0 :: .int 0 :: .ref ((u 7)) :: .ref ((u 8)) :: .ref ((u 9)) :: .ref ((u 10)) :: .ref ((u 11)) :: .ref ((u 12)) :: .ref ((u 13)) :: .int 0 :: .int 0 :: .int (-1) :: .int 0 :: .int (-1) :: .int 0 :: .ref ((u 14)) :: .int 0 :: .int 0 :: .int 0 :: .int 0 :: .int 0 :: .ref ((u 15)) :: .ref ((u 16)) :: .int 0 :: .int (-1) :: .int 0 :: .int 0 :: .int 0 :: .int 0 :: .ref ((u 17)) :: .ref ((u 18)) :: .ref ((u 19)) :: .int 0 :: .ref ((u 20)) :: .ref ((u 21)) :: .int 0 :: .ref ((u 22)) :: .int (-1) :: .int 0 :: .ref ((u 23)) :: .int (-1) :: .int (-1) :: .int 0 :: .ref ((u 24)) :: .ref ((u 25)) :: .int 0 :: [])))]) rfl (fun H locs h => ?_)
      refine lv_aload_n F.1 F.2.1 dX12_odds_113 rfl (lv_at hl 5 rfl) ?_
      refine lv_iconst (v := 0) F.1 F.2.1 dX12_odds_114 (by decide) ?_
      refine x_Vi (wr := []) F h yk_X12_is mw_286 mw_287 mw_288 (c_m_is l D cy q ((.ref ((u 0)) :: .int 0 :: .long 1 :: .long 1 :: .ref ((u 1)) :: .ref ((u 2)) :: .ref ((u 3)) :: .ref ((u 4)) :: .ref ((u 5)) :: .int 0 :: .int 0 :: .int 0 :: .int 0 :: .int 0 :: .int 0 :: .int (-1) :: .int (-1) :: .int 0 :: .ref ((u 6)) :: .int 0 :: .int 0 :: .ref ((u 7)) :: .ref ((u 8)) :: .ref ((u 9)) :: .ref ((u 10)) :: .ref ((u 11)) :: .ref ((u 12)) :: .ref ((u 13)) :: .int 0 :: .int 0 :: .int (-1) :: .int 0 :: .int (-1) :: .int 0 :: .ref ((u 14)) :: .int 0 :: .int 0 :: .int 0 :: .int 0 :: .int 0 :: .ref ((u 15)) :: .ref ((u 16)) :: .int 0 :: .int (-1) :: .int 0 :: .int 0 :: .int 0 :: .int 0 :: .ref ((u 17)) :: .ref ((u 18)) :: .ref ((u 19)) :: .int 0 :: .ref ((u 20)) :: .ref ((u 21)) :: .int 0 :: .ref ((u 22)) :: .int (-1) :: .int 0 :: .ref ((u 23)) :: .int (-1) :: .int (-1) :: .int 0 :: .ref ((u 24)) :: .ref ((u 25)) :: .int 0 :: [])) rfl 0) [0] [] 0 rfl rfl rfl rfl (by decide) rfl rfl hl.1 rfl (Nat.le_of_ble_eq_true rfl) ⟨Nat.le_of_ble_eq_true rfl, Nat.le_of_ble_eq_true rfl⟩ ⟨Nat.le_of_ble_eq_true rfl, Nat.le_of_ble_eq_true rfl⟩ dX12_odds_115 (fun r7 u8 H locs hp6 h => ?_)
      have h : xS D cy A s.heap ([]) s H locs := h
      obtain rfl : r7 = 1 := (by rw [hp6]; decide)
      exact x_iret F h hr hlk (by decide +kernel) (fun _ => 0) [] (by simp [hc1, hc5]) (by decide +kernel) rfl (Nat.le_of_ble_eq_true rfl) (Nat.le_of_ble_eq_true rfl) dX12_odds_118
    · refine lv_aload_n F.1 F.2.1 dX12_odds_10 rfl (lv_at hl 0 rfl) ?_
      refine lv_iconst (v := 1) F.1 F.2.1 dX12_odds_11 (by decide) ?_
      refine x_Vi (wr := []) F h yk_X12_is mw_286 mw_287 mw_288 (c_m_is l D cy q ((.ref ((u 0)) :: .int 0 :: .long 0 :: .long 1 :: .ref ((u 1)) :: .ref ((u 2)) :: .ref ((u 3)) :: .ref ((u 4)) :: .ref ((u 5)) :: .int 0 :: .int 0 :: .int 0 :: .int 0 :: .int 0 :: .int 0 :: .int (-1) :: .int (-1) :: .int 0 :: .ref ((u 6)) :: .int 0 :: .int 0 :: .ref ((u 7)) :: .ref ((u 8)) :: .ref ((u 9)) :: .ref ((u 10)) :: .ref ((u 11)) :: .ref ((u 12)) :: .ref ((u 13)) :: .int 0 :: .int 0 :: .int (-1) :: .int 0 :: .int (-1) :: .int 0 :: .ref ((u 14)) :: .int 0 :: .int 0 :: .int 0 :: .int 0 :: .int 0 :: .ref ((u 15)) :: .ref ((u 16)) :: .int 0 :: .int (-1) :: .int 0 :: .int 0 :: .int 0 :: .int 0 :: .ref ((u 17)) :: .ref ((u 18)) :: .ref ((u 19)) :: .int 0 :: .ref ((u 20)) :: .ref ((u 21)) :: .int 0 :: .ref ((u 22)) :: .int (-1) :: .int 0 :: .ref ((u 23)) :: .int (-1) :: .int (-1) :: .int 0 :: .ref ((u 24)) :: .ref ((u 25)) :: .int 0 :: [])) rfl 1) [0] [] 0 rfl rfl rfl rfl (by decide) rfl rfl hl.1 rfl (Nat.le_of_ble_eq_true rfl) ⟨Nat.le_of_ble_eq_true rfl, Nat.le_of_ble_eq_true rfl⟩ ⟨Nat.le_of_ble_eq_true rfl, Nat.le_of_ble_eq_true rfl⟩ dX12_odds_12 (fun r10 u11 H locs hp9 h => ?_)
      have h : xS D cy A s.heap ([]) s H locs := h
      obtain rfl : r10 = 0 := (by rw [hp9]; decide)
      exact x_iret F h hr hlk (by decide +kernel) (fun _ => 0) [] (by simp [hc1, hc5]) (by decide +kernel) rfl (Nat.le_of_ble_eq_true rfl) (Nat.le_of_ble_eq_true rfl) dX12_odds_15
set_option maxHeartbeats 4000000 in
set_option maxRecDepth 100000 in
theorem c_m_claim (l : Launch) (D : va_G) (cy : Nat → ClassId) (q : Nat) (u : Nat → Nat) (k : Int32) : ∀ sz, Met l yX12_claim (Cond.code yX12_claim cX12_claim 3 (some .int) :: wsL_law) { frames := 1, cells := 0, slots := 0, locals := 21 } (va_Pc [.ref q, .int k] (xP D cy ([mM q u 0 0 0 (-1) 0]) sz)) (va_Qi (fun r _ => r = (-1)) (xB D (va_A ([mM q u 0 0 0 (-1) 0]) sz) (fun _ => [])) (va_A ([mM q u 0 0 0 (-1) 0]) sz)) 0 0 (va_A ([mM q u 0 0 0 (-1) 0]) sz) := by
  refine x_enter (fun A => va_Qi (fun r _ => r = (-1)) (xB D A (fun _ => [])) A) (by decide +kernel) rfl (Nat.le_of_ble_eq_true rfl) ?_
  intro p e s m below meth c A ls F hr hlk hin h hl
  have hl : lv_has ls 3 [(0, .ref q), (1, .int k)] := hl
  have h : xS D cy A s.heap ([(q, .inr (12, (.ref ((u 0)) :: .int 0 :: .long 0 :: .long 1 :: .ref ((u 1)) :: .ref ((u 2)) :: .ref ((u 3)) :: .ref ((u 4)) :: .ref ((u 5)) :: .int 0 :: .int 0 :: .int 0 :: .int 0 :: .int 0 :: .int 0 :: .int (-1) :: .int (-1) :: .int 0 :: .ref ((u 6)) :: .int 0 :: .int 0 :: .ref ((u 7)) :: .ref ((u 8)) :: .ref ((u 9)) :: .ref ((u 10)) :: .ref ((u 11)) :: .ref ((u 12)) :: .ref ((u 13)) :: .int 0 :: .int 0 :: .int (-1) :: .int 0 :: .int (-1) :: .int 0 :: .ref ((u 14)) :: .int 0 :: .int 0 :: .int 0 :: .int 0 :: .int 0 :: .ref ((u 15)) :: .ref ((u 16)) :: .int 0 :: .int (-1) :: .int 0 :: .int 0 :: .int 0 :: .int 0 :: .ref ((u 17)) :: .ref ((u 18)) :: .ref ((u 19)) :: .int 0 :: .ref ((u 20)) :: .ref ((u 21)) :: .int 0 :: .ref ((u 22)) :: .int (-1) :: .int 0 :: .ref ((u 23)) :: .int (-1) :: .int (-1) :: .int 0 :: .ref ((u 24)) :: .ref ((u 25)) :: .int 0 :: [])))]) s s.heap [] := h
  refine lv_iload_n F.1 F.2.1 dX12_claim_0 rfl (lv_at hl 1 rfl) ?_
  refine lv_if_lt (tgt := 9) F.1 F.2.1 dX12_claim_1 (by decide) (fun hc1 => ?_) (fun hc1 => ?_)
  · refine lv_aload_n F.1 F.2.1 dX12_claim_9 rfl (lv_at hl 0 rfl) ?_
    refine lv_iconst (v := 1) F.1 F.2.1 dX12_claim_10 (by decide) ?_
    refine x_Vi (wr := []) F h yk_X12_refuse mw_452 mw_453 mw_454 (c_m_refuse l D cy q ((.ref ((u 0)) :: .int 0 :: .long 0 :: .long 1 :: .ref ((u 1)) :: .ref ((u 2)) :: .ref ((u 3)) :: .ref ((u 4)) :: .ref ((u 5)) :: .int 0 :: .int 0 :: .int 0 :: .int 0 :: .int 0 :: .int 0 :: .int (-1) :: .int (-1) :: .int 0 :: .ref ((u 6)) :: .int 0 :: .int 0 :: .ref ((u 7)) :: .ref ((u 8)) :: .ref ((u 9)) :: .ref ((u 10)) :: .ref ((u 11)) :: .ref ((u 12)) :: .ref ((u 13)) :: .int 0 :: .int 0 :: .int (-1) :: .int 0 :: .int (-1) :: .int 0 :: .ref ((u 14)) :: .int 0 :: .int 0 :: .int 0 :: .int 0 :: .int 0 :: .ref ((u 15)) :: .ref ((u 16)) :: .int 0 :: .int (-1) :: .int 0 :: .int 0 :: .int 0 :: .int 0 :: .ref ((u 17)) :: .ref ((u 18)) :: .ref ((u 19)) :: .int 0 :: .ref ((u 20)) :: .ref ((u 21)) :: .int 0 :: .ref ((u 22)) :: .int (-1) :: .int 0 :: .ref ((u 23)) :: .int (-1) :: .int (-1) :: .int 0 :: .ref ((u 24)) :: .ref ((u 25)) :: .int 0 :: [])) rfl 1) [0] [] 0 rfl rfl rfl rfl (by decide) rfl rfl hl.1 rfl (Nat.le_of_ble_eq_true rfl) ⟨Nat.le_of_ble_eq_true rfl, Nat.le_of_ble_eq_true rfl⟩ ⟨Nat.le_of_ble_eq_true rfl, Nat.le_of_ble_eq_true rfl⟩ dX12_claim_11 (fun r3 u4 H locs hp2 h => ?_)
    have h : xS D cy A s.heap ([]) s H locs := h
    obtain rfl : r3 = (-1) := hp2
    exact x_iret F h hr hlk rfl (fun _ => 0) [] (rfl) (by decide +kernel) rfl (Nat.le_of_ble_eq_true rfl) (Nat.le_of_ble_eq_true rfl) dX12_claim_14
  · refine lv_iload_n F.1 F.2.1 dX12_claim_4 rfl (lv_at hl 1 rfl) ?_
    refine lv_iconst (v := 3) F.1 F.2.1 dX12_claim_5 (by decide) ?_
    refine lv_icmp_le (tgt := 15) F.1 F.2.1 dX12_claim_6 (by decide) (fun hc5 => ?_) (fun hc5 => ?_)
    · refine lv_iconst (v := 0) F.1 F.2.1 dX12_claim_15 (by decide) ?_
      refine lv_istore_n (lv' := [(2, .int 0), (0, .ref q), (1, .int k)]) F.1 F.2.1 dX12_claim_16 rfl hl (by decide) rfl (fun ls hl => ?_)
      refine lv_iload_n F.1 F.2.1 dX12_claim_17 rfl (lv_at hl 0 rfl) ?_
      refine lv_aload_n F.1 F.2.1 dX12_claim_18 rfl (lv_at hl 1 rfl) ?_
      refine x_get F h 0 51 inlX12 rfl (by decide) mw_773 dX12_claim_19 rfl rfl ?_
      refine lv_icmp_ge (tgt := 46) F.1 F.2.1 dX12_claim_22 (by decide) (fun _ => ?_) (fun hc => absurd (by decide) hc)
      refine lv_aload_n F.1 F.2.1 dX12_claim_46 rfl (lv_at hl 1 rfl) ?_
      refine lv_iconst (v := (-1)) F.1 F.2.1 dX12_claim_47 (by decide) ?_
      refine x_Vi (wr := []) F h yk_X12_gives mw_499 mw_500 mw_501 (c_m_gives l D cy q ((.ref ((u 0)) :: .int 0 :: .long 0 :: .long 1 :: .ref ((u 1)) :: .ref ((u 2)) :: .ref ((u 3)) :: .ref ((u 4)) :: .ref ((u 5)) :: .int 0 :: .int 0 :: .int 0 :: .int 0 :: .int 0 :: .int 0 :: .int (-1) :: .int (-1) :: .int 0 :: .ref ((u 6)) :: .int 0 :: .int 0 :: .ref ((u 7)) :: .ref ((u 8)) :: .ref ((u 9)) :: .ref ((u 10)) :: .ref ((u 11)) :: .ref ((u 12)) :: .ref ((u 13)) :: .int 0 :: .int 0 :: .int (-1) :: .int 0 :: .int (-1) :: .int 0 :: .ref ((u 14)) :: .int 0 :: .int 0 :: .int 0 :: .int 0 :: .int 0 :: .ref ((u 15)) :: .ref ((u 16)) :: .int 0 :: .int (-1) :: .int 0 :: .int 0 :: .int 0 :: .int 0 :: .ref ((u 17)) :: .ref ((u 18)) :: .ref ((u 19)) :: .int 0 :: .ref ((u 20)) :: .ref ((u 21)) :: .int 0 :: .ref ((u 22)) :: .int (-1) :: .int 0 :: .ref ((u 23)) :: .int (-1) :: .int (-1) :: .int 0 :: .ref ((u 24)) :: .ref ((u 25)) :: .int 0 :: [])) rfl (-1)) [0] [] 0 rfl rfl rfl rfl (by decide) rfl rfl hl.1 rfl (Nat.le_of_ble_eq_true rfl) ⟨Nat.le_of_ble_eq_true rfl, Nat.le_of_ble_eq_true rfl⟩ ⟨Nat.le_of_ble_eq_true rfl, Nat.le_of_ble_eq_true rfl⟩ dX12_claim_48 (fun r7 u8 H locs hp6 h => ?_)
      have h : xS D cy A s.heap ([]) s H locs := h
      obtain rfl : r7 = (-1) := hp6
      exact x_iret F h hr hlk rfl (fun _ => 0) [] (rfl) (by decide +kernel) rfl (Nat.le_of_ble_eq_true rfl) (Nat.le_of_ble_eq_true rfl) dX12_claim_51
    · refine lv_aload_n F.1 F.2.1 dX12_claim_9 rfl (lv_at hl 0 rfl) ?_
      refine lv_iconst (v := 1) F.1 F.2.1 dX12_claim_10 (by decide) ?_
      refine x_Vi (wr := []) F h yk_X12_refuse mw_452 mw_453 mw_454 (c_m_refuse l D cy q ((.ref ((u 0)) :: .int 0 :: .long 0 :: .long 1 :: .ref ((u 1)) :: .ref ((u 2)) :: .ref ((u 3)) :: .ref ((u 4)) :: .ref ((u 5)) :: .int 0 :: .int 0 :: .int 0 :: .int 0 :: .int 0 :: .int 0 :: .int (-1) :: .int (-1) :: .int 0 :: .ref ((u 6)) :: .int 0 :: .int 0 :: .ref ((u 7)) :: .ref ((u 8)) :: .ref ((u 9)) :: .ref ((u 10)) :: .ref ((u 11)) :: .ref ((u 12)) :: .ref ((u 13)) :: .int 0 :: .int 0 :: .int (-1) :: .int 0 :: .int (-1) :: .int 0 :: .ref ((u 14)) :: .int 0 :: .int 0 :: .int 0 :: .int 0 :: .int 0 :: .ref ((u 15)) :: .ref ((u 16)) :: .int 0 :: .int (-1) :: .int 0 :: .int 0 :: .int 0 :: .int 0 :: .ref ((u 17)) :: .ref ((u 18)) :: .ref ((u 19)) :: .int 0 :: .ref ((u 20)) :: .ref ((u 21)) :: .int 0 :: .ref ((u 22)) :: .int (-1) :: .int 0 :: .ref ((u 23)) :: .int (-1) :: .int (-1) :: .int 0 :: .ref ((u 24)) :: .ref ((u 25)) :: .int 0 :: [])) rfl 1) [0] [] 0 rfl rfl rfl rfl (by decide) rfl rfl hl.1 rfl (Nat.le_of_ble_eq_true rfl) ⟨Nat.le_of_ble_eq_true rfl, Nat.le_of_ble_eq_true rfl⟩ ⟨Nat.le_of_ble_eq_true rfl, Nat.le_of_ble_eq_true rfl⟩ dX12_claim_11 (fun r10 u11 H locs hp9 h => ?_)
      have h : xS D cy A s.heap ([]) s H locs := h
      obtain rfl : r10 = (-1) := hp9
      exact x_iret F h hr hlk rfl (fun _ => 0) [] (rfl) (by decide +kernel) rfl (Nat.le_of_ble_eq_true rfl) (Nat.le_of_ble_eq_true rfl) dX12_claim_14
set_option maxHeartbeats 4000000 in
set_option maxRecDepth 100000 in
theorem c_m_least (l : Launch) (D : va_G) (cy : Nat → ClassId) (q : Nat) (u : Nat → Nat) (sc : Int32) (t : Int32) (n : Int32) : ∀ sz, Met l yX12_least (Cond.code yX12_least cX12_least 8 (some .int) :: wsL_law) { frames := 2, cells := 0, slots := 0, locals := 46 } (va_Pc [.ref q, .int sc, .int t, .int n] (xP D cy ([mM q u 0 0 0 (-1) 0, mA_at cy u, mA_trayMany cy u]) sz)) (va_Qi (fun r _ => r = (-1)) (xB D (va_A ([mM q u 0 0 0 (-1) 0, mA_at cy u, mA_trayMany cy u]) sz) (fun _ => [])) (va_A ([mM q u 0 0 0 (-1) 0, mA_at cy u, mA_trayMany cy u]) sz)) 0 0 (va_A ([mM q u 0 0 0 (-1) 0, mA_at cy u, mA_trayMany cy u]) sz) := by
  refine x_enter (fun A => va_Qi (fun r _ => r = (-1)) (xB D A (fun _ => [])) A) (by decide +kernel) rfl (Nat.le_of_ble_eq_true rfl) ?_
  intro p e s m below meth c A ls F hr hlk hin h hl
  have hl : lv_has ls 8 [(0, .ref q), (1, .int sc), (2, .int t), (3, .int n)] := hl
  have h : xS D cy A s.heap ([(q, .inr (12, (.ref ((u 0)) :: .int 0 :: .long 0 :: .long 1 :: .ref ((u 1)) :: .ref ((u 2)) :: .ref ((u 3)) :: .ref ((u 4)) :: .ref ((u 5)) :: .int 0 :: .int 0 :: .int 0 :: .int 0 :: .int 0 :: .int 0 :: .int (-1) :: .int (-1) :: .int 0 :: .ref ((u 6)) :: .int 0 :: .int 0 :: .ref ((u 7)) :: .ref ((u 8)) :: .ref ((u 9)) :: .ref ((u 10)) :: .ref ((u 11)) :: .ref ((u 12)) :: .ref ((u 13)) :: .int 0 :: .int 0 :: .int (-1) :: .int 0 :: .int (-1) :: .int 0 :: .ref ((u 14)) :: .int 0 :: .int 0 :: .int 0 :: .int 0 :: .int 0 :: .ref ((u 15)) :: .ref ((u 16)) :: .int 0 :: .int (-1) :: .int 0 :: .int 0 :: .int 0 :: .int 0 :: .ref ((u 17)) :: .ref ((u 18)) :: .ref ((u 19)) :: .int 0 :: .ref ((u 20)) :: .ref ((u 21)) :: .int 0 :: .ref ((u 22)) :: .int (-1) :: .int 0 :: .ref ((u 23)) :: .int (-1) :: .int (-1) :: .int 0 :: .ref ((u 24)) :: .ref ((u 25)) :: .int 0 :: []))), (((u 0)), .inl (cy 2, 25710, .inr (.inl (fun _ => 0)))), (((u 2)), .inl (cy 1, 4, .inl (upd (upd (upd (upd (fun _ => 0) 0 (-1)) 1 (-1)) 2 (-1)) 3 (-1))))]) s s.heap [] := h
  refine lv_aload_n F.1 F.2.1 dX12_least_0 rfl (lv_at hl 0 rfl) ?_
  refine lv_iload_n F.1 F.2.1 dX12_least_1 rfl (lv_at hl 1 rfl) ?_
  refine x_Vi (wr := [(((u 0)), .inl (cy 2, 25710, .inr (.inl (fun _ => 0)))), (((u 2)), .inl (cy 1, 4, .inl (upd (upd (upd (upd (fun _ => 0) 0 (-1)) 1 (-1)) 2 (-1)) 3 (-1))))]) F h yk_X12_isScript mw_635 mw_636 mw_637 (c_m_isScript l D cy q ((.ref ((u 0)) :: .int 0 :: .long 0 :: .long 1 :: .ref ((u 1)) :: .ref ((u 2)) :: .ref ((u 3)) :: .ref ((u 4)) :: .ref ((u 5)) :: .int 0 :: .int 0 :: .int 0 :: .int 0 :: .int 0 :: .int 0 :: .int (-1) :: .int (-1) :: .int 0 :: .ref ((u 6)) :: .int 0 :: .int 0 :: .ref ((u 7)) :: .ref ((u 8)) :: .ref ((u 9)) :: .ref ((u 10)) :: .ref ((u 11)) :: .ref ((u 12)) :: .ref ((u 13)) :: .int 0 :: .int 0 :: .int (-1) :: .int 0 :: .int (-1) :: .int 0 :: .ref ((u 14)) :: .int 0 :: .int 0 :: .int 0 :: .int 0 :: .int 0 :: .ref ((u 15)) :: .ref ((u 16)) :: .int 0 :: .int (-1) :: .int 0 :: .int 0 :: .int 0 :: .int 0 :: .ref ((u 17)) :: .ref ((u 18)) :: .ref ((u 19)) :: .int 0 :: .ref ((u 20)) :: .ref ((u 21)) :: .int 0 :: .ref ((u 22)) :: .int (-1) :: .int 0 :: .ref ((u 23)) :: .int (-1) :: .int (-1) :: .int 0 :: .ref ((u 24)) :: .ref ((u 25)) :: .int 0 :: [])) sc) [0] [1, 2] 0 rfl rfl rfl rfl (by decide) rfl rfl hl.1 rfl (Nat.le_of_ble_eq_true rfl) ⟨Nat.le_of_ble_eq_true rfl, Nat.le_of_ble_eq_true rfl⟩ ⟨Nat.le_of_ble_eq_true rfl, Nat.le_of_ble_eq_true rfl⟩ dX12_least_2 (fun r2 u3 H locs hp1 h => ?_)
  have h : xS D cy A s.heap ([(((u 0)), .inl (cy 2, 25710, .inr (.inl (fun _ => 0)))), (((u 2)), .inl (cy 1, 4, .inl (upd (upd (upd (upd (fun _ => 0) 0 (-1)) 1 (-1)) 2 (-1)) 3 (-1)))), (q, .inr (12, (.ref ((u 0)) :: .int 0 :: .long 0 :: .long 1 :: .ref ((u 1)) :: .ref ((u 2)) :: .ref ((u 3)) :: .ref ((u 4)) :: .ref ((u 5)) :: .int 0 :: .int 0 :: .int 0 :: .int 0 :: .int 0 :: .int 0 :: .int (-1) :: .int (-1) :: .int 0 :: .ref ((u 6)) :: .int 0 :: .int 0 :: .ref ((u 7)) :: .ref ((u 8)) :: .ref ((u 9)) :: .ref ((u 10)) :: .ref ((u 11)) :: .ref ((u 12)) :: .ref ((u 13)) :: .int 0 :: .int 0 :: .int (-1) :: .int 0 :: .int (-1) :: .int 0 :: .ref ((u 14)) :: .int 0 :: .int 0 :: .int 0 :: .int 0 :: .int 0 :: .ref ((u 15)) :: .ref ((u 16)) :: .int 0 :: .int (-1) :: .int 0 :: .int 0 :: .int 0 :: .int 0 :: .ref ((u 17)) :: .ref ((u 18)) :: .ref ((u 19)) :: .int 0 :: .ref ((u 20)) :: .ref ((u 21)) :: .int 0 :: .ref ((u 22)) :: .int (-1) :: .int 0 :: .ref ((u 23)) :: .int (-1) :: .int (-1) :: .int 0 :: .ref ((u 24)) :: .ref ((u 25)) :: .int 0 :: [])))]) s H locs := h
  rcases x_tr (n := 3) hp1 with ⟨rfl, ht4⟩ | ⟨rfl, ht5, ht6⟩
  · refine lv_if_eq (tgt := 26) F.1 F.2.1 dX12_least_5 (by decide) (fun _ => ?_) (fun hc => absurd (by decide) hc)
    refine lv_aload_n F.1 F.2.1 dX12_least_26 rfl (lv_at hl 0 rfl) ?_
    refine lv_iconst (v := 1) F.1 F.2.1 dX12_least_27 (by decide) ?_
    refine x_Vi (wr := [(((u 0)), .inl (cy 2, 25710, .inr (.inl (fun _ => 0)))), (((u 2)), .inl (cy 1, 4, .inl (upd (upd (upd (upd (fun _ => 0) 0 (-1)) 1 (-1)) 2 (-1)) 3 (-1))))]) F h yk_X12_refuse mw_452 mw_453 mw_454 (c_m_refuse l D cy q ((.ref ((u 0)) :: .int 0 :: .long 0 :: .long 1 :: .ref ((u 1)) :: .ref ((u 2)) :: .ref ((u 3)) :: .ref ((u 4)) :: .ref ((u 5)) :: .int 0 :: .int 0 :: .int 0 :: .int 0 :: .int 0 :: .int 0 :: .int (-1) :: .int (-1) :: .int 0 :: .ref ((u 6)) :: .int 0 :: .int 0 :: .ref ((u 7)) :: .ref ((u 8)) :: .ref ((u 9)) :: .ref ((u 10)) :: .ref ((u 11)) :: .ref ((u 12)) :: .ref ((u 13)) :: .int 0 :: .int 0 :: .int (-1) :: .int 0 :: .int (-1) :: .int 0 :: .ref ((u 14)) :: .int 0 :: .int 0 :: .int 0 :: .int 0 :: .int 0 :: .ref ((u 15)) :: .ref ((u 16)) :: .int 0 :: .int (-1) :: .int 0 :: .int 0 :: .int 0 :: .int 0 :: .ref ((u 17)) :: .ref ((u 18)) :: .ref ((u 19)) :: .int 0 :: .ref ((u 20)) :: .ref ((u 21)) :: .int 0 :: .ref ((u 22)) :: .int (-1) :: .int 0 :: .ref ((u 23)) :: .int (-1) :: .int (-1) :: .int 0 :: .ref ((u 24)) :: .ref ((u 25)) :: .int 0 :: [])) rfl 1) [2] [0, 1] 2 rfl rfl rfl rfl (by decide) rfl rfl hl.1 rfl (Nat.le_of_ble_eq_true rfl) ⟨Nat.le_of_ble_eq_true rfl, Nat.le_of_ble_eq_true rfl⟩ ⟨Nat.le_of_ble_eq_true rfl, Nat.le_of_ble_eq_true rfl⟩ dX12_least_28 (fun r8 u9 H locs hp7 h => ?_)
    have h : xS D cy A s.heap ([(((u 0)), .inl (cy 2, 25710, .inr (.inl (fun _ => 0)))), (((u 2)), .inl (cy 1, 4, .inl (upd (upd (upd (upd (fun _ => 0) 0 (-1)) 1 (-1)) 2 (-1)) 3 (-1))))]) s H locs := h
    obtain rfl : r8 = (-1) := hp7
    exact x_iret F h hr hlk rfl (fun _ => 0) [] (rfl) (by decide +kernel) rfl (Nat.le_of_ble_eq_true rfl) (Nat.le_of_ble_eq_true rfl) dX12_least_31
  · refine lv_if_eq (tgt := 26) F.1 F.2.1 dX12_least_5 (by decide) (fun hc => absurd hc (by decide)) (fun _ => ?_)
    refine lv_iload_n F.1 F.2.1 dX12_least_8 rfl (lv_at hl 2 rfl) ?_
    refine x_St F h yk_X12_isTray mw_283 mw_284 (c_m_isTray l D cy t) hl.1 rfl (Nat.le_of_ble_eq_true rfl) ⟨Nat.le_of_ble_eq_true rfl, Nat.le_of_ble_eq_true rfl⟩ ⟨Nat.le_of_ble_eq_true rfl, Nat.le_of_ble_eq_true rfl⟩ dX12_least_9 (fun r11 u12 H locs hp10 h => ?_)
    rcases x_tr (n := 4) hp10 with ⟨rfl, ht13⟩ | ⟨rfl, ht14, ht15⟩
    · refine lv_if_eq (tgt := 26) F.1 F.2.1 dX12_least_12 (by decide) (fun _ => ?_) (fun hc => absurd (by decide) hc)
      refine lv_aload_n F.1 F.2.1 dX12_least_26 rfl (lv_at hl 0 rfl) ?_
      refine lv_iconst (v := 1) F.1 F.2.1 dX12_least_27 (by decide) ?_
      refine x_Vi (wr := [(((u 0)), .inl (cy 2, 25710, .inr (.inl (fun _ => 0)))), (((u 2)), .inl (cy 1, 4, .inl (upd (upd (upd (upd (fun _ => 0) 0 (-1)) 1 (-1)) 2 (-1)) 3 (-1))))]) F h yk_X12_refuse mw_452 mw_453 mw_454 (c_m_refuse l D cy q ((.ref ((u 0)) :: .int 0 :: .long 0 :: .long 1 :: .ref ((u 1)) :: .ref ((u 2)) :: .ref ((u 3)) :: .ref ((u 4)) :: .ref ((u 5)) :: .int 0 :: .int 0 :: .int 0 :: .int 0 :: .int 0 :: .int 0 :: .int (-1) :: .int (-1) :: .int 0 :: .ref ((u 6)) :: .int 0 :: .int 0 :: .ref ((u 7)) :: .ref ((u 8)) :: .ref ((u 9)) :: .ref ((u 10)) :: .ref ((u 11)) :: .ref ((u 12)) :: .ref ((u 13)) :: .int 0 :: .int 0 :: .int (-1) :: .int 0 :: .int (-1) :: .int 0 :: .ref ((u 14)) :: .int 0 :: .int 0 :: .int 0 :: .int 0 :: .int 0 :: .ref ((u 15)) :: .ref ((u 16)) :: .int 0 :: .int (-1) :: .int 0 :: .int 0 :: .int 0 :: .int 0 :: .ref ((u 17)) :: .ref ((u 18)) :: .ref ((u 19)) :: .int 0 :: .ref ((u 20)) :: .ref ((u 21)) :: .int 0 :: .ref ((u 22)) :: .int (-1) :: .int 0 :: .ref ((u 23)) :: .int (-1) :: .int (-1) :: .int 0 :: .ref ((u 24)) :: .ref ((u 25)) :: .int 0 :: [])) rfl 1) [2] [0, 1] 2 rfl rfl rfl rfl (by decide) rfl rfl hl.1 rfl (Nat.le_of_ble_eq_true rfl) ⟨Nat.le_of_ble_eq_true rfl, Nat.le_of_ble_eq_true rfl⟩ ⟨Nat.le_of_ble_eq_true rfl, Nat.le_of_ble_eq_true rfl⟩ dX12_least_28 (fun r17 u18 H locs hp16 h => ?_)
      have h : xS D cy A s.heap ([(((u 0)), .inl (cy 2, 25710, .inr (.inl (fun _ => 0)))), (((u 2)), .inl (cy 1, 4, .inl (upd (upd (upd (upd (fun _ => 0) 0 (-1)) 1 (-1)) 2 (-1)) 3 (-1))))]) s H locs := h
      obtain rfl : r17 = (-1) := hp16
      exact x_iret F h hr hlk rfl (fun _ => 0) [] (rfl) (by decide +kernel) rfl (Nat.le_of_ble_eq_true rfl) (Nat.le_of_ble_eq_true rfl) dX12_least_31
    · refine lv_if_eq (tgt := 26) F.1 F.2.1 dX12_least_12 (by decide) (fun hc => absurd hc (by decide)) (fun _ => ?_)
      refine lv_iload_n F.1 F.2.1 dX12_least_15 rfl (lv_at hl 3 rfl) ?_
      refine lv_iconst (v := 1) F.1 F.2.1 dX12_least_16 (by decide) ?_
      refine lv_icmp_lt (tgt := 26) F.1 F.2.1 dX12_least_17 (by decide) (fun hc19 => ?_) (fun hc19 => ?_)
      · refine lv_aload_n F.1 F.2.1 dX12_least_26 rfl (lv_at hl 0 rfl) ?_
        refine lv_iconst (v := 1) F.1 F.2.1 dX12_least_27 (by decide) ?_
        refine x_Vi (wr := [(((u 0)), .inl (cy 2, 25710, .inr (.inl (fun _ => 0)))), (((u 2)), .inl (cy 1, 4, .inl (upd (upd (upd (upd (fun _ => 0) 0 (-1)) 1 (-1)) 2 (-1)) 3 (-1))))]) F h yk_X12_refuse mw_452 mw_453 mw_454 (c_m_refuse l D cy q ((.ref ((u 0)) :: .int 0 :: .long 0 :: .long 1 :: .ref ((u 1)) :: .ref ((u 2)) :: .ref ((u 3)) :: .ref ((u 4)) :: .ref ((u 5)) :: .int 0 :: .int 0 :: .int 0 :: .int 0 :: .int 0 :: .int 0 :: .int (-1) :: .int (-1) :: .int 0 :: .ref ((u 6)) :: .int 0 :: .int 0 :: .ref ((u 7)) :: .ref ((u 8)) :: .ref ((u 9)) :: .ref ((u 10)) :: .ref ((u 11)) :: .ref ((u 12)) :: .ref ((u 13)) :: .int 0 :: .int 0 :: .int (-1) :: .int 0 :: .int (-1) :: .int 0 :: .ref ((u 14)) :: .int 0 :: .int 0 :: .int 0 :: .int 0 :: .int 0 :: .ref ((u 15)) :: .ref ((u 16)) :: .int 0 :: .int (-1) :: .int 0 :: .int 0 :: .int 0 :: .int 0 :: .ref ((u 17)) :: .ref ((u 18)) :: .ref ((u 19)) :: .int 0 :: .ref ((u 20)) :: .ref ((u 21)) :: .int 0 :: .ref ((u 22)) :: .int (-1) :: .int 0 :: .ref ((u 23)) :: .int (-1) :: .int (-1) :: .int 0 :: .ref ((u 24)) :: .ref ((u 25)) :: .int 0 :: [])) rfl 1) [2] [0, 1] 2 rfl rfl rfl rfl (by decide) rfl rfl hl.1 rfl (Nat.le_of_ble_eq_true rfl) ⟨Nat.le_of_ble_eq_true rfl, Nat.le_of_ble_eq_true rfl⟩ ⟨Nat.le_of_ble_eq_true rfl, Nat.le_of_ble_eq_true rfl⟩ dX12_least_28 (fun r21 u22 H locs hp20 h => ?_)
        have h : xS D cy A s.heap ([(((u 0)), .inl (cy 2, 25710, .inr (.inl (fun _ => 0)))), (((u 2)), .inl (cy 1, 4, .inl (upd (upd (upd (upd (fun _ => 0) 0 (-1)) 1 (-1)) 2 (-1)) 3 (-1))))]) s H locs := h
        obtain rfl : r21 = (-1) := hp20
        exact x_iret F h hr hlk rfl (fun _ => 0) [] (rfl) (by decide +kernel) rfl (Nat.le_of_ble_eq_true rfl) (Nat.le_of_ble_eq_true rfl) dX12_least_31
      · refine lv_iload_n F.1 F.2.1 dX12_least_20 rfl (lv_at hl 3 rfl) ?_
        refine lv_bipush (v := 15) F.1 F.2.1 dX12_least_21 (by decide) ?_
        refine lv_icmp_le (tgt := 32) F.1 F.2.1 dX12_least_23 (by decide) (fun hc23 => ?_) (fun hc23 => ?_)
        · rcases x_c3 ht5 ht6 with rfl | rfl | rfl
          · refine lv_aload_n F.1 F.2.1 dX12_least_32 rfl (lv_at hl 0 rfl) ?_
            refine x_get F h 2 0 inlX12 rfl (by decide) mw_202 dX12_least_33 rfl rfl ?_
            refine lv_sipush (v := 1650) F.1 F.2.1 dX12_least_36 (by decide) ?_
            refine lv_iload_n F.1 F.2.1 dX12_least_39 rfl (lv_at hl 1 rfl) ?_
            refine lv_imul F.1 F.2.1 dX12_least_40 ?_
            refine x_topi (y := 0) (by decide +kernel) ?_
            refine lv_iconst (v := 1) F.1 F.2.1 dX12_least_41 (by decide) ?_
            refine lv_iadd F.1 F.2.1 dX12_least_42 ?_
            refine x_topi (y := 1) (by decide +kernel) ?_
            refine x_lald (v := 0) F h 0 rfl rfl (x_in (by decide +kernel)) rfl dX12_least_43 ?_
            refine lv_l2i (v := 0) F.1 F.2.1 dX12_least_44 (by decide +kernel) ?_
            refine lv_istore (lv' := [(4, .int 0), (0, .ref q), (1, .int 0), (2, .int t), (3, .int n)]) F.1 F.2.1 dX12_least_45 hl (by decide) rfl (fun ls hl => ?_)
            refine lv_iload F.1 F.2.1 dX12_least_47 (lv_at hl 0 rfl) ?_
            refine lv_bipush (v := 12) F.1 F.2.1 dX12_least_49 (by decide) ?_
            refine lv_icmp_le (tgt := 60) F.1 F.2.1 dX12_least_51 (by decide) (fun _ => ?_) (fun hc => absurd (by decide) hc)
            refine lv_aload_n F.1 F.2.1 dX12_least_60 rfl (lv_at hl 1 rfl) ?_
            refine lv_iconst (v := 1) F.1 F.2.1 dX12_least_61 (by decide) ?_
            refine lv_iload_n F.1 F.2.1 dX12_least_62 rfl (lv_at hl 3 rfl) ?_
            refine lv_iload_n F.1 F.2.1 dX12_least_63 rfl (lv_at hl 4 rfl) ?_
            refine lv_bipush (v := 15) F.1 F.2.1 dX12_least_64 (by decide) ?_
            refine x_Vi (wr := [(((u 0)), .inl (cy 2, 25710, .inr (.inl (fun _ => 0))))]) F h yk_X12_wrongLines mw_1183 mw_1184 mw_1185 (c_m_wrongLines l D cy q u 1 t n 15) [2, 1] [0] 2 rfl rfl rfl rfl (by decide) rfl rfl hl.1 rfl (Nat.le_of_ble_eq_true rfl) ⟨Nat.le_of_ble_eq_true rfl, Nat.le_of_ble_eq_true rfl⟩ ⟨Nat.le_of_ble_eq_true rfl, Nat.le_of_ble_eq_true rfl⟩ dX12_least_66 (fun r25 u26 H locs hp24 h => ?_)
            have h : xS D cy A s.heap ([(((u 0)), .inl (cy 2, 25710, .inr (.inl (fun _ => 0)))), (q, .inr (12, (.ref ((u 0)) :: .int 0 :: .long 0 :: .long 1 :: .ref ((u 1)) :: .ref ((u 2)) :: .ref ((u 3)) :: .ref ((u 4)) :: .ref ((u 5)) :: .int 0 :: .int 0 :: .int 0 :: .int 0 :: .int 0 :: .int 0 :: .int (-1) :: .int (-1) :: .int 0 :: .ref ((u 6)) :: .int 0 :: .int 0 :: .ref ((u 7)) :: .ref ((u 8)) :: .ref ((u 9)) :: .ref ((u 10)) :: .ref ((u 11)) :: .ref ((u 12)) :: .ref ((u 13)) :: .int 0 :: .int 0 :: .int (-1) :: .int 0 :: .int (-1) :: .int 0 :: .ref ((u 14)) :: .int 0 :: .int 0 :: .int 0 :: .int 0 :: .int 0 :: .ref ((u 15)) :: .ref ((u 16)) :: .int 0 :: .int (-1) :: .int 0 :: .int 0 :: .int 0 :: .int 0 :: .ref ((u 17)) :: .ref ((u 18)) :: .ref ((u 19)) :: .int 0 :: .ref ((u 20)) :: .ref ((u 21)) :: .int 0 :: .ref ((u 22)) :: .int (-1) :: .int 0 :: .ref ((u 23)) :: .int (-1) :: .int (-1) :: .int 0 :: .ref ((u 24)) :: .ref ((u 25)) :: .int 0 :: []))), (((u 2)), .inl (cy 1, 4, .inl (upd (upd (upd (upd (fun _ => 0) 0 (-1)) 1 (-1)) 2 (-1)) 3 (-1))))]) s H locs := h
            rcases hp24 with rfl | rfl
            · refine lv_istore (lv' := [(5, .int 1), (4, .int 0), (0, .ref q), (1, .int 0), (2, .int t), (3, .int n)]) F.1 F.2.1 dX12_least_69 hl (by decide) rfl (fun ls hl => ?_)
              refine lv_iload F.1 F.2.1 dX12_least_71 (lv_at hl 0 rfl) ?_
              refine lv_if_le (tgt := 83) F.1 F.2.1 dX12_least_73 (by decide) (fun hc => absurd hc (by decide)) (fun _ => ?_)
              refine lv_aload_n F.1 F.2.1 dX12_least_76 rfl (lv_at hl 2 rfl) ?_
              refine lv_iload F.1 F.2.1 dX12_least_77 (lv_at hl 0 rfl) ?_
              refine x_Vi (wr := [(((u 0)), .inl (cy 2, 25710, .inr (.inl (fun _ => 0)))), (((u 2)), .inl (cy 1, 4, .inl (upd (upd (upd (upd (fun _ => 0) 0 (-1)) 1 (-1)) 2 (-1)) 3 (-1))))]) F h yk_X12_refuse mw_452 mw_453 mw_454 (c_m_refuse l D cy q ((.ref ((u 0)) :: .int 0 :: .long 0 :: .long 1 :: .ref ((u 1)) :: .ref ((u 2)) :: .ref ((u 3)) :: .ref ((u 4)) :: .ref ((u 5)) :: .int 0 :: .int 0 :: .int 0 :: .int 0 :: .int 0 :: .int 0 :: .int (-1) :: .int (-1) :: .int 0 :: .ref ((u 6)) :: .int 0 :: .int 0 :: .ref ((u 7)) :: .ref ((u 8)) :: .ref ((u 9)) :: .ref ((u 10)) :: .ref ((u 11)) :: .ref ((u 12)) :: .ref ((u 13)) :: .int 0 :: .int 0 :: .int (-1) :: .int 0 :: .int (-1) :: .int 0 :: .ref ((u 14)) :: .int 0 :: .int 0 :: .int 0 :: .int 0 :: .int 0 :: .ref ((u 15)) :: .ref ((u 16)) :: .int 0 :: .int (-1) :: .int 0 :: .int 0 :: .int 0 :: .int 0 :: .ref ((u 17)) :: .ref ((u 18)) :: .ref ((u 19)) :: .int 0 :: .ref ((u 20)) :: .ref ((u 21)) :: .int 0 :: .ref ((u 22)) :: .int (-1) :: .int 0 :: .ref ((u 23)) :: .int (-1) :: .int (-1) :: .int 0 :: .ref ((u 24)) :: .ref ((u 25)) :: .int 0 :: [])) rfl 1) [1] [0, 2] 1 rfl rfl rfl rfl (by decide) rfl rfl hl.1 rfl (Nat.le_of_ble_eq_true rfl) ⟨Nat.le_of_ble_eq_true rfl, Nat.le_of_ble_eq_true rfl⟩ ⟨Nat.le_of_ble_eq_true rfl, Nat.le_of_ble_eq_true rfl⟩ dX12_least_79 (fun r28 u29 H locs hp27 h => ?_)
              have h : xS D cy A s.heap ([(((u 0)), .inl (cy 2, 25710, .inr (.inl (fun _ => 0)))), (((u 2)), .inl (cy 1, 4, .inl (upd (upd (upd (upd (fun _ => 0) 0 (-1)) 1 (-1)) 2 (-1)) 3 (-1))))]) s H locs := h
              obtain rfl : r28 = (-1) := hp27
              exact x_iret F h hr hlk rfl (fun _ => 0) [] (rfl) (by decide +kernel) rfl (Nat.le_of_ble_eq_true rfl) (Nat.le_of_ble_eq_true rfl) dX12_least_82
            · refine lv_istore (lv' := [(5, .int 2), (4, .int 0), (0, .ref q), (1, .int 0), (2, .int t), (3, .int n)]) F.1 F.2.1 dX12_least_69 hl (by decide) rfl (fun ls hl => ?_)
              refine lv_iload F.1 F.2.1 dX12_least_71 (lv_at hl 0 rfl) ?_
              refine lv_if_le (tgt := 83) F.1 F.2.1 dX12_least_73 (by decide) (fun hc => absurd hc (by decide)) (fun _ => ?_)
              refine lv_aload_n F.1 F.2.1 dX12_least_76 rfl (lv_at hl 2 rfl) ?_
              refine lv_iload F.1 F.2.1 dX12_least_77 (lv_at hl 0 rfl) ?_
              refine x_Vi (wr := [(((u 0)), .inl (cy 2, 25710, .inr (.inl (fun _ => 0)))), (((u 2)), .inl (cy 1, 4, .inl (upd (upd (upd (upd (fun _ => 0) 0 (-1)) 1 (-1)) 2 (-1)) 3 (-1))))]) F h yk_X12_refuse mw_452 mw_453 mw_454 (c_m_refuse l D cy q ((.ref ((u 0)) :: .int 0 :: .long 0 :: .long 1 :: .ref ((u 1)) :: .ref ((u 2)) :: .ref ((u 3)) :: .ref ((u 4)) :: .ref ((u 5)) :: .int 0 :: .int 0 :: .int 0 :: .int 0 :: .int 0 :: .int 0 :: .int (-1) :: .int (-1) :: .int 0 :: .ref ((u 6)) :: .int 0 :: .int 0 :: .ref ((u 7)) :: .ref ((u 8)) :: .ref ((u 9)) :: .ref ((u 10)) :: .ref ((u 11)) :: .ref ((u 12)) :: .ref ((u 13)) :: .int 0 :: .int 0 :: .int (-1) :: .int 0 :: .int (-1) :: .int 0 :: .ref ((u 14)) :: .int 0 :: .int 0 :: .int 0 :: .int 0 :: .int 0 :: .ref ((u 15)) :: .ref ((u 16)) :: .int 0 :: .int (-1) :: .int 0 :: .int 0 :: .int 0 :: .int 0 :: .ref ((u 17)) :: .ref ((u 18)) :: .ref ((u 19)) :: .int 0 :: .ref ((u 20)) :: .ref ((u 21)) :: .int 0 :: .ref ((u 22)) :: .int (-1) :: .int 0 :: .ref ((u 23)) :: .int (-1) :: .int (-1) :: .int 0 :: .ref ((u 24)) :: .ref ((u 25)) :: .int 0 :: [])) rfl 2) [1] [0, 2] 1 rfl rfl rfl rfl (by decide) rfl rfl hl.1 rfl (Nat.le_of_ble_eq_true rfl) ⟨Nat.le_of_ble_eq_true rfl, Nat.le_of_ble_eq_true rfl⟩ ⟨Nat.le_of_ble_eq_true rfl, Nat.le_of_ble_eq_true rfl⟩ dX12_least_79 (fun r31 u32 H locs hp30 h => ?_)
              have h : xS D cy A s.heap ([(((u 0)), .inl (cy 2, 25710, .inr (.inl (fun _ => 0)))), (((u 2)), .inl (cy 1, 4, .inl (upd (upd (upd (upd (fun _ => 0) 0 (-1)) 1 (-1)) 2 (-1)) 3 (-1))))]) s H locs := h
              obtain rfl : r31 = (-1) := hp30
              exact x_iret F h hr hlk rfl (fun _ => 0) [] (rfl) (by decide +kernel) rfl (Nat.le_of_ble_eq_true rfl) (Nat.le_of_ble_eq_true rfl) dX12_least_82
          · refine lv_aload_n F.1 F.2.1 dX12_least_32 rfl (lv_at hl 0 rfl) ?_
            refine x_get F h 2 0 inlX12 rfl (by decide) mw_202 dX12_least_33 rfl rfl ?_
            refine lv_sipush (v := 1650) F.1 F.2.1 dX12_least_36 (by decide) ?_
            refine lv_iload_n F.1 F.2.1 dX12_least_39 rfl (lv_at hl 1 rfl) ?_
            refine lv_imul F.1 F.2.1 dX12_least_40 ?_
            refine x_topi (y := 1650) (by decide +kernel) ?_
            refine lv_iconst (v := 1) F.1 F.2.1 dX12_least_41 (by decide) ?_
            refine lv_iadd F.1 F.2.1 dX12_least_42 ?_
            refine x_topi (y := 1651) (by decide +kernel) ?_
            refine x_lald (v := 0) F h 0 rfl rfl (x_in (by decide +kernel)) rfl dX12_least_43 ?_
            refine lv_l2i (v := 0) F.1 F.2.1 dX12_least_44 (by decide +kernel) ?_
            refine lv_istore (lv' := [(4, .int 0), (0, .ref q), (1, .int 1), (2, .int t), (3, .int n)]) F.1 F.2.1 dX12_least_45 hl (by decide) rfl (fun ls hl => ?_)
            refine lv_iload F.1 F.2.1 dX12_least_47 (lv_at hl 0 rfl) ?_
            refine lv_bipush (v := 12) F.1 F.2.1 dX12_least_49 (by decide) ?_
            refine lv_icmp_le (tgt := 60) F.1 F.2.1 dX12_least_51 (by decide) (fun _ => ?_) (fun hc => absurd (by decide) hc)
            refine lv_aload_n F.1 F.2.1 dX12_least_60 rfl (lv_at hl 1 rfl) ?_
            refine lv_iconst (v := 1) F.1 F.2.1 dX12_least_61 (by decide) ?_
            refine lv_iload_n F.1 F.2.1 dX12_least_62 rfl (lv_at hl 3 rfl) ?_
            refine lv_iload_n F.1 F.2.1 dX12_least_63 rfl (lv_at hl 4 rfl) ?_
            refine lv_bipush (v := 15) F.1 F.2.1 dX12_least_64 (by decide) ?_
            refine x_Vi (wr := [(((u 0)), .inl (cy 2, 25710, .inr (.inl (fun _ => 0))))]) F h yk_X12_wrongLines mw_1183 mw_1184 mw_1185 (c_m_wrongLines l D cy q u 1 t n 15) [2, 1] [0] 2 rfl rfl rfl rfl (by decide) rfl rfl hl.1 rfl (Nat.le_of_ble_eq_true rfl) ⟨Nat.le_of_ble_eq_true rfl, Nat.le_of_ble_eq_true rfl⟩ ⟨Nat.le_of_ble_eq_true rfl, Nat.le_of_ble_eq_true rfl⟩ dX12_least_66 (fun r34 u35 H locs hp33 h => ?_)
            have h : xS D cy A s.heap ([(((u 0)), .inl (cy 2, 25710, .inr (.inl (fun _ => 0)))), (q, .inr (12, (.ref ((u 0)) :: .int 0 :: .long 0 :: .long 1 :: .ref ((u 1)) :: .ref ((u 2)) :: .ref ((u 3)) :: .ref ((u 4)) :: .ref ((u 5)) :: .int 0 :: .int 0 :: .int 0 :: .int 0 :: .int 0 :: .int 0 :: .int (-1) :: .int (-1) :: .int 0 :: .ref ((u 6)) :: .int 0 :: .int 0 :: .ref ((u 7)) :: .ref ((u 8)) :: .ref ((u 9)) :: .ref ((u 10)) :: .ref ((u 11)) :: .ref ((u 12)) :: .ref ((u 13)) :: .int 0 :: .int 0 :: .int (-1) :: .int 0 :: .int (-1) :: .int 0 :: .ref ((u 14)) :: .int 0 :: .int 0 :: .int 0 :: .int 0 :: .int 0 :: .ref ((u 15)) :: .ref ((u 16)) :: .int 0 :: .int (-1) :: .int 0 :: .int 0 :: .int 0 :: .int 0 :: .ref ((u 17)) :: .ref ((u 18)) :: .ref ((u 19)) :: .int 0 :: .ref ((u 20)) :: .ref ((u 21)) :: .int 0 :: .ref ((u 22)) :: .int (-1) :: .int 0 :: .ref ((u 23)) :: .int (-1) :: .int (-1) :: .int 0 :: .ref ((u 24)) :: .ref ((u 25)) :: .int 0 :: []))), (((u 2)), .inl (cy 1, 4, .inl (upd (upd (upd (upd (fun _ => 0) 0 (-1)) 1 (-1)) 2 (-1)) 3 (-1))))]) s H locs := h
            rcases hp33 with rfl | rfl
            · refine lv_istore (lv' := [(5, .int 1), (4, .int 0), (0, .ref q), (1, .int 1), (2, .int t), (3, .int n)]) F.1 F.2.1 dX12_least_69 hl (by decide) rfl (fun ls hl => ?_)
              refine lv_iload F.1 F.2.1 dX12_least_71 (lv_at hl 0 rfl) ?_
              refine lv_if_le (tgt := 83) F.1 F.2.1 dX12_least_73 (by decide) (fun hc => absurd hc (by decide)) (fun _ => ?_)
              refine lv_aload_n F.1 F.2.1 dX12_least_76 rfl (lv_at hl 2 rfl) ?_
              refine lv_iload F.1 F.2.1 dX12_least_77 (lv_at hl 0 rfl) ?_
              refine x_Vi (wr := [(((u 0)), .inl (cy 2, 25710, .inr (.inl (fun _ => 0)))), (((u 2)), .inl (cy 1, 4, .inl (upd (upd (upd (upd (fun _ => 0) 0 (-1)) 1 (-1)) 2 (-1)) 3 (-1))))]) F h yk_X12_refuse mw_452 mw_453 mw_454 (c_m_refuse l D cy q ((.ref ((u 0)) :: .int 0 :: .long 0 :: .long 1 :: .ref ((u 1)) :: .ref ((u 2)) :: .ref ((u 3)) :: .ref ((u 4)) :: .ref ((u 5)) :: .int 0 :: .int 0 :: .int 0 :: .int 0 :: .int 0 :: .int 0 :: .int (-1) :: .int (-1) :: .int 0 :: .ref ((u 6)) :: .int 0 :: .int 0 :: .ref ((u 7)) :: .ref ((u 8)) :: .ref ((u 9)) :: .ref ((u 10)) :: .ref ((u 11)) :: .ref ((u 12)) :: .ref ((u 13)) :: .int 0 :: .int 0 :: .int (-1) :: .int 0 :: .int (-1) :: .int 0 :: .ref ((u 14)) :: .int 0 :: .int 0 :: .int 0 :: .int 0 :: .int 0 :: .ref ((u 15)) :: .ref ((u 16)) :: .int 0 :: .int (-1) :: .int 0 :: .int 0 :: .int 0 :: .int 0 :: .ref ((u 17)) :: .ref ((u 18)) :: .ref ((u 19)) :: .int 0 :: .ref ((u 20)) :: .ref ((u 21)) :: .int 0 :: .ref ((u 22)) :: .int (-1) :: .int 0 :: .ref ((u 23)) :: .int (-1) :: .int (-1) :: .int 0 :: .ref ((u 24)) :: .ref ((u 25)) :: .int 0 :: [])) rfl 1) [1] [0, 2] 1 rfl rfl rfl rfl (by decide) rfl rfl hl.1 rfl (Nat.le_of_ble_eq_true rfl) ⟨Nat.le_of_ble_eq_true rfl, Nat.le_of_ble_eq_true rfl⟩ ⟨Nat.le_of_ble_eq_true rfl, Nat.le_of_ble_eq_true rfl⟩ dX12_least_79 (fun r37 u38 H locs hp36 h => ?_)
              have h : xS D cy A s.heap ([(((u 0)), .inl (cy 2, 25710, .inr (.inl (fun _ => 0)))), (((u 2)), .inl (cy 1, 4, .inl (upd (upd (upd (upd (fun _ => 0) 0 (-1)) 1 (-1)) 2 (-1)) 3 (-1))))]) s H locs := h
              obtain rfl : r37 = (-1) := hp36
              exact x_iret F h hr hlk rfl (fun _ => 0) [] (rfl) (by decide +kernel) rfl (Nat.le_of_ble_eq_true rfl) (Nat.le_of_ble_eq_true rfl) dX12_least_82
            · refine lv_istore (lv' := [(5, .int 2), (4, .int 0), (0, .ref q), (1, .int 1), (2, .int t), (3, .int n)]) F.1 F.2.1 dX12_least_69 hl (by decide) rfl (fun ls hl => ?_)
              refine lv_iload F.1 F.2.1 dX12_least_71 (lv_at hl 0 rfl) ?_
              refine lv_if_le (tgt := 83) F.1 F.2.1 dX12_least_73 (by decide) (fun hc => absurd hc (by decide)) (fun _ => ?_)
              refine lv_aload_n F.1 F.2.1 dX12_least_76 rfl (lv_at hl 2 rfl) ?_
              refine lv_iload F.1 F.2.1 dX12_least_77 (lv_at hl 0 rfl) ?_
              refine x_Vi (wr := [(((u 0)), .inl (cy 2, 25710, .inr (.inl (fun _ => 0)))), (((u 2)), .inl (cy 1, 4, .inl (upd (upd (upd (upd (fun _ => 0) 0 (-1)) 1 (-1)) 2 (-1)) 3 (-1))))]) F h yk_X12_refuse mw_452 mw_453 mw_454 (c_m_refuse l D cy q ((.ref ((u 0)) :: .int 0 :: .long 0 :: .long 1 :: .ref ((u 1)) :: .ref ((u 2)) :: .ref ((u 3)) :: .ref ((u 4)) :: .ref ((u 5)) :: .int 0 :: .int 0 :: .int 0 :: .int 0 :: .int 0 :: .int 0 :: .int (-1) :: .int (-1) :: .int 0 :: .ref ((u 6)) :: .int 0 :: .int 0 :: .ref ((u 7)) :: .ref ((u 8)) :: .ref ((u 9)) :: .ref ((u 10)) :: .ref ((u 11)) :: .ref ((u 12)) :: .ref ((u 13)) :: .int 0 :: .int 0 :: .int (-1) :: .int 0 :: .int (-1) :: .int 0 :: .ref ((u 14)) :: .int 0 :: .int 0 :: .int 0 :: .int 0 :: .int 0 :: .ref ((u 15)) :: .ref ((u 16)) :: .int 0 :: .int (-1) :: .int 0 :: .int 0 :: .int 0 :: .int 0 :: .ref ((u 17)) :: .ref ((u 18)) :: .ref ((u 19)) :: .int 0 :: .ref ((u 20)) :: .ref ((u 21)) :: .int 0 :: .ref ((u 22)) :: .int (-1) :: .int 0 :: .ref ((u 23)) :: .int (-1) :: .int (-1) :: .int 0 :: .ref ((u 24)) :: .ref ((u 25)) :: .int 0 :: [])) rfl 2) [1] [0, 2] 1 rfl rfl rfl rfl (by decide) rfl rfl hl.1 rfl (Nat.le_of_ble_eq_true rfl) ⟨Nat.le_of_ble_eq_true rfl, Nat.le_of_ble_eq_true rfl⟩ ⟨Nat.le_of_ble_eq_true rfl, Nat.le_of_ble_eq_true rfl⟩ dX12_least_79 (fun r40 u41 H locs hp39 h => ?_)
              have h : xS D cy A s.heap ([(((u 0)), .inl (cy 2, 25710, .inr (.inl (fun _ => 0)))), (((u 2)), .inl (cy 1, 4, .inl (upd (upd (upd (upd (fun _ => 0) 0 (-1)) 1 (-1)) 2 (-1)) 3 (-1))))]) s H locs := h
              obtain rfl : r40 = (-1) := hp39
              exact x_iret F h hr hlk rfl (fun _ => 0) [] (rfl) (by decide +kernel) rfl (Nat.le_of_ble_eq_true rfl) (Nat.le_of_ble_eq_true rfl) dX12_least_82
          · refine lv_aload_n F.1 F.2.1 dX12_least_32 rfl (lv_at hl 0 rfl) ?_
            refine x_get F h 2 0 inlX12 rfl (by decide) mw_202 dX12_least_33 rfl rfl ?_
            refine lv_sipush (v := 1650) F.1 F.2.1 dX12_least_36 (by decide) ?_
            refine lv_iload_n F.1 F.2.1 dX12_least_39 rfl (lv_at hl 1 rfl) ?_
            refine lv_imul F.1 F.2.1 dX12_least_40 ?_
            refine x_topi (y := 3300) (by decide +kernel) ?_
            refine lv_iconst (v := 1) F.1 F.2.1 dX12_least_41 (by decide) ?_
            refine lv_iadd F.1 F.2.1 dX12_least_42 ?_
            refine x_topi (y := 3301) (by decide +kernel) ?_
            refine x_lald (v := 0) F h 0 rfl rfl (x_in (by decide +kernel)) rfl dX12_least_43 ?_
            refine lv_l2i (v := 0) F.1 F.2.1 dX12_least_44 (by decide +kernel) ?_
            refine lv_istore (lv' := [(4, .int 0), (0, .ref q), (1, .int 2), (2, .int t), (3, .int n)]) F.1 F.2.1 dX12_least_45 hl (by decide) rfl (fun ls hl => ?_)
            refine lv_iload F.1 F.2.1 dX12_least_47 (lv_at hl 0 rfl) ?_
            refine lv_bipush (v := 12) F.1 F.2.1 dX12_least_49 (by decide) ?_
            refine lv_icmp_le (tgt := 60) F.1 F.2.1 dX12_least_51 (by decide) (fun _ => ?_) (fun hc => absurd (by decide) hc)
            refine lv_aload_n F.1 F.2.1 dX12_least_60 rfl (lv_at hl 1 rfl) ?_
            refine lv_iconst (v := 1) F.1 F.2.1 dX12_least_61 (by decide) ?_
            refine lv_iload_n F.1 F.2.1 dX12_least_62 rfl (lv_at hl 3 rfl) ?_
            refine lv_iload_n F.1 F.2.1 dX12_least_63 rfl (lv_at hl 4 rfl) ?_
            refine lv_bipush (v := 15) F.1 F.2.1 dX12_least_64 (by decide) ?_
            refine x_Vi (wr := [(((u 0)), .inl (cy 2, 25710, .inr (.inl (fun _ => 0))))]) F h yk_X12_wrongLines mw_1183 mw_1184 mw_1185 (c_m_wrongLines l D cy q u 1 t n 15) [2, 1] [0] 2 rfl rfl rfl rfl (by decide) rfl rfl hl.1 rfl (Nat.le_of_ble_eq_true rfl) ⟨Nat.le_of_ble_eq_true rfl, Nat.le_of_ble_eq_true rfl⟩ ⟨Nat.le_of_ble_eq_true rfl, Nat.le_of_ble_eq_true rfl⟩ dX12_least_66 (fun r43 u44 H locs hp42 h => ?_)
            have h : xS D cy A s.heap ([(((u 0)), .inl (cy 2, 25710, .inr (.inl (fun _ => 0)))), (q, .inr (12, (.ref ((u 0)) :: .int 0 :: .long 0 :: .long 1 :: .ref ((u 1)) :: .ref ((u 2)) :: .ref ((u 3)) :: .ref ((u 4)) :: .ref ((u 5)) :: .int 0 :: .int 0 :: .int 0 :: .int 0 :: .int 0 :: .int 0 :: .int (-1) :: .int (-1) :: .int 0 :: .ref ((u 6)) :: .int 0 :: .int 0 :: .ref ((u 7)) :: .ref ((u 8)) :: .ref ((u 9)) :: .ref ((u 10)) :: .ref ((u 11)) :: .ref ((u 12)) :: .ref ((u 13)) :: .int 0 :: .int 0 :: .int (-1) :: .int 0 :: .int (-1) :: .int 0 :: .ref ((u 14)) :: .int 0 :: .int 0 :: .int 0 :: .int 0 :: .int 0 :: .ref ((u 15)) :: .ref ((u 16)) :: .int 0 :: .int (-1) :: .int 0 :: .int 0 :: .int 0 :: .int 0 :: .ref ((u 17)) :: .ref ((u 18)) :: .ref ((u 19)) :: .int 0 :: .ref ((u 20)) :: .ref ((u 21)) :: .int 0 :: .ref ((u 22)) :: .int (-1) :: .int 0 :: .ref ((u 23)) :: .int (-1) :: .int (-1) :: .int 0 :: .ref ((u 24)) :: .ref ((u 25)) :: .int 0 :: []))), (((u 2)), .inl (cy 1, 4, .inl (upd (upd (upd (upd (fun _ => 0) 0 (-1)) 1 (-1)) 2 (-1)) 3 (-1))))]) s H locs := h
            rcases hp42 with rfl | rfl
            · refine lv_istore (lv' := [(5, .int 1), (4, .int 0), (0, .ref q), (1, .int 2), (2, .int t), (3, .int n)]) F.1 F.2.1 dX12_least_69 hl (by decide) rfl (fun ls hl => ?_)
              refine lv_iload F.1 F.2.1 dX12_least_71 (lv_at hl 0 rfl) ?_
              refine lv_if_le (tgt := 83) F.1 F.2.1 dX12_least_73 (by decide) (fun hc => absurd hc (by decide)) (fun _ => ?_)
              refine lv_aload_n F.1 F.2.1 dX12_least_76 rfl (lv_at hl 2 rfl) ?_
              refine lv_iload F.1 F.2.1 dX12_least_77 (lv_at hl 0 rfl) ?_
              refine x_Vi (wr := [(((u 0)), .inl (cy 2, 25710, .inr (.inl (fun _ => 0)))), (((u 2)), .inl (cy 1, 4, .inl (upd (upd (upd (upd (fun _ => 0) 0 (-1)) 1 (-1)) 2 (-1)) 3 (-1))))]) F h yk_X12_refuse mw_452 mw_453 mw_454 (c_m_refuse l D cy q ((.ref ((u 0)) :: .int 0 :: .long 0 :: .long 1 :: .ref ((u 1)) :: .ref ((u 2)) :: .ref ((u 3)) :: .ref ((u 4)) :: .ref ((u 5)) :: .int 0 :: .int 0 :: .int 0 :: .int 0 :: .int 0 :: .int 0 :: .int (-1) :: .int (-1) :: .int 0 :: .ref ((u 6)) :: .int 0 :: .int 0 :: .ref ((u 7)) :: .ref ((u 8)) :: .ref ((u 9)) :: .ref ((u 10)) :: .ref ((u 11)) :: .ref ((u 12)) :: .ref ((u 13)) :: .int 0 :: .int 0 :: .int (-1) :: .int 0 :: .int (-1) :: .int 0 :: .ref ((u 14)) :: .int 0 :: .int 0 :: .int 0 :: .int 0 :: .int 0 :: .ref ((u 15)) :: .ref ((u 16)) :: .int 0 :: .int (-1) :: .int 0 :: .int 0 :: .int 0 :: .int 0 :: .ref ((u 17)) :: .ref ((u 18)) :: .ref ((u 19)) :: .int 0 :: .ref ((u 20)) :: .ref ((u 21)) :: .int 0 :: .ref ((u 22)) :: .int (-1) :: .int 0 :: .ref ((u 23)) :: .int (-1) :: .int (-1) :: .int 0 :: .ref ((u 24)) :: .ref ((u 25)) :: .int 0 :: [])) rfl 1) [1] [0, 2] 1 rfl rfl rfl rfl (by decide) rfl rfl hl.1 rfl (Nat.le_of_ble_eq_true rfl) ⟨Nat.le_of_ble_eq_true rfl, Nat.le_of_ble_eq_true rfl⟩ ⟨Nat.le_of_ble_eq_true rfl, Nat.le_of_ble_eq_true rfl⟩ dX12_least_79 (fun r46 u47 H locs hp45 h => ?_)
              have h : xS D cy A s.heap ([(((u 0)), .inl (cy 2, 25710, .inr (.inl (fun _ => 0)))), (((u 2)), .inl (cy 1, 4, .inl (upd (upd (upd (upd (fun _ => 0) 0 (-1)) 1 (-1)) 2 (-1)) 3 (-1))))]) s H locs := h
              obtain rfl : r46 = (-1) := hp45
              exact x_iret F h hr hlk rfl (fun _ => 0) [] (rfl) (by decide +kernel) rfl (Nat.le_of_ble_eq_true rfl) (Nat.le_of_ble_eq_true rfl) dX12_least_82
            · refine lv_istore (lv' := [(5, .int 2), (4, .int 0), (0, .ref q), (1, .int 2), (2, .int t), (3, .int n)]) F.1 F.2.1 dX12_least_69 hl (by decide) rfl (fun ls hl => ?_)
              refine lv_iload F.1 F.2.1 dX12_least_71 (lv_at hl 0 rfl) ?_
              refine lv_if_le (tgt := 83) F.1 F.2.1 dX12_least_73 (by decide) (fun hc => absurd hc (by decide)) (fun _ => ?_)
              refine lv_aload_n F.1 F.2.1 dX12_least_76 rfl (lv_at hl 2 rfl) ?_
              refine lv_iload F.1 F.2.1 dX12_least_77 (lv_at hl 0 rfl) ?_
              refine x_Vi (wr := [(((u 0)), .inl (cy 2, 25710, .inr (.inl (fun _ => 0)))), (((u 2)), .inl (cy 1, 4, .inl (upd (upd (upd (upd (fun _ => 0) 0 (-1)) 1 (-1)) 2 (-1)) 3 (-1))))]) F h yk_X12_refuse mw_452 mw_453 mw_454 (c_m_refuse l D cy q ((.ref ((u 0)) :: .int 0 :: .long 0 :: .long 1 :: .ref ((u 1)) :: .ref ((u 2)) :: .ref ((u 3)) :: .ref ((u 4)) :: .ref ((u 5)) :: .int 0 :: .int 0 :: .int 0 :: .int 0 :: .int 0 :: .int 0 :: .int (-1) :: .int (-1) :: .int 0 :: .ref ((u 6)) :: .int 0 :: .int 0 :: .ref ((u 7)) :: .ref ((u 8)) :: .ref ((u 9)) :: .ref ((u 10)) :: .ref ((u 11)) :: .ref ((u 12)) :: .ref ((u 13)) :: .int 0 :: .int 0 :: .int (-1) :: .int 0 :: .int (-1) :: .int 0 :: .ref ((u 14)) :: .int 0 :: .int 0 :: .int 0 :: .int 0 :: .int 0 :: .ref ((u 15)) :: .ref ((u 16)) :: .int 0 :: .int (-1) :: .int 0 :: .int 0 :: .int 0 :: .int 0 :: .ref ((u 17)) :: .ref ((u 18)) :: .ref ((u 19)) :: .int 0 :: .ref ((u 20)) :: .ref ((u 21)) :: .int 0 :: .ref ((u 22)) :: .int (-1) :: .int 0 :: .ref ((u 23)) :: .int (-1) :: .int (-1) :: .int 0 :: .ref ((u 24)) :: .ref ((u 25)) :: .int 0 :: [])) rfl 2) [1] [0, 2] 1 rfl rfl rfl rfl (by decide) rfl rfl hl.1 rfl (Nat.le_of_ble_eq_true rfl) ⟨Nat.le_of_ble_eq_true rfl, Nat.le_of_ble_eq_true rfl⟩ ⟨Nat.le_of_ble_eq_true rfl, Nat.le_of_ble_eq_true rfl⟩ dX12_least_79 (fun r49 u50 H locs hp48 h => ?_)
              have h : xS D cy A s.heap ([(((u 0)), .inl (cy 2, 25710, .inr (.inl (fun _ => 0)))), (((u 2)), .inl (cy 1, 4, .inl (upd (upd (upd (upd (fun _ => 0) 0 (-1)) 1 (-1)) 2 (-1)) 3 (-1))))]) s H locs := h
              obtain rfl : r49 = (-1) := hp48
              exact x_iret F h hr hlk rfl (fun _ => 0) [] (rfl) (by decide +kernel) rfl (Nat.le_of_ble_eq_true rfl) (Nat.le_of_ble_eq_true rfl) dX12_least_82
        · refine lv_aload_n F.1 F.2.1 dX12_least_26 rfl (lv_at hl 0 rfl) ?_
          refine lv_iconst (v := 1) F.1 F.2.1 dX12_least_27 (by decide) ?_
          refine x_Vi (wr := [(((u 0)), .inl (cy 2, 25710, .inr (.inl (fun _ => 0)))), (((u 2)), .inl (cy 1, 4, .inl (upd (upd (upd (upd (fun _ => 0) 0 (-1)) 1 (-1)) 2 (-1)) 3 (-1))))]) F h yk_X12_refuse mw_452 mw_453 mw_454 (c_m_refuse l D cy q ((.ref ((u 0)) :: .int 0 :: .long 0 :: .long 1 :: .ref ((u 1)) :: .ref ((u 2)) :: .ref ((u 3)) :: .ref ((u 4)) :: .ref ((u 5)) :: .int 0 :: .int 0 :: .int 0 :: .int 0 :: .int 0 :: .int 0 :: .int (-1) :: .int (-1) :: .int 0 :: .ref ((u 6)) :: .int 0 :: .int 0 :: .ref ((u 7)) :: .ref ((u 8)) :: .ref ((u 9)) :: .ref ((u 10)) :: .ref ((u 11)) :: .ref ((u 12)) :: .ref ((u 13)) :: .int 0 :: .int 0 :: .int (-1) :: .int 0 :: .int (-1) :: .int 0 :: .ref ((u 14)) :: .int 0 :: .int 0 :: .int 0 :: .int 0 :: .int 0 :: .ref ((u 15)) :: .ref ((u 16)) :: .int 0 :: .int (-1) :: .int 0 :: .int 0 :: .int 0 :: .int 0 :: .ref ((u 17)) :: .ref ((u 18)) :: .ref ((u 19)) :: .int 0 :: .ref ((u 20)) :: .ref ((u 21)) :: .int 0 :: .ref ((u 22)) :: .int (-1) :: .int 0 :: .ref ((u 23)) :: .int (-1) :: .int (-1) :: .int 0 :: .ref ((u 24)) :: .ref ((u 25)) :: .int 0 :: [])) rfl 1) [2] [0, 1] 2 rfl rfl rfl rfl (by decide) rfl rfl hl.1 rfl (Nat.le_of_ble_eq_true rfl) ⟨Nat.le_of_ble_eq_true rfl, Nat.le_of_ble_eq_true rfl⟩ ⟨Nat.le_of_ble_eq_true rfl, Nat.le_of_ble_eq_true rfl⟩ dX12_least_28 (fun r52 u53 H locs hp51 h => ?_)
          have h : xS D cy A s.heap ([(((u 0)), .inl (cy 2, 25710, .inr (.inl (fun _ => 0)))), (((u 2)), .inl (cy 1, 4, .inl (upd (upd (upd (upd (fun _ => 0) 0 (-1)) 1 (-1)) 2 (-1)) 3 (-1))))]) s H locs := h
          obtain rfl : r52 = (-1) := hp51
          exact x_iret F h hr hlk rfl (fun _ => 0) [] (rfl) (by decide +kernel) rfl (Nat.le_of_ble_eq_true rfl) (Nat.le_of_ble_eq_true rfl) dX12_least_31
set_option maxHeartbeats 4000000 in
set_option maxRecDepth 100000 in
theorem c_m_leastSet (l : Launch) (D : va_G) (cy : Nat → ClassId) (q : Nat) (u : Nat → Nat) : ∀ sz, Met l yX12_leastSet (Cond.code yX12_leastSet cX12_leastSet 1 (some .int) :: wsL_law) { frames := 1, cells := 0, slots := 0, locals := 21 } (va_Pc [.ref q] (xP D cy ([mM q u 0 0 0 (-1) 0]) sz)) (va_Qi (fun r _ => r = (-1)) (xB D (va_A ([mM q u 0 0 0 (-1) 0]) sz) (fun _ => [])) (va_A ([mM q u 0 0 0 (-1) 0]) sz)) 0 0 (va_A ([mM q u 0 0 0 (-1) 0]) sz) := by
  refine x_enter (fun A => va_Qi (fun r _ => r = (-1)) (xB D A (fun _ => [])) A) (by decide +kernel) rfl (Nat.le_of_ble_eq_true rfl) ?_
  intro p e s m below meth c A ls F hr hlk hin h hl
  have hl : lv_has ls 1 [(0, .ref q)] := hl
  have h : xS D cy A s.heap ([(q, .inr (12, (.ref ((u 0)) :: .int 0 :: .long 0 :: .long 1 :: .ref ((u 1)) :: .ref ((u 2)) :: .ref ((u 3)) :: .ref ((u 4)) :: .ref ((u 5)) :: .int 0 :: .int 0 :: .int 0 :: .int 0 :: .int 0 :: .int 0 :: .int (-1) :: .int (-1) :: .int 0 :: .ref ((u 6)) :: .int 0 :: .int 0 :: .ref ((u 7)) :: .ref ((u 8)) :: .ref ((u 9)) :: .ref ((u 10)) :: .ref ((u 11)) :: .ref ((u 12)) :: .ref ((u 13)) :: .int 0 :: .int 0 :: .int (-1) :: .int 0 :: .int (-1) :: .int 0 :: .ref ((u 14)) :: .int 0 :: .int 0 :: .int 0 :: .int 0 :: .int 0 :: .ref ((u 15)) :: .ref ((u 16)) :: .int 0 :: .int (-1) :: .int 0 :: .int 0 :: .int 0 :: .int 0 :: .ref ((u 17)) :: .ref ((u 18)) :: .ref ((u 19)) :: .int 0 :: .ref ((u 20)) :: .ref ((u 21)) :: .int 0 :: .ref ((u 22)) :: .int (-1) :: .int 0 :: .ref ((u 23)) :: .int (-1) :: .int (-1) :: .int 0 :: .ref ((u 24)) :: .ref ((u 25)) :: .int 0 :: [])))]) s s.heap [] := h
  refine lv_aload_n F.1 F.2.1 dX12_leastSet_0 rfl (lv_at hl 0 rfl) ?_
  refine x_get F h 0 59 inlX12 rfl (by decide) mw_234 dX12_leastSet_1 rfl rfl ?_
  refine lv_iconst (v := (-1)) F.1 F.2.1 dX12_leastSet_4 (by decide) ?_
  refine lv_icmp_ne (tgt := 17) F.1 F.2.1 dX12_leastSet_5 (by decide) (fun hc => absurd hc (by decide)) (fun _ => ?_)
  refine lv_aload_n F.1 F.2.1 dX12_leastSet_8 rfl (lv_at hl 0 rfl) ?_
  refine lv_bipush (v := 6) F.1 F.2.1 dX12_leastSet_9 (by decide) ?_
  refine x_Vi (wr := []) F h yk_X12_refuse mw_452 mw_453 mw_454 (c_m_refuse l D cy q ((.ref ((u 0)) :: .int 0 :: .long 0 :: .long 1 :: .ref ((u 1)) :: .ref ((u 2)) :: .ref ((u 3)) :: .ref ((u 4)) :: .ref ((u 5)) :: .int 0 :: .int 0 :: .int 0 :: .int 0 :: .int 0 :: .int 0 :: .int (-1) :: .int (-1) :: .int 0 :: .ref ((u 6)) :: .int 0 :: .int 0 :: .ref ((u 7)) :: .ref ((u 8)) :: .ref ((u 9)) :: .ref ((u 10)) :: .ref ((u 11)) :: .ref ((u 12)) :: .ref ((u 13)) :: .int 0 :: .int 0 :: .int (-1) :: .int 0 :: .int (-1) :: .int 0 :: .ref ((u 14)) :: .int 0 :: .int 0 :: .int 0 :: .int 0 :: .int 0 :: .ref ((u 15)) :: .ref ((u 16)) :: .int 0 :: .int (-1) :: .int 0 :: .int 0 :: .int 0 :: .int 0 :: .ref ((u 17)) :: .ref ((u 18)) :: .ref ((u 19)) :: .int 0 :: .ref ((u 20)) :: .ref ((u 21)) :: .int 0 :: .ref ((u 22)) :: .int (-1) :: .int 0 :: .ref ((u 23)) :: .int (-1) :: .int (-1) :: .int 0 :: .ref ((u 24)) :: .ref ((u 25)) :: .int 0 :: [])) rfl 6) [0] [] 0 rfl rfl rfl rfl (by decide) rfl rfl hl.1 rfl (Nat.le_of_ble_eq_true rfl) ⟨Nat.le_of_ble_eq_true rfl, Nat.le_of_ble_eq_true rfl⟩ ⟨Nat.le_of_ble_eq_true rfl, Nat.le_of_ble_eq_true rfl⟩ dX12_leastSet_11 (fun r2 u3 H locs hp1 h => ?_)
  have h : xS D cy A s.heap ([]) s H locs := h
  obtain rfl : r2 = (-1) := hp1
  refine lv_goto (tgt := 25) F.1 F.2.1 dX12_leastSet_14 (by decide) ?_
  exact x_iret F h hr hlk rfl (fun _ => 0) [] (rfl) (by decide +kernel) rfl (Nat.le_of_ble_eq_true rfl) (Nat.le_of_ble_eq_true rfl) dX12_leastSet_25
set_option maxHeartbeats 4000000 in
set_option maxRecDepth 100000 in
theorem c_m_orders (l : Launch) (D : va_G) (cy : Nat → ClassId) (q : Nat) (u : Nat → Nat) (sc : Int32) : ∀ sz, Met l yX12_orders (Cond.code yX12_orders cX12_orders 10 (some .int) :: wsL_law) { frames := 1, cells := 0, slots := 0, locals := 21 } (va_Pc [.ref q, .int sc] (xP D cy ([mM q u 0 0 0 (-1) 0, mA_at cy u]) sz)) (va_Qi (fun r _ => r = (-1)) (xB D (va_A ([mM q u 0 0 0 (-1) 0, mA_at cy u]) sz) (fun _ => [])) (va_A ([mM q u 0 0 0 (-1) 0, mA_at cy u]) sz)) 0 0 (va_A ([mM q u 0 0 0 (-1) 0, mA_at cy u]) sz) := by
  refine x_enter (fun A => va_Qi (fun r _ => r = (-1)) (xB D A (fun _ => [])) A) (by decide +kernel) rfl (Nat.le_of_ble_eq_true rfl) ?_
  intro p e s m below meth c A ls F hr hlk hin h hl
  have hl : lv_has ls 10 [(0, .ref q), (1, .int sc)] := hl
  have h : xS D cy A s.heap ([(q, .inr (12, (.ref ((u 0)) :: .int 0 :: .long 0 :: .long 1 :: .ref ((u 1)) :: .ref ((u 2)) :: .ref ((u 3)) :: .ref ((u 4)) :: .ref ((u 5)) :: .int 0 :: .int 0 :: .int 0 :: .int 0 :: .int 0 :: .int 0 :: .int (-1) :: .int (-1) :: .int 0 :: .ref ((u 6)) :: .int 0 :: .int 0 :: .ref ((u 7)) :: .ref ((u 8)) :: .ref ((u 9)) :: .ref ((u 10)) :: .ref ((u 11)) :: .ref ((u 12)) :: .ref ((u 13)) :: .int 0 :: .int 0 :: .int (-1) :: .int 0 :: .int (-1) :: .int 0 :: .ref ((u 14)) :: .int 0 :: .int 0 :: .int 0 :: .int 0 :: .int 0 :: .ref ((u 15)) :: .ref ((u 16)) :: .int 0 :: .int (-1) :: .int 0 :: .int 0 :: .int 0 :: .int 0 :: .ref ((u 17)) :: .ref ((u 18)) :: .ref ((u 19)) :: .int 0 :: .ref ((u 20)) :: .ref ((u 21)) :: .int 0 :: .ref ((u 22)) :: .int (-1) :: .int 0 :: .ref ((u 23)) :: .int (-1) :: .int (-1) :: .int 0 :: .ref ((u 24)) :: .ref ((u 25)) :: .int 0 :: []))), (((u 0)), .inl (cy 2, 25710, .inr (.inl (fun _ => 0))))]) s s.heap [] := h
  refine lv_aload_n F.1 F.2.1 dX12_orders_0 rfl (lv_at hl 0 rfl) ?_
  refine lv_iload_n F.1 F.2.1 dX12_orders_1 rfl (lv_at hl 1 rfl) ?_
  refine x_Vi (wr := [(((u 0)), .inl (cy 2, 25710, .inr (.inl (fun _ => 0))))]) F h yk_X12_isScript mw_635 mw_636 mw_637 (c_m_isScript l D cy q ((.ref ((u 0)) :: .int 0 :: .long 0 :: .long 1 :: .ref ((u 1)) :: .ref ((u 2)) :: .ref ((u 3)) :: .ref ((u 4)) :: .ref ((u 5)) :: .int 0 :: .int 0 :: .int 0 :: .int 0 :: .int 0 :: .int 0 :: .int (-1) :: .int (-1) :: .int 0 :: .ref ((u 6)) :: .int 0 :: .int 0 :: .ref ((u 7)) :: .ref ((u 8)) :: .ref ((u 9)) :: .ref ((u 10)) :: .ref ((u 11)) :: .ref ((u 12)) :: .ref ((u 13)) :: .int 0 :: .int 0 :: .int (-1) :: .int 0 :: .int (-1) :: .int 0 :: .ref ((u 14)) :: .int 0 :: .int 0 :: .int 0 :: .int 0 :: .int 0 :: .ref ((u 15)) :: .ref ((u 16)) :: .int 0 :: .int (-1) :: .int 0 :: .int 0 :: .int 0 :: .int 0 :: .ref ((u 17)) :: .ref ((u 18)) :: .ref ((u 19)) :: .int 0 :: .ref ((u 20)) :: .ref ((u 21)) :: .int 0 :: .ref ((u 22)) :: .int (-1) :: .int 0 :: .ref ((u 23)) :: .int (-1) :: .int (-1) :: .int 0 :: .ref ((u 24)) :: .ref ((u 25)) :: .int 0 :: [])) sc) [0] [1] 0 rfl rfl rfl rfl (by decide) rfl rfl hl.1 rfl (Nat.le_of_ble_eq_true rfl) ⟨Nat.le_of_ble_eq_true rfl, Nat.le_of_ble_eq_true rfl⟩ ⟨Nat.le_of_ble_eq_true rfl, Nat.le_of_ble_eq_true rfl⟩ dX12_orders_2 (fun r2 u3 H locs hp1 h => ?_)
  have h : xS D cy A s.heap ([(((u 0)), .inl (cy 2, 25710, .inr (.inl (fun _ => 0)))), (q, .inr (12, (.ref ((u 0)) :: .int 0 :: .long 0 :: .long 1 :: .ref ((u 1)) :: .ref ((u 2)) :: .ref ((u 3)) :: .ref ((u 4)) :: .ref ((u 5)) :: .int 0 :: .int 0 :: .int 0 :: .int 0 :: .int 0 :: .int 0 :: .int (-1) :: .int (-1) :: .int 0 :: .ref ((u 6)) :: .int 0 :: .int 0 :: .ref ((u 7)) :: .ref ((u 8)) :: .ref ((u 9)) :: .ref ((u 10)) :: .ref ((u 11)) :: .ref ((u 12)) :: .ref ((u 13)) :: .int 0 :: .int 0 :: .int (-1) :: .int 0 :: .int (-1) :: .int 0 :: .ref ((u 14)) :: .int 0 :: .int 0 :: .int 0 :: .int 0 :: .int 0 :: .ref ((u 15)) :: .ref ((u 16)) :: .int 0 :: .int (-1) :: .int 0 :: .int 0 :: .int 0 :: .int 0 :: .ref ((u 17)) :: .ref ((u 18)) :: .ref ((u 19)) :: .int 0 :: .ref ((u 20)) :: .ref ((u 21)) :: .int 0 :: .ref ((u 22)) :: .int (-1) :: .int 0 :: .ref ((u 23)) :: .int (-1) :: .int (-1) :: .int 0 :: .ref ((u 24)) :: .ref ((u 25)) :: .int 0 :: [])))]) s H locs := h
  rcases x_tr (n := 3) hp1 with ⟨rfl, ht4⟩ | ⟨rfl, ht5, ht6⟩
  · refine lv_if_ne (tgt := 14) F.1 F.2.1 dX12_orders_5 (by decide) (fun hc => absurd hc (by decide)) (fun _ => ?_)
    refine lv_aload_n F.1 F.2.1 dX12_orders_8 rfl (lv_at hl 0 rfl) ?_
    refine lv_iconst (v := 1) F.1 F.2.1 dX12_orders_9 (by decide) ?_
    refine x_Vi (wr := [(((u 0)), .inl (cy 2, 25710, .inr (.inl (fun _ => 0))))]) F h yk_X12_refuse mw_452 mw_453 mw_454 (c_m_refuse l D cy q ((.ref ((u 0)) :: .int 0 :: .long 0 :: .long 1 :: .ref ((u 1)) :: .ref ((u 2)) :: .ref ((u 3)) :: .ref ((u 4)) :: .ref ((u 5)) :: .int 0 :: .int 0 :: .int 0 :: .int 0 :: .int 0 :: .int 0 :: .int (-1) :: .int (-1) :: .int 0 :: .ref ((u 6)) :: .int 0 :: .int 0 :: .ref ((u 7)) :: .ref ((u 8)) :: .ref ((u 9)) :: .ref ((u 10)) :: .ref ((u 11)) :: .ref ((u 12)) :: .ref ((u 13)) :: .int 0 :: .int 0 :: .int (-1) :: .int 0 :: .int (-1) :: .int 0 :: .ref ((u 14)) :: .int 0 :: .int 0 :: .int 0 :: .int 0 :: .int 0 :: .ref ((u 15)) :: .ref ((u 16)) :: .int 0 :: .int (-1) :: .int 0 :: .int 0 :: .int 0 :: .int 0 :: .ref ((u 17)) :: .ref ((u 18)) :: .ref ((u 19)) :: .int 0 :: .ref ((u 20)) :: .ref ((u 21)) :: .int 0 :: .ref ((u 22)) :: .int (-1) :: .int 0 :: .ref ((u 23)) :: .int (-1) :: .int (-1) :: .int 0 :: .ref ((u 24)) :: .ref ((u 25)) :: .int 0 :: [])) rfl 1) [1] [0] 1 rfl rfl rfl rfl (by decide) rfl rfl hl.1 rfl (Nat.le_of_ble_eq_true rfl) ⟨Nat.le_of_ble_eq_true rfl, Nat.le_of_ble_eq_true rfl⟩ ⟨Nat.le_of_ble_eq_true rfl, Nat.le_of_ble_eq_true rfl⟩ dX12_orders_10 (fun r8 u9 H locs hp7 h => ?_)
    have h : xS D cy A s.heap ([(((u 0)), .inl (cy 2, 25710, .inr (.inl (fun _ => 0))))]) s H locs := h
    obtain rfl : r8 = (-1) := hp7
    exact x_iret F h hr hlk rfl (fun _ => 0) [] (rfl) (by decide +kernel) rfl (Nat.le_of_ble_eq_true rfl) (Nat.le_of_ble_eq_true rfl) dX12_orders_13
  · refine lv_if_ne (tgt := 14) F.1 F.2.1 dX12_orders_5 (by decide) (fun _ => ?_) (fun hc => absurd hc (by decide))
    rcases x_c3 ht5 ht6 with rfl | rfl | rfl
    · refine lv_aload_n F.1 F.2.1 dX12_orders_14 rfl (lv_at hl 0 rfl) ?_
      refine x_get F h 1 0 inlX12 rfl (by decide) mw_202 dX12_orders_15 rfl rfl ?_
      refine lv_sipush (v := 1650) F.1 F.2.1 dX12_orders_18 (by decide) ?_
      refine lv_iload_n F.1 F.2.1 dX12_orders_21 rfl (lv_at hl 1 rfl) ?_
      refine lv_imul F.1 F.2.1 dX12_orders_22 ?_
      refine x_topi (y := 0) (by decide +kernel) ?_
      refine lv_iconst (v := 0) F.1 F.2.1 dX12_orders_23 (by decide) ?_
      refine lv_iadd F.1 F.2.1 dX12_orders_24 ?_
      refine x_topi (y := 0) (by decide +kernel) ?_
      refine x_lald (v := 0) F h 0 rfl rfl (x_in (by decide +kernel)) rfl dX12_orders_25 ?_
      refine lv_l2i (v := 0) F.1 F.2.1 dX12_orders_26 (by decide +kernel) ?_
      refine lv_istore_n (lv' := [(2, .int 0), (0, .ref q), (1, .int 0)]) F.1 F.2.1 dX12_orders_27 rfl hl (by decide) rfl (fun ls hl => ?_)
      refine lv_iload_n F.1 F.2.1 dX12_orders_28 rfl (lv_at hl 0 rfl) ?_
      refine lv_bipush (v := 6) F.1 F.2.1 dX12_orders_29 (by decide) ?_
      refine lv_icmp_le (tgt := 40) F.1 F.2.1 dX12_orders_31 (by decide) (fun _ => ?_) (fun hc => absurd (by decide) hc)
      refine lv_aload_n F.1 F.2.1 dX12_orders_40 rfl (lv_at hl 1 rfl) ?_
      refine x_get F h 1 51 inlX12 rfl (by decide) mw_773 dX12_orders_41 rfl rfl ?_
      refine lv_if_ne (tgt := 54) F.1 F.2.1 dX12_orders_44 (by decide) (fun hc => absurd hc (by decide)) (fun _ => ?_)
      refine lv_aload_n F.1 F.2.1 dX12_orders_47 rfl (lv_at hl 1 rfl) ?_
      refine lv_bipush (v := 6) F.1 F.2.1 dX12_orders_48 (by decide) ?_
      refine x_Vi (wr := [(((u 0)), .inl (cy 2, 25710, .inr (.inl (fun _ => 0))))]) F h yk_X12_refuse mw_452 mw_453 mw_454 (c_m_refuse l D cy q ((.ref ((u 0)) :: .int 0 :: .long 0 :: .long 1 :: .ref ((u 1)) :: .ref ((u 2)) :: .ref ((u 3)) :: .ref ((u 4)) :: .ref ((u 5)) :: .int 0 :: .int 0 :: .int 0 :: .int 0 :: .int 0 :: .int 0 :: .int (-1) :: .int (-1) :: .int 0 :: .ref ((u 6)) :: .int 0 :: .int 0 :: .ref ((u 7)) :: .ref ((u 8)) :: .ref ((u 9)) :: .ref ((u 10)) :: .ref ((u 11)) :: .ref ((u 12)) :: .ref ((u 13)) :: .int 0 :: .int 0 :: .int (-1) :: .int 0 :: .int (-1) :: .int 0 :: .ref ((u 14)) :: .int 0 :: .int 0 :: .int 0 :: .int 0 :: .int 0 :: .ref ((u 15)) :: .ref ((u 16)) :: .int 0 :: .int (-1) :: .int 0 :: .int 0 :: .int 0 :: .int 0 :: .ref ((u 17)) :: .ref ((u 18)) :: .ref ((u 19)) :: .int 0 :: .ref ((u 20)) :: .ref ((u 21)) :: .int 0 :: .ref ((u 22)) :: .int (-1) :: .int 0 :: .ref ((u 23)) :: .int (-1) :: .int (-1) :: .int 0 :: .ref ((u 24)) :: .ref ((u 25)) :: .int 0 :: [])) rfl 6) [1] [0] 1 rfl rfl rfl rfl (by decide) rfl rfl hl.1 rfl (Nat.le_of_ble_eq_true rfl) ⟨Nat.le_of_ble_eq_true rfl, Nat.le_of_ble_eq_true rfl⟩ ⟨Nat.le_of_ble_eq_true rfl, Nat.le_of_ble_eq_true rfl⟩ dX12_orders_50 (fun r11 u12 H locs hp10 h => ?_)
      have h : xS D cy A s.heap ([(((u 0)), .inl (cy 2, 25710, .inr (.inl (fun _ => 0))))]) s H locs := h
      obtain rfl : r11 = (-1) := hp10
      exact x_iret F h hr hlk rfl (fun _ => 0) [] (rfl) (by decide +kernel) rfl (Nat.le_of_ble_eq_true rfl) (Nat.le_of_ble_eq_true rfl) dX12_orders_53
    · refine lv_aload_n F.1 F.2.1 dX12_orders_14 rfl (lv_at hl 0 rfl) ?_
      refine x_get F h 1 0 inlX12 rfl (by decide) mw_202 dX12_orders_15 rfl rfl ?_
      refine lv_sipush (v := 1650) F.1 F.2.1 dX12_orders_18 (by decide) ?_
      refine lv_iload_n F.1 F.2.1 dX12_orders_21 rfl (lv_at hl 1 rfl) ?_
      refine lv_imul F.1 F.2.1 dX12_orders_22 ?_
      refine x_topi (y := 1650) (by decide +kernel) ?_
      refine lv_iconst (v := 0) F.1 F.2.1 dX12_orders_23 (by decide) ?_
      refine lv_iadd F.1 F.2.1 dX12_orders_24 ?_
      refine x_topi (y := 1650) (by decide +kernel) ?_
      refine x_lald (v := 0) F h 0 rfl rfl (x_in (by decide +kernel)) rfl dX12_orders_25 ?_
      refine lv_l2i (v := 0) F.1 F.2.1 dX12_orders_26 (by decide +kernel) ?_
      refine lv_istore_n (lv' := [(2, .int 0), (0, .ref q), (1, .int 1)]) F.1 F.2.1 dX12_orders_27 rfl hl (by decide) rfl (fun ls hl => ?_)
      refine lv_iload_n F.1 F.2.1 dX12_orders_28 rfl (lv_at hl 0 rfl) ?_
      refine lv_bipush (v := 6) F.1 F.2.1 dX12_orders_29 (by decide) ?_
      refine lv_icmp_le (tgt := 40) F.1 F.2.1 dX12_orders_31 (by decide) (fun _ => ?_) (fun hc => absurd (by decide) hc)
      refine lv_aload_n F.1 F.2.1 dX12_orders_40 rfl (lv_at hl 1 rfl) ?_
      refine x_get F h 1 51 inlX12 rfl (by decide) mw_773 dX12_orders_41 rfl rfl ?_
      refine lv_if_ne (tgt := 54) F.1 F.2.1 dX12_orders_44 (by decide) (fun hc => absurd hc (by decide)) (fun _ => ?_)
      refine lv_aload_n F.1 F.2.1 dX12_orders_47 rfl (lv_at hl 1 rfl) ?_
      refine lv_bipush (v := 6) F.1 F.2.1 dX12_orders_48 (by decide) ?_
      refine x_Vi (wr := [(((u 0)), .inl (cy 2, 25710, .inr (.inl (fun _ => 0))))]) F h yk_X12_refuse mw_452 mw_453 mw_454 (c_m_refuse l D cy q ((.ref ((u 0)) :: .int 0 :: .long 0 :: .long 1 :: .ref ((u 1)) :: .ref ((u 2)) :: .ref ((u 3)) :: .ref ((u 4)) :: .ref ((u 5)) :: .int 0 :: .int 0 :: .int 0 :: .int 0 :: .int 0 :: .int 0 :: .int (-1) :: .int (-1) :: .int 0 :: .ref ((u 6)) :: .int 0 :: .int 0 :: .ref ((u 7)) :: .ref ((u 8)) :: .ref ((u 9)) :: .ref ((u 10)) :: .ref ((u 11)) :: .ref ((u 12)) :: .ref ((u 13)) :: .int 0 :: .int 0 :: .int (-1) :: .int 0 :: .int (-1) :: .int 0 :: .ref ((u 14)) :: .int 0 :: .int 0 :: .int 0 :: .int 0 :: .int 0 :: .ref ((u 15)) :: .ref ((u 16)) :: .int 0 :: .int (-1) :: .int 0 :: .int 0 :: .int 0 :: .int 0 :: .ref ((u 17)) :: .ref ((u 18)) :: .ref ((u 19)) :: .int 0 :: .ref ((u 20)) :: .ref ((u 21)) :: .int 0 :: .ref ((u 22)) :: .int (-1) :: .int 0 :: .ref ((u 23)) :: .int (-1) :: .int (-1) :: .int 0 :: .ref ((u 24)) :: .ref ((u 25)) :: .int 0 :: [])) rfl 6) [1] [0] 1 rfl rfl rfl rfl (by decide) rfl rfl hl.1 rfl (Nat.le_of_ble_eq_true rfl) ⟨Nat.le_of_ble_eq_true rfl, Nat.le_of_ble_eq_true rfl⟩ ⟨Nat.le_of_ble_eq_true rfl, Nat.le_of_ble_eq_true rfl⟩ dX12_orders_50 (fun r14 u15 H locs hp13 h => ?_)
      have h : xS D cy A s.heap ([(((u 0)), .inl (cy 2, 25710, .inr (.inl (fun _ => 0))))]) s H locs := h
      obtain rfl : r14 = (-1) := hp13
      exact x_iret F h hr hlk rfl (fun _ => 0) [] (rfl) (by decide +kernel) rfl (Nat.le_of_ble_eq_true rfl) (Nat.le_of_ble_eq_true rfl) dX12_orders_53
    · refine lv_aload_n F.1 F.2.1 dX12_orders_14 rfl (lv_at hl 0 rfl) ?_
      refine x_get F h 1 0 inlX12 rfl (by decide) mw_202 dX12_orders_15 rfl rfl ?_
      refine lv_sipush (v := 1650) F.1 F.2.1 dX12_orders_18 (by decide) ?_
      refine lv_iload_n F.1 F.2.1 dX12_orders_21 rfl (lv_at hl 1 rfl) ?_
      refine lv_imul F.1 F.2.1 dX12_orders_22 ?_
      refine x_topi (y := 3300) (by decide +kernel) ?_
      refine lv_iconst (v := 0) F.1 F.2.1 dX12_orders_23 (by decide) ?_
      refine lv_iadd F.1 F.2.1 dX12_orders_24 ?_
      refine x_topi (y := 3300) (by decide +kernel) ?_
      refine x_lald (v := 0) F h 0 rfl rfl (x_in (by decide +kernel)) rfl dX12_orders_25 ?_
      refine lv_l2i (v := 0) F.1 F.2.1 dX12_orders_26 (by decide +kernel) ?_
      refine lv_istore_n (lv' := [(2, .int 0), (0, .ref q), (1, .int 2)]) F.1 F.2.1 dX12_orders_27 rfl hl (by decide) rfl (fun ls hl => ?_)
      refine lv_iload_n F.1 F.2.1 dX12_orders_28 rfl (lv_at hl 0 rfl) ?_
      refine lv_bipush (v := 6) F.1 F.2.1 dX12_orders_29 (by decide) ?_
      refine lv_icmp_le (tgt := 40) F.1 F.2.1 dX12_orders_31 (by decide) (fun _ => ?_) (fun hc => absurd (by decide) hc)
      refine lv_aload_n F.1 F.2.1 dX12_orders_40 rfl (lv_at hl 1 rfl) ?_
      refine x_get F h 1 51 inlX12 rfl (by decide) mw_773 dX12_orders_41 rfl rfl ?_
      refine lv_if_ne (tgt := 54) F.1 F.2.1 dX12_orders_44 (by decide) (fun hc => absurd hc (by decide)) (fun _ => ?_)
      refine lv_aload_n F.1 F.2.1 dX12_orders_47 rfl (lv_at hl 1 rfl) ?_
      refine lv_bipush (v := 6) F.1 F.2.1 dX12_orders_48 (by decide) ?_
      refine x_Vi (wr := [(((u 0)), .inl (cy 2, 25710, .inr (.inl (fun _ => 0))))]) F h yk_X12_refuse mw_452 mw_453 mw_454 (c_m_refuse l D cy q ((.ref ((u 0)) :: .int 0 :: .long 0 :: .long 1 :: .ref ((u 1)) :: .ref ((u 2)) :: .ref ((u 3)) :: .ref ((u 4)) :: .ref ((u 5)) :: .int 0 :: .int 0 :: .int 0 :: .int 0 :: .int 0 :: .int 0 :: .int (-1) :: .int (-1) :: .int 0 :: .ref ((u 6)) :: .int 0 :: .int 0 :: .ref ((u 7)) :: .ref ((u 8)) :: .ref ((u 9)) :: .ref ((u 10)) :: .ref ((u 11)) :: .ref ((u 12)) :: .ref ((u 13)) :: .int 0 :: .int 0 :: .int (-1) :: .int 0 :: .int (-1) :: .int 0 :: .ref ((u 14)) :: .int 0 :: .int 0 :: .int 0 :: .int 0 :: .int 0 :: .ref ((u 15)) :: .ref ((u 16)) :: .int 0 :: .int (-1) :: .int 0 :: .int 0 :: .int 0 :: .int 0 :: .ref ((u 17)) :: .ref ((u 18)) :: .ref ((u 19)) :: .int 0 :: .ref ((u 20)) :: .ref ((u 21)) :: .int 0 :: .ref ((u 22)) :: .int (-1) :: .int 0 :: .ref ((u 23)) :: .int (-1) :: .int (-1) :: .int 0 :: .ref ((u 24)) :: .ref ((u 25)) :: .int 0 :: [])) rfl 6) [1] [0] 1 rfl rfl rfl rfl (by decide) rfl rfl hl.1 rfl (Nat.le_of_ble_eq_true rfl) ⟨Nat.le_of_ble_eq_true rfl, Nat.le_of_ble_eq_true rfl⟩ ⟨Nat.le_of_ble_eq_true rfl, Nat.le_of_ble_eq_true rfl⟩ dX12_orders_50 (fun r17 u18 H locs hp16 h => ?_)
      have h : xS D cy A s.heap ([(((u 0)), .inl (cy 2, 25710, .inr (.inl (fun _ => 0))))]) s H locs := h
      obtain rfl : r17 = (-1) := hp16
      exact x_iret F h hr hlk rfl (fun _ => 0) [] (rfl) (by decide +kernel) rfl (Nat.le_of_ble_eq_true rfl) (Nat.le_of_ble_eq_true rfl) dX12_orders_53
set_option maxHeartbeats 4000000 in
set_option maxRecDepth 100000 in
theorem c_m_ahead (l : Launch) (D : va_G) (cy : Nat → ClassId) (q : Nat) (u : Nat → Nat) (a0 : Int32) (b0 : Int32) : ∀ sz, Met l yX12_ahead (Cond.code yX12_ahead cX12_ahead 3 (some .int) :: wsL_law) { frames := 1, cells := 0, slots := 0, locals := 21 } (va_Pc [.ref q, .int a0, .int b0] (xP D cy ([mM q u 0 0 0 (-1) 0]) sz)) (va_Qi (fun r _ => r = (-1)) (xB D (va_A ([mM q u 0 0 0 (-1) 0]) sz) (fun _ => [])) (va_A ([mM q u 0 0 0 (-1) 0]) sz)) 0 0 (va_A ([mM q u 0 0 0 (-1) 0]) sz) := by
  refine x_enter (fun A => va_Qi (fun r _ => r = (-1)) (xB D A (fun _ => [])) A) (by decide +kernel) rfl (Nat.le_of_ble_eq_true rfl) ?_
  intro p e s m below meth c A ls F hr hlk hin h hl
  have hl : lv_has ls 3 [(0, .ref q), (1, .int a0), (2, .int b0)] := hl
  have h : xS D cy A s.heap ([(q, .inr (12, (.ref ((u 0)) :: .int 0 :: .long 0 :: .long 1 :: .ref ((u 1)) :: .ref ((u 2)) :: .ref ((u 3)) :: .ref ((u 4)) :: .ref ((u 5)) :: .int 0 :: .int 0 :: .int 0 :: .int 0 :: .int 0 :: .int 0 :: .int (-1) :: .int (-1) :: .int 0 :: .ref ((u 6)) :: .int 0 :: .int 0 :: .ref ((u 7)) :: .ref ((u 8)) :: .ref ((u 9)) :: .ref ((u 10)) :: .ref ((u 11)) :: .ref ((u 12)) :: .ref ((u 13)) :: .int 0 :: .int 0 :: .int (-1) :: .int 0 :: .int (-1) :: .int 0 :: .ref ((u 14)) :: .int 0 :: .int 0 :: .int 0 :: .int 0 :: .int 0 :: .ref ((u 15)) :: .ref ((u 16)) :: .int 0 :: .int (-1) :: .int 0 :: .int 0 :: .int 0 :: .int 0 :: .ref ((u 17)) :: .ref ((u 18)) :: .ref ((u 19)) :: .int 0 :: .ref ((u 20)) :: .ref ((u 21)) :: .int 0 :: .ref ((u 22)) :: .int (-1) :: .int 0 :: .ref ((u 23)) :: .int (-1) :: .int (-1) :: .int 0 :: .ref ((u 24)) :: .ref ((u 25)) :: .int 0 :: [])))]) s s.heap [] := h
  refine lv_aload_n F.1 F.2.1 dX12_ahead_0 rfl (lv_at hl 0 rfl) ?_
  refine x_get F h 0 60 inlX12 rfl (by decide) mw_235 dX12_ahead_1 rfl rfl ?_
  refine lv_iconst (v := (-1)) F.1 F.2.1 dX12_ahead_4 (by decide) ?_
  refine lv_icmp_ne (tgt := 15) F.1 F.2.1 dX12_ahead_5 (by decide) (fun hc => absurd hc (by decide)) (fun _ => ?_)
  refine lv_aload_n F.1 F.2.1 dX12_ahead_8 rfl (lv_at hl 0 rfl) ?_
  refine lv_bipush (v := 6) F.1 F.2.1 dX12_ahead_9 (by decide) ?_
  refine x_Vi (wr := []) F h yk_X12_refuse mw_452 mw_453 mw_454 (c_m_refuse l D cy q ((.ref ((u 0)) :: .int 0 :: .long 0 :: .long 1 :: .ref ((u 1)) :: .ref ((u 2)) :: .ref ((u 3)) :: .ref ((u 4)) :: .ref ((u 5)) :: .int 0 :: .int 0 :: .int 0 :: .int 0 :: .int 0 :: .int 0 :: .int (-1) :: .int (-1) :: .int 0 :: .ref ((u 6)) :: .int 0 :: .int 0 :: .ref ((u 7)) :: .ref ((u 8)) :: .ref ((u 9)) :: .ref ((u 10)) :: .ref ((u 11)) :: .ref ((u 12)) :: .ref ((u 13)) :: .int 0 :: .int 0 :: .int (-1) :: .int 0 :: .int (-1) :: .int 0 :: .ref ((u 14)) :: .int 0 :: .int 0 :: .int 0 :: .int 0 :: .int 0 :: .ref ((u 15)) :: .ref ((u 16)) :: .int 0 :: .int (-1) :: .int 0 :: .int 0 :: .int 0 :: .int 0 :: .ref ((u 17)) :: .ref ((u 18)) :: .ref ((u 19)) :: .int 0 :: .ref ((u 20)) :: .ref ((u 21)) :: .int 0 :: .ref ((u 22)) :: .int (-1) :: .int 0 :: .ref ((u 23)) :: .int (-1) :: .int (-1) :: .int 0 :: .ref ((u 24)) :: .ref ((u 25)) :: .int 0 :: [])) rfl 6) [0] [] 0 rfl rfl rfl rfl (by decide) rfl rfl hl.1 rfl (Nat.le_of_ble_eq_true rfl) ⟨Nat.le_of_ble_eq_true rfl, Nat.le_of_ble_eq_true rfl⟩ ⟨Nat.le_of_ble_eq_true rfl, Nat.le_of_ble_eq_true rfl⟩ dX12_ahead_11 (fun r2 u3 H locs hp1 h => ?_)
  have h : xS D cy A s.heap ([]) s H locs := h
  obtain rfl : r2 = (-1) := hp1
  exact x_iret F h hr hlk rfl (fun _ => 0) [] (rfl) (by decide +kernel) rfl (Nat.le_of_ble_eq_true rfl) (Nat.le_of_ble_eq_true rfl) dX12_ahead_14
set_option maxHeartbeats 4000000 in
set_option maxRecDepth 100000 in
theorem c_m_many (l : Launch) (D : va_G) (cy : Nat → ClassId) (q : Nat) (u : Nat → Nat) (k : Int32) : ∀ sz, Met l yX12_many (Cond.code yX12_many cX12_many 2 (some .int) :: wsL_law) { frames := 1, cells := 0, slots := 0, locals := 21 } (va_Pc [.ref q, .int k] (xP D cy ([mM q u 0 0 0 (-1) 0, mA_at cy u]) sz)) (va_Qi (fun r _ => r = if k = 0 ∨ k = 1 ∨ k = 2 then 0 else -1) (xB D (va_A ([mM q u 0 0 0 (-1) 0, mA_at cy u]) sz) (fun _ => [])) (va_A ([mM q u 0 0 0 (-1) 0, mA_at cy u]) sz)) 0 0 (va_A ([mM q u 0 0 0 (-1) 0, mA_at cy u]) sz) := by
  refine x_enter (fun A => va_Qi (fun r _ => r = if k = 0 ∨ k = 1 ∨ k = 2 then 0 else -1) (xB D A (fun _ => [])) A) (by decide +kernel) rfl (Nat.le_of_ble_eq_true rfl) ?_
  intro p e s m below meth c A ls F hr hlk hin h hl
  have hl : lv_has ls 2 [(0, .ref q), (1, .int k)] := hl
  have h : xS D cy A s.heap ([(q, .inr (12, (.ref ((u 0)) :: .int 0 :: .long 0 :: .long 1 :: .ref ((u 1)) :: .ref ((u 2)) :: .ref ((u 3)) :: .ref ((u 4)) :: .ref ((u 5)) :: .int 0 :: .int 0 :: .int 0 :: .int 0 :: .int 0 :: .int 0 :: .int (-1) :: .int (-1) :: .int 0 :: .ref ((u 6)) :: .int 0 :: .int 0 :: .ref ((u 7)) :: .ref ((u 8)) :: .ref ((u 9)) :: .ref ((u 10)) :: .ref ((u 11)) :: .ref ((u 12)) :: .ref ((u 13)) :: .int 0 :: .int 0 :: .int (-1) :: .int 0 :: .int (-1) :: .int 0 :: .ref ((u 14)) :: .int 0 :: .int 0 :: .int 0 :: .int 0 :: .int 0 :: .ref ((u 15)) :: .ref ((u 16)) :: .int 0 :: .int (-1) :: .int 0 :: .int 0 :: .int 0 :: .int 0 :: .ref ((u 17)) :: .ref ((u 18)) :: .ref ((u 19)) :: .int 0 :: .ref ((u 20)) :: .ref ((u 21)) :: .int 0 :: .ref ((u 22)) :: .int (-1) :: .int 0 :: .ref ((u 23)) :: .int (-1) :: .int (-1) :: .int 0 :: .ref ((u 24)) :: .ref ((u 25)) :: .int 0 :: []))), (((u 0)), .inl (cy 2, 25710, .inr (.inl (fun _ => 0))))]) s s.heap [] := h
  refine lv_iload_n F.1 F.2.1 dX12_many_0 rfl (lv_at hl 1 rfl) ?_
  refine lv_if_lt (tgt := 9) F.1 F.2.1 dX12_many_1 (by decide) (fun hc1 => ?_) (fun hc1 => ?_)
  · refine lv_aload_n F.1 F.2.1 dX12_many_9 rfl (lv_at hl 0 rfl) ?_
    refine lv_iconst (v := 1) F.1 F.2.1 dX12_many_10 (by decide) ?_
    refine x_Vi (wr := [(((u 0)), .inl (cy 2, 25710, .inr (.inl (fun _ => 0))))]) F h yk_X12_refuse mw_452 mw_453 mw_454 (c_m_refuse l D cy q ((.ref ((u 0)) :: .int 0 :: .long 0 :: .long 1 :: .ref ((u 1)) :: .ref ((u 2)) :: .ref ((u 3)) :: .ref ((u 4)) :: .ref ((u 5)) :: .int 0 :: .int 0 :: .int 0 :: .int 0 :: .int 0 :: .int 0 :: .int (-1) :: .int (-1) :: .int 0 :: .ref ((u 6)) :: .int 0 :: .int 0 :: .ref ((u 7)) :: .ref ((u 8)) :: .ref ((u 9)) :: .ref ((u 10)) :: .ref ((u 11)) :: .ref ((u 12)) :: .ref ((u 13)) :: .int 0 :: .int 0 :: .int (-1) :: .int 0 :: .int (-1) :: .int 0 :: .ref ((u 14)) :: .int 0 :: .int 0 :: .int 0 :: .int 0 :: .int 0 :: .ref ((u 15)) :: .ref ((u 16)) :: .int 0 :: .int (-1) :: .int 0 :: .int 0 :: .int 0 :: .int 0 :: .ref ((u 17)) :: .ref ((u 18)) :: .ref ((u 19)) :: .int 0 :: .ref ((u 20)) :: .ref ((u 21)) :: .int 0 :: .ref ((u 22)) :: .int (-1) :: .int 0 :: .ref ((u 23)) :: .int (-1) :: .int (-1) :: .int 0 :: .ref ((u 24)) :: .ref ((u 25)) :: .int 0 :: [])) rfl 1) [0] [1] 0 rfl rfl rfl rfl (by decide) rfl rfl hl.1 rfl (Nat.le_of_ble_eq_true rfl) ⟨Nat.le_of_ble_eq_true rfl, Nat.le_of_ble_eq_true rfl⟩ ⟨Nat.le_of_ble_eq_true rfl, Nat.le_of_ble_eq_true rfl⟩ dX12_many_11 (fun r3 u4 H locs hp2 h => ?_)
    have h : xS D cy A s.heap ([(((u 0)), .inl (cy 2, 25710, .inr (.inl (fun _ => 0))))]) s H locs := h
    obtain rfl : r3 = (-1) := hp2
    exact x_iret F h hr hlk rfl (fun _ => 0) [] (by rw [if_neg]; rintro (rfl | rfl | rfl) <;> revert hc1 <;> decide) (by decide +kernel) rfl (Nat.le_of_ble_eq_true rfl) (Nat.le_of_ble_eq_true rfl) dX12_many_14
  · refine lv_iload_n F.1 F.2.1 dX12_many_4 rfl (lv_at hl 1 rfl) ?_
    refine lv_iconst (v := 2) F.1 F.2.1 dX12_many_5 (by decide) ?_
    refine lv_icmp_le (tgt := 15) F.1 F.2.1 dX12_many_6 (by decide) (fun hc5 => ?_) (fun hc5 => ?_)
    · rcases x_c3' hc1 hc5 with rfl | rfl | rfl
      · refine lv_aload_n F.1 F.2.1 dX12_many_15 rfl (lv_at hl 0 rfl) ?_
        refine lv_iload_n F.1 F.2.1 dX12_many_16 rfl (lv_at hl 1 rfl) ?_
        refine lv_if_ne (tgt := 32) F.1 F.2.1 dX12_many_17 (by decide) (fun hc => absurd hc (by decide)) (fun _ => ?_)
        refine lv_aload_n F.1 F.2.1 dX12_many_20 rfl (lv_at hl 0 rfl) ?_
        refine x_get F h 0 0 inlX12 rfl (by decide) mw_202 dX12_many_21 rfl rfl ?_
        refine lv_sipush (v := 4950) F.1 F.2.1 dX12_many_24 (by decide) ?_
        refine x_lald (v := 0) F h 1 rfl rfl (x_in (by decide +kernel)) rfl dX12_many_27 ?_
        refine lv_l2i (v := 0) F.1 F.2.1 dX12_many_28 (by decide +kernel) ?_
        refine lv_goto (tgt := 53) F.1 F.2.1 dX12_many_29 (by decide) ?_
        refine x_Vi (wr := [(((u 0)), .inl (cy 2, 25710, .inr (.inl (fun _ => 0))))]) F h yk_X12_gives mw_499 mw_500 mw_501 (c_m_gives l D cy q ((.ref ((u 0)) :: .int 0 :: .long 0 :: .long 1 :: .ref ((u 1)) :: .ref ((u 2)) :: .ref ((u 3)) :: .ref ((u 4)) :: .ref ((u 5)) :: .int 0 :: .int 0 :: .int 0 :: .int 0 :: .int 0 :: .int 0 :: .int (-1) :: .int (-1) :: .int 0 :: .ref ((u 6)) :: .int 0 :: .int 0 :: .ref ((u 7)) :: .ref ((u 8)) :: .ref ((u 9)) :: .ref ((u 10)) :: .ref ((u 11)) :: .ref ((u 12)) :: .ref ((u 13)) :: .int 0 :: .int 0 :: .int (-1) :: .int 0 :: .int (-1) :: .int 0 :: .ref ((u 14)) :: .int 0 :: .int 0 :: .int 0 :: .int 0 :: .int 0 :: .ref ((u 15)) :: .ref ((u 16)) :: .int 0 :: .int (-1) :: .int 0 :: .int 0 :: .int 0 :: .int 0 :: .ref ((u 17)) :: .ref ((u 18)) :: .ref ((u 19)) :: .int 0 :: .ref ((u 20)) :: .ref ((u 21)) :: .int 0 :: .ref ((u 22)) :: .int (-1) :: .int 0 :: .ref ((u 23)) :: .int (-1) :: .int (-1) :: .int 0 :: .ref ((u 24)) :: .ref ((u 25)) :: .int 0 :: [])) rfl 0) [0] [1] 0 rfl rfl rfl rfl (by decide) rfl rfl hl.1 rfl (Nat.le_of_ble_eq_true rfl) ⟨Nat.le_of_ble_eq_true rfl, Nat.le_of_ble_eq_true rfl⟩ ⟨Nat.le_of_ble_eq_true rfl, Nat.le_of_ble_eq_true rfl⟩ dX12_many_53 (fun r7 u8 H locs hp6 h => ?_)
        have h : xS D cy A s.heap ([(((u 0)), .inl (cy 2, 25710, .inr (.inl (fun _ => 0))))]) s H locs := h
        obtain rfl : r7 = 0 := hp6
        exact x_iret F h hr hlk rfl (fun _ => 0) [] (by simp []) (by decide +kernel) rfl (Nat.le_of_ble_eq_true rfl) (Nat.le_of_ble_eq_true rfl) dX12_many_56
      · refine lv_aload_n F.1 F.2.1 dX12_many_15 rfl (lv_at hl 0 rfl) ?_
        refine lv_iload_n F.1 F.2.1 dX12_many_16 rfl (lv_at hl 1 rfl) ?_
        refine lv_if_ne (tgt := 32) F.1 F.2.1 dX12_many_17 (by decide) (fun _ => ?_) (fun hc => absurd hc (by decide))
        refine lv_iload_n F.1 F.2.1 dX12_many_32 rfl (lv_at hl 1 rfl) ?_
        refine lv_iconst (v := 1) F.1 F.2.1 dX12_many_33 (by decide) ?_
        refine lv_icmp_ne (tgt := 49) F.1 F.2.1 dX12_many_34 (by decide) (fun hc => absurd hc (by decide)) (fun _ => ?_)
        refine lv_aload_n F.1 F.2.1 dX12_many_37 rfl (lv_at hl 0 rfl) ?_
        refine x_get F h 0 0 inlX12 rfl (by decide) mw_202 dX12_many_38 rfl rfl ?_
        refine lv_sipush (v := 5159) F.1 F.2.1 dX12_many_41 (by decide) ?_
        refine x_lald (v := 0) F h 1 rfl rfl (x_in (by decide +kernel)) rfl dX12_many_44 ?_
        refine lv_l2i (v := 0) F.1 F.2.1 dX12_many_45 (by decide +kernel) ?_
        refine lv_goto (tgt := 53) F.1 F.2.1 dX12_many_46 (by decide) ?_
        refine x_Vi (wr := [(((u 0)), .inl (cy 2, 25710, .inr (.inl (fun _ => 0))))]) F h yk_X12_gives mw_499 mw_500 mw_501 (c_m_gives l D cy q ((.ref ((u 0)) :: .int 0 :: .long 0 :: .long 1 :: .ref ((u 1)) :: .ref ((u 2)) :: .ref ((u 3)) :: .ref ((u 4)) :: .ref ((u 5)) :: .int 0 :: .int 0 :: .int 0 :: .int 0 :: .int 0 :: .int 0 :: .int (-1) :: .int (-1) :: .int 0 :: .ref ((u 6)) :: .int 0 :: .int 0 :: .ref ((u 7)) :: .ref ((u 8)) :: .ref ((u 9)) :: .ref ((u 10)) :: .ref ((u 11)) :: .ref ((u 12)) :: .ref ((u 13)) :: .int 0 :: .int 0 :: .int (-1) :: .int 0 :: .int (-1) :: .int 0 :: .ref ((u 14)) :: .int 0 :: .int 0 :: .int 0 :: .int 0 :: .int 0 :: .ref ((u 15)) :: .ref ((u 16)) :: .int 0 :: .int (-1) :: .int 0 :: .int 0 :: .int 0 :: .int 0 :: .ref ((u 17)) :: .ref ((u 18)) :: .ref ((u 19)) :: .int 0 :: .ref ((u 20)) :: .ref ((u 21)) :: .int 0 :: .ref ((u 22)) :: .int (-1) :: .int 0 :: .ref ((u 23)) :: .int (-1) :: .int (-1) :: .int 0 :: .ref ((u 24)) :: .ref ((u 25)) :: .int 0 :: [])) rfl 0) [0] [1] 0 rfl rfl rfl rfl (by decide) rfl rfl hl.1 rfl (Nat.le_of_ble_eq_true rfl) ⟨Nat.le_of_ble_eq_true rfl, Nat.le_of_ble_eq_true rfl⟩ ⟨Nat.le_of_ble_eq_true rfl, Nat.le_of_ble_eq_true rfl⟩ dX12_many_53 (fun r10 u11 H locs hp9 h => ?_)
        have h : xS D cy A s.heap ([(((u 0)), .inl (cy 2, 25710, .inr (.inl (fun _ => 0))))]) s H locs := h
        obtain rfl : r10 = 0 := hp9
        exact x_iret F h hr hlk rfl (fun _ => 0) [] (by simp []) (by decide +kernel) rfl (Nat.le_of_ble_eq_true rfl) (Nat.le_of_ble_eq_true rfl) dX12_many_56
      · refine lv_aload_n F.1 F.2.1 dX12_many_15 rfl (lv_at hl 0 rfl) ?_
        refine lv_iload_n F.1 F.2.1 dX12_many_16 rfl (lv_at hl 1 rfl) ?_
        refine lv_if_ne (tgt := 32) F.1 F.2.1 dX12_many_17 (by decide) (fun _ => ?_) (fun hc => absurd hc (by decide))
        refine lv_iload_n F.1 F.2.1 dX12_many_32 rfl (lv_at hl 1 rfl) ?_
        refine lv_iconst (v := 1) F.1 F.2.1 dX12_many_33 (by decide) ?_
        refine lv_icmp_ne (tgt := 49) F.1 F.2.1 dX12_many_34 (by decide) (fun _ => ?_) (fun hc => absurd hc (by decide))
        refine lv_aload_n F.1 F.2.1 dX12_many_49 rfl (lv_at hl 0 rfl) ?_
        refine x_get F h 0 51 inlX12 rfl (by decide) mw_773 dX12_many_50 rfl rfl ?_
        refine x_Vi (wr := [(((u 0)), .inl (cy 2, 25710, .inr (.inl (fun _ => 0))))]) F h yk_X12_gives mw_499 mw_500 mw_501 (c_m_gives l D cy q ((.ref ((u 0)) :: .int 0 :: .long 0 :: .long 1 :: .ref ((u 1)) :: .ref ((u 2)) :: .ref ((u 3)) :: .ref ((u 4)) :: .ref ((u 5)) :: .int 0 :: .int 0 :: .int 0 :: .int 0 :: .int 0 :: .int 0 :: .int (-1) :: .int (-1) :: .int 0 :: .ref ((u 6)) :: .int 0 :: .int 0 :: .ref ((u 7)) :: .ref ((u 8)) :: .ref ((u 9)) :: .ref ((u 10)) :: .ref ((u 11)) :: .ref ((u 12)) :: .ref ((u 13)) :: .int 0 :: .int 0 :: .int (-1) :: .int 0 :: .int (-1) :: .int 0 :: .ref ((u 14)) :: .int 0 :: .int 0 :: .int 0 :: .int 0 :: .int 0 :: .ref ((u 15)) :: .ref ((u 16)) :: .int 0 :: .int (-1) :: .int 0 :: .int 0 :: .int 0 :: .int 0 :: .ref ((u 17)) :: .ref ((u 18)) :: .ref ((u 19)) :: .int 0 :: .ref ((u 20)) :: .ref ((u 21)) :: .int 0 :: .ref ((u 22)) :: .int (-1) :: .int 0 :: .ref ((u 23)) :: .int (-1) :: .int (-1) :: .int 0 :: .ref ((u 24)) :: .ref ((u 25)) :: .int 0 :: [])) rfl 0) [0] [1] 0 rfl rfl rfl rfl (by decide) rfl rfl hl.1 rfl (Nat.le_of_ble_eq_true rfl) ⟨Nat.le_of_ble_eq_true rfl, Nat.le_of_ble_eq_true rfl⟩ ⟨Nat.le_of_ble_eq_true rfl, Nat.le_of_ble_eq_true rfl⟩ dX12_many_53 (fun r13 u14 H locs hp12 h => ?_)
        have h : xS D cy A s.heap ([(((u 0)), .inl (cy 2, 25710, .inr (.inl (fun _ => 0))))]) s H locs := h
        obtain rfl : r13 = 0 := hp12
        exact x_iret F h hr hlk rfl (fun _ => 0) [] (by simp []) (by decide +kernel) rfl (Nat.le_of_ble_eq_true rfl) (Nat.le_of_ble_eq_true rfl) dX12_many_56
    · refine lv_aload_n F.1 F.2.1 dX12_many_9 rfl (lv_at hl 0 rfl) ?_
      refine lv_iconst (v := 1) F.1 F.2.1 dX12_many_10 (by decide) ?_
      refine x_Vi (wr := [(((u 0)), .inl (cy 2, 25710, .inr (.inl (fun _ => 0))))]) F h yk_X12_refuse mw_452 mw_453 mw_454 (c_m_refuse l D cy q ((.ref ((u 0)) :: .int 0 :: .long 0 :: .long 1 :: .ref ((u 1)) :: .ref ((u 2)) :: .ref ((u 3)) :: .ref ((u 4)) :: .ref ((u 5)) :: .int 0 :: .int 0 :: .int 0 :: .int 0 :: .int 0 :: .int 0 :: .int (-1) :: .int (-1) :: .int 0 :: .ref ((u 6)) :: .int 0 :: .int 0 :: .ref ((u 7)) :: .ref ((u 8)) :: .ref ((u 9)) :: .ref ((u 10)) :: .ref ((u 11)) :: .ref ((u 12)) :: .ref ((u 13)) :: .int 0 :: .int 0 :: .int (-1) :: .int 0 :: .int (-1) :: .int 0 :: .ref ((u 14)) :: .int 0 :: .int 0 :: .int 0 :: .int 0 :: .int 0 :: .ref ((u 15)) :: .ref ((u 16)) :: .int 0 :: .int (-1) :: .int 0 :: .int 0 :: .int 0 :: .int 0 :: .ref ((u 17)) :: .ref ((u 18)) :: .ref ((u 19)) :: .int 0 :: .ref ((u 20)) :: .ref ((u 21)) :: .int 0 :: .ref ((u 22)) :: .int (-1) :: .int 0 :: .ref ((u 23)) :: .int (-1) :: .int (-1) :: .int 0 :: .ref ((u 24)) :: .ref ((u 25)) :: .int 0 :: [])) rfl 1) [0] [1] 0 rfl rfl rfl rfl (by decide) rfl rfl hl.1 rfl (Nat.le_of_ble_eq_true rfl) ⟨Nat.le_of_ble_eq_true rfl, Nat.le_of_ble_eq_true rfl⟩ ⟨Nat.le_of_ble_eq_true rfl, Nat.le_of_ble_eq_true rfl⟩ dX12_many_11 (fun r16 u17 H locs hp15 h => ?_)
      have h : xS D cy A s.heap ([(((u 0)), .inl (cy 2, 25710, .inr (.inl (fun _ => 0))))]) s H locs := h
      obtain rfl : r16 = (-1) := hp15
      exact x_iret F h hr hlk rfl (fun _ => 0) [] (by rw [if_neg]; rintro (rfl | rfl | rfl) <;> revert hc5 <;> decide) (by decide +kernel) rfl (Nat.le_of_ble_eq_true rfl) (Nat.le_of_ble_eq_true rfl) dX12_many_14
set_option maxHeartbeats 4000000 in
set_option maxRecDepth 100000 in
theorem c_m_count (l : Launch) (D : va_G) (cy : Nat → ClassId) (q : Nat) (u : Nat → Nat) (sc : Int32) (k : Int32) : ∀ sz, Met l yX12_count (Cond.code yX12_count cX12_count 3 (some .int) :: wsL_law) { frames := 1, cells := 0, slots := 0, locals := 21 } (va_Pc [.ref q, .int sc, .int k] (xP D cy ([mM q u 0 0 0 (-1) 0, mA_at cy u]) sz)) (va_Qi (fun r _ => r = if ¬ (sc < 0 ∨ nI 3 ≤ sc) ∧ (k = 0 ∨ k = 1 ∨ k = 2 ∨ k = 3) then 0 else -1) (xB D (va_A ([mM q u 0 0 0 (-1) 0, mA_at cy u]) sz) (fun _ => [])) (va_A ([mM q u 0 0 0 (-1) 0, mA_at cy u]) sz)) 0 0 (va_A ([mM q u 0 0 0 (-1) 0, mA_at cy u]) sz) := by
  refine x_enter (fun A => va_Qi (fun r _ => r = if ¬ (sc < 0 ∨ nI 3 ≤ sc) ∧ (k = 0 ∨ k = 1 ∨ k = 2 ∨ k = 3) then 0 else -1) (xB D A (fun _ => [])) A) (by decide +kernel) rfl (Nat.le_of_ble_eq_true rfl) ?_
  intro p e s m below meth c A ls F hr hlk hin h hl
  have hl : lv_has ls 3 [(0, .ref q), (1, .int sc), (2, .int k)] := hl
  have h : xS D cy A s.heap ([(q, .inr (12, (.ref ((u 0)) :: .int 0 :: .long 0 :: .long 1 :: .ref ((u 1)) :: .ref ((u 2)) :: .ref ((u 3)) :: .ref ((u 4)) :: .ref ((u 5)) :: .int 0 :: .int 0 :: .int 0 :: .int 0 :: .int 0 :: .int 0 :: .int (-1) :: .int (-1) :: .int 0 :: .ref ((u 6)) :: .int 0 :: .int 0 :: .ref ((u 7)) :: .ref ((u 8)) :: .ref ((u 9)) :: .ref ((u 10)) :: .ref ((u 11)) :: .ref ((u 12)) :: .ref ((u 13)) :: .int 0 :: .int 0 :: .int (-1) :: .int 0 :: .int (-1) :: .int 0 :: .ref ((u 14)) :: .int 0 :: .int 0 :: .int 0 :: .int 0 :: .int 0 :: .ref ((u 15)) :: .ref ((u 16)) :: .int 0 :: .int (-1) :: .int 0 :: .int 0 :: .int 0 :: .int 0 :: .ref ((u 17)) :: .ref ((u 18)) :: .ref ((u 19)) :: .int 0 :: .ref ((u 20)) :: .ref ((u 21)) :: .int 0 :: .ref ((u 22)) :: .int (-1) :: .int 0 :: .ref ((u 23)) :: .int (-1) :: .int (-1) :: .int 0 :: .ref ((u 24)) :: .ref ((u 25)) :: .int 0 :: []))), (((u 0)), .inl (cy 2, 25710, .inr (.inl (fun _ => 0))))]) s s.heap [] := h
  refine lv_aload_n F.1 F.2.1 dX12_count_0 rfl (lv_at hl 0 rfl) ?_
  refine lv_iload_n F.1 F.2.1 dX12_count_1 rfl (lv_at hl 1 rfl) ?_
  refine x_Vi (wr := [(((u 0)), .inl (cy 2, 25710, .inr (.inl (fun _ => 0))))]) F h yk_X12_isScript mw_635 mw_636 mw_637 (c_m_isScript l D cy q ((.ref ((u 0)) :: .int 0 :: .long 0 :: .long 1 :: .ref ((u 1)) :: .ref ((u 2)) :: .ref ((u 3)) :: .ref ((u 4)) :: .ref ((u 5)) :: .int 0 :: .int 0 :: .int 0 :: .int 0 :: .int 0 :: .int 0 :: .int (-1) :: .int (-1) :: .int 0 :: .ref ((u 6)) :: .int 0 :: .int 0 :: .ref ((u 7)) :: .ref ((u 8)) :: .ref ((u 9)) :: .ref ((u 10)) :: .ref ((u 11)) :: .ref ((u 12)) :: .ref ((u 13)) :: .int 0 :: .int 0 :: .int (-1) :: .int 0 :: .int (-1) :: .int 0 :: .ref ((u 14)) :: .int 0 :: .int 0 :: .int 0 :: .int 0 :: .int 0 :: .ref ((u 15)) :: .ref ((u 16)) :: .int 0 :: .int (-1) :: .int 0 :: .int 0 :: .int 0 :: .int 0 :: .ref ((u 17)) :: .ref ((u 18)) :: .ref ((u 19)) :: .int 0 :: .ref ((u 20)) :: .ref ((u 21)) :: .int 0 :: .ref ((u 22)) :: .int (-1) :: .int 0 :: .ref ((u 23)) :: .int (-1) :: .int (-1) :: .int 0 :: .ref ((u 24)) :: .ref ((u 25)) :: .int 0 :: [])) sc) [0] [1] 0 rfl rfl rfl rfl (by decide) rfl rfl hl.1 rfl (Nat.le_of_ble_eq_true rfl) ⟨Nat.le_of_ble_eq_true rfl, Nat.le_of_ble_eq_true rfl⟩ ⟨Nat.le_of_ble_eq_true rfl, Nat.le_of_ble_eq_true rfl⟩ dX12_count_2 (fun r2 u3 H locs hp1 h => ?_)
  have h : xS D cy A s.heap ([(((u 0)), .inl (cy 2, 25710, .inr (.inl (fun _ => 0)))), (q, .inr (12, (.ref ((u 0)) :: .int 0 :: .long 0 :: .long 1 :: .ref ((u 1)) :: .ref ((u 2)) :: .ref ((u 3)) :: .ref ((u 4)) :: .ref ((u 5)) :: .int 0 :: .int 0 :: .int 0 :: .int 0 :: .int 0 :: .int 0 :: .int (-1) :: .int (-1) :: .int 0 :: .ref ((u 6)) :: .int 0 :: .int 0 :: .ref ((u 7)) :: .ref ((u 8)) :: .ref ((u 9)) :: .ref ((u 10)) :: .ref ((u 11)) :: .ref ((u 12)) :: .ref ((u 13)) :: .int 0 :: .int 0 :: .int (-1) :: .int 0 :: .int (-1) :: .int 0 :: .ref ((u 14)) :: .int 0 :: .int 0 :: .int 0 :: .int 0 :: .int 0 :: .ref ((u 15)) :: .ref ((u 16)) :: .int 0 :: .int (-1) :: .int 0 :: .int 0 :: .int 0 :: .int 0 :: .ref ((u 17)) :: .ref ((u 18)) :: .ref ((u 19)) :: .int 0 :: .ref ((u 20)) :: .ref ((u 21)) :: .int 0 :: .ref ((u 22)) :: .int (-1) :: .int 0 :: .ref ((u 23)) :: .int (-1) :: .int (-1) :: .int 0 :: .ref ((u 24)) :: .ref ((u 25)) :: .int 0 :: [])))]) s H locs := h
  rcases x_tr (n := 3) hp1 with ⟨rfl, ht4⟩ | ⟨rfl, ht5, ht6⟩
  · refine lv_if_eq (tgt := 17) F.1 F.2.1 dX12_count_5 (by decide) (fun _ => ?_) (fun hc => absurd (by decide) hc)
    refine lv_aload_n F.1 F.2.1 dX12_count_17 rfl (lv_at hl 0 rfl) ?_
    refine lv_iconst (v := 1) F.1 F.2.1 dX12_count_18 (by decide) ?_
    refine x_Vi (wr := [(((u 0)), .inl (cy 2, 25710, .inr (.inl (fun _ => 0))))]) F h yk_X12_refuse mw_452 mw_453 mw_454 (c_m_refuse l D cy q ((.ref ((u 0)) :: .int 0 :: .long 0 :: .long 1 :: .ref ((u 1)) :: .ref ((u 2)) :: .ref ((u 3)) :: .ref ((u 4)) :: .ref ((u 5)) :: .int 0 :: .int 0 :: .int 0 :: .int 0 :: .int 0 :: .int 0 :: .int (-1) :: .int (-1) :: .int 0 :: .ref ((u 6)) :: .int 0 :: .int 0 :: .ref ((u 7)) :: .ref ((u 8)) :: .ref ((u 9)) :: .ref ((u 10)) :: .ref ((u 11)) :: .ref ((u 12)) :: .ref ((u 13)) :: .int 0 :: .int 0 :: .int (-1) :: .int 0 :: .int (-1) :: .int 0 :: .ref ((u 14)) :: .int 0 :: .int 0 :: .int 0 :: .int 0 :: .int 0 :: .ref ((u 15)) :: .ref ((u 16)) :: .int 0 :: .int (-1) :: .int 0 :: .int 0 :: .int 0 :: .int 0 :: .ref ((u 17)) :: .ref ((u 18)) :: .ref ((u 19)) :: .int 0 :: .ref ((u 20)) :: .ref ((u 21)) :: .int 0 :: .ref ((u 22)) :: .int (-1) :: .int 0 :: .ref ((u 23)) :: .int (-1) :: .int (-1) :: .int 0 :: .ref ((u 24)) :: .ref ((u 25)) :: .int 0 :: [])) rfl 1) [1] [0] 1 rfl rfl rfl rfl (by decide) rfl rfl hl.1 rfl (Nat.le_of_ble_eq_true rfl) ⟨Nat.le_of_ble_eq_true rfl, Nat.le_of_ble_eq_true rfl⟩ ⟨Nat.le_of_ble_eq_true rfl, Nat.le_of_ble_eq_true rfl⟩ dX12_count_19 (fun r8 u9 H locs hp7 h => ?_)
    have h : xS D cy A s.heap ([(((u 0)), .inl (cy 2, 25710, .inr (.inl (fun _ => 0))))]) s H locs := h
    obtain rfl : r8 = (-1) := hp7
    exact x_iret F h hr hlk rfl (fun _ => 0) [] (by rw [if_neg]; rintro ⟨hx, _⟩; exact hx ht4) (by decide +kernel) rfl (Nat.le_of_ble_eq_true rfl) (Nat.le_of_ble_eq_true rfl) dX12_count_22
  · refine lv_if_eq (tgt := 17) F.1 F.2.1 dX12_count_5 (by decide) (fun hc => absurd hc (by decide)) (fun _ => ?_)
    refine lv_iload_n F.1 F.2.1 dX12_count_8 rfl (lv_at hl 2 rfl) ?_
    refine lv_if_lt (tgt := 17) F.1 F.2.1 dX12_count_9 (by decide) (fun hc10 => ?_) (fun hc10 => ?_)
    · refine lv_aload_n F.1 F.2.1 dX12_count_17 rfl (lv_at hl 0 rfl) ?_
      refine lv_iconst (v := 1) F.1 F.2.1 dX12_count_18 (by decide) ?_
      refine x_Vi (wr := [(((u 0)), .inl (cy 2, 25710, .inr (.inl (fun _ => 0))))]) F h yk_X12_refuse mw_452 mw_453 mw_454 (c_m_refuse l D cy q ((.ref ((u 0)) :: .int 0 :: .long 0 :: .long 1 :: .ref ((u 1)) :: .ref ((u 2)) :: .ref ((u 3)) :: .ref ((u 4)) :: .ref ((u 5)) :: .int 0 :: .int 0 :: .int 0 :: .int 0 :: .int 0 :: .int 0 :: .int (-1) :: .int (-1) :: .int 0 :: .ref ((u 6)) :: .int 0 :: .int 0 :: .ref ((u 7)) :: .ref ((u 8)) :: .ref ((u 9)) :: .ref ((u 10)) :: .ref ((u 11)) :: .ref ((u 12)) :: .ref ((u 13)) :: .int 0 :: .int 0 :: .int (-1) :: .int 0 :: .int (-1) :: .int 0 :: .ref ((u 14)) :: .int 0 :: .int 0 :: .int 0 :: .int 0 :: .int 0 :: .ref ((u 15)) :: .ref ((u 16)) :: .int 0 :: .int (-1) :: .int 0 :: .int 0 :: .int 0 :: .int 0 :: .ref ((u 17)) :: .ref ((u 18)) :: .ref ((u 19)) :: .int 0 :: .ref ((u 20)) :: .ref ((u 21)) :: .int 0 :: .ref ((u 22)) :: .int (-1) :: .int 0 :: .ref ((u 23)) :: .int (-1) :: .int (-1) :: .int 0 :: .ref ((u 24)) :: .ref ((u 25)) :: .int 0 :: [])) rfl 1) [1] [0] 1 rfl rfl rfl rfl (by decide) rfl rfl hl.1 rfl (Nat.le_of_ble_eq_true rfl) ⟨Nat.le_of_ble_eq_true rfl, Nat.le_of_ble_eq_true rfl⟩ ⟨Nat.le_of_ble_eq_true rfl, Nat.le_of_ble_eq_true rfl⟩ dX12_count_19 (fun r12 u13 H locs hp11 h => ?_)
      have h : xS D cy A s.heap ([(((u 0)), .inl (cy 2, 25710, .inr (.inl (fun _ => 0))))]) s H locs := h
      obtain rfl : r12 = (-1) := hp11
      exact x_iret F h hr hlk rfl (fun _ => 0) [] (by rw [if_neg]; rintro ⟨hx, hy⟩; rcases hy with rfl | rfl | rfl | rfl <;> revert hc10 <;> decide) (by decide +kernel) rfl (Nat.le_of_ble_eq_true rfl) (Nat.le_of_ble_eq_true rfl) dX12_count_22
    · refine lv_iload_n F.1 F.2.1 dX12_count_12 rfl (lv_at hl 2 rfl) ?_
      refine lv_iconst (v := 3) F.1 F.2.1 dX12_count_13 (by decide) ?_
      refine lv_icmp_le (tgt := 23) F.1 F.2.1 dX12_count_14 (by decide) (fun hc14 => ?_) (fun hc14 => ?_)
      · rcases x_c3 ht5 ht6 with rfl | rfl | rfl
        · rcases x_c4' hc10 hc14 with rfl | rfl | rfl | rfl
          · refine lv_aload_n F.1 F.2.1 dX12_count_23 rfl (lv_at hl 0 rfl) ?_
            refine lv_aload_n F.1 F.2.1 dX12_count_24 rfl (lv_at hl 0 rfl) ?_
            refine x_get F h 1 0 inlX12 rfl (by decide) mw_202 dX12_count_25 rfl rfl ?_
            refine lv_sipush (v := 1650) F.1 F.2.1 dX12_count_28 (by decide) ?_
            refine lv_iload_n F.1 F.2.1 dX12_count_31 rfl (lv_at hl 1 rfl) ?_
            refine lv_imul F.1 F.2.1 dX12_count_32 ?_
            refine x_topi (y := 0) (by decide +kernel) ?_
            refine lv_iload_n F.1 F.2.1 dX12_count_33 rfl (lv_at hl 2 rfl) ?_
            refine lv_iconst (v := 3) F.1 F.2.1 dX12_count_34 (by decide) ?_
            refine lv_icmp_ne (tgt := 44) F.1 F.2.1 dX12_count_35 (by decide) (fun _ => ?_) (fun hc => absurd hc (by decide))
            refine lv_iload_n F.1 F.2.1 dX12_count_44 rfl (lv_at hl 2 rfl) ?_
            refine lv_iadd F.1 F.2.1 dX12_count_45 ?_
            refine x_topi (y := 0) (by decide +kernel) ?_
            refine x_lald (v := 0) F h 0 rfl rfl (x_in (by decide +kernel)) rfl dX12_count_46 ?_
            refine lv_l2i (v := 0) F.1 F.2.1 dX12_count_47 (by decide +kernel) ?_
            refine x_Vi (wr := [(((u 0)), .inl (cy 2, 25710, .inr (.inl (fun _ => 0))))]) F h yk_X12_gives mw_499 mw_500 mw_501 (c_m_gives l D cy q ((.ref ((u 0)) :: .int 0 :: .long 0 :: .long 1 :: .ref ((u 1)) :: .ref ((u 2)) :: .ref ((u 3)) :: .ref ((u 4)) :: .ref ((u 5)) :: .int 0 :: .int 0 :: .int 0 :: .int 0 :: .int 0 :: .int 0 :: .int (-1) :: .int (-1) :: .int 0 :: .ref ((u 6)) :: .int 0 :: .int 0 :: .ref ((u 7)) :: .ref ((u 8)) :: .ref ((u 9)) :: .ref ((u 10)) :: .ref ((u 11)) :: .ref ((u 12)) :: .ref ((u 13)) :: .int 0 :: .int 0 :: .int (-1) :: .int 0 :: .int (-1) :: .int 0 :: .ref ((u 14)) :: .int 0 :: .int 0 :: .int 0 :: .int 0 :: .int 0 :: .ref ((u 15)) :: .ref ((u 16)) :: .int 0 :: .int (-1) :: .int 0 :: .int 0 :: .int 0 :: .int 0 :: .ref ((u 17)) :: .ref ((u 18)) :: .ref ((u 19)) :: .int 0 :: .ref ((u 20)) :: .ref ((u 21)) :: .int 0 :: .ref ((u 22)) :: .int (-1) :: .int 0 :: .ref ((u 23)) :: .int (-1) :: .int (-1) :: .int 0 :: .ref ((u 24)) :: .ref ((u 25)) :: .int 0 :: [])) rfl 0) [1] [0] 1 rfl rfl rfl rfl (by decide) rfl rfl hl.1 rfl (Nat.le_of_ble_eq_true rfl) ⟨Nat.le_of_ble_eq_true rfl, Nat.le_of_ble_eq_true rfl⟩ ⟨Nat.le_of_ble_eq_true rfl, Nat.le_of_ble_eq_true rfl⟩ dX12_count_48 (fun r16 u17 H locs hp15 h => ?_)
            have h : xS D cy A s.heap ([(((u 0)), .inl (cy 2, 25710, .inr (.inl (fun _ => 0))))]) s H locs := h
            obtain rfl : r16 = 0 := hp15
            exact x_iret F h hr hlk rfl (fun _ => 0) [] (by simp [ht5, ht6]) (by decide +kernel) rfl (Nat.le_of_ble_eq_true rfl) (Nat.le_of_ble_eq_true rfl) dX12_count_51
          · refine lv_aload_n F.1 F.2.1 dX12_count_23 rfl (lv_at hl 0 rfl) ?_
            refine lv_aload_n F.1 F.2.1 dX12_count_24 rfl (lv_at hl 0 rfl) ?_
            refine x_get F h 1 0 inlX12 rfl (by decide) mw_202 dX12_count_25 rfl rfl ?_
            refine lv_sipush (v := 1650) F.1 F.2.1 dX12_count_28 (by decide) ?_
            refine lv_iload_n F.1 F.2.1 dX12_count_31 rfl (lv_at hl 1 rfl) ?_
            refine lv_imul F.1 F.2.1 dX12_count_32 ?_
            refine x_topi (y := 0) (by decide +kernel) ?_
            refine lv_iload_n F.1 F.2.1 dX12_count_33 rfl (lv_at hl 2 rfl) ?_
            refine lv_iconst (v := 3) F.1 F.2.1 dX12_count_34 (by decide) ?_
            refine lv_icmp_ne (tgt := 44) F.1 F.2.1 dX12_count_35 (by decide) (fun _ => ?_) (fun hc => absurd hc (by decide))
            refine lv_iload_n F.1 F.2.1 dX12_count_44 rfl (lv_at hl 2 rfl) ?_
            refine lv_iadd F.1 F.2.1 dX12_count_45 ?_
            refine x_topi (y := 1) (by decide +kernel) ?_
            refine x_lald (v := 0) F h 0 rfl rfl (x_in (by decide +kernel)) rfl dX12_count_46 ?_
            refine lv_l2i (v := 0) F.1 F.2.1 dX12_count_47 (by decide +kernel) ?_
            refine x_Vi (wr := [(((u 0)), .inl (cy 2, 25710, .inr (.inl (fun _ => 0))))]) F h yk_X12_gives mw_499 mw_500 mw_501 (c_m_gives l D cy q ((.ref ((u 0)) :: .int 0 :: .long 0 :: .long 1 :: .ref ((u 1)) :: .ref ((u 2)) :: .ref ((u 3)) :: .ref ((u 4)) :: .ref ((u 5)) :: .int 0 :: .int 0 :: .int 0 :: .int 0 :: .int 0 :: .int 0 :: .int (-1) :: .int (-1) :: .int 0 :: .ref ((u 6)) :: .int 0 :: .int 0 :: .ref ((u 7)) :: .ref ((u 8)) :: .ref ((u 9)) :: .ref ((u 10)) :: .ref ((u 11)) :: .ref ((u 12)) :: .ref ((u 13)) :: .int 0 :: .int 0 :: .int (-1) :: .int 0 :: .int (-1) :: .int 0 :: .ref ((u 14)) :: .int 0 :: .int 0 :: .int 0 :: .int 0 :: .int 0 :: .ref ((u 15)) :: .ref ((u 16)) :: .int 0 :: .int (-1) :: .int 0 :: .int 0 :: .int 0 :: .int 0 :: .ref ((u 17)) :: .ref ((u 18)) :: .ref ((u 19)) :: .int 0 :: .ref ((u 20)) :: .ref ((u 21)) :: .int 0 :: .ref ((u 22)) :: .int (-1) :: .int 0 :: .ref ((u 23)) :: .int (-1) :: .int (-1) :: .int 0 :: .ref ((u 24)) :: .ref ((u 25)) :: .int 0 :: [])) rfl 0) [1] [0] 1 rfl rfl rfl rfl (by decide) rfl rfl hl.1 rfl (Nat.le_of_ble_eq_true rfl) ⟨Nat.le_of_ble_eq_true rfl, Nat.le_of_ble_eq_true rfl⟩ ⟨Nat.le_of_ble_eq_true rfl, Nat.le_of_ble_eq_true rfl⟩ dX12_count_48 (fun r19 u20 H locs hp18 h => ?_)
            have h : xS D cy A s.heap ([(((u 0)), .inl (cy 2, 25710, .inr (.inl (fun _ => 0))))]) s H locs := h
            obtain rfl : r19 = 0 := hp18
            exact x_iret F h hr hlk rfl (fun _ => 0) [] (by simp [ht5, ht6]) (by decide +kernel) rfl (Nat.le_of_ble_eq_true rfl) (Nat.le_of_ble_eq_true rfl) dX12_count_51
          · refine lv_aload_n F.1 F.2.1 dX12_count_23 rfl (lv_at hl 0 rfl) ?_
            refine lv_aload_n F.1 F.2.1 dX12_count_24 rfl (lv_at hl 0 rfl) ?_
            refine x_get F h 1 0 inlX12 rfl (by decide) mw_202 dX12_count_25 rfl rfl ?_
            refine lv_sipush (v := 1650) F.1 F.2.1 dX12_count_28 (by decide) ?_
            refine lv_iload_n F.1 F.2.1 dX12_count_31 rfl (lv_at hl 1 rfl) ?_
            refine lv_imul F.1 F.2.1 dX12_count_32 ?_
            refine x_topi (y := 0) (by decide +kernel) ?_
            refine lv_iload_n F.1 F.2.1 dX12_count_33 rfl (lv_at hl 2 rfl) ?_
            refine lv_iconst (v := 3) F.1 F.2.1 dX12_count_34 (by decide) ?_
            refine lv_icmp_ne (tgt := 44) F.1 F.2.1 dX12_count_35 (by decide) (fun _ => ?_) (fun hc => absurd hc (by decide))
            refine lv_iload_n F.1 F.2.1 dX12_count_44 rfl (lv_at hl 2 rfl) ?_
            refine lv_iadd F.1 F.2.1 dX12_count_45 ?_
            refine x_topi (y := 2) (by decide +kernel) ?_
            refine x_lald (v := 0) F h 0 rfl rfl (x_in (by decide +kernel)) rfl dX12_count_46 ?_
            refine lv_l2i (v := 0) F.1 F.2.1 dX12_count_47 (by decide +kernel) ?_
            refine x_Vi (wr := [(((u 0)), .inl (cy 2, 25710, .inr (.inl (fun _ => 0))))]) F h yk_X12_gives mw_499 mw_500 mw_501 (c_m_gives l D cy q ((.ref ((u 0)) :: .int 0 :: .long 0 :: .long 1 :: .ref ((u 1)) :: .ref ((u 2)) :: .ref ((u 3)) :: .ref ((u 4)) :: .ref ((u 5)) :: .int 0 :: .int 0 :: .int 0 :: .int 0 :: .int 0 :: .int 0 :: .int (-1) :: .int (-1) :: .int 0 :: .ref ((u 6)) :: .int 0 :: .int 0 :: .ref ((u 7)) :: .ref ((u 8)) :: .ref ((u 9)) :: .ref ((u 10)) :: .ref ((u 11)) :: .ref ((u 12)) :: .ref ((u 13)) :: .int 0 :: .int 0 :: .int (-1) :: .int 0 :: .int (-1) :: .int 0 :: .ref ((u 14)) :: .int 0 :: .int 0 :: .int 0 :: .int 0 :: .int 0 :: .ref ((u 15)) :: .ref ((u 16)) :: .int 0 :: .int (-1) :: .int 0 :: .int 0 :: .int 0 :: .int 0 :: .ref ((u 17)) :: .ref ((u 18)) :: .ref ((u 19)) :: .int 0 :: .ref ((u 20)) :: .ref ((u 21)) :: .int 0 :: .ref ((u 22)) :: .int (-1) :: .int 0 :: .ref ((u 23)) :: .int (-1) :: .int (-1) :: .int 0 :: .ref ((u 24)) :: .ref ((u 25)) :: .int 0 :: [])) rfl 0) [1] [0] 1 rfl rfl rfl rfl (by decide) rfl rfl hl.1 rfl (Nat.le_of_ble_eq_true rfl) ⟨Nat.le_of_ble_eq_true rfl, Nat.le_of_ble_eq_true rfl⟩ ⟨Nat.le_of_ble_eq_true rfl, Nat.le_of_ble_eq_true rfl⟩ dX12_count_48 (fun r22 u23 H locs hp21 h => ?_)
            have h : xS D cy A s.heap ([(((u 0)), .inl (cy 2, 25710, .inr (.inl (fun _ => 0))))]) s H locs := h
            obtain rfl : r22 = 0 := hp21
            exact x_iret F h hr hlk rfl (fun _ => 0) [] (by simp [ht5, ht6]) (by decide +kernel) rfl (Nat.le_of_ble_eq_true rfl) (Nat.le_of_ble_eq_true rfl) dX12_count_51
          · refine lv_aload_n F.1 F.2.1 dX12_count_23 rfl (lv_at hl 0 rfl) ?_
            refine lv_aload_n F.1 F.2.1 dX12_count_24 rfl (lv_at hl 0 rfl) ?_
            refine x_get F h 1 0 inlX12 rfl (by decide) mw_202 dX12_count_25 rfl rfl ?_
            refine lv_sipush (v := 1650) F.1 F.2.1 dX12_count_28 (by decide) ?_
            refine lv_iload_n F.1 F.2.1 dX12_count_31 rfl (lv_at hl 1 rfl) ?_
            refine lv_imul F.1 F.2.1 dX12_count_32 ?_
            refine x_topi (y := 0) (by decide +kernel) ?_
            refine lv_iload_n F.1 F.2.1 dX12_count_33 rfl (lv_at hl 2 rfl) ?_
            refine lv_iconst (v := 3) F.1 F.2.1 dX12_count_34 (by decide) ?_
            refine lv_icmp_ne (tgt := 44) F.1 F.2.1 dX12_count_35 (by decide) (fun hc => absurd hc (by decide)) (fun _ => ?_)
            refine lv_sipush (v := 1567) F.1 F.2.1 dX12_count_38 (by decide) ?_
            refine lv_goto (tgt := 45) F.1 F.2.1 dX12_count_41 (by decide) ?_
            refine lv_iadd F.1 F.2.1 dX12_count_45 ?_
            refine x_topi (y := 1567) (by decide +kernel) ?_
            refine x_lald (v := 0) F h 0 rfl rfl (x_in (by decide +kernel)) rfl dX12_count_46 ?_
            refine lv_l2i (v := 0) F.1 F.2.1 dX12_count_47 (by decide +kernel) ?_
            refine x_Vi (wr := [(((u 0)), .inl (cy 2, 25710, .inr (.inl (fun _ => 0))))]) F h yk_X12_gives mw_499 mw_500 mw_501 (c_m_gives l D cy q ((.ref ((u 0)) :: .int 0 :: .long 0 :: .long 1 :: .ref ((u 1)) :: .ref ((u 2)) :: .ref ((u 3)) :: .ref ((u 4)) :: .ref ((u 5)) :: .int 0 :: .int 0 :: .int 0 :: .int 0 :: .int 0 :: .int 0 :: .int (-1) :: .int (-1) :: .int 0 :: .ref ((u 6)) :: .int 0 :: .int 0 :: .ref ((u 7)) :: .ref ((u 8)) :: .ref ((u 9)) :: .ref ((u 10)) :: .ref ((u 11)) :: .ref ((u 12)) :: .ref ((u 13)) :: .int 0 :: .int 0 :: .int (-1) :: .int 0 :: .int (-1) :: .int 0 :: .ref ((u 14)) :: .int 0 :: .int 0 :: .int 0 :: .int 0 :: .int 0 :: .ref ((u 15)) :: .ref ((u 16)) :: .int 0 :: .int (-1) :: .int 0 :: .int 0 :: .int 0 :: .int 0 :: .ref ((u 17)) :: .ref ((u 18)) :: .ref ((u 19)) :: .int 0 :: .ref ((u 20)) :: .ref ((u 21)) :: .int 0 :: .ref ((u 22)) :: .int (-1) :: .int 0 :: .ref ((u 23)) :: .int (-1) :: .int (-1) :: .int 0 :: .ref ((u 24)) :: .ref ((u 25)) :: .int 0 :: [])) rfl 0) [1] [0] 1 rfl rfl rfl rfl (by decide) rfl rfl hl.1 rfl (Nat.le_of_ble_eq_true rfl) ⟨Nat.le_of_ble_eq_true rfl, Nat.le_of_ble_eq_true rfl⟩ ⟨Nat.le_of_ble_eq_true rfl, Nat.le_of_ble_eq_true rfl⟩ dX12_count_48 (fun r25 u26 H locs hp24 h => ?_)
            have h : xS D cy A s.heap ([(((u 0)), .inl (cy 2, 25710, .inr (.inl (fun _ => 0))))]) s H locs := h
            obtain rfl : r25 = 0 := hp24
            exact x_iret F h hr hlk rfl (fun _ => 0) [] (by simp [ht5, ht6]) (by decide +kernel) rfl (Nat.le_of_ble_eq_true rfl) (Nat.le_of_ble_eq_true rfl) dX12_count_51
        · rcases x_c4' hc10 hc14 with rfl | rfl | rfl | rfl
          · refine lv_aload_n F.1 F.2.1 dX12_count_23 rfl (lv_at hl 0 rfl) ?_
            refine lv_aload_n F.1 F.2.1 dX12_count_24 rfl (lv_at hl 0 rfl) ?_
            refine x_get F h 1 0 inlX12 rfl (by decide) mw_202 dX12_count_25 rfl rfl ?_
            refine lv_sipush (v := 1650) F.1 F.2.1 dX12_count_28 (by decide) ?_
            refine lv_iload_n F.1 F.2.1 dX12_count_31 rfl (lv_at hl 1 rfl) ?_
            refine lv_imul F.1 F.2.1 dX12_count_32 ?_
            refine x_topi (y := 1650) (by decide +kernel) ?_
            refine lv_iload_n F.1 F.2.1 dX12_count_33 rfl (lv_at hl 2 rfl) ?_
            refine lv_iconst (v := 3) F.1 F.2.1 dX12_count_34 (by decide) ?_
            refine lv_icmp_ne (tgt := 44) F.1 F.2.1 dX12_count_35 (by decide) (fun _ => ?_) (fun hc => absurd hc (by decide))
            refine lv_iload_n F.1 F.2.1 dX12_count_44 rfl (lv_at hl 2 rfl) ?_
            refine lv_iadd F.1 F.2.1 dX12_count_45 ?_
            refine x_topi (y := 1650) (by decide +kernel) ?_
            refine x_lald (v := 0) F h 0 rfl rfl (x_in (by decide +kernel)) rfl dX12_count_46 ?_
            refine lv_l2i (v := 0) F.1 F.2.1 dX12_count_47 (by decide +kernel) ?_
            refine x_Vi (wr := [(((u 0)), .inl (cy 2, 25710, .inr (.inl (fun _ => 0))))]) F h yk_X12_gives mw_499 mw_500 mw_501 (c_m_gives l D cy q ((.ref ((u 0)) :: .int 0 :: .long 0 :: .long 1 :: .ref ((u 1)) :: .ref ((u 2)) :: .ref ((u 3)) :: .ref ((u 4)) :: .ref ((u 5)) :: .int 0 :: .int 0 :: .int 0 :: .int 0 :: .int 0 :: .int 0 :: .int (-1) :: .int (-1) :: .int 0 :: .ref ((u 6)) :: .int 0 :: .int 0 :: .ref ((u 7)) :: .ref ((u 8)) :: .ref ((u 9)) :: .ref ((u 10)) :: .ref ((u 11)) :: .ref ((u 12)) :: .ref ((u 13)) :: .int 0 :: .int 0 :: .int (-1) :: .int 0 :: .int (-1) :: .int 0 :: .ref ((u 14)) :: .int 0 :: .int 0 :: .int 0 :: .int 0 :: .int 0 :: .ref ((u 15)) :: .ref ((u 16)) :: .int 0 :: .int (-1) :: .int 0 :: .int 0 :: .int 0 :: .int 0 :: .ref ((u 17)) :: .ref ((u 18)) :: .ref ((u 19)) :: .int 0 :: .ref ((u 20)) :: .ref ((u 21)) :: .int 0 :: .ref ((u 22)) :: .int (-1) :: .int 0 :: .ref ((u 23)) :: .int (-1) :: .int (-1) :: .int 0 :: .ref ((u 24)) :: .ref ((u 25)) :: .int 0 :: [])) rfl 0) [1] [0] 1 rfl rfl rfl rfl (by decide) rfl rfl hl.1 rfl (Nat.le_of_ble_eq_true rfl) ⟨Nat.le_of_ble_eq_true rfl, Nat.le_of_ble_eq_true rfl⟩ ⟨Nat.le_of_ble_eq_true rfl, Nat.le_of_ble_eq_true rfl⟩ dX12_count_48 (fun r28 u29 H locs hp27 h => ?_)
            have h : xS D cy A s.heap ([(((u 0)), .inl (cy 2, 25710, .inr (.inl (fun _ => 0))))]) s H locs := h
            obtain rfl : r28 = 0 := hp27
            exact x_iret F h hr hlk rfl (fun _ => 0) [] (by simp [ht5, ht6]) (by decide +kernel) rfl (Nat.le_of_ble_eq_true rfl) (Nat.le_of_ble_eq_true rfl) dX12_count_51
          · refine lv_aload_n F.1 F.2.1 dX12_count_23 rfl (lv_at hl 0 rfl) ?_
            refine lv_aload_n F.1 F.2.1 dX12_count_24 rfl (lv_at hl 0 rfl) ?_
            refine x_get F h 1 0 inlX12 rfl (by decide) mw_202 dX12_count_25 rfl rfl ?_
            refine lv_sipush (v := 1650) F.1 F.2.1 dX12_count_28 (by decide) ?_
            refine lv_iload_n F.1 F.2.1 dX12_count_31 rfl (lv_at hl 1 rfl) ?_
            refine lv_imul F.1 F.2.1 dX12_count_32 ?_
            refine x_topi (y := 1650) (by decide +kernel) ?_
            refine lv_iload_n F.1 F.2.1 dX12_count_33 rfl (lv_at hl 2 rfl) ?_
            refine lv_iconst (v := 3) F.1 F.2.1 dX12_count_34 (by decide) ?_
            refine lv_icmp_ne (tgt := 44) F.1 F.2.1 dX12_count_35 (by decide) (fun _ => ?_) (fun hc => absurd hc (by decide))
            refine lv_iload_n F.1 F.2.1 dX12_count_44 rfl (lv_at hl 2 rfl) ?_
            refine lv_iadd F.1 F.2.1 dX12_count_45 ?_
            refine x_topi (y := 1651) (by decide +kernel) ?_
            refine x_lald (v := 0) F h 0 rfl rfl (x_in (by decide +kernel)) rfl dX12_count_46 ?_
            refine lv_l2i (v := 0) F.1 F.2.1 dX12_count_47 (by decide +kernel) ?_
            refine x_Vi (wr := [(((u 0)), .inl (cy 2, 25710, .inr (.inl (fun _ => 0))))]) F h yk_X12_gives mw_499 mw_500 mw_501 (c_m_gives l D cy q ((.ref ((u 0)) :: .int 0 :: .long 0 :: .long 1 :: .ref ((u 1)) :: .ref ((u 2)) :: .ref ((u 3)) :: .ref ((u 4)) :: .ref ((u 5)) :: .int 0 :: .int 0 :: .int 0 :: .int 0 :: .int 0 :: .int 0 :: .int (-1) :: .int (-1) :: .int 0 :: .ref ((u 6)) :: .int 0 :: .int 0 :: .ref ((u 7)) :: .ref ((u 8)) :: .ref ((u 9)) :: .ref ((u 10)) :: .ref ((u 11)) :: .ref ((u 12)) :: .ref ((u 13)) :: .int 0 :: .int 0 :: .int (-1) :: .int 0 :: .int (-1) :: .int 0 :: .ref ((u 14)) :: .int 0 :: .int 0 :: .int 0 :: .int 0 :: .int 0 :: .ref ((u 15)) :: .ref ((u 16)) :: .int 0 :: .int (-1) :: .int 0 :: .int 0 :: .int 0 :: .int 0 :: .ref ((u 17)) :: .ref ((u 18)) :: .ref ((u 19)) :: .int 0 :: .ref ((u 20)) :: .ref ((u 21)) :: .int 0 :: .ref ((u 22)) :: .int (-1) :: .int 0 :: .ref ((u 23)) :: .int (-1) :: .int (-1) :: .int 0 :: .ref ((u 24)) :: .ref ((u 25)) :: .int 0 :: [])) rfl 0) [1] [0] 1 rfl rfl rfl rfl (by decide) rfl rfl hl.1 rfl (Nat.le_of_ble_eq_true rfl) ⟨Nat.le_of_ble_eq_true rfl, Nat.le_of_ble_eq_true rfl⟩ ⟨Nat.le_of_ble_eq_true rfl, Nat.le_of_ble_eq_true rfl⟩ dX12_count_48 (fun r31 u32 H locs hp30 h => ?_)
            have h : xS D cy A s.heap ([(((u 0)), .inl (cy 2, 25710, .inr (.inl (fun _ => 0))))]) s H locs := h
            obtain rfl : r31 = 0 := hp30
            exact x_iret F h hr hlk rfl (fun _ => 0) [] (by simp [ht5, ht6]) (by decide +kernel) rfl (Nat.le_of_ble_eq_true rfl) (Nat.le_of_ble_eq_true rfl) dX12_count_51
          · refine lv_aload_n F.1 F.2.1 dX12_count_23 rfl (lv_at hl 0 rfl) ?_
            refine lv_aload_n F.1 F.2.1 dX12_count_24 rfl (lv_at hl 0 rfl) ?_
            refine x_get F h 1 0 inlX12 rfl (by decide) mw_202 dX12_count_25 rfl rfl ?_
            refine lv_sipush (v := 1650) F.1 F.2.1 dX12_count_28 (by decide) ?_
            refine lv_iload_n F.1 F.2.1 dX12_count_31 rfl (lv_at hl 1 rfl) ?_
            refine lv_imul F.1 F.2.1 dX12_count_32 ?_
            refine x_topi (y := 1650) (by decide +kernel) ?_
            refine lv_iload_n F.1 F.2.1 dX12_count_33 rfl (lv_at hl 2 rfl) ?_
            refine lv_iconst (v := 3) F.1 F.2.1 dX12_count_34 (by decide) ?_
            refine lv_icmp_ne (tgt := 44) F.1 F.2.1 dX12_count_35 (by decide) (fun _ => ?_) (fun hc => absurd hc (by decide))
            refine lv_iload_n F.1 F.2.1 dX12_count_44 rfl (lv_at hl 2 rfl) ?_
            refine lv_iadd F.1 F.2.1 dX12_count_45 ?_
            refine x_topi (y := 1652) (by decide +kernel) ?_
            refine x_lald (v := 0) F h 0 rfl rfl (x_in (by decide +kernel)) rfl dX12_count_46 ?_
            refine lv_l2i (v := 0) F.1 F.2.1 dX12_count_47 (by decide +kernel) ?_
            refine x_Vi (wr := [(((u 0)), .inl (cy 2, 25710, .inr (.inl (fun _ => 0))))]) F h yk_X12_gives mw_499 mw_500 mw_501 (c_m_gives l D cy q ((.ref ((u 0)) :: .int 0 :: .long 0 :: .long 1 :: .ref ((u 1)) :: .ref ((u 2)) :: .ref ((u 3)) :: .ref ((u 4)) :: .ref ((u 5)) :: .int 0 :: .int 0 :: .int 0 :: .int 0 :: .int 0 :: .int 0 :: .int (-1) :: .int (-1) :: .int 0 :: .ref ((u 6)) :: .int 0 :: .int 0 :: .ref ((u 7)) :: .ref ((u 8)) :: .ref ((u 9)) :: .ref ((u 10)) :: .ref ((u 11)) :: .ref ((u 12)) :: .ref ((u 13)) :: .int 0 :: .int 0 :: .int (-1) :: .int 0 :: .int (-1) :: .int 0 :: .ref ((u 14)) :: .int 0 :: .int 0 :: .int 0 :: .int 0 :: .int 0 :: .ref ((u 15)) :: .ref ((u 16)) :: .int 0 :: .int (-1) :: .int 0 :: .int 0 :: .int 0 :: .int 0 :: .ref ((u 17)) :: .ref ((u 18)) :: .ref ((u 19)) :: .int 0 :: .ref ((u 20)) :: .ref ((u 21)) :: .int 0 :: .ref ((u 22)) :: .int (-1) :: .int 0 :: .ref ((u 23)) :: .int (-1) :: .int (-1) :: .int 0 :: .ref ((u 24)) :: .ref ((u 25)) :: .int 0 :: [])) rfl 0) [1] [0] 1 rfl rfl rfl rfl (by decide) rfl rfl hl.1 rfl (Nat.le_of_ble_eq_true rfl) ⟨Nat.le_of_ble_eq_true rfl, Nat.le_of_ble_eq_true rfl⟩ ⟨Nat.le_of_ble_eq_true rfl, Nat.le_of_ble_eq_true rfl⟩ dX12_count_48 (fun r34 u35 H locs hp33 h => ?_)
            have h : xS D cy A s.heap ([(((u 0)), .inl (cy 2, 25710, .inr (.inl (fun _ => 0))))]) s H locs := h
            obtain rfl : r34 = 0 := hp33
            exact x_iret F h hr hlk rfl (fun _ => 0) [] (by simp [ht5, ht6]) (by decide +kernel) rfl (Nat.le_of_ble_eq_true rfl) (Nat.le_of_ble_eq_true rfl) dX12_count_51
          · refine lv_aload_n F.1 F.2.1 dX12_count_23 rfl (lv_at hl 0 rfl) ?_
            refine lv_aload_n F.1 F.2.1 dX12_count_24 rfl (lv_at hl 0 rfl) ?_
            refine x_get F h 1 0 inlX12 rfl (by decide) mw_202 dX12_count_25 rfl rfl ?_
            refine lv_sipush (v := 1650) F.1 F.2.1 dX12_count_28 (by decide) ?_
            refine lv_iload_n F.1 F.2.1 dX12_count_31 rfl (lv_at hl 1 rfl) ?_
            refine lv_imul F.1 F.2.1 dX12_count_32 ?_
            refine x_topi (y := 1650) (by decide +kernel) ?_
            refine lv_iload_n F.1 F.2.1 dX12_count_33 rfl (lv_at hl 2 rfl) ?_
            refine lv_iconst (v := 3) F.1 F.2.1 dX12_count_34 (by decide) ?_
            refine lv_icmp_ne (tgt := 44) F.1 F.2.1 dX12_count_35 (by decide) (fun hc => absurd hc (by decide)) (fun _ => ?_)
            refine lv_sipush (v := 1567) F.1 F.2.1 dX12_count_38 (by decide) ?_
            refine lv_goto (tgt := 45) F.1 F.2.1 dX12_count_41 (by decide) ?_
            refine lv_iadd F.1 F.2.1 dX12_count_45 ?_
            refine x_topi (y := 3217) (by decide +kernel) ?_
            refine x_lald (v := 0) F h 0 rfl rfl (x_in (by decide +kernel)) rfl dX12_count_46 ?_
            refine lv_l2i (v := 0) F.1 F.2.1 dX12_count_47 (by decide +kernel) ?_
            refine x_Vi (wr := [(((u 0)), .inl (cy 2, 25710, .inr (.inl (fun _ => 0))))]) F h yk_X12_gives mw_499 mw_500 mw_501 (c_m_gives l D cy q ((.ref ((u 0)) :: .int 0 :: .long 0 :: .long 1 :: .ref ((u 1)) :: .ref ((u 2)) :: .ref ((u 3)) :: .ref ((u 4)) :: .ref ((u 5)) :: .int 0 :: .int 0 :: .int 0 :: .int 0 :: .int 0 :: .int 0 :: .int (-1) :: .int (-1) :: .int 0 :: .ref ((u 6)) :: .int 0 :: .int 0 :: .ref ((u 7)) :: .ref ((u 8)) :: .ref ((u 9)) :: .ref ((u 10)) :: .ref ((u 11)) :: .ref ((u 12)) :: .ref ((u 13)) :: .int 0 :: .int 0 :: .int (-1) :: .int 0 :: .int (-1) :: .int 0 :: .ref ((u 14)) :: .int 0 :: .int 0 :: .int 0 :: .int 0 :: .int 0 :: .ref ((u 15)) :: .ref ((u 16)) :: .int 0 :: .int (-1) :: .int 0 :: .int 0 :: .int 0 :: .int 0 :: .ref ((u 17)) :: .ref ((u 18)) :: .ref ((u 19)) :: .int 0 :: .ref ((u 20)) :: .ref ((u 21)) :: .int 0 :: .ref ((u 22)) :: .int (-1) :: .int 0 :: .ref ((u 23)) :: .int (-1) :: .int (-1) :: .int 0 :: .ref ((u 24)) :: .ref ((u 25)) :: .int 0 :: [])) rfl 0) [1] [0] 1 rfl rfl rfl rfl (by decide) rfl rfl hl.1 rfl (Nat.le_of_ble_eq_true rfl) ⟨Nat.le_of_ble_eq_true rfl, Nat.le_of_ble_eq_true rfl⟩ ⟨Nat.le_of_ble_eq_true rfl, Nat.le_of_ble_eq_true rfl⟩ dX12_count_48 (fun r37 u38 H locs hp36 h => ?_)
            have h : xS D cy A s.heap ([(((u 0)), .inl (cy 2, 25710, .inr (.inl (fun _ => 0))))]) s H locs := h
            obtain rfl : r37 = 0 := hp36
            exact x_iret F h hr hlk rfl (fun _ => 0) [] (by simp [ht5, ht6]) (by decide +kernel) rfl (Nat.le_of_ble_eq_true rfl) (Nat.le_of_ble_eq_true rfl) dX12_count_51
        · rcases x_c4' hc10 hc14 with rfl | rfl | rfl | rfl
          · refine lv_aload_n F.1 F.2.1 dX12_count_23 rfl (lv_at hl 0 rfl) ?_
            refine lv_aload_n F.1 F.2.1 dX12_count_24 rfl (lv_at hl 0 rfl) ?_
            refine x_get F h 1 0 inlX12 rfl (by decide) mw_202 dX12_count_25 rfl rfl ?_
            refine lv_sipush (v := 1650) F.1 F.2.1 dX12_count_28 (by decide) ?_
            refine lv_iload_n F.1 F.2.1 dX12_count_31 rfl (lv_at hl 1 rfl) ?_
            refine lv_imul F.1 F.2.1 dX12_count_32 ?_
            refine x_topi (y := 3300) (by decide +kernel) ?_
            refine lv_iload_n F.1 F.2.1 dX12_count_33 rfl (lv_at hl 2 rfl) ?_
            refine lv_iconst (v := 3) F.1 F.2.1 dX12_count_34 (by decide) ?_
            refine lv_icmp_ne (tgt := 44) F.1 F.2.1 dX12_count_35 (by decide) (fun _ => ?_) (fun hc => absurd hc (by decide))
            refine lv_iload_n F.1 F.2.1 dX12_count_44 rfl (lv_at hl 2 rfl) ?_
            refine lv_iadd F.1 F.2.1 dX12_count_45 ?_
            refine x_topi (y := 3300) (by decide +kernel) ?_
            refine x_lald (v := 0) F h 0 rfl rfl (x_in (by decide +kernel)) rfl dX12_count_46 ?_
            refine lv_l2i (v := 0) F.1 F.2.1 dX12_count_47 (by decide +kernel) ?_
            refine x_Vi (wr := [(((u 0)), .inl (cy 2, 25710, .inr (.inl (fun _ => 0))))]) F h yk_X12_gives mw_499 mw_500 mw_501 (c_m_gives l D cy q ((.ref ((u 0)) :: .int 0 :: .long 0 :: .long 1 :: .ref ((u 1)) :: .ref ((u 2)) :: .ref ((u 3)) :: .ref ((u 4)) :: .ref ((u 5)) :: .int 0 :: .int 0 :: .int 0 :: .int 0 :: .int 0 :: .int 0 :: .int (-1) :: .int (-1) :: .int 0 :: .ref ((u 6)) :: .int 0 :: .int 0 :: .ref ((u 7)) :: .ref ((u 8)) :: .ref ((u 9)) :: .ref ((u 10)) :: .ref ((u 11)) :: .ref ((u 12)) :: .ref ((u 13)) :: .int 0 :: .int 0 :: .int (-1) :: .int 0 :: .int (-1) :: .int 0 :: .ref ((u 14)) :: .int 0 :: .int 0 :: .int 0 :: .int 0 :: .int 0 :: .ref ((u 15)) :: .ref ((u 16)) :: .int 0 :: .int (-1) :: .int 0 :: .int 0 :: .int 0 :: .int 0 :: .ref ((u 17)) :: .ref ((u 18)) :: .ref ((u 19)) :: .int 0 :: .ref ((u 20)) :: .ref ((u 21)) :: .int 0 :: .ref ((u 22)) :: .int (-1) :: .int 0 :: .ref ((u 23)) :: .int (-1) :: .int (-1) :: .int 0 :: .ref ((u 24)) :: .ref ((u 25)) :: .int 0 :: [])) rfl 0) [1] [0] 1 rfl rfl rfl rfl (by decide) rfl rfl hl.1 rfl (Nat.le_of_ble_eq_true rfl) ⟨Nat.le_of_ble_eq_true rfl, Nat.le_of_ble_eq_true rfl⟩ ⟨Nat.le_of_ble_eq_true rfl, Nat.le_of_ble_eq_true rfl⟩ dX12_count_48 (fun r40 u41 H locs hp39 h => ?_)
            have h : xS D cy A s.heap ([(((u 0)), .inl (cy 2, 25710, .inr (.inl (fun _ => 0))))]) s H locs := h
            obtain rfl : r40 = 0 := hp39
            exact x_iret F h hr hlk rfl (fun _ => 0) [] (by simp [ht5, ht6]) (by decide +kernel) rfl (Nat.le_of_ble_eq_true rfl) (Nat.le_of_ble_eq_true rfl) dX12_count_51
          · refine lv_aload_n F.1 F.2.1 dX12_count_23 rfl (lv_at hl 0 rfl) ?_
            refine lv_aload_n F.1 F.2.1 dX12_count_24 rfl (lv_at hl 0 rfl) ?_
            refine x_get F h 1 0 inlX12 rfl (by decide) mw_202 dX12_count_25 rfl rfl ?_
            refine lv_sipush (v := 1650) F.1 F.2.1 dX12_count_28 (by decide) ?_
            refine lv_iload_n F.1 F.2.1 dX12_count_31 rfl (lv_at hl 1 rfl) ?_
            refine lv_imul F.1 F.2.1 dX12_count_32 ?_
            refine x_topi (y := 3300) (by decide +kernel) ?_
            refine lv_iload_n F.1 F.2.1 dX12_count_33 rfl (lv_at hl 2 rfl) ?_
            refine lv_iconst (v := 3) F.1 F.2.1 dX12_count_34 (by decide) ?_
            refine lv_icmp_ne (tgt := 44) F.1 F.2.1 dX12_count_35 (by decide) (fun _ => ?_) (fun hc => absurd hc (by decide))
            refine lv_iload_n F.1 F.2.1 dX12_count_44 rfl (lv_at hl 2 rfl) ?_
            refine lv_iadd F.1 F.2.1 dX12_count_45 ?_
            refine x_topi (y := 3301) (by decide +kernel) ?_
            refine x_lald (v := 0) F h 0 rfl rfl (x_in (by decide +kernel)) rfl dX12_count_46 ?_
            refine lv_l2i (v := 0) F.1 F.2.1 dX12_count_47 (by decide +kernel) ?_
            refine x_Vi (wr := [(((u 0)), .inl (cy 2, 25710, .inr (.inl (fun _ => 0))))]) F h yk_X12_gives mw_499 mw_500 mw_501 (c_m_gives l D cy q ((.ref ((u 0)) :: .int 0 :: .long 0 :: .long 1 :: .ref ((u 1)) :: .ref ((u 2)) :: .ref ((u 3)) :: .ref ((u 4)) :: .ref ((u 5)) :: .int 0 :: .int 0 :: .int 0 :: .int 0 :: .int 0 :: .int 0 :: .int (-1) :: .int (-1) :: .int 0 :: .ref ((u 6)) :: .int 0 :: .int 0 :: .ref ((u 7)) :: .ref ((u 8)) :: .ref ((u 9)) :: .ref ((u 10)) :: .ref ((u 11)) :: .ref ((u 12)) :: .ref ((u 13)) :: .int 0 :: .int 0 :: .int (-1) :: .int 0 :: .int (-1) :: .int 0 :: .ref ((u 14)) :: .int 0 :: .int 0 :: .int 0 :: .int 0 :: .int 0 :: .ref ((u 15)) :: .ref ((u 16)) :: .int 0 :: .int (-1) :: .int 0 :: .int 0 :: .int 0 :: .int 0 :: .ref ((u 17)) :: .ref ((u 18)) :: .ref ((u 19)) :: .int 0 :: .ref ((u 20)) :: .ref ((u 21)) :: .int 0 :: .ref ((u 22)) :: .int (-1) :: .int 0 :: .ref ((u 23)) :: .int (-1) :: .int (-1) :: .int 0 :: .ref ((u 24)) :: .ref ((u 25)) :: .int 0 :: [])) rfl 0) [1] [0] 1 rfl rfl rfl rfl (by decide) rfl rfl hl.1 rfl (Nat.le_of_ble_eq_true rfl) ⟨Nat.le_of_ble_eq_true rfl, Nat.le_of_ble_eq_true rfl⟩ ⟨Nat.le_of_ble_eq_true rfl, Nat.le_of_ble_eq_true rfl⟩ dX12_count_48 (fun r43 u44 H locs hp42 h => ?_)
            have h : xS D cy A s.heap ([(((u 0)), .inl (cy 2, 25710, .inr (.inl (fun _ => 0))))]) s H locs := h
            obtain rfl : r43 = 0 := hp42
            exact x_iret F h hr hlk rfl (fun _ => 0) [] (by simp [ht5, ht6]) (by decide +kernel) rfl (Nat.le_of_ble_eq_true rfl) (Nat.le_of_ble_eq_true rfl) dX12_count_51
          · refine lv_aload_n F.1 F.2.1 dX12_count_23 rfl (lv_at hl 0 rfl) ?_
            refine lv_aload_n F.1 F.2.1 dX12_count_24 rfl (lv_at hl 0 rfl) ?_
            refine x_get F h 1 0 inlX12 rfl (by decide) mw_202 dX12_count_25 rfl rfl ?_
            refine lv_sipush (v := 1650) F.1 F.2.1 dX12_count_28 (by decide) ?_
            refine lv_iload_n F.1 F.2.1 dX12_count_31 rfl (lv_at hl 1 rfl) ?_
            refine lv_imul F.1 F.2.1 dX12_count_32 ?_
            refine x_topi (y := 3300) (by decide +kernel) ?_
            refine lv_iload_n F.1 F.2.1 dX12_count_33 rfl (lv_at hl 2 rfl) ?_
            refine lv_iconst (v := 3) F.1 F.2.1 dX12_count_34 (by decide) ?_
            refine lv_icmp_ne (tgt := 44) F.1 F.2.1 dX12_count_35 (by decide) (fun _ => ?_) (fun hc => absurd hc (by decide))
            refine lv_iload_n F.1 F.2.1 dX12_count_44 rfl (lv_at hl 2 rfl) ?_
            refine lv_iadd F.1 F.2.1 dX12_count_45 ?_
            refine x_topi (y := 3302) (by decide +kernel) ?_
            refine x_lald (v := 0) F h 0 rfl rfl (x_in (by decide +kernel)) rfl dX12_count_46 ?_
            refine lv_l2i (v := 0) F.1 F.2.1 dX12_count_47 (by decide +kernel) ?_
            refine x_Vi (wr := [(((u 0)), .inl (cy 2, 25710, .inr (.inl (fun _ => 0))))]) F h yk_X12_gives mw_499 mw_500 mw_501 (c_m_gives l D cy q ((.ref ((u 0)) :: .int 0 :: .long 0 :: .long 1 :: .ref ((u 1)) :: .ref ((u 2)) :: .ref ((u 3)) :: .ref ((u 4)) :: .ref ((u 5)) :: .int 0 :: .int 0 :: .int 0 :: .int 0 :: .int 0 :: .int 0 :: .int (-1) :: .int (-1) :: .int 0 :: .ref ((u 6)) :: .int 0 :: .int 0 :: .ref ((u 7)) :: .ref ((u 8)) :: .ref ((u 9)) :: .ref ((u 10)) :: .ref ((u 11)) :: .ref ((u 12)) :: .ref ((u 13)) :: .int 0 :: .int 0 :: .int (-1) :: .int 0 :: .int (-1) :: .int 0 :: .ref ((u 14)) :: .int 0 :: .int 0 :: .int 0 :: .int 0 :: .int 0 :: .ref ((u 15)) :: .ref ((u 16)) :: .int 0 :: .int (-1) :: .int 0 :: .int 0 :: .int 0 :: .int 0 :: .ref ((u 17)) :: .ref ((u 18)) :: .ref ((u 19)) :: .int 0 :: .ref ((u 20)) :: .ref ((u 21)) :: .int 0 :: .ref ((u 22)) :: .int (-1) :: .int 0 :: .ref ((u 23)) :: .int (-1) :: .int (-1) :: .int 0 :: .ref ((u 24)) :: .ref ((u 25)) :: .int 0 :: [])) rfl 0) [1] [0] 1 rfl rfl rfl rfl (by decide) rfl rfl hl.1 rfl (Nat.le_of_ble_eq_true rfl) ⟨Nat.le_of_ble_eq_true rfl, Nat.le_of_ble_eq_true rfl⟩ ⟨Nat.le_of_ble_eq_true rfl, Nat.le_of_ble_eq_true rfl⟩ dX12_count_48 (fun r46 u47 H locs hp45 h => ?_)
            have h : xS D cy A s.heap ([(((u 0)), .inl (cy 2, 25710, .inr (.inl (fun _ => 0))))]) s H locs := h
            obtain rfl : r46 = 0 := hp45
            exact x_iret F h hr hlk rfl (fun _ => 0) [] (by simp [ht5, ht6]) (by decide +kernel) rfl (Nat.le_of_ble_eq_true rfl) (Nat.le_of_ble_eq_true rfl) dX12_count_51
          · refine lv_aload_n F.1 F.2.1 dX12_count_23 rfl (lv_at hl 0 rfl) ?_
            refine lv_aload_n F.1 F.2.1 dX12_count_24 rfl (lv_at hl 0 rfl) ?_
            refine x_get F h 1 0 inlX12 rfl (by decide) mw_202 dX12_count_25 rfl rfl ?_
            refine lv_sipush (v := 1650) F.1 F.2.1 dX12_count_28 (by decide) ?_
            refine lv_iload_n F.1 F.2.1 dX12_count_31 rfl (lv_at hl 1 rfl) ?_
            refine lv_imul F.1 F.2.1 dX12_count_32 ?_
            refine x_topi (y := 3300) (by decide +kernel) ?_
            refine lv_iload_n F.1 F.2.1 dX12_count_33 rfl (lv_at hl 2 rfl) ?_
            refine lv_iconst (v := 3) F.1 F.2.1 dX12_count_34 (by decide) ?_
            refine lv_icmp_ne (tgt := 44) F.1 F.2.1 dX12_count_35 (by decide) (fun hc => absurd hc (by decide)) (fun _ => ?_)
            refine lv_sipush (v := 1567) F.1 F.2.1 dX12_count_38 (by decide) ?_
            refine lv_goto (tgt := 45) F.1 F.2.1 dX12_count_41 (by decide) ?_
            refine lv_iadd F.1 F.2.1 dX12_count_45 ?_
            refine x_topi (y := 4867) (by decide +kernel) ?_
            refine x_lald (v := 0) F h 0 rfl rfl (x_in (by decide +kernel)) rfl dX12_count_46 ?_
            refine lv_l2i (v := 0) F.1 F.2.1 dX12_count_47 (by decide +kernel) ?_
            refine x_Vi (wr := [(((u 0)), .inl (cy 2, 25710, .inr (.inl (fun _ => 0))))]) F h yk_X12_gives mw_499 mw_500 mw_501 (c_m_gives l D cy q ((.ref ((u 0)) :: .int 0 :: .long 0 :: .long 1 :: .ref ((u 1)) :: .ref ((u 2)) :: .ref ((u 3)) :: .ref ((u 4)) :: .ref ((u 5)) :: .int 0 :: .int 0 :: .int 0 :: .int 0 :: .int 0 :: .int 0 :: .int (-1) :: .int (-1) :: .int 0 :: .ref ((u 6)) :: .int 0 :: .int 0 :: .ref ((u 7)) :: .ref ((u 8)) :: .ref ((u 9)) :: .ref ((u 10)) :: .ref ((u 11)) :: .ref ((u 12)) :: .ref ((u 13)) :: .int 0 :: .int 0 :: .int (-1) :: .int 0 :: .int (-1) :: .int 0 :: .ref ((u 14)) :: .int 0 :: .int 0 :: .int 0 :: .int 0 :: .int 0 :: .ref ((u 15)) :: .ref ((u 16)) :: .int 0 :: .int (-1) :: .int 0 :: .int 0 :: .int 0 :: .int 0 :: .ref ((u 17)) :: .ref ((u 18)) :: .ref ((u 19)) :: .int 0 :: .ref ((u 20)) :: .ref ((u 21)) :: .int 0 :: .ref ((u 22)) :: .int (-1) :: .int 0 :: .ref ((u 23)) :: .int (-1) :: .int (-1) :: .int 0 :: .ref ((u 24)) :: .ref ((u 25)) :: .int 0 :: [])) rfl 0) [1] [0] 1 rfl rfl rfl rfl (by decide) rfl rfl hl.1 rfl (Nat.le_of_ble_eq_true rfl) ⟨Nat.le_of_ble_eq_true rfl, Nat.le_of_ble_eq_true rfl⟩ ⟨Nat.le_of_ble_eq_true rfl, Nat.le_of_ble_eq_true rfl⟩ dX12_count_48 (fun r49 u50 H locs hp48 h => ?_)
            have h : xS D cy A s.heap ([(((u 0)), .inl (cy 2, 25710, .inr (.inl (fun _ => 0))))]) s H locs := h
            obtain rfl : r49 = 0 := hp48
            exact x_iret F h hr hlk rfl (fun _ => 0) [] (by simp [ht5, ht6]) (by decide +kernel) rfl (Nat.le_of_ble_eq_true rfl) (Nat.le_of_ble_eq_true rfl) dX12_count_51
      · refine lv_aload_n F.1 F.2.1 dX12_count_17 rfl (lv_at hl 0 rfl) ?_
        refine lv_iconst (v := 1) F.1 F.2.1 dX12_count_18 (by decide) ?_
        refine x_Vi (wr := [(((u 0)), .inl (cy 2, 25710, .inr (.inl (fun _ => 0))))]) F h yk_X12_refuse mw_452 mw_453 mw_454 (c_m_refuse l D cy q ((.ref ((u 0)) :: .int 0 :: .long 0 :: .long 1 :: .ref ((u 1)) :: .ref ((u 2)) :: .ref ((u 3)) :: .ref ((u 4)) :: .ref ((u 5)) :: .int 0 :: .int 0 :: .int 0 :: .int 0 :: .int 0 :: .int 0 :: .int (-1) :: .int (-1) :: .int 0 :: .ref ((u 6)) :: .int 0 :: .int 0 :: .ref ((u 7)) :: .ref ((u 8)) :: .ref ((u 9)) :: .ref ((u 10)) :: .ref ((u 11)) :: .ref ((u 12)) :: .ref ((u 13)) :: .int 0 :: .int 0 :: .int (-1) :: .int 0 :: .int (-1) :: .int 0 :: .ref ((u 14)) :: .int 0 :: .int 0 :: .int 0 :: .int 0 :: .int 0 :: .ref ((u 15)) :: .ref ((u 16)) :: .int 0 :: .int (-1) :: .int 0 :: .int 0 :: .int 0 :: .int 0 :: .ref ((u 17)) :: .ref ((u 18)) :: .ref ((u 19)) :: .int 0 :: .ref ((u 20)) :: .ref ((u 21)) :: .int 0 :: .ref ((u 22)) :: .int (-1) :: .int 0 :: .ref ((u 23)) :: .int (-1) :: .int (-1) :: .int 0 :: .ref ((u 24)) :: .ref ((u 25)) :: .int 0 :: [])) rfl 1) [1] [0] 1 rfl rfl rfl rfl (by decide) rfl rfl hl.1 rfl (Nat.le_of_ble_eq_true rfl) ⟨Nat.le_of_ble_eq_true rfl, Nat.le_of_ble_eq_true rfl⟩ ⟨Nat.le_of_ble_eq_true rfl, Nat.le_of_ble_eq_true rfl⟩ dX12_count_19 (fun r52 u53 H locs hp51 h => ?_)
        have h : xS D cy A s.heap ([(((u 0)), .inl (cy 2, 25710, .inr (.inl (fun _ => 0))))]) s H locs := h
        obtain rfl : r52 = (-1) := hp51
        exact x_iret F h hr hlk rfl (fun _ => 0) [] (by rw [if_neg]; rintro ⟨hx, hy⟩; rcases hy with rfl | rfl | rfl | rfl <;> revert hc14 <;> decide) (by decide +kernel) rfl (Nat.le_of_ble_eq_true rfl) (Nat.le_of_ble_eq_true rfl) dX12_count_22
set_option maxHeartbeats 4000000 in
set_option maxRecDepth 100000 in
theorem c_m_leave (l : Launch) (D : va_G) (cy : Nat → ClassId) (q : Nat) (u : Nat → Nat) (k : Int32) (b0 : Int32) : ∀ sz, Met l yX12_leave (Cond.code yX12_leave cX12_leave 3 (some .boolean) :: wsL_law) { frames := 1, cells := 0, slots := 0, locals := 21 } (va_Pc [.ref q, .int k, .int b0] (xP D cy ([mM q u 0 0 0 (-1) 0]) sz)) (va_Qi (fun r _ => r = 0) (xB D (va_A ([mM q u 0 0 0 (-1) 0]) sz) (fun _ => [])) (va_A ([mM q u 0 0 0 (-1) 0]) sz)) 0 0 (va_A ([mM q u 0 0 0 (-1) 0]) sz) := by
  refine x_enter (fun A => va_Qi (fun r _ => r = 0) (xB D A (fun _ => [])) A) (by decide +kernel) rfl (Nat.le_of_ble_eq_true rfl) ?_
  intro p e s m below meth c A ls F hr hlk hin h hl
  have hl : lv_has ls 3 [(0, .ref q), (1, .int k), (2, .int b0)] := hl
  have h : xS D cy A s.heap ([(q, .inr (12, (.ref ((u 0)) :: .int 0 :: .long 0 :: .long 1 :: .ref ((u 1)) :: .ref ((u 2)) :: .ref ((u 3)) :: .ref ((u 4)) :: .ref ((u 5)) :: .int 0 :: .int 0 :: .int 0 :: .int 0 :: .int 0 :: .int 0 :: .int (-1) :: .int (-1) :: .int 0 :: .ref ((u 6)) :: .int 0 :: .int 0 :: .ref ((u 7)) :: .ref ((u 8)) :: .ref ((u 9)) :: .ref ((u 10)) :: .ref ((u 11)) :: .ref ((u 12)) :: .ref ((u 13)) :: .int 0 :: .int 0 :: .int (-1) :: .int 0 :: .int (-1) :: .int 0 :: .ref ((u 14)) :: .int 0 :: .int 0 :: .int 0 :: .int 0 :: .int 0 :: .ref ((u 15)) :: .ref ((u 16)) :: .int 0 :: .int (-1) :: .int 0 :: .int 0 :: .int 0 :: .int 0 :: .ref ((u 17)) :: .ref ((u 18)) :: .ref ((u 19)) :: .int 0 :: .ref ((u 20)) :: .ref ((u 21)) :: .int 0 :: .ref ((u 22)) :: .int (-1) :: .int 0 :: .ref ((u 23)) :: .int (-1) :: .int (-1) :: .int 0 :: .ref ((u 24)) :: .ref ((u 25)) :: .int 0 :: [])))]) s s.heap [] := h
  refine lv_iload_n F.1 F.2.1 dX12_leave_0 rfl (lv_at hl 1 rfl) ?_
  refine lv_if_lt (tgt := 12) F.1 F.2.1 dX12_leave_1 (by decide) (fun hc1 => ?_) (fun hc1 => ?_)
  · refine lv_aload_n F.1 F.2.1 dX12_leave_12 rfl (lv_at hl 0 rfl) ?_
    refine lv_iconst (v := 1) F.1 F.2.1 dX12_leave_13 (by decide) ?_
    refine x_Vi (wr := []) F h yk_X12_is mw_286 mw_287 mw_288 (c_m_is l D cy q ((.ref ((u 0)) :: .int 0 :: .long 0 :: .long 1 :: .ref ((u 1)) :: .ref ((u 2)) :: .ref ((u 3)) :: .ref ((u 4)) :: .ref ((u 5)) :: .int 0 :: .int 0 :: .int 0 :: .int 0 :: .int 0 :: .int 0 :: .int (-1) :: .int (-1) :: .int 0 :: .ref ((u 6)) :: .int 0 :: .int 0 :: .ref ((u 7)) :: .ref ((u 8)) :: .ref ((u 9)) :: .ref ((u 10)) :: .ref ((u 11)) :: .ref ((u 12)) :: .ref ((u 13)) :: .int 0 :: .int 0 :: .int (-1) :: .int 0 :: .int (-1) :: .int 0 :: .ref ((u 14)) :: .int 0 :: .int 0 :: .int 0 :: .int 0 :: .int 0 :: .ref ((u 15)) :: .ref ((u 16)) :: .int 0 :: .int (-1) :: .int 0 :: .int 0 :: .int 0 :: .int 0 :: .ref ((u 17)) :: .ref ((u 18)) :: .ref ((u 19)) :: .int 0 :: .ref ((u 20)) :: .ref ((u 21)) :: .int 0 :: .ref ((u 22)) :: .int (-1) :: .int 0 :: .ref ((u 23)) :: .int (-1) :: .int (-1) :: .int 0 :: .ref ((u 24)) :: .ref ((u 25)) :: .int 0 :: [])) rfl 1) [0] [] 0 rfl rfl rfl rfl (by decide) rfl rfl hl.1 rfl (Nat.le_of_ble_eq_true rfl) ⟨Nat.le_of_ble_eq_true rfl, Nat.le_of_ble_eq_true rfl⟩ ⟨Nat.le_of_ble_eq_true rfl, Nat.le_of_ble_eq_true rfl⟩ dX12_leave_14 (fun r3 u4 H locs hp2 h => ?_)
    have h : xS D cy A s.heap ([]) s H locs := h
    obtain rfl : r3 = 0 := (by rw [hp2]; decide)
    exact x_iret F h hr hlk (by decide +kernel) (fun _ => 0) [] (rfl) (by decide +kernel) rfl (Nat.le_of_ble_eq_true rfl) (Nat.le_of_ble_eq_true rfl) dX12_leave_17
  · refine lv_iload_n F.1 F.2.1 dX12_leave_4 rfl (lv_at hl 1 rfl) ?_
    refine lv_aload_n F.1 F.2.1 dX12_leave_5 rfl (lv_at hl 0 rfl) ?_
    refine x_get F h 0 51 inlX12 rfl (by decide) mw_773 dX12_leave_6 rfl rfl ?_
    refine lv_icmp_lt (tgt := 18) F.1 F.2.1 dX12_leave_9 (by decide) (fun hc => absurd hc hc1) (fun _ => ?_)
    refine lv_aload_n F.1 F.2.1 dX12_leave_12 rfl (lv_at hl 0 rfl) ?_
    refine lv_iconst (v := 1) F.1 F.2.1 dX12_leave_13 (by decide) ?_
    refine x_Vi (wr := []) F h yk_X12_is mw_286 mw_287 mw_288 (c_m_is l D cy q ((.ref ((u 0)) :: .int 0 :: .long 0 :: .long 1 :: .ref ((u 1)) :: .ref ((u 2)) :: .ref ((u 3)) :: .ref ((u 4)) :: .ref ((u 5)) :: .int 0 :: .int 0 :: .int 0 :: .int 0 :: .int 0 :: .int 0 :: .int (-1) :: .int (-1) :: .int 0 :: .ref ((u 6)) :: .int 0 :: .int 0 :: .ref ((u 7)) :: .ref ((u 8)) :: .ref ((u 9)) :: .ref ((u 10)) :: .ref ((u 11)) :: .ref ((u 12)) :: .ref ((u 13)) :: .int 0 :: .int 0 :: .int (-1) :: .int 0 :: .int (-1) :: .int 0 :: .ref ((u 14)) :: .int 0 :: .int 0 :: .int 0 :: .int 0 :: .int 0 :: .ref ((u 15)) :: .ref ((u 16)) :: .int 0 :: .int (-1) :: .int 0 :: .int 0 :: .int 0 :: .int 0 :: .ref ((u 17)) :: .ref ((u 18)) :: .ref ((u 19)) :: .int 0 :: .ref ((u 20)) :: .ref ((u 21)) :: .int 0 :: .ref ((u 22)) :: .int (-1) :: .int 0 :: .ref ((u 23)) :: .int (-1) :: .int (-1) :: .int 0 :: .ref ((u 24)) :: .ref ((u 25)) :: .int 0 :: [])) rfl 1) [0] [] 0 rfl rfl rfl rfl (by decide) rfl rfl hl.1 rfl (Nat.le_of_ble_eq_true rfl) ⟨Nat.le_of_ble_eq_true rfl, Nat.le_of_ble_eq_true rfl⟩ ⟨Nat.le_of_ble_eq_true rfl, Nat.le_of_ble_eq_true rfl⟩ dX12_leave_14 (fun r6 u7 H locs hp5 h => ?_)
    have h : xS D cy A s.heap ([]) s H locs := h
    obtain rfl : r6 = 0 := (by rw [hp5]; decide)
    exact x_iret F h hr hlk (by decide +kernel) (fun _ => 0) [] (rfl) (by decide +kernel) rfl (Nat.le_of_ble_eq_true rfl) (Nat.le_of_ble_eq_true rfl) dX12_leave_17
set_option maxHeartbeats 4000000 in
set_option maxRecDepth 100000 in
theorem c_m_begin (l : Launch) (D : va_G) (cy : Nat → ClassId) (q : Nat) (u : Nat → Nat) (sc : Int32) : ∀ sz, Met l yX12_begin (Cond.code yX12_begin cX12_begin 2 (some .boolean) :: wsL_law) { frames := 1, cells := 0, slots := 0, locals := 22 } (va_Pc [.ref q, .int sc] (xP D cy ([mM q u 0 0 0 (-1) 0, mA_at cy u]) sz)) (va_Qi (fun r _ => r = if sc < 0 ∨ nI 3 ≤ sc then 0 else 1) (xB D (va_A ([mM q u 0 0 0 (-1) 0, mA_at cy u]) sz) (fun _ => [])) (va_A ([mM q u 0 0 0 (-1) 0, mA_at cy u]) sz)) 0 0 (va_A ([mM q u 0 0 0 (-1) 0, mA_at cy u]) sz) := by
  refine x_enter (fun A => va_Qi (fun r _ => r = if sc < 0 ∨ nI 3 ≤ sc then 0 else 1) (xB D A (fun _ => [])) A) (by decide +kernel) rfl (Nat.le_of_ble_eq_true rfl) ?_
  intro p e s m below meth c A ls F hr hlk hin h hl
  have hl : lv_has ls 2 [(0, .ref q), (1, .int sc)] := hl
  have h : xS D cy A s.heap ([(q, .inr (12, (.ref ((u 0)) :: .int 0 :: .long 0 :: .long 1 :: .ref ((u 1)) :: .ref ((u 2)) :: .ref ((u 3)) :: .ref ((u 4)) :: .ref ((u 5)) :: .int 0 :: .int 0 :: .int 0 :: .int 0 :: .int 0 :: .int 0 :: .int (-1) :: .int (-1) :: .int 0 :: .ref ((u 6)) :: .int 0 :: .int 0 :: .ref ((u 7)) :: .ref ((u 8)) :: .ref ((u 9)) :: .ref ((u 10)) :: .ref ((u 11)) :: .ref ((u 12)) :: .ref ((u 13)) :: .int 0 :: .int 0 :: .int (-1) :: .int 0 :: .int (-1) :: .int 0 :: .ref ((u 14)) :: .int 0 :: .int 0 :: .int 0 :: .int 0 :: .int 0 :: .ref ((u 15)) :: .ref ((u 16)) :: .int 0 :: .int (-1) :: .int 0 :: .int 0 :: .int 0 :: .int 0 :: .ref ((u 17)) :: .ref ((u 18)) :: .ref ((u 19)) :: .int 0 :: .ref ((u 20)) :: .ref ((u 21)) :: .int 0 :: .ref ((u 22)) :: .int (-1) :: .int 0 :: .ref ((u 23)) :: .int (-1) :: .int (-1) :: .int 0 :: .ref ((u 24)) :: .ref ((u 25)) :: .int 0 :: []))), (((u 0)), .inl (cy 2, 25710, .inr (.inl (fun _ => 0))))]) s s.heap [] := h
  refine lv_aload_n F.1 F.2.1 dX12_begin_0 rfl (lv_at hl 0 rfl) ?_
  refine lv_iload_n F.1 F.2.1 dX12_begin_1 rfl (lv_at hl 1 rfl) ?_
  refine x_Vi (wr := [(((u 0)), .inl (cy 2, 25710, .inr (.inl (fun _ => 0))))]) F h yk_X12_isScript mw_635 mw_636 mw_637 (c_m_isScript l D cy q ((.ref ((u 0)) :: .int 0 :: .long 0 :: .long 1 :: .ref ((u 1)) :: .ref ((u 2)) :: .ref ((u 3)) :: .ref ((u 4)) :: .ref ((u 5)) :: .int 0 :: .int 0 :: .int 0 :: .int 0 :: .int 0 :: .int 0 :: .int (-1) :: .int (-1) :: .int 0 :: .ref ((u 6)) :: .int 0 :: .int 0 :: .ref ((u 7)) :: .ref ((u 8)) :: .ref ((u 9)) :: .ref ((u 10)) :: .ref ((u 11)) :: .ref ((u 12)) :: .ref ((u 13)) :: .int 0 :: .int 0 :: .int (-1) :: .int 0 :: .int (-1) :: .int 0 :: .ref ((u 14)) :: .int 0 :: .int 0 :: .int 0 :: .int 0 :: .int 0 :: .ref ((u 15)) :: .ref ((u 16)) :: .int 0 :: .int (-1) :: .int 0 :: .int 0 :: .int 0 :: .int 0 :: .ref ((u 17)) :: .ref ((u 18)) :: .ref ((u 19)) :: .int 0 :: .ref ((u 20)) :: .ref ((u 21)) :: .int 0 :: .ref ((u 22)) :: .int (-1) :: .int 0 :: .ref ((u 23)) :: .int (-1) :: .int (-1) :: .int 0 :: .ref ((u 24)) :: .ref ((u 25)) :: .int 0 :: [])) sc) [0] [1] 0 rfl rfl rfl rfl (by decide) rfl rfl hl.1 rfl (Nat.le_of_ble_eq_true rfl) ⟨Nat.le_of_ble_eq_true rfl, Nat.le_of_ble_eq_true rfl⟩ ⟨Nat.le_of_ble_eq_true rfl, Nat.le_of_ble_eq_true rfl⟩ dX12_begin_2 (fun r2 u3 H locs hp1 h => ?_)
  have h : xS D cy A s.heap ([(((u 0)), .inl (cy 2, 25710, .inr (.inl (fun _ => 0)))), (q, .inr (12, (.ref ((u 0)) :: .int 0 :: .long 0 :: .long 1 :: .ref ((u 1)) :: .ref ((u 2)) :: .ref ((u 3)) :: .ref ((u 4)) :: .ref ((u 5)) :: .int 0 :: .int 0 :: .int 0 :: .int 0 :: .int 0 :: .int 0 :: .int (-1) :: .int (-1) :: .int 0 :: .ref ((u 6)) :: .int 0 :: .int 0 :: .ref ((u 7)) :: .ref ((u 8)) :: .ref ((u 9)) :: .ref ((u 10)) :: .ref ((u 11)) :: .ref ((u 12)) :: .ref ((u 13)) :: .int 0 :: .int 0 :: .int (-1) :: .int 0 :: .int (-1) :: .int 0 :: .ref ((u 14)) :: .int 0 :: .int 0 :: .int 0 :: .int 0 :: .int 0 :: .ref ((u 15)) :: .ref ((u 16)) :: .int 0 :: .int (-1) :: .int 0 :: .int 0 :: .int 0 :: .int 0 :: .ref ((u 17)) :: .ref ((u 18)) :: .ref ((u 19)) :: .int 0 :: .ref ((u 20)) :: .ref ((u 21)) :: .int 0 :: .ref ((u 22)) :: .int (-1) :: .int 0 :: .ref ((u 23)) :: .int (-1) :: .int (-1) :: .int 0 :: .ref ((u 24)) :: .ref ((u 25)) :: .int 0 :: [])))]) s H locs := h
  rcases x_tr (n := 3) hp1 with ⟨rfl, ht4⟩ | ⟨rfl, ht5, ht6⟩
  · refine lv_if_ne (tgt := 14) F.1 F.2.1 dX12_begin_5 (by decide) (fun hc => absurd hc (by decide)) (fun _ => ?_)
    refine lv_aload_n F.1 F.2.1 dX12_begin_8 rfl (lv_at hl 0 rfl) ?_
    refine lv_iconst (v := 1) F.1 F.2.1 dX12_begin_9 (by decide) ?_
    refine x_Vi (wr := [(((u 0)), .inl (cy 2, 25710, .inr (.inl (fun _ => 0))))]) F h yk_X12_is mw_286 mw_287 mw_288 (c_m_is l D cy q ((.ref ((u 0)) :: .int 0 :: .long 0 :: .long 1 :: .ref ((u 1)) :: .ref ((u 2)) :: .ref ((u 3)) :: .ref ((u 4)) :: .ref ((u 5)) :: .int 0 :: .int 0 :: .int 0 :: .int 0 :: .int 0 :: .int 0 :: .int (-1) :: .int (-1) :: .int 0 :: .ref ((u 6)) :: .int 0 :: .int 0 :: .ref ((u 7)) :: .ref ((u 8)) :: .ref ((u 9)) :: .ref ((u 10)) :: .ref ((u 11)) :: .ref ((u 12)) :: .ref ((u 13)) :: .int 0 :: .int 0 :: .int (-1) :: .int 0 :: .int (-1) :: .int 0 :: .ref ((u 14)) :: .int 0 :: .int 0 :: .int 0 :: .int 0 :: .int 0 :: .ref ((u 15)) :: .ref ((u 16)) :: .int 0 :: .int (-1) :: .int 0 :: .int 0 :: .int 0 :: .int 0 :: .ref ((u 17)) :: .ref ((u 18)) :: .ref ((u 19)) :: .int 0 :: .ref ((u 20)) :: .ref ((u 21)) :: .int 0 :: .ref ((u 22)) :: .int (-1) :: .int 0 :: .ref ((u 23)) :: .int (-1) :: .int (-1) :: .int 0 :: .ref ((u 24)) :: .ref ((u 25)) :: .int 0 :: [])) rfl 1) [1] [0] 1 rfl rfl rfl rfl (by decide) rfl rfl hl.1 rfl (Nat.le_of_ble_eq_true rfl) ⟨Nat.le_of_ble_eq_true rfl, Nat.le_of_ble_eq_true rfl⟩ ⟨Nat.le_of_ble_eq_true rfl, Nat.le_of_ble_eq_true rfl⟩ dX12_begin_10 (fun r8 u9 H locs hp7 h => ?_)
    have h : xS D cy A s.heap ([(((u 0)), .inl (cy 2, 25710, .inr (.inl (fun _ => 0))))]) s H locs := h
    obtain rfl : r8 = 0 := (by rw [hp7]; decide)
    exact x_iret F h hr hlk (by decide +kernel) (fun _ => 0) [] (by simp [ht4]) (by decide +kernel) rfl (Nat.le_of_ble_eq_true rfl) (Nat.le_of_ble_eq_true rfl) dX12_begin_13
  · refine lv_if_ne (tgt := 14) F.1 F.2.1 dX12_begin_5 (by decide) (fun _ => ?_) (fun hc => absurd hc (by decide))
    rcases x_c3 ht5 ht6 with rfl | rfl | rfl
    · refine lv_aload_n F.1 F.2.1 dX12_begin_14 rfl (lv_at hl 0 rfl) ?_
      refine lv_sipush (v := 1650) F.1 F.2.1 dX12_begin_15 (by decide) ?_
      refine lv_iload_n F.1 F.2.1 dX12_begin_18 rfl (lv_at hl 1 rfl) ?_
      refine lv_imul F.1 F.2.1 dX12_begin_19 ?_
      refine x_topi (y := 0) (by decide +kernel) ?_
      refine x_Vv (wr := []) F h yk_X12_fresh mw_745 mw_746 mw_747 (c_m_fresh0 l D cy q u ) [1, 0] [] 1 rfl rfl rfl rfl (by decide) rfl rfl hl.1 rfl (Nat.le_of_ble_eq_true rfl) ⟨Nat.le_of_ble_eq_true rfl, Nat.le_of_ble_eq_true rfl⟩ ⟨Nat.le_of_ble_eq_true rfl, Nat.le_of_ble_eq_true rfl⟩ dX12_begin_20 (fun u12 H locs hp10 h => ?_)
      have h : xS D cy A s.heap ([(q, .inr (12, (.ref ((u 0)) :: .int 0 :: .long 0 :: .long 1 :: .ref ((u 1)) :: .ref ((u 2)) :: .ref ((u 3)) :: .ref ((u 4)) :: .ref ((u 5)) :: .int 0 :: .int 0 :: .int 0 :: .int 0 :: .int 0 :: .int 0 :: .int (-1) :: .int (-1) :: .int 0 :: .ref ((u 6)) :: .int 0 :: .int 0 :: .ref ((u 7)) :: .ref ((u 8)) :: .ref ((u 9)) :: .ref ((u 10)) :: .ref ((u 11)) :: .ref ((u 12)) :: .ref ((u 13)) :: .int 0 :: .int 0 :: .int (-1) :: .int 0 :: .int (-1) :: .int 0 :: .ref ((u 14)) :: .int 0 :: .int 0 :: .int 0 :: .int 0 :: .int 0 :: .ref ((u 15)) :: .ref ((u 16)) :: .int 0 :: .int (-1) :: .int 0 :: .int 0 :: .int 0 :: .int 0 :: .ref ((u 17)) :: .ref ((u 18)) :: .ref ((u 19)) :: .int 0 :: .ref ((u 20)) :: .ref ((u 21)) :: .int 0 :: .ref ((u 22)) :: .int (-1) :: .int 0 :: .ref ((u 23)) :: .int (-1) :: .int (-1) :: .int 0 :: .ref ((u 24)) :: .ref ((u 25)) :: .int 0 :: []))), (((u 0)), .inl (cy 2, 25710, .inr (.inl (fun _ => 0))))]) s H locs := h
      refine lv_aload_n F.1 F.2.1 dX12_begin_23 rfl (lv_at hl 0 rfl) ?_
      refine lv_iconst (v := 0) F.1 F.2.1 dX12_begin_24 (by decide) ?_
      refine x_Vi (wr := [(((u 0)), .inl (cy 2, 25710, .inr (.inl (fun _ => 0))))]) F h yk_X12_is mw_286 mw_287 mw_288 (c_m_is l D cy q ((.ref ((u 0)) :: .int 0 :: .long 0 :: .long 1 :: .ref ((u 1)) :: .ref ((u 2)) :: .ref ((u 3)) :: .ref ((u 4)) :: .ref ((u 5)) :: .int 0 :: .int 0 :: .int 0 :: .int 0 :: .int 0 :: .int 0 :: .int (-1) :: .int (-1) :: .int 0 :: .ref ((u 6)) :: .int 0 :: .int 0 :: .ref ((u 7)) :: .ref ((u 8)) :: .ref ((u 9)) :: .ref ((u 10)) :: .ref ((u 11)) :: .ref ((u 12)) :: .ref ((u 13)) :: .int 0 :: .int 0 :: .int (-1) :: .int 0 :: .int (-1) :: .int 0 :: .ref ((u 14)) :: .int 0 :: .int 0 :: .int 0 :: .int 0 :: .int 0 :: .ref ((u 15)) :: .ref ((u 16)) :: .int 0 :: .int (-1) :: .int 0 :: .int 0 :: .int 0 :: .int 0 :: .ref ((u 17)) :: .ref ((u 18)) :: .ref ((u 19)) :: .int 0 :: .ref ((u 20)) :: .ref ((u 21)) :: .int 0 :: .ref ((u 22)) :: .int (-1) :: .int 0 :: .ref ((u 23)) :: .int (-1) :: .int (-1) :: .int 0 :: .ref ((u 24)) :: .ref ((u 25)) :: .int 0 :: [])) rfl 0) [0] [1] 0 rfl rfl rfl rfl (by decide) rfl rfl hl.1 rfl (Nat.le_of_ble_eq_true rfl) ⟨Nat.le_of_ble_eq_true rfl, Nat.le_of_ble_eq_true rfl⟩ ⟨Nat.le_of_ble_eq_true rfl, Nat.le_of_ble_eq_true rfl⟩ dX12_begin_25 (fun r14 u15 H locs hp13 h => ?_)
      have h : xS D cy A s.heap ([(((u 0)), .inl (cy 2, 25710, .inr (.inl (fun _ => 0))))]) s H locs := h
      obtain rfl : r14 = 1 := (by rw [hp13]; decide)
      exact x_iret F h hr hlk (by decide +kernel) (fun _ => 0) [] (by simp [ht5, ht6]) (by decide +kernel) rfl (Nat.le_of_ble_eq_true rfl) (Nat.le_of_ble_eq_true rfl) dX12_begin_28
    · refine lv_aload_n F.1 F.2.1 dX12_begin_14 rfl (lv_at hl 0 rfl) ?_
      refine lv_sipush (v := 1650) F.1 F.2.1 dX12_begin_15 (by decide) ?_
      refine lv_iload_n F.1 F.2.1 dX12_begin_18 rfl (lv_at hl 1 rfl) ?_
      refine lv_imul F.1 F.2.1 dX12_begin_19 ?_
      refine x_topi (y := 1650) (by decide +kernel) ?_
      refine x_Vv (wr := []) F h yk_X12_fresh mw_745 mw_746 mw_747 (c_m_fresh1650 l D cy q u ) [1, 0] [] 1 rfl rfl rfl rfl (by decide) rfl rfl hl.1 rfl (Nat.le_of_ble_eq_true rfl) ⟨Nat.le_of_ble_eq_true rfl, Nat.le_of_ble_eq_true rfl⟩ ⟨Nat.le_of_ble_eq_true rfl, Nat.le_of_ble_eq_true rfl⟩ dX12_begin_20 (fun u18 H locs hp16 h => ?_)
      have h : xS D cy A s.heap ([(q, .inr (12, (.ref ((u 0)) :: .int 0 :: .long 0 :: .long 1 :: .ref ((u 1)) :: .ref ((u 2)) :: .ref ((u 3)) :: .ref ((u 4)) :: .ref ((u 5)) :: .int 0 :: .int 0 :: .int 0 :: .int 0 :: .int 0 :: .int 0 :: .int (-1) :: .int (-1) :: .int 0 :: .ref ((u 6)) :: .int 0 :: .int 0 :: .ref ((u 7)) :: .ref ((u 8)) :: .ref ((u 9)) :: .ref ((u 10)) :: .ref ((u 11)) :: .ref ((u 12)) :: .ref ((u 13)) :: .int 0 :: .int 0 :: .int (-1) :: .int 0 :: .int (-1) :: .int 0 :: .ref ((u 14)) :: .int 0 :: .int 0 :: .int 0 :: .int 0 :: .int 0 :: .ref ((u 15)) :: .ref ((u 16)) :: .int 0 :: .int (-1) :: .int 0 :: .int 0 :: .int 0 :: .int 0 :: .ref ((u 17)) :: .ref ((u 18)) :: .ref ((u 19)) :: .int 0 :: .ref ((u 20)) :: .ref ((u 21)) :: .int 0 :: .ref ((u 22)) :: .int (-1) :: .int 0 :: .ref ((u 23)) :: .int (-1) :: .int (-1) :: .int 0 :: .ref ((u 24)) :: .ref ((u 25)) :: .int 0 :: []))), (((u 0)), .inl (cy 2, 25710, .inr (.inl (fun _ => 0))))]) s H locs := h
      refine lv_aload_n F.1 F.2.1 dX12_begin_23 rfl (lv_at hl 0 rfl) ?_
      refine lv_iconst (v := 0) F.1 F.2.1 dX12_begin_24 (by decide) ?_
      refine x_Vi (wr := [(((u 0)), .inl (cy 2, 25710, .inr (.inl (fun _ => 0))))]) F h yk_X12_is mw_286 mw_287 mw_288 (c_m_is l D cy q ((.ref ((u 0)) :: .int 0 :: .long 0 :: .long 1 :: .ref ((u 1)) :: .ref ((u 2)) :: .ref ((u 3)) :: .ref ((u 4)) :: .ref ((u 5)) :: .int 0 :: .int 0 :: .int 0 :: .int 0 :: .int 0 :: .int 0 :: .int (-1) :: .int (-1) :: .int 0 :: .ref ((u 6)) :: .int 0 :: .int 0 :: .ref ((u 7)) :: .ref ((u 8)) :: .ref ((u 9)) :: .ref ((u 10)) :: .ref ((u 11)) :: .ref ((u 12)) :: .ref ((u 13)) :: .int 0 :: .int 0 :: .int (-1) :: .int 0 :: .int (-1) :: .int 0 :: .ref ((u 14)) :: .int 0 :: .int 0 :: .int 0 :: .int 0 :: .int 0 :: .ref ((u 15)) :: .ref ((u 16)) :: .int 0 :: .int (-1) :: .int 0 :: .int 0 :: .int 0 :: .int 0 :: .ref ((u 17)) :: .ref ((u 18)) :: .ref ((u 19)) :: .int 0 :: .ref ((u 20)) :: .ref ((u 21)) :: .int 0 :: .ref ((u 22)) :: .int (-1) :: .int 0 :: .ref ((u 23)) :: .int (-1) :: .int (-1) :: .int 0 :: .ref ((u 24)) :: .ref ((u 25)) :: .int 0 :: [])) rfl 0) [0] [1] 0 rfl rfl rfl rfl (by decide) rfl rfl hl.1 rfl (Nat.le_of_ble_eq_true rfl) ⟨Nat.le_of_ble_eq_true rfl, Nat.le_of_ble_eq_true rfl⟩ ⟨Nat.le_of_ble_eq_true rfl, Nat.le_of_ble_eq_true rfl⟩ dX12_begin_25 (fun r20 u21 H locs hp19 h => ?_)
      have h : xS D cy A s.heap ([(((u 0)), .inl (cy 2, 25710, .inr (.inl (fun _ => 0))))]) s H locs := h
      obtain rfl : r20 = 1 := (by rw [hp19]; decide)
      exact x_iret F h hr hlk (by decide +kernel) (fun _ => 0) [] (by simp [ht5, ht6]) (by decide +kernel) rfl (Nat.le_of_ble_eq_true rfl) (Nat.le_of_ble_eq_true rfl) dX12_begin_28
    · refine lv_aload_n F.1 F.2.1 dX12_begin_14 rfl (lv_at hl 0 rfl) ?_
      refine lv_sipush (v := 1650) F.1 F.2.1 dX12_begin_15 (by decide) ?_
      refine lv_iload_n F.1 F.2.1 dX12_begin_18 rfl (lv_at hl 1 rfl) ?_
      refine lv_imul F.1 F.2.1 dX12_begin_19 ?_
      refine x_topi (y := 3300) (by decide +kernel) ?_
      refine x_Vv (wr := []) F h yk_X12_fresh mw_745 mw_746 mw_747 (c_m_fresh3300 l D cy q u ) [1, 0] [] 1 rfl rfl rfl rfl (by decide) rfl rfl hl.1 rfl (Nat.le_of_ble_eq_true rfl) ⟨Nat.le_of_ble_eq_true rfl, Nat.le_of_ble_eq_true rfl⟩ ⟨Nat.le_of_ble_eq_true rfl, Nat.le_of_ble_eq_true rfl⟩ dX12_begin_20 (fun u24 H locs hp22 h => ?_)
      have h : xS D cy A s.heap ([(q, .inr (12, (.ref ((u 0)) :: .int 0 :: .long 0 :: .long 1 :: .ref ((u 1)) :: .ref ((u 2)) :: .ref ((u 3)) :: .ref ((u 4)) :: .ref ((u 5)) :: .int 0 :: .int 0 :: .int 0 :: .int 0 :: .int 0 :: .int 0 :: .int (-1) :: .int (-1) :: .int 0 :: .ref ((u 6)) :: .int 0 :: .int 0 :: .ref ((u 7)) :: .ref ((u 8)) :: .ref ((u 9)) :: .ref ((u 10)) :: .ref ((u 11)) :: .ref ((u 12)) :: .ref ((u 13)) :: .int 0 :: .int 0 :: .int (-1) :: .int 0 :: .int (-1) :: .int 0 :: .ref ((u 14)) :: .int 0 :: .int 0 :: .int 0 :: .int 0 :: .int 0 :: .ref ((u 15)) :: .ref ((u 16)) :: .int 0 :: .int (-1) :: .int 0 :: .int 0 :: .int 0 :: .int 0 :: .ref ((u 17)) :: .ref ((u 18)) :: .ref ((u 19)) :: .int 0 :: .ref ((u 20)) :: .ref ((u 21)) :: .int 0 :: .ref ((u 22)) :: .int (-1) :: .int 0 :: .ref ((u 23)) :: .int (-1) :: .int (-1) :: .int 0 :: .ref ((u 24)) :: .ref ((u 25)) :: .int 0 :: []))), (((u 0)), .inl (cy 2, 25710, .inr (.inl (fun _ => 0))))]) s H locs := h
      refine lv_aload_n F.1 F.2.1 dX12_begin_23 rfl (lv_at hl 0 rfl) ?_
      refine lv_iconst (v := 0) F.1 F.2.1 dX12_begin_24 (by decide) ?_
      refine x_Vi (wr := [(((u 0)), .inl (cy 2, 25710, .inr (.inl (fun _ => 0))))]) F h yk_X12_is mw_286 mw_287 mw_288 (c_m_is l D cy q ((.ref ((u 0)) :: .int 0 :: .long 0 :: .long 1 :: .ref ((u 1)) :: .ref ((u 2)) :: .ref ((u 3)) :: .ref ((u 4)) :: .ref ((u 5)) :: .int 0 :: .int 0 :: .int 0 :: .int 0 :: .int 0 :: .int 0 :: .int (-1) :: .int (-1) :: .int 0 :: .ref ((u 6)) :: .int 0 :: .int 0 :: .ref ((u 7)) :: .ref ((u 8)) :: .ref ((u 9)) :: .ref ((u 10)) :: .ref ((u 11)) :: .ref ((u 12)) :: .ref ((u 13)) :: .int 0 :: .int 0 :: .int (-1) :: .int 0 :: .int (-1) :: .int 0 :: .ref ((u 14)) :: .int 0 :: .int 0 :: .int 0 :: .int 0 :: .int 0 :: .ref ((u 15)) :: .ref ((u 16)) :: .int 0 :: .int (-1) :: .int 0 :: .int 0 :: .int 0 :: .int 0 :: .ref ((u 17)) :: .ref ((u 18)) :: .ref ((u 19)) :: .int 0 :: .ref ((u 20)) :: .ref ((u 21)) :: .int 0 :: .ref ((u 22)) :: .int (-1) :: .int 0 :: .ref ((u 23)) :: .int (-1) :: .int (-1) :: .int 0 :: .ref ((u 24)) :: .ref ((u 25)) :: .int 0 :: [])) rfl 0) [0] [1] 0 rfl rfl rfl rfl (by decide) rfl rfl hl.1 rfl (Nat.le_of_ble_eq_true rfl) ⟨Nat.le_of_ble_eq_true rfl, Nat.le_of_ble_eq_true rfl⟩ ⟨Nat.le_of_ble_eq_true rfl, Nat.le_of_ble_eq_true rfl⟩ dX12_begin_25 (fun r26 u27 H locs hp25 h => ?_)
      have h : xS D cy A s.heap ([(((u 0)), .inl (cy 2, 25710, .inr (.inl (fun _ => 0))))]) s H locs := h
      obtain rfl : r26 = 1 := (by rw [hp25]; decide)
      exact x_iret F h hr hlk (by decide +kernel) (fun _ => 0) [] (by simp [ht5, ht6]) (by decide +kernel) rfl (Nat.le_of_ble_eq_true rfl) (Nat.le_of_ble_eq_true rfl) dX12_begin_28
set_option maxHeartbeats 4000000 in
set_option maxRecDepth 100000 in
theorem c_m_mark (l : Launch) (D : va_G) (cy : Nat → ClassId) (q : Nat) (u : Nat → Nat) : ∀ sz, Met l yX12_mark (Cond.code yX12_mark cX12_mark 1 (some .int) :: wsL_law) { frames := 1, cells := 0, slots := 0, locals := 24 } (va_Pc [.ref q] (xP D cy ([mM q u 0 0 0 (-1) 0, mA_at cy u]) sz)) (va_Qi (fun r _ => r = 1) (xB D (va_A ([mM q u 0 0 0 (-1) 0, mA_at cy u]) sz) (fun _ => [])) (va_A ([mM q u 0 0 0 (-1) 0, mA_at cy u]) sz)) 0 0 (va_A ([mM q u 0 0 0 (-1) 0, mA_at cy u]) sz) := by
  refine x_enter (fun A => va_Qi (fun r _ => r = 1) (xB D A (fun _ => [])) A) (by decide +kernel) rfl (Nat.le_of_ble_eq_true rfl) ?_
  intro p e s m below meth c A ls F hr hlk hin h hl
  have hl : lv_has ls 1 [(0, .ref q)] := hl
  have h : xS D cy A s.heap ([(q, .inr (12, (.ref ((u 0)) :: .int 0 :: .long 0 :: .long 1 :: .ref ((u 1)) :: .ref ((u 2)) :: .ref ((u 3)) :: .ref ((u 4)) :: .ref ((u 5)) :: .int 0 :: .int 0 :: .int 0 :: .int 0 :: .int 0 :: .int 0 :: .int (-1) :: .int (-1) :: .int 0 :: .ref ((u 6)) :: .int 0 :: .int 0 :: .ref ((u 7)) :: .ref ((u 8)) :: .ref ((u 9)) :: .ref ((u 10)) :: .ref ((u 11)) :: .ref ((u 12)) :: .ref ((u 13)) :: .int 0 :: .int 0 :: .int (-1) :: .int 0 :: .int (-1) :: .int 0 :: .ref ((u 14)) :: .int 0 :: .int 0 :: .int 0 :: .int 0 :: .int 0 :: .ref ((u 15)) :: .ref ((u 16)) :: .int 0 :: .int (-1) :: .int 0 :: .int 0 :: .int 0 :: .int 0 :: .ref ((u 17)) :: .ref ((u 18)) :: .ref ((u 19)) :: .int 0 :: .ref ((u 20)) :: .ref ((u 21)) :: .int 0 :: .ref ((u 22)) :: .int (-1) :: .int 0 :: .ref ((u 23)) :: .int (-1) :: .int (-1) :: .int 0 :: .ref ((u 24)) :: .ref ((u 25)) :: .int 0 :: []))), (((u 0)), .inl (cy 2, 25710, .inr (.inl (fun _ => 0))))]) s s.heap [] := h
  refine lv_aload_n F.1 F.2.1 dX12_mark_0 rfl (lv_at hl 0 rfl) ?_
  refine x_get F h 0 64 inlX12 rfl (by decide) mw_1576 dX12_mark_1 rfl rfl ?_
  refine lv_iconst (v := 3) F.1 F.2.1 dX12_mark_4 (by decide) ?_
  refine lv_icmp_ne (tgt := 14) F.1 F.2.1 dX12_mark_5 (by decide) (fun _ => ?_) (fun hc => absurd hc (by decide))
  refine lv_aload_n F.1 F.2.1 dX12_mark_14 rfl (lv_at hl 0 rfl) ?_
  refine lv_dup F.1 F.2.1 dX12_mark_15 rfl ?_
  refine x_get F h 0 64 inlX12 rfl (by decide) mw_1576 dX12_mark_16 rfl rfl ?_
  refine lv_iconst (v := 1) F.1 F.2.1 dX12_mark_19 (by decide) ?_
  refine lv_iadd F.1 F.2.1 dX12_mark_20 ?_
  refine x_topi (y := 1) (by decide +kernel) ?_
  refine x_put F h 0 64 inlX12 tyX12_ok nmX12 rfl (by decide) mw_1576 dX12_mark_21 rfl rfl rfl rfl (Nat.le_of_ble_eq_true rfl) (ws' := [(q, .inr (12, (.ref ((u 0)) :: .int 0 :: .long 0 :: .long 1 :: .ref ((u 1)) :: .ref ((u 2)) :: .ref ((u 3)) :: .ref ((u 4)) :: .ref ((u 5)) :: .int 0 :: .int 0 :: .int 0 :: .int 0 :: .int 0 :: .int 0 :: .int (-1) :: .int (-1) :: .int 0 :: .ref ((u 6)) :: .int 0 :: .int 0 :: .ref ((u 7)) :: .ref ((u 8)) :: .ref ((u 9)) :: .ref ((u 10)) :: .ref ((u 11)) :: .ref ((u 12)) :: .ref ((u 13)) :: .int 0 :: .int 0 :: .int (-1) :: .int 0 :: .int (-1) :: .int 0 :: .ref ((u 14)) :: .int 0 :: .int 0 :: .int 0 :: .int 0 :: .int 0 :: .ref ((u 15)) :: .ref ((u 16)) :: .int 0 :: .int (-1) :: .int 0 :: .int 0 :: .int 0 :: .int 0 :: .ref ((u 17)) :: .ref ((u 18)) :: .ref ((u 19)) :: .int 0 :: .ref ((u 20)) :: .ref ((u 21)) :: .int 0 :: .ref ((u 22)) :: .int (-1) :: .int 0 :: .ref ((u 23)) :: .int (-1) :: .int (-1) :: .int 0 :: .ref ((u 24)) :: .ref ((u 25)) :: .int 1 :: []))), (((u 0)), .inl (cy 2, 25710, .inr (.inl (fun _ => 0))))]) rfl (fun H locs h => ?_)
  refine lv_aload_n F.1 F.2.1 dX12_mark_24 rfl (lv_at hl 0 rfl) ?_
  refine lv_iconst (v := 0) F.1 F.2.1 dX12_mark_25 (by decide) ?_
  refine lv_sipush (v := 5190) F.1 F.2.1 dX12_mark_26 (by decide) ?_
  refine lv_aload_n F.1 F.2.1 dX12_mark_29 rfl (lv_at hl 0 rfl) ?_
  refine x_get F h 0 64 inlX12 rfl (by decide) mw_1576 dX12_mark_30 rfl rfl ?_
  refine lv_imul F.1 F.2.1 dX12_mark_33 ?_
  refine x_topi (y := 5190) (by decide +kernel) ?_
  refine lv_sipush (v := 5190) F.1 F.2.1 dX12_mark_34 (by decide) ?_
  refine x_Vv (wr := []) F h yk_X12_copies mw_749 mw_750 mw_751 (c_m_copiesM l D cy q u ) [0, 1] [] 0 rfl rfl rfl rfl (by decide) rfl rfl hl.1 rfl (Nat.le_of_ble_eq_true rfl) ⟨Nat.le_of_ble_eq_true rfl, Nat.le_of_ble_eq_true rfl⟩ ⟨Nat.le_of_ble_eq_true rfl, Nat.le_of_ble_eq_true rfl⟩ dX12_mark_37 (fun u3 H locs hp1 h => ?_)
  have h : xS D cy A s.heap ([(q, .inr (12, (.ref ((u 0)) :: .int 0 :: .long 0 :: .long 1 :: .ref ((u 1)) :: .ref ((u 2)) :: .ref ((u 3)) :: .ref ((u 4)) :: .ref ((u 5)) :: .int 0 :: .int 0 :: .int 0 :: .int 0 :: .int 0 :: .int 0 :: .int (-1) :: .int (-1) :: .int 0 :: .ref ((u 6)) :: .int 0 :: .int 0 :: .ref ((u 7)) :: .ref ((u 8)) :: .ref ((u 9)) :: .ref ((u 10)) :: .ref ((u 11)) :: .ref ((u 12)) :: .ref ((u 13)) :: .int 0 :: .int 0 :: .int (-1) :: .int 0 :: .int (-1) :: .int 0 :: .ref ((u 14)) :: .int 0 :: .int 0 :: .int 0 :: .int 0 :: .int 0 :: .ref ((u 15)) :: .ref ((u 16)) :: .int 0 :: .int (-1) :: .int 0 :: .int 0 :: .int 0 :: .int 0 :: .ref ((u 17)) :: .ref ((u 18)) :: .ref ((u 19)) :: .int 0 :: .ref ((u 20)) :: .ref ((u 21)) :: .int 0 :: .ref ((u 22)) :: .int (-1) :: .int 0 :: .ref ((u 23)) :: .int (-1) :: .int (-1) :: .int 0 :: .ref ((u 24)) :: .ref ((u 25)) :: .int 1 :: []))), (((u 0)), .inl (cy 2, 25710, .inr (.inl (fun _ => 0))))]) s H locs := h
  refine lv_aload_n F.1 F.2.1 dX12_mark_40 rfl (lv_at hl 0 rfl) ?_
  refine lv_aload_n F.1 F.2.1 dX12_mark_41 rfl (lv_at hl 0 rfl) ?_
  refine x_get F h 0 64 inlX12 rfl (by decide) mw_1576 dX12_mark_42 rfl rfl ?_
  refine x_Vi (wr := [(((u 0)), .inl (cy 2, 25710, .inr (.inl (fun _ => 0))))]) F h yk_X12_gives mw_499 mw_500 mw_501 (c_m_gives l D cy q ((.ref ((u 0)) :: .int 0 :: .long 0 :: .long 1 :: .ref ((u 1)) :: .ref ((u 2)) :: .ref ((u 3)) :: .ref ((u 4)) :: .ref ((u 5)) :: .int 0 :: .int 0 :: .int 0 :: .int 0 :: .int 0 :: .int 0 :: .int (-1) :: .int (-1) :: .int 0 :: .ref ((u 6)) :: .int 0 :: .int 0 :: .ref ((u 7)) :: .ref ((u 8)) :: .ref ((u 9)) :: .ref ((u 10)) :: .ref ((u 11)) :: .ref ((u 12)) :: .ref ((u 13)) :: .int 0 :: .int 0 :: .int (-1) :: .int 0 :: .int (-1) :: .int 0 :: .ref ((u 14)) :: .int 0 :: .int 0 :: .int 0 :: .int 0 :: .int 0 :: .ref ((u 15)) :: .ref ((u 16)) :: .int 0 :: .int (-1) :: .int 0 :: .int 0 :: .int 0 :: .int 0 :: .ref ((u 17)) :: .ref ((u 18)) :: .ref ((u 19)) :: .int 0 :: .ref ((u 20)) :: .ref ((u 21)) :: .int 0 :: .ref ((u 22)) :: .int (-1) :: .int 0 :: .ref ((u 23)) :: .int (-1) :: .int (-1) :: .int 0 :: .ref ((u 24)) :: .ref ((u 25)) :: .int 1 :: [])) rfl 1) [0] [1] 0 rfl rfl rfl rfl (by decide) rfl rfl hl.1 rfl (Nat.le_of_ble_eq_true rfl) ⟨Nat.le_of_ble_eq_true rfl, Nat.le_of_ble_eq_true rfl⟩ ⟨Nat.le_of_ble_eq_true rfl, Nat.le_of_ble_eq_true rfl⟩ dX12_mark_45 (fun r5 u6 H locs hp4 h => ?_)
  have h : xS D cy A s.heap ([(((u 0)), .inl (cy 2, 25710, .inr (.inl (fun _ => 0))))]) s H locs := h
  obtain rfl : r5 = 1 := hp4
  exact x_iret F h hr hlk rfl (fun _ => 0) [] (rfl) (by decide +kernel) rfl (Nat.le_of_ble_eq_true rfl) (Nat.le_of_ble_eq_true rfl) dX12_mark_48
set_option maxHeartbeats 4000000 in
set_option maxRecDepth 100000 in
theorem c_m_back (l : Launch) (D : va_G) (cy : Nat → ClassId) (q : Nat) (u : Nat → Nat) : ∀ sz, Met l yX12_back (Cond.code yX12_back cX12_back 1 (some .int) :: wsL_law) { frames := 1, cells := 0, slots := 0, locals := 21 } (va_Pc [.ref q] (xP D cy ([mM q u 0 0 0 (-1) 0]) sz)) (va_Qi (fun r _ => r = (-1)) (xB D (va_A ([mM q u 0 0 0 (-1) 0]) sz) (fun _ => [])) (va_A ([mM q u 0 0 0 (-1) 0]) sz)) 0 0 (va_A ([mM q u 0 0 0 (-1) 0]) sz) := by
  refine x_enter (fun A => va_Qi (fun r _ => r = (-1)) (xB D A (fun _ => [])) A) (by decide +kernel) rfl (Nat.le_of_ble_eq_true rfl) ?_
  intro p e s m below meth c A ls F hr hlk hin h hl
  have hl : lv_has ls 1 [(0, .ref q)] := hl
  have h : xS D cy A s.heap ([(q, .inr (12, (.ref ((u 0)) :: .int 0 :: .long 0 :: .long 1 :: .ref ((u 1)) :: .ref ((u 2)) :: .ref ((u 3)) :: .ref ((u 4)) :: .ref ((u 5)) :: .int 0 :: .int 0 :: .int 0 :: .int 0 :: .int 0 :: .int 0 :: .int (-1) :: .int (-1) :: .int 0 :: .ref ((u 6)) :: .int 0 :: .int 0 :: .ref ((u 7)) :: .ref ((u 8)) :: .ref ((u 9)) :: .ref ((u 10)) :: .ref ((u 11)) :: .ref ((u 12)) :: .ref ((u 13)) :: .int 0 :: .int 0 :: .int (-1) :: .int 0 :: .int (-1) :: .int 0 :: .ref ((u 14)) :: .int 0 :: .int 0 :: .int 0 :: .int 0 :: .int 0 :: .ref ((u 15)) :: .ref ((u 16)) :: .int 0 :: .int (-1) :: .int 0 :: .int 0 :: .int 0 :: .int 0 :: .ref ((u 17)) :: .ref ((u 18)) :: .ref ((u 19)) :: .int 0 :: .ref ((u 20)) :: .ref ((u 21)) :: .int 0 :: .ref ((u 22)) :: .int (-1) :: .int 0 :: .ref ((u 23)) :: .int (-1) :: .int (-1) :: .int 0 :: .ref ((u 24)) :: .ref ((u 25)) :: .int 0 :: [])))]) s s.heap [] := h
  refine lv_aload_n F.1 F.2.1 dX12_back_0 rfl (lv_at hl 0 rfl) ?_
  refine x_get F h 0 64 inlX12 rfl (by decide) mw_1576 dX12_back_1 rfl rfl ?_
  refine lv_if_ne (tgt := 14) F.1 F.2.1 dX12_back_4 (by decide) (fun hc => absurd hc (by decide)) (fun _ => ?_)
  refine lv_aload_n F.1 F.2.1 dX12_back_7 rfl (lv_at hl 0 rfl) ?_
  refine lv_bipush (v := 6) F.1 F.2.1 dX12_back_8 (by decide) ?_
  refine x_Vi (wr := []) F h yk_X12_refuse mw_452 mw_453 mw_454 (c_m_refuse l D cy q ((.ref ((u 0)) :: .int 0 :: .long 0 :: .long 1 :: .ref ((u 1)) :: .ref ((u 2)) :: .ref ((u 3)) :: .ref ((u 4)) :: .ref ((u 5)) :: .int 0 :: .int 0 :: .int 0 :: .int 0 :: .int 0 :: .int 0 :: .int (-1) :: .int (-1) :: .int 0 :: .ref ((u 6)) :: .int 0 :: .int 0 :: .ref ((u 7)) :: .ref ((u 8)) :: .ref ((u 9)) :: .ref ((u 10)) :: .ref ((u 11)) :: .ref ((u 12)) :: .ref ((u 13)) :: .int 0 :: .int 0 :: .int (-1) :: .int 0 :: .int (-1) :: .int 0 :: .ref ((u 14)) :: .int 0 :: .int 0 :: .int 0 :: .int 0 :: .int 0 :: .ref ((u 15)) :: .ref ((u 16)) :: .int 0 :: .int (-1) :: .int 0 :: .int 0 :: .int 0 :: .int 0 :: .ref ((u 17)) :: .ref ((u 18)) :: .ref ((u 19)) :: .int 0 :: .ref ((u 20)) :: .ref ((u 21)) :: .int 0 :: .ref ((u 22)) :: .int (-1) :: .int 0 :: .ref ((u 23)) :: .int (-1) :: .int (-1) :: .int 0 :: .ref ((u 24)) :: .ref ((u 25)) :: .int 0 :: [])) rfl 6) [0] [] 0 rfl rfl rfl rfl (by decide) rfl rfl hl.1 rfl (Nat.le_of_ble_eq_true rfl) ⟨Nat.le_of_ble_eq_true rfl, Nat.le_of_ble_eq_true rfl⟩ ⟨Nat.le_of_ble_eq_true rfl, Nat.le_of_ble_eq_true rfl⟩ dX12_back_10 (fun r2 u3 H locs hp1 h => ?_)
  have h : xS D cy A s.heap ([]) s H locs := h
  obtain rfl : r2 = (-1) := hp1
  exact x_iret F h hr hlk rfl (fun _ => 0) [] (rfl) (by decide +kernel) rfl (Nat.le_of_ble_eq_true rfl) (Nat.le_of_ble_eq_true rfl) dX12_back_13
