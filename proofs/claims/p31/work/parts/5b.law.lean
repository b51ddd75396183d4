theorem dL_law_745 : decode cL_law 745 = .ok (.aload_n 1, 1) := by decide +kernel
theorem dL_law_746 : decode cL_law 746 = .ok (.aload_n 0, 1) := by decide +kernel
theorem dL_law_747 : decode cL_law 747 = .ok (.iload_n 3, 1) := by decide +kernel
theorem dL_law_748 : decode cL_law 748 = .ok (.iconst 1, 1) := by decide +kernel
theorem dL_law_749 : decode cL_law 749 = .ok (.iadd, 1) := by decide +kernel
theorem dL_law_750 : decode cL_law 750 = .ok (.iaload, 1) := by decide +kernel
theorem dL_law_751 : decode cL_law 751 = .ok (.aload_n 0, 1) := by decide +kernel
theorem dL_law_752 : decode cL_law 752 = .ok (.iload_n 3, 1) := by decide +kernel
theorem dL_law_753 : decode cL_law 753 = .ok (.iconst 2, 1) := by decide +kernel
theorem dL_law_754 : decode cL_law 754 = .ok (.iadd, 1) := by decide +kernel
theorem dL_law_755 : decode cL_law 755 = .ok (.iaload, 1) := by decide +kernel
theorem dL_law_756 : decode cL_law 756 = .ok (.aload_n 0, 1) := by decide +kernel
theorem dL_law_757 : decode cL_law 757 = .ok (.iload_n 3, 1) := by decide +kernel
theorem dL_law_758 : decode cL_law 758 = .ok (.iconst 3, 1) := by decide +kernel
theorem dL_law_759 : decode cL_law 759 = .ok (.iadd, 1) := by decide +kernel
theorem dL_law_760 : decode cL_law 760 = .ok (.iaload, 1) := by decide +kernel
theorem dL_law_761 : decode cL_law 761 = .ok (.invokevirtual 85, 3) := by decide +kernel
theorem mw_836 : Cond.methodLink RL 85 yX11_fit ∈ wsL_law := inr_35 _ (List.mem_of_getElem? (i := 20) rfl)
theorem mw_839 : Cond.code yX11_fit cX11_fit 5 (some .int) ∈ wsL_law := inr_35 _ (List.mem_of_getElem? (i := 23) rfl)
theorem yk_X11_fit : xY yX11_fit RX11 cX11_fit 5 (some .int) 3 := ⟨⟨rfl, by decide +kernel, by decide +kernel, by decide +kernel⟩, mw_2, mw_839⟩
theorem mw_837 : Cond.instanceMethod yX11_fit ∈ wsL_law := inr_35 _ (List.mem_of_getElem? (i := 21) rfl)
theorem mw_838 : Cond.selects RX11 yX11_fit yX11_fit ∈ wsL_law := inr_35 _ (List.mem_of_getElem? (i := 22) rfl)
theorem dL_law_764 : decode cL_law 764 = .ok (.pop, 1) := by decide +kernel
theorem dL_law_765 : decode cL_law 765 = .ok (.aload_n 2, 1) := by decide +kernel
theorem dL_law_766 : decode cL_law 766 = .ok (.aload_n 0, 1) := by decide +kernel
theorem dL_law_767 : decode cL_law 767 = .ok (.iload_n 3, 1) := by decide +kernel
theorem dL_law_768 : decode cL_law 768 = .ok (.iconst 1, 1) := by decide +kernel
theorem dL_law_769 : decode cL_law 769 = .ok (.iadd, 1) := by decide +kernel
theorem dL_law_770 : decode cL_law 770 = .ok (.iaload, 1) := by decide +kernel
theorem dL_law_771 : decode cL_law 771 = .ok (.aload_n 0, 1) := by decide +kernel
theorem dL_law_772 : decode cL_law 772 = .ok (.iload_n 3, 1) := by decide +kernel
theorem dL_law_773 : decode cL_law 773 = .ok (.iconst 2, 1) := by decide +kernel
theorem dL_law_774 : decode cL_law 774 = .ok (.iadd, 1) := by decide +kernel
theorem dL_law_775 : decode cL_law 775 = .ok (.iaload, 1) := by decide +kernel
theorem dL_law_776 : decode cL_law 776 = .ok (.aload_n 0, 1) := by decide +kernel
theorem dL_law_777 : decode cL_law 777 = .ok (.iload_n 3, 1) := by decide +kernel
theorem dL_law_778 : decode cL_law 778 = .ok (.iconst 3, 1) := by decide +kernel
theorem dL_law_779 : decode cL_law 779 = .ok (.iadd, 1) := by decide +kernel
theorem dL_law_780 : decode cL_law 780 = .ok (.iaload, 1) := by decide +kernel
theorem dL_law_781 : decode cL_law 781 = .ok (.invokevirtual 88, 3) := by decide +kernel
theorem mw_886 : Cond.methodLink RL 88 yX12_fit ∈ wsL_law := inr_37 _ (List.mem_of_getElem? (i := 22) rfl)
theorem mw_889 : Cond.code yX12_fit cX12_fit 6 (some .int) ∈ wsL_law := inr_38 _ (List.mem_of_getElem? (i := 1) rfl)
theorem yk_X12_fit : xY yX12_fit RX12 cX12_fit 6 (some .int) 3 := ⟨⟨rfl, by decide +kernel, by decide +kernel, by decide +kernel⟩, mw_5, mw_889⟩
theorem mw_887 : Cond.instanceMethod yX12_fit ∈ wsL_law := inr_37 _ (List.mem_of_getElem? (i := 23) rfl)
theorem mw_888 : Cond.selects RX12 yX12_fit yX12_fit ∈ wsL_law := inr_38 _ (List.mem_of_getElem? (i := 0) rfl)
theorem dL_law_784 : decode cL_law 784 = .ok (.pop, 1) := by decide +kernel
theorem dL_law_785 : decode cL_law 785 = .ok (.goto 970, 3) := by decide +kernel
set_option maxHeartbeats 4000000 in
set_option maxRecDepth 100000 in
theorem law_c15 {p : Program} {l : Launch} {e : Env} {s : State} {m : MethodId} {below : List Frame} {meth : Method} {c : Code} {H : Heap} {locs : List Loc} {Q : State → Prop} {D : va_G} {cy : Nat → ClassId} {A : Nat → Prop} {L : List Nat} {R O P : Nat → Nat} {f0 : Nat → va_E} {ls : Array Slot} {b N cs sl q rr GA GP GL GT : Nat} {xs : Nat → Int32} {V : Value} (F : CallFix p m c cL_law 4 s #[Value.ref b] wsL_law RL) (hZ : tZ A s s.heap) (hX0 : va_X b N xs s s.heap) (hbl : b < s.heap.size) (hbA : ¬ A b) (hcs : cs ≤ room_1.cells) (hsl : sl ≤ room_1.slots) (i : Int32) (bi : 0 ≤ i.toInt ∧ i.toInt + 6 ≤ N ∧ N ≤ 3072) (m_q : q ∈ L) (r_q : R q = 11) (m_rr : rr ∈ L) (r_rr : R rr = 12) (m_GA : GA ∈ L) (r_GA : R GA = 61) (m_GP : GP ∈ L) (r_GP : R GP = 69) (m_GL : GL ∈ L) (r_GL : R GL = 70) (m_GT : GT ∈ L) (r_GT : R GT = 64) (hLS : LWS D cy A s L R O P q rr GA GP GL GT V f0 H locs) (hl : lv_has ls 4 [(3, .int i), (2, .ref rr), (1, .ref q), (0, .ref b)]) (kk : ∀ (f1 : Nat → va_E) (H : Heap) (locs : List Loc) (ls : Array Slot), LWS D cy A s L R O P q rr GA GP GL GT V f1 H locs → lv_has ls 4 [(3, .int i), (2, .ref rr), (1, .ref q), (0, .ref b)] → W p l e room_1 s m #[Value.ref b] below meth c H locs cs sl Q (F0 m 1755 ls [])) : W p l e room_1 s m #[Value.ref b] below meth c H locs cs sl Q (F0 m 745 ls []) := by
  obtain ⟨h, hI, ⟨t_GA, t_GP, t_GL, t_GT⟩, hR, hX, hP, hMK, hCB, hC0, hC1, hC2, hPB⟩ := hLS
  have hs6m := hI.2.2.1.1
  have hs6r := hI.2.2.1.2
  have hBM := BM_of h m_q r_q
  have hPBn := hPB
  refine lv_aload_n F.1 F.2.1 dL_law_745 rfl (lv_at hl 2 rfl) ?_
  refine lv_aload_n F.1 F.2.1 dL_law_746 rfl (lv_at hl 3 rfl) ?_
  refine lv_iload_n F.1 F.2.1 dL_law_747 rfl (lv_at hl 0 rfl) ?_
  refine tw_iconst F dL_law_748 ki_1 (fun z1 hz1 => ?_)
  refine tu_iadd F dL_law_749 (by omega) (fun z2 hz2 => ?_)
  refine va_sld F.1 F.2.1 hX0 hbl hbA h.dd.2.2 (tw_in (by omega) (by omega)) dL_law_750 ?_
  refine lv_topi (fun z3 qz3 => ?_)
  refine lv_aload_n F.1 F.2.1 dL_law_751 rfl (lv_at hl 3 rfl) ?_
  refine lv_iload_n F.1 F.2.1 dL_law_752 rfl (lv_at hl 0 rfl) ?_
  refine tw_iconst F dL_law_753 ki_2 (fun z4 hz4 => ?_)
  refine tu_iadd F dL_law_754 (by omega) (fun z5 hz5 => ?_)
  refine va_sld F.1 F.2.1 hX0 hbl hbA h.dd.2.2 (tw_in (by omega) (by omega)) dL_law_755 ?_
  refine lv_topi (fun z6 qz6 => ?_)
  refine lv_aload_n F.1 F.2.1 dL_law_756 rfl (lv_at hl 3 rfl) ?_
  refine lv_iload_n F.1 F.2.1 dL_law_757 rfl (lv_at hl 0 rfl) ?_
  refine tw_iconst F dL_law_758 ki_3 (fun z7 hz7 => ?_)
  refine tu_iadd F dL_law_759 (by omega) (fun z8 hz8 => ?_)
  refine va_sld F.1 F.2.1 hX0 hbl hbA h.dd.2.2 (tw_in (by omega) (by omega)) dL_law_760 ?_
  refine lv_topi (fun z9 qz9 => ?_)
  refine tw_Vi (As := [.int z3, .int z6, .int z9]) F hZ h yk_X11_fit mw_836 mw_837 mw_838 (s_X11_fit l D cy L R O f0 hI.2.2.2.1 q m_q r_q z3 z6 z9) rfl rfl m_q r_q (fun e q => (T_11 e).mp q) rfl hl.1 rfl (Nat.le_of_ble_eq_true rfl) ⟨Nat.le_of_ble_eq_true rfl, Nat.le_of_ble_eq_true rfl⟩ ⟨hcs, hsl⟩ dL_law_761 (fun v11 f10 H locs hp10 h => ?_)
  have hf10 := hp10
  have em12 : fi f10 q 11 = fi f0 q 11 := hf10.efi m_q r_q (by decide +kernel)
  have em13 : fi f10 rr 64 = fi f0 rr 64 := hf10.efi m_rr r_rr (by decide +kernel)
  have ek14 := BKc hBM hf10 m_q r_q (by decide +kernel) (by decide +kernel) (by decide +kernel) (by decide +kernel)
  have ek14b := ek14.1
  have ek14x := ek14.2 0 (by omega)
  have ek14y := ek14.2 1 (by omega)
  have ek14z := ek14.2 2 (by omega)
  have ej15 := hf10.eelj m_GA r_GA (by decide +kernel) 5159
  have ej16 := hf10.eelj m_GA r_GA (by decide +kernel) 10349
  have ej17 := hf10.eelj m_GA r_GA (by decide +kernel) 15539
  have ej18 := hf10.eelj m_GA r_GA (by decide +kernel) 20729
  have hPBn : PB P f10 q := hPBn.fr hBM hf10 m_q r_q (by decide +kernel) (by decide +kernel) (by decide +kernel)
  have hBM := BM_of h m_q r_q
  have hI : INV L R O P f10 q := hI.most m_q r_q hf10 (by decide +kernel) (by decide +kernel) (by decide +kernel) (by decide +kernel) (by decide +kernel)
  have t_GA : fld f10 rr 0 = .ref GA := (hf10.efl m_rr r_rr (by decide +kernel)).trans t_GA
  have t_GP : fld f10 rr 22 = .ref GP := (hf10.efl m_rr r_rr (by decide +kernel)).trans t_GP
  have t_GL : fld f10 rr 23 = .ref GL := (hf10.efl m_rr r_rr (by decide +kernel)).trans t_GL
  have t_GT : fld f10 rr 6 = .ref GT := (hf10.efl m_rr r_rr (by decide +kernel)).trans t_GT
  have hR : RBA GA f10 := hR.fm hf10 m_GA r_GA (by decide +kernel)
  have hX : GZ GP GL f10 := hX.fm hf10 m_GP r_GP m_GL r_GL (by decide +kernel) (by decide +kernel)
  have hP : fld f10 (rfa f10 q 6) 16 = V := by rw [hf10.erf m_q r_q (by decide +kernel), hf10.efl hs6m hs6r (by decide +kernel)]; exact hP
  have hs6m : rfa f10 q 6 ∈ L := by rw [hf10.erf m_q r_q (by decide +kernel)]; exact hs6m
  have hs6r : R (rfa f10 q 6) = 7 := by rw [hf10.erf m_q r_q (by decide +kernel)]; exact hs6r
  refine lv_pop F.1 F.2.1 dL_law_764 rfl ?_
  refine lv_aload_n F.1 F.2.1 dL_law_765 rfl (lv_at hl 1 rfl) ?_
  refine lv_aload_n F.1 F.2.1 dL_law_766 rfl (lv_at hl 3 rfl) ?_
  refine lv_iload_n F.1 F.2.1 dL_law_767 rfl (lv_at hl 0 rfl) ?_
  refine tw_iconst F dL_law_768 ki_1 (fun z19 hz19 => ?_)
  refine tu_iadd F dL_law_769 (by omega) (fun z20 hz20 => ?_)
  refine va_sld F.1 F.2.1 hX0 hbl hbA h.dd.2.2 (tw_in (by omega) (by omega)) dL_law_770 ?_
  refine lv_topi (fun z21 qz21 => ?_)
  obtain rfl : z3 = z21 := by rw [qz3, qz21, show z2 = z20 from Int32.toInt_inj.mp (by omega)]
  refine lv_aload_n F.1 F.2.1 dL_law_771 rfl (lv_at hl 3 rfl) ?_
  refine lv_iload_n F.1 F.2.1 dL_law_772 rfl (lv_at hl 0 rfl) ?_
  refine tw_iconst F dL_law_773 ki_2 (fun z22 hz22 => ?_)
  refine tu_iadd F dL_law_774 (by omega) (fun z23 hz23 => ?_)
  refine va_sld F.1 F.2.1 hX0 hbl hbA h.dd.2.2 (tw_in (by omega) (by omega)) dL_law_775 ?_
  refine lv_topi (fun z24 qz24 => ?_)
  obtain rfl : z6 = z24 := by rw [qz6, qz24, show z5 = z23 from Int32.toInt_inj.mp (by omega)]
  refine lv_aload_n F.1 F.2.1 dL_law_776 rfl (lv_at hl 3 rfl) ?_
  refine lv_iload_n F.1 F.2.1 dL_law_777 rfl (lv_at hl 0 rfl) ?_
  refine tw_iconst F dL_law_778 ki_3 (fun z25 hz25 => ?_)
  refine tu_iadd F dL_law_779 (by omega) (fun z26 hz26 => ?_)
  refine va_sld F.1 F.2.1 hX0 hbl hbA h.dd.2.2 (tw_in (by omega) (by omega)) dL_law_780 ?_
  refine lv_topi (fun z27 qz27 => ?_)
  obtain rfl : z9 = z27 := by rw [qz9, qz27, show z8 = z26 from Int32.toInt_inj.mp (by omega)]
  refine tw_Vi (As := [.int z3, .int z6, .int z9]) F hZ h yk_X12_fit mw_886 mw_887 mw_888 (s_X12_fit l D cy L R O f10 rr m_rr r_rr z3 z6 z9 GA m_GA r_GA t_GA GP m_GP r_GP t_GP GL m_GL r_GL t_GL GT m_GT r_GT t_GT hR hX) rfl rfl m_rr r_rr (fun e q => (T_12 e).mp q) rfl hl.1 rfl (Nat.le_of_ble_eq_true rfl) ⟨Nat.le_of_ble_eq_true rfl, Nat.le_of_ble_eq_true rfl⟩ ⟨hcs, hsl⟩ dL_law_781 (fun v29 f28 H locs hp28 h => ?_)
  obtain ⟨hf28, hv29p0, hv29p1⟩ := hp28
  have em30 : fi f28 q 11 = fi f10 q 11 := hf28.efi m_q r_q (by decide +kernel)
  have em31 : fi f28 rr 64 = fi f10 rr 64 := hf28.efi m_rr r_rr (by decide +kernel)
  have ek32 := BKc hBM hf28 m_q r_q (by decide +kernel) (by decide +kernel) (by decide +kernel) (by decide +kernel)
  have ek32b := ek32.1
  have ek32x := ek32.2 0 (by omega)
  have ek32y := ek32.2 1 (by omega)
  have ek32z := ek32.2 2 (by omega)
  have ej33 := hf28.eelj m_GA r_GA (by decide +kernel) 5159
  have ej34 := hf28.eelj m_GA r_GA (by decide +kernel) 10349
  have ej35 := hf28.eelj m_GA r_GA (by decide +kernel) 15539
  have ej36 := hf28.eelj m_GA r_GA (by decide +kernel) 20729
  have hPBn : PB P f28 q := hPBn.fr hBM hf28 m_q r_q (by decide +kernel) (by decide +kernel) (by decide +kernel)
  have hBM := BM_of h m_q r_q
  have hI : INV L R O P f28 q := hI.most m_q r_q hf28 (by decide +kernel) (by decide +kernel) (by decide +kernel) (by decide +kernel) (by decide +kernel)
  have t_GA : fld f28 rr 0 = .ref GA := (hf28.efl m_rr r_rr (by decide +kernel)).trans t_GA
  have t_GP : fld f28 rr 22 = .ref GP := (hf28.efl m_rr r_rr (by decide +kernel)).trans t_GP
  have t_GL : fld f28 rr 23 = .ref GL := (hf28.efl m_rr r_rr (by decide +kernel)).trans t_GL
  have t_GT : fld f28 rr 6 = .ref GT := (hf28.efl m_rr r_rr (by decide +kernel)).trans t_GT
  have hR : RBA GA f28 := hR.fm hf28 m_GA r_GA (by decide +kernel)
  have hX : GZ GP GL f28 := hv29p1
  have hP : fld f28 (rfa f28 q 6) 16 = V := by rw [hf28.erf m_q r_q (by decide +kernel), hf28.efl hs6m hs6r (by decide +kernel)]; exact hP
  have hs6m : rfa f28 q 6 ∈ L := by rw [hf28.erf m_q r_q (by decide +kernel)]; exact hs6m
  have hs6r : R (rfa f28 q 6) = 7 := by rw [hf28.erf m_q r_q (by decide +kernel)]; exact hs6r
  refine lv_pop F.1 F.2.1 dL_law_784 rfl ?_
  refine lv_goto (tgt := 1755) F.1 F.2.1 dL_law_785 (by decide) ?_
  exact kk f28 _ _ _ ⟨h, hI, ⟨t_GA, t_GP, t_GL, t_GT⟩, hR, hX, hP, by omega, by omega, by omega, by omega, by omega, hPBn⟩ hl
theorem dL_law_788 : decode cL_law 788 = .ok (.aload_n 1, 1) := by decide +kernel
theorem dL_law_789 : decode cL_law 789 = .ok (.aload_n 0, 1) := by decide +kernel
theorem dL_law_790 : decode cL_law 790 = .ok (.iload_n 3, 1) := by decide +kernel
theorem dL_law_791 : decode cL_law 791 = .ok (.iconst 1, 1) := by decide +kernel
theorem dL_law_792 : decode cL_law 792 = .ok (.iadd, 1) := by decide +kernel
theorem dL_law_793 : decode cL_law 793 = .ok (.iaload, 1) := by decide +kernel
theorem dL_law_794 : decode cL_law 794 = .ok (.aload_n 0, 1) := by decide +kernel
theorem dL_law_795 : decode cL_law 795 = .ok (.iload_n 3, 1) := by decide +kernel
theorem dL_law_796 : decode cL_law 796 = .ok (.iconst 2, 1) := by decide +kernel
theorem dL_law_797 : decode cL_law 797 = .ok (.iadd, 1) := by decide +kernel
theorem dL_law_798 : decode cL_law 798 = .ok (.iaload, 1) := by decide +kernel
theorem dL_law_799 : decode cL_law 799 = .ok (.invokevirtual 89, 3) := by decide +kernel
theorem mw_900 : Cond.methodLink RL 89 yX11_gap ∈ wsL_law := inr_38 _ (List.mem_of_getElem? (i := 12) rfl)
theorem mw_903 : Cond.code yX11_gap cX11_gap 4 (some .int) ∈ wsL_law := inr_38 _ (List.mem_of_getElem? (i := 15) rfl)
theorem yk_X11_gap : xY yX11_gap RX11 cX11_gap 4 (some .int) 2 := ⟨⟨rfl, by decide +kernel, by decide +kernel, by decide +kernel⟩, mw_2, mw_903⟩
theorem mw_901 : Cond.instanceMethod yX11_gap ∈ wsL_law := inr_38 _ (List.mem_of_getElem? (i := 13) rfl)
theorem mw_902 : Cond.selects RX11 yX11_gap yX11_gap ∈ wsL_law := inr_38 _ (List.mem_of_getElem? (i := 14) rfl)
theorem dL_law_802 : decode cL_law 802 = .ok (.pop, 1) := by decide +kernel
theorem dL_law_803 : decode cL_law 803 = .ok (.aload_n 2, 1) := by decide +kernel
theorem dL_law_804 : decode cL_law 804 = .ok (.aload_n 0, 1) := by decide +kernel
theorem dL_law_805 : decode cL_law 805 = .ok (.iload_n 3, 1) := by decide +kernel
theorem dL_law_806 : decode cL_law 806 = .ok (.iconst 1, 1) := by decide +kernel
theorem dL_law_807 : decode cL_law 807 = .ok (.iadd, 1) := by decide +kernel
theorem dL_law_808 : decode cL_law 808 = .ok (.iaload, 1) := by decide +kernel
theorem dL_law_809 : decode cL_law 809 = .ok (.aload_n 0, 1) := by decide +kernel
theorem dL_law_810 : decode cL_law 810 = .ok (.iload_n 3, 1) := by decide +kernel
theorem dL_law_811 : decode cL_law 811 = .ok (.iconst 2, 1) := by decide +kernel
theorem dL_law_812 : decode cL_law 812 = .ok (.iadd, 1) := by decide +kernel
theorem dL_law_813 : decode cL_law 813 = .ok (.iaload, 1) := by decide +kernel
theorem dL_law_814 : decode cL_law 814 = .ok (.invokevirtual 92, 3) := by decide +kernel
theorem mw_910 : Cond.methodLink RL 92 yX12_gap ∈ wsL_law := inr_38 _ (List.mem_of_getElem? (i := 22) rfl)
theorem mw_913 : Cond.code yX12_gap cX12_gap 3 (some .int) ∈ wsL_law := inr_39 _ (List.mem_of_getElem? (i := 1) rfl)
theorem yk_X12_gap : xY yX12_gap RX12 cX12_gap 3 (some .int) 2 := ⟨⟨rfl, by decide +kernel, by decide +kernel, by decide +kernel⟩, mw_5, mw_913⟩
theorem mw_911 : Cond.instanceMethod yX12_gap ∈ wsL_law := inr_38 _ (List.mem_of_getElem? (i := 23) rfl)
theorem mw_912 : Cond.selects RX12 yX12_gap yX12_gap ∈ wsL_law := inr_39 _ (List.mem_of_getElem? (i := 0) rfl)
theorem dL_law_817 : decode cL_law 817 = .ok (.pop, 1) := by decide +kernel
theorem dL_law_818 : decode cL_law 818 = .ok (.goto 937, 3) := by decide +kernel
set_option maxHeartbeats 4000000 in
set_option maxRecDepth 100000 in
theorem law_c16 {p : Program} {l : Launch} {e : Env} {s : State} {m : MethodId} {below : List Frame} {meth : Method} {c : Code} {H : Heap} {locs : List Loc} {Q : State → Prop} {D : va_G} {cy : Nat → ClassId} {A : Nat → Prop} {L : List Nat} {R O P : Nat → Nat} {f0 : Nat → va_E} {ls : Array Slot} {b N cs sl q rr GA GP GL GT : Nat} {xs : Nat → Int32} {V : Value} (F : CallFix p m c cL_law 4 s #[Value.ref b] wsL_law RL) (hZ : tZ A s s.heap) (hX0 : va_X b N xs s s.heap) (hbl : b < s.heap.size) (hbA : ¬ A b) (hcs : cs ≤ room_1.cells) (hsl : sl ≤ room_1.slots) (i : Int32) (bi : 0 ≤ i.toInt ∧ i.toInt + 6 ≤ N ∧ N ≤ 3072) (m_q : q ∈ L) (r_q : R q = 11) (m_rr : rr ∈ L) (r_rr : R rr = 12) (m_GA : GA ∈ L) (r_GA : R GA = 61) (m_GP : GP ∈ L) (r_GP : R GP = 69) (m_GL : GL ∈ L) (r_GL : R GL = 70) (m_GT : GT ∈ L) (r_GT : R GT = 64) (hLS : LWS D cy A s L R O P q rr GA GP GL GT V f0 H locs) (hl : lv_has ls 4 [(3, .int i), (2, .ref rr), (1, .ref q), (0, .ref b)]) (kk : ∀ (f1 : Nat → va_E) (H : Heap) (locs : List Loc) (ls : Array Slot), LWS D cy A s L R O P q rr GA GP GL GT V f1 H locs → lv_has ls 4 [(3, .int i), (2, .ref rr), (1, .ref q), (0, .ref b)] → W p l e room_1 s m #[Value.ref b] below meth c H locs cs sl Q (F0 m 1755 ls [])) : W p l e room_1 s m #[Value.ref b] below meth c H locs cs sl Q (F0 m 788 ls []) := by
  obtain ⟨h, hI, ⟨t_GA, t_GP, t_GL, t_GT⟩, hR, hX, hP, hMK, hCB, hC0, hC1, hC2, hPB⟩ := hLS
  have hs6m := hI.2.2.1.1
  have hs6r := hI.2.2.1.2
  have hBM := BM_of h m_q r_q
  have hPBn := hPB
  refine lv_aload_n F.1 F.2.1 dL_law_788 rfl (lv_at hl 2 rfl) ?_
  refine lv_aload_n F.1 F.2.1 dL_law_789 rfl (lv_at hl 3 rfl) ?_
  refine lv_iload_n F.1 F.2.1 dL_law_790 rfl (lv_at hl 0 rfl) ?_
  refine tw_iconst F dL_law_791 ki_1 (fun z1 hz1 => ?_)
  refine tu_iadd F dL_law_792 (by omega) (fun z2 hz2 => ?_)
  refine va_sld F.1 F.2.1 hX0 hbl hbA h.dd.2.2 (tw_in (by omega) (by omega)) dL_law_793 ?_
  refine lv_topi (fun z3 qz3 => ?_)
  refine lv_aload_n F.1 F.2.1 dL_law_794 rfl (lv_at hl 3 rfl) ?_
  refine lv_iload_n F.1 F.2.1 dL_law_795 rfl (lv_at hl 0 rfl) ?_
  refine tw_iconst F dL_law_796 ki_2 (fun z4 hz4 => ?_)
  refine tu_iadd F dL_law_797 (by omega) (fun z5 hz5 => ?_)
  refine va_sld F.1 F.2.1 hX0 hbl hbA h.dd.2.2 (tw_in (by omega) (by omega)) dL_law_798 ?_
  refine lv_topi (fun z6 qz6 => ?_)
  refine tw_Vi (As := [.int z3, .int z6]) F hZ h yk_X11_gap mw_900 mw_901 mw_902 (s_X11_gap l D cy L R O f0 q m_q r_q z3 z6) rfl rfl m_q r_q (fun e q => (T_11 e).mp q) rfl hl.1 rfl (Nat.le_of_ble_eq_true rfl) ⟨Nat.le_of_ble_eq_true rfl, Nat.le_of_ble_eq_true rfl⟩ ⟨hcs, hsl⟩ dL_law_799 (fun v8 f7 H locs hp7 h => ?_)
  have hf7 := hp7
  have em9 : fi f7 q 11 = fi f0 q 11 := hf7.efi m_q r_q (by decide +kernel)
  have em10 : fi f7 rr 64 = fi f0 rr 64 := hf7.efi m_rr r_rr (by decide +kernel)
  have ek11 := BKc hBM hf7 m_q r_q (by decide +kernel) (by decide +kernel) (by decide +kernel) (by decide +kernel)
  have ek11b := ek11.1
  have ek11x := ek11.2 0 (by omega)
  have ek11y := ek11.2 1 (by omega)
  have ek11z := ek11.2 2 (by omega)
  have ej12 := hf7.eelj m_GA r_GA (by decide +kernel) 5159
  have ej13 := hf7.eelj m_GA r_GA (by decide +kernel) 10349
  have ej14 := hf7.eelj m_GA r_GA (by decide +kernel) 15539
  have ej15 := hf7.eelj m_GA r_GA (by decide +kernel) 20729
  have hPBn : PB P f7 q := hPBn.fr hBM hf7 m_q r_q (by decide +kernel) (by decide +kernel) (by decide +kernel)
  have hBM := BM_of h m_q r_q
  have hI : INV L R O P f7 q := hI.most m_q r_q hf7 (by decide +kernel) (by decide +kernel) (by decide +kernel) (by decide +kernel) (by decide +kernel)
  have t_GA : fld f7 rr 0 = .ref GA := (hf7.efl m_rr r_rr (by decide +kernel)).trans t_GA
  have t_GP : fld f7 rr 22 = .ref GP := (hf7.efl m_rr r_rr (by decide +kernel)).trans t_GP
  have t_GL : fld f7 rr 23 = .ref GL := (hf7.efl m_rr r_rr (by decide +kernel)).trans t_GL
  have t_GT : fld f7 rr 6 = .ref GT := (hf7.efl m_rr r_rr (by decide +kernel)).trans t_GT
  have hR : RBA GA f7 := hR.fm hf7 m_GA r_GA (by decide +kernel)
  have hX : GZ GP GL f7 := hX.fm hf7 m_GP r_GP m_GL r_GL (by decide +kernel) (by decide +kernel)
  have hP : fld f7 (rfa f7 q 6) 16 = V := by rw [hf7.erf m_q r_q (by decide +kernel), hf7.efl hs6m hs6r (by decide +kernel)]; exact hP
  have hs6m : rfa f7 q 6 ∈ L := by rw [hf7.erf m_q r_q (by decide +kernel)]; exact hs6m
  have hs6r : R (rfa f7 q 6) = 7 := by rw [hf7.erf m_q r_q (by decide +kernel)]; exact hs6r
  refine lv_pop F.1 F.2.1 dL_law_802 rfl ?_
  refine lv_aload_n F.1 F.2.1 dL_law_803 rfl (lv_at hl 1 rfl) ?_
  refine lv_aload_n F.1 F.2.1 dL_law_804 rfl (lv_at hl 3 rfl) ?_
  refine lv_iload_n F.1 F.2.1 dL_law_805 rfl (lv_at hl 0 rfl) ?_
  refine tw_iconst F dL_law_806 ki_1 (fun z16 hz16 => ?_)
  refine tu_iadd F dL_law_807 (by omega) (fun z17 hz17 => ?_)
  refine va_sld F.1 F.2.1 hX0 hbl hbA h.dd.2.2 (tw_in (by omega) (by omega)) dL_law_808 ?_
  refine lv_topi (fun z18 qz18 => ?_)
  obtain rfl : z3 = z18 := by rw [qz3, qz18, show z2 = z17 from Int32.toInt_inj.mp (by omega)]
  refine lv_aload_n F.1 F.2.1 dL_law_809 rfl (lv_at hl 3 rfl) ?_
  refine lv_iload_n F.1 F.2.1 dL_law_810 rfl (lv_at hl 0 rfl) ?_
  refine tw_iconst F dL_law_811 ki_2 (fun z19 hz19 => ?_)
  refine tu_iadd F dL_law_812 (by omega) (fun z20 hz20 => ?_)
  refine va_sld F.1 F.2.1 hX0 hbl hbA h.dd.2.2 (tw_in (by omega) (by omega)) dL_law_813 ?_
  refine lv_topi (fun z21 qz21 => ?_)
  obtain rfl : z6 = z21 := by rw [qz6, qz21, show z5 = z20 from Int32.toInt_inj.mp (by omega)]
  refine tw_Vi (As := [.int z3, .int z6]) F hZ h yk_X12_gap mw_910 mw_911 mw_912 (s_X12_gap l D cy L R O f7 rr m_rr r_rr z3 z6) rfl rfl m_rr r_rr (fun e q => (T_12 e).mp q) rfl hl.1 rfl (Nat.le_of_ble_eq_true rfl) ⟨Nat.le_of_ble_eq_true rfl, Nat.le_of_ble_eq_true rfl⟩ ⟨hcs, hsl⟩ dL_law_814 (fun v23 f22 H locs hp22 h => ?_)
  have hf22 := hp22
  have em24 : fi f22 q 11 = fi f7 q 11 := hf22.efi m_q r_q (by decide +kernel)
  have em25 : fi f22 rr 64 = fi f7 rr 64 := hf22.efi m_rr r_rr (by decide +kernel)
  have ek26 := BKc hBM hf22 m_q r_q (by decide +kernel) (by decide +kernel) (by decide +kernel) (by decide +kernel)
  have ek26b := ek26.1
  have ek26x := ek26.2 0 (by omega)
  have ek26y := ek26.2 1 (by omega)
  have ek26z := ek26.2 2 (by omega)
  have ej27 := hf22.eelj m_GA r_GA (by decide +kernel) 5159
  have ej28 := hf22.eelj m_GA r_GA (by decide +kernel) 10349
  have ej29 := hf22.eelj m_GA r_GA (by decide +kernel) 15539
  have ej30 := hf22.eelj m_GA r_GA (by decide +kernel) 20729
  have hPBn : PB P f22 q := hPBn.fr hBM hf22 m_q r_q (by decide +kernel) (by decide +kernel) (by decide +kernel)
  have hBM := BM_of h m_q r_q
  have hI : INV L R O P f22 q := hI.most m_q r_q hf22 (by decide +kernel) (by decide +kernel) (by decide +kernel) (by decide +kernel) (by decide +kernel)
  have t_GA : fld f22 rr 0 = .ref GA := (hf22.efl m_rr r_rr (by decide +kernel)).trans t_GA
  have t_GP : fld f22 rr 22 = .ref GP := (hf22.efl m_rr r_rr (by decide +kernel)).trans t_GP
  have t_GL : fld f22 rr 23 = .ref GL := (hf22.efl m_rr r_rr (by decide +kernel)).trans t_GL
  have t_GT : fld f22 rr 6 = .ref GT := (hf22.efl m_rr r_rr (by decide +kernel)).trans t_GT
  have hR : RBA GA f22 := hR.fm hf22 m_GA r_GA (by decide +kernel)
  have hX : GZ GP GL f22 := hX.fm hf22 m_GP r_GP m_GL r_GL (by decide +kernel) (by decide +kernel)
  have hP : fld f22 (rfa f22 q 6) 16 = V := by rw [hf22.erf m_q r_q (by decide +kernel), hf22.efl hs6m hs6r (by decide +kernel)]; exact hP
  have hs6m : rfa f22 q 6 ∈ L := by rw [hf22.erf m_q r_q (by decide +kernel)]; exact hs6m
  have hs6r : R (rfa f22 q 6) = 7 := by rw [hf22.erf m_q r_q (by decide +kernel)]; exact hs6r
  refine lv_pop F.1 F.2.1 dL_law_817 rfl ?_
  refine lv_goto (tgt := 1755) F.1 F.2.1 dL_law_818 (by decide) ?_
  exact kk f22 _ _ _ ⟨h, hI, ⟨t_GA, t_GP, t_GL, t_GT⟩, hR, hX, hP, by omega, by omega, by omega, by omega, by omega, hPBn⟩ hl
theorem dL_law_821 : decode cL_law 821 = .ok (.aload_n 1, 1) := by decide +kernel
theorem dL_law_822 : decode cL_law 822 = .ok (.aload_n 0, 1) := by decide +kernel
theorem dL_law_823 : decode cL_law 823 = .ok (.iload_n 3, 1) := by decide +kernel
theorem dL_law_824 : decode cL_law 824 = .ok (.iconst 1, 1) := by decide +kernel
theorem dL_law_825 : decode cL_law 825 = .ok (.iadd, 1) := by decide +kernel
theorem dL_law_826 : decode cL_law 826 = .ok (.iaload, 1) := by decide +kernel
theorem dL_law_827 : decode cL_law 827 = .ok (.aload_n 0, 1) := by decide +kernel
theorem dL_law_828 : decode cL_law 828 = .ok (.iload_n 3, 1) := by decide +kernel
theorem dL_law_829 : decode cL_law 829 = .ok (.iconst 2, 1) := by decide +kernel
theorem dL_law_830 : decode cL_law 830 = .ok (.iadd, 1) := by decide +kernel
theorem dL_law_831 : decode cL_law 831 = .ok (.iaload, 1) := by decide +kernel
theorem dL_law_832 : decode cL_law 832 = .ok (.i2l, 1) := by decide +kernel
theorem dL_law_833 : decode cL_law 833 = .ok (.bipush 32, 2) := by decide +kernel
theorem dL_law_835 : decode cL_law 835 = .ok (.lshl, 1) := by decide +kernel
theorem dL_law_836 : decode cL_law 836 = .ok (.aload_n 0, 1) := by decide +kernel
theorem dL_law_837 : decode cL_law 837 = .ok (.iload_n 3, 1) := by decide +kernel
theorem dL_law_838 : decode cL_law 838 = .ok (.iconst 3, 1) := by decide +kernel
theorem dL_law_839 : decode cL_law 839 = .ok (.iadd, 1) := by decide +kernel
theorem dL_law_840 : decode cL_law 840 = .ok (.iaload, 1) := by decide +kernel
theorem dL_law_841 : decode cL_law 841 = .ok (.i2l, 1) := by decide +kernel
theorem dL_law_842 : decode cL_law 842 = .ok (.ldc2_w 32, 3) := by decide +kernel
theorem dL_law_845 : decode cL_law 845 = .ok (.land, 1) := by decide +kernel
theorem dL_law_846 : decode cL_law 846 = .ok (.lor, 1) := by decide +kernel
theorem dL_law_847 : decode cL_law 847 = .ok (.invokevirtual 93, 3) := by decide +kernel
theorem mw_914 : Cond.methodLink RL 93 yX11_turned ∈ wsL_law := inr_39 _ (List.mem_of_getElem? (i := 2) rfl)
theorem mw_917 : Cond.code yX11_turned cX11_turned 4 (some .long) ∈ wsL_law := inr_39 _ (List.mem_of_getElem? (i := 5) rfl)
theorem yk_X11_turned : xY yX11_turned RX11 cX11_turned 4 (some .long) 2 := ⟨⟨rfl, by decide +kernel, by decide +kernel, by decide +kernel⟩, mw_2, mw_917⟩
theorem mw_915 : Cond.instanceMethod yX11_turned ∈ wsL_law := inr_39 _ (List.mem_of_getElem? (i := 3) rfl)
theorem mw_916 : Cond.selects RX11 yX11_turned yX11_turned ∈ wsL_law := inr_39 _ (List.mem_of_getElem? (i := 4) rfl)
theorem dL_law_850 : decode cL_law 850 = .ok (.pop2, 1) := by decide +kernel
theorem dL_law_851 : decode cL_law 851 = .ok (.aload_n 2, 1) := by decide +kernel
theorem dL_law_852 : decode cL_law 852 = .ok (.aload_n 0, 1) := by decide +kernel
theorem dL_law_853 : decode cL_law 853 = .ok (.iload_n 3, 1) := by decide +kernel
theorem dL_law_854 : decode cL_law 854 = .ok (.iconst 1, 1) := by decide +kernel
theorem dL_law_855 : decode cL_law 855 = .ok (.iadd, 1) := by decide +kernel
theorem dL_law_856 : decode cL_law 856 = .ok (.iaload, 1) := by decide +kernel
theorem dL_law_857 : decode cL_law 857 = .ok (.aload_n 0, 1) := by decide +kernel
theorem dL_law_858 : decode cL_law 858 = .ok (.iload_n 3, 1) := by decide +kernel
theorem dL_law_859 : decode cL_law 859 = .ok (.iconst 2, 1) := by decide +kernel
theorem dL_law_860 : decode cL_law 860 = .ok (.iadd, 1) := by decide +kernel
theorem dL_law_861 : decode cL_law 861 = .ok (.iaload, 1) := by decide +kernel
theorem dL_law_862 : decode cL_law 862 = .ok (.i2l, 1) := by decide +kernel
theorem dL_law_863 : decode cL_law 863 = .ok (.bipush 32, 2) := by decide +kernel
theorem dL_law_865 : decode cL_law 865 = .ok (.lshl, 1) := by decide +kernel
theorem dL_law_866 : decode cL_law 866 = .ok (.aload_n 0, 1) := by decide +kernel
theorem dL_law_867 : decode cL_law 867 = .ok (.iload_n 3, 1) := by decide +kernel
theorem dL_law_868 : decode cL_law 868 = .ok (.iconst 3, 1) := by decide +kernel
theorem dL_law_869 : decode cL_law 869 = .ok (.iadd, 1) := by decide +kernel
theorem dL_law_870 : decode cL_law 870 = .ok (.iaload, 1) := by decide +kernel
theorem dL_law_871 : decode cL_law 871 = .ok (.i2l, 1) := by decide +kernel
theorem dL_law_872 : decode cL_law 872 = .ok (.ldc2_w 32, 3) := by decide +kernel
theorem dL_law_875 : decode cL_law 875 = .ok (.land, 1) := by decide +kernel
theorem dL_law_876 : decode cL_law 876 = .ok (.lor, 1) := by decide +kernel
theorem dL_law_877 : decode cL_law 877 = .ok (.invokevirtual 97, 3) := by decide +kernel
theorem mw_927 : Cond.methodLink RL 97 yX12_turned ∈ wsL_law := inr_39 _ (List.mem_of_getElem? (i := 15) rfl)
theorem mw_930 : Cond.code yX12_turned cX12_turned 4 (some .long) ∈ wsL_law := inr_39 _ (List.mem_of_getElem? (i := 18) rfl)
theorem yk_X12_turned : xY yX12_turned RX12 cX12_turned 4 (some .long) 2 := ⟨⟨rfl, by decide +kernel, by decide +kernel, by decide +kernel⟩, mw_5, mw_930⟩
theorem mw_928 : Cond.instanceMethod yX12_turned ∈ wsL_law := inr_39 _ (List.mem_of_getElem? (i := 16) rfl)
theorem mw_929 : Cond.selects RX12 yX12_turned yX12_turned ∈ wsL_law := inr_39 _ (List.mem_of_getElem? (i := 17) rfl)
theorem dL_law_880 : decode cL_law 880 = .ok (.pop2, 1) := by decide +kernel
theorem dL_law_881 : decode cL_law 881 = .ok (.goto 874, 3) := by decide +kernel
set_option maxHeartbeats 4000000 in
set_option maxRecDepth 100000 in
theorem law_c17 {p : Program} {l : Launch} {e : Env} {s : State} {m : MethodId} {below : List Frame} {meth : Method} {c : Code} {H : Heap} {locs : List Loc} {Q : State → Prop} {D : va_G} {cy : Nat → ClassId} {A : Nat → Prop} {L : List Nat} {R O P : Nat → Nat} {f0 : Nat → va_E} {ls : Array Slot} {b N cs sl q rr GA GP GL GT : Nat} {xs : Nat → Int32} {V : Value} (F : CallFix p m c cL_law 4 s #[Value.ref b] wsL_law RL) (hZ : tZ A s s.heap) (hX0 : va_X b N xs s s.heap) (hbl : b < s.heap.size) (hbA : ¬ A b) (hcs : cs ≤ room_1.cells) (hsl : sl ≤ room_1.slots) (i : Int32) (bi : 0 ≤ i.toInt ∧ i.toInt + 6 ≤ N ∧ N ≤ 3072) (m_q : q ∈ L) (r_q : R q = 11) (m_rr : rr ∈ L) (r_rr : R rr = 12) (m_GA : GA ∈ L) (r_GA : R GA = 61) (m_GP : GP ∈ L) (r_GP : R GP = 69) (m_GL : GL ∈ L) (r_GL : R GL = 70) (m_GT : GT ∈ L) (r_GT : R GT = 64) (hLS : LWS D cy A s L R O P q rr GA GP GL GT V f0 H locs) (hl : lv_has ls 4 [(3, .int i), (2, .ref rr), (1, .ref q), (0, .ref b)]) (kk : ∀ (f1 : Nat → va_E) (H : Heap) (locs : List Loc) (ls : Array Slot), LWS D cy A s L R O P q rr GA GP GL GT V f1 H locs → lv_has ls 4 [(3, .int i), (2, .ref rr), (1, .ref q), (0, .ref b)] → W p l e room_1 s m #[Value.ref b] below meth c H locs cs sl Q (F0 m 1755 ls [])) : W p l e room_1 s m #[Value.ref b] below meth c H locs cs sl Q (F0 m 821 ls []) := by
  obtain ⟨h, hI, ⟨t_GA, t_GP, t_GL, t_GT⟩, hR, hX, hP, hMK, hCB, hC0, hC1, hC2, hPB⟩ := hLS
  have hs6m := hI.2.2.1.1
  have hs6r := hI.2.2.1.2
  have hBM := BM_of h m_q r_q
  have hPBn := hPB
  refine lv_aload_n F.1 F.2.1 dL_law_821 rfl (lv_at hl 2 rfl) ?_
  refine lv_aload_n F.1 F.2.1 dL_law_822 rfl (lv_at hl 3 rfl) ?_
  refine lv_iload_n F.1 F.2.1 dL_law_823 rfl (lv_at hl 0 rfl) ?_
  refine tw_iconst F dL_law_824 ki_1 (fun z1 hz1 => ?_)
  refine tu_iadd F dL_law_825 (by omega) (fun z2 hz2 => ?_)
  refine va_sld F.1 F.2.1 hX0 hbl hbA h.dd.2.2 (tw_in (by omega) (by omega)) dL_law_826 ?_
  refine lv_topi (fun z3 qz3 => ?_)
  refine lv_aload_n F.1 F.2.1 dL_law_827 rfl (lv_at hl 3 rfl) ?_
  refine lv_iload_n F.1 F.2.1 dL_law_828 rfl (lv_at hl 0 rfl) ?_
  refine tw_iconst F dL_law_829 ki_2 (fun z4 hz4 => ?_)
  refine tu_iadd F dL_law_830 (by omega) (fun z5 hz5 => ?_)
  refine va_sld F.1 F.2.1 hX0 hbl hbA h.dd.2.2 (tw_in (by omega) (by omega)) dL_law_831 ?_
  refine lv_topi (fun z6 qz6 => ?_)
  refine lv_i2l F.1 F.2.1 dL_law_832 rfl ?_
  refine lv_topl (fun z7 qz7 => ?_)
  refine tw_bipush F dL_law_833 kb_32 (fun z8 hz8 => ?_)
  refine lv_lshl F.1 F.2.1 dL_law_835 rfl ?_
  refine lv_topl (fun z9 qz9 => ?_)
  refine lv_aload_n F.1 F.2.1 dL_law_836 rfl (lv_at hl 3 rfl) ?_
  refine lv_iload_n F.1 F.2.1 dL_law_837 rfl (lv_at hl 0 rfl) ?_
  refine tw_iconst F dL_law_838 ki_3 (fun z10 hz10 => ?_)
  refine tu_iadd F dL_law_839 (by omega) (fun z11 hz11 => ?_)
  refine va_sld F.1 F.2.1 hX0 hbl hbA h.dd.2.2 (tw_in (by omega) (by omega)) dL_law_840 ?_
  refine lv_topi (fun z12 qz12 => ?_)
  refine lv_i2l F.1 F.2.1 dL_law_841 rfl ?_
  refine lv_topl (fun z13 qz13 => ?_)
  refine lv_ldc2 F.1 F.2.1 F.2.2.2.1 (F.2.2.2.2 _ mw_6) dL_law_842 ?_
  refine lv_topl (fun z14 qz14 => ?_)
  refine lv_land F.1 F.2.1 dL_law_845 ?_
  refine lv_topl (fun z15 qz15 => ?_)
  refine lv_lor F.1 F.2.1 dL_law_846 ?_
  refine lv_topl (fun z16 qz16 => ?_)
  refine tw_Vl (As := [.int z3, .long z16]) F hZ h yk_X11_turned mw_914 mw_915 mw_916 (s_X11_turned l D cy L R O f0 q m_q r_q z3 z16) rfl rfl m_q r_q (fun e q => (T_11 e).mp q) rfl hl.1 rfl (Nat.le_of_ble_eq_true rfl) ⟨Nat.le_of_ble_eq_true rfl, Nat.le_of_ble_eq_true rfl⟩ ⟨hcs, hsl⟩ dL_law_847 (fun v18 f17 H locs hp17 h => ?_)
  have hf17 := hp17
  have em19 : fi f17 q 11 = fi f0 q 11 := hf17.efi m_q r_q (by decide +kernel)
  have em20 : fi f17 rr 64 = fi f0 rr 64 := hf17.efi m_rr r_rr (by decide +kernel)
  have ek21 := BKc hBM hf17 m_q r_q (by decide +kernel) (by decide +kernel) (by decide +kernel) (by decide +kernel)
  have ek21b := ek21.1
  have ek21x := ek21.2 0 (by omega)
  have ek21y := ek21.2 1 (by omega)
  have ek21z := ek21.2 2 (by omega)
  have ej22 := hf17.eelj m_GA r_GA (by decide +kernel) 5159
  have ej23 := hf17.eelj m_GA r_GA (by decide +kernel) 10349
  have ej24 := hf17.eelj m_GA r_GA (by decide +kernel) 15539
  have ej25 := hf17.eelj m_GA r_GA (by decide +kernel) 20729
  have hPBn : PB P f17 q := hPBn.fr hBM hf17 m_q r_q (by decide +kernel) (by decide +kernel) (by decide +kernel)
  have hBM := BM_of h m_q r_q
  have hI : INV L R O P f17 q := hI.most m_q r_q hf17 (by decide +kernel) (by decide +kernel) (by decide +kernel) (by decide +kernel) (by decide +kernel)
  have t_GA : fld f17 rr 0 = .ref GA := (hf17.efl m_rr r_rr (by decide +kernel)).trans t_GA
  have t_GP : fld f17 rr 22 = .ref GP := (hf17.efl m_rr r_rr (by decide +kernel)).trans t_GP
  have t_GL : fld f17 rr 23 = .ref GL := (hf17.efl m_rr r_rr (by decide +kernel)).trans t_GL
  have t_GT : fld f17 rr 6 = .ref GT := (hf17.efl m_rr r_rr (by decide +kernel)).trans t_GT
  have hR : RBA GA f17 := hR.fm hf17 m_GA r_GA (by decide +kernel)
  have hX : GZ GP GL f17 := hX.fm hf17 m_GP r_GP m_GL r_GL (by decide +kernel) (by decide +kernel)
  have hP : fld f17 (rfa f17 q 6) 16 = V := by rw [hf17.erf m_q r_q (by decide +kernel), hf17.efl hs6m hs6r (by decide +kernel)]; exact hP
  have hs6m : rfa f17 q 6 ∈ L := by rw [hf17.erf m_q r_q (by decide +kernel)]; exact hs6m
  have hs6r : R (rfa f17 q 6) = 7 := by rw [hf17.erf m_q r_q (by decide +kernel)]; exact hs6r
  refine lv_pop2_2 F.1 F.2.1 dL_law_850 rfl ?_
  refine lv_aload_n F.1 F.2.1 dL_law_851 rfl (lv_at hl 1 rfl) ?_
  refine lv_aload_n F.1 F.2.1 dL_law_852 rfl (lv_at hl 3 rfl) ?_
  refine lv_iload_n F.1 F.2.1 dL_law_853 rfl (lv_at hl 0 rfl) ?_
  refine tw_iconst F dL_law_854 ki_1 (fun z26 hz26 => ?_)
  refine tu_iadd F dL_law_855 (by omega) (fun z27 hz27 => ?_)
  refine va_sld F.1 F.2.1 hX0 hbl hbA h.dd.2.2 (tw_in (by omega) (by omega)) dL_law_856 ?_
  refine lv_topi (fun z28 qz28 => ?_)
  obtain rfl : z3 = z28 := by rw [qz3, qz28, show z2 = z27 from Int32.toInt_inj.mp (by omega)]
  refine lv_aload_n F.1 F.2.1 dL_law_857 rfl (lv_at hl 3 rfl) ?_
  refine lv_iload_n F.1 F.2.1 dL_law_858 rfl (lv_at hl 0 rfl) ?_
  refine tw_iconst F dL_law_859 ki_2 (fun z29 hz29 => ?_)
  refine tu_iadd F dL_law_860 (by omega) (fun z30 hz30 => ?_)
  refine va_sld F.1 F.2.1 hX0 hbl hbA h.dd.2.2 (tw_in (by omega) (by omega)) dL_law_861 ?_
  refine lv_topi (fun z31 qz31 => ?_)
  obtain rfl : z6 = z31 := by rw [qz6, qz31, show z5 = z30 from Int32.toInt_inj.mp (by omega)]
  refine lv_i2l F.1 F.2.1 dL_law_862 rfl ?_
  refine lv_topl (fun z32 qz32 => ?_)
  obtain rfl : z7 = z32 := by rw [qz7, qz32]
  refine tw_bipush F dL_law_863 kb_32 (fun z33 hz33 => ?_)
  obtain rfl : z8 = z33 := Int32.toInt_inj.mp (by omega)
  refine lv_lshl F.1 F.2.1 dL_law_865 rfl ?_
  refine lv_topl (fun z34 qz34 => ?_)
  obtain rfl : z9 = z34 := by rw [qz9, qz34]
  refine lv_aload_n F.1 F.2.1 dL_law_866 rfl (lv_at hl 3 rfl) ?_
  refine lv_iload_n F.1 F.2.1 dL_law_867 rfl (lv_at hl 0 rfl) ?_
  refine tw_iconst F dL_law_868 ki_3 (fun z35 hz35 => ?_)
  refine tu_iadd F dL_law_869 (by omega) (fun z36 hz36 => ?_)
  refine va_sld F.1 F.2.1 hX0 hbl hbA h.dd.2.2 (tw_in (by omega) (by omega)) dL_law_870 ?_
  refine lv_topi (fun z37 qz37 => ?_)
  obtain rfl : z12 = z37 := by rw [qz12, qz37, show z11 = z36 from Int32.toInt_inj.mp (by omega)]
  refine lv_i2l F.1 F.2.1 dL_law_871 rfl ?_
  refine lv_topl (fun z38 qz38 => ?_)
  obtain rfl : z13 = z38 := by rw [qz13, qz38]
  refine lv_ldc2 F.1 F.2.1 F.2.2.2.1 (F.2.2.2.2 _ mw_6) dL_law_872 ?_
  refine lv_topl (fun z39 qz39 => ?_)
  obtain rfl : z14 = z39 := by rw [qz14, qz39]
  refine lv_land F.1 F.2.1 dL_law_875 ?_
  refine lv_topl (fun z40 qz40 => ?_)
  obtain rfl : z15 = z40 := by rw [qz15, qz40]
  refine lv_lor F.1 F.2.1 dL_law_876 ?_
  refine lv_topl (fun z41 qz41 => ?_)
  obtain rfl : z16 = z41 := by rw [qz16, qz41]
  refine tw_Vl (As := [.int z3, .long z16]) F hZ h yk_X12_turned mw_927 mw_928 mw_929 (s_X12_turned l D cy L R O f17 rr m_rr r_rr z3 z16) rfl rfl m_rr r_rr (fun e q => (T_12 e).mp q) rfl hl.1 rfl (Nat.le_of_ble_eq_true rfl) ⟨Nat.le_of_ble_eq_true rfl, Nat.le_of_ble_eq_true rfl⟩ ⟨hcs, hsl⟩ dL_law_877 (fun v43 f42 H locs hp42 h => ?_)
  have hf42 := hp42
  have em44 : fi f42 q 11 = fi f17 q 11 := hf42.efi m_q r_q (by decide +kernel)
  have em45 : fi f42 rr 64 = fi f17 rr 64 := hf42.efi m_rr r_rr (by decide +kernel)
  have ek46 := BKc hBM hf42 m_q r_q (by decide +kernel) (by decide +kernel) (by decide +kernel) (by decide +kernel)
  have ek46b := ek46.1
  have ek46x := ek46.2 0 (by omega)
  have ek46y := ek46.2 1 (by omega)
  have ek46z := ek46.2 2 (by omega)
  have ej47 := hf42.eelj m_GA r_GA (by decide +kernel) 5159
  have ej48 := hf42.eelj m_GA r_GA (by decide +kernel) 10349
  have ej49 := hf42.eelj m_GA r_GA (by decide +kernel) 15539
  have ej50 := hf42.eelj m_GA r_GA (by decide +kernel) 20729
  have hPBn : PB P f42 q := hPBn.fr hBM hf42 m_q r_q (by decide +kernel) (by decide +kernel) (by decide +kernel)
  have hBM := BM_of h m_q r_q
  have hI : INV L R O P f42 q := hI.most m_q r_q hf42 (by decide +kernel) (by decide +kernel) (by decide +kernel) (by decide +kernel) (by decide +kernel)
  have t_GA : fld f42 rr 0 = .ref GA := (hf42.efl m_rr r_rr (by decide +kernel)).trans t_GA
  have t_GP : fld f42 rr 22 = .ref GP := (hf42.efl m_rr r_rr (by decide +kernel)).trans t_GP
  have t_GL : fld f42 rr 23 = .ref GL := (hf42.efl m_rr r_rr (by decide +kernel)).trans t_GL
  have t_GT : fld f42 rr 6 = .ref GT := (hf42.efl m_rr r_rr (by decide +kernel)).trans t_GT
  have hR : RBA GA f42 := hR.fm hf42 m_GA r_GA (by decide +kernel)
  have hX : GZ GP GL f42 := hX.fm hf42 m_GP r_GP m_GL r_GL (by decide +kernel) (by decide +kernel)
  have hP : fld f42 (rfa f42 q 6) 16 = V := by rw [hf42.erf m_q r_q (by decide +kernel), hf42.efl hs6m hs6r (by decide +kernel)]; exact hP
  have hs6m : rfa f42 q 6 ∈ L := by rw [hf42.erf m_q r_q (by decide +kernel)]; exact hs6m
  have hs6r : R (rfa f42 q 6) = 7 := by rw [hf42.erf m_q r_q (by decide +kernel)]; exact hs6r
  refine lv_pop2_2 F.1 F.2.1 dL_law_880 rfl ?_
  refine lv_goto (tgt := 1755) F.1 F.2.1 dL_law_881 (by decide) ?_
  exact kk f42 _ _ _ ⟨h, hI, ⟨t_GA, t_GP, t_GL, t_GT⟩, hR, hX, hP, by omega, by omega, by omega, by omega, by omega, hPBn⟩ hl
theorem dL_law_884 : decode cL_law 884 = .ok (.aload_n 1, 1) := by decide +kernel
theorem dL_law_885 : decode cL_law 885 = .ok (.aload_n 0, 1) := by decide +kernel
theorem dL_law_886 : decode cL_law 886 = .ok (.iload_n 3, 1) := by decide +kernel
theorem dL_law_887 : decode cL_law 887 = .ok (.iconst 1, 1) := by decide +kernel
theorem dL_law_888 : decode cL_law 888 = .ok (.iadd, 1) := by decide +kernel
theorem dL_law_889 : decode cL_law 889 = .ok (.iaload, 1) := by decide +kernel
theorem dL_law_890 : decode cL_law 890 = .ok (.invokevirtual 98, 3) := by decide +kernel
theorem mw_941 : Cond.methodLink RL 98 yX11_begin ∈ wsL_law := inr_40 _ (List.mem_of_getElem? (i := 5) rfl)
theorem mw_944 : Cond.code yX11_begin cX11_begin 2 (some .boolean) ∈ wsL_law := inr_40 _ (List.mem_of_getElem? (i := 8) rfl)
theorem yk_X11_begin : xY yX11_begin RX11 cX11_begin 2 (some .boolean) 1 := ⟨⟨rfl, by decide +kernel, by decide +kernel, by decide +kernel⟩, mw_2, mw_944⟩
theorem mw_942 : Cond.instanceMethod yX11_begin ∈ wsL_law := inr_40 _ (List.mem_of_getElem? (i := 6) rfl)
theorem mw_943 : Cond.selects RX11 yX11_begin yX11_begin ∈ wsL_law := inr_40 _ (List.mem_of_getElem? (i := 7) rfl)
theorem dL_law_893 : decode cL_law 893 = .ok (.pop, 1) := by decide +kernel
theorem dL_law_894 : decode cL_law 894 = .ok (.aload_n 2, 1) := by decide +kernel
theorem dL_law_895 : decode cL_law 895 = .ok (.aload_n 0, 1) := by decide +kernel
theorem dL_law_896 : decode cL_law 896 = .ok (.iload_n 3, 1) := by decide +kernel
theorem dL_law_897 : decode cL_law 897 = .ok (.iconst 1, 1) := by decide +kernel
theorem dL_law_898 : decode cL_law 898 = .ok (.iadd, 1) := by decide +kernel
theorem dL_law_899 : decode cL_law 899 = .ok (.iaload, 1) := by decide +kernel
theorem dL_law_900 : decode cL_law 900 = .ok (.invokevirtual 102, 3) := by decide +kernel
theorem mw_945 : Cond.methodLink RL 102 yX12_begin ∈ wsL_law := inr_40 _ (List.mem_of_getElem? (i := 9) rfl)
theorem mw_948 : Cond.code yX12_begin cX12_begin 2 (some .boolean) ∈ wsL_law := inr_40 _ (List.mem_of_getElem? (i := 12) rfl)
theorem yk_X12_begin : xY yX12_begin RX12 cX12_begin 2 (some .boolean) 1 := ⟨⟨rfl, by decide +kernel, by decide +kernel, by decide +kernel⟩, mw_5, mw_948⟩
theorem mw_946 : Cond.instanceMethod yX12_begin ∈ wsL_law := inr_40 _ (List.mem_of_getElem? (i := 10) rfl)
theorem mw_947 : Cond.selects RX12 yX12_begin yX12_begin ∈ wsL_law := inr_40 _ (List.mem_of_getElem? (i := 11) rfl)
theorem dL_law_903 : decode cL_law 903 = .ok (.pop, 1) := by decide +kernel
theorem dL_law_904 : decode cL_law 904 = .ok (.goto 851, 3) := by decide +kernel
set_option maxHeartbeats 4000000 in
set_option maxRecDepth 100000 in
theorem law_c18 {p : Program} {l : Launch} {e : Env} {s : State} {m : MethodId} {below : List Frame} {meth : Method} {c : Code} {H : Heap} {locs : List Loc} {Q : State → Prop} {D : va_G} {cy : Nat → ClassId} {A : Nat → Prop} {L : List Nat} {R O P : Nat → Nat} {f0 : Nat → va_E} {ls : Array Slot} {b N cs sl q rr GA GP GL GT : Nat} {xs : Nat → Int32} {V : Value} (F : CallFix p m c cL_law 4 s #[Value.ref b] wsL_law RL) (hZ : tZ A s s.heap) (hX0 : va_X b N xs s s.heap) (hbl : b < s.heap.size) (hbA : ¬ A b) (hcs : cs ≤ room_1.cells) (hsl : sl ≤ room_1.slots) (i : Int32) (bi : 0 ≤ i.toInt ∧ i.toInt + 6 ≤ N ∧ N ≤ 3072) (m_q : q ∈ L) (r_q : R q = 11) (m_rr : rr ∈ L) (r_rr : R rr = 12) (m_GA : GA ∈ L) (r_GA : R GA = 61) (m_GP : GP ∈ L) (r_GP : R GP = 69) (m_GL : GL ∈ L) (r_GL : R GL = 70) (m_GT : GT ∈ L) (r_GT : R GT = 64) (hLS : LWS D cy A s L R O P q rr GA GP GL GT V f0 H locs) (hl : lv_has ls 4 [(3, .int i), (2, .ref rr), (1, .ref q), (0, .ref b)]) (kk : ∀ (f1 : Nat → va_E) (H : Heap) (locs : List Loc) (ls : Array Slot), LWS D cy A s L R O P q rr GA GP GL GT V f1 H locs → lv_has ls 4 [(3, .int i), (2, .ref rr), (1, .ref q), (0, .ref b)] → W p l e room_1 s m #[Value.ref b] below meth c H locs cs sl Q (F0 m 1755 ls [])) : W p l e room_1 s m #[Value.ref b] below meth c H locs cs sl Q (F0 m 884 ls []) := by
  obtain ⟨h, hI, ⟨t_GA, t_GP, t_GL, t_GT⟩, hR, hX, hP, hMK, hCB, hC0, hC1, hC2, hPB⟩ := hLS
  have hs6m := hI.2.2.1.1
  have hs6r := hI.2.2.1.2
  have hBM := BM_of h m_q r_q
  have hPBn := hPB
  refine lv_aload_n F.1 F.2.1 dL_law_884 rfl (lv_at hl 2 rfl) ?_
  refine lv_aload_n F.1 F.2.1 dL_law_885 rfl (lv_at hl 3 rfl) ?_
  refine lv_iload_n F.1 F.2.1 dL_law_886 rfl (lv_at hl 0 rfl) ?_
  refine tw_iconst F dL_law_887 ki_1 (fun z1 hz1 => ?_)
  refine tu_iadd F dL_law_888 (by omega) (fun z2 hz2 => ?_)
  refine va_sld F.1 F.2.1 hX0 hbl hbA h.dd.2.2 (tw_in (by omega) (by omega)) dL_law_889 ?_
  refine lv_topi (fun z3 qz3 => ?_)
  refine tw_Vi (As := [.int z3]) F hZ h yk_X11_begin mw_941 mw_942 mw_943 (s_X11_beginI l D cy L R O f0 q m_q r_q z3 P hI.2.2.2.2.1 hI.2.2.2.1.1) rfl rfl m_q r_q (fun e q => (T_11 e).mp q) rfl hl.1 rfl (Nat.le_of_ble_eq_true rfl) ⟨Nat.le_of_ble_eq_true rfl, Nat.le_of_ble_eq_true rfl⟩ ⟨hcs, hsl⟩ dL_law_890 (fun v5 f4 H locs hp4 h => ?_)
  obtain ⟨hf4, hv5a, hv5b, hv5p0⟩ := hp4
  have em6 : fi f4 q 11 = fi f0 q 11 := hf4.efi m_q r_q (by decide +kernel)
  have em7 : fi f4 rr 64 = fi f0 rr 64 := hf4.efi m_rr r_rr (by decide +kernel)
  have ek8 := BKc hBM hf4 m_q r_q (by decide +kernel) (by decide +kernel) (by decide +kernel) (by decide +kernel)
  have ek8b := ek8.1
  have ek8x := ek8.2 0 (by omega)
  have ek8y := ek8.2 1 (by omega)
  have ek8z := ek8.2 2 (by omega)
  have ej9 := hf4.eelj m_GA r_GA (by decide +kernel) 5159
  have ej10 := hf4.eelj m_GA r_GA (by decide +kernel) 10349
  have ej11 := hf4.eelj m_GA r_GA (by decide +kernel) 15539
  have ej12 := hf4.eelj m_GA r_GA (by decide +kernel) 20729
  have hPBn : PB P f4 q := hPBn.fr hBM hf4 m_q r_q (by decide +kernel) (by decide +kernel) (by decide +kernel)
  have hBM := BM_of h m_q r_q
  have hI : INV L R O P f4 q := hI.mk1 m_q r_q hf4 (by decide +kernel) (hI.2.2.2.1.fr hf4 (by decide +kernel) (by decide +kernel)) hv5p0
  have t_GA : fld f4 rr 0 = .ref GA := (hf4.efl m_rr r_rr (by decide +kernel)).trans t_GA
  have t_GP : fld f4 rr 22 = .ref GP := (hf4.efl m_rr r_rr (by decide +kernel)).trans t_GP
  have t_GL : fld f4 rr 23 = .ref GL := (hf4.efl m_rr r_rr (by decide +kernel)).trans t_GL
  have t_GT : fld f4 rr 6 = .ref GT := (hf4.efl m_rr r_rr (by decide +kernel)).trans t_GT
  have hR : RBA GA f4 := hR.fm hf4 m_GA r_GA (by decide +kernel)
  have hX : GZ GP GL f4 := hX.fm hf4 m_GP r_GP m_GL r_GL (by decide +kernel) (by decide +kernel)
  have hP : fld f4 (rfa f4 q 6) 16 = V := by rw [hf4.erf m_q r_q (by decide +kernel), hf4.efl hs6m hs6r (by decide +kernel)]; exact hP
  have hs6m : rfa f4 q 6 ∈ L := by rw [hf4.erf m_q r_q (by decide +kernel)]; exact hs6m
  have hs6r : R (rfa f4 q 6) = 7 := by rw [hf4.erf m_q r_q (by decide +kernel)]; exact hs6r
  refine lv_pop F.1 F.2.1 dL_law_893 rfl ?_
  refine lv_aload_n F.1 F.2.1 dL_law_894 rfl (lv_at hl 1 rfl) ?_
  refine lv_aload_n F.1 F.2.1 dL_law_895 rfl (lv_at hl 3 rfl) ?_
  refine lv_iload_n F.1 F.2.1 dL_law_896 rfl (lv_at hl 0 rfl) ?_
  refine tw_iconst F dL_law_897 ki_1 (fun z13 hz13 => ?_)
  refine tu_iadd F dL_law_898 (by omega) (fun z14 hz14 => ?_)
  refine va_sld F.1 F.2.1 hX0 hbl hbA h.dd.2.2 (tw_in (by omega) (by omega)) dL_law_899 ?_
  refine lv_topi (fun z15 qz15 => ?_)
  obtain rfl : z3 = z15 := by rw [qz3, qz15, show z2 = z14 from Int32.toInt_inj.mp (by omega)]
  refine tw_Vi (As := [.int z3]) F hZ h yk_X12_begin mw_945 mw_946 mw_947 (s_X12_beginC l D cy L R O f4 rr m_rr r_rr z3 GA m_GA r_GA t_GA GP m_GP r_GP t_GP GL m_GL r_GL t_GL GT m_GT r_GT t_GT hR hX) rfl rfl m_rr r_rr (fun e q => (T_12 e).mp q) rfl hl.1 rfl (Nat.le_of_ble_eq_true rfl) ⟨Nat.le_of_ble_eq_true rfl, Nat.le_of_ble_eq_true rfl⟩ ⟨hcs, hsl⟩ dL_law_900 (fun v17 f16 H locs hp16 h => ?_)
  obtain ⟨hf16, hv17a, hv17b, hv17p0, hv17p1, hv17p2, hv17p3, hv17p4, hv17p5⟩ := hp16
  have em18 : fi f16 q 11 = fi f4 q 11 := hf16.efi m_q r_q (by decide +kernel)
  have em19 : fi f16 rr 64 = fi f4 rr 64 := hf16.efi m_rr r_rr (by decide +kernel)
  have ek20 := BKc hBM hf16 m_q r_q (by decide +kernel) (by decide +kernel) (by decide +kernel) (by decide +kernel)
  have ek20b := ek20.1
  have ek20x := ek20.2 0 (by omega)
  have ek20y := ek20.2 1 (by omega)
  have ek20z := ek20.2 2 (by omega)
  have hPBn : PB P f16 q := hPBn.fr hBM hf16 m_q r_q (by decide +kernel) (by decide +kernel) (by decide +kernel)
  have hBM := BM_of h m_q r_q
  have hI : INV L R O P f16 q := hI.most m_q r_q hf16 (by decide +kernel) (by decide +kernel) (by decide +kernel) (by decide +kernel) (by decide +kernel)
  have t_GA : fld f16 rr 0 = .ref GA := (hf16.efl m_rr r_rr (by decide +kernel)).trans t_GA
  have t_GP : fld f16 rr 22 = .ref GP := (hf16.efl m_rr r_rr (by decide +kernel)).trans t_GP
  have t_GL : fld f16 rr 23 = .ref GL := (hf16.efl m_rr r_rr (by decide +kernel)).trans t_GL
  have t_GT : fld f16 rr 6 = .ref GT := (hf16.efl m_rr r_rr (by decide +kernel)).trans t_GT
  have hR : RBA GA f16 := hv17p0
  have hX : GZ GP GL f16 := hX.fm hf16 m_GP r_GP m_GL r_GL (by decide +kernel) (by decide +kernel)
  have hP : fld f16 (rfa f16 q 6) 16 = V := by rw [hf16.erf m_q r_q (by decide +kernel), hf16.efl hs6m hs6r (by decide +kernel)]; exact hP
  have hs6m : rfa f16 q 6 ∈ L := by rw [hf16.erf m_q r_q (by decide +kernel)]; exact hs6m
  have hs6r : R (rfa f16 q 6) = 7 := by rw [hf16.erf m_q r_q (by decide +kernel)]; exact hs6r
  refine lv_pop F.1 F.2.1 dL_law_903 rfl ?_
  refine lv_goto (tgt := 1755) F.1 F.2.1 dL_law_904 (by decide) ?_
  exact kk f16 _ _ _ ⟨h, hI, ⟨t_GA, t_GP, t_GL, t_GT⟩, hR, hX, hP, by omega, by omega, by omega, by omega, by omega, hPBn⟩ hl
theorem dL_law_907 : decode cL_law 907 = .ok (.aload_n 1, 1) := by decide +kernel
theorem dL_law_908 : decode cL_law 908 = .ok (.aload_n 0, 1) := by decide +kernel
theorem dL_law_909 : decode cL_law 909 = .ok (.iload_n 3, 1) := by decide +kernel
theorem dL_law_910 : decode cL_law 910 = .ok (.iconst 1, 1) := by decide +kernel
theorem dL_law_911 : decode cL_law 911 = .ok (.iadd, 1) := by decide +kernel
theorem dL_law_912 : decode cL_law 912 = .ok (.iaload, 1) := by decide +kernel
theorem dL_law_913 : decode cL_law 913 = .ok (.aload_n 0, 1) := by decide +kernel
theorem dL_law_914 : decode cL_law 914 = .ok (.iload_n 3, 1) := by decide +kernel
theorem dL_law_915 : decode cL_law 915 = .ok (.iconst 2, 1) := by decide +kernel
theorem dL_law_916 : decode cL_law 916 = .ok (.iadd, 1) := by decide +kernel
theorem dL_law_917 : decode cL_law 917 = .ok (.iaload, 1) := by decide +kernel
theorem dL_law_918 : decode cL_law 918 = .ok (.invokevirtual 103, 3) := by decide +kernel
theorem mw_949 : Cond.methodLink RL 103 yX11_say ∈ wsL_law := inr_40 _ (List.mem_of_getElem? (i := 13) rfl)
theorem mw_952 : Cond.code yX11_say cX11_say 4 (some .int) ∈ wsL_law := inr_40 _ (List.mem_of_getElem? (i := 16) rfl)
theorem yk_X11_say : xY yX11_say RX11 cX11_say 4 (some .int) 2 := ⟨⟨rfl, by decide +kernel, by decide +kernel, by decide +kernel⟩, mw_2, mw_952⟩
theorem mw_950 : Cond.instanceMethod yX11_say ∈ wsL_law := inr_40 _ (List.mem_of_getElem? (i := 14) rfl)
theorem mw_951 : Cond.selects RX11 yX11_say yX11_say ∈ wsL_law := inr_40 _ (List.mem_of_getElem? (i := 15) rfl)
theorem dL_law_921 : decode cL_law 921 = .ok (.pop, 1) := by decide +kernel
theorem dL_law_922 : decode cL_law 922 = .ok (.aload_n 2, 1) := by decide +kernel
theorem dL_law_923 : decode cL_law 923 = .ok (.aload_n 0, 1) := by decide +kernel
theorem dL_law_924 : decode cL_law 924 = .ok (.iload_n 3, 1) := by decide +kernel
theorem dL_law_925 : decode cL_law 925 = .ok (.iconst 1, 1) := by decide +kernel
theorem dL_law_926 : decode cL_law 926 = .ok (.iadd, 1) := by decide +kernel
theorem dL_law_927 : decode cL_law 927 = .ok (.iaload, 1) := by decide +kernel
theorem dL_law_928 : decode cL_law 928 = .ok (.aload_n 0, 1) := by decide +kernel
theorem dL_law_929 : decode cL_law 929 = .ok (.iload_n 3, 1) := by decide +kernel
theorem dL_law_930 : decode cL_law 930 = .ok (.iconst 2, 1) := by decide +kernel
theorem dL_law_931 : decode cL_law 931 = .ok (.iadd, 1) := by decide +kernel
theorem dL_law_932 : decode cL_law 932 = .ok (.iaload, 1) := by decide +kernel
theorem dL_law_933 : decode cL_law 933 = .ok (.invokevirtual 106, 3) := by decide +kernel
theorem mw_1042 : Cond.methodLink RL 106 yX12_say ∈ wsL_law := inr_44 _ (List.mem_of_getElem? (i := 10) rfl)
theorem mw_1045 : Cond.code yX12_say cX12_say 4 (some .int) ∈ wsL_law := inr_44 _ (List.mem_of_getElem? (i := 13) rfl)
theorem yk_X12_say : xY yX12_say RX12 cX12_say 4 (some .int) 2 := ⟨⟨rfl, by decide +kernel, by decide +kernel, by decide +kernel⟩, mw_5, mw_1045⟩
theorem mw_1043 : Cond.instanceMethod yX12_say ∈ wsL_law := inr_44 _ (List.mem_of_getElem? (i := 11) rfl)
theorem mw_1044 : Cond.selects RX12 yX12_say yX12_say ∈ wsL_law := inr_44 _ (List.mem_of_getElem? (i := 12) rfl)
theorem dL_law_936 : decode cL_law 936 = .ok (.pop, 1) := by decide +kernel
theorem dL_law_937 : decode cL_law 937 = .ok (.goto 818, 3) := by decide +kernel
set_option maxHeartbeats 4000000 in
set_option maxRecDepth 100000 in
theorem law_c19 {p : Program} {l : Launch} {e : Env} {s : State} {m : MethodId} {below : List Frame} {meth : Method} {c : Code} {H : Heap} {locs : List Loc} {Q : State → Prop} {D : va_G} {cy : Nat → ClassId} {A : Nat → Prop} {L : List Nat} {R O P : Nat → Nat} {f0 : Nat → va_E} {ls : Array Slot} {b N cs sl q rr GA GP GL GT : Nat} {xs : Nat → Int32} {V : Value} (F : CallFix p m c cL_law 4 s #[Value.ref b] wsL_law RL) (hZ : tZ A s s.heap) (hX0 : va_X b N xs s s.heap) (hbl : b < s.heap.size) (hbA : ¬ A b) (hcs : cs ≤ room_1.cells) (hsl : sl ≤ room_1.slots) (i : Int32) (bi : 0 ≤ i.toInt ∧ i.toInt + 6 ≤ N ∧ N ≤ 3072) (m_q : q ∈ L) (r_q : R q = 11) (m_rr : rr ∈ L) (r_rr : R rr = 12) (m_GA : GA ∈ L) (r_GA : R GA = 61) (m_GP : GP ∈ L) (r_GP : R GP = 69) (m_GL : GL ∈ L) (r_GL : R GL = 70) (m_GT : GT ∈ L) (r_GT : R GT = 64) (hLS : LWS D cy A s L R O P q rr GA GP GL GT V f0 H locs) (hl : lv_has ls 4 [(3, .int i), (2, .ref rr), (1, .ref q), (0, .ref b)]) (kk : ∀ (f1 : Nat → va_E) (H : Heap) (locs : List Loc) (ls : Array Slot), LWS D cy A s L R O P q rr GA GP GL GT V f1 H locs → lv_has ls 4 [(3, .int i), (2, .ref rr), (1, .ref q), (0, .ref b)] → W p l e room_1 s m #[Value.ref b] below meth c H locs cs sl Q (F0 m 1755 ls [])) : W p l e room_1 s m #[Value.ref b] below meth c H locs cs sl Q (F0 m 907 ls []) := by
  obtain ⟨h, hI, ⟨t_GA, t_GP, t_GL, t_GT⟩, hR, hX, hP, hMK, hCB, hC0, hC1, hC2, hPB⟩ := hLS
  have hs6m := hI.2.2.1.1
  have hs6r := hI.2.2.1.2
  have hBM := BM_of h m_q r_q
  have hPBn := hPB
  refine lv_aload_n F.1 F.2.1 dL_law_907 rfl (lv_at hl 2 rfl) ?_
  refine lv_aload_n F.1 F.2.1 dL_law_908 rfl (lv_at hl 3 rfl) ?_
  refine lv_iload_n F.1 F.2.1 dL_law_909 rfl (lv_at hl 0 rfl) ?_
  refine tw_iconst F dL_law_910 ki_1 (fun z1 hz1 => ?_)
  refine tu_iadd F dL_law_911 (by omega) (fun z2 hz2 => ?_)
  refine va_sld F.1 F.2.1 hX0 hbl hbA h.dd.2.2 (tw_in (by omega) (by omega)) dL_law_912 ?_
  refine lv_topi (fun z3 qz3 => ?_)
  refine lv_aload_n F.1 F.2.1 dL_law_913 rfl (lv_at hl 3 rfl) ?_
  refine lv_iload_n F.1 F.2.1 dL_law_914 rfl (lv_at hl 0 rfl) ?_
  refine tw_iconst F dL_law_915 ki_2 (fun z4 hz4 => ?_)
  refine tu_iadd F dL_law_916 (by omega) (fun z5 hz5 => ?_)
  refine va_sld F.1 F.2.1 hX0 hbl hbA h.dd.2.2 (tw_in (by omega) (by omega)) dL_law_917 ?_
  refine lv_topi (fun z6 qz6 => ?_)
  refine tw_Vi (As := [.int z3, .int z6]) F hZ h yk_X11_say mw_949 mw_950 mw_951 (s_X11_say l D cy L R O f0 hI.2.2.2.1 q m_q r_q z3 z6 hI.pi) rfl rfl m_q r_q (fun e q => (T_11 e).mp q) rfl hl.1 rfl (Nat.le_of_ble_eq_true rfl) ⟨Nat.le_of_ble_eq_true rfl, Nat.le_of_ble_eq_true rfl⟩ ⟨hcs, hsl⟩ dL_law_918 (fun v8 f7 H locs hp7 h => ?_)
  obtain ⟨hf7, hv8p0⟩ := hp7
  have em9 : fi f7 q 11 = fi f0 q 11 := hf7.efi m_q r_q (by decide +kernel)
  have em10 : fi f7 rr 64 = fi f0 rr 64 := hf7.efi m_rr r_rr (by decide +kernel)
  have ek11 := BKc hBM hf7 m_q r_q (by decide +kernel) (by decide +kernel) (by decide +kernel) (by decide +kernel)
  have ek11b := ek11.1
  have ek11x := ek11.2 0 (by omega)
  have ek11y := ek11.2 1 (by omega)
  have ek11z := ek11.2 2 (by omega)
  have ej12 := hf7.eelj m_GA r_GA (by decide +kernel) 5159
  have ej13 := hf7.eelj m_GA r_GA (by decide +kernel) 10349
  have ej14 := hf7.eelj m_GA r_GA (by decide +kernel) 15539
  have ej15 := hf7.eelj m_GA r_GA (by decide +kernel) 20729
  have hPBn : PB P f7 q := hPBn.fr hBM hf7 m_q r_q (by decide +kernel) (by decide +kernel) (by decide +kernel)
  have hBM := BM_of h m_q r_q
  have hI : INV L R O P f7 q := hI.say m_q r_q hf7 (by decide +kernel) (by decide +kernel) (by decide +kernel) (by decide +kernel) rfl hv8p0
  have t_GA : fld f7 rr 0 = .ref GA := (hf7.efl m_rr r_rr (by decide +kernel)).trans t_GA
  have t_GP : fld f7 rr 22 = .ref GP := (hf7.efl m_rr r_rr (by decide +kernel)).trans t_GP
  have t_GL : fld f7 rr 23 = .ref GL := (hf7.efl m_rr r_rr (by decide +kernel)).trans t_GL
  have t_GT : fld f7 rr 6 = .ref GT := (hf7.efl m_rr r_rr (by decide +kernel)).trans t_GT
  have hR : RBA GA f7 := hR.fm hf7 m_GA r_GA (by decide +kernel)
  have hX : GZ GP GL f7 := hX.fm hf7 m_GP r_GP m_GL r_GL (by decide +kernel) (by decide +kernel)
  have hP : fld f7 (rfa f7 q 6) 16 = V := by rw [hf7.erf m_q r_q (by decide +kernel), hf7.efl hs6m hs6r (by decide +kernel)]; exact hP
  have hs6m : rfa f7 q 6 ∈ L := by rw [hf7.erf m_q r_q (by decide +kernel)]; exact hs6m
  have hs6r : R (rfa f7 q 6) = 7 := by rw [hf7.erf m_q r_q (by decide +kernel)]; exact hs6r
  refine lv_pop F.1 F.2.1 dL_law_921 rfl ?_
  refine lv_aload_n F.1 F.2.1 dL_law_922 rfl (lv_at hl 1 rfl) ?_
  refine lv_aload_n F.1 F.2.1 dL_law_923 rfl (lv_at hl 3 rfl) ?_
  refine lv_iload_n F.1 F.2.1 dL_law_924 rfl (lv_at hl 0 rfl) ?_
  refine tw_iconst F dL_law_925 ki_1 (fun z16 hz16 => ?_)
  refine tu_iadd F dL_law_926 (by omega) (fun z17 hz17 => ?_)
  refine va_sld F.1 F.2.1 hX0 hbl hbA h.dd.2.2 (tw_in (by omega) (by omega)) dL_law_927 ?_
  refine lv_topi (fun z18 qz18 => ?_)
  obtain rfl : z3 = z18 := by rw [qz3, qz18, show z2 = z17 from Int32.toInt_inj.mp (by omega)]
  refine lv_aload_n F.1 F.2.1 dL_law_928 rfl (lv_at hl 3 rfl) ?_
  refine lv_iload_n F.1 F.2.1 dL_law_929 rfl (lv_at hl 0 rfl) ?_
  refine tw_iconst F dL_law_930 ki_2 (fun z19 hz19 => ?_)
  refine tu_iadd F dL_law_931 (by omega) (fun z20 hz20 => ?_)
  refine va_sld F.1 F.2.1 hX0 hbl hbA h.dd.2.2 (tw_in (by omega) (by omega)) dL_law_932 ?_
  refine lv_topi (fun z21 qz21 => ?_)
  obtain rfl : z6 = z21 := by rw [qz6, qz21, show z5 = z20 from Int32.toInt_inj.mp (by omega)]
  refine tw_Vi (As := [.int z3, .int z6]) F hZ h yk_X12_say mw_1042 mw_1043 mw_1044 (s_X12_sayC l D cy L R O f7 rr m_rr r_rr z3 z6 GA m_GA r_GA t_GA GP m_GP r_GP t_GP GL m_GL r_GL t_GL GT m_GT r_GT t_GT hR hX) rfl rfl m_rr r_rr (fun e q => (T_12 e).mp q) rfl hl.1 rfl (Nat.le_of_ble_eq_true rfl) ⟨Nat.le_of_ble_eq_true rfl, Nat.le_of_ble_eq_true rfl⟩ ⟨hcs, hsl⟩ dL_law_933 (fun v23 f22 H locs hp22 h => ?_)
  obtain ⟨hf22, hv23p0, hv23p1, hv23p2, hv23p3, hv23p4, hv23p5⟩ := hp22
  have em24 : fi f22 q 11 = fi f7 q 11 := hf22.efi m_q r_q (by decide +kernel)
  have em25 : fi f22 rr 64 = fi f7 rr 64 := hf22.efi m_rr r_rr (by decide +kernel)
  have ek26 := BKc hBM hf22 m_q r_q (by decide +kernel) (by decide +kernel) (by decide +kernel) (by decide +kernel)
  have ek26b := ek26.1
  have ek26x := ek26.2 0 (by omega)
  have ek26y := ek26.2 1 (by omega)
  have ek26z := ek26.2 2 (by omega)
  have hPBn : PB P f22 q := hPBn.fr hBM hf22 m_q r_q (by decide +kernel) (by decide +kernel) (by decide +kernel)
  have hBM := BM_of h m_q r_q
  have hI : INV L R O P f22 q := hI.most m_q r_q hf22 (by decide +kernel) (by decide +kernel) (by decide +kernel) (by decide +kernel) (by decide +kernel)
  have t_GA : fld f22 rr 0 = .ref GA := (hf22.efl m_rr r_rr (by decide +kernel)).trans t_GA
  have t_GP : fld f22 rr 22 = .ref GP := (hf22.efl m_rr r_rr (by decide +kernel)).trans t_GP
  have t_GL : fld f22 rr 23 = .ref GL := (hf22.efl m_rr r_rr (by decide +kernel)).trans t_GL
  have t_GT : fld f22 rr 6 = .ref GT := (hf22.efl m_rr r_rr (by decide +kernel)).trans t_GT
  have hR : RBA GA f22 := hv23p0
  have hX : GZ GP GL f22 := hv23p1
  have hP : fld f22 (rfa f22 q 6) 16 = V := by rw [hf22.erf m_q r_q (by decide +kernel), hf22.efl hs6m hs6r (by decide +kernel)]; exact hP
  have hs6m : rfa f22 q 6 ∈ L := by rw [hf22.erf m_q r_q (by decide +kernel)]; exact hs6m
  have hs6r : R (rfa f22 q 6) = 7 := by rw [hf22.erf m_q r_q (by decide +kernel)]; exact hs6r
  refine lv_pop F.1 F.2.1 dL_law_936 rfl ?_
  refine lv_goto (tgt := 1755) F.1 F.2.1 dL_law_937 (by decide) ?_
  exact kk f22 _ _ _ ⟨h, hI, ⟨t_GA, t_GP, t_GL, t_GT⟩, hR, hX, hP, by omega, by omega, by omega, by omega, by omega, hPBn⟩ hl
theorem dL_law_940 : decode cL_law 940 = .ok (.aload_n 1, 1) := by decide +kernel
theorem dL_law_941 : decode cL_law 941 = .ok (.aload_n 0, 1) := by decide +kernel
theorem dL_law_942 : decode cL_law 942 = .ok (.iload_n 3, 1) := by decide +kernel
theorem dL_law_943 : decode cL_law 943 = .ok (.iconst 1, 1) := by decide +kernel
theorem dL_law_944 : decode cL_law 944 = .ok (.iadd, 1) := by decide +kernel
theorem dL_law_945 : decode cL_law 945 = .ok (.iaload, 1) := by decide +kernel
theorem dL_law_946 : decode cL_law 946 = .ok (.invokevirtual 107, 3) := by decide +kernel
theorem mw_1111 : Cond.methodLink RL 107 yX11_said ∈ wsL_law := inr_47 _ (List.mem_of_getElem? (i := 7) rfl)
theorem mw_1114 : Cond.code yX11_said cX11_said 2 (some .long) ∈ wsL_law := inr_47 _ (List.mem_of_getElem? (i := 10) rfl)
theorem yk_X11_said : xY yX11_said RX11 cX11_said 2 (some .long) 1 := ⟨⟨rfl, by decide +kernel, by decide +kernel, by decide +kernel⟩, mw_2, mw_1114⟩
theorem mw_1112 : Cond.instanceMethod yX11_said ∈ wsL_law := inr_47 _ (List.mem_of_getElem? (i := 8) rfl)
theorem mw_1113 : Cond.selects RX11 yX11_said yX11_said ∈ wsL_law := inr_47 _ (List.mem_of_getElem? (i := 9) rfl)
theorem dL_law_949 : decode cL_law 949 = .ok (.pop2, 1) := by decide +kernel
theorem dL_law_950 : decode cL_law 950 = .ok (.aload_n 2, 1) := by decide +kernel
theorem dL_law_951 : decode cL_law 951 = .ok (.aload_n 0, 1) := by decide +kernel
theorem dL_law_952 : decode cL_law 952 = .ok (.iload_n 3, 1) := by decide +kernel
theorem dL_law_953 : decode cL_law 953 = .ok (.iconst 1, 1) := by decide +kernel
theorem dL_law_954 : decode cL_law 954 = .ok (.iadd, 1) := by decide +kernel
theorem dL_law_955 : decode cL_law 955 = .ok (.iaload, 1) := by decide +kernel
theorem dL_law_956 : decode cL_law 956 = .ok (.invokevirtual 111, 3) := by decide +kernel
theorem mw_1115 : Cond.methodLink RL 111 yX12_said ∈ wsL_law := inr_47 _ (List.mem_of_getElem? (i := 11) rfl)
theorem mw_1118 : Cond.code yX12_said cX12_said 2 (some .long) ∈ wsL_law := inr_47 _ (List.mem_of_getElem? (i := 14) rfl)
theorem yk_X12_said : xY yX12_said RX12 cX12_said 2 (some .long) 1 := ⟨⟨rfl, by decide +kernel, by decide +kernel, by decide +kernel⟩, mw_5, mw_1118⟩
theorem mw_1116 : Cond.instanceMethod yX12_said ∈ wsL_law := inr_47 _ (List.mem_of_getElem? (i := 12) rfl)
theorem mw_1117 : Cond.selects RX12 yX12_said yX12_said ∈ wsL_law := inr_47 _ (List.mem_of_getElem? (i := 13) rfl)
theorem dL_law_959 : decode cL_law 959 = .ok (.pop2, 1) := by decide +kernel
theorem dL_law_960 : decode cL_law 960 = .ok (.goto 795, 3) := by decide +kernel
set_option maxHeartbeats 4000000 in
set_option maxRecDepth 100000 in
theorem law_c20 {p : Program} {l : Launch} {e : Env} {s : State} {m : MethodId} {below : List Frame} {meth : Method} {c : Code} {H : Heap} {locs : List Loc} {Q : State → Prop} {D : va_G} {cy : Nat → ClassId} {A : Nat → Prop} {L : List Nat} {R O P : Nat → Nat} {f0 : Nat → va_E} {ls : Array Slot} {b N cs sl q rr GA GP GL GT : Nat} {xs : Nat → Int32} {V : Value} (F : CallFix p m c cL_law 4 s #[Value.ref b] wsL_law RL) (hZ : tZ A s s.heap) (hX0 : va_X b N xs s s.heap) (hbl : b < s.heap.size) (hbA : ¬ A b) (hcs : cs ≤ room_1.cells) (hsl : sl ≤ room_1.slots) (i : Int32) (bi : 0 ≤ i.toInt ∧ i.toInt + 6 ≤ N ∧ N ≤ 3072) (m_q : q ∈ L) (r_q : R q = 11) (m_rr : rr ∈ L) (r_rr : R rr = 12) (m_GA : GA ∈ L) (r_GA : R GA = 61) (m_GP : GP ∈ L) (r_GP : R GP = 69) (m_GL : GL ∈ L) (r_GL : R GL = 70) (m_GT : GT ∈ L) (r_GT : R GT = 64) (hLS : LWS D cy A s L R O P q rr GA GP GL GT V f0 H locs) (hl : lv_has ls 4 [(3, .int i), (2, .ref rr), (1, .ref q), (0, .ref b)]) (kk : ∀ (f1 : Nat → va_E) (H : Heap) (locs : List Loc) (ls : Array Slot), LWS D cy A s L R O P q rr GA GP GL GT V f1 H locs → lv_has ls 4 [(3, .int i), (2, .ref rr), (1, .ref q), (0, .ref b)] → W p l e room_1 s m #[Value.ref b] below meth c H locs cs sl Q (F0 m 1755 ls [])) : W p l e room_1 s m #[Value.ref b] below meth c H locs cs sl Q (F0 m 940 ls []) := by
  obtain ⟨h, hI, ⟨t_GA, t_GP, t_GL, t_GT⟩, hR, hX, hP, hMK, hCB, hC0, hC1, hC2, hPB⟩ := hLS
  have hs6m := hI.2.2.1.1
  have hs6r := hI.2.2.1.2
  have hBM := BM_of h m_q r_q
  have hPBn := hPB
  refine lv_aload_n F.1 F.2.1 dL_law_940 rfl (lv_at hl 2 rfl) ?_
  refine lv_aload_n F.1 F.2.1 dL_law_941 rfl (lv_at hl 3 rfl) ?_
  refine lv_iload_n F.1 F.2.1 dL_law_942 rfl (lv_at hl 0 rfl) ?_
  refine tw_iconst F dL_law_943 ki_1 (fun z1 hz1 => ?_)
  refine tu_iadd F dL_law_944 (by omega) (fun z2 hz2 => ?_)
  refine va_sld F.1 F.2.1 hX0 hbl hbA h.dd.2.2 (tw_in (by omega) (by omega)) dL_law_945 ?_
  refine lv_topi (fun z3 qz3 => ?_)
  refine tw_Vl (As := [.int z3]) F hZ h yk_X11_said mw_1111 mw_1112 mw_1113 (s_X11_said l D cy L R O f0 q m_q r_q z3) rfl rfl m_q r_q (fun e q => (T_11 e).mp q) rfl hl.1 rfl (Nat.le_of_ble_eq_true rfl) ⟨Nat.le_of_ble_eq_true rfl, Nat.le_of_ble_eq_true rfl⟩ ⟨hcs, hsl⟩ dL_law_946 (fun v5 f4 H locs hp4 h => ?_)
  have hf4 := hp4
  have em6 : fi f4 q 11 = fi f0 q 11 := hf4.efi m_q r_q (by decide +kernel)
  have em7 : fi f4 rr 64 = fi f0 rr 64 := hf4.efi m_rr r_rr (by decide +kernel)
  have ek8 := BKc hBM hf4 m_q r_q (by decide +kernel) (by decide +kernel) (by decide +kernel) (by decide +kernel)
  have ek8b := ek8.1
  have ek8x := ek8.2 0 (by omega)
  have ek8y := ek8.2 1 (by omega)
  have ek8z := ek8.2 2 (by omega)
  have ej9 := hf4.eelj m_GA r_GA (by decide +kernel) 5159
  have ej10 := hf4.eelj m_GA r_GA (by decide +kernel) 10349
  have ej11 := hf4.eelj m_GA r_GA (by decide +kernel) 15539
  have ej12 := hf4.eelj m_GA r_GA (by decide +kernel) 20729
  have hPBn : PB P f4 q := hPBn.fr hBM hf4 m_q r_q (by decide +kernel) (by decide +kernel) (by decide +kernel)
  have hBM := BM_of h m_q r_q
  have hI : INV L R O P f4 q := hI.most m_q r_q hf4 (by decide +kernel) (by decide +kernel) (by decide +kernel) (by decide +kernel) (by decide +kernel)
  have t_GA : fld f4 rr 0 = .ref GA := (hf4.efl m_rr r_rr (by decide +kernel)).trans t_GA
  have t_GP : fld f4 rr 22 = .ref GP := (hf4.efl m_rr r_rr (by decide +kernel)).trans t_GP
  have t_GL : fld f4 rr 23 = .ref GL := (hf4.efl m_rr r_rr (by decide +kernel)).trans t_GL
  have t_GT : fld f4 rr 6 = .ref GT := (hf4.efl m_rr r_rr (by decide +kernel)).trans t_GT
  have hR : RBA GA f4 := hR.fm hf4 m_GA r_GA (by decide +kernel)
  have hX : GZ GP GL f4 := hX.fm hf4 m_GP r_GP m_GL r_GL (by decide +kernel) (by decide +kernel)
  have hP : fld f4 (rfa f4 q 6) 16 = V := by rw [hf4.erf m_q r_q (by decide +kernel), hf4.efl hs6m hs6r (by decide +kernel)]; exact hP
  have hs6m : rfa f4 q 6 ∈ L := by rw [hf4.erf m_q r_q (by decide +kernel)]; exact hs6m
  have hs6r : R (rfa f4 q 6) = 7 := by rw [hf4.erf m_q r_q (by decide +kernel)]; exact hs6r
  refine lv_pop2_2 F.1 F.2.1 dL_law_949 rfl ?_
  refine lv_aload_n F.1 F.2.1 dL_law_950 rfl (lv_at hl 1 rfl) ?_
  refine lv_aload_n F.1 F.2.1 dL_law_951 rfl (lv_at hl 3 rfl) ?_
  refine lv_iload_n F.1 F.2.1 dL_law_952 rfl (lv_at hl 0 rfl) ?_
  refine tw_iconst F dL_law_953 ki_1 (fun z13 hz13 => ?_)
  refine tu_iadd F dL_law_954 (by omega) (fun z14 hz14 => ?_)
  refine va_sld F.1 F.2.1 hX0 hbl hbA h.dd.2.2 (tw_in (by omega) (by omega)) dL_law_955 ?_
  refine lv_topi (fun z15 qz15 => ?_)
  obtain rfl : z3 = z15 := by rw [qz3, qz15, show z2 = z14 from Int32.toInt_inj.mp (by omega)]
  refine tw_Vl (As := [.int z3]) F hZ h yk_X12_said mw_1115 mw_1116 mw_1117 (s_X12_said l D cy L R O f4 rr m_rr r_rr z3) rfl rfl m_rr r_rr (fun e q => (T_12 e).mp q) rfl hl.1 rfl (Nat.le_of_ble_eq_true rfl) ⟨Nat.le_of_ble_eq_true rfl, Nat.le_of_ble_eq_true rfl⟩ ⟨hcs, hsl⟩ dL_law_956 (fun v17 f16 H locs hp16 h => ?_)
  have hf16 := hp16
  have em18 : fi f16 q 11 = fi f4 q 11 := hf16.efi m_q r_q (by decide +kernel)
  have em19 : fi f16 rr 64 = fi f4 rr 64 := hf16.efi m_rr r_rr (by decide +kernel)
  have ek20 := BKc hBM hf16 m_q r_q (by decide +kernel) (by decide +kernel) (by decide +kernel) (by decide +kernel)
  have ek20b := ek20.1
  have ek20x := ek20.2 0 (by omega)
  have ek20y := ek20.2 1 (by omega)
  have ek20z := ek20.2 2 (by omega)
  have ej21 := hf16.eelj m_GA r_GA (by decide +kernel) 5159
  have ej22 := hf16.eelj m_GA r_GA (by decide +kernel) 10349
  have ej23 := hf16.eelj m_GA r_GA (by decide +kernel) 15539
  have ej24 := hf16.eelj m_GA r_GA (by decide +kernel) 20729
  have hPBn : PB P f16 q := hPBn.fr hBM hf16 m_q r_q (by decide +kernel) (by decide +kernel) (by decide +kernel)
  have hBM := BM_of h m_q r_q
  have hI : INV L R O P f16 q := hI.most m_q r_q hf16 (by decide +kernel) (by decide +kernel) (by decide +kernel) (by decide +kernel) (by decide +kernel)
  have t_GA : fld f16 rr 0 = .ref GA := (hf16.efl m_rr r_rr (by decide +kernel)).trans t_GA
  have t_GP : fld f16 rr 22 = .ref GP := (hf16.efl m_rr r_rr (by decide +kernel)).trans t_GP
  have t_GL : fld f16 rr 23 = .ref GL := (hf16.efl m_rr r_rr (by decide +kernel)).trans t_GL
  have t_GT : fld f16 rr 6 = .ref GT := (hf16.efl m_rr r_rr (by decide +kernel)).trans t_GT
  have hR : RBA GA f16 := hR.fm hf16 m_GA r_GA (by decide +kernel)
  have hX : GZ GP GL f16 := hX.fm hf16 m_GP r_GP m_GL r_GL (by decide +kernel) (by decide +kernel)
  have hP : fld f16 (rfa f16 q 6) 16 = V := by rw [hf16.erf m_q r_q (by decide +kernel), hf16.efl hs6m hs6r (by decide +kernel)]; exact hP
  have hs6m : rfa f16 q 6 ∈ L := by rw [hf16.erf m_q r_q (by decide +kernel)]; exact hs6m
  have hs6r : R (rfa f16 q 6) = 7 := by rw [hf16.erf m_q r_q (by decide +kernel)]; exact hs6r
  refine lv_pop2_2 F.1 F.2.1 dL_law_959 rfl ?_
  refine lv_goto (tgt := 1755) F.1 F.2.1 dL_law_960 (by decide) ?_
  exact kk f16 _ _ _ ⟨h, hI, ⟨t_GA, t_GP, t_GL, t_GT⟩, hR, hX, hP, by omega, by omega, by omega, by omega, by omega, hPBn⟩ hl
theorem dL_law_963 : decode cL_law 963 = .ok (.aload_n 1, 1) := by decide +kernel
theorem dL_law_964 : decode cL_law 964 = .ok (.aload_n 0, 1) := by decide +kernel
theorem dL_law_965 : decode cL_law 965 = .ok (.iload_n 3, 1) := by decide +kernel
theorem dL_law_966 : decode cL_law 966 = .ok (.iconst 1, 1) := by decide +kernel
theorem dL_law_967 : decode cL_law 967 = .ok (.iadd, 1) := by decide +kernel
theorem dL_law_968 : decode cL_law 968 = .ok (.iaload, 1) := by decide +kernel
theorem dL_law_969 : decode cL_law 969 = .ok (.invokevirtual 112, 3) := by decide +kernel
theorem mw_1119 : Cond.methodLink RL 112 yX11_how ∈ wsL_law := inr_47 _ (List.mem_of_getElem? (i := 15) rfl)
theorem mw_1122 : Cond.code yX11_how cX11_how 3 (some .int) ∈ wsL_law := inr_47 _ (List.mem_of_getElem? (i := 18) rfl)
theorem yk_X11_how : xY yX11_how RX11 cX11_how 3 (some .int) 1 := ⟨⟨rfl, by decide +kernel, by decide +kernel, by decide +kernel⟩, mw_2, mw_1122⟩
theorem mw_1120 : Cond.instanceMethod yX11_how ∈ wsL_law := inr_47 _ (List.mem_of_getElem? (i := 16) rfl)
theorem mw_1121 : Cond.selects RX11 yX11_how yX11_how ∈ wsL_law := inr_47 _ (List.mem_of_getElem? (i := 17) rfl)
theorem dL_law_972 : decode cL_law 972 = .ok (.pop, 1) := by decide +kernel
theorem dL_law_973 : decode cL_law 973 = .ok (.aload_n 2, 1) := by decide +kernel
theorem dL_law_974 : decode cL_law 974 = .ok (.aload_n 0, 1) := by decide +kernel
theorem dL_law_975 : decode cL_law 975 = .ok (.iload_n 3, 1) := by decide +kernel
theorem dL_law_976 : decode cL_law 976 = .ok (.iconst 1, 1) := by decide +kernel
theorem dL_law_977 : decode cL_law 977 = .ok (.iadd, 1) := by decide +kernel
theorem dL_law_978 : decode cL_law 978 = .ok (.iaload, 1) := by decide +kernel
theorem dL_law_979 : decode cL_law 979 = .ok (.invokevirtual 115, 3) := by decide +kernel
theorem mw_1123 : Cond.methodLink RL 115 yX12_how ∈ wsL_law := inr_47 _ (List.mem_of_getElem? (i := 19) rfl)
theorem mw_1126 : Cond.code yX12_how cX12_how 3 (some .int) ∈ wsL_law := inr_47 _ (List.mem_of_getElem? (i := 22) rfl)
theorem yk_X12_how : xY yX12_how RX12 cX12_how 3 (some .int) 1 := ⟨⟨rfl, by decide +kernel, by decide +kernel, by decide +kernel⟩, mw_5, mw_1126⟩
theorem mw_1124 : Cond.instanceMethod yX12_how ∈ wsL_law := inr_47 _ (List.mem_of_getElem? (i := 20) rfl)
theorem mw_1125 : Cond.selects RX12 yX12_how yX12_how ∈ wsL_law := inr_47 _ (List.mem_of_getElem? (i := 21) rfl)
theorem dL_law_982 : decode cL_law 982 = .ok (.pop, 1) := by decide +kernel
theorem dL_law_983 : decode cL_law 983 = .ok (.goto 772, 3) := by decide +kernel
set_option maxHeartbeats 4000000 in
set_option maxRecDepth 100000 in
theorem law_c21 {p : Program} {l : Launch} {e : Env} {s : State} {m : MethodId} {below : List Frame} {meth : Method} {c : Code} {H : Heap} {locs : List Loc} {Q : State → Prop} {D : va_G} {cy : Nat → ClassId} {A : Nat → Prop} {L : List Nat} {R O P : Nat → Nat} {f0 : Nat → va_E} {ls : Array Slot} {b N cs sl q rr GA GP GL GT : Nat} {xs : Nat → Int32} {V : Value} (F : CallFix p m c cL_law 4 s #[Value.ref b] wsL_law RL) (hZ : tZ A s s.heap) (hX0 : va_X b N xs s s.heap) (hbl : b < s.heap.size) (hbA : ¬ A b) (hcs : cs ≤ room_1.cells) (hsl : sl ≤ room_1.slots) (i : Int32) (bi : 0 ≤ i.toInt ∧ i.toInt + 6 ≤ N ∧ N ≤ 3072) (m_q : q ∈ L) (r_q : R q = 11) (m_rr : rr ∈ L) (r_rr : R rr = 12) (m_GA : GA ∈ L) (r_GA : R GA = 61) (m_GP : GP ∈ L) (r_GP : R GP = 69) (m_GL : GL ∈ L) (r_GL : R GL = 70) (m_GT : GT ∈ L) (r_GT : R GT = 64) (hLS : LWS D cy A s L R O P q rr GA GP GL GT V f0 H locs) (hl : lv_has ls 4 [(3, .int i), (2, .ref rr), (1, .ref q), (0, .ref b)]) (kk : ∀ (f1 : Nat → va_E) (H : Heap) (locs : List Loc) (ls : Array Slot), LWS D cy A s L R O P q rr GA GP GL GT V f1 H locs → lv_has ls 4 [(3, .int i), (2, .ref rr), (1, .ref q), (0, .ref b)] → W p l e room_1 s m #[Value.ref b] below meth c H locs cs sl Q (F0 m 1755 ls [])) : W p l e room_1 s m #[Value.ref b] below meth c H locs cs sl Q (F0 m 963 ls []) := by
  obtain ⟨h, hI, ⟨t_GA, t_GP, t_GL, t_GT⟩, hR, hX, hP, hMK, hCB, hC0, hC1, hC2, hPB⟩ := hLS
  have hs6m := hI.2.2.1.1
  have hs6r := hI.2.2.1.2
  have hBM := BM_of h m_q r_q
  have hPBn := hPB
  refine lv_aload_n F.1 F.2.1 dL_law_963 rfl (lv_at hl 2 rfl) ?_
  refine lv_aload_n F.1 F.2.1 dL_law_964 rfl (lv_at hl 3 rfl) ?_
  refine lv_iload_n F.1 F.2.1 dL_law_965 rfl (lv_at hl 0 rfl) ?_
  refine tw_iconst F dL_law_966 ki_1 (fun z1 hz1 => ?_)
  refine tu_iadd F dL_law_967 (by omega) (fun z2 hz2 => ?_)
  refine va_sld F.1 F.2.1 hX0 hbl hbA h.dd.2.2 (tw_in (by omega) (by omega)) dL_law_968 ?_
  refine lv_topi (fun z3 qz3 => ?_)
  refine tw_Vi (As := [.int z3]) F hZ h yk_X11_how mw_1119 mw_1120 mw_1121 (s_X11_how l D cy L R O f0 q m_q r_q z3) rfl rfl m_q r_q (fun e q => (T_11 e).mp q) rfl hl.1 rfl (Nat.le_of_ble_eq_true rfl) ⟨Nat.le_of_ble_eq_true rfl, Nat.le_of_ble_eq_true rfl⟩ ⟨hcs, hsl⟩ dL_law_969 (fun v5 f4 H locs hp4 h => ?_)
  have hf4 := hp4
  have em6 : fi f4 q 11 = fi f0 q 11 := hf4.efi m_q r_q (by decide +kernel)
  have em7 : fi f4 rr 64 = fi f0 rr 64 := hf4.efi m_rr r_rr (by decide +kernel)
  have ek8 := BKc hBM hf4 m_q r_q (by decide +kernel) (by decide +kernel) (by decide +kernel) (by decide +kernel)
  have ek8b := ek8.1
  have ek8x := ek8.2 0 (by omega)
  have ek8y := ek8.2 1 (by omega)
  have ek8z := ek8.2 2 (by omega)
  have ej9 := hf4.eelj m_GA r_GA (by decide +kernel) 5159
  have ej10 := hf4.eelj m_GA r_GA (by decide +kernel) 10349
  have ej11 := hf4.eelj m_GA r_GA (by decide +kernel) 15539
  have ej12 := hf4.eelj m_GA r_GA (by decide +kernel) 20729
  have hPBn : PB P f4 q := hPBn.fr hBM hf4 m_q r_q (by decide +kernel) (by decide +kernel) (by decide +kernel)
  have hBM := BM_of h m_q r_q
  have hI : INV L R O P f4 q := hI.most m_q r_q hf4 (by decide +kernel) (by decide +kernel) (by decide +kernel) (by decide +kernel) (by decide +kernel)
  have t_GA : fld f4 rr 0 = .ref GA := (hf4.efl m_rr r_rr (by decide +kernel)).trans t_GA
  have t_GP : fld f4 rr 22 = .ref GP := (hf4.efl m_rr r_rr (by decide +kernel)).trans t_GP
  have t_GL : fld f4 rr 23 = .ref GL := (hf4.efl m_rr r_rr (by decide +kernel)).trans t_GL
  have t_GT : fld f4 rr 6 = .ref GT := (hf4.efl m_rr r_rr (by decide +kernel)).trans t_GT
  have hR : RBA GA f4 := hR.fm hf4 m_GA r_GA (by decide +kernel)
  have hX : GZ GP GL f4 := hX.fm hf4 m_GP r_GP m_GL r_GL (by decide +kernel) (by decide +kernel)
  have hP : fld f4 (rfa f4 q 6) 16 = V := by rw [hf4.erf m_q r_q (by decide +kernel), hf4.efl hs6m hs6r (by decide +kernel)]; exact hP
  have hs6m : rfa f4 q 6 ∈ L := by rw [hf4.erf m_q r_q (by decide +kernel)]; exact hs6m
  have hs6r : R (rfa f4 q 6) = 7 := by rw [hf4.erf m_q r_q (by decide +kernel)]; exact hs6r
  refine lv_pop F.1 F.2.1 dL_law_972 rfl ?_
  refine lv_aload_n F.1 F.2.1 dL_law_973 rfl (lv_at hl 1 rfl) ?_
  refine lv_aload_n F.1 F.2.1 dL_law_974 rfl (lv_at hl 3 rfl) ?_
  refine lv_iload_n F.1 F.2.1 dL_law_975 rfl (lv_at hl 0 rfl) ?_
  refine tw_iconst F dL_law_976 ki_1 (fun z13 hz13 => ?_)
  refine tu_iadd F dL_law_977 (by omega) (fun z14 hz14 => ?_)
  refine va_sld F.1 F.2.1 hX0 hbl hbA h.dd.2.2 (tw_in (by omega) (by omega)) dL_law_978 ?_
  refine lv_topi (fun z15 qz15 => ?_)
  obtain rfl : z3 = z15 := by rw [qz3, qz15, show z2 = z14 from Int32.toInt_inj.mp (by omega)]
  refine tw_Vi (As := [.int z3]) F hZ h yk_X12_how mw_1123 mw_1124 mw_1125 (s_X12_how l D cy L R O f4 rr m_rr r_rr z3) rfl rfl m_rr r_rr (fun e q => (T_12 e).mp q) rfl hl.1 rfl (Nat.le_of_ble_eq_true rfl) ⟨Nat.le_of_ble_eq_true rfl, Nat.le_of_ble_eq_true rfl⟩ ⟨hcs, hsl⟩ dL_law_979 (fun v17 f16 H locs hp16 h => ?_)
  have hf16 := hp16
  have em18 : fi f16 q 11 = fi f4 q 11 := hf16.efi m_q r_q (by decide +kernel)
  have em19 : fi f16 rr 64 = fi f4 rr 64 := hf16.efi m_rr r_rr (by decide +kernel)
  have ek20 := BKc hBM hf16 m_q r_q (by decide +kernel) (by decide +kernel) (by decide +kernel) (by decide +kernel)
  have ek20b := ek20.1
  have ek20x := ek20.2 0 (by omega)
  have ek20y := ek20.2 1 (by omega)
  have ek20z := ek20.2 2 (by omega)
  have ej21 := hf16.eelj m_GA r_GA (by decide +kernel) 5159
  have ej22 := hf16.eelj m_GA r_GA (by decide +kernel) 10349
  have ej23 := hf16.eelj m_GA r_GA (by decide +kernel) 15539
  have ej24 := hf16.eelj m_GA r_GA (by decide +kernel) 20729
  have hPBn : PB P f16 q := hPBn.fr hBM hf16 m_q r_q (by decide +kernel) (by decide +kernel) (by decide +kernel)
  have hBM := BM_of h m_q r_q
  have hI : INV L R O P f16 q := hI.most m_q r_q hf16 (by decide +kernel) (by decide +kernel) (by decide +kernel) (by decide +kernel) (by decide +kernel)
  have t_GA : fld f16 rr 0 = .ref GA := (hf16.efl m_rr r_rr (by decide +kernel)).trans t_GA
  have t_GP : fld f16 rr 22 = .ref GP := (hf16.efl m_rr r_rr (by decide +kernel)).trans t_GP
  have t_GL : fld f16 rr 23 = .ref GL := (hf16.efl m_rr r_rr (by decide +kernel)).trans t_GL
  have t_GT : fld f16 rr 6 = .ref GT := (hf16.efl m_rr r_rr (by decide +kernel)).trans t_GT
  have hR : RBA GA f16 := hR.fm hf16 m_GA r_GA (by decide +kernel)
  have hX : GZ GP GL f16 := hX.fm hf16 m_GP r_GP m_GL r_GL (by decide +kernel) (by decide +kernel)
  have hP : fld f16 (rfa f16 q 6) 16 = V := by rw [hf16.erf m_q r_q (by decide +kernel), hf16.efl hs6m hs6r (by decide +kernel)]; exact hP
  have hs6m : rfa f16 q 6 ∈ L := by rw [hf16.erf m_q r_q (by decide +kernel)]; exact hs6m
  have hs6r : R (rfa f16 q 6) = 7 := by rw [hf16.erf m_q r_q (by decide +kernel)]; exact hs6r
  refine lv_pop F.1 F.2.1 dL_law_982 rfl ?_
  refine lv_goto (tgt := 1755) F.1 F.2.1 dL_law_983 (by decide) ?_
  exact kk f16 _ _ _ ⟨h, hI, ⟨t_GA, t_GP, t_GL, t_GT⟩, hR, hX, hP, by omega, by omega, by omega, by omega, by omega, hPBn⟩ hl
theorem dL_law_986 : decode cL_law 986 = .ok (.aload_n 1, 1) := by decide +kernel
theorem dL_law_987 : decode cL_law 987 = .ok (.aload_n 0, 1) := by decide +kernel
theorem dL_law_988 : decode cL_law 988 = .ok (.iload_n 3, 1) := by decide +kernel
theorem dL_law_989 : decode cL_law 989 = .ok (.iconst 1, 1) := by decide +kernel
theorem dL_law_990 : decode cL_law 990 = .ok (.iadd, 1) := by decide +kernel
theorem dL_law_991 : decode cL_law 991 = .ok (.iaload, 1) := by decide +kernel
theorem dL_law_992 : decode cL_law 992 = .ok (.aload_n 0, 1) := by decide +kernel
theorem dL_law_993 : decode cL_law 993 = .ok (.iload_n 3, 1) := by decide +kernel
theorem dL_law_994 : decode cL_law 994 = .ok (.iconst 2, 1) := by decide +kernel
theorem dL_law_995 : decode cL_law 995 = .ok (.iadd, 1) := by decide +kernel
theorem dL_law_996 : decode cL_law 996 = .ok (.iaload, 1) := by decide +kernel
theorem dL_law_997 : decode cL_law 997 = .ok (.aload_n 0, 1) := by decide +kernel
theorem dL_law_998 : decode cL_law 998 = .ok (.iload_n 3, 1) := by decide +kernel
theorem dL_law_999 : decode cL_law 999 = .ok (.iconst 3, 1) := by decide +kernel
theorem dL_law_1000 : decode cL_law 1000 = .ok (.iadd, 1) := by decide +kernel
theorem dL_law_1001 : decode cL_law 1001 = .ok (.iaload, 1) := by decide +kernel
theorem dL_law_1002 : decode cL_law 1002 = .ok (.invokevirtual 116, 3) := by decide +kernel
theorem mw_1127 : Cond.methodLink RL 116 yX11_remembered ∈ wsL_law := inr_47 _ (List.mem_of_getElem? (i := 23) rfl)
theorem mw_1130 : Cond.code yX11_remembered cX11_remembered 5 (some .long) ∈ wsL_law := inr_48 _ (List.mem_of_getElem? (i := 2) rfl)
theorem yk_X11_remembered : xY yX11_remembered RX11 cX11_remembered 5 (some .long) 3 := ⟨⟨rfl, by decide +kernel, by decide +kernel, by decide +kernel⟩, mw_2, mw_1130⟩
theorem mw_1128 : Cond.instanceMethod yX11_remembered ∈ wsL_law := inr_48 _ (List.mem_of_getElem? (i := 0) rfl)
theorem mw_1129 : Cond.selects RX11 yX11_remembered yX11_remembered ∈ wsL_law := inr_48 _ (List.mem_of_getElem? (i := 1) rfl)
theorem dL_law_1005 : decode cL_law 1005 = .ok (.pop2, 1) := by decide +kernel
theorem dL_law_1006 : decode cL_law 1006 = .ok (.aload_n 2, 1) := by decide +kernel
theorem dL_law_1007 : decode cL_law 1007 = .ok (.aload_n 0, 1) := by decide +kernel
theorem dL_law_1008 : decode cL_law 1008 = .ok (.iload_n 3, 1) := by decide +kernel
theorem dL_law_1009 : decode cL_law 1009 = .ok (.iconst 1, 1) := by decide +kernel
theorem dL_law_1010 : decode cL_law 1010 = .ok (.iadd, 1) := by decide +kernel
theorem dL_law_1011 : decode cL_law 1011 = .ok (.iaload, 1) := by decide +kernel
theorem dL_law_1012 : decode cL_law 1012 = .ok (.aload_n 0, 1) := by decide +kernel
theorem dL_law_1013 : decode cL_law 1013 = .ok (.iload_n 3, 1) := by decide +kernel
theorem dL_law_1014 : decode cL_law 1014 = .ok (.iconst 2, 1) := by decide +kernel
theorem dL_law_1015 : decode cL_law 1015 = .ok (.iadd, 1) := by decide +kernel
theorem dL_law_1016 : decode cL_law 1016 = .ok (.iaload, 1) := by decide +kernel
theorem dL_law_1017 : decode cL_law 1017 = .ok (.aload_n 0, 1) := by decide +kernel
theorem dL_law_1018 : decode cL_law 1018 = .ok (.iload_n 3, 1) := by decide +kernel
theorem dL_law_1019 : decode cL_law 1019 = .ok (.iconst 3, 1) := by decide +kernel
theorem dL_law_1020 : decode cL_law 1020 = .ok (.iadd, 1) := by decide +kernel
theorem dL_law_1021 : decode cL_law 1021 = .ok (.iaload, 1) := by decide +kernel
theorem dL_law_1022 : decode cL_law 1022 = .ok (.invokevirtual 120, 3) := by decide +kernel
theorem mw_1132 : Cond.methodLink RL 120 yX12_remembered ∈ wsL_law := inr_48 _ (List.mem_of_getElem? (i := 4) rfl)
theorem mw_1135 : Cond.code yX12_remembered cX12_remembered 6 (some .long) ∈ wsL_law := inr_48 _ (List.mem_of_getElem? (i := 7) rfl)
theorem yk_X12_remembered : xY yX12_remembered RX12 cX12_remembered 6 (some .long) 3 := ⟨⟨rfl, by decide +kernel, by decide +kernel, by decide +kernel⟩, mw_5, mw_1135⟩
theorem mw_1133 : Cond.instanceMethod yX12_remembered ∈ wsL_law := inr_48 _ (List.mem_of_getElem? (i := 5) rfl)
theorem mw_1134 : Cond.selects RX12 yX12_remembered yX12_remembered ∈ wsL_law := inr_48 _ (List.mem_of_getElem? (i := 6) rfl)
theorem dL_law_1025 : decode cL_law 1025 = .ok (.pop2, 1) := by decide +kernel
theorem dL_law_1026 : decode cL_law 1026 = .ok (.goto 729, 3) := by decide +kernel
set_option maxHeartbeats 4000000 in
set_option maxRecDepth 100000 in
theorem law_c22 {p : Program} {l : Launch} {e : Env} {s : State} {m : MethodId} {below : List Frame} {meth : Method} {c : Code} {H : Heap} {locs : List Loc} {Q : State → Prop} {D : va_G} {cy : Nat → ClassId} {A : Nat → Prop} {L : List Nat} {R O P : Nat → Nat} {f0 : Nat → va_E} {ls : Array Slot} {b N cs sl q rr GA GP GL GT : Nat} {xs : Nat → Int32} {V : Value} (F : CallFix p m c cL_law 4 s #[Value.ref b] wsL_law RL) (hZ : tZ A s s.heap) (hX0 : va_X b N xs s s.heap) (hbl : b < s.heap.size) (hbA : ¬ A b) (hcs : cs ≤ room_1.cells) (hsl : sl ≤ room_1.slots) (i : Int32) (bi : 0 ≤ i.toInt ∧ i.toInt + 6 ≤ N ∧ N ≤ 3072) (m_q : q ∈ L) (r_q : R q = 11) (m_rr : rr ∈ L) (r_rr : R rr = 12) (m_GA : GA ∈ L) (r_GA : R GA = 61) (m_GP : GP ∈ L) (r_GP : R GP = 69) (m_GL : GL ∈ L) (r_GL : R GL = 70) (m_GT : GT ∈ L) (r_GT : R GT = 64) (hLS : LWS D cy A s L R O P q rr GA GP GL GT V f0 H locs) (hl : lv_has ls 4 [(3, .int i), (2, .ref rr), (1, .ref q), (0, .ref b)]) (kk : ∀ (f1 : Nat → va_E) (H : Heap) (locs : List Loc) (ls : Array Slot), LWS D cy A s L R O P q rr GA GP GL GT V f1 H locs → lv_has ls 4 [(3, .int i), (2, .ref rr), (1, .ref q), (0, .ref b)] → W p l e room_1 s m #[Value.ref b] below meth c H locs cs sl Q (F0 m 1755 ls [])) : W p l e room_1 s m #[Value.ref b] below meth c H locs cs sl Q (F0 m 986 ls []) := by
  obtain ⟨h, hI, ⟨t_GA, t_GP, t_GL, t_GT⟩, hR, hX, hP, hMK, hCB, hC0, hC1, hC2, hPB⟩ := hLS
  have hs6m := hI.2.2.1.1
  have hs6r := hI.2.2.1.2
  have hBM := BM_of h m_q r_q
  have hPBn := hPB
  refine lv_aload_n F.1 F.2.1 dL_law_986 rfl (lv_at hl 2 rfl) ?_
  refine lv_aload_n F.1 F.2.1 dL_law_987 rfl (lv_at hl 3 rfl) ?_
  refine lv_iload_n F.1 F.2.1 dL_law_988 rfl (lv_at hl 0 rfl) ?_
  refine tw_iconst F dL_law_989 ki_1 (fun z1 hz1 => ?_)
  refine tu_iadd F dL_law_990 (by omega) (fun z2 hz2 => ?_)
  refine va_sld F.1 F.2.1 hX0 hbl hbA h.dd.2.2 (tw_in (by omega) (by omega)) dL_law_991 ?_
  refine lv_topi (fun z3 qz3 => ?_)
  refine lv_aload_n F.1 F.2.1 dL_law_992 rfl (lv_at hl 3 rfl) ?_
  refine lv_iload_n F.1 F.2.1 dL_law_993 rfl (lv_at hl 0 rfl) ?_
  refine tw_iconst F dL_law_994 ki_2 (fun z4 hz4 => ?_)
  refine tu_iadd F dL_law_995 (by omega) (fun z5 hz5 => ?_)
  refine va_sld F.1 F.2.1 hX0 hbl hbA h.dd.2.2 (tw_in (by omega) (by omega)) dL_law_996 ?_
  refine lv_topi (fun z6 qz6 => ?_)
  refine lv_aload_n F.1 F.2.1 dL_law_997 rfl (lv_at hl 3 rfl) ?_
  refine lv_iload_n F.1 F.2.1 dL_law_998 rfl (lv_at hl 0 rfl) ?_
  refine tw_iconst F dL_law_999 ki_3 (fun z7 hz7 => ?_)
  refine tu_iadd F dL_law_1000 (by omega) (fun z8 hz8 => ?_)
  refine va_sld F.1 F.2.1 hX0 hbl hbA h.dd.2.2 (tw_in (by omega) (by omega)) dL_law_1001 ?_
  refine lv_topi (fun z9 qz9 => ?_)
  refine tw_Vl (As := [.int z3, .int z6, .int z9]) F hZ h yk_X11_remembered mw_1127 mw_1128 mw_1129 (s_X11_remembered l D cy L R O f0 q m_q r_q z3 z6 z9) rfl rfl m_q r_q (fun e q => (T_11 e).mp q) rfl hl.1 rfl (Nat.le_of_ble_eq_true rfl) ⟨Nat.le_of_ble_eq_true rfl, Nat.le_of_ble_eq_true rfl⟩ ⟨hcs, hsl⟩ dL_law_1002 (fun v11 f10 H locs hp10 h => ?_)
  have hf10 := hp10
  have em12 : fi f10 q 11 = fi f0 q 11 := hf10.efi m_q r_q (by decide +kernel)
  have em13 : fi f10 rr 64 = fi f0 rr 64 := hf10.efi m_rr r_rr (by decide +kernel)
  have ek14 := BKc hBM hf10 m_q r_q (by decide +kernel) (by decide +kernel) (by decide +kernel) (by decide +kernel)
  have ek14b := ek14.1
  have ek14x := ek14.2 0 (by omega)
  have ek14y := ek14.2 1 (by omega)
  have ek14z := ek14.2 2 (by omega)
  have ej15 := hf10.eelj m_GA r_GA (by decide +kernel) 5159
  have ej16 := hf10.eelj m_GA r_GA (by decide +kernel) 10349
  have ej17 := hf10.eelj m_GA r_GA (by decide +kernel) 15539
  have ej18 := hf10.eelj m_GA r_GA (by decide +kernel) 20729
  have hPBn : PB P f10 q := hPBn.fr hBM hf10 m_q r_q (by decide +kernel) (by decide +kernel) (by decide +kernel)
  have hBM := BM_of h m_q r_q
  have hI : INV L R O P f10 q := hI.most m_q r_q hf10 (by decide +kernel) (by decide +kernel) (by decide +kernel) (by decide +kernel) (by decide +kernel)
  have t_GA : fld f10 rr 0 = .ref GA := (hf10.efl m_rr r_rr (by decide +kernel)).trans t_GA
  have t_GP : fld f10 rr 22 = .ref GP := (hf10.efl m_rr r_rr (by decide +kernel)).trans t_GP
  have t_GL : fld f10 rr 23 = .ref GL := (hf10.efl m_rr r_rr (by decide +kernel)).trans t_GL
  have t_GT : fld f10 rr 6 = .ref GT := (hf10.efl m_rr r_rr (by decide +kernel)).trans t_GT
  have hR : RBA GA f10 := hR.fm hf10 m_GA r_GA (by decide +kernel)
  have hX : GZ GP GL f10 := hX.fm hf10 m_GP r_GP m_GL r_GL (by decide +kernel) (by decide +kernel)
  have hP : fld f10 (rfa f10 q 6) 16 = V := by rw [hf10.erf m_q r_q (by decide +kernel), hf10.efl hs6m hs6r (by decide +kernel)]; exact hP
  have hs6m : rfa f10 q 6 ∈ L := by rw [hf10.erf m_q r_q (by decide +kernel)]; exact hs6m
  have hs6r : R (rfa f10 q 6) = 7 := by rw [hf10.erf m_q r_q (by decide +kernel)]; exact hs6r
  refine lv_pop2_2 F.1 F.2.1 dL_law_1005 rfl ?_
  refine lv_aload_n F.1 F.2.1 dL_law_1006 rfl (lv_at hl 1 rfl) ?_
  refine lv_aload_n F.1 F.2.1 dL_law_1007 rfl (lv_at hl 3 rfl) ?_
  refine lv_iload_n F.1 F.2.1 dL_law_1008 rfl (lv_at hl 0 rfl) ?_
  refine tw_iconst F dL_law_1009 ki_1 (fun z19 hz19 => ?_)
  refine tu_iadd F dL_law_1010 (by omega) (fun z20 hz20 => ?_)
  refine va_sld F.1 F.2.1 hX0 hbl hbA h.dd.2.2 (tw_in (by omega) (by omega)) dL_law_1011 ?_
  refine lv_topi (fun z21 qz21 => ?_)
  obtain rfl : z3 = z21 := by rw [qz3, qz21, show z2 = z20 from Int32.toInt_inj.mp (by omega)]
  refine lv_aload_n F.1 F.2.1 dL_law_1012 rfl (lv_at hl 3 rfl) ?_
  refine lv_iload_n F.1 F.2.1 dL_law_1013 rfl (lv_at hl 0 rfl) ?_
  refine tw_iconst F dL_law_1014 ki_2 (fun z22 hz22 => ?_)
  refine tu_iadd F dL_law_1015 (by omega) (fun z23 hz23 => ?_)
  refine va_sld F.1 F.2.1 hX0 hbl hbA h.dd.2.2 (tw_in (by omega) (by omega)) dL_law_1016 ?_
  refine lv_topi (fun z24 qz24 => ?_)
  obtain rfl : z6 = z24 := by rw [qz6, qz24, show z5 = z23 from Int32.toInt_inj.mp (by omega)]
  refine lv_aload_n F.1 F.2.1 dL_law_1017 rfl (lv_at hl 3 rfl) ?_
  refine lv_iload_n F.1 F.2.1 dL_law_1018 rfl (lv_at hl 0 rfl) ?_
  refine tw_iconst F dL_law_1019 ki_3 (fun z25 hz25 => ?_)
  refine tu_iadd F dL_law_1020 (by omega) (fun z26 hz26 => ?_)
  refine va_sld F.1 F.2.1 hX0 hbl hbA h.dd.2.2 (tw_in (by omega) (by omega)) dL_law_1021 ?_
  refine lv_topi (fun z27 qz27 => ?_)
  obtain rfl : z9 = z27 := by rw [qz9, qz27, show z8 = z26 from Int32.toInt_inj.mp (by omega)]
  refine tw_Vl (As := [.int z3, .int z6, .int z9]) F hZ h yk_X12_remembered mw_1132 mw_1133 mw_1134 (s_X12_remembered l D cy L R O f10 rr m_rr r_rr z3 z6 z9) rfl rfl m_rr r_rr (fun e q => (T_12 e).mp q) rfl hl.1 rfl (Nat.le_of_ble_eq_true rfl) ⟨Nat.le_of_ble_eq_true rfl, Nat.le_of_ble_eq_true rfl⟩ ⟨hcs, hsl⟩ dL_law_1022 (fun v29 f28 H locs hp28 h => ?_)
  have hf28 := hp28
  have em30 : fi f28 q 11 = fi f10 q 11 := hf28.efi m_q r_q (by decide +kernel)
  have em31 : fi f28 rr 64 = fi f10 rr 64 := hf28.efi m_rr r_rr (by decide +kernel)
  have ek32 := BKc hBM hf28 m_q r_q (by decide +kernel) (by decide +kernel) (by decide +kernel) (by decide +kernel)
  have ek32b := ek32.1
  have ek32x := ek32.2 0 (by omega)
  have ek32y := ek32.2 1 (by omega)
  have ek32z := ek32.2 2 (by omega)
  have ej33 := hf28.eelj m_GA r_GA (by decide +kernel) 5159
  have ej34 := hf28.eelj m_GA r_GA (by decide +kernel) 10349
  have ej35 := hf28.eelj m_GA r_GA (by decide +kernel) 15539
  have ej36 := hf28.eelj m_GA r_GA (by decide +kernel) 20729
  have hPBn : PB P f28 q := hPBn.fr hBM hf28 m_q r_q (by decide +kernel) (by decide +kernel) (by decide +kernel)
  have hBM := BM_of h m_q r_q
  have hI : INV L R O P f28 q := hI.most m_q r_q hf28 (by decide +kernel) (by decide +kernel) (by decide +kernel) (by decide +kernel) (by decide +kernel)
  have t_GA : fld f28 rr 0 = .ref GA := (hf28.efl m_rr r_rr (by decide +kernel)).trans t_GA
  have t_GP : fld f28 rr 22 = .ref GP := (hf28.efl m_rr r_rr (by decide +kernel)).trans t_GP
  have t_GL : fld f28 rr 23 = .ref GL := (hf28.efl m_rr r_rr (by decide +kernel)).trans t_GL
  have t_GT : fld f28 rr 6 = .ref GT := (hf28.efl m_rr r_rr (by decide +kernel)).trans t_GT
  have hR : RBA GA f28 := hR.fm hf28 m_GA r_GA (by decide +kernel)
  have hX : GZ GP GL f28 := hX.fm hf28 m_GP r_GP m_GL r_GL (by decide +kernel) (by decide +kernel)
  have hP : fld f28 (rfa f28 q 6) 16 = V := by rw [hf28.erf m_q r_q (by decide +kernel), hf28.efl hs6m hs6r (by decide +kernel)]; exact hP
  have hs6m : rfa f28 q 6 ∈ L := by rw [hf28.erf m_q r_q (by decide +kernel)]; exact hs6m
  have hs6r : R (rfa f28 q 6) = 7 := by rw [hf28.erf m_q r_q (by decide +kernel)]; exact hs6r
  refine lv_pop2_2 F.1 F.2.1 dL_law_1025 rfl ?_
  refine lv_goto (tgt := 1755) F.1 F.2.1 dL_law_1026 (by decide) ?_
  exact kk f28 _ _ _ ⟨h, hI, ⟨t_GA, t_GP, t_GL, t_GT⟩, hR, hX, hP, by omega, by omega, by omega, by omega, by omega, hPBn⟩ hl
theorem dL_law_1029 : decode cL_law 1029 = .ok (.aload_n 1, 1) := by decide +kernel
theorem dL_law_1030 : decode cL_law 1030 = .ok (.aload_n 0, 1) := by decide +kernel
theorem dL_law_1031 : decode cL_law 1031 = .ok (.iload_n 3, 1) := by decide +kernel
theorem dL_law_1032 : decode cL_law 1032 = .ok (.iconst 1, 1) := by decide +kernel
theorem dL_law_1033 : decode cL_law 1033 = .ok (.iadd, 1) := by decide +kernel
theorem dL_law_1034 : decode cL_law 1034 = .ok (.iaload, 1) := by decide +kernel
theorem dL_law_1035 : decode cL_law 1035 = .ok (.aload_n 0, 1) := by decide +kernel
theorem dL_law_1036 : decode cL_law 1036 = .ok (.iload_n 3, 1) := by decide +kernel
theorem dL_law_1037 : decode cL_law 1037 = .ok (.iconst 2, 1) := by decide +kernel
theorem dL_law_1038 : decode cL_law 1038 = .ok (.iadd, 1) := by decide +kernel
theorem dL_law_1039 : decode cL_law 1039 = .ok (.iaload, 1) := by decide +kernel
theorem dL_law_1040 : decode cL_law 1040 = .ok (.aload_n 0, 1) := by decide +kernel
theorem dL_law_1041 : decode cL_law 1041 = .ok (.iload_n 3, 1) := by decide +kernel
theorem dL_law_1042 : decode cL_law 1042 = .ok (.iconst 3, 1) := by decide +kernel
theorem dL_law_1043 : decode cL_law 1043 = .ok (.iadd, 1) := by decide +kernel
theorem dL_law_1044 : decode cL_law 1044 = .ok (.iaload, 1) := by decide +kernel
theorem dL_law_1045 : decode cL_law 1045 = .ok (.invokevirtual 121, 3) := by decide +kernel
theorem mw_1136 : Cond.methodLink RL 121 yX11_talk ∈ wsL_law := inr_48 _ (List.mem_of_getElem? (i := 8) rfl)
theorem mw_1139 : Cond.code yX11_talk cX11_talk 5 (some .int) ∈ wsL_law := inr_48 _ (List.mem_of_getElem? (i := 11) rfl)
theorem yk_X11_talk : xY yX11_talk RX11 cX11_talk 5 (some .int) 3 := ⟨⟨rfl, by decide +kernel, by decide +kernel, by decide +kernel⟩, mw_2, mw_1139⟩
theorem mw_1137 : Cond.instanceMethod yX11_talk ∈ wsL_law := inr_48 _ (List.mem_of_getElem? (i := 9) rfl)
theorem mw_1138 : Cond.selects RX11 yX11_talk yX11_talk ∈ wsL_law := inr_48 _ (List.mem_of_getElem? (i := 10) rfl)
theorem dL_law_1048 : decode cL_law 1048 = .ok (.pop, 1) := by decide +kernel
theorem dL_law_1049 : decode cL_law 1049 = .ok (.aload_n 2, 1) := by decide +kernel
theorem dL_law_1050 : decode cL_law 1050 = .ok (.aload_n 0, 1) := by decide +kernel
theorem dL_law_1051 : decode cL_law 1051 = .ok (.iload_n 3, 1) := by decide +kernel
theorem dL_law_1052 : decode cL_law 1052 = .ok (.iconst 1, 1) := by decide +kernel
theorem dL_law_1053 : decode cL_law 1053 = .ok (.iadd, 1) := by decide +kernel
theorem dL_law_1054 : decode cL_law 1054 = .ok (.iaload, 1) := by decide +kernel
theorem dL_law_1055 : decode cL_law 1055 = .ok (.aload_n 0, 1) := by decide +kernel
theorem dL_law_1056 : decode cL_law 1056 = .ok (.iload_n 3, 1) := by decide +kernel
theorem dL_law_1057 : decode cL_law 1057 = .ok (.iconst 2, 1) := by decide +kernel
theorem dL_law_1058 : decode cL_law 1058 = .ok (.iadd, 1) := by decide +kernel
theorem dL_law_1059 : decode cL_law 1059 = .ok (.iaload, 1) := by decide +kernel
theorem dL_law_1060 : decode cL_law 1060 = .ok (.aload_n 0, 1) := by decide +kernel
theorem dL_law_1061 : decode cL_law 1061 = .ok (.iload_n 3, 1) := by decide +kernel
theorem dL_law_1062 : decode cL_law 1062 = .ok (.iconst 3, 1) := by decide +kernel
theorem dL_law_1063 : decode cL_law 1063 = .ok (.iadd, 1) := by decide +kernel
theorem dL_law_1064 : decode cL_law 1064 = .ok (.iaload, 1) := by decide +kernel
theorem dL_law_1065 : decode cL_law 1065 = .ok (.invokevirtual 124, 3) := by decide +kernel
theorem mw_1179 : Cond.methodLink RL 124 yX12_talk ∈ wsL_law := inr_50 _ (List.mem_of_getElem? (i := 3) rfl)
theorem mw_1182 : Cond.code yX12_talk cX12_talk 9 (some .int) ∈ wsL_law := inr_50 _ (List.mem_of_getElem? (i := 6) rfl)
theorem yk_X12_talk : xY yX12_talk RX12 cX12_talk 9 (some .int) 3 := ⟨⟨rfl, by decide +kernel, by decide +kernel, by decide +kernel⟩, mw_5, mw_1182⟩
theorem mw_1180 : Cond.instanceMethod yX12_talk ∈ wsL_law := inr_50 _ (List.mem_of_getElem? (i := 4) rfl)
theorem mw_1181 : Cond.selects RX12 yX12_talk yX12_talk ∈ wsL_law := inr_50 _ (List.mem_of_getElem? (i := 5) rfl)
theorem dL_law_1068 : decode cL_law 1068 = .ok (.pop, 1) := by decide +kernel
theorem dL_law_1069 : decode cL_law 1069 = .ok (.goto 686, 3) := by decide +kernel
set_option maxHeartbeats 4000000 in
set_option maxRecDepth 100000 in
theorem law_c23 {p : Program} {l : Launch} {e : Env} {s : State} {m : MethodId} {below : List Frame} {meth : Method} {c : Code} {H : Heap} {locs : List Loc} {Q : State → Prop} {D : va_G} {cy : Nat → ClassId} {A : Nat → Prop} {L : List Nat} {R O P : Nat → Nat} {f0 : Nat → va_E} {ls : Array Slot} {b N cs sl q rr GA GP GL GT : Nat} {xs : Nat → Int32} {V : Value} (F : CallFix p m c cL_law 4 s #[Value.ref b] wsL_law RL) (hZ : tZ A s s.heap) (hX0 : va_X b N xs s s.heap) (hbl : b < s.heap.size) (hbA : ¬ A b) (hcs : cs ≤ room_1.cells) (hsl : sl ≤ room_1.slots) (i : Int32) (bi : 0 ≤ i.toInt ∧ i.toInt + 6 ≤ N ∧ N ≤ 3072) (m_q : q ∈ L) (r_q : R q = 11) (m_rr : rr ∈ L) (r_rr : R rr = 12) (m_GA : GA ∈ L) (r_GA : R GA = 61) (m_GP : GP ∈ L) (r_GP : R GP = 69) (m_GL : GL ∈ L) (r_GL : R GL = 70) (m_GT : GT ∈ L) (r_GT : R GT = 64) (hLS : LWS D cy A s L R O P q rr GA GP GL GT V f0 H locs) (hl : lv_has ls 4 [(3, .int i), (2, .ref rr), (1, .ref q), (0, .ref b)]) (kk : ∀ (f1 : Nat → va_E) (H : Heap) (locs : List Loc) (ls : Array Slot), LWS D cy A s L R O P q rr GA GP GL GT V f1 H locs → lv_has ls 4 [(3, .int i), (2, .ref rr), (1, .ref q), (0, .ref b)] → W p l e room_1 s m #[Value.ref b] below meth c H locs cs sl Q (F0 m 1755 ls [])) : W p l e room_1 s m #[Value.ref b] below meth c H locs cs sl Q (F0 m 1029 ls []) := by
  obtain ⟨h, hI, ⟨t_GA, t_GP, t_GL, t_GT⟩, hR, hX, hP, hMK, hCB, hC0, hC1, hC2, hPB⟩ := hLS
  have hs6m := hI.2.2.1.1
  have hs6r := hI.2.2.1.2
  have hBM := BM_of h m_q r_q
  have hPBn := hPB
  refine lv_aload_n F.1 F.2.1 dL_law_1029 rfl (lv_at hl 2 rfl) ?_
  refine lv_aload_n F.1 F.2.1 dL_law_1030 rfl (lv_at hl 3 rfl) ?_
  refine lv_iload_n F.1 F.2.1 dL_law_1031 rfl (lv_at hl 0 rfl) ?_
  refine tw_iconst F dL_law_1032 ki_1 (fun z1 hz1 => ?_)
  refine tu_iadd F dL_law_1033 (by omega) (fun z2 hz2 => ?_)
  refine va_sld F.1 F.2.1 hX0 hbl hbA h.dd.2.2 (tw_in (by omega) (by omega)) dL_law_1034 ?_
  refine lv_topi (fun z3 qz3 => ?_)
  refine lv_aload_n F.1 F.2.1 dL_law_1035 rfl (lv_at hl 3 rfl) ?_
  refine lv_iload_n F.1 F.2.1 dL_law_1036 rfl (lv_at hl 0 rfl) ?_
  refine tw_iconst F dL_law_1037 ki_2 (fun z4 hz4 => ?_)
  refine tu_iadd F dL_law_1038 (by omega) (fun z5 hz5 => ?_)
  refine va_sld F.1 F.2.1 hX0 hbl hbA h.dd.2.2 (tw_in (by omega) (by omega)) dL_law_1039 ?_
  refine lv_topi (fun z6 qz6 => ?_)
  refine lv_aload_n F.1 F.2.1 dL_law_1040 rfl (lv_at hl 3 rfl) ?_
  refine lv_iload_n F.1 F.2.1 dL_law_1041 rfl (lv_at hl 0 rfl) ?_
  refine tw_iconst F dL_law_1042 ki_3 (fun z7 hz7 => ?_)
  refine tu_iadd F dL_law_1043 (by omega) (fun z8 hz8 => ?_)
  refine va_sld F.1 F.2.1 hX0 hbl hbA h.dd.2.2 (tw_in (by omega) (by omega)) dL_law_1044 ?_
  refine lv_topi (fun z9 qz9 => ?_)
  refine tw_Vi (As := [.int z3, .int z6, .int z9]) F hZ h yk_X11_talk mw_1136 mw_1137 mw_1138 (s_X11_talk l D cy L R O f0 hI.2.2.2.1 q m_q r_q z3 z6 z9 hI.pi) rfl rfl m_q r_q (fun e q => (T_11 e).mp q) rfl hl.1 rfl (Nat.le_of_ble_eq_true rfl) ⟨Nat.le_of_ble_eq_true rfl, Nat.le_of_ble_eq_true rfl⟩ ⟨hcs, hsl⟩ dL_law_1045 (fun v11 f10 H locs hp10 h => ?_)
  obtain ⟨hf10, hv11p0⟩ := hp10
  have em12 : fi f10 q 11 = fi f0 q 11 := hf10.efi m_q r_q (by decide +kernel)
  have em13 : fi f10 rr 64 = fi f0 rr 64 := hf10.efi m_rr r_rr (by decide +kernel)
  have ek14 := BKc hBM hf10 m_q r_q (by decide +kernel) (by decide +kernel) (by decide +kernel) (by decide +kernel)
  have ek14b := ek14.1
  have ek14x := ek14.2 0 (by omega)
  have ek14y := ek14.2 1 (by omega)
  have ek14z := ek14.2 2 (by omega)
  have ej15 := hf10.eelj m_GA r_GA (by decide +kernel) 5159
  have ej16 := hf10.eelj m_GA r_GA (by decide +kernel) 10349
  have ej17 := hf10.eelj m_GA r_GA (by decide +kernel) 15539
  have ej18 := hf10.eelj m_GA r_GA (by decide +kernel) 20729
  have hPBn : PB P f10 q := hPBn.fr hBM hf10 m_q r_q (by decide +kernel) (by decide +kernel) (by decide +kernel)
  have hBM := BM_of h m_q r_q
  have hI : INV L R O P f10 q := hI.ko m_q r_q hf10 (by decide +kernel) (by decide +kernel) (by decide +kernel) (by decide +kernel) hv11p0
  have t_GA : fld f10 rr 0 = .ref GA := (hf10.efl m_rr r_rr (by decide +kernel)).trans t_GA
  have t_GP : fld f10 rr 22 = .ref GP := (hf10.efl m_rr r_rr (by decide +kernel)).trans t_GP
  have t_GL : fld f10 rr 23 = .ref GL := (hf10.efl m_rr r_rr (by decide +kernel)).trans t_GL
  have t_GT : fld f10 rr 6 = .ref GT := (hf10.efl m_rr r_rr (by decide +kernel)).trans t_GT
  have hR : RBA GA f10 := hR.fm hf10 m_GA r_GA (by decide +kernel)
  have hX : GZ GP GL f10 := hX.fm hf10 m_GP r_GP m_GL r_GL (by decide +kernel) (by decide +kernel)
  have hP : fld f10 (rfa f10 q 6) 16 = V := by rw [hf10.erf m_q r_q (by decide +kernel), hf10.efl hs6m hs6r (by decide +kernel)]; exact hP
  have hs6m : rfa f10 q 6 ∈ L := by rw [hf10.erf m_q r_q (by decide +kernel)]; exact hs6m
  have hs6r : R (rfa f10 q 6) = 7 := by rw [hf10.erf m_q r_q (by decide +kernel)]; exact hs6r
  refine lv_pop F.1 F.2.1 dL_law_1048 rfl ?_
  refine lv_aload_n F.1 F.2.1 dL_law_1049 rfl (lv_at hl 1 rfl) ?_
  refine lv_aload_n F.1 F.2.1 dL_law_1050 rfl (lv_at hl 3 rfl) ?_
  refine lv_iload_n F.1 F.2.1 dL_law_1051 rfl (lv_at hl 0 rfl) ?_
  refine tw_iconst F dL_law_1052 ki_1 (fun z19 hz19 => ?_)
  refine tu_iadd F dL_law_1053 (by omega) (fun z20 hz20 => ?_)
  refine va_sld F.1 F.2.1 hX0 hbl hbA h.dd.2.2 (tw_in (by omega) (by omega)) dL_law_1054 ?_
  refine lv_topi (fun z21 qz21 => ?_)
  obtain rfl : z3 = z21 := by rw [qz3, qz21, show z2 = z20 from Int32.toInt_inj.mp (by omega)]
  refine lv_aload_n F.1 F.2.1 dL_law_1055 rfl (lv_at hl 3 rfl) ?_
  refine lv_iload_n F.1 F.2.1 dL_law_1056 rfl (lv_at hl 0 rfl) ?_
  refine tw_iconst F dL_law_1057 ki_2 (fun z22 hz22 => ?_)
  refine tu_iadd F dL_law_1058 (by omega) (fun z23 hz23 => ?_)
  refine va_sld F.1 F.2.1 hX0 hbl hbA h.dd.2.2 (tw_in (by omega) (by omega)) dL_law_1059 ?_
  refine lv_topi (fun z24 qz24 => ?_)
  obtain rfl : z6 = z24 := by rw [qz6, qz24, show z5 = z23 from Int32.toInt_inj.mp (by omega)]
  refine lv_aload_n F.1 F.2.1 dL_law_1060 rfl (lv_at hl 3 rfl) ?_
  refine lv_iload_n F.1 F.2.1 dL_law_1061 rfl (lv_at hl 0 rfl) ?_
  refine tw_iconst F dL_law_1062 ki_3 (fun z25 hz25 => ?_)
  refine tu_iadd F dL_law_1063 (by omega) (fun z26 hz26 => ?_)
  refine va_sld F.1 F.2.1 hX0 hbl hbA h.dd.2.2 (tw_in (by omega) (by omega)) dL_law_1064 ?_
  refine lv_topi (fun z27 qz27 => ?_)
  obtain rfl : z9 = z27 := by rw [qz9, qz27, show z8 = z26 from Int32.toInt_inj.mp (by omega)]
  refine tw_Vi (As := [.int z3, .int z6, .int z9]) F hZ h yk_X12_talk mw_1179 mw_1180 mw_1181 (s_X12_talkC l D cy L R O f10 rr m_rr r_rr z3 z6 z9 GA m_GA r_GA t_GA GP m_GP r_GP t_GP GL m_GL r_GL t_GL GT m_GT r_GT t_GT hR hX) rfl rfl m_rr r_rr (fun e q => (T_12 e).mp q) rfl hl.1 rfl (Nat.le_of_ble_eq_true rfl) ⟨Nat.le_of_ble_eq_true rfl, Nat.le_of_ble_eq_true rfl⟩ ⟨hcs, hsl⟩ dL_law_1065 (fun v29 f28 H locs hp28 h => ?_)
  obtain ⟨hf28, hv29p0, hv29p1, hv29p2, hv29p3, hv29p4, hv29p5⟩ := hp28
  have em30 : fi f28 q 11 = fi f10 q 11 := hf28.efi m_q r_q (by decide +kernel)
  have em31 : fi f28 rr 64 = fi f10 rr 64 := hf28.efi m_rr r_rr (by decide +kernel)
  have ek32 := BKc hBM hf28 m_q r_q (by decide +kernel) (by decide +kernel) (by decide +kernel) (by decide +kernel)
  have ek32b := ek32.1
  have ek32x := ek32.2 0 (by omega)
  have ek32y := ek32.2 1 (by omega)
  have ek32z := ek32.2 2 (by omega)
  have hPBn : PB P f28 q := hPBn.fr hBM hf28 m_q r_q (by decide +kernel) (by decide +kernel) (by decide +kernel)
  have hBM := BM_of h m_q r_q
  have hI : INV L R O P f28 q := hI.most m_q r_q hf28 (by decide +kernel) (by decide +kernel) (by decide +kernel) (by decide +kernel) (by decide +kernel)
  have t_GA : fld f28 rr 0 = .ref GA := (hf28.efl m_rr r_rr (by decide +kernel)).trans t_GA
  have t_GP : fld f28 rr 22 = .ref GP := (hf28.efl m_rr r_rr (by decide +kernel)).trans t_GP
  have t_GL : fld f28 rr 23 = .ref GL := (hf28.efl m_rr r_rr (by decide +kernel)).trans t_GL
  have t_GT : fld f28 rr 6 = .ref GT := (hf28.efl m_rr r_rr (by decide +kernel)).trans t_GT
  have hR : RBA GA f28 := hv29p0
  have hX : GZ GP GL f28 := hv29p1
  have hP : fld f28 (rfa f28 q 6) 16 = V := by rw [hf28.erf m_q r_q (by decide +kernel), hf28.efl hs6m hs6r (by decide +kernel)]; exact hP
  have hs6m : rfa f28 q 6 ∈ L := by rw [hf28.erf m_q r_q (by decide +kernel)]; exact hs6m
  have hs6r : R (rfa f28 q 6) = 7 := by rw [hf28.erf m_q r_q (by decide +kernel)]; exact hs6r
  refine lv_pop F.1 F.2.1 dL_law_1068 rfl ?_
  refine lv_goto (tgt := 1755) F.1 F.2.1 dL_law_1069 (by decide) ?_
  exact kk f28 _ _ _ ⟨h, hI, ⟨t_GA, t_GP, t_GL, t_GT⟩, hR, hX, hP, by omega, by omega, by omega, by omega, by omega, hPBn⟩ hl
theorem dL_law_1072 : decode cL_law 1072 = .ok (.aload_n 1, 1) := by decide +kernel
theorem dL_law_1073 : decode cL_law 1073 = .ok (.aload_n 0, 1) := by decide +kernel
theorem dL_law_1074 : decode cL_law 1074 = .ok (.iload_n 3, 1) := by decide +kernel
theorem dL_law_1075 : decode cL_law 1075 = .ok (.iconst 1, 1) := by decide +kernel
theorem dL_law_1076 : decode cL_law 1076 = .ok (.iadd, 1) := by decide +kernel
theorem dL_law_1077 : decode cL_law 1077 = .ok (.iaload, 1) := by decide +kernel
theorem dL_law_1078 : decode cL_law 1078 = .ok (.aload_n 0, 1) := by decide +kernel
theorem dL_law_1079 : decode cL_law 1079 = .ok (.iload_n 3, 1) := by decide +kernel
theorem dL_law_1080 : decode cL_law 1080 = .ok (.iconst 2, 1) := by decide +kernel
theorem dL_law_1081 : decode cL_law 1081 = .ok (.iadd, 1) := by decide +kernel
theorem dL_law_1082 : decode cL_law 1082 = .ok (.iaload, 1) := by decide +kernel
theorem dL_law_1083 : decode cL_law 1083 = .ok (.invokevirtual 125, 3) := by decide +kernel
theorem mw_1195 : Cond.methodLink RL 125 yX11_spoken ∈ wsL_law := inr_50 _ (List.mem_of_getElem? (i := 19) rfl)
theorem mw_1198 : Cond.code yX11_spoken cX11_spoken 3 (some .long) ∈ wsL_law := inr_50 _ (List.mem_of_getElem? (i := 22) rfl)
theorem yk_X11_spoken : xY yX11_spoken RX11 cX11_spoken 3 (some .long) 2 := ⟨⟨rfl, by decide +kernel, by decide +kernel, by decide +kernel⟩, mw_2, mw_1198⟩
theorem mw_1196 : Cond.instanceMethod yX11_spoken ∈ wsL_law := inr_50 _ (List.mem_of_getElem? (i := 20) rfl)
theorem mw_1197 : Cond.selects RX11 yX11_spoken yX11_spoken ∈ wsL_law := inr_50 _ (List.mem_of_getElem? (i := 21) rfl)
theorem dL_law_1086 : decode cL_law 1086 = .ok (.pop2, 1) := by decide +kernel
theorem dL_law_1087 : decode cL_law 1087 = .ok (.aload_n 2, 1) := by decide +kernel
theorem dL_law_1088 : decode cL_law 1088 = .ok (.aload_n 0, 1) := by decide +kernel
theorem dL_law_1089 : decode cL_law 1089 = .ok (.iload_n 3, 1) := by decide +kernel
theorem dL_law_1090 : decode cL_law 1090 = .ok (.iconst 1, 1) := by decide +kernel
theorem dL_law_1091 : decode cL_law 1091 = .ok (.iadd, 1) := by decide +kernel
theorem dL_law_1092 : decode cL_law 1092 = .ok (.iaload, 1) := by decide +kernel
theorem dL_law_1093 : decode cL_law 1093 = .ok (.aload_n 0, 1) := by decide +kernel
theorem dL_law_1094 : decode cL_law 1094 = .ok (.iload_n 3, 1) := by decide +kernel
theorem dL_law_1095 : decode cL_law 1095 = .ok (.iconst 2, 1) := by decide +kernel
theorem dL_law_1096 : decode cL_law 1096 = .ok (.iadd, 1) := by decide +kernel
theorem dL_law_1097 : decode cL_law 1097 = .ok (.iaload, 1) := by decide +kernel
theorem dL_law_1098 : decode cL_law 1098 = .ok (.invokevirtual 128, 3) := by decide +kernel
theorem mw_1200 : Cond.methodLink RL 128 yX12_spoken ∈ wsL_law := inr_51 _ (List.mem_of_getElem? (i := 0) rfl)
theorem mw_1203 : Cond.code yX12_spoken cX12_spoken 3 (some .long) ∈ wsL_law := inr_51 _ (List.mem_of_getElem? (i := 3) rfl)
theorem yk_X12_spoken : xY yX12_spoken RX12 cX12_spoken 3 (some .long) 2 := ⟨⟨rfl, by decide +kernel, by decide +kernel, by decide +kernel⟩, mw_5, mw_1203⟩
theorem mw_1201 : Cond.instanceMethod yX12_spoken ∈ wsL_law := inr_51 _ (List.mem_of_getElem? (i := 1) rfl)
theorem mw_1202 : Cond.selects RX12 yX12_spoken yX12_spoken ∈ wsL_law := inr_51 _ (List.mem_of_getElem? (i := 2) rfl)
theorem dL_law_1101 : decode cL_law 1101 = .ok (.pop2, 1) := by decide +kernel
theorem dL_law_1102 : decode cL_law 1102 = .ok (.goto 653, 3) := by decide +kernel
set_option maxHeartbeats 4000000 in
set_option maxRecDepth 100000 in
theorem law_c24 {p : Program} {l : Launch} {e : Env} {s : State} {m : MethodId} {below : List Frame} {meth : Method} {c : Code} {H : Heap} {locs : List Loc} {Q : State → Prop} {D : va_G} {cy : Nat → ClassId} {A : Nat → Prop} {L : List Nat} {R O P : Nat → Nat} {f0 : Nat → va_E} {ls : Array Slot} {b N cs sl q rr GA GP GL GT : Nat} {xs : Nat → Int32} {V : Value} (F : CallFix p m c cL_law 4 s #[Value.ref b] wsL_law RL) (hZ : tZ A s s.heap) (hX0 : va_X b N xs s s.heap) (hbl : b < s.heap.size) (hbA : ¬ A b) (hcs : cs ≤ room_1.cells) (hsl : sl ≤ room_1.slots) (i : Int32) (bi : 0 ≤ i.toInt ∧ i.toInt + 6 ≤ N ∧ N ≤ 3072) (m_q : q ∈ L) (r_q : R q = 11) (m_rr : rr ∈ L) (r_rr : R rr = 12) (m_GA : GA ∈ L) (r_GA : R GA = 61) (m_GP : GP ∈ L) (r_GP : R GP = 69) (m_GL : GL ∈ L) (r_GL : R GL = 70) (m_GT : GT ∈ L) (r_GT : R GT = 64) (hLS : LWS D cy A s L R O P q rr GA GP GL GT V f0 H locs) (hl : lv_has ls 4 [(3, .int i), (2, .ref rr), (1, .ref q), (0, .ref b)]) (kk : ∀ (f1 : Nat → va_E) (H : Heap) (locs : List Loc) (ls : Array Slot), LWS D cy A s L R O P q rr GA GP GL GT V f1 H locs → lv_has ls 4 [(3, .int i), (2, .ref rr), (1, .ref q), (0, .ref b)] → W p l e room_1 s m #[Value.ref b] below meth c H locs cs sl Q (F0 m 1755 ls [])) : W p l e room_1 s m #[Value.ref b] below meth c H locs cs sl Q (F0 m 1072 ls []) := by
  obtain ⟨h, hI, ⟨t_GA, t_GP, t_GL, t_GT⟩, hR, hX, hP, hMK, hCB, hC0, hC1, hC2, hPB⟩ := hLS
  have hs6m := hI.2.2.1.1
  have hs6r := hI.2.2.1.2
  have hBM := BM_of h m_q r_q
  have hPBn := hPB
  refine lv_aload_n F.1 F.2.1 dL_law_1072 rfl (lv_at hl 2 rfl) ?_
  refine lv_aload_n F.1 F.2.1 dL_law_1073 rfl (lv_at hl 3 rfl) ?_
  refine lv_iload_n F.1 F.2.1 dL_law_1074 rfl (lv_at hl 0 rfl) ?_
  refine tw_iconst F dL_law_1075 ki_1 (fun z1 hz1 => ?_)
  refine tu_iadd F dL_law_1076 (by omega) (fun z2 hz2 => ?_)
  refine va_sld F.1 F.2.1 hX0 hbl hbA h.dd.2.2 (tw_in (by omega) (by omega)) dL_law_1077 ?_
  refine lv_topi (fun z3 qz3 => ?_)
  refine lv_aload_n F.1 F.2.1 dL_law_1078 rfl (lv_at hl 3 rfl) ?_
  refine lv_iload_n F.1 F.2.1 dL_law_1079 rfl (lv_at hl 0 rfl) ?_
  refine tw_iconst F dL_law_1080 ki_2 (fun z4 hz4 => ?_)
  refine tu_iadd F dL_law_1081 (by omega) (fun z5 hz5 => ?_)
  refine va_sld F.1 F.2.1 hX0 hbl hbA h.dd.2.2 (tw_in (by omega) (by omega)) dL_law_1082 ?_
  refine lv_topi (fun z6 qz6 => ?_)
  refine tw_Vl (As := [.int z3, .int z6]) F hZ h yk_X11_spoken mw_1195 mw_1196 mw_1197 (s_X11_spoken l D cy L R O f0 q m_q r_q z3 z6) rfl rfl m_q r_q (fun e q => (T_11 e).mp q) rfl hl.1 rfl (Nat.le_of_ble_eq_true rfl) ⟨Nat.le_of_ble_eq_true rfl, Nat.le_of_ble_eq_true rfl⟩ ⟨hcs, hsl⟩ dL_law_1083 (fun v8 f7 H locs hp7 h => ?_)
  have hf7 := hp7
  have em9 : fi f7 q 11 = fi f0 q 11 := hf7.efi m_q r_q (by decide +kernel)
  have em10 : fi f7 rr 64 = fi f0 rr 64 := hf7.efi m_rr r_rr (by decide +kernel)
  have ek11 := BKc hBM hf7 m_q r_q (by decide +kernel) (by decide +kernel) (by decide +kernel) (by decide +kernel)
  have ek11b := ek11.1
  have ek11x := ek11.2 0 (by omega)
  have ek11y := ek11.2 1 (by omega)
  have ek11z := ek11.2 2 (by omega)
  have ej12 := hf7.eelj m_GA r_GA (by decide +kernel) 5159
  have ej13 := hf7.eelj m_GA r_GA (by decide +kernel) 10349
  have ej14 := hf7.eelj m_GA r_GA (by decide +kernel) 15539
  have ej15 := hf7.eelj m_GA r_GA (by decide +kernel) 20729
  have hPBn : PB P f7 q := hPBn.fr hBM hf7 m_q r_q (by decide +kernel) (by decide +kernel) (by decide +kernel)
  have hBM := BM_of h m_q r_q
  have hI : INV L R O P f7 q := hI.most m_q r_q hf7 (by decide +kernel) (by decide +kernel) (by decide +kernel) (by decide +kernel) (by decide +kernel)
  have t_GA : fld f7 rr 0 = .ref GA := (hf7.efl m_rr r_rr (by decide +kernel)).trans t_GA
  have t_GP : fld f7 rr 22 = .ref GP := (hf7.efl m_rr r_rr (by decide +kernel)).trans t_GP
  have t_GL : fld f7 rr 23 = .ref GL := (hf7.efl m_rr r_rr (by decide +kernel)).trans t_GL
  have t_GT : fld f7 rr 6 = .ref GT := (hf7.efl m_rr r_rr (by decide +kernel)).trans t_GT
  have hR : RBA GA f7 := hR.fm hf7 m_GA r_GA (by decide +kernel)
  have hX : GZ GP GL f7 := hX.fm hf7 m_GP r_GP m_GL r_GL (by decide +kernel) (by decide +kernel)
  have hP : fld f7 (rfa f7 q 6) 16 = V := by rw [hf7.erf m_q r_q (by decide +kernel), hf7.efl hs6m hs6r (by decide +kernel)]; exact hP
  have hs6m : rfa f7 q 6 ∈ L := by rw [hf7.erf m_q r_q (by decide +kernel)]; exact hs6m
  have hs6r : R (rfa f7 q 6) = 7 := by rw [hf7.erf m_q r_q (by decide +kernel)]; exact hs6r
  refine lv_pop2_2 F.1 F.2.1 dL_law_1086 rfl ?_
  refine lv_aload_n F.1 F.2.1 dL_law_1087 rfl (lv_at hl 1 rfl) ?_
  refine lv_aload_n F.1 F.2.1 dL_law_1088 rfl (lv_at hl 3 rfl) ?_
  refine lv_iload_n F.1 F.2.1 dL_law_1089 rfl (lv_at hl 0 rfl) ?_
  refine tw_iconst F dL_law_1090 ki_1 (fun z16 hz16 => ?_)
  refine tu_iadd F dL_law_1091 (by omega) (fun z17 hz17 => ?_)
  refine va_sld F.1 F.2.1 hX0 hbl hbA h.dd.2.2 (tw_in (by omega) (by omega)) dL_law_1092 ?_
  refine lv_topi (fun z18 qz18 => ?_)
  obtain rfl : z3 = z18 := by rw [qz3, qz18, show z2 = z17 from Int32.toInt_inj.mp (by omega)]
  refine lv_aload_n F.1 F.2.1 dL_law_1093 rfl (lv_at hl 3 rfl) ?_
  refine lv_iload_n F.1 F.2.1 dL_law_1094 rfl (lv_at hl 0 rfl) ?_
  refine tw_iconst F dL_law_1095 ki_2 (fun z19 hz19 => ?_)
  refine tu_iadd F dL_law_1096 (by omega) (fun z20 hz20 => ?_)
  refine va_sld F.1 F.2.1 hX0 hbl hbA h.dd.2.2 (tw_in (by omega) (by omega)) dL_law_1097 ?_
  refine lv_topi (fun z21 qz21 => ?_)
  obtain rfl : z6 = z21 := by rw [qz6, qz21, show z5 = z20 from Int32.toInt_inj.mp (by omega)]
  refine tw_Vl (As := [.int z3, .int z6]) F hZ h yk_X12_spoken mw_1200 mw_1201 mw_1202 (s_X12_spoken l D cy L R O f7 rr m_rr r_rr z3 z6) rfl rfl m_rr r_rr (fun e q => (T_12 e).mp q) rfl hl.1 rfl (Nat.le_of_ble_eq_true rfl) ⟨Nat.le_of_ble_eq_true rfl, Nat.le_of_ble_eq_true rfl⟩ ⟨hcs, hsl⟩ dL_law_1098 (fun v23 f22 H locs hp22 h => ?_)
  have hf22 := hp22
  have em24 : fi f22 q 11 = fi f7 q 11 := hf22.efi m_q r_q (by decide +kernel)
  have em25 : fi f22 rr 64 = fi f7 rr 64 := hf22.efi m_rr r_rr (by decide +kernel)
  have ek26 := BKc hBM hf22 m_q r_q (by decide +kernel) (by decide +kernel) (by decide +kernel) (by decide +kernel)
  have ek26b := ek26.1
  have ek26x := ek26.2 0 (by omega)
  have ek26y := ek26.2 1 (by omega)
  have ek26z := ek26.2 2 (by omega)
  have ej27 := hf22.eelj m_GA r_GA (by decide +kernel) 5159
  have ej28 := hf22.eelj m_GA r_GA (by decide +kernel) 10349
  have ej29 := hf22.eelj m_GA r_GA (by decide +kernel) 15539
  have ej30 := hf22.eelj m_GA r_GA (by decide +kernel) 20729
  have hPBn : PB P f22 q := hPBn.fr hBM hf22 m_q r_q (by decide +kernel) (by decide +kernel) (by decide +kernel)
  have hBM := BM_of h m_q r_q
  have hI : INV L R O P f22 q := hI.most m_q r_q hf22 (by decide +kernel) (by decide +kernel) (by decide +kernel) (by decide +kernel) (by decide +kernel)
  have t_GA : fld f22 rr 0 = .ref GA := (hf22.efl m_rr r_rr (by decide +kernel)).trans t_GA
  have t_GP : fld f22 rr 22 = .ref GP := (hf22.efl m_rr r_rr (by decide +kernel)).trans t_GP
  have t_GL : fld f22 rr 23 = .ref GL := (hf22.efl m_rr r_rr (by decide +kernel)).trans t_GL
  have t_GT : fld f22 rr 6 = .ref GT := (hf22.efl m_rr r_rr (by decide +kernel)).trans t_GT
  have hR : RBA GA f22 := hR.fm hf22 m_GA r_GA (by decide +kernel)
  have hX : GZ GP GL f22 := hX.fm hf22 m_GP r_GP m_GL r_GL (by decide +kernel) (by decide +kernel)
  have hP : fld f22 (rfa f22 q 6) 16 = V := by rw [hf22.erf m_q r_q (by decide +kernel), hf22.efl hs6m hs6r (by decide +kernel)]; exact hP
  have hs6m : rfa f22 q 6 ∈ L := by rw [hf22.erf m_q r_q (by decide +kernel)]; exact hs6m
  have hs6r : R (rfa f22 q 6) = 7 := by rw [hf22.erf m_q r_q (by decide +kernel)]; exact hs6r
  refine lv_pop2_2 F.1 F.2.1 dL_law_1101 rfl ?_
  refine lv_goto (tgt := 1755) F.1 F.2.1 dL_law_1102 (by decide) ?_
  exact kk f22 _ _ _ ⟨h, hI, ⟨t_GA, t_GP, t_GL, t_GT⟩, hR, hX, hP, by omega, by omega, by omega, by omega, by omega, hPBn⟩ hl
theorem dL_law_1105 : decode cL_law 1105 = .ok (.aload_n 1, 1) := by decide +kernel
theorem dL_law_1106 : decode cL_law 1106 = .ok (.aload_n 0, 1) := by decide +kernel
theorem dL_law_1107 : decode cL_law 1107 = .ok (.iload_n 3, 1) := by decide +kernel
theorem dL_law_1108 : decode cL_law 1108 = .ok (.iconst 1, 1) := by decide +kernel
theorem dL_law_1109 : decode cL_law 1109 = .ok (.iadd, 1) := by decide +kernel
theorem dL_law_1110 : decode cL_law 1110 = .ok (.iaload, 1) := by decide +kernel
theorem dL_law_1111 : decode cL_law 1111 = .ok (.aload_n 0, 1) := by decide +kernel
theorem dL_law_1112 : decode cL_law 1112 = .ok (.iload_n 3, 1) := by decide +kernel
theorem dL_law_1113 : decode cL_law 1113 = .ok (.iconst 2, 1) := by decide +kernel
theorem dL_law_1114 : decode cL_law 1114 = .ok (.iadd, 1) := by decide +kernel
theorem dL_law_1115 : decode cL_law 1115 = .ok (.iaload, 1) := by decide +kernel
theorem dL_law_1116 : decode cL_law 1116 = .ok (.aload_n 0, 1) := by decide +kernel
theorem dL_law_1117 : decode cL_law 1117 = .ok (.iload_n 3, 1) := by decide +kernel
theorem dL_law_1118 : decode cL_law 1118 = .ok (.iconst 3, 1) := by decide +kernel
theorem dL_law_1119 : decode cL_law 1119 = .ok (.iadd, 1) := by decide +kernel
theorem dL_law_1120 : decode cL_law 1120 = .ok (.iaload, 1) := by decide +kernel
theorem dL_law_1121 : decode cL_law 1121 = .ok (.aload_n 0, 1) := by decide +kernel
theorem dL_law_1122 : decode cL_law 1122 = .ok (.iload_n 3, 1) := by decide +kernel
theorem dL_law_1123 : decode cL_law 1123 = .ok (.iconst 4, 1) := by decide +kernel
theorem dL_law_1124 : decode cL_law 1124 = .ok (.iadd, 1) := by decide +kernel
theorem dL_law_1125 : decode cL_law 1125 = .ok (.iaload, 1) := by decide +kernel
theorem dL_law_1126 : decode cL_law 1126 = .ok (.invokevirtual 129, 3) := by decide +kernel
theorem mw_1204 : Cond.methodLink RL 129 yX11_lead ∈ wsL_law := inr_51 _ (List.mem_of_getElem? (i := 4) rfl)
theorem mw_1207 : Cond.code yX11_lead cX11_lead 8 (some .int) ∈ wsL_law := inr_51 _ (List.mem_of_getElem? (i := 7) rfl)
theorem yk_X11_lead : xY yX11_lead RX11 cX11_lead 8 (some .int) 4 := ⟨⟨rfl, by decide +kernel, by decide +kernel, by decide +kernel⟩, mw_2, mw_1207⟩
theorem mw_1205 : Cond.instanceMethod yX11_lead ∈ wsL_law := inr_51 _ (List.mem_of_getElem? (i := 5) rfl)
theorem mw_1206 : Cond.selects RX11 yX11_lead yX11_lead ∈ wsL_law := inr_51 _ (List.mem_of_getElem? (i := 6) rfl)
theorem dL_law_1129 : decode cL_law 1129 = .ok (.pop, 1) := by decide +kernel
theorem dL_law_1130 : decode cL_law 1130 = .ok (.aload_n 2, 1) := by decide +kernel
theorem dL_law_1131 : decode cL_law 1131 = .ok (.aload_n 0, 1) := by decide +kernel
theorem dL_law_1132 : decode cL_law 1132 = .ok (.iload_n 3, 1) := by decide +kernel
theorem dL_law_1133 : decode cL_law 1133 = .ok (.iconst 1, 1) := by decide +kernel
theorem dL_law_1134 : decode cL_law 1134 = .ok (.iadd, 1) := by decide +kernel
theorem dL_law_1135 : decode cL_law 1135 = .ok (.iaload, 1) := by decide +kernel
theorem dL_law_1136 : decode cL_law 1136 = .ok (.aload_n 0, 1) := by decide +kernel
theorem dL_law_1137 : decode cL_law 1137 = .ok (.iload_n 3, 1) := by decide +kernel
theorem dL_law_1138 : decode cL_law 1138 = .ok (.iconst 2, 1) := by decide +kernel
theorem dL_law_1139 : decode cL_law 1139 = .ok (.iadd, 1) := by decide +kernel
theorem dL_law_1140 : decode cL_law 1140 = .ok (.iaload, 1) := by decide +kernel
theorem dL_law_1141 : decode cL_law 1141 = .ok (.aload_n 0, 1) := by decide +kernel
theorem dL_law_1142 : decode cL_law 1142 = .ok (.iload_n 3, 1) := by decide +kernel
theorem dL_law_1143 : decode cL_law 1143 = .ok (.iconst 3, 1) := by decide +kernel
theorem dL_law_1144 : decode cL_law 1144 = .ok (.iadd, 1) := by decide +kernel
theorem dL_law_1145 : decode cL_law 1145 = .ok (.iaload, 1) := by decide +kernel
theorem dL_law_1146 : decode cL_law 1146 = .ok (.aload_n 0, 1) := by decide +kernel
theorem dL_law_1147 : decode cL_law 1147 = .ok (.iload_n 3, 1) := by decide +kernel
theorem dL_law_1148 : decode cL_law 1148 = .ok (.iconst 4, 1) := by decide +kernel
theorem dL_law_1149 : decode cL_law 1149 = .ok (.iadd, 1) := by decide +kernel
theorem dL_law_1150 : decode cL_law 1150 = .ok (.iaload, 1) := by decide +kernel
theorem dL_law_1151 : decode cL_law 1151 = .ok (.invokevirtual 133, 3) := by decide +kernel
theorem mw_1227 : Cond.methodLink RL 133 yX12_lead ∈ wsL_law := inr_52 _ (List.mem_of_getElem? (i := 3) rfl)
theorem mw_1230 : Cond.code yX12_lead cX12_lead 11 (some .int) ∈ wsL_law := inr_52 _ (List.mem_of_getElem? (i := 6) rfl)
theorem yk_X12_lead : xY yX12_lead RX12 cX12_lead 11 (some .int) 4 := ⟨⟨rfl, by decide +kernel, by decide +kernel, by decide +kernel⟩, mw_5, mw_1230⟩
theorem mw_1228 : Cond.instanceMethod yX12_lead ∈ wsL_law := inr_52 _ (List.mem_of_getElem? (i := 4) rfl)
theorem mw_1229 : Cond.selects RX12 yX12_lead yX12_lead ∈ wsL_law := inr_52 _ (List.mem_of_getElem? (i := 5) rfl)
theorem dL_law_1154 : decode cL_law 1154 = .ok (.pop, 1) := by decide +kernel
theorem dL_law_1155 : decode cL_law 1155 = .ok (.goto 600, 3) := by decide +kernel
set_option maxHeartbeats 4000000 in
set_option maxRecDepth 100000 in
theorem law_c25 {p : Program} {l : Launch} {e : Env} {s : State} {m : MethodId} {below : List Frame} {meth : Method} {c : Code} {H : Heap} {locs : List Loc} {Q : State → Prop} {D : va_G} {cy : Nat → ClassId} {A : Nat → Prop} {L : List Nat} {R O P : Nat → Nat} {f0 : Nat → va_E} {ls : Array Slot} {b N cs sl q rr GA GP GL GT : Nat} {xs : Nat → Int32} {V : Value} (F : CallFix p m c cL_law 4 s #[Value.ref b] wsL_law RL) (hZ : tZ A s s.heap) (hX0 : va_X b N xs s s.heap) (hbl : b < s.heap.size) (hbA : ¬ A b) (hcs : cs ≤ room_1.cells) (hsl : sl ≤ room_1.slots) (i : Int32) (bi : 0 ≤ i.toInt ∧ i.toInt + 6 ≤ N ∧ N ≤ 3072) (m_q : q ∈ L) (r_q : R q = 11) (m_rr : rr ∈ L) (r_rr : R rr = 12) (m_GA : GA ∈ L) (r_GA : R GA = 61) (m_GP : GP ∈ L) (r_GP : R GP = 69) (m_GL : GL ∈ L) (r_GL : R GL = 70) (m_GT : GT ∈ L) (r_GT : R GT = 64) (hLS : LWS D cy A s L R O P q rr GA GP GL GT V f0 H locs) (hl : lv_has ls 4 [(3, .int i), (2, .ref rr), (1, .ref q), (0, .ref b)]) (kk : ∀ (f1 : Nat → va_E) (H : Heap) (locs : List Loc) (ls : Array Slot), LWS D cy A s L R O P q rr GA GP GL GT V f1 H locs → lv_has ls 4 [(3, .int i), (2, .ref rr), (1, .ref q), (0, .ref b)] → W p l e room_1 s m #[Value.ref b] below meth c H locs cs sl Q (F0 m 1755 ls [])) : W p l e room_1 s m #[Value.ref b] below meth c H locs cs sl Q (F0 m 1105 ls []) := by
  obtain ⟨h, hI, ⟨t_GA, t_GP, t_GL, t_GT⟩, hR, hX, hP, hMK, hCB, hC0, hC1, hC2, hPB⟩ := hLS
  have hs6m := hI.2.2.1.1
  have hs6r := hI.2.2.1.2
  have hBM := BM_of h m_q r_q
  have hPBn := hPB
  refine lv_aload_n F.1 F.2.1 dL_law_1105 rfl (lv_at hl 2 rfl) ?_
  refine lv_aload_n F.1 F.2.1 dL_law_1106 rfl (lv_at hl 3 rfl) ?_
  refine lv_iload_n F.1 F.2.1 dL_law_1107 rfl (lv_at hl 0 rfl) ?_
  refine tw_iconst F dL_law_1108 ki_1 (fun z1 hz1 => ?_)
  refine tu_iadd F dL_law_1109 (by omega) (fun z2 hz2 => ?_)
  refine va_sld F.1 F.2.1 hX0 hbl hbA h.dd.2.2 (tw_in (by omega) (by omega)) dL_law_1110 ?_
  refine lv_topi (fun z3 qz3 => ?_)
  refine lv_aload_n F.1 F.2.1 dL_law_1111 rfl (lv_at hl 3 rfl) ?_
  refine lv_iload_n F.1 F.2.1 dL_law_1112 rfl (lv_at hl 0 rfl) ?_
  refine tw_iconst F dL_law_1113 ki_2 (fun z4 hz4 => ?_)
  refine tu_iadd F dL_law_1114 (by omega) (fun z5 hz5 => ?_)
  refine va_sld F.1 F.2.1 hX0 hbl hbA h.dd.2.2 (tw_in (by omega) (by omega)) dL_law_1115 ?_
  refine lv_topi (fun z6 qz6 => ?_)
  refine lv_aload_n F.1 F.2.1 dL_law_1116 rfl (lv_at hl 3 rfl) ?_
  refine lv_iload_n F.1 F.2.1 dL_law_1117 rfl (lv_at hl 0 rfl) ?_
  refine tw_iconst F dL_law_1118 ki_3 (fun z7 hz7 => ?_)
  refine tu_iadd F dL_law_1119 (by omega) (fun z8 hz8 => ?_)
  refine va_sld F.1 F.2.1 hX0 hbl hbA h.dd.2.2 (tw_in (by omega) (by omega)) dL_law_1120 ?_
  refine lv_topi (fun z9 qz9 => ?_)
  refine lv_aload_n F.1 F.2.1 dL_law_1121 rfl (lv_at hl 3 rfl) ?_
  refine lv_iload_n F.1 F.2.1 dL_law_1122 rfl (lv_at hl 0 rfl) ?_
  refine tw_iconst F dL_law_1123 ki_4 (fun z10 hz10 => ?_)
  refine tu_iadd F dL_law_1124 (by omega) (fun z11 hz11 => ?_)
  refine va_sld F.1 F.2.1 hX0 hbl hbA h.dd.2.2 (tw_in (by omega) (by omega)) dL_law_1125 ?_
  refine lv_topi (fun z12 qz12 => ?_)
  refine tw_Vi (As := [.int z3, .int z6, .int z9, .int z12]) F hZ h yk_X11_lead mw_1204 mw_1205 mw_1206 (s_X11_lead l D cy L R O f0 hI.2.2.2.1 q m_q r_q z3 z6 z9 z12 hI.pi) rfl rfl m_q r_q (fun e q => (T_11 e).mp q) rfl hl.1 rfl (Nat.le_of_ble_eq_true rfl) ⟨Nat.le_of_ble_eq_true rfl, Nat.le_of_ble_eq_true rfl⟩ ⟨hcs, hsl⟩ dL_law_1126 (fun v14 f13 H locs hp13 h => ?_)
  obtain ⟨hf13, hv14p0⟩ := hp13
  have em15 : fi f13 q 11 = fi f0 q 11 := hf13.efi m_q r_q (by decide +kernel)
  have em16 : fi f13 rr 64 = fi f0 rr 64 := hf13.efi m_rr r_rr (by decide +kernel)
  have ek17 := BKc hBM hf13 m_q r_q (by decide +kernel) (by decide +kernel) (by decide +kernel) (by decide +kernel)
  have ek17b := ek17.1
  have ek17x := ek17.2 0 (by omega)
  have ek17y := ek17.2 1 (by omega)
  have ek17z := ek17.2 2 (by omega)
  have ej18 := hf13.eelj m_GA r_GA (by decide +kernel) 5159
  have ej19 := hf13.eelj m_GA r_GA (by decide +kernel) 10349
  have ej20 := hf13.eelj m_GA r_GA (by decide +kernel) 15539
  have ej21 := hf13.eelj m_GA r_GA (by decide +kernel) 20729
  have hPBn : PB P f13 q := hPBn.fr hBM hf13 m_q r_q (by decide +kernel) (by decide +kernel) (by decide +kernel)
  have hBM := BM_of h m_q r_q
  have hI : INV L R O P f13 q := hI.ko m_q r_q hf13 (by decide +kernel) (by decide +kernel) (by decide +kernel) (by decide +kernel) hv14p0
  have t_GA : fld f13 rr 0 = .ref GA := (hf13.efl m_rr r_rr (by decide +kernel)).trans t_GA
  have t_GP : fld f13 rr 22 = .ref GP := (hf13.efl m_rr r_rr (by decide +kernel)).trans t_GP
  have t_GL : fld f13 rr 23 = .ref GL := (hf13.efl m_rr r_rr (by decide +kernel)).trans t_GL
  have t_GT : fld f13 rr 6 = .ref GT := (hf13.efl m_rr r_rr (by decide +kernel)).trans t_GT
  have hR : RBA GA f13 := hR.fm hf13 m_GA r_GA (by decide +kernel)
  have hX : GZ GP GL f13 := hX.fm hf13 m_GP r_GP m_GL r_GL (by decide +kernel) (by decide +kernel)
  have hP : fld f13 (rfa f13 q 6) 16 = V := by rw [hf13.erf m_q r_q (by decide +kernel), hf13.efl hs6m hs6r (by decide +kernel)]; exact hP
  have hs6m : rfa f13 q 6 ∈ L := by rw [hf13.erf m_q r_q (by decide +kernel)]; exact hs6m
  have hs6r : R (rfa f13 q 6) = 7 := by rw [hf13.erf m_q r_q (by decide +kernel)]; exact hs6r
  refine lv_pop F.1 F.2.1 dL_law_1129 rfl ?_
  refine lv_aload_n F.1 F.2.1 dL_law_1130 rfl (lv_at hl 1 rfl) ?_
  refine lv_aload_n F.1 F.2.1 dL_law_1131 rfl (lv_at hl 3 rfl) ?_
  refine lv_iload_n F.1 F.2.1 dL_law_1132 rfl (lv_at hl 0 rfl) ?_
  refine tw_iconst F dL_law_1133 ki_1 (fun z22 hz22 => ?_)
  refine tu_iadd F dL_law_1134 (by omega) (fun z23 hz23 => ?_)
  refine va_sld F.1 F.2.1 hX0 hbl hbA h.dd.2.2 (tw_in (by omega) (by omega)) dL_law_1135 ?_
  refine lv_topi (fun z24 qz24 => ?_)
  obtain rfl : z3 = z24 := by rw [qz3, qz24, show z2 = z23 from Int32.toInt_inj.mp (by omega)]
  refine lv_aload_n F.1 F.2.1 dL_law_1136 rfl (lv_at hl 3 rfl) ?_
  refine lv_iload_n F.1 F.2.1 dL_law_1137 rfl (lv_at hl 0 rfl) ?_
  refine tw_iconst F dL_law_1138 ki_2 (fun z25 hz25 => ?_)
  refine tu_iadd F dL_law_1139 (by omega) (fun z26 hz26 => ?_)
  refine va_sld F.1 F.2.1 hX0 hbl hbA h.dd.2.2 (tw_in (by omega) (by omega)) dL_law_1140 ?_
  refine lv_topi (fun z27 qz27 => ?_)
  obtain rfl : z6 = z27 := by rw [qz6, qz27, show z5 = z26 from Int32.toInt_inj.mp (by omega)]
  refine lv_aload_n F.1 F.2.1 dL_law_1141 rfl (lv_at hl 3 rfl) ?_
  refine lv_iload_n F.1 F.2.1 dL_law_1142 rfl (lv_at hl 0 rfl) ?_
  refine tw_iconst F dL_law_1143 ki_3 (fun z28 hz28 => ?_)
  refine tu_iadd F dL_law_1144 (by omega) (fun z29 hz29 => ?_)
  refine va_sld F.1 F.2.1 hX0 hbl hbA h.dd.2.2 (tw_in (by omega) (by omega)) dL_law_1145 ?_
  refine lv_topi (fun z30 qz30 => ?_)
  obtain rfl : z9 = z30 := by rw [qz9, qz30, show z8 = z29 from Int32.toInt_inj.mp (by omega)]
  refine lv_aload_n F.1 F.2.1 dL_law_1146 rfl (lv_at hl 3 rfl) ?_
  refine lv_iload_n F.1 F.2.1 dL_law_1147 rfl (lv_at hl 0 rfl) ?_
  refine tw_iconst F dL_law_1148 ki_4 (fun z31 hz31 => ?_)
  refine tu_iadd F dL_law_1149 (by omega) (fun z32 hz32 => ?_)
  refine va_sld F.1 F.2.1 hX0 hbl hbA h.dd.2.2 (tw_in (by omega) (by omega)) dL_law_1150 ?_
  refine lv_topi (fun z33 qz33 => ?_)
  obtain rfl : z12 = z33 := by rw [qz12, qz33, show z11 = z32 from Int32.toInt_inj.mp (by omega)]
  refine tw_Vi (As := [.int z3, .int z6, .int z9, .int z12]) F hZ h yk_X12_lead mw_1227 mw_1228 mw_1229 (s_X12_leadC l D cy L R O f13 rr m_rr r_rr z3 z6 z9 z12 GA m_GA r_GA t_GA GP m_GP r_GP t_GP GL m_GL r_GL t_GL GT m_GT r_GT t_GT hR hX) rfl rfl m_rr r_rr (fun e q => (T_12 e).mp q) rfl hl.1 rfl (Nat.le_of_ble_eq_true rfl) ⟨Nat.le_of_ble_eq_true rfl, Nat.le_of_ble_eq_true rfl⟩ ⟨hcs, hsl⟩ dL_law_1151 (fun v35 f34 H locs hp34 h => ?_)
  obtain ⟨hf34, hv35p0, hv35p1, hv35p2, hv35p3, hv35p4, hv35p5⟩ := hp34
  have em36 : fi f34 q 11 = fi f13 q 11 := hf34.efi m_q r_q (by decide +kernel)
  have em37 : fi f34 rr 64 = fi f13 rr 64 := hf34.efi m_rr r_rr (by decide +kernel)
  have ek38 := BKc hBM hf34 m_q r_q (by decide +kernel) (by decide +kernel) (by decide +kernel) (by decide +kernel)
  have ek38b := ek38.1
  have ek38x := ek38.2 0 (by omega)
  have ek38y := ek38.2 1 (by omega)
  have ek38z := ek38.2 2 (by omega)
  have hPBn : PB P f34 q := hPBn.fr hBM hf34 m_q r_q (by decide +kernel) (by decide +kernel) (by decide +kernel)
  have hBM := BM_of h m_q r_q
  have hI : INV L R O P f34 q := hI.most m_q r_q hf34 (by decide +kernel) (by decide +kernel) (by decide +kernel) (by decide +kernel) (by decide +kernel)
  have t_GA : fld f34 rr 0 = .ref GA := (hf34.efl m_rr r_rr (by decide +kernel)).trans t_GA
  have t_GP : fld f34 rr 22 = .ref GP := (hf34.efl m_rr r_rr (by decide +kernel)).trans t_GP
  have t_GL : fld f34 rr 23 = .ref GL := (hf34.efl m_rr r_rr (by decide +kernel)).trans t_GL
  have t_GT : fld f34 rr 6 = .ref GT := (hf34.efl m_rr r_rr (by decide +kernel)).trans t_GT
  have hR : RBA GA f34 := hv35p0
  have hX : GZ GP GL f34 := hv35p1
  have hP : fld f34 (rfa f34 q 6) 16 = V := by rw [hf34.erf m_q r_q (by decide +kernel), hf34.efl hs6m hs6r (by decide +kernel)]; exact hP
  have hs6m : rfa f34 q 6 ∈ L := by rw [hf34.erf m_q r_q (by decide +kernel)]; exact hs6m
  have hs6r : R (rfa f34 q 6) = 7 := by rw [hf34.erf m_q r_q (by decide +kernel)]; exact hs6r
  refine lv_pop F.1 F.2.1 dL_law_1154 rfl ?_
  refine lv_goto (tgt := 1755) F.1 F.2.1 dL_law_1155 (by decide) ?_
  exact kk f34 _ _ _ ⟨h, hI, ⟨t_GA, t_GP, t_GL, t_GT⟩, hR, hX, hP, by omega, by omega, by omega, by omega, by omega, hPBn⟩ hl
theorem dL_law_1158 : decode cL_law 1158 = .ok (.aload_n 1, 1) := by decide +kernel
theorem dL_law_1159 : decode cL_law 1159 = .ok (.aload_n 0, 1) := by decide +kernel
theorem dL_law_1160 : decode cL_law 1160 = .ok (.iload_n 3, 1) := by decide +kernel
theorem dL_law_1161 : decode cL_law 1161 = .ok (.iconst 1, 1) := by decide +kernel
theorem dL_law_1162 : decode cL_law 1162 = .ok (.iadd, 1) := by decide +kernel
theorem dL_law_1163 : decode cL_law 1163 = .ok (.iaload, 1) := by decide +kernel
theorem dL_law_1164 : decode cL_law 1164 = .ok (.invokevirtual 134, 3) := by decide +kernel
theorem mw_1236 : Cond.methodLink RL 134 yX11_led ∈ wsL_law := inr_52 _ (List.mem_of_getElem? (i := 12) rfl)
theorem mw_1239 : Cond.code yX11_led cX11_led 2 (some .int) ∈ wsL_law := inr_52 _ (List.mem_of_getElem? (i := 15) rfl)
theorem yk_X11_led : xY yX11_led RX11 cX11_led 2 (some .int) 1 := ⟨⟨rfl, by decide +kernel, by decide +kernel, by decide +kernel⟩, mw_2, mw_1239⟩
theorem mw_1237 : Cond.instanceMethod yX11_led ∈ wsL_law := inr_52 _ (List.mem_of_getElem? (i := 13) rfl)
theorem mw_1238 : Cond.selects RX11 yX11_led yX11_led ∈ wsL_law := inr_52 _ (List.mem_of_getElem? (i := 14) rfl)
theorem dL_law_1167 : decode cL_law 1167 = .ok (.pop, 1) := by decide +kernel
theorem dL_law_1168 : decode cL_law 1168 = .ok (.aload_n 2, 1) := by decide +kernel
theorem dL_law_1169 : decode cL_law 1169 = .ok (.aload_n 0, 1) := by decide +kernel
theorem dL_law_1170 : decode cL_law 1170 = .ok (.iload_n 3, 1) := by decide +kernel
theorem dL_law_1171 : decode cL_law 1171 = .ok (.iconst 1, 1) := by decide +kernel
theorem dL_law_1172 : decode cL_law 1172 = .ok (.iadd, 1) := by decide +kernel
theorem dL_law_1173 : decode cL_law 1173 = .ok (.iaload, 1) := by decide +kernel
theorem dL_law_1174 : decode cL_law 1174 = .ok (.invokevirtual 137, 3) := by decide +kernel
theorem mw_1240 : Cond.methodLink RL 137 yX12_led ∈ wsL_law := inr_52 _ (List.mem_of_getElem? (i := 16) rfl)
theorem mw_1243 : Cond.code yX12_led cX12_led 2 (some .int) ∈ wsL_law := inr_52 _ (List.mem_of_getElem? (i := 19) rfl)
theorem yk_X12_led : xY yX12_led RX12 cX12_led 2 (some .int) 1 := ⟨⟨rfl, by decide +kernel, by decide +kernel, by decide +kernel⟩, mw_5, mw_1243⟩
theorem mw_1241 : Cond.instanceMethod yX12_led ∈ wsL_law := inr_52 _ (List.mem_of_getElem? (i := 17) rfl)
theorem mw_1242 : Cond.selects RX12 yX12_led yX12_led ∈ wsL_law := inr_52 _ (List.mem_of_getElem? (i := 18) rfl)
theorem dL_law_1177 : decode cL_law 1177 = .ok (.pop, 1) := by decide +kernel
theorem dL_law_1178 : decode cL_law 1178 = .ok (.goto 577, 3) := by decide +kernel
set_option maxHeartbeats 4000000 in
set_option maxRecDepth 100000 in
theorem law_c26 {p : Program} {l : Launch} {e : Env} {s : State} {m : MethodId} {below : List Frame} {meth : Method} {c : Code} {H : Heap} {locs : List Loc} {Q : State → Prop} {D : va_G} {cy : Nat → ClassId} {A : Nat → Prop} {L : List Nat} {R O P : Nat → Nat} {f0 : Nat → va_E} {ls : Array Slot} {b N cs sl q rr GA GP GL GT : Nat} {xs : Nat → Int32} {V : Value} (F : CallFix p m c cL_law 4 s #[Value.ref b] wsL_law RL) (hZ : tZ A s s.heap) (hX0 : va_X b N xs s s.heap) (hbl : b < s.heap.size) (hbA : ¬ A b) (hcs : cs ≤ room_1.cells) (hsl : sl ≤ room_1.slots) (i : Int32) (bi : 0 ≤ i.toInt ∧ i.toInt + 6 ≤ N ∧ N ≤ 3072) (m_q : q ∈ L) (r_q : R q = 11) (m_rr : rr ∈ L) (r_rr : R rr = 12) (m_GA : GA ∈ L) (r_GA : R GA = 61) (m_GP : GP ∈ L) (r_GP : R GP = 69) (m_GL : GL ∈ L) (r_GL : R GL = 70) (m_GT : GT ∈ L) (r_GT : R GT = 64) (hLS : LWS D cy A s L R O P q rr GA GP GL GT V f0 H locs) (hl : lv_has ls 4 [(3, .int i), (2, .ref rr), (1, .ref q), (0, .ref b)]) (kk : ∀ (f1 : Nat → va_E) (H : Heap) (locs : List Loc) (ls : Array Slot), LWS D cy A s L R O P q rr GA GP GL GT V f1 H locs → lv_has ls 4 [(3, .int i), (2, .ref rr), (1, .ref q), (0, .ref b)] → W p l e room_1 s m #[Value.ref b] below meth c H locs cs sl Q (F0 m 1755 ls [])) : W p l e room_1 s m #[Value.ref b] below meth c H locs cs sl Q (F0 m 1158 ls []) := by
  obtain ⟨h, hI, ⟨t_GA, t_GP, t_GL, t_GT⟩, hR, hX, hP, hMK, hCB, hC0, hC1, hC2, hPB⟩ := hLS
  have hs6m := hI.2.2.1.1
  have hs6r := hI.2.2.1.2
  have hBM := BM_of h m_q r_q
  have hPBn := hPB
  refine lv_aload_n F.1 F.2.1 dL_law_1158 rfl (lv_at hl 2 rfl) ?_
  refine lv_aload_n F.1 F.2.1 dL_law_1159 rfl (lv_at hl 3 rfl) ?_
  refine lv_iload_n F.1 F.2.1 dL_law_1160 rfl (lv_at hl 0 rfl) ?_
  refine tw_iconst F dL_law_1161 ki_1 (fun z1 hz1 => ?_)
  refine tu_iadd F dL_law_1162 (by omega) (fun z2 hz2 => ?_)
  refine va_sld F.1 F.2.1 hX0 hbl hbA h.dd.2.2 (tw_in (by omega) (by omega)) dL_law_1163 ?_
  refine lv_topi (fun z3 qz3 => ?_)
  refine tw_Vi (As := [.int z3]) F hZ h yk_X11_led mw_1236 mw_1237 mw_1238 (s_X11_led l D cy L R O f0 q m_q r_q z3) rfl rfl m_q r_q (fun e q => (T_11 e).mp q) rfl hl.1 rfl (Nat.le_of_ble_eq_true rfl) ⟨Nat.le_of_ble_eq_true rfl, Nat.le_of_ble_eq_true rfl⟩ ⟨hcs, hsl⟩ dL_law_1164 (fun v5 f4 H locs hp4 h => ?_)
  have hf4 := hp4
  have em6 : fi f4 q 11 = fi f0 q 11 := hf4.efi m_q r_q (by decide +kernel)
  have em7 : fi f4 rr 64 = fi f0 rr 64 := hf4.efi m_rr r_rr (by decide +kernel)
  have ek8 := BKc hBM hf4 m_q r_q (by decide +kernel) (by decide +kernel) (by decide +kernel) (by decide +kernel)
  have ek8b := ek8.1
  have ek8x := ek8.2 0 (by omega)
  have ek8y := ek8.2 1 (by omega)
  have ek8z := ek8.2 2 (by omega)
  have ej9 := hf4.eelj m_GA r_GA (by decide +kernel) 5159
  have ej10 := hf4.eelj m_GA r_GA (by decide +kernel) 10349
  have ej11 := hf4.eelj m_GA r_GA (by decide +kernel) 15539
  have ej12 := hf4.eelj m_GA r_GA (by decide +kernel) 20729
  have hPBn : PB P f4 q := hPBn.fr hBM hf4 m_q r_q (by decide +kernel) (by decide +kernel) (by decide +kernel)
  have hBM := BM_of h m_q r_q
  have hI : INV L R O P f4 q := hI.most m_q r_q hf4 (by decide +kernel) (by decide +kernel) (by decide +kernel) (by decide +kernel) (by decide +kernel)
  have t_GA : fld f4 rr 0 = .ref GA := (hf4.efl m_rr r_rr (by decide +kernel)).trans t_GA
  have t_GP : fld f4 rr 22 = .ref GP := (hf4.efl m_rr r_rr (by decide +kernel)).trans t_GP
  have t_GL : fld f4 rr 23 = .ref GL := (hf4.efl m_rr r_rr (by decide +kernel)).trans t_GL
  have t_GT : fld f4 rr 6 = .ref GT := (hf4.efl m_rr r_rr (by decide +kernel)).trans t_GT
  have hR : RBA GA f4 := hR.fm hf4 m_GA r_GA (by decide +kernel)
  have hX : GZ GP GL f4 := hX.fm hf4 m_GP r_GP m_GL r_GL (by decide +kernel) (by decide +kernel)
  have hP : fld f4 (rfa f4 q 6) 16 = V := by rw [hf4.erf m_q r_q (by decide +kernel), hf4.efl hs6m hs6r (by decide +kernel)]; exact hP
  have hs6m : rfa f4 q 6 ∈ L := by rw [hf4.erf m_q r_q (by decide +kernel)]; exact hs6m
  have hs6r : R (rfa f4 q 6) = 7 := by rw [hf4.erf m_q r_q (by decide +kernel)]; exact hs6r
  refine lv_pop F.1 F.2.1 dL_law_1167 rfl ?_
  refine lv_aload_n F.1 F.2.1 dL_law_1168 rfl (lv_at hl 1 rfl) ?_
  refine lv_aload_n F.1 F.2.1 dL_law_1169 rfl (lv_at hl 3 rfl) ?_
  refine lv_iload_n F.1 F.2.1 dL_law_1170 rfl (lv_at hl 0 rfl) ?_
  refine tw_iconst F dL_law_1171 ki_1 (fun z13 hz13 => ?_)
  refine tu_iadd F dL_law_1172 (by omega) (fun z14 hz14 => ?_)
  refine va_sld F.1 F.2.1 hX0 hbl hbA h.dd.2.2 (tw_in (by omega) (by omega)) dL_law_1173 ?_
  refine lv_topi (fun z15 qz15 => ?_)
  obtain rfl : z3 = z15 := by rw [qz3, qz15, show z2 = z14 from Int32.toInt_inj.mp (by omega)]
  refine tw_Vi (As := [.int z3]) F hZ h yk_X12_led mw_1240 mw_1241 mw_1242 (s_X12_led l D cy L R O f4 rr m_rr r_rr z3) rfl rfl m_rr r_rr (fun e q => (T_12 e).mp q) rfl hl.1 rfl (Nat.le_of_ble_eq_true rfl) ⟨Nat.le_of_ble_eq_true rfl, Nat.le_of_ble_eq_true rfl⟩ ⟨hcs, hsl⟩ dL_law_1174 (fun v17 f16 H locs hp16 h => ?_)
  have hf16 := hp16
  have em18 : fi f16 q 11 = fi f4 q 11 := hf16.efi m_q r_q (by decide +kernel)
  have em19 : fi f16 rr 64 = fi f4 rr 64 := hf16.efi m_rr r_rr (by decide +kernel)
  have ek20 := BKc hBM hf16 m_q r_q (by decide +kernel) (by decide +kernel) (by decide +kernel) (by decide +kernel)
  have ek20b := ek20.1
  have ek20x := ek20.2 0 (by omega)
  have ek20y := ek20.2 1 (by omega)
  have ek20z := ek20.2 2 (by omega)
  have ej21 := hf16.eelj m_GA r_GA (by decide +kernel) 5159
  have ej22 := hf16.eelj m_GA r_GA (by decide +kernel) 10349
  have ej23 := hf16.eelj m_GA r_GA (by decide +kernel) 15539
  have ej24 := hf16.eelj m_GA r_GA (by decide +kernel) 20729
  have hPBn : PB P f16 q := hPBn.fr hBM hf16 m_q r_q (by decide +kernel) (by decide +kernel) (by decide +kernel)
  have hBM := BM_of h m_q r_q
  have hI : INV L R O P f16 q := hI.most m_q r_q hf16 (by decide +kernel) (by decide +kernel) (by decide +kernel) (by decide +kernel) (by decide +kernel)
  have t_GA : fld f16 rr 0 = .ref GA := (hf16.efl m_rr r_rr (by decide +kernel)).trans t_GA
  have t_GP : fld f16 rr 22 = .ref GP := (hf16.efl m_rr r_rr (by decide +kernel)).trans t_GP
  have t_GL : fld f16 rr 23 = .ref GL := (hf16.efl m_rr r_rr (by decide +kernel)).trans t_GL
  have t_GT : fld f16 rr 6 = .ref GT := (hf16.efl m_rr r_rr (by decide +kernel)).trans t_GT
  have hR : RBA GA f16 := hR.fm hf16 m_GA r_GA (by decide +kernel)
  have hX : GZ GP GL f16 := hX.fm hf16 m_GP r_GP m_GL r_GL (by decide +kernel) (by decide +kernel)
  have hP : fld f16 (rfa f16 q 6) 16 = V := by rw [hf16.erf m_q r_q (by decide +kernel), hf16.efl hs6m hs6r (by decide +kernel)]; exact hP
  have hs6m : rfa f16 q 6 ∈ L := by rw [hf16.erf m_q r_q (by decide +kernel)]; exact hs6m
  have hs6r : R (rfa f16 q 6) = 7 := by rw [hf16.erf m_q r_q (by decide +kernel)]; exact hs6r
  refine lv_pop F.1 F.2.1 dL_law_1177 rfl ?_
  refine lv_goto (tgt := 1755) F.1 F.2.1 dL_law_1178 (by decide) ?_
  exact kk f16 _ _ _ ⟨h, hI, ⟨t_GA, t_GP, t_GL, t_GT⟩, hR, hX, hP, by omega, by omega, by omega, by omega, by omega, hPBn⟩ hl
theorem dL_law_1234 : decode cL_law 1234 = .ok (.aload_n 1, 1) := by decide +kernel
theorem dL_law_1235 : decode cL_law 1235 = .ok (.aload_n 0, 1) := by decide +kernel
theorem dL_law_1236 : decode cL_law 1236 = .ok (.iload_n 3, 1) := by decide +kernel
theorem dL_law_1237 : decode cL_law 1237 = .ok (.iconst 1, 1) := by decide +kernel
theorem dL_law_1238 : decode cL_law 1238 = .ok (.iadd, 1) := by decide +kernel
theorem dL_law_1239 : decode cL_law 1239 = .ok (.iaload, 1) := by decide +kernel
theorem dL_law_1240 : decode cL_law 1240 = .ok (.invokevirtual 142, 3) := by decide +kernel
theorem mw_1315 : Cond.methodLink RL 142 yX11_ring ∈ wsL_law := inr_55 _ (List.mem_of_getElem? (i := 19) rfl)
theorem mw_1318 : Cond.code yX11_ring cX11_ring 2 (some .int) ∈ wsL_law := inr_55 _ (List.mem_of_getElem? (i := 22) rfl)
theorem yk_X11_ring : xY yX11_ring RX11 cX11_ring 2 (some .int) 1 := ⟨⟨rfl, by decide +kernel, by decide +kernel, by decide +kernel⟩, mw_2, mw_1318⟩
theorem mw_1316 : Cond.instanceMethod yX11_ring ∈ wsL_law := inr_55 _ (List.mem_of_getElem? (i := 20) rfl)
theorem mw_1317 : Cond.selects RX11 yX11_ring yX11_ring ∈ wsL_law := inr_55 _ (List.mem_of_getElem? (i := 21) rfl)
theorem dL_law_1243 : decode cL_law 1243 = .ok (.pop, 1) := by decide +kernel
theorem dL_law_1244 : decode cL_law 1244 = .ok (.aload_n 2, 1) := by decide +kernel
theorem dL_law_1245 : decode cL_law 1245 = .ok (.aload_n 0, 1) := by decide +kernel
theorem dL_law_1246 : decode cL_law 1246 = .ok (.iload_n 3, 1) := by decide +kernel
theorem dL_law_1247 : decode cL_law 1247 = .ok (.iconst 1, 1) := by decide +kernel
theorem dL_law_1248 : decode cL_law 1248 = .ok (.iadd, 1) := by decide +kernel
theorem dL_law_1249 : decode cL_law 1249 = .ok (.iaload, 1) := by decide +kernel
theorem dL_law_1250 : decode cL_law 1250 = .ok (.invokevirtual 145, 3) := by decide +kernel
theorem mw_1321 : Cond.methodLink RL 145 yX12_ring ∈ wsL_law := inr_56 _ (List.mem_of_getElem? (i := 1) rfl)
theorem mw_1324 : Cond.code yX12_ring cX12_ring 2 (some .int) ∈ wsL_law := inr_56 _ (List.mem_of_getElem? (i := 4) rfl)
theorem yk_X12_ring : xY yX12_ring RX12 cX12_ring 2 (some .int) 1 := ⟨⟨rfl, by decide +kernel, by decide +kernel, by decide +kernel⟩, mw_5, mw_1324⟩
theorem mw_1322 : Cond.instanceMethod yX12_ring ∈ wsL_law := inr_56 _ (List.mem_of_getElem? (i := 2) rfl)
theorem mw_1323 : Cond.selects RX12 yX12_ring yX12_ring ∈ wsL_law := inr_56 _ (List.mem_of_getElem? (i := 3) rfl)
theorem dL_law_1253 : decode cL_law 1253 = .ok (.pop, 1) := by decide +kernel
theorem dL_law_1254 : decode cL_law 1254 = .ok (.goto 501, 3) := by decide +kernel
set_option maxHeartbeats 4000000 in
set_option maxRecDepth 100000 in
theorem law_c28 {p : Program} {l : Launch} {e : Env} {s : State} {m : MethodId} {below : List Frame} {meth : Method} {c : Code} {H : Heap} {locs : List Loc} {Q : State → Prop} {D : va_G} {cy : Nat → ClassId} {A : Nat → Prop} {L : List Nat} {R O P : Nat → Nat} {f0 : Nat → va_E} {ls : Array Slot} {b N cs sl q rr GA GP GL GT : Nat} {xs : Nat → Int32} {V : Value} (F : CallFix p m c cL_law 4 s #[Value.ref b] wsL_law RL) (hZ : tZ A s s.heap) (hX0 : va_X b N xs s s.heap) (hbl : b < s.heap.size) (hbA : ¬ A b) (hcs : cs ≤ room_1.cells) (hsl : sl ≤ room_1.slots) (i : Int32) (bi : 0 ≤ i.toInt ∧ i.toInt + 6 ≤ N ∧ N ≤ 3072) (m_q : q ∈ L) (r_q : R q = 11) (m_rr : rr ∈ L) (r_rr : R rr = 12) (m_GA : GA ∈ L) (r_GA : R GA = 61) (m_GP : GP ∈ L) (r_GP : R GP = 69) (m_GL : GL ∈ L) (r_GL : R GL = 70) (m_GT : GT ∈ L) (r_GT : R GT = 64) (hLS : LWS D cy A s L R O P q rr GA GP GL GT V f0 H locs) (hl : lv_has ls 4 [(3, .int i), (2, .ref rr), (1, .ref q), (0, .ref b)]) (kk : ∀ (f1 : Nat → va_E) (H : Heap) (locs : List Loc) (ls : Array Slot), LWS D cy A s L R O P q rr GA GP GL GT V f1 H locs → lv_has ls 4 [(3, .int i), (2, .ref rr), (1, .ref q), (0, .ref b)] → W p l e room_1 s m #[Value.ref b] below meth c H locs cs sl Q (F0 m 1755 ls [])) : W p l e room_1 s m #[Value.ref b] below meth c H locs cs sl Q (F0 m 1234 ls []) := by
  obtain ⟨h, hI, ⟨t_GA, t_GP, t_GL, t_GT⟩, hR, hX, hP, hMK, hCB, hC0, hC1, hC2, hPB⟩ := hLS
  have hs6m := hI.2.2.1.1
  have hs6r := hI.2.2.1.2
  have hBM := BM_of h m_q r_q
  have hPBn := hPB
  refine lv_aload_n F.1 F.2.1 dL_law_1234 rfl (lv_at hl 2 rfl) ?_
  refine lv_aload_n F.1 F.2.1 dL_law_1235 rfl (lv_at hl 3 rfl) ?_
  refine lv_iload_n F.1 F.2.1 dL_law_1236 rfl (lv_at hl 0 rfl) ?_
  refine tw_iconst F dL_law_1237 ki_1 (fun z1 hz1 => ?_)
  refine tu_iadd F dL_law_1238 (by omega) (fun z2 hz2 => ?_)
  refine va_sld F.1 F.2.1 hX0 hbl hbA h.dd.2.2 (tw_in (by omega) (by omega)) dL_law_1239 ?_
  refine lv_topi (fun z3 qz3 => ?_)
  refine tw_Vi (As := [.int z3]) F hZ h yk_X11_ring mw_1315 mw_1316 mw_1317 (s_X11_ring l D cy L R O f0 q m_q r_q z3) rfl rfl m_q r_q (fun e q => (T_11 e).mp q) rfl hl.1 rfl (Nat.le_of_ble_eq_true rfl) ⟨Nat.le_of_ble_eq_true rfl, Nat.le_of_ble_eq_true rfl⟩ ⟨hcs, hsl⟩ dL_law_1240 (fun v5 f4 H locs hp4 h => ?_)
  have hf4 := hp4
  have em6 : fi f4 q 11 = fi f0 q 11 := hf4.efi m_q r_q (by decide +kernel)
  have em7 : fi f4 rr 64 = fi f0 rr 64 := hf4.efi m_rr r_rr (by decide +kernel)
  have ek8 := BKc hBM hf4 m_q r_q (by decide +kernel) (by decide +kernel) (by decide +kernel) (by decide +kernel)
  have ek8b := ek8.1
  have ek8x := ek8.2 0 (by omega)
  have ek8y := ek8.2 1 (by omega)
  have ek8z := ek8.2 2 (by omega)
  have ej9 := hf4.eelj m_GA r_GA (by decide +kernel) 5159
  have ej10 := hf4.eelj m_GA r_GA (by decide +kernel) 10349
  have ej11 := hf4.eelj m_GA r_GA (by decide +kernel) 15539
  have ej12 := hf4.eelj m_GA r_GA (by decide +kernel) 20729
  have hPBn : PB P f4 q := hPBn.fr hBM hf4 m_q r_q (by decide +kernel) (by decide +kernel) (by decide +kernel)
  have hBM := BM_of h m_q r_q
  have hI : INV L R O P f4 q := hI.most m_q r_q hf4 (by decide +kernel) (by decide +kernel) (by decide +kernel) (by decide +kernel) (by decide +kernel)
  have t_GA : fld f4 rr 0 = .ref GA := (hf4.efl m_rr r_rr (by decide +kernel)).trans t_GA
  have t_GP : fld f4 rr 22 = .ref GP := (hf4.efl m_rr r_rr (by decide +kernel)).trans t_GP
  have t_GL : fld f4 rr 23 = .ref GL := (hf4.efl m_rr r_rr (by decide +kernel)).trans t_GL
  have t_GT : fld f4 rr 6 = .ref GT := (hf4.efl m_rr r_rr (by decide +kernel)).trans t_GT
  have hR : RBA GA f4 := hR.fm hf4 m_GA r_GA (by decide +kernel)
  have hX : GZ GP GL f4 := hX.fm hf4 m_GP r_GP m_GL r_GL (by decide +kernel) (by decide +kernel)
  have hP : fld f4 (rfa f4 q 6) 16 = V := by rw [hf4.erf m_q r_q (by decide +kernel), hf4.efl hs6m hs6r (by decide +kernel)]; exact hP
  have hs6m : rfa f4 q 6 ∈ L := by rw [hf4.erf m_q r_q (by decide +kernel)]; exact hs6m
  have hs6r : R (rfa f4 q 6) = 7 := by rw [hf4.erf m_q r_q (by decide +kernel)]; exact hs6r
  refine lv_pop F.1 F.2.1 dL_law_1243 rfl ?_
  refine lv_aload_n F.1 F.2.1 dL_law_1244 rfl (lv_at hl 1 rfl) ?_
  refine lv_aload_n F.1 F.2.1 dL_law_1245 rfl (lv_at hl 3 rfl) ?_
  refine lv_iload_n F.1 F.2.1 dL_law_1246 rfl (lv_at hl 0 rfl) ?_
  refine tw_iconst F dL_law_1247 ki_1 (fun z13 hz13 => ?_)
  refine tu_iadd F dL_law_1248 (by omega) (fun z14 hz14 => ?_)
  refine va_sld F.1 F.2.1 hX0 hbl hbA h.dd.2.2 (tw_in (by omega) (by omega)) dL_law_1249 ?_
  refine lv_topi (fun z15 qz15 => ?_)
  obtain rfl : z3 = z15 := by rw [qz3, qz15, show z2 = z14 from Int32.toInt_inj.mp (by omega)]
  refine tw_Vi (As := [.int z3]) F hZ h yk_X12_ring mw_1321 mw_1322 mw_1323 (s_X12_ring l D cy L R O f4 rr m_rr r_rr z3) rfl rfl m_rr r_rr (fun e q => (T_12 e).mp q) rfl hl.1 rfl (Nat.le_of_ble_eq_true rfl) ⟨Nat.le_of_ble_eq_true rfl, Nat.le_of_ble_eq_true rfl⟩ ⟨hcs, hsl⟩ dL_law_1250 (fun v17 f16 H locs hp16 h => ?_)
  have hf16 := hp16
  have em18 : fi f16 q 11 = fi f4 q 11 := hf16.efi m_q r_q (by decide +kernel)
  have em19 : fi f16 rr 64 = fi f4 rr 64 := hf16.efi m_rr r_rr (by decide +kernel)
  have ek20 := BKc hBM hf16 m_q r_q (by decide +kernel) (by decide +kernel) (by decide +kernel) (by decide +kernel)
  have ek20b := ek20.1
  have ek20x := ek20.2 0 (by omega)
  have ek20y := ek20.2 1 (by omega)
  have ek20z := ek20.2 2 (by omega)
  have ej21 := hf16.eelj m_GA r_GA (by decide +kernel) 5159
  have ej22 := hf16.eelj m_GA r_GA (by decide +kernel) 10349
  have ej23 := hf16.eelj m_GA r_GA (by decide +kernel) 15539
  have ej24 := hf16.eelj m_GA r_GA (by decide +kernel) 20729
  have hPBn : PB P f16 q := hPBn.fr hBM hf16 m_q r_q (by decide +kernel) (by decide +kernel) (by decide +kernel)
  have hBM := BM_of h m_q r_q
  have hI : INV L R O P f16 q := hI.most m_q r_q hf16 (by decide +kernel) (by decide +kernel) (by decide +kernel) (by decide +kernel) (by decide +kernel)
  have t_GA : fld f16 rr 0 = .ref GA := (hf16.efl m_rr r_rr (by decide +kernel)).trans t_GA
  have t_GP : fld f16 rr 22 = .ref GP := (hf16.efl m_rr r_rr (by decide +kernel)).trans t_GP
  have t_GL : fld f16 rr 23 = .ref GL := (hf16.efl m_rr r_rr (by decide +kernel)).trans t_GL
  have t_GT : fld f16 rr 6 = .ref GT := (hf16.efl m_rr r_rr (by decide +kernel)).trans t_GT
  have hR : RBA GA f16 := hR.fm hf16 m_GA r_GA (by decide +kernel)
  have hX : GZ GP GL f16 := hX.fm hf16 m_GP r_GP m_GL r_GL (by decide +kernel) (by decide +kernel)
  have hP : fld f16 (rfa f16 q 6) 16 = V := by rw [hf16.erf m_q r_q (by decide +kernel), hf16.efl hs6m hs6r (by decide +kernel)]; exact hP
  have hs6m : rfa f16 q 6 ∈ L := by rw [hf16.erf m_q r_q (by decide +kernel)]; exact hs6m
  have hs6r : R (rfa f16 q 6) = 7 := by rw [hf16.erf m_q r_q (by decide +kernel)]; exact hs6r
  refine lv_pop F.1 F.2.1 dL_law_1253 rfl ?_
  refine lv_goto (tgt := 1755) F.1 F.2.1 dL_law_1254 (by decide) ?_
  exact kk f16 _ _ _ ⟨h, hI, ⟨t_GA, t_GP, t_GL, t_GT⟩, hR, hX, hP, by omega, by omega, by omega, by omega, by omega, hPBn⟩ hl
theorem dL_law_1257 : decode cL_law 1257 = .ok (.aload_n 1, 1) := by decide +kernel
theorem dL_law_1258 : decode cL_law 1258 = .ok (.aload_n 0, 1) := by decide +kernel
theorem dL_law_1259 : decode cL_law 1259 = .ok (.iload_n 3, 1) := by decide +kernel
theorem dL_law_1260 : decode cL_law 1260 = .ok (.iconst 1, 1) := by decide +kernel
theorem dL_law_1261 : decode cL_law 1261 = .ok (.iadd, 1) := by decide +kernel
theorem dL_law_1262 : decode cL_law 1262 = .ok (.iaload, 1) := by decide +kernel
theorem dL_law_1263 : decode cL_law 1263 = .ok (.i2l, 1) := by decide +kernel
theorem dL_law_1264 : decode cL_law 1264 = .ok (.bipush 32, 2) := by decide +kernel
theorem dL_law_1266 : decode cL_law 1266 = .ok (.lshl, 1) := by decide +kernel
theorem dL_law_1267 : decode cL_law 1267 = .ok (.aload_n 0, 1) := by decide +kernel
theorem dL_law_1268 : decode cL_law 1268 = .ok (.iload_n 3, 1) := by decide +kernel
theorem dL_law_1269 : decode cL_law 1269 = .ok (.iconst 2, 1) := by decide +kernel
theorem dL_law_1270 : decode cL_law 1270 = .ok (.iadd, 1) := by decide +kernel
theorem dL_law_1271 : decode cL_law 1271 = .ok (.iaload, 1) := by decide +kernel
theorem dL_law_1272 : decode cL_law 1272 = .ok (.i2l, 1) := by decide +kernel
theorem dL_law_1273 : decode cL_law 1273 = .ok (.ldc2_w 32, 3) := by decide +kernel
theorem dL_law_1276 : decode cL_law 1276 = .ok (.land, 1) := by decide +kernel
theorem dL_law_1277 : decode cL_law 1277 = .ok (.lor, 1) := by decide +kernel
theorem dL_law_1278 : decode cL_law 1278 = .ok (.aload_n 0, 1) := by decide +kernel
theorem dL_law_1279 : decode cL_law 1279 = .ok (.iload_n 3, 1) := by decide +kernel
theorem dL_law_1280 : decode cL_law 1280 = .ok (.iconst 3, 1) := by decide +kernel
theorem dL_law_1281 : decode cL_law 1281 = .ok (.iadd, 1) := by decide +kernel
theorem dL_law_1282 : decode cL_law 1282 = .ok (.iaload, 1) := by decide +kernel
theorem dL_law_1283 : decode cL_law 1283 = .ok (.i2l, 1) := by decide +kernel
theorem dL_law_1284 : decode cL_law 1284 = .ok (.bipush 32, 2) := by decide +kernel
theorem dL_law_1286 : decode cL_law 1286 = .ok (.lshl, 1) := by decide +kernel
theorem dL_law_1287 : decode cL_law 1287 = .ok (.aload_n 0, 1) := by decide +kernel
theorem dL_law_1288 : decode cL_law 1288 = .ok (.iload_n 3, 1) := by decide +kernel
theorem dL_law_1289 : decode cL_law 1289 = .ok (.iconst 4, 1) := by decide +kernel
theorem dL_law_1290 : decode cL_law 1290 = .ok (.iadd, 1) := by decide +kernel
theorem dL_law_1291 : decode cL_law 1291 = .ok (.iaload, 1) := by decide +kernel
theorem dL_law_1292 : decode cL_law 1292 = .ok (.i2l, 1) := by decide +kernel
theorem dL_law_1293 : decode cL_law 1293 = .ok (.ldc2_w 32, 3) := by decide +kernel
theorem dL_law_1296 : decode cL_law 1296 = .ok (.land, 1) := by decide +kernel
theorem dL_law_1297 : decode cL_law 1297 = .ok (.lor, 1) := by decide +kernel
theorem dL_law_1298 : decode cL_law 1298 = .ok (.invokevirtual 146, 3) := by decide +kernel
theorem mw_1325 : Cond.methodLink RL 146 yX11_broken ∈ wsL_law := inr_56 _ (List.mem_of_getElem? (i := 5) rfl)
theorem mw_1328 : Cond.code yX11_broken cX11_broken 5 (some .int) ∈ wsL_law := inr_56 _ (List.mem_of_getElem? (i := 8) rfl)
theorem yk_X11_broken : xY yX11_broken RX11 cX11_broken 5 (some .int) 2 := ⟨⟨rfl, by decide +kernel, by decide +kernel, by decide +kernel⟩, mw_2, mw_1328⟩
theorem mw_1326 : Cond.instanceMethod yX11_broken ∈ wsL_law := inr_56 _ (List.mem_of_getElem? (i := 6) rfl)
theorem mw_1327 : Cond.selects RX11 yX11_broken yX11_broken ∈ wsL_law := inr_56 _ (List.mem_of_getElem? (i := 7) rfl)
theorem dL_law_1301 : decode cL_law 1301 = .ok (.aload_n 2, 1) := by decide +kernel
theorem dL_law_1302 : decode cL_law 1302 = .ok (.aload_n 0, 1) := by decide +kernel
theorem dL_law_1303 : decode cL_law 1303 = .ok (.iload_n 3, 1) := by decide +kernel
theorem dL_law_1304 : decode cL_law 1304 = .ok (.iconst 1, 1) := by decide +kernel
theorem dL_law_1305 : decode cL_law 1305 = .ok (.iadd, 1) := by decide +kernel
theorem dL_law_1306 : decode cL_law 1306 = .ok (.iaload, 1) := by decide +kernel
theorem dL_law_1307 : decode cL_law 1307 = .ok (.i2l, 1) := by decide +kernel
theorem dL_law_1308 : decode cL_law 1308 = .ok (.bipush 32, 2) := by decide +kernel
theorem dL_law_1310 : decode cL_law 1310 = .ok (.lshl, 1) := by decide +kernel
theorem dL_law_1311 : decode cL_law 1311 = .ok (.aload_n 0, 1) := by decide +kernel
theorem dL_law_1312 : decode cL_law 1312 = .ok (.iload_n 3, 1) := by decide +kernel
theorem dL_law_1313 : decode cL_law 1313 = .ok (.iconst 2, 1) := by decide +kernel
theorem dL_law_1314 : decode cL_law 1314 = .ok (.iadd, 1) := by decide +kernel
theorem dL_law_1315 : decode cL_law 1315 = .ok (.iaload, 1) := by decide +kernel
theorem dL_law_1316 : decode cL_law 1316 = .ok (.i2l, 1) := by decide +kernel
theorem dL_law_1317 : decode cL_law 1317 = .ok (.ldc2_w 32, 3) := by decide +kernel
theorem dL_law_1320 : decode cL_law 1320 = .ok (.land, 1) := by decide +kernel
theorem dL_law_1321 : decode cL_law 1321 = .ok (.lor, 1) := by decide +kernel
theorem dL_law_1322 : decode cL_law 1322 = .ok (.aload_n 0, 1) := by decide +kernel
theorem dL_law_1323 : decode cL_law 1323 = .ok (.iload_n 3, 1) := by decide +kernel
theorem dL_law_1324 : decode cL_law 1324 = .ok (.iconst 3, 1) := by decide +kernel
theorem dL_law_1325 : decode cL_law 1325 = .ok (.iadd, 1) := by decide +kernel
theorem dL_law_1326 : decode cL_law 1326 = .ok (.iaload, 1) := by decide +kernel
theorem dL_law_1327 : decode cL_law 1327 = .ok (.i2l, 1) := by decide +kernel
theorem dL_law_1328 : decode cL_law 1328 = .ok (.bipush 32, 2) := by decide +kernel
theorem dL_law_1330 : decode cL_law 1330 = .ok (.lshl, 1) := by decide +kernel
theorem dL_law_1331 : decode cL_law 1331 = .ok (.aload_n 0, 1) := by decide +kernel
theorem dL_law_1332 : decode cL_law 1332 = .ok (.iload_n 3, 1) := by decide +kernel
theorem dL_law_1333 : decode cL_law 1333 = .ok (.iconst 4, 1) := by decide +kernel
theorem dL_law_1334 : decode cL_law 1334 = .ok (.iadd, 1) := by decide +kernel
theorem dL_law_1335 : decode cL_law 1335 = .ok (.iaload, 1) := by decide +kernel
theorem dL_law_1336 : decode cL_law 1336 = .ok (.i2l, 1) := by decide +kernel
theorem dL_law_1337 : decode cL_law 1337 = .ok (.ldc2_w 32, 3) := by decide +kernel
theorem dL_law_1340 : decode cL_law 1340 = .ok (.land, 1) := by decide +kernel
theorem dL_law_1341 : decode cL_law 1341 = .ok (.lor, 1) := by decide +kernel
theorem dL_law_1342 : decode cL_law 1342 = .ok (.invokevirtual 150, 3) := by decide +kernel
theorem mw_1333 : Cond.methodLink RL 150 yX12_broken ∈ wsL_law := inr_56 _ (List.mem_of_getElem? (i := 13) rfl)
theorem mw_1336 : Cond.code yX12_broken cX12_broken 6 (some .int) ∈ wsL_law := inr_56 _ (List.mem_of_getElem? (i := 16) rfl)
theorem yk_X12_broken : xY yX12_broken RX12 cX12_broken 6 (some .int) 2 := ⟨⟨rfl, by decide +kernel, by decide +kernel, by decide +kernel⟩, mw_5, mw_1336⟩
theorem mw_1334 : Cond.instanceMethod yX12_broken ∈ wsL_law := inr_56 _ (List.mem_of_getElem? (i := 14) rfl)
theorem mw_1335 : Cond.selects RX12 yX12_broken yX12_broken ∈ wsL_law := inr_56 _ (List.mem_of_getElem? (i := 15) rfl)
theorem dL_law_1345 : decode cL_law 1345 = .ok (.if_icmp .eq 410, 3) := by decide +kernel
set_option maxHeartbeats 4000000 in
set_option maxRecDepth 100000 in
theorem law_c29 {p : Program} {l : Launch} {e : Env} {s : State} {m : MethodId} {below : List Frame} {meth : Method} {c : Code} {H : Heap} {locs : List Loc} {Q : State → Prop} {D : va_G} {cy : Nat → ClassId} {A : Nat → Prop} {L : List Nat} {R O P : Nat → Nat} {f0 : Nat → va_E} {ls : Array Slot} {b N cs sl q rr GA GP GL GT : Nat} {xs : Nat → Int32} {V : Value} (F : CallFix p m c cL_law 4 s #[Value.ref b] wsL_law RL) (hZ : tZ A s s.heap) (hX0 : va_X b N xs s s.heap) (hbl : b < s.heap.size) (hbA : ¬ A b) (hcs : cs ≤ room_1.cells) (hsl : sl ≤ room_1.slots) (i : Int32) (bi : 0 ≤ i.toInt ∧ i.toInt + 6 ≤ N ∧ N ≤ 3072) (m_q : q ∈ L) (r_q : R q = 11) (m_rr : rr ∈ L) (r_rr : R rr = 12) (m_GA : GA ∈ L) (r_GA : R GA = 61) (m_GP : GP ∈ L) (r_GP : R GP = 69) (m_GL : GL ∈ L) (r_GL : R GL = 70) (m_GT : GT ∈ L) (r_GT : R GT = 64) (hLS : LWS D cy A s L R O P q rr GA GP GL GT V f0 H locs) (hl : lv_has ls 4 [(3, .int i), (2, .ref rr), (1, .ref q), (0, .ref b)]) (kk : ∀ (f1 : Nat → va_E) (H : Heap) (locs : List Loc) (ls : Array Slot), LWS D cy A s L R O P q rr GA GP GL GT V f1 H locs → lv_has ls 4 [(3, .int i), (2, .ref rr), (1, .ref q), (0, .ref b)] → W p l e room_1 s m #[Value.ref b] below meth c H locs cs sl Q (F0 m 1755 ls [])) : W p l e room_1 s m #[Value.ref b] below meth c H locs cs sl Q (F0 m 1257 ls []) := by
  obtain ⟨h, hI, ⟨t_GA, t_GP, t_GL, t_GT⟩, hR, hX, hP, hMK, hCB, hC0, hC1, hC2, hPB⟩ := hLS
  have hs6m := hI.2.2.1.1
  have hs6r := hI.2.2.1.2
  have hBM := BM_of h m_q r_q
  have hPBn := hPB
  refine lv_aload_n F.1 F.2.1 dL_law_1257 rfl (lv_at hl 2 rfl) ?_
  refine lv_aload_n F.1 F.2.1 dL_law_1258 rfl (lv_at hl 3 rfl) ?_
  refine lv_iload_n F.1 F.2.1 dL_law_1259 rfl (lv_at hl 0 rfl) ?_
  refine tw_iconst F dL_law_1260 ki_1 (fun z1 hz1 => ?_)
  refine tu_iadd F dL_law_1261 (by omega) (fun z2 hz2 => ?_)
  refine va_sld F.1 F.2.1 hX0 hbl hbA h.dd.2.2 (tw_in (by omega) (by omega)) dL_law_1262 ?_
  refine lv_topi (fun z3 qz3 => ?_)
  refine lv_i2l F.1 F.2.1 dL_law_1263 rfl ?_
  refine lv_topl (fun z4 qz4 => ?_)
  refine tw_bipush F dL_law_1264 kb_32 (fun z5 hz5 => ?_)
  refine lv_lshl F.1 F.2.1 dL_law_1266 rfl ?_
  refine lv_topl (fun z6 qz6 => ?_)
  refine lv_aload_n F.1 F.2.1 dL_law_1267 rfl (lv_at hl 3 rfl) ?_
  refine lv_iload_n F.1 F.2.1 dL_law_1268 rfl (lv_at hl 0 rfl) ?_
  refine tw_iconst F dL_law_1269 ki_2 (fun z7 hz7 => ?_)
  refine tu_iadd F dL_law_1270 (by omega) (fun z8 hz8 => ?_)
  refine va_sld F.1 F.2.1 hX0 hbl hbA h.dd.2.2 (tw_in (by omega) (by omega)) dL_law_1271 ?_
  refine lv_topi (fun z9 qz9 => ?_)
  refine lv_i2l F.1 F.2.1 dL_law_1272 rfl ?_
  refine lv_topl (fun z10 qz10 => ?_)
  refine lv_ldc2 F.1 F.2.1 F.2.2.2.1 (F.2.2.2.2 _ mw_6) dL_law_1273 ?_
  refine lv_topl (fun z11 qz11 => ?_)
  refine lv_land F.1 F.2.1 dL_law_1276 ?_
  refine lv_topl (fun z12 qz12 => ?_)
  refine lv_lor F.1 F.2.1 dL_law_1277 ?_
  refine lv_topl (fun z13 qz13 => ?_)
  refine lv_aload_n F.1 F.2.1 dL_law_1278 rfl (lv_at hl 3 rfl) ?_
  refine lv_iload_n F.1 F.2.1 dL_law_1279 rfl (lv_at hl 0 rfl) ?_
  refine tw_iconst F dL_law_1280 ki_3 (fun z14 hz14 => ?_)
  refine tu_iadd F dL_law_1281 (by omega) (fun z15 hz15 => ?_)
  refine va_sld F.1 F.2.1 hX0 hbl hbA h.dd.2.2 (tw_in (by omega) (by omega)) dL_law_1282 ?_
  refine lv_topi (fun z16 qz16 => ?_)
  refine lv_i2l F.1 F.2.1 dL_law_1283 rfl ?_
  refine lv_topl (fun z17 qz17 => ?_)
  refine tw_bipush F dL_law_1284 kb_32 (fun z18 hz18 => ?_)
  obtain rfl : z5 = z18 := Int32.toInt_inj.mp (by omega)
  refine lv_lshl F.1 F.2.1 dL_law_1286 rfl ?_
  refine lv_topl (fun z19 qz19 => ?_)
  refine lv_aload_n F.1 F.2.1 dL_law_1287 rfl (lv_at hl 3 rfl) ?_
  refine lv_iload_n F.1 F.2.1 dL_law_1288 rfl (lv_at hl 0 rfl) ?_
  refine tw_iconst F dL_law_1289 ki_4 (fun z20 hz20 => ?_)
  refine tu_iadd F dL_law_1290 (by omega) (fun z21 hz21 => ?_)
  refine va_sld F.1 F.2.1 hX0 hbl hbA h.dd.2.2 (tw_in (by omega) (by omega)) dL_law_1291 ?_
  refine lv_topi (fun z22 qz22 => ?_)
  refine lv_i2l F.1 F.2.1 dL_law_1292 rfl ?_
  refine lv_topl (fun z23 qz23 => ?_)
  refine lv_ldc2 F.1 F.2.1 F.2.2.2.1 (F.2.2.2.2 _ mw_6) dL_law_1293 ?_
  refine lv_topl (fun z24 qz24 => ?_)
  obtain rfl : z11 = z24 := by rw [qz11, qz24]
  refine lv_land F.1 F.2.1 dL_law_1296 ?_
  refine lv_topl (fun z25 qz25 => ?_)
  refine lv_lor F.1 F.2.1 dL_law_1297 ?_
  refine lv_topl (fun z26 qz26 => ?_)
  refine tw_Vi (As := [.long z13, .long z26]) F hZ h yk_X11_broken mw_1325 mw_1326 mw_1327 (s_X11_brokenC l D cy L R O f0 q m_q r_q z13 z26 P hPBn) rfl rfl m_q r_q (fun e q => (T_11 e).mp q) rfl hl.1 rfl (Nat.le_of_ble_eq_true rfl) ⟨Nat.le_of_ble_eq_true rfl, Nat.le_of_ble_eq_true rfl⟩ ⟨hcs, hsl⟩ dL_law_1298 (fun v28 f27 H locs hp27 h => ?_)
  obtain ⟨hf27, hv28p0, hv28p1⟩ := hp27
  have em29 : fi f27 q 11 = fi f0 q 11 := hf27.efi m_q r_q (by decide +kernel)
  have em30 : fi f27 rr 64 = fi f0 rr 64 := hf27.efi m_rr r_rr (by decide +kernel)
  have ej31 := hf27.eelj m_GA r_GA (by decide +kernel) 5159
  have ej32 := hf27.eelj m_GA r_GA (by decide +kernel) 10349
  have ej33 := hf27.eelj m_GA r_GA (by decide +kernel) 15539
  have ej34 := hf27.eelj m_GA r_GA (by decide +kernel) 20729
  have hPBn : PB P f27 q := hPBn.fr hBM hf27 m_q r_q (by decide +kernel) (by decide +kernel) (by decide +kernel)
  have hBM := BM_of h m_q r_q
  have hI : INV L R O P f27 q := hI.most m_q r_q hf27 (by decide +kernel) (by decide +kernel) (by decide +kernel) (by decide +kernel) (by decide +kernel)
  have t_GA : fld f27 rr 0 = .ref GA := (hf27.efl m_rr r_rr (by decide +kernel)).trans t_GA
  have t_GP : fld f27 rr 22 = .ref GP := (hf27.efl m_rr r_rr (by decide +kernel)).trans t_GP
  have t_GL : fld f27 rr 23 = .ref GL := (hf27.efl m_rr r_rr (by decide +kernel)).trans t_GL
  have t_GT : fld f27 rr 6 = .ref GT := (hf27.efl m_rr r_rr (by decide +kernel)).trans t_GT
  have hR : RBA GA f27 := hR.fm hf27 m_GA r_GA (by decide +kernel)
  have hX : GZ GP GL f27 := hX.fm hf27 m_GP r_GP m_GL r_GL (by decide +kernel) (by decide +kernel)
  have hP : fld f27 (rfa f27 q 6) 16 = V := by rw [hf27.erf m_q r_q (by decide +kernel), hf27.efl hs6m hs6r (by decide +kernel)]; exact hP
  have hs6m : rfa f27 q 6 ∈ L := by rw [hf27.erf m_q r_q (by decide +kernel)]; exact hs6m
  have hs6r : R (rfa f27 q 6) = 7 := by rw [hf27.erf m_q r_q (by decide +kernel)]; exact hs6r
  refine lv_aload_n F.1 F.2.1 dL_law_1301 rfl (lv_at hl 1 rfl) ?_
  refine lv_aload_n F.1 F.2.1 dL_law_1302 rfl (lv_at hl 3 rfl) ?_
  refine lv_iload_n F.1 F.2.1 dL_law_1303 rfl (lv_at hl 0 rfl) ?_
  refine tw_iconst F dL_law_1304 ki_1 (fun z35 hz35 => ?_)
  refine tu_iadd F dL_law_1305 (by omega) (fun z36 hz36 => ?_)
  refine va_sld F.1 F.2.1 hX0 hbl hbA h.dd.2.2 (tw_in (by omega) (by omega)) dL_law_1306 ?_
  refine lv_topi (fun z37 qz37 => ?_)
  obtain rfl : z3 = z37 := by rw [qz3, qz37, show z2 = z36 from Int32.toInt_inj.mp (by omega)]
  refine lv_i2l F.1 F.2.1 dL_law_1307 rfl ?_
  refine lv_topl (fun z38 qz38 => ?_)
  obtain rfl : z4 = z38 := by rw [qz4, qz38]
  refine tw_bipush F dL_law_1308 kb_32 (fun z39 hz39 => ?_)
  obtain rfl : z5 = z39 := Int32.toInt_inj.mp (by omega)
  refine lv_lshl F.1 F.2.1 dL_law_1310 rfl ?_
  refine lv_topl (fun z40 qz40 => ?_)
  obtain rfl : z6 = z40 := by rw [qz6, qz40]
  refine lv_aload_n F.1 F.2.1 dL_law_1311 rfl (lv_at hl 3 rfl) ?_
  refine lv_iload_n F.1 F.2.1 dL_law_1312 rfl (lv_at hl 0 rfl) ?_
  refine tw_iconst F dL_law_1313 ki_2 (fun z41 hz41 => ?_)
  refine tu_iadd F dL_law_1314 (by omega) (fun z42 hz42 => ?_)
  refine va_sld F.1 F.2.1 hX0 hbl hbA h.dd.2.2 (tw_in (by omega) (by omega)) dL_law_1315 ?_
  refine lv_topi (fun z43 qz43 => ?_)
  obtain rfl : z9 = z43 := by rw [qz9, qz43, show z8 = z42 from Int32.toInt_inj.mp (by omega)]
  refine lv_i2l F.1 F.2.1 dL_law_1316 rfl ?_
  refine lv_topl (fun z44 qz44 => ?_)
  obtain rfl : z10 = z44 := by rw [qz10, qz44]
  refine lv_ldc2 F.1 F.2.1 F.2.2.2.1 (F.2.2.2.2 _ mw_6) dL_law_1317 ?_
  refine lv_topl (fun z45 qz45 => ?_)
  obtain rfl : z11 = z45 := by rw [qz11, qz45]
  refine lv_land F.1 F.2.1 dL_law_1320 ?_
  refine lv_topl (fun z46 qz46 => ?_)
  obtain rfl : z12 = z46 := by rw [qz12, qz46]
  refine lv_lor F.1 F.2.1 dL_law_1321 ?_
  refine lv_topl (fun z47 qz47 => ?_)
  obtain rfl : z13 = z47 := by rw [qz13, qz47]
  refine lv_aload_n F.1 F.2.1 dL_law_1322 rfl (lv_at hl 3 rfl) ?_
  refine lv_iload_n F.1 F.2.1 dL_law_1323 rfl (lv_at hl 0 rfl) ?_
  refine tw_iconst F dL_law_1324 ki_3 (fun z48 hz48 => ?_)
  refine tu_iadd F dL_law_1325 (by omega) (fun z49 hz49 => ?_)
  refine va_sld F.1 F.2.1 hX0 hbl hbA h.dd.2.2 (tw_in (by omega) (by omega)) dL_law_1326 ?_
  refine lv_topi (fun z50 qz50 => ?_)
  obtain rfl : z16 = z50 := by rw [qz16, qz50, show z15 = z49 from Int32.toInt_inj.mp (by omega)]
  refine lv_i2l F.1 F.2.1 dL_law_1327 rfl ?_
  refine lv_topl (fun z51 qz51 => ?_)
  obtain rfl : z17 = z51 := by rw [qz17, qz51]
  refine tw_bipush F dL_law_1328 kb_32 (fun z52 hz52 => ?_)
  obtain rfl : z5 = z52 := Int32.toInt_inj.mp (by omega)
  refine lv_lshl F.1 F.2.1 dL_law_1330 rfl ?_
  refine lv_topl (fun z53 qz53 => ?_)
  obtain rfl : z19 = z53 := by rw [qz19, qz53]
  refine lv_aload_n F.1 F.2.1 dL_law_1331 rfl (lv_at hl 3 rfl) ?_
  refine lv_iload_n F.1 F.2.1 dL_law_1332 rfl (lv_at hl 0 rfl) ?_
  refine tw_iconst F dL_law_1333 ki_4 (fun z54 hz54 => ?_)
  refine tu_iadd F dL_law_1334 (by omega) (fun z55 hz55 => ?_)
  refine va_sld F.1 F.2.1 hX0 hbl hbA h.dd.2.2 (tw_in (by omega) (by omega)) dL_law_1335 ?_
  refine lv_topi (fun z56 qz56 => ?_)
  obtain rfl : z22 = z56 := by rw [qz22, qz56, show z21 = z55 from Int32.toInt_inj.mp (by omega)]
  refine lv_i2l F.1 F.2.1 dL_law_1336 rfl ?_
  refine lv_topl (fun z57 qz57 => ?_)
  obtain rfl : z23 = z57 := by rw [qz23, qz57]
  refine lv_ldc2 F.1 F.2.1 F.2.2.2.1 (F.2.2.2.2 _ mw_6) dL_law_1337 ?_
  refine lv_topl (fun z58 qz58 => ?_)
  obtain rfl : z11 = z58 := by rw [qz11, qz58]
  refine lv_land F.1 F.2.1 dL_law_1340 ?_
  refine lv_topl (fun z59 qz59 => ?_)
  obtain rfl : z25 = z59 := by rw [qz25, qz59]
  refine lv_lor F.1 F.2.1 dL_law_1341 ?_
  refine lv_topl (fun z60 qz60 => ?_)
  obtain rfl : z26 = z60 := by rw [qz26, qz60]
  refine tw_Vi (As := [.long z13, .long z26]) F hZ h yk_X12_broken mw_1333 mw_1334 mw_1335 (s_X12_brokenC l D cy L R O f27 rr m_rr r_rr z13 z26 GA m_GA r_GA t_GA GP m_GP r_GP t_GP GL m_GL r_GL t_GL GT m_GT r_GT t_GT hR hX) rfl rfl m_rr r_rr (fun e q => (T_12 e).mp q) rfl hl.1 rfl (Nat.le_of_ble_eq_true rfl) ⟨Nat.le_of_ble_eq_true rfl, Nat.le_of_ble_eq_true rfl⟩ ⟨hcs, hsl⟩ dL_law_1342 (fun v62 f61 H locs hp61 h => ?_)
  obtain ⟨hf61, hv62p0, hv62p1, hv62p2, hv62p3, hv62p4, hv62p5⟩ := hp61
  have em63 : fi f61 q 11 = fi f27 q 11 := hf61.efi m_q r_q (by decide +kernel)
  have em64 : fi f61 rr 64 = fi f27 rr 64 := hf61.efi m_rr r_rr (by decide +kernel)
  have ek65 := BKc hBM hf61 m_q r_q (by decide +kernel) (by decide +kernel) (by decide +kernel) (by decide +kernel)
  have ek65b := ek65.1
  have ek65x := ek65.2 0 (by omega)
  have ek65y := ek65.2 1 (by omega)
  have ek65z := ek65.2 2 (by omega)
  have hPBn : PB P f61 q := hPBn.fr hBM hf61 m_q r_q (by decide +kernel) (by decide +kernel) (by decide +kernel)
  have hBM := BM_of h m_q r_q
  have hI : INV L R O P f61 q := hI.most m_q r_q hf61 (by decide +kernel) (by decide +kernel) (by decide +kernel) (by decide +kernel) (by decide +kernel)
  have t_GA : fld f61 rr 0 = .ref GA := (hf61.efl m_rr r_rr (by decide +kernel)).trans t_GA
  have t_GP : fld f61 rr 22 = .ref GP := (hf61.efl m_rr r_rr (by decide +kernel)).trans t_GP
  have t_GL : fld f61 rr 23 = .ref GL := (hf61.efl m_rr r_rr (by decide +kernel)).trans t_GL
  have t_GT : fld f61 rr 6 = .ref GT := (hf61.efl m_rr r_rr (by decide +kernel)).trans t_GT
  have hR : RBA GA f61 := hv62p0
  have hX : GZ GP GL f61 := hX.fm hf61 m_GP r_GP m_GL r_GL (by decide +kernel) (by decide +kernel)
  have hP : fld f61 (rfa f61 q 6) 16 = V := by rw [hf61.erf m_q r_q (by decide +kernel), hf61.efl hs6m hs6r (by decide +kernel)]; exact hP
  have hs6m : rfa f61 q 6 ∈ L := by rw [hf61.erf m_q r_q (by decide +kernel)]; exact hs6m
  have hs6r : R (rfa f61 q 6) = 7 := by rw [hf61.erf m_q r_q (by decide +kernel)]; exact hs6r
  refine tw_icmp_eq (tgt := 1755) F dL_law_1345 (by decide) (fun b => ?_) (fun b => ?_)
  · exact kk f61 _ _ _ ⟨h, hI, ⟨t_GA, t_GP, t_GL, t_GT⟩, hR, hX, hP, by omega, by omega, by omega, by omega, by omega, hPBn⟩ hl
  · exfalso
    omega
theorem dL_law_1350 : decode cL_law 1350 = .ok (.aload_n 1, 1) := by decide +kernel
theorem dL_law_1351 : decode cL_law 1351 = .ok (.aload_n 0, 1) := by decide +kernel
theorem dL_law_1352 : decode cL_law 1352 = .ok (.iload_n 3, 1) := by decide +kernel
theorem dL_law_1353 : decode cL_law 1353 = .ok (.iconst 1, 1) := by decide +kernel
theorem dL_law_1354 : decode cL_law 1354 = .ok (.iadd, 1) := by decide +kernel
theorem dL_law_1355 : decode cL_law 1355 = .ok (.iaload, 1) := by decide +kernel
theorem dL_law_1356 : decode cL_law 1356 = .ok (.aload_n 0, 1) := by decide +kernel
theorem dL_law_1357 : decode cL_law 1357 = .ok (.iload_n 3, 1) := by decide +kernel
theorem dL_law_1358 : decode cL_law 1358 = .ok (.iconst 2, 1) := by decide +kernel
theorem dL_law_1359 : decode cL_law 1359 = .ok (.iadd, 1) := by decide +kernel
theorem dL_law_1360 : decode cL_law 1360 = .ok (.iaload, 1) := by decide +kernel
theorem dL_law_1361 : decode cL_law 1361 = .ok (.aload_n 0, 1) := by decide +kernel
theorem dL_law_1362 : decode cL_law 1362 = .ok (.iload_n 3, 1) := by decide +kernel
theorem dL_law_1363 : decode cL_law 1363 = .ok (.iconst 3, 1) := by decide +kernel
theorem dL_law_1364 : decode cL_law 1364 = .ok (.iadd, 1) := by decide +kernel
theorem dL_law_1365 : decode cL_law 1365 = .ok (.iaload, 1) := by decide +kernel
theorem dL_law_1366 : decode cL_law 1366 = .ok (.invokevirtual 151, 3) := by decide +kernel
theorem mw_1337 : Cond.methodLink RL 151 yX11_broke ∈ wsL_law := inr_56 _ (List.mem_of_getElem? (i := 17) rfl)
theorem mw_1340 : Cond.code yX11_broke cX11_broke 5 (some .int) ∈ wsL_law := inr_56 _ (List.mem_of_getElem? (i := 20) rfl)
theorem yk_X11_broke : xY yX11_broke RX11 cX11_broke 5 (some .int) 3 := ⟨⟨rfl, by decide +kernel, by decide +kernel, by decide +kernel⟩, mw_2, mw_1340⟩
theorem mw_1338 : Cond.instanceMethod yX11_broke ∈ wsL_law := inr_56 _ (List.mem_of_getElem? (i := 18) rfl)
theorem mw_1339 : Cond.selects RX11 yX11_broke yX11_broke ∈ wsL_law := inr_56 _ (List.mem_of_getElem? (i := 19) rfl)
theorem dL_law_1369 : decode cL_law 1369 = .ok (.pop, 1) := by decide +kernel
theorem dL_law_1370 : decode cL_law 1370 = .ok (.aload_n 2, 1) := by decide +kernel
theorem dL_law_1371 : decode cL_law 1371 = .ok (.aload_n 0, 1) := by decide +kernel
theorem dL_law_1372 : decode cL_law 1372 = .ok (.iload_n 3, 1) := by decide +kernel
theorem dL_law_1373 : decode cL_law 1373 = .ok (.iconst 1, 1) := by decide +kernel
theorem dL_law_1374 : decode cL_law 1374 = .ok (.iadd, 1) := by decide +kernel
theorem dL_law_1375 : decode cL_law 1375 = .ok (.iaload, 1) := by decide +kernel
theorem dL_law_1376 : decode cL_law 1376 = .ok (.aload_n 0, 1) := by decide +kernel
theorem dL_law_1377 : decode cL_law 1377 = .ok (.iload_n 3, 1) := by decide +kernel
theorem dL_law_1378 : decode cL_law 1378 = .ok (.iconst 2, 1) := by decide +kernel
theorem dL_law_1379 : decode cL_law 1379 = .ok (.iadd, 1) := by decide +kernel
theorem dL_law_1380 : decode cL_law 1380 = .ok (.iaload, 1) := by decide +kernel
theorem dL_law_1381 : decode cL_law 1381 = .ok (.aload_n 0, 1) := by decide +kernel
theorem dL_law_1382 : decode cL_law 1382 = .ok (.iload_n 3, 1) := by decide +kernel
theorem dL_law_1383 : decode cL_law 1383 = .ok (.iconst 3, 1) := by decide +kernel
theorem dL_law_1384 : decode cL_law 1384 = .ok (.iadd, 1) := by decide +kernel
theorem dL_law_1385 : decode cL_law 1385 = .ok (.iaload, 1) := by decide +kernel
theorem dL_law_1386 : decode cL_law 1386 = .ok (.invokevirtual 154, 3) := by decide +kernel
theorem mw_1351 : Cond.methodLink RL 154 yX12_broke ∈ wsL_law := inr_57 _ (List.mem_of_getElem? (i := 7) rfl)
theorem mw_1354 : Cond.code yX12_broke cX12_broke 5 (some .int) ∈ wsL_law := inr_57 _ (List.mem_of_getElem? (i := 10) rfl)
theorem yk_X12_broke : xY yX12_broke RX12 cX12_broke 5 (some .int) 3 := ⟨⟨rfl, by decide +kernel, by decide +kernel, by decide +kernel⟩, mw_5, mw_1354⟩
theorem mw_1352 : Cond.instanceMethod yX12_broke ∈ wsL_law := inr_57 _ (List.mem_of_getElem? (i := 8) rfl)
theorem mw_1353 : Cond.selects RX12 yX12_broke yX12_broke ∈ wsL_law := inr_57 _ (List.mem_of_getElem? (i := 9) rfl)
theorem dL_law_1389 : decode cL_law 1389 = .ok (.pop, 1) := by decide +kernel
theorem dL_law_1390 : decode cL_law 1390 = .ok (.goto 365, 3) := by decide +kernel
set_option maxHeartbeats 4000000 in
set_option maxRecDepth 100000 in
theorem law_c30 {p : Program} {l : Launch} {e : Env} {s : State} {m : MethodId} {below : List Frame} {meth : Method} {c : Code} {H : Heap} {locs : List Loc} {Q : State → Prop} {D : va_G} {cy : Nat → ClassId} {A : Nat → Prop} {L : List Nat} {R O P : Nat → Nat} {f0 : Nat → va_E} {ls : Array Slot} {b N cs sl q rr GA GP GL GT : Nat} {xs : Nat → Int32} {V : Value} (F : CallFix p m c cL_law 4 s #[Value.ref b] wsL_law RL) (hZ : tZ A s s.heap) (hX0 : va_X b N xs s s.heap) (hbl : b < s.heap.size) (hbA : ¬ A b) (hcs : cs ≤ room_1.cells) (hsl : sl ≤ room_1.slots) (i : Int32) (bi : 0 ≤ i.toInt ∧ i.toInt + 6 ≤ N ∧ N ≤ 3072) (m_q : q ∈ L) (r_q : R q = 11) (m_rr : rr ∈ L) (r_rr : R rr = 12) (m_GA : GA ∈ L) (r_GA : R GA = 61) (m_GP : GP ∈ L) (r_GP : R GP = 69) (m_GL : GL ∈ L) (r_GL : R GL = 70) (m_GT : GT ∈ L) (r_GT : R GT = 64) (hLS : LWS D cy A s L R O P q rr GA GP GL GT V f0 H locs) (hl : lv_has ls 4 [(3, .int i), (2, .ref rr), (1, .ref q), (0, .ref b)]) (kk : ∀ (f1 : Nat → va_E) (H : Heap) (locs : List Loc) (ls : Array Slot), LWS D cy A s L R O P q rr GA GP GL GT V f1 H locs → lv_has ls 4 [(3, .int i), (2, .ref rr), (1, .ref q), (0, .ref b)] → W p l e room_1 s m #[Value.ref b] below meth c H locs cs sl Q (F0 m 1755 ls [])) : W p l e room_1 s m #[Value.ref b] below meth c H locs cs sl Q (F0 m 1350 ls []) := by
  obtain ⟨h, hI, ⟨t_GA, t_GP, t_GL, t_GT⟩, hR, hX, hP, hMK, hCB, hC0, hC1, hC2, hPB⟩ := hLS
  have hs6m := hI.2.2.1.1
  have hs6r := hI.2.2.1.2
  have hBM := BM_of h m_q r_q
  have hPBn := hPB
  refine lv_aload_n F.1 F.2.1 dL_law_1350 rfl (lv_at hl 2 rfl) ?_
  refine lv_aload_n F.1 F.2.1 dL_law_1351 rfl (lv_at hl 3 rfl) ?_
  refine lv_iload_n F.1 F.2.1 dL_law_1352 rfl (lv_at hl 0 rfl) ?_
  refine tw_iconst F dL_law_1353 ki_1 (fun z1 hz1 => ?_)
  refine tu_iadd F dL_law_1354 (by omega) (fun z2 hz2 => ?_)
  refine va_sld F.1 F.2.1 hX0 hbl hbA h.dd.2.2 (tw_in (by omega) (by omega)) dL_law_1355 ?_
  refine lv_topi (fun z3 qz3 => ?_)
  refine lv_aload_n F.1 F.2.1 dL_law_1356 rfl (lv_at hl 3 rfl) ?_
  refine lv_iload_n F.1 F.2.1 dL_law_1357 rfl (lv_at hl 0 rfl) ?_
  refine tw_iconst F dL_law_1358 ki_2 (fun z4 hz4 => ?_)
  refine tu_iadd F dL_law_1359 (by omega) (fun z5 hz5 => ?_)
  refine va_sld F.1 F.2.1 hX0 hbl hbA h.dd.2.2 (tw_in (by omega) (by omega)) dL_law_1360 ?_
  refine lv_topi (fun z6 qz6 => ?_)
  refine lv_aload_n F.1 F.2.1 dL_law_1361 rfl (lv_at hl 3 rfl) ?_
  refine lv_iload_n F.1 F.2.1 dL_law_1362 rfl (lv_at hl 0 rfl) ?_
  refine tw_iconst F dL_law_1363 ki_3 (fun z7 hz7 => ?_)
  refine tu_iadd F dL_law_1364 (by omega) (fun z8 hz8 => ?_)
  refine va_sld F.1 F.2.1 hX0 hbl hbA h.dd.2.2 (tw_in (by omega) (by omega)) dL_law_1365 ?_
  refine lv_topi (fun z9 qz9 => ?_)
  refine tw_Vi (As := [.int z3, .int z6, .int z9]) F hZ h yk_X11_broke mw_1337 mw_1338 mw_1339 (s_X11_broke l D cy L R O f0 hI.2.2.2.1 q m_q r_q z3 z6 z9 hI.pi) rfl rfl m_q r_q (fun e q => (T_11 e).mp q) rfl hl.1 rfl (Nat.le_of_ble_eq_true rfl) ⟨Nat.le_of_ble_eq_true rfl, Nat.le_of_ble_eq_true rfl⟩ ⟨hcs, hsl⟩ dL_law_1366 (fun v11 f10 H locs hp10 h => ?_)
  obtain ⟨hf10, hv11p0⟩ := hp10
  have em12 : fi f10 q 11 = fi f0 q 11 := hf10.efi m_q r_q (by decide +kernel)
  have em13 : fi f10 rr 64 = fi f0 rr 64 := hf10.efi m_rr r_rr (by decide +kernel)
  have ek14 := BKc hBM hf10 m_q r_q (by decide +kernel) (by decide +kernel) (by decide +kernel) (by decide +kernel)
  have ek14b := ek14.1
  have ek14x := ek14.2 0 (by omega)
  have ek14y := ek14.2 1 (by omega)
  have ek14z := ek14.2 2 (by omega)
  have ej15 := hf10.eelj m_GA r_GA (by decide +kernel) 5159
  have ej16 := hf10.eelj m_GA r_GA (by decide +kernel) 10349
  have ej17 := hf10.eelj m_GA r_GA (by decide +kernel) 15539
  have ej18 := hf10.eelj m_GA r_GA (by decide +kernel) 20729
  have hPBn : PB P f10 q := hPBn.fr hBM hf10 m_q r_q (by decide +kernel) (by decide +kernel) (by decide +kernel)
  have hBM := BM_of h m_q r_q
  have hI : INV L R O P f10 q := hI.ko m_q r_q hf10 (by decide +kernel) (by decide +kernel) (by decide +kernel) (by decide +kernel) hv11p0
  have t_GA : fld f10 rr 0 = .ref GA := (hf10.efl m_rr r_rr (by decide +kernel)).trans t_GA
  have t_GP : fld f10 rr 22 = .ref GP := (hf10.efl m_rr r_rr (by decide +kernel)).trans t_GP
  have t_GL : fld f10 rr 23 = .ref GL := (hf10.efl m_rr r_rr (by decide +kernel)).trans t_GL
  have t_GT : fld f10 rr 6 = .ref GT := (hf10.efl m_rr r_rr (by decide +kernel)).trans t_GT
  have hR : RBA GA f10 := hR.fm hf10 m_GA r_GA (by decide +kernel)
  have hX : GZ GP GL f10 := hX.fm hf10 m_GP r_GP m_GL r_GL (by decide +kernel) (by decide +kernel)
  have hP : fld f10 (rfa f10 q 6) 16 = V := by rw [hf10.erf m_q r_q (by decide +kernel), hf10.efl hs6m hs6r (by decide +kernel)]; exact hP
  have hs6m : rfa f10 q 6 ∈ L := by rw [hf10.erf m_q r_q (by decide +kernel)]; exact hs6m
  have hs6r : R (rfa f10 q 6) = 7 := by rw [hf10.erf m_q r_q (by decide +kernel)]; exact hs6r
  refine lv_pop F.1 F.2.1 dL_law_1369 rfl ?_
  refine lv_aload_n F.1 F.2.1 dL_law_1370 rfl (lv_at hl 1 rfl) ?_
  refine lv_aload_n F.1 F.2.1 dL_law_1371 rfl (lv_at hl 3 rfl) ?_
  refine lv_iload_n F.1 F.2.1 dL_law_1372 rfl (lv_at hl 0 rfl) ?_
  refine tw_iconst F dL_law_1373 ki_1 (fun z19 hz19 => ?_)
  refine tu_iadd F dL_law_1374 (by omega) (fun z20 hz20 => ?_)
  refine va_sld F.1 F.2.1 hX0 hbl hbA h.dd.2.2 (tw_in (by omega) (by omega)) dL_law_1375 ?_
  refine lv_topi (fun z21 qz21 => ?_)
  obtain rfl : z3 = z21 := by rw [qz3, qz21, show z2 = z20 from Int32.toInt_inj.mp (by omega)]
  refine lv_aload_n F.1 F.2.1 dL_law_1376 rfl (lv_at hl 3 rfl) ?_
  refine lv_iload_n F.1 F.2.1 dL_law_1377 rfl (lv_at hl 0 rfl) ?_
  refine tw_iconst F dL_law_1378 ki_2 (fun z22 hz22 => ?_)
  refine tu_iadd F dL_law_1379 (by omega) (fun z23 hz23 => ?_)
  refine va_sld F.1 F.2.1 hX0 hbl hbA h.dd.2.2 (tw_in (by omega) (by omega)) dL_law_1380 ?_
  refine lv_topi (fun z24 qz24 => ?_)
  obtain rfl : z6 = z24 := by rw [qz6, qz24, show z5 = z23 from Int32.toInt_inj.mp (by omega)]
  refine lv_aload_n F.1 F.2.1 dL_law_1381 rfl (lv_at hl 3 rfl) ?_
  refine lv_iload_n F.1 F.2.1 dL_law_1382 rfl (lv_at hl 0 rfl) ?_
  refine tw_iconst F dL_law_1383 ki_3 (fun z25 hz25 => ?_)
  refine tu_iadd F dL_law_1384 (by omega) (fun z26 hz26 => ?_)
  refine va_sld F.1 F.2.1 hX0 hbl hbA h.dd.2.2 (tw_in (by omega) (by omega)) dL_law_1385 ?_
  refine lv_topi (fun z27 qz27 => ?_)
  obtain rfl : z9 = z27 := by rw [qz9, qz27, show z8 = z26 from Int32.toInt_inj.mp (by omega)]
  refine tw_Vi (As := [.int z3, .int z6, .int z9]) F hZ h yk_X12_broke mw_1351 mw_1352 mw_1353 (s_X12_brokeC l D cy L R O f10 rr m_rr r_rr z3 z6 z9 GA m_GA r_GA t_GA GP m_GP r_GP t_GP GL m_GL r_GL t_GL GT m_GT r_GT t_GT hR hX) rfl rfl m_rr r_rr (fun e q => (T_12 e).mp q) rfl hl.1 rfl (Nat.le_of_ble_eq_true rfl) ⟨Nat.le_of_ble_eq_true rfl, Nat.le_of_ble_eq_true rfl⟩ ⟨hcs, hsl⟩ dL_law_1386 (fun v29 f28 H locs hp28 h => ?_)
  obtain ⟨hf28, hv29p0, hv29p1, hv29p2, hv29p3, hv29p4, hv29p5⟩ := hp28
  have em30 : fi f28 q 11 = fi f10 q 11 := hf28.efi m_q r_q (by decide +kernel)
  have em31 : fi f28 rr 64 = fi f10 rr 64 := hf28.efi m_rr r_rr (by decide +kernel)
  have ek32 := BKc hBM hf28 m_q r_q (by decide +kernel) (by decide +kernel) (by decide +kernel) (by decide +kernel)
  have ek32b := ek32.1
  have ek32x := ek32.2 0 (by omega)
  have ek32y := ek32.2 1 (by omega)
  have ek32z := ek32.2 2 (by omega)
  have hPBn : PB P f28 q := hPBn.fr hBM hf28 m_q r_q (by decide +kernel) (by decide +kernel) (by decide +kernel)
  have hBM := BM_of h m_q r_q
  have hI : INV L R O P f28 q := hI.most m_q r_q hf28 (by decide +kernel) (by decide +kernel) (by decide +kernel) (by decide +kernel) (by decide +kernel)
  have t_GA : fld f28 rr 0 = .ref GA := (hf28.efl m_rr r_rr (by decide +kernel)).trans t_GA
  have t_GP : fld f28 rr 22 = .ref GP := (hf28.efl m_rr r_rr (by decide +kernel)).trans t_GP
  have t_GL : fld f28 rr 23 = .ref GL := (hf28.efl m_rr r_rr (by decide +kernel)).trans t_GL
  have t_GT : fld f28 rr 6 = .ref GT := (hf28.efl m_rr r_rr (by decide +kernel)).trans t_GT
  have hR : RBA GA f28 := hv29p0
  have hX : GZ GP GL f28 := hv29p1
  have hP : fld f28 (rfa f28 q 6) 16 = V := by rw [hf28.erf m_q r_q (by decide +kernel), hf28.efl hs6m hs6r (by decide +kernel)]; exact hP
  have hs6m : rfa f28 q 6 ∈ L := by rw [hf28.erf m_q r_q (by decide +kernel)]; exact hs6m
  have hs6r : R (rfa f28 q 6) = 7 := by rw [hf28.erf m_q r_q (by decide +kernel)]; exact hs6r
  refine lv_pop F.1 F.2.1 dL_law_1389 rfl ?_
  refine lv_goto (tgt := 1755) F.1 F.2.1 dL_law_1390 (by decide) ?_
  exact kk f28 _ _ _ ⟨h, hI, ⟨t_GA, t_GP, t_GL, t_GT⟩, hR, hX, hP, by omega, by omega, by omega, by omega, by omega, hPBn⟩ hl
