theorem dL_law_746 : decode cL_law 746 = .ok (.aload_n 1, 1) := by decide +kernel
theorem dL_law_747 : decode cL_law 747 = .ok (.aload_n 0, 1) := by decide +kernel
theorem dL_law_748 : decode cL_law 748 = .ok (.iload_n 3, 1) := by decide +kernel
theorem dL_law_749 : decode cL_law 749 = .ok (.iconst 1, 1) := by decide +kernel
theorem dL_law_750 : decode cL_law 750 = .ok (.iadd, 1) := by decide +kernel
theorem dL_law_751 : decode cL_law 751 = .ok (.iaload, 1) := by decide +kernel
theorem dL_law_752 : decode cL_law 752 = .ok (.aload_n 0, 1) := by decide +kernel
theorem dL_law_753 : decode cL_law 753 = .ok (.iload_n 3, 1) := by decide +kernel
theorem dL_law_754 : decode cL_law 754 = .ok (.iconst 2, 1) := by decide +kernel
theorem dL_law_755 : decode cL_law 755 = .ok (.iadd, 1) := by decide +kernel
theorem dL_law_756 : decode cL_law 756 = .ok (.iaload, 1) := by decide +kernel
theorem dL_law_757 : decode cL_law 757 = .ok (.aload_n 0, 1) := by decide +kernel
theorem dL_law_758 : decode cL_law 758 = .ok (.iload_n 3, 1) := by decide +kernel
theorem dL_law_759 : decode cL_law 759 = .ok (.iconst 3, 1) := by decide +kernel
theorem dL_law_760 : decode cL_law 760 = .ok (.iadd, 1) := by decide +kernel
theorem dL_law_761 : decode cL_law 761 = .ok (.iaload, 1) := by decide +kernel
theorem dL_law_762 : decode cL_law 762 = .ok (.invokevirtual 85, 3) := by decide +kernel
theorem mw_836 : Cond.methodLink RL 85 yX11_fit ∈ wsL_law := inr_35 _ (List.mem_of_getElem? (i := 20) rfl)
theorem mw_839 : Cond.code yX11_fit cX11_fit 5 (some .int) ∈ wsL_law := inr_35 _ (List.mem_of_getElem? (i := 23) rfl)
theorem yk_X11_fit : xY yX11_fit RX11 cX11_fit 5 (some .int) 3 := ⟨⟨rfl, by decide +kernel, by decide +kernel, by decide +kernel⟩, mw_2, mw_839⟩
theorem mw_837 : Cond.instanceMethod yX11_fit ∈ wsL_law := inr_35 _ (List.mem_of_getElem? (i := 21) rfl)
theorem mw_838 : Cond.selects RX11 yX11_fit yX11_fit ∈ wsL_law := inr_35 _ (List.mem_of_getElem? (i := 22) rfl)
theorem dL_law_765 : decode cL_law 765 = .ok (.pop, 1) := by decide +kernel
theorem dL_law_766 : decode cL_law 766 = .ok (.aload_n 2, 1) := by decide +kernel
theorem dL_law_767 : decode cL_law 767 = .ok (.aload_n 0, 1) := by decide +kernel
theorem dL_law_768 : decode cL_law 768 = .ok (.iload_n 3, 1) := by decide +kernel
theorem dL_law_769 : decode cL_law 769 = .ok (.iconst 1, 1) := by decide +kernel
theorem dL_law_770 : decode cL_law 770 = .ok (.iadd, 1) := by decide +kernel
theorem dL_law_771 : decode cL_law 771 = .ok (.iaload, 1) := by decide +kernel
theorem dL_law_772 : decode cL_law 772 = .ok (.aload_n 0, 1) := by decide +kernel
theorem dL_law_773 : decode cL_law 773 = .ok (.iload_n 3, 1) := by decide +kernel
theorem dL_law_774 : decode cL_law 774 = .ok (.iconst 2, 1) := by decide +kernel
theorem dL_law_775 : decode cL_law 775 = .ok (.iadd, 1) := by decide +kernel
theorem dL_law_776 : decode cL_law 776 = .ok (.iaload, 1) := by decide +kernel
theorem dL_law_777 : decode cL_law 777 = .ok (.aload_n 0, 1) := by decide +kernel
theorem dL_law_778 : decode cL_law 778 = .ok (.iload_n 3, 1) := by decide +kernel
theorem dL_law_779 : decode cL_law 779 = .ok (.iconst 3, 1) := by decide +kernel
theorem dL_law_780 : decode cL_law 780 = .ok (.iadd, 1) := by decide +kernel
theorem dL_law_781 : decode cL_law 781 = .ok (.iaload, 1) := by decide +kernel
theorem dL_law_782 : decode cL_law 782 = .ok (.invokevirtual 88, 3) := by decide +kernel
theorem mw_886 : Cond.methodLink RL 88 yX12_fit ∈ wsL_law := inr_37 _ (List.mem_of_getElem? (i := 22) rfl)
theorem mw_889 : Cond.code yX12_fit cX12_fit 6 (some .int) ∈ wsL_law := inr_38 _ (List.mem_of_getElem? (i := 1) rfl)
theorem yk_X12_fit : xY yX12_fit RX12 cX12_fit 6 (some .int) 3 := ⟨⟨rfl, by decide +kernel, by decide +kernel, by decide +kernel⟩, mw_5, mw_889⟩
theorem mw_887 : Cond.instanceMethod yX12_fit ∈ wsL_law := inr_37 _ (List.mem_of_getElem? (i := 23) rfl)
theorem mw_888 : Cond.selects RX12 yX12_fit yX12_fit ∈ wsL_law := inr_38 _ (List.mem_of_getElem? (i := 0) rfl)
theorem dL_law_785 : decode cL_law 785 = .ok (.pop, 1) := by decide +kernel
theorem dL_law_786 : decode cL_law 786 = .ok (.goto 970, 3) := by decide +kernel
set_option maxHeartbeats 4000000 in
set_option maxRecDepth 100000 in
theorem law_c15 {p : Program} {l : Launch} {e : Env} {s : State} {m : MethodId} {below : List Frame} {meth : Method} {c : Code} {H : Heap} {locs : List Loc} {Q : State → Prop} {D : va_G} {cy : Nat → ClassId} {A : Nat → Prop} {L : List Nat} {R O P : Nat → Nat} {f0 : Nat → va_E} {ls : Array Slot} {b N cs sl q rr GA GP GL GT : Nat} {xs : Nat → Int32} {V : Value} (F : CallFix p m c cL_law 4 s #[Value.ref b] wsL_law RL) (hZ : tZ A s s.heap) (hX0 : va_X b N xs s s.heap) (hbl : b < s.heap.size) (hbA : ¬ A b) (hcs : cs ≤ room_1.cells) (hsl : sl ≤ room_1.slots) (i : Int32) (bi : 0 ≤ i.toInt ∧ i.toInt + 6 ≤ N ∧ N ≤ 3072) (m_q : q ∈ L) (r_q : R q = 11) (m_rr : rr ∈ L) (r_rr : R rr = 12) (m_GA : GA ∈ L) (r_GA : R GA = 61) (m_GP : GP ∈ L) (r_GP : R GP = 69) (m_GL : GL ∈ L) (r_GL : R GL = 70) (m_GT : GT ∈ L) (r_GT : R GT = 64) (hLS : LWS D cy A s L R O P q rr GA GP GL GT V f0 H locs) (hl : lv_has ls 4 [(3, .int i), (2, .ref rr), (1, .ref q), (0, .ref b)]) (kk : ∀ (f1 : Nat → va_E) (H : Heap) (locs : List Loc) (ls : Array Slot), LWS D cy A s L R O P q rr GA GP GL GT V f1 H locs → lv_has ls 4 [(3, .int i), (2, .ref rr), (1, .ref q), (0, .ref b)] → W p l e room_1 s m #[Value.ref b] below meth c H locs cs sl Q (F0 m 1756 ls [])) : W p l e room_1 s m #[Value.ref b] below meth c H locs cs sl Q (F0 m 746 ls []) := by
  obtain ⟨h, hI, ⟨t_GA, t_GP, t_GL, t_GT⟩, hR, hX, hP, hTP, hTR, hTQ, hNR⟩ := hLS
  have hs6m := hI.2.2.1.1
  have hs6r := hI.2.2.1.2
  have hTMc := TMc_of h m_q r_q
  have hTMm := TMm_of h m_rr r_rr
  have hTPn := hTP
  have hTMn := TMn_of h hTMc
  have hTQn := hTQ
  have hCb := CS_le h m_q r_q
  refine lv_aload_n F.1 F.2.1 dL_law_746 rfl (lv_at hl 2 rfl) ?_
  refine lv_aload_n F.1 F.2.1 dL_law_747 rfl (lv_at hl 3 rfl) ?_
  refine lv_iload_n F.1 F.2.1 dL_law_748 rfl (lv_at hl 0 rfl) ?_
  refine tw_iconst F dL_law_749 ki_1 (fun z1 hz1 => ?_)
  refine tu_iadd F dL_law_750 (by omega) (fun z2 hz2 => ?_)
  refine va_sld F.1 F.2.1 hX0 hbl hbA h.dd.2.2 (tw_in (by omega) (by omega)) dL_law_751 ?_
  refine lv_topi (fun z3 qz3 => ?_)
  refine lv_aload_n F.1 F.2.1 dL_law_752 rfl (lv_at hl 3 rfl) ?_
  refine lv_iload_n F.1 F.2.1 dL_law_753 rfl (lv_at hl 0 rfl) ?_
  refine tw_iconst F dL_law_754 ki_2 (fun z4 hz4 => ?_)
  refine tu_iadd F dL_law_755 (by omega) (fun z5 hz5 => ?_)
  refine va_sld F.1 F.2.1 hX0 hbl hbA h.dd.2.2 (tw_in (by omega) (by omega)) dL_law_756 ?_
  refine lv_topi (fun z6 qz6 => ?_)
  refine lv_aload_n F.1 F.2.1 dL_law_757 rfl (lv_at hl 3 rfl) ?_
  refine lv_iload_n F.1 F.2.1 dL_law_758 rfl (lv_at hl 0 rfl) ?_
  refine tw_iconst F dL_law_759 ki_3 (fun z7 hz7 => ?_)
  refine tu_iadd F dL_law_760 (by omega) (fun z8 hz8 => ?_)
  refine va_sld F.1 F.2.1 hX0 hbl hbA h.dd.2.2 (tw_in (by omega) (by omega)) dL_law_761 ?_
  refine lv_topi (fun z9 qz9 => ?_)
  refine tw_Vi (As := [.int z3, .int z6, .int z9]) F hZ h yk_X11_fit mw_836 mw_837 mw_838 (s_X11_fit l D cy L R O f0 hI.2.2.2.1 q m_q r_q z3 z6 z9) rfl rfl m_q r_q (fun e q => (T_11 e).mp q) rfl hl.1 rfl (Nat.le_of_ble_eq_true rfl) ⟨Nat.le_of_ble_eq_true rfl, Nat.le_of_ble_eq_true rfl⟩ ⟨hcs, hsl⟩ dL_law_762 (fun v11 f10 H locs hp10 h => ?_)
  have hf10 := hp10
  have en12a := TNa hTMc hf10 m_q r_q (by decide +kernel) (by decide +kernel) (by decide +kernel)
  have en12c := TNc hTMc hTMn hf10 m_q r_q (by decide +kernel) (by decide +kernel) (by decide +kernel) (by decide +kernel)
  have en12m := TNm t_GT m_GT r_GT hf10 m_rr r_rr (by decide +kernel) (by decide +kernel)
  have et13p := TRp hTMc hf10 m_q r_q (by decide +kernel) (by decide +kernel)
  have et13c := TRc hTMc hf10 m_q r_q (by decide +kernel) (by decide +kernel) (by decide +kernel) (by decide +kernel)
  have et13m := TRm hTMm hf10 m_rr r_rr (by decide +kernel) (by decide +kernel) (by decide +kernel) (by decide +kernel)
  have hTPn : ∀ i, i < 4 → P (trs f10 q i) = i := fun i hi => by rw [et13p i]; exact hTPn i hi
  have hTMc := TMc_of h m_q r_q
  have hTMm := TMm_of h m_rr r_rr
  have hTQn : ∀ i, i < 4 → P (rfa f10 (trs f10 q i) 0) = i := fun i hi => by rw [en12a i hi]; exact hTQn i hi
  have hTMn := TMn_of h hTMc
  have hI : INV L R O P f10 q := hI.most m_q r_q hf10 (by decide +kernel) (by decide +kernel) (by decide +kernel) (by decide +kernel) (by decide +kernel)
  have t_GA : fld f10 rr 0 = .ref GA := (hf10.efl m_rr r_rr (by decide +kernel)).trans t_GA
  have t_GP : fld f10 rr 22 = .ref GP := (hf10.efl m_rr r_rr (by decide +kernel)).trans t_GP
  have t_GL : fld f10 rr 23 = .ref GL := (hf10.efl m_rr r_rr (by decide +kernel)).trans t_GL
  have t_GT : fld f10 rr 6 = .ref GT := (hf10.efl m_rr r_rr (by decide +kernel)).trans t_GT
  have hR : RBA GA f10 := hR.fm hf10 m_GA r_GA (by decide +kernel)
  have hX : GZ GP GL f10 := hX.fm hf10 m_GP r_GP m_GL r_GL (by decide +kernel) (by decide +kernel)
  have hP : fld f10 (rfa f10 q 6) 16 = V := by rw [hf10.erf m_q r_q (by decide +kernel), hf10.efl hs6m hs6r (by decide +kernel)]; exact hP
  have hs6m : rfa f10 q 6 ∈ L := by rw [hf10.erf m_q r_q (by decide +kernel)]; exact hs6m
  have hs6r : R (rfa f10 q 6) = 7 := by rw [hf10.erf m_q r_q (by decide +kernel)]; exact hs6r
  refine lv_pop F.1 F.2.1 dL_law_765 rfl ?_
  refine lv_aload_n F.1 F.2.1 dL_law_766 rfl (lv_at hl 1 rfl) ?_
  refine lv_aload_n F.1 F.2.1 dL_law_767 rfl (lv_at hl 3 rfl) ?_
  refine lv_iload_n F.1 F.2.1 dL_law_768 rfl (lv_at hl 0 rfl) ?_
  refine tw_iconst F dL_law_769 ki_1 (fun z14 hz14 => ?_)
  refine tu_iadd F dL_law_770 (by omega) (fun z15 hz15 => ?_)
  refine va_sld F.1 F.2.1 hX0 hbl hbA h.dd.2.2 (tw_in (by omega) (by omega)) dL_law_771 ?_
  refine lv_topi (fun z16 qz16 => ?_)
  obtain rfl : z3 = z16 := by rw [qz3, qz16, show z2 = z15 from Int32.toInt_inj.mp (by omega)]
  refine lv_aload_n F.1 F.2.1 dL_law_772 rfl (lv_at hl 3 rfl) ?_
  refine lv_iload_n F.1 F.2.1 dL_law_773 rfl (lv_at hl 0 rfl) ?_
  refine tw_iconst F dL_law_774 ki_2 (fun z17 hz17 => ?_)
  refine tu_iadd F dL_law_775 (by omega) (fun z18 hz18 => ?_)
  refine va_sld F.1 F.2.1 hX0 hbl hbA h.dd.2.2 (tw_in (by omega) (by omega)) dL_law_776 ?_
  refine lv_topi (fun z19 qz19 => ?_)
  obtain rfl : z6 = z19 := by rw [qz6, qz19, show z5 = z18 from Int32.toInt_inj.mp (by omega)]
  refine lv_aload_n F.1 F.2.1 dL_law_777 rfl (lv_at hl 3 rfl) ?_
  refine lv_iload_n F.1 F.2.1 dL_law_778 rfl (lv_at hl 0 rfl) ?_
  refine tw_iconst F dL_law_779 ki_3 (fun z20 hz20 => ?_)
  refine tu_iadd F dL_law_780 (by omega) (fun z21 hz21 => ?_)
  refine va_sld F.1 F.2.1 hX0 hbl hbA h.dd.2.2 (tw_in (by omega) (by omega)) dL_law_781 ?_
  refine lv_topi (fun z22 qz22 => ?_)
  obtain rfl : z9 = z22 := by rw [qz9, qz22, show z8 = z21 from Int32.toInt_inj.mp (by omega)]
  refine tw_Vi (As := [.int z3, .int z6, .int z9]) F hZ h yk_X12_fit mw_886 mw_887 mw_888 (s_X12_fit l D cy L R O f10 rr m_rr r_rr z3 z6 z9 GA m_GA r_GA t_GA GP m_GP r_GP t_GP GL m_GL r_GL t_GL GT m_GT r_GT t_GT hR hX) rfl rfl m_rr r_rr (fun e q => (T_12 e).mp q) rfl hl.1 rfl (Nat.le_of_ble_eq_true rfl) ⟨Nat.le_of_ble_eq_true rfl, Nat.le_of_ble_eq_true rfl⟩ ⟨hcs, hsl⟩ dL_law_782 (fun v24 f23 H locs hp23 h => ?_)
  obtain ⟨hf23, hv24p0, hv24p1⟩ := hp23
  have en25a := TNa hTMc hf23 m_q r_q (by decide +kernel) (by decide +kernel) (by decide +kernel)
  have en25c := TNc hTMc hTMn hf23 m_q r_q (by decide +kernel) (by decide +kernel) (by decide +kernel) (by decide +kernel)
  have en25m := TNm t_GT m_GT r_GT hf23 m_rr r_rr (by decide +kernel) (by decide +kernel)
  have et26p := TRp hTMc hf23 m_q r_q (by decide +kernel) (by decide +kernel)
  have et26c := TRc hTMc hf23 m_q r_q (by decide +kernel) (by decide +kernel) (by decide +kernel) (by decide +kernel)
  have et26m := TRm hTMm hf23 m_rr r_rr (by decide +kernel) (by decide +kernel) (by decide +kernel) (by decide +kernel)
  have hTPn : ∀ i, i < 4 → P (trs f23 q i) = i := fun i hi => by rw [et26p i]; exact hTPn i hi
  have hTMc := TMc_of h m_q r_q
  have hTMm := TMm_of h m_rr r_rr
  have hTQn : ∀ i, i < 4 → P (rfa f23 (trs f23 q i) 0) = i := fun i hi => by rw [en25a i hi]; exact hTQn i hi
  have hTMn := TMn_of h hTMc
  have hI : INV L R O P f23 q := hI.most m_q r_q hf23 (by decide +kernel) (by decide +kernel) (by decide +kernel) (by decide +kernel) (by decide +kernel)
  have t_GA : fld f23 rr 0 = .ref GA := (hf23.efl m_rr r_rr (by decide +kernel)).trans t_GA
  have t_GP : fld f23 rr 22 = .ref GP := (hf23.efl m_rr r_rr (by decide +kernel)).trans t_GP
  have t_GL : fld f23 rr 23 = .ref GL := (hf23.efl m_rr r_rr (by decide +kernel)).trans t_GL
  have t_GT : fld f23 rr 6 = .ref GT := (hf23.efl m_rr r_rr (by decide +kernel)).trans t_GT
  have hR : RBA GA f23 := hR.fm hf23 m_GA r_GA (by decide +kernel)
  have hX : GZ GP GL f23 := hv24p1
  have hP : fld f23 (rfa f23 q 6) 16 = V := by rw [hf23.erf m_q r_q (by decide +kernel), hf23.efl hs6m hs6r (by decide +kernel)]; exact hP
  have hs6m : rfa f23 q 6 ∈ L := by rw [hf23.erf m_q r_q (by decide +kernel)]; exact hs6m
  have hs6r : R (rfa f23 q 6) = 7 := by rw [hf23.erf m_q r_q (by decide +kernel)]; exact hs6r
  refine lv_pop F.1 F.2.1 dL_law_785 rfl ?_
  refine lv_goto (tgt := 1756) F.1 F.2.1 dL_law_786 (by decide) ?_
  exact kk f23 _ _ _ ⟨h, hI, ⟨t_GA, t_GP, t_GL, t_GT⟩, hR, hX, hP, hTPn, fun i hi => by have q0 := hTR i hi; have q1 := et13c i hi; have q2 := et13m i; have q3 := et26c i hi; have q4 := et26m i; omega, hTQn, fun i hi j hj => by have q0 := hTR i hi; have q1 := et13c i hi; have q2 := et13m i; have q3 := et26c i hi; have q4 := et26m i; have qb := hCb i hi; have hj6 : j < 60 := (by omega); have n0 := hNR i hi j; have n1 := en12c i hi j; have n2 := en12m i j; have n3 := en25c i hi j; have n4 := en25m i j; omega⟩ hl
theorem dL_law_789 : decode cL_law 789 = .ok (.aload_n 1, 1) := by decide +kernel
theorem dL_law_790 : decode cL_law 790 = .ok (.aload_n 0, 1) := by decide +kernel
theorem dL_law_791 : decode cL_law 791 = .ok (.iload_n 3, 1) := by decide +kernel
theorem dL_law_792 : decode cL_law 792 = .ok (.iconst 1, 1) := by decide +kernel
theorem dL_law_793 : decode cL_law 793 = .ok (.iadd, 1) := by decide +kernel
theorem dL_law_794 : decode cL_law 794 = .ok (.iaload, 1) := by decide +kernel
theorem dL_law_795 : decode cL_law 795 = .ok (.aload_n 0, 1) := by decide +kernel
theorem dL_law_796 : decode cL_law 796 = .ok (.iload_n 3, 1) := by decide +kernel
theorem dL_law_797 : decode cL_law 797 = .ok (.iconst 2, 1) := by decide +kernel
theorem dL_law_798 : decode cL_law 798 = .ok (.iadd, 1) := by decide +kernel
theorem dL_law_799 : decode cL_law 799 = .ok (.iaload, 1) := by decide +kernel
theorem dL_law_800 : decode cL_law 800 = .ok (.invokevirtual 89, 3) := by decide +kernel
theorem mw_900 : Cond.methodLink RL 89 yX11_gap ∈ wsL_law := inr_38 _ (List.mem_of_getElem? (i := 12) rfl)
theorem mw_903 : Cond.code yX11_gap cX11_gap 4 (some .int) ∈ wsL_law := inr_38 _ (List.mem_of_getElem? (i := 15) rfl)
theorem yk_X11_gap : xY yX11_gap RX11 cX11_gap 4 (some .int) 2 := ⟨⟨rfl, by decide +kernel, by decide +kernel, by decide +kernel⟩, mw_2, mw_903⟩
theorem mw_901 : Cond.instanceMethod yX11_gap ∈ wsL_law := inr_38 _ (List.mem_of_getElem? (i := 13) rfl)
theorem mw_902 : Cond.selects RX11 yX11_gap yX11_gap ∈ wsL_law := inr_38 _ (List.mem_of_getElem? (i := 14) rfl)
theorem dL_law_803 : decode cL_law 803 = .ok (.pop, 1) := by decide +kernel
theorem dL_law_804 : decode cL_law 804 = .ok (.aload_n 2, 1) := by decide +kernel
theorem dL_law_805 : decode cL_law 805 = .ok (.aload_n 0, 1) := by decide +kernel
theorem dL_law_806 : decode cL_law 806 = .ok (.iload_n 3, 1) := by decide +kernel
theorem dL_law_807 : decode cL_law 807 = .ok (.iconst 1, 1) := by decide +kernel
theorem dL_law_808 : decode cL_law 808 = .ok (.iadd, 1) := by decide +kernel
theorem dL_law_809 : decode cL_law 809 = .ok (.iaload, 1) := by decide +kernel
theorem dL_law_810 : decode cL_law 810 = .ok (.aload_n 0, 1) := by decide +kernel
theorem dL_law_811 : decode cL_law 811 = .ok (.iload_n 3, 1) := by decide +kernel
theorem dL_law_812 : decode cL_law 812 = .ok (.iconst 2, 1) := by decide +kernel
theorem dL_law_813 : decode cL_law 813 = .ok (.iadd, 1) := by decide +kernel
theorem dL_law_814 : decode cL_law 814 = .ok (.iaload, 1) := by decide +kernel
theorem dL_law_815 : decode cL_law 815 = .ok (.invokevirtual 92, 3) := by decide +kernel
theorem mw_910 : Cond.methodLink RL 92 yX12_gap ∈ wsL_law := inr_38 _ (List.mem_of_getElem? (i := 22) rfl)
theorem mw_913 : Cond.code yX12_gap cX12_gap 3 (some .int) ∈ wsL_law := inr_39 _ (List.mem_of_getElem? (i := 1) rfl)
theorem yk_X12_gap : xY yX12_gap RX12 cX12_gap 3 (some .int) 2 := ⟨⟨rfl, by decide +kernel, by decide +kernel, by decide +kernel⟩, mw_5, mw_913⟩
theorem mw_911 : Cond.instanceMethod yX12_gap ∈ wsL_law := inr_38 _ (List.mem_of_getElem? (i := 23) rfl)
theorem mw_912 : Cond.selects RX12 yX12_gap yX12_gap ∈ wsL_law := inr_39 _ (List.mem_of_getElem? (i := 0) rfl)
theorem dL_law_818 : decode cL_law 818 = .ok (.pop, 1) := by decide +kernel
theorem dL_law_819 : decode cL_law 819 = .ok (.goto 937, 3) := by decide +kernel
set_option maxHeartbeats 4000000 in
set_option maxRecDepth 100000 in
theorem law_c16 {p : Program} {l : Launch} {e : Env} {s : State} {m : MethodId} {below : List Frame} {meth : Method} {c : Code} {H : Heap} {locs : List Loc} {Q : State → Prop} {D : va_G} {cy : Nat → ClassId} {A : Nat → Prop} {L : List Nat} {R O P : Nat → Nat} {f0 : Nat → va_E} {ls : Array Slot} {b N cs sl q rr GA GP GL GT : Nat} {xs : Nat → Int32} {V : Value} (F : CallFix p m c cL_law 4 s #[Value.ref b] wsL_law RL) (hZ : tZ A s s.heap) (hX0 : va_X b N xs s s.heap) (hbl : b < s.heap.size) (hbA : ¬ A b) (hcs : cs ≤ room_1.cells) (hsl : sl ≤ room_1.slots) (i : Int32) (bi : 0 ≤ i.toInt ∧ i.toInt + 6 ≤ N ∧ N ≤ 3072) (m_q : q ∈ L) (r_q : R q = 11) (m_rr : rr ∈ L) (r_rr : R rr = 12) (m_GA : GA ∈ L) (r_GA : R GA = 61) (m_GP : GP ∈ L) (r_GP : R GP = 69) (m_GL : GL ∈ L) (r_GL : R GL = 70) (m_GT : GT ∈ L) (r_GT : R GT = 64) (hLS : LWS D cy A s L R O P q rr GA GP GL GT V f0 H locs) (hl : lv_has ls 4 [(3, .int i), (2, .ref rr), (1, .ref q), (0, .ref b)]) (kk : ∀ (f1 : Nat → va_E) (H : Heap) (locs : List Loc) (ls : Array Slot), LWS D cy A s L R O P q rr GA GP GL GT V f1 H locs → lv_has ls 4 [(3, .int i), (2, .ref rr), (1, .ref q), (0, .ref b)] → W p l e room_1 s m #[Value.ref b] below meth c H locs cs sl Q (F0 m 1756 ls [])) : W p l e room_1 s m #[Value.ref b] below meth c H locs cs sl Q (F0 m 789 ls []) := by
  obtain ⟨h, hI, ⟨t_GA, t_GP, t_GL, t_GT⟩, hR, hX, hP, hTP, hTR, hTQ, hNR⟩ := hLS
  have hs6m := hI.2.2.1.1
  have hs6r := hI.2.2.1.2
  have hTMc := TMc_of h m_q r_q
  have hTMm := TMm_of h m_rr r_rr
  have hTPn := hTP
  have hTMn := TMn_of h hTMc
  have hTQn := hTQ
  have hCb := CS_le h m_q r_q
  refine lv_aload_n F.1 F.2.1 dL_law_789 rfl (lv_at hl 2 rfl) ?_
  refine lv_aload_n F.1 F.2.1 dL_law_790 rfl (lv_at hl 3 rfl) ?_
  refine lv_iload_n F.1 F.2.1 dL_law_791 rfl (lv_at hl 0 rfl) ?_
  refine tw_iconst F dL_law_792 ki_1 (fun z1 hz1 => ?_)
  refine tu_iadd F dL_law_793 (by omega) (fun z2 hz2 => ?_)
  refine va_sld F.1 F.2.1 hX0 hbl hbA h.dd.2.2 (tw_in (by omega) (by omega)) dL_law_794 ?_
  refine lv_topi (fun z3 qz3 => ?_)
  refine lv_aload_n F.1 F.2.1 dL_law_795 rfl (lv_at hl 3 rfl) ?_
  refine lv_iload_n F.1 F.2.1 dL_law_796 rfl (lv_at hl 0 rfl) ?_
  refine tw_iconst F dL_law_797 ki_2 (fun z4 hz4 => ?_)
  refine tu_iadd F dL_law_798 (by omega) (fun z5 hz5 => ?_)
  refine va_sld F.1 F.2.1 hX0 hbl hbA h.dd.2.2 (tw_in (by omega) (by omega)) dL_law_799 ?_
  refine lv_topi (fun z6 qz6 => ?_)
  refine tw_Vi (As := [.int z3, .int z6]) F hZ h yk_X11_gap mw_900 mw_901 mw_902 (s_X11_gap l D cy L R O f0 q m_q r_q z3 z6) rfl rfl m_q r_q (fun e q => (T_11 e).mp q) rfl hl.1 rfl (Nat.le_of_ble_eq_true rfl) ⟨Nat.le_of_ble_eq_true rfl, Nat.le_of_ble_eq_true rfl⟩ ⟨hcs, hsl⟩ dL_law_800 (fun v8 f7 H locs hp7 h => ?_)
  have hf7 := hp7
  have en9a := TNa hTMc hf7 m_q r_q (by decide +kernel) (by decide +kernel) (by decide +kernel)
  have en9c := TNc hTMc hTMn hf7 m_q r_q (by decide +kernel) (by decide +kernel) (by decide +kernel) (by decide +kernel)
  have en9m := TNm t_GT m_GT r_GT hf7 m_rr r_rr (by decide +kernel) (by decide +kernel)
  have et10p := TRp hTMc hf7 m_q r_q (by decide +kernel) (by decide +kernel)
  have et10c := TRc hTMc hf7 m_q r_q (by decide +kernel) (by decide +kernel) (by decide +kernel) (by decide +kernel)
  have et10m := TRm hTMm hf7 m_rr r_rr (by decide +kernel) (by decide +kernel) (by decide +kernel) (by decide +kernel)
  have hTPn : ∀ i, i < 4 → P (trs f7 q i) = i := fun i hi => by rw [et10p i]; exact hTPn i hi
  have hTMc := TMc_of h m_q r_q
  have hTMm := TMm_of h m_rr r_rr
  have hTQn : ∀ i, i < 4 → P (rfa f7 (trs f7 q i) 0) = i := fun i hi => by rw [en9a i hi]; exact hTQn i hi
  have hTMn := TMn_of h hTMc
  have hI : INV L R O P f7 q := hI.most m_q r_q hf7 (by decide +kernel) (by decide +kernel) (by decide +kernel) (by decide +kernel) (by decide +kernel)
  have t_GA : fld f7 rr 0 = .ref GA := (hf7.efl m_rr r_rr (by decide +kernel)).trans t_GA
  have t_GP : fld f7 rr 22 = .ref GP := (hf7.efl m_rr r_rr (by decide +kernel)).trans t_GP
  have t_GL : fld f7 rr 23 = .ref GL := (hf7.efl m_rr r_rr (by decide +kernel)).trans t_GL
  have t_GT : fld f7 rr 6 = .ref GT := (hf7.efl m_rr r_rr (by decide +kernel)).trans t_GT
  have hR : RBA GA f7 := hR.fm hf7 m_GA r_GA (by decide +kernel)
  have hX : GZ GP GL f7 := hX.fm hf7 m_GP r_GP m_GL r_GL (by decide +kernel) (by decide +kernel)
  have hP : fld f7 (rfa f7 q 6) 16 = V := by rw [hf7.erf m_q r_q (by decide +kernel), hf7.efl hs6m hs6r (by decide +kernel)]; exact hP
  have hs6m : rfa f7 q 6 ∈ L := by rw [hf7.erf m_q r_q (by decide +kernel)]; exact hs6m
  have hs6r : R (rfa f7 q 6) = 7 := by rw [hf7.erf m_q r_q (by decide +kernel)]; exact hs6r
  refine lv_pop F.1 F.2.1 dL_law_803 rfl ?_
  refine lv_aload_n F.1 F.2.1 dL_law_804 rfl (lv_at hl 1 rfl) ?_
  refine lv_aload_n F.1 F.2.1 dL_law_805 rfl (lv_at hl 3 rfl) ?_
  refine lv_iload_n F.1 F.2.1 dL_law_806 rfl (lv_at hl 0 rfl) ?_
  refine tw_iconst F dL_law_807 ki_1 (fun z11 hz11 => ?_)
  refine tu_iadd F dL_law_808 (by omega) (fun z12 hz12 => ?_)
  refine va_sld F.1 F.2.1 hX0 hbl hbA h.dd.2.2 (tw_in (by omega) (by omega)) dL_law_809 ?_
  refine lv_topi (fun z13 qz13 => ?_)
  obtain rfl : z3 = z13 := by rw [qz3, qz13, show z2 = z12 from Int32.toInt_inj.mp (by omega)]
  refine lv_aload_n F.1 F.2.1 dL_law_810 rfl (lv_at hl 3 rfl) ?_
  refine lv_iload_n F.1 F.2.1 dL_law_811 rfl (lv_at hl 0 rfl) ?_
  refine tw_iconst F dL_law_812 ki_2 (fun z14 hz14 => ?_)
  refine tu_iadd F dL_law_813 (by omega) (fun z15 hz15 => ?_)
  refine va_sld F.1 F.2.1 hX0 hbl hbA h.dd.2.2 (tw_in (by omega) (by omega)) dL_law_814 ?_
  refine lv_topi (fun z16 qz16 => ?_)
  obtain rfl : z6 = z16 := by rw [qz6, qz16, show z5 = z15 from Int32.toInt_inj.mp (by omega)]
  refine tw_Vi (As := [.int z3, .int z6]) F hZ h yk_X12_gap mw_910 mw_911 mw_912 (s_X12_gap l D cy L R O f7 rr m_rr r_rr z3 z6) rfl rfl m_rr r_rr (fun e q => (T_12 e).mp q) rfl hl.1 rfl (Nat.le_of_ble_eq_true rfl) ⟨Nat.le_of_ble_eq_true rfl, Nat.le_of_ble_eq_true rfl⟩ ⟨hcs, hsl⟩ dL_law_815 (fun v18 f17 H locs hp17 h => ?_)
  have hf17 := hp17
  have en19a := TNa hTMc hf17 m_q r_q (by decide +kernel) (by decide +kernel) (by decide +kernel)
  have en19c := TNc hTMc hTMn hf17 m_q r_q (by decide +kernel) (by decide +kernel) (by decide +kernel) (by decide +kernel)
  have en19m := TNm t_GT m_GT r_GT hf17 m_rr r_rr (by decide +kernel) (by decide +kernel)
  have et20p := TRp hTMc hf17 m_q r_q (by decide +kernel) (by decide +kernel)
  have et20c := TRc hTMc hf17 m_q r_q (by decide +kernel) (by decide +kernel) (by decide +kernel) (by decide +kernel)
  have et20m := TRm hTMm hf17 m_rr r_rr (by decide +kernel) (by decide +kernel) (by decide +kernel) (by decide +kernel)
  have hTPn : ∀ i, i < 4 → P (trs f17 q i) = i := fun i hi => by rw [et20p i]; exact hTPn i hi
  have hTMc := TMc_of h m_q r_q
  have hTMm := TMm_of h m_rr r_rr
  have hTQn : ∀ i, i < 4 → P (rfa f17 (trs f17 q i) 0) = i := fun i hi => by rw [en19a i hi]; exact hTQn i hi
  have hTMn := TMn_of h hTMc
  have hI : INV L R O P f17 q := hI.most m_q r_q hf17 (by decide +kernel) (by decide +kernel) (by decide +kernel) (by decide +kernel) (by decide +kernel)
  have t_GA : fld f17 rr 0 = .ref GA := (hf17.efl m_rr r_rr (by decide +kernel)).trans t_GA
  have t_GP : fld f17 rr 22 = .ref GP := (hf17.efl m_rr r_rr (by decide +kernel)).trans t_GP
  have t_GL : fld f17 rr 23 = .ref GL := (hf17.efl m_rr r_rr (by decide +kernel)).trans t_GL
  have t_GT : fld f17 rr 6 = .ref GT := (hf17.efl m_rr r_rr (by decide +kernel)).trans t_GT
  have hR : RBA GA f17 := hR.fm hf17 m_GA r_GA (by decide +kernel)
  have hX : GZ GP GL f17 := hX.fm hf17 m_GP r_GP m_GL r_GL (by decide +kernel) (by decide +kernel)
  have hP : fld f17 (rfa f17 q 6) 16 = V := by rw [hf17.erf m_q r_q (by decide +kernel), hf17.efl hs6m hs6r (by decide +kernel)]; exact hP
  have hs6m : rfa f17 q 6 ∈ L := by rw [hf17.erf m_q r_q (by decide +kernel)]; exact hs6m
  have hs6r : R (rfa f17 q 6) = 7 := by rw [hf17.erf m_q r_q (by decide +kernel)]; exact hs6r
  refine lv_pop F.1 F.2.1 dL_law_818 rfl ?_
  refine lv_goto (tgt := 1756) F.1 F.2.1 dL_law_819 (by decide) ?_
  exact kk f17 _ _ _ ⟨h, hI, ⟨t_GA, t_GP, t_GL, t_GT⟩, hR, hX, hP, hTPn, fun i hi => by have q0 := hTR i hi; have q1 := et10c i hi; have q2 := et10m i; have q3 := et20c i hi; have q4 := et20m i; omega, hTQn, fun i hi j hj => by have q0 := hTR i hi; have q1 := et10c i hi; have q2 := et10m i; have q3 := et20c i hi; have q4 := et20m i; have qb := hCb i hi; have hj6 : j < 60 := (by omega); have n0 := hNR i hi j; have n1 := en9c i hi j; have n2 := en9m i j; have n3 := en19c i hi j; have n4 := en19m i j; omega⟩ hl
theorem dL_law_822 : decode cL_law 822 = .ok (.aload_n 1, 1) := by decide +kernel
theorem dL_law_823 : decode cL_law 823 = .ok (.aload_n 0, 1) := by decide +kernel
theorem dL_law_824 : decode cL_law 824 = .ok (.iload_n 3, 1) := by decide +kernel
theorem dL_law_825 : decode cL_law 825 = .ok (.iconst 1, 1) := by decide +kernel
theorem dL_law_826 : decode cL_law 826 = .ok (.iadd, 1) := by decide +kernel
theorem dL_law_827 : decode cL_law 827 = .ok (.iaload, 1) := by decide +kernel
theorem dL_law_828 : decode cL_law 828 = .ok (.aload_n 0, 1) := by decide +kernel
theorem dL_law_829 : decode cL_law 829 = .ok (.iload_n 3, 1) := by decide +kernel
theorem dL_law_830 : decode cL_law 830 = .ok (.iconst 2, 1) := by decide +kernel
theorem dL_law_831 : decode cL_law 831 = .ok (.iadd, 1) := by decide +kernel
theorem dL_law_832 : decode cL_law 832 = .ok (.iaload, 1) := by decide +kernel
theorem dL_law_833 : decode cL_law 833 = .ok (.i2l, 1) := by decide +kernel
theorem dL_law_834 : decode cL_law 834 = .ok (.bipush 32, 2) := by decide +kernel
theorem dL_law_836 : decode cL_law 836 = .ok (.lshl, 1) := by decide +kernel
theorem dL_law_837 : decode cL_law 837 = .ok (.aload_n 0, 1) := by decide +kernel
theorem dL_law_838 : decode cL_law 838 = .ok (.iload_n 3, 1) := by decide +kernel
theorem dL_law_839 : decode cL_law 839 = .ok (.iconst 3, 1) := by decide +kernel
theorem dL_law_840 : decode cL_law 840 = .ok (.iadd, 1) := by decide +kernel
theorem dL_law_841 : decode cL_law 841 = .ok (.iaload, 1) := by decide +kernel
theorem dL_law_842 : decode cL_law 842 = .ok (.i2l, 1) := by decide +kernel
theorem dL_law_843 : decode cL_law 843 = .ok (.ldc2_w 32, 3) := by decide +kernel
theorem dL_law_846 : decode cL_law 846 = .ok (.land, 1) := by decide +kernel
theorem dL_law_847 : decode cL_law 847 = .ok (.lor, 1) := by decide +kernel
theorem dL_law_848 : decode cL_law 848 = .ok (.invokevirtual 93, 3) := by decide +kernel
theorem mw_914 : Cond.methodLink RL 93 yX11_turned ∈ wsL_law := inr_39 _ (List.mem_of_getElem? (i := 2) rfl)
theorem mw_917 : Cond.code yX11_turned cX11_turned 4 (some .long) ∈ wsL_law := inr_39 _ (List.mem_of_getElem? (i := 5) rfl)
theorem yk_X11_turned : xY yX11_turned RX11 cX11_turned 4 (some .long) 2 := ⟨⟨rfl, by decide +kernel, by decide +kernel, by decide +kernel⟩, mw_2, mw_917⟩
theorem mw_915 : Cond.instanceMethod yX11_turned ∈ wsL_law := inr_39 _ (List.mem_of_getElem? (i := 3) rfl)
theorem mw_916 : Cond.selects RX11 yX11_turned yX11_turned ∈ wsL_law := inr_39 _ (List.mem_of_getElem? (i := 4) rfl)
theorem dL_law_851 : decode cL_law 851 = .ok (.pop2, 1) := by decide +kernel
theorem dL_law_852 : decode cL_law 852 = .ok (.aload_n 2, 1) := by decide +kernel
theorem dL_law_853 : decode cL_law 853 = .ok (.aload_n 0, 1) := by decide +kernel
theorem dL_law_854 : decode cL_law 854 = .ok (.iload_n 3, 1) := by decide +kernel
theorem dL_law_855 : decode cL_law 855 = .ok (.iconst 1, 1) := by decide +kernel
theorem dL_law_856 : decode cL_law 856 = .ok (.iadd, 1) := by decide +kernel
theorem dL_law_857 : decode cL_law 857 = .ok (.iaload, 1) := by decide +kernel
theorem dL_law_858 : decode cL_law 858 = .ok (.aload_n 0, 1) := by decide +kernel
theorem dL_law_859 : decode cL_law 859 = .ok (.iload_n 3, 1) := by decide +kernel
theorem dL_law_860 : decode cL_law 860 = .ok (.iconst 2, 1) := by decide +kernel
theorem dL_law_861 : decode cL_law 861 = .ok (.iadd, 1) := by decide +kernel
theorem dL_law_862 : decode cL_law 862 = .ok (.iaload, 1) := by decide +kernel
theorem dL_law_863 : decode cL_law 863 = .ok (.i2l, 1) := by decide +kernel
theorem dL_law_864 : decode cL_law 864 = .ok (.bipush 32, 2) := by decide +kernel
theorem dL_law_866 : decode cL_law 866 = .ok (.lshl, 1) := by decide +kernel
theorem dL_law_867 : decode cL_law 867 = .ok (.aload_n 0, 1) := by decide +kernel
theorem dL_law_868 : decode cL_law 868 = .ok (.iload_n 3, 1) := by decide +kernel
theorem dL_law_869 : decode cL_law 869 = .ok (.iconst 3, 1) := by decide +kernel
theorem dL_law_870 : decode cL_law 870 = .ok (.iadd, 1) := by decide +kernel
theorem dL_law_871 : decode cL_law 871 = .ok (.iaload, 1) := by decide +kernel
theorem dL_law_872 : decode cL_law 872 = .ok (.i2l, 1) := by decide +kernel
theorem dL_law_873 : decode cL_law 873 = .ok (.ldc2_w 32, 3) := by decide +kernel
theorem dL_law_876 : decode cL_law 876 = .ok (.land, 1) := by decide +kernel
theorem dL_law_877 : decode cL_law 877 = .ok (.lor, 1) := by decide +kernel
theorem dL_law_878 : decode cL_law 878 = .ok (.invokevirtual 97, 3) := by decide +kernel
theorem mw_927 : Cond.methodLink RL 97 yX12_turned ∈ wsL_law := inr_39 _ (List.mem_of_getElem? (i := 15) rfl)
theorem mw_930 : Cond.code yX12_turned cX12_turned 4 (some .long) ∈ wsL_law := inr_39 _ (List.mem_of_getElem? (i := 18) rfl)
theorem yk_X12_turned : xY yX12_turned RX12 cX12_turned 4 (some .long) 2 := ⟨⟨rfl, by decide +kernel, by decide +kernel, by decide +kernel⟩, mw_5, mw_930⟩
theorem mw_928 : Cond.instanceMethod yX12_turned ∈ wsL_law := inr_39 _ (List.mem_of_getElem? (i := 16) rfl)
theorem mw_929 : Cond.selects RX12 yX12_turned yX12_turned ∈ wsL_law := inr_39 _ (List.mem_of_getElem? (i := 17) rfl)
theorem dL_law_881 : decode cL_law 881 = .ok (.pop2, 1) := by decide +kernel
theorem dL_law_882 : decode cL_law 882 = .ok (.goto 874, 3) := by decide +kernel
set_option maxHeartbeats 4000000 in
set_option maxRecDepth 100000 in
theorem law_c17 {p : Program} {l : Launch} {e : Env} {s : State} {m : MethodId} {below : List Frame} {meth : Method} {c : Code} {H : Heap} {locs : List Loc} {Q : State → Prop} {D : va_G} {cy : Nat → ClassId} {A : Nat → Prop} {L : List Nat} {R O P : Nat → Nat} {f0 : Nat → va_E} {ls : Array Slot} {b N cs sl q rr GA GP GL GT : Nat} {xs : Nat → Int32} {V : Value} (F : CallFix p m c cL_law 4 s #[Value.ref b] wsL_law RL) (hZ : tZ A s s.heap) (hX0 : va_X b N xs s s.heap) (hbl : b < s.heap.size) (hbA : ¬ A b) (hcs : cs ≤ room_1.cells) (hsl : sl ≤ room_1.slots) (i : Int32) (bi : 0 ≤ i.toInt ∧ i.toInt + 6 ≤ N ∧ N ≤ 3072) (m_q : q ∈ L) (r_q : R q = 11) (m_rr : rr ∈ L) (r_rr : R rr = 12) (m_GA : GA ∈ L) (r_GA : R GA = 61) (m_GP : GP ∈ L) (r_GP : R GP = 69) (m_GL : GL ∈ L) (r_GL : R GL = 70) (m_GT : GT ∈ L) (r_GT : R GT = 64) (hLS : LWS D cy A s L R O P q rr GA GP GL GT V f0 H locs) (hl : lv_has ls 4 [(3, .int i), (2, .ref rr), (1, .ref q), (0, .ref b)]) (kk : ∀ (f1 : Nat → va_E) (H : Heap) (locs : List Loc) (ls : Array Slot), LWS D cy A s L R O P q rr GA GP GL GT V f1 H locs → lv_has ls 4 [(3, .int i), (2, .ref rr), (1, .ref q), (0, .ref b)] → W p l e room_1 s m #[Value.ref b] below meth c H locs cs sl Q (F0 m 1756 ls [])) : W p l e room_1 s m #[Value.ref b] below meth c H locs cs sl Q (F0 m 822 ls []) := by
  obtain ⟨h, hI, ⟨t_GA, t_GP, t_GL, t_GT⟩, hR, hX, hP, hTP, hTR, hTQ, hNR⟩ := hLS
  have hs6m := hI.2.2.1.1
  have hs6r := hI.2.2.1.2
  have hTMc := TMc_of h m_q r_q
  have hTMm := TMm_of h m_rr r_rr
  have hTPn := hTP
  have hTMn := TMn_of h hTMc
  have hTQn := hTQ
  have hCb := CS_le h m_q r_q
  refine lv_aload_n F.1 F.2.1 dL_law_822 rfl (lv_at hl 2 rfl) ?_
  refine lv_aload_n F.1 F.2.1 dL_law_823 rfl (lv_at hl 3 rfl) ?_
  refine lv_iload_n F.1 F.2.1 dL_law_824 rfl (lv_at hl 0 rfl) ?_
  refine tw_iconst F dL_law_825 ki_1 (fun z1 hz1 => ?_)
  refine tu_iadd F dL_law_826 (by omega) (fun z2 hz2 => ?_)
  refine va_sld F.1 F.2.1 hX0 hbl hbA h.dd.2.2 (tw_in (by omega) (by omega)) dL_law_827 ?_
  refine lv_topi (fun z3 qz3 => ?_)
  refine lv_aload_n F.1 F.2.1 dL_law_828 rfl (lv_at hl 3 rfl) ?_
  refine lv_iload_n F.1 F.2.1 dL_law_829 rfl (lv_at hl 0 rfl) ?_
  refine tw_iconst F dL_law_830 ki_2 (fun z4 hz4 => ?_)
  refine tu_iadd F dL_law_831 (by omega) (fun z5 hz5 => ?_)
  refine va_sld F.1 F.2.1 hX0 hbl hbA h.dd.2.2 (tw_in (by omega) (by omega)) dL_law_832 ?_
  refine lv_topi (fun z6 qz6 => ?_)
  refine lv_i2l F.1 F.2.1 dL_law_833 rfl ?_
  refine lv_topl (fun z7 qz7 => ?_)
  refine tw_bipush F dL_law_834 kb_32 (fun z8 hz8 => ?_)
  refine lv_lshl F.1 F.2.1 dL_law_836 rfl ?_
  refine lv_topl (fun z9 qz9 => ?_)
  refine lv_aload_n F.1 F.2.1 dL_law_837 rfl (lv_at hl 3 rfl) ?_
  refine lv_iload_n F.1 F.2.1 dL_law_838 rfl (lv_at hl 0 rfl) ?_
  refine tw_iconst F dL_law_839 ki_3 (fun z10 hz10 => ?_)
  refine tu_iadd F dL_law_840 (by omega) (fun z11 hz11 => ?_)
  refine va_sld F.1 F.2.1 hX0 hbl hbA h.dd.2.2 (tw_in (by omega) (by omega)) dL_law_841 ?_
  refine lv_topi (fun z12 qz12 => ?_)
  refine lv_i2l F.1 F.2.1 dL_law_842 rfl ?_
  refine lv_topl (fun z13 qz13 => ?_)
  refine lv_ldc2 F.1 F.2.1 F.2.2.2.1 (F.2.2.2.2 _ mw_6) dL_law_843 ?_
  refine lv_topl (fun z14 qz14 => ?_)
  refine lv_land F.1 F.2.1 dL_law_846 ?_
  refine lv_topl (fun z15 qz15 => ?_)
  refine lv_lor F.1 F.2.1 dL_law_847 ?_
  refine lv_topl (fun z16 qz16 => ?_)
  refine tw_Vl (As := [.int z3, .long z16]) F hZ h yk_X11_turned mw_914 mw_915 mw_916 (s_X11_turned l D cy L R O f0 q m_q r_q z3 z16) rfl rfl m_q r_q (fun e q => (T_11 e).mp q) rfl hl.1 rfl (Nat.le_of_ble_eq_true rfl) ⟨Nat.le_of_ble_eq_true rfl, Nat.le_of_ble_eq_true rfl⟩ ⟨hcs, hsl⟩ dL_law_848 (fun v18 f17 H locs hp17 h => ?_)
  have hf17 := hp17
  have en19a := TNa hTMc hf17 m_q r_q (by decide +kernel) (by decide +kernel) (by decide +kernel)
  have en19c := TNc hTMc hTMn hf17 m_q r_q (by decide +kernel) (by decide +kernel) (by decide +kernel) (by decide +kernel)
  have en19m := TNm t_GT m_GT r_GT hf17 m_rr r_rr (by decide +kernel) (by decide +kernel)
  have et20p := TRp hTMc hf17 m_q r_q (by decide +kernel) (by decide +kernel)
  have et20c := TRc hTMc hf17 m_q r_q (by decide +kernel) (by decide +kernel) (by decide +kernel) (by decide +kernel)
  have et20m := TRm hTMm hf17 m_rr r_rr (by decide +kernel) (by decide +kernel) (by decide +kernel) (by decide +kernel)
  have hTPn : ∀ i, i < 4 → P (trs f17 q i) = i := fun i hi => by rw [et20p i]; exact hTPn i hi
  have hTMc := TMc_of h m_q r_q
  have hTMm := TMm_of h m_rr r_rr
  have hTQn : ∀ i, i < 4 → P (rfa f17 (trs f17 q i) 0) = i := fun i hi => by rw [en19a i hi]; exact hTQn i hi
  have hTMn := TMn_of h hTMc
  have hI : INV L R O P f17 q := hI.most m_q r_q hf17 (by decide +kernel) (by decide +kernel) (by decide +kernel) (by decide +kernel) (by decide +kernel)
  have t_GA : fld f17 rr 0 = .ref GA := (hf17.efl m_rr r_rr (by decide +kernel)).trans t_GA
  have t_GP : fld f17 rr 22 = .ref GP := (hf17.efl m_rr r_rr (by decide +kernel)).trans t_GP
  have t_GL : fld f17 rr 23 = .ref GL := (hf17.efl m_rr r_rr (by decide +kernel)).trans t_GL
  have t_GT : fld f17 rr 6 = .ref GT := (hf17.efl m_rr r_rr (by decide +kernel)).trans t_GT
  have hR : RBA GA f17 := hR.fm hf17 m_GA r_GA (by decide +kernel)
  have hX : GZ GP GL f17 := hX.fm hf17 m_GP r_GP m_GL r_GL (by decide +kernel) (by decide +kernel)
  have hP : fld f17 (rfa f17 q 6) 16 = V := by rw [hf17.erf m_q r_q (by decide +kernel), hf17.efl hs6m hs6r (by decide +kernel)]; exact hP
  have hs6m : rfa f17 q 6 ∈ L := by rw [hf17.erf m_q r_q (by decide +kernel)]; exact hs6m
  have hs6r : R (rfa f17 q 6) = 7 := by rw [hf17.erf m_q r_q (by decide +kernel)]; exact hs6r
  refine lv_pop2_2 F.1 F.2.1 dL_law_851 rfl ?_
  refine lv_aload_n F.1 F.2.1 dL_law_852 rfl (lv_at hl 1 rfl) ?_
  refine lv_aload_n F.1 F.2.1 dL_law_853 rfl (lv_at hl 3 rfl) ?_
  refine lv_iload_n F.1 F.2.1 dL_law_854 rfl (lv_at hl 0 rfl) ?_
  refine tw_iconst F dL_law_855 ki_1 (fun z21 hz21 => ?_)
  refine tu_iadd F dL_law_856 (by omega) (fun z22 hz22 => ?_)
  refine va_sld F.1 F.2.1 hX0 hbl hbA h.dd.2.2 (tw_in (by omega) (by omega)) dL_law_857 ?_
  refine lv_topi (fun z23 qz23 => ?_)
  obtain rfl : z3 = z23 := by rw [qz3, qz23, show z2 = z22 from Int32.toInt_inj.mp (by omega)]
  refine lv_aload_n F.1 F.2.1 dL_law_858 rfl (lv_at hl 3 rfl) ?_
  refine lv_iload_n F.1 F.2.1 dL_law_859 rfl (lv_at hl 0 rfl) ?_
  refine tw_iconst F dL_law_860 ki_2 (fun z24 hz24 => ?_)
  refine tu_iadd F dL_law_861 (by omega) (fun z25 hz25 => ?_)
  refine va_sld F.1 F.2.1 hX0 hbl hbA h.dd.2.2 (tw_in (by omega) (by omega)) dL_law_862 ?_
  refine lv_topi (fun z26 qz26 => ?_)
  obtain rfl : z6 = z26 := by rw [qz6, qz26, show z5 = z25 from Int32.toInt_inj.mp (by omega)]
  refine lv_i2l F.1 F.2.1 dL_law_863 rfl ?_
  refine lv_topl (fun z27 qz27 => ?_)
  obtain rfl : z7 = z27 := by rw [qz7, qz27]
  refine tw_bipush F dL_law_864 kb_32 (fun z28 hz28 => ?_)
  obtain rfl : z8 = z28 := Int32.toInt_inj.mp (by omega)
  refine lv_lshl F.1 F.2.1 dL_law_866 rfl ?_
  refine lv_topl (fun z29 qz29 => ?_)
  obtain rfl : z9 = z29 := by rw [qz9, qz29]
  refine lv_aload_n F.1 F.2.1 dL_law_867 rfl (lv_at hl 3 rfl) ?_
  refine lv_iload_n F.1 F.2.1 dL_law_868 rfl (lv_at hl 0 rfl) ?_
  refine tw_iconst F dL_law_869 ki_3 (fun z30 hz30 => ?_)
  refine tu_iadd F dL_law_870 (by omega) (fun z31 hz31 => ?_)
  refine va_sld F.1 F.2.1 hX0 hbl hbA h.dd.2.2 (tw_in (by omega) (by omega)) dL_law_871 ?_
  refine lv_topi (fun z32 qz32 => ?_)
  obtain rfl : z12 = z32 := by rw [qz12, qz32, show z11 = z31 from Int32.toInt_inj.mp (by omega)]
  refine lv_i2l F.1 F.2.1 dL_law_872 rfl ?_
  refine lv_topl (fun z33 qz33 => ?_)
  obtain rfl : z13 = z33 := by rw [qz13, qz33]
  refine lv_ldc2 F.1 F.2.1 F.2.2.2.1 (F.2.2.2.2 _ mw_6) dL_law_873 ?_
  refine lv_topl (fun z34 qz34 => ?_)
  obtain rfl : z14 = z34 := by rw [qz14, qz34]
  refine lv_land F.1 F.2.1 dL_law_876 ?_
  refine lv_topl (fun z35 qz35 => ?_)
  obtain rfl : z15 = z35 := by rw [qz15, qz35]
  refine lv_lor F.1 F.2.1 dL_law_877 ?_
  refine lv_topl (fun z36 qz36 => ?_)
  obtain rfl : z16 = z36 := by rw [qz16, qz36]
  refine tw_Vl (As := [.int z3, .long z16]) F hZ h yk_X12_turned mw_927 mw_928 mw_929 (s_X12_turned l D cy L R O f17 rr m_rr r_rr z3 z16) rfl rfl m_rr r_rr (fun e q => (T_12 e).mp q) rfl hl.1 rfl (Nat.le_of_ble_eq_true rfl) ⟨Nat.le_of_ble_eq_true rfl, Nat.le_of_ble_eq_true rfl⟩ ⟨hcs, hsl⟩ dL_law_878 (fun v38 f37 H locs hp37 h => ?_)
  have hf37 := hp37
  have en39a := TNa hTMc hf37 m_q r_q (by decide +kernel) (by decide +kernel) (by decide +kernel)
  have en39c := TNc hTMc hTMn hf37 m_q r_q (by decide +kernel) (by decide +kernel) (by decide +kernel) (by decide +kernel)
  have en39m := TNm t_GT m_GT r_GT hf37 m_rr r_rr (by decide +kernel) (by decide +kernel)
  have et40p := TRp hTMc hf37 m_q r_q (by decide +kernel) (by decide +kernel)
  have et40c := TRc hTMc hf37 m_q r_q (by decide +kernel) (by decide +kernel) (by decide +kernel) (by decide +kernel)
  have et40m := TRm hTMm hf37 m_rr r_rr (by decide +kernel) (by decide +kernel) (by decide +kernel) (by decide +kernel)
  have hTPn : ∀ i, i < 4 → P (trs f37 q i) = i := fun i hi => by rw [et40p i]; exact hTPn i hi
  have hTMc := TMc_of h m_q r_q
  have hTMm := TMm_of h m_rr r_rr
  have hTQn : ∀ i, i < 4 → P (rfa f37 (trs f37 q i) 0) = i := fun i hi => by rw [en39a i hi]; exact hTQn i hi
  have hTMn := TMn_of h hTMc
  have hI : INV L R O P f37 q := hI.most m_q r_q hf37 (by decide +kernel) (by decide +kernel) (by decide +kernel) (by decide +kernel) (by decide +kernel)
  have t_GA : fld f37 rr 0 = .ref GA := (hf37.efl m_rr r_rr (by decide +kernel)).trans t_GA
  have t_GP : fld f37 rr 22 = .ref GP := (hf37.efl m_rr r_rr (by decide +kernel)).trans t_GP
  have t_GL : fld f37 rr 23 = .ref GL := (hf37.efl m_rr r_rr (by decide +kernel)).trans t_GL
  have t_GT : fld f37 rr 6 = .ref GT := (hf37.efl m_rr r_rr (by decide +kernel)).trans t_GT
  have hR : RBA GA f37 := hR.fm hf37 m_GA r_GA (by decide +kernel)
  have hX : GZ GP GL f37 := hX.fm hf37 m_GP r_GP m_GL r_GL (by decide +kernel) (by decide +kernel)
  have hP : fld f37 (rfa f37 q 6) 16 = V := by rw [hf37.erf m_q r_q (by decide +kernel), hf37.efl hs6m hs6r (by decide +kernel)]; exact hP
  have hs6m : rfa f37 q 6 ∈ L := by rw [hf37.erf m_q r_q (by decide +kernel)]; exact hs6m
  have hs6r : R (rfa f37 q 6) = 7 := by rw [hf37.erf m_q r_q (by decide +kernel)]; exact hs6r
  refine lv_pop2_2 F.1 F.2.1 dL_law_881 rfl ?_
  refine lv_goto (tgt := 1756) F.1 F.2.1 dL_law_882 (by decide) ?_
  exact kk f37 _ _ _ ⟨h, hI, ⟨t_GA, t_GP, t_GL, t_GT⟩, hR, hX, hP, hTPn, fun i hi => by have q0 := hTR i hi; have q1 := et20c i hi; have q2 := et20m i; have q3 := et40c i hi; have q4 := et40m i; omega, hTQn, fun i hi j hj => by have q0 := hTR i hi; have q1 := et20c i hi; have q2 := et20m i; have q3 := et40c i hi; have q4 := et40m i; have qb := hCb i hi; have hj6 : j < 60 := (by omega); have n0 := hNR i hi j; have n1 := en19c i hi j; have n2 := en19m i j; have n3 := en39c i hi j; have n4 := en39m i j; omega⟩ hl
theorem dL_law_885 : decode cL_law 885 = .ok (.aload_n 1, 1) := by decide +kernel
theorem dL_law_886 : decode cL_law 886 = .ok (.aload_n 0, 1) := by decide +kernel
theorem dL_law_887 : decode cL_law 887 = .ok (.iload_n 3, 1) := by decide +kernel
theorem dL_law_888 : decode cL_law 888 = .ok (.iconst 1, 1) := by decide +kernel
theorem dL_law_889 : decode cL_law 889 = .ok (.iadd, 1) := by decide +kernel
theorem dL_law_890 : decode cL_law 890 = .ok (.iaload, 1) := by decide +kernel
theorem dL_law_891 : decode cL_law 891 = .ok (.invokevirtual 98, 3) := by decide +kernel
theorem mw_941 : Cond.methodLink RL 98 yX11_begin ∈ wsL_law := inr_40 _ (List.mem_of_getElem? (i := 5) rfl)
theorem mw_944 : Cond.code yX11_begin cX11_begin 2 (some .boolean) ∈ wsL_law := inr_40 _ (List.mem_of_getElem? (i := 8) rfl)
theorem yk_X11_begin : xY yX11_begin RX11 cX11_begin 2 (some .boolean) 1 := ⟨⟨rfl, by decide +kernel, by decide +kernel, by decide +kernel⟩, mw_2, mw_944⟩
theorem mw_942 : Cond.instanceMethod yX11_begin ∈ wsL_law := inr_40 _ (List.mem_of_getElem? (i := 6) rfl)
theorem mw_943 : Cond.selects RX11 yX11_begin yX11_begin ∈ wsL_law := inr_40 _ (List.mem_of_getElem? (i := 7) rfl)
theorem dL_law_894 : decode cL_law 894 = .ok (.pop, 1) := by decide +kernel
theorem dL_law_895 : decode cL_law 895 = .ok (.aload_n 2, 1) := by decide +kernel
theorem dL_law_896 : decode cL_law 896 = .ok (.aload_n 0, 1) := by decide +kernel
theorem dL_law_897 : decode cL_law 897 = .ok (.iload_n 3, 1) := by decide +kernel
theorem dL_law_898 : decode cL_law 898 = .ok (.iconst 1, 1) := by decide +kernel
theorem dL_law_899 : decode cL_law 899 = .ok (.iadd, 1) := by decide +kernel
theorem dL_law_900 : decode cL_law 900 = .ok (.iaload, 1) := by decide +kernel
theorem dL_law_901 : decode cL_law 901 = .ok (.invokevirtual 102, 3) := by decide +kernel
theorem mw_945 : Cond.methodLink RL 102 yX12_begin ∈ wsL_law := inr_40 _ (List.mem_of_getElem? (i := 9) rfl)
theorem mw_948 : Cond.code yX12_begin cX12_begin 2 (some .boolean) ∈ wsL_law := inr_40 _ (List.mem_of_getElem? (i := 12) rfl)
theorem yk_X12_begin : xY yX12_begin RX12 cX12_begin 2 (some .boolean) 1 := ⟨⟨rfl, by decide +kernel, by decide +kernel, by decide +kernel⟩, mw_5, mw_948⟩
theorem mw_946 : Cond.instanceMethod yX12_begin ∈ wsL_law := inr_40 _ (List.mem_of_getElem? (i := 10) rfl)
theorem mw_947 : Cond.selects RX12 yX12_begin yX12_begin ∈ wsL_law := inr_40 _ (List.mem_of_getElem? (i := 11) rfl)
theorem dL_law_904 : decode cL_law 904 = .ok (.pop, 1) := by decide +kernel
theorem dL_law_905 : decode cL_law 905 = .ok (.goto 851, 3) := by decide +kernel
set_option maxHeartbeats 4000000 in
set_option maxRecDepth 100000 in
theorem law_c18 {p : Program} {l : Launch} {e : Env} {s : State} {m : MethodId} {below : List Frame} {meth : Method} {c : Code} {H : Heap} {locs : List Loc} {Q : State → Prop} {D : va_G} {cy : Nat → ClassId} {A : Nat → Prop} {L : List Nat} {R O P : Nat → Nat} {f0 : Nat → va_E} {ls : Array Slot} {b N cs sl q rr GA GP GL GT : Nat} {xs : Nat → Int32} {V : Value} (F : CallFix p m c cL_law 4 s #[Value.ref b] wsL_law RL) (hZ : tZ A s s.heap) (hX0 : va_X b N xs s s.heap) (hbl : b < s.heap.size) (hbA : ¬ A b) (hcs : cs ≤ room_1.cells) (hsl : sl ≤ room_1.slots) (i : Int32) (bi : 0 ≤ i.toInt ∧ i.toInt + 6 ≤ N ∧ N ≤ 3072) (m_q : q ∈ L) (r_q : R q = 11) (m_rr : rr ∈ L) (r_rr : R rr = 12) (m_GA : GA ∈ L) (r_GA : R GA = 61) (m_GP : GP ∈ L) (r_GP : R GP = 69) (m_GL : GL ∈ L) (r_GL : R GL = 70) (m_GT : GT ∈ L) (r_GT : R GT = 64) (hLS : LWS D cy A s L R O P q rr GA GP GL GT V f0 H locs) (hl : lv_has ls 4 [(3, .int i), (2, .ref rr), (1, .ref q), (0, .ref b)]) (kk : ∀ (f1 : Nat → va_E) (H : Heap) (locs : List Loc) (ls : Array Slot), LWS D cy A s L R O P q rr GA GP GL GT V f1 H locs → lv_has ls 4 [(3, .int i), (2, .ref rr), (1, .ref q), (0, .ref b)] → W p l e room_1 s m #[Value.ref b] below meth c H locs cs sl Q (F0 m 1756 ls [])) : W p l e room_1 s m #[Value.ref b] below meth c H locs cs sl Q (F0 m 885 ls []) := by
  obtain ⟨h, hI, ⟨t_GA, t_GP, t_GL, t_GT⟩, hR, hX, hP, hTP, hTR, hTQ, hNR⟩ := hLS
  have hs6m := hI.2.2.1.1
  have hs6r := hI.2.2.1.2
  have hTMc := TMc_of h m_q r_q
  have hTMm := TMm_of h m_rr r_rr
  have hTPn := hTP
  have hTMn := TMn_of h hTMc
  have hTQn := hTQ
  have hCb := CS_le h m_q r_q
  refine lv_aload_n F.1 F.2.1 dL_law_885 rfl (lv_at hl 2 rfl) ?_
  refine lv_aload_n F.1 F.2.1 dL_law_886 rfl (lv_at hl 3 rfl) ?_
  refine lv_iload_n F.1 F.2.1 dL_law_887 rfl (lv_at hl 0 rfl) ?_
  refine tw_iconst F dL_law_888 ki_1 (fun z1 hz1 => ?_)
  refine tu_iadd F dL_law_889 (by omega) (fun z2 hz2 => ?_)
  refine va_sld F.1 F.2.1 hX0 hbl hbA h.dd.2.2 (tw_in (by omega) (by omega)) dL_law_890 ?_
  refine lv_topi (fun z3 qz3 => ?_)
  refine tw_Vi (As := [.int z3]) F hZ h yk_X11_begin mw_941 mw_942 mw_943 (s_X11_beginI l D cy L R O f0 q m_q r_q z3 P hI.2.2.2.2.1 hI.2.2.2.1.1) rfl rfl m_q r_q (fun e q => (T_11 e).mp q) rfl hl.1 rfl (Nat.le_of_ble_eq_true rfl) ⟨Nat.le_of_ble_eq_true rfl, Nat.le_of_ble_eq_true rfl⟩ ⟨hcs, hsl⟩ dL_law_891 (fun v5 f4 H locs hp4 h => ?_)
  obtain ⟨hf4, hv5a, hv5b, hv5p0⟩ := hp4
  have en6a := TNa hTMc hf4 m_q r_q (by decide +kernel) (by decide +kernel) (by decide +kernel)
  have en6c := TNc hTMc hTMn hf4 m_q r_q (by decide +kernel) (by decide +kernel) (by decide +kernel) (by decide +kernel)
  have en6m := TNm t_GT m_GT r_GT hf4 m_rr r_rr (by decide +kernel) (by decide +kernel)
  have et7p := TRp hTMc hf4 m_q r_q (by decide +kernel) (by decide +kernel)
  have et7c := TRc hTMc hf4 m_q r_q (by decide +kernel) (by decide +kernel) (by decide +kernel) (by decide +kernel)
  have et7m := TRm hTMm hf4 m_rr r_rr (by decide +kernel) (by decide +kernel) (by decide +kernel) (by decide +kernel)
  have hTPn : ∀ i, i < 4 → P (trs f4 q i) = i := fun i hi => by rw [et7p i]; exact hTPn i hi
  have hTMc := TMc_of h m_q r_q
  have hTMm := TMm_of h m_rr r_rr
  have hTQn : ∀ i, i < 4 → P (rfa f4 (trs f4 q i) 0) = i := fun i hi => by rw [en6a i hi]; exact hTQn i hi
  have hTMn := TMn_of h hTMc
  have hI : INV L R O P f4 q := hI.mk1 m_q r_q hf4 (by decide +kernel) (hI.2.2.2.1.fr hf4 (by decide +kernel) (by decide +kernel)) hv5p0
  have t_GA : fld f4 rr 0 = .ref GA := (hf4.efl m_rr r_rr (by decide +kernel)).trans t_GA
  have t_GP : fld f4 rr 22 = .ref GP := (hf4.efl m_rr r_rr (by decide +kernel)).trans t_GP
  have t_GL : fld f4 rr 23 = .ref GL := (hf4.efl m_rr r_rr (by decide +kernel)).trans t_GL
  have t_GT : fld f4 rr 6 = .ref GT := (hf4.efl m_rr r_rr (by decide +kernel)).trans t_GT
  have hR : RBA GA f4 := hR.fm hf4 m_GA r_GA (by decide +kernel)
  have hX : GZ GP GL f4 := hX.fm hf4 m_GP r_GP m_GL r_GL (by decide +kernel) (by decide +kernel)
  have hP : fld f4 (rfa f4 q 6) 16 = V := by rw [hf4.erf m_q r_q (by decide +kernel), hf4.efl hs6m hs6r (by decide +kernel)]; exact hP
  have hs6m : rfa f4 q 6 ∈ L := by rw [hf4.erf m_q r_q (by decide +kernel)]; exact hs6m
  have hs6r : R (rfa f4 q 6) = 7 := by rw [hf4.erf m_q r_q (by decide +kernel)]; exact hs6r
  refine lv_pop F.1 F.2.1 dL_law_894 rfl ?_
  refine lv_aload_n F.1 F.2.1 dL_law_895 rfl (lv_at hl 1 rfl) ?_
  refine lv_aload_n F.1 F.2.1 dL_law_896 rfl (lv_at hl 3 rfl) ?_
  refine lv_iload_n F.1 F.2.1 dL_law_897 rfl (lv_at hl 0 rfl) ?_
  refine tw_iconst F dL_law_898 ki_1 (fun z8 hz8 => ?_)
  refine tu_iadd F dL_law_899 (by omega) (fun z9 hz9 => ?_)
  refine va_sld F.1 F.2.1 hX0 hbl hbA h.dd.2.2 (tw_in (by omega) (by omega)) dL_law_900 ?_
  refine lv_topi (fun z10 qz10 => ?_)
  obtain rfl : z3 = z10 := by rw [qz3, qz10, show z2 = z9 from Int32.toInt_inj.mp (by omega)]
  refine tw_Vi (As := [.int z3]) F hZ h yk_X12_begin mw_945 mw_946 mw_947 (s_X12_begin l D cy L R O f4 rr m_rr r_rr z3 GA m_GA r_GA t_GA GP m_GP r_GP t_GP GL m_GL r_GL t_GL GT m_GT r_GT t_GT hR hX) rfl rfl m_rr r_rr (fun e q => (T_12 e).mp q) rfl hl.1 rfl (Nat.le_of_ble_eq_true rfl) ⟨Nat.le_of_ble_eq_true rfl, Nat.le_of_ble_eq_true rfl⟩ ⟨hcs, hsl⟩ dL_law_901 (fun v12 f11 H locs hp11 h => ?_)
  obtain ⟨hf11, hv12a, hv12b, hv12p0, hv12p1⟩ := hp11
  have en13a := TNa hTMc hf11 m_q r_q (by decide +kernel) (by decide +kernel) (by decide +kernel)
  have en13c := TNc hTMc hTMn hf11 m_q r_q (by decide +kernel) (by decide +kernel) (by decide +kernel) (by decide +kernel)
  have en13m := TNm t_GT m_GT r_GT hf11 m_rr r_rr (by decide +kernel) (by decide +kernel)
  have et14p := TRp hTMc hf11 m_q r_q (by decide +kernel) (by decide +kernel)
  have et14c := TRc hTMc hf11 m_q r_q (by decide +kernel) (by decide +kernel) (by decide +kernel) (by decide +kernel)
  have et14m := TRm hTMm hf11 m_rr r_rr (by decide +kernel) (by decide +kernel) (by decide +kernel) (by decide +kernel)
  have hTPn : ∀ i, i < 4 → P (trs f11 q i) = i := fun i hi => by rw [et14p i]; exact hTPn i hi
  have hTMc := TMc_of h m_q r_q
  have hTMm := TMm_of h m_rr r_rr
  have hTQn : ∀ i, i < 4 → P (rfa f11 (trs f11 q i) 0) = i := fun i hi => by rw [en13a i hi]; exact hTQn i hi
  have hTMn := TMn_of h hTMc
  have hI : INV L R O P f11 q := hI.most m_q r_q hf11 (by decide +kernel) (by decide +kernel) (by decide +kernel) (by decide +kernel) (by decide +kernel)
  have t_GA : fld f11 rr 0 = .ref GA := (hf11.efl m_rr r_rr (by decide +kernel)).trans t_GA
  have t_GP : fld f11 rr 22 = .ref GP := (hf11.efl m_rr r_rr (by decide +kernel)).trans t_GP
  have t_GL : fld f11 rr 23 = .ref GL := (hf11.efl m_rr r_rr (by decide +kernel)).trans t_GL
  have t_GT : fld f11 rr 6 = .ref GT := (hf11.efl m_rr r_rr (by decide +kernel)).trans t_GT
  have hR : RBA GA f11 := hv12p0
  have hX : GZ GP GL f11 := hX.fm hf11 m_GP r_GP m_GL r_GL (by decide +kernel) (by decide +kernel)
  have hP : fld f11 (rfa f11 q 6) 16 = V := by rw [hf11.erf m_q r_q (by decide +kernel), hf11.efl hs6m hs6r (by decide +kernel)]; exact hP
  have hs6m : rfa f11 q 6 ∈ L := by rw [hf11.erf m_q r_q (by decide +kernel)]; exact hs6m
  have hs6r : R (rfa f11 q 6) = 7 := by rw [hf11.erf m_q r_q (by decide +kernel)]; exact hs6r
  refine lv_pop F.1 F.2.1 dL_law_904 rfl ?_
  refine lv_goto (tgt := 1756) F.1 F.2.1 dL_law_905 (by decide) ?_
  exact kk f11 _ _ _ ⟨h, hI, ⟨t_GA, t_GP, t_GL, t_GT⟩, hR, hX, hP, hTPn, fun i hi => by have q0 := hTR i hi; have q1 := et7c i hi; have q2 := et7m i; have q3 := et14c i hi; have q4 := et14m i; omega, hTQn, fun i hi j hj => by have q0 := hTR i hi; have q1 := et7c i hi; have q2 := et7m i; have q3 := et14c i hi; have q4 := et14m i; have qb := hCb i hi; have hj6 : j < 60 := (by omega); have n0 := hNR i hi j; have n1 := en6c i hi j; have n2 := en6m i j; have n3 := en13c i hi j; have n4 := en13m i j; omega⟩ hl
theorem dL_law_908 : decode cL_law 908 = .ok (.aload_n 1, 1) := by decide +kernel
theorem dL_law_909 : decode cL_law 909 = .ok (.aload_n 0, 1) := by decide +kernel
theorem dL_law_910 : decode cL_law 910 = .ok (.iload_n 3, 1) := by decide +kernel
theorem dL_law_911 : decode cL_law 911 = .ok (.iconst 1, 1) := by decide +kernel
theorem dL_law_912 : decode cL_law 912 = .ok (.iadd, 1) := by decide +kernel
theorem dL_law_913 : decode cL_law 913 = .ok (.iaload, 1) := by decide +kernel
theorem dL_law_914 : decode cL_law 914 = .ok (.aload_n 0, 1) := by decide +kernel
theorem dL_law_915 : decode cL_law 915 = .ok (.iload_n 3, 1) := by decide +kernel
theorem dL_law_916 : decode cL_law 916 = .ok (.iconst 2, 1) := by decide +kernel
theorem dL_law_917 : decode cL_law 917 = .ok (.iadd, 1) := by decide +kernel
theorem dL_law_918 : decode cL_law 918 = .ok (.iaload, 1) := by decide +kernel
theorem dL_law_919 : decode cL_law 919 = .ok (.invokevirtual 103, 3) := by decide +kernel
theorem mw_949 : Cond.methodLink RL 103 yX11_say ∈ wsL_law := inr_40 _ (List.mem_of_getElem? (i := 13) rfl)
theorem mw_952 : Cond.code yX11_say cX11_say 4 (some .int) ∈ wsL_law := inr_40 _ (List.mem_of_getElem? (i := 16) rfl)
theorem yk_X11_say : xY yX11_say RX11 cX11_say 4 (some .int) 2 := ⟨⟨rfl, by decide +kernel, by decide +kernel, by decide +kernel⟩, mw_2, mw_952⟩
theorem mw_950 : Cond.instanceMethod yX11_say ∈ wsL_law := inr_40 _ (List.mem_of_getElem? (i := 14) rfl)
theorem mw_951 : Cond.selects RX11 yX11_say yX11_say ∈ wsL_law := inr_40 _ (List.mem_of_getElem? (i := 15) rfl)
theorem dL_law_922 : decode cL_law 922 = .ok (.pop, 1) := by decide +kernel
theorem dL_law_923 : decode cL_law 923 = .ok (.aload_n 2, 1) := by decide +kernel
theorem dL_law_924 : decode cL_law 924 = .ok (.aload_n 0, 1) := by decide +kernel
theorem dL_law_925 : decode cL_law 925 = .ok (.iload_n 3, 1) := by decide +kernel
theorem dL_law_926 : decode cL_law 926 = .ok (.iconst 1, 1) := by decide +kernel
theorem dL_law_927 : decode cL_law 927 = .ok (.iadd, 1) := by decide +kernel
theorem dL_law_928 : decode cL_law 928 = .ok (.iaload, 1) := by decide +kernel
theorem dL_law_929 : decode cL_law 929 = .ok (.aload_n 0, 1) := by decide +kernel
theorem dL_law_930 : decode cL_law 930 = .ok (.iload_n 3, 1) := by decide +kernel
theorem dL_law_931 : decode cL_law 931 = .ok (.iconst 2, 1) := by decide +kernel
theorem dL_law_932 : decode cL_law 932 = .ok (.iadd, 1) := by decide +kernel
theorem dL_law_933 : decode cL_law 933 = .ok (.iaload, 1) := by decide +kernel
theorem dL_law_934 : decode cL_law 934 = .ok (.invokevirtual 106, 3) := by decide +kernel
theorem mw_1042 : Cond.methodLink RL 106 yX12_say ∈ wsL_law := inr_44 _ (List.mem_of_getElem? (i := 10) rfl)
theorem mw_1045 : Cond.code yX12_say cX12_say 4 (some .int) ∈ wsL_law := inr_44 _ (List.mem_of_getElem? (i := 13) rfl)
theorem yk_X12_say : xY yX12_say RX12 cX12_say 4 (some .int) 2 := ⟨⟨rfl, by decide +kernel, by decide +kernel, by decide +kernel⟩, mw_5, mw_1045⟩
theorem mw_1043 : Cond.instanceMethod yX12_say ∈ wsL_law := inr_44 _ (List.mem_of_getElem? (i := 11) rfl)
theorem mw_1044 : Cond.selects RX12 yX12_say yX12_say ∈ wsL_law := inr_44 _ (List.mem_of_getElem? (i := 12) rfl)
theorem dL_law_937 : decode cL_law 937 = .ok (.pop, 1) := by decide +kernel
theorem dL_law_938 : decode cL_law 938 = .ok (.goto 818, 3) := by decide +kernel
set_option maxHeartbeats 4000000 in
set_option maxRecDepth 100000 in
theorem law_c19 {p : Program} {l : Launch} {e : Env} {s : State} {m : MethodId} {below : List Frame} {meth : Method} {c : Code} {H : Heap} {locs : List Loc} {Q : State → Prop} {D : va_G} {cy : Nat → ClassId} {A : Nat → Prop} {L : List Nat} {R O P : Nat → Nat} {f0 : Nat → va_E} {ls : Array Slot} {b N cs sl q rr GA GP GL GT : Nat} {xs : Nat → Int32} {V : Value} (F : CallFix p m c cL_law 4 s #[Value.ref b] wsL_law RL) (hZ : tZ A s s.heap) (hX0 : va_X b N xs s s.heap) (hbl : b < s.heap.size) (hbA : ¬ A b) (hcs : cs ≤ room_1.cells) (hsl : sl ≤ room_1.slots) (i : Int32) (bi : 0 ≤ i.toInt ∧ i.toInt + 6 ≤ N ∧ N ≤ 3072) (m_q : q ∈ L) (r_q : R q = 11) (m_rr : rr ∈ L) (r_rr : R rr = 12) (m_GA : GA ∈ L) (r_GA : R GA = 61) (m_GP : GP ∈ L) (r_GP : R GP = 69) (m_GL : GL ∈ L) (r_GL : R GL = 70) (m_GT : GT ∈ L) (r_GT : R GT = 64) (hLS : LWS D cy A s L R O P q rr GA GP GL GT V f0 H locs) (hl : lv_has ls 4 [(3, .int i), (2, .ref rr), (1, .ref q), (0, .ref b)]) (kk : ∀ (f1 : Nat → va_E) (H : Heap) (locs : List Loc) (ls : Array Slot), LWS D cy A s L R O P q rr GA GP GL GT V f1 H locs → lv_has ls 4 [(3, .int i), (2, .ref rr), (1, .ref q), (0, .ref b)] → W p l e room_1 s m #[Value.ref b] below meth c H locs cs sl Q (F0 m 1756 ls [])) : W p l e room_1 s m #[Value.ref b] below meth c H locs cs sl Q (F0 m 908 ls []) := by
  obtain ⟨h, hI, ⟨t_GA, t_GP, t_GL, t_GT⟩, hR, hX, hP, hTP, hTR, hTQ, hNR⟩ := hLS
  have hs6m := hI.2.2.1.1
  have hs6r := hI.2.2.1.2
  have hTMc := TMc_of h m_q r_q
  have hTMm := TMm_of h m_rr r_rr
  have hTPn := hTP
  have hTMn := TMn_of h hTMc
  have hTQn := hTQ
  have hCb := CS_le h m_q r_q
  refine lv_aload_n F.1 F.2.1 dL_law_908 rfl (lv_at hl 2 rfl) ?_
  refine lv_aload_n F.1 F.2.1 dL_law_909 rfl (lv_at hl 3 rfl) ?_
  refine lv_iload_n F.1 F.2.1 dL_law_910 rfl (lv_at hl 0 rfl) ?_
  refine tw_iconst F dL_law_911 ki_1 (fun z1 hz1 => ?_)
  refine tu_iadd F dL_law_912 (by omega) (fun z2 hz2 => ?_)
  refine va_sld F.1 F.2.1 hX0 hbl hbA h.dd.2.2 (tw_in (by omega) (by omega)) dL_law_913 ?_
  refine lv_topi (fun z3 qz3 => ?_)
  refine lv_aload_n F.1 F.2.1 dL_law_914 rfl (lv_at hl 3 rfl) ?_
  refine lv_iload_n F.1 F.2.1 dL_law_915 rfl (lv_at hl 0 rfl) ?_
  refine tw_iconst F dL_law_916 ki_2 (fun z4 hz4 => ?_)
  refine tu_iadd F dL_law_917 (by omega) (fun z5 hz5 => ?_)
  refine va_sld F.1 F.2.1 hX0 hbl hbA h.dd.2.2 (tw_in (by omega) (by omega)) dL_law_918 ?_
  refine lv_topi (fun z6 qz6 => ?_)
  refine tw_Vi (As := [.int z3, .int z6]) F hZ h yk_X11_say mw_949 mw_950 mw_951 (s_X11_say l D cy L R O f0 hI.2.2.2.1 q m_q r_q z3 z6 hI.pi) rfl rfl m_q r_q (fun e q => (T_11 e).mp q) rfl hl.1 rfl (Nat.le_of_ble_eq_true rfl) ⟨Nat.le_of_ble_eq_true rfl, Nat.le_of_ble_eq_true rfl⟩ ⟨hcs, hsl⟩ dL_law_919 (fun v8 f7 H locs hp7 h => ?_)
  obtain ⟨hf7, hv8p0⟩ := hp7
  have en9a := TNa hTMc hf7 m_q r_q (by decide +kernel) (by decide +kernel) (by decide +kernel)
  have en9c := TNc hTMc hTMn hf7 m_q r_q (by decide +kernel) (by decide +kernel) (by decide +kernel) (by decide +kernel)
  have en9m := TNm t_GT m_GT r_GT hf7 m_rr r_rr (by decide +kernel) (by decide +kernel)
  have et10p := TRp hTMc hf7 m_q r_q (by decide +kernel) (by decide +kernel)
  have et10c := TRc hTMc hf7 m_q r_q (by decide +kernel) (by decide +kernel) (by decide +kernel) (by decide +kernel)
  have et10m := TRm hTMm hf7 m_rr r_rr (by decide +kernel) (by decide +kernel) (by decide +kernel) (by decide +kernel)
  have hTPn : ∀ i, i < 4 → P (trs f7 q i) = i := fun i hi => by rw [et10p i]; exact hTPn i hi
  have hTMc := TMc_of h m_q r_q
  have hTMm := TMm_of h m_rr r_rr
  have hTQn : ∀ i, i < 4 → P (rfa f7 (trs f7 q i) 0) = i := fun i hi => by rw [en9a i hi]; exact hTQn i hi
  have hTMn := TMn_of h hTMc
  have hI : INV L R O P f7 q := hI.say m_q r_q hf7 (by decide +kernel) (by decide +kernel) (by decide +kernel) (by decide +kernel) rfl hv8p0
  have t_GA : fld f7 rr 0 = .ref GA := (hf7.efl m_rr r_rr (by decide +kernel)).trans t_GA
  have t_GP : fld f7 rr 22 = .ref GP := (hf7.efl m_rr r_rr (by decide +kernel)).trans t_GP
  have t_GL : fld f7 rr 23 = .ref GL := (hf7.efl m_rr r_rr (by decide +kernel)).trans t_GL
  have t_GT : fld f7 rr 6 = .ref GT := (hf7.efl m_rr r_rr (by decide +kernel)).trans t_GT
  have hR : RBA GA f7 := hR.fm hf7 m_GA r_GA (by decide +kernel)
  have hX : GZ GP GL f7 := hX.fm hf7 m_GP r_GP m_GL r_GL (by decide +kernel) (by decide +kernel)
  have hP : fld f7 (rfa f7 q 6) 16 = V := by rw [hf7.erf m_q r_q (by decide +kernel), hf7.efl hs6m hs6r (by decide +kernel)]; exact hP
  have hs6m : rfa f7 q 6 ∈ L := by rw [hf7.erf m_q r_q (by decide +kernel)]; exact hs6m
  have hs6r : R (rfa f7 q 6) = 7 := by rw [hf7.erf m_q r_q (by decide +kernel)]; exact hs6r
  refine lv_pop F.1 F.2.1 dL_law_922 rfl ?_
  refine lv_aload_n F.1 F.2.1 dL_law_923 rfl (lv_at hl 1 rfl) ?_
  refine lv_aload_n F.1 F.2.1 dL_law_924 rfl (lv_at hl 3 rfl) ?_
  refine lv_iload_n F.1 F.2.1 dL_law_925 rfl (lv_at hl 0 rfl) ?_
  refine tw_iconst F dL_law_926 ki_1 (fun z11 hz11 => ?_)
  refine tu_iadd F dL_law_927 (by omega) (fun z12 hz12 => ?_)
  refine va_sld F.1 F.2.1 hX0 hbl hbA h.dd.2.2 (tw_in (by omega) (by omega)) dL_law_928 ?_
  refine lv_topi (fun z13 qz13 => ?_)
  obtain rfl : z3 = z13 := by rw [qz3, qz13, show z2 = z12 from Int32.toInt_inj.mp (by omega)]
  refine lv_aload_n F.1 F.2.1 dL_law_929 rfl (lv_at hl 3 rfl) ?_
  refine lv_iload_n F.1 F.2.1 dL_law_930 rfl (lv_at hl 0 rfl) ?_
  refine tw_iconst F dL_law_931 ki_2 (fun z14 hz14 => ?_)
  refine tu_iadd F dL_law_932 (by omega) (fun z15 hz15 => ?_)
  refine va_sld F.1 F.2.1 hX0 hbl hbA h.dd.2.2 (tw_in (by omega) (by omega)) dL_law_933 ?_
  refine lv_topi (fun z16 qz16 => ?_)
  obtain rfl : z6 = z16 := by rw [qz6, qz16, show z5 = z15 from Int32.toInt_inj.mp (by omega)]
  refine tw_Vi (As := [.int z3, .int z6]) F hZ h yk_X12_say mw_1042 mw_1043 mw_1044 (s_X12_say l D cy L R O f7 rr m_rr r_rr z3 z6 GA m_GA r_GA t_GA GP m_GP r_GP t_GP GL m_GL r_GL t_GL GT m_GT r_GT t_GT hR hX) rfl rfl m_rr r_rr (fun e q => (T_12 e).mp q) rfl hl.1 rfl (Nat.le_of_ble_eq_true rfl) ⟨Nat.le_of_ble_eq_true rfl, Nat.le_of_ble_eq_true rfl⟩ ⟨hcs, hsl⟩ dL_law_934 (fun v18 f17 H locs hp17 h => ?_)
  obtain ⟨hf17, hv18p0, hv18p1⟩ := hp17
  have en19a := TNa hTMc hf17 m_q r_q (by decide +kernel) (by decide +kernel) (by decide +kernel)
  have en19c := TNc hTMc hTMn hf17 m_q r_q (by decide +kernel) (by decide +kernel) (by decide +kernel) (by decide +kernel)
  have en19m := TNm t_GT m_GT r_GT hf17 m_rr r_rr (by decide +kernel) (by decide +kernel)
  have et20p := TRp hTMc hf17 m_q r_q (by decide +kernel) (by decide +kernel)
  have et20c := TRc hTMc hf17 m_q r_q (by decide +kernel) (by decide +kernel) (by decide +kernel) (by decide +kernel)
  have et20m := TRm hTMm hf17 m_rr r_rr (by decide +kernel) (by decide +kernel) (by decide +kernel) (by decide +kernel)
  have hTPn : ∀ i, i < 4 → P (trs f17 q i) = i := fun i hi => by rw [et20p i]; exact hTPn i hi
  have hTMc := TMc_of h m_q r_q
  have hTMm := TMm_of h m_rr r_rr
  have hTQn : ∀ i, i < 4 → P (rfa f17 (trs f17 q i) 0) = i := fun i hi => by rw [en19a i hi]; exact hTQn i hi
  have hTMn := TMn_of h hTMc
  have hI : INV L R O P f17 q := hI.most m_q r_q hf17 (by decide +kernel) (by decide +kernel) (by decide +kernel) (by decide +kernel) (by decide +kernel)
  have t_GA : fld f17 rr 0 = .ref GA := (hf17.efl m_rr r_rr (by decide +kernel)).trans t_GA
  have t_GP : fld f17 rr 22 = .ref GP := (hf17.efl m_rr r_rr (by decide +kernel)).trans t_GP
  have t_GL : fld f17 rr 23 = .ref GL := (hf17.efl m_rr r_rr (by decide +kernel)).trans t_GL
  have t_GT : fld f17 rr 6 = .ref GT := (hf17.efl m_rr r_rr (by decide +kernel)).trans t_GT
  have hR : RBA GA f17 := hv18p0
  have hX : GZ GP GL f17 := hv18p1
  have hP : fld f17 (rfa f17 q 6) 16 = V := by rw [hf17.erf m_q r_q (by decide +kernel), hf17.efl hs6m hs6r (by decide +kernel)]; exact hP
  have hs6m : rfa f17 q 6 ∈ L := by rw [hf17.erf m_q r_q (by decide +kernel)]; exact hs6m
  have hs6r : R (rfa f17 q 6) = 7 := by rw [hf17.erf m_q r_q (by decide +kernel)]; exact hs6r
  refine lv_pop F.1 F.2.1 dL_law_937 rfl ?_
  refine lv_goto (tgt := 1756) F.1 F.2.1 dL_law_938 (by decide) ?_
  exact kk f17 _ _ _ ⟨h, hI, ⟨t_GA, t_GP, t_GL, t_GT⟩, hR, hX, hP, hTPn, fun i hi => by have q0 := hTR i hi; have q1 := et10c i hi; have q2 := et10m i; have q3 := et20c i hi; have q4 := et20m i; omega, hTQn, fun i hi j hj => by have q0 := hTR i hi; have q1 := et10c i hi; have q2 := et10m i; have q3 := et20c i hi; have q4 := et20m i; have qb := hCb i hi; have hj6 : j < 60 := (by omega); have n0 := hNR i hi j; have n1 := en9c i hi j; have n2 := en9m i j; have n3 := en19c i hi j; have n4 := en19m i j; omega⟩ hl
theorem dL_law_941 : decode cL_law 941 = .ok (.aload_n 1, 1) := by decide +kernel
theorem dL_law_942 : decode cL_law 942 = .ok (.aload_n 0, 1) := by decide +kernel
theorem dL_law_943 : decode cL_law 943 = .ok (.iload_n 3, 1) := by decide +kernel
theorem dL_law_944 : decode cL_law 944 = .ok (.iconst 1, 1) := by decide +kernel
theorem dL_law_945 : decode cL_law 945 = .ok (.iadd, 1) := by decide +kernel
theorem dL_law_946 : decode cL_law 946 = .ok (.iaload, 1) := by decide +kernel
theorem dL_law_947 : decode cL_law 947 = .ok (.invokevirtual 107, 3) := by decide +kernel
theorem mw_1111 : Cond.methodLink RL 107 yX11_said ∈ wsL_law := inr_47 _ (List.mem_of_getElem? (i := 7) rfl)
theorem mw_1114 : Cond.code yX11_said cX11_said 2 (some .long) ∈ wsL_law := inr_47 _ (List.mem_of_getElem? (i := 10) rfl)
theorem yk_X11_said : xY yX11_said RX11 cX11_said 2 (some .long) 1 := ⟨⟨rfl, by decide +kernel, by decide +kernel, by decide +kernel⟩, mw_2, mw_1114⟩
theorem mw_1112 : Cond.instanceMethod yX11_said ∈ wsL_law := inr_47 _ (List.mem_of_getElem? (i := 8) rfl)
theorem mw_1113 : Cond.selects RX11 yX11_said yX11_said ∈ wsL_law := inr_47 _ (List.mem_of_getElem? (i := 9) rfl)
theorem dL_law_950 : decode cL_law 950 = .ok (.pop2, 1) := by decide +kernel
theorem dL_law_951 : decode cL_law 951 = .ok (.aload_n 2, 1) := by decide +kernel
theorem dL_law_952 : decode cL_law 952 = .ok (.aload_n 0, 1) := by decide +kernel
theorem dL_law_953 : decode cL_law 953 = .ok (.iload_n 3, 1) := by decide +kernel
theorem dL_law_954 : decode cL_law 954 = .ok (.iconst 1, 1) := by decide +kernel
theorem dL_law_955 : decode cL_law 955 = .ok (.iadd, 1) := by decide +kernel
theorem dL_law_956 : decode cL_law 956 = .ok (.iaload, 1) := by decide +kernel
theorem dL_law_957 : decode cL_law 957 = .ok (.invokevirtual 111, 3) := by decide +kernel
theorem mw_1115 : Cond.methodLink RL 111 yX12_said ∈ wsL_law := inr_47 _ (List.mem_of_getElem? (i := 11) rfl)
theorem mw_1118 : Cond.code yX12_said cX12_said 2 (some .long) ∈ wsL_law := inr_47 _ (List.mem_of_getElem? (i := 14) rfl)
theorem yk_X12_said : xY yX12_said RX12 cX12_said 2 (some .long) 1 := ⟨⟨rfl, by decide +kernel, by decide +kernel, by decide +kernel⟩, mw_5, mw_1118⟩
theorem mw_1116 : Cond.instanceMethod yX12_said ∈ wsL_law := inr_47 _ (List.mem_of_getElem? (i := 12) rfl)
theorem mw_1117 : Cond.selects RX12 yX12_said yX12_said ∈ wsL_law := inr_47 _ (List.mem_of_getElem? (i := 13) rfl)
theorem dL_law_960 : decode cL_law 960 = .ok (.pop2, 1) := by decide +kernel
theorem dL_law_961 : decode cL_law 961 = .ok (.goto 795, 3) := by decide +kernel
set_option maxHeartbeats 4000000 in
set_option maxRecDepth 100000 in
theorem law_c20 {p : Program} {l : Launch} {e : Env} {s : State} {m : MethodId} {below : List Frame} {meth : Method} {c : Code} {H : Heap} {locs : List Loc} {Q : State → Prop} {D : va_G} {cy : Nat → ClassId} {A : Nat → Prop} {L : List Nat} {R O P : Nat → Nat} {f0 : Nat → va_E} {ls : Array Slot} {b N cs sl q rr GA GP GL GT : Nat} {xs : Nat → Int32} {V : Value} (F : CallFix p m c cL_law 4 s #[Value.ref b] wsL_law RL) (hZ : tZ A s s.heap) (hX0 : va_X b N xs s s.heap) (hbl : b < s.heap.size) (hbA : ¬ A b) (hcs : cs ≤ room_1.cells) (hsl : sl ≤ room_1.slots) (i : Int32) (bi : 0 ≤ i.toInt ∧ i.toInt + 6 ≤ N ∧ N ≤ 3072) (m_q : q ∈ L) (r_q : R q = 11) (m_rr : rr ∈ L) (r_rr : R rr = 12) (m_GA : GA ∈ L) (r_GA : R GA = 61) (m_GP : GP ∈ L) (r_GP : R GP = 69) (m_GL : GL ∈ L) (r_GL : R GL = 70) (m_GT : GT ∈ L) (r_GT : R GT = 64) (hLS : LWS D cy A s L R O P q rr GA GP GL GT V f0 H locs) (hl : lv_has ls 4 [(3, .int i), (2, .ref rr), (1, .ref q), (0, .ref b)]) (kk : ∀ (f1 : Nat → va_E) (H : Heap) (locs : List Loc) (ls : Array Slot), LWS D cy A s L R O P q rr GA GP GL GT V f1 H locs → lv_has ls 4 [(3, .int i), (2, .ref rr), (1, .ref q), (0, .ref b)] → W p l e room_1 s m #[Value.ref b] below meth c H locs cs sl Q (F0 m 1756 ls [])) : W p l e room_1 s m #[Value.ref b] below meth c H locs cs sl Q (F0 m 941 ls []) := by
  obtain ⟨h, hI, ⟨t_GA, t_GP, t_GL, t_GT⟩, hR, hX, hP, hTP, hTR, hTQ, hNR⟩ := hLS
  have hs6m := hI.2.2.1.1
  have hs6r := hI.2.2.1.2
  have hTMc := TMc_of h m_q r_q
  have hTMm := TMm_of h m_rr r_rr
  have hTPn := hTP
  have hTMn := TMn_of h hTMc
  have hTQn := hTQ
  have hCb := CS_le h m_q r_q
  refine lv_aload_n F.1 F.2.1 dL_law_941 rfl (lv_at hl 2 rfl) ?_
  refine lv_aload_n F.1 F.2.1 dL_law_942 rfl (lv_at hl 3 rfl) ?_
  refine lv_iload_n F.1 F.2.1 dL_law_943 rfl (lv_at hl 0 rfl) ?_
  refine tw_iconst F dL_law_944 ki_1 (fun z1 hz1 => ?_)
  refine tu_iadd F dL_law_945 (by omega) (fun z2 hz2 => ?_)
  refine va_sld F.1 F.2.1 hX0 hbl hbA h.dd.2.2 (tw_in (by omega) (by omega)) dL_law_946 ?_
  refine lv_topi (fun z3 qz3 => ?_)
  refine tw_Vl (As := [.int z3]) F hZ h yk_X11_said mw_1111 mw_1112 mw_1113 (s_X11_said l D cy L R O f0 q m_q r_q z3) rfl rfl m_q r_q (fun e q => (T_11 e).mp q) rfl hl.1 rfl (Nat.le_of_ble_eq_true rfl) ⟨Nat.le_of_ble_eq_true rfl, Nat.le_of_ble_eq_true rfl⟩ ⟨hcs, hsl⟩ dL_law_947 (fun v5 f4 H locs hp4 h => ?_)
  have hf4 := hp4
  have en6a := TNa hTMc hf4 m_q r_q (by decide +kernel) (by decide +kernel) (by decide +kernel)
  have en6c := TNc hTMc hTMn hf4 m_q r_q (by decide +kernel) (by decide +kernel) (by decide +kernel) (by decide +kernel)
  have en6m := TNm t_GT m_GT r_GT hf4 m_rr r_rr (by decide +kernel) (by decide +kernel)
  have et7p := TRp hTMc hf4 m_q r_q (by decide +kernel) (by decide +kernel)
  have et7c := TRc hTMc hf4 m_q r_q (by decide +kernel) (by decide +kernel) (by decide +kernel) (by decide +kernel)
  have et7m := TRm hTMm hf4 m_rr r_rr (by decide +kernel) (by decide +kernel) (by decide +kernel) (by decide +kernel)
  have hTPn : ∀ i, i < 4 → P (trs f4 q i) = i := fun i hi => by rw [et7p i]; exact hTPn i hi
  have hTMc := TMc_of h m_q r_q
  have hTMm := TMm_of h m_rr r_rr
  have hTQn : ∀ i, i < 4 → P (rfa f4 (trs f4 q i) 0) = i := fun i hi => by rw [en6a i hi]; exact hTQn i hi
  have hTMn := TMn_of h hTMc
  have hI : INV L R O P f4 q := hI.most m_q r_q hf4 (by decide +kernel) (by decide +kernel) (by decide +kernel) (by decide +kernel) (by decide +kernel)
  have t_GA : fld f4 rr 0 = .ref GA := (hf4.efl m_rr r_rr (by decide +kernel)).trans t_GA
  have t_GP : fld f4 rr 22 = .ref GP := (hf4.efl m_rr r_rr (by decide +kernel)).trans t_GP
  have t_GL : fld f4 rr 23 = .ref GL := (hf4.efl m_rr r_rr (by decide +kernel)).trans t_GL
  have t_GT : fld f4 rr 6 = .ref GT := (hf4.efl m_rr r_rr (by decide +kernel)).trans t_GT
  have hR : RBA GA f4 := hR.fm hf4 m_GA r_GA (by decide +kernel)
  have hX : GZ GP GL f4 := hX.fm hf4 m_GP r_GP m_GL r_GL (by decide +kernel) (by decide +kernel)
  have hP : fld f4 (rfa f4 q 6) 16 = V := by rw [hf4.erf m_q r_q (by decide +kernel), hf4.efl hs6m hs6r (by decide +kernel)]; exact hP
  have hs6m : rfa f4 q 6 ∈ L := by rw [hf4.erf m_q r_q (by decide +kernel)]; exact hs6m
  have hs6r : R (rfa f4 q 6) = 7 := by rw [hf4.erf m_q r_q (by decide +kernel)]; exact hs6r
  refine lv_pop2_2 F.1 F.2.1 dL_law_950 rfl ?_
  refine lv_aload_n F.1 F.2.1 dL_law_951 rfl (lv_at hl 1 rfl) ?_
  refine lv_aload_n F.1 F.2.1 dL_law_952 rfl (lv_at hl 3 rfl) ?_
  refine lv_iload_n F.1 F.2.1 dL_law_953 rfl (lv_at hl 0 rfl) ?_
  refine tw_iconst F dL_law_954 ki_1 (fun z8 hz8 => ?_)
  refine tu_iadd F dL_law_955 (by omega) (fun z9 hz9 => ?_)
  refine va_sld F.1 F.2.1 hX0 hbl hbA h.dd.2.2 (tw_in (by omega) (by omega)) dL_law_956 ?_
  refine lv_topi (fun z10 qz10 => ?_)
  obtain rfl : z3 = z10 := by rw [qz3, qz10, show z2 = z9 from Int32.toInt_inj.mp (by omega)]
  refine tw_Vl (As := [.int z3]) F hZ h yk_X12_said mw_1115 mw_1116 mw_1117 (s_X12_said l D cy L R O f4 rr m_rr r_rr z3) rfl rfl m_rr r_rr (fun e q => (T_12 e).mp q) rfl hl.1 rfl (Nat.le_of_ble_eq_true rfl) ⟨Nat.le_of_ble_eq_true rfl, Nat.le_of_ble_eq_true rfl⟩ ⟨hcs, hsl⟩ dL_law_957 (fun v12 f11 H locs hp11 h => ?_)
  have hf11 := hp11
  have en13a := TNa hTMc hf11 m_q r_q (by decide +kernel) (by decide +kernel) (by decide +kernel)
  have en13c := TNc hTMc hTMn hf11 m_q r_q (by decide +kernel) (by decide +kernel) (by decide +kernel) (by decide +kernel)
  have en13m := TNm t_GT m_GT r_GT hf11 m_rr r_rr (by decide +kernel) (by decide +kernel)
  have et14p := TRp hTMc hf11 m_q r_q (by decide +kernel) (by decide +kernel)
  have et14c := TRc hTMc hf11 m_q r_q (by decide +kernel) (by decide +kernel) (by decide +kernel) (by decide +kernel)
  have et14m := TRm hTMm hf11 m_rr r_rr (by decide +kernel) (by decide +kernel) (by decide +kernel) (by decide +kernel)
  have hTPn : ∀ i, i < 4 → P (trs f11 q i) = i := fun i hi => by rw [et14p i]; exact hTPn i hi
  have hTMc := TMc_of h m_q r_q
  have hTMm := TMm_of h m_rr r_rr
  have hTQn : ∀ i, i < 4 → P (rfa f11 (trs f11 q i) 0) = i := fun i hi => by rw [en13a i hi]; exact hTQn i hi
  have hTMn := TMn_of h hTMc
  have hI : INV L R O P f11 q := hI.most m_q r_q hf11 (by decide +kernel) (by decide +kernel) (by decide +kernel) (by decide +kernel) (by decide +kernel)
  have t_GA : fld f11 rr 0 = .ref GA := (hf11.efl m_rr r_rr (by decide +kernel)).trans t_GA
  have t_GP : fld f11 rr 22 = .ref GP := (hf11.efl m_rr r_rr (by decide +kernel)).trans t_GP
  have t_GL : fld f11 rr 23 = .ref GL := (hf11.efl m_rr r_rr (by decide +kernel)).trans t_GL
  have t_GT : fld f11 rr 6 = .ref GT := (hf11.efl m_rr r_rr (by decide +kernel)).trans t_GT
  have hR : RBA GA f11 := hR.fm hf11 m_GA r_GA (by decide +kernel)
  have hX : GZ GP GL f11 := hX.fm hf11 m_GP r_GP m_GL r_GL (by decide +kernel) (by decide +kernel)
  have hP : fld f11 (rfa f11 q 6) 16 = V := by rw [hf11.erf m_q r_q (by decide +kernel), hf11.efl hs6m hs6r (by decide +kernel)]; exact hP
  have hs6m : rfa f11 q 6 ∈ L := by rw [hf11.erf m_q r_q (by decide +kernel)]; exact hs6m
  have hs6r : R (rfa f11 q 6) = 7 := by rw [hf11.erf m_q r_q (by decide +kernel)]; exact hs6r
  refine lv_pop2_2 F.1 F.2.1 dL_law_960 rfl ?_
  refine lv_goto (tgt := 1756) F.1 F.2.1 dL_law_961 (by decide) ?_
  exact kk f11 _ _ _ ⟨h, hI, ⟨t_GA, t_GP, t_GL, t_GT⟩, hR, hX, hP, hTPn, fun i hi => by have q0 := hTR i hi; have q1 := et7c i hi; have q2 := et7m i; have q3 := et14c i hi; have q4 := et14m i; omega, hTQn, fun i hi j hj => by have q0 := hTR i hi; have q1 := et7c i hi; have q2 := et7m i; have q3 := et14c i hi; have q4 := et14m i; have qb := hCb i hi; have hj6 : j < 60 := (by omega); have n0 := hNR i hi j; have n1 := en6c i hi j; have n2 := en6m i j; have n3 := en13c i hi j; have n4 := en13m i j; omega⟩ hl
theorem dL_law_964 : decode cL_law 964 = .ok (.aload_n 1, 1) := by decide +kernel
theorem dL_law_965 : decode cL_law 965 = .ok (.aload_n 0, 1) := by decide +kernel
theorem dL_law_966 : decode cL_law 966 = .ok (.iload_n 3, 1) := by decide +kernel
theorem dL_law_967 : decode cL_law 967 = .ok (.iconst 1, 1) := by decide +kernel
theorem dL_law_968 : decode cL_law 968 = .ok (.iadd, 1) := by decide +kernel
theorem dL_law_969 : decode cL_law 969 = .ok (.iaload, 1) := by decide +kernel
theorem dL_law_970 : decode cL_law 970 = .ok (.invokevirtual 112, 3) := by decide +kernel
theorem mw_1119 : Cond.methodLink RL 112 yX11_how ∈ wsL_law := inr_47 _ (List.mem_of_getElem? (i := 15) rfl)
theorem mw_1122 : Cond.code yX11_how cX11_how 3 (some .int) ∈ wsL_law := inr_47 _ (List.mem_of_getElem? (i := 18) rfl)
theorem yk_X11_how : xY yX11_how RX11 cX11_how 3 (some .int) 1 := ⟨⟨rfl, by decide +kernel, by decide +kernel, by decide +kernel⟩, mw_2, mw_1122⟩
theorem mw_1120 : Cond.instanceMethod yX11_how ∈ wsL_law := inr_47 _ (List.mem_of_getElem? (i := 16) rfl)
theorem mw_1121 : Cond.selects RX11 yX11_how yX11_how ∈ wsL_law := inr_47 _ (List.mem_of_getElem? (i := 17) rfl)
theorem dL_law_973 : decode cL_law 973 = .ok (.pop, 1) := by decide +kernel
theorem dL_law_974 : decode cL_law 974 = .ok (.aload_n 2, 1) := by decide +kernel
theorem dL_law_975 : decode cL_law 975 = .ok (.aload_n 0, 1) := by decide +kernel
theorem dL_law_976 : decode cL_law 976 = .ok (.iload_n 3, 1) := by decide +kernel
theorem dL_law_977 : decode cL_law 977 = .ok (.iconst 1, 1) := by decide +kernel
theorem dL_law_978 : decode cL_law 978 = .ok (.iadd, 1) := by decide +kernel
theorem dL_law_979 : decode cL_law 979 = .ok (.iaload, 1) := by decide +kernel
theorem dL_law_980 : decode cL_law 980 = .ok (.invokevirtual 115, 3) := by decide +kernel
theorem mw_1123 : Cond.methodLink RL 115 yX12_how ∈ wsL_law := inr_47 _ (List.mem_of_getElem? (i := 19) rfl)
theorem mw_1126 : Cond.code yX12_how cX12_how 3 (some .int) ∈ wsL_law := inr_47 _ (List.mem_of_getElem? (i := 22) rfl)
theorem yk_X12_how : xY yX12_how RX12 cX12_how 3 (some .int) 1 := ⟨⟨rfl, by decide +kernel, by decide +kernel, by decide +kernel⟩, mw_5, mw_1126⟩
theorem mw_1124 : Cond.instanceMethod yX12_how ∈ wsL_law := inr_47 _ (List.mem_of_getElem? (i := 20) rfl)
theorem mw_1125 : Cond.selects RX12 yX12_how yX12_how ∈ wsL_law := inr_47 _ (List.mem_of_getElem? (i := 21) rfl)
theorem dL_law_983 : decode cL_law 983 = .ok (.pop, 1) := by decide +kernel
theorem dL_law_984 : decode cL_law 984 = .ok (.goto 772, 3) := by decide +kernel
set_option maxHeartbeats 4000000 in
set_option maxRecDepth 100000 in
theorem law_c21 {p : Program} {l : Launch} {e : Env} {s : State} {m : MethodId} {below : List Frame} {meth : Method} {c : Code} {H : Heap} {locs : List Loc} {Q : State → Prop} {D : va_G} {cy : Nat → ClassId} {A : Nat → Prop} {L : List Nat} {R O P : Nat → Nat} {f0 : Nat → va_E} {ls : Array Slot} {b N cs sl q rr GA GP GL GT : Nat} {xs : Nat → Int32} {V : Value} (F : CallFix p m c cL_law 4 s #[Value.ref b] wsL_law RL) (hZ : tZ A s s.heap) (hX0 : va_X b N xs s s.heap) (hbl : b < s.heap.size) (hbA : ¬ A b) (hcs : cs ≤ room_1.cells) (hsl : sl ≤ room_1.slots) (i : Int32) (bi : 0 ≤ i.toInt ∧ i.toInt + 6 ≤ N ∧ N ≤ 3072) (m_q : q ∈ L) (r_q : R q = 11) (m_rr : rr ∈ L) (r_rr : R rr = 12) (m_GA : GA ∈ L) (r_GA : R GA = 61) (m_GP : GP ∈ L) (r_GP : R GP = 69) (m_GL : GL ∈ L) (r_GL : R GL = 70) (m_GT : GT ∈ L) (r_GT : R GT = 64) (hLS : LWS D cy A s L R O P q rr GA GP GL GT V f0 H locs) (hl : lv_has ls 4 [(3, .int i), (2, .ref rr), (1, .ref q), (0, .ref b)]) (kk : ∀ (f1 : Nat → va_E) (H : Heap) (locs : List Loc) (ls : Array Slot), LWS D cy A s L R O P q rr GA GP GL GT V f1 H locs → lv_has ls 4 [(3, .int i), (2, .ref rr), (1, .ref q), (0, .ref b)] → W p l e room_1 s m #[Value.ref b] below meth c H locs cs sl Q (F0 m 1756 ls [])) : W p l e room_1 s m #[Value.ref b] below meth c H locs cs sl Q (F0 m 964 ls []) := by
  obtain ⟨h, hI, ⟨t_GA, t_GP, t_GL, t_GT⟩, hR, hX, hP, hTP, hTR, hTQ, hNR⟩ := hLS
  have hs6m := hI.2.2.1.1
  have hs6r := hI.2.2.1.2
  have hTMc := TMc_of h m_q r_q
  have hTMm := TMm_of h m_rr r_rr
  have hTPn := hTP
  have hTMn := TMn_of h hTMc
  have hTQn := hTQ
  have hCb := CS_le h m_q r_q
  refine lv_aload_n F.1 F.2.1 dL_law_964 rfl (lv_at hl 2 rfl) ?_
  refine lv_aload_n F.1 F.2.1 dL_law_965 rfl (lv_at hl 3 rfl) ?_
  refine lv_iload_n F.1 F.2.1 dL_law_966 rfl (lv_at hl 0 rfl) ?_
  refine tw_iconst F dL_law_967 ki_1 (fun z1 hz1 => ?_)
  refine tu_iadd F dL_law_968 (by omega) (fun z2 hz2 => ?_)
  refine va_sld F.1 F.2.1 hX0 hbl hbA h.dd.2.2 (tw_in (by omega) (by omega)) dL_law_969 ?_
  refine lv_topi (fun z3 qz3 => ?_)
  refine tw_Vi (As := [.int z3]) F hZ h yk_X11_how mw_1119 mw_1120 mw_1121 (s_X11_how l D cy L R O f0 q m_q r_q z3) rfl rfl m_q r_q (fun e q => (T_11 e).mp q) rfl hl.1 rfl (Nat.le_of_ble_eq_true rfl) ⟨Nat.le_of_ble_eq_true rfl, Nat.le_of_ble_eq_true rfl⟩ ⟨hcs, hsl⟩ dL_law_970 (fun v5 f4 H locs hp4 h => ?_)
  have hf4 := hp4
  have en6a := TNa hTMc hf4 m_q r_q (by decide +kernel) (by decide +kernel) (by decide +kernel)
  have en6c := TNc hTMc hTMn hf4 m_q r_q (by decide +kernel) (by decide +kernel) (by decide +kernel) (by decide +kernel)
  have en6m := TNm t_GT m_GT r_GT hf4 m_rr r_rr (by decide +kernel) (by decide +kernel)
  have et7p := TRp hTMc hf4 m_q r_q (by decide +kernel) (by decide +kernel)
  have et7c := TRc hTMc hf4 m_q r_q (by decide +kernel) (by decide +kernel) (by decide +kernel) (by decide +kernel)
  have et7m := TRm hTMm hf4 m_rr r_rr (by decide +kernel) (by decide +kernel) (by decide +kernel) (by decide +kernel)
  have hTPn : ∀ i, i < 4 → P (trs f4 q i) = i := fun i hi => by rw [et7p i]; exact hTPn i hi
  have hTMc := TMc_of h m_q r_q
  have hTMm := TMm_of h m_rr r_rr
  have hTQn : ∀ i, i < 4 → P (rfa f4 (trs f4 q i) 0) = i := fun i hi => by rw [en6a i hi]; exact hTQn i hi
  have hTMn := TMn_of h hTMc
  have hI : INV L R O P f4 q := hI.most m_q r_q hf4 (by decide +kernel) (by decide +kernel) (by decide +kernel) (by decide +kernel) (by decide +kernel)
  have t_GA : fld f4 rr 0 = .ref GA := (hf4.efl m_rr r_rr (by decide +kernel)).trans t_GA
  have t_GP : fld f4 rr 22 = .ref GP := (hf4.efl m_rr r_rr (by decide +kernel)).trans t_GP
  have t_GL : fld f4 rr 23 = .ref GL := (hf4.efl m_rr r_rr (by decide +kernel)).trans t_GL
  have t_GT : fld f4 rr 6 = .ref GT := (hf4.efl m_rr r_rr (by decide +kernel)).trans t_GT
  have hR : RBA GA f4 := hR.fm hf4 m_GA r_GA (by decide +kernel)
  have hX : GZ GP GL f4 := hX.fm hf4 m_GP r_GP m_GL r_GL (by decide +kernel) (by decide +kernel)
  have hP : fld f4 (rfa f4 q 6) 16 = V := by rw [hf4.erf m_q r_q (by decide +kernel), hf4.efl hs6m hs6r (by decide +kernel)]; exact hP
  have hs6m : rfa f4 q 6 ∈ L := by rw [hf4.erf m_q r_q (by decide +kernel)]; exact hs6m
  have hs6r : R (rfa f4 q 6) = 7 := by rw [hf4.erf m_q r_q (by decide +kernel)]; exact hs6r
  refine lv_pop F.1 F.2.1 dL_law_973 rfl ?_
  refine lv_aload_n F.1 F.2.1 dL_law_974 rfl (lv_at hl 1 rfl) ?_
  refine lv_aload_n F.1 F.2.1 dL_law_975 rfl (lv_at hl 3 rfl) ?_
  refine lv_iload_n F.1 F.2.1 dL_law_976 rfl (lv_at hl 0 rfl) ?_
  refine tw_iconst F dL_law_977 ki_1 (fun z8 hz8 => ?_)
  refine tu_iadd F dL_law_978 (by omega) (fun z9 hz9 => ?_)
  refine va_sld F.1 F.2.1 hX0 hbl hbA h.dd.2.2 (tw_in (by omega) (by omega)) dL_law_979 ?_
  refine lv_topi (fun z10 qz10 => ?_)
  obtain rfl : z3 = z10 := by rw [qz3, qz10, show z2 = z9 from Int32.toInt_inj.mp (by omega)]
  refine tw_Vi (As := [.int z3]) F hZ h yk_X12_how mw_1123 mw_1124 mw_1125 (s_X12_how l D cy L R O f4 rr m_rr r_rr z3) rfl rfl m_rr r_rr (fun e q => (T_12 e).mp q) rfl hl.1 rfl (Nat.le_of_ble_eq_true rfl) ⟨Nat.le_of_ble_eq_true rfl, Nat.le_of_ble_eq_true rfl⟩ ⟨hcs, hsl⟩ dL_law_980 (fun v12 f11 H locs hp11 h => ?_)
  have hf11 := hp11
  have en13a := TNa hTMc hf11 m_q r_q (by decide +kernel) (by decide +kernel) (by decide +kernel)
  have en13c := TNc hTMc hTMn hf11 m_q r_q (by decide +kernel) (by decide +kernel) (by decide +kernel) (by decide +kernel)
  have en13m := TNm t_GT m_GT r_GT hf11 m_rr r_rr (by decide +kernel) (by decide +kernel)
  have et14p := TRp hTMc hf11 m_q r_q (by decide +kernel) (by decide +kernel)
  have et14c := TRc hTMc hf11 m_q r_q (by decide +kernel) (by decide +kernel) (by decide +kernel) (by decide +kernel)
  have et14m := TRm hTMm hf11 m_rr r_rr (by decide +kernel) (by decide +kernel) (by decide +kernel) (by decide +kernel)
  have hTPn : ∀ i, i < 4 → P (trs f11 q i) = i := fun i hi => by rw [et14p i]; exact hTPn i hi
  have hTMc := TMc_of h m_q r_q
  have hTMm := TMm_of h m_rr r_rr
  have hTQn : ∀ i, i < 4 → P (rfa f11 (trs f11 q i) 0) = i := fun i hi => by rw [en13a i hi]; exact hTQn i hi
  have hTMn := TMn_of h hTMc
  have hI : INV L R O P f11 q := hI.most m_q r_q hf11 (by decide +kernel) (by decide +kernel) (by decide +kernel) (by decide +kernel) (by decide +kernel)
  have t_GA : fld f11 rr 0 = .ref GA := (hf11.efl m_rr r_rr (by decide +kernel)).trans t_GA
  have t_GP : fld f11 rr 22 = .ref GP := (hf11.efl m_rr r_rr (by decide +kernel)).trans t_GP
  have t_GL : fld f11 rr 23 = .ref GL := (hf11.efl m_rr r_rr (by decide +kernel)).trans t_GL
  have t_GT : fld f11 rr 6 = .ref GT := (hf11.efl m_rr r_rr (by decide +kernel)).trans t_GT
  have hR : RBA GA f11 := hR.fm hf11 m_GA r_GA (by decide +kernel)
  have hX : GZ GP GL f11 := hX.fm hf11 m_GP r_GP m_GL r_GL (by decide +kernel) (by decide +kernel)
  have hP : fld f11 (rfa f11 q 6) 16 = V := by rw [hf11.erf m_q r_q (by decide +kernel), hf11.efl hs6m hs6r (by decide +kernel)]; exact hP
  have hs6m : rfa f11 q 6 ∈ L := by rw [hf11.erf m_q r_q (by decide +kernel)]; exact hs6m
  have hs6r : R (rfa f11 q 6) = 7 := by rw [hf11.erf m_q r_q (by decide +kernel)]; exact hs6r
  refine lv_pop F.1 F.2.1 dL_law_983 rfl ?_
  refine lv_goto (tgt := 1756) F.1 F.2.1 dL_law_984 (by decide) ?_
  exact kk f11 _ _ _ ⟨h, hI, ⟨t_GA, t_GP, t_GL, t_GT⟩, hR, hX, hP, hTPn, fun i hi => by have q0 := hTR i hi; have q1 := et7c i hi; have q2 := et7m i; have q3 := et14c i hi; have q4 := et14m i; omega, hTQn, fun i hi j hj => by have q0 := hTR i hi; have q1 := et7c i hi; have q2 := et7m i; have q3 := et14c i hi; have q4 := et14m i; have qb := hCb i hi; have hj6 : j < 60 := (by omega); have n0 := hNR i hi j; have n1 := en6c i hi j; have n2 := en6m i j; have n3 := en13c i hi j; have n4 := en13m i j; omega⟩ hl
theorem dL_law_987 : decode cL_law 987 = .ok (.aload_n 1, 1) := by decide +kernel
theorem dL_law_988 : decode cL_law 988 = .ok (.aload_n 0, 1) := by decide +kernel
theorem dL_law_989 : decode cL_law 989 = .ok (.iload_n 3, 1) := by decide +kernel
theorem dL_law_990 : decode cL_law 990 = .ok (.iconst 1, 1) := by decide +kernel
theorem dL_law_991 : decode cL_law 991 = .ok (.iadd, 1) := by decide +kernel
theorem dL_law_992 : decode cL_law 992 = .ok (.iaload, 1) := by decide +kernel
theorem dL_law_993 : decode cL_law 993 = .ok (.aload_n 0, 1) := by decide +kernel
theorem dL_law_994 : decode cL_law 994 = .ok (.iload_n 3, 1) := by decide +kernel
theorem dL_law_995 : decode cL_law 995 = .ok (.iconst 2, 1) := by decide +kernel
theorem dL_law_996 : decode cL_law 996 = .ok (.iadd, 1) := by decide +kernel
theorem dL_law_997 : decode cL_law 997 = .ok (.iaload, 1) := by decide +kernel
theorem dL_law_998 : decode cL_law 998 = .ok (.aload_n 0, 1) := by decide +kernel
theorem dL_law_999 : decode cL_law 999 = .ok (.iload_n 3, 1) := by decide +kernel
theorem dL_law_1000 : decode cL_law 1000 = .ok (.iconst 3, 1) := by decide +kernel
theorem dL_law_1001 : decode cL_law 1001 = .ok (.iadd, 1) := by decide +kernel
theorem dL_law_1002 : decode cL_law 1002 = .ok (.iaload, 1) := by decide +kernel
theorem dL_law_1003 : decode cL_law 1003 = .ok (.invokevirtual 116, 3) := by decide +kernel
theorem mw_1127 : Cond.methodLink RL 116 yX11_remembered ∈ wsL_law := inr_47 _ (List.mem_of_getElem? (i := 23) rfl)
theorem mw_1130 : Cond.code yX11_remembered cX11_remembered 5 (some .long) ∈ wsL_law := inr_48 _ (List.mem_of_getElem? (i := 2) rfl)
theorem yk_X11_remembered : xY yX11_remembered RX11 cX11_remembered 5 (some .long) 3 := ⟨⟨rfl, by decide +kernel, by decide +kernel, by decide +kernel⟩, mw_2, mw_1130⟩
theorem mw_1128 : Cond.instanceMethod yX11_remembered ∈ wsL_law := inr_48 _ (List.mem_of_getElem? (i := 0) rfl)
theorem mw_1129 : Cond.selects RX11 yX11_remembered yX11_remembered ∈ wsL_law := inr_48 _ (List.mem_of_getElem? (i := 1) rfl)
theorem dL_law_1006 : decode cL_law 1006 = .ok (.pop2, 1) := by decide +kernel
theorem dL_law_1007 : decode cL_law 1007 = .ok (.aload_n 2, 1) := by decide +kernel
theorem dL_law_1008 : decode cL_law 1008 = .ok (.aload_n 0, 1) := by decide +kernel
theorem dL_law_1009 : decode cL_law 1009 = .ok (.iload_n 3, 1) := by decide +kernel
theorem dL_law_1010 : decode cL_law 1010 = .ok (.iconst 1, 1) := by decide +kernel
theorem dL_law_1011 : decode cL_law 1011 = .ok (.iadd, 1) := by decide +kernel
theorem dL_law_1012 : decode cL_law 1012 = .ok (.iaload, 1) := by decide +kernel
theorem dL_law_1013 : decode cL_law 1013 = .ok (.aload_n 0, 1) := by decide +kernel
theorem dL_law_1014 : decode cL_law 1014 = .ok (.iload_n 3, 1) := by decide +kernel
theorem dL_law_1015 : decode cL_law 1015 = .ok (.iconst 2, 1) := by decide +kernel
theorem dL_law_1016 : decode cL_law 1016 = .ok (.iadd, 1) := by decide +kernel
theorem dL_law_1017 : decode cL_law 1017 = .ok (.iaload, 1) := by decide +kernel
theorem dL_law_1018 : decode cL_law 1018 = .ok (.aload_n 0, 1) := by decide +kernel
theorem dL_law_1019 : decode cL_law 1019 = .ok (.iload_n 3, 1) := by decide +kernel
theorem dL_law_1020 : decode cL_law 1020 = .ok (.iconst 3, 1) := by decide +kernel
theorem dL_law_1021 : decode cL_law 1021 = .ok (.iadd, 1) := by decide +kernel
theorem dL_law_1022 : decode cL_law 1022 = .ok (.iaload, 1) := by decide +kernel
theorem dL_law_1023 : decode cL_law 1023 = .ok (.invokevirtual 120, 3) := by decide +kernel
theorem mw_1132 : Cond.methodLink RL 120 yX12_remembered ∈ wsL_law := inr_48 _ (List.mem_of_getElem? (i := 4) rfl)
theorem mw_1135 : Cond.code yX12_remembered cX12_remembered 6 (some .long) ∈ wsL_law := inr_48 _ (List.mem_of_getElem? (i := 7) rfl)
theorem yk_X12_remembered : xY yX12_remembered RX12 cX12_remembered 6 (some .long) 3 := ⟨⟨rfl, by decide +kernel, by decide +kernel, by decide +kernel⟩, mw_5, mw_1135⟩
theorem mw_1133 : Cond.instanceMethod yX12_remembered ∈ wsL_law := inr_48 _ (List.mem_of_getElem? (i := 5) rfl)
theorem mw_1134 : Cond.selects RX12 yX12_remembered yX12_remembered ∈ wsL_law := inr_48 _ (List.mem_of_getElem? (i := 6) rfl)
theorem dL_law_1026 : decode cL_law 1026 = .ok (.pop2, 1) := by decide +kernel
theorem dL_law_1027 : decode cL_law 1027 = .ok (.goto 729, 3) := by decide +kernel
set_option maxHeartbeats 4000000 in
set_option maxRecDepth 100000 in
theorem law_c22 {p : Program} {l : Launch} {e : Env} {s : State} {m : MethodId} {below : List Frame} {meth : Method} {c : Code} {H : Heap} {locs : List Loc} {Q : State → Prop} {D : va_G} {cy : Nat → ClassId} {A : Nat → Prop} {L : List Nat} {R O P : Nat → Nat} {f0 : Nat → va_E} {ls : Array Slot} {b N cs sl q rr GA GP GL GT : Nat} {xs : Nat → Int32} {V : Value} (F : CallFix p m c cL_law 4 s #[Value.ref b] wsL_law RL) (hZ : tZ A s s.heap) (hX0 : va_X b N xs s s.heap) (hbl : b < s.heap.size) (hbA : ¬ A b) (hcs : cs ≤ room_1.cells) (hsl : sl ≤ room_1.slots) (i : Int32) (bi : 0 ≤ i.toInt ∧ i.toInt + 6 ≤ N ∧ N ≤ 3072) (m_q : q ∈ L) (r_q : R q = 11) (m_rr : rr ∈ L) (r_rr : R rr = 12) (m_GA : GA ∈ L) (r_GA : R GA = 61) (m_GP : GP ∈ L) (r_GP : R GP = 69) (m_GL : GL ∈ L) (r_GL : R GL = 70) (m_GT : GT ∈ L) (r_GT : R GT = 64) (hLS : LWS D cy A s L R O P q rr GA GP GL GT V f0 H locs) (hl : lv_has ls 4 [(3, .int i), (2, .ref rr), (1, .ref q), (0, .ref b)]) (kk : ∀ (f1 : Nat → va_E) (H : Heap) (locs : List Loc) (ls : Array Slot), LWS D cy A s L R O P q rr GA GP GL GT V f1 H locs → lv_has ls 4 [(3, .int i), (2, .ref rr), (1, .ref q), (0, .ref b)] → W p l e room_1 s m #[Value.ref b] below meth c H locs cs sl Q (F0 m 1756 ls [])) : W p l e room_1 s m #[Value.ref b] below meth c H locs cs sl Q (F0 m 987 ls []) := by
  obtain ⟨h, hI, ⟨t_GA, t_GP, t_GL, t_GT⟩, hR, hX, hP, hTP, hTR, hTQ, hNR⟩ := hLS
  have hs6m := hI.2.2.1.1
  have hs6r := hI.2.2.1.2
  have hTMc := TMc_of h m_q r_q
  have hTMm := TMm_of h m_rr r_rr
  have hTPn := hTP
  have hTMn := TMn_of h hTMc
  have hTQn := hTQ
  have hCb := CS_le h m_q r_q
  refine lv_aload_n F.1 F.2.1 dL_law_987 rfl (lv_at hl 2 rfl) ?_
  refine lv_aload_n F.1 F.2.1 dL_law_988 rfl (lv_at hl 3 rfl) ?_
  refine lv_iload_n F.1 F.2.1 dL_law_989 rfl (lv_at hl 0 rfl) ?_
  refine tw_iconst F dL_law_990 ki_1 (fun z1 hz1 => ?_)
  refine tu_iadd F dL_law_991 (by omega) (fun z2 hz2 => ?_)
  refine va_sld F.1 F.2.1 hX0 hbl hbA h.dd.2.2 (tw_in (by omega) (by omega)) dL_law_992 ?_
  refine lv_topi (fun z3 qz3 => ?_)
  refine lv_aload_n F.1 F.2.1 dL_law_993 rfl (lv_at hl 3 rfl) ?_
  refine lv_iload_n F.1 F.2.1 dL_law_994 rfl (lv_at hl 0 rfl) ?_
  refine tw_iconst F dL_law_995 ki_2 (fun z4 hz4 => ?_)
  refine tu_iadd F dL_law_996 (by omega) (fun z5 hz5 => ?_)
  refine va_sld F.1 F.2.1 hX0 hbl hbA h.dd.2.2 (tw_in (by omega) (by omega)) dL_law_997 ?_
  refine lv_topi (fun z6 qz6 => ?_)
  refine lv_aload_n F.1 F.2.1 dL_law_998 rfl (lv_at hl 3 rfl) ?_
  refine lv_iload_n F.1 F.2.1 dL_law_999 rfl (lv_at hl 0 rfl) ?_
  refine tw_iconst F dL_law_1000 ki_3 (fun z7 hz7 => ?_)
  refine tu_iadd F dL_law_1001 (by omega) (fun z8 hz8 => ?_)
  refine va_sld F.1 F.2.1 hX0 hbl hbA h.dd.2.2 (tw_in (by omega) (by omega)) dL_law_1002 ?_
  refine lv_topi (fun z9 qz9 => ?_)
  refine tw_Vl (As := [.int z3, .int z6, .int z9]) F hZ h yk_X11_remembered mw_1127 mw_1128 mw_1129 (s_X11_remembered l D cy L R O f0 q m_q r_q z3 z6 z9) rfl rfl m_q r_q (fun e q => (T_11 e).mp q) rfl hl.1 rfl (Nat.le_of_ble_eq_true rfl) ⟨Nat.le_of_ble_eq_true rfl, Nat.le_of_ble_eq_true rfl⟩ ⟨hcs, hsl⟩ dL_law_1003 (fun v11 f10 H locs hp10 h => ?_)
  have hf10 := hp10
  have en12a := TNa hTMc hf10 m_q r_q (by decide +kernel) (by decide +kernel) (by decide +kernel)
  have en12c := TNc hTMc hTMn hf10 m_q r_q (by decide +kernel) (by decide +kernel) (by decide +kernel) (by decide +kernel)
  have en12m := TNm t_GT m_GT r_GT hf10 m_rr r_rr (by decide +kernel) (by decide +kernel)
  have et13p := TRp hTMc hf10 m_q r_q (by decide +kernel) (by decide +kernel)
  have et13c := TRc hTMc hf10 m_q r_q (by decide +kernel) (by decide +kernel) (by decide +kernel) (by decide +kernel)
  have et13m := TRm hTMm hf10 m_rr r_rr (by decide +kernel) (by decide +kernel) (by decide +kernel) (by decide +kernel)
  have hTPn : ∀ i, i < 4 → P (trs f10 q i) = i := fun i hi => by rw [et13p i]; exact hTPn i hi
  have hTMc := TMc_of h m_q r_q
  have hTMm := TMm_of h m_rr r_rr
  have hTQn : ∀ i, i < 4 → P (rfa f10 (trs f10 q i) 0) = i := fun i hi => by rw [en12a i hi]; exact hTQn i hi
  have hTMn := TMn_of h hTMc
  have hI : INV L R O P f10 q := hI.most m_q r_q hf10 (by decide +kernel) (by decide +kernel) (by decide +kernel) (by decide +kernel) (by decide +kernel)
  have t_GA : fld f10 rr 0 = .ref GA := (hf10.efl m_rr r_rr (by decide +kernel)).trans t_GA
  have t_GP : fld f10 rr 22 = .ref GP := (hf10.efl m_rr r_rr (by decide +kernel)).trans t_GP
  have t_GL : fld f10 rr 23 = .ref GL := (hf10.efl m_rr r_rr (by decide +kernel)).trans t_GL
  have t_GT : fld f10 rr 6 = .ref GT := (hf10.efl m_rr r_rr (by decide +kernel)).trans t_GT
  have hR : RBA GA f10 := hR.fm hf10 m_GA r_GA (by decide +kernel)
  have hX : GZ GP GL f10 := hX.fm hf10 m_GP r_GP m_GL r_GL (by decide +kernel) (by decide +kernel)
  have hP : fld f10 (rfa f10 q 6) 16 = V := by rw [hf10.erf m_q r_q (by decide +kernel), hf10.efl hs6m hs6r (by decide +kernel)]; exact hP
  have hs6m : rfa f10 q 6 ∈ L := by rw [hf10.erf m_q r_q (by decide +kernel)]; exact hs6m
  have hs6r : R (rfa f10 q 6) = 7 := by rw [hf10.erf m_q r_q (by decide +kernel)]; exact hs6r
  refine lv_pop2_2 F.1 F.2.1 dL_law_1006 rfl ?_
  refine lv_aload_n F.1 F.2.1 dL_law_1007 rfl (lv_at hl 1 rfl) ?_
  refine lv_aload_n F.1 F.2.1 dL_law_1008 rfl (lv_at hl 3 rfl) ?_
  refine lv_iload_n F.1 F.2.1 dL_law_1009 rfl (lv_at hl 0 rfl) ?_
  refine tw_iconst F dL_law_1010 ki_1 (fun z14 hz14 => ?_)
  refine tu_iadd F dL_law_1011 (by omega) (fun z15 hz15 => ?_)
  refine va_sld F.1 F.2.1 hX0 hbl hbA h.dd.2.2 (tw_in (by omega) (by omega)) dL_law_1012 ?_
  refine lv_topi (fun z16 qz16 => ?_)
  obtain rfl : z3 = z16 := by rw [qz3, qz16, show z2 = z15 from Int32.toInt_inj.mp (by omega)]
  refine lv_aload_n F.1 F.2.1 dL_law_1013 rfl (lv_at hl 3 rfl) ?_
  refine lv_iload_n F.1 F.2.1 dL_law_1014 rfl (lv_at hl 0 rfl) ?_
  refine tw_iconst F dL_law_1015 ki_2 (fun z17 hz17 => ?_)
  refine tu_iadd F dL_law_1016 (by omega) (fun z18 hz18 => ?_)
  refine va_sld F.1 F.2.1 hX0 hbl hbA h.dd.2.2 (tw_in (by omega) (by omega)) dL_law_1017 ?_
  refine lv_topi (fun z19 qz19 => ?_)
  obtain rfl : z6 = z19 := by rw [qz6, qz19, show z5 = z18 from Int32.toInt_inj.mp (by omega)]
  refine lv_aload_n F.1 F.2.1 dL_law_1018 rfl (lv_at hl 3 rfl) ?_
  refine lv_iload_n F.1 F.2.1 dL_law_1019 rfl (lv_at hl 0 rfl) ?_
  refine tw_iconst F dL_law_1020 ki_3 (fun z20 hz20 => ?_)
  refine tu_iadd F dL_law_1021 (by omega) (fun z21 hz21 => ?_)
  refine va_sld F.1 F.2.1 hX0 hbl hbA h.dd.2.2 (tw_in (by omega) (by omega)) dL_law_1022 ?_
  refine lv_topi (fun z22 qz22 => ?_)
  obtain rfl : z9 = z22 := by rw [qz9, qz22, show z8 = z21 from Int32.toInt_inj.mp (by omega)]
  refine tw_Vl (As := [.int z3, .int z6, .int z9]) F hZ h yk_X12_remembered mw_1132 mw_1133 mw_1134 (s_X12_remembered l D cy L R O f10 rr m_rr r_rr z3 z6 z9) rfl rfl m_rr r_rr (fun e q => (T_12 e).mp q) rfl hl.1 rfl (Nat.le_of_ble_eq_true rfl) ⟨Nat.le_of_ble_eq_true rfl, Nat.le_of_ble_eq_true rfl⟩ ⟨hcs, hsl⟩ dL_law_1023 (fun v24 f23 H locs hp23 h => ?_)
  have hf23 := hp23
  have en25a := TNa hTMc hf23 m_q r_q (by decide +kernel) (by decide +kernel) (by decide +kernel)
  have en25c := TNc hTMc hTMn hf23 m_q r_q (by decide +kernel) (by decide +kernel) (by decide +kernel) (by decide +kernel)
  have en25m := TNm t_GT m_GT r_GT hf23 m_rr r_rr (by decide +kernel) (by decide +kernel)
  have et26p := TRp hTMc hf23 m_q r_q (by decide +kernel) (by decide +kernel)
  have et26c := TRc hTMc hf23 m_q r_q (by decide +kernel) (by decide +kernel) (by decide +kernel) (by decide +kernel)
  have et26m := TRm hTMm hf23 m_rr r_rr (by decide +kernel) (by decide +kernel) (by decide +kernel) (by decide +kernel)
  have hTPn : ∀ i, i < 4 → P (trs f23 q i) = i := fun i hi => by rw [et26p i]; exact hTPn i hi
  have hTMc := TMc_of h m_q r_q
  have hTMm := TMm_of h m_rr r_rr
  have hTQn : ∀ i, i < 4 → P (rfa f23 (trs f23 q i) 0) = i := fun i hi => by rw [en25a i hi]; exact hTQn i hi
  have hTMn := TMn_of h hTMc
  have hI : INV L R O P f23 q := hI.most m_q r_q hf23 (by decide +kernel) (by decide +kernel) (by decide +kernel) (by decide +kernel) (by decide +kernel)
  have t_GA : fld f23 rr 0 = .ref GA := (hf23.efl m_rr r_rr (by decide +kernel)).trans t_GA
  have t_GP : fld f23 rr 22 = .ref GP := (hf23.efl m_rr r_rr (by decide +kernel)).trans t_GP
  have t_GL : fld f23 rr 23 = .ref GL := (hf23.efl m_rr r_rr (by decide +kernel)).trans t_GL
  have t_GT : fld f23 rr 6 = .ref GT := (hf23.efl m_rr r_rr (by decide +kernel)).trans t_GT
  have hR : RBA GA f23 := hR.fm hf23 m_GA r_GA (by decide +kernel)
  have hX : GZ GP GL f23 := hX.fm hf23 m_GP r_GP m_GL r_GL (by decide +kernel) (by decide +kernel)
  have hP : fld f23 (rfa f23 q 6) 16 = V := by rw [hf23.erf m_q r_q (by decide +kernel), hf23.efl hs6m hs6r (by decide +kernel)]; exact hP
  have hs6m : rfa f23 q 6 ∈ L := by rw [hf23.erf m_q r_q (by decide +kernel)]; exact hs6m
  have hs6r : R (rfa f23 q 6) = 7 := by rw [hf23.erf m_q r_q (by decide +kernel)]; exact hs6r
  refine lv_pop2_2 F.1 F.2.1 dL_law_1026 rfl ?_
  refine lv_goto (tgt := 1756) F.1 F.2.1 dL_law_1027 (by decide) ?_
  exact kk f23 _ _ _ ⟨h, hI, ⟨t_GA, t_GP, t_GL, t_GT⟩, hR, hX, hP, hTPn, fun i hi => by have q0 := hTR i hi; have q1 := et13c i hi; have q2 := et13m i; have q3 := et26c i hi; have q4 := et26m i; omega, hTQn, fun i hi j hj => by have q0 := hTR i hi; have q1 := et13c i hi; have q2 := et13m i; have q3 := et26c i hi; have q4 := et26m i; have qb := hCb i hi; have hj6 : j < 60 := (by omega); have n0 := hNR i hi j; have n1 := en12c i hi j; have n2 := en12m i j; have n3 := en25c i hi j; have n4 := en25m i j; omega⟩ hl
theorem dL_law_1030 : decode cL_law 1030 = .ok (.aload_n 1, 1) := by decide +kernel
theorem dL_law_1031 : decode cL_law 1031 = .ok (.aload_n 0, 1) := by decide +kernel
theorem dL_law_1032 : decode cL_law 1032 = .ok (.iload_n 3, 1) := by decide +kernel
theorem dL_law_1033 : decode cL_law 1033 = .ok (.iconst 1, 1) := by decide +kernel
theorem dL_law_1034 : decode cL_law 1034 = .ok (.iadd, 1) := by decide +kernel
theorem dL_law_1035 : decode cL_law 1035 = .ok (.iaload, 1) := by decide +kernel
theorem dL_law_1036 : decode cL_law 1036 = .ok (.aload_n 0, 1) := by decide +kernel
theorem dL_law_1037 : decode cL_law 1037 = .ok (.iload_n 3, 1) := by decide +kernel
theorem dL_law_1038 : decode cL_law 1038 = .ok (.iconst 2, 1) := by decide +kernel
theorem dL_law_1039 : decode cL_law 1039 = .ok (.iadd, 1) := by decide +kernel
theorem dL_law_1040 : decode cL_law 1040 = .ok (.iaload, 1) := by decide +kernel
theorem dL_law_1041 : decode cL_law 1041 = .ok (.aload_n 0, 1) := by decide +kernel
theorem dL_law_1042 : decode cL_law 1042 = .ok (.iload_n 3, 1) := by decide +kernel
theorem dL_law_1043 : decode cL_law 1043 = .ok (.iconst 3, 1) := by decide +kernel
theorem dL_law_1044 : decode cL_law 1044 = .ok (.iadd, 1) := by decide +kernel
theorem dL_law_1045 : decode cL_law 1045 = .ok (.iaload, 1) := by decide +kernel
theorem dL_law_1046 : decode cL_law 1046 = .ok (.invokevirtual 121, 3) := by decide +kernel
theorem mw_1136 : Cond.methodLink RL 121 yX11_talk ∈ wsL_law := inr_48 _ (List.mem_of_getElem? (i := 8) rfl)
theorem mw_1139 : Cond.code yX11_talk cX11_talk 5 (some .int) ∈ wsL_law := inr_48 _ (List.mem_of_getElem? (i := 11) rfl)
theorem yk_X11_talk : xY yX11_talk RX11 cX11_talk 5 (some .int) 3 := ⟨⟨rfl, by decide +kernel, by decide +kernel, by decide +kernel⟩, mw_2, mw_1139⟩
theorem mw_1137 : Cond.instanceMethod yX11_talk ∈ wsL_law := inr_48 _ (List.mem_of_getElem? (i := 9) rfl)
theorem mw_1138 : Cond.selects RX11 yX11_talk yX11_talk ∈ wsL_law := inr_48 _ (List.mem_of_getElem? (i := 10) rfl)
theorem dL_law_1049 : decode cL_law 1049 = .ok (.pop, 1) := by decide +kernel
theorem dL_law_1050 : decode cL_law 1050 = .ok (.aload_n 2, 1) := by decide +kernel
theorem dL_law_1051 : decode cL_law 1051 = .ok (.aload_n 0, 1) := by decide +kernel
theorem dL_law_1052 : decode cL_law 1052 = .ok (.iload_n 3, 1) := by decide +kernel
theorem dL_law_1053 : decode cL_law 1053 = .ok (.iconst 1, 1) := by decide +kernel
theorem dL_law_1054 : decode cL_law 1054 = .ok (.iadd, 1) := by decide +kernel
theorem dL_law_1055 : decode cL_law 1055 = .ok (.iaload, 1) := by decide +kernel
theorem dL_law_1056 : decode cL_law 1056 = .ok (.aload_n 0, 1) := by decide +kernel
theorem dL_law_1057 : decode cL_law 1057 = .ok (.iload_n 3, 1) := by decide +kernel
theorem dL_law_1058 : decode cL_law 1058 = .ok (.iconst 2, 1) := by decide +kernel
theorem dL_law_1059 : decode cL_law 1059 = .ok (.iadd, 1) := by decide +kernel
theorem dL_law_1060 : decode cL_law 1060 = .ok (.iaload, 1) := by decide +kernel
theorem dL_law_1061 : decode cL_law 1061 = .ok (.aload_n 0, 1) := by decide +kernel
theorem dL_law_1062 : decode cL_law 1062 = .ok (.iload_n 3, 1) := by decide +kernel
theorem dL_law_1063 : decode cL_law 1063 = .ok (.iconst 3, 1) := by decide +kernel
theorem dL_law_1064 : decode cL_law 1064 = .ok (.iadd, 1) := by decide +kernel
theorem dL_law_1065 : decode cL_law 1065 = .ok (.iaload, 1) := by decide +kernel
theorem dL_law_1066 : decode cL_law 1066 = .ok (.invokevirtual 124, 3) := by decide +kernel
theorem mw_1179 : Cond.methodLink RL 124 yX12_talk ∈ wsL_law := inr_50 _ (List.mem_of_getElem? (i := 3) rfl)
theorem mw_1182 : Cond.code yX12_talk cX12_talk 9 (some .int) ∈ wsL_law := inr_50 _ (List.mem_of_getElem? (i := 6) rfl)
theorem yk_X12_talk : xY yX12_talk RX12 cX12_talk 9 (some .int) 3 := ⟨⟨rfl, by decide +kernel, by decide +kernel, by decide +kernel⟩, mw_5, mw_1182⟩
theorem mw_1180 : Cond.instanceMethod yX12_talk ∈ wsL_law := inr_50 _ (List.mem_of_getElem? (i := 4) rfl)
theorem mw_1181 : Cond.selects RX12 yX12_talk yX12_talk ∈ wsL_law := inr_50 _ (List.mem_of_getElem? (i := 5) rfl)
theorem dL_law_1069 : decode cL_law 1069 = .ok (.pop, 1) := by decide +kernel
theorem dL_law_1070 : decode cL_law 1070 = .ok (.goto 686, 3) := by decide +kernel
set_option maxHeartbeats 4000000 in
set_option maxRecDepth 100000 in
theorem law_c23 {p : Program} {l : Launch} {e : Env} {s : State} {m : MethodId} {below : List Frame} {meth : Method} {c : Code} {H : Heap} {locs : List Loc} {Q : State → Prop} {D : va_G} {cy : Nat → ClassId} {A : Nat → Prop} {L : List Nat} {R O P : Nat → Nat} {f0 : Nat → va_E} {ls : Array Slot} {b N cs sl q rr GA GP GL GT : Nat} {xs : Nat → Int32} {V : Value} (F : CallFix p m c cL_law 4 s #[Value.ref b] wsL_law RL) (hZ : tZ A s s.heap) (hX0 : va_X b N xs s s.heap) (hbl : b < s.heap.size) (hbA : ¬ A b) (hcs : cs ≤ room_1.cells) (hsl : sl ≤ room_1.slots) (i : Int32) (bi : 0 ≤ i.toInt ∧ i.toInt + 6 ≤ N ∧ N ≤ 3072) (m_q : q ∈ L) (r_q : R q = 11) (m_rr : rr ∈ L) (r_rr : R rr = 12) (m_GA : GA ∈ L) (r_GA : R GA = 61) (m_GP : GP ∈ L) (r_GP : R GP = 69) (m_GL : GL ∈ L) (r_GL : R GL = 70) (m_GT : GT ∈ L) (r_GT : R GT = 64) (hLS : LWS D cy A s L R O P q rr GA GP GL GT V f0 H locs) (hl : lv_has ls 4 [(3, .int i), (2, .ref rr), (1, .ref q), (0, .ref b)]) (kk : ∀ (f1 : Nat → va_E) (H : Heap) (locs : List Loc) (ls : Array Slot), LWS D cy A s L R O P q rr GA GP GL GT V f1 H locs → lv_has ls 4 [(3, .int i), (2, .ref rr), (1, .ref q), (0, .ref b)] → W p l e room_1 s m #[Value.ref b] below meth c H locs cs sl Q (F0 m 1756 ls [])) : W p l e room_1 s m #[Value.ref b] below meth c H locs cs sl Q (F0 m 1030 ls []) := by
  obtain ⟨h, hI, ⟨t_GA, t_GP, t_GL, t_GT⟩, hR, hX, hP, hTP, hTR, hTQ, hNR⟩ := hLS
  have hs6m := hI.2.2.1.1
  have hs6r := hI.2.2.1.2
  have hTMc := TMc_of h m_q r_q
  have hTMm := TMm_of h m_rr r_rr
  have hTPn := hTP
  have hTMn := TMn_of h hTMc
  have hTQn := hTQ
  have hCb := CS_le h m_q r_q
  refine lv_aload_n F.1 F.2.1 dL_law_1030 rfl (lv_at hl 2 rfl) ?_
  refine lv_aload_n F.1 F.2.1 dL_law_1031 rfl (lv_at hl 3 rfl) ?_
  refine lv_iload_n F.1 F.2.1 dL_law_1032 rfl (lv_at hl 0 rfl) ?_
  refine tw_iconst F dL_law_1033 ki_1 (fun z1 hz1 => ?_)
  refine tu_iadd F dL_law_1034 (by omega) (fun z2 hz2 => ?_)
  refine va_sld F.1 F.2.1 hX0 hbl hbA h.dd.2.2 (tw_in (by omega) (by omega)) dL_law_1035 ?_
  refine lv_topi (fun z3 qz3 => ?_)
  refine lv_aload_n F.1 F.2.1 dL_law_1036 rfl (lv_at hl 3 rfl) ?_
  refine lv_iload_n F.1 F.2.1 dL_law_1037 rfl (lv_at hl 0 rfl) ?_
  refine tw_iconst F dL_law_1038 ki_2 (fun z4 hz4 => ?_)
  refine tu_iadd F dL_law_1039 (by omega) (fun z5 hz5 => ?_)
  refine va_sld F.1 F.2.1 hX0 hbl hbA h.dd.2.2 (tw_in (by omega) (by omega)) dL_law_1040 ?_
  refine lv_topi (fun z6 qz6 => ?_)
  refine lv_aload_n F.1 F.2.1 dL_law_1041 rfl (lv_at hl 3 rfl) ?_
  refine lv_iload_n F.1 F.2.1 dL_law_1042 rfl (lv_at hl 0 rfl) ?_
  refine tw_iconst F dL_law_1043 ki_3 (fun z7 hz7 => ?_)
  refine tu_iadd F dL_law_1044 (by omega) (fun z8 hz8 => ?_)
  refine va_sld F.1 F.2.1 hX0 hbl hbA h.dd.2.2 (tw_in (by omega) (by omega)) dL_law_1045 ?_
  refine lv_topi (fun z9 qz9 => ?_)
  refine tw_Vi (As := [.int z3, .int z6, .int z9]) F hZ h yk_X11_talk mw_1136 mw_1137 mw_1138 (s_X11_talk l D cy L R O f0 hI.2.2.2.1 q m_q r_q z3 z6 z9 hI.pi) rfl rfl m_q r_q (fun e q => (T_11 e).mp q) rfl hl.1 rfl (Nat.le_of_ble_eq_true rfl) ⟨Nat.le_of_ble_eq_true rfl, Nat.le_of_ble_eq_true rfl⟩ ⟨hcs, hsl⟩ dL_law_1046 (fun v11 f10 H locs hp10 h => ?_)
  obtain ⟨hf10, hv11p0⟩ := hp10
  have en12a := TNa hTMc hf10 m_q r_q (by decide +kernel) (by decide +kernel) (by decide +kernel)
  have en12c := TNc hTMc hTMn hf10 m_q r_q (by decide +kernel) (by decide +kernel) (by decide +kernel) (by decide +kernel)
  have en12m := TNm t_GT m_GT r_GT hf10 m_rr r_rr (by decide +kernel) (by decide +kernel)
  have et13p := TRp hTMc hf10 m_q r_q (by decide +kernel) (by decide +kernel)
  have et13c := TRc hTMc hf10 m_q r_q (by decide +kernel) (by decide +kernel) (by decide +kernel) (by decide +kernel)
  have et13m := TRm hTMm hf10 m_rr r_rr (by decide +kernel) (by decide +kernel) (by decide +kernel) (by decide +kernel)
  have hTPn : ∀ i, i < 4 → P (trs f10 q i) = i := fun i hi => by rw [et13p i]; exact hTPn i hi
  have hTMc := TMc_of h m_q r_q
  have hTMm := TMm_of h m_rr r_rr
  have hTQn : ∀ i, i < 4 → P (rfa f10 (trs f10 q i) 0) = i := fun i hi => by rw [en12a i hi]; exact hTQn i hi
  have hTMn := TMn_of h hTMc
  have hI : INV L R O P f10 q := hI.ko m_q r_q hf10 (by decide +kernel) (by decide +kernel) (by decide +kernel) (by decide +kernel) hv11p0
  have t_GA : fld f10 rr 0 = .ref GA := (hf10.efl m_rr r_rr (by decide +kernel)).trans t_GA
  have t_GP : fld f10 rr 22 = .ref GP := (hf10.efl m_rr r_rr (by decide +kernel)).trans t_GP
  have t_GL : fld f10 rr 23 = .ref GL := (hf10.efl m_rr r_rr (by decide +kernel)).trans t_GL
  have t_GT : fld f10 rr 6 = .ref GT := (hf10.efl m_rr r_rr (by decide +kernel)).trans t_GT
  have hR : RBA GA f10 := hR.fm hf10 m_GA r_GA (by decide +kernel)
  have hX : GZ GP GL f10 := hX.fm hf10 m_GP r_GP m_GL r_GL (by decide +kernel) (by decide +kernel)
  have hP : fld f10 (rfa f10 q 6) 16 = V := by rw [hf10.erf m_q r_q (by decide +kernel), hf10.efl hs6m hs6r (by decide +kernel)]; exact hP
  have hs6m : rfa f10 q 6 ∈ L := by rw [hf10.erf m_q r_q (by decide +kernel)]; exact hs6m
  have hs6r : R (rfa f10 q 6) = 7 := by rw [hf10.erf m_q r_q (by decide +kernel)]; exact hs6r
  refine lv_pop F.1 F.2.1 dL_law_1049 rfl ?_
  refine lv_aload_n F.1 F.2.1 dL_law_1050 rfl (lv_at hl 1 rfl) ?_
  refine lv_aload_n F.1 F.2.1 dL_law_1051 rfl (lv_at hl 3 rfl) ?_
  refine lv_iload_n F.1 F.2.1 dL_law_1052 rfl (lv_at hl 0 rfl) ?_
  refine tw_iconst F dL_law_1053 ki_1 (fun z14 hz14 => ?_)
  refine tu_iadd F dL_law_1054 (by omega) (fun z15 hz15 => ?_)
  refine va_sld F.1 F.2.1 hX0 hbl hbA h.dd.2.2 (tw_in (by omega) (by omega)) dL_law_1055 ?_
  refine lv_topi (fun z16 qz16 => ?_)
  obtain rfl : z3 = z16 := by rw [qz3, qz16, show z2 = z15 from Int32.toInt_inj.mp (by omega)]
  refine lv_aload_n F.1 F.2.1 dL_law_1056 rfl (lv_at hl 3 rfl) ?_
  refine lv_iload_n F.1 F.2.1 dL_law_1057 rfl (lv_at hl 0 rfl) ?_
  refine tw_iconst F dL_law_1058 ki_2 (fun z17 hz17 => ?_)
  refine tu_iadd F dL_law_1059 (by omega) (fun z18 hz18 => ?_)
  refine va_sld F.1 F.2.1 hX0 hbl hbA h.dd.2.2 (tw_in (by omega) (by omega)) dL_law_1060 ?_
  refine lv_topi (fun z19 qz19 => ?_)
  obtain rfl : z6 = z19 := by rw [qz6, qz19, show z5 = z18 from Int32.toInt_inj.mp (by omega)]
  refine lv_aload_n F.1 F.2.1 dL_law_1061 rfl (lv_at hl 3 rfl) ?_
  refine lv_iload_n F.1 F.2.1 dL_law_1062 rfl (lv_at hl 0 rfl) ?_
  refine tw_iconst F dL_law_1063 ki_3 (fun z20 hz20 => ?_)
  refine tu_iadd F dL_law_1064 (by omega) (fun z21 hz21 => ?_)
  refine va_sld F.1 F.2.1 hX0 hbl hbA h.dd.2.2 (tw_in (by omega) (by omega)) dL_law_1065 ?_
  refine lv_topi (fun z22 qz22 => ?_)
  obtain rfl : z9 = z22 := by rw [qz9, qz22, show z8 = z21 from Int32.toInt_inj.mp (by omega)]
  refine tw_Vi (As := [.int z3, .int z6, .int z9]) F hZ h yk_X12_talk mw_1179 mw_1180 mw_1181 (s_X12_talk l D cy L R O f10 rr m_rr r_rr z3 z6 z9 GA m_GA r_GA t_GA GP m_GP r_GP t_GP GL m_GL r_GL t_GL GT m_GT r_GT t_GT hR hX) rfl rfl m_rr r_rr (fun e q => (T_12 e).mp q) rfl hl.1 rfl (Nat.le_of_ble_eq_true rfl) ⟨Nat.le_of_ble_eq_true rfl, Nat.le_of_ble_eq_true rfl⟩ ⟨hcs, hsl⟩ dL_law_1066 (fun v24 f23 H locs hp23 h => ?_)
  obtain ⟨hf23, hv24p0, hv24p1⟩ := hp23
  have en25a := TNa hTMc hf23 m_q r_q (by decide +kernel) (by decide +kernel) (by decide +kernel)
  have en25c := TNc hTMc hTMn hf23 m_q r_q (by decide +kernel) (by decide +kernel) (by decide +kernel) (by decide +kernel)
  have en25m := TNm t_GT m_GT r_GT hf23 m_rr r_rr (by decide +kernel) (by decide +kernel)
  have et26p := TRp hTMc hf23 m_q r_q (by decide +kernel) (by decide +kernel)
  have et26c := TRc hTMc hf23 m_q r_q (by decide +kernel) (by decide +kernel) (by decide +kernel) (by decide +kernel)
  have et26m := TRm hTMm hf23 m_rr r_rr (by decide +kernel) (by decide +kernel) (by decide +kernel) (by decide +kernel)
  have hTPn : ∀ i, i < 4 → P (trs f23 q i) = i := fun i hi => by rw [et26p i]; exact hTPn i hi
  have hTMc := TMc_of h m_q r_q
  have hTMm := TMm_of h m_rr r_rr
  have hTQn : ∀ i, i < 4 → P (rfa f23 (trs f23 q i) 0) = i := fun i hi => by rw [en25a i hi]; exact hTQn i hi
  have hTMn := TMn_of h hTMc
  have hI : INV L R O P f23 q := hI.most m_q r_q hf23 (by decide +kernel) (by decide +kernel) (by decide +kernel) (by decide +kernel) (by decide +kernel)
  have t_GA : fld f23 rr 0 = .ref GA := (hf23.efl m_rr r_rr (by decide +kernel)).trans t_GA
  have t_GP : fld f23 rr 22 = .ref GP := (hf23.efl m_rr r_rr (by decide +kernel)).trans t_GP
  have t_GL : fld f23 rr 23 = .ref GL := (hf23.efl m_rr r_rr (by decide +kernel)).trans t_GL
  have t_GT : fld f23 rr 6 = .ref GT := (hf23.efl m_rr r_rr (by decide +kernel)).trans t_GT
  have hR : RBA GA f23 := hv24p0
  have hX : GZ GP GL f23 := hv24p1
  have hP : fld f23 (rfa f23 q 6) 16 = V := by rw [hf23.erf m_q r_q (by decide +kernel), hf23.efl hs6m hs6r (by decide +kernel)]; exact hP
  have hs6m : rfa f23 q 6 ∈ L := by rw [hf23.erf m_q r_q (by decide +kernel)]; exact hs6m
  have hs6r : R (rfa f23 q 6) = 7 := by rw [hf23.erf m_q r_q (by decide +kernel)]; exact hs6r
  refine lv_pop F.1 F.2.1 dL_law_1069 rfl ?_
  refine lv_goto (tgt := 1756) F.1 F.2.1 dL_law_1070 (by decide) ?_
  exact kk f23 _ _ _ ⟨h, hI, ⟨t_GA, t_GP, t_GL, t_GT⟩, hR, hX, hP, hTPn, fun i hi => by have q0 := hTR i hi; have q1 := et13c i hi; have q2 := et13m i; have q3 := et26c i hi; have q4 := et26m i; omega, hTQn, fun i hi j hj => by have q0 := hTR i hi; have q1 := et13c i hi; have q2 := et13m i; have q3 := et26c i hi; have q4 := et26m i; have qb := hCb i hi; have hj6 : j < 60 := (by omega); have n0 := hNR i hi j; have n1 := en12c i hi j; have n2 := en12m i j; have n3 := en25c i hi j; have n4 := en25m i j; omega⟩ hl
theorem dL_law_1073 : decode cL_law 1073 = .ok (.aload_n 1, 1) := by decide +kernel
theorem dL_law_1074 : decode cL_law 1074 = .ok (.aload_n 0, 1) := by decide +kernel
theorem dL_law_1075 : decode cL_law 1075 = .ok (.iload_n 3, 1) := by decide +kernel
theorem dL_law_1076 : decode cL_law 1076 = .ok (.iconst 1, 1) := by decide +kernel
theorem dL_law_1077 : decode cL_law 1077 = .ok (.iadd, 1) := by decide +kernel
theorem dL_law_1078 : decode cL_law 1078 = .ok (.iaload, 1) := by decide +kernel
theorem dL_law_1079 : decode cL_law 1079 = .ok (.aload_n 0, 1) := by decide +kernel
theorem dL_law_1080 : decode cL_law 1080 = .ok (.iload_n 3, 1) := by decide +kernel
theorem dL_law_1081 : decode cL_law 1081 = .ok (.iconst 2, 1) := by decide +kernel
theorem dL_law_1082 : decode cL_law 1082 = .ok (.iadd, 1) := by decide +kernel
theorem dL_law_1083 : decode cL_law 1083 = .ok (.iaload, 1) := by decide +kernel
theorem dL_law_1084 : decode cL_law 1084 = .ok (.invokevirtual 125, 3) := by decide +kernel
theorem mw_1195 : Cond.methodLink RL 125 yX11_spoken ∈ wsL_law := inr_50 _ (List.mem_of_getElem? (i := 19) rfl)
theorem mw_1198 : Cond.code yX11_spoken cX11_spoken 3 (some .long) ∈ wsL_law := inr_50 _ (List.mem_of_getElem? (i := 22) rfl)
theorem yk_X11_spoken : xY yX11_spoken RX11 cX11_spoken 3 (some .long) 2 := ⟨⟨rfl, by decide +kernel, by decide +kernel, by decide +kernel⟩, mw_2, mw_1198⟩
theorem mw_1196 : Cond.instanceMethod yX11_spoken ∈ wsL_law := inr_50 _ (List.mem_of_getElem? (i := 20) rfl)
theorem mw_1197 : Cond.selects RX11 yX11_spoken yX11_spoken ∈ wsL_law := inr_50 _ (List.mem_of_getElem? (i := 21) rfl)
theorem dL_law_1087 : decode cL_law 1087 = .ok (.pop2, 1) := by decide +kernel
theorem dL_law_1088 : decode cL_law 1088 = .ok (.aload_n 2, 1) := by decide +kernel
theorem dL_law_1089 : decode cL_law 1089 = .ok (.aload_n 0, 1) := by decide +kernel
theorem dL_law_1090 : decode cL_law 1090 = .ok (.iload_n 3, 1) := by decide +kernel
theorem dL_law_1091 : decode cL_law 1091 = .ok (.iconst 1, 1) := by decide +kernel
theorem dL_law_1092 : decode cL_law 1092 = .ok (.iadd, 1) := by decide +kernel
theorem dL_law_1093 : decode cL_law 1093 = .ok (.iaload, 1) := by decide +kernel
theorem dL_law_1094 : decode cL_law 1094 = .ok (.aload_n 0, 1) := by decide +kernel
theorem dL_law_1095 : decode cL_law 1095 = .ok (.iload_n 3, 1) := by decide +kernel
theorem dL_law_1096 : decode cL_law 1096 = .ok (.iconst 2, 1) := by decide +kernel
theorem dL_law_1097 : decode cL_law 1097 = .ok (.iadd, 1) := by decide +kernel
theorem dL_law_1098 : decode cL_law 1098 = .ok (.iaload, 1) := by decide +kernel
theorem dL_law_1099 : decode cL_law 1099 = .ok (.invokevirtual 128, 3) := by decide +kernel
theorem mw_1200 : Cond.methodLink RL 128 yX12_spoken ∈ wsL_law := inr_51 _ (List.mem_of_getElem? (i := 0) rfl)
theorem mw_1203 : Cond.code yX12_spoken cX12_spoken 3 (some .long) ∈ wsL_law := inr_51 _ (List.mem_of_getElem? (i := 3) rfl)
theorem yk_X12_spoken : xY yX12_spoken RX12 cX12_spoken 3 (some .long) 2 := ⟨⟨rfl, by decide +kernel, by decide +kernel, by decide +kernel⟩, mw_5, mw_1203⟩
theorem mw_1201 : Cond.instanceMethod yX12_spoken ∈ wsL_law := inr_51 _ (List.mem_of_getElem? (i := 1) rfl)
theorem mw_1202 : Cond.selects RX12 yX12_spoken yX12_spoken ∈ wsL_law := inr_51 _ (List.mem_of_getElem? (i := 2) rfl)
theorem dL_law_1102 : decode cL_law 1102 = .ok (.pop2, 1) := by decide +kernel
theorem dL_law_1103 : decode cL_law 1103 = .ok (.goto 653, 3) := by decide +kernel
set_option maxHeartbeats 4000000 in
set_option maxRecDepth 100000 in
theorem law_c24 {p : Program} {l : Launch} {e : Env} {s : State} {m : MethodId} {below : List Frame} {meth : Method} {c : Code} {H : Heap} {locs : List Loc} {Q : State → Prop} {D : va_G} {cy : Nat → ClassId} {A : Nat → Prop} {L : List Nat} {R O P : Nat → Nat} {f0 : Nat → va_E} {ls : Array Slot} {b N cs sl q rr GA GP GL GT : Nat} {xs : Nat → Int32} {V : Value} (F : CallFix p m c cL_law 4 s #[Value.ref b] wsL_law RL) (hZ : tZ A s s.heap) (hX0 : va_X b N xs s s.heap) (hbl : b < s.heap.size) (hbA : ¬ A b) (hcs : cs ≤ room_1.cells) (hsl : sl ≤ room_1.slots) (i : Int32) (bi : 0 ≤ i.toInt ∧ i.toInt + 6 ≤ N ∧ N ≤ 3072) (m_q : q ∈ L) (r_q : R q = 11) (m_rr : rr ∈ L) (r_rr : R rr = 12) (m_GA : GA ∈ L) (r_GA : R GA = 61) (m_GP : GP ∈ L) (r_GP : R GP = 69) (m_GL : GL ∈ L) (r_GL : R GL = 70) (m_GT : GT ∈ L) (r_GT : R GT = 64) (hLS : LWS D cy A s L R O P q rr GA GP GL GT V f0 H locs) (hl : lv_has ls 4 [(3, .int i), (2, .ref rr), (1, .ref q), (0, .ref b)]) (kk : ∀ (f1 : Nat → va_E) (H : Heap) (locs : List Loc) (ls : Array Slot), LWS D cy A s L R O P q rr GA GP GL GT V f1 H locs → lv_has ls 4 [(3, .int i), (2, .ref rr), (1, .ref q), (0, .ref b)] → W p l e room_1 s m #[Value.ref b] below meth c H locs cs sl Q (F0 m 1756 ls [])) : W p l e room_1 s m #[Value.ref b] below meth c H locs cs sl Q (F0 m 1073 ls []) := by
  obtain ⟨h, hI, ⟨t_GA, t_GP, t_GL, t_GT⟩, hR, hX, hP, hTP, hTR, hTQ, hNR⟩ := hLS
  have hs6m := hI.2.2.1.1
  have hs6r := hI.2.2.1.2
  have hTMc := TMc_of h m_q r_q
  have hTMm := TMm_of h m_rr r_rr
  have hTPn := hTP
  have hTMn := TMn_of h hTMc
  have hTQn := hTQ
  have hCb := CS_le h m_q r_q
  refine lv_aload_n F.1 F.2.1 dL_law_1073 rfl (lv_at hl 2 rfl) ?_
  refine lv_aload_n F.1 F.2.1 dL_law_1074 rfl (lv_at hl 3 rfl) ?_
  refine lv_iload_n F.1 F.2.1 dL_law_1075 rfl (lv_at hl 0 rfl) ?_
  refine tw_iconst F dL_law_1076 ki_1 (fun z1 hz1 => ?_)
  refine tu_iadd F dL_law_1077 (by omega) (fun z2 hz2 => ?_)
  refine va_sld F.1 F.2.1 hX0 hbl hbA h.dd.2.2 (tw_in (by omega) (by omega)) dL_law_1078 ?_
  refine lv_topi (fun z3 qz3 => ?_)
  refine lv_aload_n F.1 F.2.1 dL_law_1079 rfl (lv_at hl 3 rfl) ?_
  refine lv_iload_n F.1 F.2.1 dL_law_1080 rfl (lv_at hl 0 rfl) ?_
  refine tw_iconst F dL_law_1081 ki_2 (fun z4 hz4 => ?_)
  refine tu_iadd F dL_law_1082 (by omega) (fun z5 hz5 => ?_)
  refine va_sld F.1 F.2.1 hX0 hbl hbA h.dd.2.2 (tw_in (by omega) (by omega)) dL_law_1083 ?_
  refine lv_topi (fun z6 qz6 => ?_)
  refine tw_Vl (As := [.int z3, .int z6]) F hZ h yk_X11_spoken mw_1195 mw_1196 mw_1197 (s_X11_spoken l D cy L R O f0 q m_q r_q z3 z6) rfl rfl m_q r_q (fun e q => (T_11 e).mp q) rfl hl.1 rfl (Nat.le_of_ble_eq_true rfl) ⟨Nat.le_of_ble_eq_true rfl, Nat.le_of_ble_eq_true rfl⟩ ⟨hcs, hsl⟩ dL_law_1084 (fun v8 f7 H locs hp7 h => ?_)
  have hf7 := hp7
  have en9a := TNa hTMc hf7 m_q r_q (by decide +kernel) (by decide +kernel) (by decide +kernel)
  have en9c := TNc hTMc hTMn hf7 m_q r_q (by decide +kernel) (by decide +kernel) (by decide +kernel) (by decide +kernel)
  have en9m := TNm t_GT m_GT r_GT hf7 m_rr r_rr (by decide +kernel) (by decide +kernel)
  have et10p := TRp hTMc hf7 m_q r_q (by decide +kernel) (by decide +kernel)
  have et10c := TRc hTMc hf7 m_q r_q (by decide +kernel) (by decide +kernel) (by decide +kernel) (by decide +kernel)
  have et10m := TRm hTMm hf7 m_rr r_rr (by decide +kernel) (by decide +kernel) (by decide +kernel) (by decide +kernel)
  have hTPn : ∀ i, i < 4 → P (trs f7 q i) = i := fun i hi => by rw [et10p i]; exact hTPn i hi
  have hTMc := TMc_of h m_q r_q
  have hTMm := TMm_of h m_rr r_rr
  have hTQn : ∀ i, i < 4 → P (rfa f7 (trs f7 q i) 0) = i := fun i hi => by rw [en9a i hi]; exact hTQn i hi
  have hTMn := TMn_of h hTMc
  have hI : INV L R O P f7 q := hI.most m_q r_q hf7 (by decide +kernel) (by decide +kernel) (by decide +kernel) (by decide +kernel) (by decide +kernel)
  have t_GA : fld f7 rr 0 = .ref GA := (hf7.efl m_rr r_rr (by decide +kernel)).trans t_GA
  have t_GP : fld f7 rr 22 = .ref GP := (hf7.efl m_rr r_rr (by decide +kernel)).trans t_GP
  have t_GL : fld f7 rr 23 = .ref GL := (hf7.efl m_rr r_rr (by decide +kernel)).trans t_GL
  have t_GT : fld f7 rr 6 = .ref GT := (hf7.efl m_rr r_rr (by decide +kernel)).trans t_GT
  have hR : RBA GA f7 := hR.fm hf7 m_GA r_GA (by decide +kernel)
  have hX : GZ GP GL f7 := hX.fm hf7 m_GP r_GP m_GL r_GL (by decide +kernel) (by decide +kernel)
  have hP : fld f7 (rfa f7 q 6) 16 = V := by rw [hf7.erf m_q r_q (by decide +kernel), hf7.efl hs6m hs6r (by decide +kernel)]; exact hP
  have hs6m : rfa f7 q 6 ∈ L := by rw [hf7.erf m_q r_q (by decide +kernel)]; exact hs6m
  have hs6r : R (rfa f7 q 6) = 7 := by rw [hf7.erf m_q r_q (by decide +kernel)]; exact hs6r
  refine lv_pop2_2 F.1 F.2.1 dL_law_1087 rfl ?_
  refine lv_aload_n F.1 F.2.1 dL_law_1088 rfl (lv_at hl 1 rfl) ?_
  refine lv_aload_n F.1 F.2.1 dL_law_1089 rfl (lv_at hl 3 rfl) ?_
  refine lv_iload_n F.1 F.2.1 dL_law_1090 rfl (lv_at hl 0 rfl) ?_
  refine tw_iconst F dL_law_1091 ki_1 (fun z11 hz11 => ?_)
  refine tu_iadd F dL_law_1092 (by omega) (fun z12 hz12 => ?_)
  refine va_sld F.1 F.2.1 hX0 hbl hbA h.dd.2.2 (tw_in (by omega) (by omega)) dL_law_1093 ?_
  refine lv_topi (fun z13 qz13 => ?_)
  obtain rfl : z3 = z13 := by rw [qz3, qz13, show z2 = z12 from Int32.toInt_inj.mp (by omega)]
  refine lv_aload_n F.1 F.2.1 dL_law_1094 rfl (lv_at hl 3 rfl) ?_
  refine lv_iload_n F.1 F.2.1 dL_law_1095 rfl (lv_at hl 0 rfl) ?_
  refine tw_iconst F dL_law_1096 ki_2 (fun z14 hz14 => ?_)
  refine tu_iadd F dL_law_1097 (by omega) (fun z15 hz15 => ?_)
  refine va_sld F.1 F.2.1 hX0 hbl hbA h.dd.2.2 (tw_in (by omega) (by omega)) dL_law_1098 ?_
  refine lv_topi (fun z16 qz16 => ?_)
  obtain rfl : z6 = z16 := by rw [qz6, qz16, show z5 = z15 from Int32.toInt_inj.mp (by omega)]
  refine tw_Vl (As := [.int z3, .int z6]) F hZ h yk_X12_spoken mw_1200 mw_1201 mw_1202 (s_X12_spoken l D cy L R O f7 rr m_rr r_rr z3 z6) rfl rfl m_rr r_rr (fun e q => (T_12 e).mp q) rfl hl.1 rfl (Nat.le_of_ble_eq_true rfl) ⟨Nat.le_of_ble_eq_true rfl, Nat.le_of_ble_eq_true rfl⟩ ⟨hcs, hsl⟩ dL_law_1099 (fun v18 f17 H locs hp17 h => ?_)
  have hf17 := hp17
  have en19a := TNa hTMc hf17 m_q r_q (by decide +kernel) (by decide +kernel) (by decide +kernel)
  have en19c := TNc hTMc hTMn hf17 m_q r_q (by decide +kernel) (by decide +kernel) (by decide +kernel) (by decide +kernel)
  have en19m := TNm t_GT m_GT r_GT hf17 m_rr r_rr (by decide +kernel) (by decide +kernel)
  have et20p := TRp hTMc hf17 m_q r_q (by decide +kernel) (by decide +kernel)
  have et20c := TRc hTMc hf17 m_q r_q (by decide +kernel) (by decide +kernel) (by decide +kernel) (by decide +kernel)
  have et20m := TRm hTMm hf17 m_rr r_rr (by decide +kernel) (by decide +kernel) (by decide +kernel) (by decide +kernel)
  have hTPn : ∀ i, i < 4 → P (trs f17 q i) = i := fun i hi => by rw [et20p i]; exact hTPn i hi
  have hTMc := TMc_of h m_q r_q
  have hTMm := TMm_of h m_rr r_rr
  have hTQn : ∀ i, i < 4 → P (rfa f17 (trs f17 q i) 0) = i := fun i hi => by rw [en19a i hi]; exact hTQn i hi
  have hTMn := TMn_of h hTMc
  have hI : INV L R O P f17 q := hI.most m_q r_q hf17 (by decide +kernel) (by decide +kernel) (by decide +kernel) (by decide +kernel) (by decide +kernel)
  have t_GA : fld f17 rr 0 = .ref GA := (hf17.efl m_rr r_rr (by decide +kernel)).trans t_GA
  have t_GP : fld f17 rr 22 = .ref GP := (hf17.efl m_rr r_rr (by decide +kernel)).trans t_GP
  have t_GL : fld f17 rr 23 = .ref GL := (hf17.efl m_rr r_rr (by decide +kernel)).trans t_GL
  have t_GT : fld f17 rr 6 = .ref GT := (hf17.efl m_rr r_rr (by decide +kernel)).trans t_GT
  have hR : RBA GA f17 := hR.fm hf17 m_GA r_GA (by decide +kernel)
  have hX : GZ GP GL f17 := hX.fm hf17 m_GP r_GP m_GL r_GL (by decide +kernel) (by decide +kernel)
  have hP : fld f17 (rfa f17 q 6) 16 = V := by rw [hf17.erf m_q r_q (by decide +kernel), hf17.efl hs6m hs6r (by decide +kernel)]; exact hP
  have hs6m : rfa f17 q 6 ∈ L := by rw [hf17.erf m_q r_q (by decide +kernel)]; exact hs6m
  have hs6r : R (rfa f17 q 6) = 7 := by rw [hf17.erf m_q r_q (by decide +kernel)]; exact hs6r
  refine lv_pop2_2 F.1 F.2.1 dL_law_1102 rfl ?_
  refine lv_goto (tgt := 1756) F.1 F.2.1 dL_law_1103 (by decide) ?_
  exact kk f17 _ _ _ ⟨h, hI, ⟨t_GA, t_GP, t_GL, t_GT⟩, hR, hX, hP, hTPn, fun i hi => by have q0 := hTR i hi; have q1 := et10c i hi; have q2 := et10m i; have q3 := et20c i hi; have q4 := et20m i; omega, hTQn, fun i hi j hj => by have q0 := hTR i hi; have q1 := et10c i hi; have q2 := et10m i; have q3 := et20c i hi; have q4 := et20m i; have qb := hCb i hi; have hj6 : j < 60 := (by omega); have n0 := hNR i hi j; have n1 := en9c i hi j; have n2 := en9m i j; have n3 := en19c i hi j; have n4 := en19m i j; omega⟩ hl
theorem dL_law_1106 : decode cL_law 1106 = .ok (.aload_n 1, 1) := by decide +kernel
theorem dL_law_1107 : decode cL_law 1107 = .ok (.aload_n 0, 1) := by decide +kernel
theorem dL_law_1108 : decode cL_law 1108 = .ok (.iload_n 3, 1) := by decide +kernel
theorem dL_law_1109 : decode cL_law 1109 = .ok (.iconst 1, 1) := by decide +kernel
theorem dL_law_1110 : decode cL_law 1110 = .ok (.iadd, 1) := by decide +kernel
theorem dL_law_1111 : decode cL_law 1111 = .ok (.iaload, 1) := by decide +kernel
theorem dL_law_1112 : decode cL_law 1112 = .ok (.aload_n 0, 1) := by decide +kernel
theorem dL_law_1113 : decode cL_law 1113 = .ok (.iload_n 3, 1) := by decide +kernel
theorem dL_law_1114 : decode cL_law 1114 = .ok (.iconst 2, 1) := by decide +kernel
theorem dL_law_1115 : decode cL_law 1115 = .ok (.iadd, 1) := by decide +kernel
theorem dL_law_1116 : decode cL_law 1116 = .ok (.iaload, 1) := by decide +kernel
theorem dL_law_1117 : decode cL_law 1117 = .ok (.aload_n 0, 1) := by decide +kernel
theorem dL_law_1118 : decode cL_law 1118 = .ok (.iload_n 3, 1) := by decide +kernel
theorem dL_law_1119 : decode cL_law 1119 = .ok (.iconst 3, 1) := by decide +kernel
theorem dL_law_1120 : decode cL_law 1120 = .ok (.iadd, 1) := by decide +kernel
theorem dL_law_1121 : decode cL_law 1121 = .ok (.iaload, 1) := by decide +kernel
theorem dL_law_1122 : decode cL_law 1122 = .ok (.aload_n 0, 1) := by decide +kernel
theorem dL_law_1123 : decode cL_law 1123 = .ok (.iload_n 3, 1) := by decide +kernel
theorem dL_law_1124 : decode cL_law 1124 = .ok (.iconst 4, 1) := by decide +kernel
theorem dL_law_1125 : decode cL_law 1125 = .ok (.iadd, 1) := by decide +kernel
theorem dL_law_1126 : decode cL_law 1126 = .ok (.iaload, 1) := by decide +kernel
theorem dL_law_1127 : decode cL_law 1127 = .ok (.invokevirtual 129, 3) := by decide +kernel
theorem mw_1204 : Cond.methodLink RL 129 yX11_lead ∈ wsL_law := inr_51 _ (List.mem_of_getElem? (i := 4) rfl)
theorem mw_1207 : Cond.code yX11_lead cX11_lead 8 (some .int) ∈ wsL_law := inr_51 _ (List.mem_of_getElem? (i := 7) rfl)
theorem yk_X11_lead : xY yX11_lead RX11 cX11_lead 8 (some .int) 4 := ⟨⟨rfl, by decide +kernel, by decide +kernel, by decide +kernel⟩, mw_2, mw_1207⟩
theorem mw_1205 : Cond.instanceMethod yX11_lead ∈ wsL_law := inr_51 _ (List.mem_of_getElem? (i := 5) rfl)
theorem mw_1206 : Cond.selects RX11 yX11_lead yX11_lead ∈ wsL_law := inr_51 _ (List.mem_of_getElem? (i := 6) rfl)
theorem dL_law_1130 : decode cL_law 1130 = .ok (.pop, 1) := by decide +kernel
theorem dL_law_1131 : decode cL_law 1131 = .ok (.aload_n 2, 1) := by decide +kernel
theorem dL_law_1132 : decode cL_law 1132 = .ok (.aload_n 0, 1) := by decide +kernel
theorem dL_law_1133 : decode cL_law 1133 = .ok (.iload_n 3, 1) := by decide +kernel
theorem dL_law_1134 : decode cL_law 1134 = .ok (.iconst 1, 1) := by decide +kernel
theorem dL_law_1135 : decode cL_law 1135 = .ok (.iadd, 1) := by decide +kernel
theorem dL_law_1136 : decode cL_law 1136 = .ok (.iaload, 1) := by decide +kernel
theorem dL_law_1137 : decode cL_law 1137 = .ok (.aload_n 0, 1) := by decide +kernel
theorem dL_law_1138 : decode cL_law 1138 = .ok (.iload_n 3, 1) := by decide +kernel
theorem dL_law_1139 : decode cL_law 1139 = .ok (.iconst 2, 1) := by decide +kernel
theorem dL_law_1140 : decode cL_law 1140 = .ok (.iadd, 1) := by decide +kernel
theorem dL_law_1141 : decode cL_law 1141 = .ok (.iaload, 1) := by decide +kernel
theorem dL_law_1142 : decode cL_law 1142 = .ok (.aload_n 0, 1) := by decide +kernel
theorem dL_law_1143 : decode cL_law 1143 = .ok (.iload_n 3, 1) := by decide +kernel
theorem dL_law_1144 : decode cL_law 1144 = .ok (.iconst 3, 1) := by decide +kernel
theorem dL_law_1145 : decode cL_law 1145 = .ok (.iadd, 1) := by decide +kernel
theorem dL_law_1146 : decode cL_law 1146 = .ok (.iaload, 1) := by decide +kernel
theorem dL_law_1147 : decode cL_law 1147 = .ok (.aload_n 0, 1) := by decide +kernel
theorem dL_law_1148 : decode cL_law 1148 = .ok (.iload_n 3, 1) := by decide +kernel
theorem dL_law_1149 : decode cL_law 1149 = .ok (.iconst 4, 1) := by decide +kernel
theorem dL_law_1150 : decode cL_law 1150 = .ok (.iadd, 1) := by decide +kernel
theorem dL_law_1151 : decode cL_law 1151 = .ok (.iaload, 1) := by decide +kernel
theorem dL_law_1152 : decode cL_law 1152 = .ok (.invokevirtual 133, 3) := by decide +kernel
theorem mw_1227 : Cond.methodLink RL 133 yX12_lead ∈ wsL_law := inr_52 _ (List.mem_of_getElem? (i := 3) rfl)
theorem mw_1230 : Cond.code yX12_lead cX12_lead 11 (some .int) ∈ wsL_law := inr_52 _ (List.mem_of_getElem? (i := 6) rfl)
theorem yk_X12_lead : xY yX12_lead RX12 cX12_lead 11 (some .int) 4 := ⟨⟨rfl, by decide +kernel, by decide +kernel, by decide +kernel⟩, mw_5, mw_1230⟩
theorem mw_1228 : Cond.instanceMethod yX12_lead ∈ wsL_law := inr_52 _ (List.mem_of_getElem? (i := 4) rfl)
theorem mw_1229 : Cond.selects RX12 yX12_lead yX12_lead ∈ wsL_law := inr_52 _ (List.mem_of_getElem? (i := 5) rfl)
theorem dL_law_1155 : decode cL_law 1155 = .ok (.pop, 1) := by decide +kernel
theorem dL_law_1156 : decode cL_law 1156 = .ok (.goto 600, 3) := by decide +kernel
set_option maxHeartbeats 4000000 in
set_option maxRecDepth 100000 in
theorem law_c25 {p : Program} {l : Launch} {e : Env} {s : State} {m : MethodId} {below : List Frame} {meth : Method} {c : Code} {H : Heap} {locs : List Loc} {Q : State → Prop} {D : va_G} {cy : Nat → ClassId} {A : Nat → Prop} {L : List Nat} {R O P : Nat → Nat} {f0 : Nat → va_E} {ls : Array Slot} {b N cs sl q rr GA GP GL GT : Nat} {xs : Nat → Int32} {V : Value} (F : CallFix p m c cL_law 4 s #[Value.ref b] wsL_law RL) (hZ : tZ A s s.heap) (hX0 : va_X b N xs s s.heap) (hbl : b < s.heap.size) (hbA : ¬ A b) (hcs : cs ≤ room_1.cells) (hsl : sl ≤ room_1.slots) (i : Int32) (bi : 0 ≤ i.toInt ∧ i.toInt + 6 ≤ N ∧ N ≤ 3072) (m_q : q ∈ L) (r_q : R q = 11) (m_rr : rr ∈ L) (r_rr : R rr = 12) (m_GA : GA ∈ L) (r_GA : R GA = 61) (m_GP : GP ∈ L) (r_GP : R GP = 69) (m_GL : GL ∈ L) (r_GL : R GL = 70) (m_GT : GT ∈ L) (r_GT : R GT = 64) (hLS : LWS D cy A s L R O P q rr GA GP GL GT V f0 H locs) (hl : lv_has ls 4 [(3, .int i), (2, .ref rr), (1, .ref q), (0, .ref b)]) (kk : ∀ (f1 : Nat → va_E) (H : Heap) (locs : List Loc) (ls : Array Slot), LWS D cy A s L R O P q rr GA GP GL GT V f1 H locs → lv_has ls 4 [(3, .int i), (2, .ref rr), (1, .ref q), (0, .ref b)] → W p l e room_1 s m #[Value.ref b] below meth c H locs cs sl Q (F0 m 1756 ls [])) : W p l e room_1 s m #[Value.ref b] below meth c H locs cs sl Q (F0 m 1106 ls []) := by
  obtain ⟨h, hI, ⟨t_GA, t_GP, t_GL, t_GT⟩, hR, hX, hP, hTP, hTR, hTQ, hNR⟩ := hLS
  have hs6m := hI.2.2.1.1
  have hs6r := hI.2.2.1.2
  have hTMc := TMc_of h m_q r_q
  have hTMm := TMm_of h m_rr r_rr
  have hTPn := hTP
  have hTMn := TMn_of h hTMc
  have hTQn := hTQ
  have hCb := CS_le h m_q r_q
  refine lv_aload_n F.1 F.2.1 dL_law_1106 rfl (lv_at hl 2 rfl) ?_
  refine lv_aload_n F.1 F.2.1 dL_law_1107 rfl (lv_at hl 3 rfl) ?_
  refine lv_iload_n F.1 F.2.1 dL_law_1108 rfl (lv_at hl 0 rfl) ?_
  refine tw_iconst F dL_law_1109 ki_1 (fun z1 hz1 => ?_)
  refine tu_iadd F dL_law_1110 (by omega) (fun z2 hz2 => ?_)
  refine va_sld F.1 F.2.1 hX0 hbl hbA h.dd.2.2 (tw_in (by omega) (by omega)) dL_law_1111 ?_
  refine lv_topi (fun z3 qz3 => ?_)
  refine lv_aload_n F.1 F.2.1 dL_law_1112 rfl (lv_at hl 3 rfl) ?_
  refine lv_iload_n F.1 F.2.1 dL_law_1113 rfl (lv_at hl 0 rfl) ?_
  refine tw_iconst F dL_law_1114 ki_2 (fun z4 hz4 => ?_)
  refine tu_iadd F dL_law_1115 (by omega) (fun z5 hz5 => ?_)
  refine va_sld F.1 F.2.1 hX0 hbl hbA h.dd.2.2 (tw_in (by omega) (by omega)) dL_law_1116 ?_
  refine lv_topi (fun z6 qz6 => ?_)
  refine lv_aload_n F.1 F.2.1 dL_law_1117 rfl (lv_at hl 3 rfl) ?_
  refine lv_iload_n F.1 F.2.1 dL_law_1118 rfl (lv_at hl 0 rfl) ?_
  refine tw_iconst F dL_law_1119 ki_3 (fun z7 hz7 => ?_)
  refine tu_iadd F dL_law_1120 (by omega) (fun z8 hz8 => ?_)
  refine va_sld F.1 F.2.1 hX0 hbl hbA h.dd.2.2 (tw_in (by omega) (by omega)) dL_law_1121 ?_
  refine lv_topi (fun z9 qz9 => ?_)
  refine lv_aload_n F.1 F.2.1 dL_law_1122 rfl (lv_at hl 3 rfl) ?_
  refine lv_iload_n F.1 F.2.1 dL_law_1123 rfl (lv_at hl 0 rfl) ?_
  refine tw_iconst F dL_law_1124 ki_4 (fun z10 hz10 => ?_)
  refine tu_iadd F dL_law_1125 (by omega) (fun z11 hz11 => ?_)
  refine va_sld F.1 F.2.1 hX0 hbl hbA h.dd.2.2 (tw_in (by omega) (by omega)) dL_law_1126 ?_
  refine lv_topi (fun z12 qz12 => ?_)
  refine tw_Vi (As := [.int z3, .int z6, .int z9, .int z12]) F hZ h yk_X11_lead mw_1204 mw_1205 mw_1206 (s_X11_lead l D cy L R O f0 hI.2.2.2.1 q m_q r_q z3 z6 z9 z12 hI.pi) rfl rfl m_q r_q (fun e q => (T_11 e).mp q) rfl hl.1 rfl (Nat.le_of_ble_eq_true rfl) ⟨Nat.le_of_ble_eq_true rfl, Nat.le_of_ble_eq_true rfl⟩ ⟨hcs, hsl⟩ dL_law_1127 (fun v14 f13 H locs hp13 h => ?_)
  obtain ⟨hf13, hv14p0⟩ := hp13
  have en15a := TNa hTMc hf13 m_q r_q (by decide +kernel) (by decide +kernel) (by decide +kernel)
  have en15c := TNc hTMc hTMn hf13 m_q r_q (by decide +kernel) (by decide +kernel) (by decide +kernel) (by decide +kernel)
  have en15m := TNm t_GT m_GT r_GT hf13 m_rr r_rr (by decide +kernel) (by decide +kernel)
  have et16p := TRp hTMc hf13 m_q r_q (by decide +kernel) (by decide +kernel)
  have et16c := TRc hTMc hf13 m_q r_q (by decide +kernel) (by decide +kernel) (by decide +kernel) (by decide +kernel)
  have et16m := TRm hTMm hf13 m_rr r_rr (by decide +kernel) (by decide +kernel) (by decide +kernel) (by decide +kernel)
  have hTPn : ∀ i, i < 4 → P (trs f13 q i) = i := fun i hi => by rw [et16p i]; exact hTPn i hi
  have hTMc := TMc_of h m_q r_q
  have hTMm := TMm_of h m_rr r_rr
  have hTQn : ∀ i, i < 4 → P (rfa f13 (trs f13 q i) 0) = i := fun i hi => by rw [en15a i hi]; exact hTQn i hi
  have hTMn := TMn_of h hTMc
  have hI : INV L R O P f13 q := hI.ko m_q r_q hf13 (by decide +kernel) (by decide +kernel) (by decide +kernel) (by decide +kernel) hv14p0
  have t_GA : fld f13 rr 0 = .ref GA := (hf13.efl m_rr r_rr (by decide +kernel)).trans t_GA
  have t_GP : fld f13 rr 22 = .ref GP := (hf13.efl m_rr r_rr (by decide +kernel)).trans t_GP
  have t_GL : fld f13 rr 23 = .ref GL := (hf13.efl m_rr r_rr (by decide +kernel)).trans t_GL
  have t_GT : fld f13 rr 6 = .ref GT := (hf13.efl m_rr r_rr (by decide +kernel)).trans t_GT
  have hR : RBA GA f13 := hR.fm hf13 m_GA r_GA (by decide +kernel)
  have hX : GZ GP GL f13 := hX.fm hf13 m_GP r_GP m_GL r_GL (by decide +kernel) (by decide +kernel)
  have hP : fld f13 (rfa f13 q 6) 16 = V := by rw [hf13.erf m_q r_q (by decide +kernel), hf13.efl hs6m hs6r (by decide +kernel)]; exact hP
  have hs6m : rfa f13 q 6 ∈ L := by rw [hf13.erf m_q r_q (by decide +kernel)]; exact hs6m
  have hs6r : R (rfa f13 q 6) = 7 := by rw [hf13.erf m_q r_q (by decide +kernel)]; exact hs6r
  refine lv_pop F.1 F.2.1 dL_law_1130 rfl ?_
  refine lv_aload_n F.1 F.2.1 dL_law_1131 rfl (lv_at hl 1 rfl) ?_
  refine lv_aload_n F.1 F.2.1 dL_law_1132 rfl (lv_at hl 3 rfl) ?_
  refine lv_iload_n F.1 F.2.1 dL_law_1133 rfl (lv_at hl 0 rfl) ?_
  refine tw_iconst F dL_law_1134 ki_1 (fun z17 hz17 => ?_)
  refine tu_iadd F dL_law_1135 (by omega) (fun z18 hz18 => ?_)
  refine va_sld F.1 F.2.1 hX0 hbl hbA h.dd.2.2 (tw_in (by omega) (by omega)) dL_law_1136 ?_
  refine lv_topi (fun z19 qz19 => ?_)
  obtain rfl : z3 = z19 := by rw [qz3, qz19, show z2 = z18 from Int32.toInt_inj.mp (by omega)]
  refine lv_aload_n F.1 F.2.1 dL_law_1137 rfl (lv_at hl 3 rfl) ?_
  refine lv_iload_n F.1 F.2.1 dL_law_1138 rfl (lv_at hl 0 rfl) ?_
  refine tw_iconst F dL_law_1139 ki_2 (fun z20 hz20 => ?_)
  refine tu_iadd F dL_law_1140 (by omega) (fun z21 hz21 => ?_)
  refine va_sld F.1 F.2.1 hX0 hbl hbA h.dd.2.2 (tw_in (by omega) (by omega)) dL_law_1141 ?_
  refine lv_topi (fun z22 qz22 => ?_)
  obtain rfl : z6 = z22 := by rw [qz6, qz22, show z5 = z21 from Int32.toInt_inj.mp (by omega)]
  refine lv_aload_n F.1 F.2.1 dL_law_1142 rfl (lv_at hl 3 rfl) ?_
  refine lv_iload_n F.1 F.2.1 dL_law_1143 rfl (lv_at hl 0 rfl) ?_
  refine tw_iconst F dL_law_1144 ki_3 (fun z23 hz23 => ?_)
  refine tu_iadd F dL_law_1145 (by omega) (fun z24 hz24 => ?_)
  refine va_sld F.1 F.2.1 hX0 hbl hbA h.dd.2.2 (tw_in (by omega) (by omega)) dL_law_1146 ?_
  refine lv_topi (fun z25 qz25 => ?_)
  obtain rfl : z9 = z25 := by rw [qz9, qz25, show z8 = z24 from Int32.toInt_inj.mp (by omega)]
  refine lv_aload_n F.1 F.2.1 dL_law_1147 rfl (lv_at hl 3 rfl) ?_
  refine lv_iload_n F.1 F.2.1 dL_law_1148 rfl (lv_at hl 0 rfl) ?_
  refine tw_iconst F dL_law_1149 ki_4 (fun z26 hz26 => ?_)
  refine tu_iadd F dL_law_1150 (by omega) (fun z27 hz27 => ?_)
  refine va_sld F.1 F.2.1 hX0 hbl hbA h.dd.2.2 (tw_in (by omega) (by omega)) dL_law_1151 ?_
  refine lv_topi (fun z28 qz28 => ?_)
  obtain rfl : z12 = z28 := by rw [qz12, qz28, show z11 = z27 from Int32.toInt_inj.mp (by omega)]
  refine tw_Vi (As := [.int z3, .int z6, .int z9, .int z12]) F hZ h yk_X12_lead mw_1227 mw_1228 mw_1229 (s_X12_lead l D cy L R O f13 rr m_rr r_rr z3 z6 z9 z12 GA m_GA r_GA t_GA GP m_GP r_GP t_GP GL m_GL r_GL t_GL GT m_GT r_GT t_GT hR hX) rfl rfl m_rr r_rr (fun e q => (T_12 e).mp q) rfl hl.1 rfl (Nat.le_of_ble_eq_true rfl) ⟨Nat.le_of_ble_eq_true rfl, Nat.le_of_ble_eq_true rfl⟩ ⟨hcs, hsl⟩ dL_law_1152 (fun v30 f29 H locs hp29 h => ?_)
  obtain ⟨hf29, hv30p0, hv30p1⟩ := hp29
  have en31a := TNa hTMc hf29 m_q r_q (by decide +kernel) (by decide +kernel) (by decide +kernel)
  have en31c := TNc hTMc hTMn hf29 m_q r_q (by decide +kernel) (by decide +kernel) (by decide +kernel) (by decide +kernel)
  have en31m := TNm t_GT m_GT r_GT hf29 m_rr r_rr (by decide +kernel) (by decide +kernel)
  have et32p := TRp hTMc hf29 m_q r_q (by decide +kernel) (by decide +kernel)
  have et32c := TRc hTMc hf29 m_q r_q (by decide +kernel) (by decide +kernel) (by decide +kernel) (by decide +kernel)
  have et32m := TRm hTMm hf29 m_rr r_rr (by decide +kernel) (by decide +kernel) (by decide +kernel) (by decide +kernel)
  have hTPn : ∀ i, i < 4 → P (trs f29 q i) = i := fun i hi => by rw [et32p i]; exact hTPn i hi
  have hTMc := TMc_of h m_q r_q
  have hTMm := TMm_of h m_rr r_rr
  have hTQn : ∀ i, i < 4 → P (rfa f29 (trs f29 q i) 0) = i := fun i hi => by rw [en31a i hi]; exact hTQn i hi
  have hTMn := TMn_of h hTMc
  have hI : INV L R O P f29 q := hI.most m_q r_q hf29 (by decide +kernel) (by decide +kernel) (by decide +kernel) (by decide +kernel) (by decide +kernel)
  have t_GA : fld f29 rr 0 = .ref GA := (hf29.efl m_rr r_rr (by decide +kernel)).trans t_GA
  have t_GP : fld f29 rr 22 = .ref GP := (hf29.efl m_rr r_rr (by decide +kernel)).trans t_GP
  have t_GL : fld f29 rr 23 = .ref GL := (hf29.efl m_rr r_rr (by decide +kernel)).trans t_GL
  have t_GT : fld f29 rr 6 = .ref GT := (hf29.efl m_rr r_rr (by decide +kernel)).trans t_GT
  have hR : RBA GA f29 := hv30p0
  have hX : GZ GP GL f29 := hv30p1
  have hP : fld f29 (rfa f29 q 6) 16 = V := by rw [hf29.erf m_q r_q (by decide +kernel), hf29.efl hs6m hs6r (by decide +kernel)]; exact hP
  have hs6m : rfa f29 q 6 ∈ L := by rw [hf29.erf m_q r_q (by decide +kernel)]; exact hs6m
  have hs6r : R (rfa f29 q 6) = 7 := by rw [hf29.erf m_q r_q (by decide +kernel)]; exact hs6r
  refine lv_pop F.1 F.2.1 dL_law_1155 rfl ?_
  refine lv_goto (tgt := 1756) F.1 F.2.1 dL_law_1156 (by decide) ?_
  exact kk f29 _ _ _ ⟨h, hI, ⟨t_GA, t_GP, t_GL, t_GT⟩, hR, hX, hP, hTPn, fun i hi => by have q0 := hTR i hi; have q1 := et16c i hi; have q2 := et16m i; have q3 := et32c i hi; have q4 := et32m i; omega, hTQn, fun i hi j hj => by have q0 := hTR i hi; have q1 := et16c i hi; have q2 := et16m i; have q3 := et32c i hi; have q4 := et32m i; have qb := hCb i hi; have hj6 : j < 60 := (by omega); have n0 := hNR i hi j; have n1 := en15c i hi j; have n2 := en15m i j; have n3 := en31c i hi j; have n4 := en31m i j; omega⟩ hl
theorem dL_law_1159 : decode cL_law 1159 = .ok (.aload_n 1, 1) := by decide +kernel
theorem dL_law_1160 : decode cL_law 1160 = .ok (.aload_n 0, 1) := by decide +kernel
theorem dL_law_1161 : decode cL_law 1161 = .ok (.iload_n 3, 1) := by decide +kernel
theorem dL_law_1162 : decode cL_law 1162 = .ok (.iconst 1, 1) := by decide +kernel
theorem dL_law_1163 : decode cL_law 1163 = .ok (.iadd, 1) := by decide +kernel
theorem dL_law_1164 : decode cL_law 1164 = .ok (.iaload, 1) := by decide +kernel
theorem dL_law_1165 : decode cL_law 1165 = .ok (.invokevirtual 134, 3) := by decide +kernel
theorem mw_1236 : Cond.methodLink RL 134 yX11_led ∈ wsL_law := inr_52 _ (List.mem_of_getElem? (i := 12) rfl)
theorem mw_1239 : Cond.code yX11_led cX11_led 2 (some .int) ∈ wsL_law := inr_52 _ (List.mem_of_getElem? (i := 15) rfl)
theorem yk_X11_led : xY yX11_led RX11 cX11_led 2 (some .int) 1 := ⟨⟨rfl, by decide +kernel, by decide +kernel, by decide +kernel⟩, mw_2, mw_1239⟩
theorem mw_1237 : Cond.instanceMethod yX11_led ∈ wsL_law := inr_52 _ (List.mem_of_getElem? (i := 13) rfl)
theorem mw_1238 : Cond.selects RX11 yX11_led yX11_led ∈ wsL_law := inr_52 _ (List.mem_of_getElem? (i := 14) rfl)
theorem dL_law_1168 : decode cL_law 1168 = .ok (.pop, 1) := by decide +kernel
theorem dL_law_1169 : decode cL_law 1169 = .ok (.aload_n 2, 1) := by decide +kernel
theorem dL_law_1170 : decode cL_law 1170 = .ok (.aload_n 0, 1) := by decide +kernel
theorem dL_law_1171 : decode cL_law 1171 = .ok (.iload_n 3, 1) := by decide +kernel
theorem dL_law_1172 : decode cL_law 1172 = .ok (.iconst 1, 1) := by decide +kernel
theorem dL_law_1173 : decode cL_law 1173 = .ok (.iadd, 1) := by decide +kernel
theorem dL_law_1174 : decode cL_law 1174 = .ok (.iaload, 1) := by decide +kernel
theorem dL_law_1175 : decode cL_law 1175 = .ok (.invokevirtual 137, 3) := by decide +kernel
theorem mw_1240 : Cond.methodLink RL 137 yX12_led ∈ wsL_law := inr_52 _ (List.mem_of_getElem? (i := 16) rfl)
theorem mw_1243 : Cond.code yX12_led cX12_led 2 (some .int) ∈ wsL_law := inr_52 _ (List.mem_of_getElem? (i := 19) rfl)
theorem yk_X12_led : xY yX12_led RX12 cX12_led 2 (some .int) 1 := ⟨⟨rfl, by decide +kernel, by decide +kernel, by decide +kernel⟩, mw_5, mw_1243⟩
theorem mw_1241 : Cond.instanceMethod yX12_led ∈ wsL_law := inr_52 _ (List.mem_of_getElem? (i := 17) rfl)
theorem mw_1242 : Cond.selects RX12 yX12_led yX12_led ∈ wsL_law := inr_52 _ (List.mem_of_getElem? (i := 18) rfl)
theorem dL_law_1178 : decode cL_law 1178 = .ok (.pop, 1) := by decide +kernel
theorem dL_law_1179 : decode cL_law 1179 = .ok (.goto 577, 3) := by decide +kernel
set_option maxHeartbeats 4000000 in
set_option maxRecDepth 100000 in
theorem law_c26 {p : Program} {l : Launch} {e : Env} {s : State} {m : MethodId} {below : List Frame} {meth : Method} {c : Code} {H : Heap} {locs : List Loc} {Q : State → Prop} {D : va_G} {cy : Nat → ClassId} {A : Nat → Prop} {L : List Nat} {R O P : Nat → Nat} {f0 : Nat → va_E} {ls : Array Slot} {b N cs sl q rr GA GP GL GT : Nat} {xs : Nat → Int32} {V : Value} (F : CallFix p m c cL_law 4 s #[Value.ref b] wsL_law RL) (hZ : tZ A s s.heap) (hX0 : va_X b N xs s s.heap) (hbl : b < s.heap.size) (hbA : ¬ A b) (hcs : cs ≤ room_1.cells) (hsl : sl ≤ room_1.slots) (i : Int32) (bi : 0 ≤ i.toInt ∧ i.toInt + 6 ≤ N ∧ N ≤ 3072) (m_q : q ∈ L) (r_q : R q = 11) (m_rr : rr ∈ L) (r_rr : R rr = 12) (m_GA : GA ∈ L) (r_GA : R GA = 61) (m_GP : GP ∈ L) (r_GP : R GP = 69) (m_GL : GL ∈ L) (r_GL : R GL = 70) (m_GT : GT ∈ L) (r_GT : R GT = 64) (hLS : LWS D cy A s L R O P q rr GA GP GL GT V f0 H locs) (hl : lv_has ls 4 [(3, .int i), (2, .ref rr), (1, .ref q), (0, .ref b)]) (kk : ∀ (f1 : Nat → va_E) (H : Heap) (locs : List Loc) (ls : Array Slot), LWS D cy A s L R O P q rr GA GP GL GT V f1 H locs → lv_has ls 4 [(3, .int i), (2, .ref rr), (1, .ref q), (0, .ref b)] → W p l e room_1 s m #[Value.ref b] below meth c H locs cs sl Q (F0 m 1756 ls [])) : W p l e room_1 s m #[Value.ref b] below meth c H locs cs sl Q (F0 m 1159 ls []) := by
  obtain ⟨h, hI, ⟨t_GA, t_GP, t_GL, t_GT⟩, hR, hX, hP, hTP, hTR, hTQ, hNR⟩ := hLS
  have hs6m := hI.2.2.1.1
  have hs6r := hI.2.2.1.2
  have hTMc := TMc_of h m_q r_q
  have hTMm := TMm_of h m_rr r_rr
  have hTPn := hTP
  have hTMn := TMn_of h hTMc
  have hTQn := hTQ
  have hCb := CS_le h m_q r_q
  refine lv_aload_n F.1 F.2.1 dL_law_1159 rfl (lv_at hl 2 rfl) ?_
  refine lv_aload_n F.1 F.2.1 dL_law_1160 rfl (lv_at hl 3 rfl) ?_
  refine lv_iload_n F.1 F.2.1 dL_law_1161 rfl (lv_at hl 0 rfl) ?_
  refine tw_iconst F dL_law_1162 ki_1 (fun z1 hz1 => ?_)
  refine tu_iadd F dL_law_1163 (by omega) (fun z2 hz2 => ?_)
  refine va_sld F.1 F.2.1 hX0 hbl hbA h.dd.2.2 (tw_in (by omega) (by omega)) dL_law_1164 ?_
  refine lv_topi (fun z3 qz3 => ?_)
  refine tw_Vi (As := [.int z3]) F hZ h yk_X11_led mw_1236 mw_1237 mw_1238 (s_X11_led l D cy L R O f0 q m_q r_q z3) rfl rfl m_q r_q (fun e q => (T_11 e).mp q) rfl hl.1 rfl (Nat.le_of_ble_eq_true rfl) ⟨Nat.le_of_ble_eq_true rfl, Nat.le_of_ble_eq_true rfl⟩ ⟨hcs, hsl⟩ dL_law_1165 (fun v5 f4 H locs hp4 h => ?_)
  have hf4 := hp4
  have en6a := TNa hTMc hf4 m_q r_q (by decide +kernel) (by decide +kernel) (by decide +kernel)
  have en6c := TNc hTMc hTMn hf4 m_q r_q (by decide +kernel) (by decide +kernel) (by decide +kernel) (by decide +kernel)
  have en6m := TNm t_GT m_GT r_GT hf4 m_rr r_rr (by decide +kernel) (by decide +kernel)
  have et7p := TRp hTMc hf4 m_q r_q (by decide +kernel) (by decide +kernel)
  have et7c := TRc hTMc hf4 m_q r_q (by decide +kernel) (by decide +kernel) (by decide +kernel) (by decide +kernel)
  have et7m := TRm hTMm hf4 m_rr r_rr (by decide +kernel) (by decide +kernel) (by decide +kernel) (by decide +kernel)
  have hTPn : ∀ i, i < 4 → P (trs f4 q i) = i := fun i hi => by rw [et7p i]; exact hTPn i hi
  have hTMc := TMc_of h m_q r_q
  have hTMm := TMm_of h m_rr r_rr
  have hTQn : ∀ i, i < 4 → P (rfa f4 (trs f4 q i) 0) = i := fun i hi => by rw [en6a i hi]; exact hTQn i hi
  have hTMn := TMn_of h hTMc
  have hI : INV L R O P f4 q := hI.most m_q r_q hf4 (by decide +kernel) (by decide +kernel) (by decide +kernel) (by decide +kernel) (by decide +kernel)
  have t_GA : fld f4 rr 0 = .ref GA := (hf4.efl m_rr r_rr (by decide +kernel)).trans t_GA
  have t_GP : fld f4 rr 22 = .ref GP := (hf4.efl m_rr r_rr (by decide +kernel)).trans t_GP
  have t_GL : fld f4 rr 23 = .ref GL := (hf4.efl m_rr r_rr (by decide +kernel)).trans t_GL
  have t_GT : fld f4 rr 6 = .ref GT := (hf4.efl m_rr r_rr (by decide +kernel)).trans t_GT
  have hR : RBA GA f4 := hR.fm hf4 m_GA r_GA (by decide +kernel)
  have hX : GZ GP GL f4 := hX.fm hf4 m_GP r_GP m_GL r_GL (by decide +kernel) (by decide +kernel)
  have hP : fld f4 (rfa f4 q 6) 16 = V := by rw [hf4.erf m_q r_q (by decide +kernel), hf4.efl hs6m hs6r (by decide +kernel)]; exact hP
  have hs6m : rfa f4 q 6 ∈ L := by rw [hf4.erf m_q r_q (by decide +kernel)]; exact hs6m
  have hs6r : R (rfa f4 q 6) = 7 := by rw [hf4.erf m_q r_q (by decide +kernel)]; exact hs6r
  refine lv_pop F.1 F.2.1 dL_law_1168 rfl ?_
  refine lv_aload_n F.1 F.2.1 dL_law_1169 rfl (lv_at hl 1 rfl) ?_
  refine lv_aload_n F.1 F.2.1 dL_law_1170 rfl (lv_at hl 3 rfl) ?_
  refine lv_iload_n F.1 F.2.1 dL_law_1171 rfl (lv_at hl 0 rfl) ?_
  refine tw_iconst F dL_law_1172 ki_1 (fun z8 hz8 => ?_)
  refine tu_iadd F dL_law_1173 (by omega) (fun z9 hz9 => ?_)
  refine va_sld F.1 F.2.1 hX0 hbl hbA h.dd.2.2 (tw_in (by omega) (by omega)) dL_law_1174 ?_
  refine lv_topi (fun z10 qz10 => ?_)
  obtain rfl : z3 = z10 := by rw [qz3, qz10, show z2 = z9 from Int32.toInt_inj.mp (by omega)]
  refine tw_Vi (As := [.int z3]) F hZ h yk_X12_led mw_1240 mw_1241 mw_1242 (s_X12_led l D cy L R O f4 rr m_rr r_rr z3) rfl rfl m_rr r_rr (fun e q => (T_12 e).mp q) rfl hl.1 rfl (Nat.le_of_ble_eq_true rfl) ⟨Nat.le_of_ble_eq_true rfl, Nat.le_of_ble_eq_true rfl⟩ ⟨hcs, hsl⟩ dL_law_1175 (fun v12 f11 H locs hp11 h => ?_)
  have hf11 := hp11
  have en13a := TNa hTMc hf11 m_q r_q (by decide +kernel) (by decide +kernel) (by decide +kernel)
  have en13c := TNc hTMc hTMn hf11 m_q r_q (by decide +kernel) (by decide +kernel) (by decide +kernel) (by decide +kernel)
  have en13m := TNm t_GT m_GT r_GT hf11 m_rr r_rr (by decide +kernel) (by decide +kernel)
  have et14p := TRp hTMc hf11 m_q r_q (by decide +kernel) (by decide +kernel)
  have et14c := TRc hTMc hf11 m_q r_q (by decide +kernel) (by decide +kernel) (by decide +kernel) (by decide +kernel)
  have et14m := TRm hTMm hf11 m_rr r_rr (by decide +kernel) (by decide +kernel) (by decide +kernel) (by decide +kernel)
  have hTPn : ∀ i, i < 4 → P (trs f11 q i) = i := fun i hi => by rw [et14p i]; exact hTPn i hi
  have hTMc := TMc_of h m_q r_q
  have hTMm := TMm_of h m_rr r_rr
  have hTQn : ∀ i, i < 4 → P (rfa f11 (trs f11 q i) 0) = i := fun i hi => by rw [en13a i hi]; exact hTQn i hi
  have hTMn := TMn_of h hTMc
  have hI : INV L R O P f11 q := hI.most m_q r_q hf11 (by decide +kernel) (by decide +kernel) (by decide +kernel) (by decide +kernel) (by decide +kernel)
  have t_GA : fld f11 rr 0 = .ref GA := (hf11.efl m_rr r_rr (by decide +kernel)).trans t_GA
  have t_GP : fld f11 rr 22 = .ref GP := (hf11.efl m_rr r_rr (by decide +kernel)).trans t_GP
  have t_GL : fld f11 rr 23 = .ref GL := (hf11.efl m_rr r_rr (by decide +kernel)).trans t_GL
  have t_GT : fld f11 rr 6 = .ref GT := (hf11.efl m_rr r_rr (by decide +kernel)).trans t_GT
  have hR : RBA GA f11 := hR.fm hf11 m_GA r_GA (by decide +kernel)
  have hX : GZ GP GL f11 := hX.fm hf11 m_GP r_GP m_GL r_GL (by decide +kernel) (by decide +kernel)
  have hP : fld f11 (rfa f11 q 6) 16 = V := by rw [hf11.erf m_q r_q (by decide +kernel), hf11.efl hs6m hs6r (by decide +kernel)]; exact hP
  have hs6m : rfa f11 q 6 ∈ L := by rw [hf11.erf m_q r_q (by decide +kernel)]; exact hs6m
  have hs6r : R (rfa f11 q 6) = 7 := by rw [hf11.erf m_q r_q (by decide +kernel)]; exact hs6r
  refine lv_pop F.1 F.2.1 dL_law_1178 rfl ?_
  refine lv_goto (tgt := 1756) F.1 F.2.1 dL_law_1179 (by decide) ?_
  exact kk f11 _ _ _ ⟨h, hI, ⟨t_GA, t_GP, t_GL, t_GT⟩, hR, hX, hP, hTPn, fun i hi => by have q0 := hTR i hi; have q1 := et7c i hi; have q2 := et7m i; have q3 := et14c i hi; have q4 := et14m i; omega, hTQn, fun i hi j hj => by have q0 := hTR i hi; have q1 := et7c i hi; have q2 := et7m i; have q3 := et14c i hi; have q4 := et14m i; have qb := hCb i hi; have hj6 : j < 60 := (by omega); have n0 := hNR i hi j; have n1 := en6c i hi j; have n2 := en6m i j; have n3 := en13c i hi j; have n4 := en13m i j; omega⟩ hl
theorem dL_law_1235 : decode cL_law 1235 = .ok (.aload_n 1, 1) := by decide +kernel
theorem dL_law_1236 : decode cL_law 1236 = .ok (.aload_n 0, 1) := by decide +kernel
theorem dL_law_1237 : decode cL_law 1237 = .ok (.iload_n 3, 1) := by decide +kernel
theorem dL_law_1238 : decode cL_law 1238 = .ok (.iconst 1, 1) := by decide +kernel
theorem dL_law_1239 : decode cL_law 1239 = .ok (.iadd, 1) := by decide +kernel
theorem dL_law_1240 : decode cL_law 1240 = .ok (.iaload, 1) := by decide +kernel
theorem dL_law_1241 : decode cL_law 1241 = .ok (.invokevirtual 142, 3) := by decide +kernel
theorem mw_1315 : Cond.methodLink RL 142 yX11_ring ∈ wsL_law := inr_55 _ (List.mem_of_getElem? (i := 19) rfl)
theorem mw_1318 : Cond.code yX11_ring cX11_ring 2 (some .int) ∈ wsL_law := inr_55 _ (List.mem_of_getElem? (i := 22) rfl)
theorem yk_X11_ring : xY yX11_ring RX11 cX11_ring 2 (some .int) 1 := ⟨⟨rfl, by decide +kernel, by decide +kernel, by decide +kernel⟩, mw_2, mw_1318⟩
theorem mw_1316 : Cond.instanceMethod yX11_ring ∈ wsL_law := inr_55 _ (List.mem_of_getElem? (i := 20) rfl)
theorem mw_1317 : Cond.selects RX11 yX11_ring yX11_ring ∈ wsL_law := inr_55 _ (List.mem_of_getElem? (i := 21) rfl)
theorem dL_law_1244 : decode cL_law 1244 = .ok (.pop, 1) := by decide +kernel
theorem dL_law_1245 : decode cL_law 1245 = .ok (.aload_n 2, 1) := by decide +kernel
theorem dL_law_1246 : decode cL_law 1246 = .ok (.aload_n 0, 1) := by decide +kernel
theorem dL_law_1247 : decode cL_law 1247 = .ok (.iload_n 3, 1) := by decide +kernel
theorem dL_law_1248 : decode cL_law 1248 = .ok (.iconst 1, 1) := by decide +kernel
theorem dL_law_1249 : decode cL_law 1249 = .ok (.iadd, 1) := by decide +kernel
theorem dL_law_1250 : decode cL_law 1250 = .ok (.iaload, 1) := by decide +kernel
theorem dL_law_1251 : decode cL_law 1251 = .ok (.invokevirtual 145, 3) := by decide +kernel
theorem mw_1321 : Cond.methodLink RL 145 yX12_ring ∈ wsL_law := inr_56 _ (List.mem_of_getElem? (i := 1) rfl)
theorem mw_1324 : Cond.code yX12_ring cX12_ring 2 (some .int) ∈ wsL_law := inr_56 _ (List.mem_of_getElem? (i := 4) rfl)
theorem yk_X12_ring : xY yX12_ring RX12 cX12_ring 2 (some .int) 1 := ⟨⟨rfl, by decide +kernel, by decide +kernel, by decide +kernel⟩, mw_5, mw_1324⟩
theorem mw_1322 : Cond.instanceMethod yX12_ring ∈ wsL_law := inr_56 _ (List.mem_of_getElem? (i := 2) rfl)
theorem mw_1323 : Cond.selects RX12 yX12_ring yX12_ring ∈ wsL_law := inr_56 _ (List.mem_of_getElem? (i := 3) rfl)
theorem dL_law_1254 : decode cL_law 1254 = .ok (.pop, 1) := by decide +kernel
theorem dL_law_1255 : decode cL_law 1255 = .ok (.goto 501, 3) := by decide +kernel
set_option maxHeartbeats 4000000 in
set_option maxRecDepth 100000 in
theorem law_c28 {p : Program} {l : Launch} {e : Env} {s : State} {m : MethodId} {below : List Frame} {meth : Method} {c : Code} {H : Heap} {locs : List Loc} {Q : State → Prop} {D : va_G} {cy : Nat → ClassId} {A : Nat → Prop} {L : List Nat} {R O P : Nat → Nat} {f0 : Nat → va_E} {ls : Array Slot} {b N cs sl q rr GA GP GL GT : Nat} {xs : Nat → Int32} {V : Value} (F : CallFix p m c cL_law 4 s #[Value.ref b] wsL_law RL) (hZ : tZ A s s.heap) (hX0 : va_X b N xs s s.heap) (hbl : b < s.heap.size) (hbA : ¬ A b) (hcs : cs ≤ room_1.cells) (hsl : sl ≤ room_1.slots) (i : Int32) (bi : 0 ≤ i.toInt ∧ i.toInt + 6 ≤ N ∧ N ≤ 3072) (m_q : q ∈ L) (r_q : R q = 11) (m_rr : rr ∈ L) (r_rr : R rr = 12) (m_GA : GA ∈ L) (r_GA : R GA = 61) (m_GP : GP ∈ L) (r_GP : R GP = 69) (m_GL : GL ∈ L) (r_GL : R GL = 70) (m_GT : GT ∈ L) (r_GT : R GT = 64) (hLS : LWS D cy A s L R O P q rr GA GP GL GT V f0 H locs) (hl : lv_has ls 4 [(3, .int i), (2, .ref rr), (1, .ref q), (0, .ref b)]) (kk : ∀ (f1 : Nat → va_E) (H : Heap) (locs : List Loc) (ls : Array Slot), LWS D cy A s L R O P q rr GA GP GL GT V f1 H locs → lv_has ls 4 [(3, .int i), (2, .ref rr), (1, .ref q), (0, .ref b)] → W p l e room_1 s m #[Value.ref b] below meth c H locs cs sl Q (F0 m 1756 ls [])) : W p l e room_1 s m #[Value.ref b] below meth c H locs cs sl Q (F0 m 1235 ls []) := by
  obtain ⟨h, hI, ⟨t_GA, t_GP, t_GL, t_GT⟩, hR, hX, hP, hTP, hTR, hTQ, hNR⟩ := hLS
  have hs6m := hI.2.2.1.1
  have hs6r := hI.2.2.1.2
  have hTMc := TMc_of h m_q r_q
  have hTMm := TMm_of h m_rr r_rr
  have hTPn := hTP
  have hTMn := TMn_of h hTMc
  have hTQn := hTQ
  have hCb := CS_le h m_q r_q
  refine lv_aload_n F.1 F.2.1 dL_law_1235 rfl (lv_at hl 2 rfl) ?_
  refine lv_aload_n F.1 F.2.1 dL_law_1236 rfl (lv_at hl 3 rfl) ?_
  refine lv_iload_n F.1 F.2.1 dL_law_1237 rfl (lv_at hl 0 rfl) ?_
  refine tw_iconst F dL_law_1238 ki_1 (fun z1 hz1 => ?_)
  refine tu_iadd F dL_law_1239 (by omega) (fun z2 hz2 => ?_)
  refine va_sld F.1 F.2.1 hX0 hbl hbA h.dd.2.2 (tw_in (by omega) (by omega)) dL_law_1240 ?_
  refine lv_topi (fun z3 qz3 => ?_)
  refine tw_Vi (As := [.int z3]) F hZ h yk_X11_ring mw_1315 mw_1316 mw_1317 (s_X11_ring l D cy L R O f0 q m_q r_q z3) rfl rfl m_q r_q (fun e q => (T_11 e).mp q) rfl hl.1 rfl (Nat.le_of_ble_eq_true rfl) ⟨Nat.le_of_ble_eq_true rfl, Nat.le_of_ble_eq_true rfl⟩ ⟨hcs, hsl⟩ dL_law_1241 (fun v5 f4 H locs hp4 h => ?_)
  have hf4 := hp4
  have en6a := TNa hTMc hf4 m_q r_q (by decide +kernel) (by decide +kernel) (by decide +kernel)
  have en6c := TNc hTMc hTMn hf4 m_q r_q (by decide +kernel) (by decide +kernel) (by decide +kernel) (by decide +kernel)
  have en6m := TNm t_GT m_GT r_GT hf4 m_rr r_rr (by decide +kernel) (by decide +kernel)
  have et7p := TRp hTMc hf4 m_q r_q (by decide +kernel) (by decide +kernel)
  have et7c := TRc hTMc hf4 m_q r_q (by decide +kernel) (by decide +kernel) (by decide +kernel) (by decide +kernel)
  have et7m := TRm hTMm hf4 m_rr r_rr (by decide +kernel) (by decide +kernel) (by decide +kernel) (by decide +kernel)
  have hTPn : ∀ i, i < 4 → P (trs f4 q i) = i := fun i hi => by rw [et7p i]; exact hTPn i hi
  have hTMc := TMc_of h m_q r_q
  have hTMm := TMm_of h m_rr r_rr
  have hTQn : ∀ i, i < 4 → P (rfa f4 (trs f4 q i) 0) = i := fun i hi => by rw [en6a i hi]; exact hTQn i hi
  have hTMn := TMn_of h hTMc
  have hI : INV L R O P f4 q := hI.most m_q r_q hf4 (by decide +kernel) (by decide +kernel) (by decide +kernel) (by decide +kernel) (by decide +kernel)
  have t_GA : fld f4 rr 0 = .ref GA := (hf4.efl m_rr r_rr (by decide +kernel)).trans t_GA
  have t_GP : fld f4 rr 22 = .ref GP := (hf4.efl m_rr r_rr (by decide +kernel)).trans t_GP
  have t_GL : fld f4 rr 23 = .ref GL := (hf4.efl m_rr r_rr (by decide +kernel)).trans t_GL
  have t_GT : fld f4 rr 6 = .ref GT := (hf4.efl m_rr r_rr (by decide +kernel)).trans t_GT
  have hR : RBA GA f4 := hR.fm hf4 m_GA r_GA (by decide +kernel)
  have hX : GZ GP GL f4 := hX.fm hf4 m_GP r_GP m_GL r_GL (by decide +kernel) (by decide +kernel)
  have hP : fld f4 (rfa f4 q 6) 16 = V := by rw [hf4.erf m_q r_q (by decide +kernel), hf4.efl hs6m hs6r (by decide +kernel)]; exact hP
  have hs6m : rfa f4 q 6 ∈ L := by rw [hf4.erf m_q r_q (by decide +kernel)]; exact hs6m
  have hs6r : R (rfa f4 q 6) = 7 := by rw [hf4.erf m_q r_q (by decide +kernel)]; exact hs6r
  refine lv_pop F.1 F.2.1 dL_law_1244 rfl ?_
  refine lv_aload_n F.1 F.2.1 dL_law_1245 rfl (lv_at hl 1 rfl) ?_
  refine lv_aload_n F.1 F.2.1 dL_law_1246 rfl (lv_at hl 3 rfl) ?_
  refine lv_iload_n F.1 F.2.1 dL_law_1247 rfl (lv_at hl 0 rfl) ?_
  refine tw_iconst F dL_law_1248 ki_1 (fun z8 hz8 => ?_)
  refine tu_iadd F dL_law_1249 (by omega) (fun z9 hz9 => ?_)
  refine va_sld F.1 F.2.1 hX0 hbl hbA h.dd.2.2 (tw_in (by omega) (by omega)) dL_law_1250 ?_
  refine lv_topi (fun z10 qz10 => ?_)
  obtain rfl : z3 = z10 := by rw [qz3, qz10, show z2 = z9 from Int32.toInt_inj.mp (by omega)]
  refine tw_Vi (As := [.int z3]) F hZ h yk_X12_ring mw_1321 mw_1322 mw_1323 (s_X12_ring l D cy L R O f4 rr m_rr r_rr z3) rfl rfl m_rr r_rr (fun e q => (T_12 e).mp q) rfl hl.1 rfl (Nat.le_of_ble_eq_true rfl) ⟨Nat.le_of_ble_eq_true rfl, Nat.le_of_ble_eq_true rfl⟩ ⟨hcs, hsl⟩ dL_law_1251 (fun v12 f11 H locs hp11 h => ?_)
  have hf11 := hp11
  have en13a := TNa hTMc hf11 m_q r_q (by decide +kernel) (by decide +kernel) (by decide +kernel)
  have en13c := TNc hTMc hTMn hf11 m_q r_q (by decide +kernel) (by decide +kernel) (by decide +kernel) (by decide +kernel)
  have en13m := TNm t_GT m_GT r_GT hf11 m_rr r_rr (by decide +kernel) (by decide +kernel)
  have et14p := TRp hTMc hf11 m_q r_q (by decide +kernel) (by decide +kernel)
  have et14c := TRc hTMc hf11 m_q r_q (by decide +kernel) (by decide +kernel) (by decide +kernel) (by decide +kernel)
  have et14m := TRm hTMm hf11 m_rr r_rr (by decide +kernel) (by decide +kernel) (by decide +kernel) (by decide +kernel)
  have hTPn : ∀ i, i < 4 → P (trs f11 q i) = i := fun i hi => by rw [et14p i]; exact hTPn i hi
  have hTMc := TMc_of h m_q r_q
  have hTMm := TMm_of h m_rr r_rr
  have hTQn : ∀ i, i < 4 → P (rfa f11 (trs f11 q i) 0) = i := fun i hi => by rw [en13a i hi]; exact hTQn i hi
  have hTMn := TMn_of h hTMc
  have hI : INV L R O P f11 q := hI.most m_q r_q hf11 (by decide +kernel) (by decide +kernel) (by decide +kernel) (by decide +kernel) (by decide +kernel)
  have t_GA : fld f11 rr 0 = .ref GA := (hf11.efl m_rr r_rr (by decide +kernel)).trans t_GA
  have t_GP : fld f11 rr 22 = .ref GP := (hf11.efl m_rr r_rr (by decide +kernel)).trans t_GP
  have t_GL : fld f11 rr 23 = .ref GL := (hf11.efl m_rr r_rr (by decide +kernel)).trans t_GL
  have t_GT : fld f11 rr 6 = .ref GT := (hf11.efl m_rr r_rr (by decide +kernel)).trans t_GT
  have hR : RBA GA f11 := hR.fm hf11 m_GA r_GA (by decide +kernel)
  have hX : GZ GP GL f11 := hX.fm hf11 m_GP r_GP m_GL r_GL (by decide +kernel) (by decide +kernel)
  have hP : fld f11 (rfa f11 q 6) 16 = V := by rw [hf11.erf m_q r_q (by decide +kernel), hf11.efl hs6m hs6r (by decide +kernel)]; exact hP
  have hs6m : rfa f11 q 6 ∈ L := by rw [hf11.erf m_q r_q (by decide +kernel)]; exact hs6m
  have hs6r : R (rfa f11 q 6) = 7 := by rw [hf11.erf m_q r_q (by decide +kernel)]; exact hs6r
  refine lv_pop F.1 F.2.1 dL_law_1254 rfl ?_
  refine lv_goto (tgt := 1756) F.1 F.2.1 dL_law_1255 (by decide) ?_
  exact kk f11 _ _ _ ⟨h, hI, ⟨t_GA, t_GP, t_GL, t_GT⟩, hR, hX, hP, hTPn, fun i hi => by have q0 := hTR i hi; have q1 := et7c i hi; have q2 := et7m i; have q3 := et14c i hi; have q4 := et14m i; omega, hTQn, fun i hi j hj => by have q0 := hTR i hi; have q1 := et7c i hi; have q2 := et7m i; have q3 := et14c i hi; have q4 := et14m i; have qb := hCb i hi; have hj6 : j < 60 := (by omega); have n0 := hNR i hi j; have n1 := en6c i hi j; have n2 := en6m i j; have n3 := en13c i hi j; have n4 := en13m i j; omega⟩ hl
theorem dL_law_1258 : decode cL_law 1258 = .ok (.aload_n 1, 1) := by decide +kernel
theorem dL_law_1259 : decode cL_law 1259 = .ok (.aload_n 0, 1) := by decide +kernel
theorem dL_law_1260 : decode cL_law 1260 = .ok (.iload_n 3, 1) := by decide +kernel
theorem dL_law_1261 : decode cL_law 1261 = .ok (.iconst 1, 1) := by decide +kernel
theorem dL_law_1262 : decode cL_law 1262 = .ok (.iadd, 1) := by decide +kernel
theorem dL_law_1263 : decode cL_law 1263 = .ok (.iaload, 1) := by decide +kernel
theorem dL_law_1264 : decode cL_law 1264 = .ok (.i2l, 1) := by decide +kernel
theorem dL_law_1265 : decode cL_law 1265 = .ok (.bipush 32, 2) := by decide +kernel
theorem dL_law_1267 : decode cL_law 1267 = .ok (.lshl, 1) := by decide +kernel
theorem dL_law_1268 : decode cL_law 1268 = .ok (.aload_n 0, 1) := by decide +kernel
theorem dL_law_1269 : decode cL_law 1269 = .ok (.iload_n 3, 1) := by decide +kernel
theorem dL_law_1270 : decode cL_law 1270 = .ok (.iconst 2, 1) := by decide +kernel
theorem dL_law_1271 : decode cL_law 1271 = .ok (.iadd, 1) := by decide +kernel
theorem dL_law_1272 : decode cL_law 1272 = .ok (.iaload, 1) := by decide +kernel
theorem dL_law_1273 : decode cL_law 1273 = .ok (.i2l, 1) := by decide +kernel
theorem dL_law_1274 : decode cL_law 1274 = .ok (.ldc2_w 32, 3) := by decide +kernel
theorem dL_law_1277 : decode cL_law 1277 = .ok (.land, 1) := by decide +kernel
theorem dL_law_1278 : decode cL_law 1278 = .ok (.lor, 1) := by decide +kernel
theorem dL_law_1279 : decode cL_law 1279 = .ok (.aload_n 0, 1) := by decide +kernel
theorem dL_law_1280 : decode cL_law 1280 = .ok (.iload_n 3, 1) := by decide +kernel
theorem dL_law_1281 : decode cL_law 1281 = .ok (.iconst 3, 1) := by decide +kernel
theorem dL_law_1282 : decode cL_law 1282 = .ok (.iadd, 1) := by decide +kernel
theorem dL_law_1283 : decode cL_law 1283 = .ok (.iaload, 1) := by decide +kernel
theorem dL_law_1284 : decode cL_law 1284 = .ok (.i2l, 1) := by decide +kernel
theorem dL_law_1285 : decode cL_law 1285 = .ok (.bipush 32, 2) := by decide +kernel
theorem dL_law_1287 : decode cL_law 1287 = .ok (.lshl, 1) := by decide +kernel
theorem dL_law_1288 : decode cL_law 1288 = .ok (.aload_n 0, 1) := by decide +kernel
theorem dL_law_1289 : decode cL_law 1289 = .ok (.iload_n 3, 1) := by decide +kernel
theorem dL_law_1290 : decode cL_law 1290 = .ok (.iconst 4, 1) := by decide +kernel
theorem dL_law_1291 : decode cL_law 1291 = .ok (.iadd, 1) := by decide +kernel
theorem dL_law_1292 : decode cL_law 1292 = .ok (.iaload, 1) := by decide +kernel
theorem dL_law_1293 : decode cL_law 1293 = .ok (.i2l, 1) := by decide +kernel
theorem dL_law_1294 : decode cL_law 1294 = .ok (.ldc2_w 32, 3) := by decide +kernel
theorem dL_law_1297 : decode cL_law 1297 = .ok (.land, 1) := by decide +kernel
theorem dL_law_1298 : decode cL_law 1298 = .ok (.lor, 1) := by decide +kernel
theorem dL_law_1299 : decode cL_law 1299 = .ok (.invokevirtual 146, 3) := by decide +kernel
theorem mw_1325 : Cond.methodLink RL 146 yX11_broken ∈ wsL_law := inr_56 _ (List.mem_of_getElem? (i := 5) rfl)
theorem mw_1328 : Cond.code yX11_broken cX11_broken 5 (some .int) ∈ wsL_law := inr_56 _ (List.mem_of_getElem? (i := 8) rfl)
theorem yk_X11_broken : xY yX11_broken RX11 cX11_broken 5 (some .int) 2 := ⟨⟨rfl, by decide +kernel, by decide +kernel, by decide +kernel⟩, mw_2, mw_1328⟩
theorem mw_1326 : Cond.instanceMethod yX11_broken ∈ wsL_law := inr_56 _ (List.mem_of_getElem? (i := 6) rfl)
theorem mw_1327 : Cond.selects RX11 yX11_broken yX11_broken ∈ wsL_law := inr_56 _ (List.mem_of_getElem? (i := 7) rfl)
theorem dL_law_1302 : decode cL_law 1302 = .ok (.pop, 1) := by decide +kernel
theorem dL_law_1303 : decode cL_law 1303 = .ok (.aload_n 2, 1) := by decide +kernel
theorem dL_law_1304 : decode cL_law 1304 = .ok (.aload_n 0, 1) := by decide +kernel
theorem dL_law_1305 : decode cL_law 1305 = .ok (.iload_n 3, 1) := by decide +kernel
theorem dL_law_1306 : decode cL_law 1306 = .ok (.iconst 1, 1) := by decide +kernel
theorem dL_law_1307 : decode cL_law 1307 = .ok (.iadd, 1) := by decide +kernel
theorem dL_law_1308 : decode cL_law 1308 = .ok (.iaload, 1) := by decide +kernel
theorem dL_law_1309 : decode cL_law 1309 = .ok (.i2l, 1) := by decide +kernel
theorem dL_law_1310 : decode cL_law 1310 = .ok (.bipush 32, 2) := by decide +kernel
theorem dL_law_1312 : decode cL_law 1312 = .ok (.lshl, 1) := by decide +kernel
theorem dL_law_1313 : decode cL_law 1313 = .ok (.aload_n 0, 1) := by decide +kernel
theorem dL_law_1314 : decode cL_law 1314 = .ok (.iload_n 3, 1) := by decide +kernel
theorem dL_law_1315 : decode cL_law 1315 = .ok (.iconst 2, 1) := by decide +kernel
theorem dL_law_1316 : decode cL_law 1316 = .ok (.iadd, 1) := by decide +kernel
theorem dL_law_1317 : decode cL_law 1317 = .ok (.iaload, 1) := by decide +kernel
theorem dL_law_1318 : decode cL_law 1318 = .ok (.i2l, 1) := by decide +kernel
theorem dL_law_1319 : decode cL_law 1319 = .ok (.ldc2_w 32, 3) := by decide +kernel
theorem dL_law_1322 : decode cL_law 1322 = .ok (.land, 1) := by decide +kernel
theorem dL_law_1323 : decode cL_law 1323 = .ok (.lor, 1) := by decide +kernel
theorem dL_law_1324 : decode cL_law 1324 = .ok (.aload_n 0, 1) := by decide +kernel
theorem dL_law_1325 : decode cL_law 1325 = .ok (.iload_n 3, 1) := by decide +kernel
theorem dL_law_1326 : decode cL_law 1326 = .ok (.iconst 3, 1) := by decide +kernel
theorem dL_law_1327 : decode cL_law 1327 = .ok (.iadd, 1) := by decide +kernel
theorem dL_law_1328 : decode cL_law 1328 = .ok (.iaload, 1) := by decide +kernel
theorem dL_law_1329 : decode cL_law 1329 = .ok (.i2l, 1) := by decide +kernel
theorem dL_law_1330 : decode cL_law 1330 = .ok (.bipush 32, 2) := by decide +kernel
theorem dL_law_1332 : decode cL_law 1332 = .ok (.lshl, 1) := by decide +kernel
theorem dL_law_1333 : decode cL_law 1333 = .ok (.aload_n 0, 1) := by decide +kernel
theorem dL_law_1334 : decode cL_law 1334 = .ok (.iload_n 3, 1) := by decide +kernel
theorem dL_law_1335 : decode cL_law 1335 = .ok (.iconst 4, 1) := by decide +kernel
theorem dL_law_1336 : decode cL_law 1336 = .ok (.iadd, 1) := by decide +kernel
theorem dL_law_1337 : decode cL_law 1337 = .ok (.iaload, 1) := by decide +kernel
theorem dL_law_1338 : decode cL_law 1338 = .ok (.i2l, 1) := by decide +kernel
theorem dL_law_1339 : decode cL_law 1339 = .ok (.ldc2_w 32, 3) := by decide +kernel
theorem dL_law_1342 : decode cL_law 1342 = .ok (.land, 1) := by decide +kernel
theorem dL_law_1343 : decode cL_law 1343 = .ok (.lor, 1) := by decide +kernel
theorem dL_law_1344 : decode cL_law 1344 = .ok (.invokevirtual 150, 3) := by decide +kernel
theorem mw_1333 : Cond.methodLink RL 150 yX12_broken ∈ wsL_law := inr_56 _ (List.mem_of_getElem? (i := 13) rfl)
theorem mw_1336 : Cond.code yX12_broken cX12_broken 6 (some .int) ∈ wsL_law := inr_56 _ (List.mem_of_getElem? (i := 16) rfl)
theorem yk_X12_broken : xY yX12_broken RX12 cX12_broken 6 (some .int) 2 := ⟨⟨rfl, by decide +kernel, by decide +kernel, by decide +kernel⟩, mw_5, mw_1336⟩
theorem mw_1334 : Cond.instanceMethod yX12_broken ∈ wsL_law := inr_56 _ (List.mem_of_getElem? (i := 14) rfl)
theorem mw_1335 : Cond.selects RX12 yX12_broken yX12_broken ∈ wsL_law := inr_56 _ (List.mem_of_getElem? (i := 15) rfl)
theorem dL_law_1347 : decode cL_law 1347 = .ok (.pop, 1) := by decide +kernel
theorem dL_law_1348 : decode cL_law 1348 = .ok (.goto 408, 3) := by decide +kernel
set_option maxHeartbeats 4000000 in
set_option maxRecDepth 100000 in
theorem law_c29 {p : Program} {l : Launch} {e : Env} {s : State} {m : MethodId} {below : List Frame} {meth : Method} {c : Code} {H : Heap} {locs : List Loc} {Q : State → Prop} {D : va_G} {cy : Nat → ClassId} {A : Nat → Prop} {L : List Nat} {R O P : Nat → Nat} {f0 : Nat → va_E} {ls : Array Slot} {b N cs sl q rr GA GP GL GT : Nat} {xs : Nat → Int32} {V : Value} (F : CallFix p m c cL_law 4 s #[Value.ref b] wsL_law RL) (hZ : tZ A s s.heap) (hX0 : va_X b N xs s s.heap) (hbl : b < s.heap.size) (hbA : ¬ A b) (hcs : cs ≤ room_1.cells) (hsl : sl ≤ room_1.slots) (i : Int32) (bi : 0 ≤ i.toInt ∧ i.toInt + 6 ≤ N ∧ N ≤ 3072) (m_q : q ∈ L) (r_q : R q = 11) (m_rr : rr ∈ L) (r_rr : R rr = 12) (m_GA : GA ∈ L) (r_GA : R GA = 61) (m_GP : GP ∈ L) (r_GP : R GP = 69) (m_GL : GL ∈ L) (r_GL : R GL = 70) (m_GT : GT ∈ L) (r_GT : R GT = 64) (hLS : LWS D cy A s L R O P q rr GA GP GL GT V f0 H locs) (hl : lv_has ls 4 [(3, .int i), (2, .ref rr), (1, .ref q), (0, .ref b)]) (kk : ∀ (f1 : Nat → va_E) (H : Heap) (locs : List Loc) (ls : Array Slot), LWS D cy A s L R O P q rr GA GP GL GT V f1 H locs → lv_has ls 4 [(3, .int i), (2, .ref rr), (1, .ref q), (0, .ref b)] → W p l e room_1 s m #[Value.ref b] below meth c H locs cs sl Q (F0 m 1756 ls [])) : W p l e room_1 s m #[Value.ref b] below meth c H locs cs sl Q (F0 m 1258 ls []) := by
  obtain ⟨h, hI, ⟨t_GA, t_GP, t_GL, t_GT⟩, hR, hX, hP, hTP, hTR, hTQ, hNR⟩ := hLS
  have hs6m := hI.2.2.1.1
  have hs6r := hI.2.2.1.2
  have hTMc := TMc_of h m_q r_q
  have hTMm := TMm_of h m_rr r_rr
  have hTPn := hTP
  have hTMn := TMn_of h hTMc
  have hTQn := hTQ
  have hCb := CS_le h m_q r_q
  refine lv_aload_n F.1 F.2.1 dL_law_1258 rfl (lv_at hl 2 rfl) ?_
  refine lv_aload_n F.1 F.2.1 dL_law_1259 rfl (lv_at hl 3 rfl) ?_
  refine lv_iload_n F.1 F.2.1 dL_law_1260 rfl (lv_at hl 0 rfl) ?_
  refine tw_iconst F dL_law_1261 ki_1 (fun z1 hz1 => ?_)
  refine tu_iadd F dL_law_1262 (by omega) (fun z2 hz2 => ?_)
  refine va_sld F.1 F.2.1 hX0 hbl hbA h.dd.2.2 (tw_in (by omega) (by omega)) dL_law_1263 ?_
  refine lv_topi (fun z3 qz3 => ?_)
  refine lv_i2l F.1 F.2.1 dL_law_1264 rfl ?_
  refine lv_topl (fun z4 qz4 => ?_)
  refine tw_bipush F dL_law_1265 kb_32 (fun z5 hz5 => ?_)
  refine lv_lshl F.1 F.2.1 dL_law_1267 rfl ?_
  refine lv_topl (fun z6 qz6 => ?_)
  refine lv_aload_n F.1 F.2.1 dL_law_1268 rfl (lv_at hl 3 rfl) ?_
  refine lv_iload_n F.1 F.2.1 dL_law_1269 rfl (lv_at hl 0 rfl) ?_
  refine tw_iconst F dL_law_1270 ki_2 (fun z7 hz7 => ?_)
  refine tu_iadd F dL_law_1271 (by omega) (fun z8 hz8 => ?_)
  refine va_sld F.1 F.2.1 hX0 hbl hbA h.dd.2.2 (tw_in (by omega) (by omega)) dL_law_1272 ?_
  refine lv_topi (fun z9 qz9 => ?_)
  refine lv_i2l F.1 F.2.1 dL_law_1273 rfl ?_
  refine lv_topl (fun z10 qz10 => ?_)
  refine lv_ldc2 F.1 F.2.1 F.2.2.2.1 (F.2.2.2.2 _ mw_6) dL_law_1274 ?_
  refine lv_topl (fun z11 qz11 => ?_)
  refine lv_land F.1 F.2.1 dL_law_1277 ?_
  refine lv_topl (fun z12 qz12 => ?_)
  refine lv_lor F.1 F.2.1 dL_law_1278 ?_
  refine lv_topl (fun z13 qz13 => ?_)
  refine lv_aload_n F.1 F.2.1 dL_law_1279 rfl (lv_at hl 3 rfl) ?_
  refine lv_iload_n F.1 F.2.1 dL_law_1280 rfl (lv_at hl 0 rfl) ?_
  refine tw_iconst F dL_law_1281 ki_3 (fun z14 hz14 => ?_)
  refine tu_iadd F dL_law_1282 (by omega) (fun z15 hz15 => ?_)
  refine va_sld F.1 F.2.1 hX0 hbl hbA h.dd.2.2 (tw_in (by omega) (by omega)) dL_law_1283 ?_
  refine lv_topi (fun z16 qz16 => ?_)
  refine lv_i2l F.1 F.2.1 dL_law_1284 rfl ?_
  refine lv_topl (fun z17 qz17 => ?_)
  refine tw_bipush F dL_law_1285 kb_32 (fun z18 hz18 => ?_)
  obtain rfl : z5 = z18 := Int32.toInt_inj.mp (by omega)
  refine lv_lshl F.1 F.2.1 dL_law_1287 rfl ?_
  refine lv_topl (fun z19 qz19 => ?_)
  refine lv_aload_n F.1 F.2.1 dL_law_1288 rfl (lv_at hl 3 rfl) ?_
  refine lv_iload_n F.1 F.2.1 dL_law_1289 rfl (lv_at hl 0 rfl) ?_
  refine tw_iconst F dL_law_1290 ki_4 (fun z20 hz20 => ?_)
  refine tu_iadd F dL_law_1291 (by omega) (fun z21 hz21 => ?_)
  refine va_sld F.1 F.2.1 hX0 hbl hbA h.dd.2.2 (tw_in (by omega) (by omega)) dL_law_1292 ?_
  refine lv_topi (fun z22 qz22 => ?_)
  refine lv_i2l F.1 F.2.1 dL_law_1293 rfl ?_
  refine lv_topl (fun z23 qz23 => ?_)
  refine lv_ldc2 F.1 F.2.1 F.2.2.2.1 (F.2.2.2.2 _ mw_6) dL_law_1294 ?_
  refine lv_topl (fun z24 qz24 => ?_)
  obtain rfl : z11 = z24 := by rw [qz11, qz24]
  refine lv_land F.1 F.2.1 dL_law_1297 ?_
  refine lv_topl (fun z25 qz25 => ?_)
  refine lv_lor F.1 F.2.1 dL_law_1298 ?_
  refine lv_topl (fun z26 qz26 => ?_)
  refine tw_Vi (As := [.long z13, .long z26]) F hZ h yk_X11_broken mw_1325 mw_1326 mw_1327 (s_X11_broken l D cy L R O f0 q m_q r_q z13 z26) rfl rfl m_q r_q (fun e q => (T_11 e).mp q) rfl hl.1 rfl (Nat.le_of_ble_eq_true rfl) ⟨Nat.le_of_ble_eq_true rfl, Nat.le_of_ble_eq_true rfl⟩ ⟨hcs, hsl⟩ dL_law_1299 (fun v28 f27 H locs hp27 h => ?_)
  have hf27 := hp27
  have en29a := TNa hTMc hf27 m_q r_q (by decide +kernel) (by decide +kernel) (by decide +kernel)
  have en29c := TNc hTMc hTMn hf27 m_q r_q (by decide +kernel) (by decide +kernel) (by decide +kernel) (by decide +kernel)
  have en29m := TNm t_GT m_GT r_GT hf27 m_rr r_rr (by decide +kernel) (by decide +kernel)
  have et30p := TRp hTMc hf27 m_q r_q (by decide +kernel) (by decide +kernel)
  have et30c := TRc hTMc hf27 m_q r_q (by decide +kernel) (by decide +kernel) (by decide +kernel) (by decide +kernel)
  have et30m := TRm hTMm hf27 m_rr r_rr (by decide +kernel) (by decide +kernel) (by decide +kernel) (by decide +kernel)
  have hTPn : ∀ i, i < 4 → P (trs f27 q i) = i := fun i hi => by rw [et30p i]; exact hTPn i hi
  have hTMc := TMc_of h m_q r_q
  have hTMm := TMm_of h m_rr r_rr
  have hTQn : ∀ i, i < 4 → P (rfa f27 (trs f27 q i) 0) = i := fun i hi => by rw [en29a i hi]; exact hTQn i hi
  have hTMn := TMn_of h hTMc
  have hI : INV L R O P f27 q := hI.most m_q r_q hf27 (by decide +kernel) (by decide +kernel) (by decide +kernel) (by decide +kernel) (by decide +kernel)
  have t_GA : fld f27 rr 0 = .ref GA := (hf27.efl m_rr r_rr (by decide +kernel)).trans t_GA
  have t_GP : fld f27 rr 22 = .ref GP := (hf27.efl m_rr r_rr (by decide +kernel)).trans t_GP
  have t_GL : fld f27 rr 23 = .ref GL := (hf27.efl m_rr r_rr (by decide +kernel)).trans t_GL
  have t_GT : fld f27 rr 6 = .ref GT := (hf27.efl m_rr r_rr (by decide +kernel)).trans t_GT
  have hR : RBA GA f27 := hR.fm hf27 m_GA r_GA (by decide +kernel)
  have hX : GZ GP GL f27 := hX.fm hf27 m_GP r_GP m_GL r_GL (by decide +kernel) (by decide +kernel)
  have hP : fld f27 (rfa f27 q 6) 16 = V := by rw [hf27.erf m_q r_q (by decide +kernel), hf27.efl hs6m hs6r (by decide +kernel)]; exact hP
  have hs6m : rfa f27 q 6 ∈ L := by rw [hf27.erf m_q r_q (by decide +kernel)]; exact hs6m
  have hs6r : R (rfa f27 q 6) = 7 := by rw [hf27.erf m_q r_q (by decide +kernel)]; exact hs6r
  refine lv_pop F.1 F.2.1 dL_law_1302 rfl ?_
  refine lv_aload_n F.1 F.2.1 dL_law_1303 rfl (lv_at hl 1 rfl) ?_
  refine lv_aload_n F.1 F.2.1 dL_law_1304 rfl (lv_at hl 3 rfl) ?_
  refine lv_iload_n F.1 F.2.1 dL_law_1305 rfl (lv_at hl 0 rfl) ?_
  refine tw_iconst F dL_law_1306 ki_1 (fun z31 hz31 => ?_)
  refine tu_iadd F dL_law_1307 (by omega) (fun z32 hz32 => ?_)
  refine va_sld F.1 F.2.1 hX0 hbl hbA h.dd.2.2 (tw_in (by omega) (by omega)) dL_law_1308 ?_
  refine lv_topi (fun z33 qz33 => ?_)
  obtain rfl : z3 = z33 := by rw [qz3, qz33, show z2 = z32 from Int32.toInt_inj.mp (by omega)]
  refine lv_i2l F.1 F.2.1 dL_law_1309 rfl ?_
  refine lv_topl (fun z34 qz34 => ?_)
  obtain rfl : z4 = z34 := by rw [qz4, qz34]
  refine tw_bipush F dL_law_1310 kb_32 (fun z35 hz35 => ?_)
  obtain rfl : z5 = z35 := Int32.toInt_inj.mp (by omega)
  refine lv_lshl F.1 F.2.1 dL_law_1312 rfl ?_
  refine lv_topl (fun z36 qz36 => ?_)
  obtain rfl : z6 = z36 := by rw [qz6, qz36]
  refine lv_aload_n F.1 F.2.1 dL_law_1313 rfl (lv_at hl 3 rfl) ?_
  refine lv_iload_n F.1 F.2.1 dL_law_1314 rfl (lv_at hl 0 rfl) ?_
  refine tw_iconst F dL_law_1315 ki_2 (fun z37 hz37 => ?_)
  refine tu_iadd F dL_law_1316 (by omega) (fun z38 hz38 => ?_)
  refine va_sld F.1 F.2.1 hX0 hbl hbA h.dd.2.2 (tw_in (by omega) (by omega)) dL_law_1317 ?_
  refine lv_topi (fun z39 qz39 => ?_)
  obtain rfl : z9 = z39 := by rw [qz9, qz39, show z8 = z38 from Int32.toInt_inj.mp (by omega)]
  refine lv_i2l F.1 F.2.1 dL_law_1318 rfl ?_
  refine lv_topl (fun z40 qz40 => ?_)
  obtain rfl : z10 = z40 := by rw [qz10, qz40]
  refine lv_ldc2 F.1 F.2.1 F.2.2.2.1 (F.2.2.2.2 _ mw_6) dL_law_1319 ?_
  refine lv_topl (fun z41 qz41 => ?_)
  obtain rfl : z11 = z41 := by rw [qz11, qz41]
  refine lv_land F.1 F.2.1 dL_law_1322 ?_
  refine lv_topl (fun z42 qz42 => ?_)
  obtain rfl : z12 = z42 := by rw [qz12, qz42]
  refine lv_lor F.1 F.2.1 dL_law_1323 ?_
  refine lv_topl (fun z43 qz43 => ?_)
  obtain rfl : z13 = z43 := by rw [qz13, qz43]
  refine lv_aload_n F.1 F.2.1 dL_law_1324 rfl (lv_at hl 3 rfl) ?_
  refine lv_iload_n F.1 F.2.1 dL_law_1325 rfl (lv_at hl 0 rfl) ?_
  refine tw_iconst F dL_law_1326 ki_3 (fun z44 hz44 => ?_)
  refine tu_iadd F dL_law_1327 (by omega) (fun z45 hz45 => ?_)
  refine va_sld F.1 F.2.1 hX0 hbl hbA h.dd.2.2 (tw_in (by omega) (by omega)) dL_law_1328 ?_
  refine lv_topi (fun z46 qz46 => ?_)
  obtain rfl : z16 = z46 := by rw [qz16, qz46, show z15 = z45 from Int32.toInt_inj.mp (by omega)]
  refine lv_i2l F.1 F.2.1 dL_law_1329 rfl ?_
  refine lv_topl (fun z47 qz47 => ?_)
  obtain rfl : z17 = z47 := by rw [qz17, qz47]
  refine tw_bipush F dL_law_1330 kb_32 (fun z48 hz48 => ?_)
  obtain rfl : z5 = z48 := Int32.toInt_inj.mp (by omega)
  refine lv_lshl F.1 F.2.1 dL_law_1332 rfl ?_
  refine lv_topl (fun z49 qz49 => ?_)
  obtain rfl : z19 = z49 := by rw [qz19, qz49]
  refine lv_aload_n F.1 F.2.1 dL_law_1333 rfl (lv_at hl 3 rfl) ?_
  refine lv_iload_n F.1 F.2.1 dL_law_1334 rfl (lv_at hl 0 rfl) ?_
  refine tw_iconst F dL_law_1335 ki_4 (fun z50 hz50 => ?_)
  refine tu_iadd F dL_law_1336 (by omega) (fun z51 hz51 => ?_)
  refine va_sld F.1 F.2.1 hX0 hbl hbA h.dd.2.2 (tw_in (by omega) (by omega)) dL_law_1337 ?_
  refine lv_topi (fun z52 qz52 => ?_)
  obtain rfl : z22 = z52 := by rw [qz22, qz52, show z21 = z51 from Int32.toInt_inj.mp (by omega)]
  refine lv_i2l F.1 F.2.1 dL_law_1338 rfl ?_
  refine lv_topl (fun z53 qz53 => ?_)
  obtain rfl : z23 = z53 := by rw [qz23, qz53]
  refine lv_ldc2 F.1 F.2.1 F.2.2.2.1 (F.2.2.2.2 _ mw_6) dL_law_1339 ?_
  refine lv_topl (fun z54 qz54 => ?_)
  obtain rfl : z11 = z54 := by rw [qz11, qz54]
  refine lv_land F.1 F.2.1 dL_law_1342 ?_
  refine lv_topl (fun z55 qz55 => ?_)
  obtain rfl : z25 = z55 := by rw [qz25, qz55]
  refine lv_lor F.1 F.2.1 dL_law_1343 ?_
  refine lv_topl (fun z56 qz56 => ?_)
  obtain rfl : z26 = z56 := by rw [qz26, qz56]
  refine tw_Vi (As := [.long z13, .long z26]) F hZ h yk_X12_broken mw_1333 mw_1334 mw_1335 (s_X12_broken l D cy L R O f27 rr m_rr r_rr z13 z26 GA m_GA r_GA t_GA GP m_GP r_GP t_GP GL m_GL r_GL t_GL GT m_GT r_GT t_GT hR hX) rfl rfl m_rr r_rr (fun e q => (T_12 e).mp q) rfl hl.1 rfl (Nat.le_of_ble_eq_true rfl) ⟨Nat.le_of_ble_eq_true rfl, Nat.le_of_ble_eq_true rfl⟩ ⟨hcs, hsl⟩ dL_law_1344 (fun v58 f57 H locs hp57 h => ?_)
  obtain ⟨hf57, hv58p0, hv58p1⟩ := hp57
  have en59a := TNa hTMc hf57 m_q r_q (by decide +kernel) (by decide +kernel) (by decide +kernel)
  have en59c := TNc hTMc hTMn hf57 m_q r_q (by decide +kernel) (by decide +kernel) (by decide +kernel) (by decide +kernel)
  have en59m := TNm t_GT m_GT r_GT hf57 m_rr r_rr (by decide +kernel) (by decide +kernel)
  have et60p := TRp hTMc hf57 m_q r_q (by decide +kernel) (by decide +kernel)
  have et60c := TRc hTMc hf57 m_q r_q (by decide +kernel) (by decide +kernel) (by decide +kernel) (by decide +kernel)
  have et60m := TRm hTMm hf57 m_rr r_rr (by decide +kernel) (by decide +kernel) (by decide +kernel) (by decide +kernel)
  have hTPn : ∀ i, i < 4 → P (trs f57 q i) = i := fun i hi => by rw [et60p i]; exact hTPn i hi
  have hTMc := TMc_of h m_q r_q
  have hTMm := TMm_of h m_rr r_rr
  have hTQn : ∀ i, i < 4 → P (rfa f57 (trs f57 q i) 0) = i := fun i hi => by rw [en59a i hi]; exact hTQn i hi
  have hTMn := TMn_of h hTMc
  have hI : INV L R O P f57 q := hI.most m_q r_q hf57 (by decide +kernel) (by decide +kernel) (by decide +kernel) (by decide +kernel) (by decide +kernel)
  have t_GA : fld f57 rr 0 = .ref GA := (hf57.efl m_rr r_rr (by decide +kernel)).trans t_GA
  have t_GP : fld f57 rr 22 = .ref GP := (hf57.efl m_rr r_rr (by decide +kernel)).trans t_GP
  have t_GL : fld f57 rr 23 = .ref GL := (hf57.efl m_rr r_rr (by decide +kernel)).trans t_GL
  have t_GT : fld f57 rr 6 = .ref GT := (hf57.efl m_rr r_rr (by decide +kernel)).trans t_GT
  have hR : RBA GA f57 := hv58p0
  have hX : GZ GP GL f57 := hX.fm hf57 m_GP r_GP m_GL r_GL (by decide +kernel) (by decide +kernel)
  have hP : fld f57 (rfa f57 q 6) 16 = V := by rw [hf57.erf m_q r_q (by decide +kernel), hf57.efl hs6m hs6r (by decide +kernel)]; exact hP
  have hs6m : rfa f57 q 6 ∈ L := by rw [hf57.erf m_q r_q (by decide +kernel)]; exact hs6m
  have hs6r : R (rfa f57 q 6) = 7 := by rw [hf57.erf m_q r_q (by decide +kernel)]; exact hs6r
  refine lv_pop F.1 F.2.1 dL_law_1347 rfl ?_
  refine lv_goto (tgt := 1756) F.1 F.2.1 dL_law_1348 (by decide) ?_
  exact kk f57 _ _ _ ⟨h, hI, ⟨t_GA, t_GP, t_GL, t_GT⟩, hR, hX, hP, hTPn, fun i hi => by have q0 := hTR i hi; have q1 := et30c i hi; have q2 := et30m i; have q3 := et60c i hi; have q4 := et60m i; omega, hTQn, fun i hi j hj => by have q0 := hTR i hi; have q1 := et30c i hi; have q2 := et30m i; have q3 := et60c i hi; have q4 := et60m i; have qb := hCb i hi; have hj6 : j < 60 := (by omega); have n0 := hNR i hi j; have n1 := en29c i hi j; have n2 := en29m i j; have n3 := en59c i hi j; have n4 := en59m i j; omega⟩ hl
theorem dL_law_1351 : decode cL_law 1351 = .ok (.aload_n 1, 1) := by decide +kernel
theorem dL_law_1352 : decode cL_law 1352 = .ok (.aload_n 0, 1) := by decide +kernel
theorem dL_law_1353 : decode cL_law 1353 = .ok (.iload_n 3, 1) := by decide +kernel
theorem dL_law_1354 : decode cL_law 1354 = .ok (.iconst 1, 1) := by decide +kernel
theorem dL_law_1355 : decode cL_law 1355 = .ok (.iadd, 1) := by decide +kernel
theorem dL_law_1356 : decode cL_law 1356 = .ok (.iaload, 1) := by decide +kernel
theorem dL_law_1357 : decode cL_law 1357 = .ok (.aload_n 0, 1) := by decide +kernel
theorem dL_law_1358 : decode cL_law 1358 = .ok (.iload_n 3, 1) := by decide +kernel
theorem dL_law_1359 : decode cL_law 1359 = .ok (.iconst 2, 1) := by decide +kernel
theorem dL_law_1360 : decode cL_law 1360 = .ok (.iadd, 1) := by decide +kernel
theorem dL_law_1361 : decode cL_law 1361 = .ok (.iaload, 1) := by decide +kernel
theorem dL_law_1362 : decode cL_law 1362 = .ok (.aload_n 0, 1) := by decide +kernel
theorem dL_law_1363 : decode cL_law 1363 = .ok (.iload_n 3, 1) := by decide +kernel
theorem dL_law_1364 : decode cL_law 1364 = .ok (.iconst 3, 1) := by decide +kernel
theorem dL_law_1365 : decode cL_law 1365 = .ok (.iadd, 1) := by decide +kernel
theorem dL_law_1366 : decode cL_law 1366 = .ok (.iaload, 1) := by decide +kernel
theorem dL_law_1367 : decode cL_law 1367 = .ok (.invokevirtual 151, 3) := by decide +kernel
theorem mw_1337 : Cond.methodLink RL 151 yX11_broke ∈ wsL_law := inr_56 _ (List.mem_of_getElem? (i := 17) rfl)
theorem mw_1340 : Cond.code yX11_broke cX11_broke 5 (some .int) ∈ wsL_law := inr_56 _ (List.mem_of_getElem? (i := 20) rfl)
theorem yk_X11_broke : xY yX11_broke RX11 cX11_broke 5 (some .int) 3 := ⟨⟨rfl, by decide +kernel, by decide +kernel, by decide +kernel⟩, mw_2, mw_1340⟩
theorem mw_1338 : Cond.instanceMethod yX11_broke ∈ wsL_law := inr_56 _ (List.mem_of_getElem? (i := 18) rfl)
theorem mw_1339 : Cond.selects RX11 yX11_broke yX11_broke ∈ wsL_law := inr_56 _ (List.mem_of_getElem? (i := 19) rfl)
theorem dL_law_1370 : decode cL_law 1370 = .ok (.pop, 1) := by decide +kernel
theorem dL_law_1371 : decode cL_law 1371 = .ok (.aload_n 2, 1) := by decide +kernel
theorem dL_law_1372 : decode cL_law 1372 = .ok (.aload_n 0, 1) := by decide +kernel
theorem dL_law_1373 : decode cL_law 1373 = .ok (.iload_n 3, 1) := by decide +kernel
theorem dL_law_1374 : decode cL_law 1374 = .ok (.iconst 1, 1) := by decide +kernel
theorem dL_law_1375 : decode cL_law 1375 = .ok (.iadd, 1) := by decide +kernel
theorem dL_law_1376 : decode cL_law 1376 = .ok (.iaload, 1) := by decide +kernel
theorem dL_law_1377 : decode cL_law 1377 = .ok (.aload_n 0, 1) := by decide +kernel
theorem dL_law_1378 : decode cL_law 1378 = .ok (.iload_n 3, 1) := by decide +kernel
theorem dL_law_1379 : decode cL_law 1379 = .ok (.iconst 2, 1) := by decide +kernel
theorem dL_law_1380 : decode cL_law 1380 = .ok (.iadd, 1) := by decide +kernel
theorem dL_law_1381 : decode cL_law 1381 = .ok (.iaload, 1) := by decide +kernel
theorem dL_law_1382 : decode cL_law 1382 = .ok (.aload_n 0, 1) := by decide +kernel
theorem dL_law_1383 : decode cL_law 1383 = .ok (.iload_n 3, 1) := by decide +kernel
theorem dL_law_1384 : decode cL_law 1384 = .ok (.iconst 3, 1) := by decide +kernel
theorem dL_law_1385 : decode cL_law 1385 = .ok (.iadd, 1) := by decide +kernel
theorem dL_law_1386 : decode cL_law 1386 = .ok (.iaload, 1) := by decide +kernel
theorem dL_law_1387 : decode cL_law 1387 = .ok (.invokevirtual 154, 3) := by decide +kernel
theorem mw_1351 : Cond.methodLink RL 154 yX12_broke ∈ wsL_law := inr_57 _ (List.mem_of_getElem? (i := 7) rfl)
theorem mw_1354 : Cond.code yX12_broke cX12_broke 5 (some .int) ∈ wsL_law := inr_57 _ (List.mem_of_getElem? (i := 10) rfl)
theorem yk_X12_broke : xY yX12_broke RX12 cX12_broke 5 (some .int) 3 := ⟨⟨rfl, by decide +kernel, by decide +kernel, by decide +kernel⟩, mw_5, mw_1354⟩
theorem mw_1352 : Cond.instanceMethod yX12_broke ∈ wsL_law := inr_57 _ (List.mem_of_getElem? (i := 8) rfl)
theorem mw_1353 : Cond.selects RX12 yX12_broke yX12_broke ∈ wsL_law := inr_57 _ (List.mem_of_getElem? (i := 9) rfl)
theorem dL_law_1390 : decode cL_law 1390 = .ok (.pop, 1) := by decide +kernel
theorem dL_law_1391 : decode cL_law 1391 = .ok (.goto 365, 3) := by decide +kernel
set_option maxHeartbeats 4000000 in
set_option maxRecDepth 100000 in
theorem law_c30 {p : Program} {l : Launch} {e : Env} {s : State} {m : MethodId} {below : List Frame} {meth : Method} {c : Code} {H : Heap} {locs : List Loc} {Q : State → Prop} {D : va_G} {cy : Nat → ClassId} {A : Nat → Prop} {L : List Nat} {R O P : Nat → Nat} {f0 : Nat → va_E} {ls : Array Slot} {b N cs sl q rr GA GP GL GT : Nat} {xs : Nat → Int32} {V : Value} (F : CallFix p m c cL_law 4 s #[Value.ref b] wsL_law RL) (hZ : tZ A s s.heap) (hX0 : va_X b N xs s s.heap) (hbl : b < s.heap.size) (hbA : ¬ A b) (hcs : cs ≤ room_1.cells) (hsl : sl ≤ room_1.slots) (i : Int32) (bi : 0 ≤ i.toInt ∧ i.toInt + 6 ≤ N ∧ N ≤ 3072) (m_q : q ∈ L) (r_q : R q = 11) (m_rr : rr ∈ L) (r_rr : R rr = 12) (m_GA : GA ∈ L) (r_GA : R GA = 61) (m_GP : GP ∈ L) (r_GP : R GP = 69) (m_GL : GL ∈ L) (r_GL : R GL = 70) (m_GT : GT ∈ L) (r_GT : R GT = 64) (hLS : LWS D cy A s L R O P q rr GA GP GL GT V f0 H locs) (hl : lv_has ls 4 [(3, .int i), (2, .ref rr), (1, .ref q), (0, .ref b)]) (kk : ∀ (f1 : Nat → va_E) (H : Heap) (locs : List Loc) (ls : Array Slot), LWS D cy A s L R O P q rr GA GP GL GT V f1 H locs → lv_has ls 4 [(3, .int i), (2, .ref rr), (1, .ref q), (0, .ref b)] → W p l e room_1 s m #[Value.ref b] below meth c H locs cs sl Q (F0 m 1756 ls [])) : W p l e room_1 s m #[Value.ref b] below meth c H locs cs sl Q (F0 m 1351 ls []) := by
  obtain ⟨h, hI, ⟨t_GA, t_GP, t_GL, t_GT⟩, hR, hX, hP, hTP, hTR, hTQ, hNR⟩ := hLS
  have hs6m := hI.2.2.1.1
  have hs6r := hI.2.2.1.2
  have hTMc := TMc_of h m_q r_q
  have hTMm := TMm_of h m_rr r_rr
  have hTPn := hTP
  have hTMn := TMn_of h hTMc
  have hTQn := hTQ
  have hCb := CS_le h m_q r_q
  refine lv_aload_n F.1 F.2.1 dL_law_1351 rfl (lv_at hl 2 rfl) ?_
  refine lv_aload_n F.1 F.2.1 dL_law_1352 rfl (lv_at hl 3 rfl) ?_
  refine lv_iload_n F.1 F.2.1 dL_law_1353 rfl (lv_at hl 0 rfl) ?_
  refine tw_iconst F dL_law_1354 ki_1 (fun z1 hz1 => ?_)
  refine tu_iadd F dL_law_1355 (by omega) (fun z2 hz2 => ?_)
  refine va_sld F.1 F.2.1 hX0 hbl hbA h.dd.2.2 (tw_in (by omega) (by omega)) dL_law_1356 ?_
  refine lv_topi (fun z3 qz3 => ?_)
  refine lv_aload_n F.1 F.2.1 dL_law_1357 rfl (lv_at hl 3 rfl) ?_
  refine lv_iload_n F.1 F.2.1 dL_law_1358 rfl (lv_at hl 0 rfl) ?_
  refine tw_iconst F dL_law_1359 ki_2 (fun z4 hz4 => ?_)
  refine tu_iadd F dL_law_1360 (by omega) (fun z5 hz5 => ?_)
  refine va_sld F.1 F.2.1 hX0 hbl hbA h.dd.2.2 (tw_in (by omega) (by omega)) dL_law_1361 ?_
  refine lv_topi (fun z6 qz6 => ?_)
  refine lv_aload_n F.1 F.2.1 dL_law_1362 rfl (lv_at hl 3 rfl) ?_
  refine lv_iload_n F.1 F.2.1 dL_law_1363 rfl (lv_at hl 0 rfl) ?_
  refine tw_iconst F dL_law_1364 ki_3 (fun z7 hz7 => ?_)
  refine tu_iadd F dL_law_1365 (by omega) (fun z8 hz8 => ?_)
  refine va_sld F.1 F.2.1 hX0 hbl hbA h.dd.2.2 (tw_in (by omega) (by omega)) dL_law_1366 ?_
  refine lv_topi (fun z9 qz9 => ?_)
  refine tw_Vi (As := [.int z3, .int z6, .int z9]) F hZ h yk_X11_broke mw_1337 mw_1338 mw_1339 (s_X11_broke l D cy L R O f0 hI.2.2.2.1 q m_q r_q z3 z6 z9 hI.pi) rfl rfl m_q r_q (fun e q => (T_11 e).mp q) rfl hl.1 rfl (Nat.le_of_ble_eq_true rfl) ⟨Nat.le_of_ble_eq_true rfl, Nat.le_of_ble_eq_true rfl⟩ ⟨hcs, hsl⟩ dL_law_1367 (fun v11 f10 H locs hp10 h => ?_)
  obtain ⟨hf10, hv11p0⟩ := hp10
  have en12a := TNa hTMc hf10 m_q r_q (by decide +kernel) (by decide +kernel) (by decide +kernel)
  have en12c := TNc hTMc hTMn hf10 m_q r_q (by decide +kernel) (by decide +kernel) (by decide +kernel) (by decide +kernel)
  have en12m := TNm t_GT m_GT r_GT hf10 m_rr r_rr (by decide +kernel) (by decide +kernel)
  have et13p := TRp hTMc hf10 m_q r_q (by decide +kernel) (by decide +kernel)
  have et13c := TRc hTMc hf10 m_q r_q (by decide +kernel) (by decide +kernel) (by decide +kernel) (by decide +kernel)
  have et13m := TRm hTMm hf10 m_rr r_rr (by decide +kernel) (by decide +kernel) (by decide +kernel) (by decide +kernel)
  have hTPn : ∀ i, i < 4 → P (trs f10 q i) = i := fun i hi => by rw [et13p i]; exact hTPn i hi
  have hTMc := TMc_of h m_q r_q
  have hTMm := TMm_of h m_rr r_rr
  have hTQn : ∀ i, i < 4 → P (rfa f10 (trs f10 q i) 0) = i := fun i hi => by rw [en12a i hi]; exact hTQn i hi
  have hTMn := TMn_of h hTMc
  have hI : INV L R O P f10 q := hI.ko m_q r_q hf10 (by decide +kernel) (by decide +kernel) (by decide +kernel) (by decide +kernel) hv11p0
  have t_GA : fld f10 rr 0 = .ref GA := (hf10.efl m_rr r_rr (by decide +kernel)).trans t_GA
  have t_GP : fld f10 rr 22 = .ref GP := (hf10.efl m_rr r_rr (by decide +kernel)).trans t_GP
  have t_GL : fld f10 rr 23 = .ref GL := (hf10.efl m_rr r_rr (by decide +kernel)).trans t_GL
  have t_GT : fld f10 rr 6 = .ref GT := (hf10.efl m_rr r_rr (by decide +kernel)).trans t_GT
  have hR : RBA GA f10 := hR.fm hf10 m_GA r_GA (by decide +kernel)
  have hX : GZ GP GL f10 := hX.fm hf10 m_GP r_GP m_GL r_GL (by decide +kernel) (by decide +kernel)
  have hP : fld f10 (rfa f10 q 6) 16 = V := by rw [hf10.erf m_q r_q (by decide +kernel), hf10.efl hs6m hs6r (by decide +kernel)]; exact hP
  have hs6m : rfa f10 q 6 ∈ L := by rw [hf10.erf m_q r_q (by decide +kernel)]; exact hs6m
  have hs6r : R (rfa f10 q 6) = 7 := by rw [hf10.erf m_q r_q (by decide +kernel)]; exact hs6r
  refine lv_pop F.1 F.2.1 dL_law_1370 rfl ?_
  refine lv_aload_n F.1 F.2.1 dL_law_1371 rfl (lv_at hl 1 rfl) ?_
  refine lv_aload_n F.1 F.2.1 dL_law_1372 rfl (lv_at hl 3 rfl) ?_
  refine lv_iload_n F.1 F.2.1 dL_law_1373 rfl (lv_at hl 0 rfl) ?_
  refine tw_iconst F dL_law_1374 ki_1 (fun z14 hz14 => ?_)
  refine tu_iadd F dL_law_1375 (by omega) (fun z15 hz15 => ?_)
  refine va_sld F.1 F.2.1 hX0 hbl hbA h.dd.2.2 (tw_in (by omega) (by omega)) dL_law_1376 ?_
  refine lv_topi (fun z16 qz16 => ?_)
  obtain rfl : z3 = z16 := by rw [qz3, qz16, show z2 = z15 from Int32.toInt_inj.mp (by omega)]
  refine lv_aload_n F.1 F.2.1 dL_law_1377 rfl (lv_at hl 3 rfl) ?_
  refine lv_iload_n F.1 F.2.1 dL_law_1378 rfl (lv_at hl 0 rfl) ?_
  refine tw_iconst F dL_law_1379 ki_2 (fun z17 hz17 => ?_)
  refine tu_iadd F dL_law_1380 (by omega) (fun z18 hz18 => ?_)
  refine va_sld F.1 F.2.1 hX0 hbl hbA h.dd.2.2 (tw_in (by omega) (by omega)) dL_law_1381 ?_
  refine lv_topi (fun z19 qz19 => ?_)
  obtain rfl : z6 = z19 := by rw [qz6, qz19, show z5 = z18 from Int32.toInt_inj.mp (by omega)]
  refine lv_aload_n F.1 F.2.1 dL_law_1382 rfl (lv_at hl 3 rfl) ?_
  refine lv_iload_n F.1 F.2.1 dL_law_1383 rfl (lv_at hl 0 rfl) ?_
  refine tw_iconst F dL_law_1384 ki_3 (fun z20 hz20 => ?_)
  refine tu_iadd F dL_law_1385 (by omega) (fun z21 hz21 => ?_)
  refine va_sld F.1 F.2.1 hX0 hbl hbA h.dd.2.2 (tw_in (by omega) (by omega)) dL_law_1386 ?_
  refine lv_topi (fun z22 qz22 => ?_)
  obtain rfl : z9 = z22 := by rw [qz9, qz22, show z8 = z21 from Int32.toInt_inj.mp (by omega)]
  refine tw_Vi (As := [.int z3, .int z6, .int z9]) F hZ h yk_X12_broke mw_1351 mw_1352 mw_1353 (s_X12_broke l D cy L R O f10 rr m_rr r_rr z3 z6 z9 GA m_GA r_GA t_GA GP m_GP r_GP t_GP GL m_GL r_GL t_GL GT m_GT r_GT t_GT hR hX) rfl rfl m_rr r_rr (fun e q => (T_12 e).mp q) rfl hl.1 rfl (Nat.le_of_ble_eq_true rfl) ⟨Nat.le_of_ble_eq_true rfl, Nat.le_of_ble_eq_true rfl⟩ ⟨hcs, hsl⟩ dL_law_1387 (fun v24 f23 H locs hp23 h => ?_)
  obtain ⟨hf23, hv24p0, hv24p1⟩ := hp23
  have en25a := TNa hTMc hf23 m_q r_q (by decide +kernel) (by decide +kernel) (by decide +kernel)
  have en25c := TNc hTMc hTMn hf23 m_q r_q (by decide +kernel) (by decide +kernel) (by decide +kernel) (by decide +kernel)
  have en25m := TNm t_GT m_GT r_GT hf23 m_rr r_rr (by decide +kernel) (by decide +kernel)
  have et26p := TRp hTMc hf23 m_q r_q (by decide +kernel) (by decide +kernel)
  have et26c := TRc hTMc hf23 m_q r_q (by decide +kernel) (by decide +kernel) (by decide +kernel) (by decide +kernel)
  have et26m := TRm hTMm hf23 m_rr r_rr (by decide +kernel) (by decide +kernel) (by decide +kernel) (by decide +kernel)
  have hTPn : ∀ i, i < 4 → P (trs f23 q i) = i := fun i hi => by rw [et26p i]; exact hTPn i hi
  have hTMc := TMc_of h m_q r_q
  have hTMm := TMm_of h m_rr r_rr
  have hTQn : ∀ i, i < 4 → P (rfa f23 (trs f23 q i) 0) = i := fun i hi => by rw [en25a i hi]; exact hTQn i hi
  have hTMn := TMn_of h hTMc
  have hI : INV L R O P f23 q := hI.most m_q r_q hf23 (by decide +kernel) (by decide +kernel) (by decide +kernel) (by decide +kernel) (by decide +kernel)
  have t_GA : fld f23 rr 0 = .ref GA := (hf23.efl m_rr r_rr (by decide +kernel)).trans t_GA
  have t_GP : fld f23 rr 22 = .ref GP := (hf23.efl m_rr r_rr (by decide +kernel)).trans t_GP
  have t_GL : fld f23 rr 23 = .ref GL := (hf23.efl m_rr r_rr (by decide +kernel)).trans t_GL
  have t_GT : fld f23 rr 6 = .ref GT := (hf23.efl m_rr r_rr (by decide +kernel)).trans t_GT
  have hR : RBA GA f23 := hv24p0
  have hX : GZ GP GL f23 := hv24p1
  have hP : fld f23 (rfa f23 q 6) 16 = V := by rw [hf23.erf m_q r_q (by decide +kernel), hf23.efl hs6m hs6r (by decide +kernel)]; exact hP
  have hs6m : rfa f23 q 6 ∈ L := by rw [hf23.erf m_q r_q (by decide +kernel)]; exact hs6m
  have hs6r : R (rfa f23 q 6) = 7 := by rw [hf23.erf m_q r_q (by decide +kernel)]; exact hs6r
  refine lv_pop F.1 F.2.1 dL_law_1390 rfl ?_
  refine lv_goto (tgt := 1756) F.1 F.2.1 dL_law_1391 (by decide) ?_
  exact kk f23 _ _ _ ⟨h, hI, ⟨t_GA, t_GP, t_GL, t_GT⟩, hR, hX, hP, hTPn, fun i hi => by have q0 := hTR i hi; have q1 := et13c i hi; have q2 := et13m i; have q3 := et26c i hi; have q4 := et26m i; omega, hTQn, fun i hi j hj => by have q0 := hTR i hi; have q1 := et13c i hi; have q2 := et13m i; have q3 := et26c i hi; have q4 := et26m i; have qb := hCb i hi; have hj6 : j < 60 := (by omega); have n0 := hNR i hi j; have n1 := en12c i hi j; have n2 := en12m i j; have n3 := en25c i hi j; have n4 := en25m i j; omega⟩ hl
