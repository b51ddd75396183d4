theorem dL_law_1394 : decode cL_law 1394 = .ok (.aload_n 1, 1) := by decide +kernel
theorem dL_law_1395 : decode cL_law 1395 = .ok (.aload_n 0, 1) := by decide +kernel
theorem dL_law_1396 : decode cL_law 1396 = .ok (.iload_n 3, 1) := by decide +kernel
theorem dL_law_1397 : decode cL_law 1397 = .ok (.iconst 1, 1) := by decide +kernel
theorem dL_law_1398 : decode cL_law 1398 = .ok (.iadd, 1) := by decide +kernel
theorem dL_law_1399 : decode cL_law 1399 = .ok (.iaload, 1) := by decide +kernel
theorem dL_law_1400 : decode cL_law 1400 = .ok (.aload_n 0, 1) := by decide +kernel
theorem dL_law_1401 : decode cL_law 1401 = .ok (.iload_n 3, 1) := by decide +kernel
theorem dL_law_1402 : decode cL_law 1402 = .ok (.iconst 2, 1) := by decide +kernel
theorem dL_law_1403 : decode cL_law 1403 = .ok (.iadd, 1) := by decide +kernel
theorem dL_law_1404 : decode cL_law 1404 = .ok (.iaload, 1) := by decide +kernel
theorem dL_law_1405 : decode cL_law 1405 = .ok (.aload_n 0, 1) := by decide +kernel
theorem dL_law_1406 : decode cL_law 1406 = .ok (.iload_n 3, 1) := by decide +kernel
theorem dL_law_1407 : decode cL_law 1407 = .ok (.iconst 3, 1) := by decide +kernel
theorem dL_law_1408 : decode cL_law 1408 = .ok (.iadd, 1) := by decide +kernel
theorem dL_law_1409 : decode cL_law 1409 = .ok (.iaload, 1) := by decide +kernel
theorem dL_law_1410 : decode cL_law 1410 = .ok (.aload_n 0, 1) := by decide +kernel
theorem dL_law_1411 : decode cL_law 1411 = .ok (.iload_n 3, 1) := by decide +kernel
theorem dL_law_1412 : decode cL_law 1412 = .ok (.iconst 4, 1) := by decide +kernel
theorem dL_law_1413 : decode cL_law 1413 = .ok (.iadd, 1) := by decide +kernel
theorem dL_law_1414 : decode cL_law 1414 = .ok (.iaload, 1) := by decide +kernel
theorem dL_law_1415 : decode cL_law 1415 = .ok (.invokevirtual 155, 3) := by decide +kernel
theorem mw_1363 : Cond.methodLink RL 155 yX11_mend ∈ wsL_law := inr_57 _ (List.mem_of_getElem? (i := 19) rfl)
theorem mw_1366 : Cond.code yX11_mend cX11_mend 6 (some .int) ∈ wsL_law := inr_57 _ (List.mem_of_getElem? (i := 22) rfl)
theorem yk_X11_mend : xY yX11_mend RX11 cX11_mend 6 (some .int) 4 := ⟨⟨rfl, by decide +kernel, by decide +kernel, by decide +kernel⟩, mw_2, mw_1366⟩
theorem mw_1364 : Cond.instanceMethod yX11_mend ∈ wsL_law := inr_57 _ (List.mem_of_getElem? (i := 20) rfl)
theorem mw_1365 : Cond.selects RX11 yX11_mend yX11_mend ∈ wsL_law := inr_57 _ (List.mem_of_getElem? (i := 21) rfl)
theorem dL_law_1418 : decode cL_law 1418 = .ok (.pop, 1) := by decide +kernel
theorem dL_law_1419 : decode cL_law 1419 = .ok (.aload_n 2, 1) := by decide +kernel
theorem dL_law_1420 : decode cL_law 1420 = .ok (.aload_n 0, 1) := by decide +kernel
theorem dL_law_1421 : decode cL_law 1421 = .ok (.iload_n 3, 1) := by decide +kernel
theorem dL_law_1422 : decode cL_law 1422 = .ok (.iconst 1, 1) := by decide +kernel
theorem dL_law_1423 : decode cL_law 1423 = .ok (.iadd, 1) := by decide +kernel
theorem dL_law_1424 : decode cL_law 1424 = .ok (.iaload, 1) := by decide +kernel
theorem dL_law_1425 : decode cL_law 1425 = .ok (.aload_n 0, 1) := by decide +kernel
theorem dL_law_1426 : decode cL_law 1426 = .ok (.iload_n 3, 1) := by decide +kernel
theorem dL_law_1427 : decode cL_law 1427 = .ok (.iconst 2, 1) := by decide +kernel
theorem dL_law_1428 : decode cL_law 1428 = .ok (.iadd, 1) := by decide +kernel
theorem dL_law_1429 : decode cL_law 1429 = .ok (.iaload, 1) := by decide +kernel
theorem dL_law_1430 : decode cL_law 1430 = .ok (.aload_n 0, 1) := by decide +kernel
theorem dL_law_1431 : decode cL_law 1431 = .ok (.iload_n 3, 1) := by decide +kernel
theorem dL_law_1432 : decode cL_law 1432 = .ok (.iconst 3, 1) := by decide +kernel
theorem dL_law_1433 : decode cL_law 1433 = .ok (.iadd, 1) := by decide +kernel
theorem dL_law_1434 : decode cL_law 1434 = .ok (.iaload, 1) := by decide +kernel
theorem dL_law_1435 : decode cL_law 1435 = .ok (.aload_n 0, 1) := by decide +kernel
theorem dL_law_1436 : decode cL_law 1436 = .ok (.iload_n 3, 1) := by decide +kernel
theorem dL_law_1437 : decode cL_law 1437 = .ok (.iconst 4, 1) := by decide +kernel
theorem dL_law_1438 : decode cL_law 1438 = .ok (.iadd, 1) := by decide +kernel
theorem dL_law_1439 : decode cL_law 1439 = .ok (.iaload, 1) := by decide +kernel
theorem dL_law_1440 : decode cL_law 1440 = .ok (.invokevirtual 158, 3) := by decide +kernel
theorem mw_1384 : Cond.methodLink RL 158 yX12_mend ∈ wsL_law := inr_58 _ (List.mem_of_getElem? (i := 16) rfl)
theorem mw_1387 : Cond.code yX12_mend cX12_mend 10 (some .int) ∈ wsL_law := inr_58 _ (List.mem_of_getElem? (i := 19) rfl)
theorem yk_X12_mend : xY yX12_mend RX12 cX12_mend 10 (some .int) 4 := ⟨⟨rfl, by decide +kernel, by decide +kernel, by decide +kernel⟩, mw_5, mw_1387⟩
theorem mw_1385 : Cond.instanceMethod yX12_mend ∈ wsL_law := inr_58 _ (List.mem_of_getElem? (i := 17) rfl)
theorem mw_1386 : Cond.selects RX12 yX12_mend yX12_mend ∈ wsL_law := inr_58 _ (List.mem_of_getElem? (i := 18) rfl)
theorem dL_law_1443 : decode cL_law 1443 = .ok (.pop, 1) := by decide +kernel
theorem dL_law_1444 : decode cL_law 1444 = .ok (.goto 312, 3) := by decide +kernel
set_option maxHeartbeats 4000000 in
set_option maxRecDepth 100000 in
theorem law_c31 {p : Program} {l : Launch} {e : Env} {s : State} {m : MethodId} {below : List Frame} {meth : Method} {c : Code} {H : Heap} {locs : List Loc} {Q : State → Prop} {D : va_G} {cy : Nat → ClassId} {A : Nat → Prop} {L : List Nat} {R O P : Nat → Nat} {f0 : Nat → va_E} {ls : Array Slot} {b N cs sl q rr GA GP GL GT : Nat} {xs : Nat → Int32} {V : Value} (F : CallFix p m c cL_law 4 s #[Value.ref b] wsL_law RL) (hZ : tZ A s s.heap) (hX0 : va_X b N xs s s.heap) (hbl : b < s.heap.size) (hbA : ¬ A b) (hcs : cs ≤ room_1.cells) (hsl : sl ≤ room_1.slots) (i : Int32) (bi : 0 ≤ i.toInt ∧ i.toInt + 6 ≤ N ∧ N ≤ 3072) (m_q : q ∈ L) (r_q : R q = 11) (m_rr : rr ∈ L) (r_rr : R rr = 12) (m_GA : GA ∈ L) (r_GA : R GA = 61) (m_GP : GP ∈ L) (r_GP : R GP = 69) (m_GL : GL ∈ L) (r_GL : R GL = 70) (m_GT : GT ∈ L) (r_GT : R GT = 64) (hLS : LWS D cy A s L R O P q rr GA GP GL GT V f0 H locs) (hl : lv_has ls 4 [(3, .int i), (2, .ref rr), (1, .ref q), (0, .ref b)]) (kk : ∀ (f1 : Nat → va_E) (H : Heap) (locs : List Loc) (ls : Array Slot), LWS D cy A s L R O P q rr GA GP GL GT V f1 H locs → lv_has ls 4 [(3, .int i), (2, .ref rr), (1, .ref q), (0, .ref b)] → W p l e room_1 s m #[Value.ref b] below meth c H locs cs sl Q (F0 m 1756 ls [])) : W p l e room_1 s m #[Value.ref b] below meth c H locs cs sl Q (F0 m 1394 ls []) := by
  obtain ⟨h, hI, ⟨t_GA, t_GP, t_GL, t_GT⟩, hR, hX, hP, hTP, hTR, hTQ, hNR⟩ := hLS
  have hs6m := hI.2.2.1.1
  have hs6r := hI.2.2.1.2
  have hTMc := TMc_of h m_q r_q
  have hTMm := TMm_of h m_rr r_rr
  have hTPn := hTP
  have hTMn := TMn_of h hTMc
  have hTQn := hTQ
  have hCb := CS_le h m_q r_q
  refine lv_aload_n F.1 F.2.1 dL_law_1394 rfl (lv_at hl 2 rfl) ?_
  refine lv_aload_n F.1 F.2.1 dL_law_1395 rfl (lv_at hl 3 rfl) ?_
  refine lv_iload_n F.1 F.2.1 dL_law_1396 rfl (lv_at hl 0 rfl) ?_
  refine tw_iconst F dL_law_1397 ki_1 (fun z1 hz1 => ?_)
  refine tu_iadd F dL_law_1398 (by omega) (fun z2 hz2 => ?_)
  refine va_sld F.1 F.2.1 hX0 hbl hbA h.dd.2.2 (tw_in (by omega) (by omega)) dL_law_1399 ?_
  refine lv_topi (fun z3 qz3 => ?_)
  refine lv_aload_n F.1 F.2.1 dL_law_1400 rfl (lv_at hl 3 rfl) ?_
  refine lv_iload_n F.1 F.2.1 dL_law_1401 rfl (lv_at hl 0 rfl) ?_
  refine tw_iconst F dL_law_1402 ki_2 (fun z4 hz4 => ?_)
  refine tu_iadd F dL_law_1403 (by omega) (fun z5 hz5 => ?_)
  refine va_sld F.1 F.2.1 hX0 hbl hbA h.dd.2.2 (tw_in (by omega) (by omega)) dL_law_1404 ?_
  refine lv_topi (fun z6 qz6 => ?_)
  refine lv_aload_n F.1 F.2.1 dL_law_1405 rfl (lv_at hl 3 rfl) ?_
  refine lv_iload_n F.1 F.2.1 dL_law_1406 rfl (lv_at hl 0 rfl) ?_
  refine tw_iconst F dL_law_1407 ki_3 (fun z7 hz7 => ?_)
  refine tu_iadd F dL_law_1408 (by omega) (fun z8 hz8 => ?_)
  refine va_sld F.1 F.2.1 hX0 hbl hbA h.dd.2.2 (tw_in (by omega) (by omega)) dL_law_1409 ?_
  refine lv_topi (fun z9 qz9 => ?_)
  refine lv_aload_n F.1 F.2.1 dL_law_1410 rfl (lv_at hl 3 rfl) ?_
  refine lv_iload_n F.1 F.2.1 dL_law_1411 rfl (lv_at hl 0 rfl) ?_
  refine tw_iconst F dL_law_1412 ki_4 (fun z10 hz10 => ?_)
  refine tu_iadd F dL_law_1413 (by omega) (fun z11 hz11 => ?_)
  refine va_sld F.1 F.2.1 hX0 hbl hbA h.dd.2.2 (tw_in (by omega) (by omega)) dL_law_1414 ?_
  refine lv_topi (fun z12 qz12 => ?_)
  refine tw_Vi (As := [.int z3, .int z6, .int z9, .int z12]) F hZ h yk_X11_mend mw_1363 mw_1364 mw_1365 (s_X11_mend l D cy L R O f0 hI.2.2.2.1 q m_q r_q z3 z6 z9 z12 hI.pi) rfl rfl m_q r_q (fun e q => (T_11 e).mp q) rfl hl.1 rfl (Nat.le_of_ble_eq_true rfl) ⟨Nat.le_of_ble_eq_true rfl, Nat.le_of_ble_eq_true rfl⟩ ⟨hcs, hsl⟩ dL_law_1415 (fun v14 f13 H locs hp13 h => ?_)
  obtain ⟨hf13, hv14p0⟩ := hp13
  have en15a := TNa hTMc hf13 m_q r_q (by decide +kernel) (by decide +kernel) (by decide +kernel)
  have en15c := TNc hTMc hTMn hf13 m_q r_q (by decide +kernel) (by decide +kernel) (by decide +kernel) (by decide +kernel)
  have en15m := TNm t_GT m_GT r_GT hf13 m_rr r_rr (by decide +kernel) (by decide +kernel)
  have et16p := TRp hTMc hf13 m_q r_q (by decide +kernel) (by decide +kernel)
  have et16c := TRc hTMc hf13 m_q r_q (by decide +kernel) (by decide +kernel) (by decide +kernel) (by decide +kernel)
  have et16m := TRm hTMm hf13 m_rr r_rr (by decide +kernel) (by decide +kernel) (by decide +kernel) (by decide +kernel)
  have hTPn : ∀ i, i < 4 → P (trs f13 q i) = i := fun i hi => by rw [et16p i]; exact hTPn i hi
  have hTMc := TMc_of h m_q r_q
  have hTMm := TMm_of h m_rr r_rr
  have hTQn : ∀ i, i < 4 → P (rfa f13 (trs f13 q i) 0) = i := fun i hi => by rw [en15a i hi]; exact hTQn i hi
  have hTMn := TMn_of h hTMc
  have hI : INV L R O P f13 q := hI.ko m_q r_q hf13 (by decide +kernel) (by decide +kernel) (by decide +kernel) (by decide +kernel) hv14p0
  have t_GA : fld f13 rr 0 = .ref GA := (hf13.efl m_rr r_rr (by decide +kernel)).trans t_GA
  have t_GP : fld f13 rr 22 = .ref GP := (hf13.efl m_rr r_rr (by decide +kernel)).trans t_GP
  have t_GL : fld f13 rr 23 = .ref GL := (hf13.efl m_rr r_rr (by decide +kernel)).trans t_GL
  have t_GT : fld f13 rr 6 = .ref GT := (hf13.efl m_rr r_rr (by decide +kernel)).trans t_GT
  have hR : RBA GA f13 := hR.fm hf13 m_GA r_GA (by decide +kernel)
  have hX : GZ GP GL f13 := hX.fm hf13 m_GP r_GP m_GL r_GL (by decide +kernel) (by decide +kernel)
  have hP : fld f13 (rfa f13 q 6) 16 = V := by rw [hf13.erf m_q r_q (by decide +kernel), hf13.efl hs6m hs6r (by decide +kernel)]; exact hP
  have hs6m : rfa f13 q 6 ∈ L := by rw [hf13.erf m_q r_q (by decide +kernel)]; exact hs6m
  have hs6r : R (rfa f13 q 6) = 7 := by rw [hf13.erf m_q r_q (by decide +kernel)]; exact hs6r
  refine lv_pop F.1 F.2.1 dL_law_1418 rfl ?_
  refine lv_aload_n F.1 F.2.1 dL_law_1419 rfl (lv_at hl 1 rfl) ?_
  refine lv_aload_n F.1 F.2.1 dL_law_1420 rfl (lv_at hl 3 rfl) ?_
  refine lv_iload_n F.1 F.2.1 dL_law_1421 rfl (lv_at hl 0 rfl) ?_
  refine tw_iconst F dL_law_1422 ki_1 (fun z17 hz17 => ?_)
  refine tu_iadd F dL_law_1423 (by omega) (fun z18 hz18 => ?_)
  refine va_sld F.1 F.2.1 hX0 hbl hbA h.dd.2.2 (tw_in (by omega) (by omega)) dL_law_1424 ?_
  refine lv_topi (fun z19 qz19 => ?_)
  obtain rfl : z3 = z19 := by rw [qz3, qz19, show z2 = z18 from Int32.toInt_inj.mp (by omega)]
  refine lv_aload_n F.1 F.2.1 dL_law_1425 rfl (lv_at hl 3 rfl) ?_
  refine lv_iload_n F.1 F.2.1 dL_law_1426 rfl (lv_at hl 0 rfl) ?_
  refine tw_iconst F dL_law_1427 ki_2 (fun z20 hz20 => ?_)
  refine tu_iadd F dL_law_1428 (by omega) (fun z21 hz21 => ?_)
  refine va_sld F.1 F.2.1 hX0 hbl hbA h.dd.2.2 (tw_in (by omega) (by omega)) dL_law_1429 ?_
  refine lv_topi (fun z22 qz22 => ?_)
  obtain rfl : z6 = z22 := by rw [qz6, qz22, show z5 = z21 from Int32.toInt_inj.mp (by omega)]
  refine lv_aload_n F.1 F.2.1 dL_law_1430 rfl (lv_at hl 3 rfl) ?_
  refine lv_iload_n F.1 F.2.1 dL_law_1431 rfl (lv_at hl 0 rfl) ?_
  refine tw_iconst F dL_law_1432 ki_3 (fun z23 hz23 => ?_)
  refine tu_iadd F dL_law_1433 (by omega) (fun z24 hz24 => ?_)
  refine va_sld F.1 F.2.1 hX0 hbl hbA h.dd.2.2 (tw_in (by omega) (by omega)) dL_law_1434 ?_
  refine lv_topi (fun z25 qz25 => ?_)
  obtain rfl : z9 = z25 := by rw [qz9, qz25, show z8 = z24 from Int32.toInt_inj.mp (by omega)]
  refine lv_aload_n F.1 F.2.1 dL_law_1435 rfl (lv_at hl 3 rfl) ?_
  refine lv_iload_n F.1 F.2.1 dL_law_1436 rfl (lv_at hl 0 rfl) ?_
  refine tw_iconst F dL_law_1437 ki_4 (fun z26 hz26 => ?_)
  refine tu_iadd F dL_law_1438 (by omega) (fun z27 hz27 => ?_)
  refine va_sld F.1 F.2.1 hX0 hbl hbA h.dd.2.2 (tw_in (by omega) (by omega)) dL_law_1439 ?_
  refine lv_topi (fun z28 qz28 => ?_)
  obtain rfl : z12 = z28 := by rw [qz12, qz28, show z11 = z27 from Int32.toInt_inj.mp (by omega)]
  refine tw_Vi (As := [.int z3, .int z6, .int z9, .int z12]) F hZ h yk_X12_mend mw_1384 mw_1385 mw_1386 (s_X12_mend l D cy L R O f13 rr m_rr r_rr z3 z6 z9 z12 GA m_GA r_GA t_GA GP m_GP r_GP t_GP GL m_GL r_GL t_GL GT m_GT r_GT t_GT hR hX) rfl rfl m_rr r_rr (fun e q => (T_12 e).mp q) rfl hl.1 rfl (Nat.le_of_ble_eq_true rfl) ⟨Nat.le_of_ble_eq_true rfl, Nat.le_of_ble_eq_true rfl⟩ ⟨hcs, hsl⟩ dL_law_1440 (fun v30 f29 H locs hp29 h => ?_)
  obtain ⟨hf29, hv30p0, hv30p1⟩ := hp29
  have en31a := TNa hTMc hf29 m_q r_q (by decide +kernel) (by decide +kernel) (by decide +kernel)
  have en31c := TNc hTMc hTMn hf29 m_q r_q (by decide +kernel) (by decide +kernel) (by decide +kernel) (by decide +kernel)
  have en31m := TNm t_GT m_GT r_GT hf29 m_rr r_rr (by decide +kernel) (by decide +kernel)
  have et32p := TRp hTMc hf29 m_q r_q (by decide +kernel) (by decide +kernel)
  have et32c := TRc hTMc hf29 m_q r_q (by decide +kernel) (by decide +kernel) (by decide +kernel) (by decide +kernel)
  have et32m := TRm hTMm hf29 m_rr r_rr (by decide +kernel) (by decide +kernel) (by decide +kernel) (by decide +kernel)
  have hTPn : ∀ i, i < 4 → P (trs f29 q i) = i := fun i hi => by rw [et32p i]; exact hTPn i hi
  have hTMc := TMc_of h m_q r_q
  have hTMm := TMm_of h m_rr r_rr
  have hTQn : ∀ i, i < 4 → P (rfa f29 (trs f29 q i) 0) = i := fun i hi => by rw [en31a i hi]; exact hTQn i hi
  have hTMn := TMn_of h hTMc
  have hI : INV L R O P f29 q := hI.most m_q r_q hf29 (by decide +kernel) (by decide +kernel) (by decide +kernel) (by decide +kernel) (by decide +kernel)
  have t_GA : fld f29 rr 0 = .ref GA := (hf29.efl m_rr r_rr (by decide +kernel)).trans t_GA
  have t_GP : fld f29 rr 22 = .ref GP := (hf29.efl m_rr r_rr (by decide +kernel)).trans t_GP
  have t_GL : fld f29 rr 23 = .ref GL := (hf29.efl m_rr r_rr (by decide +kernel)).trans t_GL
  have t_GT : fld f29 rr 6 = .ref GT := (hf29.efl m_rr r_rr (by decide +kernel)).trans t_GT
  have hR : RBA GA f29 := hv30p0
  have hX : GZ GP GL f29 := hv30p1
  have hP : fld f29 (rfa f29 q 6) 16 = V := by rw [hf29.erf m_q r_q (by decide +kernel), hf29.efl hs6m hs6r (by decide +kernel)]; exact hP
  have hs6m : rfa f29 q 6 ∈ L := by rw [hf29.erf m_q r_q (by decide +kernel)]; exact hs6m
  have hs6r : R (rfa f29 q 6) = 7 := by rw [hf29.erf m_q r_q (by decide +kernel)]; exact hs6r
  refine lv_pop F.1 F.2.1 dL_law_1443 rfl ?_
  refine lv_goto (tgt := 1756) F.1 F.2.1 dL_law_1444 (by decide) ?_
  exact kk f29 _ _ _ ⟨h, hI, ⟨t_GA, t_GP, t_GL, t_GT⟩, hR, hX, hP, hTPn, fun i hi => by have q0 := hTR i hi; have q1 := et16c i hi; have q2 := et16m i; have q3 := et32c i hi; have q4 := et32m i; omega, hTQn, fun i hi j hj => by have q0 := hTR i hi; have q1 := et16c i hi; have q2 := et16m i; have q3 := et32c i hi; have q4 := et32m i; have qb := hCb i hi; have hj6 : j < 60 := (by omega); have n0 := hNR i hi j; have n1 := en15c i hi j; have n2 := en15m i j; have n3 := en31c i hi j; have n4 := en31m i j; omega⟩ hl
theorem dL_law_1447 : decode cL_law 1447 = .ok (.aload_n 1, 1) := by decide +kernel
theorem dL_law_1448 : decode cL_law 1448 = .ok (.aload_n 0, 1) := by decide +kernel
theorem dL_law_1449 : decode cL_law 1449 = .ok (.iload_n 3, 1) := by decide +kernel
theorem dL_law_1450 : decode cL_law 1450 = .ok (.iconst 1, 1) := by decide +kernel
theorem dL_law_1451 : decode cL_law 1451 = .ok (.iadd, 1) := by decide +kernel
theorem dL_law_1452 : decode cL_law 1452 = .ok (.iaload, 1) := by decide +kernel
theorem dL_law_1453 : decode cL_law 1453 = .ok (.invokevirtual 159, 3) := by decide +kernel
theorem mw_1388 : Cond.methodLink RL 159 yX11_doubt ∈ wsL_law := inr_58 _ (List.mem_of_getElem? (i := 20) rfl)
theorem mw_1391 : Cond.code yX11_doubt cX11_doubt 2 (some .int) ∈ wsL_law := inr_58 _ (List.mem_of_getElem? (i := 23) rfl)
theorem yk_X11_doubt : xY yX11_doubt RX11 cX11_doubt 2 (some .int) 1 := ⟨⟨rfl, by decide +kernel, by decide +kernel, by decide +kernel⟩, mw_2, mw_1391⟩
theorem mw_1389 : Cond.instanceMethod yX11_doubt ∈ wsL_law := inr_58 _ (List.mem_of_getElem? (i := 21) rfl)
theorem mw_1390 : Cond.selects RX11 yX11_doubt yX11_doubt ∈ wsL_law := inr_58 _ (List.mem_of_getElem? (i := 22) rfl)
theorem dL_law_1456 : decode cL_law 1456 = .ok (.pop, 1) := by decide +kernel
theorem dL_law_1457 : decode cL_law 1457 = .ok (.aload_n 2, 1) := by decide +kernel
theorem dL_law_1458 : decode cL_law 1458 = .ok (.aload_n 0, 1) := by decide +kernel
theorem dL_law_1459 : decode cL_law 1459 = .ok (.iload_n 3, 1) := by decide +kernel
theorem dL_law_1460 : decode cL_law 1460 = .ok (.iconst 1, 1) := by decide +kernel
theorem dL_law_1461 : decode cL_law 1461 = .ok (.iadd, 1) := by decide +kernel
theorem dL_law_1462 : decode cL_law 1462 = .ok (.iaload, 1) := by decide +kernel
theorem dL_law_1463 : decode cL_law 1463 = .ok (.invokevirtual 162, 3) := by decide +kernel
theorem mw_1401 : Cond.methodLink RL 162 yX12_doubt ∈ wsL_law := inr_59 _ (List.mem_of_getElem? (i := 9) rfl)
theorem mw_1404 : Cond.code yX12_doubt cX12_doubt 3 (some .int) ∈ wsL_law := inr_59 _ (List.mem_of_getElem? (i := 12) rfl)
theorem yk_X12_doubt : xY yX12_doubt RX12 cX12_doubt 3 (some .int) 1 := ⟨⟨rfl, by decide +kernel, by decide +kernel, by decide +kernel⟩, mw_5, mw_1404⟩
theorem mw_1402 : Cond.instanceMethod yX12_doubt ∈ wsL_law := inr_59 _ (List.mem_of_getElem? (i := 10) rfl)
theorem mw_1403 : Cond.selects RX12 yX12_doubt yX12_doubt ∈ wsL_law := inr_59 _ (List.mem_of_getElem? (i := 11) rfl)
theorem dL_law_1466 : decode cL_law 1466 = .ok (.pop, 1) := by decide +kernel
theorem dL_law_1467 : decode cL_law 1467 = .ok (.goto 289, 3) := by decide +kernel
set_option maxHeartbeats 4000000 in
set_option maxRecDepth 100000 in
theorem law_c32 {p : Program} {l : Launch} {e : Env} {s : State} {m : MethodId} {below : List Frame} {meth : Method} {c : Code} {H : Heap} {locs : List Loc} {Q : State → Prop} {D : va_G} {cy : Nat → ClassId} {A : Nat → Prop} {L : List Nat} {R O P : Nat → Nat} {f0 : Nat → va_E} {ls : Array Slot} {b N cs sl q rr GA GP GL GT : Nat} {xs : Nat → Int32} {V : Value} (F : CallFix p m c cL_law 4 s #[Value.ref b] wsL_law RL) (hZ : tZ A s s.heap) (hX0 : va_X b N xs s s.heap) (hbl : b < s.heap.size) (hbA : ¬ A b) (hcs : cs ≤ room_1.cells) (hsl : sl ≤ room_1.slots) (i : Int32) (bi : 0 ≤ i.toInt ∧ i.toInt + 6 ≤ N ∧ N ≤ 3072) (m_q : q ∈ L) (r_q : R q = 11) (m_rr : rr ∈ L) (r_rr : R rr = 12) (m_GA : GA ∈ L) (r_GA : R GA = 61) (m_GP : GP ∈ L) (r_GP : R GP = 69) (m_GL : GL ∈ L) (r_GL : R GL = 70) (m_GT : GT ∈ L) (r_GT : R GT = 64) (hLS : LWS D cy A s L R O P q rr GA GP GL GT V f0 H locs) (hl : lv_has ls 4 [(3, .int i), (2, .ref rr), (1, .ref q), (0, .ref b)]) (kk : ∀ (f1 : Nat → va_E) (H : Heap) (locs : List Loc) (ls : Array Slot), LWS D cy A s L R O P q rr GA GP GL GT V f1 H locs → lv_has ls 4 [(3, .int i), (2, .ref rr), (1, .ref q), (0, .ref b)] → W p l e room_1 s m #[Value.ref b] below meth c H locs cs sl Q (F0 m 1756 ls [])) : W p l e room_1 s m #[Value.ref b] below meth c H locs cs sl Q (F0 m 1447 ls []) := by
  obtain ⟨h, hI, ⟨t_GA, t_GP, t_GL, t_GT⟩, hR, hX, hP, hTP, hTR, hTQ, hNR⟩ := hLS
  have hs6m := hI.2.2.1.1
  have hs6r := hI.2.2.1.2
  have hTMc := TMc_of h m_q r_q
  have hTMm := TMm_of h m_rr r_rr
  have hTPn := hTP
  have hTMn := TMn_of h hTMc
  have hTQn := hTQ
  have hCb := CS_le h m_q r_q
  refine lv_aload_n F.1 F.2.1 dL_law_1447 rfl (lv_at hl 2 rfl) ?_
  refine lv_aload_n F.1 F.2.1 dL_law_1448 rfl (lv_at hl 3 rfl) ?_
  refine lv_iload_n F.1 F.2.1 dL_law_1449 rfl (lv_at hl 0 rfl) ?_
  refine tw_iconst F dL_law_1450 ki_1 (fun z1 hz1 => ?_)
  refine tu_iadd F dL_law_1451 (by omega) (fun z2 hz2 => ?_)
  refine va_sld F.1 F.2.1 hX0 hbl hbA h.dd.2.2 (tw_in (by omega) (by omega)) dL_law_1452 ?_
  refine lv_topi (fun z3 qz3 => ?_)
  refine tw_Vi (As := [.int z3]) F hZ h yk_X11_doubt mw_1388 mw_1389 mw_1390 (s_X11_doubt l D cy L R O f0 q m_q r_q z3) rfl rfl m_q r_q (fun e q => (T_11 e).mp q) rfl hl.1 rfl (Nat.le_of_ble_eq_true rfl) ⟨Nat.le_of_ble_eq_true rfl, Nat.le_of_ble_eq_true rfl⟩ ⟨hcs, hsl⟩ dL_law_1453 (fun v5 f4 H locs hp4 h => ?_)
  have hf4 := hp4
  have en6a := TNa hTMc hf4 m_q r_q (by decide +kernel) (by decide +kernel) (by decide +kernel)
  have en6c := TNc hTMc hTMn hf4 m_q r_q (by decide +kernel) (by decide +kernel) (by decide +kernel) (by decide +kernel)
  have en6m := TNm t_GT m_GT r_GT hf4 m_rr r_rr (by decide +kernel) (by decide +kernel)
  have et7p := TRp hTMc hf4 m_q r_q (by decide +kernel) (by decide +kernel)
  have et7c := TRc hTMc hf4 m_q r_q (by decide +kernel) (by decide +kernel) (by decide +kernel) (by decide +kernel)
  have et7m := TRm hTMm hf4 m_rr r_rr (by decide +kernel) (by decide +kernel) (by decide +kernel) (by decide +kernel)
  have hTPn : ∀ i, i < 4 → P (trs f4 q i) = i := fun i hi => by rw [et7p i]; exact hTPn i hi
  have hTMc := TMc_of h m_q r_q
  have hTMm := TMm_of h m_rr r_rr
  have hTQn : ∀ i, i < 4 → P (rfa f4 (trs f4 q i) 0) = i := fun i hi => by rw [en6a i hi]; exact hTQn i hi
  have hTMn := TMn_of h hTMc
  have hI : INV L R O P f4 q := hI.most m_q r_q hf4 (by decide +kernel) (by decide +kernel) (by decide +kernel) (by decide +kernel) (by decide +kernel)
  have t_GA : fld f4 rr 0 = .ref GA := (hf4.efl m_rr r_rr (by decide +kernel)).trans t_GA
  have t_GP : fld f4 rr 22 = .ref GP := (hf4.efl m_rr r_rr (by decide +kernel)).trans t_GP
  have t_GL : fld f4 rr 23 = .ref GL := (hf4.efl m_rr r_rr (by decide +kernel)).trans t_GL
  have t_GT : fld f4 rr 6 = .ref GT := (hf4.efl m_rr r_rr (by decide +kernel)).trans t_GT
  have hR : RBA GA f4 := hR.fm hf4 m_GA r_GA (by decide +kernel)
  have hX : GZ GP GL f4 := hX.fm hf4 m_GP r_GP m_GL r_GL (by decide +kernel) (by decide +kernel)
  have hP : fld f4 (rfa f4 q 6) 16 = V := by rw [hf4.erf m_q r_q (by decide +kernel), hf4.efl hs6m hs6r (by decide +kernel)]; exact hP
  have hs6m : rfa f4 q 6 ∈ L := by rw [hf4.erf m_q r_q (by decide +kernel)]; exact hs6m
  have hs6r : R (rfa f4 q 6) = 7 := by rw [hf4.erf m_q r_q (by decide +kernel)]; exact hs6r
  refine lv_pop F.1 F.2.1 dL_law_1456 rfl ?_
  refine lv_aload_n F.1 F.2.1 dL_law_1457 rfl (lv_at hl 1 rfl) ?_
  refine lv_aload_n F.1 F.2.1 dL_law_1458 rfl (lv_at hl 3 rfl) ?_
  refine lv_iload_n F.1 F.2.1 dL_law_1459 rfl (lv_at hl 0 rfl) ?_
  refine tw_iconst F dL_law_1460 ki_1 (fun z8 hz8 => ?_)
  refine tu_iadd F dL_law_1461 (by omega) (fun z9 hz9 => ?_)
  refine va_sld F.1 F.2.1 hX0 hbl hbA h.dd.2.2 (tw_in (by omega) (by omega)) dL_law_1462 ?_
  refine lv_topi (fun z10 qz10 => ?_)
  obtain rfl : z3 = z10 := by rw [qz3, qz10, show z2 = z9 from Int32.toInt_inj.mp (by omega)]
  refine tw_Vi (As := [.int z3]) F hZ h yk_X12_doubt mw_1401 mw_1402 mw_1403 (s_X12_doubt l D cy L R O f4 rr m_rr r_rr z3) rfl rfl m_rr r_rr (fun e q => (T_12 e).mp q) rfl hl.1 rfl (Nat.le_of_ble_eq_true rfl) ⟨Nat.le_of_ble_eq_true rfl, Nat.le_of_ble_eq_true rfl⟩ ⟨hcs, hsl⟩ dL_law_1463 (fun v12 f11 H locs hp11 h => ?_)
  have hf11 := hp11
  have en13a := TNa hTMc hf11 m_q r_q (by decide +kernel) (by decide +kernel) (by decide +kernel)
  have en13c := TNc hTMc hTMn hf11 m_q r_q (by decide +kernel) (by decide +kernel) (by decide +kernel) (by decide +kernel)
  have en13m := TNm t_GT m_GT r_GT hf11 m_rr r_rr (by decide +kernel) (by decide +kernel)
  have et14p := TRp hTMc hf11 m_q r_q (by decide +kernel) (by decide +kernel)
  have et14c := TRc hTMc hf11 m_q r_q (by decide +kernel) (by decide +kernel) (by decide +kernel) (by decide +kernel)
  have et14m := TRm hTMm hf11 m_rr r_rr (by decide +kernel) (by decide +kernel) (by decide +kernel) (by decide +kernel)
  have hTPn : ∀ i, i < 4 → P (trs f11 q i) = i := fun i hi => by rw [et14p i]; exact hTPn i hi
  have hTMc := TMc_of h m_q r_q
  have hTMm := TMm_of h m_rr r_rr
  have hTQn : ∀ i, i < 4 → P (rfa f11 (trs f11 q i) 0) = i := fun i hi => by rw [en13a i hi]; exact hTQn i hi
  have hTMn := TMn_of h hTMc
  have hI : INV L R O P f11 q := hI.most m_q r_q hf11 (by decide +kernel) (by decide +kernel) (by decide +kernel) (by decide +kernel) (by decide +kernel)
  have t_GA : fld f11 rr 0 = .ref GA := (hf11.efl m_rr r_rr (by decide +kernel)).trans t_GA
  have t_GP : fld f11 rr 22 = .ref GP := (hf11.efl m_rr r_rr (by decide +kernel)).trans t_GP
  have t_GL : fld f11 rr 23 = .ref GL := (hf11.efl m_rr r_rr (by decide +kernel)).trans t_GL
  have t_GT : fld f11 rr 6 = .ref GT := (hf11.efl m_rr r_rr (by decide +kernel)).trans t_GT
  have hR : RBA GA f11 := hR.fm hf11 m_GA r_GA (by decide +kernel)
  have hX : GZ GP GL f11 := hX.fm hf11 m_GP r_GP m_GL r_GL (by decide +kernel) (by decide +kernel)
  have hP : fld f11 (rfa f11 q 6) 16 = V := by rw [hf11.erf m_q r_q (by decide +kernel), hf11.efl hs6m hs6r (by decide +kernel)]; exact hP
  have hs6m : rfa f11 q 6 ∈ L := by rw [hf11.erf m_q r_q (by decide +kernel)]; exact hs6m
  have hs6r : R (rfa f11 q 6) = 7 := by rw [hf11.erf m_q r_q (by decide +kernel)]; exact hs6r
  refine lv_pop F.1 F.2.1 dL_law_1466 rfl ?_
  refine lv_goto (tgt := 1756) F.1 F.2.1 dL_law_1467 (by decide) ?_
  exact kk f11 _ _ _ ⟨h, hI, ⟨t_GA, t_GP, t_GL, t_GT⟩, hR, hX, hP, hTPn, fun i hi => by have q0 := hTR i hi; have q1 := et7c i hi; have q2 := et7m i; have q3 := et14c i hi; have q4 := et14m i; omega, hTQn, fun i hi j hj => by have q0 := hTR i hi; have q1 := et7c i hi; have q2 := et7m i; have q3 := et14c i hi; have q4 := et14m i; have qb := hCb i hi; have hj6 : j < 60 := (by omega); have n0 := hNR i hi j; have n1 := en6c i hi j; have n2 := en6m i j; have n3 := en13c i hi j; have n4 := en13m i j; omega⟩ hl
theorem dL_law_1470 : decode cL_law 1470 = .ok (.aload_n 1, 1) := by decide +kernel
theorem dL_law_1471 : decode cL_law 1471 = .ok (.aload_n 0, 1) := by decide +kernel
theorem dL_law_1472 : decode cL_law 1472 = .ok (.iload_n 3, 1) := by decide +kernel
theorem dL_law_1473 : decode cL_law 1473 = .ok (.iconst 1, 1) := by decide +kernel
theorem dL_law_1474 : decode cL_law 1474 = .ok (.iadd, 1) := by decide +kernel
theorem dL_law_1475 : decode cL_law 1475 = .ok (.iaload, 1) := by decide +kernel
theorem dL_law_1476 : decode cL_law 1476 = .ok (.invokevirtual 163, 3) := by decide +kernel
theorem mw_1409 : Cond.methodLink RL 163 yX11_odds ∈ wsL_law := inr_59 _ (List.mem_of_getElem? (i := 17) rfl)
theorem mw_1412 : Cond.code yX11_odds cX11_odds 2 (some .boolean) ∈ wsL_law := inr_59 _ (List.mem_of_getElem? (i := 20) rfl)
theorem yk_X11_odds : xY yX11_odds RX11 cX11_odds 2 (some .boolean) 1 := ⟨⟨rfl, by decide +kernel, by decide +kernel, by decide +kernel⟩, mw_2, mw_1412⟩
theorem mw_1410 : Cond.instanceMethod yX11_odds ∈ wsL_law := inr_59 _ (List.mem_of_getElem? (i := 18) rfl)
theorem mw_1411 : Cond.selects RX11 yX11_odds yX11_odds ∈ wsL_law := inr_59 _ (List.mem_of_getElem? (i := 19) rfl)
theorem dL_law_1479 : decode cL_law 1479 = .ok (.pop, 1) := by decide +kernel
theorem dL_law_1480 : decode cL_law 1480 = .ok (.aload_n 2, 1) := by decide +kernel
theorem dL_law_1481 : decode cL_law 1481 = .ok (.aload_n 0, 1) := by decide +kernel
theorem dL_law_1482 : decode cL_law 1482 = .ok (.iload_n 3, 1) := by decide +kernel
theorem dL_law_1483 : decode cL_law 1483 = .ok (.iconst 1, 1) := by decide +kernel
theorem dL_law_1484 : decode cL_law 1484 = .ok (.iadd, 1) := by decide +kernel
theorem dL_law_1485 : decode cL_law 1485 = .ok (.iaload, 1) := by decide +kernel
theorem dL_law_1486 : decode cL_law 1486 = .ok (.invokevirtual 166, 3) := by decide +kernel
theorem mw_1421 : Cond.methodLink RL 166 yX12_odds ∈ wsL_law := inr_60 _ (List.mem_of_getElem? (i := 5) rfl)
theorem mw_1424 : Cond.code yX12_odds cX12_odds 12 (some .boolean) ∈ wsL_law := inr_60 _ (List.mem_of_getElem? (i := 8) rfl)
theorem yk_X12_odds : xY yX12_odds RX12 cX12_odds 12 (some .boolean) 1 := ⟨⟨rfl, by decide +kernel, by decide +kernel, by decide +kernel⟩, mw_5, mw_1424⟩
theorem mw_1422 : Cond.instanceMethod yX12_odds ∈ wsL_law := inr_60 _ (List.mem_of_getElem? (i := 6) rfl)
theorem mw_1423 : Cond.selects RX12 yX12_odds yX12_odds ∈ wsL_law := inr_60 _ (List.mem_of_getElem? (i := 7) rfl)
theorem dL_law_1489 : decode cL_law 1489 = .ok (.pop, 1) := by decide +kernel
theorem dL_law_1490 : decode cL_law 1490 = .ok (.goto 266, 3) := by decide +kernel
set_option maxHeartbeats 4000000 in
set_option maxRecDepth 100000 in
theorem law_c33 {p : Program} {l : Launch} {e : Env} {s : State} {m : MethodId} {below : List Frame} {meth : Method} {c : Code} {H : Heap} {locs : List Loc} {Q : State → Prop} {D : va_G} {cy : Nat → ClassId} {A : Nat → Prop} {L : List Nat} {R O P : Nat → Nat} {f0 : Nat → va_E} {ls : Array Slot} {b N cs sl q rr GA GP GL GT : Nat} {xs : Nat → Int32} {V : Value} (F : CallFix p m c cL_law 4 s #[Value.ref b] wsL_law RL) (hZ : tZ A s s.heap) (hX0 : va_X b N xs s s.heap) (hbl : b < s.heap.size) (hbA : ¬ A b) (hcs : cs ≤ room_1.cells) (hsl : sl ≤ room_1.slots) (i : Int32) (bi : 0 ≤ i.toInt ∧ i.toInt + 6 ≤ N ∧ N ≤ 3072) (m_q : q ∈ L) (r_q : R q = 11) (m_rr : rr ∈ L) (r_rr : R rr = 12) (m_GA : GA ∈ L) (r_GA : R GA = 61) (m_GP : GP ∈ L) (r_GP : R GP = 69) (m_GL : GL ∈ L) (r_GL : R GL = 70) (m_GT : GT ∈ L) (r_GT : R GT = 64) (hLS : LWS D cy A s L R O P q rr GA GP GL GT V f0 H locs) (hl : lv_has ls 4 [(3, .int i), (2, .ref rr), (1, .ref q), (0, .ref b)]) (kk : ∀ (f1 : Nat → va_E) (H : Heap) (locs : List Loc) (ls : Array Slot), LWS D cy A s L R O P q rr GA GP GL GT V f1 H locs → lv_has ls 4 [(3, .int i), (2, .ref rr), (1, .ref q), (0, .ref b)] → W p l e room_1 s m #[Value.ref b] below meth c H locs cs sl Q (F0 m 1756 ls [])) : W p l e room_1 s m #[Value.ref b] below meth c H locs cs sl Q (F0 m 1470 ls []) := by
  obtain ⟨h, hI, ⟨t_GA, t_GP, t_GL, t_GT⟩, hR, hX, hP, hTP, hTR, hTQ, hNR⟩ := hLS
  have hs6m := hI.2.2.1.1
  have hs6r := hI.2.2.1.2
  have hTMc := TMc_of h m_q r_q
  have hTMm := TMm_of h m_rr r_rr
  have hTPn := hTP
  have hTMn := TMn_of h hTMc
  have hTQn := hTQ
  have hCb := CS_le h m_q r_q
  refine lv_aload_n F.1 F.2.1 dL_law_1470 rfl (lv_at hl 2 rfl) ?_
  refine lv_aload_n F.1 F.2.1 dL_law_1471 rfl (lv_at hl 3 rfl) ?_
  refine lv_iload_n F.1 F.2.1 dL_law_1472 rfl (lv_at hl 0 rfl) ?_
  refine tw_iconst F dL_law_1473 ki_1 (fun z1 hz1 => ?_)
  refine tu_iadd F dL_law_1474 (by omega) (fun z2 hz2 => ?_)
  refine va_sld F.1 F.2.1 hX0 hbl hbA h.dd.2.2 (tw_in (by omega) (by omega)) dL_law_1475 ?_
  refine lv_topi (fun z3 qz3 => ?_)
  refine tw_Vi (As := [.int z3]) F hZ h yk_X11_odds mw_1409 mw_1410 mw_1411 (s_X11_odds l D cy L R O f0 q m_q r_q z3) rfl rfl m_q r_q (fun e q => (T_11 e).mp q) rfl hl.1 rfl (Nat.le_of_ble_eq_true rfl) ⟨Nat.le_of_ble_eq_true rfl, Nat.le_of_ble_eq_true rfl⟩ ⟨hcs, hsl⟩ dL_law_1476 (fun v5 f4 H locs hp4 h => ?_)
  obtain ⟨hf4, hv5a, hv5b⟩ := hp4
  have en6a := TNa hTMc hf4 m_q r_q (by decide +kernel) (by decide +kernel) (by decide +kernel)
  have en6c := TNc hTMc hTMn hf4 m_q r_q (by decide +kernel) (by decide +kernel) (by decide +kernel) (by decide +kernel)
  have en6m := TNm t_GT m_GT r_GT hf4 m_rr r_rr (by decide +kernel) (by decide +kernel)
  have et7p := TRp hTMc hf4 m_q r_q (by decide +kernel) (by decide +kernel)
  have et7c := TRc hTMc hf4 m_q r_q (by decide +kernel) (by decide +kernel) (by decide +kernel) (by decide +kernel)
  have et7m := TRm hTMm hf4 m_rr r_rr (by decide +kernel) (by decide +kernel) (by decide +kernel) (by decide +kernel)
  have hTPn : ∀ i, i < 4 → P (trs f4 q i) = i := fun i hi => by rw [et7p i]; exact hTPn i hi
  have hTMc := TMc_of h m_q r_q
  have hTMm := TMm_of h m_rr r_rr
  have hTQn : ∀ i, i < 4 → P (rfa f4 (trs f4 q i) 0) = i := fun i hi => by rw [en6a i hi]; exact hTQn i hi
  have hTMn := TMn_of h hTMc
  have hI : INV L R O P f4 q := hI.most m_q r_q hf4 (by decide +kernel) (by decide +kernel) (by decide +kernel) (by decide +kernel) (by decide +kernel)
  have t_GA : fld f4 rr 0 = .ref GA := (hf4.efl m_rr r_rr (by decide +kernel)).trans t_GA
  have t_GP : fld f4 rr 22 = .ref GP := (hf4.efl m_rr r_rr (by decide +kernel)).trans t_GP
  have t_GL : fld f4 rr 23 = .ref GL := (hf4.efl m_rr r_rr (by decide +kernel)).trans t_GL
  have t_GT : fld f4 rr 6 = .ref GT := (hf4.efl m_rr r_rr (by decide +kernel)).trans t_GT
  have hR : RBA GA f4 := hR.fm hf4 m_GA r_GA (by decide +kernel)
  have hX : GZ GP GL f4 := hX.fm hf4 m_GP r_GP m_GL r_GL (by decide +kernel) (by decide +kernel)
  have hP : fld f4 (rfa f4 q 6) 16 = V := by rw [hf4.erf m_q r_q (by decide +kernel), hf4.efl hs6m hs6r (by decide +kernel)]; exact hP
  have hs6m : rfa f4 q 6 ∈ L := by rw [hf4.erf m_q r_q (by decide +kernel)]; exact hs6m
  have hs6r : R (rfa f4 q 6) = 7 := by rw [hf4.erf m_q r_q (by decide +kernel)]; exact hs6r
  refine lv_pop F.1 F.2.1 dL_law_1479 rfl ?_
  refine lv_aload_n F.1 F.2.1 dL_law_1480 rfl (lv_at hl 1 rfl) ?_
  refine lv_aload_n F.1 F.2.1 dL_law_1481 rfl (lv_at hl 3 rfl) ?_
  refine lv_iload_n F.1 F.2.1 dL_law_1482 rfl (lv_at hl 0 rfl) ?_
  refine tw_iconst F dL_law_1483 ki_1 (fun z8 hz8 => ?_)
  refine tu_iadd F dL_law_1484 (by omega) (fun z9 hz9 => ?_)
  refine va_sld F.1 F.2.1 hX0 hbl hbA h.dd.2.2 (tw_in (by omega) (by omega)) dL_law_1485 ?_
  refine lv_topi (fun z10 qz10 => ?_)
  obtain rfl : z3 = z10 := by rw [qz3, qz10, show z2 = z9 from Int32.toInt_inj.mp (by omega)]
  refine tw_Vi (As := [.int z3]) F hZ h yk_X12_odds mw_1421 mw_1422 mw_1423 (s_X12_odds l D cy L R O f4 rr m_rr r_rr z3) rfl rfl m_rr r_rr (fun e q => (T_12 e).mp q) rfl hl.1 rfl (Nat.le_of_ble_eq_true rfl) ⟨Nat.le_of_ble_eq_true rfl, Nat.le_of_ble_eq_true rfl⟩ ⟨hcs, hsl⟩ dL_law_1486 (fun v12 f11 H locs hp11 h => ?_)
  obtain ⟨hf11, hv12a, hv12b⟩ := hp11
  have en13a := TNa hTMc hf11 m_q r_q (by decide +kernel) (by decide +kernel) (by decide +kernel)
  have en13c := TNc hTMc hTMn hf11 m_q r_q (by decide +kernel) (by decide +kernel) (by decide +kernel) (by decide +kernel)
  have en13m := TNm t_GT m_GT r_GT hf11 m_rr r_rr (by decide +kernel) (by decide +kernel)
  have et14p := TRp hTMc hf11 m_q r_q (by decide +kernel) (by decide +kernel)
  have et14c := TRc hTMc hf11 m_q r_q (by decide +kernel) (by decide +kernel) (by decide +kernel) (by decide +kernel)
  have et14m := TRm hTMm hf11 m_rr r_rr (by decide +kernel) (by decide +kernel) (by decide +kernel) (by decide +kernel)
  have hTPn : ∀ i, i < 4 → P (trs f11 q i) = i := fun i hi => by rw [et14p i]; exact hTPn i hi
  have hTMc := TMc_of h m_q r_q
  have hTMm := TMm_of h m_rr r_rr
  have hTQn : ∀ i, i < 4 → P (rfa f11 (trs f11 q i) 0) = i := fun i hi => by rw [en13a i hi]; exact hTQn i hi
  have hTMn := TMn_of h hTMc
  have hI : INV L R O P f11 q := hI.most m_q r_q hf11 (by decide +kernel) (by decide +kernel) (by decide +kernel) (by decide +kernel) (by decide +kernel)
  have t_GA : fld f11 rr 0 = .ref GA := (hf11.efl m_rr r_rr (by decide +kernel)).trans t_GA
  have t_GP : fld f11 rr 22 = .ref GP := (hf11.efl m_rr r_rr (by decide +kernel)).trans t_GP
  have t_GL : fld f11 rr 23 = .ref GL := (hf11.efl m_rr r_rr (by decide +kernel)).trans t_GL
  have t_GT : fld f11 rr 6 = .ref GT := (hf11.efl m_rr r_rr (by decide +kernel)).trans t_GT
  have hR : RBA GA f11 := hR.fm hf11 m_GA r_GA (by decide +kernel)
  have hX : GZ GP GL f11 := hX.fm hf11 m_GP r_GP m_GL r_GL (by decide +kernel) (by decide +kernel)
  have hP : fld f11 (rfa f11 q 6) 16 = V := by rw [hf11.erf m_q r_q (by decide +kernel), hf11.efl hs6m hs6r (by decide +kernel)]; exact hP
  have hs6m : rfa f11 q 6 ∈ L := by rw [hf11.erf m_q r_q (by decide +kernel)]; exact hs6m
  have hs6r : R (rfa f11 q 6) = 7 := by rw [hf11.erf m_q r_q (by decide +kernel)]; exact hs6r
  refine lv_pop F.1 F.2.1 dL_law_1489 rfl ?_
  refine lv_goto (tgt := 1756) F.1 F.2.1 dL_law_1490 (by decide) ?_
  exact kk f11 _ _ _ ⟨h, hI, ⟨t_GA, t_GP, t_GL, t_GT⟩, hR, hX, hP, hTPn, fun i hi => by have q0 := hTR i hi; have q1 := et7c i hi; have q2 := et7m i; have q3 := et14c i hi; have q4 := et14m i; omega, hTQn, fun i hi j hj => by have q0 := hTR i hi; have q1 := et7c i hi; have q2 := et7m i; have q3 := et14c i hi; have q4 := et14m i; have qb := hCb i hi; have hj6 : j < 60 := (by omega); have n0 := hNR i hi j; have n1 := en6c i hi j; have n2 := en6m i j; have n3 := en13c i hi j; have n4 := en13m i j; omega⟩ hl
theorem dL_law_1493 : decode cL_law 1493 = .ok (.aload_n 1, 1) := by decide +kernel
theorem dL_law_1494 : decode cL_law 1494 = .ok (.aload_n 0, 1) := by decide +kernel
theorem dL_law_1495 : decode cL_law 1495 = .ok (.iload_n 3, 1) := by decide +kernel
theorem dL_law_1496 : decode cL_law 1496 = .ok (.iconst 1, 1) := by decide +kernel
theorem dL_law_1497 : decode cL_law 1497 = .ok (.iadd, 1) := by decide +kernel
theorem dL_law_1498 : decode cL_law 1498 = .ok (.iaload, 1) := by decide +kernel
theorem dL_law_1499 : decode cL_law 1499 = .ok (.invokevirtual 167, 3) := by decide +kernel
theorem mw_1425 : Cond.methodLink RL 167 yX11_claim ∈ wsL_law := inr_60 _ (List.mem_of_getElem? (i := 9) rfl)
theorem mw_1428 : Cond.code yX11_claim cX11_claim 2 (some .int) ∈ wsL_law := inr_60 _ (List.mem_of_getElem? (i := 12) rfl)
theorem yk_X11_claim : xY yX11_claim RX11 cX11_claim 2 (some .int) 1 := ⟨⟨rfl, by decide +kernel, by decide +kernel, by decide +kernel⟩, mw_2, mw_1428⟩
theorem mw_1426 : Cond.instanceMethod yX11_claim ∈ wsL_law := inr_60 _ (List.mem_of_getElem? (i := 10) rfl)
theorem mw_1427 : Cond.selects RX11 yX11_claim yX11_claim ∈ wsL_law := inr_60 _ (List.mem_of_getElem? (i := 11) rfl)
theorem dL_law_1502 : decode cL_law 1502 = .ok (.pop, 1) := by decide +kernel
theorem dL_law_1503 : decode cL_law 1503 = .ok (.aload_n 2, 1) := by decide +kernel
theorem dL_law_1504 : decode cL_law 1504 = .ok (.aload_n 0, 1) := by decide +kernel
theorem dL_law_1505 : decode cL_law 1505 = .ok (.iload_n 3, 1) := by decide +kernel
theorem dL_law_1506 : decode cL_law 1506 = .ok (.iconst 1, 1) := by decide +kernel
theorem dL_law_1507 : decode cL_law 1507 = .ok (.iadd, 1) := by decide +kernel
theorem dL_law_1508 : decode cL_law 1508 = .ok (.iaload, 1) := by decide +kernel
theorem dL_law_1509 : decode cL_law 1509 = .ok (.invokevirtual 170, 3) := by decide +kernel
theorem mw_1438 : Cond.methodLink RL 170 yX12_claim ∈ wsL_law := inr_60 _ (List.mem_of_getElem? (i := 22) rfl)
theorem mw_1441 : Cond.code yX12_claim cX12_claim 3 (some .int) ∈ wsL_law := inr_61 _ (List.mem_of_getElem? (i := 1) rfl)
theorem yk_X12_claim : xY yX12_claim RX12 cX12_claim 3 (some .int) 1 := ⟨⟨rfl, by decide +kernel, by decide +kernel, by decide +kernel⟩, mw_5, mw_1441⟩
theorem mw_1439 : Cond.instanceMethod yX12_claim ∈ wsL_law := inr_60 _ (List.mem_of_getElem? (i := 23) rfl)
theorem mw_1440 : Cond.selects RX12 yX12_claim yX12_claim ∈ wsL_law := inr_61 _ (List.mem_of_getElem? (i := 0) rfl)
theorem dL_law_1512 : decode cL_law 1512 = .ok (.pop, 1) := by decide +kernel
theorem dL_law_1513 : decode cL_law 1513 = .ok (.goto 243, 3) := by decide +kernel
set_option maxHeartbeats 4000000 in
set_option maxRecDepth 100000 in
theorem law_c34 {p : Program} {l : Launch} {e : Env} {s : State} {m : MethodId} {below : List Frame} {meth : Method} {c : Code} {H : Heap} {locs : List Loc} {Q : State → Prop} {D : va_G} {cy : Nat → ClassId} {A : Nat → Prop} {L : List Nat} {R O P : Nat → Nat} {f0 : Nat → va_E} {ls : Array Slot} {b N cs sl q rr GA GP GL GT : Nat} {xs : Nat → Int32} {V : Value} (F : CallFix p m c cL_law 4 s #[Value.ref b] wsL_law RL) (hZ : tZ A s s.heap) (hX0 : va_X b N xs s s.heap) (hbl : b < s.heap.size) (hbA : ¬ A b) (hcs : cs ≤ room_1.cells) (hsl : sl ≤ room_1.slots) (i : Int32) (bi : 0 ≤ i.toInt ∧ i.toInt + 6 ≤ N ∧ N ≤ 3072) (m_q : q ∈ L) (r_q : R q = 11) (m_rr : rr ∈ L) (r_rr : R rr = 12) (m_GA : GA ∈ L) (r_GA : R GA = 61) (m_GP : GP ∈ L) (r_GP : R GP = 69) (m_GL : GL ∈ L) (r_GL : R GL = 70) (m_GT : GT ∈ L) (r_GT : R GT = 64) (hLS : LWS D cy A s L R O P q rr GA GP GL GT V f0 H locs) (hl : lv_has ls 4 [(3, .int i), (2, .ref rr), (1, .ref q), (0, .ref b)]) (kk : ∀ (f1 : Nat → va_E) (H : Heap) (locs : List Loc) (ls : Array Slot), LWS D cy A s L R O P q rr GA GP GL GT V f1 H locs → lv_has ls 4 [(3, .int i), (2, .ref rr), (1, .ref q), (0, .ref b)] → W p l e room_1 s m #[Value.ref b] below meth c H locs cs sl Q (F0 m 1756 ls [])) : W p l e room_1 s m #[Value.ref b] below meth c H locs cs sl Q (F0 m 1493 ls []) := by
  obtain ⟨h, hI, ⟨t_GA, t_GP, t_GL, t_GT⟩, hR, hX, hP, hTP, hTR, hTQ, hNR⟩ := hLS
  have hs6m := hI.2.2.1.1
  have hs6r := hI.2.2.1.2
  have hTMc := TMc_of h m_q r_q
  have hTMm := TMm_of h m_rr r_rr
  have hTPn := hTP
  have hTMn := TMn_of h hTMc
  have hTQn := hTQ
  have hCb := CS_le h m_q r_q
  refine lv_aload_n F.1 F.2.1 dL_law_1493 rfl (lv_at hl 2 rfl) ?_
  refine lv_aload_n F.1 F.2.1 dL_law_1494 rfl (lv_at hl 3 rfl) ?_
  refine lv_iload_n F.1 F.2.1 dL_law_1495 rfl (lv_at hl 0 rfl) ?_
  refine tw_iconst F dL_law_1496 ki_1 (fun z1 hz1 => ?_)
  refine tu_iadd F dL_law_1497 (by omega) (fun z2 hz2 => ?_)
  refine va_sld F.1 F.2.1 hX0 hbl hbA h.dd.2.2 (tw_in (by omega) (by omega)) dL_law_1498 ?_
  refine lv_topi (fun z3 qz3 => ?_)
  refine tw_Vi (As := [.int z3]) F hZ h yk_X11_claim mw_1425 mw_1426 mw_1427 (s_X11_claim l D cy L R O f0 q m_q r_q z3) rfl rfl m_q r_q (fun e q => (T_11 e).mp q) rfl hl.1 rfl (Nat.le_of_ble_eq_true rfl) ⟨Nat.le_of_ble_eq_true rfl, Nat.le_of_ble_eq_true rfl⟩ ⟨hcs, hsl⟩ dL_law_1499 (fun v5 f4 H locs hp4 h => ?_)
  have hf4 := hp4
  have en6a := TNa hTMc hf4 m_q r_q (by decide +kernel) (by decide +kernel) (by decide +kernel)
  have en6c := TNc hTMc hTMn hf4 m_q r_q (by decide +kernel) (by decide +kernel) (by decide +kernel) (by decide +kernel)
  have en6m := TNm t_GT m_GT r_GT hf4 m_rr r_rr (by decide +kernel) (by decide +kernel)
  have et7p := TRp hTMc hf4 m_q r_q (by decide +kernel) (by decide +kernel)
  have et7c := TRc hTMc hf4 m_q r_q (by decide +kernel) (by decide +kernel) (by decide +kernel) (by decide +kernel)
  have et7m := TRm hTMm hf4 m_rr r_rr (by decide +kernel) (by decide +kernel) (by decide +kernel) (by decide +kernel)
  have hTPn : ∀ i, i < 4 → P (trs f4 q i) = i := fun i hi => by rw [et7p i]; exact hTPn i hi
  have hTMc := TMc_of h m_q r_q
  have hTMm := TMm_of h m_rr r_rr
  have hTQn : ∀ i, i < 4 → P (rfa f4 (trs f4 q i) 0) = i := fun i hi => by rw [en6a i hi]; exact hTQn i hi
  have hTMn := TMn_of h hTMc
  have hI : INV L R O P f4 q := hI.most m_q r_q hf4 (by decide +kernel) (by decide +kernel) (by decide +kernel) (by decide +kernel) (by decide +kernel)
  have t_GA : fld f4 rr 0 = .ref GA := (hf4.efl m_rr r_rr (by decide +kernel)).trans t_GA
  have t_GP : fld f4 rr 22 = .ref GP := (hf4.efl m_rr r_rr (by decide +kernel)).trans t_GP
  have t_GL : fld f4 rr 23 = .ref GL := (hf4.efl m_rr r_rr (by decide +kernel)).trans t_GL
  have t_GT : fld f4 rr 6 = .ref GT := (hf4.efl m_rr r_rr (by decide +kernel)).trans t_GT
  have hR : RBA GA f4 := hR.fm hf4 m_GA r_GA (by decide +kernel)
  have hX : GZ GP GL f4 := hX.fm hf4 m_GP r_GP m_GL r_GL (by decide +kernel) (by decide +kernel)
  have hP : fld f4 (rfa f4 q 6) 16 = V := by rw [hf4.erf m_q r_q (by decide +kernel), hf4.efl hs6m hs6r (by decide +kernel)]; exact hP
  have hs6m : rfa f4 q 6 ∈ L := by rw [hf4.erf m_q r_q (by decide +kernel)]; exact hs6m
  have hs6r : R (rfa f4 q 6) = 7 := by rw [hf4.erf m_q r_q (by decide +kernel)]; exact hs6r
  refine lv_pop F.1 F.2.1 dL_law_1502 rfl ?_
  refine lv_aload_n F.1 F.2.1 dL_law_1503 rfl (lv_at hl 1 rfl) ?_
  refine lv_aload_n F.1 F.2.1 dL_law_1504 rfl (lv_at hl 3 rfl) ?_
  refine lv_iload_n F.1 F.2.1 dL_law_1505 rfl (lv_at hl 0 rfl) ?_
  refine tw_iconst F dL_law_1506 ki_1 (fun z8 hz8 => ?_)
  refine tu_iadd F dL_law_1507 (by omega) (fun z9 hz9 => ?_)
  refine va_sld F.1 F.2.1 hX0 hbl hbA h.dd.2.2 (tw_in (by omega) (by omega)) dL_law_1508 ?_
  refine lv_topi (fun z10 qz10 => ?_)
  obtain rfl : z3 = z10 := by rw [qz3, qz10, show z2 = z9 from Int32.toInt_inj.mp (by omega)]
  refine tw_Vi (As := [.int z3]) F hZ h yk_X12_claim mw_1438 mw_1439 mw_1440 (s_X12_claim l D cy L R O f4 rr m_rr r_rr z3) rfl rfl m_rr r_rr (fun e q => (T_12 e).mp q) rfl hl.1 rfl (Nat.le_of_ble_eq_true rfl) ⟨Nat.le_of_ble_eq_true rfl, Nat.le_of_ble_eq_true rfl⟩ ⟨hcs, hsl⟩ dL_law_1509 (fun v12 f11 H locs hp11 h => ?_)
  have hf11 := hp11
  have en13a := TNa hTMc hf11 m_q r_q (by decide +kernel) (by decide +kernel) (by decide +kernel)
  have en13c := TNc hTMc hTMn hf11 m_q r_q (by decide +kernel) (by decide +kernel) (by decide +kernel) (by decide +kernel)
  have en13m := TNm t_GT m_GT r_GT hf11 m_rr r_rr (by decide +kernel) (by decide +kernel)
  have et14p := TRp hTMc hf11 m_q r_q (by decide +kernel) (by decide +kernel)
  have et14c := TRc hTMc hf11 m_q r_q (by decide +kernel) (by decide +kernel) (by decide +kernel) (by decide +kernel)
  have et14m := TRm hTMm hf11 m_rr r_rr (by decide +kernel) (by decide +kernel) (by decide +kernel) (by decide +kernel)
  have hTPn : ∀ i, i < 4 → P (trs f11 q i) = i := fun i hi => by rw [et14p i]; exact hTPn i hi
  have hTMc := TMc_of h m_q r_q
  have hTMm := TMm_of h m_rr r_rr
  have hTQn : ∀ i, i < 4 → P (rfa f11 (trs f11 q i) 0) = i := fun i hi => by rw [en13a i hi]; exact hTQn i hi
  have hTMn := TMn_of h hTMc
  have hI : INV L R O P f11 q := hI.most m_q r_q hf11 (by decide +kernel) (by decide +kernel) (by decide +kernel) (by decide +kernel) (by decide +kernel)
  have t_GA : fld f11 rr 0 = .ref GA := (hf11.efl m_rr r_rr (by decide +kernel)).trans t_GA
  have t_GP : fld f11 rr 22 = .ref GP := (hf11.efl m_rr r_rr (by decide +kernel)).trans t_GP
  have t_GL : fld f11 rr 23 = .ref GL := (hf11.efl m_rr r_rr (by decide +kernel)).trans t_GL
  have t_GT : fld f11 rr 6 = .ref GT := (hf11.efl m_rr r_rr (by decide +kernel)).trans t_GT
  have hR : RBA GA f11 := hR.fm hf11 m_GA r_GA (by decide +kernel)
  have hX : GZ GP GL f11 := hX.fm hf11 m_GP r_GP m_GL r_GL (by decide +kernel) (by decide +kernel)
  have hP : fld f11 (rfa f11 q 6) 16 = V := by rw [hf11.erf m_q r_q (by decide +kernel), hf11.efl hs6m hs6r (by decide +kernel)]; exact hP
  have hs6m : rfa f11 q 6 ∈ L := by rw [hf11.erf m_q r_q (by decide +kernel)]; exact hs6m
  have hs6r : R (rfa f11 q 6) = 7 := by rw [hf11.erf m_q r_q (by decide +kernel)]; exact hs6r
  refine lv_pop F.1 F.2.1 dL_law_1512 rfl ?_
  refine lv_goto (tgt := 1756) F.1 F.2.1 dL_law_1513 (by decide) ?_
  exact kk f11 _ _ _ ⟨h, hI, ⟨t_GA, t_GP, t_GL, t_GT⟩, hR, hX, hP, hTPn, fun i hi => by have q0 := hTR i hi; have q1 := et7c i hi; have q2 := et7m i; have q3 := et14c i hi; have q4 := et14m i; omega, hTQn, fun i hi j hj => by have q0 := hTR i hi; have q1 := et7c i hi; have q2 := et7m i; have q3 := et14c i hi; have q4 := et14m i; have qb := hCb i hi; have hj6 : j < 60 := (by omega); have n0 := hNR i hi j; have n1 := en6c i hi j; have n2 := en6m i j; have n3 := en13c i hi j; have n4 := en13m i j; omega⟩ hl
theorem dL_law_1516 : decode cL_law 1516 = .ok (.aload_n 1, 1) := by decide +kernel
theorem dL_law_1517 : decode cL_law 1517 = .ok (.aload_n 0, 1) := by decide +kernel
theorem dL_law_1518 : decode cL_law 1518 = .ok (.iload_n 3, 1) := by decide +kernel
theorem dL_law_1519 : decode cL_law 1519 = .ok (.iconst 1, 1) := by decide +kernel
theorem dL_law_1520 : decode cL_law 1520 = .ok (.iadd, 1) := by decide +kernel
theorem dL_law_1521 : decode cL_law 1521 = .ok (.iaload, 1) := by decide +kernel
theorem dL_law_1522 : decode cL_law 1522 = .ok (.aload_n 0, 1) := by decide +kernel
theorem dL_law_1523 : decode cL_law 1523 = .ok (.iload_n 3, 1) := by decide +kernel
theorem dL_law_1524 : decode cL_law 1524 = .ok (.iconst 2, 1) := by decide +kernel
theorem dL_law_1525 : decode cL_law 1525 = .ok (.iadd, 1) := by decide +kernel
theorem dL_law_1526 : decode cL_law 1526 = .ok (.iaload, 1) := by decide +kernel
theorem dL_law_1527 : decode cL_law 1527 = .ok (.aload_n 0, 1) := by decide +kernel
theorem dL_law_1528 : decode cL_law 1528 = .ok (.iload_n 3, 1) := by decide +kernel
theorem dL_law_1529 : decode cL_law 1529 = .ok (.iconst 3, 1) := by decide +kernel
theorem dL_law_1530 : decode cL_law 1530 = .ok (.iadd, 1) := by decide +kernel
theorem dL_law_1531 : decode cL_law 1531 = .ok (.iaload, 1) := by decide +kernel
theorem dL_law_1532 : decode cL_law 1532 = .ok (.invokevirtual 171, 3) := by decide +kernel
theorem mw_1446 : Cond.methodLink RL 171 yX11_least ∈ wsL_law := inr_61 _ (List.mem_of_getElem? (i := 6) rfl)
theorem mw_1449 : Cond.code yX11_least cX11_least 5 (some .int) ∈ wsL_law := inr_61 _ (List.mem_of_getElem? (i := 9) rfl)
theorem yk_X11_least : xY yX11_least RX11 cX11_least 5 (some .int) 3 := ⟨⟨rfl, by decide +kernel, by decide +kernel, by decide +kernel⟩, mw_2, mw_1449⟩
theorem mw_1447 : Cond.instanceMethod yX11_least ∈ wsL_law := inr_61 _ (List.mem_of_getElem? (i := 7) rfl)
theorem mw_1448 : Cond.selects RX11 yX11_least yX11_least ∈ wsL_law := inr_61 _ (List.mem_of_getElem? (i := 8) rfl)
theorem dL_law_1535 : decode cL_law 1535 = .ok (.pop, 1) := by decide +kernel
theorem dL_law_1536 : decode cL_law 1536 = .ok (.aload_n 2, 1) := by decide +kernel
theorem dL_law_1537 : decode cL_law 1537 = .ok (.aload_n 0, 1) := by decide +kernel
theorem dL_law_1538 : decode cL_law 1538 = .ok (.iload_n 3, 1) := by decide +kernel
theorem dL_law_1539 : decode cL_law 1539 = .ok (.iconst 1, 1) := by decide +kernel
theorem dL_law_1540 : decode cL_law 1540 = .ok (.iadd, 1) := by decide +kernel
theorem dL_law_1541 : decode cL_law 1541 = .ok (.iaload, 1) := by decide +kernel
theorem dL_law_1542 : decode cL_law 1542 = .ok (.aload_n 0, 1) := by decide +kernel
theorem dL_law_1543 : decode cL_law 1543 = .ok (.iload_n 3, 1) := by decide +kernel
theorem dL_law_1544 : decode cL_law 1544 = .ok (.iconst 2, 1) := by decide +kernel
theorem dL_law_1545 : decode cL_law 1545 = .ok (.iadd, 1) := by decide +kernel
theorem dL_law_1546 : decode cL_law 1546 = .ok (.iaload, 1) := by decide +kernel
theorem dL_law_1547 : decode cL_law 1547 = .ok (.aload_n 0, 1) := by decide +kernel
theorem dL_law_1548 : decode cL_law 1548 = .ok (.iload_n 3, 1) := by decide +kernel
theorem dL_law_1549 : decode cL_law 1549 = .ok (.iconst 3, 1) := by decide +kernel
theorem dL_law_1550 : decode cL_law 1550 = .ok (.iadd, 1) := by decide +kernel
theorem dL_law_1551 : decode cL_law 1551 = .ok (.iaload, 1) := by decide +kernel
theorem dL_law_1552 : decode cL_law 1552 = .ok (.invokevirtual 174, 3) := by decide +kernel
theorem mw_1466 : Cond.methodLink RL 174 yX12_least ∈ wsL_law := inr_62 _ (List.mem_of_getElem? (i := 2) rfl)
theorem mw_1469 : Cond.code yX12_least cX12_least 8 (some .int) ∈ wsL_law := inr_62 _ (List.mem_of_getElem? (i := 5) rfl)
theorem yk_X12_least : xY yX12_least RX12 cX12_least 8 (some .int) 3 := ⟨⟨rfl, by decide +kernel, by decide +kernel, by decide +kernel⟩, mw_5, mw_1469⟩
theorem mw_1467 : Cond.instanceMethod yX12_least ∈ wsL_law := inr_62 _ (List.mem_of_getElem? (i := 3) rfl)
theorem mw_1468 : Cond.selects RX12 yX12_least yX12_least ∈ wsL_law := inr_62 _ (List.mem_of_getElem? (i := 4) rfl)
theorem dL_law_1555 : decode cL_law 1555 = .ok (.pop, 1) := by decide +kernel
theorem dL_law_1556 : decode cL_law 1556 = .ok (.goto 200, 3) := by decide +kernel
set_option maxHeartbeats 4000000 in
set_option maxRecDepth 100000 in
theorem law_c35 {p : Program} {l : Launch} {e : Env} {s : State} {m : MethodId} {below : List Frame} {meth : Method} {c : Code} {H : Heap} {locs : List Loc} {Q : State → Prop} {D : va_G} {cy : Nat → ClassId} {A : Nat → Prop} {L : List Nat} {R O P : Nat → Nat} {f0 : Nat → va_E} {ls : Array Slot} {b N cs sl q rr GA GP GL GT : Nat} {xs : Nat → Int32} {V : Value} (F : CallFix p m c cL_law 4 s #[Value.ref b] wsL_law RL) (hZ : tZ A s s.heap) (hX0 : va_X b N xs s s.heap) (hbl : b < s.heap.size) (hbA : ¬ A b) (hcs : cs ≤ room_1.cells) (hsl : sl ≤ room_1.slots) (i : Int32) (bi : 0 ≤ i.toInt ∧ i.toInt + 6 ≤ N ∧ N ≤ 3072) (m_q : q ∈ L) (r_q : R q = 11) (m_rr : rr ∈ L) (r_rr : R rr = 12) (m_GA : GA ∈ L) (r_GA : R GA = 61) (m_GP : GP ∈ L) (r_GP : R GP = 69) (m_GL : GL ∈ L) (r_GL : R GL = 70) (m_GT : GT ∈ L) (r_GT : R GT = 64) (hLS : LWS D cy A s L R O P q rr GA GP GL GT V f0 H locs) (hl : lv_has ls 4 [(3, .int i), (2, .ref rr), (1, .ref q), (0, .ref b)]) (kk : ∀ (f1 : Nat → va_E) (H : Heap) (locs : List Loc) (ls : Array Slot), LWS D cy A s L R O P q rr GA GP GL GT V f1 H locs → lv_has ls 4 [(3, .int i), (2, .ref rr), (1, .ref q), (0, .ref b)] → W p l e room_1 s m #[Value.ref b] below meth c H locs cs sl Q (F0 m 1756 ls [])) : W p l e room_1 s m #[Value.ref b] below meth c H locs cs sl Q (F0 m 1516 ls []) := by
  obtain ⟨h, hI, ⟨t_GA, t_GP, t_GL, t_GT⟩, hR, hX, hP, hTP, hTR, hTQ, hNR⟩ := hLS
  have hs6m := hI.2.2.1.1
  have hs6r := hI.2.2.1.2
  have hTMc := TMc_of h m_q r_q
  have hTMm := TMm_of h m_rr r_rr
  have hTPn := hTP
  have hTMn := TMn_of h hTMc
  have hTQn := hTQ
  have hCb := CS_le h m_q r_q
  refine lv_aload_n F.1 F.2.1 dL_law_1516 rfl (lv_at hl 2 rfl) ?_
  refine lv_aload_n F.1 F.2.1 dL_law_1517 rfl (lv_at hl 3 rfl) ?_
  refine lv_iload_n F.1 F.2.1 dL_law_1518 rfl (lv_at hl 0 rfl) ?_
  refine tw_iconst F dL_law_1519 ki_1 (fun z1 hz1 => ?_)
  refine tu_iadd F dL_law_1520 (by omega) (fun z2 hz2 => ?_)
  refine va_sld F.1 F.2.1 hX0 hbl hbA h.dd.2.2 (tw_in (by omega) (by omega)) dL_law_1521 ?_
  refine lv_topi (fun z3 qz3 => ?_)
  refine lv_aload_n F.1 F.2.1 dL_law_1522 rfl (lv_at hl 3 rfl) ?_
  refine lv_iload_n F.1 F.2.1 dL_law_1523 rfl (lv_at hl 0 rfl) ?_
  refine tw_iconst F dL_law_1524 ki_2 (fun z4 hz4 => ?_)
  refine tu_iadd F dL_law_1525 (by omega) (fun z5 hz5 => ?_)
  refine va_sld F.1 F.2.1 hX0 hbl hbA h.dd.2.2 (tw_in (by omega) (by omega)) dL_law_1526 ?_
  refine lv_topi (fun z6 qz6 => ?_)
  refine lv_aload_n F.1 F.2.1 dL_law_1527 rfl (lv_at hl 3 rfl) ?_
  refine lv_iload_n F.1 F.2.1 dL_law_1528 rfl (lv_at hl 0 rfl) ?_
  refine tw_iconst F dL_law_1529 ki_3 (fun z7 hz7 => ?_)
  refine tu_iadd F dL_law_1530 (by omega) (fun z8 hz8 => ?_)
  refine va_sld F.1 F.2.1 hX0 hbl hbA h.dd.2.2 (tw_in (by omega) (by omega)) dL_law_1531 ?_
  refine lv_topi (fun z9 qz9 => ?_)
  refine tw_Vi (As := [.int z3, .int z6, .int z9]) F hZ h yk_X11_least mw_1446 mw_1447 mw_1448 (s_X11_least l D cy L R O f0 hI.2.2.2.1 q m_q r_q z3 z6 z9 hI.pi) rfl rfl m_q r_q (fun e q => (T_11 e).mp q) rfl hl.1 rfl (Nat.le_of_ble_eq_true rfl) ⟨Nat.le_of_ble_eq_true rfl, Nat.le_of_ble_eq_true rfl⟩ ⟨hcs, hsl⟩ dL_law_1532 (fun v11 f10 H locs hp10 h => ?_)
  obtain ⟨hf10, hv11p0⟩ := hp10
  have en12a := TNa hTMc hf10 m_q r_q (by decide +kernel) (by decide +kernel) (by decide +kernel)
  have en12c := TNc hTMc hTMn hf10 m_q r_q (by decide +kernel) (by decide +kernel) (by decide +kernel) (by decide +kernel)
  have en12m := TNm t_GT m_GT r_GT hf10 m_rr r_rr (by decide +kernel) (by decide +kernel)
  have et13p := TRp hTMc hf10 m_q r_q (by decide +kernel) (by decide +kernel)
  have et13c := TRc hTMc hf10 m_q r_q (by decide +kernel) (by decide +kernel) (by decide +kernel) (by decide +kernel)
  have et13m := TRm hTMm hf10 m_rr r_rr (by decide +kernel) (by decide +kernel) (by decide +kernel) (by decide +kernel)
  have hTPn : ∀ i, i < 4 → P (trs f10 q i) = i := fun i hi => by rw [et13p i]; exact hTPn i hi
  have hTMc := TMc_of h m_q r_q
  have hTMm := TMm_of h m_rr r_rr
  have hTQn : ∀ i, i < 4 → P (rfa f10 (trs f10 q i) 0) = i := fun i hi => by rw [en12a i hi]; exact hTQn i hi
  have hTMn := TMn_of h hTMc
  have hI : INV L R O P f10 q := hI.ko m_q r_q hf10 (by decide +kernel) (by decide +kernel) (by decide +kernel) (by decide +kernel) hv11p0
  have t_GA : fld f10 rr 0 = .ref GA := (hf10.efl m_rr r_rr (by decide +kernel)).trans t_GA
  have t_GP : fld f10 rr 22 = .ref GP := (hf10.efl m_rr r_rr (by decide +kernel)).trans t_GP
  have t_GL : fld f10 rr 23 = .ref GL := (hf10.efl m_rr r_rr (by decide +kernel)).trans t_GL
  have t_GT : fld f10 rr 6 = .ref GT := (hf10.efl m_rr r_rr (by decide +kernel)).trans t_GT
  have hR : RBA GA f10 := hR.fm hf10 m_GA r_GA (by decide +kernel)
  have hX : GZ GP GL f10 := hX.fm hf10 m_GP r_GP m_GL r_GL (by decide +kernel) (by decide +kernel)
  have hP : fld f10 (rfa f10 q 6) 16 = V := by rw [hf10.erf m_q r_q (by decide +kernel), hf10.efl hs6m hs6r (by decide +kernel)]; exact hP
  have hs6m : rfa f10 q 6 ∈ L := by rw [hf10.erf m_q r_q (by decide +kernel)]; exact hs6m
  have hs6r : R (rfa f10 q 6) = 7 := by rw [hf10.erf m_q r_q (by decide +kernel)]; exact hs6r
  refine lv_pop F.1 F.2.1 dL_law_1535 rfl ?_
  refine lv_aload_n F.1 F.2.1 dL_law_1536 rfl (lv_at hl 1 rfl) ?_
  refine lv_aload_n F.1 F.2.1 dL_law_1537 rfl (lv_at hl 3 rfl) ?_
  refine lv_iload_n F.1 F.2.1 dL_law_1538 rfl (lv_at hl 0 rfl) ?_
  refine tw_iconst F dL_law_1539 ki_1 (fun z14 hz14 => ?_)
  refine tu_iadd F dL_law_1540 (by omega) (fun z15 hz15 => ?_)
  refine va_sld F.1 F.2.1 hX0 hbl hbA h.dd.2.2 (tw_in (by omega) (by omega)) dL_law_1541 ?_
  refine lv_topi (fun z16 qz16 => ?_)
  obtain rfl : z3 = z16 := by rw [qz3, qz16, show z2 = z15 from Int32.toInt_inj.mp (by omega)]
  refine lv_aload_n F.1 F.2.1 dL_law_1542 rfl (lv_at hl 3 rfl) ?_
  refine lv_iload_n F.1 F.2.1 dL_law_1543 rfl (lv_at hl 0 rfl) ?_
  refine tw_iconst F dL_law_1544 ki_2 (fun z17 hz17 => ?_)
  refine tu_iadd F dL_law_1545 (by omega) (fun z18 hz18 => ?_)
  refine va_sld F.1 F.2.1 hX0 hbl hbA h.dd.2.2 (tw_in (by omega) (by omega)) dL_law_1546 ?_
  refine lv_topi (fun z19 qz19 => ?_)
  obtain rfl : z6 = z19 := by rw [qz6, qz19, show z5 = z18 from Int32.toInt_inj.mp (by omega)]
  refine lv_aload_n F.1 F.2.1 dL_law_1547 rfl (lv_at hl 3 rfl) ?_
  refine lv_iload_n F.1 F.2.1 dL_law_1548 rfl (lv_at hl 0 rfl) ?_
  refine tw_iconst F dL_law_1549 ki_3 (fun z20 hz20 => ?_)
  refine tu_iadd F dL_law_1550 (by omega) (fun z21 hz21 => ?_)
  refine va_sld F.1 F.2.1 hX0 hbl hbA h.dd.2.2 (tw_in (by omega) (by omega)) dL_law_1551 ?_
  refine lv_topi (fun z22 qz22 => ?_)
  obtain rfl : z9 = z22 := by rw [qz9, qz22, show z8 = z21 from Int32.toInt_inj.mp (by omega)]
  refine tw_Vi (As := [.int z3, .int z6, .int z9]) F hZ h yk_X12_least mw_1466 mw_1467 mw_1468 (s_X12_least l D cy L R O f10 rr m_rr r_rr z3 z6 z9 GA m_GA r_GA t_GA GP m_GP r_GP t_GP GL m_GL r_GL t_GL GT m_GT r_GT t_GT hR hX) rfl rfl m_rr r_rr (fun e q => (T_12 e).mp q) rfl hl.1 rfl (Nat.le_of_ble_eq_true rfl) ⟨Nat.le_of_ble_eq_true rfl, Nat.le_of_ble_eq_true rfl⟩ ⟨hcs, hsl⟩ dL_law_1552 (fun v24 f23 H locs hp23 h => ?_)
  obtain ⟨hf23, hv24p0, hv24p1⟩ := hp23
  have en25a := TNa hTMc hf23 m_q r_q (by decide +kernel) (by decide +kernel) (by decide +kernel)
  have en25c := TNc hTMc hTMn hf23 m_q r_q (by decide +kernel) (by decide +kernel) (by decide +kernel) (by decide +kernel)
  have en25m := TNm t_GT m_GT r_GT hf23 m_rr r_rr (by decide +kernel) (by decide +kernel)
  have et26p := TRp hTMc hf23 m_q r_q (by decide +kernel) (by decide +kernel)
  have et26c := TRc hTMc hf23 m_q r_q (by decide +kernel) (by decide +kernel) (by decide +kernel) (by decide +kernel)
  have et26m := TRm hTMm hf23 m_rr r_rr (by decide +kernel) (by decide +kernel) (by decide +kernel) (by decide +kernel)
  have hTPn : ∀ i, i < 4 → P (trs f23 q i) = i := fun i hi => by rw [et26p i]; exact hTPn i hi
  have hTMc := TMc_of h m_q r_q
  have hTMm := TMm_of h m_rr r_rr
  have hTQn : ∀ i, i < 4 → P (rfa f23 (trs f23 q i) 0) = i := fun i hi => by rw [en25a i hi]; exact hTQn i hi
  have hTMn := TMn_of h hTMc
  have hI : INV L R O P f23 q := hI.most m_q r_q hf23 (by decide +kernel) (by decide +kernel) (by decide +kernel) (by decide +kernel) (by decide +kernel)
  have t_GA : fld f23 rr 0 = .ref GA := (hf23.efl m_rr r_rr (by decide +kernel)).trans t_GA
  have t_GP : fld f23 rr 22 = .ref GP := (hf23.efl m_rr r_rr (by decide +kernel)).trans t_GP
  have t_GL : fld f23 rr 23 = .ref GL := (hf23.efl m_rr r_rr (by decide +kernel)).trans t_GL
  have t_GT : fld f23 rr 6 = .ref GT := (hf23.efl m_rr r_rr (by decide +kernel)).trans t_GT
  have hR : RBA GA f23 := hv24p0
  have hX : GZ GP GL f23 := hv24p1
  have hP : fld f23 (rfa f23 q 6) 16 = V := by rw [hf23.erf m_q r_q (by decide +kernel), hf23.efl hs6m hs6r (by decide +kernel)]; exact hP
  have hs6m : rfa f23 q 6 ∈ L := by rw [hf23.erf m_q r_q (by decide +kernel)]; exact hs6m
  have hs6r : R (rfa f23 q 6) = 7 := by rw [hf23.erf m_q r_q (by decide +kernel)]; exact hs6r
  refine lv_pop F.1 F.2.1 dL_law_1555 rfl ?_
  refine lv_goto (tgt := 1756) F.1 F.2.1 dL_law_1556 (by decide) ?_
  exact kk f23 _ _ _ ⟨h, hI, ⟨t_GA, t_GP, t_GL, t_GT⟩, hR, hX, hP, hTPn, fun i hi => by have q0 := hTR i hi; have q1 := et13c i hi; have q2 := et13m i; have q3 := et26c i hi; have q4 := et26m i; omega, hTQn, fun i hi j hj => by have q0 := hTR i hi; have q1 := et13c i hi; have q2 := et13m i; have q3 := et26c i hi; have q4 := et26m i; have qb := hCb i hi; have hj6 : j < 60 := (by omega); have n0 := hNR i hi j; have n1 := en12c i hi j; have n2 := en12m i j; have n3 := en25c i hi j; have n4 := en25m i j; omega⟩ hl
theorem dL_law_1559 : decode cL_law 1559 = .ok (.aload_n 1, 1) := by decide +kernel
theorem dL_law_1560 : decode cL_law 1560 = .ok (.invokevirtual 175, 3) := by decide +kernel
theorem mw_1477 : Cond.methodLink RL 175 yX11_leastSet ∈ wsL_law := inr_62 _ (List.mem_of_getElem? (i := 13) rfl)
theorem mw_1480 : Cond.code yX11_leastSet cX11_leastSet 1 (some .int) ∈ wsL_law := inr_62 _ (List.mem_of_getElem? (i := 16) rfl)
theorem yk_X11_leastSet : xY yX11_leastSet RX11 cX11_leastSet 1 (some .int) 0 := ⟨⟨rfl, by decide +kernel, by decide +kernel, by decide +kernel⟩, mw_2, mw_1480⟩
theorem mw_1478 : Cond.instanceMethod yX11_leastSet ∈ wsL_law := inr_62 _ (List.mem_of_getElem? (i := 14) rfl)
theorem mw_1479 : Cond.selects RX11 yX11_leastSet yX11_leastSet ∈ wsL_law := inr_62 _ (List.mem_of_getElem? (i := 15) rfl)
theorem dL_law_1563 : decode cL_law 1563 = .ok (.pop, 1) := by decide +kernel
theorem dL_law_1564 : decode cL_law 1564 = .ok (.aload_n 2, 1) := by decide +kernel
theorem dL_law_1565 : decode cL_law 1565 = .ok (.invokevirtual 178, 3) := by decide +kernel
theorem mw_1482 : Cond.methodLink RL 178 yX12_leastSet ∈ wsL_law := inr_62 _ (List.mem_of_getElem? (i := 18) rfl)
theorem mw_1485 : Cond.code yX12_leastSet cX12_leastSet 1 (some .int) ∈ wsL_law := inr_62 _ (List.mem_of_getElem? (i := 21) rfl)
theorem yk_X12_leastSet : xY yX12_leastSet RX12 cX12_leastSet 1 (some .int) 0 := ⟨⟨rfl, by decide +kernel, by decide +kernel, by decide +kernel⟩, mw_5, mw_1485⟩
theorem mw_1483 : Cond.instanceMethod yX12_leastSet ∈ wsL_law := inr_62 _ (List.mem_of_getElem? (i := 19) rfl)
theorem mw_1484 : Cond.selects RX12 yX12_leastSet yX12_leastSet ∈ wsL_law := inr_62 _ (List.mem_of_getElem? (i := 20) rfl)
theorem dL_law_1568 : decode cL_law 1568 = .ok (.pop, 1) := by decide +kernel
theorem dL_law_1569 : decode cL_law 1569 = .ok (.goto 187, 3) := by decide +kernel
set_option maxHeartbeats 4000000 in
set_option maxRecDepth 100000 in
theorem law_c36 {p : Program} {l : Launch} {e : Env} {s : State} {m : MethodId} {below : List Frame} {meth : Method} {c : Code} {H : Heap} {locs : List Loc} {Q : State → Prop} {D : va_G} {cy : Nat → ClassId} {A : Nat → Prop} {L : List Nat} {R O P : Nat → Nat} {f0 : Nat → va_E} {ls : Array Slot} {b N cs sl q rr GA GP GL GT : Nat} {xs : Nat → Int32} {V : Value} (F : CallFix p m c cL_law 4 s #[Value.ref b] wsL_law RL) (hZ : tZ A s s.heap) (hX0 : va_X b N xs s s.heap) (hbl : b < s.heap.size) (hbA : ¬ A b) (hcs : cs ≤ room_1.cells) (hsl : sl ≤ room_1.slots) (i : Int32) (bi : 0 ≤ i.toInt ∧ i.toInt + 6 ≤ N ∧ N ≤ 3072) (m_q : q ∈ L) (r_q : R q = 11) (m_rr : rr ∈ L) (r_rr : R rr = 12) (m_GA : GA ∈ L) (r_GA : R GA = 61) (m_GP : GP ∈ L) (r_GP : R GP = 69) (m_GL : GL ∈ L) (r_GL : R GL = 70) (m_GT : GT ∈ L) (r_GT : R GT = 64) (hLS : LWS D cy A s L R O P q rr GA GP GL GT V f0 H locs) (hl : lv_has ls 4 [(3, .int i), (2, .ref rr), (1, .ref q), (0, .ref b)]) (kk : ∀ (f1 : Nat → va_E) (H : Heap) (locs : List Loc) (ls : Array Slot), LWS D cy A s L R O P q rr GA GP GL GT V f1 H locs → lv_has ls 4 [(3, .int i), (2, .ref rr), (1, .ref q), (0, .ref b)] → W p l e room_1 s m #[Value.ref b] below meth c H locs cs sl Q (F0 m 1756 ls [])) : W p l e room_1 s m #[Value.ref b] below meth c H locs cs sl Q (F0 m 1559 ls []) := by
  obtain ⟨h, hI, ⟨t_GA, t_GP, t_GL, t_GT⟩, hR, hX, hP, hTP, hTR, hTQ, hNR⟩ := hLS
  have hs6m := hI.2.2.1.1
  have hs6r := hI.2.2.1.2
  have hTMc := TMc_of h m_q r_q
  have hTMm := TMm_of h m_rr r_rr
  have hTPn := hTP
  have hTMn := TMn_of h hTMc
  have hTQn := hTQ
  have hCb := CS_le h m_q r_q
  refine lv_aload_n F.1 F.2.1 dL_law_1559 rfl (lv_at hl 2 rfl) ?_
  refine tw_Vi (As := []) F hZ h yk_X11_leastSet mw_1477 mw_1478 mw_1479 (s_X11_leastSet l D cy L R O f0 q m_q r_q) rfl rfl m_q r_q (fun e q => (T_11 e).mp q) rfl hl.1 rfl (Nat.le_of_ble_eq_true rfl) ⟨Nat.le_of_ble_eq_true rfl, Nat.le_of_ble_eq_true rfl⟩ ⟨hcs, hsl⟩ dL_law_1560 (fun v2 f1 H locs hp1 h => ?_)
  have hf1 := hp1
  have en3a := TNa hTMc hf1 m_q r_q (by decide +kernel) (by decide +kernel) (by decide +kernel)
  have en3c := TNc hTMc hTMn hf1 m_q r_q (by decide +kernel) (by decide +kernel) (by decide +kernel) (by decide +kernel)
  have en3m := TNm t_GT m_GT r_GT hf1 m_rr r_rr (by decide +kernel) (by decide +kernel)
  have et4p := TRp hTMc hf1 m_q r_q (by decide +kernel) (by decide +kernel)
  have et4c := TRc hTMc hf1 m_q r_q (by decide +kernel) (by decide +kernel) (by decide +kernel) (by decide +kernel)
  have et4m := TRm hTMm hf1 m_rr r_rr (by decide +kernel) (by decide +kernel) (by decide +kernel) (by decide +kernel)
  have hTPn : ∀ i, i < 4 → P (trs f1 q i) = i := fun i hi => by rw [et4p i]; exact hTPn i hi
  have hTMc := TMc_of h m_q r_q
  have hTMm := TMm_of h m_rr r_rr
  have hTQn : ∀ i, i < 4 → P (rfa f1 (trs f1 q i) 0) = i := fun i hi => by rw [en3a i hi]; exact hTQn i hi
  have hTMn := TMn_of h hTMc
  have hI : INV L R O P f1 q := hI.most m_q r_q hf1 (by decide +kernel) (by decide +kernel) (by decide +kernel) (by decide +kernel) (by decide +kernel)
  have t_GA : fld f1 rr 0 = .ref GA := (hf1.efl m_rr r_rr (by decide +kernel)).trans t_GA
  have t_GP : fld f1 rr 22 = .ref GP := (hf1.efl m_rr r_rr (by decide +kernel)).trans t_GP
  have t_GL : fld f1 rr 23 = .ref GL := (hf1.efl m_rr r_rr (by decide +kernel)).trans t_GL
  have t_GT : fld f1 rr 6 = .ref GT := (hf1.efl m_rr r_rr (by decide +kernel)).trans t_GT
  have hR : RBA GA f1 := hR.fm hf1 m_GA r_GA (by decide +kernel)
  have hX : GZ GP GL f1 := hX.fm hf1 m_GP r_GP m_GL r_GL (by decide +kernel) (by decide +kernel)
  have hP : fld f1 (rfa f1 q 6) 16 = V := by rw [hf1.erf m_q r_q (by decide +kernel), hf1.efl hs6m hs6r (by decide +kernel)]; exact hP
  have hs6m : rfa f1 q 6 ∈ L := by rw [hf1.erf m_q r_q (by decide +kernel)]; exact hs6m
  have hs6r : R (rfa f1 q 6) = 7 := by rw [hf1.erf m_q r_q (by decide +kernel)]; exact hs6r
  refine lv_pop F.1 F.2.1 dL_law_1563 rfl ?_
  refine lv_aload_n F.1 F.2.1 dL_law_1564 rfl (lv_at hl 1 rfl) ?_
  refine tw_Vi (As := []) F hZ h yk_X12_leastSet mw_1482 mw_1483 mw_1484 (s_X12_leastSet l D cy L R O f1 rr m_rr r_rr) rfl rfl m_rr r_rr (fun e q => (T_12 e).mp q) rfl hl.1 rfl (Nat.le_of_ble_eq_true rfl) ⟨Nat.le_of_ble_eq_true rfl, Nat.le_of_ble_eq_true rfl⟩ ⟨hcs, hsl⟩ dL_law_1565 (fun v6 f5 H locs hp5 h => ?_)
  have hf5 := hp5
  have en7a := TNa hTMc hf5 m_q r_q (by decide +kernel) (by decide +kernel) (by decide +kernel)
  have en7c := TNc hTMc hTMn hf5 m_q r_q (by decide +kernel) (by decide +kernel) (by decide +kernel) (by decide +kernel)
  have en7m := TNm t_GT m_GT r_GT hf5 m_rr r_rr (by decide +kernel) (by decide +kernel)
  have et8p := TRp hTMc hf5 m_q r_q (by decide +kernel) (by decide +kernel)
  have et8c := TRc hTMc hf5 m_q r_q (by decide +kernel) (by decide +kernel) (by decide +kernel) (by decide +kernel)
  have et8m := TRm hTMm hf5 m_rr r_rr (by decide +kernel) (by decide +kernel) (by decide +kernel) (by decide +kernel)
  have hTPn : ∀ i, i < 4 → P (trs f5 q i) = i := fun i hi => by rw [et8p i]; exact hTPn i hi
  have hTMc := TMc_of h m_q r_q
  have hTMm := TMm_of h m_rr r_rr
  have hTQn : ∀ i, i < 4 → P (rfa f5 (trs f5 q i) 0) = i := fun i hi => by rw [en7a i hi]; exact hTQn i hi
  have hTMn := TMn_of h hTMc
  have hI : INV L R O P f5 q := hI.most m_q r_q hf5 (by decide +kernel) (by decide +kernel) (by decide +kernel) (by decide +kernel) (by decide +kernel)
  have t_GA : fld f5 rr 0 = .ref GA := (hf5.efl m_rr r_rr (by decide +kernel)).trans t_GA
  have t_GP : fld f5 rr 22 = .ref GP := (hf5.efl m_rr r_rr (by decide +kernel)).trans t_GP
  have t_GL : fld f5 rr 23 = .ref GL := (hf5.efl m_rr r_rr (by decide +kernel)).trans t_GL
  have t_GT : fld f5 rr 6 = .ref GT := (hf5.efl m_rr r_rr (by decide +kernel)).trans t_GT
  have hR : RBA GA f5 := hR.fm hf5 m_GA r_GA (by decide +kernel)
  have hX : GZ GP GL f5 := hX.fm hf5 m_GP r_GP m_GL r_GL (by decide +kernel) (by decide +kernel)
  have hP : fld f5 (rfa f5 q 6) 16 = V := by rw [hf5.erf m_q r_q (by decide +kernel), hf5.efl hs6m hs6r (by decide +kernel)]; exact hP
  have hs6m : rfa f5 q 6 ∈ L := by rw [hf5.erf m_q r_q (by decide +kernel)]; exact hs6m
  have hs6r : R (rfa f5 q 6) = 7 := by rw [hf5.erf m_q r_q (by decide +kernel)]; exact hs6r
  refine lv_pop F.1 F.2.1 dL_law_1568 rfl ?_
  refine lv_goto (tgt := 1756) F.1 F.2.1 dL_law_1569 (by decide) ?_
  exact kk f5 _ _ _ ⟨h, hI, ⟨t_GA, t_GP, t_GL, t_GT⟩, hR, hX, hP, hTPn, fun i hi => by have q0 := hTR i hi; have q1 := et4c i hi; have q2 := et4m i; have q3 := et8c i hi; have q4 := et8m i; omega, hTQn, fun i hi j hj => by have q0 := hTR i hi; have q1 := et4c i hi; have q2 := et4m i; have q3 := et8c i hi; have q4 := et8m i; have qb := hCb i hi; have hj6 : j < 60 := (by omega); have n0 := hNR i hi j; have n1 := en3c i hi j; have n2 := en3m i j; have n3 := en7c i hi j; have n4 := en7m i j; omega⟩ hl
theorem dL_law_1572 : decode cL_law 1572 = .ok (.aload_n 1, 1) := by decide +kernel
theorem dL_law_1573 : decode cL_law 1573 = .ok (.aload_n 0, 1) := by decide +kernel
theorem dL_law_1574 : decode cL_law 1574 = .ok (.iload_n 3, 1) := by decide +kernel
theorem dL_law_1575 : decode cL_law 1575 = .ok (.iconst 1, 1) := by decide +kernel
theorem dL_law_1576 : decode cL_law 1576 = .ok (.iadd, 1) := by decide +kernel
theorem dL_law_1577 : decode cL_law 1577 = .ok (.iaload, 1) := by decide +kernel
theorem dL_law_1578 : decode cL_law 1578 = .ok (.invokevirtual 179, 3) := by decide +kernel
theorem mw_1486 : Cond.methodLink RL 179 yX11_orders ∈ wsL_law := inr_62 _ (List.mem_of_getElem? (i := 22) rfl)
theorem mw_1489 : Cond.code yX11_orders cX11_orders 3 (some .int) ∈ wsL_law := inr_63 _ (List.mem_of_getElem? (i := 1) rfl)
theorem yk_X11_orders : xY yX11_orders RX11 cX11_orders 3 (some .int) 1 := ⟨⟨rfl, by decide +kernel, by decide +kernel, by decide +kernel⟩, mw_2, mw_1489⟩
theorem mw_1487 : Cond.instanceMethod yX11_orders ∈ wsL_law := inr_62 _ (List.mem_of_getElem? (i := 23) rfl)
theorem mw_1488 : Cond.selects RX11 yX11_orders yX11_orders ∈ wsL_law := inr_63 _ (List.mem_of_getElem? (i := 0) rfl)
theorem dL_law_1581 : decode cL_law 1581 = .ok (.pop, 1) := by decide +kernel
theorem dL_law_1582 : decode cL_law 1582 = .ok (.aload_n 2, 1) := by decide +kernel
theorem dL_law_1583 : decode cL_law 1583 = .ok (.aload_n 0, 1) := by decide +kernel
theorem dL_law_1584 : decode cL_law 1584 = .ok (.iload_n 3, 1) := by decide +kernel
theorem dL_law_1585 : decode cL_law 1585 = .ok (.iconst 1, 1) := by decide +kernel
theorem dL_law_1586 : decode cL_law 1586 = .ok (.iadd, 1) := by decide +kernel
theorem dL_law_1587 : decode cL_law 1587 = .ok (.iaload, 1) := by decide +kernel
theorem dL_law_1588 : decode cL_law 1588 = .ok (.invokevirtual 182, 3) := by decide +kernel
theorem mw_1513 : Cond.methodLink RL 182 yX12_orders ∈ wsL_law := inr_64 _ (List.mem_of_getElem? (i := 1) rfl)
theorem mw_1516 : Cond.code yX12_orders cX12_orders 10 (some .int) ∈ wsL_law := inr_64 _ (List.mem_of_getElem? (i := 4) rfl)
theorem yk_X12_orders : xY yX12_orders RX12 cX12_orders 10 (some .int) 1 := ⟨⟨rfl, by decide +kernel, by decide +kernel, by decide +kernel⟩, mw_5, mw_1516⟩
theorem mw_1514 : Cond.instanceMethod yX12_orders ∈ wsL_law := inr_64 _ (List.mem_of_getElem? (i := 2) rfl)
theorem mw_1515 : Cond.selects RX12 yX12_orders yX12_orders ∈ wsL_law := inr_64 _ (List.mem_of_getElem? (i := 3) rfl)
theorem dL_law_1591 : decode cL_law 1591 = .ok (.pop, 1) := by decide +kernel
theorem dL_law_1592 : decode cL_law 1592 = .ok (.goto 164, 3) := by decide +kernel
set_option maxHeartbeats 4000000 in
set_option maxRecDepth 100000 in
theorem law_c37 {p : Program} {l : Launch} {e : Env} {s : State} {m : MethodId} {below : List Frame} {meth : Method} {c : Code} {H : Heap} {locs : List Loc} {Q : State → Prop} {D : va_G} {cy : Nat → ClassId} {A : Nat → Prop} {L : List Nat} {R O P : Nat → Nat} {f0 : Nat → va_E} {ls : Array Slot} {b N cs sl q rr GA GP GL GT : Nat} {xs : Nat → Int32} {V : Value} (F : CallFix p m c cL_law 4 s #[Value.ref b] wsL_law RL) (hZ : tZ A s s.heap) (hX0 : va_X b N xs s s.heap) (hbl : b < s.heap.size) (hbA : ¬ A b) (hcs : cs ≤ room_1.cells) (hsl : sl ≤ room_1.slots) (i : Int32) (bi : 0 ≤ i.toInt ∧ i.toInt + 6 ≤ N ∧ N ≤ 3072) (m_q : q ∈ L) (r_q : R q = 11) (m_rr : rr ∈ L) (r_rr : R rr = 12) (m_GA : GA ∈ L) (r_GA : R GA = 61) (m_GP : GP ∈ L) (r_GP : R GP = 69) (m_GL : GL ∈ L) (r_GL : R GL = 70) (m_GT : GT ∈ L) (r_GT : R GT = 64) (hLS : LWS D cy A s L R O P q rr GA GP GL GT V f0 H locs) (hl : lv_has ls 4 [(3, .int i), (2, .ref rr), (1, .ref q), (0, .ref b)]) (kk : ∀ (f1 : Nat → va_E) (H : Heap) (locs : List Loc) (ls : Array Slot), LWS D cy A s L R O P q rr GA GP GL GT V f1 H locs → lv_has ls 4 [(3, .int i), (2, .ref rr), (1, .ref q), (0, .ref b)] → W p l e room_1 s m #[Value.ref b] below meth c H locs cs sl Q (F0 m 1756 ls [])) : W p l e room_1 s m #[Value.ref b] below meth c H locs cs sl Q (F0 m 1572 ls []) := by
  obtain ⟨h, hI, ⟨t_GA, t_GP, t_GL, t_GT⟩, hR, hX, hP, hTP, hTR, hTQ, hNR⟩ := hLS
  have hs6m := hI.2.2.1.1
  have hs6r := hI.2.2.1.2
  have hTMc := TMc_of h m_q r_q
  have hTMm := TMm_of h m_rr r_rr
  have hTPn := hTP
  have hTMn := TMn_of h hTMc
  have hTQn := hTQ
  have hCb := CS_le h m_q r_q
  refine lv_aload_n F.1 F.2.1 dL_law_1572 rfl (lv_at hl 2 rfl) ?_
  refine lv_aload_n F.1 F.2.1 dL_law_1573 rfl (lv_at hl 3 rfl) ?_
  refine lv_iload_n F.1 F.2.1 dL_law_1574 rfl (lv_at hl 0 rfl) ?_
  refine tw_iconst F dL_law_1575 ki_1 (fun z1 hz1 => ?_)
  refine tu_iadd F dL_law_1576 (by omega) (fun z2 hz2 => ?_)
  refine va_sld F.1 F.2.1 hX0 hbl hbA h.dd.2.2 (tw_in (by omega) (by omega)) dL_law_1577 ?_
  refine lv_topi (fun z3 qz3 => ?_)
  refine tw_Vi (As := [.int z3]) F hZ h yk_X11_orders mw_1486 mw_1487 mw_1488 (s_X11_orders l D cy L R O f0 hI.2.2.2.1 q m_q r_q z3 hI.pi) rfl rfl m_q r_q (fun e q => (T_11 e).mp q) rfl hl.1 rfl (Nat.le_of_ble_eq_true rfl) ⟨Nat.le_of_ble_eq_true rfl, Nat.le_of_ble_eq_true rfl⟩ ⟨hcs, hsl⟩ dL_law_1578 (fun v5 f4 H locs hp4 h => ?_)
  obtain ⟨hf4, hv5p0⟩ := hp4
  have en6a := TNa hTMc hf4 m_q r_q (by decide +kernel) (by decide +kernel) (by decide +kernel)
  have en6c := TNc hTMc hTMn hf4 m_q r_q (by decide +kernel) (by decide +kernel) (by decide +kernel) (by decide +kernel)
  have en6m := TNm t_GT m_GT r_GT hf4 m_rr r_rr (by decide +kernel) (by decide +kernel)
  have et7p := TRp hTMc hf4 m_q r_q (by decide +kernel) (by decide +kernel)
  have et7c := TRc hTMc hf4 m_q r_q (by decide +kernel) (by decide +kernel) (by decide +kernel) (by decide +kernel)
  have et7m := TRm hTMm hf4 m_rr r_rr (by decide +kernel) (by decide +kernel) (by decide +kernel) (by decide +kernel)
  have hTPn : ∀ i, i < 4 → P (trs f4 q i) = i := fun i hi => by rw [et7p i]; exact hTPn i hi
  have hTMc := TMc_of h m_q r_q
  have hTMm := TMm_of h m_rr r_rr
  have hTQn : ∀ i, i < 4 → P (rfa f4 (trs f4 q i) 0) = i := fun i hi => by rw [en6a i hi]; exact hTQn i hi
  have hTMn := TMn_of h hTMc
  have hI : INV L R O P f4 q := hI.ko m_q r_q hf4 (by decide +kernel) (by decide +kernel) (by decide +kernel) (by decide +kernel) hv5p0
  have t_GA : fld f4 rr 0 = .ref GA := (hf4.efl m_rr r_rr (by decide +kernel)).trans t_GA
  have t_GP : fld f4 rr 22 = .ref GP := (hf4.efl m_rr r_rr (by decide +kernel)).trans t_GP
  have t_GL : fld f4 rr 23 = .ref GL := (hf4.efl m_rr r_rr (by decide +kernel)).trans t_GL
  have t_GT : fld f4 rr 6 = .ref GT := (hf4.efl m_rr r_rr (by decide +kernel)).trans t_GT
  have hR : RBA GA f4 := hR.fm hf4 m_GA r_GA (by decide +kernel)
  have hX : GZ GP GL f4 := hX.fm hf4 m_GP r_GP m_GL r_GL (by decide +kernel) (by decide +kernel)
  have hP : fld f4 (rfa f4 q 6) 16 = V := by rw [hf4.erf m_q r_q (by decide +kernel), hf4.efl hs6m hs6r (by decide +kernel)]; exact hP
  have hs6m : rfa f4 q 6 ∈ L := by rw [hf4.erf m_q r_q (by decide +kernel)]; exact hs6m
  have hs6r : R (rfa f4 q 6) = 7 := by rw [hf4.erf m_q r_q (by decide +kernel)]; exact hs6r
  refine lv_pop F.1 F.2.1 dL_law_1581 rfl ?_
  refine lv_aload_n F.1 F.2.1 dL_law_1582 rfl (lv_at hl 1 rfl) ?_
  refine lv_aload_n F.1 F.2.1 dL_law_1583 rfl (lv_at hl 3 rfl) ?_
  refine lv_iload_n F.1 F.2.1 dL_law_1584 rfl (lv_at hl 0 rfl) ?_
  refine tw_iconst F dL_law_1585 ki_1 (fun z8 hz8 => ?_)
  refine tu_iadd F dL_law_1586 (by omega) (fun z9 hz9 => ?_)
  refine va_sld F.1 F.2.1 hX0 hbl hbA h.dd.2.2 (tw_in (by omega) (by omega)) dL_law_1587 ?_
  refine lv_topi (fun z10 qz10 => ?_)
  obtain rfl : z3 = z10 := by rw [qz3, qz10, show z2 = z9 from Int32.toInt_inj.mp (by omega)]
  refine tw_Vi (As := [.int z3]) F hZ h yk_X12_orders mw_1513 mw_1514 mw_1515 (s_X12_orders l D cy L R O f4 rr m_rr r_rr z3 GA m_GA r_GA t_GA GP m_GP r_GP t_GP GL m_GL r_GL t_GL GT m_GT r_GT t_GT hR hX) rfl rfl m_rr r_rr (fun e q => (T_12 e).mp q) rfl hl.1 rfl (Nat.le_of_ble_eq_true rfl) ⟨Nat.le_of_ble_eq_true rfl, Nat.le_of_ble_eq_true rfl⟩ ⟨hcs, hsl⟩ dL_law_1588 (fun v12 f11 H locs hp11 h => ?_)
  obtain ⟨hf11, hv12p0, hv12p1⟩ := hp11
  have en13a := TNa hTMc hf11 m_q r_q (by decide +kernel) (by decide +kernel) (by decide +kernel)
  have en13c := TNc hTMc hTMn hf11 m_q r_q (by decide +kernel) (by decide +kernel) (by decide +kernel) (by decide +kernel)
  have en13m := TNm t_GT m_GT r_GT hf11 m_rr r_rr (by decide +kernel) (by decide +kernel)
  have et14p := TRp hTMc hf11 m_q r_q (by decide +kernel) (by decide +kernel)
  have et14c := TRc hTMc hf11 m_q r_q (by decide +kernel) (by decide +kernel) (by decide +kernel) (by decide +kernel)
  have et14m := TRm hTMm hf11 m_rr r_rr (by decide +kernel) (by decide +kernel) (by decide +kernel) (by decide +kernel)
  have hTPn : ∀ i, i < 4 → P (trs f11 q i) = i := fun i hi => by rw [et14p i]; exact hTPn i hi
  have hTMc := TMc_of h m_q r_q
  have hTMm := TMm_of h m_rr r_rr
  have hTQn : ∀ i, i < 4 → P (rfa f11 (trs f11 q i) 0) = i := fun i hi => by rw [en13a i hi]; exact hTQn i hi
  have hTMn := TMn_of h hTMc
  have hI : INV L R O P f11 q := hI.most m_q r_q hf11 (by decide +kernel) (by decide +kernel) (by decide +kernel) (by decide +kernel) (by decide +kernel)
  have t_GA : fld f11 rr 0 = .ref GA := (hf11.efl m_rr r_rr (by decide +kernel)).trans t_GA
  have t_GP : fld f11 rr 22 = .ref GP := (hf11.efl m_rr r_rr (by decide +kernel)).trans t_GP
  have t_GL : fld f11 rr 23 = .ref GL := (hf11.efl m_rr r_rr (by decide +kernel)).trans t_GL
  have t_GT : fld f11 rr 6 = .ref GT := (hf11.efl m_rr r_rr (by decide +kernel)).trans t_GT
  have hR : RBA GA f11 := hv12p0
  have hX : GZ GP GL f11 := hv12p1
  have hP : fld f11 (rfa f11 q 6) 16 = V := by rw [hf11.erf m_q r_q (by decide +kernel), hf11.efl hs6m hs6r (by decide +kernel)]; exact hP
  have hs6m : rfa f11 q 6 ∈ L := by rw [hf11.erf m_q r_q (by decide +kernel)]; exact hs6m
  have hs6r : R (rfa f11 q 6) = 7 := by rw [hf11.erf m_q r_q (by decide +kernel)]; exact hs6r
  refine lv_pop F.1 F.2.1 dL_law_1591 rfl ?_
  refine lv_goto (tgt := 1756) F.1 F.2.1 dL_law_1592 (by decide) ?_
  exact kk f11 _ _ _ ⟨h, hI, ⟨t_GA, t_GP, t_GL, t_GT⟩, hR, hX, hP, hTPn, fun i hi => by have q0 := hTR i hi; have q1 := et7c i hi; have q2 := et7m i; have q3 := et14c i hi; have q4 := et14m i; omega, hTQn, fun i hi j hj => by have q0 := hTR i hi; have q1 := et7c i hi; have q2 := et7m i; have q3 := et14c i hi; have q4 := et14m i; have qb := hCb i hi; have hj6 : j < 60 := (by omega); have n0 := hNR i hi j; have n1 := en6c i hi j; have n2 := en6m i j; have n3 := en13c i hi j; have n4 := en13m i j; omega⟩ hl
theorem dL_law_1595 : decode cL_law 1595 = .ok (.aload_n 1, 1) := by decide +kernel
theorem dL_law_1596 : decode cL_law 1596 = .ok (.aload_n 0, 1) := by decide +kernel
theorem dL_law_1597 : decode cL_law 1597 = .ok (.iload_n 3, 1) := by decide +kernel
theorem dL_law_1598 : decode cL_law 1598 = .ok (.iconst 1, 1) := by decide +kernel
theorem dL_law_1599 : decode cL_law 1599 = .ok (.iadd, 1) := by decide +kernel
theorem dL_law_1600 : decode cL_law 1600 = .ok (.iaload, 1) := by decide +kernel
theorem dL_law_1601 : decode cL_law 1601 = .ok (.aload_n 0, 1) := by decide +kernel
theorem dL_law_1602 : decode cL_law 1602 = .ok (.iload_n 3, 1) := by decide +kernel
theorem dL_law_1603 : decode cL_law 1603 = .ok (.iconst 2, 1) := by decide +kernel
theorem dL_law_1604 : decode cL_law 1604 = .ok (.iadd, 1) := by decide +kernel
theorem dL_law_1605 : decode cL_law 1605 = .ok (.iaload, 1) := by decide +kernel
theorem dL_law_1606 : decode cL_law 1606 = .ok (.invokevirtual 183, 3) := by decide +kernel
theorem mw_1522 : Cond.methodLink RL 183 yX11_ahead ∈ wsL_law := inr_64 _ (List.mem_of_getElem? (i := 10) rfl)
theorem mw_1525 : Cond.code yX11_ahead cX11_ahead 3 (some .int) ∈ wsL_law := inr_64 _ (List.mem_of_getElem? (i := 13) rfl)
theorem yk_X11_ahead : xY yX11_ahead RX11 cX11_ahead 3 (some .int) 2 := ⟨⟨rfl, by decide +kernel, by decide +kernel, by decide +kernel⟩, mw_2, mw_1525⟩
theorem mw_1523 : Cond.instanceMethod yX11_ahead ∈ wsL_law := inr_64 _ (List.mem_of_getElem? (i := 11) rfl)
theorem mw_1524 : Cond.selects RX11 yX11_ahead yX11_ahead ∈ wsL_law := inr_64 _ (List.mem_of_getElem? (i := 12) rfl)
theorem dL_law_1609 : decode cL_law 1609 = .ok (.pop, 1) := by decide +kernel
theorem dL_law_1610 : decode cL_law 1610 = .ok (.aload_n 2, 1) := by decide +kernel
theorem dL_law_1611 : decode cL_law 1611 = .ok (.aload_n 0, 1) := by decide +kernel
theorem dL_law_1612 : decode cL_law 1612 = .ok (.iload_n 3, 1) := by decide +kernel
theorem dL_law_1613 : decode cL_law 1613 = .ok (.iconst 1, 1) := by decide +kernel
theorem dL_law_1614 : decode cL_law 1614 = .ok (.iadd, 1) := by decide +kernel
theorem dL_law_1615 : decode cL_law 1615 = .ok (.iaload, 1) := by decide +kernel
theorem dL_law_1616 : decode cL_law 1616 = .ok (.aload_n 0, 1) := by decide +kernel
theorem dL_law_1617 : decode cL_law 1617 = .ok (.iload_n 3, 1) := by decide +kernel
theorem dL_law_1618 : decode cL_law 1618 = .ok (.iconst 2, 1) := by decide +kernel
theorem dL_law_1619 : decode cL_law 1619 = .ok (.iadd, 1) := by decide +kernel
theorem dL_law_1620 : decode cL_law 1620 = .ok (.iaload, 1) := by decide +kernel
theorem dL_law_1621 : decode cL_law 1621 = .ok (.invokevirtual 186, 3) := by decide +kernel
theorem mw_1528 : Cond.methodLink RL 186 yX12_ahead ∈ wsL_law := inr_64 _ (List.mem_of_getElem? (i := 16) rfl)
theorem mw_1531 : Cond.code yX12_ahead cX12_ahead 3 (some .int) ∈ wsL_law := inr_64 _ (List.mem_of_getElem? (i := 19) rfl)
theorem yk_X12_ahead : xY yX12_ahead RX12 cX12_ahead 3 (some .int) 2 := ⟨⟨rfl, by decide +kernel, by decide +kernel, by decide +kernel⟩, mw_5, mw_1531⟩
theorem mw_1529 : Cond.instanceMethod yX12_ahead ∈ wsL_law := inr_64 _ (List.mem_of_getElem? (i := 17) rfl)
theorem mw_1530 : Cond.selects RX12 yX12_ahead yX12_ahead ∈ wsL_law := inr_64 _ (List.mem_of_getElem? (i := 18) rfl)
theorem dL_law_1624 : decode cL_law 1624 = .ok (.pop, 1) := by decide +kernel
theorem dL_law_1625 : decode cL_law 1625 = .ok (.goto 131, 3) := by decide +kernel
set_option maxHeartbeats 4000000 in
set_option maxRecDepth 100000 in
theorem law_c38 {p : Program} {l : Launch} {e : Env} {s : State} {m : MethodId} {below : List Frame} {meth : Method} {c : Code} {H : Heap} {locs : List Loc} {Q : State → Prop} {D : va_G} {cy : Nat → ClassId} {A : Nat → Prop} {L : List Nat} {R O P : Nat → Nat} {f0 : Nat → va_E} {ls : Array Slot} {b N cs sl q rr GA GP GL GT : Nat} {xs : Nat → Int32} {V : Value} (F : CallFix p m c cL_law 4 s #[Value.ref b] wsL_law RL) (hZ : tZ A s s.heap) (hX0 : va_X b N xs s s.heap) (hbl : b < s.heap.size) (hbA : ¬ A b) (hcs : cs ≤ room_1.cells) (hsl : sl ≤ room_1.slots) (i : Int32) (bi : 0 ≤ i.toInt ∧ i.toInt + 6 ≤ N ∧ N ≤ 3072) (m_q : q ∈ L) (r_q : R q = 11) (m_rr : rr ∈ L) (r_rr : R rr = 12) (m_GA : GA ∈ L) (r_GA : R GA = 61) (m_GP : GP ∈ L) (r_GP : R GP = 69) (m_GL : GL ∈ L) (r_GL : R GL = 70) (m_GT : GT ∈ L) (r_GT : R GT = 64) (hLS : LWS D cy A s L R O P q rr GA GP GL GT V f0 H locs) (hl : lv_has ls 4 [(3, .int i), (2, .ref rr), (1, .ref q), (0, .ref b)]) (kk : ∀ (f1 : Nat → va_E) (H : Heap) (locs : List Loc) (ls : Array Slot), LWS D cy A s L R O P q rr GA GP GL GT V f1 H locs → lv_has ls 4 [(3, .int i), (2, .ref rr), (1, .ref q), (0, .ref b)] → W p l e room_1 s m #[Value.ref b] below meth c H locs cs sl Q (F0 m 1756 ls [])) : W p l e room_1 s m #[Value.ref b] below meth c H locs cs sl Q (F0 m 1595 ls []) := by
  obtain ⟨h, hI, ⟨t_GA, t_GP, t_GL, t_GT⟩, hR, hX, hP, hTP, hTR, hTQ, hNR⟩ := hLS
  have hs6m := hI.2.2.1.1
  have hs6r := hI.2.2.1.2
  have hTMc := TMc_of h m_q r_q
  have hTMm := TMm_of h m_rr r_rr
  have hTPn := hTP
  have hTMn := TMn_of h hTMc
  have hTQn := hTQ
  have hCb := CS_le h m_q r_q
  refine lv_aload_n F.1 F.2.1 dL_law_1595 rfl (lv_at hl 2 rfl) ?_
  refine lv_aload_n F.1 F.2.1 dL_law_1596 rfl (lv_at hl 3 rfl) ?_
  refine lv_iload_n F.1 F.2.1 dL_law_1597 rfl (lv_at hl 0 rfl) ?_
  refine tw_iconst F dL_law_1598 ki_1 (fun z1 hz1 => ?_)
  refine tu_iadd F dL_law_1599 (by omega) (fun z2 hz2 => ?_)
  refine va_sld F.1 F.2.1 hX0 hbl hbA h.dd.2.2 (tw_in (by omega) (by omega)) dL_law_1600 ?_
  refine lv_topi (fun z3 qz3 => ?_)
  refine lv_aload_n F.1 F.2.1 dL_law_1601 rfl (lv_at hl 3 rfl) ?_
  refine lv_iload_n F.1 F.2.1 dL_law_1602 rfl (lv_at hl 0 rfl) ?_
  refine tw_iconst F dL_law_1603 ki_2 (fun z4 hz4 => ?_)
  refine tu_iadd F dL_law_1604 (by omega) (fun z5 hz5 => ?_)
  refine va_sld F.1 F.2.1 hX0 hbl hbA h.dd.2.2 (tw_in (by omega) (by omega)) dL_law_1605 ?_
  refine lv_topi (fun z6 qz6 => ?_)
  refine tw_Vi (As := [.int z3, .int z6]) F hZ h yk_X11_ahead mw_1522 mw_1523 mw_1524 (s_X11_ahead l D cy L R O f0 q m_q r_q z3 z6) rfl rfl m_q r_q (fun e q => (T_11 e).mp q) rfl hl.1 rfl (Nat.le_of_ble_eq_true rfl) ⟨Nat.le_of_ble_eq_true rfl, Nat.le_of_ble_eq_true rfl⟩ ⟨hcs, hsl⟩ dL_law_1606 (fun v8 f7 H locs hp7 h => ?_)
  have hf7 := hp7
  have en9a := TNa hTMc hf7 m_q r_q (by decide +kernel) (by decide +kernel) (by decide +kernel)
  have en9c := TNc hTMc hTMn hf7 m_q r_q (by decide +kernel) (by decide +kernel) (by decide +kernel) (by decide +kernel)
  have en9m := TNm t_GT m_GT r_GT hf7 m_rr r_rr (by decide +kernel) (by decide +kernel)
  have et10p := TRp hTMc hf7 m_q r_q (by decide +kernel) (by decide +kernel)
  have et10c := TRc hTMc hf7 m_q r_q (by decide +kernel) (by decide +kernel) (by decide +kernel) (by decide +kernel)
  have et10m := TRm hTMm hf7 m_rr r_rr (by decide +kernel) (by decide +kernel) (by decide +kernel) (by decide +kernel)
  have hTPn : ∀ i, i < 4 → P (trs f7 q i) = i := fun i hi => by rw [et10p i]; exact hTPn i hi
  have hTMc := TMc_of h m_q r_q
  have hTMm := TMm_of h m_rr r_rr
  have hTQn : ∀ i, i < 4 → P (rfa f7 (trs f7 q i) 0) = i := fun i hi => by rw [en9a i hi]; exact hTQn i hi
  have hTMn := TMn_of h hTMc
  have hI : INV L R O P f7 q := hI.most m_q r_q hf7 (by decide +kernel) (by decide +kernel) (by decide +kernel) (by decide +kernel) (by decide +kernel)
  have t_GA : fld f7 rr 0 = .ref GA := (hf7.efl m_rr r_rr (by decide +kernel)).trans t_GA
  have t_GP : fld f7 rr 22 = .ref GP := (hf7.efl m_rr r_rr (by decide +kernel)).trans t_GP
  have t_GL : fld f7 rr 23 = .ref GL := (hf7.efl m_rr r_rr (by decide +kernel)).trans t_GL
  have t_GT : fld f7 rr 6 = .ref GT := (hf7.efl m_rr r_rr (by decide +kernel)).trans t_GT
  have hR : RBA GA f7 := hR.fm hf7 m_GA r_GA (by decide +kernel)
  have hX : GZ GP GL f7 := hX.fm hf7 m_GP r_GP m_GL r_GL (by decide +kernel) (by decide +kernel)
  have hP : fld f7 (rfa f7 q 6) 16 = V := by rw [hf7.erf m_q r_q (by decide +kernel), hf7.efl hs6m hs6r (by decide +kernel)]; exact hP
  have hs6m : rfa f7 q 6 ∈ L := by rw [hf7.erf m_q r_q (by decide +kernel)]; exact hs6m
  have hs6r : R (rfa f7 q 6) = 7 := by rw [hf7.erf m_q r_q (by decide +kernel)]; exact hs6r
  refine lv_pop F.1 F.2.1 dL_law_1609 rfl ?_
  refine lv_aload_n F.1 F.2.1 dL_law_1610 rfl (lv_at hl 1 rfl) ?_
  refine lv_aload_n F.1 F.2.1 dL_law_1611 rfl (lv_at hl 3 rfl) ?_
  refine lv_iload_n F.1 F.2.1 dL_law_1612 rfl (lv_at hl 0 rfl) ?_
  refine tw_iconst F dL_law_1613 ki_1 (fun z11 hz11 => ?_)
  refine tu_iadd F dL_law_1614 (by omega) (fun z12 hz12 => ?_)
  refine va_sld F.1 F.2.1 hX0 hbl hbA h.dd.2.2 (tw_in (by omega) (by omega)) dL_law_1615 ?_
  refine lv_topi (fun z13 qz13 => ?_)
  obtain rfl : z3 = z13 := by rw [qz3, qz13, show z2 = z12 from Int32.toInt_inj.mp (by omega)]
  refine lv_aload_n F.1 F.2.1 dL_law_1616 rfl (lv_at hl 3 rfl) ?_
  refine lv_iload_n F.1 F.2.1 dL_law_1617 rfl (lv_at hl 0 rfl) ?_
  refine tw_iconst F dL_law_1618 ki_2 (fun z14 hz14 => ?_)
  refine tu_iadd F dL_law_1619 (by omega) (fun z15 hz15 => ?_)
  refine va_sld F.1 F.2.1 hX0 hbl hbA h.dd.2.2 (tw_in (by omega) (by omega)) dL_law_1620 ?_
  refine lv_topi (fun z16 qz16 => ?_)
  obtain rfl : z6 = z16 := by rw [qz6, qz16, show z5 = z15 from Int32.toInt_inj.mp (by omega)]
  refine tw_Vi (As := [.int z3, .int z6]) F hZ h yk_X12_ahead mw_1528 mw_1529 mw_1530 (s_X12_ahead l D cy L R O f7 rr m_rr r_rr z3 z6) rfl rfl m_rr r_rr (fun e q => (T_12 e).mp q) rfl hl.1 rfl (Nat.le_of_ble_eq_true rfl) ⟨Nat.le_of_ble_eq_true rfl, Nat.le_of_ble_eq_true rfl⟩ ⟨hcs, hsl⟩ dL_law_1621 (fun v18 f17 H locs hp17 h => ?_)
  have hf17 := hp17
  have en19a := TNa hTMc hf17 m_q r_q (by decide +kernel) (by decide +kernel) (by decide +kernel)
  have en19c := TNc hTMc hTMn hf17 m_q r_q (by decide +kernel) (by decide +kernel) (by decide +kernel) (by decide +kernel)
  have en19m := TNm t_GT m_GT r_GT hf17 m_rr r_rr (by decide +kernel) (by decide +kernel)
  have et20p := TRp hTMc hf17 m_q r_q (by decide +kernel) (by decide +kernel)
  have et20c := TRc hTMc hf17 m_q r_q (by decide +kernel) (by decide +kernel) (by decide +kernel) (by decide +kernel)
  have et20m := TRm hTMm hf17 m_rr r_rr (by decide +kernel) (by decide +kernel) (by decide +kernel) (by decide +kernel)
  have hTPn : ∀ i, i < 4 → P (trs f17 q i) = i := fun i hi => by rw [et20p i]; exact hTPn i hi
  have hTMc := TMc_of h m_q r_q
  have hTMm := TMm_of h m_rr r_rr
  have hTQn : ∀ i, i < 4 → P (rfa f17 (trs f17 q i) 0) = i := fun i hi => by rw [en19a i hi]; exact hTQn i hi
  have hTMn := TMn_of h hTMc
  have hI : INV L R O P f17 q := hI.most m_q r_q hf17 (by decide +kernel) (by decide +kernel) (by decide +kernel) (by decide +kernel) (by decide +kernel)
  have t_GA : fld f17 rr 0 = .ref GA := (hf17.efl m_rr r_rr (by decide +kernel)).trans t_GA
  have t_GP : fld f17 rr 22 = .ref GP := (hf17.efl m_rr r_rr (by decide +kernel)).trans t_GP
  have t_GL : fld f17 rr 23 = .ref GL := (hf17.efl m_rr r_rr (by decide +kernel)).trans t_GL
  have t_GT : fld f17 rr 6 = .ref GT := (hf17.efl m_rr r_rr (by decide +kernel)).trans t_GT
  have hR : RBA GA f17 := hR.fm hf17 m_GA r_GA (by decide +kernel)
  have hX : GZ GP GL f17 := hX.fm hf17 m_GP r_GP m_GL r_GL (by decide +kernel) (by decide +kernel)
  have hP : fld f17 (rfa f17 q 6) 16 = V := by rw [hf17.erf m_q r_q (by decide +kernel), hf17.efl hs6m hs6r (by decide +kernel)]; exact hP
  have hs6m : rfa f17 q 6 ∈ L := by rw [hf17.erf m_q r_q (by decide +kernel)]; exact hs6m
  have hs6r : R (rfa f17 q 6) = 7 := by rw [hf17.erf m_q r_q (by decide +kernel)]; exact hs6r
  refine lv_pop F.1 F.2.1 dL_law_1624 rfl ?_
  refine lv_goto (tgt := 1756) F.1 F.2.1 dL_law_1625 (by decide) ?_
  exact kk f17 _ _ _ ⟨h, hI, ⟨t_GA, t_GP, t_GL, t_GT⟩, hR, hX, hP, hTPn, fun i hi => by have q0 := hTR i hi; have q1 := et10c i hi; have q2 := et10m i; have q3 := et20c i hi; have q4 := et20m i; omega, hTQn, fun i hi j hj => by have q0 := hTR i hi; have q1 := et10c i hi; have q2 := et10m i; have q3 := et20c i hi; have q4 := et20m i; have qb := hCb i hi; have hj6 : j < 60 := (by omega); have n0 := hNR i hi j; have n1 := en9c i hi j; have n2 := en9m i j; have n3 := en19c i hi j; have n4 := en19m i j; omega⟩ hl
theorem dL_law_1628 : decode cL_law 1628 = .ok (.aload_n 1, 1) := by decide +kernel
theorem dL_law_1629 : decode cL_law 1629 = .ok (.aload_n 0, 1) := by decide +kernel
theorem dL_law_1630 : decode cL_law 1630 = .ok (.iload_n 3, 1) := by decide +kernel
theorem dL_law_1631 : decode cL_law 1631 = .ok (.iconst 1, 1) := by decide +kernel
theorem dL_law_1632 : decode cL_law 1632 = .ok (.iadd, 1) := by decide +kernel
theorem dL_law_1633 : decode cL_law 1633 = .ok (.iaload, 1) := by decide +kernel
theorem dL_law_1634 : decode cL_law 1634 = .ok (.aload_n 0, 1) := by decide +kernel
theorem dL_law_1635 : decode cL_law 1635 = .ok (.iload_n 3, 1) := by decide +kernel
theorem dL_law_1636 : decode cL_law 1636 = .ok (.iconst 2, 1) := by decide +kernel
theorem dL_law_1637 : decode cL_law 1637 = .ok (.iadd, 1) := by decide +kernel
theorem dL_law_1638 : decode cL_law 1638 = .ok (.iaload, 1) := by decide +kernel
theorem dL_law_1639 : decode cL_law 1639 = .ok (.ifCond .eq 7, 3) := by decide +kernel
theorem dL_law_1646 : decode cL_law 1646 = .ok (.iconst 0, 1) := by decide +kernel
theorem dL_law_1647 : decode cL_law 1647 = .ok (.invokevirtual 187, 3) := by decide +kernel
theorem mw_1532 : Cond.methodLink RL 187 yX11_leave ∈ wsL_law := inr_64 _ (List.mem_of_getElem? (i := 20) rfl)
theorem mw_1535 : Cond.code yX11_leave cX11_leave 3 (some .boolean) ∈ wsL_law := inr_64 _ (List.mem_of_getElem? (i := 23) rfl)
theorem yk_X11_leave : xY yX11_leave RX11 cX11_leave 3 (some .boolean) 2 := ⟨⟨rfl, by decide +kernel, by decide +kernel, by decide +kernel⟩, mw_2, mw_1535⟩
theorem mw_1533 : Cond.instanceMethod yX11_leave ∈ wsL_law := inr_64 _ (List.mem_of_getElem? (i := 21) rfl)
theorem mw_1534 : Cond.selects RX11 yX11_leave yX11_leave ∈ wsL_law := inr_64 _ (List.mem_of_getElem? (i := 22) rfl)
theorem dL_law_1650 : decode cL_law 1650 = .ok (.pop, 1) := by decide +kernel
theorem dL_law_1651 : decode cL_law 1651 = .ok (.aload_n 2, 1) := by decide +kernel
theorem dL_law_1652 : decode cL_law 1652 = .ok (.aload_n 0, 1) := by decide +kernel
theorem dL_law_1653 : decode cL_law 1653 = .ok (.iload_n 3, 1) := by decide +kernel
theorem dL_law_1654 : decode cL_law 1654 = .ok (.iconst 1, 1) := by decide +kernel
theorem dL_law_1655 : decode cL_law 1655 = .ok (.iadd, 1) := by decide +kernel
theorem dL_law_1656 : decode cL_law 1656 = .ok (.iaload, 1) := by decide +kernel
theorem dL_law_1657 : decode cL_law 1657 = .ok (.aload_n 0, 1) := by decide +kernel
theorem dL_law_1658 : decode cL_law 1658 = .ok (.iload_n 3, 1) := by decide +kernel
theorem dL_law_1659 : decode cL_law 1659 = .ok (.iconst 2, 1) := by decide +kernel
theorem dL_law_1660 : decode cL_law 1660 = .ok (.iadd, 1) := by decide +kernel
theorem dL_law_1661 : decode cL_law 1661 = .ok (.iaload, 1) := by decide +kernel
theorem dL_law_1662 : decode cL_law 1662 = .ok (.ifCond .eq 7, 3) := by decide +kernel
theorem dL_law_1669 : decode cL_law 1669 = .ok (.iconst 0, 1) := by decide +kernel
theorem dL_law_1670 : decode cL_law 1670 = .ok (.invokevirtual 191, 3) := by decide +kernel
theorem mw_1537 : Cond.methodLink RL 191 yX12_leave ∈ wsL_law := inr_65 _ (List.mem_of_getElem? (i := 1) rfl)
theorem mw_1540 : Cond.code yX12_leave cX12_leave 3 (some .boolean) ∈ wsL_law := inr_65 _ (List.mem_of_getElem? (i := 4) rfl)
theorem yk_X12_leave : xY yX12_leave RX12 cX12_leave 3 (some .boolean) 2 := ⟨⟨rfl, by decide +kernel, by decide +kernel, by decide +kernel⟩, mw_5, mw_1540⟩
theorem mw_1538 : Cond.instanceMethod yX12_leave ∈ wsL_law := inr_65 _ (List.mem_of_getElem? (i := 2) rfl)
theorem mw_1539 : Cond.selects RX12 yX12_leave yX12_leave ∈ wsL_law := inr_65 _ (List.mem_of_getElem? (i := 3) rfl)
theorem dL_law_1673 : decode cL_law 1673 = .ok (.pop, 1) := by decide +kernel
theorem dL_law_1674 : decode cL_law 1674 = .ok (.goto 82, 3) := by decide +kernel
theorem dL_law_1665 : decode cL_law 1665 = .ok (.iconst 1, 1) := by decide +kernel
theorem dL_law_1666 : decode cL_law 1666 = .ok (.goto 4, 3) := by decide +kernel
theorem dL_law_1642 : decode cL_law 1642 = .ok (.iconst 1, 1) := by decide +kernel
theorem dL_law_1643 : decode cL_law 1643 = .ok (.goto 4, 3) := by decide +kernel
set_option maxHeartbeats 4000000 in
set_option maxRecDepth 100000 in
theorem law_c39 {p : Program} {l : Launch} {e : Env} {s : State} {m : MethodId} {below : List Frame} {meth : Method} {c : Code} {H : Heap} {locs : List Loc} {Q : State → Prop} {D : va_G} {cy : Nat → ClassId} {A : Nat → Prop} {L : List Nat} {R O P : Nat → Nat} {f0 : Nat → va_E} {ls : Array Slot} {b N cs sl q rr GA GP GL GT : Nat} {xs : Nat → Int32} {V : Value} (F : CallFix p m c cL_law 4 s #[Value.ref b] wsL_law RL) (hZ : tZ A s s.heap) (hX0 : va_X b N xs s s.heap) (hbl : b < s.heap.size) (hbA : ¬ A b) (hcs : cs ≤ room_1.cells) (hsl : sl ≤ room_1.slots) (i : Int32) (bi : 0 ≤ i.toInt ∧ i.toInt + 6 ≤ N ∧ N ≤ 3072) (m_q : q ∈ L) (r_q : R q = 11) (m_rr : rr ∈ L) (r_rr : R rr = 12) (m_GA : GA ∈ L) (r_GA : R GA = 61) (m_GP : GP ∈ L) (r_GP : R GP = 69) (m_GL : GL ∈ L) (r_GL : R GL = 70) (m_GT : GT ∈ L) (r_GT : R GT = 64) (hLS : LWS D cy A s L R O P q rr GA GP GL GT V f0 H locs) (hl : lv_has ls 4 [(3, .int i), (2, .ref rr), (1, .ref q), (0, .ref b)]) (kk : ∀ (f1 : Nat → va_E) (H : Heap) (locs : List Loc) (ls : Array Slot), LWS D cy A s L R O P q rr GA GP GL GT V f1 H locs → lv_has ls 4 [(3, .int i), (2, .ref rr), (1, .ref q), (0, .ref b)] → W p l e room_1 s m #[Value.ref b] below meth c H locs cs sl Q (F0 m 1756 ls [])) : W p l e room_1 s m #[Value.ref b] below meth c H locs cs sl Q (F0 m 1628 ls []) := by
  obtain ⟨h, hI, ⟨t_GA, t_GP, t_GL, t_GT⟩, hR, hX, hP, hTP, hTR, hTQ, hNR⟩ := hLS
  have hs6m := hI.2.2.1.1
  have hs6r := hI.2.2.1.2
  have hTMc := TMc_of h m_q r_q
  have hTMm := TMm_of h m_rr r_rr
  have hTPn := hTP
  have hTMn := TMn_of h hTMc
  have hTQn := hTQ
  have hCb := CS_le h m_q r_q
  refine lv_aload_n F.1 F.2.1 dL_law_1628 rfl (lv_at hl 2 rfl) ?_
  refine lv_aload_n F.1 F.2.1 dL_law_1629 rfl (lv_at hl 3 rfl) ?_
  refine lv_iload_n F.1 F.2.1 dL_law_1630 rfl (lv_at hl 0 rfl) ?_
  refine tw_iconst F dL_law_1631 ki_1 (fun z1 hz1 => ?_)
  refine tu_iadd F dL_law_1632 (by omega) (fun z2 hz2 => ?_)
  refine va_sld F.1 F.2.1 hX0 hbl hbA h.dd.2.2 (tw_in (by omega) (by omega)) dL_law_1633 ?_
  refine lv_topi (fun z3 qz3 => ?_)
  refine lv_aload_n F.1 F.2.1 dL_law_1634 rfl (lv_at hl 3 rfl) ?_
  refine lv_iload_n F.1 F.2.1 dL_law_1635 rfl (lv_at hl 0 rfl) ?_
  refine tw_iconst F dL_law_1636 ki_2 (fun z4 hz4 => ?_)
  refine tu_iadd F dL_law_1637 (by omega) (fun z5 hz5 => ?_)
  refine va_sld F.1 F.2.1 hX0 hbl hbA h.dd.2.2 (tw_in (by omega) (by omega)) dL_law_1638 ?_
  refine lv_topi (fun z6 qz6 => ?_)
  refine tw_if_eq (tgt := 1646) F dL_law_1639 (by decide) (fun b7 => ?_) (fun b7 => ?_)
  · refine tw_iconst F dL_law_1646 ki_0 (fun z8 hz8 => ?_)
    refine tw_Vi (As := [.int z3, .int z8]) F hZ h yk_X11_leave mw_1532 mw_1533 mw_1534 (s_X11_leave l D cy L R O f0 q m_q r_q z3 z8 ⟨by omega, by omega⟩) rfl rfl m_q r_q (fun e q => (T_11 e).mp q) rfl hl.1 rfl (Nat.le_of_ble_eq_true rfl) ⟨Nat.le_of_ble_eq_true rfl, Nat.le_of_ble_eq_true rfl⟩ ⟨hcs, hsl⟩ dL_law_1647 (fun v10 f9 H locs hp9 h => ?_)
    obtain ⟨hf9, hv10a, hv10b⟩ := hp9
    have en11a := TNa hTMc hf9 m_q r_q (by decide +kernel) (by decide +kernel) (by decide +kernel)
    have en11c := TNc hTMc hTMn hf9 m_q r_q (by decide +kernel) (by decide +kernel) (by decide +kernel) (by decide +kernel)
    have en11m := TNm t_GT m_GT r_GT hf9 m_rr r_rr (by decide +kernel) (by decide +kernel)
    have et12p := TRp hTMc hf9 m_q r_q (by decide +kernel) (by decide +kernel)
    have et12c := TRc hTMc hf9 m_q r_q (by decide +kernel) (by decide +kernel) (by decide +kernel) (by decide +kernel)
    have et12m := TRm hTMm hf9 m_rr r_rr (by decide +kernel) (by decide +kernel) (by decide +kernel) (by decide +kernel)
    have hTPn : ∀ i, i < 4 → P (trs f9 q i) = i := fun i hi => by rw [et12p i]; exact hTPn i hi
    have hTMc := TMc_of h m_q r_q
    have hTMm := TMm_of h m_rr r_rr
    have hTQn : ∀ i, i < 4 → P (rfa f9 (trs f9 q i) 0) = i := fun i hi => by rw [en11a i hi]; exact hTQn i hi
    have hTMn := TMn_of h hTMc
    have hI : INV L R O P f9 q := hI.most m_q r_q hf9 (by decide +kernel) (by decide +kernel) (by decide +kernel) (by decide +kernel) (by decide +kernel)
    have t_GA : fld f9 rr 0 = .ref GA := (hf9.efl m_rr r_rr (by decide +kernel)).trans t_GA
    have t_GP : fld f9 rr 22 = .ref GP := (hf9.efl m_rr r_rr (by decide +kernel)).trans t_GP
    have t_GL : fld f9 rr 23 = .ref GL := (hf9.efl m_rr r_rr (by decide +kernel)).trans t_GL
    have t_GT : fld f9 rr 6 = .ref GT := (hf9.efl m_rr r_rr (by decide +kernel)).trans t_GT
    have hR : RBA GA f9 := hR.fm hf9 m_GA r_GA (by decide +kernel)
    have hX : GZ GP GL f9 := hX.fm hf9 m_GP r_GP m_GL r_GL (by decide +kernel) (by decide +kernel)
    have hP : fld f9 (rfa f9 q 6) 16 = V := by rw [hf9.erf m_q r_q (by decide +kernel), hf9.efl hs6m hs6r (by decide +kernel)]; exact hP
    have hs6m : rfa f9 q 6 ∈ L := by rw [hf9.erf m_q r_q (by decide +kernel)]; exact hs6m
    have hs6r : R (rfa f9 q 6) = 7 := by rw [hf9.erf m_q r_q (by decide +kernel)]; exact hs6r
    refine lv_pop F.1 F.2.1 dL_law_1650 rfl ?_
    refine lv_aload_n F.1 F.2.1 dL_law_1651 rfl (lv_at hl 1 rfl) ?_
    refine lv_aload_n F.1 F.2.1 dL_law_1652 rfl (lv_at hl 3 rfl) ?_
    refine lv_iload_n F.1 F.2.1 dL_law_1653 rfl (lv_at hl 0 rfl) ?_
    refine tw_iconst F dL_law_1654 ki_1 (fun z13 hz13 => ?_)
    refine tu_iadd F dL_law_1655 (by omega) (fun z14 hz14 => ?_)
    refine va_sld F.1 F.2.1 hX0 hbl hbA h.dd.2.2 (tw_in (by omega) (by omega)) dL_law_1656 ?_
    refine lv_topi (fun z15 qz15 => ?_)
    obtain rfl : z3 = z15 := by rw [qz3, qz15, show z2 = z14 from Int32.toInt_inj.mp (by omega)]
    refine lv_aload_n F.1 F.2.1 dL_law_1657 rfl (lv_at hl 3 rfl) ?_
    refine lv_iload_n F.1 F.2.1 dL_law_1658 rfl (lv_at hl 0 rfl) ?_
    refine tw_iconst F dL_law_1659 ki_2 (fun z16 hz16 => ?_)
    refine tu_iadd F dL_law_1660 (by omega) (fun z17 hz17 => ?_)
    refine va_sld F.1 F.2.1 hX0 hbl hbA h.dd.2.2 (tw_in (by omega) (by omega)) dL_law_1661 ?_
    refine lv_topi (fun z18 qz18 => ?_)
    obtain rfl : z6 = z18 := by rw [qz6, qz18, show z5 = z17 from Int32.toInt_inj.mp (by omega)]
    refine tw_if_eq (tgt := 1669) F dL_law_1662 (by decide) (fun b19 => ?_) (fun b19 => ?_)
    · refine tw_iconst F dL_law_1669 ki_0 (fun z20 hz20 => ?_)
      refine tw_Vi (As := [.int z3, .int z20]) F hZ h yk_X12_leave mw_1537 mw_1538 mw_1539 (s_X12_leave l D cy L R O f9 rr m_rr r_rr z3 z20 ⟨by omega, by omega⟩) rfl rfl m_rr r_rr (fun e q => (T_12 e).mp q) rfl hl.1 rfl (Nat.le_of_ble_eq_true rfl) ⟨Nat.le_of_ble_eq_true rfl, Nat.le_of_ble_eq_true rfl⟩ ⟨hcs, hsl⟩ dL_law_1670 (fun v22 f21 H locs hp21 h => ?_)
      obtain ⟨hf21, hv22a, hv22b⟩ := hp21
      have en23a := TNa hTMc hf21 m_q r_q (by decide +kernel) (by decide +kernel) (by decide +kernel)
      have en23c := TNc hTMc hTMn hf21 m_q r_q (by decide +kernel) (by decide +kernel) (by decide +kernel) (by decide +kernel)
      have en23m := TNm t_GT m_GT r_GT hf21 m_rr r_rr (by decide +kernel) (by decide +kernel)
      have et24p := TRp hTMc hf21 m_q r_q (by decide +kernel) (by decide +kernel)
      have et24c := TRc hTMc hf21 m_q r_q (by decide +kernel) (by decide +kernel) (by decide +kernel) (by decide +kernel)
      have et24m := TRm hTMm hf21 m_rr r_rr (by decide +kernel) (by decide +kernel) (by decide +kernel) (by decide +kernel)
      have hTPn : ∀ i, i < 4 → P (trs f21 q i) = i := fun i hi => by rw [et24p i]; exact hTPn i hi
      have hTMc := TMc_of h m_q r_q
      have hTMm := TMm_of h m_rr r_rr
      have hTQn : ∀ i, i < 4 → P (rfa f21 (trs f21 q i) 0) = i := fun i hi => by rw [en23a i hi]; exact hTQn i hi
      have hTMn := TMn_of h hTMc
      have hI : INV L R O P f21 q := hI.most m_q r_q hf21 (by decide +kernel) (by decide +kernel) (by decide +kernel) (by decide +kernel) (by decide +kernel)
      have t_GA : fld f21 rr 0 = .ref GA := (hf21.efl m_rr r_rr (by decide +kernel)).trans t_GA
      have t_GP : fld f21 rr 22 = .ref GP := (hf21.efl m_rr r_rr (by decide +kernel)).trans t_GP
      have t_GL : fld f21 rr 23 = .ref GL := (hf21.efl m_rr r_rr (by decide +kernel)).trans t_GL
      have t_GT : fld f21 rr 6 = .ref GT := (hf21.efl m_rr r_rr (by decide +kernel)).trans t_GT
      have hR : RBA GA f21 := hR.fm hf21 m_GA r_GA (by decide +kernel)
      have hX : GZ GP GL f21 := hX.fm hf21 m_GP r_GP m_GL r_GL (by decide +kernel) (by decide +kernel)
      have hP : fld f21 (rfa f21 q 6) 16 = V := by rw [hf21.erf m_q r_q (by decide +kernel), hf21.efl hs6m hs6r (by decide +kernel)]; exact hP
      have hs6m : rfa f21 q 6 ∈ L := by rw [hf21.erf m_q r_q (by decide +kernel)]; exact hs6m
      have hs6r : R (rfa f21 q 6) = 7 := by rw [hf21.erf m_q r_q (by decide +kernel)]; exact hs6r
      refine lv_pop F.1 F.2.1 dL_law_1673 rfl ?_
      refine lv_goto (tgt := 1756) F.1 F.2.1 dL_law_1674 (by decide) ?_
      exact kk f21 _ _ _ ⟨h, hI, ⟨t_GA, t_GP, t_GL, t_GT⟩, hR, hX, hP, hTPn, fun i hi => by have q0 := hTR i hi; have q1 := et12c i hi; have q2 := et12m i; have q3 := et24c i hi; have q4 := et24m i; omega, hTQn, fun i hi j hj => by have q0 := hTR i hi; have q1 := et12c i hi; have q2 := et12m i; have q3 := et24c i hi; have q4 := et24m i; have qb := hCb i hi; have hj6 : j < 60 := (by omega); have n0 := hNR i hi j; have n1 := en11c i hi j; have n2 := en11m i j; have n3 := en23c i hi j; have n4 := en23m i j; omega⟩ hl
    · refine tw_iconst F dL_law_1665 ki_1 (fun z25 hz25 => ?_)
      refine lv_goto (tgt := 1670) F.1 F.2.1 dL_law_1666 (by decide) ?_
      refine tw_Vi (As := [.int z3, .int z25]) F hZ h yk_X12_leave mw_1537 mw_1538 mw_1539 (s_X12_leave l D cy L R O f9 rr m_rr r_rr z3 z25 ⟨by omega, by omega⟩) rfl rfl m_rr r_rr (fun e q => (T_12 e).mp q) rfl hl.1 rfl (Nat.le_of_ble_eq_true rfl) ⟨Nat.le_of_ble_eq_true rfl, Nat.le_of_ble_eq_true rfl⟩ ⟨hcs, hsl⟩ dL_law_1670 (fun v27 f26 H locs hp26 h => ?_)
      obtain ⟨hf26, hv27a, hv27b⟩ := hp26
      have en28a := TNa hTMc hf26 m_q r_q (by decide +kernel) (by decide +kernel) (by decide +kernel)
      have en28c := TNc hTMc hTMn hf26 m_q r_q (by decide +kernel) (by decide +kernel) (by decide +kernel) (by decide +kernel)
      have en28m := TNm t_GT m_GT r_GT hf26 m_rr r_rr (by decide +kernel) (by decide +kernel)
      have et29p := TRp hTMc hf26 m_q r_q (by decide +kernel) (by decide +kernel)
      have et29c := TRc hTMc hf26 m_q r_q (by decide +kernel) (by decide +kernel) (by decide +kernel) (by decide +kernel)
      have et29m := TRm hTMm hf26 m_rr r_rr (by decide +kernel) (by decide +kernel) (by decide +kernel) (by decide +kernel)
      have hTPn : ∀ i, i < 4 → P (trs f26 q i) = i := fun i hi => by rw [et29p i]; exact hTPn i hi
      have hTMc := TMc_of h m_q r_q
      have hTMm := TMm_of h m_rr r_rr
      have hTQn : ∀ i, i < 4 → P (rfa f26 (trs f26 q i) 0) = i := fun i hi => by rw [en28a i hi]; exact hTQn i hi
      have hTMn := TMn_of h hTMc
      have hI : INV L R O P f26 q := hI.most m_q r_q hf26 (by decide +kernel) (by decide +kernel) (by decide +kernel) (by decide +kernel) (by decide +kernel)
      have t_GA : fld f26 rr 0 = .ref GA := (hf26.efl m_rr r_rr (by decide +kernel)).trans t_GA
      have t_GP : fld f26 rr 22 = .ref GP := (hf26.efl m_rr r_rr (by decide +kernel)).trans t_GP
      have t_GL : fld f26 rr 23 = .ref GL := (hf26.efl m_rr r_rr (by decide +kernel)).trans t_GL
      have t_GT : fld f26 rr 6 = .ref GT := (hf26.efl m_rr r_rr (by decide +kernel)).trans t_GT
      have hR : RBA GA f26 := hR.fm hf26 m_GA r_GA (by decide +kernel)
      have hX : GZ GP GL f26 := hX.fm hf26 m_GP r_GP m_GL r_GL (by decide +kernel) (by decide +kernel)
      have hP : fld f26 (rfa f26 q 6) 16 = V := by rw [hf26.erf m_q r_q (by decide +kernel), hf26.efl hs6m hs6r (by decide +kernel)]; exact hP
      have hs6m : rfa f26 q 6 ∈ L := by rw [hf26.erf m_q r_q (by decide +kernel)]; exact hs6m
      have hs6r : R (rfa f26 q 6) = 7 := by rw [hf26.erf m_q r_q (by decide +kernel)]; exact hs6r
      refine lv_pop F.1 F.2.1 dL_law_1673 rfl ?_
      refine lv_goto (tgt := 1756) F.1 F.2.1 dL_law_1674 (by decide) ?_
      exact kk f26 _ _ _ ⟨h, hI, ⟨t_GA, t_GP, t_GL, t_GT⟩, hR, hX, hP, hTPn, fun i hi => by have q0 := hTR i hi; have q1 := et12c i hi; have q2 := et12m i; have q3 := et29c i hi; have q4 := et29m i; omega, hTQn, fun i hi j hj => by have q0 := hTR i hi; have q1 := et12c i hi; have q2 := et12m i; have q3 := et29c i hi; have q4 := et29m i; have qb := hCb i hi; have hj6 : j < 60 := (by omega); have n0 := hNR i hi j; have n1 := en11c i hi j; have n2 := en11m i j; have n3 := en28c i hi j; have n4 := en28m i j; omega⟩ hl
  · refine tw_iconst F dL_law_1642 ki_1 (fun z30 hz30 => ?_)
    refine lv_goto (tgt := 1647) F.1 F.2.1 dL_law_1643 (by decide) ?_
    refine tw_Vi (As := [.int z3, .int z30]) F hZ h yk_X11_leave mw_1532 mw_1533 mw_1534 (s_X11_leave l D cy L R O f0 q m_q r_q z3 z30 ⟨by omega, by omega⟩) rfl rfl m_q r_q (fun e q => (T_11 e).mp q) rfl hl.1 rfl (Nat.le_of_ble_eq_true rfl) ⟨Nat.le_of_ble_eq_true rfl, Nat.le_of_ble_eq_true rfl⟩ ⟨hcs, hsl⟩ dL_law_1647 (fun v32 f31 H locs hp31 h => ?_)
    obtain ⟨hf31, hv32a, hv32b⟩ := hp31
    have en33a := TNa hTMc hf31 m_q r_q (by decide +kernel) (by decide +kernel) (by decide +kernel)
    have en33c := TNc hTMc hTMn hf31 m_q r_q (by decide +kernel) (by decide +kernel) (by decide +kernel) (by decide +kernel)
    have en33m := TNm t_GT m_GT r_GT hf31 m_rr r_rr (by decide +kernel) (by decide +kernel)
    have et34p := TRp hTMc hf31 m_q r_q (by decide +kernel) (by decide +kernel)
    have et34c := TRc hTMc hf31 m_q r_q (by decide +kernel) (by decide +kernel) (by decide +kernel) (by decide +kernel)
    have et34m := TRm hTMm hf31 m_rr r_rr (by decide +kernel) (by decide +kernel) (by decide +kernel) (by decide +kernel)
    have hTPn : ∀ i, i < 4 → P (trs f31 q i) = i := fun i hi => by rw [et34p i]; exact hTPn i hi
    have hTMc := TMc_of h m_q r_q
    have hTMm := TMm_of h m_rr r_rr
    have hTQn : ∀ i, i < 4 → P (rfa f31 (trs f31 q i) 0) = i := fun i hi => by rw [en33a i hi]; exact hTQn i hi
    have hTMn := TMn_of h hTMc
    have hI : INV L R O P f31 q := hI.most m_q r_q hf31 (by decide +kernel) (by decide +kernel) (by decide +kernel) (by decide +kernel) (by decide +kernel)
    have t_GA : fld f31 rr 0 = .ref GA := (hf31.efl m_rr r_rr (by decide +kernel)).trans t_GA
    have t_GP : fld f31 rr 22 = .ref GP := (hf31.efl m_rr r_rr (by decide +kernel)).trans t_GP
    have t_GL : fld f31 rr 23 = .ref GL := (hf31.efl m_rr r_rr (by decide +kernel)).trans t_GL
    have t_GT : fld f31 rr 6 = .ref GT := (hf31.efl m_rr r_rr (by decide +kernel)).trans t_GT
    have hR : RBA GA f31 := hR.fm hf31 m_GA r_GA (by decide +kernel)
    have hX : GZ GP GL f31 := hX.fm hf31 m_GP r_GP m_GL r_GL (by decide +kernel) (by decide +kernel)
    have hP : fld f31 (rfa f31 q 6) 16 = V := by rw [hf31.erf m_q r_q (by decide +kernel), hf31.efl hs6m hs6r (by decide +kernel)]; exact hP
    have hs6m : rfa f31 q 6 ∈ L := by rw [hf31.erf m_q r_q (by decide +kernel)]; exact hs6m
    have hs6r : R (rfa f31 q 6) = 7 := by rw [hf31.erf m_q r_q (by decide +kernel)]; exact hs6r
    refine lv_pop F.1 F.2.1 dL_law_1650 rfl ?_
    refine lv_aload_n F.1 F.2.1 dL_law_1651 rfl (lv_at hl 1 rfl) ?_
    refine lv_aload_n F.1 F.2.1 dL_law_1652 rfl (lv_at hl 3 rfl) ?_
    refine lv_iload_n F.1 F.2.1 dL_law_1653 rfl (lv_at hl 0 rfl) ?_
    refine tw_iconst F dL_law_1654 ki_1 (fun z35 hz35 => ?_)
    refine tu_iadd F dL_law_1655 (by omega) (fun z36 hz36 => ?_)
    refine va_sld F.1 F.2.1 hX0 hbl hbA h.dd.2.2 (tw_in (by omega) (by omega)) dL_law_1656 ?_
    refine lv_topi (fun z37 qz37 => ?_)
    obtain rfl : z3 = z37 := by rw [qz3, qz37, show z2 = z36 from Int32.toInt_inj.mp (by omega)]
    refine lv_aload_n F.1 F.2.1 dL_law_1657 rfl (lv_at hl 3 rfl) ?_
    refine lv_iload_n F.1 F.2.1 dL_law_1658 rfl (lv_at hl 0 rfl) ?_
    refine tw_iconst F dL_law_1659 ki_2 (fun z38 hz38 => ?_)
    refine tu_iadd F dL_law_1660 (by omega) (fun z39 hz39 => ?_)
    refine va_sld F.1 F.2.1 hX0 hbl hbA h.dd.2.2 (tw_in (by omega) (by omega)) dL_law_1661 ?_
    refine lv_topi (fun z40 qz40 => ?_)
    obtain rfl : z6 = z40 := by rw [qz6, qz40, show z5 = z39 from Int32.toInt_inj.mp (by omega)]
    refine tw_if_eq (tgt := 1669) F dL_law_1662 (by decide) (fun b41 => ?_) (fun b41 => ?_)
    · refine tw_iconst F dL_law_1669 ki_0 (fun z42 hz42 => ?_)
      refine tw_Vi (As := [.int z3, .int z42]) F hZ h yk_X12_leave mw_1537 mw_1538 mw_1539 (s_X12_leave l D cy L R O f31 rr m_rr r_rr z3 z42 ⟨by omega, by omega⟩) rfl rfl m_rr r_rr (fun e q => (T_12 e).mp q) rfl hl.1 rfl (Nat.le_of_ble_eq_true rfl) ⟨Nat.le_of_ble_eq_true rfl, Nat.le_of_ble_eq_true rfl⟩ ⟨hcs, hsl⟩ dL_law_1670 (fun v44 f43 H locs hp43 h => ?_)
      obtain ⟨hf43, hv44a, hv44b⟩ := hp43
      have en45a := TNa hTMc hf43 m_q r_q (by decide +kernel) (by decide +kernel) (by decide +kernel)
      have en45c := TNc hTMc hTMn hf43 m_q r_q (by decide +kernel) (by decide +kernel) (by decide +kernel) (by decide +kernel)
      have en45m := TNm t_GT m_GT r_GT hf43 m_rr r_rr (by decide +kernel) (by decide +kernel)
      have et46p := TRp hTMc hf43 m_q r_q (by decide +kernel) (by decide +kernel)
      have et46c := TRc hTMc hf43 m_q r_q (by decide +kernel) (by decide +kernel) (by decide +kernel) (by decide +kernel)
      have et46m := TRm hTMm hf43 m_rr r_rr (by decide +kernel) (by decide +kernel) (by decide +kernel) (by decide +kernel)
      have hTPn : ∀ i, i < 4 → P (trs f43 q i) = i := fun i hi => by rw [et46p i]; exact hTPn i hi
      have hTMc := TMc_of h m_q r_q
      have hTMm := TMm_of h m_rr r_rr
      have hTQn : ∀ i, i < 4 → P (rfa f43 (trs f43 q i) 0) = i := fun i hi => by rw [en45a i hi]; exact hTQn i hi
      have hTMn := TMn_of h hTMc
      have hI : INV L R O P f43 q := hI.most m_q r_q hf43 (by decide +kernel) (by decide +kernel) (by decide +kernel) (by decide +kernel) (by decide +kernel)
      have t_GA : fld f43 rr 0 = .ref GA := (hf43.efl m_rr r_rr (by decide +kernel)).trans t_GA
      have t_GP : fld f43 rr 22 = .ref GP := (hf43.efl m_rr r_rr (by decide +kernel)).trans t_GP
      have t_GL : fld f43 rr 23 = .ref GL := (hf43.efl m_rr r_rr (by decide +kernel)).trans t_GL
      have t_GT : fld f43 rr 6 = .ref GT := (hf43.efl m_rr r_rr (by decide +kernel)).trans t_GT
      have hR : RBA GA f43 := hR.fm hf43 m_GA r_GA (by decide +kernel)
      have hX : GZ GP GL f43 := hX.fm hf43 m_GP r_GP m_GL r_GL (by decide +kernel) (by decide +kernel)
      have hP : fld f43 (rfa f43 q 6) 16 = V := by rw [hf43.erf m_q r_q (by decide +kernel), hf43.efl hs6m hs6r (by decide +kernel)]; exact hP
      have hs6m : rfa f43 q 6 ∈ L := by rw [hf43.erf m_q r_q (by decide +kernel)]; exact hs6m
      have hs6r : R (rfa f43 q 6) = 7 := by rw [hf43.erf m_q r_q (by decide +kernel)]; exact hs6r
      refine lv_pop F.1 F.2.1 dL_law_1673 rfl ?_
      refine lv_goto (tgt := 1756) F.1 F.2.1 dL_law_1674 (by decide) ?_
      exact kk f43 _ _ _ ⟨h, hI, ⟨t_GA, t_GP, t_GL, t_GT⟩, hR, hX, hP, hTPn, fun i hi => by have q0 := hTR i hi; have q1 := et34c i hi; have q2 := et34m i; have q3 := et46c i hi; have q4 := et46m i; omega, hTQn, fun i hi j hj => by have q0 := hTR i hi; have q1 := et34c i hi; have q2 := et34m i; have q3 := et46c i hi; have q4 := et46m i; have qb := hCb i hi; have hj6 : j < 60 := (by omega); have n0 := hNR i hi j; have n1 := en33c i hi j; have n2 := en33m i j; have n3 := en45c i hi j; have n4 := en45m i j; omega⟩ hl
    · refine tw_iconst F dL_law_1665 ki_1 (fun z47 hz47 => ?_)
      refine lv_goto (tgt := 1670) F.1 F.2.1 dL_law_1666 (by decide) ?_
      refine tw_Vi (As := [.int z3, .int z47]) F hZ h yk_X12_leave mw_1537 mw_1538 mw_1539 (s_X12_leave l D cy L R O f31 rr m_rr r_rr z3 z47 ⟨by omega, by omega⟩) rfl rfl m_rr r_rr (fun e q => (T_12 e).mp q) rfl hl.1 rfl (Nat.le_of_ble_eq_true rfl) ⟨Nat.le_of_ble_eq_true rfl, Nat.le_of_ble_eq_true rfl⟩ ⟨hcs, hsl⟩ dL_law_1670 (fun v49 f48 H locs hp48 h => ?_)
      obtain ⟨hf48, hv49a, hv49b⟩ := hp48
      have en50a := TNa hTMc hf48 m_q r_q (by decide +kernel) (by decide +kernel) (by decide +kernel)
      have en50c := TNc hTMc hTMn hf48 m_q r_q (by decide +kernel) (by decide +kernel) (by decide +kernel) (by decide +kernel)
      have en50m := TNm t_GT m_GT r_GT hf48 m_rr r_rr (by decide +kernel) (by decide +kernel)
      have et51p := TRp hTMc hf48 m_q r_q (by decide +kernel) (by decide +kernel)
      have et51c := TRc hTMc hf48 m_q r_q (by decide +kernel) (by decide +kernel) (by decide +kernel) (by decide +kernel)
      have et51m := TRm hTMm hf48 m_rr r_rr (by decide +kernel) (by decide +kernel) (by decide +kernel) (by decide +kernel)
      have hTPn : ∀ i, i < 4 → P (trs f48 q i) = i := fun i hi => by rw [et51p i]; exact hTPn i hi
      have hTMc := TMc_of h m_q r_q
      have hTMm := TMm_of h m_rr r_rr
      have hTQn : ∀ i, i < 4 → P (rfa f48 (trs f48 q i) 0) = i := fun i hi => by rw [en50a i hi]; exact hTQn i hi
      have hTMn := TMn_of h hTMc
      have hI : INV L R O P f48 q := hI.most m_q r_q hf48 (by decide +kernel) (by decide +kernel) (by decide +kernel) (by decide +kernel) (by decide +kernel)
      have t_GA : fld f48 rr 0 = .ref GA := (hf48.efl m_rr r_rr (by decide +kernel)).trans t_GA
      have t_GP : fld f48 rr 22 = .ref GP := (hf48.efl m_rr r_rr (by decide +kernel)).trans t_GP
      have t_GL : fld f48 rr 23 = .ref GL := (hf48.efl m_rr r_rr (by decide +kernel)).trans t_GL
      have t_GT : fld f48 rr 6 = .ref GT := (hf48.efl m_rr r_rr (by decide +kernel)).trans t_GT
      have hR : RBA GA f48 := hR.fm hf48 m_GA r_GA (by decide +kernel)
      have hX : GZ GP GL f48 := hX.fm hf48 m_GP r_GP m_GL r_GL (by decide +kernel) (by decide +kernel)
      have hP : fld f48 (rfa f48 q 6) 16 = V := by rw [hf48.erf m_q r_q (by decide +kernel), hf48.efl hs6m hs6r (by decide +kernel)]; exact hP
      have hs6m : rfa f48 q 6 ∈ L := by rw [hf48.erf m_q r_q (by decide +kernel)]; exact hs6m
      have hs6r : R (rfa f48 q 6) = 7 := by rw [hf48.erf m_q r_q (by decide +kernel)]; exact hs6r
      refine lv_pop F.1 F.2.1 dL_law_1673 rfl ?_
      refine lv_goto (tgt := 1756) F.1 F.2.1 dL_law_1674 (by decide) ?_
      exact kk f48 _ _ _ ⟨h, hI, ⟨t_GA, t_GP, t_GL, t_GT⟩, hR, hX, hP, hTPn, fun i hi => by have q0 := hTR i hi; have q1 := et34c i hi; have q2 := et34m i; have q3 := et51c i hi; have q4 := et51m i; omega, hTQn, fun i hi j hj => by have q0 := hTR i hi; have q1 := et34c i hi; have q2 := et34m i; have q3 := et51c i hi; have q4 := et51m i; have qb := hCb i hi; have hj6 : j < 60 := (by omega); have n0 := hNR i hi j; have n1 := en33c i hi j; have n2 := en33m i j; have n3 := en50c i hi j; have n4 := en50m i j; omega⟩ hl
theorem dL_law_1677 : decode cL_law 1677 = .ok (.aload_n 1, 1) := by decide +kernel
theorem dL_law_1678 : decode cL_law 1678 = .ok (.aload_n 0, 1) := by decide +kernel
theorem dL_law_1679 : decode cL_law 1679 = .ok (.iload_n 3, 1) := by decide +kernel
theorem dL_law_1680 : decode cL_law 1680 = .ok (.iconst 1, 1) := by decide +kernel
theorem dL_law_1681 : decode cL_law 1681 = .ok (.iadd, 1) := by decide +kernel
theorem dL_law_1682 : decode cL_law 1682 = .ok (.iaload, 1) := by decide +kernel
theorem dL_law_1683 : decode cL_law 1683 = .ok (.i2l, 1) := by decide +kernel
theorem dL_law_1684 : decode cL_law 1684 = .ok (.bipush 32, 2) := by decide +kernel
theorem dL_law_1686 : decode cL_law 1686 = .ok (.lshl, 1) := by decide +kernel
theorem dL_law_1687 : decode cL_law 1687 = .ok (.aload_n 0, 1) := by decide +kernel
theorem dL_law_1688 : decode cL_law 1688 = .ok (.iload_n 3, 1) := by decide +kernel
theorem dL_law_1689 : decode cL_law 1689 = .ok (.iconst 2, 1) := by decide +kernel
theorem dL_law_1690 : decode cL_law 1690 = .ok (.iadd, 1) := by decide +kernel
theorem dL_law_1691 : decode cL_law 1691 = .ok (.iaload, 1) := by decide +kernel
theorem dL_law_1692 : decode cL_law 1692 = .ok (.i2l, 1) := by decide +kernel
theorem dL_law_1693 : decode cL_law 1693 = .ok (.ldc2_w 32, 3) := by decide +kernel
theorem dL_law_1696 : decode cL_law 1696 = .ok (.land, 1) := by decide +kernel
theorem dL_law_1697 : decode cL_law 1697 = .ok (.lor, 1) := by decide +kernel
theorem dL_law_1698 : decode cL_law 1698 = .ok (.invokevirtual 192, 3) := by decide +kernel
theorem mw_1541 : Cond.methodLink RL 192 yX11_heard ∈ wsL_law := inr_65 _ (List.mem_of_getElem? (i := 5) rfl)
theorem mw_1544 : Cond.code yX11_heard cX11_heard 3 (some .int) ∈ wsL_law := inr_65 _ (List.mem_of_getElem? (i := 8) rfl)
theorem yk_X11_heard : xY yX11_heard RX11 cX11_heard 3 (some .int) 1 := ⟨⟨rfl, by decide +kernel, by decide +kernel, by decide +kernel⟩, mw_2, mw_1544⟩
theorem mw_1542 : Cond.instanceMethod yX11_heard ∈ wsL_law := inr_65 _ (List.mem_of_getElem? (i := 6) rfl)
theorem mw_1543 : Cond.selects RX11 yX11_heard yX11_heard ∈ wsL_law := inr_65 _ (List.mem_of_getElem? (i := 7) rfl)
theorem dL_law_1701 : decode cL_law 1701 = .ok (.pop, 1) := by decide +kernel
theorem dL_law_1702 : decode cL_law 1702 = .ok (.aload_n 2, 1) := by decide +kernel
theorem dL_law_1703 : decode cL_law 1703 = .ok (.aload_n 0, 1) := by decide +kernel
theorem dL_law_1704 : decode cL_law 1704 = .ok (.iload_n 3, 1) := by decide +kernel
theorem dL_law_1705 : decode cL_law 1705 = .ok (.iconst 1, 1) := by decide +kernel
theorem dL_law_1706 : decode cL_law 1706 = .ok (.iadd, 1) := by decide +kernel
theorem dL_law_1707 : decode cL_law 1707 = .ok (.iaload, 1) := by decide +kernel
theorem dL_law_1708 : decode cL_law 1708 = .ok (.i2l, 1) := by decide +kernel
theorem dL_law_1709 : decode cL_law 1709 = .ok (.bipush 32, 2) := by decide +kernel
theorem dL_law_1711 : decode cL_law 1711 = .ok (.lshl, 1) := by decide +kernel
theorem dL_law_1712 : decode cL_law 1712 = .ok (.aload_n 0, 1) := by decide +kernel
theorem dL_law_1713 : decode cL_law 1713 = .ok (.iload_n 3, 1) := by decide +kernel
theorem dL_law_1714 : decode cL_law 1714 = .ok (.iconst 2, 1) := by decide +kernel
theorem dL_law_1715 : decode cL_law 1715 = .ok (.iadd, 1) := by decide +kernel
theorem dL_law_1716 : decode cL_law 1716 = .ok (.iaload, 1) := by decide +kernel
theorem dL_law_1717 : decode cL_law 1717 = .ok (.i2l, 1) := by decide +kernel
theorem dL_law_1718 : decode cL_law 1718 = .ok (.ldc2_w 32, 3) := by decide +kernel
theorem dL_law_1721 : decode cL_law 1721 = .ok (.land, 1) := by decide +kernel
theorem dL_law_1722 : decode cL_law 1722 = .ok (.lor, 1) := by decide +kernel
theorem dL_law_1723 : decode cL_law 1723 = .ok (.invokevirtual 196, 3) := by decide +kernel
theorem mw_1553 : Cond.methodLink RL 196 yX12_heard ∈ wsL_law := inr_65 _ (List.mem_of_getElem? (i := 17) rfl)
theorem mw_1556 : Cond.code yX12_heard cX12_heard 7 (some .int) ∈ wsL_law := inr_65 _ (List.mem_of_getElem? (i := 20) rfl)
theorem yk_X12_heard : xY yX12_heard RX12 cX12_heard 7 (some .int) 1 := ⟨⟨rfl, by decide +kernel, by decide +kernel, by decide +kernel⟩, mw_5, mw_1556⟩
theorem mw_1554 : Cond.instanceMethod yX12_heard ∈ wsL_law := inr_65 _ (List.mem_of_getElem? (i := 18) rfl)
theorem mw_1555 : Cond.selects RX12 yX12_heard yX12_heard ∈ wsL_law := inr_65 _ (List.mem_of_getElem? (i := 19) rfl)
theorem dL_law_1726 : decode cL_law 1726 = .ok (.pop, 1) := by decide +kernel
theorem dL_law_1727 : decode cL_law 1727 = .ok (.goto 29, 3) := by decide +kernel
set_option maxHeartbeats 4000000 in
set_option maxRecDepth 100000 in
theorem law_c40 {p : Program} {l : Launch} {e : Env} {s : State} {m : MethodId} {below : List Frame} {meth : Method} {c : Code} {H : Heap} {locs : List Loc} {Q : State → Prop} {D : va_G} {cy : Nat → ClassId} {A : Nat → Prop} {L : List Nat} {R O P : Nat → Nat} {f0 : Nat → va_E} {ls : Array Slot} {b N cs sl q rr GA GP GL GT : Nat} {xs : Nat → Int32} {V : Value} (F : CallFix p m c cL_law 4 s #[Value.ref b] wsL_law RL) (hZ : tZ A s s.heap) (hX0 : va_X b N xs s s.heap) (hbl : b < s.heap.size) (hbA : ¬ A b) (hcs : cs ≤ room_1.cells) (hsl : sl ≤ room_1.slots) (i : Int32) (bi : 0 ≤ i.toInt ∧ i.toInt + 6 ≤ N ∧ N ≤ 3072) (m_q : q ∈ L) (r_q : R q = 11) (m_rr : rr ∈ L) (r_rr : R rr = 12) (m_GA : GA ∈ L) (r_GA : R GA = 61) (m_GP : GP ∈ L) (r_GP : R GP = 69) (m_GL : GL ∈ L) (r_GL : R GL = 70) (m_GT : GT ∈ L) (r_GT : R GT = 64) (hLS : LWS D cy A s L R O P q rr GA GP GL GT V f0 H locs) (hl : lv_has ls 4 [(3, .int i), (2, .ref rr), (1, .ref q), (0, .ref b)]) (kk : ∀ (f1 : Nat → va_E) (H : Heap) (locs : List Loc) (ls : Array Slot), LWS D cy A s L R O P q rr GA GP GL GT V f1 H locs → lv_has ls 4 [(3, .int i), (2, .ref rr), (1, .ref q), (0, .ref b)] → W p l e room_1 s m #[Value.ref b] below meth c H locs cs sl Q (F0 m 1756 ls [])) : W p l e room_1 s m #[Value.ref b] below meth c H locs cs sl Q (F0 m 1677 ls []) := by
  obtain ⟨h, hI, ⟨t_GA, t_GP, t_GL, t_GT⟩, hR, hX, hP, hTP, hTR, hTQ, hNR⟩ := hLS
  have hs6m := hI.2.2.1.1
  have hs6r := hI.2.2.1.2
  have hTMc := TMc_of h m_q r_q
  have hTMm := TMm_of h m_rr r_rr
  have hTPn := hTP
  have hTMn := TMn_of h hTMc
  have hTQn := hTQ
  have hCb := CS_le h m_q r_q
  refine lv_aload_n F.1 F.2.1 dL_law_1677 rfl (lv_at hl 2 rfl) ?_
  refine lv_aload_n F.1 F.2.1 dL_law_1678 rfl (lv_at hl 3 rfl) ?_
  refine lv_iload_n F.1 F.2.1 dL_law_1679 rfl (lv_at hl 0 rfl) ?_
  refine tw_iconst F dL_law_1680 ki_1 (fun z1 hz1 => ?_)
  refine tu_iadd F dL_law_1681 (by omega) (fun z2 hz2 => ?_)
  refine va_sld F.1 F.2.1 hX0 hbl hbA h.dd.2.2 (tw_in (by omega) (by omega)) dL_law_1682 ?_
  refine lv_topi (fun z3 qz3 => ?_)
  refine lv_i2l F.1 F.2.1 dL_law_1683 rfl ?_
  refine lv_topl (fun z4 qz4 => ?_)
  refine tw_bipush F dL_law_1684 kb_32 (fun z5 hz5 => ?_)
  refine lv_lshl F.1 F.2.1 dL_law_1686 rfl ?_
  refine lv_topl (fun z6 qz6 => ?_)
  refine lv_aload_n F.1 F.2.1 dL_law_1687 rfl (lv_at hl 3 rfl) ?_
  refine lv_iload_n F.1 F.2.1 dL_law_1688 rfl (lv_at hl 0 rfl) ?_
  refine tw_iconst F dL_law_1689 ki_2 (fun z7 hz7 => ?_)
  refine tu_iadd F dL_law_1690 (by omega) (fun z8 hz8 => ?_)
  refine va_sld F.1 F.2.1 hX0 hbl hbA h.dd.2.2 (tw_in (by omega) (by omega)) dL_law_1691 ?_
  refine lv_topi (fun z9 qz9 => ?_)
  refine lv_i2l F.1 F.2.1 dL_law_1692 rfl ?_
  refine lv_topl (fun z10 qz10 => ?_)
  refine lv_ldc2 F.1 F.2.1 F.2.2.2.1 (F.2.2.2.2 _ mw_6) dL_law_1693 ?_
  refine lv_topl (fun z11 qz11 => ?_)
  refine lv_land F.1 F.2.1 dL_law_1696 ?_
  refine lv_topl (fun z12 qz12 => ?_)
  refine lv_lor F.1 F.2.1 dL_law_1697 ?_
  refine lv_topl (fun z13 qz13 => ?_)
  refine tw_Vi (As := [.long z13]) F hZ h yk_X11_heard mw_1541 mw_1542 mw_1543 (s_X11_heard l D cy L R O f0 q m_q r_q z13) rfl rfl m_q r_q (fun e q => (T_11 e).mp q) rfl hl.1 rfl (Nat.le_of_ble_eq_true rfl) ⟨Nat.le_of_ble_eq_true rfl, Nat.le_of_ble_eq_true rfl⟩ ⟨hcs, hsl⟩ dL_law_1698 (fun v15 f14 H locs hp14 h => ?_)
  have hf14 := hp14
  have en16a := TNa hTMc hf14 m_q r_q (by decide +kernel) (by decide +kernel) (by decide +kernel)
  have en16c := TNc hTMc hTMn hf14 m_q r_q (by decide +kernel) (by decide +kernel) (by decide +kernel) (by decide +kernel)
  have en16m := TNm t_GT m_GT r_GT hf14 m_rr r_rr (by decide +kernel) (by decide +kernel)
  have et17p := TRp hTMc hf14 m_q r_q (by decide +kernel) (by decide +kernel)
  have et17c := TRc hTMc hf14 m_q r_q (by decide +kernel) (by decide +kernel) (by decide +kernel) (by decide +kernel)
  have et17m := TRm hTMm hf14 m_rr r_rr (by decide +kernel) (by decide +kernel) (by decide +kernel) (by decide +kernel)
  have hTPn : ∀ i, i < 4 → P (trs f14 q i) = i := fun i hi => by rw [et17p i]; exact hTPn i hi
  have hTMc := TMc_of h m_q r_q
  have hTMm := TMm_of h m_rr r_rr
  have hTQn : ∀ i, i < 4 → P (rfa f14 (trs f14 q i) 0) = i := fun i hi => by rw [en16a i hi]; exact hTQn i hi
  have hTMn := TMn_of h hTMc
  have hI : INV L R O P f14 q := hI.most m_q r_q hf14 (by decide +kernel) (by decide +kernel) (by decide +kernel) (by decide +kernel) (by decide +kernel)
  have t_GA : fld f14 rr 0 = .ref GA := (hf14.efl m_rr r_rr (by decide +kernel)).trans t_GA
  have t_GP : fld f14 rr 22 = .ref GP := (hf14.efl m_rr r_rr (by decide +kernel)).trans t_GP
  have t_GL : fld f14 rr 23 = .ref GL := (hf14.efl m_rr r_rr (by decide +kernel)).trans t_GL
  have t_GT : fld f14 rr 6 = .ref GT := (hf14.efl m_rr r_rr (by decide +kernel)).trans t_GT
  have hR : RBA GA f14 := hR.fm hf14 m_GA r_GA (by decide +kernel)
  have hX : GZ GP GL f14 := hX.fm hf14 m_GP r_GP m_GL r_GL (by decide +kernel) (by decide +kernel)
  have hP : fld f14 (rfa f14 q 6) 16 = V := by rw [hf14.erf m_q r_q (by decide +kernel), hf14.efl hs6m hs6r (by decide +kernel)]; exact hP
  have hs6m : rfa f14 q 6 ∈ L := by rw [hf14.erf m_q r_q (by decide +kernel)]; exact hs6m
  have hs6r : R (rfa f14 q 6) = 7 := by rw [hf14.erf m_q r_q (by decide +kernel)]; exact hs6r
  refine lv_pop F.1 F.2.1 dL_law_1701 rfl ?_
  refine lv_aload_n F.1 F.2.1 dL_law_1702 rfl (lv_at hl 1 rfl) ?_
  refine lv_aload_n F.1 F.2.1 dL_law_1703 rfl (lv_at hl 3 rfl) ?_
  refine lv_iload_n F.1 F.2.1 dL_law_1704 rfl (lv_at hl 0 rfl) ?_
  refine tw_iconst F dL_law_1705 ki_1 (fun z18 hz18 => ?_)
  refine tu_iadd F dL_law_1706 (by omega) (fun z19 hz19 => ?_)
  refine va_sld F.1 F.2.1 hX0 hbl hbA h.dd.2.2 (tw_in (by omega) (by omega)) dL_law_1707 ?_
  refine lv_topi (fun z20 qz20 => ?_)
  obtain rfl : z3 = z20 := by rw [qz3, qz20, show z2 = z19 from Int32.toInt_inj.mp (by omega)]
  refine lv_i2l F.1 F.2.1 dL_law_1708 rfl ?_
  refine lv_topl (fun z21 qz21 => ?_)
  obtain rfl : z4 = z21 := by rw [qz4, qz21]
  refine tw_bipush F dL_law_1709 kb_32 (fun z22 hz22 => ?_)
  obtain rfl : z5 = z22 := Int32.toInt_inj.mp (by omega)
  refine lv_lshl F.1 F.2.1 dL_law_1711 rfl ?_
  refine lv_topl (fun z23 qz23 => ?_)
  obtain rfl : z6 = z23 := by rw [qz6, qz23]
  refine lv_aload_n F.1 F.2.1 dL_law_1712 rfl (lv_at hl 3 rfl) ?_
  refine lv_iload_n F.1 F.2.1 dL_law_1713 rfl (lv_at hl 0 rfl) ?_
  refine tw_iconst F dL_law_1714 ki_2 (fun z24 hz24 => ?_)
  refine tu_iadd F dL_law_1715 (by omega) (fun z25 hz25 => ?_)
  refine va_sld F.1 F.2.1 hX0 hbl hbA h.dd.2.2 (tw_in (by omega) (by omega)) dL_law_1716 ?_
  refine lv_topi (fun z26 qz26 => ?_)
  obtain rfl : z9 = z26 := by rw [qz9, qz26, show z8 = z25 from Int32.toInt_inj.mp (by omega)]
  refine lv_i2l F.1 F.2.1 dL_law_1717 rfl ?_
  refine lv_topl (fun z27 qz27 => ?_)
  obtain rfl : z10 = z27 := by rw [qz10, qz27]
  refine lv_ldc2 F.1 F.2.1 F.2.2.2.1 (F.2.2.2.2 _ mw_6) dL_law_1718 ?_
  refine lv_topl (fun z28 qz28 => ?_)
  obtain rfl : z11 = z28 := by rw [qz11, qz28]
  refine lv_land F.1 F.2.1 dL_law_1721 ?_
  refine lv_topl (fun z29 qz29 => ?_)
  obtain rfl : z12 = z29 := by rw [qz12, qz29]
  refine lv_lor F.1 F.2.1 dL_law_1722 ?_
  refine lv_topl (fun z30 qz30 => ?_)
  obtain rfl : z13 = z30 := by rw [qz13, qz30]
  refine tw_Vi (As := [.long z13]) F hZ h yk_X12_heard mw_1553 mw_1554 mw_1555 (s_X12_heard l D cy L R O f14 rr m_rr r_rr z13) rfl rfl m_rr r_rr (fun e q => (T_12 e).mp q) rfl hl.1 rfl (Nat.le_of_ble_eq_true rfl) ⟨Nat.le_of_ble_eq_true rfl, Nat.le_of_ble_eq_true rfl⟩ ⟨hcs, hsl⟩ dL_law_1723 (fun v32 f31 H locs hp31 h => ?_)
  have hf31 := hp31
  have en33a := TNa hTMc hf31 m_q r_q (by decide +kernel) (by decide +kernel) (by decide +kernel)
  have en33c := TNc hTMc hTMn hf31 m_q r_q (by decide +kernel) (by decide +kernel) (by decide +kernel) (by decide +kernel)
  have en33m := TNm t_GT m_GT r_GT hf31 m_rr r_rr (by decide +kernel) (by decide +kernel)
  have et34p := TRp hTMc hf31 m_q r_q (by decide +kernel) (by decide +kernel)
  have et34c := TRc hTMc hf31 m_q r_q (by decide +kernel) (by decide +kernel) (by decide +kernel) (by decide +kernel)
  have et34m := TRm hTMm hf31 m_rr r_rr (by decide +kernel) (by decide +kernel) (by decide +kernel) (by decide +kernel)
  have hTPn : ∀ i, i < 4 → P (trs f31 q i) = i := fun i hi => by rw [et34p i]; exact hTPn i hi
  have hTMc := TMc_of h m_q r_q
  have hTMm := TMm_of h m_rr r_rr
  have hTQn : ∀ i, i < 4 → P (rfa f31 (trs f31 q i) 0) = i := fun i hi => by rw [en33a i hi]; exact hTQn i hi
  have hTMn := TMn_of h hTMc
  have hI : INV L R O P f31 q := hI.most m_q r_q hf31 (by decide +kernel) (by decide +kernel) (by decide +kernel) (by decide +kernel) (by decide +kernel)
  have t_GA : fld f31 rr 0 = .ref GA := (hf31.efl m_rr r_rr (by decide +kernel)).trans t_GA
  have t_GP : fld f31 rr 22 = .ref GP := (hf31.efl m_rr r_rr (by decide +kernel)).trans t_GP
  have t_GL : fld f31 rr 23 = .ref GL := (hf31.efl m_rr r_rr (by decide +kernel)).trans t_GL
  have t_GT : fld f31 rr 6 = .ref GT := (hf31.efl m_rr r_rr (by decide +kernel)).trans t_GT
  have hR : RBA GA f31 := hR.fm hf31 m_GA r_GA (by decide +kernel)
  have hX : GZ GP GL f31 := hX.fm hf31 m_GP r_GP m_GL r_GL (by decide +kernel) (by decide +kernel)
  have hP : fld f31 (rfa f31 q 6) 16 = V := by rw [hf31.erf m_q r_q (by decide +kernel), hf31.efl hs6m hs6r (by decide +kernel)]; exact hP
  have hs6m : rfa f31 q 6 ∈ L := by rw [hf31.erf m_q r_q (by decide +kernel)]; exact hs6m
  have hs6r : R (rfa f31 q 6) = 7 := by rw [hf31.erf m_q r_q (by decide +kernel)]; exact hs6r
  refine lv_pop F.1 F.2.1 dL_law_1726 rfl ?_
  refine lv_goto (tgt := 1756) F.1 F.2.1 dL_law_1727 (by decide) ?_
  exact kk f31 _ _ _ ⟨h, hI, ⟨t_GA, t_GP, t_GL, t_GT⟩, hR, hX, hP, hTPn, fun i hi => by have q0 := hTR i hi; have q1 := et17c i hi; have q2 := et17m i; have q3 := et34c i hi; have q4 := et34m i; omega, hTQn, fun i hi j hj => by have q0 := hTR i hi; have q1 := et17c i hi; have q2 := et17m i; have q3 := et34c i hi; have q4 := et34m i; have qb := hCb i hi; have hj6 : j < 60 := (by omega); have n0 := hNR i hi j; have n1 := en16c i hi j; have n2 := en16m i j; have n3 := en33c i hi j; have n4 := en33m i j; omega⟩ hl
theorem dL_law_1730 : decode cL_law 1730 = .ok (.aload_n 1, 1) := by decide +kernel
theorem dL_law_1731 : decode cL_law 1731 = .ok (.invokevirtual 197, 3) := by decide +kernel
theorem mw_1557 : Cond.methodLink RL 197 yX11_mark ∈ wsL_law := inr_65 _ (List.mem_of_getElem? (i := 21) rfl)
theorem mw_1560 : Cond.code yX11_mark cX11_mark 1 (some .int) ∈ wsL_law := inr_66 _ (List.mem_of_getElem? (i := 0) rfl)
theorem yk_X11_mark : xY yX11_mark RX11 cX11_mark 1 (some .int) 0 := ⟨⟨rfl, by decide +kernel, by decide +kernel, by decide +kernel⟩, mw_2, mw_1560⟩
theorem mw_1558 : Cond.instanceMethod yX11_mark ∈ wsL_law := inr_65 _ (List.mem_of_getElem? (i := 22) rfl)
theorem mw_1559 : Cond.selects RX11 yX11_mark yX11_mark ∈ wsL_law := inr_65 _ (List.mem_of_getElem? (i := 23) rfl)
theorem dL_law_1734 : decode cL_law 1734 = .ok (.pop, 1) := by decide +kernel
theorem dL_law_1735 : decode cL_law 1735 = .ok (.aload_n 2, 1) := by decide +kernel
theorem dL_law_1736 : decode cL_law 1736 = .ok (.invokevirtual 200, 3) := by decide +kernel
theorem mw_1572 : Cond.methodLink RL 200 yX12_mark ∈ wsL_law := inr_66 _ (List.mem_of_getElem? (i := 12) rfl)
theorem mw_1575 : Cond.code yX12_mark cX12_mark 1 (some .int) ∈ wsL_law := inr_66 _ (List.mem_of_getElem? (i := 15) rfl)
theorem yk_X12_mark : xY yX12_mark RX12 cX12_mark 1 (some .int) 0 := ⟨⟨rfl, by decide +kernel, by decide +kernel, by decide +kernel⟩, mw_5, mw_1575⟩
theorem mw_1573 : Cond.instanceMethod yX12_mark ∈ wsL_law := inr_66 _ (List.mem_of_getElem? (i := 13) rfl)
theorem mw_1574 : Cond.selects RX12 yX12_mark yX12_mark ∈ wsL_law := inr_66 _ (List.mem_of_getElem? (i := 14) rfl)
theorem dL_law_1739 : decode cL_law 1739 = .ok (.pop, 1) := by decide +kernel
theorem dL_law_1740 : decode cL_law 1740 = .ok (.goto 16, 3) := by decide +kernel
set_option maxHeartbeats 4000000 in
set_option maxRecDepth 100000 in
theorem law_c41 {p : Program} {l : Launch} {e : Env} {s : State} {m : MethodId} {below : List Frame} {meth : Method} {c : Code} {H : Heap} {locs : List Loc} {Q : State → Prop} {D : va_G} {cy : Nat → ClassId} {A : Nat → Prop} {L : List Nat} {R O P : Nat → Nat} {f0 : Nat → va_E} {ls : Array Slot} {b N cs sl q rr GA GP GL GT : Nat} {xs : Nat → Int32} {V : Value} (F : CallFix p m c cL_law 4 s #[Value.ref b] wsL_law RL) (hZ : tZ A s s.heap) (hX0 : va_X b N xs s s.heap) (hbl : b < s.heap.size) (hbA : ¬ A b) (hcs : cs ≤ room_1.cells) (hsl : sl ≤ room_1.slots) (i : Int32) (bi : 0 ≤ i.toInt ∧ i.toInt + 6 ≤ N ∧ N ≤ 3072) (m_q : q ∈ L) (r_q : R q = 11) (m_rr : rr ∈ L) (r_rr : R rr = 12) (m_GA : GA ∈ L) (r_GA : R GA = 61) (m_GP : GP ∈ L) (r_GP : R GP = 69) (m_GL : GL ∈ L) (r_GL : R GL = 70) (m_GT : GT ∈ L) (r_GT : R GT = 64) (hLS : LWS D cy A s L R O P q rr GA GP GL GT V f0 H locs) (hl : lv_has ls 4 [(3, .int i), (2, .ref rr), (1, .ref q), (0, .ref b)]) (kk : ∀ (f1 : Nat → va_E) (H : Heap) (locs : List Loc) (ls : Array Slot), LWS D cy A s L R O P q rr GA GP GL GT V f1 H locs → lv_has ls 4 [(3, .int i), (2, .ref rr), (1, .ref q), (0, .ref b)] → W p l e room_1 s m #[Value.ref b] below meth c H locs cs sl Q (F0 m 1756 ls [])) : W p l e room_1 s m #[Value.ref b] below meth c H locs cs sl Q (F0 m 1730 ls []) := by
  obtain ⟨h, hI, ⟨t_GA, t_GP, t_GL, t_GT⟩, hR, hX, hP, hTP, hTR, hTQ, hNR⟩ := hLS
  have hs6m := hI.2.2.1.1
  have hs6r := hI.2.2.1.2
  have hTMc := TMc_of h m_q r_q
  have hTMm := TMm_of h m_rr r_rr
  have hTPn := hTP
  have hTMn := TMn_of h hTMc
  have hTQn := hTQ
  have hCb := CS_le h m_q r_q
  refine lv_aload_n F.1 F.2.1 dL_law_1730 rfl (lv_at hl 2 rfl) ?_
  refine tw_Vi (As := []) F hZ h yk_X11_mark mw_1557 mw_1558 mw_1559 (s_X11_mark l D cy L R O f0 hI.2.2.2.1 q m_q r_q P hI.2.2.2.2.1) rfl rfl m_q r_q (fun e q => (T_11 e).mp q) rfl hl.1 rfl (Nat.le_of_ble_eq_true rfl) ⟨Nat.le_of_ble_eq_true rfl, Nat.le_of_ble_eq_true rfl⟩ ⟨hcs, hsl⟩ dL_law_1731 (fun v2 f1 H locs hp1 h => ?_)
  obtain ⟨hf1, hG, hv2p0⟩ := hp1
  have en3a := TNa hTMc hf1 m_q r_q (by decide +kernel) (by decide +kernel) (by decide +kernel)
  have en3c := TNc hTMc hTMn hf1 m_q r_q (by decide +kernel) (by decide +kernel) (by decide +kernel) (by decide +kernel)
  have en3m := TNm t_GT m_GT r_GT hf1 m_rr r_rr (by decide +kernel) (by decide +kernel)
  have et4p := TRp hTMc hf1 m_q r_q (by decide +kernel) (by decide +kernel)
  have et4c := TRc hTMc hf1 m_q r_q (by decide +kernel) (by decide +kernel) (by decide +kernel) (by decide +kernel)
  have et4m := TRm hTMm hf1 m_rr r_rr (by decide +kernel) (by decide +kernel) (by decide +kernel) (by decide +kernel)
  have hTPn : ∀ i, i < 4 → P (trs f1 q i) = i := fun i hi => by rw [et4p i]; exact hTPn i hi
  have hTMc := TMc_of h m_q r_q
  have hTMm := TMm_of h m_rr r_rr
  have hTQn : ∀ i, i < 4 → P (rfa f1 (trs f1 q i) 0) = i := fun i hi => by rw [en3a i hi]; exact hTQn i hi
  have hTMn := TMn_of h hTMc
  have hI : INV L R O P f1 q := hI.mk1 m_q r_q hf1 (by decide +kernel) hG hv2p0
  have t_GA : fld f1 rr 0 = .ref GA := (hf1.efl m_rr r_rr (by decide +kernel)).trans t_GA
  have t_GP : fld f1 rr 22 = .ref GP := (hf1.efl m_rr r_rr (by decide +kernel)).trans t_GP
  have t_GL : fld f1 rr 23 = .ref GL := (hf1.efl m_rr r_rr (by decide +kernel)).trans t_GL
  have t_GT : fld f1 rr 6 = .ref GT := (hf1.efl m_rr r_rr (by decide +kernel)).trans t_GT
  have hR : RBA GA f1 := hR.fm hf1 m_GA r_GA (by decide +kernel)
  have hX : GZ GP GL f1 := hX.fm hf1 m_GP r_GP m_GL r_GL (by decide +kernel) (by decide +kernel)
  have hP : fld f1 (rfa f1 q 6) 16 = V := by rw [hf1.erf m_q r_q (by decide +kernel), hf1.efl hs6m hs6r (by decide +kernel)]; exact hP
  have hs6m : rfa f1 q 6 ∈ L := by rw [hf1.erf m_q r_q (by decide +kernel)]; exact hs6m
  have hs6r : R (rfa f1 q 6) = 7 := by rw [hf1.erf m_q r_q (by decide +kernel)]; exact hs6r
  refine lv_pop F.1 F.2.1 dL_law_1734 rfl ?_
  refine lv_aload_n F.1 F.2.1 dL_law_1735 rfl (lv_at hl 1 rfl) ?_
  refine tw_Vi (As := []) F hZ h yk_X12_mark mw_1572 mw_1573 mw_1574 (s_X12_mark l D cy L R O f1 rr m_rr r_rr GA m_GA r_GA t_GA GP m_GP r_GP t_GP GL m_GL r_GL t_GL GT m_GT r_GT t_GT hR hX) rfl rfl m_rr r_rr (fun e q => (T_12 e).mp q) rfl hl.1 rfl (Nat.le_of_ble_eq_true rfl) ⟨Nat.le_of_ble_eq_true rfl, Nat.le_of_ble_eq_true rfl⟩ ⟨hcs, hsl⟩ dL_law_1736 (fun v6 f5 H locs hp5 h => ?_)
  obtain ⟨hf5, hv6p0, hv6p1⟩ := hp5
  have en7a := TNa hTMc hf5 m_q r_q (by decide +kernel) (by decide +kernel) (by decide +kernel)
  have en7c := TNc hTMc hTMn hf5 m_q r_q (by decide +kernel) (by decide +kernel) (by decide +kernel) (by decide +kernel)
  have en7m := TNm t_GT m_GT r_GT hf5 m_rr r_rr (by decide +kernel) (by decide +kernel)
  have et8p := TRp hTMc hf5 m_q r_q (by decide +kernel) (by decide +kernel)
  have et8c := TRc hTMc hf5 m_q r_q (by decide +kernel) (by decide +kernel) (by decide +kernel) (by decide +kernel)
  have et8m := TRm hTMm hf5 m_rr r_rr (by decide +kernel) (by decide +kernel) (by decide +kernel) (by decide +kernel)
  have hTPn : ∀ i, i < 4 → P (trs f5 q i) = i := fun i hi => by rw [et8p i]; exact hTPn i hi
  have hTMc := TMc_of h m_q r_q
  have hTMm := TMm_of h m_rr r_rr
  have hTQn : ∀ i, i < 4 → P (rfa f5 (trs f5 q i) 0) = i := fun i hi => by rw [en7a i hi]; exact hTQn i hi
  have hTMn := TMn_of h hTMc
  have hI : INV L R O P f5 q := hI.most m_q r_q hf5 (by decide +kernel) (by decide +kernel) (by decide +kernel) (by decide +kernel) (by decide +kernel)
  have t_GA : fld f5 rr 0 = .ref GA := (hf5.efl m_rr r_rr (by decide +kernel)).trans t_GA
  have t_GP : fld f5 rr 22 = .ref GP := (hf5.efl m_rr r_rr (by decide +kernel)).trans t_GP
  have t_GL : fld f5 rr 23 = .ref GL := (hf5.efl m_rr r_rr (by decide +kernel)).trans t_GL
  have t_GT : fld f5 rr 6 = .ref GT := (hf5.efl m_rr r_rr (by decide +kernel)).trans t_GT
  have hR : RBA GA f5 := hv6p0
  have hX : GZ GP GL f5 := hX.fm hf5 m_GP r_GP m_GL r_GL (by decide +kernel) (by decide +kernel)
  have hP : fld f5 (rfa f5 q 6) 16 = V := by rw [hf5.erf m_q r_q (by decide +kernel), hf5.efl hs6m hs6r (by decide +kernel)]; exact hP
  have hs6m : rfa f5 q 6 ∈ L := by rw [hf5.erf m_q r_q (by decide +kernel)]; exact hs6m
  have hs6r : R (rfa f5 q 6) = 7 := by rw [hf5.erf m_q r_q (by decide +kernel)]; exact hs6r
  refine lv_pop F.1 F.2.1 dL_law_1739 rfl ?_
  refine lv_goto (tgt := 1756) F.1 F.2.1 dL_law_1740 (by decide) ?_
  exact kk f5 _ _ _ ⟨h, hI, ⟨t_GA, t_GP, t_GL, t_GT⟩, hR, hX, hP, hTPn, fun i hi => by have q0 := hTR i hi; have q1 := et4c i hi; have q2 := et4m i; have q3 := et8c i hi; have q4 := et8m i; omega, hTQn, fun i hi j hj => by have q0 := hTR i hi; have q1 := et4c i hi; have q2 := et4m i; have q3 := et8c i hi; have q4 := et8m i; have qb := hCb i hi; have hj6 : j < 60 := (by omega); have n0 := hNR i hi j; have n1 := en3c i hi j; have n2 := en3m i j; have n3 := en7c i hi j; have n4 := en7m i j; omega⟩ hl
theorem dL_law_1743 : decode cL_law 1743 = .ok (.aload_n 1, 1) := by decide +kernel
theorem dL_law_1744 : decode cL_law 1744 = .ok (.invokevirtual 201, 3) := by decide +kernel
theorem mw_1577 : Cond.methodLink RL 201 yX11_back ∈ wsL_law := inr_66 _ (List.mem_of_getElem? (i := 17) rfl)
theorem mw_1580 : Cond.code yX11_back cX11_back 1 (some .int) ∈ wsL_law := inr_66 _ (List.mem_of_getElem? (i := 20) rfl)
theorem yk_X11_back : xY yX11_back RX11 cX11_back 1 (some .int) 0 := ⟨⟨rfl, by decide +kernel, by decide +kernel, by decide +kernel⟩, mw_2, mw_1580⟩
theorem mw_1578 : Cond.instanceMethod yX11_back ∈ wsL_law := inr_66 _ (List.mem_of_getElem? (i := 18) rfl)
theorem mw_1579 : Cond.selects RX11 yX11_back yX11_back ∈ wsL_law := inr_66 _ (List.mem_of_getElem? (i := 19) rfl)
theorem dL_law_1747 : decode cL_law 1747 = .ok (.pop, 1) := by decide +kernel
theorem dL_law_1748 : decode cL_law 1748 = .ok (.aload_n 2, 1) := by decide +kernel
theorem dL_law_1749 : decode cL_law 1749 = .ok (.invokevirtual 204, 3) := by decide +kernel
theorem mw_1581 : Cond.methodLink RL 204 yX12_back ∈ wsL_law := inr_66 _ (List.mem_of_getElem? (i := 21) rfl)
theorem mw_1584 : Cond.code yX12_back cX12_back 1 (some .int) ∈ wsL_law := inr_67 _ (List.mem_of_getElem? (i := 0) rfl)
theorem yk_X12_back : xY yX12_back RX12 cX12_back 1 (some .int) 0 := ⟨⟨rfl, by decide +kernel, by decide +kernel, by decide +kernel⟩, mw_5, mw_1584⟩
theorem mw_1582 : Cond.instanceMethod yX12_back ∈ wsL_law := inr_66 _ (List.mem_of_getElem? (i := 22) rfl)
theorem mw_1583 : Cond.selects RX12 yX12_back yX12_back ∈ wsL_law := inr_66 _ (List.mem_of_getElem? (i := 23) rfl)
theorem dL_law_1752 : decode cL_law 1752 = .ok (.pop, 1) := by decide +kernel
theorem dL_law_1753 : decode cL_law 1753 = .ok (.goto 3, 3) := by decide +kernel
set_option maxHeartbeats 4000000 in
set_option maxRecDepth 100000 in
theorem law_c42 {p : Program} {l : Launch} {e : Env} {s : State} {m : MethodId} {below : List Frame} {meth : Method} {c : Code} {H : Heap} {locs : List Loc} {Q : State → Prop} {D : va_G} {cy : Nat → ClassId} {A : Nat → Prop} {L : List Nat} {R O P : Nat → Nat} {f0 : Nat → va_E} {ls : Array Slot} {b N cs sl q rr GA GP GL GT : Nat} {xs : Nat → Int32} {V : Value} (F : CallFix p m c cL_law 4 s #[Value.ref b] wsL_law RL) (hZ : tZ A s s.heap) (hX0 : va_X b N xs s s.heap) (hbl : b < s.heap.size) (hbA : ¬ A b) (hcs : cs ≤ room_1.cells) (hsl : sl ≤ room_1.slots) (i : Int32) (bi : 0 ≤ i.toInt ∧ i.toInt + 6 ≤ N ∧ N ≤ 3072) (m_q : q ∈ L) (r_q : R q = 11) (m_rr : rr ∈ L) (r_rr : R rr = 12) (m_GA : GA ∈ L) (r_GA : R GA = 61) (m_GP : GP ∈ L) (r_GP : R GP = 69) (m_GL : GL ∈ L) (r_GL : R GL = 70) (m_GT : GT ∈ L) (r_GT : R GT = 64) (hLS : LWS D cy A s L R O P q rr GA GP GL GT V f0 H locs) (hl : lv_has ls 4 [(3, .int i), (2, .ref rr), (1, .ref q), (0, .ref b)]) (kk : ∀ (f1 : Nat → va_E) (H : Heap) (locs : List Loc) (ls : Array Slot), LWS D cy A s L R O P q rr GA GP GL GT V f1 H locs → lv_has ls 4 [(3, .int i), (2, .ref rr), (1, .ref q), (0, .ref b)] → W p l e room_1 s m #[Value.ref b] below meth c H locs cs sl Q (F0 m 1756 ls [])) : W p l e room_1 s m #[Value.ref b] below meth c H locs cs sl Q (F0 m 1743 ls []) := by
  obtain ⟨h, hI, ⟨t_GA, t_GP, t_GL, t_GT⟩, hR, hX, hP, hTP, hTR, hTQ, hNR⟩ := hLS
  have hs6m := hI.2.2.1.1
  have hs6r := hI.2.2.1.2
  have hTMc := TMc_of h m_q r_q
  have hTMm := TMm_of h m_rr r_rr
  have hTPn := hTP
  have hTMn := TMn_of h hTMc
  have hTQn := hTQ
  have hCb := CS_le h m_q r_q
  refine lv_aload_n F.1 F.2.1 dL_law_1743 rfl (lv_at hl 2 rfl) ?_
  refine tw_Vi (As := []) F hZ h yk_X11_back mw_1577 mw_1578 mw_1579 (s_X11_back l D cy L R O f0 hI.2.2.2.1 q m_q r_q P hI.2.2.2.2.1) rfl rfl m_q r_q (fun e q => (T_11 e).mp q) rfl hl.1 rfl (Nat.le_of_ble_eq_true rfl) ⟨Nat.le_of_ble_eq_true rfl, Nat.le_of_ble_eq_true rfl⟩ ⟨hcs, hsl⟩ dL_law_1744 (fun v2 f1 H locs hp1 h => ?_)
  obtain ⟨hf1, hG, hv2p0⟩ := hp1
  have en3a := TNa hTMc hf1 m_q r_q (by decide +kernel) (by decide +kernel) (by decide +kernel)
  have en3c := TNc hTMc hTMn hf1 m_q r_q (by decide +kernel) (by decide +kernel) (by decide +kernel) (by decide +kernel)
  have en3m := TNm t_GT m_GT r_GT hf1 m_rr r_rr (by decide +kernel) (by decide +kernel)
  have et4p := TRp hTMc hf1 m_q r_q (by decide +kernel) (by decide +kernel)
  have et4c := TRc hTMc hf1 m_q r_q (by decide +kernel) (by decide +kernel) (by decide +kernel) (by decide +kernel)
  have et4m := TRm hTMm hf1 m_rr r_rr (by decide +kernel) (by decide +kernel) (by decide +kernel) (by decide +kernel)
  have hTPn : ∀ i, i < 4 → P (trs f1 q i) = i := fun i hi => by rw [et4p i]; exact hTPn i hi
  have hTMc := TMc_of h m_q r_q
  have hTMm := TMm_of h m_rr r_rr
  have hTQn : ∀ i, i < 4 → P (rfa f1 (trs f1 q i) 0) = i := fun i hi => by rw [en3a i hi]; exact hTQn i hi
  have hTMn := TMn_of h hTMc
  have hI : INV L R O P f1 q := hI.mk1 m_q r_q hf1 (by decide +kernel) hG hv2p0
  have t_GA : fld f1 rr 0 = .ref GA := (hf1.efl m_rr r_rr (by decide +kernel)).trans t_GA
  have t_GP : fld f1 rr 22 = .ref GP := (hf1.efl m_rr r_rr (by decide +kernel)).trans t_GP
  have t_GL : fld f1 rr 23 = .ref GL := (hf1.efl m_rr r_rr (by decide +kernel)).trans t_GL
  have t_GT : fld f1 rr 6 = .ref GT := (hf1.efl m_rr r_rr (by decide +kernel)).trans t_GT
  have hR : RBA GA f1 := hR.fm hf1 m_GA r_GA (by decide +kernel)
  have hX : GZ GP GL f1 := hX.fm hf1 m_GP r_GP m_GL r_GL (by decide +kernel) (by decide +kernel)
  have hP : fld f1 (rfa f1 q 6) 16 = V := by rw [hf1.erf m_q r_q (by decide +kernel), hf1.efl hs6m hs6r (by decide +kernel)]; exact hP
  have hs6m : rfa f1 q 6 ∈ L := by rw [hf1.erf m_q r_q (by decide +kernel)]; exact hs6m
  have hs6r : R (rfa f1 q 6) = 7 := by rw [hf1.erf m_q r_q (by decide +kernel)]; exact hs6r
  refine lv_pop F.1 F.2.1 dL_law_1747 rfl ?_
  refine lv_aload_n F.1 F.2.1 dL_law_1748 rfl (lv_at hl 1 rfl) ?_
  refine tw_Vi (As := []) F hZ h yk_X12_back mw_1581 mw_1582 mw_1583 (s_X12_back l D cy L R O f1 rr m_rr r_rr GA m_GA r_GA t_GA GP m_GP r_GP t_GP GL m_GL r_GL t_GL GT m_GT r_GT t_GT hR hX) rfl rfl m_rr r_rr (fun e q => (T_12 e).mp q) rfl hl.1 rfl (Nat.le_of_ble_eq_true rfl) ⟨Nat.le_of_ble_eq_true rfl, Nat.le_of_ble_eq_true rfl⟩ ⟨hcs, hsl⟩ dL_law_1749 (fun v6 f5 H locs hp5 h => ?_)
  obtain ⟨hf5, hv6p0, hv6p1⟩ := hp5
  have en7a := TNa hTMc hf5 m_q r_q (by decide +kernel) (by decide +kernel) (by decide +kernel)
  have en7c := TNc hTMc hTMn hf5 m_q r_q (by decide +kernel) (by decide +kernel) (by decide +kernel) (by decide +kernel)
  have en7m := TNm t_GT m_GT r_GT hf5 m_rr r_rr (by decide +kernel) (by decide +kernel)
  have et8p := TRp hTMc hf5 m_q r_q (by decide +kernel) (by decide +kernel)
  have et8c := TRc hTMc hf5 m_q r_q (by decide +kernel) (by decide +kernel) (by decide +kernel) (by decide +kernel)
  have et8m := TRm hTMm hf5 m_rr r_rr (by decide +kernel) (by decide +kernel) (by decide +kernel) (by decide +kernel)
  have hTPn : ∀ i, i < 4 → P (trs f5 q i) = i := fun i hi => by rw [et8p i]; exact hTPn i hi
  have hTMc := TMc_of h m_q r_q
  have hTMm := TMm_of h m_rr r_rr
  have hTQn : ∀ i, i < 4 → P (rfa f5 (trs f5 q i) 0) = i := fun i hi => by rw [en7a i hi]; exact hTQn i hi
  have hTMn := TMn_of h hTMc
  have hI : INV L R O P f5 q := hI.most m_q r_q hf5 (by decide +kernel) (by decide +kernel) (by decide +kernel) (by decide +kernel) (by decide +kernel)
  have t_GA : fld f5 rr 0 = .ref GA := (hf5.efl m_rr r_rr (by decide +kernel)).trans t_GA
  have t_GP : fld f5 rr 22 = .ref GP := (hf5.efl m_rr r_rr (by decide +kernel)).trans t_GP
  have t_GL : fld f5 rr 23 = .ref GL := (hf5.efl m_rr r_rr (by decide +kernel)).trans t_GL
  have t_GT : fld f5 rr 6 = .ref GT := (hf5.efl m_rr r_rr (by decide +kernel)).trans t_GT
  have hR : RBA GA f5 := hv6p0
  have hX : GZ GP GL f5 := hX.fm hf5 m_GP r_GP m_GL r_GL (by decide +kernel) (by decide +kernel)
  have hP : fld f5 (rfa f5 q 6) 16 = V := by rw [hf5.erf m_q r_q (by decide +kernel), hf5.efl hs6m hs6r (by decide +kernel)]; exact hP
  have hs6m : rfa f5 q 6 ∈ L := by rw [hf5.erf m_q r_q (by decide +kernel)]; exact hs6m
  have hs6r : R (rfa f5 q 6) = 7 := by rw [hf5.erf m_q r_q (by decide +kernel)]; exact hs6r
  refine lv_pop F.1 F.2.1 dL_law_1752 rfl ?_
  refine lv_goto (tgt := 1756) F.1 F.2.1 dL_law_1753 (by decide) ?_
  exact kk f5 _ _ _ ⟨h, hI, ⟨t_GA, t_GP, t_GL, t_GT⟩, hR, hX, hP, hTPn, fun i hi => by have q0 := hTR i hi; have q1 := et4c i hi; have q2 := et4m i; have q3 := et8c i hi; have q4 := et8m i; omega, hTQn, fun i hi j hj => by have q0 := hTR i hi; have q1 := et4c i hi; have q2 := et4m i; have q3 := et8c i hi; have q4 := et8m i; have qb := hCb i hi; have hj6 : j < 60 := (by omega); have n0 := hNR i hi j; have n1 := en3c i hi j; have n2 := en3m i j; have n3 := en7c i hi j; have n4 := en7m i j; omega⟩ hl
