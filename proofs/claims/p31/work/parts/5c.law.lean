theorem dL_law_1393 : decode cL_law 1393 = .ok (.aload_n 1, 1) := by decide +kernel
theorem dL_law_1394 : decode cL_law 1394 = .ok (.aload_n 0, 1) := by decide +kernel
theorem dL_law_1395 : decode cL_law 1395 = .ok (.iload_n 3, 1) := by decide +kernel
theorem dL_law_1396 : decode cL_law 1396 = .ok (.iconst 1, 1) := by decide +kernel
theorem dL_law_1397 : decode cL_law 1397 = .ok (.iadd, 1) := by decide +kernel
theorem dL_law_1398 : decode cL_law 1398 = .ok (.iaload, 1) := by decide +kernel
theorem dL_law_1399 : decode cL_law 1399 = .ok (.aload_n 0, 1) := by decide +kernel
theorem dL_law_1400 : decode cL_law 1400 = .ok (.iload_n 3, 1) := by decide +kernel
theorem dL_law_1401 : decode cL_law 1401 = .ok (.iconst 2, 1) := by decide +kernel
theorem dL_law_1402 : decode cL_law 1402 = .ok (.iadd, 1) := by decide +kernel
theorem dL_law_1403 : decode cL_law 1403 = .ok (.iaload, 1) := by decide +kernel
theorem dL_law_1404 : decode cL_law 1404 = .ok (.aload_n 0, 1) := by decide +kernel
theorem dL_law_1405 : decode cL_law 1405 = .ok (.iload_n 3, 1) := by decide +kernel
theorem dL_law_1406 : decode cL_law 1406 = .ok (.iconst 3, 1) := by decide +kernel
theorem dL_law_1407 : decode cL_law 1407 = .ok (.iadd, 1) := by decide +kernel
theorem dL_law_1408 : decode cL_law 1408 = .ok (.iaload, 1) := by decide +kernel
theorem dL_law_1409 : decode cL_law 1409 = .ok (.aload_n 0, 1) := by decide +kernel
theorem dL_law_1410 : decode cL_law 1410 = .ok (.iload_n 3, 1) := by decide +kernel
theorem dL_law_1411 : decode cL_law 1411 = .ok (.iconst 4, 1) := by decide +kernel
theorem dL_law_1412 : decode cL_law 1412 = .ok (.iadd, 1) := by decide +kernel
theorem dL_law_1413 : decode cL_law 1413 = .ok (.iaload, 1) := by decide +kernel
theorem dL_law_1414 : decode cL_law 1414 = .ok (.invokevirtual 155, 3) := by decide +kernel
theorem mw_1363 : Cond.methodLink RL 155 yX11_mend ∈ wsL_law := inr_57 _ (List.mem_of_getElem? (i := 19) rfl)
theorem mw_1366 : Cond.code yX11_mend cX11_mend 6 (some .int) ∈ wsL_law := inr_57 _ (List.mem_of_getElem? (i := 22) rfl)
theorem yk_X11_mend : xY yX11_mend RX11 cX11_mend 6 (some .int) 4 := ⟨⟨rfl, by decide +kernel, by decide +kernel, by decide +kernel⟩, mw_2, mw_1366⟩
theorem mw_1364 : Cond.instanceMethod yX11_mend ∈ wsL_law := inr_57 _ (List.mem_of_getElem? (i := 20) rfl)
theorem mw_1365 : Cond.selects RX11 yX11_mend yX11_mend ∈ wsL_law := inr_57 _ (List.mem_of_getElem? (i := 21) rfl)
theorem dL_law_1417 : decode cL_law 1417 = .ok (.pop, 1) := by decide +kernel
theorem dL_law_1418 : decode cL_law 1418 = .ok (.aload_n 2, 1) := by decide +kernel
theorem dL_law_1419 : decode cL_law 1419 = .ok (.aload_n 0, 1) := by decide +kernel
theorem dL_law_1420 : decode cL_law 1420 = .ok (.iload_n 3, 1) := by decide +kernel
theorem dL_law_1421 : decode cL_law 1421 = .ok (.iconst 1, 1) := by decide +kernel
theorem dL_law_1422 : decode cL_law 1422 = .ok (.iadd, 1) := by decide +kernel
theorem dL_law_1423 : decode cL_law 1423 = .ok (.iaload, 1) := by decide +kernel
theorem dL_law_1424 : decode cL_law 1424 = .ok (.aload_n 0, 1) := by decide +kernel
theorem dL_law_1425 : decode cL_law 1425 = .ok (.iload_n 3, 1) := by decide +kernel
theorem dL_law_1426 : decode cL_law 1426 = .ok (.iconst 2, 1) := by decide +kernel
theorem dL_law_1427 : decode cL_law 1427 = .ok (.iadd, 1) := by decide +kernel
theorem dL_law_1428 : decode cL_law 1428 = .ok (.iaload, 1) := by decide +kernel
theorem dL_law_1429 : decode cL_law 1429 = .ok (.aload_n 0, 1) := by decide +kernel
theorem dL_law_1430 : decode cL_law 1430 = .ok (.iload_n 3, 1) := by decide +kernel
theorem dL_law_1431 : decode cL_law 1431 = .ok (.iconst 3, 1) := by decide +kernel
theorem dL_law_1432 : decode cL_law 1432 = .ok (.iadd, 1) := by decide +kernel
theorem dL_law_1433 : decode cL_law 1433 = .ok (.iaload, 1) := by decide +kernel
theorem dL_law_1434 : decode cL_law 1434 = .ok (.aload_n 0, 1) := by decide +kernel
theorem dL_law_1435 : decode cL_law 1435 = .ok (.iload_n 3, 1) := by decide +kernel
theorem dL_law_1436 : decode cL_law 1436 = .ok (.iconst 4, 1) := by decide +kernel
theorem dL_law_1437 : decode cL_law 1437 = .ok (.iadd, 1) := by decide +kernel
theorem dL_law_1438 : decode cL_law 1438 = .ok (.iaload, 1) := by decide +kernel
theorem dL_law_1439 : decode cL_law 1439 = .ok (.invokevirtual 158, 3) := by decide +kernel
theorem mw_1384 : Cond.methodLink RL 158 yX12_mend ∈ wsL_law := inr_58 _ (List.mem_of_getElem? (i := 16) rfl)
theorem mw_1387 : Cond.code yX12_mend cX12_mend 10 (some .int) ∈ wsL_law := inr_58 _ (List.mem_of_getElem? (i := 19) rfl)
theorem yk_X12_mend : xY yX12_mend RX12 cX12_mend 10 (some .int) 4 := ⟨⟨rfl, by decide +kernel, by decide +kernel, by decide +kernel⟩, mw_5, mw_1387⟩
theorem mw_1385 : Cond.instanceMethod yX12_mend ∈ wsL_law := inr_58 _ (List.mem_of_getElem? (i := 17) rfl)
theorem mw_1386 : Cond.selects RX12 yX12_mend yX12_mend ∈ wsL_law := inr_58 _ (List.mem_of_getElem? (i := 18) rfl)
theorem dL_law_1442 : decode cL_law 1442 = .ok (.pop, 1) := by decide +kernel
theorem dL_law_1443 : decode cL_law 1443 = .ok (.goto 312, 3) := by decide +kernel
set_option maxHeartbeats 4000000 in
set_option maxRecDepth 100000 in
theorem law_c31 {p : Program} {l : Launch} {e : Env} {s : State} {m : MethodId} {below : List Frame} {meth : Method} {c : Code} {H : Heap} {locs : List Loc} {Q : State → Prop} {D : va_G} {cy : Nat → ClassId} {A : Nat → Prop} {L : List Nat} {R O P : Nat → Nat} {f0 : Nat → va_E} {ls : Array Slot} {b N cs sl q rr GA GP GL GT : Nat} {xs : Nat → Int32} {V : Value} (F : CallFix p m c cL_law 4 s #[Value.ref b] wsL_law RL) (hZ : tZ A s s.heap) (hX0 : va_X b N xs s s.heap) (hbl : b < s.heap.size) (hbA : ¬ A b) (hcs : cs ≤ room_1.cells) (hsl : sl ≤ room_1.slots) (i : Int32) (bi : 0 ≤ i.toInt ∧ i.toInt + 6 ≤ N ∧ N ≤ 3072) (m_q : q ∈ L) (r_q : R q = 11) (m_rr : rr ∈ L) (r_rr : R rr = 12) (m_GA : GA ∈ L) (r_GA : R GA = 61) (m_GP : GP ∈ L) (r_GP : R GP = 69) (m_GL : GL ∈ L) (r_GL : R GL = 70) (m_GT : GT ∈ L) (r_GT : R GT = 64) (hLS : LWS D cy A s L R O P q rr GA GP GL GT V f0 H locs) (hl : lv_has ls 4 [(3, .int i), (2, .ref rr), (1, .ref q), (0, .ref b)]) (kk : ∀ (f1 : Nat → va_E) (H : Heap) (locs : List Loc) (ls : Array Slot), LWS D cy A s L R O P q rr GA GP GL GT V f1 H locs → lv_has ls 4 [(3, .int i), (2, .ref rr), (1, .ref q), (0, .ref b)] → W p l e room_1 s m #[Value.ref b] below meth c H locs cs sl Q (F0 m 1755 ls [])) : W p l e room_1 s m #[Value.ref b] below meth c H locs cs sl Q (F0 m 1393 ls []) := by
  obtain ⟨h, hI, ⟨t_GA, t_GP, t_GL, t_GT⟩, hR, hX, hP, hMK, hCB, hC0, hC1, hC2, hPB⟩ := hLS
  have hs6m := hI.2.2.1.1
  have hs6r := hI.2.2.1.2
  have hBM := BM_of h m_q r_q
  have hPBn := hPB
  refine lv_aload_n F.1 F.2.1 dL_law_1393 rfl (lv_at hl 2 rfl) ?_
  refine lv_aload_n F.1 F.2.1 dL_law_1394 rfl (lv_at hl 3 rfl) ?_
  refine lv_iload_n F.1 F.2.1 dL_law_1395 rfl (lv_at hl 0 rfl) ?_
  refine tw_iconst F dL_law_1396 ki_1 (fun z1 hz1 => ?_)
  refine tu_iadd F dL_law_1397 (by omega) (fun z2 hz2 => ?_)
  refine va_sld F.1 F.2.1 hX0 hbl hbA h.dd.2.2 (tw_in (by omega) (by omega)) dL_law_1398 ?_
  refine lv_topi (fun z3 qz3 => ?_)
  refine lv_aload_n F.1 F.2.1 dL_law_1399 rfl (lv_at hl 3 rfl) ?_
  refine lv_iload_n F.1 F.2.1 dL_law_1400 rfl (lv_at hl 0 rfl) ?_
  refine tw_iconst F dL_law_1401 ki_2 (fun z4 hz4 => ?_)
  refine tu_iadd F dL_law_1402 (by omega) (fun z5 hz5 => ?_)
  refine va_sld F.1 F.2.1 hX0 hbl hbA h.dd.2.2 (tw_in (by omega) (by omega)) dL_law_1403 ?_
  refine lv_topi (fun z6 qz6 => ?_)
  refine lv_aload_n F.1 F.2.1 dL_law_1404 rfl (lv_at hl 3 rfl) ?_
  refine lv_iload_n F.1 F.2.1 dL_law_1405 rfl (lv_at hl 0 rfl) ?_
  refine tw_iconst F dL_law_1406 ki_3 (fun z7 hz7 => ?_)
  refine tu_iadd F dL_law_1407 (by omega) (fun z8 hz8 => ?_)
  refine va_sld F.1 F.2.1 hX0 hbl hbA h.dd.2.2 (tw_in (by omega) (by omega)) dL_law_1408 ?_
  refine lv_topi (fun z9 qz9 => ?_)
  refine lv_aload_n F.1 F.2.1 dL_law_1409 rfl (lv_at hl 3 rfl) ?_
  refine lv_iload_n F.1 F.2.1 dL_law_1410 rfl (lv_at hl 0 rfl) ?_
  refine tw_iconst F dL_law_1411 ki_4 (fun z10 hz10 => ?_)
  refine tu_iadd F dL_law_1412 (by omega) (fun z11 hz11 => ?_)
  refine va_sld F.1 F.2.1 hX0 hbl hbA h.dd.2.2 (tw_in (by omega) (by omega)) dL_law_1413 ?_
  refine lv_topi (fun z12 qz12 => ?_)
  refine tw_Vi (As := [.int z3, .int z6, .int z9, .int z12]) F hZ h yk_X11_mend mw_1363 mw_1364 mw_1365 (s_X11_mend l D cy L R O f0 hI.2.2.2.1 q m_q r_q z3 z6 z9 z12 hI.pi) rfl rfl m_q r_q (fun e q => (T_11 e).mp q) rfl hl.1 rfl (Nat.le_of_ble_eq_true rfl) ⟨Nat.le_of_ble_eq_true rfl, Nat.le_of_ble_eq_true rfl⟩ ⟨hcs, hsl⟩ dL_law_1414 (fun v14 f13 H locs hp13 h => ?_)
  obtain ⟨hf13, hv14p0⟩ := hp13
  have em15 : fi f13 q 11 = fi f0 q 11 := hf13.efi m_q r_q (by decide +kernel)
  have em16 : fi f13 rr 64 = fi f0 rr 64 := hf13.efi m_rr r_rr (by decide +kernel)
  have ek17 := BKc hBM hf13 m_q r_q (by decide +kernel) (by decide +kernel) (by decide +kernel) (by decide +kernel)
  have ek17b := ek17.1
  have ek17x := ek17.2 0 (by omega)
  have ek17y := ek17.2 1 (by omega)
  have ek17z := ek17.2 2 (by omega)
  have ej18 := hf13.eelj m_GA r_GA (by decide +kernel) 5159
  have ej19 := hf13.eelj m_GA r_GA (by decide +kernel) 10349
  have ej20 := hf13.eelj m_GA r_GA (by decide +kernel) 15539
  have ej21 := hf13.eelj m_GA r_GA (by decide +kernel) 20729
  have hPBn : PB P f13 q := hPBn.fr hBM hf13 m_q r_q (by decide +kernel) (by decide +kernel) (by decide +kernel)
  have hBM := BM_of h m_q r_q
  have hI : INV L R O P f13 q := hI.ko m_q r_q hf13 (by decide +kernel) (by decide +kernel) (by decide +kernel) (by decide +kernel) hv14p0
  have t_GA : fld f13 rr 0 = .ref GA := (hf13.efl m_rr r_rr (by decide +kernel)).trans t_GA
  have t_GP : fld f13 rr 22 = .ref GP := (hf13.efl m_rr r_rr (by decide +kernel)).trans t_GP
  have t_GL : fld f13 rr 23 = .ref GL := (hf13.efl m_rr r_rr (by decide +kernel)).trans t_GL
  have t_GT : fld f13 rr 6 = .ref GT := (hf13.efl m_rr r_rr (by decide +kernel)).trans t_GT
  have hR : RBA GA f13 := hR.fm hf13 m_GA r_GA (by decide +kernel)
  have hX : GZ GP GL f13 := hX.fm hf13 m_GP r_GP m_GL r_GL (by decide +kernel) (by decide +kernel)
  have hP : fld f13 (rfa f13 q 6) 16 = V := by rw [hf13.erf m_q r_q (by decide +kernel), hf13.efl hs6m hs6r (by decide +kernel)]; exact hP
  have hs6m : rfa f13 q 6 ∈ L := by rw [hf13.erf m_q r_q (by decide +kernel)]; exact hs6m
  have hs6r : R (rfa f13 q 6) = 7 := by rw [hf13.erf m_q r_q (by decide +kernel)]; exact hs6r
  refine lv_pop F.1 F.2.1 dL_law_1417 rfl ?_
  refine lv_aload_n F.1 F.2.1 dL_law_1418 rfl (lv_at hl 1 rfl) ?_
  refine lv_aload_n F.1 F.2.1 dL_law_1419 rfl (lv_at hl 3 rfl) ?_
  refine lv_iload_n F.1 F.2.1 dL_law_1420 rfl (lv_at hl 0 rfl) ?_
  refine tw_iconst F dL_law_1421 ki_1 (fun z22 hz22 => ?_)
  refine tu_iadd F dL_law_1422 (by omega) (fun z23 hz23 => ?_)
  refine va_sld F.1 F.2.1 hX0 hbl hbA h.dd.2.2 (tw_in (by omega) (by omega)) dL_law_1423 ?_
  refine lv_topi (fun z24 qz24 => ?_)
  obtain rfl : z3 = z24 := by rw [qz3, qz24, show z2 = z23 from Int32.toInt_inj.mp (by omega)]
  refine lv_aload_n F.1 F.2.1 dL_law_1424 rfl (lv_at hl 3 rfl) ?_
  refine lv_iload_n F.1 F.2.1 dL_law_1425 rfl (lv_at hl 0 rfl) ?_
  refine tw_iconst F dL_law_1426 ki_2 (fun z25 hz25 => ?_)
  refine tu_iadd F dL_law_1427 (by omega) (fun z26 hz26 => ?_)
  refine va_sld F.1 F.2.1 hX0 hbl hbA h.dd.2.2 (tw_in (by omega) (by omega)) dL_law_1428 ?_
  refine lv_topi (fun z27 qz27 => ?_)
  obtain rfl : z6 = z27 := by rw [qz6, qz27, show z5 = z26 from Int32.toInt_inj.mp (by omega)]
  refine lv_aload_n F.1 F.2.1 dL_law_1429 rfl (lv_at hl 3 rfl) ?_
  refine lv_iload_n F.1 F.2.1 dL_law_1430 rfl (lv_at hl 0 rfl) ?_
  refine tw_iconst F dL_law_1431 ki_3 (fun z28 hz28 => ?_)
  refine tu_iadd F dL_law_1432 (by omega) (fun z29 hz29 => ?_)
  refine va_sld F.1 F.2.1 hX0 hbl hbA h.dd.2.2 (tw_in (by omega) (by omega)) dL_law_1433 ?_
  refine lv_topi (fun z30 qz30 => ?_)
  obtain rfl : z9 = z30 := by rw [qz9, qz30, show z8 = z29 from Int32.toInt_inj.mp (by omega)]
  refine lv_aload_n F.1 F.2.1 dL_law_1434 rfl (lv_at hl 3 rfl) ?_
  refine lv_iload_n F.1 F.2.1 dL_law_1435 rfl (lv_at hl 0 rfl) ?_
  refine tw_iconst F dL_law_1436 ki_4 (fun z31 hz31 => ?_)
  refine tu_iadd F dL_law_1437 (by omega) (fun z32 hz32 => ?_)
  refine va_sld F.1 F.2.1 hX0 hbl hbA h.dd.2.2 (tw_in (by omega) (by omega)) dL_law_1438 ?_
  refine lv_topi (fun z33 qz33 => ?_)
  obtain rfl : z12 = z33 := by rw [qz12, qz33, show z11 = z32 from Int32.toInt_inj.mp (by omega)]
  refine tw_Vi (As := [.int z3, .int z6, .int z9, .int z12]) F hZ h yk_X12_mend mw_1384 mw_1385 mw_1386 (s_X12_mendC l D cy L R O f13 rr m_rr r_rr z3 z6 z9 z12 GA m_GA r_GA t_GA GP m_GP r_GP t_GP GL m_GL r_GL t_GL GT m_GT r_GT t_GT hR hX) rfl rfl m_rr r_rr (fun e q => (T_12 e).mp q) rfl hl.1 rfl (Nat.le_of_ble_eq_true rfl) ⟨Nat.le_of_ble_eq_true rfl, Nat.le_of_ble_eq_true rfl⟩ ⟨hcs, hsl⟩ dL_law_1439 (fun v35 f34 H locs hp34 h => ?_)
  obtain ⟨hf34, hv35p0, hv35p1, hv35p2, hv35p3, hv35p4, hv35p5⟩ := hp34
  have em36 : fi f34 q 11 = fi f13 q 11 := hf34.efi m_q r_q (by decide +kernel)
  have em37 : fi f34 rr 64 = fi f13 rr 64 := hf34.efi m_rr r_rr (by decide +kernel)
  have ek38 := BKc hBM hf34 m_q r_q (by decide +kernel) (by decide +kernel) (by decide +kernel) (by decide +kernel)
  have ek38b := ek38.1
  have ek38x := ek38.2 0 (by omega)
  have ek38y := ek38.2 1 (by omega)
  have ek38z := ek38.2 2 (by omega)
  have hPBn : PB P f34 q := hPBn.fr hBM hf34 m_q r_q (by decide +kernel) (by decide +kernel) (by decide +kernel)
  have hBM := BM_of h m_q r_q
  have hI : INV L R O P f34 q := hI.most m_q r_q hf34 (by decide +kernel) (by decide +kernel) (by decide +kernel) (by decide +kernel) (by decide +kernel)
  have t_GA : fld f34 rr 0 = .ref GA := (hf34.efl m_rr r_rr (by decide +kernel)).trans t_GA
  have t_GP : fld f34 rr 22 = .ref GP := (hf34.efl m_rr r_rr (by decide +kernel)).trans t_GP
  have t_GL : fld f34 rr 23 = .ref GL := (hf34.efl m_rr r_rr (by decide +kernel)).trans t_GL
  have t_GT : fld f34 rr 6 = .ref GT := (hf34.efl m_rr r_rr (by decide +kernel)).trans t_GT
  have hR : RBA GA f34 := hv35p0
  have hX : GZ GP GL f34 := hv35p1
  have hP : fld f34 (rfa f34 q 6) 16 = V := by rw [hf34.erf m_q r_q (by decide +kernel), hf34.efl hs6m hs6r (by decide +kernel)]; exact hP
  have hs6m : rfa f34 q 6 ∈ L := by rw [hf34.erf m_q r_q (by decide +kernel)]; exact hs6m
  have hs6r : R (rfa f34 q 6) = 7 := by rw [hf34.erf m_q r_q (by decide +kernel)]; exact hs6r
  refine lv_pop F.1 F.2.1 dL_law_1442 rfl ?_
  refine lv_goto (tgt := 1755) F.1 F.2.1 dL_law_1443 (by decide) ?_
  exact kk f34 _ _ _ ⟨h, hI, ⟨t_GA, t_GP, t_GL, t_GT⟩, hR, hX, hP, by omega, by omega, by omega, by omega, by omega, hPBn⟩ hl
theorem dL_law_1446 : decode cL_law 1446 = .ok (.aload_n 1, 1) := by decide +kernel
theorem dL_law_1447 : decode cL_law 1447 = .ok (.aload_n 0, 1) := by decide +kernel
theorem dL_law_1448 : decode cL_law 1448 = .ok (.iload_n 3, 1) := by decide +kernel
theorem dL_law_1449 : decode cL_law 1449 = .ok (.iconst 1, 1) := by decide +kernel
theorem dL_law_1450 : decode cL_law 1450 = .ok (.iadd, 1) := by decide +kernel
theorem dL_law_1451 : decode cL_law 1451 = .ok (.iaload, 1) := by decide +kernel
theorem dL_law_1452 : decode cL_law 1452 = .ok (.invokevirtual 159, 3) := by decide +kernel
theorem mw_1388 : Cond.methodLink RL 159 yX11_doubt ∈ wsL_law := inr_58 _ (List.mem_of_getElem? (i := 20) rfl)
theorem mw_1391 : Cond.code yX11_doubt cX11_doubt 2 (some .int) ∈ wsL_law := inr_58 _ (List.mem_of_getElem? (i := 23) rfl)
theorem yk_X11_doubt : xY yX11_doubt RX11 cX11_doubt 2 (some .int) 1 := ⟨⟨rfl, by decide +kernel, by decide +kernel, by decide +kernel⟩, mw_2, mw_1391⟩
theorem mw_1389 : Cond.instanceMethod yX11_doubt ∈ wsL_law := inr_58 _ (List.mem_of_getElem? (i := 21) rfl)
theorem mw_1390 : Cond.selects RX11 yX11_doubt yX11_doubt ∈ wsL_law := inr_58 _ (List.mem_of_getElem? (i := 22) rfl)
theorem dL_law_1455 : decode cL_law 1455 = .ok (.pop, 1) := by decide +kernel
theorem dL_law_1456 : decode cL_law 1456 = .ok (.aload_n 2, 1) := by decide +kernel
theorem dL_law_1457 : decode cL_law 1457 = .ok (.aload_n 0, 1) := by decide +kernel
theorem dL_law_1458 : decode cL_law 1458 = .ok (.iload_n 3, 1) := by decide +kernel
theorem dL_law_1459 : decode cL_law 1459 = .ok (.iconst 1, 1) := by decide +kernel
theorem dL_law_1460 : decode cL_law 1460 = .ok (.iadd, 1) := by decide +kernel
theorem dL_law_1461 : decode cL_law 1461 = .ok (.iaload, 1) := by decide +kernel
theorem dL_law_1462 : decode cL_law 1462 = .ok (.invokevirtual 162, 3) := by decide +kernel
theorem mw_1401 : Cond.methodLink RL 162 yX12_doubt ∈ wsL_law := inr_59 _ (List.mem_of_getElem? (i := 9) rfl)
theorem mw_1404 : Cond.code yX12_doubt cX12_doubt 3 (some .int) ∈ wsL_law := inr_59 _ (List.mem_of_getElem? (i := 12) rfl)
theorem yk_X12_doubt : xY yX12_doubt RX12 cX12_doubt 3 (some .int) 1 := ⟨⟨rfl, by decide +kernel, by decide +kernel, by decide +kernel⟩, mw_5, mw_1404⟩
theorem mw_1402 : Cond.instanceMethod yX12_doubt ∈ wsL_law := inr_59 _ (List.mem_of_getElem? (i := 10) rfl)
theorem mw_1403 : Cond.selects RX12 yX12_doubt yX12_doubt ∈ wsL_law := inr_59 _ (List.mem_of_getElem? (i := 11) rfl)
theorem dL_law_1465 : decode cL_law 1465 = .ok (.pop, 1) := by decide +kernel
theorem dL_law_1466 : decode cL_law 1466 = .ok (.goto 289, 3) := by decide +kernel
set_option maxHeartbeats 4000000 in
set_option maxRecDepth 100000 in
theorem law_c32 {p : Program} {l : Launch} {e : Env} {s : State} {m : MethodId} {below : List Frame} {meth : Method} {c : Code} {H : Heap} {locs : List Loc} {Q : State → Prop} {D : va_G} {cy : Nat → ClassId} {A : Nat → Prop} {L : List Nat} {R O P : Nat → Nat} {f0 : Nat → va_E} {ls : Array Slot} {b N cs sl q rr GA GP GL GT : Nat} {xs : Nat → Int32} {V : Value} (F : CallFix p m c cL_law 4 s #[Value.ref b] wsL_law RL) (hZ : tZ A s s.heap) (hX0 : va_X b N xs s s.heap) (hbl : b < s.heap.size) (hbA : ¬ A b) (hcs : cs ≤ room_1.cells) (hsl : sl ≤ room_1.slots) (i : Int32) (bi : 0 ≤ i.toInt ∧ i.toInt + 6 ≤ N ∧ N ≤ 3072) (m_q : q ∈ L) (r_q : R q = 11) (m_rr : rr ∈ L) (r_rr : R rr = 12) (m_GA : GA ∈ L) (r_GA : R GA = 61) (m_GP : GP ∈ L) (r_GP : R GP = 69) (m_GL : GL ∈ L) (r_GL : R GL = 70) (m_GT : GT ∈ L) (r_GT : R GT = 64) (hLS : LWS D cy A s L R O P q rr GA GP GL GT V f0 H locs) (hl : lv_has ls 4 [(3, .int i), (2, .ref rr), (1, .ref q), (0, .ref b)]) (kk : ∀ (f1 : Nat → va_E) (H : Heap) (locs : List Loc) (ls : Array Slot), LWS D cy A s L R O P q rr GA GP GL GT V f1 H locs → lv_has ls 4 [(3, .int i), (2, .ref rr), (1, .ref q), (0, .ref b)] → W p l e room_1 s m #[Value.ref b] below meth c H locs cs sl Q (F0 m 1755 ls [])) : W p l e room_1 s m #[Value.ref b] below meth c H locs cs sl Q (F0 m 1446 ls []) := by
  obtain ⟨h, hI, ⟨t_GA, t_GP, t_GL, t_GT⟩, hR, hX, hP, hMK, hCB, hC0, hC1, hC2, hPB⟩ := hLS
  have hs6m := hI.2.2.1.1
  have hs6r := hI.2.2.1.2
  have hBM := BM_of h m_q r_q
  have hPBn := hPB
  refine lv_aload_n F.1 F.2.1 dL_law_1446 rfl (lv_at hl 2 rfl) ?_
  refine lv_aload_n F.1 F.2.1 dL_law_1447 rfl (lv_at hl 3 rfl) ?_
  refine lv_iload_n F.1 F.2.1 dL_law_1448 rfl (lv_at hl 0 rfl) ?_
  refine tw_iconst F dL_law_1449 ki_1 (fun z1 hz1 => ?_)
  refine tu_iadd F dL_law_1450 (by omega) (fun z2 hz2 => ?_)
  refine va_sld F.1 F.2.1 hX0 hbl hbA h.dd.2.2 (tw_in (by omega) (by omega)) dL_law_1451 ?_
  refine lv_topi (fun z3 qz3 => ?_)
  refine tw_Vi (As := [.int z3]) F hZ h yk_X11_doubt mw_1388 mw_1389 mw_1390 (s_X11_doubt l D cy L R O f0 q m_q r_q z3) rfl rfl m_q r_q (fun e q => (T_11 e).mp q) rfl hl.1 rfl (Nat.le_of_ble_eq_true rfl) ⟨Nat.le_of_ble_eq_true rfl, Nat.le_of_ble_eq_true rfl⟩ ⟨hcs, hsl⟩ dL_law_1452 (fun v5 f4 H locs hp4 h => ?_)
  have hf4 := hp4
  have em6 : fi f4 q 11 = fi f0 q 11 := hf4.efi m_q r_q (by decide +kernel)
  have em7 : fi f4 rr 64 = fi f0 rr 64 := hf4.efi m_rr r_rr (by decide +kernel)
  have ek8 := BKc hBM hf4 m_q r_q (by decide +kernel) (by decide +kernel) (by decide +kernel) (by decide +kernel)
  have ek8b := ek8.1
  have ek8x := ek8.2 0 (by omega)
  have ek8y := ek8.2 1 (by omega)
  have ek8z := ek8.2 2 (by omega)
  have ej9 := hf4.eelj m_GA r_GA (by decide +kernel) 5159
  have ej10 := hf4.eelj m_GA r_GA (by decide +kernel) 10349
  have ej11 := hf4.eelj m_GA r_GA (by decide +kernel) 15539
  have ej12 := hf4.eelj m_GA r_GA (by decide +kernel) 20729
  have hPBn : PB P f4 q := hPBn.fr hBM hf4 m_q r_q (by decide +kernel) (by decide +kernel) (by decide +kernel)
  have hBM := BM_of h m_q r_q
  have hI : INV L R O P f4 q := hI.most m_q r_q hf4 (by decide +kernel) (by decide +kernel) (by decide +kernel) (by decide +kernel) (by decide +kernel)
  have t_GA : fld f4 rr 0 = .ref GA := (hf4.efl m_rr r_rr (by decide +kernel)).trans t_GA
  have t_GP : fld f4 rr 22 = .ref GP := (hf4.efl m_rr r_rr (by decide +kernel)).trans t_GP
  have t_GL : fld f4 rr 23 = .ref GL := (hf4.efl m_rr r_rr (by decide +kernel)).trans t_GL
  have t_GT : fld f4 rr 6 = .ref GT := (hf4.efl m_rr r_rr (by decide +kernel)).trans t_GT
  have hR : RBA GA f4 := hR.fm hf4 m_GA r_GA (by decide +kernel)
  have hX : GZ GP GL f4 := hX.fm hf4 m_GP r_GP m_GL r_GL (by decide +kernel) (by decide +kernel)
  have hP : fld f4 (rfa f4 q 6) 16 = V := by rw [hf4.erf m_q r_q (by decide +kernel), hf4.efl hs6m hs6r (by decide +kernel)]; exact hP
  have hs6m : rfa f4 q 6 ∈ L := by rw [hf4.erf m_q r_q (by decide +kernel)]; exact hs6m
  have hs6r : R (rfa f4 q 6) = 7 := by rw [hf4.erf m_q r_q (by decide +kernel)]; exact hs6r
  refine lv_pop F.1 F.2.1 dL_law_1455 rfl ?_
  refine lv_aload_n F.1 F.2.1 dL_law_1456 rfl (lv_at hl 1 rfl) ?_
  refine lv_aload_n F.1 F.2.1 dL_law_1457 rfl (lv_at hl 3 rfl) ?_
  refine lv_iload_n F.1 F.2.1 dL_law_1458 rfl (lv_at hl 0 rfl) ?_
  refine tw_iconst F dL_law_1459 ki_1 (fun z13 hz13 => ?_)
  refine tu_iadd F dL_law_1460 (by omega) (fun z14 hz14 => ?_)
  refine va_sld F.1 F.2.1 hX0 hbl hbA h.dd.2.2 (tw_in (by omega) (by omega)) dL_law_1461 ?_
  refine lv_topi (fun z15 qz15 => ?_)
  obtain rfl : z3 = z15 := by rw [qz3, qz15, show z2 = z14 from Int32.toInt_inj.mp (by omega)]
  refine tw_Vi (As := [.int z3]) F hZ h yk_X12_doubt mw_1401 mw_1402 mw_1403 (s_X12_doubt l D cy L R O f4 rr m_rr r_rr z3) rfl rfl m_rr r_rr (fun e q => (T_12 e).mp q) rfl hl.1 rfl (Nat.le_of_ble_eq_true rfl) ⟨Nat.le_of_ble_eq_true rfl, Nat.le_of_ble_eq_true rfl⟩ ⟨hcs, hsl⟩ dL_law_1462 (fun v17 f16 H locs hp16 h => ?_)
  have hf16 := hp16
  have em18 : fi f16 q 11 = fi f4 q 11 := hf16.efi m_q r_q (by decide +kernel)
  have em19 : fi f16 rr 64 = fi f4 rr 64 := hf16.efi m_rr r_rr (by decide +kernel)
  have ek20 := BKc hBM hf16 m_q r_q (by decide +kernel) (by decide +kernel) (by decide +kernel) (by decide +kernel)
  have ek20b := ek20.1
  have ek20x := ek20.2 0 (by omega)
  have ek20y := ek20.2 1 (by omega)
  have ek20z := ek20.2 2 (by omega)
  have ej21 := hf16.eelj m_GA r_GA (by decide +kernel) 5159
  have ej22 := hf16.eelj m_GA r_GA (by decide +kernel) 10349
  have ej23 := hf16.eelj m_GA r_GA (by decide +kernel) 15539
  have ej24 := hf16.eelj m_GA r_GA (by decide +kernel) 20729
  have hPBn : PB P f16 q := hPBn.fr hBM hf16 m_q r_q (by decide +kernel) (by decide +kernel) (by decide +kernel)
  have hBM := BM_of h m_q r_q
  have hI : INV L R O P f16 q := hI.most m_q r_q hf16 (by decide +kernel) (by decide +kernel) (by decide +kernel) (by decide +kernel) (by decide +kernel)
  have t_GA : fld f16 rr 0 = .ref GA := (hf16.efl m_rr r_rr (by decide +kernel)).trans t_GA
  have t_GP : fld f16 rr 22 = .ref GP := (hf16.efl m_rr r_rr (by decide +kernel)).trans t_GP
  have t_GL : fld f16 rr 23 = .ref GL := (hf16.efl m_rr r_rr (by decide +kernel)).trans t_GL
  have t_GT : fld f16 rr 6 = .ref GT := (hf16.efl m_rr r_rr (by decide +kernel)).trans t_GT
  have hR : RBA GA f16 := hR.fm hf16 m_GA r_GA (by decide +kernel)
  have hX : GZ GP GL f16 := hX.fm hf16 m_GP r_GP m_GL r_GL (by decide +kernel) (by decide +kernel)
  have hP : fld f16 (rfa f16 q 6) 16 = V := by rw [hf16.erf m_q r_q (by decide +kernel), hf16.efl hs6m hs6r (by decide +kernel)]; exact hP
  have hs6m : rfa f16 q 6 ∈ L := by rw [hf16.erf m_q r_q (by decide +kernel)]; exact hs6m
  have hs6r : R (rfa f16 q 6) = 7 := by rw [hf16.erf m_q r_q (by decide +kernel)]; exact hs6r
  refine lv_pop F.1 F.2.1 dL_law_1465 rfl ?_
  refine lv_goto (tgt := 1755) F.1 F.2.1 dL_law_1466 (by decide) ?_
  exact kk f16 _ _ _ ⟨h, hI, ⟨t_GA, t_GP, t_GL, t_GT⟩, hR, hX, hP, by omega, by omega, by omega, by omega, by omega, hPBn⟩ hl
theorem dL_law_1469 : decode cL_law 1469 = .ok (.aload_n 1, 1) := by decide +kernel
theorem dL_law_1470 : decode cL_law 1470 = .ok (.aload_n 0, 1) := by decide +kernel
theorem dL_law_1471 : decode cL_law 1471 = .ok (.iload_n 3, 1) := by decide +kernel
theorem dL_law_1472 : decode cL_law 1472 = .ok (.iconst 1, 1) := by decide +kernel
theorem dL_law_1473 : decode cL_law 1473 = .ok (.iadd, 1) := by decide +kernel
theorem dL_law_1474 : decode cL_law 1474 = .ok (.iaload, 1) := by decide +kernel
theorem dL_law_1475 : decode cL_law 1475 = .ok (.invokevirtual 163, 3) := by decide +kernel
theorem mw_1409 : Cond.methodLink RL 163 yX11_odds ∈ wsL_law := inr_59 _ (List.mem_of_getElem? (i := 17) rfl)
theorem mw_1412 : Cond.code yX11_odds cX11_odds 2 (some .boolean) ∈ wsL_law := inr_59 _ (List.mem_of_getElem? (i := 20) rfl)
theorem yk_X11_odds : xY yX11_odds RX11 cX11_odds 2 (some .boolean) 1 := ⟨⟨rfl, by decide +kernel, by decide +kernel, by decide +kernel⟩, mw_2, mw_1412⟩
theorem mw_1410 : Cond.instanceMethod yX11_odds ∈ wsL_law := inr_59 _ (List.mem_of_getElem? (i := 18) rfl)
theorem mw_1411 : Cond.selects RX11 yX11_odds yX11_odds ∈ wsL_law := inr_59 _ (List.mem_of_getElem? (i := 19) rfl)
theorem dL_law_1478 : decode cL_law 1478 = .ok (.pop, 1) := by decide +kernel
theorem dL_law_1479 : decode cL_law 1479 = .ok (.aload_n 2, 1) := by decide +kernel
theorem dL_law_1480 : decode cL_law 1480 = .ok (.aload_n 0, 1) := by decide +kernel
theorem dL_law_1481 : decode cL_law 1481 = .ok (.iload_n 3, 1) := by decide +kernel
theorem dL_law_1482 : decode cL_law 1482 = .ok (.iconst 1, 1) := by decide +kernel
theorem dL_law_1483 : decode cL_law 1483 = .ok (.iadd, 1) := by decide +kernel
theorem dL_law_1484 : decode cL_law 1484 = .ok (.iaload, 1) := by decide +kernel
theorem dL_law_1485 : decode cL_law 1485 = .ok (.invokevirtual 166, 3) := by decide +kernel
theorem mw_1421 : Cond.methodLink RL 166 yX12_odds ∈ wsL_law := inr_60 _ (List.mem_of_getElem? (i := 5) rfl)
theorem mw_1424 : Cond.code yX12_odds cX12_odds 12 (some .boolean) ∈ wsL_law := inr_60 _ (List.mem_of_getElem? (i := 8) rfl)
theorem yk_X12_odds : xY yX12_odds RX12 cX12_odds 12 (some .boolean) 1 := ⟨⟨rfl, by decide +kernel, by decide +kernel, by decide +kernel⟩, mw_5, mw_1424⟩
theorem mw_1422 : Cond.instanceMethod yX12_odds ∈ wsL_law := inr_60 _ (List.mem_of_getElem? (i := 6) rfl)
theorem mw_1423 : Cond.selects RX12 yX12_odds yX12_odds ∈ wsL_law := inr_60 _ (List.mem_of_getElem? (i := 7) rfl)
theorem dL_law_1488 : decode cL_law 1488 = .ok (.pop, 1) := by decide +kernel
theorem dL_law_1489 : decode cL_law 1489 = .ok (.goto 266, 3) := by decide +kernel
set_option maxHeartbeats 4000000 in
set_option maxRecDepth 100000 in
theorem law_c33 {p : Program} {l : Launch} {e : Env} {s : State} {m : MethodId} {below : List Frame} {meth : Method} {c : Code} {H : Heap} {locs : List Loc} {Q : State → Prop} {D : va_G} {cy : Nat → ClassId} {A : Nat → Prop} {L : List Nat} {R O P : Nat → Nat} {f0 : Nat → va_E} {ls : Array Slot} {b N cs sl q rr GA GP GL GT : Nat} {xs : Nat → Int32} {V : Value} (F : CallFix p m c cL_law 4 s #[Value.ref b] wsL_law RL) (hZ : tZ A s s.heap) (hX0 : va_X b N xs s s.heap) (hbl : b < s.heap.size) (hbA : ¬ A b) (hcs : cs ≤ room_1.cells) (hsl : sl ≤ room_1.slots) (i : Int32) (bi : 0 ≤ i.toInt ∧ i.toInt + 6 ≤ N ∧ N ≤ 3072) (m_q : q ∈ L) (r_q : R q = 11) (m_rr : rr ∈ L) (r_rr : R rr = 12) (m_GA : GA ∈ L) (r_GA : R GA = 61) (m_GP : GP ∈ L) (r_GP : R GP = 69) (m_GL : GL ∈ L) (r_GL : R GL = 70) (m_GT : GT ∈ L) (r_GT : R GT = 64) (hLS : LWS D cy A s L R O P q rr GA GP GL GT V f0 H locs) (hl : lv_has ls 4 [(3, .int i), (2, .ref rr), (1, .ref q), (0, .ref b)]) (kk : ∀ (f1 : Nat → va_E) (H : Heap) (locs : List Loc) (ls : Array Slot), LWS D cy A s L R O P q rr GA GP GL GT V f1 H locs → lv_has ls 4 [(3, .int i), (2, .ref rr), (1, .ref q), (0, .ref b)] → W p l e room_1 s m #[Value.ref b] below meth c H locs cs sl Q (F0 m 1755 ls [])) : W p l e room_1 s m #[Value.ref b] below meth c H locs cs sl Q (F0 m 1469 ls []) := by
  obtain ⟨h, hI, ⟨t_GA, t_GP, t_GL, t_GT⟩, hR, hX, hP, hMK, hCB, hC0, hC1, hC2, hPB⟩ := hLS
  have hs6m := hI.2.2.1.1
  have hs6r := hI.2.2.1.2
  have hBM := BM_of h m_q r_q
  have hPBn := hPB
  refine lv_aload_n F.1 F.2.1 dL_law_1469 rfl (lv_at hl 2 rfl) ?_
  refine lv_aload_n F.1 F.2.1 dL_law_1470 rfl (lv_at hl 3 rfl) ?_
  refine lv_iload_n F.1 F.2.1 dL_law_1471 rfl (lv_at hl 0 rfl) ?_
  refine tw_iconst F dL_law_1472 ki_1 (fun z1 hz1 => ?_)
  refine tu_iadd F dL_law_1473 (by omega) (fun z2 hz2 => ?_)
  refine va_sld F.1 F.2.1 hX0 hbl hbA h.dd.2.2 (tw_in (by omega) (by omega)) dL_law_1474 ?_
  refine lv_topi (fun z3 qz3 => ?_)
  refine tw_Vi (As := [.int z3]) F hZ h yk_X11_odds mw_1409 mw_1410 mw_1411 (s_X11_odds l D cy L R O f0 q m_q r_q z3) rfl rfl m_q r_q (fun e q => (T_11 e).mp q) rfl hl.1 rfl (Nat.le_of_ble_eq_true rfl) ⟨Nat.le_of_ble_eq_true rfl, Nat.le_of_ble_eq_true rfl⟩ ⟨hcs, hsl⟩ dL_law_1475 (fun v5 f4 H locs hp4 h => ?_)
  obtain ⟨hf4, hv5a, hv5b⟩ := hp4
  have em6 : fi f4 q 11 = fi f0 q 11 := hf4.efi m_q r_q (by decide +kernel)
  have em7 : fi f4 rr 64 = fi f0 rr 64 := hf4.efi m_rr r_rr (by decide +kernel)
  have ek8 := BKc hBM hf4 m_q r_q (by decide +kernel) (by decide +kernel) (by decide +kernel) (by decide +kernel)
  have ek8b := ek8.1
  have ek8x := ek8.2 0 (by omega)
  have ek8y := ek8.2 1 (by omega)
  have ek8z := ek8.2 2 (by omega)
  have ej9 := hf4.eelj m_GA r_GA (by decide +kernel) 5159
  have ej10 := hf4.eelj m_GA r_GA (by decide +kernel) 10349
  have ej11 := hf4.eelj m_GA r_GA (by decide +kernel) 15539
  have ej12 := hf4.eelj m_GA r_GA (by decide +kernel) 20729
  have hPBn : PB P f4 q := hPBn.fr hBM hf4 m_q r_q (by decide +kernel) (by decide +kernel) (by decide +kernel)
  have hBM := BM_of h m_q r_q
  have hI : INV L R O P f4 q := hI.most m_q r_q hf4 (by decide +kernel) (by decide +kernel) (by decide +kernel) (by decide +kernel) (by decide +kernel)
  have t_GA : fld f4 rr 0 = .ref GA := (hf4.efl m_rr r_rr (by decide +kernel)).trans t_GA
  have t_GP : fld f4 rr 22 = .ref GP := (hf4.efl m_rr r_rr (by decide +kernel)).trans t_GP
  have t_GL : fld f4 rr 23 = .ref GL := (hf4.efl m_rr r_rr (by decide +kernel)).trans t_GL
  have t_GT : fld f4 rr 6 = .ref GT := (hf4.efl m_rr r_rr (by decide +kernel)).trans t_GT
  have hR : RBA GA f4 := hR.fm hf4 m_GA r_GA (by decide +kernel)
  have hX : GZ GP GL f4 := hX.fm hf4 m_GP r_GP m_GL r_GL (by decide +kernel) (by decide +kernel)
  have hP : fld f4 (rfa f4 q 6) 16 = V := by rw [hf4.erf m_q r_q (by decide +kernel), hf4.efl hs6m hs6r (by decide +kernel)]; exact hP
  have hs6m : rfa f4 q 6 ∈ L := by rw [hf4.erf m_q r_q (by decide +kernel)]; exact hs6m
  have hs6r : R (rfa f4 q 6) = 7 := by rw [hf4.erf m_q r_q (by decide +kernel)]; exact hs6r
  refine lv_pop F.1 F.2.1 dL_law_1478 rfl ?_
  refine lv_aload_n F.1 F.2.1 dL_law_1479 rfl (lv_at hl 1 rfl) ?_
  refine lv_aload_n F.1 F.2.1 dL_law_1480 rfl (lv_at hl 3 rfl) ?_
  refine lv_iload_n F.1 F.2.1 dL_law_1481 rfl (lv_at hl 0 rfl) ?_
  refine tw_iconst F dL_law_1482 ki_1 (fun z13 hz13 => ?_)
  refine tu_iadd F dL_law_1483 (by omega) (fun z14 hz14 => ?_)
  refine va_sld F.1 F.2.1 hX0 hbl hbA h.dd.2.2 (tw_in (by omega) (by omega)) dL_law_1484 ?_
  refine lv_topi (fun z15 qz15 => ?_)
  obtain rfl : z3 = z15 := by rw [qz3, qz15, show z2 = z14 from Int32.toInt_inj.mp (by omega)]
  refine tw_Vi (As := [.int z3]) F hZ h yk_X12_odds mw_1421 mw_1422 mw_1423 (s_X12_odds l D cy L R O f4 rr m_rr r_rr z3) rfl rfl m_rr r_rr (fun e q => (T_12 e).mp q) rfl hl.1 rfl (Nat.le_of_ble_eq_true rfl) ⟨Nat.le_of_ble_eq_true rfl, Nat.le_of_ble_eq_true rfl⟩ ⟨hcs, hsl⟩ dL_law_1485 (fun v17 f16 H locs hp16 h => ?_)
  obtain ⟨hf16, hv17a, hv17b⟩ := hp16
  have em18 : fi f16 q 11 = fi f4 q 11 := hf16.efi m_q r_q (by decide +kernel)
  have em19 : fi f16 rr 64 = fi f4 rr 64 := hf16.efi m_rr r_rr (by decide +kernel)
  have ek20 := BKc hBM hf16 m_q r_q (by decide +kernel) (by decide +kernel) (by decide +kernel) (by decide +kernel)
  have ek20b := ek20.1
  have ek20x := ek20.2 0 (by omega)
  have ek20y := ek20.2 1 (by omega)
  have ek20z := ek20.2 2 (by omega)
  have ej21 := hf16.eelj m_GA r_GA (by decide +kernel) 5159
  have ej22 := hf16.eelj m_GA r_GA (by decide +kernel) 10349
  have ej23 := hf16.eelj m_GA r_GA (by decide +kernel) 15539
  have ej24 := hf16.eelj m_GA r_GA (by decide +kernel) 20729
  have hPBn : PB P f16 q := hPBn.fr hBM hf16 m_q r_q (by decide +kernel) (by decide +kernel) (by decide +kernel)
  have hBM := BM_of h m_q r_q
  have hI : INV L R O P f16 q := hI.most m_q r_q hf16 (by decide +kernel) (by decide +kernel) (by decide +kernel) (by decide +kernel) (by decide +kernel)
  have t_GA : fld f16 rr 0 = .ref GA := (hf16.efl m_rr r_rr (by decide +kernel)).trans t_GA
  have t_GP : fld f16 rr 22 = .ref GP := (hf16.efl m_rr r_rr (by decide +kernel)).trans t_GP
  have t_GL : fld f16 rr 23 = .ref GL := (hf16.efl m_rr r_rr (by decide +kernel)).trans t_GL
  have t_GT : fld f16 rr 6 = .ref GT := (hf16.efl m_rr r_rr (by decide +kernel)).trans t_GT
  have hR : RBA GA f16 := hR.fm hf16 m_GA r_GA (by decide +kernel)
  have hX : GZ GP GL f16 := hX.fm hf16 m_GP r_GP m_GL r_GL (by decide +kernel) (by decide +kernel)
  have hP : fld f16 (rfa f16 q 6) 16 = V := by rw [hf16.erf m_q r_q (by decide +kernel), hf16.efl hs6m hs6r (by decide +kernel)]; exact hP
  have hs6m : rfa f16 q 6 ∈ L := by rw [hf16.erf m_q r_q (by decide +kernel)]; exact hs6m
  have hs6r : R (rfa f16 q 6) = 7 := by rw [hf16.erf m_q r_q (by decide +kernel)]; exact hs6r
  refine lv_pop F.1 F.2.1 dL_law_1488 rfl ?_
  refine lv_goto (tgt := 1755) F.1 F.2.1 dL_law_1489 (by decide) ?_
  exact kk f16 _ _ _ ⟨h, hI, ⟨t_GA, t_GP, t_GL, t_GT⟩, hR, hX, hP, by omega, by omega, by omega, by omega, by omega, hPBn⟩ hl
theorem dL_law_1492 : decode cL_law 1492 = .ok (.aload_n 1, 1) := by decide +kernel
theorem dL_law_1493 : decode cL_law 1493 = .ok (.aload_n 0, 1) := by decide +kernel
theorem dL_law_1494 : decode cL_law 1494 = .ok (.iload_n 3, 1) := by decide +kernel
theorem dL_law_1495 : decode cL_law 1495 = .ok (.iconst 1, 1) := by decide +kernel
theorem dL_law_1496 : decode cL_law 1496 = .ok (.iadd, 1) := by decide +kernel
theorem dL_law_1497 : decode cL_law 1497 = .ok (.iaload, 1) := by decide +kernel
theorem dL_law_1498 : decode cL_law 1498 = .ok (.invokevirtual 167, 3) := by decide +kernel
theorem mw_1425 : Cond.methodLink RL 167 yX11_claim ∈ wsL_law := inr_60 _ (List.mem_of_getElem? (i := 9) rfl)
theorem mw_1428 : Cond.code yX11_claim cX11_claim 2 (some .int) ∈ wsL_law := inr_60 _ (List.mem_of_getElem? (i := 12) rfl)
theorem yk_X11_claim : xY yX11_claim RX11 cX11_claim 2 (some .int) 1 := ⟨⟨rfl, by decide +kernel, by decide +kernel, by decide +kernel⟩, mw_2, mw_1428⟩
theorem mw_1426 : Cond.instanceMethod yX11_claim ∈ wsL_law := inr_60 _ (List.mem_of_getElem? (i := 10) rfl)
theorem mw_1427 : Cond.selects RX11 yX11_claim yX11_claim ∈ wsL_law := inr_60 _ (List.mem_of_getElem? (i := 11) rfl)
theorem dL_law_1501 : decode cL_law 1501 = .ok (.pop, 1) := by decide +kernel
theorem dL_law_1502 : decode cL_law 1502 = .ok (.aload_n 2, 1) := by decide +kernel
theorem dL_law_1503 : decode cL_law 1503 = .ok (.aload_n 0, 1) := by decide +kernel
theorem dL_law_1504 : decode cL_law 1504 = .ok (.iload_n 3, 1) := by decide +kernel
theorem dL_law_1505 : decode cL_law 1505 = .ok (.iconst 1, 1) := by decide +kernel
theorem dL_law_1506 : decode cL_law 1506 = .ok (.iadd, 1) := by decide +kernel
theorem dL_law_1507 : decode cL_law 1507 = .ok (.iaload, 1) := by decide +kernel
theorem dL_law_1508 : decode cL_law 1508 = .ok (.invokevirtual 170, 3) := by decide +kernel
theorem mw_1438 : Cond.methodLink RL 170 yX12_claim ∈ wsL_law := inr_60 _ (List.mem_of_getElem? (i := 22) rfl)
theorem mw_1441 : Cond.code yX12_claim cX12_claim 3 (some .int) ∈ wsL_law := inr_61 _ (List.mem_of_getElem? (i := 1) rfl)
theorem yk_X12_claim : xY yX12_claim RX12 cX12_claim 3 (some .int) 1 := ⟨⟨rfl, by decide +kernel, by decide +kernel, by decide +kernel⟩, mw_5, mw_1441⟩
theorem mw_1439 : Cond.instanceMethod yX12_claim ∈ wsL_law := inr_60 _ (List.mem_of_getElem? (i := 23) rfl)
theorem mw_1440 : Cond.selects RX12 yX12_claim yX12_claim ∈ wsL_law := inr_61 _ (List.mem_of_getElem? (i := 0) rfl)
theorem dL_law_1511 : decode cL_law 1511 = .ok (.pop, 1) := by decide +kernel
theorem dL_law_1512 : decode cL_law 1512 = .ok (.goto 243, 3) := by decide +kernel
set_option maxHeartbeats 4000000 in
set_option maxRecDepth 100000 in
theorem law_c34 {p : Program} {l : Launch} {e : Env} {s : State} {m : MethodId} {below : List Frame} {meth : Method} {c : Code} {H : Heap} {locs : List Loc} {Q : State → Prop} {D : va_G} {cy : Nat → ClassId} {A : Nat → Prop} {L : List Nat} {R O P : Nat → Nat} {f0 : Nat → va_E} {ls : Array Slot} {b N cs sl q rr GA GP GL GT : Nat} {xs : Nat → Int32} {V : Value} (F : CallFix p m c cL_law 4 s #[Value.ref b] wsL_law RL) (hZ : tZ A s s.heap) (hX0 : va_X b N xs s s.heap) (hbl : b < s.heap.size) (hbA : ¬ A b) (hcs : cs ≤ room_1.cells) (hsl : sl ≤ room_1.slots) (i : Int32) (bi : 0 ≤ i.toInt ∧ i.toInt + 6 ≤ N ∧ N ≤ 3072) (m_q : q ∈ L) (r_q : R q = 11) (m_rr : rr ∈ L) (r_rr : R rr = 12) (m_GA : GA ∈ L) (r_GA : R GA = 61) (m_GP : GP ∈ L) (r_GP : R GP = 69) (m_GL : GL ∈ L) (r_GL : R GL = 70) (m_GT : GT ∈ L) (r_GT : R GT = 64) (hLS : LWS D cy A s L R O P q rr GA GP GL GT V f0 H locs) (hl : lv_has ls 4 [(3, .int i), (2, .ref rr), (1, .ref q), (0, .ref b)]) (kk : ∀ (f1 : Nat → va_E) (H : Heap) (locs : List Loc) (ls : Array Slot), LWS D cy A s L R O P q rr GA GP GL GT V f1 H locs → lv_has ls 4 [(3, .int i), (2, .ref rr), (1, .ref q), (0, .ref b)] → W p l e room_1 s m #[Value.ref b] below meth c H locs cs sl Q (F0 m 1755 ls [])) : W p l e room_1 s m #[Value.ref b] below meth c H locs cs sl Q (F0 m 1492 ls []) := by
  obtain ⟨h, hI, ⟨t_GA, t_GP, t_GL, t_GT⟩, hR, hX, hP, hMK, hCB, hC0, hC1, hC2, hPB⟩ := hLS
  have hs6m := hI.2.2.1.1
  have hs6r := hI.2.2.1.2
  have hBM := BM_of h m_q r_q
  have hPBn := hPB
  refine lv_aload_n F.1 F.2.1 dL_law_1492 rfl (lv_at hl 2 rfl) ?_
  refine lv_aload_n F.1 F.2.1 dL_law_1493 rfl (lv_at hl 3 rfl) ?_
  refine lv_iload_n F.1 F.2.1 dL_law_1494 rfl (lv_at hl 0 rfl) ?_
  refine tw_iconst F dL_law_1495 ki_1 (fun z1 hz1 => ?_)
  refine tu_iadd F dL_law_1496 (by omega) (fun z2 hz2 => ?_)
  refine va_sld F.1 F.2.1 hX0 hbl hbA h.dd.2.2 (tw_in (by omega) (by omega)) dL_law_1497 ?_
  refine lv_topi (fun z3 qz3 => ?_)
  refine tw_Vi (As := [.int z3]) F hZ h yk_X11_claim mw_1425 mw_1426 mw_1427 (s_X11_claim l D cy L R O f0 q m_q r_q z3) rfl rfl m_q r_q (fun e q => (T_11 e).mp q) rfl hl.1 rfl (Nat.le_of_ble_eq_true rfl) ⟨Nat.le_of_ble_eq_true rfl, Nat.le_of_ble_eq_true rfl⟩ ⟨hcs, hsl⟩ dL_law_1498 (fun v5 f4 H locs hp4 h => ?_)
  have hf4 := hp4
  have em6 : fi f4 q 11 = fi f0 q 11 := hf4.efi m_q r_q (by decide +kernel)
  have em7 : fi f4 rr 64 = fi f0 rr 64 := hf4.efi m_rr r_rr (by decide +kernel)
  have ek8 := BKc hBM hf4 m_q r_q (by decide +kernel) (by decide +kernel) (by decide +kernel) (by decide +kernel)
  have ek8b := ek8.1
  have ek8x := ek8.2 0 (by omega)
  have ek8y := ek8.2 1 (by omega)
  have ek8z := ek8.2 2 (by omega)
  have ej9 := hf4.eelj m_GA r_GA (by decide +kernel) 5159
  have ej10 := hf4.eelj m_GA r_GA (by decide +kernel) 10349
  have ej11 := hf4.eelj m_GA r_GA (by decide +kernel) 15539
  have ej12 := hf4.eelj m_GA r_GA (by decide +kernel) 20729
  have hPBn : PB P f4 q := hPBn.fr hBM hf4 m_q r_q (by decide +kernel) (by decide +kernel) (by decide +kernel)
  have hBM := BM_of h m_q r_q
  have hI : INV L R O P f4 q := hI.most m_q r_q hf4 (by decide +kernel) (by decide +kernel) (by decide +kernel) (by decide +kernel) (by decide +kernel)
  have t_GA : fld f4 rr 0 = .ref GA := (hf4.efl m_rr r_rr (by decide +kernel)).trans t_GA
  have t_GP : fld f4 rr 22 = .ref GP := (hf4.efl m_rr r_rr (by decide +kernel)).trans t_GP
  have t_GL : fld f4 rr 23 = .ref GL := (hf4.efl m_rr r_rr (by decide +kernel)).trans t_GL
  have t_GT : fld f4 rr 6 = .ref GT := (hf4.efl m_rr r_rr (by decide +kernel)).trans t_GT
  have hR : RBA GA f4 := hR.fm hf4 m_GA r_GA (by decide +kernel)
  have hX : GZ GP GL f4 := hX.fm hf4 m_GP r_GP m_GL r_GL (by decide +kernel) (by decide +kernel)
  have hP : fld f4 (rfa f4 q 6) 16 = V := by rw [hf4.erf m_q r_q (by decide +kernel), hf4.efl hs6m hs6r (by decide +kernel)]; exact hP
  have hs6m : rfa f4 q 6 ∈ L := by rw [hf4.erf m_q r_q (by decide +kernel)]; exact hs6m
  have hs6r : R (rfa f4 q 6) = 7 := by rw [hf4.erf m_q r_q (by decide +kernel)]; exact hs6r
  refine lv_pop F.1 F.2.1 dL_law_1501 rfl ?_
  refine lv_aload_n F.1 F.2.1 dL_law_1502 rfl (lv_at hl 1 rfl) ?_
  refine lv_aload_n F.1 F.2.1 dL_law_1503 rfl (lv_at hl 3 rfl) ?_
  refine lv_iload_n F.1 F.2.1 dL_law_1504 rfl (lv_at hl 0 rfl) ?_
  refine tw_iconst F dL_law_1505 ki_1 (fun z13 hz13 => ?_)
  refine tu_iadd F dL_law_1506 (by omega) (fun z14 hz14 => ?_)
  refine va_sld F.1 F.2.1 hX0 hbl hbA h.dd.2.2 (tw_in (by omega) (by omega)) dL_law_1507 ?_
  refine lv_topi (fun z15 qz15 => ?_)
  obtain rfl : z3 = z15 := by rw [qz3, qz15, show z2 = z14 from Int32.toInt_inj.mp (by omega)]
  refine tw_Vi (As := [.int z3]) F hZ h yk_X12_claim mw_1438 mw_1439 mw_1440 (s_X12_claim l D cy L R O f4 rr m_rr r_rr z3) rfl rfl m_rr r_rr (fun e q => (T_12 e).mp q) rfl hl.1 rfl (Nat.le_of_ble_eq_true rfl) ⟨Nat.le_of_ble_eq_true rfl, Nat.le_of_ble_eq_true rfl⟩ ⟨hcs, hsl⟩ dL_law_1508 (fun v17 f16 H locs hp16 h => ?_)
  have hf16 := hp16
  have em18 : fi f16 q 11 = fi f4 q 11 := hf16.efi m_q r_q (by decide +kernel)
  have em19 : fi f16 rr 64 = fi f4 rr 64 := hf16.efi m_rr r_rr (by decide +kernel)
  have ek20 := BKc hBM hf16 m_q r_q (by decide +kernel) (by decide +kernel) (by decide +kernel) (by decide +kernel)
  have ek20b := ek20.1
  have ek20x := ek20.2 0 (by omega)
  have ek20y := ek20.2 1 (by omega)
  have ek20z := ek20.2 2 (by omega)
  have ej21 := hf16.eelj m_GA r_GA (by decide +kernel) 5159
  have ej22 := hf16.eelj m_GA r_GA (by decide +kernel) 10349
  have ej23 := hf16.eelj m_GA r_GA (by decide +kernel) 15539
  have ej24 := hf16.eelj m_GA r_GA (by decide +kernel) 20729
  have hPBn : PB P f16 q := hPBn.fr hBM hf16 m_q r_q (by decide +kernel) (by decide +kernel) (by decide +kernel)
  have hBM := BM_of h m_q r_q
  have hI : INV L R O P f16 q := hI.most m_q r_q hf16 (by decide +kernel) (by decide +kernel) (by decide +kernel) (by decide +kernel) (by decide +kernel)
  have t_GA : fld f16 rr 0 = .ref GA := (hf16.efl m_rr r_rr (by decide +kernel)).trans t_GA
  have t_GP : fld f16 rr 22 = .ref GP := (hf16.efl m_rr r_rr (by decide +kernel)).trans t_GP
  have t_GL : fld f16 rr 23 = .ref GL := (hf16.efl m_rr r_rr (by decide +kernel)).trans t_GL
  have t_GT : fld f16 rr 6 = .ref GT := (hf16.efl m_rr r_rr (by decide +kernel)).trans t_GT
  have hR : RBA GA f16 := hR.fm hf16 m_GA r_GA (by decide +kernel)
  have hX : GZ GP GL f16 := hX.fm hf16 m_GP r_GP m_GL r_GL (by decide +kernel) (by decide +kernel)
  have hP : fld f16 (rfa f16 q 6) 16 = V := by rw [hf16.erf m_q r_q (by decide +kernel), hf16.efl hs6m hs6r (by decide +kernel)]; exact hP
  have hs6m : rfa f16 q 6 ∈ L := by rw [hf16.erf m_q r_q (by decide +kernel)]; exact hs6m
  have hs6r : R (rfa f16 q 6) = 7 := by rw [hf16.erf m_q r_q (by decide +kernel)]; exact hs6r
  refine lv_pop F.1 F.2.1 dL_law_1511 rfl ?_
  refine lv_goto (tgt := 1755) F.1 F.2.1 dL_law_1512 (by decide) ?_
  exact kk f16 _ _ _ ⟨h, hI, ⟨t_GA, t_GP, t_GL, t_GT⟩, hR, hX, hP, by omega, by omega, by omega, by omega, by omega, hPBn⟩ hl
theorem dL_law_1515 : decode cL_law 1515 = .ok (.aload_n 1, 1) := by decide +kernel
theorem dL_law_1516 : decode cL_law 1516 = .ok (.aload_n 0, 1) := by decide +kernel
theorem dL_law_1517 : decode cL_law 1517 = .ok (.iload_n 3, 1) := by decide +kernel
theorem dL_law_1518 : decode cL_law 1518 = .ok (.iconst 1, 1) := by decide +kernel
theorem dL_law_1519 : decode cL_law 1519 = .ok (.iadd, 1) := by decide +kernel
theorem dL_law_1520 : decode cL_law 1520 = .ok (.iaload, 1) := by decide +kernel
theorem dL_law_1521 : decode cL_law 1521 = .ok (.aload_n 0, 1) := by decide +kernel
theorem dL_law_1522 : decode cL_law 1522 = .ok (.iload_n 3, 1) := by decide +kernel
theorem dL_law_1523 : decode cL_law 1523 = .ok (.iconst 2, 1) := by decide +kernel
theorem dL_law_1524 : decode cL_law 1524 = .ok (.iadd, 1) := by decide +kernel
theorem dL_law_1525 : decode cL_law 1525 = .ok (.iaload, 1) := by decide +kernel
theorem dL_law_1526 : decode cL_law 1526 = .ok (.aload_n 0, 1) := by decide +kernel
theorem dL_law_1527 : decode cL_law 1527 = .ok (.iload_n 3, 1) := by decide +kernel
theorem dL_law_1528 : decode cL_law 1528 = .ok (.iconst 3, 1) := by decide +kernel
theorem dL_law_1529 : decode cL_law 1529 = .ok (.iadd, 1) := by decide +kernel
theorem dL_law_1530 : decode cL_law 1530 = .ok (.iaload, 1) := by decide +kernel
theorem dL_law_1531 : decode cL_law 1531 = .ok (.invokevirtual 171, 3) := by decide +kernel
theorem mw_1446 : Cond.methodLink RL 171 yX11_least ∈ wsL_law := inr_61 _ (List.mem_of_getElem? (i := 6) rfl)
theorem mw_1449 : Cond.code yX11_least cX11_least 5 (some .int) ∈ wsL_law := inr_61 _ (List.mem_of_getElem? (i := 9) rfl)
theorem yk_X11_least : xY yX11_least RX11 cX11_least 5 (some .int) 3 := ⟨⟨rfl, by decide +kernel, by decide +kernel, by decide +kernel⟩, mw_2, mw_1449⟩
theorem mw_1447 : Cond.instanceMethod yX11_least ∈ wsL_law := inr_61 _ (List.mem_of_getElem? (i := 7) rfl)
theorem mw_1448 : Cond.selects RX11 yX11_least yX11_least ∈ wsL_law := inr_61 _ (List.mem_of_getElem? (i := 8) rfl)
theorem dL_law_1534 : decode cL_law 1534 = .ok (.pop, 1) := by decide +kernel
theorem dL_law_1535 : decode cL_law 1535 = .ok (.aload_n 2, 1) := by decide +kernel
theorem dL_law_1536 : decode cL_law 1536 = .ok (.aload_n 0, 1) := by decide +kernel
theorem dL_law_1537 : decode cL_law 1537 = .ok (.iload_n 3, 1) := by decide +kernel
theorem dL_law_1538 : decode cL_law 1538 = .ok (.iconst 1, 1) := by decide +kernel
theorem dL_law_1539 : decode cL_law 1539 = .ok (.iadd, 1) := by decide +kernel
theorem dL_law_1540 : decode cL_law 1540 = .ok (.iaload, 1) := by decide +kernel
theorem dL_law_1541 : decode cL_law 1541 = .ok (.aload_n 0, 1) := by decide +kernel
theorem dL_law_1542 : decode cL_law 1542 = .ok (.iload_n 3, 1) := by decide +kernel
theorem dL_law_1543 : decode cL_law 1543 = .ok (.iconst 2, 1) := by decide +kernel
theorem dL_law_1544 : decode cL_law 1544 = .ok (.iadd, 1) := by decide +kernel
theorem dL_law_1545 : decode cL_law 1545 = .ok (.iaload, 1) := by decide +kernel
theorem dL_law_1546 : decode cL_law 1546 = .ok (.aload_n 0, 1) := by decide +kernel
theorem dL_law_1547 : decode cL_law 1547 = .ok (.iload_n 3, 1) := by decide +kernel
theorem dL_law_1548 : decode cL_law 1548 = .ok (.iconst 3, 1) := by decide +kernel
theorem dL_law_1549 : decode cL_law 1549 = .ok (.iadd, 1) := by decide +kernel
theorem dL_law_1550 : decode cL_law 1550 = .ok (.iaload, 1) := by decide +kernel
theorem dL_law_1551 : decode cL_law 1551 = .ok (.invokevirtual 174, 3) := by decide +kernel
theorem mw_1466 : Cond.methodLink RL 174 yX12_least ∈ wsL_law := inr_62 _ (List.mem_of_getElem? (i := 2) rfl)
theorem mw_1469 : Cond.code yX12_least cX12_least 8 (some .int) ∈ wsL_law := inr_62 _ (List.mem_of_getElem? (i := 5) rfl)
theorem yk_X12_least : xY yX12_least RX12 cX12_least 8 (some .int) 3 := ⟨⟨rfl, by decide +kernel, by decide +kernel, by decide +kernel⟩, mw_5, mw_1469⟩
theorem mw_1467 : Cond.instanceMethod yX12_least ∈ wsL_law := inr_62 _ (List.mem_of_getElem? (i := 3) rfl)
theorem mw_1468 : Cond.selects RX12 yX12_least yX12_least ∈ wsL_law := inr_62 _ (List.mem_of_getElem? (i := 4) rfl)
theorem dL_law_1554 : decode cL_law 1554 = .ok (.pop, 1) := by decide +kernel
theorem dL_law_1555 : decode cL_law 1555 = .ok (.goto 200, 3) := by decide +kernel
set_option maxHeartbeats 4000000 in
set_option maxRecDepth 100000 in
theorem law_c35 {p : Program} {l : Launch} {e : Env} {s : State} {m : MethodId} {below : List Frame} {meth : Method} {c : Code} {H : Heap} {locs : List Loc} {Q : State → Prop} {D : va_G} {cy : Nat → ClassId} {A : Nat → Prop} {L : List Nat} {R O P : Nat → Nat} {f0 : Nat → va_E} {ls : Array Slot} {b N cs sl q rr GA GP GL GT : Nat} {xs : Nat → Int32} {V : Value} (F : CallFix p m c cL_law 4 s #[Value.ref b] wsL_law RL) (hZ : tZ A s s.heap) (hX0 : va_X b N xs s s.heap) (hbl : b < s.heap.size) (hbA : ¬ A b) (hcs : cs ≤ room_1.cells) (hsl : sl ≤ room_1.slots) (i : Int32) (bi : 0 ≤ i.toInt ∧ i.toInt + 6 ≤ N ∧ N ≤ 3072) (m_q : q ∈ L) (r_q : R q = 11) (m_rr : rr ∈ L) (r_rr : R rr = 12) (m_GA : GA ∈ L) (r_GA : R GA = 61) (m_GP : GP ∈ L) (r_GP : R GP = 69) (m_GL : GL ∈ L) (r_GL : R GL = 70) (m_GT : GT ∈ L) (r_GT : R GT = 64) (hLS : LWS D cy A s L R O P q rr GA GP GL GT V f0 H locs) (hl : lv_has ls 4 [(3, .int i), (2, .ref rr), (1, .ref q), (0, .ref b)]) (kk : ∀ (f1 : Nat → va_E) (H : Heap) (locs : List Loc) (ls : Array Slot), LWS D cy A s L R O P q rr GA GP GL GT V f1 H locs → lv_has ls 4 [(3, .int i), (2, .ref rr), (1, .ref q), (0, .ref b)] → W p l e room_1 s m #[Value.ref b] below meth c H locs cs sl Q (F0 m 1755 ls [])) : W p l e room_1 s m #[Value.ref b] below meth c H locs cs sl Q (F0 m 1515 ls []) := by
  obtain ⟨h, hI, ⟨t_GA, t_GP, t_GL, t_GT⟩, hR, hX, hP, hMK, hCB, hC0, hC1, hC2, hPB⟩ := hLS
  have hs6m := hI.2.2.1.1
  have hs6r := hI.2.2.1.2
  have hBM := BM_of h m_q r_q
  have hPBn := hPB
  refine lv_aload_n F.1 F.2.1 dL_law_1515 rfl (lv_at hl 2 rfl) ?_
  refine lv_aload_n F.1 F.2.1 dL_law_1516 rfl (lv_at hl 3 rfl) ?_
  refine lv_iload_n F.1 F.2.1 dL_law_1517 rfl (lv_at hl 0 rfl) ?_
  refine tw_iconst F dL_law_1518 ki_1 (fun z1 hz1 => ?_)
  refine tu_iadd F dL_law_1519 (by omega) (fun z2 hz2 => ?_)
  refine va_sld F.1 F.2.1 hX0 hbl hbA h.dd.2.2 (tw_in (by omega) (by omega)) dL_law_1520 ?_
  refine lv_topi (fun z3 qz3 => ?_)
  refine lv_aload_n F.1 F.2.1 dL_law_1521 rfl (lv_at hl 3 rfl) ?_
  refine lv_iload_n F.1 F.2.1 dL_law_1522 rfl (lv_at hl 0 rfl) ?_
  refine tw_iconst F dL_law_1523 ki_2 (fun z4 hz4 => ?_)
  refine tu_iadd F dL_law_1524 (by omega) (fun z5 hz5 => ?_)
  refine va_sld F.1 F.2.1 hX0 hbl hbA h.dd.2.2 (tw_in (by omega) (by omega)) dL_law_1525 ?_
  refine lv_topi (fun z6 qz6 => ?_)
  refine lv_aload_n F.1 F.2.1 dL_law_1526 rfl (lv_at hl 3 rfl) ?_
  refine lv_iload_n F.1 F.2.1 dL_law_1527 rfl (lv_at hl 0 rfl) ?_
  refine tw_iconst F dL_law_1528 ki_3 (fun z7 hz7 => ?_)
  refine tu_iadd F dL_law_1529 (by omega) (fun z8 hz8 => ?_)
  refine va_sld F.1 F.2.1 hX0 hbl hbA h.dd.2.2 (tw_in (by omega) (by omega)) dL_law_1530 ?_
  refine lv_topi (fun z9 qz9 => ?_)
  refine tw_Vi (As := [.int z3, .int z6, .int z9]) F hZ h yk_X11_least mw_1446 mw_1447 mw_1448 (s_X11_least l D cy L R O f0 hI.2.2.2.1 q m_q r_q z3 z6 z9 hI.pi) rfl rfl m_q r_q (fun e q => (T_11 e).mp q) rfl hl.1 rfl (Nat.le_of_ble_eq_true rfl) ⟨Nat.le_of_ble_eq_true rfl, Nat.le_of_ble_eq_true rfl⟩ ⟨hcs, hsl⟩ dL_law_1531 (fun v11 f10 H locs hp10 h => ?_)
  obtain ⟨hf10, hv11p0⟩ := hp10
  have em12 : fi f10 q 11 = fi f0 q 11 := hf10.efi m_q r_q (by decide +kernel)
  have em13 : fi f10 rr 64 = fi f0 rr 64 := hf10.efi m_rr r_rr (by decide +kernel)
  have ek14 := BKc hBM hf10 m_q r_q (by decide +kernel) (by decide +kernel) (by decide +kernel) (by decide +kernel)
  have ek14b := ek14.1
  have ek14x := ek14.2 0 (by omega)
  have ek14y := ek14.2 1 (by omega)
  have ek14z := ek14.2 2 (by omega)
  have ej15 := hf10.eelj m_GA r_GA (by decide +kernel) 5159
  have ej16 := hf10.eelj m_GA r_GA (by decide +kernel) 10349
  have ej17 := hf10.eelj m_GA r_GA (by decide +kernel) 15539
  have ej18 := hf10.eelj m_GA r_GA (by decide +kernel) 20729
  have hPBn : PB P f10 q := hPBn.fr hBM hf10 m_q r_q (by decide +kernel) (by decide +kernel) (by decide +kernel)
  have hBM := BM_of h m_q r_q
  have hI : INV L R O P f10 q := hI.ko m_q r_q hf10 (by decide +kernel) (by decide +kernel) (by decide +kernel) (by decide +kernel) hv11p0
  have t_GA : fld f10 rr 0 = .ref GA := (hf10.efl m_rr r_rr (by decide +kernel)).trans t_GA
  have t_GP : fld f10 rr 22 = .ref GP := (hf10.efl m_rr r_rr (by decide +kernel)).trans t_GP
  have t_GL : fld f10 rr 23 = .ref GL := (hf10.efl m_rr r_rr (by decide +kernel)).trans t_GL
  have t_GT : fld f10 rr 6 = .ref GT := (hf10.efl m_rr r_rr (by decide +kernel)).trans t_GT
  have hR : RBA GA f10 := hR.fm hf10 m_GA r_GA (by decide +kernel)
  have hX : GZ GP GL f10 := hX.fm hf10 m_GP r_GP m_GL r_GL (by decide +kernel) (by decide +kernel)
  have hP : fld f10 (rfa f10 q 6) 16 = V := by rw [hf10.erf m_q r_q (by decide +kernel), hf10.efl hs6m hs6r (by decide +kernel)]; exact hP
  have hs6m : rfa f10 q 6 ∈ L := by rw [hf10.erf m_q r_q (by decide +kernel)]; exact hs6m
  have hs6r : R (rfa f10 q 6) = 7 := by rw [hf10.erf m_q r_q (by decide +kernel)]; exact hs6r
  refine lv_pop F.1 F.2.1 dL_law_1534 rfl ?_
  refine lv_aload_n F.1 F.2.1 dL_law_1535 rfl (lv_at hl 1 rfl) ?_
  refine lv_aload_n F.1 F.2.1 dL_law_1536 rfl (lv_at hl 3 rfl) ?_
  refine lv_iload_n F.1 F.2.1 dL_law_1537 rfl (lv_at hl 0 rfl) ?_
  refine tw_iconst F dL_law_1538 ki_1 (fun z19 hz19 => ?_)
  refine tu_iadd F dL_law_1539 (by omega) (fun z20 hz20 => ?_)
  refine va_sld F.1 F.2.1 hX0 hbl hbA h.dd.2.2 (tw_in (by omega) (by omega)) dL_law_1540 ?_
  refine lv_topi (fun z21 qz21 => ?_)
  obtain rfl : z3 = z21 := by rw [qz3, qz21, show z2 = z20 from Int32.toInt_inj.mp (by omega)]
  refine lv_aload_n F.1 F.2.1 dL_law_1541 rfl (lv_at hl 3 rfl) ?_
  refine lv_iload_n F.1 F.2.1 dL_law_1542 rfl (lv_at hl 0 rfl) ?_
  refine tw_iconst F dL_law_1543 ki_2 (fun z22 hz22 => ?_)
  refine tu_iadd F dL_law_1544 (by omega) (fun z23 hz23 => ?_)
  refine va_sld F.1 F.2.1 hX0 hbl hbA h.dd.2.2 (tw_in (by omega) (by omega)) dL_law_1545 ?_
  refine lv_topi (fun z24 qz24 => ?_)
  obtain rfl : z6 = z24 := by rw [qz6, qz24, show z5 = z23 from Int32.toInt_inj.mp (by omega)]
  refine lv_aload_n F.1 F.2.1 dL_law_1546 rfl (lv_at hl 3 rfl) ?_
  refine lv_iload_n F.1 F.2.1 dL_law_1547 rfl (lv_at hl 0 rfl) ?_
  refine tw_iconst F dL_law_1548 ki_3 (fun z25 hz25 => ?_)
  refine tu_iadd F dL_law_1549 (by omega) (fun z26 hz26 => ?_)
  refine va_sld F.1 F.2.1 hX0 hbl hbA h.dd.2.2 (tw_in (by omega) (by omega)) dL_law_1550 ?_
  refine lv_topi (fun z27 qz27 => ?_)
  obtain rfl : z9 = z27 := by rw [qz9, qz27, show z8 = z26 from Int32.toInt_inj.mp (by omega)]
  refine tw_Vi (As := [.int z3, .int z6, .int z9]) F hZ h yk_X12_least mw_1466 mw_1467 mw_1468 (s_X12_leastC l D cy L R O f10 rr m_rr r_rr z3 z6 z9 GA m_GA r_GA t_GA GP m_GP r_GP t_GP GL m_GL r_GL t_GL GT m_GT r_GT t_GT hR hX) rfl rfl m_rr r_rr (fun e q => (T_12 e).mp q) rfl hl.1 rfl (Nat.le_of_ble_eq_true rfl) ⟨Nat.le_of_ble_eq_true rfl, Nat.le_of_ble_eq_true rfl⟩ ⟨hcs, hsl⟩ dL_law_1551 (fun v29 f28 H locs hp28 h => ?_)
  obtain ⟨hf28, hv29p0, hv29p1, hv29p2, hv29p3, hv29p4, hv29p5⟩ := hp28
  have em30 : fi f28 q 11 = fi f10 q 11 := hf28.efi m_q r_q (by decide +kernel)
  have em31 : fi f28 rr 64 = fi f10 rr 64 := hf28.efi m_rr r_rr (by decide +kernel)
  have ek32 := BKc hBM hf28 m_q r_q (by decide +kernel) (by decide +kernel) (by decide +kernel) (by decide +kernel)
  have ek32b := ek32.1
  have ek32x := ek32.2 0 (by omega)
  have ek32y := ek32.2 1 (by omega)
  have ek32z := ek32.2 2 (by omega)
  have hPBn : PB P f28 q := hPBn.fr hBM hf28 m_q r_q (by decide +kernel) (by decide +kernel) (by decide +kernel)
  have hBM := BM_of h m_q r_q
  have hI : INV L R O P f28 q := hI.most m_q r_q hf28 (by decide +kernel) (by decide +kernel) (by decide +kernel) (by decide +kernel) (by decide +kernel)
  have t_GA : fld f28 rr 0 = .ref GA := (hf28.efl m_rr r_rr (by decide +kernel)).trans t_GA
  have t_GP : fld f28 rr 22 = .ref GP := (hf28.efl m_rr r_rr (by decide +kernel)).trans t_GP
  have t_GL : fld f28 rr 23 = .ref GL := (hf28.efl m_rr r_rr (by decide +kernel)).trans t_GL
  have t_GT : fld f28 rr 6 = .ref GT := (hf28.efl m_rr r_rr (by decide +kernel)).trans t_GT
  have hR : RBA GA f28 := hv29p0
  have hX : GZ GP GL f28 := hv29p1
  have hP : fld f28 (rfa f28 q 6) 16 = V := by rw [hf28.erf m_q r_q (by decide +kernel), hf28.efl hs6m hs6r (by decide +kernel)]; exact hP
  have hs6m : rfa f28 q 6 ∈ L := by rw [hf28.erf m_q r_q (by decide +kernel)]; exact hs6m
  have hs6r : R (rfa f28 q 6) = 7 := by rw [hf28.erf m_q r_q (by decide +kernel)]; exact hs6r
  refine lv_pop F.1 F.2.1 dL_law_1554 rfl ?_
  refine lv_goto (tgt := 1755) F.1 F.2.1 dL_law_1555 (by decide) ?_
  exact kk f28 _ _ _ ⟨h, hI, ⟨t_GA, t_GP, t_GL, t_GT⟩, hR, hX, hP, by omega, by omega, by omega, by omega, by omega, hPBn⟩ hl
theorem dL_law_1558 : decode cL_law 1558 = .ok (.aload_n 1, 1) := by decide +kernel
theorem dL_law_1559 : decode cL_law 1559 = .ok (.invokevirtual 175, 3) := by decide +kernel
theorem mw_1477 : Cond.methodLink RL 175 yX11_leastSet ∈ wsL_law := inr_62 _ (List.mem_of_getElem? (i := 13) rfl)
theorem mw_1480 : Cond.code yX11_leastSet cX11_leastSet 1 (some .int) ∈ wsL_law := inr_62 _ (List.mem_of_getElem? (i := 16) rfl)
theorem yk_X11_leastSet : xY yX11_leastSet RX11 cX11_leastSet 1 (some .int) 0 := ⟨⟨rfl, by decide +kernel, by decide +kernel, by decide +kernel⟩, mw_2, mw_1480⟩
theorem mw_1478 : Cond.instanceMethod yX11_leastSet ∈ wsL_law := inr_62 _ (List.mem_of_getElem? (i := 14) rfl)
theorem mw_1479 : Cond.selects RX11 yX11_leastSet yX11_leastSet ∈ wsL_law := inr_62 _ (List.mem_of_getElem? (i := 15) rfl)
theorem dL_law_1562 : decode cL_law 1562 = .ok (.pop, 1) := by decide +kernel
theorem dL_law_1563 : decode cL_law 1563 = .ok (.aload_n 2, 1) := by decide +kernel
theorem dL_law_1564 : decode cL_law 1564 = .ok (.invokevirtual 178, 3) := by decide +kernel
theorem mw_1482 : Cond.methodLink RL 178 yX12_leastSet ∈ wsL_law := inr_62 _ (List.mem_of_getElem? (i := 18) rfl)
theorem mw_1485 : Cond.code yX12_leastSet cX12_leastSet 1 (some .int) ∈ wsL_law := inr_62 _ (List.mem_of_getElem? (i := 21) rfl)
theorem yk_X12_leastSet : xY yX12_leastSet RX12 cX12_leastSet 1 (some .int) 0 := ⟨⟨rfl, by decide +kernel, by decide +kernel, by decide +kernel⟩, mw_5, mw_1485⟩
theorem mw_1483 : Cond.instanceMethod yX12_leastSet ∈ wsL_law := inr_62 _ (List.mem_of_getElem? (i := 19) rfl)
theorem mw_1484 : Cond.selects RX12 yX12_leastSet yX12_leastSet ∈ wsL_law := inr_62 _ (List.mem_of_getElem? (i := 20) rfl)
theorem dL_law_1567 : decode cL_law 1567 = .ok (.pop, 1) := by decide +kernel
theorem dL_law_1568 : decode cL_law 1568 = .ok (.goto 187, 3) := by decide +kernel
set_option maxHeartbeats 4000000 in
set_option maxRecDepth 100000 in
theorem law_c36 {p : Program} {l : Launch} {e : Env} {s : State} {m : MethodId} {below : List Frame} {meth : Method} {c : Code} {H : Heap} {locs : List Loc} {Q : State → Prop} {D : va_G} {cy : Nat → ClassId} {A : Nat → Prop} {L : List Nat} {R O P : Nat → Nat} {f0 : Nat → va_E} {ls : Array Slot} {b N cs sl q rr GA GP GL GT : Nat} {xs : Nat → Int32} {V : Value} (F : CallFix p m c cL_law 4 s #[Value.ref b] wsL_law RL) (hZ : tZ A s s.heap) (hX0 : va_X b N xs s s.heap) (hbl : b < s.heap.size) (hbA : ¬ A b) (hcs : cs ≤ room_1.cells) (hsl : sl ≤ room_1.slots) (i : Int32) (bi : 0 ≤ i.toInt ∧ i.toInt + 6 ≤ N ∧ N ≤ 3072) (m_q : q ∈ L) (r_q : R q = 11) (m_rr : rr ∈ L) (r_rr : R rr = 12) (m_GA : GA ∈ L) (r_GA : R GA = 61) (m_GP : GP ∈ L) (r_GP : R GP = 69) (m_GL : GL ∈ L) (r_GL : R GL = 70) (m_GT : GT ∈ L) (r_GT : R GT = 64) (hLS : LWS D cy A s L R O P q rr GA GP GL GT V f0 H locs) (hl : lv_has ls 4 [(3, .int i), (2, .ref rr), (1, .ref q), (0, .ref b)]) (kk : ∀ (f1 : Nat → va_E) (H : Heap) (locs : List Loc) (ls : Array Slot), LWS D cy A s L R O P q rr GA GP GL GT V f1 H locs → lv_has ls 4 [(3, .int i), (2, .ref rr), (1, .ref q), (0, .ref b)] → W p l e room_1 s m #[Value.ref b] below meth c H locs cs sl Q (F0 m 1755 ls [])) : W p l e room_1 s m #[Value.ref b] below meth c H locs cs sl Q (F0 m 1558 ls []) := by
  obtain ⟨h, hI, ⟨t_GA, t_GP, t_GL, t_GT⟩, hR, hX, hP, hMK, hCB, hC0, hC1, hC2, hPB⟩ := hLS
  have hs6m := hI.2.2.1.1
  have hs6r := hI.2.2.1.2
  have hBM := BM_of h m_q r_q
  have hPBn := hPB
  refine lv_aload_n F.1 F.2.1 dL_law_1558 rfl (lv_at hl 2 rfl) ?_
  refine tw_Vi (As := []) F hZ h yk_X11_leastSet mw_1477 mw_1478 mw_1479 (s_X11_leastSet l D cy L R O f0 q m_q r_q) rfl rfl m_q r_q (fun e q => (T_11 e).mp q) rfl hl.1 rfl (Nat.le_of_ble_eq_true rfl) ⟨Nat.le_of_ble_eq_true rfl, Nat.le_of_ble_eq_true rfl⟩ ⟨hcs, hsl⟩ dL_law_1559 (fun v2 f1 H locs hp1 h => ?_)
  have hf1 := hp1
  have em3 : fi f1 q 11 = fi f0 q 11 := hf1.efi m_q r_q (by decide +kernel)
  have em4 : fi f1 rr 64 = fi f0 rr 64 := hf1.efi m_rr r_rr (by decide +kernel)
  have ek5 := BKc hBM hf1 m_q r_q (by decide +kernel) (by decide +kernel) (by decide +kernel) (by decide +kernel)
  have ek5b := ek5.1
  have ek5x := ek5.2 0 (by omega)
  have ek5y := ek5.2 1 (by omega)
  have ek5z := ek5.2 2 (by omega)
  have ej6 := hf1.eelj m_GA r_GA (by decide +kernel) 5159
  have ej7 := hf1.eelj m_GA r_GA (by decide +kernel) 10349
  have ej8 := hf1.eelj m_GA r_GA (by decide +kernel) 15539
  have ej9 := hf1.eelj m_GA r_GA (by decide +kernel) 20729
  have hPBn : PB P f1 q := hPBn.fr hBM hf1 m_q r_q (by decide +kernel) (by decide +kernel) (by decide +kernel)
  have hBM := BM_of h m_q r_q
  have hI : INV L R O P f1 q := hI.most m_q r_q hf1 (by decide +kernel) (by decide +kernel) (by decide +kernel) (by decide +kernel) (by decide +kernel)
  have t_GA : fld f1 rr 0 = .ref GA := (hf1.efl m_rr r_rr (by decide +kernel)).trans t_GA
  have t_GP : fld f1 rr 22 = .ref GP := (hf1.efl m_rr r_rr (by decide +kernel)).trans t_GP
  have t_GL : fld f1 rr 23 = .ref GL := (hf1.efl m_rr r_rr (by decide +kernel)).trans t_GL
  have t_GT : fld f1 rr 6 = .ref GT := (hf1.efl m_rr r_rr (by decide +kernel)).trans t_GT
  have hR : RBA GA f1 := hR.fm hf1 m_GA r_GA (by decide +kernel)
  have hX : GZ GP GL f1 := hX.fm hf1 m_GP r_GP m_GL r_GL (by decide +kernel) (by decide +kernel)
  have hP : fld f1 (rfa f1 q 6) 16 = V := by rw [hf1.erf m_q r_q (by decide +kernel), hf1.efl hs6m hs6r (by decide +kernel)]; exact hP
  have hs6m : rfa f1 q 6 ∈ L := by rw [hf1.erf m_q r_q (by decide +kernel)]; exact hs6m
  have hs6r : R (rfa f1 q 6) = 7 := by rw [hf1.erf m_q r_q (by decide +kernel)]; exact hs6r
  refine lv_pop F.1 F.2.1 dL_law_1562 rfl ?_
  refine lv_aload_n F.1 F.2.1 dL_law_1563 rfl (lv_at hl 1 rfl) ?_
  refine tw_Vi (As := []) F hZ h yk_X12_leastSet mw_1482 mw_1483 mw_1484 (s_X12_leastSet l D cy L R O f1 rr m_rr r_rr) rfl rfl m_rr r_rr (fun e q => (T_12 e).mp q) rfl hl.1 rfl (Nat.le_of_ble_eq_true rfl) ⟨Nat.le_of_ble_eq_true rfl, Nat.le_of_ble_eq_true rfl⟩ ⟨hcs, hsl⟩ dL_law_1564 (fun v11 f10 H locs hp10 h => ?_)
  have hf10 := hp10
  have em12 : fi f10 q 11 = fi f1 q 11 := hf10.efi m_q r_q (by decide +kernel)
  have em13 : fi f10 rr 64 = fi f1 rr 64 := hf10.efi m_rr r_rr (by decide +kernel)
  have ek14 := BKc hBM hf10 m_q r_q (by decide +kernel) (by decide +kernel) (by decide +kernel) (by decide +kernel)
  have ek14b := ek14.1
  have ek14x := ek14.2 0 (by omega)
  have ek14y := ek14.2 1 (by omega)
  have ek14z := ek14.2 2 (by omega)
  have ej15 := hf10.eelj m_GA r_GA (by decide +kernel) 5159
  have ej16 := hf10.eelj m_GA r_GA (by decide +kernel) 10349
  have ej17 := hf10.eelj m_GA r_GA (by decide +kernel) 15539
  have ej18 := hf10.eelj m_GA r_GA (by decide +kernel) 20729
  have hPBn : PB P f10 q := hPBn.fr hBM hf10 m_q r_q (by decide +kernel) (by decide +kernel) (by decide +kernel)
  have hBM := BM_of h m_q r_q
  have hI : INV L R O P f10 q := hI.most m_q r_q hf10 (by decide +kernel) (by decide +kernel) (by decide +kernel) (by decide +kernel) (by decide +kernel)
  have t_GA : fld f10 rr 0 = .ref GA := (hf10.efl m_rr r_rr (by decide +kernel)).trans t_GA
  have t_GP : fld f10 rr 22 = .ref GP := (hf10.efl m_rr r_rr (by decide +kernel)).trans t_GP
  have t_GL : fld f10 rr 23 = .ref GL := (hf10.efl m_rr r_rr (by decide +kernel)).trans t_GL
  have t_GT : fld f10 rr 6 = .ref GT := (hf10.efl m_rr r_rr (by decide +kernel)).trans t_GT
  have hR : RBA GA f10 := hR.fm hf10 m_GA r_GA (by decide +kernel)
  have hX : GZ GP GL f10 := hX.fm hf10 m_GP r_GP m_GL r_GL (by decide +kernel) (by decide +kernel)
  have hP : fld f10 (rfa f10 q 6) 16 = V := by rw [hf10.erf m_q r_q (by decide +kernel), hf10.efl hs6m hs6r (by decide +kernel)]; exact hP
  have hs6m : rfa f10 q 6 ∈ L := by rw [hf10.erf m_q r_q (by decide +kernel)]; exact hs6m
  have hs6r : R (rfa f10 q 6) = 7 := by rw [hf10.erf m_q r_q (by decide +kernel)]; exact hs6r
  refine lv_pop F.1 F.2.1 dL_law_1567 rfl ?_
  refine lv_goto (tgt := 1755) F.1 F.2.1 dL_law_1568 (by decide) ?_
  exact kk f10 _ _ _ ⟨h, hI, ⟨t_GA, t_GP, t_GL, t_GT⟩, hR, hX, hP, by omega, by omega, by omega, by omega, by omega, hPBn⟩ hl
theorem dL_law_1571 : decode cL_law 1571 = .ok (.aload_n 1, 1) := by decide +kernel
theorem dL_law_1572 : decode cL_law 1572 = .ok (.aload_n 0, 1) := by decide +kernel
theorem dL_law_1573 : decode cL_law 1573 = .ok (.iload_n 3, 1) := by decide +kernel
theorem dL_law_1574 : decode cL_law 1574 = .ok (.iconst 1, 1) := by decide +kernel
theorem dL_law_1575 : decode cL_law 1575 = .ok (.iadd, 1) := by decide +kernel
theorem dL_law_1576 : decode cL_law 1576 = .ok (.iaload, 1) := by decide +kernel
theorem dL_law_1577 : decode cL_law 1577 = .ok (.invokevirtual 179, 3) := by decide +kernel
theorem mw_1486 : Cond.methodLink RL 179 yX11_orders ∈ wsL_law := inr_62 _ (List.mem_of_getElem? (i := 22) rfl)
theorem mw_1489 : Cond.code yX11_orders cX11_orders 3 (some .int) ∈ wsL_law := inr_63 _ (List.mem_of_getElem? (i := 1) rfl)
theorem yk_X11_orders : xY yX11_orders RX11 cX11_orders 3 (some .int) 1 := ⟨⟨rfl, by decide +kernel, by decide +kernel, by decide +kernel⟩, mw_2, mw_1489⟩
theorem mw_1487 : Cond.instanceMethod yX11_orders ∈ wsL_law := inr_62 _ (List.mem_of_getElem? (i := 23) rfl)
theorem mw_1488 : Cond.selects RX11 yX11_orders yX11_orders ∈ wsL_law := inr_63 _ (List.mem_of_getElem? (i := 0) rfl)
theorem dL_law_1580 : decode cL_law 1580 = .ok (.pop, 1) := by decide +kernel
theorem dL_law_1581 : decode cL_law 1581 = .ok (.aload_n 2, 1) := by decide +kernel
theorem dL_law_1582 : decode cL_law 1582 = .ok (.aload_n 0, 1) := by decide +kernel
theorem dL_law_1583 : decode cL_law 1583 = .ok (.iload_n 3, 1) := by decide +kernel
theorem dL_law_1584 : decode cL_law 1584 = .ok (.iconst 1, 1) := by decide +kernel
theorem dL_law_1585 : decode cL_law 1585 = .ok (.iadd, 1) := by decide +kernel
theorem dL_law_1586 : decode cL_law 1586 = .ok (.iaload, 1) := by decide +kernel
theorem dL_law_1587 : decode cL_law 1587 = .ok (.invokevirtual 182, 3) := by decide +kernel
theorem mw_1513 : Cond.methodLink RL 182 yX12_orders ∈ wsL_law := inr_64 _ (List.mem_of_getElem? (i := 1) rfl)
theorem mw_1516 : Cond.code yX12_orders cX12_orders 10 (some .int) ∈ wsL_law := inr_64 _ (List.mem_of_getElem? (i := 4) rfl)
theorem yk_X12_orders : xY yX12_orders RX12 cX12_orders 10 (some .int) 1 := ⟨⟨rfl, by decide +kernel, by decide +kernel, by decide +kernel⟩, mw_5, mw_1516⟩
theorem mw_1514 : Cond.instanceMethod yX12_orders ∈ wsL_law := inr_64 _ (List.mem_of_getElem? (i := 2) rfl)
theorem mw_1515 : Cond.selects RX12 yX12_orders yX12_orders ∈ wsL_law := inr_64 _ (List.mem_of_getElem? (i := 3) rfl)
theorem dL_law_1590 : decode cL_law 1590 = .ok (.pop, 1) := by decide +kernel
theorem dL_law_1591 : decode cL_law 1591 = .ok (.goto 164, 3) := by decide +kernel
set_option maxHeartbeats 4000000 in
set_option maxRecDepth 100000 in
theorem law_c37 {p : Program} {l : Launch} {e : Env} {s : State} {m : MethodId} {below : List Frame} {meth : Method} {c : Code} {H : Heap} {locs : List Loc} {Q : State → Prop} {D : va_G} {cy : Nat → ClassId} {A : Nat → Prop} {L : List Nat} {R O P : Nat → Nat} {f0 : Nat → va_E} {ls : Array Slot} {b N cs sl q rr GA GP GL GT : Nat} {xs : Nat → Int32} {V : Value} (F : CallFix p m c cL_law 4 s #[Value.ref b] wsL_law RL) (hZ : tZ A s s.heap) (hX0 : va_X b N xs s s.heap) (hbl : b < s.heap.size) (hbA : ¬ A b) (hcs : cs ≤ room_1.cells) (hsl : sl ≤ room_1.slots) (i : Int32) (bi : 0 ≤ i.toInt ∧ i.toInt + 6 ≤ N ∧ N ≤ 3072) (m_q : q ∈ L) (r_q : R q = 11) (m_rr : rr ∈ L) (r_rr : R rr = 12) (m_GA : GA ∈ L) (r_GA : R GA = 61) (m_GP : GP ∈ L) (r_GP : R GP = 69) (m_GL : GL ∈ L) (r_GL : R GL = 70) (m_GT : GT ∈ L) (r_GT : R GT = 64) (hLS : LWS D cy A s L R O P q rr GA GP GL GT V f0 H locs) (hl : lv_has ls 4 [(3, .int i), (2, .ref rr), (1, .ref q), (0, .ref b)]) (kk : ∀ (f1 : Nat → va_E) (H : Heap) (locs : List Loc) (ls : Array Slot), LWS D cy A s L R O P q rr GA GP GL GT V f1 H locs → lv_has ls 4 [(3, .int i), (2, .ref rr), (1, .ref q), (0, .ref b)] → W p l e room_1 s m #[Value.ref b] below meth c H locs cs sl Q (F0 m 1755 ls [])) : W p l e room_1 s m #[Value.ref b] below meth c H locs cs sl Q (F0 m 1571 ls []) := by
  obtain ⟨h, hI, ⟨t_GA, t_GP, t_GL, t_GT⟩, hR, hX, hP, hMK, hCB, hC0, hC1, hC2, hPB⟩ := hLS
  have hs6m := hI.2.2.1.1
  have hs6r := hI.2.2.1.2
  have hBM := BM_of h m_q r_q
  have hPBn := hPB
  refine lv_aload_n F.1 F.2.1 dL_law_1571 rfl (lv_at hl 2 rfl) ?_
  refine lv_aload_n F.1 F.2.1 dL_law_1572 rfl (lv_at hl 3 rfl) ?_
  refine lv_iload_n F.1 F.2.1 dL_law_1573 rfl (lv_at hl 0 rfl) ?_
  refine tw_iconst F dL_law_1574 ki_1 (fun z1 hz1 => ?_)
  refine tu_iadd F dL_law_1575 (by omega) (fun z2 hz2 => ?_)
  refine va_sld F.1 F.2.1 hX0 hbl hbA h.dd.2.2 (tw_in (by omega) (by omega)) dL_law_1576 ?_
  refine lv_topi (fun z3 qz3 => ?_)
  refine tw_Vi (As := [.int z3]) F hZ h yk_X11_orders mw_1486 mw_1487 mw_1488 (s_X11_orders l D cy L R O f0 hI.2.2.2.1 q m_q r_q z3 hI.pi) rfl rfl m_q r_q (fun e q => (T_11 e).mp q) rfl hl.1 rfl (Nat.le_of_ble_eq_true rfl) ⟨Nat.le_of_ble_eq_true rfl, Nat.le_of_ble_eq_true rfl⟩ ⟨hcs, hsl⟩ dL_law_1577 (fun v5 f4 H locs hp4 h => ?_)
  obtain ⟨hf4, hv5p0⟩ := hp4
  have em6 : fi f4 q 11 = fi f0 q 11 := hf4.efi m_q r_q (by decide +kernel)
  have em7 : fi f4 rr 64 = fi f0 rr 64 := hf4.efi m_rr r_rr (by decide +kernel)
  have ek8 := BKc hBM hf4 m_q r_q (by decide +kernel) (by decide +kernel) (by decide +kernel) (by decide +kernel)
  have ek8b := ek8.1
  have ek8x := ek8.2 0 (by omega)
  have ek8y := ek8.2 1 (by omega)
  have ek8z := ek8.2 2 (by omega)
  have ej9 := hf4.eelj m_GA r_GA (by decide +kernel) 5159
  have ej10 := hf4.eelj m_GA r_GA (by decide +kernel) 10349
  have ej11 := hf4.eelj m_GA r_GA (by decide +kernel) 15539
  have ej12 := hf4.eelj m_GA r_GA (by decide +kernel) 20729
  have hPBn : PB P f4 q := hPBn.fr hBM hf4 m_q r_q (by decide +kernel) (by decide +kernel) (by decide +kernel)
  have hBM := BM_of h m_q r_q
  have hI : INV L R O P f4 q := hI.ko m_q r_q hf4 (by decide +kernel) (by decide +kernel) (by decide +kernel) (by decide +kernel) hv5p0
  have t_GA : fld f4 rr 0 = .ref GA := (hf4.efl m_rr r_rr (by decide +kernel)).trans t_GA
  have t_GP : fld f4 rr 22 = .ref GP := (hf4.efl m_rr r_rr (by decide +kernel)).trans t_GP
  have t_GL : fld f4 rr 23 = .ref GL := (hf4.efl m_rr r_rr (by decide +kernel)).trans t_GL
  have t_GT : fld f4 rr 6 = .ref GT := (hf4.efl m_rr r_rr (by decide +kernel)).trans t_GT
  have hR : RBA GA f4 := hR.fm hf4 m_GA r_GA (by decide +kernel)
  have hX : GZ GP GL f4 := hX.fm hf4 m_GP r_GP m_GL r_GL (by decide +kernel) (by decide +kernel)
  have hP : fld f4 (rfa f4 q 6) 16 = V := by rw [hf4.erf m_q r_q (by decide +kernel), hf4.efl hs6m hs6r (by decide +kernel)]; exact hP
  have hs6m : rfa f4 q 6 ∈ L := by rw [hf4.erf m_q r_q (by decide +kernel)]; exact hs6m
  have hs6r : R (rfa f4 q 6) = 7 := by rw [hf4.erf m_q r_q (by decide +kernel)]; exact hs6r
  refine lv_pop F.1 F.2.1 dL_law_1580 rfl ?_
  refine lv_aload_n F.1 F.2.1 dL_law_1581 rfl (lv_at hl 1 rfl) ?_
  refine lv_aload_n F.1 F.2.1 dL_law_1582 rfl (lv_at hl 3 rfl) ?_
  refine lv_iload_n F.1 F.2.1 dL_law_1583 rfl (lv_at hl 0 rfl) ?_
  refine tw_iconst F dL_law_1584 ki_1 (fun z13 hz13 => ?_)
  refine tu_iadd F dL_law_1585 (by omega) (fun z14 hz14 => ?_)
  refine va_sld F.1 F.2.1 hX0 hbl hbA h.dd.2.2 (tw_in (by omega) (by omega)) dL_law_1586 ?_
  refine lv_topi (fun z15 qz15 => ?_)
  obtain rfl : z3 = z15 := by rw [qz3, qz15, show z2 = z14 from Int32.toInt_inj.mp (by omega)]
  refine tw_Vi (As := [.int z3]) F hZ h yk_X12_orders mw_1513 mw_1514 mw_1515 (s_X12_ordersC l D cy L R O f4 rr m_rr r_rr z3 GA m_GA r_GA t_GA GP m_GP r_GP t_GP GL m_GL r_GL t_GL GT m_GT r_GT t_GT hR hX) rfl rfl m_rr r_rr (fun e q => (T_12 e).mp q) rfl hl.1 rfl (Nat.le_of_ble_eq_true rfl) ⟨Nat.le_of_ble_eq_true rfl, Nat.le_of_ble_eq_true rfl⟩ ⟨hcs, hsl⟩ dL_law_1587 (fun v17 f16 H locs hp16 h => ?_)
  obtain ⟨hf16, hv17p0, hv17p1, hv17p2, hv17p3, hv17p4, hv17p5⟩ := hp16
  have em18 : fi f16 q 11 = fi f4 q 11 := hf16.efi m_q r_q (by decide +kernel)
  have em19 : fi f16 rr 64 = fi f4 rr 64 := hf16.efi m_rr r_rr (by decide +kernel)
  have ek20 := BKc hBM hf16 m_q r_q (by decide +kernel) (by decide +kernel) (by decide +kernel) (by decide +kernel)
  have ek20b := ek20.1
  have ek20x := ek20.2 0 (by omega)
  have ek20y := ek20.2 1 (by omega)
  have ek20z := ek20.2 2 (by omega)
  have hPBn : PB P f16 q := hPBn.fr hBM hf16 m_q r_q (by decide +kernel) (by decide +kernel) (by decide +kernel)
  have hBM := BM_of h m_q r_q
  have hI : INV L R O P f16 q := hI.most m_q r_q hf16 (by decide +kernel) (by decide +kernel) (by decide +kernel) (by decide +kernel) (by decide +kernel)
  have t_GA : fld f16 rr 0 = .ref GA := (hf16.efl m_rr r_rr (by decide +kernel)).trans t_GA
  have t_GP : fld f16 rr 22 = .ref GP := (hf16.efl m_rr r_rr (by decide +kernel)).trans t_GP
  have t_GL : fld f16 rr 23 = .ref GL := (hf16.efl m_rr r_rr (by decide +kernel)).trans t_GL
  have t_GT : fld f16 rr 6 = .ref GT := (hf16.efl m_rr r_rr (by decide +kernel)).trans t_GT
  have hR : RBA GA f16 := hv17p0
  have hX : GZ GP GL f16 := hv17p1
  have hP : fld f16 (rfa f16 q 6) 16 = V := by rw [hf16.erf m_q r_q (by decide +kernel), hf16.efl hs6m hs6r (by decide +kernel)]; exact hP
  have hs6m : rfa f16 q 6 ∈ L := by rw [hf16.erf m_q r_q (by decide +kernel)]; exact hs6m
  have hs6r : R (rfa f16 q 6) = 7 := by rw [hf16.erf m_q r_q (by decide +kernel)]; exact hs6r
  refine lv_pop F.1 F.2.1 dL_law_1590 rfl ?_
  refine lv_goto (tgt := 1755) F.1 F.2.1 dL_law_1591 (by decide) ?_
  exact kk f16 _ _ _ ⟨h, hI, ⟨t_GA, t_GP, t_GL, t_GT⟩, hR, hX, hP, by omega, by omega, by omega, by omega, by omega, hPBn⟩ hl
theorem dL_law_1594 : decode cL_law 1594 = .ok (.aload_n 1, 1) := by decide +kernel
theorem dL_law_1595 : decode cL_law 1595 = .ok (.aload_n 0, 1) := by decide +kernel
theorem dL_law_1596 : decode cL_law 1596 = .ok (.iload_n 3, 1) := by decide +kernel
theorem dL_law_1597 : decode cL_law 1597 = .ok (.iconst 1, 1) := by decide +kernel
theorem dL_law_1598 : decode cL_law 1598 = .ok (.iadd, 1) := by decide +kernel
theorem dL_law_1599 : decode cL_law 1599 = .ok (.iaload, 1) := by decide +kernel
theorem dL_law_1600 : decode cL_law 1600 = .ok (.aload_n 0, 1) := by decide +kernel
theorem dL_law_1601 : decode cL_law 1601 = .ok (.iload_n 3, 1) := by decide +kernel
theorem dL_law_1602 : decode cL_law 1602 = .ok (.iconst 2, 1) := by decide +kernel
theorem dL_law_1603 : decode cL_law 1603 = .ok (.iadd, 1) := by decide +kernel
theorem dL_law_1604 : decode cL_law 1604 = .ok (.iaload, 1) := by decide +kernel
theorem dL_law_1605 : decode cL_law 1605 = .ok (.invokevirtual 183, 3) := by decide +kernel
theorem mw_1522 : Cond.methodLink RL 183 yX11_ahead ∈ wsL_law := inr_64 _ (List.mem_of_getElem? (i := 10) rfl)
theorem mw_1525 : Cond.code yX11_ahead cX11_ahead 3 (some .int) ∈ wsL_law := inr_64 _ (List.mem_of_getElem? (i := 13) rfl)
theorem yk_X11_ahead : xY yX11_ahead RX11 cX11_ahead 3 (some .int) 2 := ⟨⟨rfl, by decide +kernel, by decide +kernel, by decide +kernel⟩, mw_2, mw_1525⟩
theorem mw_1523 : Cond.instanceMethod yX11_ahead ∈ wsL_law := inr_64 _ (List.mem_of_getElem? (i := 11) rfl)
theorem mw_1524 : Cond.selects RX11 yX11_ahead yX11_ahead ∈ wsL_law := inr_64 _ (List.mem_of_getElem? (i := 12) rfl)
theorem dL_law_1608 : decode cL_law 1608 = .ok (.pop, 1) := by decide +kernel
theorem dL_law_1609 : decode cL_law 1609 = .ok (.aload_n 2, 1) := by decide +kernel
theorem dL_law_1610 : decode cL_law 1610 = .ok (.aload_n 0, 1) := by decide +kernel
theorem dL_law_1611 : decode cL_law 1611 = .ok (.iload_n 3, 1) := by decide +kernel
theorem dL_law_1612 : decode cL_law 1612 = .ok (.iconst 1, 1) := by decide +kernel
theorem dL_law_1613 : decode cL_law 1613 = .ok (.iadd, 1) := by decide +kernel
theorem dL_law_1614 : decode cL_law 1614 = .ok (.iaload, 1) := by decide +kernel
theorem dL_law_1615 : decode cL_law 1615 = .ok (.aload_n 0, 1) := by decide +kernel
theorem dL_law_1616 : decode cL_law 1616 = .ok (.iload_n 3, 1) := by decide +kernel
theorem dL_law_1617 : decode cL_law 1617 = .ok (.iconst 2, 1) := by decide +kernel
theorem dL_law_1618 : decode cL_law 1618 = .ok (.iadd, 1) := by decide +kernel
theorem dL_law_1619 : decode cL_law 1619 = .ok (.iaload, 1) := by decide +kernel
theorem dL_law_1620 : decode cL_law 1620 = .ok (.invokevirtual 186, 3) := by decide +kernel
theorem mw_1528 : Cond.methodLink RL 186 yX12_ahead ∈ wsL_law := inr_64 _ (List.mem_of_getElem? (i := 16) rfl)
theorem mw_1531 : Cond.code yX12_ahead cX12_ahead 3 (some .int) ∈ wsL_law := inr_64 _ (List.mem_of_getElem? (i := 19) rfl)
theorem yk_X12_ahead : xY yX12_ahead RX12 cX12_ahead 3 (some .int) 2 := ⟨⟨rfl, by decide +kernel, by decide +kernel, by decide +kernel⟩, mw_5, mw_1531⟩
theorem mw_1529 : Cond.instanceMethod yX12_ahead ∈ wsL_law := inr_64 _ (List.mem_of_getElem? (i := 17) rfl)
theorem mw_1530 : Cond.selects RX12 yX12_ahead yX12_ahead ∈ wsL_law := inr_64 _ (List.mem_of_getElem? (i := 18) rfl)
theorem dL_law_1623 : decode cL_law 1623 = .ok (.pop, 1) := by decide +kernel
theorem dL_law_1624 : decode cL_law 1624 = .ok (.goto 131, 3) := by decide +kernel
set_option maxHeartbeats 4000000 in
set_option maxRecDepth 100000 in
theorem law_c38 {p : Program} {l : Launch} {e : Env} {s : State} {m : MethodId} {below : List Frame} {meth : Method} {c : Code} {H : Heap} {locs : List Loc} {Q : State → Prop} {D : va_G} {cy : Nat → ClassId} {A : Nat → Prop} {L : List Nat} {R O P : Nat → Nat} {f0 : Nat → va_E} {ls : Array Slot} {b N cs sl q rr GA GP GL GT : Nat} {xs : Nat → Int32} {V : Value} (F : CallFix p m c cL_law 4 s #[Value.ref b] wsL_law RL) (hZ : tZ A s s.heap) (hX0 : va_X b N xs s s.heap) (hbl : b < s.heap.size) (hbA : ¬ A b) (hcs : cs ≤ room_1.cells) (hsl : sl ≤ room_1.slots) (i : Int32) (bi : 0 ≤ i.toInt ∧ i.toInt + 6 ≤ N ∧ N ≤ 3072) (m_q : q ∈ L) (r_q : R q = 11) (m_rr : rr ∈ L) (r_rr : R rr = 12) (m_GA : GA ∈ L) (r_GA : R GA = 61) (m_GP : GP ∈ L) (r_GP : R GP = 69) (m_GL : GL ∈ L) (r_GL : R GL = 70) (m_GT : GT ∈ L) (r_GT : R GT = 64) (hLS : LWS D cy A s L R O P q rr GA GP GL GT V f0 H locs) (hl : lv_has ls 4 [(3, .int i), (2, .ref rr), (1, .ref q), (0, .ref b)]) (kk : ∀ (f1 : Nat → va_E) (H : Heap) (locs : List Loc) (ls : Array Slot), LWS D cy A s L R O P q rr GA GP GL GT V f1 H locs → lv_has ls 4 [(3, .int i), (2, .ref rr), (1, .ref q), (0, .ref b)] → W p l e room_1 s m #[Value.ref b] below meth c H locs cs sl Q (F0 m 1755 ls [])) : W p l e room_1 s m #[Value.ref b] below meth c H locs cs sl Q (F0 m 1594 ls []) := by
  obtain ⟨h, hI, ⟨t_GA, t_GP, t_GL, t_GT⟩, hR, hX, hP, hMK, hCB, hC0, hC1, hC2, hPB⟩ := hLS
  have hs6m := hI.2.2.1.1
  have hs6r := hI.2.2.1.2
  have hBM := BM_of h m_q r_q
  have hPBn := hPB
  refine lv_aload_n F.1 F.2.1 dL_law_1594 rfl (lv_at hl 2 rfl) ?_
  refine lv_aload_n F.1 F.2.1 dL_law_1595 rfl (lv_at hl 3 rfl) ?_
  refine lv_iload_n F.1 F.2.1 dL_law_1596 rfl (lv_at hl 0 rfl) ?_
  refine tw_iconst F dL_law_1597 ki_1 (fun z1 hz1 => ?_)
  refine tu_iadd F dL_law_1598 (by omega) (fun z2 hz2 => ?_)
  refine va_sld F.1 F.2.1 hX0 hbl hbA h.dd.2.2 (tw_in (by omega) (by omega)) dL_law_1599 ?_
  refine lv_topi (fun z3 qz3 => ?_)
  refine lv_aload_n F.1 F.2.1 dL_law_1600 rfl (lv_at hl 3 rfl) ?_
  refine lv_iload_n F.1 F.2.1 dL_law_1601 rfl (lv_at hl 0 rfl) ?_
  refine tw_iconst F dL_law_1602 ki_2 (fun z4 hz4 => ?_)
  refine tu_iadd F dL_law_1603 (by omega) (fun z5 hz5 => ?_)
  refine va_sld F.1 F.2.1 hX0 hbl hbA h.dd.2.2 (tw_in (by omega) (by omega)) dL_law_1604 ?_
  refine lv_topi (fun z6 qz6 => ?_)
  refine tw_Vi (As := [.int z3, .int z6]) F hZ h yk_X11_ahead mw_1522 mw_1523 mw_1524 (s_X11_ahead l D cy L R O f0 q m_q r_q z3 z6) rfl rfl m_q r_q (fun e q => (T_11 e).mp q) rfl hl.1 rfl (Nat.le_of_ble_eq_true rfl) ⟨Nat.le_of_ble_eq_true rfl, Nat.le_of_ble_eq_true rfl⟩ ⟨hcs, hsl⟩ dL_law_1605 (fun v8 f7 H locs hp7 h => ?_)
  have hf7 := hp7
  have em9 : fi f7 q 11 = fi f0 q 11 := hf7.efi m_q r_q (by decide +kernel)
  have em10 : fi f7 rr 64 = fi f0 rr 64 := hf7.efi m_rr r_rr (by decide +kernel)
  have ek11 := BKc hBM hf7 m_q r_q (by decide +kernel) (by decide +kernel) (by decide +kernel) (by decide +kernel)
  have ek11b := ek11.1
  have ek11x := ek11.2 0 (by omega)
  have ek11y := ek11.2 1 (by omega)
  have ek11z := ek11.2 2 (by omega)
  have ej12 := hf7.eelj m_GA r_GA (by decide +kernel) 5159
  have ej13 := hf7.eelj m_GA r_GA (by decide +kernel) 10349
  have ej14 := hf7.eelj m_GA r_GA (by decide +kernel) 15539
  have ej15 := hf7.eelj m_GA r_GA (by decide +kernel) 20729
  have hPBn : PB P f7 q := hPBn.fr hBM hf7 m_q r_q (by decide +kernel) (by decide +kernel) (by decide +kernel)
  have hBM := BM_of h m_q r_q
  have hI : INV L R O P f7 q := hI.most m_q r_q hf7 (by decide +kernel) (by decide +kernel) (by decide +kernel) (by decide +kernel) (by decide +kernel)
  have t_GA : fld f7 rr 0 = .ref GA := (hf7.efl m_rr r_rr (by decide +kernel)).trans t_GA
  have t_GP : fld f7 rr 22 = .ref GP := (hf7.efl m_rr r_rr (by decide +kernel)).trans t_GP
  have t_GL : fld f7 rr 23 = .ref GL := (hf7.efl m_rr r_rr (by decide +kernel)).trans t_GL
  have t_GT : fld f7 rr 6 = .ref GT := (hf7.efl m_rr r_rr (by decide +kernel)).trans t_GT
  have hR : RBA GA f7 := hR.fm hf7 m_GA r_GA (by decide +kernel)
  have hX : GZ GP GL f7 := hX.fm hf7 m_GP r_GP m_GL r_GL (by decide +kernel) (by decide +kernel)
  have hP : fld f7 (rfa f7 q 6) 16 = V := by rw [hf7.erf m_q r_q (by decide +kernel), hf7.efl hs6m hs6r (by decide +kernel)]; exact hP
  have hs6m : rfa f7 q 6 ∈ L := by rw [hf7.erf m_q r_q (by decide +kernel)]; exact hs6m
  have hs6r : R (rfa f7 q 6) = 7 := by rw [hf7.erf m_q r_q (by decide +kernel)]; exact hs6r
  refine lv_pop F.1 F.2.1 dL_law_1608 rfl ?_
  refine lv_aload_n F.1 F.2.1 dL_law_1609 rfl (lv_at hl 1 rfl) ?_
  refine lv_aload_n F.1 F.2.1 dL_law_1610 rfl (lv_at hl 3 rfl) ?_
  refine lv_iload_n F.1 F.2.1 dL_law_1611 rfl (lv_at hl 0 rfl) ?_
  refine tw_iconst F dL_law_1612 ki_1 (fun z16 hz16 => ?_)
  refine tu_iadd F dL_law_1613 (by omega) (fun z17 hz17 => ?_)
  refine va_sld F.1 F.2.1 hX0 hbl hbA h.dd.2.2 (tw_in (by omega) (by omega)) dL_law_1614 ?_
  refine lv_topi (fun z18 qz18 => ?_)
  obtain rfl : z3 = z18 := by rw [qz3, qz18, show z2 = z17 from Int32.toInt_inj.mp (by omega)]
  refine lv_aload_n F.1 F.2.1 dL_law_1615 rfl (lv_at hl 3 rfl) ?_
  refine lv_iload_n F.1 F.2.1 dL_law_1616 rfl (lv_at hl 0 rfl) ?_
  refine tw_iconst F dL_law_1617 ki_2 (fun z19 hz19 => ?_)
  refine tu_iadd F dL_law_1618 (by omega) (fun z20 hz20 => ?_)
  refine va_sld F.1 F.2.1 hX0 hbl hbA h.dd.2.2 (tw_in (by omega) (by omega)) dL_law_1619 ?_
  refine lv_topi (fun z21 qz21 => ?_)
  obtain rfl : z6 = z21 := by rw [qz6, qz21, show z5 = z20 from Int32.toInt_inj.mp (by omega)]
  refine tw_Vi (As := [.int z3, .int z6]) F hZ h yk_X12_ahead mw_1528 mw_1529 mw_1530 (s_X12_ahead l D cy L R O f7 rr m_rr r_rr z3 z6) rfl rfl m_rr r_rr (fun e q => (T_12 e).mp q) rfl hl.1 rfl (Nat.le_of_ble_eq_true rfl) ⟨Nat.le_of_ble_eq_true rfl, Nat.le_of_ble_eq_true rfl⟩ ⟨hcs, hsl⟩ dL_law_1620 (fun v23 f22 H locs hp22 h => ?_)
  have hf22 := hp22
  have em24 : fi f22 q 11 = fi f7 q 11 := hf22.efi m_q r_q (by decide +kernel)
  have em25 : fi f22 rr 64 = fi f7 rr 64 := hf22.efi m_rr r_rr (by decide +kernel)
  have ek26 := BKc hBM hf22 m_q r_q (by decide +kernel) (by decide +kernel) (by decide +kernel) (by decide +kernel)
  have ek26b := ek26.1
  have ek26x := ek26.2 0 (by omega)
  have ek26y := ek26.2 1 (by omega)
  have ek26z := ek26.2 2 (by omega)
  have ej27 := hf22.eelj m_GA r_GA (by decide +kernel) 5159
  have ej28 := hf22.eelj m_GA r_GA (by decide +kernel) 10349
  have ej29 := hf22.eelj m_GA r_GA (by decide +kernel) 15539
  have ej30 := hf22.eelj m_GA r_GA (by decide +kernel) 20729
  have hPBn : PB P f22 q := hPBn.fr hBM hf22 m_q r_q (by decide +kernel) (by decide +kernel) (by decide +kernel)
  have hBM := BM_of h m_q r_q
  have hI : INV L R O P f22 q := hI.most m_q r_q hf22 (by decide +kernel) (by decide +kernel) (by decide +kernel) (by decide +kernel) (by decide +kernel)
  have t_GA : fld f22 rr 0 = .ref GA := (hf22.efl m_rr r_rr (by decide +kernel)).trans t_GA
  have t_GP : fld f22 rr 22 = .ref GP := (hf22.efl m_rr r_rr (by decide +kernel)).trans t_GP
  have t_GL : fld f22 rr 23 = .ref GL := (hf22.efl m_rr r_rr (by decide +kernel)).trans t_GL
  have t_GT : fld f22 rr 6 = .ref GT := (hf22.efl m_rr r_rr (by decide +kernel)).trans t_GT
  have hR : RBA GA f22 := hR.fm hf22 m_GA r_GA (by decide +kernel)
  have hX : GZ GP GL f22 := hX.fm hf22 m_GP r_GP m_GL r_GL (by decide +kernel) (by decide +kernel)
  have hP : fld f22 (rfa f22 q 6) 16 = V := by rw [hf22.erf m_q r_q (by decide +kernel), hf22.efl hs6m hs6r (by decide +kernel)]; exact hP
  have hs6m : rfa f22 q 6 ∈ L := by rw [hf22.erf m_q r_q (by decide +kernel)]; exact hs6m
  have hs6r : R (rfa f22 q 6) = 7 := by rw [hf22.erf m_q r_q (by decide +kernel)]; exact hs6r
  refine lv_pop F.1 F.2.1 dL_law_1623 rfl ?_
  refine lv_goto (tgt := 1755) F.1 F.2.1 dL_law_1624 (by decide) ?_
  exact kk f22 _ _ _ ⟨h, hI, ⟨t_GA, t_GP, t_GL, t_GT⟩, hR, hX, hP, by omega, by omega, by omega, by omega, by omega, hPBn⟩ hl
theorem dL_law_1627 : decode cL_law 1627 = .ok (.aload_n 1, 1) := by decide +kernel
theorem dL_law_1628 : decode cL_law 1628 = .ok (.aload_n 0, 1) := by decide +kernel
theorem dL_law_1629 : decode cL_law 1629 = .ok (.iload_n 3, 1) := by decide +kernel
theorem dL_law_1630 : decode cL_law 1630 = .ok (.iconst 1, 1) := by decide +kernel
theorem dL_law_1631 : decode cL_law 1631 = .ok (.iadd, 1) := by decide +kernel
theorem dL_law_1632 : decode cL_law 1632 = .ok (.iaload, 1) := by decide +kernel
theorem dL_law_1633 : decode cL_law 1633 = .ok (.aload_n 0, 1) := by decide +kernel
theorem dL_law_1634 : decode cL_law 1634 = .ok (.iload_n 3, 1) := by decide +kernel
theorem dL_law_1635 : decode cL_law 1635 = .ok (.iconst 2, 1) := by decide +kernel
theorem dL_law_1636 : decode cL_law 1636 = .ok (.iadd, 1) := by decide +kernel
theorem dL_law_1637 : decode cL_law 1637 = .ok (.iaload, 1) := by decide +kernel
theorem dL_law_1638 : decode cL_law 1638 = .ok (.ifCond .eq 7, 3) := by decide +kernel
theorem dL_law_1645 : decode cL_law 1645 = .ok (.iconst 0, 1) := by decide +kernel
theorem dL_law_1646 : decode cL_law 1646 = .ok (.invokevirtual 187, 3) := by decide +kernel
theorem mw_1532 : Cond.methodLink RL 187 yX11_leave ∈ wsL_law := inr_64 _ (List.mem_of_getElem? (i := 20) rfl)
theorem mw_1535 : Cond.code yX11_leave cX11_leave 3 (some .boolean) ∈ wsL_law := inr_64 _ (List.mem_of_getElem? (i := 23) rfl)
theorem yk_X11_leave : xY yX11_leave RX11 cX11_leave 3 (some .boolean) 2 := ⟨⟨rfl, by decide +kernel, by decide +kernel, by decide +kernel⟩, mw_2, mw_1535⟩
theorem mw_1533 : Cond.instanceMethod yX11_leave ∈ wsL_law := inr_64 _ (List.mem_of_getElem? (i := 21) rfl)
theorem mw_1534 : Cond.selects RX11 yX11_leave yX11_leave ∈ wsL_law := inr_64 _ (List.mem_of_getElem? (i := 22) rfl)
theorem dL_law_1649 : decode cL_law 1649 = .ok (.pop, 1) := by decide +kernel
theorem dL_law_1650 : decode cL_law 1650 = .ok (.aload_n 2, 1) := by decide +kernel
theorem dL_law_1651 : decode cL_law 1651 = .ok (.aload_n 0, 1) := by decide +kernel
theorem dL_law_1652 : decode cL_law 1652 = .ok (.iload_n 3, 1) := by decide +kernel
theorem dL_law_1653 : decode cL_law 1653 = .ok (.iconst 1, 1) := by decide +kernel
theorem dL_law_1654 : decode cL_law 1654 = .ok (.iadd, 1) := by decide +kernel
theorem dL_law_1655 : decode cL_law 1655 = .ok (.iaload, 1) := by decide +kernel
theorem dL_law_1656 : decode cL_law 1656 = .ok (.aload_n 0, 1) := by decide +kernel
theorem dL_law_1657 : decode cL_law 1657 = .ok (.iload_n 3, 1) := by decide +kernel
theorem dL_law_1658 : decode cL_law 1658 = .ok (.iconst 2, 1) := by decide +kernel
theorem dL_law_1659 : decode cL_law 1659 = .ok (.iadd, 1) := by decide +kernel
theorem dL_law_1660 : decode cL_law 1660 = .ok (.iaload, 1) := by decide +kernel
theorem dL_law_1661 : decode cL_law 1661 = .ok (.ifCond .eq 7, 3) := by decide +kernel
theorem dL_law_1668 : decode cL_law 1668 = .ok (.iconst 0, 1) := by decide +kernel
theorem dL_law_1669 : decode cL_law 1669 = .ok (.invokevirtual 191, 3) := by decide +kernel
theorem mw_1537 : Cond.methodLink RL 191 yX12_leave ∈ wsL_law := inr_65 _ (List.mem_of_getElem? (i := 1) rfl)
theorem mw_1540 : Cond.code yX12_leave cX12_leave 3 (some .boolean) ∈ wsL_law := inr_65 _ (List.mem_of_getElem? (i := 4) rfl)
theorem yk_X12_leave : xY yX12_leave RX12 cX12_leave 3 (some .boolean) 2 := ⟨⟨rfl, by decide +kernel, by decide +kernel, by decide +kernel⟩, mw_5, mw_1540⟩
theorem mw_1538 : Cond.instanceMethod yX12_leave ∈ wsL_law := inr_65 _ (List.mem_of_getElem? (i := 2) rfl)
theorem mw_1539 : Cond.selects RX12 yX12_leave yX12_leave ∈ wsL_law := inr_65 _ (List.mem_of_getElem? (i := 3) rfl)
theorem dL_law_1672 : decode cL_law 1672 = .ok (.pop, 1) := by decide +kernel
theorem dL_law_1673 : decode cL_law 1673 = .ok (.goto 82, 3) := by decide +kernel
theorem dL_law_1664 : decode cL_law 1664 = .ok (.iconst 1, 1) := by decide +kernel
theorem dL_law_1665 : decode cL_law 1665 = .ok (.goto 4, 3) := by decide +kernel
theorem dL_law_1641 : decode cL_law 1641 = .ok (.iconst 1, 1) := by decide +kernel
theorem dL_law_1642 : decode cL_law 1642 = .ok (.goto 4, 3) := by decide +kernel
set_option maxHeartbeats 4000000 in
set_option maxRecDepth 100000 in
theorem law_c39 {p : Program} {l : Launch} {e : Env} {s : State} {m : MethodId} {below : List Frame} {meth : Method} {c : Code} {H : Heap} {locs : List Loc} {Q : State → Prop} {D : va_G} {cy : Nat → ClassId} {A : Nat → Prop} {L : List Nat} {R O P : Nat → Nat} {f0 : Nat → va_E} {ls : Array Slot} {b N cs sl q rr GA GP GL GT : Nat} {xs : Nat → Int32} {V : Value} (F : CallFix p m c cL_law 4 s #[Value.ref b] wsL_law RL) (hZ : tZ A s s.heap) (hX0 : va_X b N xs s s.heap) (hbl : b < s.heap.size) (hbA : ¬ A b) (hcs : cs ≤ room_1.cells) (hsl : sl ≤ room_1.slots) (i : Int32) (bi : 0 ≤ i.toInt ∧ i.toInt + 6 ≤ N ∧ N ≤ 3072) (m_q : q ∈ L) (r_q : R q = 11) (m_rr : rr ∈ L) (r_rr : R rr = 12) (m_GA : GA ∈ L) (r_GA : R GA = 61) (m_GP : GP ∈ L) (r_GP : R GP = 69) (m_GL : GL ∈ L) (r_GL : R GL = 70) (m_GT : GT ∈ L) (r_GT : R GT = 64) (hLS : LWS D cy A s L R O P q rr GA GP GL GT V f0 H locs) (hl : lv_has ls 4 [(3, .int i), (2, .ref rr), (1, .ref q), (0, .ref b)]) (kk : ∀ (f1 : Nat → va_E) (H : Heap) (locs : List Loc) (ls : Array Slot), LWS D cy A s L R O P q rr GA GP GL GT V f1 H locs → lv_has ls 4 [(3, .int i), (2, .ref rr), (1, .ref q), (0, .ref b)] → W p l e room_1 s m #[Value.ref b] below meth c H locs cs sl Q (F0 m 1755 ls [])) : W p l e room_1 s m #[Value.ref b] below meth c H locs cs sl Q (F0 m 1627 ls []) := by
  obtain ⟨h, hI, ⟨t_GA, t_GP, t_GL, t_GT⟩, hR, hX, hP, hMK, hCB, hC0, hC1, hC2, hPB⟩ := hLS
  have hs6m := hI.2.2.1.1
  have hs6r := hI.2.2.1.2
  have hBM := BM_of h m_q r_q
  have hPBn := hPB
  refine lv_aload_n F.1 F.2.1 dL_law_1627 rfl (lv_at hl 2 rfl) ?_
  refine lv_aload_n F.1 F.2.1 dL_law_1628 rfl (lv_at hl 3 rfl) ?_
  refine lv_iload_n F.1 F.2.1 dL_law_1629 rfl (lv_at hl 0 rfl) ?_
  refine tw_iconst F dL_law_1630 ki_1 (fun z1 hz1 => ?_)
  refine tu_iadd F dL_law_1631 (by omega) (fun z2 hz2 => ?_)
  refine va_sld F.1 F.2.1 hX0 hbl hbA h.dd.2.2 (tw_in (by omega) (by omega)) dL_law_1632 ?_
  refine lv_topi (fun z3 qz3 => ?_)
  refine lv_aload_n F.1 F.2.1 dL_law_1633 rfl (lv_at hl 3 rfl) ?_
  refine lv_iload_n F.1 F.2.1 dL_law_1634 rfl (lv_at hl 0 rfl) ?_
  refine tw_iconst F dL_law_1635 ki_2 (fun z4 hz4 => ?_)
  refine tu_iadd F dL_law_1636 (by omega) (fun z5 hz5 => ?_)
  refine va_sld F.1 F.2.1 hX0 hbl hbA h.dd.2.2 (tw_in (by omega) (by omega)) dL_law_1637 ?_
  refine lv_topi (fun z6 qz6 => ?_)
  refine tw_if_eq (tgt := 1645) F dL_law_1638 (by decide) (fun b7 => ?_) (fun b7 => ?_)
  · refine tw_iconst F dL_law_1645 ki_0 (fun z8 hz8 => ?_)
    refine tw_Vi (As := [.int z3, .int z8]) F hZ h yk_X11_leave mw_1532 mw_1533 mw_1534 (s_X11_leave l D cy L R O f0 q m_q r_q z3 z8 ⟨by omega, by omega⟩) rfl rfl m_q r_q (fun e q => (T_11 e).mp q) rfl hl.1 rfl (Nat.le_of_ble_eq_true rfl) ⟨Nat.le_of_ble_eq_true rfl, Nat.le_of_ble_eq_true rfl⟩ ⟨hcs, hsl⟩ dL_law_1646 (fun v10 f9 H locs hp9 h => ?_)
    obtain ⟨hf9, hv10a, hv10b⟩ := hp9
    have em11 : fi f9 q 11 = fi f0 q 11 := hf9.efi m_q r_q (by decide +kernel)
    have em12 : fi f9 rr 64 = fi f0 rr 64 := hf9.efi m_rr r_rr (by decide +kernel)
    have ek13 := BKc hBM hf9 m_q r_q (by decide +kernel) (by decide +kernel) (by decide +kernel) (by decide +kernel)
    have ek13b := ek13.1
    have ek13x := ek13.2 0 (by omega)
    have ek13y := ek13.2 1 (by omega)
    have ek13z := ek13.2 2 (by omega)
    have ej14 := hf9.eelj m_GA r_GA (by decide +kernel) 5159
    have ej15 := hf9.eelj m_GA r_GA (by decide +kernel) 10349
    have ej16 := hf9.eelj m_GA r_GA (by decide +kernel) 15539
    have ej17 := hf9.eelj m_GA r_GA (by decide +kernel) 20729
    have hPBn : PB P f9 q := hPBn.fr hBM hf9 m_q r_q (by decide +kernel) (by decide +kernel) (by decide +kernel)
    have hBM := BM_of h m_q r_q
    have hI : INV L R O P f9 q := hI.most m_q r_q hf9 (by decide +kernel) (by decide +kernel) (by decide +kernel) (by decide +kernel) (by decide +kernel)
    have t_GA : fld f9 rr 0 = .ref GA := (hf9.efl m_rr r_rr (by decide +kernel)).trans t_GA
    have t_GP : fld f9 rr 22 = .ref GP := (hf9.efl m_rr r_rr (by decide +kernel)).trans t_GP
    have t_GL : fld f9 rr 23 = .ref GL := (hf9.efl m_rr r_rr (by decide +kernel)).trans t_GL
    have t_GT : fld f9 rr 6 = .ref GT := (hf9.efl m_rr r_rr (by decide +kernel)).trans t_GT
    have hR : RBA GA f9 := hR.fm hf9 m_GA r_GA (by decide +kernel)
    have hX : GZ GP GL f9 := hX.fm hf9 m_GP r_GP m_GL r_GL (by decide +kernel) (by decide +kernel)
    have hP : fld f9 (rfa f9 q 6) 16 = V := by rw [hf9.erf m_q r_q (by decide +kernel), hf9.efl hs6m hs6r (by decide +kernel)]; exact hP
    have hs6m : rfa f9 q 6 ∈ L := by rw [hf9.erf m_q r_q (by decide +kernel)]; exact hs6m
    have hs6r : R (rfa f9 q 6) = 7 := by rw [hf9.erf m_q r_q (by decide +kernel)]; exact hs6r
    refine lv_pop F.1 F.2.1 dL_law_1649 rfl ?_
    refine lv_aload_n F.1 F.2.1 dL_law_1650 rfl (lv_at hl 1 rfl) ?_
    refine lv_aload_n F.1 F.2.1 dL_law_1651 rfl (lv_at hl 3 rfl) ?_
    refine lv_iload_n F.1 F.2.1 dL_law_1652 rfl (lv_at hl 0 rfl) ?_
    refine tw_iconst F dL_law_1653 ki_1 (fun z18 hz18 => ?_)
    refine tu_iadd F dL_law_1654 (by omega) (fun z19 hz19 => ?_)
    refine va_sld F.1 F.2.1 hX0 hbl hbA h.dd.2.2 (tw_in (by omega) (by omega)) dL_law_1655 ?_
    refine lv_topi (fun z20 qz20 => ?_)
    obtain rfl : z3 = z20 := by rw [qz3, qz20, show z2 = z19 from Int32.toInt_inj.mp (by omega)]
    refine lv_aload_n F.1 F.2.1 dL_law_1656 rfl (lv_at hl 3 rfl) ?_
    refine lv_iload_n F.1 F.2.1 dL_law_1657 rfl (lv_at hl 0 rfl) ?_
    refine tw_iconst F dL_law_1658 ki_2 (fun z21 hz21 => ?_)
    refine tu_iadd F dL_law_1659 (by omega) (fun z22 hz22 => ?_)
    refine va_sld F.1 F.2.1 hX0 hbl hbA h.dd.2.2 (tw_in (by omega) (by omega)) dL_law_1660 ?_
    refine lv_topi (fun z23 qz23 => ?_)
    obtain rfl : z6 = z23 := by rw [qz6, qz23, show z5 = z22 from Int32.toInt_inj.mp (by omega)]
    refine tw_if_eq (tgt := 1668) F dL_law_1661 (by decide) (fun b24 => ?_) (fun b24 => ?_)
    · refine tw_iconst F dL_law_1668 ki_0 (fun z25 hz25 => ?_)
      refine tw_Vi (As := [.int z3, .int z25]) F hZ h yk_X12_leave mw_1537 mw_1538 mw_1539 (s_X12_leave l D cy L R O f9 rr m_rr r_rr z3 z25 ⟨by omega, by omega⟩) rfl rfl m_rr r_rr (fun e q => (T_12 e).mp q) rfl hl.1 rfl (Nat.le_of_ble_eq_true rfl) ⟨Nat.le_of_ble_eq_true rfl, Nat.le_of_ble_eq_true rfl⟩ ⟨hcs, hsl⟩ dL_law_1669 (fun v27 f26 H locs hp26 h => ?_)
      obtain ⟨hf26, hv27a, hv27b⟩ := hp26
      have em28 : fi f26 q 11 = fi f9 q 11 := hf26.efi m_q r_q (by decide +kernel)
      have em29 : fi f26 rr 64 = fi f9 rr 64 := hf26.efi m_rr r_rr (by decide +kernel)
      have ek30 := BKc hBM hf26 m_q r_q (by decide +kernel) (by decide +kernel) (by decide +kernel) (by decide +kernel)
      have ek30b := ek30.1
      have ek30x := ek30.2 0 (by omega)
      have ek30y := ek30.2 1 (by omega)
      have ek30z := ek30.2 2 (by omega)
      have ej31 := hf26.eelj m_GA r_GA (by decide +kernel) 5159
      have ej32 := hf26.eelj m_GA r_GA (by decide +kernel) 10349
      have ej33 := hf26.eelj m_GA r_GA (by decide +kernel) 15539
      have ej34 := hf26.eelj m_GA r_GA (by decide +kernel) 20729
      have hPBn : PB P f26 q := hPBn.fr hBM hf26 m_q r_q (by decide +kernel) (by decide +kernel) (by decide +kernel)
      have hBM := BM_of h m_q r_q
      have hI : INV L R O P f26 q := hI.most m_q r_q hf26 (by decide +kernel) (by decide +kernel) (by decide +kernel) (by decide +kernel) (by decide +kernel)
      have t_GA : fld f26 rr 0 = .ref GA := (hf26.efl m_rr r_rr (by decide +kernel)).trans t_GA
      have t_GP : fld f26 rr 22 = .ref GP := (hf26.efl m_rr r_rr (by decide +kernel)).trans t_GP
      have t_GL : fld f26 rr 23 = .ref GL := (hf26.efl m_rr r_rr (by decide +kernel)).trans t_GL
      have t_GT : fld f26 rr 6 = .ref GT := (hf26.efl m_rr r_rr (by decide +kernel)).trans t_GT
      have hR : RBA GA f26 := hR.fm hf26 m_GA r_GA (by decide +kernel)
      have hX : GZ GP GL f26 := hX.fm hf26 m_GP r_GP m_GL r_GL (by decide +kernel) (by decide +kernel)
      have hP : fld f26 (rfa f26 q 6) 16 = V := by rw [hf26.erf m_q r_q (by decide +kernel), hf26.efl hs6m hs6r (by decide +kernel)]; exact hP
      have hs6m : rfa f26 q 6 ∈ L := by rw [hf26.erf m_q r_q (by decide +kernel)]; exact hs6m
      have hs6r : R (rfa f26 q 6) = 7 := by rw [hf26.erf m_q r_q (by decide +kernel)]; exact hs6r
      refine lv_pop F.1 F.2.1 dL_law_1672 rfl ?_
      refine lv_goto (tgt := 1755) F.1 F.2.1 dL_law_1673 (by decide) ?_
      exact kk f26 _ _ _ ⟨h, hI, ⟨t_GA, t_GP, t_GL, t_GT⟩, hR, hX, hP, by omega, by omega, by omega, by omega, by omega, hPBn⟩ hl
    · refine tw_iconst F dL_law_1664 ki_1 (fun z35 hz35 => ?_)
      refine lv_goto (tgt := 1669) F.1 F.2.1 dL_law_1665 (by decide) ?_
      refine tw_Vi (As := [.int z3, .int z35]) F hZ h yk_X12_leave mw_1537 mw_1538 mw_1539 (s_X12_leave l D cy L R O f9 rr m_rr r_rr z3 z35 ⟨by omega, by omega⟩) rfl rfl m_rr r_rr (fun e q => (T_12 e).mp q) rfl hl.1 rfl (Nat.le_of_ble_eq_true rfl) ⟨Nat.le_of_ble_eq_true rfl, Nat.le_of_ble_eq_true rfl⟩ ⟨hcs, hsl⟩ dL_law_1669 (fun v37 f36 H locs hp36 h => ?_)
      obtain ⟨hf36, hv37a, hv37b⟩ := hp36
      have em38 : fi f36 q 11 = fi f9 q 11 := hf36.efi m_q r_q (by decide +kernel)
      have em39 : fi f36 rr 64 = fi f9 rr 64 := hf36.efi m_rr r_rr (by decide +kernel)
      have ek40 := BKc hBM hf36 m_q r_q (by decide +kernel) (by decide +kernel) (by decide +kernel) (by decide +kernel)
      have ek40b := ek40.1
      have ek40x := ek40.2 0 (by omega)
      have ek40y := ek40.2 1 (by omega)
      have ek40z := ek40.2 2 (by omega)
      have ej41 := hf36.eelj m_GA r_GA (by decide +kernel) 5159
      have ej42 := hf36.eelj m_GA r_GA (by decide +kernel) 10349
      have ej43 := hf36.eelj m_GA r_GA (by decide +kernel) 15539
      have ej44 := hf36.eelj m_GA r_GA (by decide +kernel) 20729
      have hPBn : PB P f36 q := hPBn.fr hBM hf36 m_q r_q (by decide +kernel) (by decide +kernel) (by decide +kernel)
      have hBM := BM_of h m_q r_q
      have hI : INV L R O P f36 q := hI.most m_q r_q hf36 (by decide +kernel) (by decide +kernel) (by decide +kernel) (by decide +kernel) (by decide +kernel)
      have t_GA : fld f36 rr 0 = .ref GA := (hf36.efl m_rr r_rr (by decide +kernel)).trans t_GA
      have t_GP : fld f36 rr 22 = .ref GP := (hf36.efl m_rr r_rr (by decide +kernel)).trans t_GP
      have t_GL : fld f36 rr 23 = .ref GL := (hf36.efl m_rr r_rr (by decide +kernel)).trans t_GL
      have t_GT : fld f36 rr 6 = .ref GT := (hf36.efl m_rr r_rr (by decide +kernel)).trans t_GT
      have hR : RBA GA f36 := hR.fm hf36 m_GA r_GA (by decide +kernel)
      have hX : GZ GP GL f36 := hX.fm hf36 m_GP r_GP m_GL r_GL (by decide +kernel) (by decide +kernel)
      have hP : fld f36 (rfa f36 q 6) 16 = V := by rw [hf36.erf m_q r_q (by decide +kernel), hf36.efl hs6m hs6r (by decide +kernel)]; exact hP
      have hs6m : rfa f36 q 6 ∈ L := by rw [hf36.erf m_q r_q (by decide +kernel)]; exact hs6m
      have hs6r : R (rfa f36 q 6) = 7 := by rw [hf36.erf m_q r_q (by decide +kernel)]; exact hs6r
      refine lv_pop F.1 F.2.1 dL_law_1672 rfl ?_
      refine lv_goto (tgt := 1755) F.1 F.2.1 dL_law_1673 (by decide) ?_
      exact kk f36 _ _ _ ⟨h, hI, ⟨t_GA, t_GP, t_GL, t_GT⟩, hR, hX, hP, by omega, by omega, by omega, by omega, by omega, hPBn⟩ hl
  · refine tw_iconst F dL_law_1641 ki_1 (fun z45 hz45 => ?_)
    refine lv_goto (tgt := 1646) F.1 F.2.1 dL_law_1642 (by decide) ?_
    refine tw_Vi (As := [.int z3, .int z45]) F hZ h yk_X11_leave mw_1532 mw_1533 mw_1534 (s_X11_leave l D cy L R O f0 q m_q r_q z3 z45 ⟨by omega, by omega⟩) rfl rfl m_q r_q (fun e q => (T_11 e).mp q) rfl hl.1 rfl (Nat.le_of_ble_eq_true rfl) ⟨Nat.le_of_ble_eq_true rfl, Nat.le_of_ble_eq_true rfl⟩ ⟨hcs, hsl⟩ dL_law_1646 (fun v47 f46 H locs hp46 h => ?_)
    obtain ⟨hf46, hv47a, hv47b⟩ := hp46
    have em48 : fi f46 q 11 = fi f0 q 11 := hf46.efi m_q r_q (by decide +kernel)
    have em49 : fi f46 rr 64 = fi f0 rr 64 := hf46.efi m_rr r_rr (by decide +kernel)
    have ek50 := BKc hBM hf46 m_q r_q (by decide +kernel) (by decide +kernel) (by decide +kernel) (by decide +kernel)
    have ek50b := ek50.1
    have ek50x := ek50.2 0 (by omega)
    have ek50y := ek50.2 1 (by omega)
    have ek50z := ek50.2 2 (by omega)
    have ej51 := hf46.eelj m_GA r_GA (by decide +kernel) 5159
    have ej52 := hf46.eelj m_GA r_GA (by decide +kernel) 10349
    have ej53 := hf46.eelj m_GA r_GA (by decide +kernel) 15539
    have ej54 := hf46.eelj m_GA r_GA (by decide +kernel) 20729
    have hPBn : PB P f46 q := hPBn.fr hBM hf46 m_q r_q (by decide +kernel) (by decide +kernel) (by decide +kernel)
    have hBM := BM_of h m_q r_q
    have hI : INV L R O P f46 q := hI.most m_q r_q hf46 (by decide +kernel) (by decide +kernel) (by decide +kernel) (by decide +kernel) (by decide +kernel)
    have t_GA : fld f46 rr 0 = .ref GA := (hf46.efl m_rr r_rr (by decide +kernel)).trans t_GA
    have t_GP : fld f46 rr 22 = .ref GP := (hf46.efl m_rr r_rr (by decide +kernel)).trans t_GP
    have t_GL : fld f46 rr 23 = .ref GL := (hf46.efl m_rr r_rr (by decide +kernel)).trans t_GL
    have t_GT : fld f46 rr 6 = .ref GT := (hf46.efl m_rr r_rr (by decide +kernel)).trans t_GT
    have hR : RBA GA f46 := hR.fm hf46 m_GA r_GA (by decide +kernel)
    have hX : GZ GP GL f46 := hX.fm hf46 m_GP r_GP m_GL r_GL (by decide +kernel) (by decide +kernel)
    have hP : fld f46 (rfa f46 q 6) 16 = V := by rw [hf46.erf m_q r_q (by decide +kernel), hf46.efl hs6m hs6r (by decide +kernel)]; exact hP
    have hs6m : rfa f46 q 6 ∈ L := by rw [hf46.erf m_q r_q (by decide +kernel)]; exact hs6m
    have hs6r : R (rfa f46 q 6) = 7 := by rw [hf46.erf m_q r_q (by decide +kernel)]; exact hs6r
    refine lv_pop F.1 F.2.1 dL_law_1649 rfl ?_
    refine lv_aload_n F.1 F.2.1 dL_law_1650 rfl (lv_at hl 1 rfl) ?_
    refine lv_aload_n F.1 F.2.1 dL_law_1651 rfl (lv_at hl 3 rfl) ?_
    refine lv_iload_n F.1 F.2.1 dL_law_1652 rfl (lv_at hl 0 rfl) ?_
    refine tw_iconst F dL_law_1653 ki_1 (fun z55 hz55 => ?_)
    refine tu_iadd F dL_law_1654 (by omega) (fun z56 hz56 => ?_)
    refine va_sld F.1 F.2.1 hX0 hbl hbA h.dd.2.2 (tw_in (by omega) (by omega)) dL_law_1655 ?_
    refine lv_topi (fun z57 qz57 => ?_)
    obtain rfl : z3 = z57 := by rw [qz3, qz57, show z2 = z56 from Int32.toInt_inj.mp (by omega)]
    refine lv_aload_n F.1 F.2.1 dL_law_1656 rfl (lv_at hl 3 rfl) ?_
    refine lv_iload_n F.1 F.2.1 dL_law_1657 rfl (lv_at hl 0 rfl) ?_
    refine tw_iconst F dL_law_1658 ki_2 (fun z58 hz58 => ?_)
    refine tu_iadd F dL_law_1659 (by omega) (fun z59 hz59 => ?_)
    refine va_sld F.1 F.2.1 hX0 hbl hbA h.dd.2.2 (tw_in (by omega) (by omega)) dL_law_1660 ?_
    refine lv_topi (fun z60 qz60 => ?_)
    obtain rfl : z6 = z60 := by rw [qz6, qz60, show z5 = z59 from Int32.toInt_inj.mp (by omega)]
    refine tw_if_eq (tgt := 1668) F dL_law_1661 (by decide) (fun b61 => ?_) (fun b61 => ?_)
    · refine tw_iconst F dL_law_1668 ki_0 (fun z62 hz62 => ?_)
      refine tw_Vi (As := [.int z3, .int z62]) F hZ h yk_X12_leave mw_1537 mw_1538 mw_1539 (s_X12_leave l D cy L R O f46 rr m_rr r_rr z3 z62 ⟨by omega, by omega⟩) rfl rfl m_rr r_rr (fun e q => (T_12 e).mp q) rfl hl.1 rfl (Nat.le_of_ble_eq_true rfl) ⟨Nat.le_of_ble_eq_true rfl, Nat.le_of_ble_eq_true rfl⟩ ⟨hcs, hsl⟩ dL_law_1669 (fun v64 f63 H locs hp63 h => ?_)
      obtain ⟨hf63, hv64a, hv64b⟩ := hp63
      have em65 : fi f63 q 11 = fi f46 q 11 := hf63.efi m_q r_q (by decide +kernel)
      have em66 : fi f63 rr 64 = fi f46 rr 64 := hf63.efi m_rr r_rr (by decide +kernel)
      have ek67 := BKc hBM hf63 m_q r_q (by decide +kernel) (by decide +kernel) (by decide +kernel) (by decide +kernel)
      have ek67b := ek67.1
      have ek67x := ek67.2 0 (by omega)
      have ek67y := ek67.2 1 (by omega)
      have ek67z := ek67.2 2 (by omega)
      have ej68 := hf63.eelj m_GA r_GA (by decide +kernel) 5159
      have ej69 := hf63.eelj m_GA r_GA (by decide +kernel) 10349
      have ej70 := hf63.eelj m_GA r_GA (by decide +kernel) 15539
      have ej71 := hf63.eelj m_GA r_GA (by decide +kernel) 20729
      have hPBn : PB P f63 q := hPBn.fr hBM hf63 m_q r_q (by decide +kernel) (by decide +kernel) (by decide +kernel)
      have hBM := BM_of h m_q r_q
      have hI : INV L R O P f63 q := hI.most m_q r_q hf63 (by decide +kernel) (by decide +kernel) (by decide +kernel) (by decide +kernel) (by decide +kernel)
      have t_GA : fld f63 rr 0 = .ref GA := (hf63.efl m_rr r_rr (by decide +kernel)).trans t_GA
      have t_GP : fld f63 rr 22 = .ref GP := (hf63.efl m_rr r_rr (by decide +kernel)).trans t_GP
      have t_GL : fld f63 rr 23 = .ref GL := (hf63.efl m_rr r_rr (by decide +kernel)).trans t_GL
      have t_GT : fld f63 rr 6 = .ref GT := (hf63.efl m_rr r_rr (by decide +kernel)).trans t_GT
      have hR : RBA GA f63 := hR.fm hf63 m_GA r_GA (by decide +kernel)
      have hX : GZ GP GL f63 := hX.fm hf63 m_GP r_GP m_GL r_GL (by decide +kernel) (by decide +kernel)
      have hP : fld f63 (rfa f63 q 6) 16 = V := by rw [hf63.erf m_q r_q (by decide +kernel), hf63.efl hs6m hs6r (by decide +kernel)]; exact hP
      have hs6m : rfa f63 q 6 ∈ L := by rw [hf63.erf m_q r_q (by decide +kernel)]; exact hs6m
      have hs6r : R (rfa f63 q 6) = 7 := by rw [hf63.erf m_q r_q (by decide +kernel)]; exact hs6r
      refine lv_pop F.1 F.2.1 dL_law_1672 rfl ?_
      refine lv_goto (tgt := 1755) F.1 F.2.1 dL_law_1673 (by decide) ?_
      exact kk f63 _ _ _ ⟨h, hI, ⟨t_GA, t_GP, t_GL, t_GT⟩, hR, hX, hP, by omega, by omega, by omega, by omega, by omega, hPBn⟩ hl
    · refine tw_iconst F dL_law_1664 ki_1 (fun z72 hz72 => ?_)
      refine lv_goto (tgt := 1669) F.1 F.2.1 dL_law_1665 (by decide) ?_
      refine tw_Vi (As := [.int z3, .int z72]) F hZ h yk_X12_leave mw_1537 mw_1538 mw_1539 (s_X12_leave l D cy L R O f46 rr m_rr r_rr z3 z72 ⟨by omega, by omega⟩) rfl rfl m_rr r_rr (fun e q => (T_12 e).mp q) rfl hl.1 rfl (Nat.le_of_ble_eq_true rfl) ⟨Nat.le_of_ble_eq_true rfl, Nat.le_of_ble_eq_true rfl⟩ ⟨hcs, hsl⟩ dL_law_1669 (fun v74 f73 H locs hp73 h => ?_)
      obtain ⟨hf73, hv74a, hv74b⟩ := hp73
      have em75 : fi f73 q 11 = fi f46 q 11 := hf73.efi m_q r_q (by decide +kernel)
      have em76 : fi f73 rr 64 = fi f46 rr 64 := hf73.efi m_rr r_rr (by decide +kernel)
      have ek77 := BKc hBM hf73 m_q r_q (by decide +kernel) (by decide +kernel) (by decide +kernel) (by decide +kernel)
      have ek77b := ek77.1
      have ek77x := ek77.2 0 (by omega)
      have ek77y := ek77.2 1 (by omega)
      have ek77z := ek77.2 2 (by omega)
      have ej78 := hf73.eelj m_GA r_GA (by decide +kernel) 5159
      have ej79 := hf73.eelj m_GA r_GA (by decide +kernel) 10349
      have ej80 := hf73.eelj m_GA r_GA (by decide +kernel) 15539
      have ej81 := hf73.eelj m_GA r_GA (by decide +kernel) 20729
      have hPBn : PB P f73 q := hPBn.fr hBM hf73 m_q r_q (by decide +kernel) (by decide +kernel) (by decide +kernel)
      have hBM := BM_of h m_q r_q
      have hI : INV L R O P f73 q := hI.most m_q r_q hf73 (by decide +kernel) (by decide +kernel) (by decide +kernel) (by decide +kernel) (by decide +kernel)
      have t_GA : fld f73 rr 0 = .ref GA := (hf73.efl m_rr r_rr (by decide +kernel)).trans t_GA
      have t_GP : fld f73 rr 22 = .ref GP := (hf73.efl m_rr r_rr (by decide +kernel)).trans t_GP
      have t_GL : fld f73 rr 23 = .ref GL := (hf73.efl m_rr r_rr (by decide +kernel)).trans t_GL
      have t_GT : fld f73 rr 6 = .ref GT := (hf73.efl m_rr r_rr (by decide +kernel)).trans t_GT
      have hR : RBA GA f73 := hR.fm hf73 m_GA r_GA (by decide +kernel)
      have hX : GZ GP GL f73 := hX.fm hf73 m_GP r_GP m_GL r_GL (by decide +kernel) (by decide +kernel)
      have hP : fld f73 (rfa f73 q 6) 16 = V := by rw [hf73.erf m_q r_q (by decide +kernel), hf73.efl hs6m hs6r (by decide +kernel)]; exact hP
      have hs6m : rfa f73 q 6 ∈ L := by rw [hf73.erf m_q r_q (by decide +kernel)]; exact hs6m
      have hs6r : R (rfa f73 q 6) = 7 := by rw [hf73.erf m_q r_q (by decide +kernel)]; exact hs6r
      refine lv_pop F.1 F.2.1 dL_law_1672 rfl ?_
      refine lv_goto (tgt := 1755) F.1 F.2.1 dL_law_1673 (by decide) ?_
      exact kk f73 _ _ _ ⟨h, hI, ⟨t_GA, t_GP, t_GL, t_GT⟩, hR, hX, hP, by omega, by omega, by omega, by omega, by omega, hPBn⟩ hl
theorem dL_law_1676 : decode cL_law 1676 = .ok (.aload_n 1, 1) := by decide +kernel
theorem dL_law_1677 : decode cL_law 1677 = .ok (.aload_n 0, 1) := by decide +kernel
theorem dL_law_1678 : decode cL_law 1678 = .ok (.iload_n 3, 1) := by decide +kernel
theorem dL_law_1679 : decode cL_law 1679 = .ok (.iconst 1, 1) := by decide +kernel
theorem dL_law_1680 : decode cL_law 1680 = .ok (.iadd, 1) := by decide +kernel
theorem dL_law_1681 : decode cL_law 1681 = .ok (.iaload, 1) := by decide +kernel
theorem dL_law_1682 : decode cL_law 1682 = .ok (.i2l, 1) := by decide +kernel
theorem dL_law_1683 : decode cL_law 1683 = .ok (.bipush 32, 2) := by decide +kernel
theorem dL_law_1685 : decode cL_law 1685 = .ok (.lshl, 1) := by decide +kernel
theorem dL_law_1686 : decode cL_law 1686 = .ok (.aload_n 0, 1) := by decide +kernel
theorem dL_law_1687 : decode cL_law 1687 = .ok (.iload_n 3, 1) := by decide +kernel
theorem dL_law_1688 : decode cL_law 1688 = .ok (.iconst 2, 1) := by decide +kernel
theorem dL_law_1689 : decode cL_law 1689 = .ok (.iadd, 1) := by decide +kernel
theorem dL_law_1690 : decode cL_law 1690 = .ok (.iaload, 1) := by decide +kernel
theorem dL_law_1691 : decode cL_law 1691 = .ok (.i2l, 1) := by decide +kernel
theorem dL_law_1692 : decode cL_law 1692 = .ok (.ldc2_w 32, 3) := by decide +kernel
theorem dL_law_1695 : decode cL_law 1695 = .ok (.land, 1) := by decide +kernel
theorem dL_law_1696 : decode cL_law 1696 = .ok (.lor, 1) := by decide +kernel
theorem dL_law_1697 : decode cL_law 1697 = .ok (.invokevirtual 192, 3) := by decide +kernel
theorem mw_1541 : Cond.methodLink RL 192 yX11_heard ∈ wsL_law := inr_65 _ (List.mem_of_getElem? (i := 5) rfl)
theorem mw_1544 : Cond.code yX11_heard cX11_heard 3 (some .int) ∈ wsL_law := inr_65 _ (List.mem_of_getElem? (i := 8) rfl)
theorem yk_X11_heard : xY yX11_heard RX11 cX11_heard 3 (some .int) 1 := ⟨⟨rfl, by decide +kernel, by decide +kernel, by decide +kernel⟩, mw_2, mw_1544⟩
theorem mw_1542 : Cond.instanceMethod yX11_heard ∈ wsL_law := inr_65 _ (List.mem_of_getElem? (i := 6) rfl)
theorem mw_1543 : Cond.selects RX11 yX11_heard yX11_heard ∈ wsL_law := inr_65 _ (List.mem_of_getElem? (i := 7) rfl)
theorem dL_law_1700 : decode cL_law 1700 = .ok (.pop, 1) := by decide +kernel
theorem dL_law_1701 : decode cL_law 1701 = .ok (.aload_n 2, 1) := by decide +kernel
theorem dL_law_1702 : decode cL_law 1702 = .ok (.aload_n 0, 1) := by decide +kernel
theorem dL_law_1703 : decode cL_law 1703 = .ok (.iload_n 3, 1) := by decide +kernel
theorem dL_law_1704 : decode cL_law 1704 = .ok (.iconst 1, 1) := by decide +kernel
theorem dL_law_1705 : decode cL_law 1705 = .ok (.iadd, 1) := by decide +kernel
theorem dL_law_1706 : decode cL_law 1706 = .ok (.iaload, 1) := by decide +kernel
theorem dL_law_1707 : decode cL_law 1707 = .ok (.i2l, 1) := by decide +kernel
theorem dL_law_1708 : decode cL_law 1708 = .ok (.bipush 32, 2) := by decide +kernel
theorem dL_law_1710 : decode cL_law 1710 = .ok (.lshl, 1) := by decide +kernel
theorem dL_law_1711 : decode cL_law 1711 = .ok (.aload_n 0, 1) := by decide +kernel
theorem dL_law_1712 : decode cL_law 1712 = .ok (.iload_n 3, 1) := by decide +kernel
theorem dL_law_1713 : decode cL_law 1713 = .ok (.iconst 2, 1) := by decide +kernel
theorem dL_law_1714 : decode cL_law 1714 = .ok (.iadd, 1) := by decide +kernel
theorem dL_law_1715 : decode cL_law 1715 = .ok (.iaload, 1) := by decide +kernel
theorem dL_law_1716 : decode cL_law 1716 = .ok (.i2l, 1) := by decide +kernel
theorem dL_law_1717 : decode cL_law 1717 = .ok (.ldc2_w 32, 3) := by decide +kernel
theorem dL_law_1720 : decode cL_law 1720 = .ok (.land, 1) := by decide +kernel
theorem dL_law_1721 : decode cL_law 1721 = .ok (.lor, 1) := by decide +kernel
theorem dL_law_1722 : decode cL_law 1722 = .ok (.invokevirtual 196, 3) := by decide +kernel
theorem mw_1553 : Cond.methodLink RL 196 yX12_heard ∈ wsL_law := inr_65 _ (List.mem_of_getElem? (i := 17) rfl)
theorem mw_1556 : Cond.code yX12_heard cX12_heard 7 (some .int) ∈ wsL_law := inr_65 _ (List.mem_of_getElem? (i := 20) rfl)
theorem yk_X12_heard : xY yX12_heard RX12 cX12_heard 7 (some .int) 1 := ⟨⟨rfl, by decide +kernel, by decide +kernel, by decide +kernel⟩, mw_5, mw_1556⟩
theorem mw_1554 : Cond.instanceMethod yX12_heard ∈ wsL_law := inr_65 _ (List.mem_of_getElem? (i := 18) rfl)
theorem mw_1555 : Cond.selects RX12 yX12_heard yX12_heard ∈ wsL_law := inr_65 _ (List.mem_of_getElem? (i := 19) rfl)
theorem dL_law_1725 : decode cL_law 1725 = .ok (.pop, 1) := by decide +kernel
theorem dL_law_1726 : decode cL_law 1726 = .ok (.goto 29, 3) := by decide +kernel
set_option maxHeartbeats 4000000 in
set_option maxRecDepth 100000 in
theorem law_c40 {p : Program} {l : Launch} {e : Env} {s : State} {m : MethodId} {below : List Frame} {meth : Method} {c : Code} {H : Heap} {locs : List Loc} {Q : State → Prop} {D : va_G} {cy : Nat → ClassId} {A : Nat → Prop} {L : List Nat} {R O P : Nat → Nat} {f0 : Nat → va_E} {ls : Array Slot} {b N cs sl q rr GA GP GL GT : Nat} {xs : Nat → Int32} {V : Value} (F : CallFix p m c cL_law 4 s #[Value.ref b] wsL_law RL) (hZ : tZ A s s.heap) (hX0 : va_X b N xs s s.heap) (hbl : b < s.heap.size) (hbA : ¬ A b) (hcs : cs ≤ room_1.cells) (hsl : sl ≤ room_1.slots) (i : Int32) (bi : 0 ≤ i.toInt ∧ i.toInt + 6 ≤ N ∧ N ≤ 3072) (m_q : q ∈ L) (r_q : R q = 11) (m_rr : rr ∈ L) (r_rr : R rr = 12) (m_GA : GA ∈ L) (r_GA : R GA = 61) (m_GP : GP ∈ L) (r_GP : R GP = 69) (m_GL : GL ∈ L) (r_GL : R GL = 70) (m_GT : GT ∈ L) (r_GT : R GT = 64) (hLS : LWS D cy A s L R O P q rr GA GP GL GT V f0 H locs) (hl : lv_has ls 4 [(3, .int i), (2, .ref rr), (1, .ref q), (0, .ref b)]) (kk : ∀ (f1 : Nat → va_E) (H : Heap) (locs : List Loc) (ls : Array Slot), LWS D cy A s L R O P q rr GA GP GL GT V f1 H locs → lv_has ls 4 [(3, .int i), (2, .ref rr), (1, .ref q), (0, .ref b)] → W p l e room_1 s m #[Value.ref b] below meth c H locs cs sl Q (F0 m 1755 ls [])) : W p l e room_1 s m #[Value.ref b] below meth c H locs cs sl Q (F0 m 1676 ls []) := by
  obtain ⟨h, hI, ⟨t_GA, t_GP, t_GL, t_GT⟩, hR, hX, hP, hMK, hCB, hC0, hC1, hC2, hPB⟩ := hLS
  have hs6m := hI.2.2.1.1
  have hs6r := hI.2.2.1.2
  have hBM := BM_of h m_q r_q
  have hPBn := hPB
  refine lv_aload_n F.1 F.2.1 dL_law_1676 rfl (lv_at hl 2 rfl) ?_
  refine lv_aload_n F.1 F.2.1 dL_law_1677 rfl (lv_at hl 3 rfl) ?_
  refine lv_iload_n F.1 F.2.1 dL_law_1678 rfl (lv_at hl 0 rfl) ?_
  refine tw_iconst F dL_law_1679 ki_1 (fun z1 hz1 => ?_)
  refine tu_iadd F dL_law_1680 (by omega) (fun z2 hz2 => ?_)
  refine va_sld F.1 F.2.1 hX0 hbl hbA h.dd.2.2 (tw_in (by omega) (by omega)) dL_law_1681 ?_
  refine lv_topi (fun z3 qz3 => ?_)
  refine lv_i2l F.1 F.2.1 dL_law_1682 rfl ?_
  refine lv_topl (fun z4 qz4 => ?_)
  refine tw_bipush F dL_law_1683 kb_32 (fun z5 hz5 => ?_)
  refine lv_lshl F.1 F.2.1 dL_law_1685 rfl ?_
  refine lv_topl (fun z6 qz6 => ?_)
  refine lv_aload_n F.1 F.2.1 dL_law_1686 rfl (lv_at hl 3 rfl) ?_
  refine lv_iload_n F.1 F.2.1 dL_law_1687 rfl (lv_at hl 0 rfl) ?_
  refine tw_iconst F dL_law_1688 ki_2 (fun z7 hz7 => ?_)
  refine tu_iadd F dL_law_1689 (by omega) (fun z8 hz8 => ?_)
  refine va_sld F.1 F.2.1 hX0 hbl hbA h.dd.2.2 (tw_in (by omega) (by omega)) dL_law_1690 ?_
  refine lv_topi (fun z9 qz9 => ?_)
  refine lv_i2l F.1 F.2.1 dL_law_1691 rfl ?_
  refine lv_topl (fun z10 qz10 => ?_)
  refine lv_ldc2 F.1 F.2.1 F.2.2.2.1 (F.2.2.2.2 _ mw_6) dL_law_1692 ?_
  refine lv_topl (fun z11 qz11 => ?_)
  refine lv_land F.1 F.2.1 dL_law_1695 ?_
  refine lv_topl (fun z12 qz12 => ?_)
  refine lv_lor F.1 F.2.1 dL_law_1696 ?_
  refine lv_topl (fun z13 qz13 => ?_)
  refine tw_Vi (As := [.long z13]) F hZ h yk_X11_heard mw_1541 mw_1542 mw_1543 (s_X11_heard l D cy L R O f0 q m_q r_q z13) rfl rfl m_q r_q (fun e q => (T_11 e).mp q) rfl hl.1 rfl (Nat.le_of_ble_eq_true rfl) ⟨Nat.le_of_ble_eq_true rfl, Nat.le_of_ble_eq_true rfl⟩ ⟨hcs, hsl⟩ dL_law_1697 (fun v15 f14 H locs hp14 h => ?_)
  have hf14 := hp14
  have em16 : fi f14 q 11 = fi f0 q 11 := hf14.efi m_q r_q (by decide +kernel)
  have em17 : fi f14 rr 64 = fi f0 rr 64 := hf14.efi m_rr r_rr (by decide +kernel)
  have ek18 := BKc hBM hf14 m_q r_q (by decide +kernel) (by decide +kernel) (by decide +kernel) (by decide +kernel)
  have ek18b := ek18.1
  have ek18x := ek18.2 0 (by omega)
  have ek18y := ek18.2 1 (by omega)
  have ek18z := ek18.2 2 (by omega)
  have ej19 := hf14.eelj m_GA r_GA (by decide +kernel) 5159
  have ej20 := hf14.eelj m_GA r_GA (by decide +kernel) 10349
  have ej21 := hf14.eelj m_GA r_GA (by decide +kernel) 15539
  have ej22 := hf14.eelj m_GA r_GA (by decide +kernel) 20729
  have hPBn : PB P f14 q := hPBn.fr hBM hf14 m_q r_q (by decide +kernel) (by decide +kernel) (by decide +kernel)
  have hBM := BM_of h m_q r_q
  have hI : INV L R O P f14 q := hI.most m_q r_q hf14 (by decide +kernel) (by decide +kernel) (by decide +kernel) (by decide +kernel) (by decide +kernel)
  have t_GA : fld f14 rr 0 = .ref GA := (hf14.efl m_rr r_rr (by decide +kernel)).trans t_GA
  have t_GP : fld f14 rr 22 = .ref GP := (hf14.efl m_rr r_rr (by decide +kernel)).trans t_GP
  have t_GL : fld f14 rr 23 = .ref GL := (hf14.efl m_rr r_rr (by decide +kernel)).trans t_GL
  have t_GT : fld f14 rr 6 = .ref GT := (hf14.efl m_rr r_rr (by decide +kernel)).trans t_GT
  have hR : RBA GA f14 := hR.fm hf14 m_GA r_GA (by decide +kernel)
  have hX : GZ GP GL f14 := hX.fm hf14 m_GP r_GP m_GL r_GL (by decide +kernel) (by decide +kernel)
  have hP : fld f14 (rfa f14 q 6) 16 = V := by rw [hf14.erf m_q r_q (by decide +kernel), hf14.efl hs6m hs6r (by decide +kernel)]; exact hP
  have hs6m : rfa f14 q 6 ∈ L := by rw [hf14.erf m_q r_q (by decide +kernel)]; exact hs6m
  have hs6r : R (rfa f14 q 6) = 7 := by rw [hf14.erf m_q r_q (by decide +kernel)]; exact hs6r
  refine lv_pop F.1 F.2.1 dL_law_1700 rfl ?_
  refine lv_aload_n F.1 F.2.1 dL_law_1701 rfl (lv_at hl 1 rfl) ?_
  refine lv_aload_n F.1 F.2.1 dL_law_1702 rfl (lv_at hl 3 rfl) ?_
  refine lv_iload_n F.1 F.2.1 dL_law_1703 rfl (lv_at hl 0 rfl) ?_
  refine tw_iconst F dL_law_1704 ki_1 (fun z23 hz23 => ?_)
  refine tu_iadd F dL_law_1705 (by omega) (fun z24 hz24 => ?_)
  refine va_sld F.1 F.2.1 hX0 hbl hbA h.dd.2.2 (tw_in (by omega) (by omega)) dL_law_1706 ?_
  refine lv_topi (fun z25 qz25 => ?_)
  obtain rfl : z3 = z25 := by rw [qz3, qz25, show z2 = z24 from Int32.toInt_inj.mp (by omega)]
  refine lv_i2l F.1 F.2.1 dL_law_1707 rfl ?_
  refine lv_topl (fun z26 qz26 => ?_)
  obtain rfl : z4 = z26 := by rw [qz4, qz26]
  refine tw_bipush F dL_law_1708 kb_32 (fun z27 hz27 => ?_)
  obtain rfl : z5 = z27 := Int32.toInt_inj.mp (by omega)
  refine lv_lshl F.1 F.2.1 dL_law_1710 rfl ?_
  refine lv_topl (fun z28 qz28 => ?_)
  obtain rfl : z6 = z28 := by rw [qz6, qz28]
  refine lv_aload_n F.1 F.2.1 dL_law_1711 rfl (lv_at hl 3 rfl) ?_
  refine lv_iload_n F.1 F.2.1 dL_law_1712 rfl (lv_at hl 0 rfl) ?_
  refine tw_iconst F dL_law_1713 ki_2 (fun z29 hz29 => ?_)
  refine tu_iadd F dL_law_1714 (by omega) (fun z30 hz30 => ?_)
  refine va_sld F.1 F.2.1 hX0 hbl hbA h.dd.2.2 (tw_in (by omega) (by omega)) dL_law_1715 ?_
  refine lv_topi (fun z31 qz31 => ?_)
  obtain rfl : z9 = z31 := by rw [qz9, qz31, show z8 = z30 from Int32.toInt_inj.mp (by omega)]
  refine lv_i2l F.1 F.2.1 dL_law_1716 rfl ?_
  refine lv_topl (fun z32 qz32 => ?_)
  obtain rfl : z10 = z32 := by rw [qz10, qz32]
  refine lv_ldc2 F.1 F.2.1 F.2.2.2.1 (F.2.2.2.2 _ mw_6) dL_law_1717 ?_
  refine lv_topl (fun z33 qz33 => ?_)
  obtain rfl : z11 = z33 := by rw [qz11, qz33]
  refine lv_land F.1 F.2.1 dL_law_1720 ?_
  refine lv_topl (fun z34 qz34 => ?_)
  obtain rfl : z12 = z34 := by rw [qz12, qz34]
  refine lv_lor F.1 F.2.1 dL_law_1721 ?_
  refine lv_topl (fun z35 qz35 => ?_)
  obtain rfl : z13 = z35 := by rw [qz13, qz35]
  refine tw_Vi (As := [.long z13]) F hZ h yk_X12_heard mw_1553 mw_1554 mw_1555 (s_X12_heard l D cy L R O f14 rr m_rr r_rr z13) rfl rfl m_rr r_rr (fun e q => (T_12 e).mp q) rfl hl.1 rfl (Nat.le_of_ble_eq_true rfl) ⟨Nat.le_of_ble_eq_true rfl, Nat.le_of_ble_eq_true rfl⟩ ⟨hcs, hsl⟩ dL_law_1722 (fun v37 f36 H locs hp36 h => ?_)
  have hf36 := hp36
  have em38 : fi f36 q 11 = fi f14 q 11 := hf36.efi m_q r_q (by decide +kernel)
  have em39 : fi f36 rr 64 = fi f14 rr 64 := hf36.efi m_rr r_rr (by decide +kernel)
  have ek40 := BKc hBM hf36 m_q r_q (by decide +kernel) (by decide +kernel) (by decide +kernel) (by decide +kernel)
  have ek40b := ek40.1
  have ek40x := ek40.2 0 (by omega)
  have ek40y := ek40.2 1 (by omega)
  have ek40z := ek40.2 2 (by omega)
  have ej41 := hf36.eelj m_GA r_GA (by decide +kernel) 5159
  have ej42 := hf36.eelj m_GA r_GA (by decide +kernel) 10349
  have ej43 := hf36.eelj m_GA r_GA (by decide +kernel) 15539
  have ej44 := hf36.eelj m_GA r_GA (by decide +kernel) 20729
  have hPBn : PB P f36 q := hPBn.fr hBM hf36 m_q r_q (by decide +kernel) (by decide +kernel) (by decide +kernel)
  have hBM := BM_of h m_q r_q
  have hI : INV L R O P f36 q := hI.most m_q r_q hf36 (by decide +kernel) (by decide +kernel) (by decide +kernel) (by decide +kernel) (by decide +kernel)
  have t_GA : fld f36 rr 0 = .ref GA := (hf36.efl m_rr r_rr (by decide +kernel)).trans t_GA
  have t_GP : fld f36 rr 22 = .ref GP := (hf36.efl m_rr r_rr (by decide +kernel)).trans t_GP
  have t_GL : fld f36 rr 23 = .ref GL := (hf36.efl m_rr r_rr (by decide +kernel)).trans t_GL
  have t_GT : fld f36 rr 6 = .ref GT := (hf36.efl m_rr r_rr (by decide +kernel)).trans t_GT
  have hR : RBA GA f36 := hR.fm hf36 m_GA r_GA (by decide +kernel)
  have hX : GZ GP GL f36 := hX.fm hf36 m_GP r_GP m_GL r_GL (by decide +kernel) (by decide +kernel)
  have hP : fld f36 (rfa f36 q 6) 16 = V := by rw [hf36.erf m_q r_q (by decide +kernel), hf36.efl hs6m hs6r (by decide +kernel)]; exact hP
  have hs6m : rfa f36 q 6 ∈ L := by rw [hf36.erf m_q r_q (by decide +kernel)]; exact hs6m
  have hs6r : R (rfa f36 q 6) = 7 := by rw [hf36.erf m_q r_q (by decide +kernel)]; exact hs6r
  refine lv_pop F.1 F.2.1 dL_law_1725 rfl ?_
  refine lv_goto (tgt := 1755) F.1 F.2.1 dL_law_1726 (by decide) ?_
  exact kk f36 _ _ _ ⟨h, hI, ⟨t_GA, t_GP, t_GL, t_GT⟩, hR, hX, hP, by omega, by omega, by omega, by omega, by omega, hPBn⟩ hl
theorem dL_law_1729 : decode cL_law 1729 = .ok (.aload_n 1, 1) := by decide +kernel
theorem dL_law_1730 : decode cL_law 1730 = .ok (.invokevirtual 197, 3) := by decide +kernel
theorem mw_1557 : Cond.methodLink RL 197 yX11_mark ∈ wsL_law := inr_65 _ (List.mem_of_getElem? (i := 21) rfl)
theorem mw_1560 : Cond.code yX11_mark cX11_mark 1 (some .int) ∈ wsL_law := inr_66 _ (List.mem_of_getElem? (i := 0) rfl)
theorem yk_X11_mark : xY yX11_mark RX11 cX11_mark 1 (some .int) 0 := ⟨⟨rfl, by decide +kernel, by decide +kernel, by decide +kernel⟩, mw_2, mw_1560⟩
theorem mw_1558 : Cond.instanceMethod yX11_mark ∈ wsL_law := inr_65 _ (List.mem_of_getElem? (i := 22) rfl)
theorem mw_1559 : Cond.selects RX11 yX11_mark yX11_mark ∈ wsL_law := inr_65 _ (List.mem_of_getElem? (i := 23) rfl)
theorem dL_law_1733 : decode cL_law 1733 = .ok (.pop, 1) := by decide +kernel
theorem dL_law_1734 : decode cL_law 1734 = .ok (.aload_n 2, 1) := by decide +kernel
theorem dL_law_1735 : decode cL_law 1735 = .ok (.invokevirtual 200, 3) := by decide +kernel
theorem mw_1572 : Cond.methodLink RL 200 yX12_mark ∈ wsL_law := inr_66 _ (List.mem_of_getElem? (i := 12) rfl)
theorem mw_1575 : Cond.code yX12_mark cX12_mark 1 (some .int) ∈ wsL_law := inr_66 _ (List.mem_of_getElem? (i := 15) rfl)
theorem yk_X12_mark : xY yX12_mark RX12 cX12_mark 1 (some .int) 0 := ⟨⟨rfl, by decide +kernel, by decide +kernel, by decide +kernel⟩, mw_5, mw_1575⟩
theorem mw_1573 : Cond.instanceMethod yX12_mark ∈ wsL_law := inr_66 _ (List.mem_of_getElem? (i := 13) rfl)
theorem mw_1574 : Cond.selects RX12 yX12_mark yX12_mark ∈ wsL_law := inr_66 _ (List.mem_of_getElem? (i := 14) rfl)
theorem dL_law_1738 : decode cL_law 1738 = .ok (.pop, 1) := by decide +kernel
theorem dL_law_1739 : decode cL_law 1739 = .ok (.goto 16, 3) := by decide +kernel
set_option maxHeartbeats 4000000 in
set_option maxRecDepth 100000 in
theorem law_c41 {p : Program} {l : Launch} {e : Env} {s : State} {m : MethodId} {below : List Frame} {meth : Method} {c : Code} {H : Heap} {locs : List Loc} {Q : State → Prop} {D : va_G} {cy : Nat → ClassId} {A : Nat → Prop} {L : List Nat} {R O P : Nat → Nat} {f0 : Nat → va_E} {ls : Array Slot} {b N cs sl q rr GA GP GL GT : Nat} {xs : Nat → Int32} {V : Value} (F : CallFix p m c cL_law 4 s #[Value.ref b] wsL_law RL) (hZ : tZ A s s.heap) (hX0 : va_X b N xs s s.heap) (hbl : b < s.heap.size) (hbA : ¬ A b) (hcs : cs ≤ room_1.cells) (hsl : sl ≤ room_1.slots) (i : Int32) (bi : 0 ≤ i.toInt ∧ i.toInt + 6 ≤ N ∧ N ≤ 3072) (m_q : q ∈ L) (r_q : R q = 11) (m_rr : rr ∈ L) (r_rr : R rr = 12) (m_GA : GA ∈ L) (r_GA : R GA = 61) (m_GP : GP ∈ L) (r_GP : R GP = 69) (m_GL : GL ∈ L) (r_GL : R GL = 70) (m_GT : GT ∈ L) (r_GT : R GT = 64) (hLS : LWS D cy A s L R O P q rr GA GP GL GT V f0 H locs) (hl : lv_has ls 4 [(3, .int i), (2, .ref rr), (1, .ref q), (0, .ref b)]) (kk : ∀ (f1 : Nat → va_E) (H : Heap) (locs : List Loc) (ls : Array Slot), LWS D cy A s L R O P q rr GA GP GL GT V f1 H locs → lv_has ls 4 [(3, .int i), (2, .ref rr), (1, .ref q), (0, .ref b)] → W p l e room_1 s m #[Value.ref b] below meth c H locs cs sl Q (F0 m 1755 ls [])) : W p l e room_1 s m #[Value.ref b] below meth c H locs cs sl Q (F0 m 1729 ls []) := by
  obtain ⟨h, hI, ⟨t_GA, t_GP, t_GL, t_GT⟩, hR, hX, hP, hMK, hCB, hC0, hC1, hC2, hPB⟩ := hLS
  have hs6m := hI.2.2.1.1
  have hs6r := hI.2.2.1.2
  have hBM := BM_of h m_q r_q
  have hPBn := hPB
  refine lv_aload_n F.1 F.2.1 dL_law_1729 rfl (lv_at hl 2 rfl) ?_
  refine tw_Vi (As := []) F hZ h yk_X11_mark mw_1557 mw_1558 mw_1559 (s_X11_markC l D cy L R O f0 hI.2.2.2.1 q m_q r_q P hI.2.2.2.2.1 hPBn) rfl rfl m_q r_q (fun e q => (T_11 e).mp q) rfl hl.1 rfl (Nat.le_of_ble_eq_true rfl) ⟨Nat.le_of_ble_eq_true rfl, Nat.le_of_ble_eq_true rfl⟩ ⟨hcs, hsl⟩ dL_law_1730 (fun v2 f1 H locs hp1 h => ?_)
  obtain ⟨hf1, hG, hv2p0, hv2p1, hv2p2⟩ := hp1
  have em3 : fi f1 rr 64 = fi f0 rr 64 := hf1.efi m_rr r_rr (by decide +kernel)
  have ej4 := hf1.eelj m_GA r_GA (by decide +kernel) 5159
  have ej5 := hf1.eelj m_GA r_GA (by decide +kernel) 10349
  have ej6 := hf1.eelj m_GA r_GA (by decide +kernel) 15539
  have ej7 := hf1.eelj m_GA r_GA (by decide +kernel) 20729
  have hPBn : PB P f1 q := hPBn.fr hBM hf1 m_q r_q (by decide +kernel) (by decide +kernel) (by decide +kernel)
  have hBM := BM_of h m_q r_q
  have hI : INV L R O P f1 q := hI.mk1 m_q r_q hf1 (by decide +kernel) hG hv2p0
  have t_GA : fld f1 rr 0 = .ref GA := (hf1.efl m_rr r_rr (by decide +kernel)).trans t_GA
  have t_GP : fld f1 rr 22 = .ref GP := (hf1.efl m_rr r_rr (by decide +kernel)).trans t_GP
  have t_GL : fld f1 rr 23 = .ref GL := (hf1.efl m_rr r_rr (by decide +kernel)).trans t_GL
  have t_GT : fld f1 rr 6 = .ref GT := (hf1.efl m_rr r_rr (by decide +kernel)).trans t_GT
  have hR : RBA GA f1 := hR.fm hf1 m_GA r_GA (by decide +kernel)
  have hX : GZ GP GL f1 := hX.fm hf1 m_GP r_GP m_GL r_GL (by decide +kernel) (by decide +kernel)
  have hP : fld f1 (rfa f1 q 6) 16 = V := by rw [hf1.erf m_q r_q (by decide +kernel), hf1.efl hs6m hs6r (by decide +kernel)]; exact hP
  have hs6m : rfa f1 q 6 ∈ L := by rw [hf1.erf m_q r_q (by decide +kernel)]; exact hs6m
  have hs6r : R (rfa f1 q 6) = 7 := by rw [hf1.erf m_q r_q (by decide +kernel)]; exact hs6r
  refine lv_pop F.1 F.2.1 dL_law_1733 rfl ?_
  refine lv_aload_n F.1 F.2.1 dL_law_1734 rfl (lv_at hl 1 rfl) ?_
  refine tw_Vi (As := []) F hZ h yk_X12_mark mw_1572 mw_1573 mw_1574 (s_X12_markC l D cy L R O f1 rr m_rr r_rr GA m_GA r_GA t_GA GP m_GP r_GP t_GP GL m_GL r_GL t_GL GT m_GT r_GT t_GT hR hX) rfl rfl m_rr r_rr (fun e q => (T_12 e).mp q) rfl hl.1 rfl (Nat.le_of_ble_eq_true rfl) ⟨Nat.le_of_ble_eq_true rfl, Nat.le_of_ble_eq_true rfl⟩ ⟨hcs, hsl⟩ dL_law_1735 (fun v9 f8 H locs hp8 h => ?_)
  obtain ⟨hf8, hv9p0, hv9p1, hv9p2, hv9p3⟩ := hp8
  have em10 : fi f8 q 11 = fi f1 q 11 := hf8.efi m_q r_q (by decide +kernel)
  have ek11 := BKc hBM hf8 m_q r_q (by decide +kernel) (by decide +kernel) (by decide +kernel) (by decide +kernel)
  have ek11b := ek11.1
  have ek11x := ek11.2 0 (by omega)
  have ek11y := ek11.2 1 (by omega)
  have ek11z := ek11.2 2 (by omega)
  have hPBn : PB P f8 q := hPBn.fr hBM hf8 m_q r_q (by decide +kernel) (by decide +kernel) (by decide +kernel)
  have hBM := BM_of h m_q r_q
  have hI : INV L R O P f8 q := hI.most m_q r_q hf8 (by decide +kernel) (by decide +kernel) (by decide +kernel) (by decide +kernel) (by decide +kernel)
  have t_GA : fld f8 rr 0 = .ref GA := (hf8.efl m_rr r_rr (by decide +kernel)).trans t_GA
  have t_GP : fld f8 rr 22 = .ref GP := (hf8.efl m_rr r_rr (by decide +kernel)).trans t_GP
  have t_GL : fld f8 rr 23 = .ref GL := (hf8.efl m_rr r_rr (by decide +kernel)).trans t_GL
  have t_GT : fld f8 rr 6 = .ref GT := (hf8.efl m_rr r_rr (by decide +kernel)).trans t_GT
  have hR : RBA GA f8 := hv9p0
  have hX : GZ GP GL f8 := hX.fm hf8 m_GP r_GP m_GL r_GL (by decide +kernel) (by decide +kernel)
  have hP : fld f8 (rfa f8 q 6) 16 = V := by rw [hf8.erf m_q r_q (by decide +kernel), hf8.efl hs6m hs6r (by decide +kernel)]; exact hP
  have hs6m : rfa f8 q 6 ∈ L := by rw [hf8.erf m_q r_q (by decide +kernel)]; exact hs6m
  have hs6r : R (rfa f8 q 6) = 7 := by rw [hf8.erf m_q r_q (by decide +kernel)]; exact hs6r
  refine lv_pop F.1 F.2.1 dL_law_1738 rfl ?_
  refine lv_goto (tgt := 1755) F.1 F.2.1 dL_law_1739 (by decide) ?_
  exact kk f8 _ _ _ ⟨h, hI, ⟨t_GA, t_GP, t_GL, t_GT⟩, hR, hX, hP, by omega, by omega, by omega, by omega, by omega, hPBn⟩ hl
theorem dL_law_1742 : decode cL_law 1742 = .ok (.aload_n 1, 1) := by decide +kernel
theorem dL_law_1743 : decode cL_law 1743 = .ok (.invokevirtual 201, 3) := by decide +kernel
theorem mw_1577 : Cond.methodLink RL 201 yX11_back ∈ wsL_law := inr_66 _ (List.mem_of_getElem? (i := 17) rfl)
theorem mw_1580 : Cond.code yX11_back cX11_back 1 (some .int) ∈ wsL_law := inr_66 _ (List.mem_of_getElem? (i := 20) rfl)
theorem yk_X11_back : xY yX11_back RX11 cX11_back 1 (some .int) 0 := ⟨⟨rfl, by decide +kernel, by decide +kernel, by decide +kernel⟩, mw_2, mw_1580⟩
theorem mw_1578 : Cond.instanceMethod yX11_back ∈ wsL_law := inr_66 _ (List.mem_of_getElem? (i := 18) rfl)
theorem mw_1579 : Cond.selects RX11 yX11_back yX11_back ∈ wsL_law := inr_66 _ (List.mem_of_getElem? (i := 19) rfl)
theorem dL_law_1746 : decode cL_law 1746 = .ok (.pop, 1) := by decide +kernel
theorem dL_law_1747 : decode cL_law 1747 = .ok (.aload_n 2, 1) := by decide +kernel
theorem dL_law_1748 : decode cL_law 1748 = .ok (.invokevirtual 204, 3) := by decide +kernel
theorem mw_1581 : Cond.methodLink RL 204 yX12_back ∈ wsL_law := inr_66 _ (List.mem_of_getElem? (i := 21) rfl)
theorem mw_1584 : Cond.code yX12_back cX12_back 1 (some .int) ∈ wsL_law := inr_67 _ (List.mem_of_getElem? (i := 0) rfl)
theorem yk_X12_back : xY yX12_back RX12 cX12_back 1 (some .int) 0 := ⟨⟨rfl, by decide +kernel, by decide +kernel, by decide +kernel⟩, mw_5, mw_1584⟩
theorem mw_1582 : Cond.instanceMethod yX12_back ∈ wsL_law := inr_66 _ (List.mem_of_getElem? (i := 22) rfl)
theorem mw_1583 : Cond.selects RX12 yX12_back yX12_back ∈ wsL_law := inr_66 _ (List.mem_of_getElem? (i := 23) rfl)
theorem dL_law_1751 : decode cL_law 1751 = .ok (.pop, 1) := by decide +kernel
theorem dL_law_1752 : decode cL_law 1752 = .ok (.goto 3, 3) := by decide +kernel
set_option maxHeartbeats 4000000 in
set_option maxRecDepth 100000 in
theorem law_c42 {p : Program} {l : Launch} {e : Env} {s : State} {m : MethodId} {below : List Frame} {meth : Method} {c : Code} {H : Heap} {locs : List Loc} {Q : State → Prop} {D : va_G} {cy : Nat → ClassId} {A : Nat → Prop} {L : List Nat} {R O P : Nat → Nat} {f0 : Nat → va_E} {ls : Array Slot} {b N cs sl q rr GA GP GL GT : Nat} {xs : Nat → Int32} {V : Value} (F : CallFix p m c cL_law 4 s #[Value.ref b] wsL_law RL) (hZ : tZ A s s.heap) (hX0 : va_X b N xs s s.heap) (hbl : b < s.heap.size) (hbA : ¬ A b) (hcs : cs ≤ room_1.cells) (hsl : sl ≤ room_1.slots) (i : Int32) (bi : 0 ≤ i.toInt ∧ i.toInt + 6 ≤ N ∧ N ≤ 3072) (m_q : q ∈ L) (r_q : R q = 11) (m_rr : rr ∈ L) (r_rr : R rr = 12) (m_GA : GA ∈ L) (r_GA : R GA = 61) (m_GP : GP ∈ L) (r_GP : R GP = 69) (m_GL : GL ∈ L) (r_GL : R GL = 70) (m_GT : GT ∈ L) (r_GT : R GT = 64) (hLS : LWS D cy A s L R O P q rr GA GP GL GT V f0 H locs) (hl : lv_has ls 4 [(3, .int i), (2, .ref rr), (1, .ref q), (0, .ref b)]) (kk : ∀ (f1 : Nat → va_E) (H : Heap) (locs : List Loc) (ls : Array Slot), LWS D cy A s L R O P q rr GA GP GL GT V f1 H locs → lv_has ls 4 [(3, .int i), (2, .ref rr), (1, .ref q), (0, .ref b)] → W p l e room_1 s m #[Value.ref b] below meth c H locs cs sl Q (F0 m 1755 ls [])) : W p l e room_1 s m #[Value.ref b] below meth c H locs cs sl Q (F0 m 1742 ls []) := by
  obtain ⟨h, hI, ⟨t_GA, t_GP, t_GL, t_GT⟩, hR, hX, hP, hMK, hCB, hC0, hC1, hC2, hPB⟩ := hLS
  have hs6m := hI.2.2.1.1
  have hs6r := hI.2.2.1.2
  have hBM := BM_of h m_q r_q
  have hPBn := hPB
  refine lv_aload_n F.1 F.2.1 dL_law_1742 rfl (lv_at hl 2 rfl) ?_
  refine tw_Vi (As := []) F hZ h yk_X11_back mw_1577 mw_1578 mw_1579 (s_X11_backC l D cy L R O f0 hI.2.2.2.1 q m_q r_q P hI.2.2.2.2.1 hPBn) rfl rfl m_q r_q (fun e q => (T_11 e).mp q) rfl hl.1 rfl (Nat.le_of_ble_eq_true rfl) ⟨Nat.le_of_ble_eq_true rfl, Nat.le_of_ble_eq_true rfl⟩ ⟨hcs, hsl⟩ dL_law_1743 (fun v2 f1 H locs hp1 h => ?_)
  obtain ⟨hf1, hG, hv2p0, hv2p1, hv2p2⟩ := hp1
  have em3 : fi f1 rr 64 = fi f0 rr 64 := hf1.efi m_rr r_rr (by decide +kernel)
  have ej4 := hf1.eelj m_GA r_GA (by decide +kernel) 5159
  have ej5 := hf1.eelj m_GA r_GA (by decide +kernel) 10349
  have ej6 := hf1.eelj m_GA r_GA (by decide +kernel) 15539
  have ej7 := hf1.eelj m_GA r_GA (by decide +kernel) 20729
  have hPBn : PB P f1 q := hPBn.fr hBM hf1 m_q r_q (by decide +kernel) (by decide +kernel) (by decide +kernel)
  have hBM := BM_of h m_q r_q
  have hI : INV L R O P f1 q := hI.mk1 m_q r_q hf1 (by decide +kernel) hG hv2p0
  have t_GA : fld f1 rr 0 = .ref GA := (hf1.efl m_rr r_rr (by decide +kernel)).trans t_GA
  have t_GP : fld f1 rr 22 = .ref GP := (hf1.efl m_rr r_rr (by decide +kernel)).trans t_GP
  have t_GL : fld f1 rr 23 = .ref GL := (hf1.efl m_rr r_rr (by decide +kernel)).trans t_GL
  have t_GT : fld f1 rr 6 = .ref GT := (hf1.efl m_rr r_rr (by decide +kernel)).trans t_GT
  have hR : RBA GA f1 := hR.fm hf1 m_GA r_GA (by decide +kernel)
  have hX : GZ GP GL f1 := hX.fm hf1 m_GP r_GP m_GL r_GL (by decide +kernel) (by decide +kernel)
  have hP : fld f1 (rfa f1 q 6) 16 = V := by rw [hf1.erf m_q r_q (by decide +kernel), hf1.efl hs6m hs6r (by decide +kernel)]; exact hP
  have hs6m : rfa f1 q 6 ∈ L := by rw [hf1.erf m_q r_q (by decide +kernel)]; exact hs6m
  have hs6r : R (rfa f1 q 6) = 7 := by rw [hf1.erf m_q r_q (by decide +kernel)]; exact hs6r
  refine lv_pop F.1 F.2.1 dL_law_1746 rfl ?_
  refine lv_aload_n F.1 F.2.1 dL_law_1747 rfl (lv_at hl 1 rfl) ?_
  refine tw_Vi (As := []) F hZ h yk_X12_back mw_1581 mw_1582 mw_1583 (s_X12_backC l D cy L R O f1 rr m_rr r_rr GA m_GA r_GA t_GA GP m_GP r_GP t_GP GL m_GL r_GL t_GL GT m_GT r_GT t_GT hR hX) rfl rfl m_rr r_rr (fun e q => (T_12 e).mp q) rfl hl.1 rfl (Nat.le_of_ble_eq_true rfl) ⟨Nat.le_of_ble_eq_true rfl, Nat.le_of_ble_eq_true rfl⟩ ⟨hcs, hsl⟩ dL_law_1748 (fun v9 f8 H locs hp8 h => ?_)
  obtain ⟨hf8, hv9p0, hv9p1, hv9p2, hv9p3⟩ := hp8
  have em10 : fi f8 q 11 = fi f1 q 11 := hf8.efi m_q r_q (by decide +kernel)
  have ek11 := BKc hBM hf8 m_q r_q (by decide +kernel) (by decide +kernel) (by decide +kernel) (by decide +kernel)
  have ek11b := ek11.1
  have ek11x := ek11.2 0 (by omega)
  have ek11y := ek11.2 1 (by omega)
  have ek11z := ek11.2 2 (by omega)
  have hPBn : PB P f8 q := hPBn.fr hBM hf8 m_q r_q (by decide +kernel) (by decide +kernel) (by decide +kernel)
  have hBM := BM_of h m_q r_q
  have hI : INV L R O P f8 q := hI.most m_q r_q hf8 (by decide +kernel) (by decide +kernel) (by decide +kernel) (by decide +kernel) (by decide +kernel)
  have t_GA : fld f8 rr 0 = .ref GA := (hf8.efl m_rr r_rr (by decide +kernel)).trans t_GA
  have t_GP : fld f8 rr 22 = .ref GP := (hf8.efl m_rr r_rr (by decide +kernel)).trans t_GP
  have t_GL : fld f8 rr 23 = .ref GL := (hf8.efl m_rr r_rr (by decide +kernel)).trans t_GL
  have t_GT : fld f8 rr 6 = .ref GT := (hf8.efl m_rr r_rr (by decide +kernel)).trans t_GT
  have hR : RBA GA f8 := hv9p0
  have hX : GZ GP GL f8 := hX.fm hf8 m_GP r_GP m_GL r_GL (by decide +kernel) (by decide +kernel)
  have hP : fld f8 (rfa f8 q 6) 16 = V := by rw [hf8.erf m_q r_q (by decide +kernel), hf8.efl hs6m hs6r (by decide +kernel)]; exact hP
  have hs6m : rfa f8 q 6 ∈ L := by rw [hf8.erf m_q r_q (by decide +kernel)]; exact hs6m
  have hs6r : R (rfa f8 q 6) = 7 := by rw [hf8.erf m_q r_q (by decide +kernel)]; exact hs6r
  refine lv_pop F.1 F.2.1 dL_law_1751 rfl ?_
  refine lv_goto (tgt := 1755) F.1 F.2.1 dL_law_1752 (by decide) ?_
  exact kk f8 _ _ _ ⟨h, hI, ⟨t_GA, t_GP, t_GL, t_GT⟩, hR, hX, hP, by omega, by omega, by omega, by omega, by omega, hPBn⟩ hl
