theorem dL_law_27 : decode cL_law 27 = .ok (.aload_n 0, 1) := by decide +kernel
theorem dL_law_28 : decode cL_law 28 = .ok (.iload_n 3, 1) := by decide +kernel
theorem dL_law_29 : decode cL_law 29 = .ok (.iaload, 1) := by decide +kernel
theorem dL_law_30 : decode cL_law 30 = .ok (.bipush 63, 2) := by decide +kernel
theorem dL_law_32 : decode cL_law 32 = .ok (.iand, 1) := by decide +kernel
theorem dL_law_33 : decode cL_law 33 = .ok (.tableswitch 1730 0 42 #[187, 200, 214, 228, 271, 344, 378, 441, 504, 527, 560, 583, 606, 640, 673, 716, 759, 792, 856, 879, 912, 936, 959, 1003, 1046, 1080, 1133, 1156, 1209, 1232, 1325, 1368, 1421, 1444, 1467, 1490, 1533, 1546, 1569, 1602, 1651, 1704, 1717], 187) := by decide +kernel
theorem dL_law_0 : decode cL_law 0 = .ok (.new 7, 3) := by decide +kernel
theorem dfX11 : ∀ j, j < 17 → defaultValue (tyX11 j) = vp_V [.null, .null, .null, .null, .null, .null, .null, .null, .null, .null, .int 0, .int 0, .int 0, .int 0, .int 0, .long 0, .long 0] j := by
  intro j hj
  match j, hj with
  | 0, _ => rfl
  | 1, _ => rfl
  | 2, _ => rfl
  | 3, _ => rfl
  | 4, _ => rfl
  | 5, _ => rfl
  | 6, _ => rfl
  | 7, _ => rfl
  | 8, _ => rfl
  | 9, _ => rfl
  | 10, _ => rfl
  | 11, _ => rfl
  | 12, _ => rfl
  | 13, _ => rfl
  | 14, _ => rfl
  | 15, _ => rfl
  | 16, _ => rfl
  | k + 17, hj => omega
theorem mw_0 : Cond.classLink RL 7 RX11 ∈ wsL_law := inr_1 _ (List.mem_of_getElem? (i := 0) rfl)
theorem mw_1 : Cond.instantiable RX11 17 ∈ wsL_law := inr_1 _ (List.mem_of_getElem? (i := 1) rfl)
theorem dL_law_3 : decode cL_law 3 = .ok (.dup, 1) := by decide +kernel
theorem dL_law_4 : decode cL_law 4 = .ok (.invokespecial 9, 3) := by decide +kernel
theorem mw_7 : Cond.methodLink RL 9 yX11_init ∈ wsL_law := inr_1 _ (List.mem_of_getElem? (i := 7) rfl)
theorem mw_9 : Cond.code yX11_init cX11_init 2 none ∈ wsL_law := inr_1 _ (List.mem_of_getElem? (i := 9) rfl)
theorem yk_X11_init : xY yX11_init RX11 cX11_init 2 none 0 := ⟨⟨rfl, by decide +kernel, by decide +kernel, by decide +kernel⟩, mw_2, mw_9⟩
theorem mw_8 : Cond.instanceMethod yX11_init ∈ wsL_law := inr_1 _ (List.mem_of_getElem? (i := 8) rfl)
theorem dL_law_7 : decode cL_law 7 = .ok (.astore_n 1, 1) := by decide +kernel
theorem dL_law_8 : decode cL_law 8 = .ok (.new 10, 3) := by decide +kernel
theorem dfX12 : ∀ j, j < 65 → defaultValue (tyX12 j) = vp_V (.null :: .int 0 :: .long 0 :: .long 0 :: .null :: .null :: .null :: .null :: .null :: .int 0 :: .int 0 :: .int 0 :: .int 0 :: .int 0 :: .int 0 :: .int 0 :: .int 0 :: .int 0 :: .null :: .int 0 :: .int 0 :: .null :: .null :: .null :: .null :: .null :: .null :: .null :: .int 0 :: .int 0 :: .int 0 :: .int 0 :: .int 0 :: .int 0 :: .null :: .int 0 :: .int 0 :: .int 0 :: .int 0 :: .int 0 :: .null :: .null :: .int 0 :: .int 0 :: .int 0 :: .int 0 :: .int 0 :: .int 0 :: .null :: .null :: .null :: .int 0 :: .null :: .null :: .int 0 :: .null :: .int 0 :: .int 0 :: .null :: .int 0 :: .int 0 :: .int 0 :: .null :: .null :: .int 0 :: []) j := by
  intro j hj
  match j, hj with
  | 0, _ => rfl
  | 1, _ => rfl
  | 2, _ => rfl
  | 3, _ => rfl
  | 4, _ => rfl
  | 5, _ => rfl
  | 6, _ => rfl
  | 7, _ => rfl
  | 8, _ => rfl
  | 9, _ => rfl
  | 10, _ => rfl
  | 11, _ => rfl
  | 12, _ => rfl
  | 13, _ => rfl
  | 14, _ => rfl
  | 15, _ => rfl
  | 16, _ => rfl
  | 17, _ => rfl
  | 18, _ => rfl
  | 19, _ => rfl
  | 20, _ => rfl
  | 21, _ => rfl
  | 22, _ => rfl
  | 23, _ => rfl
  | 24, _ => rfl
  | 25, _ => rfl
  | 26, _ => rfl
  | 27, _ => rfl
  | 28, _ => rfl
  | 29, _ => rfl
  | 30, _ => rfl
  | 31, _ => rfl
  | 32, _ => rfl
  | 33, _ => rfl
  | 34, _ => rfl
  | 35, _ => rfl
  | 36, _ => rfl
  | 37, _ => rfl
  | 38, _ => rfl
  | 39, _ => rfl
  | 40, _ => rfl
  | 41, _ => rfl
  | 42, _ => rfl
  | 43, _ => rfl
  | 44, _ => rfl
  | 45, _ => rfl
  | 46, _ => rfl
  | 47, _ => rfl
  | 48, _ => rfl
  | 49, _ => rfl
  | 50, _ => rfl
  | 51, _ => rfl
  | 52, _ => rfl
  | 53, _ => rfl
  | 54, _ => rfl
  | 55, _ => rfl
  | 56, _ => rfl
  | 57, _ => rfl
  | 58, _ => rfl
  | 59, _ => rfl
  | 60, _ => rfl
  | 61, _ => rfl
  | 62, _ => rfl
  | 63, _ => rfl
  | 64, _ => rfl
  | k + 65, hj => omega
theorem mw_3 : Cond.classLink RL 10 RX12 ∈ wsL_law := inr_1 _ (List.mem_of_getElem? (i := 3) rfl)
theorem mw_4 : Cond.instantiable RX12 65 ∈ wsL_law := inr_1 _ (List.mem_of_getElem? (i := 4) rfl)
theorem dL_law_11 : decode cL_law 11 = .ok (.dup, 1) := by decide +kernel
theorem dL_law_12 : decode cL_law 12 = .ok (.invokespecial 12, 3) := by decide +kernel
theorem mw_198 : Cond.methodLink RL 12 yX12_init ∈ wsL_law := inr_9 _ (List.mem_of_getElem? (i := 6) rfl)
theorem mw_200 : Cond.code yX12_init cX12_init 1 none ∈ wsL_law := inr_9 _ (List.mem_of_getElem? (i := 8) rfl)
theorem yk_X12_init : xY yX12_init RX12 cX12_init 1 none 0 := ⟨⟨rfl, by decide +kernel, by decide +kernel, by decide +kernel⟩, mw_5, mw_200⟩
theorem mw_199 : Cond.instanceMethod yX12_init ∈ wsL_law := inr_9 _ (List.mem_of_getElem? (i := 7) rfl)
theorem dL_law_15 : decode cL_law 15 = .ok (.astore_n 2, 1) := by decide +kernel
theorem dL_law_16 : decode cL_law 16 = .ok (.iconst 0, 1) := by decide +kernel
theorem dL_law_17 : decode cL_law 17 = .ok (.istore_n 3, 1) := by decide +kernel
theorem mw_1253 : Cond.instantiable RX2 4 ∈ wsL_law := inr_53 _ (List.mem_of_getElem? (i := 5) rfl)
theorem x_c43 (t : Int32) : (∃ j, j < 43 ∧ t = nI j) ∨ (t.toInt < 0 ∨ 42 < t.toInt) := by
  by_cases h1 : t < 0
  · exact Or.inr (Or.inl (by simpa [Int32.lt_iff_toInt_lt] using h1))
  · by_cases h2 : nI 43 ≤ t
    · exact Or.inr (Or.inr (by have h3 := Int32.le_iff_toInt_le.mp h2; have e : (nI 43).toInt = 43 := by decide
                               omega))
    · exact Or.inl (x_lt (by decide) h1 h2)
set_option maxHeartbeats 4000000 in
set_option maxRecDepth 100000 in
theorem law_go {p : Program} {l : Launch} {e : Env} {s : State} {m : MethodId} {below : List Frame} {meth : Method} {c : Code} {b : Nat} {xs : Nat → Int32} {D : va_G} {cy : Nat → ClassId} {A : Nat → Prop} {H : Heap} {locs : List Loc} {ls : Array Slot} {q r : Nat} {u v : Nat → Nat} (F : CallFix p m c cL_law 4 s #[Value.ref b] wsL_law RL) (hr : meth.sig.returnType = ret) (hlocks : meth.locks = false) (hX : va_X b 6 xs s s.heap) (hbl : b < s.heap.size) (hAs : ∀ q, A q → s.heap.size ≤ q) (h : xS D cy A s.heap (askW cy q u ++ modW cy r v) s H locs) (hl : lv_has ls 4 [(3, .int 0), (2, .ref r), (1, .ref q), (0, .ref b)]) : W p l e room_1 s m #[Value.ref b] below meth c H locs 857 99087 (lw_Z below #[Value.ref b] s) (F0 m 18 ls []) := by
  have hbA : ¬ A b := fun ha => absurd (hAs b ha) (Nat.not_le.mpr hbl)
  refine lv_iload_n F.1 F.2.1 dL_law_18 rfl (lv_at hl 0 rfl) ?_
  refine lv_aload_n F.1 F.2.1 dL_law_19 rfl (lv_at hl 3 rfl) ?_
  refine va_slen F.1 F.2.1 hX hbl hbA h.2.2.2.1 dL_law_20 ?_
  refine x_topi (y := 6) (by decide) ?_
  refine lv_bipush (v := 6) F.1 F.2.1 dL_law_21 (by decide) ?_
  refine lv_isub F.1 F.2.1 dL_law_23 ?_
  refine x_topi (y := 0) (by decide +kernel) ?_
  refine lv_icmp_gt (tgt := 1769) F.1 F.2.1 dL_law_24 (by decide) (fun hc => absurd hc (by decide)) (fun _ => ?_)
  refine lv_aload_n F.1 F.2.1 dL_law_27 rfl (lv_at hl 3 rfl) ?_
  refine lv_iload_n F.1 F.2.1 dL_law_28 rfl (lv_at hl 0 rfl) ?_
  refine va_sld F.1 F.2.1 hX hbl hbA h.2.2.2.1 (x_in (by decide +kernel)) dL_law_29 ?_
  refine x_topi (y := (xs 0)) rfl ?_
  refine lv_bipush (v := 63) F.1 F.2.1 dL_law_30 (by decide) ?_
  refine lv_iand F.1 F.2.1 dL_law_32 ?_
  refine lv_topi (fun v0 _ => ?_)
  rcases x_c43 v0 with ⟨j, hj, rfl⟩ | hs
  · match j, hj with
    | 0, _ =>
      refine lv_tableIn F.1 F.2.1 dL_law_33 (by decide) (by decide) (off := 187) rfl (tgt := 220) (by decide) ?_
      exact law_c0 F hr hlocks hX hbl hAs h hl
    | 1, _ =>
      refine lv_tableIn F.1 F.2.1 dL_law_33 (by decide) (by decide) (off := 200) rfl (tgt := 233) (by decide) ?_
      exact law_c1 F hr hlocks hX hbl hAs h hl
    | 2, _ =>
      refine lv_tableIn F.1 F.2.1 dL_law_33 (by decide) (by decide) (off := 214) rfl (tgt := 247) (by decide) ?_
      exact law_c2 F hr hlocks hX hbl hAs h hl
    | 3, _ =>
      refine lv_tableIn F.1 F.2.1 dL_law_33 (by decide) (by decide) (off := 228) rfl (tgt := 261) (by decide) ?_
      exact law_c3 F hr hlocks hX hbl hAs h hl
    | 4, _ =>
      refine lv_tableIn F.1 F.2.1 dL_law_33 (by decide) (by decide) (off := 271) rfl (tgt := 304) (by decide) ?_
      exact law_c4 F hr hlocks hX hbl hAs h hl
    | 5, _ =>
      refine lv_tableIn F.1 F.2.1 dL_law_33 (by decide) (by decide) (off := 344) rfl (tgt := 377) (by decide) ?_
      exact law_c5 F hr hlocks hX hbl hAs h hl
    | 6, _ =>
      refine lv_tableIn F.1 F.2.1 dL_law_33 (by decide) (by decide) (off := 378) rfl (tgt := 411) (by decide) ?_
      exact law_c6 F hr hlocks hX hbl hAs h hl
    | 7, _ =>
      refine lv_tableIn F.1 F.2.1 dL_law_33 (by decide) (by decide) (off := 441) rfl (tgt := 474) (by decide) ?_
      exact law_c7 F hr hlocks hX hbl hAs h hl
    | 8, _ =>
      refine lv_tableIn F.1 F.2.1 dL_law_33 (by decide) (by decide) (off := 504) rfl (tgt := 537) (by decide) ?_
      exact law_c8 F hr hlocks hX hbl hAs h hl
    | 9, _ =>
      refine lv_tableIn F.1 F.2.1 dL_law_33 (by decide) (by decide) (off := 527) rfl (tgt := 560) (by decide) ?_
      exact law_c9 F hr hlocks hX hbl hAs h hl
    | 10, _ =>
      refine lv_tableIn F.1 F.2.1 dL_law_33 (by decide) (by decide) (off := 560) rfl (tgt := 593) (by decide) ?_
      exact law_c10 F hr hlocks hX hbl hAs h hl
    | 11, _ =>
      refine lv_tableIn F.1 F.2.1 dL_law_33 (by decide) (by decide) (off := 583) rfl (tgt := 616) (by decide) ?_
      exact law_c11 F hr hlocks hX hbl hAs h hl
    | 12, _ =>
      refine lv_tableIn F.1 F.2.1 dL_law_33 (by decide) (by decide) (off := 606) rfl (tgt := 639) (by decide) ?_
      exact law_c12 F hr hlocks hX hbl hAs h hl
    | 13, _ =>
      refine lv_tableIn F.1 F.2.1 dL_law_33 (by decide) (by decide) (off := 640) rfl (tgt := 673) (by decide) ?_
      exact law_c13 F hr hlocks hX hbl hAs h hl
    | 14, _ =>
      refine lv_tableIn F.1 F.2.1 dL_law_33 (by decide) (by decide) (off := 673) rfl (tgt := 706) (by decide) ?_
      exact law_c14 F hr hlocks hX hbl hAs h hl
    | 15, _ =>
      refine lv_tableIn F.1 F.2.1 dL_law_33 (by decide) (by decide) (off := 716) rfl (tgt := 749) (by decide) ?_
      exact law_c15 F hr hlocks hX hbl hAs h hl
    | 16, _ =>
      refine lv_tableIn F.1 F.2.1 dL_law_33 (by decide) (by decide) (off := 759) rfl (tgt := 792) (by decide) ?_
      exact law_c16 F hr hlocks hX hbl hAs h hl
    | 17, _ =>
      refine lv_tableIn F.1 F.2.1 dL_law_33 (by decide) (by decide) (off := 792) rfl (tgt := 825) (by decide) ?_
      exact law_c17 F hr hlocks hX hbl hAs h hl
    | 18, _ =>
      refine lv_tableIn F.1 F.2.1 dL_law_33 (by decide) (by decide) (off := 856) rfl (tgt := 889) (by decide) ?_
      exact law_c18 F hr hlocks hX hbl hAs h hl
    | 19, _ =>
      refine lv_tableIn F.1 F.2.1 dL_law_33 (by decide) (by decide) (off := 879) rfl (tgt := 912) (by decide) ?_
      exact law_c19 F hr hlocks hX hbl hAs h hl
    | 20, _ =>
      refine lv_tableIn F.1 F.2.1 dL_law_33 (by decide) (by decide) (off := 912) rfl (tgt := 945) (by decide) ?_
      exact law_c20 F hr hlocks hX hbl hAs h hl
    | 21, _ =>
      refine lv_tableIn F.1 F.2.1 dL_law_33 (by decide) (by decide) (off := 936) rfl (tgt := 969) (by decide) ?_
      exact law_c21 F hr hlocks hX hbl hAs h hl
    | 22, _ =>
      refine lv_tableIn F.1 F.2.1 dL_law_33 (by decide) (by decide) (off := 959) rfl (tgt := 992) (by decide) ?_
      exact law_c22 F hr hlocks hX hbl hAs h hl
    | 23, _ =>
      refine lv_tableIn F.1 F.2.1 dL_law_33 (by decide) (by decide) (off := 1003) rfl (tgt := 1036) (by decide) ?_
      exact law_c23 F hr hlocks hX hbl hAs h hl
    | 24, _ =>
      refine lv_tableIn F.1 F.2.1 dL_law_33 (by decide) (by decide) (off := 1046) rfl (tgt := 1079) (by decide) ?_
      exact law_c24 F hr hlocks hX hbl hAs h hl
    | 25, _ =>
      refine lv_tableIn F.1 F.2.1 dL_law_33 (by decide) (by decide) (off := 1080) rfl (tgt := 1113) (by decide) ?_
      exact law_c25 F hr hlocks hX hbl hAs h hl
    | 26, _ =>
      refine lv_tableIn F.1 F.2.1 dL_law_33 (by decide) (by decide) (off := 1133) rfl (tgt := 1166) (by decide) ?_
      exact law_c26 F hr hlocks hX hbl hAs h hl
    | 27, _ =>
      refine lv_tableIn F.1 F.2.1 dL_law_33 (by decide) (by decide) (off := 1156) rfl (tgt := 1189) (by decide) ?_
      exact law_c27 F hr hlocks hX hbl hAs h hl
    | 28, _ =>
      refine lv_tableIn F.1 F.2.1 dL_law_33 (by decide) (by decide) (off := 1209) rfl (tgt := 1242) (by decide) ?_
      exact law_c28 F hr hlocks hX hbl hAs h hl
    | 29, _ =>
      refine lv_tableIn F.1 F.2.1 dL_law_33 (by decide) (by decide) (off := 1232) rfl (tgt := 1265) (by decide) ?_
      exact law_c29 F hr hlocks hX hbl hAs h hl
    | 30, _ =>
      refine lv_tableIn F.1 F.2.1 dL_law_33 (by decide) (by decide) (off := 1325) rfl (tgt := 1358) (by decide) ?_
      exact law_c30 F hr hlocks hX hbl hAs h hl
    | 31, _ =>
      refine lv_tableIn F.1 F.2.1 dL_law_33 (by decide) (by decide) (off := 1368) rfl (tgt := 1401) (by decide) ?_
      exact law_c31 F hr hlocks hX hbl hAs h hl
    | 32, _ =>
      refine lv_tableIn F.1 F.2.1 dL_law_33 (by decide) (by decide) (off := 1421) rfl (tgt := 1454) (by decide) ?_
      exact law_c32 F hr hlocks hX hbl hAs h hl
    | 33, _ =>
      refine lv_tableIn F.1 F.2.1 dL_law_33 (by decide) (by decide) (off := 1444) rfl (tgt := 1477) (by decide) ?_
      exact law_c33 F hr hlocks hX hbl hAs h hl
    | 34, _ =>
      refine lv_tableIn F.1 F.2.1 dL_law_33 (by decide) (by decide) (off := 1467) rfl (tgt := 1500) (by decide) ?_
      exact law_c34 F hr hlocks hX hbl hAs h hl
    | 35, _ =>
      refine lv_tableIn F.1 F.2.1 dL_law_33 (by decide) (by decide) (off := 1490) rfl (tgt := 1523) (by decide) ?_
      exact law_c35 F hr hlocks hX hbl hAs h hl
    | 36, _ =>
      refine lv_tableIn F.1 F.2.1 dL_law_33 (by decide) (by decide) (off := 1533) rfl (tgt := 1566) (by decide) ?_
      exact law_c36 F hr hlocks hX hbl hAs h hl
    | 37, _ =>
      refine lv_tableIn F.1 F.2.1 dL_law_33 (by decide) (by decide) (off := 1546) rfl (tgt := 1579) (by decide) ?_
      exact law_c37 F hr hlocks hX hbl hAs h hl
    | 38, _ =>
      refine lv_tableIn F.1 F.2.1 dL_law_33 (by decide) (by decide) (off := 1569) rfl (tgt := 1602) (by decide) ?_
      exact law_c38 F hr hlocks hX hbl hAs h hl
    | 39, _ =>
      refine lv_tableIn F.1 F.2.1 dL_law_33 (by decide) (by decide) (off := 1602) rfl (tgt := 1635) (by decide) ?_
      exact law_c39 F hr hlocks hX hbl hAs h hl
    | 40, _ =>
      refine lv_tableIn F.1 F.2.1 dL_law_33 (by decide) (by decide) (off := 1651) rfl (tgt := 1684) (by decide) ?_
      exact law_c40 F hr hlocks hX hbl hAs h hl
    | 41, _ =>
      refine lv_tableIn F.1 F.2.1 dL_law_33 (by decide) (by decide) (off := 1704) rfl (tgt := 1737) (by decide) ?_
      exact law_c41 F hr hlocks hX hbl hAs h hl
    | 42, _ =>
      refine lv_tableIn F.1 F.2.1 dL_law_33 (by decide) (by decide) (off := 1717) rfl (tgt := 1750) (by decide) ?_
      exact law_c42 F hr hlocks hX hbl hAs h hl
    | n + 43, hj => exact absurd hj (by omega)
  · refine lv_tableOut F.1 F.2.1 dL_law_33 hs (tgt := 1763) (by decide) ?_
    exact law_end F hr hlocks hX hbl hAs h (lv_sub hl [0, 3] rfl)
set_option maxHeartbeats 4000000 in
set_option maxRecDepth 100000 in
theorem law_open {p : Program} {l : Launch} {e : Env} {s : State} {m : MethodId} {below : List Frame} {meth : Method} {c : Code} {b : Nat} {xs : Nat → Int32} {D : va_G} {cy : Nat → ClassId} {A : Nat → Prop} {ls : Array Slot} {L : Nat} (hL : L ≤ 6) (F : CallFix p m c cL_law 4 s #[Value.ref b] wsL_law RL) (hr : meth.sig.returnType = ret) (hlocks : meth.locks = false) (hX : va_X b L xs s s.heap) (hbl : b < s.heap.size) (hAs : ∀ q, A q → s.heap.size ≤ q) (h : xS D cy A s.heap [] s s.heap []) (hl : lv_has ls 4 [(0, .ref b)]) : W p l e room_1 s m #[Value.ref b] below meth c s.heap [] 0 0 (lw_Z below #[Value.ref b] s) (F0 m 0 ls []) := by
  refine x_new F h inlX11 tyX11_ok dfX11 rfl mw_0 mw_1 mw_2 dL_law_0 (Nat.le_of_ble_eq_true rfl) (Nat.le_of_ble_eq_true rfl) (ws' := fun q1 => [(q1, .inr (11, [.null, .null, .null, .null, .null, .null, .null, .null, .null, .null, .int 0, .int 0, .int 0, .int 0, .int 0, .long 0, .long 0]))]) (fun _ => rfl) (fun q1 H h => ?_)
  refine lv_dup F.1 F.2.1 dL_law_3 rfl ?_
  refine x_It (wr := []) F h yk_X11_init mw_7 mw_8 rfl (c_Ask_init l D cy q1) rfl hl.1 rfl (Nat.le_of_ble_eq_true rfl) ⟨Nat.le_of_ble_eq_true rfl, Nat.le_of_ble_eq_true rfl⟩ ⟨Nat.le_of_ble_eq_true rfl, Nat.le_of_ble_eq_true rfl⟩ dL_law_4 (fun u4 H locs hp2 h => ?_)
  have h : xS D cy A s.heap (askW cy q1 u4) s H locs := h
  refine lv_astore_n (lv' := [(1, .ref q1), (0, .ref b)]) F.1 F.2.1 dL_law_7 rfl hl (by decide) rfl (fun ls hl => ?_)
  refine x_new F h inlX12 tyX12_ok dfX12 rfl mw_3 mw_4 mw_5 dL_law_8 (Nat.le_of_ble_eq_true rfl) (Nat.le_of_ble_eq_true rfl) (ws' := fun q5 => askW cy q1 u4 ++ [(q5, .inr (12, (.null :: .int 0 :: .long 0 :: .long 0 :: .null :: .null :: .null :: .null :: .null :: .int 0 :: .int 0 :: .int 0 :: .int 0 :: .int 0 :: .int 0 :: .int 0 :: .int 0 :: .int 0 :: .null :: .int 0 :: .int 0 :: .null :: .null :: .null :: .null :: .null :: .null :: .null :: .int 0 :: .int 0 :: .int 0 :: .int 0 :: .int 0 :: .int 0 :: .null :: .int 0 :: .int 0 :: .int 0 :: .int 0 :: .int 0 :: .null :: .null :: .int 0 :: .int 0 :: .int 0 :: .int 0 :: .int 0 :: .int 0 :: .null :: .null :: .null :: .int 0 :: .null :: .null :: .int 0 :: .null :: .int 0 :: .int 0 :: .null :: .int 0 :: .int 0 :: .int 0 :: .null :: .null :: .int 0 :: [])))]) (fun _ => rfl) (fun q5 H h => ?_)
  refine lv_dup F.1 F.2.1 dL_law_11 rfl ?_
  refine x_It (wr := askW cy q1 u4) F h yk_X12_init mw_198 mw_199 rfl (c_Mod_init l D cy q5) rfl hl.1 rfl (Nat.le_of_ble_eq_true rfl) ⟨Nat.le_of_ble_eq_true rfl, Nat.le_of_ble_eq_true rfl⟩ ⟨Nat.le_of_ble_eq_true rfl, Nat.le_of_ble_eq_true rfl⟩ dL_law_12 (fun u8 H locs hp6 h => ?_)
  have h : xS D cy A s.heap (askW cy q1 u4 ++ modW cy q5 u8) s H locs := h
  refine lv_astore_n (lv' := [(2, .ref q5), (1, .ref q1), (0, .ref b)]) F.1 F.2.1 dL_law_15 rfl hl (by decide) rfl (fun ls hl => ?_)
  refine lv_iconst (v := 0) F.1 F.2.1 dL_law_16 (by decide) ?_
  refine lv_istore_n (lv' := [(3, .int 0), (2, .ref q5), (1, .ref q1), (0, .ref b)]) F.1 F.2.1 dL_law_17 rfl hl (by decide) rfl (fun ls hl => ?_)
  refine W.widen (k := 857) (n := 99087) (Nat.le_of_ble_eq_true rfl) (Nat.le_of_ble_eq_true rfl) ?_
  rcases (show L = 0 ∨ L = 1 ∨ L = 2 ∨ L = 3 ∨ L = 4 ∨ L = 5 ∨ L = 6 by omega) with rfl | rfl | rfl | rfl | rfl | rfl | rfl
  · exact law_short0 F hr hlocks hX hbl hAs h (lv_sub hl [0, 3] rfl)
  · exact law_short1 F hr hlocks hX hbl hAs h (lv_sub hl [0, 3] rfl)
  · exact law_short2 F hr hlocks hX hbl hAs h (lv_sub hl [0, 3] rfl)
  · exact law_short3 F hr hlocks hX hbl hAs h (lv_sub hl [0, 3] rfl)
  · exact law_short4 F hr hlocks hX hbl hAs h (lv_sub hl [0, 3] rfl)
  · exact law_short5 F hr hlocks hX hbl hAs h (lv_sub hl [0, 3] rfl)
  · exact law_go F hr hlocks hX hbl hAs h (lv_sub hl [0, 1, 2, 3] rfl)
theorem xs_B {s : State} {args : Array Value} (h : (Cond.arrayClass .byte).before args s = true) : ∃ cA, ArrOfT s cA .byte ∧ va_RA s cA .byte := by
  obtain ⟨cA, kA, comp, f1, f2, f3⟩ := Cond.arrayClass_spec h
  exact ⟨cA, fun N z => ⟨(fun k h => by cases h), kA, f2, comp, f3⟩, f1⟩
theorem xs_I {s : State} {args : Array Value} (h : (Cond.arrayClass .int).before args s = true) : ∃ cA, ArrOfT s cA .int ∧ va_RA s cA .int := by
  obtain ⟨cA, kA, comp, f1, f2, f3⟩ := Cond.arrayClass_spec h
  exact ⟨cA, fun N z => ⟨(fun k h => by cases h), kA, f2, comp, f3⟩, f1⟩
theorem xs_J {s : State} {args : Array Value} (h : (Cond.arrayClass .long).before args s = true) : ∃ cA, ArrOfT s cA .long ∧ va_RA s cA .long := by
  obtain ⟨cA, kA, comp, f1, f2, f3⟩ := Cond.arrayClass_spec h
  exact ⟨cA, fun N z => ⟨(fun k h => by cases h), kA, f2, comp, f3⟩, f1⟩
theorem xs_Z {s : State} {args : Array Value} (h : (Cond.arrayClass .boolean).before args s = true) : ∃ cA, ArrOfT s cA .boolean ∧ va_RA s cA .boolean := by
  obtain ⟨cA, kA, comp, f1, f2, f3⟩ := Cond.arrayClass_spec h
  exact ⟨cA, fun N z => ⟨(fun k h => by cases h), kA, f2, comp, f3⟩, f1⟩
theorem xs_O {s : State} {args : Array Value} {C : String} (h : (Cond.arrayOver (.object C)).before args s = true) : ∃ cA, ArrOfT s cA (.object C) ∧ va_RA s cA (.object C) := by
  obtain ⟨comp, cA, kA, f4, -, f2, f3, f1⟩ := Cond.arrayOver_spec h
  exact ⟨cA, fun N z => ⟨(fun k h => by cases h), kA, f2, comp, f3⟩, kA, comp, f2, f3, f4, f1⟩
set_option maxHeartbeats 4000000 in
set_option maxRecDepth 100000 in
theorem whole_start {p : Program} {e : Env} {s : State} {m : MethodId} {below : List Frame} {meth : Method} {c : Code} (l : Launch) (hflags : l.flags = flags0) {b L : Nat} {xs : Nat → Int32} (hL : L ≤ 6) (C0 : lw_At p s m meth c b L xs) : W p l e room_1 s m #[Value.ref b] below meth c s.heap [] 0 0 (lw_Z below #[Value.ref b] s) (entryFrame m ([Value.ref b] : List Value).toArray 4) := by
  obtain ⟨hx, hb, hr, hml, hown, hts, hX, hbl, hlocks, hgv⟩ := id C0
  have hta : ∀ w ∈ wsL_law, w.before #[Value.ref b] s = true := fun w h => hts w (wsL_law_in w h)
  have F : CallFix p m c cL_law 4 s #[Value.ref b] wsL_law RL := ⟨hx, hb, hml, hown, hta⟩
  obtain ⟨c0, i0, k0⟩ := u_known (C := RX0) (T := TX0) (N := 7) (n := 7) hta inlX0 (hta _ mw_22)
  obtain ⟨c1, i1, k1⟩ := u_known (C := RX1) (T := TX1) (N := 9) (n := 9) hta inlX1 (hta _ mw_158)
  obtain ⟨c2, i2, k2⟩ := u_known (C := RX2) (T := TX2) (N := 4) (n := 4) hta inlX2 (hta _ mw_1253)
  obtain ⟨c3, i3, k3⟩ := u_known (C := RX3) (T := TX3) (N := 14) (n := 14) hta inlX3 (hta _ mw_18)
  obtain ⟨c4, i4, k4⟩ := u_known (C := RX4) (T := TX4) (N := 2) (n := 2) hta inlX4 (hta _ mw_35)
  obtain ⟨c5, i5, k5⟩ := u_known (C := RX5) (T := TX5) (N := 8) (n := 8) hta inlX5 (hta _ mw_161)
  obtain ⟨c6, i6, k6⟩ := u_known (C := RX6) (T := TX6) (N := 19) (n := 19) hta inlX6 (hta _ mw_56)
  obtain ⟨c7, i7, k7⟩ := u_known (C := RX7) (T := TX7) (N := 17) (n := 17) hta inlX7 (hta _ mw_31)
  obtain ⟨c8, i8, k8⟩ := u_known (C := RX8) (T := TX8) (N := 3) (n := 3) hta inlX8 (hta _ mw_113)
  obtain ⟨c9, i9, k9⟩ := u_known (C := RX9) (T := TX9) (N := 5) (n := 5) hta inlX9 (hta _ mw_27)
  obtain ⟨c10, i10, k10⟩ := u_known (C := RX10) (T := TX10) (N := 3) (n := 3) hta inlX10 (hta _ mw_48)
  obtain ⟨c11, i11, k11⟩ := u_known (C := RX11) (T := TX11) (N := 17) (n := 17) hta inlX11 (hta _ mw_1)
  obtain ⟨c12, i12, k12⟩ := u_known (C := RX12) (T := TX12) (N := 65) (n := 65) hta inlX12 (hta _ mw_4)
  obtain ⟨yB, aB⟩ := xs_B (hta _ mw_15)
  obtain ⟨yI, aI⟩ := xs_I (hta _ mw_38)
  obtain ⟨yJ, aJ⟩ := xs_J (hta _ mw_64)
  obtain ⟨yZ, aZ⟩ := xs_Z (hta _ mw_130)
  have oBook : (Cond.arrayOver (.object "AskBack$Book")).before #[Value.ref b] s = true := hts _ (by decide +kernel)
  have oEar : (Cond.arrayOver (.object "AskBack$Ear")).before #[Value.ref b] s = true := hts _ (by decide +kernel)
  have oRow : (Cond.arrayOver (.object "AskBack$Row")).before #[Value.ref b] s = true := hts _ (by decide +kernel)
  have oScript : (Cond.arrayOver (.object "AskBack$Script")).before #[Value.ref b] s = true := hts _ (by decide +kernel)
  have oState : (Cond.arrayOver (.object "AskBack$State")).before #[Value.ref b] s = true := hts _ (by decide +kernel)
  have oTray : (Cond.arrayOver (.object "AskBack$Tray")).before #[Value.ref b] s = true := hts _ (by decide +kernel)
  obtain ⟨yBook, aBook⟩ := xs_O oBook
  obtain ⟨yEar, aEar⟩ := xs_O oEar
  obtain ⟨yRow, aRow⟩ := xs_O oRow
  obtain ⟨yScript, aScript⟩ := xs_O oScript
  obtain ⟨yState, aState⟩ := xs_O oState
  obtain ⟨yTray, aTray⟩ := xs_O oTray
  obtain ⟨D, cy, hK⟩ : ∃ (D : va_G) (cy : Nat → ClassId), va_K D vwCl (xTy cy) s := by
    refine ⟨(fun k => ([c0, c1, c2, c3, c4, c5, c6, c7, c8, c9, c10, c11, c12] : List Nat).getD k 0, fun k => ([i0, i1, i2, i3, i4, i5, i6, i7, i8, i9, i10, i11, i12] : List (Nat → Nat)).getD k (fun _ => 0)), fun k => ([yB, yI, yJ, yZ, yBook, yEar, yRow, yScript, yState, yTray] : List Nat).getD k 0, ?_, ?_⟩
    · intro k q hq
      match k, hq with
      | 0, hq => cases hq; exact k0
      | 1, hq => cases hq; exact k1
      | 2, hq => cases hq; exact k2
      | 3, hq => cases hq; exact k3
      | 4, hq => cases hq; exact k4
      | 5, hq => cases hq; exact k5
      | 6, hq => cases hq; exact k6
      | 7, hq => cases hq; exact k7
      | 8, hq => cases hq; exact k8
      | 9, hq => cases hq; exact k9
      | 10, hq => cases hq; exact k10
      | 11, hq => cases hq; exact k11
      | 12, hq => cases hq; exact k12
      | k + 13, hq => simp [vwCl] at hq
    · intro k q hq
      match k, hq with
      | 0, hq => cases hq; exact aB
      | 1, hq => cases hq; exact aI
      | 2, hq => cases hq; exact aJ
      | 3, hq => cases hq; exact aZ
      | 4, hq => cases hq; exact aBook
      | 5, hq => cases hq; exact aEar
      | 6, hq => cases hq; exact aRow
      | 7, hq => cases hq; exact aScript
      | 8, hq => cases hq; exact aState
      | 9, hq => cases hq; exact aTray
      | k + 10, hq => simp [xTy] at hq
  have hE : xE s := ⟨⟨va_AO.of oBook, va_AO.of oEar, va_AO.of oRow, va_AO.of oScript, va_AO.of oState, va_AO.of oTray⟩, va_Nw.of rfl (hts _ (by decide +kernel)), va_Nw.of rfl (hts _ (by decide +kernel)), va_Nw.of rfl (hts _ (by decide +kernel)), va_Nw.of rfl (hts _ (by decide +kernel)), va_Nw.of rfl (hts _ (by decide +kernel)), va_Nw.of rfl (hts _ (by decide +kernel)), va_Nw.of rfl (hts _ (by decide +kernel)), va_Nw.of rfl (hts _ (by decide +kernel)), va_Nw.of rfl (hts _ (by decide +kernel)), va_Nw.of rfl (hts _ (by decide +kernel)), va_Nw.of rfl (hts _ (by decide +kernel)), va_Nw.of rfl (hts _ (by decide +kernel))⟩
  have h0 : xS D cy (fun q => s.heap.size ≤ q) s.heap [] s s.heap [] := ⟨fun k q h => by simp at h, ⟨fun i j p q h => by simp at h, fun k q h => by simp at h⟩, hK, va_S.rf, fun _ h => h, hE⟩
  have hl := lv_entry ([.ref b]) (n := 4) (Nat.le_of_ble_eq_true rfl)
  rw [lg_entry_eq]
  generalize (lg_sl ([.ref b]) ++ List.replicate (4 - (lg_sl ([.ref b])).length) Slot.unset).toArray = ls at hl ⊢
  have hl : lv_has ls 4 [(0, .ref b)] := hl
  exact law_open hL F hr hlocks hX hbl (fun _ h => h) h0 hl
