theorem dX12_copies_0 : decode cX12_copies 0 = .ok (.iconst 0, 1) := by decide +kernel
theorem dX12_copies_1 : decode cX12_copies 1 = .ok (.istore 4, 2) := by decide +kernel
theorem dX12_copies_3 : decode cX12_copies 3 = .ok (.iload 4, 2) := by decide +kernel
theorem dX12_copies_5 : decode cX12_copies 5 = .ok (.iload_n 3, 1) := by decide +kernel
theorem dX12_copies_6 : decode cX12_copies 6 = .ok (.if_icmp .ge 27, 3) := by decide +kernel
theorem dX12_copies_33 : decode cX12_copies 33 = .ok (.return_, 1) := by decide +kernel
theorem dX12_copies_9 : decode cX12_copies 9 = .ok (.aload_n 0, 1) := by decide +kernel
theorem dX12_copies_10 : decode cX12_copies 10 = .ok (.getfield 7, 3) := by decide +kernel
theorem dX12_copies_13 : decode cX12_copies 13 = .ok (.iload_n 2, 1) := by decide +kernel
theorem dX12_copies_14 : decode cX12_copies 14 = .ok (.iload 4, 2) := by decide +kernel
theorem dX12_copies_16 : decode cX12_copies 16 = .ok (.iadd, 1) := by decide +kernel
theorem dX12_copies_17 : decode cX12_copies 17 = .ok (.aload_n 0, 1) := by decide +kernel
theorem dX12_copies_18 : decode cX12_copies 18 = .ok (.getfield 7, 3) := by decide +kernel
theorem dX12_copies_21 : decode cX12_copies 21 = .ok (.iload_n 1, 1) := by decide +kernel
theorem dX12_copies_22 : decode cX12_copies 22 = .ok (.iload 4, 2) := by decide +kernel
theorem dX12_copies_24 : decode cX12_copies 24 = .ok (.iadd, 1) := by decide +kernel
theorem dX12_copies_25 : decode cX12_copies 25 = .ok (.laload, 1) := by decide +kernel
theorem dX12_copies_26 : decode cX12_copies 26 = .ok (.lastore, 1) := by decide +kernel
theorem dX12_copies_27 : decode cX12_copies 27 = .ok (.iinc 4 1, 3) := by decide +kernel
theorem dX12_copies_30 : decode cX12_copies 30 = .ok (.goto (-27), 3) := by decide +kernel
def rm_X12_copies : Room := { frames := 0, cells := 0, slots := 0, locals := 0 }
set_option maxHeartbeats 4000000 in
set_option maxRecDepth 100000 in
theorem s_X12_copies (l : Launch) (D : va_G) (cy : Nat → ClassId) (L : List Nat) (R O : Nat → Nat) (f0 : Nat → va_E) (a0 : Nat) (m_a0 : a0 ∈ L) (r_a0 : R a0 = 12) (x1 : Int32) (b1 : 0 ≤ x1.toInt ∧ x1.toInt ≤ 24060) (x2 : Int32) (b2 : 0 ≤ x2.toInt ∧ x2.toInt ≤ 24060) (x3 : Int32) (b3 : 1650 ≤ x3.toInt ∧ x3.toInt ≤ 5190) (GA : Nat) (m_GA : GA ∈ L) (r_GA : R GA = 61) (t_GA : fld f0 a0 0 = .ref GA) (GP : Nat) (m_GP : GP ∈ L) (r_GP : R GP = 69) (t_GP : fld f0 a0 22 = .ref GP) (GL : Nat) (m_GL : GL ∈ L) (r_GL : R GL = 70) (t_GL : fld f0 a0 23 = .ref GL) (GT : Nat) (m_GT : GT ∈ L) (r_GT : R GT = 64) (t_GT : fld f0 a0 6 = .ref GT) (pre0 : CPc x1.toInt.toNat x2.toInt.toNat x3.toInt.toNat) (pre1 : x1.toInt + x3.toInt ≤ 25710) (pre2 : x2.toInt + x3.toInt ≤ 25710) (pre3 : (x1.toInt + x3.toInt ≤ x2.toInt ∨ x2.toInt + x3.toInt ≤ x1.toInt)) : ∀ sz, Met l yX12_copies (Cond.code yX12_copies cX12_copies 5 none :: wsL_law) rm_X12_copies (va_Pc [.ref a0, .int x1, .int x2, .int x3] (tPZ D cy L R (TT cy L R) f0 sz)) (va_Qv (fun f1 => fr L R [] [61] f0 f1 ∧ KW (x2.toInt.toNat) (x2.toInt.toNat + x3.toInt.toNat) GA f0 f1 ∧ (∀ q : Nat, q < x3.toInt.toNat → elj f1 GA (x2.toInt.toNat + q) = elj f0 GA (x1.toInt.toNat + q))) (tB D (tA L sz) L R (TT cy L R)) (tA L sz)) 0 0 (tA L sz) := by
  refine tw_enterv (by decide +kernel) rfl (Nat.le_of_ble_eq_true rfl) ?_
  intro p e s m below meth c A ls args Q F hZ h hl hret
  have hl : lv_has ls 5 [(0, .ref a0), (1, .int x1), (2, .int x2), (3, .int x3)] := hl
  have hk : fr L R [] [61] f0 f0 := fr.rf
  have hA : KW (x2.toInt.toNat) (x2.toInt.toNat + x3.toInt.toNat) GA f0 f0 := KW.rf
  refine tw_iconst F dX12_copies_0 ki_0 (fun z1 hz1 => ?_)
  refine lv_istore (lv' := [(4, .int z1), (0, .ref a0), (1, .int x1), (2, .int x2), (3, .int x3)]) F.1 F.2.1 dX12_copies_1 hl (by decide) rfl (fun ls hl => ?_)
  have j_3 : ∀ (n3 : Nat) (f2 : Nat → va_E) (H : Heap) (locs : List Loc) (ls : Array Slot) (x4_3 : Int32), 0 ≤ x4_3.toInt → x4_3.toInt ≤ 25710 → ((∀ q : Nat, (q : Int) < x4_3.toInt → elj f2 GA (x2.toInt.toNat + q) = elj f0 GA (x1.toInt.toNat + q))) → ((25710 - x4_3.toInt)).toNat < n3 → tS D cy A s.heap L R (TT cy L R) f2 s H locs → KW (x2.toInt.toNat) (x2.toInt.toNat + x3.toInt.toNat) GA f0 f2 → fr L R [] [61] f0 f2 → fr L R [] [61] f0 f2 → lv_has ls 5 [(0, .ref a0), (1, .int x1), (2, .int x2), (3, .int x3), (4, .int x4_3)] → W p l e rm_X12_copies s m args below meth c H locs 0 0 Q (F0 m 3 ls []) := by
    intro n3
    induction n3 with
    | zero =>
      intro f2 H locs ls x4_3 b3 b4 ip3_0 b5 h hA hk hb3 hl
      exfalso
      omega
    | succ n3 ih3 =>
      intro f2 H locs ls x4_3 b3 b4 ip3_0 b5 h hA hk hb3 hl
      have e6 : fld f2 a0 0 = .ref GA := (hb3.efl m_a0 r_a0 rfl).trans t_GA
      have e7 : fld f2 a0 22 = .ref GP := (hb3.efl m_a0 r_a0 rfl).trans t_GP
      have e8 : fld f2 a0 23 = .ref GL := (hb3.efl m_a0 r_a0 rfl).trans t_GL
      have e9 : fld f2 a0 6 = .ref GT := (hb3.efl m_a0 r_a0 rfl).trans t_GT
      refine lv_iload F.1 F.2.1 dX12_copies_3 (lv_at hl 4 rfl) ?_
      refine lv_iload_n F.1 F.2.1 dX12_copies_5 rfl (lv_at hl 3 rfl) ?_
      refine tw_icmp_ge (tgt := 33) F dX12_copies_6 (by decide) (fun b10 => ?_) (fun b10 => ?_)
      · exact hret f2 _ _ _ _ dX12_copies_33 ⟨hk, hA, fun q hq => ip3_0 q (by omega)⟩ h
      · refine lv_aload_n F.1 F.2.1 dX12_copies_9 rfl (lv_at hl 0 rfl) ?_
        refine g_12_7 F h m_a0 r_a0 dX12_copies_10 (fun o11 m_o11 r_o11 ho11 => ?_)
        obtain rfl := (fld_inj e6 ho11).symm
        refine lv_iload_n F.1 F.2.1 dX12_copies_13 rfl (lv_at hl 2 rfl) ?_
        refine lv_iload F.1 F.2.1 dX12_copies_14 (lv_at hl 4 rfl) ?_
        refine tu_iadd F dX12_copies_16 (by omega) (fun z12 hz12 => ?_)
        refine lv_aload_n F.1 F.2.1 dX12_copies_17 rfl (lv_at hl 0 rfl) ?_
        refine g_12_7 F h m_a0 r_a0 dX12_copies_18 (fun o13 m_o13 r_o13 ho13 => ?_)
        obtain rfl := (fld_inj e6 ho13).symm
        refine lv_iload_n F.1 F.2.1 dX12_copies_21 rfl (lv_at hl 1 rfl) ?_
        refine lv_iload F.1 F.2.1 dX12_copies_22 (lv_at hl 4 rfl) ?_
        refine tu_iadd F dX12_copies_24 (by omega) (fun z14 hz14 => ?_)
        refine le_61 F h m_GA r_GA (by omega) dX12_copies_25 (fun v15 ev15 hv15a => ?_)
        have hA26 := hA
        refine se_61 F h m_GA r_GA (by omega) (CPc_at pre0 (by omega) hv15a) dX12_copies_26 (fun f16 H locs e16a e16b hf16 h => ?_)
        have hA : KW (x2.toInt.toNat) (x2.toInt.toNat + x3.toInt.toNat) GA f0 f16 := hA.st e16a (by omega)
        have hk : fr L R [] [61] f0 f16 := hk.tr hf16 rfl rfl
        have hb3 : fr L R [] [61] f0 f16 := hb3.tr hf16 rfl rfl
        have e17 : fld f16 a0 0 = .ref GA := (hf16.efl m_a0 r_a0 rfl).trans e6
        have e18 : fld f16 a0 22 = .ref GP := (hf16.efl m_a0 r_a0 rfl).trans e7
        have e19 : fld f16 a0 23 = .ref GL := (hf16.efl m_a0 r_a0 rfl).trans e8
        have e20 : fld f16 a0 6 = .ref GT := (hf16.efl m_a0 r_a0 rfl).trans e9
        refine tu_iinc F dX12_copies_27 hl (k := 4) rfl (by decide) ki_1 (by omega) (fun z21 ls hz21 hl => ?_)
        have hl : lv_has ls 5 [(4, .int z21), (0, .ref a0), (1, .int x1), (2, .int x2), (3, .int x3)] := hl
        refine lv_goto (tgt := 3) F.1 F.2.1 dX12_copies_30 (by decide) ?_
        exact ih3 f16 _ _ _ z21 (by omega) (by omega) (fun q hq => if e : q = x4_3.toInt.toNat then (by rw [e16a, if_pos (by omega), ev15, hA26 _ (by omega), show z14.toInt.toNat = x1.toInt.toNat + q by omega]) else (by rw [e16a, if_neg (by omega)]; exact ip3_0 q (by omega))) (by omega) h hA hk hb3 (lv_sub hl [1, 2, 3, 4, 0] rfl)
  have hb3 : fr L R [] [61] f0 f0 := fr.rf
  exact j_3 (((25710 - z1.toInt)).toNat + 1) f0 _ _ _ z1 (by omega) (by omega) (fun q hq => absurd hq (by omega)) (by omega) h hA hk hb3 (lv_sub hl [1, 2, 3, 4, 0] rfl)
theorem dX12_fresh_0 : decode cX12_fresh 0 = .ok (.sipush 1542, 3) := by decide +kernel
theorem dX12_fresh_3 : decode cX12_fresh 3 = .ok (.istore_n 2, 1) := by decide +kernel
theorem dX12_fresh_4 : decode cX12_fresh 4 = .ok (.iload_n 2, 1) := by decide +kernel
theorem dX12_fresh_5 : decode cX12_fresh 5 = .ok (.sipush 1567, 3) := by decide +kernel
theorem dX12_fresh_8 : decode cX12_fresh 8 = .ok (.if_icmp .gt 18, 3) := by decide +kernel
theorem dX12_fresh_26 : decode cX12_fresh 26 = .ok (.return_, 1) := by decide +kernel
theorem dX12_fresh_11 : decode cX12_fresh 11 = .ok (.aload_n 0, 1) := by decide +kernel
theorem dX12_fresh_12 : decode cX12_fresh 12 = .ok (.getfield 7, 3) := by decide +kernel
theorem dX12_fresh_15 : decode cX12_fresh 15 = .ok (.iload_n 1, 1) := by decide +kernel
theorem dX12_fresh_16 : decode cX12_fresh 16 = .ok (.iload_n 2, 1) := by decide +kernel
theorem dX12_fresh_17 : decode cX12_fresh 17 = .ok (.iadd, 1) := by decide +kernel
theorem dX12_fresh_18 : decode cX12_fresh 18 = .ok (.lconst 0, 1) := by decide +kernel
theorem dX12_fresh_19 : decode cX12_fresh 19 = .ok (.lastore, 1) := by decide +kernel
theorem dX12_fresh_20 : decode cX12_fresh 20 = .ok (.iinc 2 1, 3) := by decide +kernel
theorem dX12_fresh_23 : decode cX12_fresh 23 = .ok (.goto (-19), 3) := by decide +kernel
def rm_X12_fresh : Room := { frames := 0, cells := 0, slots := 0, locals := 0 }
set_option maxHeartbeats 4000000 in
set_option maxRecDepth 100000 in
theorem s_X12_fresh (l : Launch) (D : va_G) (cy : Nat → ClassId) (L : List Nat) (R O : Nat → Nat) (f0 : Nat → va_E) (a0 : Nat) (m_a0 : a0 ∈ L) (r_a0 : R a0 = 12) (x1 : Int32) (b1 : 0 ≤ x1.toInt ∧ x1.toInt ≤ 24060) (GA : Nat) (m_GA : GA ∈ L) (r_GA : R GA = 61) (t_GA : fld f0 a0 0 = .ref GA) (GP : Nat) (m_GP : GP ∈ L) (r_GP : R GP = 69) (t_GP : fld f0 a0 22 = .ref GP) (GL : Nat) (m_GL : GL ∈ L) (r_GL : R GL = 70) (t_GL : fld f0 a0 23 = .ref GL) (GT : Nat) (m_GT : GT ∈ L) (r_GT : R GT = 64) (t_GT : fld f0 a0 6 = .ref GT) (pre0 : isB x1.toInt.toNat) : ∀ sz, Met l yX12_fresh (Cond.code yX12_fresh cX12_fresh 3 none :: wsL_law) rm_X12_fresh (va_Pc [.ref a0, .int x1] (tPZ D cy L R (TT cy L R) f0 sz)) (va_Qv (fun f1 => fr L R [] [61] f0 f1 ∧ KW (x1.toInt.toNat + 1542) (x1.toInt.toNat + 1568) GA f0 f1) (tB D (tA L sz) L R (TT cy L R)) (tA L sz)) 0 0 (tA L sz) := by
  refine tw_enterv (by decide +kernel) rfl (Nat.le_of_ble_eq_true rfl) ?_
  intro p e s m below meth c A ls args Q F hZ h hl hret
  have hl : lv_has ls 3 [(0, .ref a0), (1, .int x1)] := hl
  have hk : fr L R [] [61] f0 f0 := fr.rf
  have hB := pre0
  have hA : KW (x1.toInt.toNat + 1542) (x1.toInt.toNat + 1568) GA f0 f0 := KW.rf
  refine tw_sipush F dX12_fresh_0 ks_1542 (fun z1 hz1 => ?_)
  refine lv_istore_n (lv' := [(2, .int z1), (0, .ref a0), (1, .int x1)]) F.1 F.2.1 dX12_fresh_3 rfl hl (by decide) rfl (fun ls hl => ?_)
  have j_4 : ∀ (n4 : Nat) (f2 : Nat → va_E) (H : Heap) (locs : List Loc) (ls : Array Slot) (x2_4 : Int32), 1542 ≤ x2_4.toInt → x2_4.toInt ≤ 1568 → ((1568 - x2_4.toInt)).toNat < n4 → tS D cy A s.heap L R (TT cy L R) f2 s H locs → KW (x1.toInt.toNat + 1542) (x1.toInt.toNat + 1568) GA f0 f2 → fr L R [] [61] f0 f2 → fr L R [] [61] f0 f2 → lv_has ls 3 [(0, .ref a0), (1, .int x1), (2, .int x2_4)] → W p l e rm_X12_fresh s m args below meth c H locs 0 0 Q (F0 m 4 ls []) := by
    intro n4
    induction n4 with
    | zero =>
      intro f2 H locs ls x2_4 b3 b4 b5 h hA hk hb4 hl
      exfalso
      omega
    | succ n4 ih4 =>
      intro f2 H locs ls x2_4 b3 b4 b5 h hA hk hb4 hl
      have e6 : fld f2 a0 0 = .ref GA := (hb4.efl m_a0 r_a0 rfl).trans t_GA
      have e7 : fld f2 a0 22 = .ref GP := (hb4.efl m_a0 r_a0 rfl).trans t_GP
      have e8 : fld f2 a0 23 = .ref GL := (hb4.efl m_a0 r_a0 rfl).trans t_GL
      have e9 : fld f2 a0 6 = .ref GT := (hb4.efl m_a0 r_a0 rfl).trans t_GT
      refine lv_iload_n F.1 F.2.1 dX12_fresh_4 rfl (lv_at hl 2 rfl) ?_
      refine tw_sipush F dX12_fresh_5 ks_1567 (fun z10 hz10 => ?_)
      refine tw_icmp_gt (tgt := 26) F dX12_fresh_8 (by decide) (fun b11 => ?_) (fun b11 => ?_)
      · exact hret f2 _ _ _ _ dX12_fresh_26 ⟨hk, hA⟩ h
      · refine lv_aload_n F.1 F.2.1 dX12_fresh_11 rfl (lv_at hl 0 rfl) ?_
        refine g_12_7 F h m_a0 r_a0 dX12_fresh_12 (fun o12 m_o12 r_o12 ho12 => ?_)
        obtain rfl := (fld_inj e6 ho12).symm
        refine lv_iload_n F.1 F.2.1 dX12_fresh_15 rfl (lv_at hl 1 rfl) ?_
        refine lv_iload_n F.1 F.2.1 dX12_fresh_16 rfl (lv_at hl 2 rfl) ?_
        refine tu_iadd F dX12_fresh_17 (by omega) (fun z13 hz13 => ?_)
        refine tu_lconst F dX12_fresh_18 (by decide) (fun z14 (hz14 : z14.toInt = 0) => ?_)
        refine se_61 F h m_GA r_GA (by omega) (atP_0 (by omega)) dX12_fresh_19 (fun f15 H locs e15a e15b hf15 h => ?_)
        have hA : KW (x1.toInt.toNat + 1542) (x1.toInt.toNat + 1568) GA f0 f15 := hA.st e15a (by omega)
        have hk : fr L R [] [61] f0 f15 := hk.tr hf15 rfl rfl
        have hb4 : fr L R [] [61] f0 f15 := hb4.tr hf15 rfl rfl
        have e16 : fld f15 a0 0 = .ref GA := (hf15.efl m_a0 r_a0 rfl).trans e6
        have e17 : fld f15 a0 22 = .ref GP := (hf15.efl m_a0 r_a0 rfl).trans e7
        have e18 : fld f15 a0 23 = .ref GL := (hf15.efl m_a0 r_a0 rfl).trans e8
        have e19 : fld f15 a0 6 = .ref GT := (hf15.efl m_a0 r_a0 rfl).trans e9
        refine tu_iinc F dX12_fresh_20 hl (k := 2) rfl (by decide) ki_1 (by omega) (fun z20 ls hz20 hl => ?_)
        have hl : lv_has ls 3 [(2, .int z20), (0, .ref a0), (1, .int x1)] := hl
        refine lv_goto (tgt := 4) F.1 F.2.1 dX12_fresh_23 (by decide) ?_
        exact ih4 f15 _ _ _ z20 (by omega) (by omega) (by omega) h hA hk hb4 (lv_sub hl [1, 2, 0] rfl)
  have hb4 : fr L R [] [61] f0 f0 := fr.rf
  exact j_4 (((1568 - z1.toInt)).toNat + 1) f0 _ _ _ z1 (by omega) (by omega) (by omega) h hA hk hb4 (lv_sub hl [1, 2, 0] rfl)
theorem dX12_works_0 : decode cX12_works 0 = .ok (.aload_n 0, 1) := by decide +kernel
theorem dX12_works_1 : decode cX12_works 1 = .ok (.sipush 1650, 3) := by decide +kernel
theorem dX12_works_4 : decode cX12_works 4 = .ok (.iload_n 1, 1) := by decide +kernel
theorem dX12_works_5 : decode cX12_works 5 = .ok (.imul, 1) := by decide +kernel
theorem dX12_works_6 : decode cX12_works 6 = .ok (.iload_n 2, 1) := by decide +kernel
theorem dX12_works_7 : decode cX12_works 7 = .ok (.sipush 1650, 3) := by decide +kernel
theorem dX12_works_10 : decode cX12_works 10 = .ok (.invokevirtual 294, 3) := by decide +kernel
theorem mw_749 : Cond.methodLink RX12 294 yX12_copies ∈ wsL_law := inr_32 _ (List.mem_of_getElem? (i := 5) rfl)
theorem mw_752 : Cond.code yX12_copies cX12_copies 5 none ∈ wsL_law := inr_32 _ (List.mem_of_getElem? (i := 8) rfl)
theorem yk_X12_copies : xY yX12_copies RX12 cX12_copies 5 none 3 := ⟨⟨rfl, by decide +kernel, by decide +kernel, by decide +kernel⟩, mw_5, mw_752⟩
theorem mw_750 : Cond.instanceMethod yX12_copies ∈ wsL_law := inr_32 _ (List.mem_of_getElem? (i := 6) rfl)
theorem mw_751 : Cond.selects RX12 yX12_copies yX12_copies ∈ wsL_law := inr_32 _ (List.mem_of_getElem? (i := 7) rfl)
theorem dX12_works_13 : decode cX12_works 13 = .ok (.aload_n 0, 1) := by decide +kernel
theorem dX12_works_14 : decode cX12_works 14 = .ok (.iload_n 2, 1) := by decide +kernel
theorem dX12_works_15 : decode cX12_works 15 = .ok (.invokevirtual 291, 3) := by decide +kernel
theorem mw_745 : Cond.methodLink RX12 291 yX12_fresh ∈ wsL_law := inr_32 _ (List.mem_of_getElem? (i := 1) rfl)
theorem mw_748 : Cond.code yX12_fresh cX12_fresh 3 none ∈ wsL_law := inr_32 _ (List.mem_of_getElem? (i := 4) rfl)
theorem yk_X12_fresh : xY yX12_fresh RX12 cX12_fresh 3 none 1 := ⟨⟨rfl, by decide +kernel, by decide +kernel, by decide +kernel⟩, mw_5, mw_748⟩
theorem mw_746 : Cond.instanceMethod yX12_fresh ∈ wsL_law := inr_32 _ (List.mem_of_getElem? (i := 2) rfl)
theorem mw_747 : Cond.selects RX12 yX12_fresh yX12_fresh ∈ wsL_law := inr_32 _ (List.mem_of_getElem? (i := 3) rfl)
theorem dX12_works_18 : decode cX12_works 18 = .ok (.return_, 1) := by decide +kernel
def rm_X12_works : Room := { frames := 1, cells := 0, slots := 0, locals := 24 }
set_option maxHeartbeats 4000000 in
set_option maxRecDepth 100000 in
theorem s_X12_works (l : Launch) (D : va_G) (cy : Nat → ClassId) (L : List Nat) (R O : Nat → Nat) (f0 : Nat → va_E) (a0 : Nat) (m_a0 : a0 ∈ L) (r_a0 : R a0 = 12) (x1 : Int32) (b1 : 0 ≤ x1.toInt ∧ x1.toInt ≤ 2) (x2 : Int32) (b2 : 22410 ≤ x2.toInt ∧ x2.toInt ≤ 24060) (GA : Nat) (m_GA : GA ∈ L) (r_GA : R GA = 61) (t_GA : fld f0 a0 0 = .ref GA) (GP : Nat) (m_GP : GP ∈ L) (r_GP : R GP = 69) (t_GP : fld f0 a0 22 = .ref GP) (GL : Nat) (m_GL : GL ∈ L) (r_GL : R GL = 70) (t_GL : fld f0 a0 23 = .ref GL) (GT : Nat) (m_GT : GT ∈ L) (r_GT : R GT = 64) (t_GT : fld f0 a0 6 = .ref GT) (pre0 : isB x2.toInt.toNat) (pre1 : RB GA (1650 * x1.toInt.toNat) f0) : ∀ sz, Met l yX12_works (Cond.code yX12_works cX12_works 3 none :: wsL_law) rm_X12_works (va_Pc [.ref a0, .int x1, .int x2] (tPZ D cy L R (TT cy L R) f0 sz)) (va_Qv (fun f1 => fr L R [] [61] f0 f1 ∧ KW (x2.toInt.toNat) (x2.toInt.toNat + 1650) GA f0 f1 ∧ RB GA x2.toInt.toNat f1) (tB D (tA L sz) L R (TT cy L R)) (tA L sz)) 0 0 (tA L sz) := by
  refine tw_enterv (by decide +kernel) rfl (Nat.le_of_ble_eq_true rfl) ?_
  intro p e s m below meth c A ls args Q F hZ h hl hret
  have hl : lv_has ls 3 [(0, .ref a0), (1, .int x1), (2, .int x2)] := hl
  have hk : fr L R [] [61] f0 f0 := fr.rf
  have hA : KW (x2.toInt.toNat) (x2.toInt.toNat + 1650) GA f0 f0 := KW.rf
  refine lv_aload_n F.1 F.2.1 dX12_works_0 rfl (lv_at hl 0 rfl) ?_
  refine tw_sipush F dX12_works_1 ks_1650 (fun z1 hz1 => ?_)
  refine lv_iload_n F.1 F.2.1 dX12_works_4 rfl (lv_at hl 1 rfl) ?_
  refine tu_imull F dX12_works_5 hz1 (by omega) (fun z2 hz2 => ?_)
  refine lv_iload_n F.1 F.2.1 dX12_works_6 rfl (lv_at hl 2 rfl) ?_
  refine tw_sipush F dX12_works_7 ks_1650 (fun z3 hz3 => ?_)
  refine tw_Vv (As := [.int z2, .int x2, .int z3]) F hZ h yk_X12_copies mw_749 mw_750 mw_751 (s_X12_copies l D cy L R O f0 a0 m_a0 r_a0 z2 ⟨by omega, by omega⟩ x2 ⟨by omega, by omega⟩ z3 ⟨by omega, by omega⟩ GA m_GA r_GA t_GA GP m_GP r_GP t_GP GL m_GL r_GL t_GL GT m_GT r_GT t_GT (by rw [show z3.toInt.toNat = 1650 by omega]; exact CPc_B (isB_e (isB_s (s := x1.toInt.toNat) (by omega)) (by omega)) pre0) (by omega) (by omega) (by omega)) rfl rfl m_a0 r_a0 (fun e q => (T_12 e).mp q) rfl hl.1 rfl (Nat.le_of_ble_eq_true rfl) ⟨Nat.le_of_ble_eq_true rfl, Nat.le_of_ble_eq_true rfl⟩ ⟨Nat.le_of_ble_eq_true rfl, Nat.le_of_ble_eq_true rfl⟩ dX12_works_10 (fun f4 H locs hp4 h => ?_)
  obtain ⟨hf4, hv5p0, hv5p1⟩ := hp4
  have hA : KW (x2.toInt.toNat) (x2.toInt.toNat + 1650) GA f0 f4 := hA.sub hv5p0 (by omega) (by omega)
  have hk : fr L R [] [61] f0 f4 := hk.tr hf4 rfl rfl
  have e6 : fld f4 a0 0 = .ref GA := (hf4.efl m_a0 r_a0 rfl).trans t_GA
  have e7 : fld f4 a0 22 = .ref GP := (hf4.efl m_a0 r_a0 rfl).trans t_GP
  have e8 : fld f4 a0 23 = .ref GL := (hf4.efl m_a0 r_a0 rfl).trans t_GL
  have e9 : fld f4 a0 6 = .ref GT := (hf4.efl m_a0 r_a0 rfl).trans t_GT
  have hRW : RB GA x2.toInt.toNat f4 := RB.cp (a := z2.toInt.toNat) (by rw [show z2.toInt.toNat = 1650 * x1.toInt.toNat by omega]; exact pre1) (fun k hk => hv5p1 k (by omega))
  refine lv_aload_n F.1 F.2.1 dX12_works_13 rfl (lv_at hl 0 rfl) ?_
  refine lv_iload_n F.1 F.2.1 dX12_works_14 rfl (lv_at hl 2 rfl) ?_
  refine tw_Vv (As := [.int x2]) F hZ h yk_X12_fresh mw_745 mw_746 mw_747 (s_X12_fresh l D cy L R O f4 a0 m_a0 r_a0 x2 ⟨by omega, by omega⟩ GA m_GA r_GA e6 GP m_GP r_GP e7 GL m_GL r_GL e8 GT m_GT r_GT e9 pre0) rfl rfl m_a0 r_a0 (fun e q => (T_12 e).mp q) rfl hl.1 rfl (Nat.le_of_ble_eq_true rfl) ⟨Nat.le_of_ble_eq_true rfl, Nat.le_of_ble_eq_true rfl⟩ ⟨Nat.le_of_ble_eq_true rfl, Nat.le_of_ble_eq_true rfl⟩ dX12_works_15 (fun f10 H locs hp10 h => ?_)
  obtain ⟨hf10, hv11p0⟩ := hp10
  have hA : KW (x2.toInt.toNat) (x2.toInt.toNat + 1650) GA f0 f10 := hA.sub hv11p0 (by omega) (by omega)
  have hRW : RB GA x2.toInt.toNat f10 := hRW.kw hv11p0 (by omega)
  have hk : fr L R [] [61] f0 f10 := hk.tr hf10 rfl rfl
  have e12 : fld f10 a0 0 = .ref GA := (hf10.efl m_a0 r_a0 rfl).trans e6
  have e13 : fld f10 a0 22 = .ref GP := (hf10.efl m_a0 r_a0 rfl).trans e7
  have e14 : fld f10 a0 23 = .ref GL := (hf10.efl m_a0 r_a0 rfl).trans e8
  have e15 : fld f10 a0 6 = .ref GT := (hf10.efl m_a0 r_a0 rfl).trans e9
  exact hret f10 _ _ _ _ dX12_works_18 ⟨hk, hA, hRW⟩ h
theorem dX12_begin_0 : decode cX12_begin 0 = .ok (.aload_n 0, 1) := by decide +kernel
theorem dX12_begin_1 : decode cX12_begin 1 = .ok (.iload_n 1, 1) := by decide +kernel
theorem dX12_begin_2 : decode cX12_begin 2 = .ok (.invokevirtual 282, 3) := by decide +kernel
theorem dX12_begin_5 : decode cX12_begin 5 = .ok (.ifCond .ne 9, 3) := by decide +kernel
theorem dX12_begin_14 : decode cX12_begin 14 = .ok (.aload_n 0, 1) := by decide +kernel
theorem dX12_begin_15 : decode cX12_begin 15 = .ok (.sipush 1650, 3) := by decide +kernel
theorem dX12_begin_18 : decode cX12_begin 18 = .ok (.iload_n 1, 1) := by decide +kernel
theorem dX12_begin_19 : decode cX12_begin 19 = .ok (.imul, 1) := by decide +kernel
theorem dX12_begin_20 : decode cX12_begin 20 = .ok (.invokevirtual 291, 3) := by decide +kernel
theorem dX12_begin_23 : decode cX12_begin 23 = .ok (.aload_n 0, 1) := by decide +kernel
theorem dX12_begin_24 : decode cX12_begin 24 = .ok (.iconst 0, 1) := by decide +kernel
theorem dX12_begin_25 : decode cX12_begin 25 = .ok (.invokevirtual 131, 3) := by decide +kernel
theorem dX12_begin_28 : decode cX12_begin 28 = .ok (.ireturn, 1) := by decide +kernel
theorem dX12_begin_8 : decode cX12_begin 8 = .ok (.aload_n 0, 1) := by decide +kernel
theorem dX12_begin_9 : decode cX12_begin 9 = .ok (.iconst 1, 1) := by decide +kernel
theorem dX12_begin_10 : decode cX12_begin 10 = .ok (.invokevirtual 131, 3) := by decide +kernel
theorem dX12_begin_13 : decode cX12_begin 13 = .ok (.ireturn, 1) := by decide +kernel
def rm_X12_begin : Room := { frames := 1, cells := 0, slots := 0, locals := 22 }
set_option maxHeartbeats 4000000 in
set_option maxRecDepth 100000 in
theorem s_X12_begin (l : Launch) (D : va_G) (cy : Nat → ClassId) (L : List Nat) (R O : Nat → Nat) (f0 : Nat → va_E) (a0 : Nat) (m_a0 : a0 ∈ L) (r_a0 : R a0 = 12) (x1 : Int32) (GA : Nat) (m_GA : GA ∈ L) (r_GA : R GA = 61) (t_GA : fld f0 a0 0 = .ref GA) (GP : Nat) (m_GP : GP ∈ L) (r_GP : R GP = 69) (t_GP : fld f0 a0 22 = .ref GP) (GL : Nat) (m_GL : GL ∈ L) (r_GL : R GL = 70) (t_GL : fld f0 a0 23 = .ref GL) (GT : Nat) (m_GT : GT ∈ L) (r_GT : R GT = 64) (t_GT : fld f0 a0 6 = .ref GT) (pre0 : RBA GA f0) (pre1 : GZ GP GL f0) : ∀ sz, Met l yX12_begin (Cond.code yX12_begin cX12_begin 2 (some .boolean) :: wsL_law) rm_X12_begin (va_Pc [.ref a0, .int x1] (tPZ D cy L R (TT cy L R) f0 sz)) (va_Qi (fun (r : Int32) f1 => fr L R [(12, 1)] [12, 61] f0 f1 ∧ 0 ≤ r.toInt ∧ r.toInt ≤ 1 ∧ RBA GA f1 ∧ GZ GP GL f1) (tB D (tA L sz) L R (TT cy L R)) (tA L sz)) 0 0 (tA L sz) := by
  refine tw_enteri (by decide +kernel) rfl (Nat.le_of_ble_eq_true rfl) ?_
  intro p e s m below meth c A ls args Q F hZ h hl hret
  have hl : lv_has ls 2 [(0, .ref a0), (1, .int x1)] := hl
  have hk : fr L R [(12, 1)] [12, 61] f0 f0 := fr.rf
  have hR := pre0
  have hX := pre1
  refine lv_aload_n F.1 F.2.1 dX12_begin_0 rfl (lv_at hl 0 rfl) ?_
  refine lv_iload_n F.1 F.2.1 dX12_begin_1 rfl (lv_at hl 1 rfl) ?_
  refine tw_Vi (As := [.int x1]) F hZ h yk_X12_isScript mw_635 mw_636 mw_637 (s_X12_isScript l D cy L R O f0 a0 m_a0 r_a0 x1) rfl rfl m_a0 r_a0 (fun e q => (T_12 e).mp q) rfl hl.1 rfl (Nat.le_of_ble_eq_true rfl) ⟨Nat.le_of_ble_eq_true rfl, Nat.le_of_ble_eq_true rfl⟩ ⟨Nat.le_of_ble_eq_true rfl, Nat.le_of_ble_eq_true rfl⟩ dX12_begin_2 (fun v2 f1 H locs hp1 h => ?_)
  obtain ⟨rfl, hv2a, hv2b, hv2p0⟩ := hp1
  refine tw_if_ne (tgt := 14) F dX12_begin_5 (by decide) (fun b3 => ?_) (fun b3 => ?_)
  · refine lv_aload_n F.1 F.2.1 dX12_begin_14 rfl (lv_at hl 0 rfl) ?_
    refine tw_sipush F dX12_begin_15 ks_1650 (fun z4 hz4 => ?_)
    refine lv_iload_n F.1 F.2.1 dX12_begin_18 rfl (lv_at hl 1 rfl) ?_
    refine tu_imull F dX12_begin_19 hz4 (by omega) (fun z5 hz5 => ?_)
    refine tw_Vv (As := [.int z5]) F hZ h yk_X12_fresh mw_745 mw_746 mw_747 (s_X12_fresh l D cy L R O f0 a0 m_a0 r_a0 z5 ⟨by omega, by omega⟩ GA m_GA r_GA t_GA GP m_GP r_GP t_GP GL m_GL r_GL t_GL GT m_GT r_GT t_GT (isB_e (isB_s (show x1.toInt.toNat ≤ 2 by omega)) (by omega))) rfl rfl m_a0 r_a0 (fun e q => (T_12 e).mp q) rfl hl.1 rfl (Nat.le_of_ble_eq_true rfl) ⟨Nat.le_of_ble_eq_true rfl, Nat.le_of_ble_eq_true rfl⟩ ⟨Nat.le_of_ble_eq_true rfl, Nat.le_of_ble_eq_true rfl⟩ dX12_begin_20 (fun f6 H locs hp6 h => ?_)
    obtain ⟨hf6, hv7p0⟩ := hp6
    have hR : RBA GA f6 := hR.kw hv7p0 (Or.inr (Or.inr ⟨x1.toInt.toNat, by omega, by omega, by omega⟩))
    have hX : GZ GP GL f6 := hX.fm hf6 m_GP r_GP m_GL r_GL (by decide +kernel) (by decide +kernel)
    have hk : fr L R [(12, 1)] [12, 61] f0 f6 := hk.tr hf6 rfl rfl
    have e8 : fld f6 a0 0 = .ref GA := (hf6.efl m_a0 r_a0 rfl).trans t_GA
    have e9 : fld f6 a0 22 = .ref GP := (hf6.efl m_a0 r_a0 rfl).trans t_GP
    have e10 : fld f6 a0 23 = .ref GL := (hf6.efl m_a0 r_a0 rfl).trans t_GL
    have e11 : fld f6 a0 6 = .ref GT := (hf6.efl m_a0 r_a0 rfl).trans t_GT
    refine lv_aload_n F.1 F.2.1 dX12_begin_23 rfl (lv_at hl 0 rfl) ?_
    refine tw_iconst F dX12_begin_24 ki_0 (fun z12 hz12 => ?_)
    refine tw_Vi (As := [.int z12]) F hZ h yk_X12_is mw_286 mw_287 mw_288 (s_X12_is l D cy L R O f6 a0 m_a0 r_a0 z12 ⟨by omega, by omega⟩) rfl rfl m_a0 r_a0 (fun e q => (T_12 e).mp q) rfl hl.1 rfl (Nat.le_of_ble_eq_true rfl) ⟨Nat.le_of_ble_eq_true rfl, Nat.le_of_ble_eq_true rfl⟩ ⟨Nat.le_of_ble_eq_true rfl, Nat.le_of_ble_eq_true rfl⟩ dX12_begin_25 (fun v14 f13 H locs hp13 h => ?_)
    obtain ⟨hf13, hv14a, hv14b, hv14p0⟩ := hp13
    have hR : RBA GA f13 := hR.fm hf13 m_GA r_GA (by decide +kernel)
    have hX : GZ GP GL f13 := hX.fm hf13 m_GP r_GP m_GL r_GL (by decide +kernel) (by decide +kernel)
    have hk : fr L R [(12, 1)] [12, 61] f0 f13 := hk.tr hf13 rfl rfl
    have e15 : fld f13 a0 0 = .ref GA := (hf13.efl m_a0 r_a0 rfl).trans e8
    have e16 : fld f13 a0 22 = .ref GP := (hf13.efl m_a0 r_a0 rfl).trans e9
    have e17 : fld f13 a0 23 = .ref GL := (hf13.efl m_a0 r_a0 rfl).trans e10
    have e18 : fld f13 a0 6 = .ref GT := (hf13.efl m_a0 r_a0 rfl).trans e11
    exact hret f13 _ _ _ _ v14 dX12_begin_28 (tw_nb (by omega)) ⟨hk, by omega, by omega, hR, hX⟩ h
  · refine lv_aload_n F.1 F.2.1 dX12_begin_8 rfl (lv_at hl 0 rfl) ?_
    refine tw_iconst F dX12_begin_9 ki_1 (fun z19 hz19 => ?_)
    refine tw_Vi (As := [.int z19]) F hZ h yk_X12_is mw_286 mw_287 mw_288 (s_X12_is l D cy L R O f0 a0 m_a0 r_a0 z19 ⟨by omega, by omega⟩) rfl rfl m_a0 r_a0 (fun e q => (T_12 e).mp q) rfl hl.1 rfl (Nat.le_of_ble_eq_true rfl) ⟨Nat.le_of_ble_eq_true rfl, Nat.le_of_ble_eq_true rfl⟩ ⟨Nat.le_of_ble_eq_true rfl, Nat.le_of_ble_eq_true rfl⟩ dX12_begin_10 (fun v21 f20 H locs hp20 h => ?_)
    obtain ⟨hf20, hv21a, hv21b, hv21p0⟩ := hp20
    have hR : RBA GA f20 := hR.fm hf20 m_GA r_GA (by decide +kernel)
    have hX : GZ GP GL f20 := hX.fm hf20 m_GP r_GP m_GL r_GL (by decide +kernel) (by decide +kernel)
    have hk : fr L R [(12, 1)] [12, 61] f0 f20 := hk.tr hf20 rfl rfl
    have e22 : fld f20 a0 0 = .ref GA := (hf20.efl m_a0 r_a0 rfl).trans t_GA
    have e23 : fld f20 a0 22 = .ref GP := (hf20.efl m_a0 r_a0 rfl).trans t_GP
    have e24 : fld f20 a0 23 = .ref GL := (hf20.efl m_a0 r_a0 rfl).trans t_GL
    have e25 : fld f20 a0 6 = .ref GT := (hf20.efl m_a0 r_a0 rfl).trans t_GT
    exact hret f20 _ _ _ _ v21 dX12_begin_13 (tw_nb (by omega)) ⟨hk, by omega, by omega, hR, hX⟩ h
theorem dX12_mark_0 : decode cX12_mark 0 = .ok (.aload_n 0, 1) := by decide +kernel
theorem dX12_mark_1 : decode cX12_mark 1 = .ok (.getfield 460, 3) := by decide +kernel
theorem mw_1576 : Cond.fieldLink RX12 460 "AskBackModel" "marks" "I" ∈ wsL_law := inr_66 _ (List.mem_of_getElem? (i := 16) rfl)
section
variable {p : Program} {l : Launch} {e : Env} {R0 : Room} {s : State} {m : MethodId} {args : Array Value} {below : List Frame} {meth : Method} {c : Code} {H H0 : Heap} {locs : List Loc} {cells slots : Nat} {Q : State → Prop} {cc : ByteArray} {nL : Nat} {D : va_G} {cy : Nat → ClassId} {A : Nat → Prop} {L : List Nat} {R : Nat → Nat} {f : Nat → va_E} {pc : Nat} {ls : Array Slot} {rest : List Value} {a : Nat}
theorem g_12_460 (F : CallFix p m c cc nL s args wsL_law RX12) (h : tS D cy A H0 L R (TT cy L R) f s H locs) (ha : a ∈ L) (hr : R a = 12) (hdg : decode cc pc = .ok (.getfield 460, 3)) (kk : ∀ x : Int32, x.toInt = fi f a 64 → 0 ≤ x.toInt → x.toInt ≤ 3 → W p l e R0 s m args below meth c H locs cells slots Q (F0 m (pc + 3) ls (.int x :: rest))) : W p l e R0 s m args below meth c H locs cells slots Q (F0 m pc ls (.ref a :: rest)) := tu_geti F h ha hr (fun e q => (T_12 e).mp q) rfl inlX12 rfl (Nat.le_of_ble_eq_true rfl) mw_1576 hdg (fun x h1 h2 h3 => kk x h1 h2 h3)
end
theorem dX12_mark_4 : decode cX12_mark 4 = .ok (.iconst 3, 1) := by decide +kernel
theorem dX12_mark_5 : decode cX12_mark 5 = .ok (.if_icmp .ne 9, 3) := by decide +kernel
theorem dX12_mark_14 : decode cX12_mark 14 = .ok (.aload_n 0, 1) := by decide +kernel
theorem dX12_mark_15 : decode cX12_mark 15 = .ok (.dup, 1) := by decide +kernel
theorem dX12_mark_16 : decode cX12_mark 16 = .ok (.getfield 460, 3) := by decide +kernel
theorem dX12_mark_19 : decode cX12_mark 19 = .ok (.iconst 1, 1) := by decide +kernel
theorem dX12_mark_20 : decode cX12_mark 20 = .ok (.iadd, 1) := by decide +kernel
theorem dX12_mark_21 : decode cX12_mark 21 = .ok (.putfield 460, 3) := by decide +kernel
section
variable {p : Program} {l : Launch} {e : Env} {R0 : Room} {s : State} {m : MethodId} {args : Array Value} {below : List Frame} {meth : Method} {c : Code} {H H0 : Heap} {locs : List Loc} {cells slots : Nat} {Q : State → Prop} {cc : ByteArray} {nL : Nat} {D : va_G} {cy : Nat → ClassId} {A : Nat → Prop} {L : List Nat} {R : Nat → Nat} {f : Nat → va_E} {pc : Nat} {ls : Array Slot} {rest : List Value} {a : Nat}
theorem p_12_460 (F : CallFix p m c cc nL s args wsL_law RX12) (h : tS D cy A H0 L R (TT cy L R) f s H locs) {x : Int32} (ha : a ∈ L) (hr : R a = 12) (hv : 0 ≤ x.toInt ∧ x.toInt ≤ 3) (hdg : decode cc pc = .ok (.putfield 460, 3)) (kk : ∀ (f1 : Nat → va_E) (H1 : Heap) (locs1 : List Loc), fi f1 a 64 = x.toInt → fr L R [(12, 64)] [12] f f1 → tS D cy A H0 L R (TT cy L R) f1 s H1 locs1 → W p l e R0 s m args below meth c H1 locs1 cells slots Q (F0 m (pc + 3) ls (rest))) : W p l e R0 s m args below meth c H locs cells slots Q (F0 m pc ls (.int x :: .ref a :: rest)) := tu_puti (k := 64) F h ha hr T_12 rfl hv.1 hv.2 inlX12 tyX12_ok nmX12 rfl (Nat.le_of_ble_eq_true rfl) mw_1576 rfl rfl rfl hdg kk
end
theorem dX12_mark_24 : decode cX12_mark 24 = .ok (.aload_n 0, 1) := by decide +kernel
theorem dX12_mark_25 : decode cX12_mark 25 = .ok (.iconst 0, 1) := by decide +kernel
theorem dX12_mark_26 : decode cX12_mark 26 = .ok (.sipush 5190, 3) := by decide +kernel
theorem ks_5190 : (Int16.ofInt 5190).toInt32.toInt = 5190 := by decide
theorem dX12_mark_29 : decode cX12_mark 29 = .ok (.aload_n 0, 1) := by decide +kernel
theorem dX12_mark_30 : decode cX12_mark 30 = .ok (.getfield 460, 3) := by decide +kernel
theorem dX12_mark_33 : decode cX12_mark 33 = .ok (.imul, 1) := by decide +kernel
theorem dX12_mark_34 : decode cX12_mark 34 = .ok (.sipush 5190, 3) := by decide +kernel
theorem dX12_mark_37 : decode cX12_mark 37 = .ok (.invokevirtual 294, 3) := by decide +kernel
theorem dX12_mark_40 : decode cX12_mark 40 = .ok (.aload_n 0, 1) := by decide +kernel
theorem dX12_mark_41 : decode cX12_mark 41 = .ok (.aload_n 0, 1) := by decide +kernel
theorem dX12_mark_42 : decode cX12_mark 42 = .ok (.getfield 460, 3) := by decide +kernel
theorem dX12_mark_45 : decode cX12_mark 45 = .ok (.invokevirtual 209, 3) := by decide +kernel
theorem dX12_mark_48 : decode cX12_mark 48 = .ok (.ireturn, 1) := by decide +kernel
theorem dX12_mark_8 : decode cX12_mark 8 = .ok (.aload_n 0, 1) := by decide +kernel
theorem dX12_mark_9 : decode cX12_mark 9 = .ok (.iconst 4, 1) := by decide +kernel
theorem dX12_mark_10 : decode cX12_mark 10 = .ok (.invokevirtual 194, 3) := by decide +kernel
theorem dX12_mark_13 : decode cX12_mark 13 = .ok (.ireturn, 1) := by decide +kernel
def rm_X12_mark : Room := { frames := 1, cells := 0, slots := 0, locals := 24 }
set_option maxHeartbeats 4000000 in
set_option maxRecDepth 100000 in
theorem s_X12_mark (l : Launch) (D : va_G) (cy : Nat → ClassId) (L : List Nat) (R O : Nat → Nat) (f0 : Nat → va_E) (a0 : Nat) (m_a0 : a0 ∈ L) (r_a0 : R a0 = 12) (GA : Nat) (m_GA : GA ∈ L) (r_GA : R GA = 61) (t_GA : fld f0 a0 0 = .ref GA) (GP : Nat) (m_GP : GP ∈ L) (r_GP : R GP = 69) (t_GP : fld f0 a0 22 = .ref GP) (GL : Nat) (m_GL : GL ∈ L) (r_GL : R GL = 70) (t_GL : fld f0 a0 23 = .ref GL) (GT : Nat) (m_GT : GT ∈ L) (r_GT : R GT = 64) (t_GT : fld f0 a0 6 = .ref GT) (pre0 : RBA GA f0) (pre1 : GZ GP GL f0) : ∀ sz, Met l yX12_mark (Cond.code yX12_mark cX12_mark 1 (some .int) :: wsL_law) rm_X12_mark (va_Pc [.ref a0] (tPZ D cy L R (TT cy L R) f0 sz)) (va_Qi (fun (r : Int32) f1 => fr L R [(12, 1), (12, 64)] [12, 61] f0 f1 ∧ RBA GA f1 ∧ GZ GP GL f1) (tB D (tA L sz) L R (TT cy L R)) (tA L sz)) 0 0 (tA L sz) := by
  refine tw_enteri (by decide +kernel) rfl (Nat.le_of_ble_eq_true rfl) ?_
  intro p e s m below meth c A ls args Q F hZ h hl hret
  have hl : lv_has ls 1 [(0, .ref a0)] := hl
  have hk : fr L R [(12, 1), (12, 64)] [12, 61] f0 f0 := fr.rf
  have t_a0_marks := h.bfi m_a0 r_a0 (fun e q => (T_12 e).mp q) (k := 64) rfl
  have hR := pre0
  have hX := pre1
  refine lv_aload_n F.1 F.2.1 dX12_mark_0 rfl (lv_at hl 0 rfl) ?_
  refine g_12_460 F h m_a0 r_a0 dX12_mark_1 (fun v1 hv1 hv1a hv1b => ?_)
  refine tw_iconst F dX12_mark_4 ki_3 (fun z2 hz2 => ?_)
  refine tw_icmp_ne (tgt := 14) F dX12_mark_5 (by decide) (fun b3 => ?_) (fun b3 => ?_)
  · refine lv_aload_n F.1 F.2.1 dX12_mark_14 rfl (lv_at hl 0 rfl) ?_
    refine lv_dup F.1 F.2.1 dX12_mark_15 rfl ?_
    refine g_12_460 F h m_a0 r_a0 dX12_mark_16 (fun v4 hv4 hv4a hv4b => ?_)
    refine tw_iconst F dX12_mark_19 ki_1 (fun z5 hz5 => ?_)
    refine tu_iadd F dX12_mark_20 (by omega) (fun z6 hz6 => ?_)
    refine p_12_460 F h m_a0 r_a0 (by omega) dX12_mark_21 (fun f7 H locs e7p hf7 h => ?_)
    have hR : RBA GA f7 := hR.fm hf7 m_GA r_GA (by decide +kernel)
    have hX : GZ GP GL f7 := hX.fm hf7 m_GP r_GP m_GL r_GL (by decide +kernel) (by decide +kernel)
    have hk : fr L R [(12, 1), (12, 64)] [12, 61] f0 f7 := hk.tr hf7 rfl rfl
    have e8 : fld f7 a0 0 = .ref GA := (hf7.efl m_a0 r_a0 rfl).trans t_GA
    have e9 : fld f7 a0 22 = .ref GP := (hf7.efl m_a0 r_a0 rfl).trans t_GP
    have e10 : fld f7 a0 23 = .ref GL := (hf7.efl m_a0 r_a0 rfl).trans t_GL
    have e11 : fld f7 a0 6 = .ref GT := (hf7.efl m_a0 r_a0 rfl).trans t_GT
    refine lv_aload_n F.1 F.2.1 dX12_mark_24 rfl (lv_at hl 0 rfl) ?_
    refine tw_iconst F dX12_mark_25 ki_0 (fun z12 hz12 => ?_)
    refine tw_sipush F dX12_mark_26 ks_5190 (fun z13 hz13 => ?_)
    refine lv_aload_n F.1 F.2.1 dX12_mark_29 rfl (lv_at hl 0 rfl) ?_
    refine g_12_460 F h m_a0 r_a0 dX12_mark_30 (fun v14 hv14 hv14a hv14b => ?_)
    refine tu_imull F dX12_mark_33 hz13 (by omega) (fun z15 hz15 => ?_)
    refine tw_sipush F dX12_mark_34 ks_5190 (fun z16 hz16 => ?_)
    have hR0 := hR
    refine tw_Vv (As := [.int z12, .int z15, .int z16]) F hZ h yk_X12_copies mw_749 mw_750 mw_751 (s_X12_copies l D cy L R O f7 a0 m_a0 r_a0 z12 ⟨by omega, by omega⟩ z15 ⟨by omega, by omega⟩ z16 ⟨by omega, by omega⟩ GA m_GA r_GA e8 GP m_GP r_GP e9 GL m_GL r_GL e10 GT m_GT r_GT e11 (by rw [show z16.toInt.toNat = 5190 by omega, show z12.toInt.toNat = 0 by omega]; exact CPc_m (m := z15.toInt.toNat / 5190) (by omega) (by omega)) (by omega) (by omega) (by omega)) rfl rfl m_a0 r_a0 (fun e q => (T_12 e).mp q) rfl hl.1 rfl (Nat.le_of_ble_eq_true rfl) ⟨Nat.le_of_ble_eq_true rfl, Nat.le_of_ble_eq_true rfl⟩ ⟨Nat.le_of_ble_eq_true rfl, Nat.le_of_ble_eq_true rfl⟩ dX12_mark_37 (fun f17 H locs hp17 h => ?_)
    obtain ⟨hf17, hv18p0, hv18p1⟩ := hp17
    have hX : GZ GP GL f17 := hX.fm hf17 m_GP r_GP m_GL r_GL (by decide +kernel) (by decide +kernel)
    have hk : fr L R [(12, 1), (12, 64)] [12, 61] f0 f17 := hk.tr hf17 rfl rfl
    have e19 : fld f17 a0 0 = .ref GA := (hf17.efl m_a0 r_a0 rfl).trans e8
    have e20 : fld f17 a0 22 = .ref GP := (hf17.efl m_a0 r_a0 rfl).trans e9
    have e21 : fld f17 a0 23 = .ref GL := (hf17.efl m_a0 r_a0 rfl).trans e10
    have e22 : fld f17 a0 6 = .ref GT := (hf17.efl m_a0 r_a0 rfl).trans e11
    have e23 : fi f17 a0 64 = fi f7 a0 64 := hf17.efi m_a0 r_a0 rfl
    have hR : RBA GA f17 := RBA.mk (m := z15.toInt.toNat / 5190) (a := z15.toInt.toNat) hR0 (by omega) (by omega) (by have q := hv18p0; rw [show z16.toInt.toNat = 5190 by omega] at q; exact q) (fun q hq => by have w := hv18p1 q (by omega); rw [show z12.toInt.toNat = 0 by omega] at w; exact w)
    refine lv_aload_n F.1 F.2.1 dX12_mark_40 rfl (lv_at hl 0 rfl) ?_
    refine lv_aload_n F.1 F.2.1 dX12_mark_41 rfl (lv_at hl 0 rfl) ?_
    refine g_12_460 F h m_a0 r_a0 dX12_mark_42 (fun v24 hv24 hv24a hv24b => ?_)
    refine tw_Vi (As := [.int v24]) F hZ h yk_X12_gives mw_499 mw_500 mw_501 (s_X12_gives l D cy L R O f17 a0 m_a0 r_a0 v24) rfl rfl m_a0 r_a0 (fun e q => (T_12 e).mp q) rfl hl.1 rfl (Nat.le_of_ble_eq_true rfl) ⟨Nat.le_of_ble_eq_true rfl, Nat.le_of_ble_eq_true rfl⟩ ⟨Nat.le_of_ble_eq_true rfl, Nat.le_of_ble_eq_true rfl⟩ dX12_mark_45 (fun v26 f25 H locs hp25 h => ?_)
    have hf25 := hp25
    have hX : GZ GP GL f25 := hX.fm hf25 m_GP r_GP m_GL r_GL (by decide +kernel) (by decide +kernel)
    have hR : RBA GA f25 := hR.fm hf25 m_GA r_GA (by decide +kernel)
    have hk : fr L R [(12, 1), (12, 64)] [12, 61] f0 f25 := hk.tr hf25 rfl rfl
    have e27 : fld f25 a0 0 = .ref GA := (hf25.efl m_a0 r_a0 rfl).trans e19
    have e28 : fld f25 a0 22 = .ref GP := (hf25.efl m_a0 r_a0 rfl).trans e20
    have e29 : fld f25 a0 23 = .ref GL := (hf25.efl m_a0 r_a0 rfl).trans e21
    have e30 : fld f25 a0 6 = .ref GT := (hf25.efl m_a0 r_a0 rfl).trans e22
    have e31 : fi f25 a0 64 = fi f17 a0 64 := hf25.efi m_a0 r_a0 rfl
    exact hret f25 _ _ _ _ v26 dX12_mark_48 rfl ⟨hk, hR, hX⟩ h
  · refine lv_aload_n F.1 F.2.1 dX12_mark_8 rfl (lv_at hl 0 rfl) ?_
    refine tw_iconst F dX12_mark_9 ki_4 (fun z32 hz32 => ?_)
    refine tw_Vi (As := [.int z32]) F hZ h yk_X12_refuse mw_452 mw_453 mw_454 (s_X12_refuse l D cy L R O f0 a0 m_a0 r_a0 z32 ⟨by omega, by omega⟩) rfl rfl m_a0 r_a0 (fun e q => (T_12 e).mp q) rfl hl.1 rfl (Nat.le_of_ble_eq_true rfl) ⟨Nat.le_of_ble_eq_true rfl, Nat.le_of_ble_eq_true rfl⟩ ⟨Nat.le_of_ble_eq_true rfl, Nat.le_of_ble_eq_true rfl⟩ dX12_mark_10 (fun v34 f33 H locs hp33 h => ?_)
    obtain ⟨hf33, hv34a, hv34b⟩ := hp33
    have hR : RBA GA f33 := hR.fm hf33 m_GA r_GA (by decide +kernel)
    have hX : GZ GP GL f33 := hX.fm hf33 m_GP r_GP m_GL r_GL (by decide +kernel) (by decide +kernel)
    have hk : fr L R [(12, 1), (12, 64)] [12, 61] f0 f33 := hk.tr hf33 rfl rfl
    have e35 : fld f33 a0 0 = .ref GA := (hf33.efl m_a0 r_a0 rfl).trans t_GA
    have e36 : fld f33 a0 22 = .ref GP := (hf33.efl m_a0 r_a0 rfl).trans t_GP
    have e37 : fld f33 a0 23 = .ref GL := (hf33.efl m_a0 r_a0 rfl).trans t_GL
    have e38 : fld f33 a0 6 = .ref GT := (hf33.efl m_a0 r_a0 rfl).trans t_GT
    have e39 : fi f33 a0 64 = fi f0 a0 64 := hf33.efi m_a0 r_a0 rfl
    exact hret f33 _ _ _ _ v34 dX12_mark_13 rfl ⟨hk, hR, hX⟩ h
theorem dX12_back_0 : decode cX12_back 0 = .ok (.aload_n 0, 1) := by decide +kernel
theorem dX12_back_1 : decode cX12_back 1 = .ok (.getfield 460, 3) := by decide +kernel
theorem dX12_back_4 : decode cX12_back 4 = .ok (.ifCond .ne 10, 3) := by decide +kernel
theorem dX12_back_14 : decode cX12_back 14 = .ok (.aload_n 0, 1) := by decide +kernel
theorem dX12_back_15 : decode cX12_back 15 = .ok (.sipush 5190, 3) := by decide +kernel
theorem dX12_back_18 : decode cX12_back 18 = .ok (.aload_n 0, 1) := by decide +kernel
theorem dX12_back_19 : decode cX12_back 19 = .ok (.getfield 460, 3) := by decide +kernel
theorem dX12_back_22 : decode cX12_back 22 = .ok (.imul, 1) := by decide +kernel
theorem dX12_back_23 : decode cX12_back 23 = .ok (.iconst 0, 1) := by decide +kernel
theorem dX12_back_24 : decode cX12_back 24 = .ok (.sipush 5190, 3) := by decide +kernel
theorem dX12_back_27 : decode cX12_back 27 = .ok (.invokevirtual 294, 3) := by decide +kernel
theorem dX12_back_30 : decode cX12_back 30 = .ok (.aload_n 0, 1) := by decide +kernel
theorem dX12_back_31 : decode cX12_back 31 = .ok (.dup, 1) := by decide +kernel
theorem dX12_back_32 : decode cX12_back 32 = .ok (.getfield 460, 3) := by decide +kernel
theorem dX12_back_35 : decode cX12_back 35 = .ok (.iconst 1, 1) := by decide +kernel
theorem dX12_back_36 : decode cX12_back 36 = .ok (.isub, 1) := by decide +kernel
theorem dX12_back_37 : decode cX12_back 37 = .ok (.putfield 460, 3) := by decide +kernel
theorem dX12_back_40 : decode cX12_back 40 = .ok (.aload_n 0, 1) := by decide +kernel
theorem dX12_back_41 : decode cX12_back 41 = .ok (.aload_n 0, 1) := by decide +kernel
theorem dX12_back_42 : decode cX12_back 42 = .ok (.getfield 460, 3) := by decide +kernel
theorem dX12_back_45 : decode cX12_back 45 = .ok (.invokevirtual 209, 3) := by decide +kernel
theorem dX12_back_48 : decode cX12_back 48 = .ok (.ireturn, 1) := by decide +kernel
theorem dX12_back_7 : decode cX12_back 7 = .ok (.aload_n 0, 1) := by decide +kernel
theorem dX12_back_8 : decode cX12_back 8 = .ok (.bipush 6, 2) := by decide +kernel
theorem dX12_back_10 : decode cX12_back 10 = .ok (.invokevirtual 194, 3) := by decide +kernel
theorem dX12_back_13 : decode cX12_back 13 = .ok (.ireturn, 1) := by decide +kernel
def rm_X12_back : Room := { frames := 1, cells := 0, slots := 0, locals := 24 }
set_option maxHeartbeats 4000000 in
set_option maxRecDepth 100000 in
theorem s_X12_back (l : Launch) (D : va_G) (cy : Nat → ClassId) (L : List Nat) (R O : Nat → Nat) (f0 : Nat → va_E) (a0 : Nat) (m_a0 : a0 ∈ L) (r_a0 : R a0 = 12) (GA : Nat) (m_GA : GA ∈ L) (r_GA : R GA = 61) (t_GA : fld f0 a0 0 = .ref GA) (GP : Nat) (m_GP : GP ∈ L) (r_GP : R GP = 69) (t_GP : fld f0 a0 22 = .ref GP) (GL : Nat) (m_GL : GL ∈ L) (r_GL : R GL = 70) (t_GL : fld f0 a0 23 = .ref GL) (GT : Nat) (m_GT : GT ∈ L) (r_GT : R GT = 64) (t_GT : fld f0 a0 6 = .ref GT) (pre0 : RBA GA f0) (pre1 : GZ GP GL f0) : ∀ sz, Met l yX12_back (Cond.code yX12_back cX12_back 1 (some .int) :: wsL_law) rm_X12_back (va_Pc [.ref a0] (tPZ D cy L R (TT cy L R) f0 sz)) (va_Qi (fun (r : Int32) f1 => fr L R [(12, 1), (12, 64)] [12, 61] f0 f1 ∧ RBA GA f1 ∧ GZ GP GL f1) (tB D (tA L sz) L R (TT cy L R)) (tA L sz)) 0 0 (tA L sz) := by
  refine tw_enteri (by decide +kernel) rfl (Nat.le_of_ble_eq_true rfl) ?_
  intro p e s m below meth c A ls args Q F hZ h hl hret
  have hl : lv_has ls 1 [(0, .ref a0)] := hl
  have hk : fr L R [(12, 1), (12, 64)] [12, 61] f0 f0 := fr.rf
  have t_a0_marks := h.bfi m_a0 r_a0 (fun e q => (T_12 e).mp q) (k := 64) rfl
  have hR := pre0
  have hX := pre1
  refine lv_aload_n F.1 F.2.1 dX12_back_0 rfl (lv_at hl 0 rfl) ?_
  refine g_12_460 F h m_a0 r_a0 dX12_back_1 (fun v1 hv1 hv1a hv1b => ?_)
  refine tw_if_ne (tgt := 14) F dX12_back_4 (by decide) (fun b2 => ?_) (fun b2 => ?_)
  · refine lv_aload_n F.1 F.2.1 dX12_back_14 rfl (lv_at hl 0 rfl) ?_
    refine tw_sipush F dX12_back_15 ks_5190 (fun z3 hz3 => ?_)
    refine lv_aload_n F.1 F.2.1 dX12_back_18 rfl (lv_at hl 0 rfl) ?_
    refine g_12_460 F h m_a0 r_a0 dX12_back_19 (fun v4 hv4 hv4a hv4b => ?_)
    refine tu_imull F dX12_back_22 hz3 (by omega) (fun z5 hz5 => ?_)
    refine tw_iconst F dX12_back_23 ki_0 (fun z6 hz6 => ?_)
    refine tw_sipush F dX12_back_24 ks_5190 (fun z7 hz7 => ?_)
    have hR0 := hR
    refine tw_Vv (As := [.int z5, .int z6, .int z7]) F hZ h yk_X12_copies mw_749 mw_750 mw_751 (s_X12_copies l D cy L R O f0 a0 m_a0 r_a0 z5 ⟨by omega, by omega⟩ z6 ⟨by omega, by omega⟩ z7 ⟨by omega, by omega⟩ GA m_GA r_GA t_GA GP m_GP r_GP t_GP GL m_GL r_GL t_GL GT m_GT r_GT t_GT (by rw [show z7.toInt.toNat = 5190 by omega, show z6.toInt.toNat = 0 by omega]; exact CPc_b (m := z5.toInt.toNat / 5190) (by omega) (by omega)) (by omega) (by omega) (by omega)) rfl rfl m_a0 r_a0 (fun e q => (T_12 e).mp q) rfl hl.1 rfl (Nat.le_of_ble_eq_true rfl) ⟨Nat.le_of_ble_eq_true rfl, Nat.le_of_ble_eq_true rfl⟩ ⟨Nat.le_of_ble_eq_true rfl, Nat.le_of_ble_eq_true rfl⟩ dX12_back_27 (fun f8 H locs hp8 h => ?_)
    obtain ⟨hf8, hv9p0, hv9p1⟩ := hp8
    have hX : GZ GP GL f8 := hX.fm hf8 m_GP r_GP m_GL r_GL (by decide +kernel) (by decide +kernel)
    have hk : fr L R [(12, 1), (12, 64)] [12, 61] f0 f8 := hk.tr hf8 rfl rfl
    have e10 : fld f8 a0 0 = .ref GA := (hf8.efl m_a0 r_a0 rfl).trans t_GA
    have e11 : fld f8 a0 22 = .ref GP := (hf8.efl m_a0 r_a0 rfl).trans t_GP
    have e12 : fld f8 a0 23 = .ref GL := (hf8.efl m_a0 r_a0 rfl).trans t_GL
    have e13 : fld f8 a0 6 = .ref GT := (hf8.efl m_a0 r_a0 rfl).trans t_GT
    have e14 : fi f8 a0 64 = fi f0 a0 64 := hf8.efi m_a0 r_a0 rfl
    have hR : RBA GA f8 := RBA.bk (m := z5.toInt.toNat / 5190) (a := z5.toInt.toNat) hR0 (by omega) (by omega) (by have q := hv9p0; rw [show z7.toInt.toNat = 5190 by omega, show z6.toInt.toNat = 0 by omega] at q; exact q) (fun q hq => by have w := hv9p1 q (by omega); rw [show z6.toInt.toNat = 0 by omega] at w; exact w)
    refine lv_aload_n F.1 F.2.1 dX12_back_30 rfl (lv_at hl 0 rfl) ?_
    refine lv_dup F.1 F.2.1 dX12_back_31 rfl ?_
    refine g_12_460 F h m_a0 r_a0 dX12_back_32 (fun v15 hv15 hv15a hv15b => ?_)
    refine tw_iconst F dX12_back_35 ki_1 (fun z16 hz16 => ?_)
    refine tu_isub F dX12_back_36 (by omega) (fun z17 hz17 => ?_)
    refine p_12_460 F h m_a0 r_a0 (by omega) dX12_back_37 (fun f18 H locs e18p hf18 h => ?_)
    have hX : GZ GP GL f18 := hX.fm hf18 m_GP r_GP m_GL r_GL (by decide +kernel) (by decide +kernel)
    have hR : RBA GA f18 := hR.fm hf18 m_GA r_GA (by decide +kernel)
    have hk : fr L R [(12, 1), (12, 64)] [12, 61] f0 f18 := hk.tr hf18 rfl rfl
    have e19 : fld f18 a0 0 = .ref GA := (hf18.efl m_a0 r_a0 rfl).trans e10
    have e20 : fld f18 a0 22 = .ref GP := (hf18.efl m_a0 r_a0 rfl).trans e11
    have e21 : fld f18 a0 23 = .ref GL := (hf18.efl m_a0 r_a0 rfl).trans e12
    have e22 : fld f18 a0 6 = .ref GT := (hf18.efl m_a0 r_a0 rfl).trans e13
    refine lv_aload_n F.1 F.2.1 dX12_back_40 rfl (lv_at hl 0 rfl) ?_
    refine lv_aload_n F.1 F.2.1 dX12_back_41 rfl (lv_at hl 0 rfl) ?_
    refine g_12_460 F h m_a0 r_a0 dX12_back_42 (fun v23 hv23 hv23a hv23b => ?_)
    refine tw_Vi (As := [.int v23]) F hZ h yk_X12_gives mw_499 mw_500 mw_501 (s_X12_gives l D cy L R O f18 a0 m_a0 r_a0 v23) rfl rfl m_a0 r_a0 (fun e q => (T_12 e).mp q) rfl hl.1 rfl (Nat.le_of_ble_eq_true rfl) ⟨Nat.le_of_ble_eq_true rfl, Nat.le_of_ble_eq_true rfl⟩ ⟨Nat.le_of_ble_eq_true rfl, Nat.le_of_ble_eq_true rfl⟩ dX12_back_45 (fun v25 f24 H locs hp24 h => ?_)
    have hf24 := hp24
    have hX : GZ GP GL f24 := hX.fm hf24 m_GP r_GP m_GL r_GL (by decide +kernel) (by decide +kernel)
    have hR : RBA GA f24 := hR.fm hf24 m_GA r_GA (by decide +kernel)
    have hk : fr L R [(12, 1), (12, 64)] [12, 61] f0 f24 := hk.tr hf24 rfl rfl
    have e26 : fld f24 a0 0 = .ref GA := (hf24.efl m_a0 r_a0 rfl).trans e19
    have e27 : fld f24 a0 22 = .ref GP := (hf24.efl m_a0 r_a0 rfl).trans e20
    have e28 : fld f24 a0 23 = .ref GL := (hf24.efl m_a0 r_a0 rfl).trans e21
    have e29 : fld f24 a0 6 = .ref GT := (hf24.efl m_a0 r_a0 rfl).trans e22
    have e30 : fi f24 a0 64 = fi f18 a0 64 := hf24.efi m_a0 r_a0 rfl
    exact hret f24 _ _ _ _ v25 dX12_back_48 rfl ⟨hk, hR, hX⟩ h
  · refine lv_aload_n F.1 F.2.1 dX12_back_7 rfl (lv_at hl 0 rfl) ?_
    refine tw_bipush F dX12_back_8 kb_6 (fun z31 hz31 => ?_)
    refine tw_Vi (As := [.int z31]) F hZ h yk_X12_refuse mw_452 mw_453 mw_454 (s_X12_refuse l D cy L R O f0 a0 m_a0 r_a0 z31 ⟨by omega, by omega⟩) rfl rfl m_a0 r_a0 (fun e q => (T_12 e).mp q) rfl hl.1 rfl (Nat.le_of_ble_eq_true rfl) ⟨Nat.le_of_ble_eq_true rfl, Nat.le_of_ble_eq_true rfl⟩ ⟨Nat.le_of_ble_eq_true rfl, Nat.le_of_ble_eq_true rfl⟩ dX12_back_10 (fun v33 f32 H locs hp32 h => ?_)
    obtain ⟨hf32, hv33a, hv33b⟩ := hp32
    have hR : RBA GA f32 := hR.fm hf32 m_GA r_GA (by decide +kernel)
    have hX : GZ GP GL f32 := hX.fm hf32 m_GP r_GP m_GL r_GL (by decide +kernel) (by decide +kernel)
    have hk : fr L R [(12, 1), (12, 64)] [12, 61] f0 f32 := hk.tr hf32 rfl rfl
    have e34 : fld f32 a0 0 = .ref GA := (hf32.efl m_a0 r_a0 rfl).trans t_GA
    have e35 : fld f32 a0 22 = .ref GP := (hf32.efl m_a0 r_a0 rfl).trans t_GP
    have e36 : fld f32 a0 23 = .ref GL := (hf32.efl m_a0 r_a0 rfl).trans t_GL
    have e37 : fld f32 a0 6 = .ref GT := (hf32.efl m_a0 r_a0 rfl).trans t_GT
    have e38 : fi f32 a0 64 = fi f0 a0 64 := hf32.efi m_a0 r_a0 rfl
    exact hret f32 _ _ _ _ v33 dX12_back_13 rfl ⟨hk, hR, hX⟩ h
theorem dX12_say_0 : decode cX12_say 0 = .ok (.aload_n 0, 1) := by decide +kernel
theorem dX12_say_1 : decode cX12_say 1 = .ok (.iload_n 1, 1) := by decide +kernel
theorem dX12_say_2 : decode cX12_say 2 = .ok (.invokevirtual 282, 3) := by decide +kernel
theorem dX12_say_5 : decode cX12_say 5 = .ok (.ifCond .eq 12, 3) := by decide +kernel
theorem dX12_say_17 : decode cX12_say 17 = .ok (.aload_n 0, 1) := by decide +kernel
theorem dX12_say_18 : decode cX12_say 18 = .ok (.iconst 1, 1) := by decide +kernel
theorem dX12_say_19 : decode cX12_say 19 = .ok (.invokevirtual 194, 3) := by decide +kernel
theorem dX12_say_22 : decode cX12_say 22 = .ok (.ireturn, 1) := by decide +kernel
theorem dX12_say_8 : decode cX12_say 8 = .ok (.aload_n 0, 1) := by decide +kernel
theorem dX12_say_9 : decode cX12_say 9 = .ok (.iload_n 2, 1) := by decide +kernel
theorem dX12_say_10 : decode cX12_say 10 = .ok (.i2l, 1) := by decide +kernel
theorem dX12_say_11 : decode cX12_say 11 = .ok (.invokevirtual 212, 3) := by decide +kernel
theorem dX12_say_14 : decode cX12_say 14 = .ok (.ifCond .ne 9, 3) := by decide +kernel
theorem dX12_say_23 : decode cX12_say 23 = .ok (.aload_n 0, 1) := by decide +kernel
theorem dX12_say_24 : decode cX12_say 24 = .ok (.aload_n 0, 1) := by decide +kernel
theorem dX12_say_25 : decode cX12_say 25 = .ok (.iload_n 2, 1) := by decide +kernel
theorem dX12_say_26 : decode cX12_say 26 = .ok (.invokevirtual 206, 3) := by decide +kernel
theorem dX12_say_29 : decode cX12_say 29 = .ok (.invokevirtual 304, 3) := by decide +kernel
theorem dX12_say_32 : decode cX12_say 32 = .ok (.aload_n 0, 1) := by decide +kernel
theorem dX12_say_33 : decode cX12_say 33 = .ok (.sipush 1650, 3) := by decide +kernel
theorem dX12_say_36 : decode cX12_say 36 = .ok (.iload_n 1, 1) := by decide +kernel
theorem dX12_say_37 : decode cX12_say 37 = .ok (.imul, 1) := by decide +kernel
theorem dX12_say_38 : decode cX12_say 38 = .ok (.invokevirtual 387, 3) := by decide +kernel
theorem mw_1057 : Cond.methodLink RX12 387 yX12_answers0 ∈ wsL_law := inr_45 _ (List.mem_of_getElem? (i := 1) rfl)
theorem mw_1060 : Cond.code yX12_answers0 cX12_answers0 5 none ∈ wsL_law := inr_45 _ (List.mem_of_getElem? (i := 4) rfl)
theorem yk_X12_answers0 : xY yX12_answers0 RX12 cX12_answers0 5 none 1 := ⟨⟨rfl, by decide +kernel, by decide +kernel, by decide +kernel⟩, mw_5, mw_1060⟩
theorem mw_1058 : Cond.instanceMethod yX12_answers0 ∈ wsL_law := inr_45 _ (List.mem_of_getElem? (i := 2) rfl)
theorem mw_1059 : Cond.selects RX12 yX12_answers0 yX12_answers0 ∈ wsL_law := inr_45 _ (List.mem_of_getElem? (i := 3) rfl)
theorem dX12_say_41 : decode cX12_say 41 = .ok (.aload_n 0, 1) := by decide +kernel
theorem dX12_say_42 : decode cX12_say 42 = .ok (.aload_n 0, 1) := by decide +kernel
theorem dX12_say_43 : decode cX12_say 43 = .ok (.getfield 324, 3) := by decide +kernel
theorem dX12_say_46 : decode cX12_say 46 = .ok (.putfield 390, 3) := by decide +kernel
section
variable {p : Program} {l : Launch} {e : Env} {R0 : Room} {s : State} {m : MethodId} {args : Array Value} {below : List Frame} {meth : Method} {c : Code} {H H0 : Heap} {locs : List Loc} {cells slots : Nat} {Q : State → Prop} {cc : ByteArray} {nL : Nat} {D : va_G} {cy : Nat → ClassId} {A : Nat → Prop} {L : List Nat} {R : Nat → Nat} {f : Nat → va_E} {pc : Nat} {ls : Array Slot} {rest : List Value} {a : Nat}
theorem p_12_390 (F : CallFix p m c cc nL s args wsL_law RX12) (h : tS D cy A H0 L R (TT cy L R) f s H locs) {x : Int32} (ha : a ∈ L) (hr : R a = 12) (hv : 0 ≤ x.toInt ∧ x.toInt ≤ 12) (hdg : decode cc pc = .ok (.putfield 390, 3)) (kk : ∀ (f1 : Nat → va_E) (H1 : Heap) (locs1 : List Loc), fi f1 a 42 = x.toInt → fr L R [(12, 42)] [12] f f1 → tS D cy A H0 L R (TT cy L R) f1 s H1 locs1 → W p l e R0 s m args below meth c H1 locs1 cells slots Q (F0 m (pc + 3) ls (rest))) : W p l e R0 s m args below meth c H locs cells slots Q (F0 m pc ls (.int x :: .ref a :: rest)) := tu_puti (k := 42) F h ha hr T_12 rfl hv.1 hv.2 inlX12 tyX12_ok nmX12 rfl (Nat.le_of_ble_eq_true rfl) mw_1047 rfl rfl rfl hdg kk
end
theorem dX12_say_49 : decode cX12_say 49 = .ok (.iconst 0, 1) := by decide +kernel
theorem dX12_say_50 : decode cX12_say 50 = .ok (.istore_n 3, 1) := by decide +kernel
theorem dX12_say_51 : decode cX12_say 51 = .ok (.iload_n 3, 1) := by decide +kernel
theorem dX12_say_52 : decode cX12_say 52 = .ok (.aload_n 0, 1) := by decide +kernel
theorem dX12_say_53 : decode cX12_say 53 = .ok (.getfield 324, 3) := by decide +kernel
theorem dX12_say_56 : decode cX12_say 56 = .ok (.if_icmp .ge 21, 3) := by decide +kernel
theorem dX12_say_77 : decode cX12_say 77 = .ok (.aload_n 0, 1) := by decide +kernel
theorem dX12_say_78 : decode cX12_say 78 = .ok (.aload_n 0, 1) := by decide +kernel
theorem dX12_say_79 : decode cX12_say 79 = .ok (.getfield 357, 3) := by decide +kernel
section
variable {p : Program} {l : Launch} {e : Env} {R0 : Room} {s : State} {m : MethodId} {args : Array Value} {below : List Frame} {meth : Method} {c : Code} {H H0 : Heap} {locs : List Loc} {cells slots : Nat} {Q : State → Prop} {cc : ByteArray} {nL : Nat} {D : va_G} {cy : Nat → ClassId} {A : Nat → Prop} {L : List Nat} {R : Nat → Nat} {f : Nat → va_E} {pc : Nat} {ls : Array Slot} {rest : List Value} {a : Nat}
theorem g_12_357 (F : CallFix p m c cc nL s args wsL_law RX12) (h : tS D cy A H0 L R (TT cy L R) f s H locs) (ha : a ∈ L) (hr : R a = 12) (hdg : decode cc pc = .ok (.getfield 357, 3)) (kk : ∀ x : Int32, x.toInt = fi f a 35 → W p l e R0 s m args below meth c H locs cells slots Q (F0 m (pc + 3) ls (.int x :: rest))) : W p l e R0 s m args below meth c H locs cells slots Q (F0 m pc ls (.ref a :: rest)) := tu_geti F h ha hr (fun e q => (T_12 e).mp q) rfl inlX12 rfl (Nat.le_of_ble_eq_true rfl) mw_1048 hdg (fun x h1 h2 h3 => kk x h1)
end
theorem dX12_say_82 : decode cX12_say 82 = .ok (.putfield 81, 3) := by decide +kernel
section
variable {p : Program} {l : Launch} {e : Env} {R0 : Room} {s : State} {m : MethodId} {args : Array Value} {below : List Frame} {meth : Method} {c : Code} {H H0 : Heap} {locs : List Loc} {cells slots : Nat} {Q : State → Prop} {cc : ByteArray} {nL : Nat} {D : va_G} {cy : Nat → ClassId} {A : Nat → Prop} {L : List Nat} {R : Nat → Nat} {f : Nat → va_E} {pc : Nat} {ls : Array Slot} {rest : List Value} {a : Nat}
theorem p_12_81 (F : CallFix p m c cc nL s args wsL_law RX12) (h : tS D cy A H0 L R (TT cy L R) f s H locs) {x : Int32} (ha : a ∈ L) (hr : R a = 12) (hdg : decode cc pc = .ok (.putfield 81, 3)) (kk : ∀ (f1 : Nat → va_E) (H1 : Heap) (locs1 : List Loc), fi f1 a 43 = x.toInt → fr L R [(12, 43)] [12] f f1 → tS D cy A H0 L R (TT cy L R) f1 s H1 locs1 → W p l e R0 s m args below meth c H1 locs1 cells slots Q (F0 m (pc + 3) ls (rest))) : W p l e R0 s m args below meth c H locs cells slots Q (F0 m pc ls (.int x :: .ref a :: rest)) := tu_puti (k := 43) F h ha hr T_12 rfl (tb_i x).1 (tb_i x).2 inlX12 tyX12_ok nmX12 rfl (Nat.le_of_ble_eq_true rfl) mw_224 rfl rfl rfl hdg kk
end
theorem dX12_say_85 : decode cX12_say 85 = .ok (.aload_n 0, 1) := by decide +kernel
theorem dX12_say_86 : decode cX12_say 86 = .ok (.aload_n 0, 1) := by decide +kernel
theorem dX12_say_87 : decode cX12_say 87 = .ok (.getfield 360, 3) := by decide +kernel
section
variable {p : Program} {l : Launch} {e : Env} {R0 : Room} {s : State} {m : MethodId} {args : Array Value} {below : List Frame} {meth : Method} {c : Code} {H H0 : Heap} {locs : List Loc} {cells slots : Nat} {Q : State → Prop} {cc : ByteArray} {nL : Nat} {D : va_G} {cy : Nat → ClassId} {A : Nat → Prop} {L : List Nat} {R : Nat → Nat} {f : Nat → va_E} {pc : Nat} {ls : Array Slot} {rest : List Value} {a : Nat}
theorem g_12_360 (F : CallFix p m c cc nL s args wsL_law RX12) (h : tS D cy A H0 L R (TT cy L R) f s H locs) (ha : a ∈ L) (hr : R a = 12) (hdg : decode cc pc = .ok (.getfield 360, 3)) (kk : ∀ x : Int32, x.toInt = fi f a 36 → W p l e R0 s m args below meth c H locs cells slots Q (F0 m (pc + 3) ls (.int x :: rest))) : W p l e R0 s m args below meth c H locs cells slots Q (F0 m pc ls (.ref a :: rest)) := tu_geti F h ha hr (fun e q => (T_12 e).mp q) rfl inlX12 rfl (Nat.le_of_ble_eq_true rfl) mw_1049 hdg (fun x h1 h2 h3 => kk x h1)
end
theorem dX12_say_90 : decode cX12_say 90 = .ok (.putfield 393, 3) := by decide +kernel
section
variable {p : Program} {l : Launch} {e : Env} {R0 : Room} {s : State} {m : MethodId} {args : Array Value} {below : List Frame} {meth : Method} {c : Code} {H H0 : Heap} {locs : List Loc} {cells slots : Nat} {Q : State → Prop} {cc : ByteArray} {nL : Nat} {D : va_G} {cy : Nat → ClassId} {A : Nat → Prop} {L : List Nat} {R : Nat → Nat} {f : Nat → va_E} {pc : Nat} {ls : Array Slot} {rest : List Value} {a : Nat}
theorem p_12_393 (F : CallFix p m c cc nL s args wsL_law RX12) (h : tS D cy A H0 L R (TT cy L R) f s H locs) {x : Int32} (ha : a ∈ L) (hr : R a = 12) (hdg : decode cc pc = .ok (.putfield 393, 3)) (kk : ∀ (f1 : Nat → va_E) (H1 : Heap) (locs1 : List Loc), fi f1 a 44 = x.toInt → fr L R [(12, 44)] [12] f f1 → tS D cy A H0 L R (TT cy L R) f1 s H1 locs1 → W p l e R0 s m args below meth c H1 locs1 cells slots Q (F0 m (pc + 3) ls (rest))) : W p l e R0 s m args below meth c H locs cells slots Q (F0 m pc ls (.int x :: .ref a :: rest)) := tu_puti (k := 44) F h ha hr T_12 rfl (tb_i x).1 (tb_i x).2 inlX12 tyX12_ok nmX12 rfl (Nat.le_of_ble_eq_true rfl) mw_1050 rfl rfl rfl hdg kk
end
theorem dX12_say_93 : decode cX12_say 93 = .ok (.aload_n 0, 1) := by decide +kernel
theorem dX12_say_94 : decode cX12_say 94 = .ok (.aload_n 0, 1) := by decide +kernel
theorem dX12_say_95 : decode cX12_say 95 = .ok (.getfield 363, 3) := by decide +kernel
section
variable {p : Program} {l : Launch} {e : Env} {R0 : Room} {s : State} {m : MethodId} {args : Array Value} {below : List Frame} {meth : Method} {c : Code} {H H0 : Heap} {locs : List Loc} {cells slots : Nat} {Q : State → Prop} {cc : ByteArray} {nL : Nat} {D : va_G} {cy : Nat → ClassId} {A : Nat → Prop} {L : List Nat} {R : Nat → Nat} {f : Nat → va_E} {pc : Nat} {ls : Array Slot} {rest : List Value} {a : Nat}
theorem g_12_363 (F : CallFix p m c cc nL s args wsL_law RX12) (h : tS D cy A H0 L R (TT cy L R) f s H locs) (ha : a ∈ L) (hr : R a = 12) (hdg : decode cc pc = .ok (.getfield 363, 3)) (kk : ∀ x : Int32, x.toInt = fi f a 37 → W p l e R0 s m args below meth c H locs cells slots Q (F0 m (pc + 3) ls (.int x :: rest))) : W p l e R0 s m args below meth c H locs cells slots Q (F0 m pc ls (.ref a :: rest)) := tu_geti F h ha hr (fun e q => (T_12 e).mp q) rfl inlX12 rfl (Nat.le_of_ble_eq_true rfl) mw_1051 hdg (fun x h1 h2 h3 => kk x h1)
end
theorem dX12_say_98 : decode cX12_say 98 = .ok (.putfield 396, 3) := by decide +kernel
section
variable {p : Program} {l : Launch} {e : Env} {R0 : Room} {s : State} {m : MethodId} {args : Array Value} {below : List Frame} {meth : Method} {c : Code} {H H0 : Heap} {locs : List Loc} {cells slots : Nat} {Q : State → Prop} {cc : ByteArray} {nL : Nat} {D : va_G} {cy : Nat → ClassId} {A : Nat → Prop} {L : List Nat} {R : Nat → Nat} {f : Nat → va_E} {pc : Nat} {ls : Array Slot} {rest : List Value} {a : Nat}
theorem p_12_396 (F : CallFix p m c cc nL s args wsL_law RX12) (h : tS D cy A H0 L R (TT cy L R) f s H locs) {x : Int32} (ha : a ∈ L) (hr : R a = 12) (hdg : decode cc pc = .ok (.putfield 396, 3)) (kk : ∀ (f1 : Nat → va_E) (H1 : Heap) (locs1 : List Loc), fi f1 a 45 = x.toInt → fr L R [(12, 45)] [12] f f1 → tS D cy A H0 L R (TT cy L R) f1 s H1 locs1 → W p l e R0 s m args below meth c H1 locs1 cells slots Q (F0 m (pc + 3) ls (rest))) : W p l e R0 s m args below meth c H locs cells slots Q (F0 m pc ls (.int x :: .ref a :: rest)) := tu_puti (k := 45) F h ha hr T_12 rfl (tb_i x).1 (tb_i x).2 inlX12 tyX12_ok nmX12 rfl (Nat.le_of_ble_eq_true rfl) mw_1052 rfl rfl rfl hdg kk
end
theorem dX12_say_101 : decode cX12_say 101 = .ok (.aload_n 0, 1) := by decide +kernel
theorem dX12_say_102 : decode cX12_say 102 = .ok (.aload_n 0, 1) := by decide +kernel
theorem dX12_say_103 : decode cX12_say 103 = .ok (.getfield 366, 3) := by decide +kernel
section
variable {p : Program} {l : Launch} {e : Env} {R0 : Room} {s : State} {m : MethodId} {args : Array Value} {below : List Frame} {meth : Method} {c : Code} {H H0 : Heap} {locs : List Loc} {cells slots : Nat} {Q : State → Prop} {cc : ByteArray} {nL : Nat} {D : va_G} {cy : Nat → ClassId} {A : Nat → Prop} {L : List Nat} {R : Nat → Nat} {f : Nat → va_E} {pc : Nat} {ls : Array Slot} {rest : List Value} {a : Nat}
theorem g_12_366 (F : CallFix p m c cc nL s args wsL_law RX12) (h : tS D cy A H0 L R (TT cy L R) f s H locs) (ha : a ∈ L) (hr : R a = 12) (hdg : decode cc pc = .ok (.getfield 366, 3)) (kk : ∀ x : Int32, x.toInt = fi f a 38 → W p l e R0 s m args below meth c H locs cells slots Q (F0 m (pc + 3) ls (.int x :: rest))) : W p l e R0 s m args below meth c H locs cells slots Q (F0 m pc ls (.ref a :: rest)) := tu_geti F h ha hr (fun e q => (T_12 e).mp q) rfl inlX12 rfl (Nat.le_of_ble_eq_true rfl) mw_1053 hdg (fun x h1 h2 h3 => kk x h1)
end
theorem dX12_say_106 : decode cX12_say 106 = .ok (.putfield 399, 3) := by decide +kernel
section
variable {p : Program} {l : Launch} {e : Env} {R0 : Room} {s : State} {m : MethodId} {args : Array Value} {below : List Frame} {meth : Method} {c : Code} {H H0 : Heap} {locs : List Loc} {cells slots : Nat} {Q : State → Prop} {cc : ByteArray} {nL : Nat} {D : va_G} {cy : Nat → ClassId} {A : Nat → Prop} {L : List Nat} {R : Nat → Nat} {f : Nat → va_E} {pc : Nat} {ls : Array Slot} {rest : List Value} {a : Nat}
theorem p_12_399 (F : CallFix p m c cc nL s args wsL_law RX12) (h : tS D cy A H0 L R (TT cy L R) f s H locs) {x : Int32} (ha : a ∈ L) (hr : R a = 12) (hdg : decode cc pc = .ok (.putfield 399, 3)) (kk : ∀ (f1 : Nat → va_E) (H1 : Heap) (locs1 : List Loc), fi f1 a 46 = x.toInt → fr L R [(12, 46)] [12] f f1 → tS D cy A H0 L R (TT cy L R) f1 s H1 locs1 → W p l e R0 s m args below meth c H1 locs1 cells slots Q (F0 m (pc + 3) ls (rest))) : W p l e R0 s m args below meth c H locs cells slots Q (F0 m pc ls (.int x :: .ref a :: rest)) := tu_puti (k := 46) F h ha hr T_12 rfl (tb_i x).1 (tb_i x).2 inlX12 tyX12_ok nmX12 rfl (Nat.le_of_ble_eq_true rfl) mw_1054 rfl rfl rfl hdg kk
end
theorem dX12_say_109 : decode cX12_say 109 = .ok (.aload_n 0, 1) := by decide +kernel
theorem dX12_say_110 : decode cX12_say 110 = .ok (.aload_n 0, 1) := by decide +kernel
theorem dX12_say_111 : decode cX12_say 111 = .ok (.getfield 354, 3) := by decide +kernel
theorem dX12_say_114 : decode cX12_say 114 = .ok (.putfield 402, 3) := by decide +kernel
section
variable {p : Program} {l : Launch} {e : Env} {R0 : Room} {s : State} {m : MethodId} {args : Array Value} {below : List Frame} {meth : Method} {c : Code} {H H0 : Heap} {locs : List Loc} {cells slots : Nat} {Q : State → Prop} {cc : ByteArray} {nL : Nat} {D : va_G} {cy : Nat → ClassId} {A : Nat → Prop} {L : List Nat} {R : Nat → Nat} {f : Nat → va_E} {pc : Nat} {ls : Array Slot} {rest : List Value} {a : Nat}
theorem p_12_402 (F : CallFix p m c cc nL s args wsL_law RX12) (h : tS D cy A H0 L R (TT cy L R) f s H locs) {x : Int32} (ha : a ∈ L) (hr : R a = 12) (hdg : decode cc pc = .ok (.putfield 402, 3)) (kk : ∀ (f1 : Nat → va_E) (H1 : Heap) (locs1 : List Loc), fi f1 a 47 = x.toInt → fr L R [(12, 47)] [12] f f1 → tS D cy A H0 L R (TT cy L R) f1 s H1 locs1 → W p l e R0 s m args below meth c H1 locs1 cells slots Q (F0 m (pc + 3) ls (rest))) : W p l e R0 s m args below meth c H locs cells slots Q (F0 m pc ls (.int x :: .ref a :: rest)) := tu_puti (k := 47) F h ha hr T_12 rfl (tb_i x).1 (tb_i x).2 inlX12 tyX12_ok nmX12 rfl (Nat.le_of_ble_eq_true rfl) mw_1056 rfl rfl rfl hdg kk
end
theorem dX12_say_117 : decode cX12_say 117 = .ok (.aload_n 0, 1) := by decide +kernel
theorem dX12_say_118 : decode cX12_say 118 = .ok (.aload_n 0, 1) := by decide +kernel
theorem dX12_say_119 : decode cX12_say 119 = .ok (.getfield 324, 3) := by decide +kernel
theorem dX12_say_122 : decode cX12_say 122 = .ok (.invokevirtual 209, 3) := by decide +kernel
theorem dX12_say_125 : decode cX12_say 125 = .ok (.ireturn, 1) := by decide +kernel
theorem dX12_say_59 : decode cX12_say 59 = .ok (.aload_n 0, 1) := by decide +kernel
theorem dX12_say_60 : decode cX12_say 60 = .ok (.getfield 78, 3) := by decide +kernel
theorem dX12_say_63 : decode cX12_say 63 = .ok (.iload_n 3, 1) := by decide +kernel
theorem dX12_say_64 : decode cX12_say 64 = .ok (.aload_n 0, 1) := by decide +kernel
theorem dX12_say_65 : decode cX12_say 65 = .ok (.getfield 63, 3) := by decide +kernel
theorem dX12_say_68 : decode cX12_say 68 = .ok (.iload_n 3, 1) := by decide +kernel
theorem dX12_say_69 : decode cX12_say 69 = .ok (.laload, 1) := by decide +kernel
theorem dX12_say_70 : decode cX12_say 70 = .ok (.lastore, 1) := by decide +kernel
section
variable {p : Program} {l : Launch} {e : Env} {R0 : Room} {s : State} {m : MethodId} {args : Array Value} {below : List Frame} {meth : Method} {c : Code} {H H0 : Heap} {locs : List Loc} {cells slots : Nat} {Q : State → Prop} {cc : ByteArray} {nL : Nat} {D : va_G} {cy : Nat → ClassId} {A : Nat → Prop} {L : List Nat} {R : Nat → Nat} {f : Nat → va_E} {pc : Nat} {ls : Array Slot} {rest : List Value} {a : Nat}
theorem st_77 {own : String} (F : CallFix p m c cc nL s args wsL_law own) (h : tS D cy A H0 L R (TT cy L R) f s H locs) {i : Int32} {x : Int64} (ha : a ∈ L) (hr : R a = 77) (hb : 0 ≤ i.toInt ∧ i.toInt < 12) (hdg : decode cc pc = .ok (.lastore, 1)) (kk : ∀ (f1 : Nat → va_E) (H1 : Heap) (locs1 : List Loc), fr L R [] [77] f f1 → tS D cy A H0 L R (TT cy L R) f1 s H1 locs1 → W p l e R0 s m args below meth c H1 locs1 cells slots Q (F0 m (pc + 1) ls (rest))) : W p l e R0 s m args below meth c H locs cells slots Q (F0 m pc ls (.long x :: .int i :: .ref a :: rest)) := tu_last F h ha hr T_77 hb.1 hb.2 trivial hdg (fun f1 H1 locs1 h1 h2 h3 h4 => kk f1 H1 locs1 h3 h4)
end
theorem dX12_say_71 : decode cX12_say 71 = .ok (.iinc 3 1, 3) := by decide +kernel
theorem dX12_say_74 : decode cX12_say 74 = .ok (.goto (-23), 3) := by decide +kernel
def rm_X12_say : Room := { frames := 6, cells := 0, slots := 0, locals := 150 }
set_option maxHeartbeats 4000000 in
set_option maxRecDepth 100000 in
theorem s_X12_say (l : Launch) (D : va_G) (cy : Nat → ClassId) (L : List Nat) (R O : Nat → Nat) (f0 : Nat → va_E) (a0 : Nat) (m_a0 : a0 ∈ L) (r_a0 : R a0 = 12) (x1 : Int32) (x2 : Int32) (GA : Nat) (m_GA : GA ∈ L) (r_GA : R GA = 61) (t_GA : fld f0 a0 0 = .ref GA) (GP : Nat) (m_GP : GP ∈ L) (r_GP : R GP = 69) (t_GP : fld f0 a0 22 = .ref GP) (GL : Nat) (m_GL : GL ∈ L) (r_GL : R GL = 70) (t_GL : fld f0 a0 23 = .ref GL) (GT : Nat) (m_GT : GT ∈ L) (r_GT : R GT = 64) (t_GT : fld f0 a0 6 = .ref GT) (pre0 : RBA GA f0) (pre1 : GZ GP GL f0) : ∀ sz, Met l yX12_say (Cond.code yX12_say cX12_say 4 (some .int) :: wsL_law) rm_X12_say (va_Pc [.ref a0, .int x1, .int x2] (tPZ D cy L R (TT cy L R) f0 sz)) (va_Qi (fun (r : Int32) f1 => fr L R [(12, 1), (12, 28), (12, 29), (12, 35), (12, 36), (12, 37), (12, 38), (12, 39), (12, 42), (12, 43), (12, 44), (12, 45), (12, 46), (12, 47)] [12, 61, 68, 69, 70, 73, 74, 76, 77] f0 f1 ∧ RBA GA f1 ∧ GZ GP GL f1) (tB D (tA L sz) L R (TT cy L R)) (tA L sz)) 0 0 (tA L sz) := by
  refine tw_enteri (by decide +kernel) rfl (Nat.le_of_ble_eq_true rfl) ?_
  intro p e s m below meth c A ls args Q F hZ h hl hret
  have hl : lv_has ls 4 [(0, .ref a0), (1, .int x1), (2, .int x2)] := hl
  have hk : fr L R [(12, 1), (12, 28), (12, 29), (12, 35), (12, 36), (12, 37), (12, 38), (12, 39), (12, 42), (12, 43), (12, 44), (12, 45), (12, 46), (12, 47)] [12, 61, 68, 69, 70, 73, 74, 76, 77] f0 f0 := fr.rf
  have hR := pre0
  have hX := pre1
  refine lv_aload_n F.1 F.2.1 dX12_say_0 rfl (lv_at hl 0 rfl) ?_
  refine lv_iload_n F.1 F.2.1 dX12_say_1 rfl (lv_at hl 1 rfl) ?_
  refine tw_Vi (As := [.int x1]) F hZ h yk_X12_isScript mw_635 mw_636 mw_637 (s_X12_isScript l D cy L R O f0 a0 m_a0 r_a0 x1) rfl rfl m_a0 r_a0 (fun e q => (T_12 e).mp q) rfl hl.1 rfl (Nat.le_of_ble_eq_true rfl) ⟨Nat.le_of_ble_eq_true rfl, Nat.le_of_ble_eq_true rfl⟩ ⟨Nat.le_of_ble_eq_true rfl, Nat.le_of_ble_eq_true rfl⟩ dX12_say_2 (fun v2 f1 H locs hp1 h => ?_)
  obtain ⟨rfl, hv2a, hv2b, hv2p0⟩ := hp1
  refine tw_if_eq (tgt := 17) F dX12_say_5 (by decide) (fun b3 => ?_) (fun b3 => ?_)
  · refine lv_aload_n F.1 F.2.1 dX12_say_17 rfl (lv_at hl 0 rfl) ?_
    refine tw_iconst F dX12_say_18 ki_1 (fun z4 hz4 => ?_)
    refine tw_Vi (As := [.int z4]) F hZ h yk_X12_refuse mw_452 mw_453 mw_454 (s_X12_refuse l D cy L R O f0 a0 m_a0 r_a0 z4 ⟨by omega, by omega⟩) rfl rfl m_a0 r_a0 (fun e q => (T_12 e).mp q) rfl hl.1 rfl (Nat.le_of_ble_eq_true rfl) ⟨Nat.le_of_ble_eq_true rfl, Nat.le_of_ble_eq_true rfl⟩ ⟨Nat.le_of_ble_eq_true rfl, Nat.le_of_ble_eq_true rfl⟩ dX12_say_19 (fun v6 f5 H locs hp5 h => ?_)
    obtain ⟨hf5, hv6a, hv6b⟩ := hp5
    have hR : RBA GA f5 := hR.fm hf5 m_GA r_GA (by decide +kernel)
    have hX : GZ GP GL f5 := hX.fm hf5 m_GP r_GP m_GL r_GL (by decide +kernel) (by decide +kernel)
    have hk : fr L R [(12, 1), (12, 28), (12, 29), (12, 35), (12, 36), (12, 37), (12, 38), (12, 39), (12, 42), (12, 43), (12, 44), (12, 45), (12, 46), (12, 47)] [12, 61, 68, 69, 70, 73, 74, 76, 77] f0 f5 := hk.tr hf5 rfl rfl
    have e7 : fld f5 a0 0 = .ref GA := (hf5.efl m_a0 r_a0 rfl).trans t_GA
    have e8 : fld f5 a0 22 = .ref GP := (hf5.efl m_a0 r_a0 rfl).trans t_GP
    have e9 : fld f5 a0 23 = .ref GL := (hf5.efl m_a0 r_a0 rfl).trans t_GL
    have e10 : fld f5 a0 6 = .ref GT := (hf5.efl m_a0 r_a0 rfl).trans t_GT
    exact hret f5 _ _ _ _ v6 dX12_say_22 rfl ⟨hk, hR, hX⟩ h
  · refine lv_aload_n F.1 F.2.1 dX12_say_8 rfl (lv_at hl 0 rfl) ?_
    refine lv_iload_n F.1 F.2.1 dX12_say_9 rfl (lv_at hl 2 rfl) ?_
    refine tu_i2l F dX12_say_10 (fun z11 hz11 hz11a hz11b => ?_)
    refine tw_Vi (As := [.long z11]) F hZ h yk_X12_isLine mw_797 mw_798 mw_799 (s_X12_isLine l D cy L R O f0 a0 m_a0 r_a0 z11) rfl rfl m_a0 r_a0 (fun e q => (T_12 e).mp q) rfl hl.1 rfl (Nat.le_of_ble_eq_true rfl) ⟨Nat.le_of_ble_eq_true rfl, Nat.le_of_ble_eq_true rfl⟩ ⟨Nat.le_of_ble_eq_true rfl, Nat.le_of_ble_eq_true rfl⟩ dX12_say_11 (fun v13 f12 H locs hp12 h => ?_)
    obtain ⟨rfl, hv13a, hv13b, hv13p0⟩ := hp12
    refine tw_if_ne (tgt := 23) F dX12_say_14 (by decide) (fun b14 => ?_) (fun b14 => ?_)
    · refine lv_aload_n F.1 F.2.1 dX12_say_23 rfl (lv_at hl 0 rfl) ?_
      refine lv_aload_n F.1 F.2.1 dX12_say_24 rfl (lv_at hl 0 rfl) ?_
      refine lv_iload_n F.1 F.2.1 dX12_say_25 rfl (lv_at hl 2 rfl) ?_
      refine tw_Vi (As := [.int x2]) F hZ h yk_X12_lineAt mw_495 mw_496 mw_497 (s_X12_lineAt l D cy L R O f0 a0 m_a0 r_a0 x2 ⟨by omega, by omega⟩) rfl rfl m_a0 r_a0 (fun e q => (T_12 e).mp q) rfl hl.1 rfl (Nat.le_of_ble_eq_true rfl) ⟨Nat.le_of_ble_eq_true rfl, Nat.le_of_ble_eq_true rfl⟩ ⟨Nat.le_of_ble_eq_true rfl, Nat.le_of_ble_eq_true rfl⟩ dX12_say_26 (fun v16 f15 H locs hp15 h => ?_)
      obtain ⟨rfl, hv16a, hv16b, hv16p0⟩ := hp15
      refine tw_Vv (As := [.int v16]) F hZ h yk_X12_hears mw_890 mw_891 mw_892 (s_X12_hears l D cy L R O f0 a0 m_a0 r_a0 v16 ⟨by omega, by omega⟩ (ac_l (by omega))) rfl rfl m_a0 r_a0 (fun e q => (T_12 e).mp q) rfl hl.1 rfl (Nat.le_of_ble_eq_true rfl) ⟨Nat.le_of_ble_eq_true rfl, Nat.le_of_ble_eq_true rfl⟩ ⟨Nat.le_of_ble_eq_true rfl, Nat.le_of_ble_eq_true rfl⟩ dX12_say_29 (fun f17 H locs hp17 h => ?_)
      have hf17 := hp17
      have hR : RBA GA f17 := hR.fm hf17 m_GA r_GA (by decide +kernel)
      have hX : GZ GP GL f17 := hX.fm hf17 m_GP r_GP m_GL r_GL (by decide +kernel) (by decide +kernel)
      have hk : fr L R [(12, 1), (12, 28), (12, 29), (12, 35), (12, 36), (12, 37), (12, 38), (12, 39), (12, 42), (12, 43), (12, 44), (12, 45), (12, 46), (12, 47)] [12, 61, 68, 69, 70, 73, 74, 76, 77] f0 f17 := hk.tr hf17 rfl rfl
      have e19 : fld f17 a0 0 = .ref GA := (hf17.efl m_a0 r_a0 rfl).trans t_GA
      have e20 : fld f17 a0 22 = .ref GP := (hf17.efl m_a0 r_a0 rfl).trans t_GP
      have e21 : fld f17 a0 23 = .ref GL := (hf17.efl m_a0 r_a0 rfl).trans t_GL
      have e22 : fld f17 a0 6 = .ref GT := (hf17.efl m_a0 r_a0 rfl).trans t_GT
      refine lv_aload_n F.1 F.2.1 dX12_say_32 rfl (lv_at hl 0 rfl) ?_
      refine tw_sipush F dX12_say_33 ks_1650 (fun z23 hz23 => ?_)
      refine lv_iload_n F.1 F.2.1 dX12_say_36 rfl (lv_at hl 1 rfl) ?_
      refine tu_imull F dX12_say_37 hz23 (by omega) (fun z24 hz24 => ?_)
      refine tw_Vv (As := [.int z24]) F hZ h yk_X12_answers0 mw_1057 mw_1058 mw_1059 (s_X12_answers0 l D cy L R O f17 a0 m_a0 r_a0 z24 ⟨by omega, by omega⟩ GA m_GA r_GA e19 GP m_GP r_GP e20 GL m_GL r_GL e21 GT m_GT r_GT e22 (isB_e (isB_s (show x1.toInt.toNat ≤ 2 by omega)) (by omega)) (by rw [show z24.toInt.toNat = 1650 * x1.toInt.toNat by omega]; exact hR.s (by omega)) hX) rfl rfl m_a0 r_a0 (fun e q => (T_12 e).mp q) rfl hl.1 rfl (Nat.le_of_ble_eq_true rfl) ⟨Nat.le_of_ble_eq_true rfl, Nat.le_of_ble_eq_true rfl⟩ ⟨Nat.le_of_ble_eq_true rfl, Nat.le_of_ble_eq_true rfl⟩ dX12_say_38 (fun f25 H locs hp25 h => ?_)
      obtain ⟨hf25, hv26p0, hv26p1⟩ := hp25
      have hR : RBA GA f25 := hR.kw hv26p1 (Or.inr (Or.inr ⟨x1.toInt.toNat, by omega, by omega, by omega⟩))
      have hX : GZ GP GL f25 := hv26p0
      have hk : fr L R [(12, 1), (12, 28), (12, 29), (12, 35), (12, 36), (12, 37), (12, 38), (12, 39), (12, 42), (12, 43), (12, 44), (12, 45), (12, 46), (12, 47)] [12, 61, 68, 69, 70, 73, 74, 76, 77] f0 f25 := hk.tr hf25 (by decide +kernel) (by decide +kernel)
      have e27 : fld f25 a0 0 = .ref GA := (hf25.efl m_a0 r_a0 rfl).trans e19
      have e28 : fld f25 a0 22 = .ref GP := (hf25.efl m_a0 r_a0 rfl).trans e20
      have e29 : fld f25 a0 23 = .ref GL := (hf25.efl m_a0 r_a0 rfl).trans e21
      have e30 : fld f25 a0 6 = .ref GT := (hf25.efl m_a0 r_a0 rfl).trans e22
      refine lv_aload_n F.1 F.2.1 dX12_say_41 rfl (lv_at hl 0 rfl) ?_
      refine lv_aload_n F.1 F.2.1 dX12_say_42 rfl (lv_at hl 0 rfl) ?_
      refine g_12_324 F h m_a0 r_a0 dX12_say_43 (fun v31 hv31 hv31a hv31b => ?_)
      refine p_12_390 F h m_a0 r_a0 (by omega) dX12_say_46 (fun f32 H locs e32p hf32 h => ?_)
      have hR : RBA GA f32 := hR.fm hf32 m_GA r_GA (by decide +kernel)
      have hX : GZ GP GL f32 := hX.fm hf32 m_GP r_GP m_GL r_GL (by decide +kernel) (by decide +kernel)
      have hk : fr L R [(12, 1), (12, 28), (12, 29), (12, 35), (12, 36), (12, 37), (12, 38), (12, 39), (12, 42), (12, 43), (12, 44), (12, 45), (12, 46), (12, 47)] [12, 61, 68, 69, 70, 73, 74, 76, 77] f0 f32 := hk.tr hf32 rfl rfl
      have e33 : fld f32 a0 0 = .ref GA := (hf32.efl m_a0 r_a0 rfl).trans e27
      have e34 : fld f32 a0 22 = .ref GP := (hf32.efl m_a0 r_a0 rfl).trans e28
      have e35 : fld f32 a0 23 = .ref GL := (hf32.efl m_a0 r_a0 rfl).trans e29
      have e36 : fld f32 a0 6 = .ref GT := (hf32.efl m_a0 r_a0 rfl).trans e30
      have e37 : fi f32 a0 29 = fi f25 a0 29 := hf32.efi m_a0 r_a0 rfl
      refine tw_iconst F dX12_say_49 ki_0 (fun z38 hz38 => ?_)
      refine lv_istore_n (lv' := [(3, .int z38), (0, .ref a0), (1, .int x1), (2, .int x2)]) F.1 F.2.1 dX12_say_50 rfl hl (by decide) rfl (fun ls hl => ?_)
      have j_51 : ∀ (n51 : Nat) (f39 : Nat → va_E) (H : Heap) (locs : List Loc) (ls : Array Slot) (x3_51 : Int32), 0 ≤ x3_51.toInt → x3_51.toInt ≤ 12 → ((12 - x3_51.toInt)).toNat < n51 → tS D cy A s.heap L R (TT cy L R) f39 s H locs → RBA GA f39 → GZ GP GL f39 → fr L R [(12, 1), (12, 28), (12, 29), (12, 35), (12, 36), (12, 37), (12, 38), (12, 39), (12, 42), (12, 43), (12, 44), (12, 45), (12, 46), (12, 47)] [12, 61, 68, 69, 70, 73, 74, 76, 77] f0 f39 → fr L R [] [77] f32 f39 → lv_has ls 4 [(0, .ref a0), (3, .int x3_51)] → W p l e rm_X12_say s m args below meth c H locs 0 0 Q (F0 m 51 ls []) := by
        intro n51
        induction n51 with
        | zero =>
          intro f39 H locs ls x3_51 b40 b41 b42 h hR hX hk hb51 hl
          exfalso
          omega
        | succ n51 ih51 =>
          intro f39 H locs ls x3_51 b40 b41 b42 h hR hX hk hb51 hl
          have e43 : fld f39 a0 0 = .ref GA := (hb51.efl m_a0 r_a0 rfl).trans e33
          have e44 : fld f39 a0 22 = .ref GP := (hb51.efl m_a0 r_a0 rfl).trans e34
          have e45 : fld f39 a0 23 = .ref GL := (hb51.efl m_a0 r_a0 rfl).trans e35
          have e46 : fld f39 a0 6 = .ref GT := (hb51.efl m_a0 r_a0 rfl).trans e36
          have e47 : fi f39 a0 29 = fi f32 a0 29 := hb51.efi m_a0 r_a0 rfl
          refine lv_iload_n F.1 F.2.1 dX12_say_51 rfl (lv_at hl 1 rfl) ?_
          refine lv_aload_n F.1 F.2.1 dX12_say_52 rfl (lv_at hl 0 rfl) ?_
          refine g_12_324 F h m_a0 r_a0 dX12_say_53 (fun v48 hv48 hv48a hv48b => ?_)
          refine tw_icmp_ge (tgt := 77) F dX12_say_56 (by decide) (fun b49 => ?_) (fun b49 => ?_)
          · refine lv_aload_n F.1 F.2.1 dX12_say_77 rfl (lv_at hl 0 rfl) ?_
            refine lv_aload_n F.1 F.2.1 dX12_say_78 rfl (lv_at hl 0 rfl) ?_
            refine g_12_357 F h m_a0 r_a0 dX12_say_79 (fun v50 hv50 => ?_)
            refine p_12_81 F h m_a0 r_a0 dX12_say_82 (fun f51 H locs e51p hf51 h => ?_)
            have hR : RBA GA f51 := hR.fm hf51 m_GA r_GA (by decide +kernel)
            have hX : GZ GP GL f51 := hX.fm hf51 m_GP r_GP m_GL r_GL (by decide +kernel) (by decide +kernel)
            have hk : fr L R [(12, 1), (12, 28), (12, 29), (12, 35), (12, 36), (12, 37), (12, 38), (12, 39), (12, 42), (12, 43), (12, 44), (12, 45), (12, 46), (12, 47)] [12, 61, 68, 69, 70, 73, 74, 76, 77] f0 f51 := hk.tr hf51 rfl rfl
            have e52 : fld f51 a0 0 = .ref GA := (hf51.efl m_a0 r_a0 rfl).trans e43
            have e53 : fld f51 a0 22 = .ref GP := (hf51.efl m_a0 r_a0 rfl).trans e44
            have e54 : fld f51 a0 23 = .ref GL := (hf51.efl m_a0 r_a0 rfl).trans e45
            have e55 : fld f51 a0 6 = .ref GT := (hf51.efl m_a0 r_a0 rfl).trans e46
            have e56 : fi f51 a0 29 = fi f39 a0 29 := hf51.efi m_a0 r_a0 rfl
            refine lv_aload_n F.1 F.2.1 dX12_say_85 rfl (lv_at hl 0 rfl) ?_
            refine lv_aload_n F.1 F.2.1 dX12_say_86 rfl (lv_at hl 0 rfl) ?_
            refine g_12_360 F h m_a0 r_a0 dX12_say_87 (fun v57 hv57 => ?_)
            refine p_12_393 F h m_a0 r_a0 dX12_say_90 (fun f58 H locs e58p hf58 h => ?_)
            have hR : RBA GA f58 := hR.fm hf58 m_GA r_GA (by decide +kernel)
            have hX : GZ GP GL f58 := hX.fm hf58 m_GP r_GP m_GL r_GL (by decide +kernel) (by decide +kernel)
            have hk : fr L R [(12, 1), (12, 28), (12, 29), (12, 35), (12, 36), (12, 37), (12, 38), (12, 39), (12, 42), (12, 43), (12, 44), (12, 45), (12, 46), (12, 47)] [12, 61, 68, 69, 70, 73, 74, 76, 77] f0 f58 := hk.tr hf58 rfl rfl
            have e59 : fld f58 a0 0 = .ref GA := (hf58.efl m_a0 r_a0 rfl).trans e52
            have e60 : fld f58 a0 22 = .ref GP := (hf58.efl m_a0 r_a0 rfl).trans e53
            have e61 : fld f58 a0 23 = .ref GL := (hf58.efl m_a0 r_a0 rfl).trans e54
            have e62 : fld f58 a0 6 = .ref GT := (hf58.efl m_a0 r_a0 rfl).trans e55
            have e63 : fi f58 a0 29 = fi f51 a0 29 := hf58.efi m_a0 r_a0 rfl
            refine lv_aload_n F.1 F.2.1 dX12_say_93 rfl (lv_at hl 0 rfl) ?_
            refine lv_aload_n F.1 F.2.1 dX12_say_94 rfl (lv_at hl 0 rfl) ?_
            refine g_12_363 F h m_a0 r_a0 dX12_say_95 (fun v64 hv64 => ?_)
            refine p_12_396 F h m_a0 r_a0 dX12_say_98 (fun f65 H locs e65p hf65 h => ?_)
            have hR : RBA GA f65 := hR.fm hf65 m_GA r_GA (by decide +kernel)
            have hX : GZ GP GL f65 := hX.fm hf65 m_GP r_GP m_GL r_GL (by decide +kernel) (by decide +kernel)
            have hk : fr L R [(12, 1), (12, 28), (12, 29), (12, 35), (12, 36), (12, 37), (12, 38), (12, 39), (12, 42), (12, 43), (12, 44), (12, 45), (12, 46), (12, 47)] [12, 61, 68, 69, 70, 73, 74, 76, 77] f0 f65 := hk.tr hf65 rfl rfl
            have e66 : fld f65 a0 0 = .ref GA := (hf65.efl m_a0 r_a0 rfl).trans e59
            have e67 : fld f65 a0 22 = .ref GP := (hf65.efl m_a0 r_a0 rfl).trans e60
            have e68 : fld f65 a0 23 = .ref GL := (hf65.efl m_a0 r_a0 rfl).trans e61
            have e69 : fld f65 a0 6 = .ref GT := (hf65.efl m_a0 r_a0 rfl).trans e62
            have e70 : fi f65 a0 29 = fi f58 a0 29 := hf65.efi m_a0 r_a0 rfl
            refine lv_aload_n F.1 F.2.1 dX12_say_101 rfl (lv_at hl 0 rfl) ?_
            refine lv_aload_n F.1 F.2.1 dX12_say_102 rfl (lv_at hl 0 rfl) ?_
            refine g_12_366 F h m_a0 r_a0 dX12_say_103 (fun v71 hv71 => ?_)
            refine p_12_399 F h m_a0 r_a0 dX12_say_106 (fun f72 H locs e72p hf72 h => ?_)
            have hR : RBA GA f72 := hR.fm hf72 m_GA r_GA (by decide +kernel)
            have hX : GZ GP GL f72 := hX.fm hf72 m_GP r_GP m_GL r_GL (by decide +kernel) (by decide +kernel)
            have hk : fr L R [(12, 1), (12, 28), (12, 29), (12, 35), (12, 36), (12, 37), (12, 38), (12, 39), (12, 42), (12, 43), (12, 44), (12, 45), (12, 46), (12, 47)] [12, 61, 68, 69, 70, 73, 74, 76, 77] f0 f72 := hk.tr hf72 rfl rfl
            have e73 : fld f72 a0 0 = .ref GA := (hf72.efl m_a0 r_a0 rfl).trans e66
            have e74 : fld f72 a0 22 = .ref GP := (hf72.efl m_a0 r_a0 rfl).trans e67
            have e75 : fld f72 a0 23 = .ref GL := (hf72.efl m_a0 r_a0 rfl).trans e68
            have e76 : fld f72 a0 6 = .ref GT := (hf72.efl m_a0 r_a0 rfl).trans e69
            have e77 : fi f72 a0 29 = fi f65 a0 29 := hf72.efi m_a0 r_a0 rfl
            refine lv_aload_n F.1 F.2.1 dX12_say_109 rfl (lv_at hl 0 rfl) ?_
            refine lv_aload_n F.1 F.2.1 dX12_say_110 rfl (lv_at hl 0 rfl) ?_
            refine g_12_354 F h m_a0 r_a0 dX12_say_111 (fun v78 hv78 hv78a hv78b => ?_)
            refine p_12_402 F h m_a0 r_a0 dX12_say_114 (fun f79 H locs e79p hf79 h => ?_)
            have hR : RBA GA f79 := hR.fm hf79 m_GA r_GA (by decide +kernel)
            have hX : GZ GP GL f79 := hX.fm hf79 m_GP r_GP m_GL r_GL (by decide +kernel) (by decide +kernel)
            have hk : fr L R [(12, 1), (12, 28), (12, 29), (12, 35), (12, 36), (12, 37), (12, 38), (12, 39), (12, 42), (12, 43), (12, 44), (12, 45), (12, 46), (12, 47)] [12, 61, 68, 69, 70, 73, 74, 76, 77] f0 f79 := hk.tr hf79 rfl rfl
            have e80 : fld f79 a0 0 = .ref GA := (hf79.efl m_a0 r_a0 rfl).trans e73
            have e81 : fld f79 a0 22 = .ref GP := (hf79.efl m_a0 r_a0 rfl).trans e74
            have e82 : fld f79 a0 23 = .ref GL := (hf79.efl m_a0 r_a0 rfl).trans e75
            have e83 : fld f79 a0 6 = .ref GT := (hf79.efl m_a0 r_a0 rfl).trans e76
            have e84 : fi f79 a0 29 = fi f72 a0 29 := hf79.efi m_a0 r_a0 rfl
            refine lv_aload_n F.1 F.2.1 dX12_say_117 rfl (lv_at hl 0 rfl) ?_
            refine lv_aload_n F.1 F.2.1 dX12_say_118 rfl (lv_at hl 0 rfl) ?_
            refine g_12_324 F h m_a0 r_a0 dX12_say_119 (fun v85 hv85 hv85a hv85b => ?_)
            refine tw_Vi (As := [.int v85]) F hZ h yk_X12_gives mw_499 mw_500 mw_501 (s_X12_gives l D cy L R O f79 a0 m_a0 r_a0 v85) rfl rfl m_a0 r_a0 (fun e q => (T_12 e).mp q) rfl hl.1 rfl (Nat.le_of_ble_eq_true rfl) ⟨Nat.le_of_ble_eq_true rfl, Nat.le_of_ble_eq_true rfl⟩ ⟨Nat.le_of_ble_eq_true rfl, Nat.le_of_ble_eq_true rfl⟩ dX12_say_122 (fun v87 f86 H locs hp86 h => ?_)
            have hf86 := hp86
            have hR : RBA GA f86 := hR.fm hf86 m_GA r_GA (by decide +kernel)
            have hX : GZ GP GL f86 := hX.fm hf86 m_GP r_GP m_GL r_GL (by decide +kernel) (by decide +kernel)
            have hk : fr L R [(12, 1), (12, 28), (12, 29), (12, 35), (12, 36), (12, 37), (12, 38), (12, 39), (12, 42), (12, 43), (12, 44), (12, 45), (12, 46), (12, 47)] [12, 61, 68, 69, 70, 73, 74, 76, 77] f0 f86 := hk.tr hf86 rfl rfl
            have e88 : fld f86 a0 0 = .ref GA := (hf86.efl m_a0 r_a0 rfl).trans e80
            have e89 : fld f86 a0 22 = .ref GP := (hf86.efl m_a0 r_a0 rfl).trans e81
            have e90 : fld f86 a0 23 = .ref GL := (hf86.efl m_a0 r_a0 rfl).trans e82
            have e91 : fld f86 a0 6 = .ref GT := (hf86.efl m_a0 r_a0 rfl).trans e83
            have e92 : fi f86 a0 29 = fi f79 a0 29 := hf86.efi m_a0 r_a0 rfl
            exact hret f86 _ _ _ _ v87 dX12_say_125 rfl ⟨hk, hR, hX⟩ h
          · refine lv_aload_n F.1 F.2.1 dX12_say_59 rfl (lv_at hl 0 rfl) ?_
            refine g_12_78 F h m_a0 r_a0 dX12_say_60 (fun o93 m_o93 r_o93 ho93 => ?_)
            refine lv_iload_n F.1 F.2.1 dX12_say_63 rfl (lv_at hl 1 rfl) ?_
            refine lv_aload_n F.1 F.2.1 dX12_say_64 rfl (lv_at hl 0 rfl) ?_
            refine g_12_63 F h m_a0 r_a0 dX12_say_65 (fun o94 m_o94 r_o94 ho94 => ?_)
            refine lv_iload_n F.1 F.2.1 dX12_say_68 rfl (lv_at hl 1 rfl) ?_
            refine ld_74 F h m_o94 r_o94 (by omega) dX12_say_69 (fun v95 => ?_)
            refine st_77 F h m_o93 r_o93 (by omega) dX12_say_70 (fun f96 H locs hf96 h => ?_)
            have hR : RBA GA f96 := hR.fm hf96 m_GA r_GA (by decide +kernel)
            have hX : GZ GP GL f96 := hX.fm hf96 m_GP r_GP m_GL r_GL (by decide +kernel) (by decide +kernel)
            have hk : fr L R [(12, 1), (12, 28), (12, 29), (12, 35), (12, 36), (12, 37), (12, 38), (12, 39), (12, 42), (12, 43), (12, 44), (12, 45), (12, 46), (12, 47)] [12, 61, 68, 69, 70, 73, 74, 76, 77] f0 f96 := hk.tr hf96 rfl rfl
            have hb51 : fr L R [] [77] f32 f96 := hb51.tr hf96 rfl rfl
            have e97 : fld f96 a0 0 = .ref GA := (hf96.efl m_a0 r_a0 rfl).trans e43
            have e98 : fld f96 a0 22 = .ref GP := (hf96.efl m_a0 r_a0 rfl).trans e44
            have e99 : fld f96 a0 23 = .ref GL := (hf96.efl m_a0 r_a0 rfl).trans e45
            have e100 : fld f96 a0 6 = .ref GT := (hf96.efl m_a0 r_a0 rfl).trans e46
            have e101 : fi f96 a0 29 = fi f39 a0 29 := hf96.efi m_a0 r_a0 rfl
            refine tu_iinc F dX12_say_71 hl (k := 1) rfl (by decide) ki_1 (by omega) (fun z102 ls hz102 hl => ?_)
            have hl : lv_has ls 4 [(3, .int z102), (0, .ref a0)] := hl
            refine lv_goto (tgt := 51) F.1 F.2.1 dX12_say_74 (by decide) ?_
            exact ih51 f96 _ _ _ z102 (by omega) (by omega) (by omega) h hR hX hk hb51 (lv_sub hl [1, 0] rfl)
      have hb51 : fr L R [] [77] f32 f32 := fr.rf
      exact j_51 (((12 - z38.toInt)).toNat + 1) f32 _ _ _ z38 (by omega) (by omega) (by omega) h hR hX hk hb51 (lv_sub hl [1, 0] rfl)
    · refine lv_aload_n F.1 F.2.1 dX12_say_17 rfl (lv_at hl 0 rfl) ?_
      refine tw_iconst F dX12_say_18 ki_1 (fun z103 hz103 => ?_)
      refine tw_Vi (As := [.int z103]) F hZ h yk_X12_refuse mw_452 mw_453 mw_454 (s_X12_refuse l D cy L R O f0 a0 m_a0 r_a0 z103 ⟨by omega, by omega⟩) rfl rfl m_a0 r_a0 (fun e q => (T_12 e).mp q) rfl hl.1 rfl (Nat.le_of_ble_eq_true rfl) ⟨Nat.le_of_ble_eq_true rfl, Nat.le_of_ble_eq_true rfl⟩ ⟨Nat.le_of_ble_eq_true rfl, Nat.le_of_ble_eq_true rfl⟩ dX12_say_19 (fun v105 f104 H locs hp104 h => ?_)
      obtain ⟨hf104, hv105a, hv105b⟩ := hp104
      have hR : RBA GA f104 := hR.fm hf104 m_GA r_GA (by decide +kernel)
      have hX : GZ GP GL f104 := hX.fm hf104 m_GP r_GP m_GL r_GL (by decide +kernel) (by decide +kernel)
      have hk : fr L R [(12, 1), (12, 28), (12, 29), (12, 35), (12, 36), (12, 37), (12, 38), (12, 39), (12, 42), (12, 43), (12, 44), (12, 45), (12, 46), (12, 47)] [12, 61, 68, 69, 70, 73, 74, 76, 77] f0 f104 := hk.tr hf104 rfl rfl
      have e106 : fld f104 a0 0 = .ref GA := (hf104.efl m_a0 r_a0 rfl).trans t_GA
      have e107 : fld f104 a0 22 = .ref GP := (hf104.efl m_a0 r_a0 rfl).trans t_GP
      have e108 : fld f104 a0 23 = .ref GL := (hf104.efl m_a0 r_a0 rfl).trans t_GL
      have e109 : fld f104 a0 6 = .ref GT := (hf104.efl m_a0 r_a0 rfl).trans t_GT
      exact hret f104 _ _ _ _ v105 dX12_say_22 rfl ⟨hk, hR, hX⟩ h
theorem dX12_brokenBy_0 : decode cX12_brokenBy 0 = .ok (.iconst 0, 1) := by decide +kernel
theorem dX12_brokenBy_1 : decode cX12_brokenBy 1 = .ok (.istore 4, 2) := by decide +kernel
theorem dX12_brokenBy_3 : decode cX12_brokenBy 3 = .ok (.iload 4, 2) := by decide +kernel
theorem dX12_brokenBy_5 : decode cX12_brokenBy 5 = .ok (.iload_n 3, 1) := by decide +kernel
theorem dX12_brokenBy_6 : decode cX12_brokenBy 6 = .ok (.if_icmp .ge 77, 3) := by decide +kernel
theorem dX12_brokenBy_83 : decode cX12_brokenBy 83 = .ok (.iconst (-1), 1) := by decide +kernel
theorem dX12_brokenBy_84 : decode cX12_brokenBy 84 = .ok (.ireturn, 1) := by decide +kernel
theorem dX12_brokenBy_9 : decode cX12_brokenBy 9 = .ok (.aload_n 0, 1) := by decide +kernel
theorem dX12_brokenBy_10 : decode cX12_brokenBy 10 = .ok (.iload_n 1, 1) := by decide +kernel
theorem dX12_brokenBy_11 : decode cX12_brokenBy 11 = .ok (.sipush 22410, 3) := by decide +kernel
theorem ks_22410 : (Int16.ofInt 22410).toInt32.toInt = 22410 := by decide
theorem dX12_brokenBy_14 : decode cX12_brokenBy 14 = .ok (.invokevirtual 409, 3) := by decide +kernel
theorem mw_1187 : Cond.methodLink RX12 409 yX12_works ∈ wsL_law := inr_50 _ (List.mem_of_getElem? (i := 11) rfl)
theorem mw_1190 : Cond.code yX12_works cX12_works 3 none ∈ wsL_law := inr_50 _ (List.mem_of_getElem? (i := 14) rfl)
theorem yk_X12_works : xY yX12_works RX12 cX12_works 3 none 2 := ⟨⟨rfl, by decide +kernel, by decide +kernel, by decide +kernel⟩, mw_5, mw_1190⟩
theorem mw_1188 : Cond.instanceMethod yX12_works ∈ wsL_law := inr_50 _ (List.mem_of_getElem? (i := 12) rfl)
theorem mw_1189 : Cond.selects RX12 yX12_works yX12_works ∈ wsL_law := inr_50 _ (List.mem_of_getElem? (i := 13) rfl)
theorem dX12_brokenBy_17 : decode cX12_brokenBy 17 = .ok (.aload_n 0, 1) := by decide +kernel
theorem dX12_brokenBy_18 : decode cX12_brokenBy 18 = .ok (.iload_n 2, 1) := by decide +kernel
theorem dX12_brokenBy_19 : decode cX12_brokenBy 19 = .ok (.iload 4, 2) := by decide +kernel
theorem dX12_brokenBy_21 : decode cX12_brokenBy 21 = .ok (.invokevirtual 413, 3) := by decide +kernel
theorem mw_1191 : Cond.methodLink RX12 413 yX12_hearsOf ∈ wsL_law := inr_50 _ (List.mem_of_getElem? (i := 15) rfl)
theorem mw_1194 : Cond.code yX12_hearsOf cX12_hearsOf 3 none ∈ wsL_law := inr_50 _ (List.mem_of_getElem? (i := 18) rfl)
theorem yk_X12_hearsOf : xY yX12_hearsOf RX12 cX12_hearsOf 3 none 2 := ⟨⟨rfl, by decide +kernel, by decide +kernel, by decide +kernel⟩, mw_5, mw_1194⟩
theorem mw_1192 : Cond.instanceMethod yX12_hearsOf ∈ wsL_law := inr_50 _ (List.mem_of_getElem? (i := 16) rfl)
theorem mw_1193 : Cond.selects RX12 yX12_hearsOf yX12_hearsOf ∈ wsL_law := inr_50 _ (List.mem_of_getElem? (i := 17) rfl)
theorem dX12_brokenBy_24 : decode cX12_brokenBy 24 = .ok (.aload_n 0, 1) := by decide +kernel
theorem dX12_brokenBy_25 : decode cX12_brokenBy 25 = .ok (.sipush 22410, 3) := by decide +kernel
theorem dX12_brokenBy_28 : decode cX12_brokenBy 28 = .ok (.invokevirtual 387, 3) := by decide +kernel
theorem dX12_brokenBy_31 : decode cX12_brokenBy 31 = .ok (.iconst 0, 1) := by decide +kernel
theorem dX12_brokenBy_32 : decode cX12_brokenBy 32 = .ok (.istore 5, 2) := by decide +kernel
theorem dX12_brokenBy_34 : decode cX12_brokenBy 34 = .ok (.iload 5, 2) := by decide +kernel
theorem dX12_brokenBy_36 : decode cX12_brokenBy 36 = .ok (.iconst 1, 1) := by decide +kernel
theorem dX12_brokenBy_37 : decode cX12_brokenBy 37 = .ok (.iadd, 1) := by decide +kernel
theorem dX12_brokenBy_38 : decode cX12_brokenBy 38 = .ok (.aload_n 0, 1) := by decide +kernel
theorem dX12_brokenBy_39 : decode cX12_brokenBy 39 = .ok (.getfield 324, 3) := by decide +kernel
theorem dX12_brokenBy_42 : decode cX12_brokenBy 42 = .ok (.if_icmp .ge 35, 3) := by decide +kernel
theorem dX12_brokenBy_77 : decode cX12_brokenBy 77 = .ok (.iinc 4 1, 3) := by decide +kernel
theorem dX12_brokenBy_80 : decode cX12_brokenBy 80 = .ok (.goto (-77), 3) := by decide +kernel
theorem dX12_brokenBy_45 : decode cX12_brokenBy 45 = .ok (.aload_n 0, 1) := by decide +kernel
theorem dX12_brokenBy_46 : decode cX12_brokenBy 46 = .ok (.aload_n 0, 1) := by decide +kernel
theorem dX12_brokenBy_47 : decode cX12_brokenBy 47 = .ok (.getfield 63, 3) := by decide +kernel
theorem dX12_brokenBy_50 : decode cX12_brokenBy 50 = .ok (.iload 5, 2) := by decide +kernel
theorem dX12_brokenBy_52 : decode cX12_brokenBy 52 = .ok (.laload, 1) := by decide +kernel
theorem dX12_brokenBy_53 : decode cX12_brokenBy 53 = .ok (.aload_n 0, 1) := by decide +kernel
theorem dX12_brokenBy_54 : decode cX12_brokenBy 54 = .ok (.getfield 63, 3) := by decide +kernel
theorem dX12_brokenBy_57 : decode cX12_brokenBy 57 = .ok (.iload 5, 2) := by decide +kernel
theorem dX12_brokenBy_59 : decode cX12_brokenBy 59 = .ok (.iconst 1, 1) := by decide +kernel
theorem dX12_brokenBy_60 : decode cX12_brokenBy 60 = .ok (.iadd, 1) := by decide +kernel
theorem dX12_brokenBy_61 : decode cX12_brokenBy 61 = .ok (.laload, 1) := by decide +kernel
theorem dX12_brokenBy_62 : decode cX12_brokenBy 62 = .ok (.invokevirtual 434, 3) := by decide +kernel
theorem dX12_brokenBy_65 : decode cX12_brokenBy 65 = .ok (.ifCond .eq 6, 3) := by decide +kernel
theorem dX12_brokenBy_71 : decode cX12_brokenBy 71 = .ok (.iinc 5 1, 3) := by decide +kernel
theorem dX12_brokenBy_74 : decode cX12_brokenBy 74 = .ok (.goto (-40), 3) := by decide +kernel
theorem dX12_brokenBy_68 : decode cX12_brokenBy 68 = .ok (.iload 4, 2) := by decide +kernel
theorem dX12_brokenBy_70 : decode cX12_brokenBy 70 = .ok (.ireturn, 1) := by decide +kernel
def rm_X12_brokenBy : Room := { frames := 6, cells := 0, slots := 0, locals := 150 }
set_option maxHeartbeats 4000000 in
set_option maxRecDepth 100000 in
theorem s_X12_brokenBy (l : Launch) (D : va_G) (cy : Nat → ClassId) (L : List Nat) (R O : Nat → Nat) (f0 : Nat → va_E) (a0 : Nat) (m_a0 : a0 ∈ L) (r_a0 : R a0 = 12) (x1 : Int32) (b1 : 0 ≤ x1.toInt ∧ x1.toInt ≤ 2) (x2 : Int32) (b2 : 0 ≤ x2.toInt ∧ x2.toInt ≤ 3) (x3 : Int32) (b3 : 1 ≤ x3.toInt ∧ x3.toInt ≤ 16) (GA : Nat) (m_GA : GA ∈ L) (r_GA : R GA = 61) (t_GA : fld f0 a0 0 = .ref GA) (GP : Nat) (m_GP : GP ∈ L) (r_GP : R GP = 69) (t_GP : fld f0 a0 22 = .ref GP) (GL : Nat) (m_GL : GL ∈ L) (r_GL : R GL = 70) (t_GL : fld f0 a0 23 = .ref GL) (GT : Nat) (m_GT : GT ∈ L) (r_GT : R GT = 64) (t_GT : fld f0 a0 6 = .ref GT) (pre0 : GZ GP GL f0) (pre1 : RBA GA f0) (pre2 : LT GT x2.toInt.toNat x3.toInt.toNat f0) : ∀ sz, Met l yX12_brokenBy (Cond.code yX12_brokenBy cX12_brokenBy 6 (some .int) :: wsL_law) rm_X12_brokenBy (va_Pc [.ref a0, .int x1, .int x2, .int x3] (tPZ D cy L R (TT cy L R) f0 sz)) (va_Qi (fun (r : Int32) f1 => fr L R [(12, 28), (12, 29), (12, 35), (12, 36), (12, 37), (12, 38), (12, 39)] [12, 61, 68, 69, 70, 73, 74, 76] f0 f1 ∧ (-1) ≤ r.toInt ∧ r.toInt ≤ 15 ∧ GZ GP GL f1 ∧ KW (20760) (25710) GA f0 f1) (tB D (tA L sz) L R (TT cy L R)) (tA L sz)) 0 0 (tA L sz) := by
  refine tw_enteri (by decide +kernel) rfl (Nat.le_of_ble_eq_true rfl) ?_
  intro p e s m below meth c A ls args Q F hZ h hl hret
  have hl : lv_has ls 6 [(0, .ref a0), (1, .int x1), (2, .int x2), (3, .int x3)] := hl
  have hk : fr L R [(12, 28), (12, 29), (12, 35), (12, 36), (12, 37), (12, 38), (12, 39)] [12, 61, 68, 69, 70, 73, 74, 76] f0 f0 := fr.rf
  have hX := pre0
  have hA : KW (20760) (25710) GA f0 f0 := KW.rf
  have hR := pre1
  have hLT := pre2
  refine tw_iconst F dX12_brokenBy_0 ki_0 (fun z1 hz1 => ?_)
  refine lv_istore (lv' := [(4, .int z1), (0, .ref a0), (1, .int x1), (2, .int x2), (3, .int x3)]) F.1 F.2.1 dX12_brokenBy_1 hl (by decide) rfl (fun ls hl => ?_)
  have j_3 : ∀ (n3 : Nat) (f2 : Nat → va_E) (H : Heap) (locs : List Loc) (ls : Array Slot) (x4_3 : Int32), 0 ≤ x4_3.toInt → x4_3.toInt ≤ 16 → ((16 - x4_3.toInt)).toNat < n3 → tS D cy A s.heap L R (TT cy L R) f2 s H locs → GZ GP GL f2 → KW (20760) (25710) GA f0 f2 → RBA GA f2 → LT GT x2.toInt.toNat x3.toInt.toNat f2 → fr L R [(12, 28), (12, 29), (12, 35), (12, 36), (12, 37), (12, 38), (12, 39)] [12, 61, 68, 69, 70, 73, 74, 76] f0 f2 → fr L R [(12, 28), (12, 29), (12, 35), (12, 36), (12, 37), (12, 38), (12, 39)] [12, 61, 68, 69, 70, 73, 74, 76] f0 f2 → lv_has ls 6 [(0, .ref a0), (1, .int x1), (2, .int x2), (3, .int x3), (4, .int x4_3)] → W p l e rm_X12_brokenBy s m args below meth c H locs 0 0 Q (F0 m 3 ls []) := by
    intro n3
    induction n3 with
    | zero =>
      intro f2 H locs ls x4_3 b3 b4 b5 h hX hA hR hLT hk hb3 hl
      exfalso
      omega
    | succ n3 ih3 =>
      intro f2 H locs ls x4_3 b3 b4 b5 h hX hA hR hLT hk hb3 hl
      have e6 : fld f2 a0 0 = .ref GA := (hb3.efl m_a0 r_a0 rfl).trans t_GA
      have e7 : fld f2 a0 22 = .ref GP := (hb3.efl m_a0 r_a0 rfl).trans t_GP
      have e8 : fld f2 a0 23 = .ref GL := (hb3.efl m_a0 r_a0 rfl).trans t_GL
      have e9 : fld f2 a0 6 = .ref GT := (hb3.efl m_a0 r_a0 rfl).trans t_GT
      refine lv_iload F.1 F.2.1 dX12_brokenBy_3 (lv_at hl 4 rfl) ?_
      refine lv_iload_n F.1 F.2.1 dX12_brokenBy_5 rfl (lv_at hl 3 rfl) ?_
      refine tw_icmp_ge (tgt := 83) F dX12_brokenBy_6 (by decide) (fun b10 => ?_) (fun b10 => ?_)
      · refine tw_iconst F dX12_brokenBy_83 ki_m1 (fun z11 hz11 => ?_)
        exact hret f2 _ _ _ _ z11 dX12_brokenBy_84 rfl ⟨hk, by omega, by omega, hX, hA⟩ h
      · refine lv_aload_n F.1 F.2.1 dX12_brokenBy_9 rfl (lv_at hl 0 rfl) ?_
        refine lv_iload_n F.1 F.2.1 dX12_brokenBy_10 rfl (lv_at hl 1 rfl) ?_
        refine tw_sipush F dX12_brokenBy_11 ks_22410 (fun z12 hz12 => ?_)
        refine tw_Vv (As := [.int x1, .int z12]) F hZ h yk_X12_works mw_1187 mw_1188 mw_1189 (s_X12_works l D cy L R O f2 a0 m_a0 r_a0 x1 ⟨by omega, by omega⟩ z12 ⟨by omega, by omega⟩ GA m_GA r_GA e6 GP m_GP r_GP e7 GL m_GL r_GL e8 GT m_GT r_GT e9 (isB_e isB_w (by omega)) (hR.s (by omega))) rfl rfl m_a0 r_a0 (fun e q => (T_12 e).mp q) rfl hl.1 rfl (Nat.le_of_ble_eq_true rfl) ⟨Nat.le_of_ble_eq_true rfl, Nat.le_of_ble_eq_true rfl⟩ ⟨Nat.le_of_ble_eq_true rfl, Nat.le_of_ble_eq_true rfl⟩ dX12_brokenBy_14 (fun f13 H locs hp13 h => ?_)
        obtain ⟨hf13, hv14p0, hv14p1⟩ := hp13
        have hX : GZ GP GL f13 := hX.fm hf13 m_GP r_GP m_GL r_GL (by decide +kernel) (by decide +kernel)
        have hA : KW (20760) (25710) GA f0 f13 := hA.sub hv14p0 (by omega) (by omega)
        have hR : RBA GA f13 := hR.kw hv14p0 (Or.inl (by omega))
        have hLT : LT GT x2.toInt.toNat x3.toInt.toNat f13 := hLT.fm hf13 m_GT r_GT (by decide +kernel)
        have hk : fr L R [(12, 28), (12, 29), (12, 35), (12, 36), (12, 37), (12, 38), (12, 39)] [12, 61, 68, 69, 70, 73, 74, 76] f0 f13 := hk.tr hf13 rfl rfl
        have hb3 : fr L R [(12, 28), (12, 29), (12, 35), (12, 36), (12, 37), (12, 38), (12, 39)] [12, 61, 68, 69, 70, 73, 74, 76] f0 f13 := hb3.tr hf13 rfl rfl
        have e15 : fld f13 a0 0 = .ref GA := (hf13.efl m_a0 r_a0 rfl).trans e6
        have e16 : fld f13 a0 22 = .ref GP := (hf13.efl m_a0 r_a0 rfl).trans e7
        have e17 : fld f13 a0 23 = .ref GL := (hf13.efl m_a0 r_a0 rfl).trans e8
        have e18 : fld f13 a0 6 = .ref GT := (hf13.efl m_a0 r_a0 rfl).trans e9
        have hRB : RB GA 22410 f13 := by have q := hv14p1; rw [show z12.toInt.toNat = 22410 by omega] at q; exact q
        refine lv_aload_n F.1 F.2.1 dX12_brokenBy_17 rfl (lv_at hl 0 rfl) ?_
        refine lv_iload_n F.1 F.2.1 dX12_brokenBy_18 rfl (lv_at hl 2 rfl) ?_
        refine lv_iload F.1 F.2.1 dX12_brokenBy_19 (lv_at hl 4 rfl) ?_
        refine tw_Vv (As := [.int x2, .int x4_3]) F hZ h yk_X12_hearsOf mw_1191 mw_1192 mw_1193 (s_X12_hearsOf l D cy L R O f13 a0 m_a0 r_a0 x2 ⟨by omega, by omega⟩ x4_3 ⟨by omega, by omega⟩ GA m_GA r_GA e15 GP m_GP r_GP e16 GL m_GL r_GL e17 GT m_GT r_GT e18 (hLT _ (by omega))) rfl rfl m_a0 r_a0 (fun e q => (T_12 e).mp q) rfl hl.1 rfl (Nat.le_of_ble_eq_true rfl) ⟨Nat.le_of_ble_eq_true rfl, Nat.le_of_ble_eq_true rfl⟩ ⟨Nat.le_of_ble_eq_true rfl, Nat.le_of_ble_eq_true rfl⟩ dX12_brokenBy_21 (fun f19 H locs hp19 h => ?_)
        have hf19 := hp19
        have hX : GZ GP GL f19 := hX.fm hf19 m_GP r_GP m_GL r_GL (by decide +kernel) (by decide +kernel)
        have hA : KW (20760) (25710) GA f0 f19 := hA.fm hf19 m_GA r_GA (by decide +kernel)
        have hR : RBA GA f19 := hR.fm hf19 m_GA r_GA (by decide +kernel)
        have hLT : LT GT x2.toInt.toNat x3.toInt.toNat f19 := hLT.fm hf19 m_GT r_GT (by decide +kernel)
        have hRB : RB GA 22410 f19 := hRB.fm hf19 m_GA r_GA (by decide +kernel)
        have hk : fr L R [(12, 28), (12, 29), (12, 35), (12, 36), (12, 37), (12, 38), (12, 39)] [12, 61, 68, 69, 70, 73, 74, 76] f0 f19 := hk.tr hf19 rfl rfl
        have hb3 : fr L R [(12, 28), (12, 29), (12, 35), (12, 36), (12, 37), (12, 38), (12, 39)] [12, 61, 68, 69, 70, 73, 74, 76] f0 f19 := hb3.tr hf19 rfl rfl
        have e21 : fld f19 a0 0 = .ref GA := (hf19.efl m_a0 r_a0 rfl).trans e15
        have e22 : fld f19 a0 22 = .ref GP := (hf19.efl m_a0 r_a0 rfl).trans e16
        have e23 : fld f19 a0 23 = .ref GL := (hf19.efl m_a0 r_a0 rfl).trans e17
        have e24 : fld f19 a0 6 = .ref GT := (hf19.efl m_a0 r_a0 rfl).trans e18
        refine lv_aload_n F.1 F.2.1 dX12_brokenBy_24 rfl (lv_at hl 0 rfl) ?_
        refine tw_sipush F dX12_brokenBy_25 ks_22410 (fun z25 hz25 => ?_)
        refine tw_Vv (As := [.int z25]) F hZ h yk_X12_answers0 mw_1057 mw_1058 mw_1059 (s_X12_answers0 l D cy L R O f19 a0 m_a0 r_a0 z25 ⟨by omega, by omega⟩ GA m_GA r_GA e21 GP m_GP r_GP e22 GL m_GL r_GL e23 GT m_GT r_GT e24 (isB_e isB_w (by omega)) (by rw [show z25.toInt.toNat = 22410 by omega]; exact hRB) hX) rfl rfl m_a0 r_a0 (fun e q => (T_12 e).mp q) rfl hl.1 rfl (Nat.le_of_ble_eq_true rfl) ⟨Nat.le_of_ble_eq_true rfl, Nat.le_of_ble_eq_true rfl⟩ ⟨Nat.le_of_ble_eq_true rfl, Nat.le_of_ble_eq_true rfl⟩ dX12_brokenBy_28 (fun f26 H locs hp26 h => ?_)
        obtain ⟨hf26, hv27p0, hv27p1⟩ := hp26
        have hX : GZ GP GL f26 := hv27p0
        have hA : KW (20760) (25710) GA f0 f26 := hA.sub hv27p1 (by omega) (by omega)
        have hR : RBA GA f26 := hR.kw hv27p1 (Or.inl (by omega))
        have hLT : LT GT x2.toInt.toNat x3.toInt.toNat f26 := hLT.fm hf26 m_GT r_GT (by decide +kernel)
        have hRB : RB GA 22410 f26 := hRB.kw hv27p1 (by omega)
        have hk : fr L R [(12, 28), (12, 29), (12, 35), (12, 36), (12, 37), (12, 38), (12, 39)] [12, 61, 68, 69, 70, 73, 74, 76] f0 f26 := hk.tr hf26 (by decide +kernel) (by decide +kernel)
        have hb3 : fr L R [(12, 28), (12, 29), (12, 35), (12, 36), (12, 37), (12, 38), (12, 39)] [12, 61, 68, 69, 70, 73, 74, 76] f0 f26 := hb3.tr hf26 (by decide +kernel) (by decide +kernel)
        have e28 : fld f26 a0 0 = .ref GA := (hf26.efl m_a0 r_a0 rfl).trans e21
        have e29 : fld f26 a0 22 = .ref GP := (hf26.efl m_a0 r_a0 rfl).trans e22
        have e30 : fld f26 a0 23 = .ref GL := (hf26.efl m_a0 r_a0 rfl).trans e23
        have e31 : fld f26 a0 6 = .ref GT := (hf26.efl m_a0 r_a0 rfl).trans e24
        refine tw_iconst F dX12_brokenBy_31 ki_0 (fun z32 hz32 => ?_)
        refine lv_istore (lv' := [(5, .int z32), (0, .ref a0), (1, .int x1), (2, .int x2), (3, .int x3), (4, .int x4_3)]) F.1 F.2.1 dX12_brokenBy_32 hl (by decide) rfl (fun ls hl => ?_)
        have j_34 : ∀ (n34 : Nat) (H : Heap) (locs : List Loc) (ls : Array Slot) (x5_34 : Int32), 0 ≤ x5_34.toInt → x5_34.toInt ≤ 11 → ((11 - x5_34.toInt)).toNat < n34 → tS D cy A s.heap L R (TT cy L R) f26 s H locs → lv_has ls 6 [(0, .ref a0), (1, .int x1), (2, .int x2), (3, .int x3), (4, .int x4_3), (5, .int x5_34)] → W p l e rm_X12_brokenBy s m args below meth c H locs 0 0 Q (F0 m 34 ls []) := by
          intro n34
          induction n34 with
          | zero =>
            intro H locs ls x5_34 b33 b34 b35 h hl
            exfalso
            omega
          | succ n34 ih34 =>
            intro H locs ls x5_34 b33 b34 b35 h hl
            refine lv_iload F.1 F.2.1 dX12_brokenBy_34 (lv_at hl 5 rfl) ?_
            refine tw_iconst F dX12_brokenBy_36 ki_1 (fun z36 hz36 => ?_)
            refine tu_iadd F dX12_brokenBy_37 (by omega) (fun z37 hz37 => ?_)
            refine lv_aload_n F.1 F.2.1 dX12_brokenBy_38 rfl (lv_at hl 0 rfl) ?_
            refine g_12_324 F h m_a0 r_a0 dX12_brokenBy_39 (fun v38 hv38 hv38a hv38b => ?_)
            refine tw_icmp_ge (tgt := 77) F dX12_brokenBy_42 (by decide) (fun b39 => ?_) (fun b39 => ?_)
            · refine tu_iinc F dX12_brokenBy_77 hl (k := 4) rfl (by decide) ki_1 (by omega) (fun z40 ls hz40 hl => ?_)
              have hl : lv_has ls 6 [(4, .int z40), (0, .ref a0), (1, .int x1), (2, .int x2), (3, .int x3), (5, .int x5_34)] := hl
              refine lv_goto (tgt := 3) F.1 F.2.1 dX12_brokenBy_80 (by decide) ?_
              exact ih3 f26 _ _ _ z40 (by omega) (by omega) (by omega) h hX hA hR hLT hk hb3 (lv_sub hl [1, 2, 3, 4, 0] rfl)
            · refine lv_aload_n F.1 F.2.1 dX12_brokenBy_45 rfl (lv_at hl 0 rfl) ?_
              refine lv_aload_n F.1 F.2.1 dX12_brokenBy_46 rfl (lv_at hl 0 rfl) ?_
              refine g_12_63 F h m_a0 r_a0 dX12_brokenBy_47 (fun o41 m_o41 r_o41 ho41 => ?_)
              refine lv_iload F.1 F.2.1 dX12_brokenBy_50 (lv_at hl 5 rfl) ?_
              refine ld_74 F h m_o41 r_o41 (by omega) dX12_brokenBy_52 (fun v42 => ?_)
              refine lv_aload_n F.1 F.2.1 dX12_brokenBy_53 rfl (lv_at hl 0 rfl) ?_
              refine g_12_63 F h m_a0 r_a0 dX12_brokenBy_54 (fun o43 m_o43 r_o43 ho43 => ?_)
              refine lv_iload F.1 F.2.1 dX12_brokenBy_57 (lv_at hl 5 rfl) ?_
              refine tw_iconst F dX12_brokenBy_59 ki_1 (fun z44 hz44 => ?_)
              refine tu_iadd F dX12_brokenBy_60 (by omega) (fun z45 hz45 => ?_)
              refine ld_74 F h m_o43 r_o43 (by omega) dX12_brokenBy_61 (fun v46 => ?_)
              refine tw_Vi (As := [.long v42, .long v46]) F hZ h yk_X12_breaks mw_1359 mw_1360 mw_1361 (s_X12_breaks l D cy L R O f26 a0 m_a0 r_a0 v42 v46) rfl rfl m_a0 r_a0 (fun e q => (T_12 e).mp q) rfl hl.1 rfl (Nat.le_of_ble_eq_true rfl) ⟨Nat.le_of_ble_eq_true rfl, Nat.le_of_ble_eq_true rfl⟩ ⟨Nat.le_of_ble_eq_true rfl, Nat.le_of_ble_eq_true rfl⟩ dX12_brokenBy_62 (fun v48 f47 H locs hp47 h => ?_)
              obtain ⟨rfl, hv48a, hv48b⟩ := hp47
              refine tw_if_eq (tgt := 71) F dX12_brokenBy_65 (by decide) (fun b49 => ?_) (fun b49 => ?_)
              · refine tu_iinc F dX12_brokenBy_71 hl (k := 5) rfl (by decide) ki_1 (by omega) (fun z50 ls hz50 hl => ?_)
                have hl : lv_has ls 6 [(5, .int z50), (0, .ref a0), (1, .int x1), (2, .int x2), (3, .int x3), (4, .int x4_3)] := hl
                refine lv_goto (tgt := 34) F.1 F.2.1 dX12_brokenBy_74 (by decide) ?_
                exact ih34 _ _ _ z50 (by omega) (by omega) (by omega) h (lv_sub hl [1, 2, 3, 4, 5, 0] rfl)
              · refine lv_iload F.1 F.2.1 dX12_brokenBy_68 (lv_at hl 4 rfl) ?_
                exact hret f26 _ _ _ _ x4_3 dX12_brokenBy_70 rfl ⟨hk, by omega, by omega, hX, hA⟩ h
        exact j_34 (((11 - z32.toInt)).toNat + 1) _ _ _ z32 (by omega) (by omega) (by omega) h (lv_sub hl [1, 2, 3, 4, 5, 0] rfl)
  have hb3 : fr L R [(12, 28), (12, 29), (12, 35), (12, 36), (12, 37), (12, 38), (12, 39)] [12, 61, 68, 69, 70, 73, 74, 76] f0 f0 := fr.rf
  exact j_3 (((16 - z1.toInt)).toNat + 1) f0 _ _ _ z1 (by omega) (by omega) (by omega) h hX hA hR hLT hk hb3 (lv_sub hl [1, 2, 3, 4, 0] rfl)
theorem dX12_talk_0 : decode cX12_talk 0 = .ok (.aload_n 0, 1) := by decide +kernel
theorem dX12_talk_1 : decode cX12_talk 1 = .ok (.aload_n 0, 1) := by decide +kernel
theorem dX12_talk_2 : decode cX12_talk 2 = .ok (.iload_n 1, 1) := by decide +kernel
theorem dX12_talk_3 : decode cX12_talk 3 = .ok (.invokevirtual 282, 3) := by decide +kernel
theorem dX12_talk_6 : decode cX12_talk 6 = .ok (.iload_n 2, 1) := by decide +kernel
theorem dX12_talk_7 : decode cX12_talk 7 = .ok (.iload_n 3, 1) := by decide +kernel
theorem dX12_talk_8 : decode cX12_talk 8 = .ok (.bipush 15, 2) := by decide +kernel
theorem dX12_talk_10 : decode cX12_talk 10 = .ok (.invokevirtual 405, 3) := by decide +kernel
theorem mw_1183 : Cond.methodLink RX12 405 yX12_wrongLines ∈ wsL_law := inr_50 _ (List.mem_of_getElem? (i := 7) rfl)
theorem mw_1186 : Cond.code yX12_wrongLines cX12_wrongLines 7 (some .int) ∈ wsL_law := inr_50 _ (List.mem_of_getElem? (i := 10) rfl)
theorem yk_X12_wrongLines : xY yX12_wrongLines RX12 cX12_wrongLines 7 (some .int) 4 := ⟨⟨rfl, by decide +kernel, by decide +kernel, by decide +kernel⟩, mw_5, mw_1186⟩
theorem mw_1184 : Cond.instanceMethod yX12_wrongLines ∈ wsL_law := inr_50 _ (List.mem_of_getElem? (i := 8) rfl)
theorem mw_1185 : Cond.selects RX12 yX12_wrongLines yX12_wrongLines ∈ wsL_law := inr_50 _ (List.mem_of_getElem? (i := 9) rfl)
theorem dX12_talk_13 : decode cX12_talk 13 = .ok (.istore 4, 2) := by decide +kernel
theorem dX12_talk_15 : decode cX12_talk 15 = .ok (.iload 4, 2) := by decide +kernel
theorem dX12_talk_17 : decode cX12_talk 17 = .ok (.ifCond .le 10, 3) := by decide +kernel
theorem dX12_talk_27 : decode cX12_talk 27 = .ok (.aload_n 0, 1) := by decide +kernel
theorem dX12_talk_28 : decode cX12_talk 28 = .ok (.iload_n 1, 1) := by decide +kernel
theorem dX12_talk_29 : decode cX12_talk 29 = .ok (.sipush 22410, 3) := by decide +kernel
theorem dX12_talk_32 : decode cX12_talk 32 = .ok (.invokevirtual 409, 3) := by decide +kernel
theorem dX12_talk_35 : decode cX12_talk 35 = .ok (.iconst 0, 1) := by decide +kernel
theorem dX12_talk_36 : decode cX12_talk 36 = .ok (.istore 5, 2) := by decide +kernel
theorem dX12_talk_38 : decode cX12_talk 38 = .ok (.iconst 0, 1) := by decide +kernel
theorem dX12_talk_39 : decode cX12_talk 39 = .ok (.istore 6, 2) := by decide +kernel
theorem dX12_talk_41 : decode cX12_talk 41 = .ok (.iload 6, 2) := by decide +kernel
theorem dX12_talk_43 : decode cX12_talk 43 = .ok (.iload_n 3, 1) := by decide +kernel
theorem dX12_talk_44 : decode cX12_talk 44 = .ok (.if_icmp .ge 168, 3) := by decide +kernel
theorem dX12_talk_212 : decode cX12_talk 212 = .ok (.aload_n 0, 1) := by decide +kernel
theorem dX12_talk_213 : decode cX12_talk 213 = .ok (.iload_n 3, 1) := by decide +kernel
theorem dX12_talk_214 : decode cX12_talk 214 = .ok (.putfield 416, 3) := by decide +kernel
section
variable {p : Program} {l : Launch} {e : Env} {R0 : Room} {s : State} {m : MethodId} {args : Array Value} {below : List Frame} {meth : Method} {c : Code} {H H0 : Heap} {locs : List Loc} {cells slots : Nat} {Q : State → Prop} {cc : ByteArray} {nL : Nat} {D : va_G} {cy : Nat → ClassId} {A : Nat → Prop} {L : List Nat} {R : Nat → Nat} {f : Nat → va_E} {pc : Nat} {ls : Array Slot} {rest : List Value} {a : Nat}
theorem p_12_416 (F : CallFix p m c cc nL s args wsL_law RX12) (h : tS D cy A H0 L R (TT cy L R) f s H locs) {x : Int32} (ha : a ∈ L) (hr : R a = 12) (hv : 0 ≤ x.toInt ∧ x.toInt ≤ 15) (hdg : decode cc pc = .ok (.putfield 416, 3)) (kk : ∀ (f1 : Nat → va_E) (H1 : Heap) (locs1 : List Loc), fi f1 a 51 = x.toInt → fr L R [(12, 51)] [12] f f1 → tS D cy A H0 L R (TT cy L R) f1 s H1 locs1 → W p l e R0 s m args below meth c H1 locs1 cells slots Q (F0 m (pc + 3) ls (rest))) : W p l e R0 s m args below meth c H locs cells slots Q (F0 m pc ls (.int x :: .ref a :: rest)) := tu_puti (k := 51) F h ha hr T_12 rfl hv.1 hv.2 inlX12 tyX12_ok nmX12 rfl (Nat.le_of_ble_eq_true rfl) mw_773 rfl rfl rfl hdg kk
end
theorem dX12_talk_217 : decode cX12_talk 217 = .ok (.aload_n 0, 1) := by decide +kernel
theorem dX12_talk_218 : decode cX12_talk 218 = .ok (.iload 5, 2) := by decide +kernel
theorem dX12_talk_220 : decode cX12_talk 220 = .ok (.invokevirtual 209, 3) := by decide +kernel
theorem dX12_talk_223 : decode cX12_talk 223 = .ok (.ireturn, 1) := by decide +kernel
theorem dX12_talk_47 : decode cX12_talk 47 = .ok (.aload_n 0, 1) := by decide +kernel
theorem dX12_talk_48 : decode cX12_talk 48 = .ok (.iload_n 2, 1) := by decide +kernel
theorem dX12_talk_49 : decode cX12_talk 49 = .ok (.iload 6, 2) := by decide +kernel
theorem dX12_talk_51 : decode cX12_talk 51 = .ok (.invokevirtual 413, 3) := by decide +kernel
theorem dX12_talk_54 : decode cX12_talk 54 = .ok (.aload_n 0, 1) := by decide +kernel
theorem dX12_talk_55 : decode cX12_talk 55 = .ok (.sipush 22410, 3) := by decide +kernel
theorem dX12_talk_58 : decode cX12_talk 58 = .ok (.invokevirtual 387, 3) := by decide +kernel
theorem dX12_talk_61 : decode cX12_talk 61 = .ok (.bipush 26, 2) := by decide +kernel
theorem dX12_talk_63 : decode cX12_talk 63 = .ok (.iload 6, 2) := by decide +kernel
theorem dX12_talk_65 : decode cX12_talk 65 = .ok (.imul, 1) := by decide +kernel
theorem dX12_talk_66 : decode cX12_talk 66 = .ok (.istore 7, 2) := by decide +kernel
theorem dX12_talk_68 : decode cX12_talk 68 = .ok (.aload_n 0, 1) := by decide +kernel
theorem dX12_talk_69 : decode cX12_talk 69 = .ok (.getfield 84, 3) := by decide +kernel
theorem dX12_talk_72 : decode cX12_talk 72 = .ok (.iload 7, 2) := by decide +kernel
theorem dX12_talk_74 : decode cX12_talk 74 = .ok (.aload_n 0, 1) := by decide +kernel
theorem dX12_talk_75 : decode cX12_talk 75 = .ok (.getfield 298, 3) := by decide +kernel
theorem dX12_talk_78 : decode cX12_talk 78 = .ok (.i2l, 1) := by decide +kernel
theorem dX12_talk_79 : decode cX12_talk 79 = .ok (.lastore, 1) := by decide +kernel
section
variable {p : Program} {l : Launch} {e : Env} {R0 : Room} {s : State} {m : MethodId} {args : Array Value} {below : List Frame} {meth : Method} {c : Code} {H H0 : Heap} {locs : List Loc} {cells slots : Nat} {Q : State → Prop} {cc : ByteArray} {nL : Nat} {D : va_G} {cy : Nat → ClassId} {A : Nat → Prop} {L : List Nat} {R : Nat → Nat} {f : Nat → va_E} {pc : Nat} {ls : Array Slot} {rest : List Value} {a : Nat}
theorem st_78 {own : String} (F : CallFix p m c cc nL s args wsL_law own) (h : tS D cy A H0 L R (TT cy L R) f s H locs) {i : Int32} {x : Int64} (ha : a ∈ L) (hr : R a = 78) (hb : 0 ≤ i.toInt ∧ i.toInt < 520) (hv : taP i.toInt.toNat x.toInt) (hdg : decode cc pc = .ok (.lastore, 1)) (kk : ∀ (f1 : Nat → va_E) (H1 : Heap) (locs1 : List Loc), fr L R [] [78] f f1 → tS D cy A H0 L R (TT cy L R) f1 s H1 locs1 → W p l e R0 s m args below meth c H1 locs1 cells slots Q (F0 m (pc + 1) ls (rest))) : W p l e R0 s m args below meth c H locs cells slots Q (F0 m pc ls (.long x :: .int i :: .ref a :: rest)) := tu_last F h ha hr T_78 hb.1 hb.2 hv hdg (fun f1 H1 locs1 h1 h2 h3 h4 => kk f1 H1 locs1 h3 h4)
end
theorem dX12_talk_80 : decode cX12_talk 80 = .ok (.iconst 0, 1) := by decide +kernel
theorem dX12_talk_81 : decode cX12_talk 81 = .ok (.istore 8, 2) := by decide +kernel
theorem dX12_talk_83 : decode cX12_talk 83 = .ok (.iload 8, 2) := by decide +kernel
theorem dX12_talk_85 : decode cX12_talk 85 = .ok (.aload_n 0, 1) := by decide +kernel
theorem dX12_talk_86 : decode cX12_talk 86 = .ok (.getfield 298, 3) := by decide +kernel
theorem dX12_talk_89 : decode cX12_talk 89 = .ok (.if_icmp .ge 28, 3) := by decide +kernel
theorem dX12_talk_117 : decode cX12_talk 117 = .ok (.aload_n 0, 1) := by decide +kernel
theorem dX12_talk_118 : decode cX12_talk 118 = .ok (.getfield 84, 3) := by decide +kernel
theorem dX12_talk_121 : decode cX12_talk 121 = .ok (.iload 7, 2) := by decide +kernel
theorem dX12_talk_123 : decode cX12_talk 123 = .ok (.bipush 13, 2) := by decide +kernel
theorem dX12_talk_125 : decode cX12_talk 125 = .ok (.iadd, 1) := by decide +kernel
theorem dX12_talk_126 : decode cX12_talk 126 = .ok (.aload_n 0, 1) := by decide +kernel
theorem dX12_talk_127 : decode cX12_talk 127 = .ok (.getfield 324, 3) := by decide +kernel
theorem dX12_talk_130 : decode cX12_talk 130 = .ok (.i2l, 1) := by decide +kernel
theorem dX12_talk_131 : decode cX12_talk 131 = .ok (.lastore, 1) := by decide +kernel
theorem dX12_talk_132 : decode cX12_talk 132 = .ok (.iconst 0, 1) := by decide +kernel
theorem dX12_talk_133 : decode cX12_talk 133 = .ok (.istore 8, 2) := by decide +kernel
theorem dX12_talk_135 : decode cX12_talk 135 = .ok (.iload 8, 2) := by decide +kernel
theorem dX12_talk_137 : decode cX12_talk 137 = .ok (.aload_n 0, 1) := by decide +kernel
theorem dX12_talk_138 : decode cX12_talk 138 = .ok (.getfield 324, 3) := by decide +kernel
theorem dX12_talk_141 : decode cX12_talk 141 = .ok (.if_icmp .ge 29, 3) := by decide +kernel
theorem dX12_talk_170 : decode cX12_talk 170 = .ok (.aload_n 0, 1) := by decide +kernel
theorem dX12_talk_171 : decode cX12_talk 171 = .ok (.getfield 87, 3) := by decide +kernel
theorem dX12_talk_174 : decode cX12_talk 174 = .ok (.iload 6, 2) := by decide +kernel
theorem dX12_talk_176 : decode cX12_talk 176 = .ok (.aload_n 0, 1) := by decide +kernel
theorem dX12_talk_177 : decode cX12_talk 177 = .ok (.getfield 357, 3) := by decide +kernel
theorem dX12_talk_180 : decode cX12_talk 180 = .ok (.iastore, 1) := by decide +kernel
section
variable {p : Program} {l : Launch} {e : Env} {R0 : Room} {s : State} {m : MethodId} {args : Array Value} {below : List Frame} {meth : Method} {c : Code} {H H0 : Heap} {locs : List Loc} {cells slots : Nat} {Q : State → Prop} {cc : ByteArray} {nL : Nat} {D : va_G} {cy : Nat → ClassId} {A : Nat → Prop} {L : List Nat} {R : Nat → Nat} {f : Nat → va_E} {pc : Nat} {ls : Array Slot} {rest : List Value} {a : Nat}
theorem st_79 {own : String} (F : CallFix p m c cc nL s args wsL_law own) (h : tS D cy A H0 L R (TT cy L R) f s H locs) {i : Int32} {x : Int32} (ha : a ∈ L) (hr : R a = 79) (hb : 0 ≤ i.toInt ∧ i.toInt < 20) (hdg : decode cc pc = .ok (.iastore, 1)) (kk : ∀ (f1 : Nat → va_E) (H1 : Heap) (locs1 : List Loc), fr L R [] [79] f f1 → tS D cy A H0 L R (TT cy L R) f1 s H1 locs1 → W p l e R0 s m args below meth c H1 locs1 cells slots Q (F0 m (pc + 1) ls (rest))) : W p l e R0 s m args below meth c H locs cells slots Q (F0 m pc ls (.int x :: .int i :: .ref a :: rest)) := tu_iast F h ha hr T_79 hb.1 hb.2 trivial hdg (fun f1 H1 locs1 h1 h2 h3 h4 => kk f1 H1 locs1 h3 h4)
end
theorem dX12_talk_181 : decode cX12_talk 181 = .ok (.aload_n 0, 1) := by decide +kernel
theorem dX12_talk_182 : decode cX12_talk 182 = .ok (.getfield 90, 3) := by decide +kernel
theorem dX12_talk_185 : decode cX12_talk 185 = .ok (.iload 6, 2) := by decide +kernel
theorem dX12_talk_187 : decode cX12_talk 187 = .ok (.iconst 0, 1) := by decide +kernel
theorem dX12_talk_188 : decode cX12_talk 188 = .ok (.bastore, 1) := by decide +kernel
theorem dX12_talk_189 : decode cX12_talk 189 = .ok (.iload 5, 2) := by decide +kernel
theorem dX12_talk_191 : decode cX12_talk 191 = .ok (.aload_n 0, 1) := by decide +kernel
theorem dX12_talk_192 : decode cX12_talk 192 = .ok (.getfield 357, 3) := by decide +kernel
theorem dX12_talk_203 : decode cX12_talk 203 = .ok (.iadd, 1) := by decide +kernel
theorem dX12_talk_204 : decode cX12_talk 204 = .ok (.istore 5, 2) := by decide +kernel
theorem dX12_talk_206 : decode cX12_talk 206 = .ok (.iinc 6 1, 3) := by decide +kernel
theorem dX12_talk_209 : decode cX12_talk 209 = .ok (.goto (-168), 3) := by decide +kernel
theorem dX12_talk_195 : decode cX12_talk 195 = .ok (.ifCond .ne 7, 3) := by decide +kernel
theorem dX12_talk_202 : decode cX12_talk 202 = .ok (.iconst 0, 1) := by decide +kernel
theorem dX12_talk_198 : decode cX12_talk 198 = .ok (.iconst 1, 1) := by decide +kernel
theorem dX12_talk_199 : decode cX12_talk 199 = .ok (.goto 4, 3) := by decide +kernel
theorem dX12_talk_144 : decode cX12_talk 144 = .ok (.aload_n 0, 1) := by decide +kernel
theorem dX12_talk_145 : decode cX12_talk 145 = .ok (.getfield 84, 3) := by decide +kernel
theorem dX12_talk_148 : decode cX12_talk 148 = .ok (.iload 7, 2) := by decide +kernel
theorem dX12_talk_150 : decode cX12_talk 150 = .ok (.bipush 14, 2) := by decide +kernel
theorem dX12_talk_152 : decode cX12_talk 152 = .ok (.iadd, 1) := by decide +kernel
theorem dX12_talk_153 : decode cX12_talk 153 = .ok (.iload 8, 2) := by decide +kernel
theorem dX12_talk_155 : decode cX12_talk 155 = .ok (.iadd, 1) := by decide +kernel
theorem dX12_talk_156 : decode cX12_talk 156 = .ok (.aload_n 0, 1) := by decide +kernel
theorem dX12_talk_157 : decode cX12_talk 157 = .ok (.getfield 63, 3) := by decide +kernel
theorem dX12_talk_160 : decode cX12_talk 160 = .ok (.iload 8, 2) := by decide +kernel
theorem dX12_talk_162 : decode cX12_talk 162 = .ok (.laload, 1) := by decide +kernel
theorem dX12_talk_163 : decode cX12_talk 163 = .ok (.lastore, 1) := by decide +kernel
theorem dX12_talk_164 : decode cX12_talk 164 = .ok (.iinc 8 1, 3) := by decide +kernel
theorem dX12_talk_167 : decode cX12_talk 167 = .ok (.goto (-32), 3) := by decide +kernel
theorem dX12_talk_92 : decode cX12_talk 92 = .ok (.aload_n 0, 1) := by decide +kernel
theorem dX12_talk_93 : decode cX12_talk 93 = .ok (.getfield 84, 3) := by decide +kernel
theorem dX12_talk_96 : decode cX12_talk 96 = .ok (.iload 7, 2) := by decide +kernel
theorem dX12_talk_98 : decode cX12_talk 98 = .ok (.iconst 1, 1) := by decide +kernel
theorem dX12_talk_99 : decode cX12_talk 99 = .ok (.iadd, 1) := by decide +kernel
theorem dX12_talk_100 : decode cX12_talk 100 = .ok (.iload 8, 2) := by decide +kernel
theorem dX12_talk_102 : decode cX12_talk 102 = .ok (.iadd, 1) := by decide +kernel
theorem dX12_talk_103 : decode cX12_talk 103 = .ok (.aload_n 0, 1) := by decide +kernel
theorem dX12_talk_104 : decode cX12_talk 104 = .ok (.getfield 60, 3) := by decide +kernel
theorem dX12_talk_107 : decode cX12_talk 107 = .ok (.iload 8, 2) := by decide +kernel
theorem dX12_talk_109 : decode cX12_talk 109 = .ok (.laload, 1) := by decide +kernel
theorem dX12_talk_110 : decode cX12_talk 110 = .ok (.lastore, 1) := by decide +kernel
theorem dX12_talk_111 : decode cX12_talk 111 = .ok (.iinc 8 1, 3) := by decide +kernel
theorem dX12_talk_114 : decode cX12_talk 114 = .ok (.goto (-31), 3) := by decide +kernel
theorem dX12_talk_20 : decode cX12_talk 20 = .ok (.aload_n 0, 1) := by decide +kernel
theorem dX12_talk_21 : decode cX12_talk 21 = .ok (.iload 4, 2) := by decide +kernel
theorem dX12_talk_23 : decode cX12_talk 23 = .ok (.invokevirtual 194, 3) := by decide +kernel
theorem dX12_talk_26 : decode cX12_talk 26 = .ok (.ireturn, 1) := by decide +kernel
def rm_X12_talk : Room := { frames := 6, cells := 0, slots := 0, locals := 150 }
set_option maxHeartbeats 4000000 in
set_option maxRecDepth 100000 in
theorem s_X12_talk (l : Launch) (D : va_G) (cy : Nat → ClassId) (L : List Nat) (R O : Nat → Nat) (f0 : Nat → va_E) (a0 : Nat) (m_a0 : a0 ∈ L) (r_a0 : R a0 = 12) (x1 : Int32) (x2 : Int32) (x3 : Int32) (GA : Nat) (m_GA : GA ∈ L) (r_GA : R GA = 61) (t_GA : fld f0 a0 0 = .ref GA) (GP : Nat) (m_GP : GP ∈ L) (r_GP : R GP = 69) (t_GP : fld f0 a0 22 = .ref GP) (GL : Nat) (m_GL : GL ∈ L) (r_GL : R GL = 70) (t_GL : fld f0 a0 23 = .ref GL) (GT : Nat) (m_GT : GT ∈ L) (r_GT : R GT = 64) (t_GT : fld f0 a0 6 = .ref GT) (pre0 : RBA GA f0) (pre1 : GZ GP GL f0) : ∀ sz, Met l yX12_talk (Cond.code yX12_talk cX12_talk 9 (some .int) :: wsL_law) rm_X12_talk (va_Pc [.ref a0, .int x1, .int x2, .int x3] (tPZ D cy L R (TT cy L R) f0 sz)) (va_Qi (fun (r : Int32) f1 => fr L R [(12, 1), (12, 28), (12, 29), (12, 35), (12, 36), (12, 37), (12, 38), (12, 39), (12, 51)] [12, 61, 68, 69, 70, 73, 74, 76, 78, 79, 80] f0 f1 ∧ RBA GA f1 ∧ GZ GP GL f1) (tB D (tA L sz) L R (TT cy L R)) (tA L sz)) 0 0 (tA L sz) := by
  refine tw_enteri (by decide +kernel) rfl (Nat.le_of_ble_eq_true rfl) ?_
  intro p e s m below meth c A ls args Q F hZ h hl hret
  have hl : lv_has ls 9 [(0, .ref a0), (1, .int x1), (2, .int x2), (3, .int x3)] := hl
  have hk : fr L R [(12, 1), (12, 28), (12, 29), (12, 35), (12, 36), (12, 37), (12, 38), (12, 39), (12, 51)] [12, 61, 68, 69, 70, 73, 74, 76, 78, 79, 80] f0 f0 := fr.rf
  have hR := pre0
  have hX := pre1
  refine lv_aload_n F.1 F.2.1 dX12_talk_0 rfl (lv_at hl 0 rfl) ?_
  refine lv_aload_n F.1 F.2.1 dX12_talk_1 rfl (lv_at hl 0 rfl) ?_
  refine lv_iload_n F.1 F.2.1 dX12_talk_2 rfl (lv_at hl 1 rfl) ?_
  refine tw_Vi (As := [.int x1]) F hZ h yk_X12_isScript mw_635 mw_636 mw_637 (s_X12_isScript l D cy L R O f0 a0 m_a0 r_a0 x1) rfl rfl m_a0 r_a0 (fun e q => (T_12 e).mp q) rfl hl.1 rfl (Nat.le_of_ble_eq_true rfl) ⟨Nat.le_of_ble_eq_true rfl, Nat.le_of_ble_eq_true rfl⟩ ⟨Nat.le_of_ble_eq_true rfl, Nat.le_of_ble_eq_true rfl⟩ dX12_talk_3 (fun v2 f1 H locs hp1 h => ?_)
  obtain ⟨rfl, hv2a, hv2b, hv2p0⟩ := hp1
  refine lv_iload_n F.1 F.2.1 dX12_talk_6 rfl (lv_at hl 2 rfl) ?_
  refine lv_iload_n F.1 F.2.1 dX12_talk_7 rfl (lv_at hl 3 rfl) ?_
  refine tw_bipush F dX12_talk_8 kb_15 (fun z3 hz3 => ?_)
  refine tw_Vi (As := [.int v2, .int x2, .int x3, .int z3]) F hZ h yk_X12_wrongLines mw_1183 mw_1184 mw_1185 (s_X12_wrongLines l D cy L R O f0 a0 m_a0 r_a0 v2 ⟨by omega, by omega⟩ x2 x3 z3 ⟨by omega, by omega⟩ GA m_GA r_GA t_GA GP m_GP r_GP t_GP GL m_GL r_GL t_GL GT m_GT r_GT t_GT) rfl rfl m_a0 r_a0 (fun e q => (T_12 e).mp q) rfl hl.1 rfl (Nat.le_of_ble_eq_true rfl) ⟨Nat.le_of_ble_eq_true rfl, Nat.le_of_ble_eq_true rfl⟩ ⟨Nat.le_of_ble_eq_true rfl, Nat.le_of_ble_eq_true rfl⟩ dX12_talk_10 (fun v5 f4 H locs hp4 h => ?_)
  obtain ⟨rfl, hv5a, hv5b, hv5p0, hv5p1⟩ := hp4
  refine lv_istore (lv' := [(4, .int v5), (0, .ref a0), (1, .int x1), (2, .int x2), (3, .int x3)]) F.1 F.2.1 dX12_talk_13 hl (by decide) rfl (fun ls hl => ?_)
  refine lv_iload F.1 F.2.1 dX12_talk_15 (lv_at hl 0 rfl) ?_
  refine tw_if_le (tgt := 27) F dX12_talk_17 (by decide) (fun b6 => ?_) (fun b6 => ?_)
  · have hLT : LT GT x2.toInt.toNat x3.toInt.toNat f0 := hv5p0.g.resolve_left (by omega)
    refine lv_aload_n F.1 F.2.1 dX12_talk_27 rfl (lv_at hl 1 rfl) ?_
    refine lv_iload_n F.1 F.2.1 dX12_talk_28 rfl (lv_at hl 2 rfl) ?_
    refine tw_sipush F dX12_talk_29 ks_22410 (fun z7 hz7 => ?_)
    refine tw_Vv (As := [.int x1, .int z7]) F hZ h yk_X12_works mw_1187 mw_1188 mw_1189 (s_X12_works l D cy L R O f0 a0 m_a0 r_a0 x1 ⟨by omega, by omega⟩ z7 ⟨by omega, by omega⟩ GA m_GA r_GA t_GA GP m_GP r_GP t_GP GL m_GL r_GL t_GL GT m_GT r_GT t_GT (isB_e isB_w (by omega)) (hR.s (by omega))) rfl rfl m_a0 r_a0 (fun e q => (T_12 e).mp q) rfl hl.1 rfl (Nat.le_of_ble_eq_true rfl) ⟨Nat.le_of_ble_eq_true rfl, Nat.le_of_ble_eq_true rfl⟩ ⟨Nat.le_of_ble_eq_true rfl, Nat.le_of_ble_eq_true rfl⟩ dX12_talk_32 (fun f8 H locs hp8 h => ?_)
    obtain ⟨hf8, hv9p0, hv9p1⟩ := hp8
    have hR : RBA GA f8 := hR.kw hv9p0 (Or.inl (by omega))
    have hX : GZ GP GL f8 := hX.fm hf8 m_GP r_GP m_GL r_GL (by decide +kernel) (by decide +kernel)
    have hLT : LT GT x2.toInt.toNat x3.toInt.toNat f8 := hLT.fm hf8 m_GT r_GT (by decide +kernel)
    have hk : fr L R [(12, 1), (12, 28), (12, 29), (12, 35), (12, 36), (12, 37), (12, 38), (12, 39), (12, 51)] [12, 61, 68, 69, 70, 73, 74, 76, 78, 79, 80] f0 f8 := hk.tr hf8 rfl rfl
    have e10 : fld f8 a0 0 = .ref GA := (hf8.efl m_a0 r_a0 rfl).trans t_GA
    have e11 : fld f8 a0 22 = .ref GP := (hf8.efl m_a0 r_a0 rfl).trans t_GP
    have e12 : fld f8 a0 23 = .ref GL := (hf8.efl m_a0 r_a0 rfl).trans t_GL
    have e13 : fld f8 a0 6 = .ref GT := (hf8.efl m_a0 r_a0 rfl).trans t_GT
    have hRB : RB GA 22410 f8 := by have q := hv9p1; rw [show z7.toInt.toNat = 22410 by omega] at q; exact q
    refine tw_iconst F dX12_talk_35 ki_0 (fun z14 hz14 => ?_)
    refine lv_istore (lv' := [(5, .int z14), (4, .int v5), (0, .ref a0), (1, .int x1), (2, .int x2), (3, .int x3)]) F.1 F.2.1 dX12_talk_36 hl (by decide) rfl (fun ls hl => ?_)
    refine tw_iconst F dX12_talk_38 ki_0 (fun z15 hz15 => ?_)
    refine lv_istore (lv' := [(6, .int z15), (5, .int z14), (4, .int v5), (0, .ref a0), (1, .int x1), (2, .int x2), (3, .int x3)]) F.1 F.2.1 dX12_talk_39 hl (by decide) rfl (fun ls hl => ?_)
    have j_41 : ∀ (n41 : Nat) (f16 : Nat → va_E) (H : Heap) (locs : List Loc) (ls : Array Slot) (x5_41 : Int32) (x6_41 : Int32), 0 ≤ x6_41.toInt → x6_41.toInt ≤ 16 → ((16 - x6_41.toInt)).toNat < n41 → tS D cy A s.heap L R (TT cy L R) f16 s H locs → RBA GA f16 → GZ GP GL f16 → LT GT x2.toInt.toNat x3.toInt.toNat f16 → RB GA 22410 f16 → fr L R [(12, 1), (12, 28), (12, 29), (12, 35), (12, 36), (12, 37), (12, 38), (12, 39), (12, 51)] [12, 61, 68, 69, 70, 73, 74, 76, 78, 79, 80] f0 f16 → fr L R [(12, 28), (12, 29), (12, 35), (12, 36), (12, 37), (12, 38), (12, 39)] [12, 61, 68, 69, 70, 73, 74, 76, 78, 79, 80] f8 f16 → lv_has ls 9 [(0, .ref a0), (2, .int x2), (3, .int x3), (5, .int x5_41), (6, .int x6_41)] → W p l e rm_X12_talk s m args below meth c H locs 0 0 Q (F0 m 41 ls []) := by
      intro n41
      induction n41 with
      | zero =>
        intro f16 H locs ls x5_41 x6_41 b17 b18 b19 h hR hX hLT hRB hk hb41 hl
        exfalso
        omega
      | succ n41 ih41 =>
        intro f16 H locs ls x5_41 x6_41 b17 b18 b19 h hR hX hLT hRB hk hb41 hl
        have e20 : fld f16 a0 0 = .ref GA := (hb41.efl m_a0 r_a0 rfl).trans e10
        have e21 : fld f16 a0 22 = .ref GP := (hb41.efl m_a0 r_a0 rfl).trans e11
        have e22 : fld f16 a0 23 = .ref GL := (hb41.efl m_a0 r_a0 rfl).trans e12
        have e23 : fld f16 a0 6 = .ref GT := (hb41.efl m_a0 r_a0 rfl).trans e13
        refine lv_iload F.1 F.2.1 dX12_talk_41 (lv_at hl 4 rfl) ?_
        refine lv_iload_n F.1 F.2.1 dX12_talk_43 rfl (lv_at hl 2 rfl) ?_
        refine tw_icmp_ge (tgt := 212) F dX12_talk_44 (by decide) (fun b24 => ?_) (fun b24 => ?_)
        · refine lv_aload_n F.1 F.2.1 dX12_talk_212 rfl (lv_at hl 0 rfl) ?_
          refine lv_iload_n F.1 F.2.1 dX12_talk_213 rfl (lv_at hl 2 rfl) ?_
          refine p_12_416 F h m_a0 r_a0 (by omega) dX12_talk_214 (fun f25 H locs e25p hf25 h => ?_)
          have hR : RBA GA f25 := hR.fm hf25 m_GA r_GA (by decide +kernel)
          have hX : GZ GP GL f25 := hX.fm hf25 m_GP r_GP m_GL r_GL (by decide +kernel) (by decide +kernel)
          have hLT : LT GT x2.toInt.toNat x3.toInt.toNat f25 := hLT.fm hf25 m_GT r_GT (by decide +kernel)
          have hRB : RB GA 22410 f25 := hRB.fm hf25 m_GA r_GA (by decide +kernel)
          have hk : fr L R [(12, 1), (12, 28), (12, 29), (12, 35), (12, 36), (12, 37), (12, 38), (12, 39), (12, 51)] [12, 61, 68, 69, 70, 73, 74, 76, 78, 79, 80] f0 f25 := hk.tr hf25 rfl rfl
          have e26 : fld f25 a0 0 = .ref GA := (hf25.efl m_a0 r_a0 rfl).trans e20
          have e27 : fld f25 a0 22 = .ref GP := (hf25.efl m_a0 r_a0 rfl).trans e21
          have e28 : fld f25 a0 23 = .ref GL := (hf25.efl m_a0 r_a0 rfl).trans e22
          have e29 : fld f25 a0 6 = .ref GT := (hf25.efl m_a0 r_a0 rfl).trans e23
          refine lv_aload_n F.1 F.2.1 dX12_talk_217 rfl (lv_at hl 0 rfl) ?_
          refine lv_iload F.1 F.2.1 dX12_talk_218 (lv_at hl 3 rfl) ?_
          refine tw_Vi (As := [.int x5_41]) F hZ h yk_X12_gives mw_499 mw_500 mw_501 (s_X12_gives l D cy L R O f25 a0 m_a0 r_a0 x5_41) rfl rfl m_a0 r_a0 (fun e q => (T_12 e).mp q) rfl hl.1 rfl (Nat.le_of_ble_eq_true rfl) ⟨Nat.le_of_ble_eq_true rfl, Nat.le_of_ble_eq_true rfl⟩ ⟨Nat.le_of_ble_eq_true rfl, Nat.le_of_ble_eq_true rfl⟩ dX12_talk_220 (fun v31 f30 H locs hp30 h => ?_)
          have hf30 := hp30
          have hR : RBA GA f30 := hR.fm hf30 m_GA r_GA (by decide +kernel)
          have hX : GZ GP GL f30 := hX.fm hf30 m_GP r_GP m_GL r_GL (by decide +kernel) (by decide +kernel)
          have hLT : LT GT x2.toInt.toNat x3.toInt.toNat f30 := hLT.fm hf30 m_GT r_GT (by decide +kernel)
          have hRB : RB GA 22410 f30 := hRB.fm hf30 m_GA r_GA (by decide +kernel)
          have hk : fr L R [(12, 1), (12, 28), (12, 29), (12, 35), (12, 36), (12, 37), (12, 38), (12, 39), (12, 51)] [12, 61, 68, 69, 70, 73, 74, 76, 78, 79, 80] f0 f30 := hk.tr hf30 rfl rfl
          have e32 : fld f30 a0 0 = .ref GA := (hf30.efl m_a0 r_a0 rfl).trans e26
          have e33 : fld f30 a0 22 = .ref GP := (hf30.efl m_a0 r_a0 rfl).trans e27
          have e34 : fld f30 a0 23 = .ref GL := (hf30.efl m_a0 r_a0 rfl).trans e28
          have e35 : fld f30 a0 6 = .ref GT := (hf30.efl m_a0 r_a0 rfl).trans e29
          exact hret f30 _ _ _ _ v31 dX12_talk_223 rfl ⟨hk, hR, hX⟩ h
        · refine lv_aload_n F.1 F.2.1 dX12_talk_47 rfl (lv_at hl 0 rfl) ?_
          refine lv_iload_n F.1 F.2.1 dX12_talk_48 rfl (lv_at hl 1 rfl) ?_
          refine lv_iload F.1 F.2.1 dX12_talk_49 (lv_at hl 4 rfl) ?_
          refine tw_Vv (As := [.int x2, .int x6_41]) F hZ h yk_X12_hearsOf mw_1191 mw_1192 mw_1193 (s_X12_hearsOf l D cy L R O f16 a0 m_a0 r_a0 x2 ⟨by omega, by omega⟩ x6_41 ⟨by omega, by omega⟩ GA m_GA r_GA e20 GP m_GP r_GP e21 GL m_GL r_GL e22 GT m_GT r_GT e23 (hLT _ (by omega))) rfl rfl m_a0 r_a0 (fun e q => (T_12 e).mp q) rfl hl.1 rfl (Nat.le_of_ble_eq_true rfl) ⟨Nat.le_of_ble_eq_true rfl, Nat.le_of_ble_eq_true rfl⟩ ⟨Nat.le_of_ble_eq_true rfl, Nat.le_of_ble_eq_true rfl⟩ dX12_talk_51 (fun f36 H locs hp36 h => ?_)
          have hf36 := hp36
          have hR : RBA GA f36 := hR.fm hf36 m_GA r_GA (by decide +kernel)
          have hX : GZ GP GL f36 := hX.fm hf36 m_GP r_GP m_GL r_GL (by decide +kernel) (by decide +kernel)
          have hLT : LT GT x2.toInt.toNat x3.toInt.toNat f36 := hLT.fm hf36 m_GT r_GT (by decide +kernel)
          have hRB : RB GA 22410 f36 := hRB.fm hf36 m_GA r_GA (by decide +kernel)
          have hk : fr L R [(12, 1), (12, 28), (12, 29), (12, 35), (12, 36), (12, 37), (12, 38), (12, 39), (12, 51)] [12, 61, 68, 69, 70, 73, 74, 76, 78, 79, 80] f0 f36 := hk.tr hf36 rfl rfl
          have hb41 : fr L R [(12, 28), (12, 29), (12, 35), (12, 36), (12, 37), (12, 38), (12, 39)] [12, 61, 68, 69, 70, 73, 74, 76, 78, 79, 80] f8 f36 := hb41.tr hf36 rfl rfl
          have e38 : fld f36 a0 0 = .ref GA := (hf36.efl m_a0 r_a0 rfl).trans e20
          have e39 : fld f36 a0 22 = .ref GP := (hf36.efl m_a0 r_a0 rfl).trans e21
          have e40 : fld f36 a0 23 = .ref GL := (hf36.efl m_a0 r_a0 rfl).trans e22
          have e41 : fld f36 a0 6 = .ref GT := (hf36.efl m_a0 r_a0 rfl).trans e23
          refine lv_aload_n F.1 F.2.1 dX12_talk_54 rfl (lv_at hl 0 rfl) ?_
          refine tw_sipush F dX12_talk_55 ks_22410 (fun z42 hz42 => ?_)
          refine tw_Vv (As := [.int z42]) F hZ h yk_X12_answers0 mw_1057 mw_1058 mw_1059 (s_X12_answers0 l D cy L R O f36 a0 m_a0 r_a0 z42 ⟨by omega, by omega⟩ GA m_GA r_GA e38 GP m_GP r_GP e39 GL m_GL r_GL e40 GT m_GT r_GT e41 (isB_e isB_w (by omega)) (by rw [show z42.toInt.toNat = 22410 by omega]; exact hRB) hX) rfl rfl m_a0 r_a0 (fun e q => (T_12 e).mp q) rfl hl.1 rfl (Nat.le_of_ble_eq_true rfl) ⟨Nat.le_of_ble_eq_true rfl, Nat.le_of_ble_eq_true rfl⟩ ⟨Nat.le_of_ble_eq_true rfl, Nat.le_of_ble_eq_true rfl⟩ dX12_talk_58 (fun f43 H locs hp43 h => ?_)
          obtain ⟨hf43, hv44p0, hv44p1⟩ := hp43
          have hR : RBA GA f43 := hR.kw hv44p1 (Or.inl (by omega))
          have hX : GZ GP GL f43 := hv44p0
          have hLT : LT GT x2.toInt.toNat x3.toInt.toNat f43 := hLT.fm hf43 m_GT r_GT (by decide +kernel)
          have hRB : RB GA 22410 f43 := hRB.kw hv44p1 (by omega)
          have hk : fr L R [(12, 1), (12, 28), (12, 29), (12, 35), (12, 36), (12, 37), (12, 38), (12, 39), (12, 51)] [12, 61, 68, 69, 70, 73, 74, 76, 78, 79, 80] f0 f43 := hk.tr hf43 (by decide +kernel) (by decide +kernel)
          have hb41 : fr L R [(12, 28), (12, 29), (12, 35), (12, 36), (12, 37), (12, 38), (12, 39)] [12, 61, 68, 69, 70, 73, 74, 76, 78, 79, 80] f8 f43 := hb41.tr hf43 (by decide +kernel) (by decide +kernel)
          have e45 : fld f43 a0 0 = .ref GA := (hf43.efl m_a0 r_a0 rfl).trans e38
          have e46 : fld f43 a0 22 = .ref GP := (hf43.efl m_a0 r_a0 rfl).trans e39
          have e47 : fld f43 a0 23 = .ref GL := (hf43.efl m_a0 r_a0 rfl).trans e40
          have e48 : fld f43 a0 6 = .ref GT := (hf43.efl m_a0 r_a0 rfl).trans e41
          refine tw_bipush F dX12_talk_61 kb_26 (fun z49 hz49 => ?_)
          refine lv_iload F.1 F.2.1 dX12_talk_63 (lv_at hl 4 rfl) ?_
          refine tu_imull F dX12_talk_65 hz49 (by omega) (fun z50 hz50 => ?_)
          refine lv_istore (lv' := [(7, .int z50), (0, .ref a0), (2, .int x2), (3, .int x3), (5, .int x5_41), (6, .int x6_41)]) F.1 F.2.1 dX12_talk_66 hl (by decide) rfl (fun ls hl => ?_)
          refine lv_aload_n F.1 F.2.1 dX12_talk_68 rfl (lv_at hl 1 rfl) ?_
          refine g_12_84 F h m_a0 r_a0 dX12_talk_69 (fun o51 m_o51 r_o51 ho51 => ?_)
          refine lv_iload F.1 F.2.1 dX12_talk_72 (lv_at hl 0 rfl) ?_
          refine lv_aload_n F.1 F.2.1 dX12_talk_74 rfl (lv_at hl 1 rfl) ?_
          refine g_12_298 F h m_a0 r_a0 dX12_talk_75 (fun v52 hv52 hv52a hv52b => ?_)
          refine tw_i2l F dX12_talk_78 (fun z53 hz53 => ?_)
          refine st_78 F h m_o51 r_o51 (by omega) (fun q => by omega) dX12_talk_79 (fun f54 H locs hf54 h => ?_)
          have hR : RBA GA f54 := hR.fm hf54 m_GA r_GA (by decide +kernel)
          have hX : GZ GP GL f54 := hX.fm hf54 m_GP r_GP m_GL r_GL (by decide +kernel) (by decide +kernel)
          have hLT : LT GT x2.toInt.toNat x3.toInt.toNat f54 := hLT.fm hf54 m_GT r_GT (by decide +kernel)
          have hRB : RB GA 22410 f54 := hRB.fm hf54 m_GA r_GA (by decide +kernel)
          have hk : fr L R [(12, 1), (12, 28), (12, 29), (12, 35), (12, 36), (12, 37), (12, 38), (12, 39), (12, 51)] [12, 61, 68, 69, 70, 73, 74, 76, 78, 79, 80] f0 f54 := hk.tr hf54 rfl rfl
          have hb41 : fr L R [(12, 28), (12, 29), (12, 35), (12, 36), (12, 37), (12, 38), (12, 39)] [12, 61, 68, 69, 70, 73, 74, 76, 78, 79, 80] f8 f54 := hb41.tr hf54 rfl rfl
          have e55 : fld f54 a0 0 = .ref GA := (hf54.efl m_a0 r_a0 rfl).trans e45
          have e56 : fld f54 a0 22 = .ref GP := (hf54.efl m_a0 r_a0 rfl).trans e46
          have e57 : fld f54 a0 23 = .ref GL := (hf54.efl m_a0 r_a0 rfl).trans e47
          have e58 : fld f54 a0 6 = .ref GT := (hf54.efl m_a0 r_a0 rfl).trans e48
          have e59 : fi f54 a0 28 = fi f43 a0 28 := hf54.efi m_a0 r_a0 rfl
          refine tw_iconst F dX12_talk_80 ki_0 (fun z60 hz60 => ?_)
          refine lv_istore (lv' := [(8, .int z60), (7, .int z50), (0, .ref a0), (2, .int x2), (3, .int x3), (5, .int x5_41), (6, .int x6_41)]) F.1 F.2.1 dX12_talk_81 hl (by decide) rfl (fun ls hl => ?_)
          have j_83 : ∀ (n83 : Nat) (f61 : Nat → va_E) (H : Heap) (locs : List Loc) (ls : Array Slot) (x8_83 : Int32), 0 ≤ x8_83.toInt → x8_83.toInt ≤ 12 → ((12 - x8_83.toInt)).toNat < n83 → tS D cy A s.heap L R (TT cy L R) f61 s H locs → RBA GA f61 → GZ GP GL f61 → LT GT x2.toInt.toNat x3.toInt.toNat f61 → RB GA 22410 f61 → fr L R [(12, 1), (12, 28), (12, 29), (12, 35), (12, 36), (12, 37), (12, 38), (12, 39), (12, 51)] [12, 61, 68, 69, 70, 73, 74, 76, 78, 79, 80] f0 f61 → fr L R [] [78] f54 f61 → lv_has ls 9 [(0, .ref a0), (2, .int x2), (3, .int x3), (5, .int x5_41), (6, .int x6_41), (7, .int z50), (8, .int x8_83)] → W p l e rm_X12_talk s m args below meth c H locs 0 0 Q (F0 m 83 ls []) := by
            intro n83
            induction n83 with
            | zero =>
              intro f61 H locs ls x8_83 b62 b63 b64 h hR hX hLT hRB hk hb83 hl
              exfalso
              omega
            | succ n83 ih83 =>
              intro f61 H locs ls x8_83 b62 b63 b64 h hR hX hLT hRB hk hb83 hl
              have hb41 : fr L R [(12, 28), (12, 29), (12, 35), (12, 36), (12, 37), (12, 38), (12, 39)] [12, 61, 68, 69, 70, 73, 74, 76, 78, 79, 80] f8 f61 := hb41.tr hb83 rfl rfl
              have e65 : fld f61 a0 0 = .ref GA := (hb83.efl m_a0 r_a0 rfl).trans e55
              have e66 : fld f61 a0 22 = .ref GP := (hb83.efl m_a0 r_a0 rfl).trans e56
              have e67 : fld f61 a0 23 = .ref GL := (hb83.efl m_a0 r_a0 rfl).trans e57
              have e68 : fld f61 a0 6 = .ref GT := (hb83.efl m_a0 r_a0 rfl).trans e58
              have e69 : fi f61 a0 28 = fi f54 a0 28 := hb83.efi m_a0 r_a0 rfl
              refine lv_iload F.1 F.2.1 dX12_talk_83 (lv_at hl 6 rfl) ?_
              refine lv_aload_n F.1 F.2.1 dX12_talk_85 rfl (lv_at hl 0 rfl) ?_
              refine g_12_298 F h m_a0 r_a0 dX12_talk_86 (fun v70 hv70 hv70a hv70b => ?_)
              refine tw_icmp_ge (tgt := 117) F dX12_talk_89 (by decide) (fun b71 => ?_) (fun b71 => ?_)
              · refine lv_aload_n F.1 F.2.1 dX12_talk_117 rfl (lv_at hl 0 rfl) ?_
                refine g_12_84 F h m_a0 r_a0 dX12_talk_118 (fun o72 m_o72 r_o72 ho72 => ?_)
                refine lv_iload F.1 F.2.1 dX12_talk_121 (lv_at hl 5 rfl) ?_
                refine tw_bipush F dX12_talk_123 kb_13 (fun z73 hz73 => ?_)
                refine tu_iadd F dX12_talk_125 (by omega) (fun z74 hz74 => ?_)
                refine lv_aload_n F.1 F.2.1 dX12_talk_126 rfl (lv_at hl 0 rfl) ?_
                refine g_12_324 F h m_a0 r_a0 dX12_talk_127 (fun v75 hv75 hv75a hv75b => ?_)
                refine tw_i2l F dX12_talk_130 (fun z76 hz76 => ?_)
                refine st_78 F h m_o72 r_o72 (by omega) (fun q => by omega) dX12_talk_131 (fun f77 H locs hf77 h => ?_)
                have hR : RBA GA f77 := hR.fm hf77 m_GA r_GA (by decide +kernel)
                have hX : GZ GP GL f77 := hX.fm hf77 m_GP r_GP m_GL r_GL (by decide +kernel) (by decide +kernel)
                have hLT : LT GT x2.toInt.toNat x3.toInt.toNat f77 := hLT.fm hf77 m_GT r_GT (by decide +kernel)
                have hRB : RB GA 22410 f77 := hRB.fm hf77 m_GA r_GA (by decide +kernel)
                have hk : fr L R [(12, 1), (12, 28), (12, 29), (12, 35), (12, 36), (12, 37), (12, 38), (12, 39), (12, 51)] [12, 61, 68, 69, 70, 73, 74, 76, 78, 79, 80] f0 f77 := hk.tr hf77 rfl rfl
                have hb41 : fr L R [(12, 28), (12, 29), (12, 35), (12, 36), (12, 37), (12, 38), (12, 39)] [12, 61, 68, 69, 70, 73, 74, 76, 78, 79, 80] f8 f77 := hb41.tr hf77 rfl rfl
                have hb83 : fr L R [] [78] f54 f77 := hb83.tr hf77 rfl rfl
                have e78 : fld f77 a0 0 = .ref GA := (hf77.efl m_a0 r_a0 rfl).trans e65
                have e79 : fld f77 a0 22 = .ref GP := (hf77.efl m_a0 r_a0 rfl).trans e66
                have e80 : fld f77 a0 23 = .ref GL := (hf77.efl m_a0 r_a0 rfl).trans e67
                have e81 : fld f77 a0 6 = .ref GT := (hf77.efl m_a0 r_a0 rfl).trans e68
                have e82 : fi f77 a0 28 = fi f61 a0 28 := hf77.efi m_a0 r_a0 rfl
                have e83 : fi f77 a0 29 = fi f61 a0 29 := hf77.efi m_a0 r_a0 rfl
                refine tw_iconst F dX12_talk_132 ki_0 (fun z84 hz84 => ?_)
                refine lv_istore (lv' := [(8, .int z84), (0, .ref a0), (2, .int x2), (3, .int x3), (5, .int x5_41), (6, .int x6_41), (7, .int z50)]) F.1 F.2.1 dX12_talk_133 hl (by decide) rfl (fun ls hl => ?_)
                have j_135 : ∀ (n135 : Nat) (f85 : Nat → va_E) (H : Heap) (locs : List Loc) (ls : Array Slot) (x8_135 : Int32), 0 ≤ x8_135.toInt → x8_135.toInt ≤ 12 → ((12 - x8_135.toInt)).toNat < n135 → tS D cy A s.heap L R (TT cy L R) f85 s H locs → RBA GA f85 → GZ GP GL f85 → LT GT x2.toInt.toNat x3.toInt.toNat f85 → RB GA 22410 f85 → fr L R [(12, 1), (12, 28), (12, 29), (12, 35), (12, 36), (12, 37), (12, 38), (12, 39), (12, 51)] [12, 61, 68, 69, 70, 73, 74, 76, 78, 79, 80] f0 f85 → fr L R [] [78] f77 f85 → lv_has ls 9 [(0, .ref a0), (2, .int x2), (3, .int x3), (5, .int x5_41), (6, .int x6_41), (7, .int z50), (8, .int x8_135)] → W p l e rm_X12_talk s m args below meth c H locs 0 0 Q (F0 m 135 ls []) := by
                  intro n135
                  induction n135 with
                  | zero =>
                    intro f85 H locs ls x8_135 b86 b87 b88 h hR hX hLT hRB hk hb135 hl
                    exfalso
                    omega
                  | succ n135 ih135 =>
                    intro f85 H locs ls x8_135 b86 b87 b88 h hR hX hLT hRB hk hb135 hl
                    have hb41 : fr L R [(12, 28), (12, 29), (12, 35), (12, 36), (12, 37), (12, 38), (12, 39)] [12, 61, 68, 69, 70, 73, 74, 76, 78, 79, 80] f8 f85 := hb41.tr hb135 rfl rfl
                    have hb83 : fr L R [] [78] f54 f85 := hb83.tr hb135 rfl rfl
                    have e89 : fld f85 a0 0 = .ref GA := (hb135.efl m_a0 r_a0 rfl).trans e78
                    have e90 : fld f85 a0 22 = .ref GP := (hb135.efl m_a0 r_a0 rfl).trans e79
                    have e91 : fld f85 a0 23 = .ref GL := (hb135.efl m_a0 r_a0 rfl).trans e80
                    have e92 : fld f85 a0 6 = .ref GT := (hb135.efl m_a0 r_a0 rfl).trans e81
                    have e93 : fi f85 a0 28 = fi f77 a0 28 := hb135.efi m_a0 r_a0 rfl
                    have e94 : fi f85 a0 29 = fi f77 a0 29 := hb135.efi m_a0 r_a0 rfl
                    refine lv_iload F.1 F.2.1 dX12_talk_135 (lv_at hl 6 rfl) ?_
                    refine lv_aload_n F.1 F.2.1 dX12_talk_137 rfl (lv_at hl 0 rfl) ?_
                    refine g_12_324 F h m_a0 r_a0 dX12_talk_138 (fun v95 hv95 hv95a hv95b => ?_)
                    refine tw_icmp_ge (tgt := 170) F dX12_talk_141 (by decide) (fun b96 => ?_) (fun b96 => ?_)
                    · refine lv_aload_n F.1 F.2.1 dX12_talk_170 rfl (lv_at hl 0 rfl) ?_
                      refine g_12_87 F h m_a0 r_a0 dX12_talk_171 (fun o97 m_o97 r_o97 ho97 => ?_)
                      refine lv_iload F.1 F.2.1 dX12_talk_174 (lv_at hl 4 rfl) ?_
                      refine lv_aload_n F.1 F.2.1 dX12_talk_176 rfl (lv_at hl 0 rfl) ?_
                      refine g_12_357 F h m_a0 r_a0 dX12_talk_177 (fun v98 hv98 => ?_)
                      refine st_79 F h m_o97 r_o97 (by omega) dX12_talk_180 (fun f99 H locs hf99 h => ?_)
                      have hR : RBA GA f99 := hR.fm hf99 m_GA r_GA (by decide +kernel)
                      have hX : GZ GP GL f99 := hX.fm hf99 m_GP r_GP m_GL r_GL (by decide +kernel) (by decide +kernel)
                      have hLT : LT GT x2.toInt.toNat x3.toInt.toNat f99 := hLT.fm hf99 m_GT r_GT (by decide +kernel)
                      have hRB : RB GA 22410 f99 := hRB.fm hf99 m_GA r_GA (by decide +kernel)
                      have hk : fr L R [(12, 1), (12, 28), (12, 29), (12, 35), (12, 36), (12, 37), (12, 38), (12, 39), (12, 51)] [12, 61, 68, 69, 70, 73, 74, 76, 78, 79, 80] f0 f99 := hk.tr hf99 rfl rfl
                      have hb41 : fr L R [(12, 28), (12, 29), (12, 35), (12, 36), (12, 37), (12, 38), (12, 39)] [12, 61, 68, 69, 70, 73, 74, 76, 78, 79, 80] f8 f99 := hb41.tr hf99 rfl rfl
                      have e100 : fld f99 a0 0 = .ref GA := (hf99.efl m_a0 r_a0 rfl).trans e89
                      have e101 : fld f99 a0 22 = .ref GP := (hf99.efl m_a0 r_a0 rfl).trans e90
                      have e102 : fld f99 a0 23 = .ref GL := (hf99.efl m_a0 r_a0 rfl).trans e91
                      have e103 : fld f99 a0 6 = .ref GT := (hf99.efl m_a0 r_a0 rfl).trans e92
                      have e104 : fi f99 a0 28 = fi f85 a0 28 := hf99.efi m_a0 r_a0 rfl
                      have e105 : fi f99 a0 29 = fi f85 a0 29 := hf99.efi m_a0 r_a0 rfl
                      have e106 : fi f99 a0 35 = fi f85 a0 35 := hf99.efi m_a0 r_a0 rfl
                      refine lv_aload_n F.1 F.2.1 dX12_talk_181 rfl (lv_at hl 0 rfl) ?_
                      refine g_12_90 F h m_a0 r_a0 dX12_talk_182 (fun o107 m_o107 r_o107 ho107 => ?_)
                      refine lv_iload F.1 F.2.1 dX12_talk_185 (lv_at hl 4 rfl) ?_
                      refine tw_iconst F dX12_talk_187 ki_0 (fun z108 hz108 => ?_)
                      refine st_80 F h m_o107 r_o107 (by omega) (by omega) dX12_talk_188 (fun f109 H locs hf109 h => ?_)
                      have hR : RBA GA f109 := hR.fm hf109 m_GA r_GA (by decide +kernel)
                      have hX : GZ GP GL f109 := hX.fm hf109 m_GP r_GP m_GL r_GL (by decide +kernel) (by decide +kernel)
                      have hLT : LT GT x2.toInt.toNat x3.toInt.toNat f109 := hLT.fm hf109 m_GT r_GT (by decide +kernel)
                      have hRB : RB GA 22410 f109 := hRB.fm hf109 m_GA r_GA (by decide +kernel)
                      have hk : fr L R [(12, 1), (12, 28), (12, 29), (12, 35), (12, 36), (12, 37), (12, 38), (12, 39), (12, 51)] [12, 61, 68, 69, 70, 73, 74, 76, 78, 79, 80] f0 f109 := hk.tr hf109 rfl rfl
                      have hb41 : fr L R [(12, 28), (12, 29), (12, 35), (12, 36), (12, 37), (12, 38), (12, 39)] [12, 61, 68, 69, 70, 73, 74, 76, 78, 79, 80] f8 f109 := hb41.tr hf109 rfl rfl
                      have e110 : fld f109 a0 0 = .ref GA := (hf109.efl m_a0 r_a0 rfl).trans e100
                      have e111 : fld f109 a0 22 = .ref GP := (hf109.efl m_a0 r_a0 rfl).trans e101
                      have e112 : fld f109 a0 23 = .ref GL := (hf109.efl m_a0 r_a0 rfl).trans e102
                      have e113 : fld f109 a0 6 = .ref GT := (hf109.efl m_a0 r_a0 rfl).trans e103
                      have e114 : fi f109 a0 28 = fi f99 a0 28 := hf109.efi m_a0 r_a0 rfl
                      have e115 : fi f109 a0 29 = fi f99 a0 29 := hf109.efi m_a0 r_a0 rfl
                      have e116 : fi f109 a0 35 = fi f99 a0 35 := hf109.efi m_a0 r_a0 rfl
                      refine lv_iload F.1 F.2.1 dX12_talk_189 (lv_at hl 3 rfl) ?_
                      refine lv_aload_n F.1 F.2.1 dX12_talk_191 rfl (lv_at hl 0 rfl) ?_
                      refine g_12_357 F h m_a0 r_a0 dX12_talk_192 (fun v117 hv117 => ?_)
                      have j_203 : ∀ (ls : Array Slot) (y0_203 : Int32), 0 ≤ y0_203.toInt → y0_203.toInt ≤ 1 → lv_has ls 9 [(0, .ref a0), (2, .int x2), (3, .int x3), (6, .int x6_41)] → W p l e rm_X12_talk s m args below meth c H locs 0 0 Q (F0 m 203 ls [.int y0_203, .int x5_41]) := by
                        intro ls y0_203 b118 b119 hl
                        refine lv_iadd F.1 F.2.1 dX12_talk_203 ?_
                        refine lv_topi (fun z120 _ => ?_)
                        refine lv_istore (lv' := [(5, .int z120), (0, .ref a0), (2, .int x2), (3, .int x3), (6, .int x6_41)]) F.1 F.2.1 dX12_talk_204 hl (by decide) rfl (fun ls hl => ?_)
                        refine tu_iinc F dX12_talk_206 hl (k := 4) rfl (by decide) ki_1 (by omega) (fun z121 ls hz121 hl => ?_)
                        have hl : lv_has ls 9 [(6, .int z121), (5, .int z120), (0, .ref a0), (2, .int x2), (3, .int x3)] := hl
                        refine lv_goto (tgt := 41) F.1 F.2.1 dX12_talk_209 (by decide) ?_
                        exact ih41 f109 _ _ _ z120 z121 (by omega) (by omega) (by omega) h hR hX hLT hRB hk hb41 (lv_sub hl [2, 3, 4, 1, 0] rfl)
                      refine tw_if_ne (tgt := 202) F dX12_talk_195 (by decide) (fun b122 => ?_) (fun b122 => ?_)
                      · refine tw_iconst F dX12_talk_202 ki_0 (fun z123 hz123 => ?_)
                        exact j_203 _ z123 (by omega) (by omega) (lv_sub hl [0, 1, 2, 4] rfl)
                      · refine tw_iconst F dX12_talk_198 ki_1 (fun z124 hz124 => ?_)
                        refine lv_goto (tgt := 203) F.1 F.2.1 dX12_talk_199 (by decide) ?_
                        exact j_203 _ z124 (by omega) (by omega) (lv_sub hl [0, 1, 2, 4] rfl)
                    · refine lv_aload_n F.1 F.2.1 dX12_talk_144 rfl (lv_at hl 0 rfl) ?_
                      refine g_12_84 F h m_a0 r_a0 dX12_talk_145 (fun o125 m_o125 r_o125 ho125 => ?_)
                      refine lv_iload F.1 F.2.1 dX12_talk_148 (lv_at hl 5 rfl) ?_
                      refine tw_bipush F dX12_talk_150 kb_14 (fun z126 hz126 => ?_)
                      refine tu_iadd F dX12_talk_152 (by omega) (fun z127 hz127 => ?_)
                      refine lv_iload F.1 F.2.1 dX12_talk_153 (lv_at hl 6 rfl) ?_
                      refine tu_iadd F dX12_talk_155 (by omega) (fun z128 hz128 => ?_)
                      refine lv_aload_n F.1 F.2.1 dX12_talk_156 rfl (lv_at hl 0 rfl) ?_
                      refine g_12_63 F h m_a0 r_a0 dX12_talk_157 (fun o129 m_o129 r_o129 ho129 => ?_)
                      refine lv_iload F.1 F.2.1 dX12_talk_160 (lv_at hl 6 rfl) ?_
                      refine ld_74 F h m_o129 r_o129 (by omega) dX12_talk_162 (fun v130 => ?_)
                      refine st_78 F h m_o125 r_o125 (by omega) (fun q => by omega) dX12_talk_163 (fun f131 H locs hf131 h => ?_)
                      have hR : RBA GA f131 := hR.fm hf131 m_GA r_GA (by decide +kernel)
                      have hX : GZ GP GL f131 := hX.fm hf131 m_GP r_GP m_GL r_GL (by decide +kernel) (by decide +kernel)
                      have hLT : LT GT x2.toInt.toNat x3.toInt.toNat f131 := hLT.fm hf131 m_GT r_GT (by decide +kernel)
                      have hRB : RB GA 22410 f131 := hRB.fm hf131 m_GA r_GA (by decide +kernel)
                      have hk : fr L R [(12, 1), (12, 28), (12, 29), (12, 35), (12, 36), (12, 37), (12, 38), (12, 39), (12, 51)] [12, 61, 68, 69, 70, 73, 74, 76, 78, 79, 80] f0 f131 := hk.tr hf131 rfl rfl
                      have hb41 : fr L R [(12, 28), (12, 29), (12, 35), (12, 36), (12, 37), (12, 38), (12, 39)] [12, 61, 68, 69, 70, 73, 74, 76, 78, 79, 80] f8 f131 := hb41.tr hf131 rfl rfl
                      have hb83 : fr L R [] [78] f54 f131 := hb83.tr hf131 rfl rfl
                      have hb135 : fr L R [] [78] f77 f131 := hb135.tr hf131 rfl rfl
                      have e132 : fld f131 a0 0 = .ref GA := (hf131.efl m_a0 r_a0 rfl).trans e89
                      have e133 : fld f131 a0 22 = .ref GP := (hf131.efl m_a0 r_a0 rfl).trans e90
                      have e134 : fld f131 a0 23 = .ref GL := (hf131.efl m_a0 r_a0 rfl).trans e91
                      have e135 : fld f131 a0 6 = .ref GT := (hf131.efl m_a0 r_a0 rfl).trans e92
                      have e136 : fi f131 a0 28 = fi f85 a0 28 := hf131.efi m_a0 r_a0 rfl
                      have e137 : fi f131 a0 29 = fi f85 a0 29 := hf131.efi m_a0 r_a0 rfl
                      refine tu_iinc F dX12_talk_164 hl (k := 6) rfl (by decide) ki_1 (by omega) (fun z138 ls hz138 hl => ?_)
                      have hl : lv_has ls 9 [(8, .int z138), (0, .ref a0), (2, .int x2), (3, .int x3), (5, .int x5_41), (6, .int x6_41), (7, .int z50)] := hl
                      refine lv_goto (tgt := 135) F.1 F.2.1 dX12_talk_167 (by decide) ?_
                      exact ih135 f131 _ _ _ z138 (by omega) (by omega) (by omega) h hR hX hLT hRB hk hb135 (lv_sub hl [1, 2, 3, 4, 5, 6, 0] rfl)
                have hb135 : fr L R [] [78] f77 f77 := fr.rf
                exact j_135 (((12 - z84.toInt)).toNat + 1) f77 _ _ _ z84 (by omega) (by omega) (by omega) h hR hX hLT hRB hk hb135 (lv_sub hl [1, 2, 3, 4, 5, 6, 0] rfl)
              · refine lv_aload_n F.1 F.2.1 dX12_talk_92 rfl (lv_at hl 0 rfl) ?_
                refine g_12_84 F h m_a0 r_a0 dX12_talk_93 (fun o139 m_o139 r_o139 ho139 => ?_)
                refine lv_iload F.1 F.2.1 dX12_talk_96 (lv_at hl 5 rfl) ?_
                refine tw_iconst F dX12_talk_98 ki_1 (fun z140 hz140 => ?_)
                refine tu_iadd F dX12_talk_99 (by omega) (fun z141 hz141 => ?_)
                refine lv_iload F.1 F.2.1 dX12_talk_100 (lv_at hl 6 rfl) ?_
                refine tu_iadd F dX12_talk_102 (by omega) (fun z142 hz142 => ?_)
                refine lv_aload_n F.1 F.2.1 dX12_talk_103 rfl (lv_at hl 0 rfl) ?_
                refine g_12_60 F h m_a0 r_a0 dX12_talk_104 (fun o143 m_o143 r_o143 ho143 => ?_)
                refine lv_iload F.1 F.2.1 dX12_talk_107 (lv_at hl 6 rfl) ?_
                refine ld_73 F h m_o143 r_o143 (by omega) dX12_talk_109 (fun v144 => ?_)
                refine st_78 F h m_o139 r_o139 (by omega) (fun q => by omega) dX12_talk_110 (fun f145 H locs hf145 h => ?_)
                have hR : RBA GA f145 := hR.fm hf145 m_GA r_GA (by decide +kernel)
                have hX : GZ GP GL f145 := hX.fm hf145 m_GP r_GP m_GL r_GL (by decide +kernel) (by decide +kernel)
                have hLT : LT GT x2.toInt.toNat x3.toInt.toNat f145 := hLT.fm hf145 m_GT r_GT (by decide +kernel)
                have hRB : RB GA 22410 f145 := hRB.fm hf145 m_GA r_GA (by decide +kernel)
                have hk : fr L R [(12, 1), (12, 28), (12, 29), (12, 35), (12, 36), (12, 37), (12, 38), (12, 39), (12, 51)] [12, 61, 68, 69, 70, 73, 74, 76, 78, 79, 80] f0 f145 := hk.tr hf145 rfl rfl
                have hb41 : fr L R [(12, 28), (12, 29), (12, 35), (12, 36), (12, 37), (12, 38), (12, 39)] [12, 61, 68, 69, 70, 73, 74, 76, 78, 79, 80] f8 f145 := hb41.tr hf145 rfl rfl
                have hb83 : fr L R [] [78] f54 f145 := hb83.tr hf145 rfl rfl
                have e146 : fld f145 a0 0 = .ref GA := (hf145.efl m_a0 r_a0 rfl).trans e65
                have e147 : fld f145 a0 22 = .ref GP := (hf145.efl m_a0 r_a0 rfl).trans e66
                have e148 : fld f145 a0 23 = .ref GL := (hf145.efl m_a0 r_a0 rfl).trans e67
                have e149 : fld f145 a0 6 = .ref GT := (hf145.efl m_a0 r_a0 rfl).trans e68
                have e150 : fi f145 a0 28 = fi f61 a0 28 := hf145.efi m_a0 r_a0 rfl
                refine tu_iinc F dX12_talk_111 hl (k := 6) rfl (by decide) ki_1 (by omega) (fun z151 ls hz151 hl => ?_)
                have hl : lv_has ls 9 [(8, .int z151), (0, .ref a0), (2, .int x2), (3, .int x3), (5, .int x5_41), (6, .int x6_41), (7, .int z50)] := hl
                refine lv_goto (tgt := 83) F.1 F.2.1 dX12_talk_114 (by decide) ?_
                exact ih83 f145 _ _ _ z151 (by omega) (by omega) (by omega) h hR hX hLT hRB hk hb83 (lv_sub hl [1, 2, 3, 4, 5, 6, 0] rfl)
          have hb83 : fr L R [] [78] f54 f54 := fr.rf
          exact j_83 (((12 - z60.toInt)).toNat + 1) f54 _ _ _ z60 (by omega) (by omega) (by omega) h hR hX hLT hRB hk hb83 (lv_sub hl [2, 3, 4, 5, 6, 1, 0] rfl)
    have hb41 : fr L R [(12, 28), (12, 29), (12, 35), (12, 36), (12, 37), (12, 38), (12, 39)] [12, 61, 68, 69, 70, 73, 74, 76, 78, 79, 80] f8 f8 := fr.rf
    exact j_41 (((16 - z15.toInt)).toNat + 1) f8 _ _ _ z14 z15 (by omega) (by omega) (by omega) h hR hX hLT hRB hk hb41 (lv_sub hl [3, 5, 6, 1, 0] rfl)
  · refine lv_aload_n F.1 F.2.1 dX12_talk_20 rfl (lv_at hl 1 rfl) ?_
    refine lv_iload F.1 F.2.1 dX12_talk_21 (lv_at hl 0 rfl) ?_
    refine tw_Vi (As := [.int v5]) F hZ h yk_X12_refuse mw_452 mw_453 mw_454 (s_X12_refuse l D cy L R O f0 a0 m_a0 r_a0 v5 ⟨by omega, by omega⟩) rfl rfl m_a0 r_a0 (fun e q => (T_12 e).mp q) rfl hl.1 rfl (Nat.le_of_ble_eq_true rfl) ⟨Nat.le_of_ble_eq_true rfl, Nat.le_of_ble_eq_true rfl⟩ ⟨Nat.le_of_ble_eq_true rfl, Nat.le_of_ble_eq_true rfl⟩ dX12_talk_23 (fun v153 f152 H locs hp152 h => ?_)
    obtain ⟨hf152, hv153a, hv153b⟩ := hp152
    have hR : RBA GA f152 := hR.fm hf152 m_GA r_GA (by decide +kernel)
    have hX : GZ GP GL f152 := hX.fm hf152 m_GP r_GP m_GL r_GL (by decide +kernel) (by decide +kernel)
    have hk : fr L R [(12, 1), (12, 28), (12, 29), (12, 35), (12, 36), (12, 37), (12, 38), (12, 39), (12, 51)] [12, 61, 68, 69, 70, 73, 74, 76, 78, 79, 80] f0 f152 := hk.tr hf152 rfl rfl
    have e154 : fld f152 a0 0 = .ref GA := (hf152.efl m_a0 r_a0 rfl).trans t_GA
    have e155 : fld f152 a0 22 = .ref GP := (hf152.efl m_a0 r_a0 rfl).trans t_GP
    have e156 : fld f152 a0 23 = .ref GL := (hf152.efl m_a0 r_a0 rfl).trans t_GL
    have e157 : fld f152 a0 6 = .ref GT := (hf152.efl m_a0 r_a0 rfl).trans t_GT
    exact hret f152 _ _ _ _ v153 dX12_talk_26 rfl ⟨hk, hR, hX⟩ h
theorem dX12_lead_0 : decode cX12_lead 0 = .ok (.aload_n 0, 1) := by decide +kernel
theorem dX12_lead_1 : decode cX12_lead 1 = .ok (.aload_n 0, 1) := by decide +kernel
theorem dX12_lead_2 : decode cX12_lead 2 = .ok (.iload_n 1, 1) := by decide +kernel
theorem dX12_lead_3 : decode cX12_lead 3 = .ok (.invokevirtual 282, 3) := by decide +kernel
theorem dX12_lead_24 : decode cX12_lead 24 = .ok (.iload_n 2, 1) := by decide +kernel
theorem dX12_lead_25 : decode cX12_lead 25 = .ok (.iload_n 3, 1) := by decide +kernel
theorem dX12_lead_26 : decode cX12_lead 26 = .ok (.bipush 6, 2) := by decide +kernel
theorem dX12_lead_28 : decode cX12_lead 28 = .ok (.invokevirtual 405, 3) := by decide +kernel
theorem dX12_lead_31 : decode cX12_lead 31 = .ok (.istore 5, 2) := by decide +kernel
theorem dX12_lead_33 : decode cX12_lead 33 = .ok (.iload 5, 2) := by decide +kernel
theorem dX12_lead_35 : decode cX12_lead 35 = .ok (.ifCond .le 10, 3) := by decide +kernel
theorem dX12_lead_45 : decode cX12_lead 45 = .ok (.iconst 1, 1) := by decide +kernel
theorem dX12_lead_46 : decode cX12_lead 46 = .ok (.istore 6, 2) := by decide +kernel
theorem dX12_lead_48 : decode cX12_lead 48 = .ok (.iconst 1, 1) := by decide +kernel
theorem dX12_lead_49 : decode cX12_lead 49 = .ok (.istore 7, 2) := by decide +kernel
theorem dX12_lead_51 : decode cX12_lead 51 = .ok (.iload 7, 2) := by decide +kernel
theorem dX12_lead_53 : decode cX12_lead 53 = .ok (.iconst 5, 1) := by decide +kernel
theorem dX12_lead_54 : decode cX12_lead 54 = .ok (.if_icmp .gt 182, 3) := by decide +kernel
theorem dX12_lead_236 : decode cX12_lead 236 = .ok (.aload_n 0, 1) := by decide +kernel
theorem dX12_lead_237 : decode cX12_lead 237 = .ok (.bipush 6, 2) := by decide +kernel
theorem dX12_lead_239 : decode cX12_lead 239 = .ok (.invokevirtual 194, 3) := by decide +kernel
theorem dX12_lead_242 : decode cX12_lead 242 = .ok (.ireturn, 1) := by decide +kernel
theorem dX12_lead_57 : decode cX12_lead 57 = .ok (.iload 6, 2) := by decide +kernel
theorem dX12_lead_59 : decode cX12_lead 59 = .ok (.iload_n 3, 1) := by decide +kernel
theorem dX12_lead_60 : decode cX12_lead 60 = .ok (.imul, 1) := by decide +kernel
theorem dX12_lead_61 : decode cX12_lead 61 = .ok (.istore 6, 2) := by decide +kernel
theorem dX12_lead_63 : decode cX12_lead 63 = .ok (.iconst 0, 1) := by decide +kernel
theorem dX12_lead_64 : decode cX12_lead 64 = .ok (.istore 8, 2) := by decide +kernel
theorem dX12_lead_66 : decode cX12_lead 66 = .ok (.iload 8, 2) := by decide +kernel
theorem dX12_lead_68 : decode cX12_lead 68 = .ok (.iload 6, 2) := by decide +kernel
theorem dX12_lead_70 : decode cX12_lead 70 = .ok (.if_icmp .ge 160, 3) := by decide +kernel
theorem dX12_lead_230 : decode cX12_lead 230 = .ok (.iinc 7 1, 3) := by decide +kernel
theorem dX12_lead_233 : decode cX12_lead 233 = .ok (.goto (-182), 3) := by decide +kernel
theorem dX12_lead_73 : decode cX12_lead 73 = .ok (.iload 8, 2) := by decide +kernel
theorem dX12_lead_75 : decode cX12_lead 75 = .ok (.istore 9, 2) := by decide +kernel
theorem dX12_lead_77 : decode cX12_lead 77 = .ok (.iload 7, 2) := by decide +kernel
theorem dX12_lead_79 : decode cX12_lead 79 = .ok (.iconst 1, 1) := by decide +kernel
theorem dX12_lead_80 : decode cX12_lead 80 = .ok (.isub, 1) := by decide +kernel
theorem dX12_lead_81 : decode cX12_lead 81 = .ok (.istore 10, 2) := by decide +kernel
theorem dX12_lead_83 : decode cX12_lead 83 = .ok (.iload 10, 2) := by decide +kernel
theorem dX12_lead_85 : decode cX12_lead 85 = .ok (.ifCond .lt 26, 3) := by decide +kernel
theorem dX12_lead_111 : decode cX12_lead 111 = .ok (.aload_n 0, 1) := by decide +kernel
theorem dX12_lead_112 : decode cX12_lead 112 = .ok (.iload_n 1, 1) := by decide +kernel
theorem dX12_lead_113 : decode cX12_lead 113 = .ok (.sipush 22410, 3) := by decide +kernel
theorem dX12_lead_116 : decode cX12_lead 116 = .ok (.invokevirtual 409, 3) := by decide +kernel
theorem dX12_lead_119 : decode cX12_lead 119 = .ok (.iconst 0, 1) := by decide +kernel
theorem dX12_lead_120 : decode cX12_lead 120 = .ok (.istore 10, 2) := by decide +kernel
theorem dX12_lead_122 : decode cX12_lead 122 = .ok (.iload 10, 2) := by decide +kernel
theorem dX12_lead_124 : decode cX12_lead 124 = .ok (.iload 7, 2) := by decide +kernel
theorem dX12_lead_126 : decode cX12_lead 126 = .ok (.if_icmp .ge 28, 3) := by decide +kernel
theorem dX12_lead_154 : decode cX12_lead 154 = .ok (.aload_n 0, 1) := by decide +kernel
theorem dX12_lead_155 : decode cX12_lead 155 = .ok (.aload_n 0, 1) := by decide +kernel
theorem dX12_lead_156 : decode cX12_lead 156 = .ok (.iload 4, 2) := by decide +kernel
theorem dX12_lead_158 : decode cX12_lead 158 = .ok (.invokevirtual 206, 3) := by decide +kernel
theorem dX12_lead_161 : decode cX12_lead 161 = .ok (.invokevirtual 419, 3) := by decide +kernel
theorem mw_1232 : Cond.methodLink RX12 419 yX12_isSaid ∈ wsL_law := inr_52 _ (List.mem_of_getElem? (i := 8) rfl)
theorem mw_1235 : Cond.code yX12_isSaid cX12_isSaid 4 (some .boolean) ∈ wsL_law := inr_52 _ (List.mem_of_getElem? (i := 11) rfl)
theorem yk_X12_isSaid : xY yX12_isSaid RX12 cX12_isSaid 4 (some .boolean) 1 := ⟨⟨rfl, by decide +kernel, by decide +kernel, by decide +kernel⟩, mw_5, mw_1235⟩
theorem mw_1233 : Cond.instanceMethod yX12_isSaid ∈ wsL_law := inr_52 _ (List.mem_of_getElem? (i := 9) rfl)
theorem mw_1234 : Cond.selects RX12 yX12_isSaid yX12_isSaid ∈ wsL_law := inr_52 _ (List.mem_of_getElem? (i := 10) rfl)
theorem dX12_lead_164 : decode cX12_lead 164 = .ok (.ifCond .ne 6, 3) := by decide +kernel
theorem dX12_lead_170 : decode cX12_lead 170 = .ok (.iconst 0, 1) := by decide +kernel
theorem dX12_lead_171 : decode cX12_lead 171 = .ok (.istore 10, 2) := by decide +kernel
theorem dX12_lead_173 : decode cX12_lead 173 = .ok (.iload 10, 2) := by decide +kernel
theorem dX12_lead_175 : decode cX12_lead 175 = .ok (.iload 7, 2) := by decide +kernel
theorem dX12_lead_177 : decode cX12_lead 177 = .ok (.if_icmp .ge 34, 3) := by decide +kernel
theorem dX12_lead_211 : decode cX12_lead 211 = .ok (.aload_n 0, 1) := by decide +kernel
theorem dX12_lead_212 : decode cX12_lead 212 = .ok (.iload 7, 2) := by decide +kernel
theorem dX12_lead_214 : decode cX12_lead 214 = .ok (.putfield 422, 3) := by decide +kernel
section
variable {p : Program} {l : Launch} {e : Env} {R0 : Room} {s : State} {m : MethodId} {args : Array Value} {below : List Frame} {meth : Method} {c : Code} {H H0 : Heap} {locs : List Loc} {cells slots : Nat} {Q : State → Prop} {cc : ByteArray} {nL : Nat} {D : va_G} {cy : Nat → ClassId} {A : Nat → Prop} {L : List Nat} {R : Nat → Nat} {f : Nat → va_E} {pc : Nat} {ls : Array Slot} {rest : List Value} {a : Nat}
theorem p_12_422 (F : CallFix p m c cc nL s args wsL_law RX12) (h : tS D cy A H0 L R (TT cy L R) f s H locs) {x : Int32} (ha : a ∈ L) (hr : R a = 12) (hv : 0 ≤ x.toInt ∧ x.toInt ≤ 5) (hdg : decode cc pc = .ok (.putfield 422, 3)) (kk : ∀ (f1 : Nat → va_E) (H1 : Heap) (locs1 : List Loc), fi f1 a 54 = x.toInt → fr L R [(12, 54)] [12] f f1 → tS D cy A H0 L R (TT cy L R) f1 s H1 locs1 → W p l e R0 s m args below meth c H1 locs1 cells slots Q (F0 m (pc + 3) ls (rest))) : W p l e R0 s m args below meth c H locs cells slots Q (F0 m pc ls (.int x :: .ref a :: rest)) := tu_puti (k := 54) F h ha hr T_12 rfl hv.1 hv.2 inlX12 tyX12_ok nmX12 rfl (Nat.le_of_ble_eq_true rfl) mw_1231 rfl rfl rfl hdg kk
end
theorem dX12_lead_217 : decode cX12_lead 217 = .ok (.aload_n 0, 1) := by decide +kernel
theorem dX12_lead_218 : decode cX12_lead 218 = .ok (.iload 7, 2) := by decide +kernel
theorem dX12_lead_220 : decode cX12_lead 220 = .ok (.invokevirtual 209, 3) := by decide +kernel
theorem dX12_lead_223 : decode cX12_lead 223 = .ok (.ireturn, 1) := by decide +kernel
theorem dX12_lead_180 : decode cX12_lead 180 = .ok (.aload_n 0, 1) := by decide +kernel
theorem dX12_lead_181 : decode cX12_lead 181 = .ok (.getfield 96, 3) := by decide +kernel
theorem dX12_lead_184 : decode cX12_lead 184 = .ok (.iload 10, 2) := by decide +kernel
theorem dX12_lead_186 : decode cX12_lead 186 = .ok (.aload_n 0, 1) := by decide +kernel
theorem dX12_lead_187 : decode cX12_lead 187 = .ok (.getfield 24, 3) := by decide +kernel
theorem dX12_lead_190 : decode cX12_lead 190 = .ok (.bipush 60, 2) := by decide +kernel
theorem dX12_lead_192 : decode cX12_lead 192 = .ok (.iload_n 2, 1) := by decide +kernel
theorem dX12_lead_193 : decode cX12_lead 193 = .ok (.imul, 1) := by decide +kernel
theorem dX12_lead_194 : decode cX12_lead 194 = .ok (.aload_n 0, 1) := by decide +kernel
theorem dX12_lead_195 : decode cX12_lead 195 = .ok (.getfield 93, 3) := by decide +kernel
theorem mw_228 : Cond.fieldLink RX12 93 "AskBackModel" "rowOf" "[I" ∈ wsL_law := inr_10 _ (List.mem_of_getElem? (i := 12) rfl)
section
variable {p : Program} {l : Launch} {e : Env} {R0 : Room} {s : State} {m : MethodId} {args : Array Value} {below : List Frame} {meth : Method} {c : Code} {H H0 : Heap} {locs : List Loc} {cells slots : Nat} {Q : State → Prop} {cc : ByteArray} {nL : Nat} {D : va_G} {cy : Nat → ClassId} {A : Nat → Prop} {L : List Nat} {R : Nat → Nat} {f : Nat → va_E} {pc : Nat} {ls : Array Slot} {rest : List Value} {a : Nat}
theorem g_12_93 (F : CallFix p m c cc nL s args wsL_law RX12) (h : tS D cy A H0 L R (TT cy L R) f s H locs) (ha : a ∈ L) (hr : R a = 12) (hdg : decode cc pc = .ok (.getfield 93, 3)) (kk : ∀ b : Nat, b ∈ L → R b = 81 → fld f a 52 = .ref b → W p l e R0 s m args below meth c H locs cells slots Q (F0 m (pc + 3) ls (.ref b :: rest))) : W p l e R0 s m args below meth c H locs cells slots Q (F0 m pc ls (.ref a :: rest)) := tu_getr F h ha hr (fun e q => (T_12 e).mp q) rfl inlX12 rfl (Nat.le_of_ble_eq_true rfl) mw_228 hdg kk
end
theorem dX12_lead_198 : decode cX12_lead 198 = .ok (.iload 10, 2) := by decide +kernel
theorem dX12_lead_200 : decode cX12_lead 200 = .ok (.iaload, 1) := by decide +kernel
section
variable {p : Program} {l : Launch} {e : Env} {R0 : Room} {s : State} {m : MethodId} {args : Array Value} {below : List Frame} {meth : Method} {c : Code} {H H0 : Heap} {locs : List Loc} {cells slots : Nat} {Q : State → Prop} {cc : ByteArray} {nL : Nat} {D : va_G} {cy : Nat → ClassId} {A : Nat → Prop} {L : List Nat} {R : Nat → Nat} {f : Nat → va_E} {pc : Nat} {ls : Array Slot} {rest : List Value} {a : Nat}
theorem ld_81 {own : String} (F : CallFix p m c cc nL s args wsL_law own) (h : tS D cy A H0 L R (TT cy L R) f s H locs) {i : Int32} (ha : a ∈ L) (hr : R a = 81) (hb : 0 ≤ i.toInt ∧ i.toInt < 5) (hdg : decode cc pc = .ok (.iaload, 1)) (kk : ∀ x : Int32, 0 ≤ x.toInt → x.toInt ≤ 5 → W p l e R0 s m args below meth c H locs cells slots Q (F0 m (pc + 1) ls (.int x :: rest))) : W p l e R0 s m args below meth c H locs cells slots Q (F0 m pc ls (.int i :: .ref a :: rest)) := tu_iald F h ha hr (fun e q => (T_81 e).mp q) hb.1 hb.2 hdg (fun x h1 h2 => kk x h1.1 h1.2)
end
theorem dX12_lead_201 : decode cX12_lead 201 = .ok (.iadd, 1) := by decide +kernel
theorem dX12_lead_202 : decode cX12_lead 202 = .ok (.laload, 1) := by decide +kernel
theorem dX12_lead_203 : decode cX12_lead 203 = .ok (.l2i, 1) := by decide +kernel
theorem dX12_lead_204 : decode cX12_lead 204 = .ok (.iastore, 1) := by decide +kernel
section
variable {p : Program} {l : Launch} {e : Env} {R0 : Room} {s : State} {m : MethodId} {args : Array Value} {below : List Frame} {meth : Method} {c : Code} {H H0 : Heap} {locs : List Loc} {cells slots : Nat} {Q : State → Prop} {cc : ByteArray} {nL : Nat} {D : va_G} {cy : Nat → ClassId} {A : Nat → Prop} {L : List Nat} {R : Nat → Nat} {f : Nat → va_E} {pc : Nat} {ls : Array Slot} {rest : List Value} {a : Nat}
theorem st_82 {own : String} (F : CallFix p m c cc nL s args wsL_law own) (h : tS D cy A H0 L R (TT cy L R) f s H locs) {i : Int32} {x : Int32} (ha : a ∈ L) (hr : R a = 82) (hb : 0 ≤ i.toInt ∧ i.toInt < 5) (hdg : decode cc pc = .ok (.iastore, 1)) (kk : ∀ (f1 : Nat → va_E) (H1 : Heap) (locs1 : List Loc), fr L R [] [82] f f1 → tS D cy A H0 L R (TT cy L R) f1 s H1 locs1 → W p l e R0 s m args below meth c H1 locs1 cells slots Q (F0 m (pc + 1) ls (rest))) : W p l e R0 s m args below meth c H locs cells slots Q (F0 m pc ls (.int x :: .int i :: .ref a :: rest)) := tu_iast F h ha hr T_82 hb.1 hb.2 trivial hdg (fun f1 H1 locs1 h1 h2 h3 h4 => kk f1 H1 locs1 h3 h4)
end
theorem dX12_lead_205 : decode cX12_lead 205 = .ok (.iinc 10 1, 3) := by decide +kernel
theorem dX12_lead_208 : decode cX12_lead 208 = .ok (.goto (-35), 3) := by decide +kernel
theorem dX12_lead_167 : decode cX12_lead 167 = .ok (.goto 57, 3) := by decide +kernel
theorem dX12_lead_224 : decode cX12_lead 224 = .ok (.iinc 8 1, 3) := by decide +kernel
theorem dX12_lead_227 : decode cX12_lead 227 = .ok (.goto (-161), 3) := by decide +kernel
theorem dX12_lead_129 : decode cX12_lead 129 = .ok (.aload_n 0, 1) := by decide +kernel
theorem dX12_lead_130 : decode cX12_lead 130 = .ok (.iload_n 2, 1) := by decide +kernel
theorem dX12_lead_131 : decode cX12_lead 131 = .ok (.aload_n 0, 1) := by decide +kernel
theorem dX12_lead_132 : decode cX12_lead 132 = .ok (.getfield 93, 3) := by decide +kernel
theorem dX12_lead_135 : decode cX12_lead 135 = .ok (.iload 10, 2) := by decide +kernel
theorem dX12_lead_137 : decode cX12_lead 137 = .ok (.iaload, 1) := by decide +kernel
section
variable {p : Program} {l : Launch} {e : Env} {R0 : Room} {s : State} {m : MethodId} {args : Array Value} {below : List Frame} {meth : Method} {c : Code} {H H0 : Heap} {locs : List Loc} {cells slots : Nat} {Q : State → Prop} {cc : ByteArray} {nL : Nat} {D : va_G} {cy : Nat → ClassId} {A : Nat → Prop} {L : List Nat} {R : Nat → Nat} {f : Nat → va_E} {pc : Nat} {ls : Array Slot} {rest : List Value} {a : Nat}
theorem le_81 {own : String} (F : CallFix p m c cc nL s args wsL_law own) (h : tS D cy A H0 L R (TT cy L R) f s H locs) {i : Int32} (ha : a ∈ L) (hr : R a = 81) (hb : 0 ≤ i.toInt ∧ i.toInt < 5) (hdg : decode cc pc = .ok (.iaload, 1)) (kk : ∀ x : Int32, x.toInt = eli f a i.toInt.toNat → 0 ≤ x.toInt → x.toInt ≤ 5 → W p l e R0 s m args below meth c H locs cells slots Q (F0 m (pc + 1) ls (.int x :: rest))) : W p l e R0 s m args below meth c H locs cells slots Q (F0 m pc ls (.int i :: .ref a :: rest)) := tu_iald F h ha hr (fun e q => (T_81 e).mp q) hb.1 hb.2 hdg (fun x h1 h2 => kk x h2 h1.1 h1.2)
end
theorem dX12_lead_138 : decode cX12_lead 138 = .ok (.invokevirtual 413, 3) := by decide +kernel
theorem dX12_lead_141 : decode cX12_lead 141 = .ok (.aload_n 0, 1) := by decide +kernel
theorem dX12_lead_142 : decode cX12_lead 142 = .ok (.sipush 22410, 3) := by decide +kernel
theorem dX12_lead_145 : decode cX12_lead 145 = .ok (.invokevirtual 387, 3) := by decide +kernel
theorem dX12_lead_148 : decode cX12_lead 148 = .ok (.iinc 10 1, 3) := by decide +kernel
theorem dX12_lead_151 : decode cX12_lead 151 = .ok (.goto (-29), 3) := by decide +kernel
theorem dX12_lead_88 : decode cX12_lead 88 = .ok (.aload_n 0, 1) := by decide +kernel
theorem dX12_lead_89 : decode cX12_lead 89 = .ok (.getfield 93, 3) := by decide +kernel
theorem dX12_lead_92 : decode cX12_lead 92 = .ok (.iload 10, 2) := by decide +kernel
theorem dX12_lead_94 : decode cX12_lead 94 = .ok (.iload 9, 2) := by decide +kernel
theorem dX12_lead_96 : decode cX12_lead 96 = .ok (.iload_n 3, 1) := by decide +kernel
theorem dX12_lead_97 : decode cX12_lead 97 = .ok (.irem, 1) := by decide +kernel
theorem dX12_lead_98 : decode cX12_lead 98 = .ok (.iastore, 1) := by decide +kernel
section
variable {p : Program} {l : Launch} {e : Env} {R0 : Room} {s : State} {m : MethodId} {args : Array Value} {below : List Frame} {meth : Method} {c : Code} {H H0 : Heap} {locs : List Loc} {cells slots : Nat} {Q : State → Prop} {cc : ByteArray} {nL : Nat} {D : va_G} {cy : Nat → ClassId} {A : Nat → Prop} {L : List Nat} {R : Nat → Nat} {f : Nat → va_E} {pc : Nat} {ls : Array Slot} {rest : List Value} {a : Nat}
theorem se_81 {own : String} (F : CallFix p m c cc nL s args wsL_law own) (h : tS D cy A H0 L R (TT cy L R) f s H locs) {i : Int32} {x : Int32} (ha : a ∈ L) (hr : R a = 81) (hb : 0 ≤ i.toInt ∧ i.toInt < 5) (hv : 0 ≤ x.toInt ∧ x.toInt ≤ 5) (hdg : decode cc pc = .ok (.iastore, 1)) (kk : ∀ (f1 : Nat → va_E) (H1 : Heap) (locs1 : List Loc), (∀ j, eli f1 a j = if j = i.toInt.toNat then x.toInt else eli f a j) → (∀ a', a' ≠ a → f1 a' = f a') → fr L R [] [81] f f1 → tS D cy A H0 L R (TT cy L R) f1 s H1 locs1 → W p l e R0 s m args below meth c H1 locs1 cells slots Q (F0 m (pc + 1) ls (rest))) : W p l e R0 s m args below meth c H locs cells slots Q (F0 m pc ls (.int x :: .int i :: .ref a :: rest)) := tu_iast F h ha hr T_81 hb.1 hb.2 hv hdg (fun f1 H1 locs1 h1 h2 h3 h4 => kk f1 H1 locs1 h1 h2 h3 h4)
end
theorem dX12_lead_99 : decode cX12_lead 99 = .ok (.iload 9, 2) := by decide +kernel
theorem dX12_lead_101 : decode cX12_lead 101 = .ok (.iload_n 3, 1) := by decide +kernel
theorem dX12_lead_102 : decode cX12_lead 102 = .ok (.idiv, 1) := by decide +kernel
theorem dX12_lead_103 : decode cX12_lead 103 = .ok (.istore 9, 2) := by decide +kernel
theorem dX12_lead_105 : decode cX12_lead 105 = .ok (.iinc 10 (-1), 3) := by decide +kernel
theorem dX12_lead_108 : decode cX12_lead 108 = .ok (.goto (-25), 3) := by decide +kernel
theorem dX12_lead_38 : decode cX12_lead 38 = .ok (.aload_n 0, 1) := by decide +kernel
theorem dX12_lead_39 : decode cX12_lead 39 = .ok (.iload 5, 2) := by decide +kernel
theorem dX12_lead_41 : decode cX12_lead 41 = .ok (.invokevirtual 194, 3) := by decide +kernel
theorem dX12_lead_44 : decode cX12_lead 44 = .ok (.ireturn, 1) := by decide +kernel
theorem dX12_lead_23 : decode cX12_lead 23 = .ok (.iconst 0, 1) := by decide +kernel
theorem dX12_lead_6 : decode cX12_lead 6 = .ok (.ifCond .eq 17, 3) := by decide +kernel
theorem dX12_lead_9 : decode cX12_lead 9 = .ok (.aload_n 0, 1) := by decide +kernel
theorem dX12_lead_10 : decode cX12_lead 10 = .ok (.iload 4, 2) := by decide +kernel
theorem dX12_lead_12 : decode cX12_lead 12 = .ok (.i2l, 1) := by decide +kernel
theorem dX12_lead_13 : decode cX12_lead 13 = .ok (.invokevirtual 212, 3) := by decide +kernel
theorem dX12_lead_16 : decode cX12_lead 16 = .ok (.ifCond .eq 7, 3) := by decide +kernel
theorem dX12_lead_19 : decode cX12_lead 19 = .ok (.iconst 1, 1) := by decide +kernel
theorem dX12_lead_20 : decode cX12_lead 20 = .ok (.goto 4, 3) := by decide +kernel
def rm_X12_lead : Room := { frames := 6, cells := 0, slots := 0, locals := 150 }
set_option maxHeartbeats 4000000 in
set_option maxRecDepth 100000 in
theorem s_X12_lead (l : Launch) (D : va_G) (cy : Nat → ClassId) (L : List Nat) (R O : Nat → Nat) (f0 : Nat → va_E) (a0 : Nat) (m_a0 : a0 ∈ L) (r_a0 : R a0 = 12) (x1 : Int32) (x2 : Int32) (x3 : Int32) (x4 : Int32) (GA : Nat) (m_GA : GA ∈ L) (r_GA : R GA = 61) (t_GA : fld f0 a0 0 = .ref GA) (GP : Nat) (m_GP : GP ∈ L) (r_GP : R GP = 69) (t_GP : fld f0 a0 22 = .ref GP) (GL : Nat) (m_GL : GL ∈ L) (r_GL : R GL = 70) (t_GL : fld f0 a0 23 = .ref GL) (GT : Nat) (m_GT : GT ∈ L) (r_GT : R GT = 64) (t_GT : fld f0 a0 6 = .ref GT) (pre0 : RBA GA f0) (pre1 : GZ GP GL f0) : ∀ sz, Met l yX12_lead (Cond.code yX12_lead cX12_lead 11 (some .int) :: wsL_law) rm_X12_lead (va_Pc [.ref a0, .int x1, .int x2, .int x3, .int x4] (tPZ D cy L R (TT cy L R) f0 sz)) (va_Qi (fun (r : Int32) f1 => fr L R [(12, 1), (12, 28), (12, 29), (12, 35), (12, 36), (12, 37), (12, 38), (12, 39), (12, 54)] [12, 61, 68, 69, 70, 73, 74, 76, 81, 82] f0 f1 ∧ RBA GA f1 ∧ GZ GP GL f1) (tB D (tA L sz) L R (TT cy L R)) (tA L sz)) 0 0 (tA L sz) := by
  refine tw_enteri (by decide +kernel) rfl (Nat.le_of_ble_eq_true rfl) ?_
  intro p e s m below meth c A ls args Q F hZ h hl hret
  have hl : lv_has ls 11 [(0, .ref a0), (1, .int x1), (2, .int x2), (3, .int x3), (4, .int x4)] := hl
  have hk : fr L R [(12, 1), (12, 28), (12, 29), (12, 35), (12, 36), (12, 37), (12, 38), (12, 39), (12, 54)] [12, 61, 68, 69, 70, 73, 74, 76, 81, 82] f0 f0 := fr.rf
  obtain ⟨a0_rowOf, m_a0_rowOf, r_a0_rowOf, t_a0_rowOf⟩ := h.rf m_a0 r_a0 (fun e q => (T_12 e).mp q) (k := 52) rfl
  have hR := pre0
  have hX := pre1
  refine lv_aload_n F.1 F.2.1 dX12_lead_0 rfl (lv_at hl 0 rfl) ?_
  refine lv_aload_n F.1 F.2.1 dX12_lead_1 rfl (lv_at hl 0 rfl) ?_
  refine lv_iload_n F.1 F.2.1 dX12_lead_2 rfl (lv_at hl 1 rfl) ?_
  refine tw_Vi (As := [.int x1]) F hZ h yk_X12_isScript mw_635 mw_636 mw_637 (s_X12_isScript l D cy L R O f0 a0 m_a0 r_a0 x1) rfl rfl m_a0 r_a0 (fun e q => (T_12 e).mp q) rfl hl.1 rfl (Nat.le_of_ble_eq_true rfl) ⟨Nat.le_of_ble_eq_true rfl, Nat.le_of_ble_eq_true rfl⟩ ⟨Nat.le_of_ble_eq_true rfl, Nat.le_of_ble_eq_true rfl⟩ dX12_lead_3 (fun v2 f1 H locs hp1 h => ?_)
  obtain ⟨rfl, hv2a, hv2b, hv2p0⟩ := hp1
  have j_24 : ∀ (H : Heap) (locs : List Loc) (ls : Array Slot) (y0_24 : Int32), 0 ≤ y0_24.toInt → y0_24.toInt ≤ 1 → (y0_24.toInt = 0 ∨ (0 ≤ x4.toInt ∧ x4.toInt ≤ 15 ∧ 0 ≤ x1.toInt ∧ x1.toInt ≤ 2)) → tS D cy A s.heap L R (TT cy L R) f0 s H locs → lv_has ls 11 [(0, .ref a0), (1, .int x1), (2, .int x2), (3, .int x3), (4, .int x4)] → W p l e rm_X12_lead s m args below meth c H locs 0 0 Q (F0 m 24 ls [.int y0_24, .ref a0]) := by
    intro H locs ls y0_24 b3 b4 b5 h hl
    refine lv_iload_n F.1 F.2.1 dX12_lead_24 rfl (lv_at hl 2 rfl) ?_
    refine lv_iload_n F.1 F.2.1 dX12_lead_25 rfl (lv_at hl 3 rfl) ?_
    refine tw_bipush F dX12_lead_26 kb_6 (fun z6 hz6 => ?_)
    refine tw_Vi (As := [.int y0_24, .int x2, .int x3, .int z6]) F hZ h yk_X12_wrongLines mw_1183 mw_1184 mw_1185 (s_X12_wrongLines l D cy L R O f0 a0 m_a0 r_a0 y0_24 ⟨by omega, by omega⟩ x2 x3 z6 ⟨by omega, by omega⟩ GA m_GA r_GA t_GA GP m_GP r_GP t_GP GL m_GL r_GL t_GL GT m_GT r_GT t_GT) rfl rfl m_a0 r_a0 (fun e q => (T_12 e).mp q) rfl hl.1 rfl (Nat.le_of_ble_eq_true rfl) ⟨Nat.le_of_ble_eq_true rfl, Nat.le_of_ble_eq_true rfl⟩ ⟨Nat.le_of_ble_eq_true rfl, Nat.le_of_ble_eq_true rfl⟩ dX12_lead_28 (fun v8 f7 H locs hp7 h => ?_)
    obtain ⟨rfl, hv8a, hv8b, hv8p0, hv8p1⟩ := hp7
    refine lv_istore (lv' := [(5, .int v8), (0, .ref a0), (1, .int x1), (2, .int x2), (3, .int x3), (4, .int x4)]) F.1 F.2.1 dX12_lead_31 hl (by decide) rfl (fun ls hl => ?_)
    refine lv_iload F.1 F.2.1 dX12_lead_33 (lv_at hl 0 rfl) ?_
    refine tw_if_le (tgt := 45) F dX12_lead_35 (by decide) (fun b9 => ?_) (fun b9 => ?_)
    · have hLT : LT GT x2.toInt.toNat x3.toInt.toNat f0 := hv8p0.g.resolve_left (by omega)
      refine tw_iconst F dX12_lead_45 ki_1 (fun z10 hz10 => ?_)
      refine lv_istore (lv' := [(6, .int z10), (5, .int v8), (0, .ref a0), (1, .int x1), (2, .int x2), (3, .int x3), (4, .int x4)]) F.1 F.2.1 dX12_lead_46 hl (by decide) rfl (fun ls hl => ?_)
      refine tw_iconst F dX12_lead_48 ki_1 (fun z11 hz11 => ?_)
      refine lv_istore (lv' := [(7, .int z11), (6, .int z10), (5, .int v8), (0, .ref a0), (1, .int x1), (2, .int x2), (3, .int x3), (4, .int x4)]) F.1 F.2.1 dX12_lead_49 hl (by decide) rfl (fun ls hl => ?_)
      have j_51 : ∀ (n51 : Nat) (f12 : Nat → va_E) (H : Heap) (locs : List Loc) (ls : Array Slot) (x6_51 : Int32) (x7_51 : Int32), 1 ≤ x7_51.toInt → x7_51.toInt ≤ 6 → ((6 - x7_51.toInt)).toNat < n51 → tS D cy A s.heap L R (TT cy L R) f12 s H locs → RBA GA f12 → GZ GP GL f12 → LT GT x2.toInt.toNat x3.toInt.toNat f12 → fr L R [(12, 1), (12, 28), (12, 29), (12, 35), (12, 36), (12, 37), (12, 38), (12, 39), (12, 54)] [12, 61, 68, 69, 70, 73, 74, 76, 81, 82] f0 f12 → fr L R [(12, 28), (12, 29), (12, 35), (12, 36), (12, 37), (12, 38), (12, 39)] [12, 61, 68, 69, 70, 73, 74, 76, 81] f0 f12 → lv_has ls 11 [(0, .ref a0), (1, .int x1), (2, .int x2), (3, .int x3), (4, .int x4), (6, .int x6_51), (7, .int x7_51)] → W p l e rm_X12_lead s m args below meth c H locs 0 0 Q (F0 m 51 ls []) := by
        intro n51
        induction n51 with
        | zero =>
          intro f12 H locs ls x6_51 x7_51 b13 b14 b15 h hR hX hLT hk hb51 hl
          exfalso
          omega
        | succ n51 ih51 =>
          intro f12 H locs ls x6_51 x7_51 b13 b14 b15 h hR hX hLT hk hb51 hl
          have e16 : fld f12 a0 0 = .ref GA := (hb51.efl m_a0 r_a0 rfl).trans t_GA
          have e17 : fld f12 a0 22 = .ref GP := (hb51.efl m_a0 r_a0 rfl).trans t_GP
          have e18 : fld f12 a0 23 = .ref GL := (hb51.efl m_a0 r_a0 rfl).trans t_GL
          have e19 : fld f12 a0 6 = .ref GT := (hb51.efl m_a0 r_a0 rfl).trans t_GT
          have e20 : fld f12 a0 52 = .ref a0_rowOf := (hb51.efl m_a0 r_a0 rfl).trans t_a0_rowOf
          refine lv_iload F.1 F.2.1 dX12_lead_51 (lv_at hl 6 rfl) ?_
          refine tw_iconst F dX12_lead_53 ki_5 (fun z21 hz21 => ?_)
          refine tw_icmp_gt (tgt := 236) F dX12_lead_54 (by decide) (fun b22 => ?_) (fun b22 => ?_)
          · refine lv_aload_n F.1 F.2.1 dX12_lead_236 rfl (lv_at hl 0 rfl) ?_
            refine tw_bipush F dX12_lead_237 kb_6 (fun z23 hz23 => ?_)
            refine tw_Vi (As := [.int z23]) F hZ h yk_X12_refuse mw_452 mw_453 mw_454 (s_X12_refuse l D cy L R O f12 a0 m_a0 r_a0 z23 ⟨by omega, by omega⟩) rfl rfl m_a0 r_a0 (fun e q => (T_12 e).mp q) rfl hl.1 rfl (Nat.le_of_ble_eq_true rfl) ⟨Nat.le_of_ble_eq_true rfl, Nat.le_of_ble_eq_true rfl⟩ ⟨Nat.le_of_ble_eq_true rfl, Nat.le_of_ble_eq_true rfl⟩ dX12_lead_239 (fun v25 f24 H locs hp24 h => ?_)
            obtain ⟨hf24, hv25a, hv25b⟩ := hp24
            have hR : RBA GA f24 := hR.fm hf24 m_GA r_GA (by decide +kernel)
            have hX : GZ GP GL f24 := hX.fm hf24 m_GP r_GP m_GL r_GL (by decide +kernel) (by decide +kernel)
            have hLT : LT GT x2.toInt.toNat x3.toInt.toNat f24 := hLT.fm hf24 m_GT r_GT (by decide +kernel)
            have hk : fr L R [(12, 1), (12, 28), (12, 29), (12, 35), (12, 36), (12, 37), (12, 38), (12, 39), (12, 54)] [12, 61, 68, 69, 70, 73, 74, 76, 81, 82] f0 f24 := hk.tr hf24 rfl rfl
            have e26 : fld f24 a0 0 = .ref GA := (hf24.efl m_a0 r_a0 rfl).trans e16
            have e27 : fld f24 a0 22 = .ref GP := (hf24.efl m_a0 r_a0 rfl).trans e17
            have e28 : fld f24 a0 23 = .ref GL := (hf24.efl m_a0 r_a0 rfl).trans e18
            have e29 : fld f24 a0 6 = .ref GT := (hf24.efl m_a0 r_a0 rfl).trans e19
            have e30 : fld f24 a0 52 = .ref a0_rowOf := (hf24.efl m_a0 r_a0 rfl).trans e20
            exact hret f24 _ _ _ _ v25 dX12_lead_242 rfl ⟨hk, hR, hX⟩ h
          · refine lv_iload F.1 F.2.1 dX12_lead_57 (lv_at hl 5 rfl) ?_
            refine lv_iload_n F.1 F.2.1 dX12_lead_59 rfl (lv_at hl 3 rfl) ?_
            refine lv_imul F.1 F.2.1 dX12_lead_60 ?_
            refine lv_topi (fun z31 _ => ?_)
            refine lv_istore (lv' := [(6, .int z31), (0, .ref a0), (1, .int x1), (2, .int x2), (3, .int x3), (4, .int x4), (7, .int x7_51)]) F.1 F.2.1 dX12_lead_61 hl (by decide) rfl (fun ls hl => ?_)
            refine tw_iconst F dX12_lead_63 ki_0 (fun z32 hz32 => ?_)
            refine lv_istore (lv' := [(8, .int z32), (6, .int z31), (0, .ref a0), (1, .int x1), (2, .int x2), (3, .int x3), (4, .int x4), (7, .int x7_51)]) F.1 F.2.1 dX12_lead_64 hl (by decide) rfl (fun ls hl => ?_)
            have j_66 : ∀ (n66 : Nat) (f33 : Nat → va_E) (H : Heap) (locs : List Loc) (ls : Array Slot) (x8_66 : Int32), 0 ≤ x8_66.toInt → ((2147483647 - x8_66.toInt)).toNat < n66 → tS D cy A s.heap L R (TT cy L R) f33 s H locs → RBA GA f33 → GZ GP GL f33 → LT GT x2.toInt.toNat x3.toInt.toNat f33 → fr L R [(12, 1), (12, 28), (12, 29), (12, 35), (12, 36), (12, 37), (12, 38), (12, 39), (12, 54)] [12, 61, 68, 69, 70, 73, 74, 76, 81, 82] f0 f33 → fr L R [(12, 28), (12, 29), (12, 35), (12, 36), (12, 37), (12, 38), (12, 39)] [12, 61, 68, 69, 70, 73, 74, 76, 81] f12 f33 → lv_has ls 11 [(0, .ref a0), (1, .int x1), (2, .int x2), (3, .int x3), (4, .int x4), (6, .int z31), (7, .int x7_51), (8, .int x8_66)] → W p l e rm_X12_lead s m args below meth c H locs 0 0 Q (F0 m 66 ls []) := by
              intro n66
              induction n66 with
              | zero =>
                intro f33 H locs ls x8_66 b34 b35 h hR hX hLT hk hb66 hl
                exfalso
                omega
              | succ n66 ih66 =>
                intro f33 H locs ls x8_66 b34 b35 h hR hX hLT hk hb66 hl
                have hb51 : fr L R [(12, 28), (12, 29), (12, 35), (12, 36), (12, 37), (12, 38), (12, 39)] [12, 61, 68, 69, 70, 73, 74, 76, 81] f0 f33 := hb51.tr hb66 (by decide +kernel) (by decide +kernel)
                have e36 : fld f33 a0 0 = .ref GA := (hb66.efl m_a0 r_a0 rfl).trans e16
                have e37 : fld f33 a0 22 = .ref GP := (hb66.efl m_a0 r_a0 rfl).trans e17
                have e38 : fld f33 a0 23 = .ref GL := (hb66.efl m_a0 r_a0 rfl).trans e18
                have e39 : fld f33 a0 6 = .ref GT := (hb66.efl m_a0 r_a0 rfl).trans e19
                have e40 : fld f33 a0 52 = .ref a0_rowOf := (hb66.efl m_a0 r_a0 rfl).trans e20
                refine lv_iload F.1 F.2.1 dX12_lead_66 (lv_at hl 7 rfl) ?_
                refine lv_iload F.1 F.2.1 dX12_lead_68 (lv_at hl 5 rfl) ?_
                refine tw_icmp_ge (tgt := 230) F dX12_lead_70 (by decide) (fun b41 => ?_) (fun b41 => ?_)
                · refine tu_iinc F dX12_lead_230 hl (k := 6) rfl (by decide) ki_1 (by omega) (fun z42 ls hz42 hl => ?_)
                  have hl : lv_has ls 11 [(7, .int z42), (0, .ref a0), (1, .int x1), (2, .int x2), (3, .int x3), (4, .int x4), (6, .int z31), (8, .int x8_66)] := hl
                  refine lv_goto (tgt := 51) F.1 F.2.1 dX12_lead_233 (by decide) ?_
                  exact ih51 f33 _ _ _ z31 z42 (by omega) (by omega) (by omega) h hR hX hLT hk hb51 (lv_sub hl [1, 2, 3, 4, 5, 6, 0] rfl)
                · refine lv_iload F.1 F.2.1 dX12_lead_73 (lv_at hl 7 rfl) ?_
                  refine lv_istore (lv' := [(9, .int x8_66), (0, .ref a0), (1, .int x1), (2, .int x2), (3, .int x3), (4, .int x4), (6, .int z31), (7, .int x7_51), (8, .int x8_66)]) F.1 F.2.1 dX12_lead_75 hl (by decide) rfl (fun ls hl => ?_)
                  refine lv_iload F.1 F.2.1 dX12_lead_77 (lv_at hl 7 rfl) ?_
                  refine tw_iconst F dX12_lead_79 ki_1 (fun z43 hz43 => ?_)
                  refine tu_isub F dX12_lead_80 (by omega) (fun z44 hz44 => ?_)
                  refine lv_istore (lv' := [(10, .int z44), (9, .int x8_66), (0, .ref a0), (1, .int x1), (2, .int x2), (3, .int x3), (4, .int x4), (6, .int z31), (7, .int x7_51), (8, .int x8_66)]) F.1 F.2.1 dX12_lead_81 hl (by decide) rfl (fun ls hl => ?_)
                  have j_83 : ∀ (n83 : Nat) (f45 : Nat → va_E) (H : Heap) (locs : List Loc) (ls : Array Slot) (x9_83 : Int32) (x10_83 : Int32), (-1) ≤ x10_83.toInt → x10_83.toInt ≤ 4 → 0 ≤ x9_83.toInt → (RO a0_rowOf (x10_83.toInt) (x7_51.toInt) (x3.toInt) f45) → ((x10_83.toInt - (-1))).toNat < n83 → tS D cy A s.heap L R (TT cy L R) f45 s H locs → RBA GA f45 → GZ GP GL f45 → LT GT x2.toInt.toNat x3.toInt.toNat f45 → fr L R [(12, 1), (12, 28), (12, 29), (12, 35), (12, 36), (12, 37), (12, 38), (12, 39), (12, 54)] [12, 61, 68, 69, 70, 73, 74, 76, 81, 82] f0 f45 → fr L R [] [81] f33 f45 → lv_has ls 11 [(0, .ref a0), (1, .int x1), (2, .int x2), (3, .int x3), (4, .int x4), (6, .int z31), (7, .int x7_51), (8, .int x8_66), (9, .int x9_83), (10, .int x10_83)] → W p l e rm_X12_lead s m args below meth c H locs 0 0 Q (F0 m 83 ls []) := by
                    intro n83
                    induction n83 with
                    | zero =>
                      intro f45 H locs ls x9_83 x10_83 b46 b47 b48 ip83_0 b49 h hR hX hLT hk hb83 hl
                      exfalso
                      omega
                    | succ n83 ih83 =>
                      intro f45 H locs ls x9_83 x10_83 b46 b47 b48 ip83_0 b49 h hR hX hLT hk hb83 hl
                      have hb51 : fr L R [(12, 28), (12, 29), (12, 35), (12, 36), (12, 37), (12, 38), (12, 39)] [12, 61, 68, 69, 70, 73, 74, 76, 81] f0 f45 := hb51.tr hb83 rfl rfl
                      have hb66 : fr L R [(12, 28), (12, 29), (12, 35), (12, 36), (12, 37), (12, 38), (12, 39)] [12, 61, 68, 69, 70, 73, 74, 76, 81] f12 f45 := hb66.tr hb83 rfl rfl
                      have e50 : fld f45 a0 0 = .ref GA := (hb83.efl m_a0 r_a0 rfl).trans e36
                      have e51 : fld f45 a0 22 = .ref GP := (hb83.efl m_a0 r_a0 rfl).trans e37
                      have e52 : fld f45 a0 23 = .ref GL := (hb83.efl m_a0 r_a0 rfl).trans e38
                      have e53 : fld f45 a0 6 = .ref GT := (hb83.efl m_a0 r_a0 rfl).trans e39
                      have e54 : fld f45 a0 52 = .ref a0_rowOf := (hb83.efl m_a0 r_a0 rfl).trans e40
                      refine lv_iload F.1 F.2.1 dX12_lead_83 (lv_at hl 9 rfl) ?_
                      refine tw_if_lt (tgt := 111) F dX12_lead_85 (by decide) (fun b55 => ?_) (fun b55 => ?_)
                      · have hRow : RO a0_rowOf (-1) (x7_51.toInt) (x3.toInt) f45 := ip83_0.lo (by omega)
                        refine lv_aload_n F.1 F.2.1 dX12_lead_111 rfl (lv_at hl 0 rfl) ?_
                        refine lv_iload_n F.1 F.2.1 dX12_lead_112 rfl (lv_at hl 1 rfl) ?_
                        refine tw_sipush F dX12_lead_113 ks_22410 (fun z56 hz56 => ?_)
                        refine tw_Vv (As := [.int x1, .int z56]) F hZ h yk_X12_works mw_1187 mw_1188 mw_1189 (s_X12_works l D cy L R O f45 a0 m_a0 r_a0 x1 ⟨by omega, by omega⟩ z56 ⟨by omega, by omega⟩ GA m_GA r_GA e50 GP m_GP r_GP e51 GL m_GL r_GL e52 GT m_GT r_GT e53 (isB_e isB_w (by omega)) (hR.s (by omega))) rfl rfl m_a0 r_a0 (fun e q => (T_12 e).mp q) rfl hl.1 rfl (Nat.le_of_ble_eq_true rfl) ⟨Nat.le_of_ble_eq_true rfl, Nat.le_of_ble_eq_true rfl⟩ ⟨Nat.le_of_ble_eq_true rfl, Nat.le_of_ble_eq_true rfl⟩ dX12_lead_116 (fun f57 H locs hp57 h => ?_)
                        obtain ⟨hf57, hv58p0, hv58p1⟩ := hp57
                        have hR : RBA GA f57 := hR.kw hv58p0 (Or.inl (by omega))
                        have hX : GZ GP GL f57 := hX.fm hf57 m_GP r_GP m_GL r_GL (by decide +kernel) (by decide +kernel)
                        have hLT : LT GT x2.toInt.toNat x3.toInt.toNat f57 := hLT.fm hf57 m_GT r_GT (by decide +kernel)
                        have hRow : RO a0_rowOf (-1) (x7_51.toInt) (x3.toInt) f57 := hRow.fm hf57 m_a0_rowOf r_a0_rowOf (by decide +kernel)
                        have hk : fr L R [(12, 1), (12, 28), (12, 29), (12, 35), (12, 36), (12, 37), (12, 38), (12, 39), (12, 54)] [12, 61, 68, 69, 70, 73, 74, 76, 81, 82] f0 f57 := hk.tr hf57 rfl rfl
                        have hb51 : fr L R [(12, 28), (12, 29), (12, 35), (12, 36), (12, 37), (12, 38), (12, 39)] [12, 61, 68, 69, 70, 73, 74, 76, 81] f0 f57 := hb51.tr hf57 rfl rfl
                        have hb66 : fr L R [(12, 28), (12, 29), (12, 35), (12, 36), (12, 37), (12, 38), (12, 39)] [12, 61, 68, 69, 70, 73, 74, 76, 81] f12 f57 := hb66.tr hf57 rfl rfl
                        have e59 : fld f57 a0 0 = .ref GA := (hf57.efl m_a0 r_a0 rfl).trans e50
                        have e60 : fld f57 a0 22 = .ref GP := (hf57.efl m_a0 r_a0 rfl).trans e51
                        have e61 : fld f57 a0 23 = .ref GL := (hf57.efl m_a0 r_a0 rfl).trans e52
                        have e62 : fld f57 a0 6 = .ref GT := (hf57.efl m_a0 r_a0 rfl).trans e53
                        have e63 : fld f57 a0 52 = .ref a0_rowOf := (hf57.efl m_a0 r_a0 rfl).trans e54
                        have hRB : RB GA 22410 f57 := by have q := hv58p1; rw [show z56.toInt.toNat = 22410 by omega] at q; exact q
                        refine tw_iconst F dX12_lead_119 ki_0 (fun z64 hz64 => ?_)
                        refine lv_istore (lv' := [(10, .int z64), (0, .ref a0), (1, .int x1), (2, .int x2), (3, .int x3), (4, .int x4), (6, .int z31), (7, .int x7_51), (8, .int x8_66), (9, .int x9_83)]) F.1 F.2.1 dX12_lead_120 hl (by decide) rfl (fun ls hl => ?_)
                        have j_122 : ∀ (n122 : Nat) (f65 : Nat → va_E) (H : Heap) (locs : List Loc) (ls : Array Slot) (x10_122 : Int32), 0 ≤ x10_122.toInt → x10_122.toInt ≤ 5 → ((5 - x10_122.toInt)).toNat < n122 → tS D cy A s.heap L R (TT cy L R) f65 s H locs → RBA GA f65 → GZ GP GL f65 → LT GT x2.toInt.toNat x3.toInt.toNat f65 → RO a0_rowOf (-1) (x7_51.toInt) (x3.toInt) f65 → RB GA 22410 f65 → fr L R [(12, 1), (12, 28), (12, 29), (12, 35), (12, 36), (12, 37), (12, 38), (12, 39), (12, 54)] [12, 61, 68, 69, 70, 73, 74, 76, 81, 82] f0 f65 → fr L R [(12, 28), (12, 29), (12, 35), (12, 36), (12, 37), (12, 38), (12, 39)] [12, 61, 68, 69, 70, 73, 74, 76] f57 f65 → lv_has ls 11 [(0, .ref a0), (1, .int x1), (2, .int x2), (3, .int x3), (4, .int x4), (6, .int z31), (7, .int x7_51), (8, .int x8_66), (10, .int x10_122)] → W p l e rm_X12_lead s m args below meth c H locs 0 0 Q (F0 m 122 ls []) := by
                          intro n122
                          induction n122 with
                          | zero =>
                            intro f65 H locs ls x10_122 b66 b67 b68 h hR hX hLT hRow hRB hk hb122 hl
                            exfalso
                            omega
                          | succ n122 ih122 =>
                            intro f65 H locs ls x10_122 b66 b67 b68 h hR hX hLT hRow hRB hk hb122 hl
                            have hb51 : fr L R [(12, 28), (12, 29), (12, 35), (12, 36), (12, 37), (12, 38), (12, 39)] [12, 61, 68, 69, 70, 73, 74, 76, 81] f0 f65 := hb51.tr hb122 (by decide +kernel) (by decide +kernel)
                            have hb66 : fr L R [(12, 28), (12, 29), (12, 35), (12, 36), (12, 37), (12, 38), (12, 39)] [12, 61, 68, 69, 70, 73, 74, 76, 81] f12 f65 := hb66.tr hb122 (by decide +kernel) (by decide +kernel)
                            have e69 : fld f65 a0 0 = .ref GA := (hb122.efl m_a0 r_a0 rfl).trans e59
                            have e70 : fld f65 a0 22 = .ref GP := (hb122.efl m_a0 r_a0 rfl).trans e60
                            have e71 : fld f65 a0 23 = .ref GL := (hb122.efl m_a0 r_a0 rfl).trans e61
                            have e72 : fld f65 a0 6 = .ref GT := (hb122.efl m_a0 r_a0 rfl).trans e62
                            have e73 : fld f65 a0 52 = .ref a0_rowOf := (hb122.efl m_a0 r_a0 rfl).trans e63
                            refine lv_iload F.1 F.2.1 dX12_lead_122 (lv_at hl 8 rfl) ?_
                            refine lv_iload F.1 F.2.1 dX12_lead_124 (lv_at hl 6 rfl) ?_
                            refine tw_icmp_ge (tgt := 154) F dX12_lead_126 (by decide) (fun b74 => ?_) (fun b74 => ?_)
                            · refine lv_aload_n F.1 F.2.1 dX12_lead_154 rfl (lv_at hl 0 rfl) ?_
                              refine lv_aload_n F.1 F.2.1 dX12_lead_155 rfl (lv_at hl 0 rfl) ?_
                              refine lv_iload F.1 F.2.1 dX12_lead_156 (lv_at hl 4 rfl) ?_
                              refine tw_Vi (As := [.int x4]) F hZ h yk_X12_lineAt mw_495 mw_496 mw_497 (s_X12_lineAt l D cy L R O f65 a0 m_a0 r_a0 x4 ⟨by omega, by omega⟩) rfl rfl m_a0 r_a0 (fun e q => (T_12 e).mp q) rfl hl.1 rfl (Nat.le_of_ble_eq_true rfl) ⟨Nat.le_of_ble_eq_true rfl, Nat.le_of_ble_eq_true rfl⟩ ⟨Nat.le_of_ble_eq_true rfl, Nat.le_of_ble_eq_true rfl⟩ dX12_lead_158 (fun v76 f75 H locs hp75 h => ?_)
                              obtain ⟨rfl, hv76a, hv76b, hv76p0⟩ := hp75
                              refine tw_Vi (As := [.int v76]) F hZ h yk_X12_isSaid mw_1232 mw_1233 mw_1234 (s_X12_isSaid l D cy L R O f65 a0 m_a0 r_a0 v76 ⟨by omega, by omega⟩ (ac_l (by omega))) rfl rfl m_a0 r_a0 (fun e q => (T_12 e).mp q) rfl hl.1 rfl (Nat.le_of_ble_eq_true rfl) ⟨Nat.le_of_ble_eq_true rfl, Nat.le_of_ble_eq_true rfl⟩ ⟨Nat.le_of_ble_eq_true rfl, Nat.le_of_ble_eq_true rfl⟩ dX12_lead_161 (fun v78 f77 H locs hp77 h => ?_)
                              obtain ⟨rfl, hv78a, hv78b⟩ := hp77
                              refine tw_if_ne (tgt := 170) F dX12_lead_164 (by decide) (fun b79 => ?_) (fun b79 => ?_)
                              · refine tw_iconst F dX12_lead_170 ki_0 (fun z80 hz80 => ?_)
                                refine lv_istore (lv' := [(10, .int z80), (0, .ref a0), (1, .int x1), (2, .int x2), (3, .int x3), (4, .int x4), (6, .int z31), (7, .int x7_51), (8, .int x8_66)]) F.1 F.2.1 dX12_lead_171 hl (by decide) rfl (fun ls hl => ?_)
                                have j_173 : ∀ (n173 : Nat) (f81 : Nat → va_E) (H : Heap) (locs : List Loc) (ls : Array Slot) (x10_173 : Int32), 0 ≤ x10_173.toInt → x10_173.toInt ≤ 5 → ((5 - x10_173.toInt)).toNat < n173 → tS D cy A s.heap L R (TT cy L R) f81 s H locs → RBA GA f81 → GZ GP GL f81 → LT GT x2.toInt.toNat x3.toInt.toNat f81 → RO a0_rowOf (-1) (x7_51.toInt) (x3.toInt) f81 → RB GA 22410 f81 → fr L R [(12, 1), (12, 28), (12, 29), (12, 35), (12, 36), (12, 37), (12, 38), (12, 39), (12, 54)] [12, 61, 68, 69, 70, 73, 74, 76, 81, 82] f0 f81 → fr L R [] [82] f65 f81 → lv_has ls 11 [(0, .ref a0), (2, .int x2), (7, .int x7_51), (10, .int x10_173)] → W p l e rm_X12_lead s m args below meth c H locs 0 0 Q (F0 m 173 ls []) := by
                                  intro n173
                                  induction n173 with
                                  | zero =>
                                    intro f81 H locs ls x10_173 b82 b83 b84 h hR hX hLT hRow hRB hk hb173 hl
                                    exfalso
                                    omega
                                  | succ n173 ih173 =>
                                    intro f81 H locs ls x10_173 b82 b83 b84 h hR hX hLT hRow hRB hk hb173 hl
                                    have e85 : fld f81 a0 0 = .ref GA := (hb173.efl m_a0 r_a0 rfl).trans e69
                                    have e86 : fld f81 a0 22 = .ref GP := (hb173.efl m_a0 r_a0 rfl).trans e70
                                    have e87 : fld f81 a0 23 = .ref GL := (hb173.efl m_a0 r_a0 rfl).trans e71
                                    have e88 : fld f81 a0 6 = .ref GT := (hb173.efl m_a0 r_a0 rfl).trans e72
                                    have e89 : fld f81 a0 52 = .ref a0_rowOf := (hb173.efl m_a0 r_a0 rfl).trans e73
                                    refine lv_iload F.1 F.2.1 dX12_lead_173 (lv_at hl 3 rfl) ?_
                                    refine lv_iload F.1 F.2.1 dX12_lead_175 (lv_at hl 2 rfl) ?_
                                    refine tw_icmp_ge (tgt := 211) F dX12_lead_177 (by decide) (fun b90 => ?_) (fun b90 => ?_)
                                    · refine lv_aload_n F.1 F.2.1 dX12_lead_211 rfl (lv_at hl 0 rfl) ?_
                                      refine lv_iload F.1 F.2.1 dX12_lead_212 (lv_at hl 2 rfl) ?_
                                      refine p_12_422 F h m_a0 r_a0 (by omega) dX12_lead_214 (fun f91 H locs e91p hf91 h => ?_)
                                      have hR : RBA GA f91 := hR.fm hf91 m_GA r_GA (by decide +kernel)
                                      have hX : GZ GP GL f91 := hX.fm hf91 m_GP r_GP m_GL r_GL (by decide +kernel) (by decide +kernel)
                                      have hLT : LT GT x2.toInt.toNat x3.toInt.toNat f91 := hLT.fm hf91 m_GT r_GT (by decide +kernel)
                                      have hRow : RO a0_rowOf (-1) (x7_51.toInt) (x3.toInt) f91 := hRow.fm hf91 m_a0_rowOf r_a0_rowOf (by decide +kernel)
                                      have hRB : RB GA 22410 f91 := hRB.fm hf91 m_GA r_GA (by decide +kernel)
                                      have hk : fr L R [(12, 1), (12, 28), (12, 29), (12, 35), (12, 36), (12, 37), (12, 38), (12, 39), (12, 54)] [12, 61, 68, 69, 70, 73, 74, 76, 81, 82] f0 f91 := hk.tr hf91 rfl rfl
                                      have e92 : fld f91 a0 0 = .ref GA := (hf91.efl m_a0 r_a0 rfl).trans e85
                                      have e93 : fld f91 a0 22 = .ref GP := (hf91.efl m_a0 r_a0 rfl).trans e86
                                      have e94 : fld f91 a0 23 = .ref GL := (hf91.efl m_a0 r_a0 rfl).trans e87
                                      have e95 : fld f91 a0 6 = .ref GT := (hf91.efl m_a0 r_a0 rfl).trans e88
                                      have e96 : fld f91 a0 52 = .ref a0_rowOf := (hf91.efl m_a0 r_a0 rfl).trans e89
                                      refine lv_aload_n F.1 F.2.1 dX12_lead_217 rfl (lv_at hl 0 rfl) ?_
                                      refine lv_iload F.1 F.2.1 dX12_lead_218 (lv_at hl 2 rfl) ?_
                                      refine tw_Vi (As := [.int x7_51]) F hZ h yk_X12_gives mw_499 mw_500 mw_501 (s_X12_gives l D cy L R O f91 a0 m_a0 r_a0 x7_51) rfl rfl m_a0 r_a0 (fun e q => (T_12 e).mp q) rfl hl.1 rfl (Nat.le_of_ble_eq_true rfl) ⟨Nat.le_of_ble_eq_true rfl, Nat.le_of_ble_eq_true rfl⟩ ⟨Nat.le_of_ble_eq_true rfl, Nat.le_of_ble_eq_true rfl⟩ dX12_lead_220 (fun v98 f97 H locs hp97 h => ?_)
                                      have hf97 := hp97
                                      have hR : RBA GA f97 := hR.fm hf97 m_GA r_GA (by decide +kernel)
                                      have hX : GZ GP GL f97 := hX.fm hf97 m_GP r_GP m_GL r_GL (by decide +kernel) (by decide +kernel)
                                      have hLT : LT GT x2.toInt.toNat x3.toInt.toNat f97 := hLT.fm hf97 m_GT r_GT (by decide +kernel)
                                      have hRow : RO a0_rowOf (-1) (x7_51.toInt) (x3.toInt) f97 := hRow.fm hf97 m_a0_rowOf r_a0_rowOf (by decide +kernel)
                                      have hRB : RB GA 22410 f97 := hRB.fm hf97 m_GA r_GA (by decide +kernel)
                                      have hk : fr L R [(12, 1), (12, 28), (12, 29), (12, 35), (12, 36), (12, 37), (12, 38), (12, 39), (12, 54)] [12, 61, 68, 69, 70, 73, 74, 76, 81, 82] f0 f97 := hk.tr hf97 rfl rfl
                                      have e99 : fld f97 a0 0 = .ref GA := (hf97.efl m_a0 r_a0 rfl).trans e92
                                      have e100 : fld f97 a0 22 = .ref GP := (hf97.efl m_a0 r_a0 rfl).trans e93
                                      have e101 : fld f97 a0 23 = .ref GL := (hf97.efl m_a0 r_a0 rfl).trans e94
                                      have e102 : fld f97 a0 6 = .ref GT := (hf97.efl m_a0 r_a0 rfl).trans e95
                                      have e103 : fld f97 a0 52 = .ref a0_rowOf := (hf97.efl m_a0 r_a0 rfl).trans e96
                                      exact hret f97 _ _ _ _ v98 dX12_lead_223 rfl ⟨hk, hR, hX⟩ h
                                    · refine lv_aload_n F.1 F.2.1 dX12_lead_180 rfl (lv_at hl 0 rfl) ?_
                                      refine g_12_96 F h m_a0 r_a0 dX12_lead_181 (fun o104 m_o104 r_o104 ho104 => ?_)
                                      refine lv_iload F.1 F.2.1 dX12_lead_184 (lv_at hl 3 rfl) ?_
                                      refine lv_aload_n F.1 F.2.1 dX12_lead_186 rfl (lv_at hl 0 rfl) ?_
                                      refine g_12_24 F h m_a0 r_a0 dX12_lead_187 (fun o105 m_o105 r_o105 ho105 => ?_)
                                      obtain rfl := (fld_inj e88 ho105).symm
                                      refine tw_bipush F dX12_lead_190 kb_60 (fun z106 hz106 => ?_)
                                      refine lv_iload_n F.1 F.2.1 dX12_lead_192 rfl (lv_at hl 1 rfl) ?_
                                      refine tu_imull F dX12_lead_193 hz106 (by omega) (fun z107 hz107 => ?_)
                                      refine lv_aload_n F.1 F.2.1 dX12_lead_194 rfl (lv_at hl 0 rfl) ?_
                                      refine g_12_93 F h m_a0 r_a0 dX12_lead_195 (fun o108 m_o108 r_o108 ho108 => ?_)
                                      obtain rfl := (fld_inj e89 ho108).symm
                                      refine lv_iload F.1 F.2.1 dX12_lead_198 (lv_at hl 3 rfl) ?_
                                      refine ld_81 F h m_a0_rowOf r_a0_rowOf (by omega) dX12_lead_200 (fun v109 hv109a hv109b => ?_)
                                      refine tu_iadd F dX12_lead_201 (by omega) (fun z110 hz110 => ?_)
                                      refine ld_64 F h m_GT r_GT (by omega) dX12_lead_202 (fun v111 => ?_)
                                      refine lv_l2i F.1 F.2.1 dX12_lead_203 rfl ?_
                                      refine lv_topi (fun z112 _ => ?_)
                                      refine st_82 F h m_o104 r_o104 (by omega) dX12_lead_204 (fun f113 H locs hf113 h => ?_)
                                      have hR : RBA GA f113 := hR.fm hf113 m_GA r_GA (by decide +kernel)
                                      have hX : GZ GP GL f113 := hX.fm hf113 m_GP r_GP m_GL r_GL (by decide +kernel) (by decide +kernel)
                                      have hLT : LT GT x2.toInt.toNat x3.toInt.toNat f113 := hLT.fm hf113 m_GT r_GT (by decide +kernel)
                                      have hRow : RO a0_rowOf (-1) (x7_51.toInt) (x3.toInt) f113 := hRow.fm hf113 m_a0_rowOf r_a0_rowOf (by decide +kernel)
                                      have hRB : RB GA 22410 f113 := hRB.fm hf113 m_GA r_GA (by decide +kernel)
                                      have hk : fr L R [(12, 1), (12, 28), (12, 29), (12, 35), (12, 36), (12, 37), (12, 38), (12, 39), (12, 54)] [12, 61, 68, 69, 70, 73, 74, 76, 81, 82] f0 f113 := hk.tr hf113 rfl rfl
                                      have hb173 : fr L R [] [82] f65 f113 := hb173.tr hf113 rfl rfl
                                      have e114 : fld f113 a0 0 = .ref GA := (hf113.efl m_a0 r_a0 rfl).trans e85
                                      have e115 : fld f113 a0 22 = .ref GP := (hf113.efl m_a0 r_a0 rfl).trans e86
                                      have e116 : fld f113 a0 23 = .ref GL := (hf113.efl m_a0 r_a0 rfl).trans e87
                                      have e117 : fld f113 a0 6 = .ref GT := (hf113.efl m_a0 r_a0 rfl).trans e88
                                      have e118 : fld f113 a0 52 = .ref a0_rowOf := (hf113.efl m_a0 r_a0 rfl).trans e89
                                      refine tu_iinc F dX12_lead_205 hl (k := 3) rfl (by decide) ki_1 (by omega) (fun z119 ls hz119 hl => ?_)
                                      have hl : lv_has ls 11 [(10, .int z119), (0, .ref a0), (2, .int x2), (7, .int x7_51)] := hl
                                      refine lv_goto (tgt := 173) F.1 F.2.1 dX12_lead_208 (by decide) ?_
                                      exact ih173 f113 _ _ _ z119 (by omega) (by omega) (by omega) h hR hX hLT hRow hRB hk hb173 (lv_sub hl [1, 2, 3, 0] rfl)
                                have hb173 : fr L R [] [82] f65 f65 := fr.rf
                                exact j_173 (((5 - z80.toInt)).toNat + 1) f65 _ _ _ z80 (by omega) (by omega) (by omega) h hR hX hLT hRow hRB hk hb173 (lv_sub hl [1, 3, 7, 0] rfl)
                              · refine lv_goto (tgt := 224) F.1 F.2.1 dX12_lead_167 (by decide) ?_
                                have tb6 := tb_i z31
                                refine tu_iinc F dX12_lead_224 hl (k := 7) rfl (by decide) ki_1 (by omega) (fun z120 ls hz120 hl => ?_)
                                have hl : lv_has ls 11 [(8, .int z120), (0, .ref a0), (1, .int x1), (2, .int x2), (3, .int x3), (4, .int x4), (6, .int z31), (7, .int x7_51), (10, .int x10_122)] := hl
                                refine lv_goto (tgt := 66) F.1 F.2.1 dX12_lead_227 (by decide) ?_
                                exact ih66 f65 _ _ _ z120 (by omega) (by omega) h hR hX hLT hk hb66 (lv_sub hl [1, 2, 3, 4, 5, 6, 7, 0] rfl)
                            · refine lv_aload_n F.1 F.2.1 dX12_lead_129 rfl (lv_at hl 0 rfl) ?_
                              refine lv_iload_n F.1 F.2.1 dX12_lead_130 rfl (lv_at hl 2 rfl) ?_
                              refine lv_aload_n F.1 F.2.1 dX12_lead_131 rfl (lv_at hl 0 rfl) ?_
                              refine g_12_93 F h m_a0 r_a0 dX12_lead_132 (fun o121 m_o121 r_o121 ho121 => ?_)
                              obtain rfl := (fld_inj e73 ho121).symm
                              refine lv_iload F.1 F.2.1 dX12_lead_135 (lv_at hl 8 rfl) ?_
                              refine le_81 F h m_a0_rowOf r_a0_rowOf (by omega) dX12_lead_137 (fun v122 ev122 hv122a hv122b => ?_)
                              have u137 := hRow x10_122.toInt.toNat (by omega) (by omega)
                              refine tw_Vv (As := [.int x2, .int v122]) F hZ h yk_X12_hearsOf mw_1191 mw_1192 mw_1193 (s_X12_hearsOf l D cy L R O f65 a0 m_a0 r_a0 x2 ⟨by omega, by omega⟩ v122 ⟨by omega, by omega⟩ GA m_GA r_GA e69 GP m_GP r_GP e70 GL m_GL r_GL e71 GT m_GT r_GT e72 (hLT _ (by omega))) rfl rfl m_a0 r_a0 (fun e q => (T_12 e).mp q) rfl hl.1 rfl (Nat.le_of_ble_eq_true rfl) ⟨Nat.le_of_ble_eq_true rfl, Nat.le_of_ble_eq_true rfl⟩ ⟨Nat.le_of_ble_eq_true rfl, Nat.le_of_ble_eq_true rfl⟩ dX12_lead_138 (fun f123 H locs hp123 h => ?_)
                              have hf123 := hp123
                              have hR : RBA GA f123 := hR.fm hf123 m_GA r_GA (by decide +kernel)
                              have hX : GZ GP GL f123 := hX.fm hf123 m_GP r_GP m_GL r_GL (by decide +kernel) (by decide +kernel)
                              have hLT : LT GT x2.toInt.toNat x3.toInt.toNat f123 := hLT.fm hf123 m_GT r_GT (by decide +kernel)
                              have hRow : RO a0_rowOf (-1) (x7_51.toInt) (x3.toInt) f123 := hRow.fm hf123 m_a0_rowOf r_a0_rowOf (by decide +kernel)
                              have hRB : RB GA 22410 f123 := hRB.fm hf123 m_GA r_GA (by decide +kernel)
                              have hk : fr L R [(12, 1), (12, 28), (12, 29), (12, 35), (12, 36), (12, 37), (12, 38), (12, 39), (12, 54)] [12, 61, 68, 69, 70, 73, 74, 76, 81, 82] f0 f123 := hk.tr hf123 rfl rfl
                              have hb51 : fr L R [(12, 28), (12, 29), (12, 35), (12, 36), (12, 37), (12, 38), (12, 39)] [12, 61, 68, 69, 70, 73, 74, 76, 81] f0 f123 := hb51.tr hf123 rfl rfl
                              have hb66 : fr L R [(12, 28), (12, 29), (12, 35), (12, 36), (12, 37), (12, 38), (12, 39)] [12, 61, 68, 69, 70, 73, 74, 76, 81] f12 f123 := hb66.tr hf123 rfl rfl
                              have hb122 : fr L R [(12, 28), (12, 29), (12, 35), (12, 36), (12, 37), (12, 38), (12, 39)] [12, 61, 68, 69, 70, 73, 74, 76] f57 f123 := hb122.tr hf123 rfl rfl
                              have e125 : fld f123 a0 0 = .ref GA := (hf123.efl m_a0 r_a0 rfl).trans e69
                              have e126 : fld f123 a0 22 = .ref GP := (hf123.efl m_a0 r_a0 rfl).trans e70
                              have e127 : fld f123 a0 23 = .ref GL := (hf123.efl m_a0 r_a0 rfl).trans e71
                              have e128 : fld f123 a0 6 = .ref GT := (hf123.efl m_a0 r_a0 rfl).trans e72
                              have e129 : fld f123 a0 52 = .ref a0_rowOf := (hf123.efl m_a0 r_a0 rfl).trans e73
                              refine lv_aload_n F.1 F.2.1 dX12_lead_141 rfl (lv_at hl 0 rfl) ?_
                              refine tw_sipush F dX12_lead_142 ks_22410 (fun z130 hz130 => ?_)
                              refine tw_Vv (As := [.int z130]) F hZ h yk_X12_answers0 mw_1057 mw_1058 mw_1059 (s_X12_answers0 l D cy L R O f123 a0 m_a0 r_a0 z130 ⟨by omega, by omega⟩ GA m_GA r_GA e125 GP m_GP r_GP e126 GL m_GL r_GL e127 GT m_GT r_GT e128 (isB_e isB_w (by omega)) (by rw [show z130.toInt.toNat = 22410 by omega]; exact hRB) hX) rfl rfl m_a0 r_a0 (fun e q => (T_12 e).mp q) rfl hl.1 rfl (Nat.le_of_ble_eq_true rfl) ⟨Nat.le_of_ble_eq_true rfl, Nat.le_of_ble_eq_true rfl⟩ ⟨Nat.le_of_ble_eq_true rfl, Nat.le_of_ble_eq_true rfl⟩ dX12_lead_145 (fun f131 H locs hp131 h => ?_)
                              obtain ⟨hf131, hv132p0, hv132p1⟩ := hp131
                              have hR : RBA GA f131 := hR.kw hv132p1 (Or.inl (by omega))
                              have hX : GZ GP GL f131 := hv132p0
                              have hLT : LT GT x2.toInt.toNat x3.toInt.toNat f131 := hLT.fm hf131 m_GT r_GT (by decide +kernel)
                              have hRow : RO a0_rowOf (-1) (x7_51.toInt) (x3.toInt) f131 := hRow.fm hf131 m_a0_rowOf r_a0_rowOf (by decide +kernel)
                              have hRB : RB GA 22410 f131 := hRB.kw hv132p1 (by omega)
                              have hk : fr L R [(12, 1), (12, 28), (12, 29), (12, 35), (12, 36), (12, 37), (12, 38), (12, 39), (12, 54)] [12, 61, 68, 69, 70, 73, 74, 76, 81, 82] f0 f131 := hk.tr hf131 (by decide +kernel) (by decide +kernel)
                              have hb51 : fr L R [(12, 28), (12, 29), (12, 35), (12, 36), (12, 37), (12, 38), (12, 39)] [12, 61, 68, 69, 70, 73, 74, 76, 81] f0 f131 := hb51.tr hf131 (by decide +kernel) (by decide +kernel)
                              have hb66 : fr L R [(12, 28), (12, 29), (12, 35), (12, 36), (12, 37), (12, 38), (12, 39)] [12, 61, 68, 69, 70, 73, 74, 76, 81] f12 f131 := hb66.tr hf131 (by decide +kernel) (by decide +kernel)
                              have hb122 : fr L R [(12, 28), (12, 29), (12, 35), (12, 36), (12, 37), (12, 38), (12, 39)] [12, 61, 68, 69, 70, 73, 74, 76] f57 f131 := hb122.tr hf131 (by decide +kernel) (by decide +kernel)
                              have e133 : fld f131 a0 0 = .ref GA := (hf131.efl m_a0 r_a0 rfl).trans e125
                              have e134 : fld f131 a0 22 = .ref GP := (hf131.efl m_a0 r_a0 rfl).trans e126
                              have e135 : fld f131 a0 23 = .ref GL := (hf131.efl m_a0 r_a0 rfl).trans e127
                              have e136 : fld f131 a0 6 = .ref GT := (hf131.efl m_a0 r_a0 rfl).trans e128
                              have e137 : fld f131 a0 52 = .ref a0_rowOf := (hf131.efl m_a0 r_a0 rfl).trans e129
                              refine tu_iinc F dX12_lead_148 hl (k := 8) rfl (by decide) ki_1 (by omega) (fun z138 ls hz138 hl => ?_)
                              have hl : lv_has ls 11 [(10, .int z138), (0, .ref a0), (1, .int x1), (2, .int x2), (3, .int x3), (4, .int x4), (6, .int z31), (7, .int x7_51), (8, .int x8_66)] := hl
                              refine lv_goto (tgt := 122) F.1 F.2.1 dX12_lead_151 (by decide) ?_
                              exact ih122 f131 _ _ _ z138 (by omega) (by omega) (by omega) h hR hX hLT hRow hRB hk hb122 (lv_sub hl [1, 2, 3, 4, 5, 6, 7, 8, 0] rfl)
                        have hb122 : fr L R [(12, 28), (12, 29), (12, 35), (12, 36), (12, 37), (12, 38), (12, 39)] [12, 61, 68, 69, 70, 73, 74, 76] f57 f57 := fr.rf
                        exact j_122 (((5 - z64.toInt)).toNat + 1) f57 _ _ _ z64 (by omega) (by omega) (by omega) h hR hX hLT hRow hRB hk hb122 (lv_sub hl [1, 2, 3, 4, 5, 6, 7, 8, 0] rfl)
                      · refine lv_aload_n F.1 F.2.1 dX12_lead_88 rfl (lv_at hl 0 rfl) ?_
                        refine g_12_93 F h m_a0 r_a0 dX12_lead_89 (fun o139 m_o139 r_o139 ho139 => ?_)
                        obtain rfl := (fld_inj e54 ho139).symm
                        refine lv_iload F.1 F.2.1 dX12_lead_92 (lv_at hl 9 rfl) ?_
                        refine lv_iload F.1 F.2.1 dX12_lead_94 (lv_at hl 8 rfl) ?_
                        refine lv_iload_n F.1 F.2.1 dX12_lead_96 rfl (lv_at hl 3 rfl) ?_
                        refine tu_irem F dX12_lead_97 (by omega) (fun z140 hz140a hz140b => ?_)
                        refine se_81 F h m_a0_rowOf r_a0_rowOf (by omega) (by omega) dX12_lead_98 (fun f141 H locs e141a e141b hf141 h => ?_)
                        have hR : RBA GA f141 := hR.fm hf141 m_GA r_GA (by decide +kernel)
                        have hX : GZ GP GL f141 := hX.fm hf141 m_GP r_GP m_GL r_GL (by decide +kernel) (by decide +kernel)
                        have hLT : LT GT x2.toInt.toNat x3.toInt.toNat f141 := hLT.fm hf141 m_GT r_GT (by decide +kernel)
                        have hk : fr L R [(12, 1), (12, 28), (12, 29), (12, 35), (12, 36), (12, 37), (12, 38), (12, 39), (12, 54)] [12, 61, 68, 69, 70, 73, 74, 76, 81, 82] f0 f141 := hk.tr hf141 rfl rfl
                        have hb51 : fr L R [(12, 28), (12, 29), (12, 35), (12, 36), (12, 37), (12, 38), (12, 39)] [12, 61, 68, 69, 70, 73, 74, 76, 81] f0 f141 := hb51.tr hf141 rfl rfl
                        have hb66 : fr L R [(12, 28), (12, 29), (12, 35), (12, 36), (12, 37), (12, 38), (12, 39)] [12, 61, 68, 69, 70, 73, 74, 76, 81] f12 f141 := hb66.tr hf141 rfl rfl
                        have hb83 : fr L R [] [81] f33 f141 := hb83.tr hf141 rfl rfl
                        have e142 : fld f141 a0 0 = .ref GA := (hf141.efl m_a0 r_a0 rfl).trans e50
                        have e143 : fld f141 a0 22 = .ref GP := (hf141.efl m_a0 r_a0 rfl).trans e51
                        have e144 : fld f141 a0 23 = .ref GL := (hf141.efl m_a0 r_a0 rfl).trans e52
                        have e145 : fld f141 a0 6 = .ref GT := (hf141.efl m_a0 r_a0 rfl).trans e53
                        have e146 : fld f141 a0 52 = .ref a0_rowOf := (hf141.efl m_a0 r_a0 rfl).trans e54
                        refine lv_iload F.1 F.2.1 dX12_lead_99 (lv_at hl 8 rfl) ?_
                        refine lv_iload_n F.1 F.2.1 dX12_lead_101 rfl (lv_at hl 3 rfl) ?_
                        refine tu_idiv F dX12_lead_102 (by omega) (fun z147 hz147a hz147b => ?_)
                        refine lv_istore (lv' := [(9, .int z147), (0, .ref a0), (1, .int x1), (2, .int x2), (3, .int x3), (4, .int x4), (6, .int z31), (7, .int x7_51), (8, .int x8_66), (10, .int x10_83)]) F.1 F.2.1 dX12_lead_103 hl (by decide) rfl (fun ls hl => ?_)
                        refine tu_iinc F dX12_lead_105 hl (k := 9) rfl (by decide) ki_m1 (by omega) (fun z148 ls hz148 hl => ?_)
                        have hl : lv_has ls 11 [(10, .int z148), (9, .int z147), (0, .ref a0), (1, .int x1), (2, .int x2), (3, .int x3), (4, .int x4), (6, .int z31), (7, .int x7_51), (8, .int x8_66)] := hl
                        refine lv_goto (tgt := 83) F.1 F.2.1 dX12_lead_108 (by decide) ?_
                        exact ih83 f141 _ _ _ z147 z148 (by omega) (by omega) (by omega) (ip83_0.st e141a (by omega) (by omega) (by omega)) (by omega) h hR hX hLT hk hb83 (lv_sub hl [2, 3, 4, 5, 6, 7, 8, 9, 1, 0] rfl)
                  have hb83 : fr L R [] [81] f33 f33 := fr.rf
                  exact j_83 (((z44.toInt - (-1))).toNat + 1) f33 _ _ _ x8_66 z44 (by omega) (by omega) (by omega) (fun q h1 h2 => absurd h2 (by omega)) (by omega) h hR hX hLT hk hb83 (lv_sub hl [2, 3, 4, 5, 6, 7, 8, 9, 1, 0] rfl)
            have hb66 : fr L R [(12, 28), (12, 29), (12, 35), (12, 36), (12, 37), (12, 38), (12, 39)] [12, 61, 68, 69, 70, 73, 74, 76, 81] f12 f12 := fr.rf
            exact j_66 (((2147483647 - z32.toInt)).toNat + 1) f12 _ _ _ z32 (by omega) (by omega) h hR hX hLT hk hb66 (lv_sub hl [2, 3, 4, 5, 6, 1, 7, 0] rfl)
      have hb51 : fr L R [(12, 28), (12, 29), (12, 35), (12, 36), (12, 37), (12, 38), (12, 39)] [12, 61, 68, 69, 70, 73, 74, 76, 81] f0 f0 := fr.rf
      exact j_51 (((6 - z11.toInt)).toNat + 1) f0 _ _ _ z10 z11 (by omega) (by omega) (by omega) h hR hX hLT hk hb51 (lv_sub hl [3, 4, 5, 6, 7, 1, 0] rfl)
    · refine lv_aload_n F.1 F.2.1 dX12_lead_38 rfl (lv_at hl 1 rfl) ?_
      refine lv_iload F.1 F.2.1 dX12_lead_39 (lv_at hl 0 rfl) ?_
      refine tw_Vi (As := [.int v8]) F hZ h yk_X12_refuse mw_452 mw_453 mw_454 (s_X12_refuse l D cy L R O f0 a0 m_a0 r_a0 v8 ⟨by omega, by omega⟩) rfl rfl m_a0 r_a0 (fun e q => (T_12 e).mp q) rfl hl.1 rfl (Nat.le_of_ble_eq_true rfl) ⟨Nat.le_of_ble_eq_true rfl, Nat.le_of_ble_eq_true rfl⟩ ⟨Nat.le_of_ble_eq_true rfl, Nat.le_of_ble_eq_true rfl⟩ dX12_lead_41 (fun v150 f149 H locs hp149 h => ?_)
      obtain ⟨hf149, hv150a, hv150b⟩ := hp149
      have hR : RBA GA f149 := hR.fm hf149 m_GA r_GA (by decide +kernel)
      have hX : GZ GP GL f149 := hX.fm hf149 m_GP r_GP m_GL r_GL (by decide +kernel) (by decide +kernel)
      have hk : fr L R [(12, 1), (12, 28), (12, 29), (12, 35), (12, 36), (12, 37), (12, 38), (12, 39), (12, 54)] [12, 61, 68, 69, 70, 73, 74, 76, 81, 82] f0 f149 := hk.tr hf149 rfl rfl
      have e151 : fld f149 a0 0 = .ref GA := (hf149.efl m_a0 r_a0 rfl).trans t_GA
      have e152 : fld f149 a0 22 = .ref GP := (hf149.efl m_a0 r_a0 rfl).trans t_GP
      have e153 : fld f149 a0 23 = .ref GL := (hf149.efl m_a0 r_a0 rfl).trans t_GL
      have e154 : fld f149 a0 6 = .ref GT := (hf149.efl m_a0 r_a0 rfl).trans t_GT
      have e155 : fld f149 a0 52 = .ref a0_rowOf := (hf149.efl m_a0 r_a0 rfl).trans t_a0_rowOf
      exact hret f149 _ _ _ _ v150 dX12_lead_44 rfl ⟨hk, hR, hX⟩ h
  have j_23 : ∀ (H : Heap) (locs : List Loc) (ls : Array Slot), tS D cy A s.heap L R (TT cy L R) f0 s H locs → lv_has ls 11 [(0, .ref a0), (1, .int x1), (2, .int x2), (3, .int x3), (4, .int x4)] → W p l e rm_X12_lead s m args below meth c H locs 0 0 Q (F0 m 23 ls [.ref a0]) := by
    intro H locs ls h hl
    refine tw_iconst F dX12_lead_23 ki_0 (fun z156 hz156 => ?_)
    exact j_24 _ _ _ z156 (by omega) (by omega) (by omega) h (lv_sub hl [0, 1, 2, 3, 4] rfl)
  refine tw_if_eq (tgt := 23) F dX12_lead_6 (by decide) (fun b157 => ?_) (fun b157 => ?_)
  · exact j_23 _ _ _ h (lv_sub hl [0, 1, 2, 3, 4] rfl)
  · refine lv_aload_n F.1 F.2.1 dX12_lead_9 rfl (lv_at hl 0 rfl) ?_
    refine lv_iload F.1 F.2.1 dX12_lead_10 (lv_at hl 4 rfl) ?_
    refine tu_i2l F dX12_lead_12 (fun z158 hz158 hz158a hz158b => ?_)
    refine tw_Vi (As := [.long z158]) F hZ h yk_X12_isLine mw_797 mw_798 mw_799 (s_X12_isLine l D cy L R O f0 a0 m_a0 r_a0 z158) rfl rfl m_a0 r_a0 (fun e q => (T_12 e).mp q) rfl hl.1 rfl (Nat.le_of_ble_eq_true rfl) ⟨Nat.le_of_ble_eq_true rfl, Nat.le_of_ble_eq_true rfl⟩ ⟨Nat.le_of_ble_eq_true rfl, Nat.le_of_ble_eq_true rfl⟩ dX12_lead_13 (fun v160 f159 H locs hp159 h => ?_)
    obtain ⟨rfl, hv160a, hv160b, hv160p0⟩ := hp159
    refine tw_if_eq (tgt := 23) F dX12_lead_16 (by decide) (fun b161 => ?_) (fun b161 => ?_)
    · exact j_23 _ _ _ h (lv_sub hl [0, 1, 2, 3, 4] rfl)
    · refine tw_iconst F dX12_lead_19 ki_1 (fun z162 hz162 => ?_)
      refine lv_goto (tgt := 24) F.1 F.2.1 dX12_lead_20 (by decide) ?_
      exact j_24 _ _ _ z162 (by omega) (by omega) (by omega) h (lv_sub hl [0, 1, 2, 3, 4] rfl)
