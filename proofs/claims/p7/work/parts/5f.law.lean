theorem dL_law_1756 : decode cL_law 1756 = .ok (.iinc 3 6, 3) := by decide +kernel
theorem dL_law_1759 : decode cL_law 1759 = .ok (.goto (-1741), 3) := by decide +kernel
theorem dL_law_18 : decode cL_law 18 = .ok (.iload_n 3, 1) := by decide +kernel
theorem dL_law_19 : decode cL_law 19 = .ok (.aload_n 0, 1) := by decide +kernel
theorem dL_law_20 : decode cL_law 20 = .ok (.arraylength, 1) := by decide +kernel
theorem dL_law_21 : decode cL_law 21 = .ok (.bipush 6, 2) := by decide +kernel
theorem dL_law_23 : decode cL_law 23 = .ok (.isub, 1) := by decide +kernel
theorem dL_law_24 : decode cL_law 24 = .ok (.if_icmp .gt 1738, 3) := by decide +kernel
theorem dL_law_1762 : decode cL_law 1762 = .ok (.iconst 1, 1) := by decide +kernel
theorem dL_law_1763 : decode cL_law 1763 = .ok (.ireturn, 1) := by decide +kernel
theorem dL_law_27 : decode cL_law 27 = .ok (.aload_n 0, 1) := by decide +kernel
theorem dL_law_28 : decode cL_law 28 = .ok (.iload_n 3, 1) := by decide +kernel
theorem dL_law_29 : decode cL_law 29 = .ok (.iaload, 1) := by decide +kernel
theorem dL_law_30 : decode cL_law 30 = .ok (.bipush 63, 2) := by decide +kernel
theorem dL_law_32 : decode cL_law 32 = .ok (.iand, 1) := by decide +kernel
theorem dL_law_33 : decode cL_law 33 = .ok (.tableswitch 1723 0 42 #[187, 200, 213, 226, 269, 342, 376, 439, 502, 525, 558, 581, 604, 637, 670, 713, 756, 789, 852, 875, 908, 931, 954, 997, 1040, 1073, 1126, 1149, 1202, 1225, 1318, 1361, 1414, 1437, 1460, 1483, 1526, 1539, 1562, 1595, 1644, 1697, 1710], 187) := by decide +kernel
set_option maxHeartbeats 4000000 in
set_option maxRecDepth 100000 in
theorem law_loopN {p : Program} {l : Launch} {e : Env} {s : State} {m : MethodId} {below : List Frame} {meth : Method} {c : Code} {D : va_G} {cy : Nat → ClassId} {A : Nat → Prop} {L : List Nat} {R O P : Nat → Nat} {b N cs sl q rr GA GP GL GT : Nat} {xs : Nat → Int32} (F : CallFix p m c cL_law 4 s #[Value.ref b] wsL_law RL) (hZ : tZ A s s.heap) (hX0 : va_X b N xs s s.heap) (hbl : b < s.heap.size) (hbA : ¬ A b) (hcs : cs ≤ room_1.cells) (hsl : sl ≤ room_1.slots) (hr : meth.sig.returnType = ret) (hlocks : meth.locks = false) (hAs : ∀ q, A q → s.heap.size ≤ q) (hN : N ≤ 3072) (m_q : q ∈ L) (r_q : R q = 11) (m_rr : rr ∈ L) (r_rr : R rr = 12) (m_GA : GA ∈ L) (r_GA : R GA = 61) (m_GP : GP ∈ L) (r_GP : R GP = 69) (m_GL : GL ∈ L) (r_GL : R GL = 70) (m_GT : GT ∈ L) (r_GT : R GT = 64) (pst : Nat) (m_pst : pst ∈ L) (r_pst : R pst = 2) : ∀ (n : Nat) (i : Int32) (f0 : Nat → va_E) (H : Heap) (locs : List Loc) (ls : Array Slot), 0 ≤ i.toInt → i.toInt ≤ 3072 → (3072 - i.toInt).toNat < n → LWS D cy A s L R O P q rr GA GP GL GT (.ref pst) f0 H locs → lv_has ls 4 [(3, .int i), (2, .ref rr), (1, .ref q), (0, .ref b)] → W p l e room_1 s m #[Value.ref b] below meth c H locs cs sl (lw_Z below #[Value.ref b] s) (F0 m 18 ls []) := by
  intro n
  induction n with
  | zero =>
    intro i f0 H locs ls b1 b2 b3
    omega
  | succ n ih =>
    intro i f0 H locs ls b1 b2 b3 hLS hl
    have h := hLS.1
    have hOf : (Int32.ofNat N).toInt = N := Int32.toInt_ofNat_of_lt (by omega)
    have hnx : ∀ (f1 : Nat → va_E) (H : Heap) (locs : List Loc) (ls : Array Slot), i.toInt + 6 ≤ 3072 → LWS D cy A s L R O P q rr GA GP GL GT (.ref pst) f1 H locs → lv_has ls 4 [(3, .int i), (2, .ref rr), (1, .ref q), (0, .ref b)] → W p l e room_1 s m #[Value.ref b] below meth c H locs cs sl (lw_Z below #[Value.ref b] s) (F0 m 1756 ls []) := by
      intro f1 H locs ls b4 hLS hl
      refine tu_iinc F dL_law_1756 hl (k := 0) rfl (by decide) ki_6 (by omega) (fun z ls hz hl => ?_)
      refine lv_goto (tgt := 18) F.1 F.2.1 dL_law_1759 (by decide) ?_
      exact ih z f1 H locs ls (by omega) (by omega) (by omega) hLS hl
    refine lv_iload_n F.1 F.2.1 dL_law_18 rfl (lv_at hl 0 rfl) ?_
    refine lv_aload_n F.1 F.2.1 dL_law_19 rfl (lv_at hl 3 rfl) ?_
    refine va_slen F.1 F.2.1 hX0 hbl hbA h.dd.2.2 dL_law_20 ?_
    refine tw_bipush F dL_law_21 kb_6 (fun z1 hz1 => ?_)
    refine tu_isub F dL_law_23 (by omega) (fun z2 hz2 => ?_)
    refine tw_icmp_gt (tgt := 1762) F dL_law_24 (by decide) (fun b4 => ?_) (fun b4 => ?_)
    · refine lv_iconst (v := 1) F.1 F.2.1 dL_law_1762 (by decide) ?_
      refine va_forget (fun q hq => hAs _ (h.dd.2.2.2.2 q hq)) ?_
      refine W.widen (k := 600000) (n := 7302250) hcs hsl ?_
      exact lw_ret F.1 F.2.1 hr hlocks dL_law_1763
    have bi : 0 ≤ i.toInt ∧ i.toInt + 6 ≤ N ∧ N ≤ 3072 := by omega
    refine lv_aload_n F.1 F.2.1 dL_law_27 rfl (lv_at hl 3 rfl) ?_
    refine lv_iload_n F.1 F.2.1 dL_law_28 rfl (lv_at hl 0 rfl) ?_
    refine va_sld F.1 F.2.1 hX0 hbl hbA h.dd.2.2 (tw_in (by omega) (by omega)) dL_law_29 ?_
    refine tw_bipush F dL_law_30 kb_63 (fun z3 hz3 => ?_)
    refine lv_iand F.1 F.2.1 dL_law_32 ?_
    refine lv_topi (fun z4 _ => ?_)
    by_cases q0 : z4.toInt = 0
    · refine lv_tableIn F.1 F.2.1 dL_law_33 (by omega) (by omega) (off := 187) (by rw [q0]; rfl) (tgt := 220) (by decide) ?_
      exact law_c0 F hZ hX0 hbl hbA hcs hsl i bi m_q r_q m_rr r_rr m_GA r_GA m_GP r_GP m_GL r_GL m_GT r_GT hLS hl (fun f1 H locs ls hh hl => hnx f1 H locs ls (by omega) hh hl)
    by_cases q1 : z4.toInt = 1
    · refine lv_tableIn F.1 F.2.1 dL_law_33 (by omega) (by omega) (off := 200) (by rw [q1]; rfl) (tgt := 233) (by decide) ?_
      exact law_c1 F hZ hX0 hbl hbA hcs hsl i bi m_q r_q m_rr r_rr m_GA r_GA m_GP r_GP m_GL r_GL m_GT r_GT hLS hl (fun f1 H locs ls hh hl => hnx f1 H locs ls (by omega) hh hl)
    by_cases q2 : z4.toInt = 2
    · refine lv_tableIn F.1 F.2.1 dL_law_33 (by omega) (by omega) (off := 213) (by rw [q2]; rfl) (tgt := 246) (by decide) ?_
      exact law_c2 F hZ hX0 hbl hbA hcs hsl i bi m_q r_q m_rr r_rr m_GA r_GA m_GP r_GP m_GL r_GL m_GT r_GT hLS hl (fun f1 H locs ls hh hl => hnx f1 H locs ls (by omega) hh hl)
    by_cases q3 : z4.toInt = 3
    · refine lv_tableIn F.1 F.2.1 dL_law_33 (by omega) (by omega) (off := 226) (by rw [q3]; rfl) (tgt := 259) (by decide) ?_
      exact law_c3 F hZ hX0 hbl hbA hcs hsl i bi m_q r_q m_rr r_rr m_GA r_GA m_GP r_GP m_GL r_GL m_GT r_GT hLS hl (fun f1 H locs ls hh hl => hnx f1 H locs ls (by omega) hh hl)
    by_cases q4 : z4.toInt = 4
    · refine lv_tableIn F.1 F.2.1 dL_law_33 (by omega) (by omega) (off := 269) (by rw [q4]; rfl) (tgt := 302) (by decide) ?_
      exact law_c4 F hZ hX0 hbl hbA hcs hsl i bi m_q r_q m_rr r_rr m_GA r_GA m_GP r_GP m_GL r_GL m_GT r_GT hLS hl (fun f1 H locs ls hh hl => hnx f1 H locs ls (by omega) hh hl)
    by_cases q5 : z4.toInt = 5
    · refine lv_tableIn F.1 F.2.1 dL_law_33 (by omega) (by omega) (off := 342) (by rw [q5]; rfl) (tgt := 375) (by decide) ?_
      exact law_c5 F hZ hX0 hbl hbA hcs hsl i bi m_q r_q m_rr r_rr m_GA r_GA m_GP r_GP m_GL r_GL m_GT r_GT hLS hl (fun f1 H locs ls hh hl => hnx f1 H locs ls (by omega) hh hl)
    by_cases q6 : z4.toInt = 6
    · refine lv_tableIn F.1 F.2.1 dL_law_33 (by omega) (by omega) (off := 376) (by rw [q6]; rfl) (tgt := 409) (by decide) ?_
      exact law_c6 F hZ hX0 hbl hbA hcs hsl i bi m_q r_q m_rr r_rr m_GA r_GA m_GP r_GP m_GL r_GL m_GT r_GT hLS hl (fun f1 H locs ls hh hl => hnx f1 H locs ls (by omega) hh hl)
    by_cases q7 : z4.toInt = 7
    · refine lv_tableIn F.1 F.2.1 dL_law_33 (by omega) (by omega) (off := 439) (by rw [q7]; rfl) (tgt := 472) (by decide) ?_
      exact law_c7 F hZ hX0 hbl hbA hcs hsl i bi m_q r_q m_rr r_rr m_GA r_GA m_GP r_GP m_GL r_GL m_GT r_GT hLS hl (fun f1 H locs ls hh hl => hnx f1 H locs ls (by omega) hh hl)
    by_cases q8 : z4.toInt = 8
    · refine lv_tableIn F.1 F.2.1 dL_law_33 (by omega) (by omega) (off := 502) (by rw [q8]; rfl) (tgt := 535) (by decide) ?_
      exact law_c8 F hZ hX0 hbl hbA hcs hsl i bi m_q r_q m_rr r_rr m_GA r_GA m_GP r_GP m_GL r_GL m_GT r_GT hLS hl (fun f1 H locs ls hh hl => hnx f1 H locs ls (by omega) hh hl)
    by_cases q9 : z4.toInt = 9
    · refine lv_tableIn F.1 F.2.1 dL_law_33 (by omega) (by omega) (off := 525) (by rw [q9]; rfl) (tgt := 558) (by decide) ?_
      exact law_c9 F hZ hX0 hbl hbA hcs hsl i bi m_q r_q m_rr r_rr m_GA r_GA m_GP r_GP m_GL r_GL m_GT r_GT hLS hl (fun f1 H locs ls hh hl => hnx f1 H locs ls (by omega) hh hl)
    by_cases q10 : z4.toInt = 10
    · refine lv_tableIn F.1 F.2.1 dL_law_33 (by omega) (by omega) (off := 558) (by rw [q10]; rfl) (tgt := 591) (by decide) ?_
      exact law_c10 F hZ hX0 hbl hbA hcs hsl i bi m_q r_q m_rr r_rr m_GA r_GA m_GP r_GP m_GL r_GL m_GT r_GT hLS hl (fun f1 H locs ls hh hl => hnx f1 H locs ls (by omega) hh hl)
    by_cases q11 : z4.toInt = 11
    · refine lv_tableIn F.1 F.2.1 dL_law_33 (by omega) (by omega) (off := 581) (by rw [q11]; rfl) (tgt := 614) (by decide) ?_
      exact law_c11 F hZ hX0 hbl hbA hcs hsl i bi m_q r_q m_rr r_rr m_GA r_GA m_GP r_GP m_GL r_GL m_GT r_GT hLS hl (fun f1 H locs ls hh hl => hnx f1 H locs ls (by omega) hh hl)
    by_cases q12 : z4.toInt = 12
    · refine lv_tableIn F.1 F.2.1 dL_law_33 (by omega) (by omega) (off := 604) (by rw [q12]; rfl) (tgt := 637) (by decide) ?_
      exact law_c12 F hZ hX0 hbl hbA hcs hsl i bi m_q r_q m_rr r_rr m_GA r_GA m_GP r_GP m_GL r_GL m_GT r_GT hLS hl (fun f1 H locs ls hh hl => hnx f1 H locs ls (by omega) hh hl)
    by_cases q13 : z4.toInt = 13
    · refine lv_tableIn F.1 F.2.1 dL_law_33 (by omega) (by omega) (off := 637) (by rw [q13]; rfl) (tgt := 670) (by decide) ?_
      exact law_c13 F hZ hX0 hbl hbA hcs hsl i bi m_q r_q m_rr r_rr m_GA r_GA m_GP r_GP m_GL r_GL m_GT r_GT hLS hl (fun f1 H locs ls hh hl => hnx f1 H locs ls (by omega) hh hl)
    by_cases q14 : z4.toInt = 14
    · refine lv_tableIn F.1 F.2.1 dL_law_33 (by omega) (by omega) (off := 670) (by rw [q14]; rfl) (tgt := 703) (by decide) ?_
      exact law_c14 F hZ hX0 hbl hbA hcs hsl i bi m_q r_q m_rr r_rr m_GA r_GA m_GP r_GP m_GL r_GL m_GT r_GT hLS hl (fun f1 H locs ls hh hl => hnx f1 H locs ls (by omega) hh hl)
    by_cases q15 : z4.toInt = 15
    · refine lv_tableIn F.1 F.2.1 dL_law_33 (by omega) (by omega) (off := 713) (by rw [q15]; rfl) (tgt := 746) (by decide) ?_
      exact law_c15 F hZ hX0 hbl hbA hcs hsl i bi m_q r_q m_rr r_rr m_GA r_GA m_GP r_GP m_GL r_GL m_GT r_GT hLS hl (fun f1 H locs ls hh hl => hnx f1 H locs ls (by omega) hh hl)
    by_cases q16 : z4.toInt = 16
    · refine lv_tableIn F.1 F.2.1 dL_law_33 (by omega) (by omega) (off := 756) (by rw [q16]; rfl) (tgt := 789) (by decide) ?_
      exact law_c16 F hZ hX0 hbl hbA hcs hsl i bi m_q r_q m_rr r_rr m_GA r_GA m_GP r_GP m_GL r_GL m_GT r_GT hLS hl (fun f1 H locs ls hh hl => hnx f1 H locs ls (by omega) hh hl)
    by_cases q17 : z4.toInt = 17
    · refine lv_tableIn F.1 F.2.1 dL_law_33 (by omega) (by omega) (off := 789) (by rw [q17]; rfl) (tgt := 822) (by decide) ?_
      exact law_c17 F hZ hX0 hbl hbA hcs hsl i bi m_q r_q m_rr r_rr m_GA r_GA m_GP r_GP m_GL r_GL m_GT r_GT hLS hl (fun f1 H locs ls hh hl => hnx f1 H locs ls (by omega) hh hl)
    by_cases q18 : z4.toInt = 18
    · refine lv_tableIn F.1 F.2.1 dL_law_33 (by omega) (by omega) (off := 852) (by rw [q18]; rfl) (tgt := 885) (by decide) ?_
      exact law_c18 F hZ hX0 hbl hbA hcs hsl i bi m_q r_q m_rr r_rr m_GA r_GA m_GP r_GP m_GL r_GL m_GT r_GT hLS hl (fun f1 H locs ls hh hl => hnx f1 H locs ls (by omega) hh hl)
    by_cases q19 : z4.toInt = 19
    · refine lv_tableIn F.1 F.2.1 dL_law_33 (by omega) (by omega) (off := 875) (by rw [q19]; rfl) (tgt := 908) (by decide) ?_
      exact law_c19 F hZ hX0 hbl hbA hcs hsl i bi m_q r_q m_rr r_rr m_GA r_GA m_GP r_GP m_GL r_GL m_GT r_GT hLS hl (fun f1 H locs ls hh hl => hnx f1 H locs ls (by omega) hh hl)
    by_cases q20 : z4.toInt = 20
    · refine lv_tableIn F.1 F.2.1 dL_law_33 (by omega) (by omega) (off := 908) (by rw [q20]; rfl) (tgt := 941) (by decide) ?_
      exact law_c20 F hZ hX0 hbl hbA hcs hsl i bi m_q r_q m_rr r_rr m_GA r_GA m_GP r_GP m_GL r_GL m_GT r_GT hLS hl (fun f1 H locs ls hh hl => hnx f1 H locs ls (by omega) hh hl)
    by_cases q21 : z4.toInt = 21
    · refine lv_tableIn F.1 F.2.1 dL_law_33 (by omega) (by omega) (off := 931) (by rw [q21]; rfl) (tgt := 964) (by decide) ?_
      exact law_c21 F hZ hX0 hbl hbA hcs hsl i bi m_q r_q m_rr r_rr m_GA r_GA m_GP r_GP m_GL r_GL m_GT r_GT hLS hl (fun f1 H locs ls hh hl => hnx f1 H locs ls (by omega) hh hl)
    by_cases q22 : z4.toInt = 22
    · refine lv_tableIn F.1 F.2.1 dL_law_33 (by omega) (by omega) (off := 954) (by rw [q22]; rfl) (tgt := 987) (by decide) ?_
      exact law_c22 F hZ hX0 hbl hbA hcs hsl i bi m_q r_q m_rr r_rr m_GA r_GA m_GP r_GP m_GL r_GL m_GT r_GT hLS hl (fun f1 H locs ls hh hl => hnx f1 H locs ls (by omega) hh hl)
    by_cases q23 : z4.toInt = 23
    · refine lv_tableIn F.1 F.2.1 dL_law_33 (by omega) (by omega) (off := 997) (by rw [q23]; rfl) (tgt := 1030) (by decide) ?_
      exact law_c23 F hZ hX0 hbl hbA hcs hsl i bi m_q r_q m_rr r_rr m_GA r_GA m_GP r_GP m_GL r_GL m_GT r_GT hLS hl (fun f1 H locs ls hh hl => hnx f1 H locs ls (by omega) hh hl)
    by_cases q24 : z4.toInt = 24
    · refine lv_tableIn F.1 F.2.1 dL_law_33 (by omega) (by omega) (off := 1040) (by rw [q24]; rfl) (tgt := 1073) (by decide) ?_
      exact law_c24 F hZ hX0 hbl hbA hcs hsl i bi m_q r_q m_rr r_rr m_GA r_GA m_GP r_GP m_GL r_GL m_GT r_GT hLS hl (fun f1 H locs ls hh hl => hnx f1 H locs ls (by omega) hh hl)
    by_cases q25 : z4.toInt = 25
    · refine lv_tableIn F.1 F.2.1 dL_law_33 (by omega) (by omega) (off := 1073) (by rw [q25]; rfl) (tgt := 1106) (by decide) ?_
      exact law_c25 F hZ hX0 hbl hbA hcs hsl i bi m_q r_q m_rr r_rr m_GA r_GA m_GP r_GP m_GL r_GL m_GT r_GT hLS hl (fun f1 H locs ls hh hl => hnx f1 H locs ls (by omega) hh hl)
    by_cases q26 : z4.toInt = 26
    · refine lv_tableIn F.1 F.2.1 dL_law_33 (by omega) (by omega) (off := 1126) (by rw [q26]; rfl) (tgt := 1159) (by decide) ?_
      exact law_c26 F hZ hX0 hbl hbA hcs hsl i bi m_q r_q m_rr r_rr m_GA r_GA m_GP r_GP m_GL r_GL m_GT r_GT hLS hl (fun f1 H locs ls hh hl => hnx f1 H locs ls (by omega) hh hl)
    by_cases q27 : z4.toInt = 27
    · refine lv_tableIn F.1 F.2.1 dL_law_33 (by omega) (by omega) (off := 1149) (by rw [q27]; rfl) (tgt := 1182) (by decide) ?_
      exact law_c27N F hZ hX0 hbl hbA hcs hsl i bi m_q r_q m_rr r_rr m_GA r_GA m_GP r_GP m_GL r_GL m_GT r_GT hLS pst m_pst r_pst rfl hl (fun f1 H locs ls hh hl => hnx f1 H locs ls (by omega) hh hl)
    by_cases q28 : z4.toInt = 28
    · refine lv_tableIn F.1 F.2.1 dL_law_33 (by omega) (by omega) (off := 1202) (by rw [q28]; rfl) (tgt := 1235) (by decide) ?_
      exact law_c28 F hZ hX0 hbl hbA hcs hsl i bi m_q r_q m_rr r_rr m_GA r_GA m_GP r_GP m_GL r_GL m_GT r_GT hLS hl (fun f1 H locs ls hh hl => hnx f1 H locs ls (by omega) hh hl)
    by_cases q29 : z4.toInt = 29
    · refine lv_tableIn F.1 F.2.1 dL_law_33 (by omega) (by omega) (off := 1225) (by rw [q29]; rfl) (tgt := 1258) (by decide) ?_
      exact law_c29 F hZ hX0 hbl hbA hcs hsl i bi m_q r_q m_rr r_rr m_GA r_GA m_GP r_GP m_GL r_GL m_GT r_GT hLS hl (fun f1 H locs ls hh hl => hnx f1 H locs ls (by omega) hh hl)
    by_cases q30 : z4.toInt = 30
    · refine lv_tableIn F.1 F.2.1 dL_law_33 (by omega) (by omega) (off := 1318) (by rw [q30]; rfl) (tgt := 1351) (by decide) ?_
      exact law_c30 F hZ hX0 hbl hbA hcs hsl i bi m_q r_q m_rr r_rr m_GA r_GA m_GP r_GP m_GL r_GL m_GT r_GT hLS hl (fun f1 H locs ls hh hl => hnx f1 H locs ls (by omega) hh hl)
    by_cases q31 : z4.toInt = 31
    · refine lv_tableIn F.1 F.2.1 dL_law_33 (by omega) (by omega) (off := 1361) (by rw [q31]; rfl) (tgt := 1394) (by decide) ?_
      exact law_c31 F hZ hX0 hbl hbA hcs hsl i bi m_q r_q m_rr r_rr m_GA r_GA m_GP r_GP m_GL r_GL m_GT r_GT hLS hl (fun f1 H locs ls hh hl => hnx f1 H locs ls (by omega) hh hl)
    by_cases q32 : z4.toInt = 32
    · refine lv_tableIn F.1 F.2.1 dL_law_33 (by omega) (by omega) (off := 1414) (by rw [q32]; rfl) (tgt := 1447) (by decide) ?_
      exact law_c32 F hZ hX0 hbl hbA hcs hsl i bi m_q r_q m_rr r_rr m_GA r_GA m_GP r_GP m_GL r_GL m_GT r_GT hLS hl (fun f1 H locs ls hh hl => hnx f1 H locs ls (by omega) hh hl)
    by_cases q33 : z4.toInt = 33
    · refine lv_tableIn F.1 F.2.1 dL_law_33 (by omega) (by omega) (off := 1437) (by rw [q33]; rfl) (tgt := 1470) (by decide) ?_
      exact law_c33 F hZ hX0 hbl hbA hcs hsl i bi m_q r_q m_rr r_rr m_GA r_GA m_GP r_GP m_GL r_GL m_GT r_GT hLS hl (fun f1 H locs ls hh hl => hnx f1 H locs ls (by omega) hh hl)
    by_cases q34 : z4.toInt = 34
    · refine lv_tableIn F.1 F.2.1 dL_law_33 (by omega) (by omega) (off := 1460) (by rw [q34]; rfl) (tgt := 1493) (by decide) ?_
      exact law_c34 F hZ hX0 hbl hbA hcs hsl i bi m_q r_q m_rr r_rr m_GA r_GA m_GP r_GP m_GL r_GL m_GT r_GT hLS hl (fun f1 H locs ls hh hl => hnx f1 H locs ls (by omega) hh hl)
    by_cases q35 : z4.toInt = 35
    · refine lv_tableIn F.1 F.2.1 dL_law_33 (by omega) (by omega) (off := 1483) (by rw [q35]; rfl) (tgt := 1516) (by decide) ?_
      exact law_c35 F hZ hX0 hbl hbA hcs hsl i bi m_q r_q m_rr r_rr m_GA r_GA m_GP r_GP m_GL r_GL m_GT r_GT hLS hl (fun f1 H locs ls hh hl => hnx f1 H locs ls (by omega) hh hl)
    by_cases q36 : z4.toInt = 36
    · refine lv_tableIn F.1 F.2.1 dL_law_33 (by omega) (by omega) (off := 1526) (by rw [q36]; rfl) (tgt := 1559) (by decide) ?_
      exact law_c36 F hZ hX0 hbl hbA hcs hsl i bi m_q r_q m_rr r_rr m_GA r_GA m_GP r_GP m_GL r_GL m_GT r_GT hLS hl (fun f1 H locs ls hh hl => hnx f1 H locs ls (by omega) hh hl)
    by_cases q37 : z4.toInt = 37
    · refine lv_tableIn F.1 F.2.1 dL_law_33 (by omega) (by omega) (off := 1539) (by rw [q37]; rfl) (tgt := 1572) (by decide) ?_
      exact law_c37 F hZ hX0 hbl hbA hcs hsl i bi m_q r_q m_rr r_rr m_GA r_GA m_GP r_GP m_GL r_GL m_GT r_GT hLS hl (fun f1 H locs ls hh hl => hnx f1 H locs ls (by omega) hh hl)
    by_cases q38 : z4.toInt = 38
    · refine lv_tableIn F.1 F.2.1 dL_law_33 (by omega) (by omega) (off := 1562) (by rw [q38]; rfl) (tgt := 1595) (by decide) ?_
      exact law_c38 F hZ hX0 hbl hbA hcs hsl i bi m_q r_q m_rr r_rr m_GA r_GA m_GP r_GP m_GL r_GL m_GT r_GT hLS hl (fun f1 H locs ls hh hl => hnx f1 H locs ls (by omega) hh hl)
    by_cases q39 : z4.toInt = 39
    · refine lv_tableIn F.1 F.2.1 dL_law_33 (by omega) (by omega) (off := 1595) (by rw [q39]; rfl) (tgt := 1628) (by decide) ?_
      exact law_c39 F hZ hX0 hbl hbA hcs hsl i bi m_q r_q m_rr r_rr m_GA r_GA m_GP r_GP m_GL r_GL m_GT r_GT hLS hl (fun f1 H locs ls hh hl => hnx f1 H locs ls (by omega) hh hl)
    by_cases q40 : z4.toInt = 40
    · refine lv_tableIn F.1 F.2.1 dL_law_33 (by omega) (by omega) (off := 1644) (by rw [q40]; rfl) (tgt := 1677) (by decide) ?_
      exact law_c40 F hZ hX0 hbl hbA hcs hsl i bi m_q r_q m_rr r_rr m_GA r_GA m_GP r_GP m_GL r_GL m_GT r_GT hLS hl (fun f1 H locs ls hh hl => hnx f1 H locs ls (by omega) hh hl)
    by_cases q41 : z4.toInt = 41
    · refine lv_tableIn F.1 F.2.1 dL_law_33 (by omega) (by omega) (off := 1697) (by rw [q41]; rfl) (tgt := 1730) (by decide) ?_
      exact law_c41 F hZ hX0 hbl hbA hcs hsl i bi m_q r_q m_rr r_rr m_GA r_GA m_GP r_GP m_GL r_GL m_GT r_GT hLS hl (fun f1 H locs ls hh hl => hnx f1 H locs ls (by omega) hh hl)
    by_cases q42 : z4.toInt = 42
    · refine lv_tableIn F.1 F.2.1 dL_law_33 (by omega) (by omega) (off := 1710) (by rw [q42]; rfl) (tgt := 1743) (by decide) ?_
      exact law_c42 F hZ hX0 hbl hbA hcs hsl i bi m_q r_q m_rr r_rr m_GA r_GA m_GP r_GP m_GL r_GL m_GT r_GT hLS hl (fun f1 H locs ls hh hl => hnx f1 H locs ls (by omega) hh hl)
    refine lv_tableOut F.1 F.2.1 dL_law_33 (by omega) (tgt := 1756) (by decide) ?_
    exact hnx f0 H locs ls (by omega) hLS hl
set_option maxHeartbeats 4000000 in
set_option maxRecDepth 100000 in
theorem law_loop0 {p : Program} {l : Launch} {e : Env} {s : State} {m : MethodId} {below : List Frame} {meth : Method} {c : Code} {D : va_G} {cy : Nat → ClassId} {A : Nat → Prop} {L : List Nat} {R O P : Nat → Nat} {b N cs sl q rr GA GP GL GT : Nat} {xs : Nat → Int32} (F : CallFix p m c cL_law 4 s #[Value.ref b] wsL_law RL) (hZ : tZ A s s.heap) (hX0 : va_X b N xs s s.heap) (hbl : b < s.heap.size) (hbA : ¬ A b) (hcs : cs ≤ room_1.cells) (hsl : sl ≤ room_1.slots) (hr : meth.sig.returnType = ret) (hlocks : meth.locks = false) (hAs : ∀ q, A q → s.heap.size ≤ q) (hN : N ≤ 3072) (m_q : q ∈ L) (r_q : R q = 11) (m_rr : rr ∈ L) (r_rr : R rr = 12) (m_GA : GA ∈ L) (r_GA : R GA = 61) (m_GP : GP ∈ L) (r_GP : R GP = 69) (m_GL : GL ∈ L) (r_GL : R GL = 70) (m_GT : GT ∈ L) (r_GT : R GT = 64) (hcs3 : cs + 3 ≤ room_1.cells) (hsl3 : sl + 34979 ≤ room_1.slots) : ∀ (n : Nat) (i : Int32) (f0 : Nat → va_E) (H : Heap) (locs : List Loc) (ls : Array Slot), 0 ≤ i.toInt → i.toInt ≤ 3072 → (3072 - i.toInt).toNat < n → LWS D cy A s L R O P q rr GA GP GL GT .null f0 H locs → lv_has ls 4 [(3, .int i), (2, .ref rr), (1, .ref q), (0, .ref b)] → W p l e room_1 s m #[Value.ref b] below meth c H locs cs sl (lw_Z below #[Value.ref b] s) (F0 m 18 ls []) := by
  intro n
  induction n with
  | zero =>
    intro i f0 H locs ls b1 b2 b3
    omega
  | succ n ih =>
    intro i f0 H locs ls b1 b2 b3 hLS hl
    have h := hLS.1
    have hOf : (Int32.ofNat N).toInt = N := Int32.toInt_ofNat_of_lt (by omega)
    have hnx : ∀ (f1 : Nat → va_E) (H : Heap) (locs : List Loc) (ls : Array Slot), i.toInt + 6 ≤ 3072 → LWS D cy A s L R O P q rr GA GP GL GT .null f1 H locs → lv_has ls 4 [(3, .int i), (2, .ref rr), (1, .ref q), (0, .ref b)] → W p l e room_1 s m #[Value.ref b] below meth c H locs cs sl (lw_Z below #[Value.ref b] s) (F0 m 1756 ls []) := by
      intro f1 H locs ls b4 hLS hl
      refine tu_iinc F dL_law_1756 hl (k := 0) rfl (by decide) ki_6 (by omega) (fun z ls hz hl => ?_)
      refine lv_goto (tgt := 18) F.1 F.2.1 dL_law_1759 (by decide) ?_
      exact ih z f1 H locs ls (by omega) (by omega) (by omega) hLS hl
    refine lv_iload_n F.1 F.2.1 dL_law_18 rfl (lv_at hl 0 rfl) ?_
    refine lv_aload_n F.1 F.2.1 dL_law_19 rfl (lv_at hl 3 rfl) ?_
    refine va_slen F.1 F.2.1 hX0 hbl hbA h.dd.2.2 dL_law_20 ?_
    refine tw_bipush F dL_law_21 kb_6 (fun z1 hz1 => ?_)
    refine tu_isub F dL_law_23 (by omega) (fun z2 hz2 => ?_)
    refine tw_icmp_gt (tgt := 1762) F dL_law_24 (by decide) (fun b4 => ?_) (fun b4 => ?_)
    · refine lv_iconst (v := 1) F.1 F.2.1 dL_law_1762 (by decide) ?_
      refine va_forget (fun q hq => hAs _ (h.dd.2.2.2.2 q hq)) ?_
      refine W.widen (k := 600000) (n := 7302250) hcs hsl ?_
      exact lw_ret F.1 F.2.1 hr hlocks dL_law_1763
    have bi : 0 ≤ i.toInt ∧ i.toInt + 6 ≤ N ∧ N ≤ 3072 := by omega
    refine lv_aload_n F.1 F.2.1 dL_law_27 rfl (lv_at hl 3 rfl) ?_
    refine lv_iload_n F.1 F.2.1 dL_law_28 rfl (lv_at hl 0 rfl) ?_
    refine va_sld F.1 F.2.1 hX0 hbl hbA h.dd.2.2 (tw_in (by omega) (by omega)) dL_law_29 ?_
    refine tw_bipush F dL_law_30 kb_63 (fun z3 hz3 => ?_)
    refine lv_iand F.1 F.2.1 dL_law_32 ?_
    refine lv_topi (fun z4 _ => ?_)
    by_cases q0 : z4.toInt = 0
    · refine lv_tableIn F.1 F.2.1 dL_law_33 (by omega) (by omega) (off := 187) (by rw [q0]; rfl) (tgt := 220) (by decide) ?_
      exact law_c0 F hZ hX0 hbl hbA hcs hsl i bi m_q r_q m_rr r_rr m_GA r_GA m_GP r_GP m_GL r_GL m_GT r_GT hLS hl (fun f1 H locs ls hh hl => hnx f1 H locs ls (by omega) hh hl)
    by_cases q1 : z4.toInt = 1
    · refine lv_tableIn F.1 F.2.1 dL_law_33 (by omega) (by omega) (off := 200) (by rw [q1]; rfl) (tgt := 233) (by decide) ?_
      exact law_c1 F hZ hX0 hbl hbA hcs hsl i bi m_q r_q m_rr r_rr m_GA r_GA m_GP r_GP m_GL r_GL m_GT r_GT hLS hl (fun f1 H locs ls hh hl => hnx f1 H locs ls (by omega) hh hl)
    by_cases q2 : z4.toInt = 2
    · refine lv_tableIn F.1 F.2.1 dL_law_33 (by omega) (by omega) (off := 213) (by rw [q2]; rfl) (tgt := 246) (by decide) ?_
      exact law_c2 F hZ hX0 hbl hbA hcs hsl i bi m_q r_q m_rr r_rr m_GA r_GA m_GP r_GP m_GL r_GL m_GT r_GT hLS hl (fun f1 H locs ls hh hl => hnx f1 H locs ls (by omega) hh hl)
    by_cases q3 : z4.toInt = 3
    · refine lv_tableIn F.1 F.2.1 dL_law_33 (by omega) (by omega) (off := 226) (by rw [q3]; rfl) (tgt := 259) (by decide) ?_
      exact law_c3 F hZ hX0 hbl hbA hcs hsl i bi m_q r_q m_rr r_rr m_GA r_GA m_GP r_GP m_GL r_GL m_GT r_GT hLS hl (fun f1 H locs ls hh hl => hnx f1 H locs ls (by omega) hh hl)
    by_cases q4 : z4.toInt = 4
    · refine lv_tableIn F.1 F.2.1 dL_law_33 (by omega) (by omega) (off := 269) (by rw [q4]; rfl) (tgt := 302) (by decide) ?_
      exact law_c4 F hZ hX0 hbl hbA hcs hsl i bi m_q r_q m_rr r_rr m_GA r_GA m_GP r_GP m_GL r_GL m_GT r_GT hLS hl (fun f1 H locs ls hh hl => hnx f1 H locs ls (by omega) hh hl)
    by_cases q5 : z4.toInt = 5
    · refine lv_tableIn F.1 F.2.1 dL_law_33 (by omega) (by omega) (off := 342) (by rw [q5]; rfl) (tgt := 375) (by decide) ?_
      exact law_c5 F hZ hX0 hbl hbA hcs hsl i bi m_q r_q m_rr r_rr m_GA r_GA m_GP r_GP m_GL r_GL m_GT r_GT hLS hl (fun f1 H locs ls hh hl => hnx f1 H locs ls (by omega) hh hl)
    by_cases q6 : z4.toInt = 6
    · refine lv_tableIn F.1 F.2.1 dL_law_33 (by omega) (by omega) (off := 376) (by rw [q6]; rfl) (tgt := 409) (by decide) ?_
      exact law_c6 F hZ hX0 hbl hbA hcs hsl i bi m_q r_q m_rr r_rr m_GA r_GA m_GP r_GP m_GL r_GL m_GT r_GT hLS hl (fun f1 H locs ls hh hl => hnx f1 H locs ls (by omega) hh hl)
    by_cases q7 : z4.toInt = 7
    · refine lv_tableIn F.1 F.2.1 dL_law_33 (by omega) (by omega) (off := 439) (by rw [q7]; rfl) (tgt := 472) (by decide) ?_
      exact law_c7 F hZ hX0 hbl hbA hcs hsl i bi m_q r_q m_rr r_rr m_GA r_GA m_GP r_GP m_GL r_GL m_GT r_GT hLS hl (fun f1 H locs ls hh hl => hnx f1 H locs ls (by omega) hh hl)
    by_cases q8 : z4.toInt = 8
    · refine lv_tableIn F.1 F.2.1 dL_law_33 (by omega) (by omega) (off := 502) (by rw [q8]; rfl) (tgt := 535) (by decide) ?_
      exact law_c8 F hZ hX0 hbl hbA hcs hsl i bi m_q r_q m_rr r_rr m_GA r_GA m_GP r_GP m_GL r_GL m_GT r_GT hLS hl (fun f1 H locs ls hh hl => hnx f1 H locs ls (by omega) hh hl)
    by_cases q9 : z4.toInt = 9
    · refine lv_tableIn F.1 F.2.1 dL_law_33 (by omega) (by omega) (off := 525) (by rw [q9]; rfl) (tgt := 558) (by decide) ?_
      exact law_c9 F hZ hX0 hbl hbA hcs hsl i bi m_q r_q m_rr r_rr m_GA r_GA m_GP r_GP m_GL r_GL m_GT r_GT hLS hl (fun f1 H locs ls hh hl => hnx f1 H locs ls (by omega) hh hl)
    by_cases q10 : z4.toInt = 10
    · refine lv_tableIn F.1 F.2.1 dL_law_33 (by omega) (by omega) (off := 558) (by rw [q10]; rfl) (tgt := 591) (by decide) ?_
      exact law_c10 F hZ hX0 hbl hbA hcs hsl i bi m_q r_q m_rr r_rr m_GA r_GA m_GP r_GP m_GL r_GL m_GT r_GT hLS hl (fun f1 H locs ls hh hl => hnx f1 H locs ls (by omega) hh hl)
    by_cases q11 : z4.toInt = 11
    · refine lv_tableIn F.1 F.2.1 dL_law_33 (by omega) (by omega) (off := 581) (by rw [q11]; rfl) (tgt := 614) (by decide) ?_
      exact law_c11 F hZ hX0 hbl hbA hcs hsl i bi m_q r_q m_rr r_rr m_GA r_GA m_GP r_GP m_GL r_GL m_GT r_GT hLS hl (fun f1 H locs ls hh hl => hnx f1 H locs ls (by omega) hh hl)
    by_cases q12 : z4.toInt = 12
    · refine lv_tableIn F.1 F.2.1 dL_law_33 (by omega) (by omega) (off := 604) (by rw [q12]; rfl) (tgt := 637) (by decide) ?_
      exact law_c12 F hZ hX0 hbl hbA hcs hsl i bi m_q r_q m_rr r_rr m_GA r_GA m_GP r_GP m_GL r_GL m_GT r_GT hLS hl (fun f1 H locs ls hh hl => hnx f1 H locs ls (by omega) hh hl)
    by_cases q13 : z4.toInt = 13
    · refine lv_tableIn F.1 F.2.1 dL_law_33 (by omega) (by omega) (off := 637) (by rw [q13]; rfl) (tgt := 670) (by decide) ?_
      exact law_c13 F hZ hX0 hbl hbA hcs hsl i bi m_q r_q m_rr r_rr m_GA r_GA m_GP r_GP m_GL r_GL m_GT r_GT hLS hl (fun f1 H locs ls hh hl => hnx f1 H locs ls (by omega) hh hl)
    by_cases q14 : z4.toInt = 14
    · refine lv_tableIn F.1 F.2.1 dL_law_33 (by omega) (by omega) (off := 670) (by rw [q14]; rfl) (tgt := 703) (by decide) ?_
      exact law_c14 F hZ hX0 hbl hbA hcs hsl i bi m_q r_q m_rr r_rr m_GA r_GA m_GP r_GP m_GL r_GL m_GT r_GT hLS hl (fun f1 H locs ls hh hl => hnx f1 H locs ls (by omega) hh hl)
    by_cases q15 : z4.toInt = 15
    · refine lv_tableIn F.1 F.2.1 dL_law_33 (by omega) (by omega) (off := 713) (by rw [q15]; rfl) (tgt := 746) (by decide) ?_
      exact law_c15 F hZ hX0 hbl hbA hcs hsl i bi m_q r_q m_rr r_rr m_GA r_GA m_GP r_GP m_GL r_GL m_GT r_GT hLS hl (fun f1 H locs ls hh hl => hnx f1 H locs ls (by omega) hh hl)
    by_cases q16 : z4.toInt = 16
    · refine lv_tableIn F.1 F.2.1 dL_law_33 (by omega) (by omega) (off := 756) (by rw [q16]; rfl) (tgt := 789) (by decide) ?_
      exact law_c16 F hZ hX0 hbl hbA hcs hsl i bi m_q r_q m_rr r_rr m_GA r_GA m_GP r_GP m_GL r_GL m_GT r_GT hLS hl (fun f1 H locs ls hh hl => hnx f1 H locs ls (by omega) hh hl)
    by_cases q17 : z4.toInt = 17
    · refine lv_tableIn F.1 F.2.1 dL_law_33 (by omega) (by omega) (off := 789) (by rw [q17]; rfl) (tgt := 822) (by decide) ?_
      exact law_c17 F hZ hX0 hbl hbA hcs hsl i bi m_q r_q m_rr r_rr m_GA r_GA m_GP r_GP m_GL r_GL m_GT r_GT hLS hl (fun f1 H locs ls hh hl => hnx f1 H locs ls (by omega) hh hl)
    by_cases q18 : z4.toInt = 18
    · refine lv_tableIn F.1 F.2.1 dL_law_33 (by omega) (by omega) (off := 852) (by rw [q18]; rfl) (tgt := 885) (by decide) ?_
      exact law_c18 F hZ hX0 hbl hbA hcs hsl i bi m_q r_q m_rr r_rr m_GA r_GA m_GP r_GP m_GL r_GL m_GT r_GT hLS hl (fun f1 H locs ls hh hl => hnx f1 H locs ls (by omega) hh hl)
    by_cases q19 : z4.toInt = 19
    · refine lv_tableIn F.1 F.2.1 dL_law_33 (by omega) (by omega) (off := 875) (by rw [q19]; rfl) (tgt := 908) (by decide) ?_
      exact law_c19 F hZ hX0 hbl hbA hcs hsl i bi m_q r_q m_rr r_rr m_GA r_GA m_GP r_GP m_GL r_GL m_GT r_GT hLS hl (fun f1 H locs ls hh hl => hnx f1 H locs ls (by omega) hh hl)
    by_cases q20 : z4.toInt = 20
    · refine lv_tableIn F.1 F.2.1 dL_law_33 (by omega) (by omega) (off := 908) (by rw [q20]; rfl) (tgt := 941) (by decide) ?_
      exact law_c20 F hZ hX0 hbl hbA hcs hsl i bi m_q r_q m_rr r_rr m_GA r_GA m_GP r_GP m_GL r_GL m_GT r_GT hLS hl (fun f1 H locs ls hh hl => hnx f1 H locs ls (by omega) hh hl)
    by_cases q21 : z4.toInt = 21
    · refine lv_tableIn F.1 F.2.1 dL_law_33 (by omega) (by omega) (off := 931) (by rw [q21]; rfl) (tgt := 964) (by decide) ?_
      exact law_c21 F hZ hX0 hbl hbA hcs hsl i bi m_q r_q m_rr r_rr m_GA r_GA m_GP r_GP m_GL r_GL m_GT r_GT hLS hl (fun f1 H locs ls hh hl => hnx f1 H locs ls (by omega) hh hl)
    by_cases q22 : z4.toInt = 22
    · refine lv_tableIn F.1 F.2.1 dL_law_33 (by omega) (by omega) (off := 954) (by rw [q22]; rfl) (tgt := 987) (by decide) ?_
      exact law_c22 F hZ hX0 hbl hbA hcs hsl i bi m_q r_q m_rr r_rr m_GA r_GA m_GP r_GP m_GL r_GL m_GT r_GT hLS hl (fun f1 H locs ls hh hl => hnx f1 H locs ls (by omega) hh hl)
    by_cases q23 : z4.toInt = 23
    · refine lv_tableIn F.1 F.2.1 dL_law_33 (by omega) (by omega) (off := 997) (by rw [q23]; rfl) (tgt := 1030) (by decide) ?_
      exact law_c23 F hZ hX0 hbl hbA hcs hsl i bi m_q r_q m_rr r_rr m_GA r_GA m_GP r_GP m_GL r_GL m_GT r_GT hLS hl (fun f1 H locs ls hh hl => hnx f1 H locs ls (by omega) hh hl)
    by_cases q24 : z4.toInt = 24
    · refine lv_tableIn F.1 F.2.1 dL_law_33 (by omega) (by omega) (off := 1040) (by rw [q24]; rfl) (tgt := 1073) (by decide) ?_
      exact law_c24 F hZ hX0 hbl hbA hcs hsl i bi m_q r_q m_rr r_rr m_GA r_GA m_GP r_GP m_GL r_GL m_GT r_GT hLS hl (fun f1 H locs ls hh hl => hnx f1 H locs ls (by omega) hh hl)
    by_cases q25 : z4.toInt = 25
    · refine lv_tableIn F.1 F.2.1 dL_law_33 (by omega) (by omega) (off := 1073) (by rw [q25]; rfl) (tgt := 1106) (by decide) ?_
      exact law_c25 F hZ hX0 hbl hbA hcs hsl i bi m_q r_q m_rr r_rr m_GA r_GA m_GP r_GP m_GL r_GL m_GT r_GT hLS hl (fun f1 H locs ls hh hl => hnx f1 H locs ls (by omega) hh hl)
    by_cases q26 : z4.toInt = 26
    · refine lv_tableIn F.1 F.2.1 dL_law_33 (by omega) (by omega) (off := 1126) (by rw [q26]; rfl) (tgt := 1159) (by decide) ?_
      exact law_c26 F hZ hX0 hbl hbA hcs hsl i bi m_q r_q m_rr r_rr m_GA r_GA m_GP r_GP m_GL r_GL m_GT r_GT hLS hl (fun f1 H locs ls hh hl => hnx f1 H locs ls (by omega) hh hl)
    by_cases q27 : z4.toInt = 27
    · refine lv_tableIn F.1 F.2.1 dL_law_33 (by omega) (by omega) (off := 1149) (by rw [q27]; rfl) (tgt := 1182) (by decide) ?_
      refine law_c27z F hZ hX0 hbl hbA hcs hsl hcs3 hsl3 i bi m_q r_q m_rr r_rr m_GA r_GA m_GP r_GP m_GL r_GL m_GT r_GT hLS rfl hl (fun f1 H locs ls hh hl => hnx f1 H locs ls (by omega) hh hl) (fun L1 R1 f1 pst H locs ls gw mp rp hh hl => ?_)
      refine tu_iinc F dL_law_1756 hl (k := 0) rfl (by decide) ki_6 (by omega) (fun z ls hz hl => ?_)
      refine lv_goto (tgt := 18) F.1 F.2.1 dL_law_1759 (by decide) ?_
      exact law_loopN (cs := cs + 3) (sl := sl + 34979) F hZ hX0 hbl hbA hcs3 hsl3 hr hlocks hAs hN (gw.1 _ m_q).1 ((gw.1 _ m_q).2.trans r_q) (gw.1 _ m_rr).1 ((gw.1 _ m_rr).2.trans r_rr) (gw.1 _ m_GA).1 ((gw.1 _ m_GA).2.trans r_GA) (gw.1 _ m_GP).1 ((gw.1 _ m_GP).2.trans r_GP) (gw.1 _ m_GL).1 ((gw.1 _ m_GL).2.trans r_GL) (gw.1 _ m_GT).1 ((gw.1 _ m_GT).2.trans r_GT) pst mp rp _ z f1 H locs ls (by omega) (by omega) (Nat.lt_succ_self _) hh hl
    by_cases q28 : z4.toInt = 28
    · refine lv_tableIn F.1 F.2.1 dL_law_33 (by omega) (by omega) (off := 1202) (by rw [q28]; rfl) (tgt := 1235) (by decide) ?_
      exact law_c28 F hZ hX0 hbl hbA hcs hsl i bi m_q r_q m_rr r_rr m_GA r_GA m_GP r_GP m_GL r_GL m_GT r_GT hLS hl (fun f1 H locs ls hh hl => hnx f1 H locs ls (by omega) hh hl)
    by_cases q29 : z4.toInt = 29
    · refine lv_tableIn F.1 F.2.1 dL_law_33 (by omega) (by omega) (off := 1225) (by rw [q29]; rfl) (tgt := 1258) (by decide) ?_
      exact law_c29 F hZ hX0 hbl hbA hcs hsl i bi m_q r_q m_rr r_rr m_GA r_GA m_GP r_GP m_GL r_GL m_GT r_GT hLS hl (fun f1 H locs ls hh hl => hnx f1 H locs ls (by omega) hh hl)
    by_cases q30 : z4.toInt = 30
    · refine lv_tableIn F.1 F.2.1 dL_law_33 (by omega) (by omega) (off := 1318) (by rw [q30]; rfl) (tgt := 1351) (by decide) ?_
      exact law_c30 F hZ hX0 hbl hbA hcs hsl i bi m_q r_q m_rr r_rr m_GA r_GA m_GP r_GP m_GL r_GL m_GT r_GT hLS hl (fun f1 H locs ls hh hl => hnx f1 H locs ls (by omega) hh hl)
    by_cases q31 : z4.toInt = 31
    · refine lv_tableIn F.1 F.2.1 dL_law_33 (by omega) (by omega) (off := 1361) (by rw [q31]; rfl) (tgt := 1394) (by decide) ?_
      exact law_c31 F hZ hX0 hbl hbA hcs hsl i bi m_q r_q m_rr r_rr m_GA r_GA m_GP r_GP m_GL r_GL m_GT r_GT hLS hl (fun f1 H locs ls hh hl => hnx f1 H locs ls (by omega) hh hl)
    by_cases q32 : z4.toInt = 32
    · refine lv_tableIn F.1 F.2.1 dL_law_33 (by omega) (by omega) (off := 1414) (by rw [q32]; rfl) (tgt := 1447) (by decide) ?_
      exact law_c32 F hZ hX0 hbl hbA hcs hsl i bi m_q r_q m_rr r_rr m_GA r_GA m_GP r_GP m_GL r_GL m_GT r_GT hLS hl (fun f1 H locs ls hh hl => hnx f1 H locs ls (by omega) hh hl)
    by_cases q33 : z4.toInt = 33
    · refine lv_tableIn F.1 F.2.1 dL_law_33 (by omega) (by omega) (off := 1437) (by rw [q33]; rfl) (tgt := 1470) (by decide) ?_
      exact law_c33 F hZ hX0 hbl hbA hcs hsl i bi m_q r_q m_rr r_rr m_GA r_GA m_GP r_GP m_GL r_GL m_GT r_GT hLS hl (fun f1 H locs ls hh hl => hnx f1 H locs ls (by omega) hh hl)
    by_cases q34 : z4.toInt = 34
    · refine lv_tableIn F.1 F.2.1 dL_law_33 (by omega) (by omega) (off := 1460) (by rw [q34]; rfl) (tgt := 1493) (by decide) ?_
      exact law_c34 F hZ hX0 hbl hbA hcs hsl i bi m_q r_q m_rr r_rr m_GA r_GA m_GP r_GP m_GL r_GL m_GT r_GT hLS hl (fun f1 H locs ls hh hl => hnx f1 H locs ls (by omega) hh hl)
    by_cases q35 : z4.toInt = 35
    · refine lv_tableIn F.1 F.2.1 dL_law_33 (by omega) (by omega) (off := 1483) (by rw [q35]; rfl) (tgt := 1516) (by decide) ?_
      exact law_c35 F hZ hX0 hbl hbA hcs hsl i bi m_q r_q m_rr r_rr m_GA r_GA m_GP r_GP m_GL r_GL m_GT r_GT hLS hl (fun f1 H locs ls hh hl => hnx f1 H locs ls (by omega) hh hl)
    by_cases q36 : z4.toInt = 36
    · refine lv_tableIn F.1 F.2.1 dL_law_33 (by omega) (by omega) (off := 1526) (by rw [q36]; rfl) (tgt := 1559) (by decide) ?_
      exact law_c36 F hZ hX0 hbl hbA hcs hsl i bi m_q r_q m_rr r_rr m_GA r_GA m_GP r_GP m_GL r_GL m_GT r_GT hLS hl (fun f1 H locs ls hh hl => hnx f1 H locs ls (by omega) hh hl)
    by_cases q37 : z4.toInt = 37
    · refine lv_tableIn F.1 F.2.1 dL_law_33 (by omega) (by omega) (off := 1539) (by rw [q37]; rfl) (tgt := 1572) (by decide) ?_
      exact law_c37 F hZ hX0 hbl hbA hcs hsl i bi m_q r_q m_rr r_rr m_GA r_GA m_GP r_GP m_GL r_GL m_GT r_GT hLS hl (fun f1 H locs ls hh hl => hnx f1 H locs ls (by omega) hh hl)
    by_cases q38 : z4.toInt = 38
    · refine lv_tableIn F.1 F.2.1 dL_law_33 (by omega) (by omega) (off := 1562) (by rw [q38]; rfl) (tgt := 1595) (by decide) ?_
      exact law_c38 F hZ hX0 hbl hbA hcs hsl i bi m_q r_q m_rr r_rr m_GA r_GA m_GP r_GP m_GL r_GL m_GT r_GT hLS hl (fun f1 H locs ls hh hl => hnx f1 H locs ls (by omega) hh hl)
    by_cases q39 : z4.toInt = 39
    · refine lv_tableIn F.1 F.2.1 dL_law_33 (by omega) (by omega) (off := 1595) (by rw [q39]; rfl) (tgt := 1628) (by decide) ?_
      exact law_c39 F hZ hX0 hbl hbA hcs hsl i bi m_q r_q m_rr r_rr m_GA r_GA m_GP r_GP m_GL r_GL m_GT r_GT hLS hl (fun f1 H locs ls hh hl => hnx f1 H locs ls (by omega) hh hl)
    by_cases q40 : z4.toInt = 40
    · refine lv_tableIn F.1 F.2.1 dL_law_33 (by omega) (by omega) (off := 1644) (by rw [q40]; rfl) (tgt := 1677) (by decide) ?_
      exact law_c40 F hZ hX0 hbl hbA hcs hsl i bi m_q r_q m_rr r_rr m_GA r_GA m_GP r_GP m_GL r_GL m_GT r_GT hLS hl (fun f1 H locs ls hh hl => hnx f1 H locs ls (by omega) hh hl)
    by_cases q41 : z4.toInt = 41
    · refine lv_tableIn F.1 F.2.1 dL_law_33 (by omega) (by omega) (off := 1697) (by rw [q41]; rfl) (tgt := 1730) (by decide) ?_
      exact law_c41 F hZ hX0 hbl hbA hcs hsl i bi m_q r_q m_rr r_rr m_GA r_GA m_GP r_GP m_GL r_GL m_GT r_GT hLS hl (fun f1 H locs ls hh hl => hnx f1 H locs ls (by omega) hh hl)
    by_cases q42 : z4.toInt = 42
    · refine lv_tableIn F.1 F.2.1 dL_law_33 (by omega) (by omega) (off := 1710) (by rw [q42]; rfl) (tgt := 1743) (by decide) ?_
      exact law_c42 F hZ hX0 hbl hbA hcs hsl i bi m_q r_q m_rr r_rr m_GA r_GA m_GP r_GP m_GL r_GL m_GT r_GT hLS hl (fun f1 H locs ls hh hl => hnx f1 H locs ls (by omega) hh hl)
    refine lv_tableOut F.1 F.2.1 dL_law_33 (by omega) (tgt := 1756) (by decide) ?_
    exact hnx f0 H locs ls (by omega) hLS hl
