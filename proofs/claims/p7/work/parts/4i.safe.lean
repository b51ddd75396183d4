theorem dX3_readScript_0 : decode cX3_readScript 0 = .ok (.aload_n 0, 1) := by decide +kernel
theorem dX3_readScript_1 : decode cX3_readScript 1 = .ok (.aload_n 1, 1) := by decide +kernel
theorem dX3_readScript_2 : decode cX3_readScript 2 = .ok (.iload_n 2, 1) := by decide +kernel
theorem dX3_readScript_3 : decode cX3_readScript 3 = .ok (.invokevirtual 64, 3) := by decide +kernel
theorem dX3_readScript_6 : decode cX3_readScript 6 = .ok (.aload_n 0, 1) := by decide +kernel
theorem dX3_readScript_7 : decode cX3_readScript 7 = .ok (.getfield 21, 3) := by decide +kernel
theorem dX3_readScript_10 : decode cX3_readScript 10 = .ok (.invokevirtual 90, 3) := by decide +kernel
theorem mw_523 : Cond.methodLink RX3 90 yX6_clear ∈ wsL_law := inr_22 _ (List.mem_of_getElem? (i := 19) rfl)
theorem mw_526 : Cond.code yX6_clear cX6_clear 2 none ∈ wsL_law := inr_22 _ (List.mem_of_getElem? (i := 22) rfl)
theorem yk_X6_clear : xY yX6_clear RX6 cX6_clear 2 none 0 := ⟨⟨rfl, by decide +kernel, by decide +kernel, by decide +kernel⟩, mw_57, mw_526⟩
theorem mw_524 : Cond.instanceMethod yX6_clear ∈ wsL_law := inr_22 _ (List.mem_of_getElem? (i := 20) rfl)
theorem mw_525 : Cond.selects RX6 yX6_clear yX6_clear ∈ wsL_law := inr_22 _ (List.mem_of_getElem? (i := 21) rfl)
theorem dX3_readScript_13 : decode cX3_readScript 13 = .ok (.aload_n 0, 1) := by decide +kernel
theorem dX3_readScript_14 : decode cX3_readScript 14 = .ok (.iconst 0, 1) := by decide +kernel
theorem dX3_readScript_15 : decode cX3_readScript 15 = .ok (.putfield 55, 3) := by decide +kernel
section
variable {p : Program} {l : Launch} {e : Env} {R0 : Room} {s : State} {m : MethodId} {args : Array Value} {below : List Frame} {meth : Method} {c : Code} {H H0 : Heap} {locs : List Loc} {cells slots : Nat} {Q : State → Prop} {cc : ByteArray} {nL : Nat} {D : va_G} {cy : Nat → ClassId} {A : Nat → Prop} {L : List Nat} {R : Nat → Nat} {f : Nat → va_E} {pc : Nat} {ls : Array Slot} {rest : List Value} {a : Nat}
theorem p_3_55 (F : CallFix p m c cc nL s args wsL_law RX3) (h : tS D cy A H0 L R (TT cy L R) f s H locs) {x : Int32} (ha : a ∈ L) (hr : R a = 3) (hv : 0 ≤ x.toInt ∧ x.toInt ≤ 100) (hdg : decode cc pc = .ok (.putfield 55, 3)) (kk : ∀ (f1 : Nat → va_E) (H1 : Heap) (locs1 : List Loc), fi f1 a 11 = x.toInt → fr L R [(3, 11)] [3] f f1 → tS D cy A H0 L R (TT cy L R) f1 s H1 locs1 → W p l e R0 s m args below meth c H1 locs1 cells slots Q (F0 m (pc + 3) ls (rest))) : W p l e R0 s m args below meth c H locs cells slots Q (F0 m pc ls (.int x :: .ref a :: rest)) := tu_puti (k := 11) F h ha hr T_3 rfl hv.1 hv.2 inlX3 tyX3_ok nmX3 rfl (Nat.le_of_ble_eq_true rfl) mw_69 rfl rfl rfl hdg kk
end
theorem dX3_readScript_18 : decode cX3_readScript 18 = .ok (.iconst 1, 1) := by decide +kernel
theorem dX3_readScript_19 : decode cX3_readScript 19 = .ok (.istore_n 3, 1) := by decide +kernel
theorem dX3_readScript_20 : decode cX3_readScript 20 = .ok (.iconst 0, 1) := by decide +kernel
theorem dX3_readScript_21 : decode cX3_readScript 21 = .ok (.istore 4, 2) := by decide +kernel
theorem dX3_readScript_23 : decode cX3_readScript 23 = .ok (.iload 4, 2) := by decide +kernel
theorem dX3_readScript_25 : decode cX3_readScript 25 = .ok (.sipush 600, 3) := by decide +kernel
theorem dX3_readScript_142 : decode cX3_readScript 142 = .ok (.iload_n 3, 1) := by decide +kernel
theorem dX3_readScript_143 : decode cX3_readScript 143 = .ok (.ifCond .eq 14, 3) := by decide +kernel
theorem dX3_readScript_157 : decode cX3_readScript 157 = .ok (.iconst 0, 1) := by decide +kernel
theorem dX3_readScript_158 : decode cX3_readScript 158 = .ok (.ireturn, 1) := by decide +kernel
theorem dX3_readScript_146 : decode cX3_readScript 146 = .ok (.aload_n 0, 1) := by decide +kernel
theorem dX3_readScript_147 : decode cX3_readScript 147 = .ok (.invokevirtual 122, 3) := by decide +kernel
theorem mw_621 : Cond.methodLink RX3 122 yX3_findGoes ∈ wsL_law := inr_26 _ (List.mem_of_getElem? (i := 21) rfl)
theorem mw_624 : Cond.code yX3_findGoes cX3_findGoes 3 (some .boolean) ∈ wsL_law := inr_27 _ (List.mem_of_getElem? (i := 0) rfl)
theorem yk_X3_findGoes : xY yX3_findGoes RX3 cX3_findGoes 3 (some .boolean) 0 := ⟨⟨rfl, by decide +kernel, by decide +kernel, by decide +kernel⟩, mw_19, mw_624⟩
theorem mw_622 : Cond.instanceMethod yX3_findGoes ∈ wsL_law := inr_26 _ (List.mem_of_getElem? (i := 22) rfl)
theorem mw_623 : Cond.selects RX3 yX3_findGoes yX3_findGoes ∈ wsL_law := inr_26 _ (List.mem_of_getElem? (i := 23) rfl)
theorem dX3_readScript_150 : decode cX3_readScript 150 = .ok (.ifCond .eq 7, 3) := by decide +kernel
theorem dX3_readScript_153 : decode cX3_readScript 153 = .ok (.iconst 1, 1) := by decide +kernel
theorem dX3_readScript_154 : decode cX3_readScript 154 = .ok (.goto 4, 3) := by decide +kernel
theorem dX3_readScript_28 : decode cX3_readScript 28 = .ok (.if_icmp .ge 114, 3) := by decide +kernel
theorem dX3_readScript_31 : decode cX3_readScript 31 = .ok (.iload_n 3, 1) := by decide +kernel
theorem dX3_readScript_32 : decode cX3_readScript 32 = .ok (.ifCond .eq 110, 3) := by decide +kernel
theorem dX3_readScript_35 : decode cX3_readScript 35 = .ok (.aload_n 0, 1) := by decide +kernel
theorem dX3_readScript_36 : decode cX3_readScript 36 = .ok (.invokevirtual 71, 3) := by decide +kernel
theorem dX3_readScript_39 : decode cX3_readScript 39 = .ok (.ifCond .eq 103, 3) := by decide +kernel
theorem dX3_readScript_42 : decode cX3_readScript 42 = .ok (.aload_n 0, 1) := by decide +kernel
theorem dX3_readScript_43 : decode cX3_readScript 43 = .ok (.ldc2_w 91, 3) := by decide +kernel
theorem mw_518 : Cond.constantLong RX3 91 (677454) ∈ wsL_law := inr_22 _ (List.mem_of_getElem? (i := 14) rfl)
theorem kl_677454 : (677454 : Int64).toInt = 677454 := by decide +kernel
theorem dX3_readScript_46 : decode cX3_readScript 46 = .ok (.invokevirtual 93, 3) := by decide +kernel
theorem dX3_readScript_136 : decode cX3_readScript 136 = .ok (.iinc 4 1, 3) := by decide +kernel
theorem dX3_readScript_139 : decode cX3_readScript 139 = .ok (.goto (-116), 3) := by decide +kernel
theorem dX3_readScript_49 : decode cX3_readScript 49 = .ok (.ifCond .eq 11, 3) := by decide +kernel
theorem dX3_readScript_60 : decode cX3_readScript 60 = .ok (.aload_n 0, 1) := by decide +kernel
theorem dX3_readScript_61 : decode cX3_readScript 61 = .ok (.ldc2_w 101, 3) := by decide +kernel
theorem mw_519 : Cond.constantLong RX3 101 (11449) ∈ wsL_law := inr_22 _ (List.mem_of_getElem? (i := 15) rfl)
theorem kl_11449 : (11449 : Int64).toInt = 11449 := by decide +kernel
theorem dX3_readScript_64 : decode cX3_readScript 64 = .ok (.invokevirtual 93, 3) := by decide +kernel
theorem dX3_readScript_67 : decode cX3_readScript 67 = .ok (.ifCond .eq 11, 3) := by decide +kernel
theorem dX3_readScript_78 : decode cX3_readScript 78 = .ok (.aload_n 0, 1) := by decide +kernel
theorem dX3_readScript_79 : decode cX3_readScript 79 = .ok (.ldc2_w 106, 3) := by decide +kernel
theorem mw_520 : Cond.constantLong RX3 106 (762030) ∈ wsL_law := inr_22 _ (List.mem_of_getElem? (i := 16) rfl)
theorem kl_762030 : (762030 : Int64).toInt = 762030 := by decide +kernel
theorem dX3_readScript_82 : decode cX3_readScript 82 = .ok (.invokevirtual 93, 3) := by decide +kernel
theorem dX3_readScript_98 : decode cX3_readScript 98 = .ok (.aload_n 0, 1) := by decide +kernel
theorem dX3_readScript_99 : decode cX3_readScript 99 = .ok (.aload_n 0, 1) := by decide +kernel
theorem dX3_readScript_100 : decode cX3_readScript 100 = .ok (.ldc2_w 108, 3) := by decide +kernel
theorem mw_521 : Cond.constantLong RX3 108 (365744) ∈ wsL_law := inr_22 _ (List.mem_of_getElem? (i := 17) rfl)
theorem kl_365744 : (365744 : Int64).toInt = 365744 := by decide +kernel
theorem dX3_readScript_103 : decode cX3_readScript 103 = .ok (.invokevirtual 93, 3) := by decide +kernel
theorem dX3_readScript_106 : decode cX3_readScript 106 = .ok (.invokevirtual 110, 3) := by decide +kernel
theorem mw_571 : Cond.methodLink RX3 110 yX3_readRule ∈ wsL_law := inr_24 _ (List.mem_of_getElem? (i := 19) rfl)
theorem mw_574 : Cond.code yX3_readRule cX3_readRule 3 (some .boolean) ∈ wsL_law := inr_24 _ (List.mem_of_getElem? (i := 22) rfl)
theorem yk_X3_readRule : xY yX3_readRule RX3 cX3_readRule 3 (some .boolean) 1 := ⟨⟨rfl, by decide +kernel, by decide +kernel, by decide +kernel⟩, mw_19, mw_574⟩
theorem mw_572 : Cond.instanceMethod yX3_readRule ∈ wsL_law := inr_24 _ (List.mem_of_getElem? (i := 20) rfl)
theorem mw_573 : Cond.selects RX3 yX3_readRule yX3_readRule ∈ wsL_law := inr_24 _ (List.mem_of_getElem? (i := 21) rfl)
theorem dX3_readScript_109 : decode cX3_readScript 109 = .ok (.istore_n 3, 1) := by decide +kernel
theorem dX3_readScript_110 : decode cX3_readScript 110 = .ok (.goto 26, 3) := by decide +kernel
theorem dX3_readScript_85 : decode cX3_readScript 85 = .ok (.ifCond .ne 13, 3) := by decide +kernel
theorem dX3_readScript_88 : decode cX3_readScript 88 = .ok (.aload_n 0, 1) := by decide +kernel
theorem dX3_readScript_89 : decode cX3_readScript 89 = .ok (.ldc2_w 108, 3) := by decide +kernel
theorem dX3_readScript_92 : decode cX3_readScript 92 = .ok (.invokevirtual 93, 3) := by decide +kernel
theorem dX3_readScript_95 : decode cX3_readScript 95 = .ok (.ifCond .eq 18, 3) := by decide +kernel
theorem dX3_readScript_113 : decode cX3_readScript 113 = .ok (.aload_n 0, 1) := by decide +kernel
theorem dX3_readScript_114 : decode cX3_readScript 114 = .ok (.ldc2_w 114, 3) := by decide +kernel
theorem mw_522 : Cond.constantLong RX3 114 (474565) ∈ wsL_law := inr_22 _ (List.mem_of_getElem? (i := 18) rfl)
theorem kl_474565 : (474565 : Int64).toInt = 474565 := by decide +kernel
theorem dX3_readScript_117 : decode cX3_readScript 117 = .ok (.invokevirtual 93, 3) := by decide +kernel
theorem dX3_readScript_120 : decode cX3_readScript 120 = .ok (.ifCond .eq 11, 3) := by decide +kernel
theorem dX3_readScript_131 : decode cX3_readScript 131 = .ok (.aload_n 0, 1) := by decide +kernel
theorem dX3_readScript_132 : decode cX3_readScript 132 = .ok (.invokevirtual 119, 3) := by decide +kernel
theorem dX3_readScript_135 : decode cX3_readScript 135 = .ok (.istore_n 3, 1) := by decide +kernel
theorem dX3_readScript_123 : decode cX3_readScript 123 = .ok (.aload_n 0, 1) := by decide +kernel
theorem dX3_readScript_124 : decode cX3_readScript 124 = .ok (.invokevirtual 116, 3) := by decide +kernel
theorem mw_617 : Cond.methodLink RX3 116 yX3_readNone ∈ wsL_law := inr_26 _ (List.mem_of_getElem? (i := 17) rfl)
theorem mw_620 : Cond.code yX3_readNone cX3_readNone 1 (some .boolean) ∈ wsL_law := inr_26 _ (List.mem_of_getElem? (i := 20) rfl)
theorem yk_X3_readNone : xY yX3_readNone RX3 cX3_readNone 1 (some .boolean) 0 := ⟨⟨rfl, by decide +kernel, by decide +kernel, by decide +kernel⟩, mw_19, mw_620⟩
theorem mw_618 : Cond.instanceMethod yX3_readNone ∈ wsL_law := inr_26 _ (List.mem_of_getElem? (i := 18) rfl)
theorem mw_619 : Cond.selects RX3 yX3_readNone yX3_readNone ∈ wsL_law := inr_26 _ (List.mem_of_getElem? (i := 19) rfl)
theorem dX3_readScript_127 : decode cX3_readScript 127 = .ok (.istore_n 3, 1) := by decide +kernel
theorem dX3_readScript_128 : decode cX3_readScript 128 = .ok (.goto 8, 3) := by decide +kernel
theorem dX3_readScript_70 : decode cX3_readScript 70 = .ok (.aload_n 0, 1) := by decide +kernel
theorem dX3_readScript_71 : decode cX3_readScript 71 = .ok (.invokevirtual 103, 3) := by decide +kernel
theorem mw_557 : Cond.methodLink RX3 103 yX3_readKey ∈ wsL_law := inr_24 _ (List.mem_of_getElem? (i := 5) rfl)
theorem mw_560 : Cond.code yX3_readKey cX3_readKey 3 (some .boolean) ∈ wsL_law := inr_24 _ (List.mem_of_getElem? (i := 8) rfl)
theorem yk_X3_readKey : xY yX3_readKey RX3 cX3_readKey 3 (some .boolean) 0 := ⟨⟨rfl, by decide +kernel, by decide +kernel, by decide +kernel⟩, mw_19, mw_560⟩
theorem mw_558 : Cond.instanceMethod yX3_readKey ∈ wsL_law := inr_24 _ (List.mem_of_getElem? (i := 6) rfl)
theorem mw_559 : Cond.selects RX3 yX3_readKey yX3_readKey ∈ wsL_law := inr_24 _ (List.mem_of_getElem? (i := 7) rfl)
theorem dX3_readScript_74 : decode cX3_readScript 74 = .ok (.istore_n 3, 1) := by decide +kernel
theorem dX3_readScript_75 : decode cX3_readScript 75 = .ok (.goto 61, 3) := by decide +kernel
theorem dX3_readScript_52 : decode cX3_readScript 52 = .ok (.aload_n 0, 1) := by decide +kernel
theorem dX3_readScript_53 : decode cX3_readScript 53 = .ok (.invokevirtual 97, 3) := by decide +kernel
theorem mw_531 : Cond.methodLink RX3 97 yX3_readTurn ∈ wsL_law := inr_23 _ (List.mem_of_getElem? (i := 3) rfl)
theorem mw_534 : Cond.code yX3_readTurn cX3_readTurn 3 (some .boolean) ∈ wsL_law := inr_23 _ (List.mem_of_getElem? (i := 6) rfl)
theorem yk_X3_readTurn : xY yX3_readTurn RX3 cX3_readTurn 3 (some .boolean) 0 := ⟨⟨rfl, by decide +kernel, by decide +kernel, by decide +kernel⟩, mw_19, mw_534⟩
theorem mw_532 : Cond.instanceMethod yX3_readTurn ∈ wsL_law := inr_23 _ (List.mem_of_getElem? (i := 4) rfl)
theorem mw_533 : Cond.selects RX3 yX3_readTurn yX3_readTurn ∈ wsL_law := inr_23 _ (List.mem_of_getElem? (i := 5) rfl)
theorem dX3_readScript_56 : decode cX3_readScript 56 = .ok (.istore_n 3, 1) := by decide +kernel
theorem dX3_readScript_57 : decode cX3_readScript 57 = .ok (.goto 79, 3) := by decide +kernel
def rm_X3_readScript : Room := { frames := 5, cells := 0, slots := 0, locals := 115 }
set_option maxHeartbeats 1000000 in
set_option maxRecDepth 100000 in
theorem s_X3_readScript (l : Launch) (D : va_G) (cy : Nat → ClassId) (L : List Nat) (R O : Nat → Nat) (f0 : Nat → va_E) (hG : GG L R O f0) (a0 : Nat) (m_a0 : a0 ∈ L) (r_a0 : R a0 = 3) (a1 : Nat) (m_a1 : a1 ∈ L) (r_a1 : R a1 = 56) (x2 : Int32) : ∀ sz, Met l yX3_readScript (Cond.code yX3_readScript cX3_readScript 5 (some .boolean) :: wsL_law) rm_X3_readScript (va_Pc [.ref a0, .ref a1, .int x2] (tPZ D cy L R (TT cy L R) f0 sz)) (va_Qi (fun (r : Int32) f1 => fr L R [(3, 2), (3, 3), (3, 8), (3, 11), (3, 12), (3, 13), (6, 14), (6, 15), (6, 16), (6, 17), (6, 18)] [3, 6, 23, 30, 31, 32, 33, 35, 36, 37, 38, 39, 40, 41, 42, 43, 44, 59, 60] f0 f1 ∧ 0 ≤ r.toInt ∧ r.toInt ≤ 1 ∧ GG L R O f1 ∧ (r.toInt = 0 ∨ AC2 f1 (rfa f0 a0 1)) ∧ OB L R O (rfa f0 a0 1) f0 f1) (tB D (tA L sz) L R (TT cy L R)) (tA L sz)) 0 0 (tA L sz) := by
  refine tw_enteri (by decide +kernel) rfl (Nat.le_of_ble_eq_true rfl) ?_
  intro p e s m below meth c A ls args Q F hZ h hl hret
  have hl : lv_has ls 5 [(0, .ref a0), (1, .ref a1), (2, .int x2)] := hl
  have hk : fr L R [(3, 2), (3, 3), (3, 8), (3, 11), (3, 12), (3, 13), (6, 14), (6, 15), (6, 16), (6, 17), (6, 18)] [3, 6, 23, 30, 31, 32, 33, 35, 36, 37, 38, 39, 40, 41, 42, 43, 44, 59, 60] f0 f0 := fr.rf
  have t_a0_at := h.bfi m_a0 r_a0 (fun e q => (T_3 e).mp q) (k := 12) rfl
  have t_a0_tokenCount := h.bfi m_a0 r_a0 (fun e q => (T_3 e).mp q) (k := 8) rfl
  obtain ⟨a0_script, m_a0_script, r_a0_script, t_a0_script⟩ := h.rf m_a0 r_a0 (fun e q => (T_3 e).mp q) (k := 1) rfl
  have t_a0_script_partCount := h.bfi m_a0_script r_a0_script (fun e q => (T_6 e).mp q) (k := 14) rfl
  obtain ⟨a0_goSlots, m_a0_goSlots, r_a0_goSlots, t_a0_goSlots⟩ := h.rf m_a0 r_a0 (fun e q => (T_3 e).mp q) (k := 10) rfl
  have t_a0_goCount := h.bfi m_a0 r_a0 (fun e q => (T_3 e).mp q) (k := 11) rfl
  have t_a0_script_ruleCount := h.bfi m_a0_script r_a0_script (fun e q => (T_6 e).mp q) (k := 17) rfl
  have hs1 := rfa_of t_a0_script
  have hX : OB L R O a0_script f0 f0 := OB_rf
  refine lv_aload_n F.1 F.2.1 dX3_readScript_0 rfl (lv_at hl 0 rfl) ?_
  refine lv_aload_n F.1 F.2.1 dX3_readScript_1 rfl (lv_at hl 1 rfl) ?_
  refine lv_iload_n F.1 F.2.1 dX3_readScript_2 rfl (lv_at hl 2 rfl) ?_
  refine tw_Vv (As := [.ref a1, .int x2]) F hZ h yk_X3_open mw_387 mw_388 mw_389 (s_X3_open l D cy L R O f0 a0 m_a0 r_a0 a1 m_a1 r_a1 x2) rfl rfl m_a0 r_a0 (fun e q => (T_3 e).mp q) rfl hl.1 rfl (Nat.le_of_ble_eq_true rfl) ⟨Nat.le_of_ble_eq_true rfl, Nat.le_of_ble_eq_true rfl⟩ ⟨Nat.le_of_ble_eq_true rfl, Nat.le_of_ble_eq_true rfl⟩ dX3_readScript_3 (fun f1 H locs hp1 h => ?_)
  obtain ⟨hf1, hv2p0, hv2p1⟩ := hp1
  have ea3 : eli f1 (rfa f1 a0_script 10) 24 = eli f0 (rfa f0 a0_script 10) 24 := E0i hG.1 hf1 (by decide +kernel) m_a0_script r_a0_script sk10 rfl (by decide +kernel) _
  have hX : OB L R O a0_script f0 f1 := OB_fr hX hf1 (by decide +kernel)
  have hG : GG L R O f1 := hG.fr hf1 (by decide +kernel) (by decide +kernel)
  have hk : fr L R [(3, 2), (3, 3), (3, 8), (3, 11), (3, 12), (3, 13), (6, 14), (6, 15), (6, 16), (6, 17), (6, 18)] [3, 6, 23, 30, 31, 32, 33, 35, 36, 37, 38, 39, 40, 41, 42, 43, 44, 59, 60] f0 f1 := hk.tr hf1 (by decide +kernel) (by decide +kernel)
  have e4 : fld f1 a0 1 = .ref a0_script := (hf1.efl m_a0 r_a0 rfl).trans t_a0_script
  have e5 : fi f1 a0_script 14 = fi f0 a0_script 14 := hf1.efi m_a0_script r_a0_script rfl
  have e6 : fld f1 a0 10 = .ref a0_goSlots := (hf1.efl m_a0 r_a0 rfl).trans t_a0_goSlots
  have e7 : fi f1 a0 11 = fi f0 a0 11 := hf1.efi m_a0 r_a0 rfl
  have e8 : fi f1 a0_script 17 = fi f0 a0_script 17 := hf1.efi m_a0_script r_a0_script rfl
  have e9 : fi f1 a0_script 18 = fi f0 a0_script 18 := hf1.efi m_a0_script r_a0_script rfl
  have hT : TK L R f1 a0 := hv2p0
  refine lv_aload_n F.1 F.2.1 dX3_readScript_6 rfl (lv_at hl 0 rfl) ?_
  refine g_3_21 F h m_a0 r_a0 dX3_readScript_7 (fun o10 m_o10 r_o10 ho10 => ?_)
  obtain rfl := (fld_inj e4 ho10).symm
  refine tw_Vv (As := []) F hZ h yk_X6_clear mw_523 mw_524 mw_525 (s_X6_clear l D cy L R O f1 hG a0_script m_a0_script r_a0_script) rfl rfl m_a0_script r_a0_script (fun e q => (T_6 e).mp q) rfl hl.1 rfl (Nat.le_of_ble_eq_true rfl) ⟨Nat.le_of_ble_eq_true rfl, Nat.le_of_ble_eq_true rfl⟩ ⟨Nat.le_of_ble_eq_true rfl, Nat.le_of_ble_eq_true rfl⟩ dX3_readScript_10 (fun f11 H locs hp11 h => ?_)
  obtain ⟨hf11, hv12p0, hv12p1, hv12p2, hv12p3, hv12p4⟩ := hp11
  have hX : OB L R O a0_script f0 f11 := OB_tr hX hv12p4
  have hT : TK L R f11 a0 := TK_fr hT hf11 (by decide +kernel) m_a0 r_a0
  have hG : GG L R O f11 := hG.fr hf11 (by decide +kernel) (by decide +kernel)
  have hk : fr L R [(3, 2), (3, 3), (3, 8), (3, 11), (3, 12), (3, 13), (6, 14), (6, 15), (6, 16), (6, 17), (6, 18)] [3, 6, 23, 30, 31, 32, 33, 35, 36, 37, 38, 39, 40, 41, 42, 43, 44, 59, 60] f0 f11 := hk.tr hf11 (by decide +kernel) (by decide +kernel)
  have e13 : fi f11 a0 12 = fi f1 a0 12 := hf11.efi m_a0 r_a0 rfl
  have e14 : fi f11 a0 8 = fi f1 a0 8 := hf11.efi m_a0 r_a0 rfl
  have e15 : fld f11 a0 1 = .ref a0_script := (hf11.efl m_a0 r_a0 rfl).trans e4
  have e16 : fld f11 a0 10 = .ref a0_goSlots := (hf11.efl m_a0 r_a0 rfl).trans e6
  have e17 : fi f11 a0 11 = fi f1 a0 11 := hf11.efi m_a0 r_a0 rfl
  have hP : PNZ f11 a0_script := fun j hj => by omega
  have hA : AC0 f11 a0_script = 0 := hv12p3
  refine lv_aload_n F.1 F.2.1 dX3_readScript_13 rfl (lv_at hl 0 rfl) ?_
  refine tw_iconst F dX3_readScript_14 ki_0 (fun z18 hz18 => ?_)
  refine p_3_55 F h m_a0 r_a0 (by omega) dX3_readScript_15 (fun f19 H locs e19p hf19 h => ?_)
  have ea20 : eli f19 (rfa f19 a0_script 10) 24 = eli f11 (rfa f11 a0_script 10) 24 := E0i hG.1 hf19 (by decide +kernel) m_a0_script r_a0_script sk10 rfl (by decide +kernel) _
  have hX : OB L R O a0_script f0 f19 := OB_fr hX hf19 (by decide +kernel)
  have hT : TK L R f19 a0 := TK_fr hT hf19 (by decide +kernel) m_a0 r_a0
  have hP : PNZ f19 a0_script := PNZ_fr hP hG.1 hf19 (by decide +kernel) (by decide +kernel) (by decide +kernel) m_a0_script r_a0_script
  have hA : AC0 f19 a0_script = 0 := (AC0_fr hG.1 hf19 (by decide +kernel) (by decide +kernel) m_a0_script r_a0_script).trans hA
  have hG : GG L R O f19 := hG.fr hf19 (by decide +kernel) (by decide +kernel)
  have hk : fr L R [(3, 2), (3, 3), (3, 8), (3, 11), (3, 12), (3, 13), (6, 14), (6, 15), (6, 16), (6, 17), (6, 18)] [3, 6, 23, 30, 31, 32, 33, 35, 36, 37, 38, 39, 40, 41, 42, 43, 44, 59, 60] f0 f19 := hk.tr hf19 rfl rfl
  have e21 : fi f19 a0 12 = fi f11 a0 12 := hf19.efi m_a0 r_a0 rfl
  have e22 : fi f19 a0 8 = fi f11 a0 8 := hf19.efi m_a0 r_a0 rfl
  have e23 : fld f19 a0 1 = .ref a0_script := (hf19.efl m_a0 r_a0 rfl).trans e15
  have e24 : fi f19 a0_script 14 = fi f11 a0_script 14 := hf19.efi m_a0_script r_a0_script rfl
  have e25 : fld f19 a0 10 = .ref a0_goSlots := (hf19.efl m_a0 r_a0 rfl).trans e16
  have e26 : fi f19 a0_script 17 = fi f11 a0_script 17 := hf19.efi m_a0_script r_a0_script rfl
  have e27 : fi f19 a0_script 18 = fi f11 a0_script 18 := hf19.efi m_a0_script r_a0_script rfl
  have rg1 : RG f19 a0 a0_script := ⟨fun q => by omega, fun _ => ⟨hA, by omega⟩, fun d hd => by omega, Or.inl (by omega)⟩
  refine tw_iconst F dX3_readScript_18 ki_1 (fun z28 hz28 => ?_)
  refine lv_istore_n (lv' := [(3, .int z28), (0, .ref a0), (1, .ref a1), (2, .int x2)]) F.1 F.2.1 dX3_readScript_19 rfl hl (by decide) rfl (fun ls hl => ?_)
  refine tw_iconst F dX3_readScript_20 ki_0 (fun z29 hz29 => ?_)
  refine lv_istore (lv' := [(4, .int z29), (3, .int z28), (0, .ref a0), (1, .ref a1), (2, .int x2)]) F.1 F.2.1 dX3_readScript_21 hl (by decide) rfl (fun ls hl => ?_)
  have j_23 : ∀ (n23 : Nat) (f30 : Nat → va_E) (H : Heap) (locs : List Loc) (ls : Array Slot) (x3_23 : Int32) (x4_23 : Int32), 0 ≤ x3_23.toInt → x3_23.toInt ≤ 1 → 0 ≤ x4_23.toInt → x4_23.toInt ≤ 600 → fi f30 a0_script 14 ≤ fi f30 a0 12 → (x3_23.toInt = 0 ∨ (fi f30 a0 11 ≤ 4 * fi f30 a0_script 17 + 4 ∧ (eli f30 (rfa f30 a0_script 10) 24 = 0 → fi f30 a0 11 ≤ 4 * fi f30 a0_script 17))) → fi f30 a0_script 17 ≤ 24 → (Hid (x3_23.toInt = 0 ∨ RG f30 a0 a0_script)) → ((600 - x4_23.toInt)).toNat < n23 → tS D cy A s.heap L R (TT cy L R) f30 s H locs → GG L R O f30 → OB L R O a0_script f0 f30 → TK L R f30 a0 → PNZ f30 a0_script → fr L R [(3, 2), (3, 3), (3, 8), (3, 11), (3, 12), (3, 13), (6, 14), (6, 15), (6, 16), (6, 17), (6, 18)] [3, 6, 23, 30, 31, 32, 33, 35, 36, 37, 38, 39, 40, 41, 42, 43, 44, 59, 60] f0 f30 → fr L R [(3, 2), (3, 3), (3, 11), (3, 12), (3, 13), (6, 14), (6, 15), (6, 16), (6, 17), (6, 18)] [3, 6, 23, 32, 33, 35, 36, 37, 38, 39, 40, 41, 42, 43] f19 f30 → lv_has ls 5 [(0, .ref a0), (3, .int x3_23), (4, .int x4_23)] → W p l e rm_X3_readScript s m args below meth c H locs 0 0 Q (F0 m 23 ls []) := by
    intro n23
    induction n23 with
    | zero =>
      intro f30 H locs ls x3_23 x4_23 b31 b32 b33 b34 b35 b36 b37 ip23_0 b38 h hG hX hT hP hk hb23 hl
      exfalso
      omega
    | succ n23 ih23 =>
      intro f30 H locs ls x3_23 x4_23 b31 b32 b33 b34 b35 b36 b37 ip23_0 b38 h hG hX hT hP hk hb23 hl
      have e39 : fi f30 a0 8 = fi f19 a0 8 := hb23.efi m_a0 r_a0 rfl
      have e40 : fld f30 a0 1 = .ref a0_script := (hb23.efl m_a0 r_a0 rfl).trans e23
      have e41 : fld f30 a0 10 = .ref a0_goSlots := (hb23.efl m_a0 r_a0 rfl).trans e25
      refine lv_iload F.1 F.2.1 dX3_readScript_23 (lv_at hl 2 rfl) ?_
      refine tw_sipush F dX3_readScript_25 ks_600 (fun z42 hz42 => ?_)
      have j_142 : ∀ (H : Heap) (locs : List Loc) (ls : Array Slot), (Hid (x3_23.toInt = 0 ∨ RG f30 a0 a0_script)) → tS D cy A s.heap L R (TT cy L R) f30 s H locs → lv_has ls 5 [(0, .ref a0), (3, .int x3_23)] → W p l e rm_X3_readScript s m args below meth c H locs 0 0 Q (F0 m 142 ls []) := by
        intro H locs ls ip142_0 h hl
        refine lv_iload_n F.1 F.2.1 dX3_readScript_142 rfl (lv_at hl 1 rfl) ?_
        refine tw_if_eq (tgt := 157) F dX3_readScript_143 (by decide) (fun b43 => ?_) (fun b43 => ?_)
        · refine tw_iconst F dX3_readScript_157 ki_0 (fun z44 hz44 => ?_)
          exact hret f30 _ _ _ _ z44 dX3_readScript_158 (tw_nb (by omega)) ⟨hk, by omega, by omega, hG, Or.inl (by omega), by rw [hs1]; exact hX⟩ h
        · refine lv_aload_n F.1 F.2.1 dX3_readScript_146 rfl (lv_at hl 0 rfl) ?_
          have owf := hG.1
          have rgf := ip142_0.g.resolve_left (by omega)
          have hPf := hP
          refine tw_Vi (As := []) F hZ h yk_X3_findGoes mw_621 mw_622 mw_623 (s_X3_findGoes l D cy L R O f30 hG a0 m_a0 r_a0) rfl rfl m_a0 r_a0 (fun e q => (T_3 e).mp q) rfl hl.1 rfl (Nat.le_of_ble_eq_true rfl) ⟨Nat.le_of_ble_eq_true rfl, Nat.le_of_ble_eq_true rfl⟩ ⟨Nat.le_of_ble_eq_true rfl, Nat.le_of_ble_eq_true rfl⟩ dX3_readScript_147 (fun v46 f45 H locs hp45 h => ?_)
          obtain ⟨hf45, hv46a, hv46b, hv46p0, hv46p1⟩ := hp45
          have ea47 : eli f45 (rfa f45 a0_script 10) 24 = eli f30 (rfa f30 a0_script 10) 24 := E0i hG.1 hf45 (by decide +kernel) m_a0_script r_a0_script sk10 rfl (by decide +kernel) _
          have hX : OB L R O a0_script f0 f45 := OB_tr hX (by have q := hv46p1; rw [rfa_of e40] at q; exact q)
          have hT : TK L R f45 a0 := TK_fr hT hf45 (by decide +kernel) m_a0 r_a0
          have hP : PNZ f45 a0_script := PNZ_fr hP hG.1 hf45 (by decide +kernel) (by decide +kernel) (by decide +kernel) m_a0_script r_a0_script
          have hG : GG L R O f45 := hG.fr hf45 (by decide +kernel) (by decide +kernel)
          have hk : fr L R [(3, 2), (3, 3), (3, 8), (3, 11), (3, 12), (3, 13), (6, 14), (6, 15), (6, 16), (6, 17), (6, 18)] [3, 6, 23, 30, 31, 32, 33, 35, 36, 37, 38, 39, 40, 41, 42, 43, 44, 59, 60] f0 f45 := hk.tr hf45 (by decide +kernel) (by decide +kernel)
          have e48 : fi f45 a0 8 = fi f30 a0 8 := hf45.efi m_a0 r_a0 rfl
          have e49 : fld f45 a0 1 = .ref a0_script := (hf45.efl m_a0 r_a0 rfl).trans e40
          have e50 : fi f45 a0_script 14 = fi f30 a0_script 14 := hf45.efi m_a0_script r_a0_script rfl
          have e51 : fld f45 a0 10 = .ref a0_goSlots := (hf45.efl m_a0 r_a0 rfl).trans e41
          have e52 : fi f45 a0_script 17 = fi f30 a0_script 17 := hf45.efi m_a0_script r_a0_script rfl
          have e53 : fi f45 a0_script 18 = fi f30 a0_script 18 := hf45.efi m_a0_script r_a0_script rfl
          have e54 : fi f45 a0 11 = fi f30 a0 11 := hf45.efi m_a0 r_a0 rfl
          refine tw_if_eq (tgt := 157) F dX3_readScript_150 (by decide) (fun b55 => ?_) (fun b55 => ?_)
          · refine tw_iconst F dX3_readScript_157 ki_0 (fun z56 hz56 => ?_)
            exact hret f45 _ _ _ _ z56 dX3_readScript_158 (tw_nb (by omega)) ⟨hk, by omega, by omega, hG, Or.inl (by omega), by rw [hs1]; exact hX⟩ h
          · refine tw_iconst F dX3_readScript_153 ki_1 (fun z57 hz57 => ?_)
            refine lv_goto (tgt := 158) F.1 F.2.1 dX3_readScript_154 (by decide) ?_
            exact hret f45 _ _ _ _ z57 dX3_readScript_158 (tw_nb (by omega)) ⟨hk, by omega, by omega, hG, Or.inr (by rw [hs1]; have q2 := hv46p0.resolve_left (by omega); rw [rfa_of e40] at q2; exact RG_acc rgf hPf owf hf45 (by decide +kernel) (by decide +kernel) (by decide +kernel) (by decide +kernel) (by decide +kernel) (by decide +kernel) (by decide +kernel) q2 m_a0_script r_a0_script), by rw [hs1]; exact hX⟩ h
      refine tw_icmp_ge (tgt := 142) F dX3_readScript_28 (by decide) (fun b58 => ?_) (fun b58 => ?_)
      · exact j_142 _ _ _ (ip23_0) h (lv_sub hl [0, 1] rfl)
      · refine lv_iload_n F.1 F.2.1 dX3_readScript_31 rfl (lv_at hl 1 rfl) ?_
        refine tw_if_eq (tgt := 142) F dX3_readScript_32 (by decide) (fun b59 => ?_) (fun b59 => ?_)
        · exact j_142 _ _ _ (ip23_0) h (lv_sub hl [0, 1] rfl)
        · refine lv_aload_n F.1 F.2.1 dX3_readScript_35 rfl (lv_at hl 0 rfl) ?_
          refine tw_Vi (As := []) F hZ h yk_X3_kind mw_416 mw_417 mw_418 (s_X3_kind l D cy L R O f30 a0 m_a0 r_a0) rfl rfl m_a0 r_a0 (fun e q => (T_3 e).mp q) rfl hl.1 rfl (Nat.le_of_ble_eq_true rfl) ⟨Nat.le_of_ble_eq_true rfl, Nat.le_of_ble_eq_true rfl⟩ ⟨Nat.le_of_ble_eq_true rfl, Nat.le_of_ble_eq_true rfl⟩ dX3_readScript_36 (fun v61 f60 H locs hp60 h => ?_)
          obtain ⟨rfl, hv61p0⟩ := hp60
          refine tw_if_eq (tgt := 142) F dX3_readScript_39 (by decide) (fun b62 => ?_) (fun b62 => ?_)
          · exact j_142 _ _ _ (ip23_0) h (lv_sub hl [0, 1] rfl)
          · have hRG : RG f30 a0 a0_script := ip23_0.g.resolve_left (by omega)
            refine lv_aload_n F.1 F.2.1 dX3_readScript_42 rfl (lv_at hl 0 rfl) ?_
            refine tu_ldc2 F mw_518 dX3_readScript_43 kl_677454 (fun z63 hz63 => ?_)
            refine tw_Vi (As := [.long z63]) F hZ h yk_X3_isThe mw_527 mw_528 mw_529 (s_X3_isThe l D cy L R O f30 a0 m_a0 r_a0 z63) rfl rfl m_a0 r_a0 (fun e q => (T_3 e).mp q) rfl hl.1 rfl (Nat.le_of_ble_eq_true rfl) ⟨Nat.le_of_ble_eq_true rfl, Nat.le_of_ble_eq_true rfl⟩ ⟨Nat.le_of_ble_eq_true rfl, Nat.le_of_ble_eq_true rfl⟩ dX3_readScript_46 (fun v65 f64 H locs hp64 h => ?_)
            obtain ⟨rfl, hv65a, hv65b, hv65p0⟩ := hp64
            have j_136 : ∀ (f66 : Nat → va_E) (H : Heap) (locs : List Loc) (ls : Array Slot) (x3_136 : Int32), 0 ≤ x3_136.toInt → x3_136.toInt ≤ 1 → fi f66 a0_script 14 ≤ fi f66 a0 12 → (x3_136.toInt = 0 ∨ (fi f66 a0 11 ≤ 4 * fi f66 a0_script 17 + 4 ∧ (eli f66 (rfa f66 a0_script 10) 24 = 0 → fi f66 a0 11 ≤ 4 * fi f66 a0_script 17))) → fi f66 a0_script 17 ≤ 24 → (Hid (x3_136.toInt = 0 ∨ RG f66 a0 a0_script)) → tS D cy A s.heap L R (TT cy L R) f66 s H locs → GG L R O f66 → OB L R O a0_script f0 f66 → TK L R f66 a0 → PNZ f66 a0_script → fr L R [(3, 2), (3, 3), (3, 8), (3, 11), (3, 12), (3, 13), (6, 14), (6, 15), (6, 16), (6, 17), (6, 18)] [3, 6, 23, 30, 31, 32, 33, 35, 36, 37, 38, 39, 40, 41, 42, 43, 44, 59, 60] f0 f66 → fr L R [(3, 2), (3, 3), (3, 11), (3, 12), (3, 13), (6, 14), (6, 15), (6, 16), (6, 17), (6, 18)] [3, 6, 23, 32, 33, 35, 36, 37, 38, 39, 40, 41, 42, 43] f30 f66 → lv_has ls 5 [(0, .ref a0), (3, .int x3_136), (4, .int x4_23)] → W p l e rm_X3_readScript s m args below meth c H locs 0 0 Q (F0 m 136 ls []) := by
              intro f66 H locs ls x3_136 b67 b68 b69 b70 b71 ip136_0 h hG hX hT hP hk hb136 hl
              have hb23 : fr L R [(3, 2), (3, 3), (3, 11), (3, 12), (3, 13), (6, 14), (6, 15), (6, 16), (6, 17), (6, 18)] [3, 6, 23, 32, 33, 35, 36, 37, 38, 39, 40, 41, 42, 43] f19 f66 := hb23.tr hb136 (by decide +kernel) (by decide +kernel)
              have e72 : fi f66 a0 8 = fi f30 a0 8 := hb136.efi m_a0 r_a0 rfl
              have e73 : fld f66 a0 1 = .ref a0_script := (hb136.efl m_a0 r_a0 rfl).trans e40
              have e74 : fld f66 a0 10 = .ref a0_goSlots := (hb136.efl m_a0 r_a0 rfl).trans e41
              refine tu_iinc F dX3_readScript_136 hl (k := 2) rfl (by decide) ki_1 (by omega) (fun z75 ls hz75 hl => ?_)
              have hl : lv_has ls 5 [(4, .int z75), (0, .ref a0), (3, .int x3_136)] := hl
              refine lv_goto (tgt := 23) F.1 F.2.1 dX3_readScript_139 (by decide) ?_
              exact ih23 f66 _ _ _ x3_136 z75 (by omega) (by omega) (by omega) (by omega) (by omega) (by omega) (by omega) (ip136_0) (by omega) h hG hX hT hP hk hb23 (lv_sub hl [1, 2, 0] rfl)
            have hb136 : fr L R [(3, 2), (3, 3), (3, 11), (3, 12), (3, 13), (6, 14), (6, 15), (6, 16), (6, 17), (6, 18)] [3, 6, 23, 32, 33, 35, 36, 37, 38, 39, 40, 41, 42, 43] f30 f30 := fr.rf
            refine tw_if_eq (tgt := 60) F dX3_readScript_49 (by decide) (fun b76 => ?_) (fun b76 => ?_)
            · refine lv_aload_n F.1 F.2.1 dX3_readScript_60 rfl (lv_at hl 0 rfl) ?_
              refine tu_ldc2 F mw_519 dX3_readScript_61 kl_11449 (fun z77 hz77 => ?_)
              refine tw_Vi (As := [.long z77]) F hZ h yk_X3_isThe mw_527 mw_528 mw_529 (s_X3_isThe l D cy L R O f30 a0 m_a0 r_a0 z77) rfl rfl m_a0 r_a0 (fun e q => (T_3 e).mp q) rfl hl.1 rfl (Nat.le_of_ble_eq_true rfl) ⟨Nat.le_of_ble_eq_true rfl, Nat.le_of_ble_eq_true rfl⟩ ⟨Nat.le_of_ble_eq_true rfl, Nat.le_of_ble_eq_true rfl⟩ dX3_readScript_64 (fun v79 f78 H locs hp78 h => ?_)
              obtain ⟨rfl, hv79a, hv79b, hv79p0⟩ := hp78
              refine tw_if_eq (tgt := 78) F dX3_readScript_67 (by decide) (fun b80 => ?_) (fun b80 => ?_)
              · refine lv_aload_n F.1 F.2.1 dX3_readScript_78 rfl (lv_at hl 0 rfl) ?_
                refine tu_ldc2 F mw_520 dX3_readScript_79 kl_762030 (fun z81 hz81 => ?_)
                refine tw_Vi (As := [.long z81]) F hZ h yk_X3_isThe mw_527 mw_528 mw_529 (s_X3_isThe l D cy L R O f30 a0 m_a0 r_a0 z81) rfl rfl m_a0 r_a0 (fun e q => (T_3 e).mp q) rfl hl.1 rfl (Nat.le_of_ble_eq_true rfl) ⟨Nat.le_of_ble_eq_true rfl, Nat.le_of_ble_eq_true rfl⟩ ⟨Nat.le_of_ble_eq_true rfl, Nat.le_of_ble_eq_true rfl⟩ dX3_readScript_82 (fun v83 f82 H locs hp82 h => ?_)
                obtain ⟨rfl, hv83a, hv83b, hv83p0⟩ := hp82
                have j_98 : ∀ (H : Heap) (locs : List Loc) (ls : Array Slot), tS D cy A s.heap L R (TT cy L R) f30 s H locs → lv_has ls 5 [(0, .ref a0), (4, .int x4_23)] → W p l e rm_X3_readScript s m args below meth c H locs 0 0 Q (F0 m 98 ls []) := by
                  intro H locs ls h hl
                  refine lv_aload_n F.1 F.2.1 dX3_readScript_98 rfl (lv_at hl 0 rfl) ?_
                  refine lv_aload_n F.1 F.2.1 dX3_readScript_99 rfl (lv_at hl 0 rfl) ?_
                  refine tu_ldc2 F mw_521 dX3_readScript_100 kl_365744 (fun z84 hz84 => ?_)
                  refine tw_Vi (As := [.long z84]) F hZ h yk_X3_isThe mw_527 mw_528 mw_529 (s_X3_isThe l D cy L R O f30 a0 m_a0 r_a0 z84) rfl rfl m_a0 r_a0 (fun e q => (T_3 e).mp q) rfl hl.1 rfl (Nat.le_of_ble_eq_true rfl) ⟨Nat.le_of_ble_eq_true rfl, Nat.le_of_ble_eq_true rfl⟩ ⟨Nat.le_of_ble_eq_true rfl, Nat.le_of_ble_eq_true rfl⟩ dX3_readScript_103 (fun v86 f85 H locs hp85 h => ?_)
                  obtain ⟨rfl, hv86a, hv86b, hv86p0⟩ := hp85
                  have hGo := hG
                  refine tw_Vi (As := [.int v86]) F hZ h yk_X3_readRule mw_571 mw_572 mw_573 (s_X3_readRule l D cy L R O f30 hG a0 m_a0 r_a0 v86 ⟨by omega, by omega⟩ (by omega) hT (by rw [rfa_of e40]; exact hP) (by rw [rfa_of e40]; omega) (by rw [rfa_of e40]; omega) (by rw [rfa_of e40]; exact hRG)) rfl rfl m_a0 r_a0 (fun e q => (T_3 e).mp q) rfl hl.1 rfl (Nat.le_of_ble_eq_true rfl) ⟨Nat.le_of_ble_eq_true rfl, Nat.le_of_ble_eq_true rfl⟩ ⟨Nat.le_of_ble_eq_true rfl, Nat.le_of_ble_eq_true rfl⟩ dX3_readScript_106 (fun v88 f87 H locs hp87 h => ?_)
                  obtain ⟨hf87, hv88a, hv88b, hG, hv88p0, hv88p1, hv88p2, hv88p3, hv88p4, hv88p5, hv88p6, hv88p7⟩ := hp87
                  have hX : OB L R O a0_script f0 f87 := OB_tr hX (by have q := hv88p7; rw [rfa_of e40] at q; exact q)
                  have hT : TK L R f87 a0 := TK_fr hT hf87 (by decide +kernel) m_a0 r_a0
                  have hk : fr L R [(3, 2), (3, 3), (3, 8), (3, 11), (3, 12), (3, 13), (6, 14), (6, 15), (6, 16), (6, 17), (6, 18)] [3, 6, 23, 30, 31, 32, 33, 35, 36, 37, 38, 39, 40, 41, 42, 43, 44, 59, 60] f0 f87 := hk.tr hf87 (by decide +kernel) (by decide +kernel)
                  have hb23 : fr L R [(3, 2), (3, 3), (3, 11), (3, 12), (3, 13), (6, 14), (6, 15), (6, 16), (6, 17), (6, 18)] [3, 6, 23, 32, 33, 35, 36, 37, 38, 39, 40, 41, 42, 43] f19 f87 := hb23.tr hf87 (by decide +kernel) (by decide +kernel)
                  have hb136 : fr L R [(3, 2), (3, 3), (3, 11), (3, 12), (3, 13), (6, 14), (6, 15), (6, 16), (6, 17), (6, 18)] [3, 6, 23, 32, 33, 35, 36, 37, 38, 39, 40, 41, 42, 43] f30 f87 := hb136.tr hf87 (by decide +kernel) (by decide +kernel)
                  have e89 : fi f87 a0 8 = fi f30 a0 8 := hf87.efi m_a0 r_a0 rfl
                  have e90 : fld f87 a0 1 = .ref a0_script := (hf87.efl m_a0 r_a0 rfl).trans e40
                  have e91 : fld f87 a0 10 = .ref a0_goSlots := (hf87.efl m_a0 r_a0 rfl).trans e41
                  have hP : PNZ f87 a0_script := by have q2 := hv88p5; rw [rfa_of e40] at q2; exact q2
                  have patx : fi f87 a0_script 14 ≤ fi f87 a0 12 := by have q2 := hv88p6; rw [rfa_of e40] at q2; exact q2
                  have rgx := Hid.mk hv88p1
                  clear hv88p1
                  have rgx : Hid (v88.toInt = 0 ∨ RG f87 a0 a0_script) := Hid.mk (by have q2 := rgx.g; rw [rfa_of e40] at q2; exact q2)
                  have b17 := h.bfi m_a0_script r_a0_script (fun e q => (T_6 e).mp q) (k := 17) rfl
                  have ex2 := hv88p2
                  rw [rfa_of e40] at ex2
                  have ex4 := hv88p4
                  rw [rfa_of e40] at ex4
                  refine lv_istore_n (lv' := [(3, .int v88), (0, .ref a0), (4, .int x4_23)]) F.1 F.2.1 dX3_readScript_109 rfl hl (by decide) rfl (fun ls hl => ?_)
                  refine lv_goto (tgt := 136) F.1 F.2.1 dX3_readScript_110 (by decide) ?_
                  exact j_136 f87 _ _ _ v88 (by omega) (by omega) (by omega) (by omega) (by omega) (rgx) h hG hX hT hP hk hb136 (lv_sub hl [1, 0, 2] rfl)
                refine tw_if_ne (tgt := 98) F dX3_readScript_85 (by decide) (fun b92 => ?_) (fun b92 => ?_)
                · exact j_98 _ _ _ h (lv_sub hl [0, 2] rfl)
                · refine lv_aload_n F.1 F.2.1 dX3_readScript_88 rfl (lv_at hl 0 rfl) ?_
                  refine tu_ldc2 F mw_521 dX3_readScript_89 kl_365744 (fun z93 hz93 => ?_)
                  refine tw_Vi (As := [.long z93]) F hZ h yk_X3_isThe mw_527 mw_528 mw_529 (s_X3_isThe l D cy L R O f30 a0 m_a0 r_a0 z93) rfl rfl m_a0 r_a0 (fun e q => (T_3 e).mp q) rfl hl.1 rfl (Nat.le_of_ble_eq_true rfl) ⟨Nat.le_of_ble_eq_true rfl, Nat.le_of_ble_eq_true rfl⟩ ⟨Nat.le_of_ble_eq_true rfl, Nat.le_of_ble_eq_true rfl⟩ dX3_readScript_92 (fun v95 f94 H locs hp94 h => ?_)
                  obtain ⟨rfl, hv95a, hv95b, hv95p0⟩ := hp94
                  refine tw_if_eq (tgt := 113) F dX3_readScript_95 (by decide) (fun b96 => ?_) (fun b96 => ?_)
                  · refine lv_aload_n F.1 F.2.1 dX3_readScript_113 rfl (lv_at hl 0 rfl) ?_
                    refine tu_ldc2 F mw_522 dX3_readScript_114 kl_474565 (fun z97 hz97 => ?_)
                    refine tw_Vi (As := [.long z97]) F hZ h yk_X3_isThe mw_527 mw_528 mw_529 (s_X3_isThe l D cy L R O f30 a0 m_a0 r_a0 z97) rfl rfl m_a0 r_a0 (fun e q => (T_3 e).mp q) rfl hl.1 rfl (Nat.le_of_ble_eq_true rfl) ⟨Nat.le_of_ble_eq_true rfl, Nat.le_of_ble_eq_true rfl⟩ ⟨Nat.le_of_ble_eq_true rfl, Nat.le_of_ble_eq_true rfl⟩ dX3_readScript_117 (fun v99 f98 H locs hp98 h => ?_)
                    obtain ⟨rfl, hv99a, hv99b, hv99p0⟩ := hp98
                    refine tw_if_eq (tgt := 131) F dX3_readScript_120 (by decide) (fun b100 => ?_) (fun b100 => ?_)
                    · refine lv_aload_n F.1 F.2.1 dX3_readScript_131 rfl (lv_at hl 0 rfl) ?_
                      refine tw_Vi (As := []) F hZ h yk_X3_misplaced mw_541 mw_542 mw_543 (s_X3_misplaced l D cy L R O f30 a0 m_a0 r_a0) rfl rfl m_a0 r_a0 (fun e q => (T_3 e).mp q) rfl hl.1 rfl (Nat.le_of_ble_eq_true rfl) ⟨Nat.le_of_ble_eq_true rfl, Nat.le_of_ble_eq_true rfl⟩ ⟨Nat.le_of_ble_eq_true rfl, Nat.le_of_ble_eq_true rfl⟩ dX3_readScript_132 (fun v102 f101 H locs hp101 h => ?_)
                      obtain ⟨hf101, hv102a, hv102b⟩ := hp101
                      have ea103 : eli f101 (rfa f101 a0_script 10) 24 = eli f30 (rfa f30 a0_script 10) 24 := E0i hG.1 hf101 (by decide +kernel) m_a0_script r_a0_script sk10 rfl (by decide +kernel) _
                      have hX : OB L R O a0_script f0 f101 := OB_fr hX hf101 (by decide +kernel)
                      have hT : TK L R f101 a0 := TK_fr hT hf101 (by decide +kernel) m_a0 r_a0
                      have hP : PNZ f101 a0_script := PNZ_fr hP hG.1 hf101 (by decide +kernel) (by decide +kernel) (by decide +kernel) m_a0_script r_a0_script
                      have hRG : RG f101 a0 a0_script := RG_fr hRG hG.1 hf101 (by decide +kernel) (by decide +kernel) (by decide +kernel) (by decide +kernel) (by decide +kernel) (by decide +kernel) (by decide +kernel) (by decide +kernel) (by decide +kernel) (by decide +kernel) m_a0_script r_a0_script m_a0 r_a0 e41 m_a0_goSlots r_a0_goSlots
                      have hG : GG L R O f101 := hG.fr hf101 (by decide +kernel) (by decide +kernel)
                      have hk : fr L R [(3, 2), (3, 3), (3, 8), (3, 11), (3, 12), (3, 13), (6, 14), (6, 15), (6, 16), (6, 17), (6, 18)] [3, 6, 23, 30, 31, 32, 33, 35, 36, 37, 38, 39, 40, 41, 42, 43, 44, 59, 60] f0 f101 := hk.tr hf101 rfl rfl
                      have hb23 : fr L R [(3, 2), (3, 3), (3, 11), (3, 12), (3, 13), (6, 14), (6, 15), (6, 16), (6, 17), (6, 18)] [3, 6, 23, 32, 33, 35, 36, 37, 38, 39, 40, 41, 42, 43] f19 f101 := hb23.tr hf101 rfl rfl
                      have hb136 : fr L R [(3, 2), (3, 3), (3, 11), (3, 12), (3, 13), (6, 14), (6, 15), (6, 16), (6, 17), (6, 18)] [3, 6, 23, 32, 33, 35, 36, 37, 38, 39, 40, 41, 42, 43] f30 f101 := hb136.tr hf101 rfl rfl
                      have e104 : fi f101 a0 12 = fi f30 a0 12 := hf101.efi m_a0 r_a0 rfl
                      have e105 : fi f101 a0 8 = fi f30 a0 8 := hf101.efi m_a0 r_a0 rfl
                      have e106 : fld f101 a0 1 = .ref a0_script := (hf101.efl m_a0 r_a0 rfl).trans e40
                      have e107 : fi f101 a0_script 14 = fi f30 a0_script 14 := hf101.efi m_a0_script r_a0_script rfl
                      have e108 : fld f101 a0 10 = .ref a0_goSlots := (hf101.efl m_a0 r_a0 rfl).trans e41
                      have e109 : fi f101 a0_script 17 = fi f30 a0_script 17 := hf101.efi m_a0_script r_a0_script rfl
                      have e110 : fi f101 a0_script 18 = fi f30 a0_script 18 := hf101.efi m_a0_script r_a0_script rfl
                      have e111 : fi f101 a0 11 = fi f30 a0 11 := hf101.efi m_a0 r_a0 rfl
                      refine lv_istore_n (lv' := [(3, .int v102), (0, .ref a0), (4, .int x4_23)]) F.1 F.2.1 dX3_readScript_135 rfl hl (by decide) rfl (fun ls hl => ?_)
                      exact j_136 f101 _ _ _ v102 (by omega) (by omega) (by omega) (by omega) (by omega) (Hid.mk (Or.inl (by omega))) h hG hX hT hP hk hb136 (lv_sub hl [1, 0, 2] rfl)
                    · refine lv_aload_n F.1 F.2.1 dX3_readScript_123 rfl (lv_at hl 0 rfl) ?_
                      have hGo := hG
                      refine tw_Vi (As := []) F hZ h yk_X3_readNone mw_617 mw_618 mw_619 (s_X3_readNone l D cy L R O f30 hG a0 m_a0 r_a0 (by omega) hT (by rw [rfa_of e40]; exact hP) (by rw [rfa_of e40]; omega) (by rw [rfa_of e40]; omega) (by rw [rfa_of e40]; exact hRG)) rfl rfl m_a0 r_a0 (fun e q => (T_3 e).mp q) rfl hl.1 rfl (Nat.le_of_ble_eq_true rfl) ⟨Nat.le_of_ble_eq_true rfl, Nat.le_of_ble_eq_true rfl⟩ ⟨Nat.le_of_ble_eq_true rfl, Nat.le_of_ble_eq_true rfl⟩ dX3_readScript_124 (fun v113 f112 H locs hp112 h => ?_)
                      obtain ⟨hf112, hv113a, hv113b, hG, hv113p0, hv113p1, hv113p2, hv113p3, hv113p4, hv113p5, hv113p6, hv113p7, hv113p8⟩ := hp112
                      have hX : OB L R O a0_script f0 f112 := OB_tr hX (by have q := hv113p8; rw [rfa_of e40] at q; exact q)
                      have hT : TK L R f112 a0 := TK_fr hT hf112 (by decide +kernel) m_a0 r_a0
                      have hk : fr L R [(3, 2), (3, 3), (3, 8), (3, 11), (3, 12), (3, 13), (6, 14), (6, 15), (6, 16), (6, 17), (6, 18)] [3, 6, 23, 30, 31, 32, 33, 35, 36, 37, 38, 39, 40, 41, 42, 43, 44, 59, 60] f0 f112 := hk.tr hf112 (by decide +kernel) (by decide +kernel)
                      have hb23 : fr L R [(3, 2), (3, 3), (3, 11), (3, 12), (3, 13), (6, 14), (6, 15), (6, 16), (6, 17), (6, 18)] [3, 6, 23, 32, 33, 35, 36, 37, 38, 39, 40, 41, 42, 43] f19 f112 := hb23.tr hf112 (by decide +kernel) (by decide +kernel)
                      have hb136 : fr L R [(3, 2), (3, 3), (3, 11), (3, 12), (3, 13), (6, 14), (6, 15), (6, 16), (6, 17), (6, 18)] [3, 6, 23, 32, 33, 35, 36, 37, 38, 39, 40, 41, 42, 43] f30 f112 := hb136.tr hf112 (by decide +kernel) (by decide +kernel)
                      have e114 : fi f112 a0 8 = fi f30 a0 8 := hf112.efi m_a0 r_a0 rfl
                      have e115 : fld f112 a0 1 = .ref a0_script := (hf112.efl m_a0 r_a0 rfl).trans e40
                      have e116 : fld f112 a0 10 = .ref a0_goSlots := (hf112.efl m_a0 r_a0 rfl).trans e41
                      have e117 : fi f112 a0_script 17 = fi f30 a0_script 17 := hf112.efi m_a0_script r_a0_script rfl
                      have e118 : fi f112 a0_script 18 = fi f30 a0_script 18 := hf112.efi m_a0_script r_a0_script rfl
                      have hP : PNZ f112 a0_script := by have q2 := hv113p6; rw [rfa_of e40] at q2; exact q2
                      have patx : fi f112 a0_script 14 ≤ fi f112 a0 12 := by have q2 := hv113p7; rw [rfa_of e40] at q2; exact q2
                      have rgx := Hid.mk hv113p1
                      clear hv113p1
                      have rgx : Hid (v113.toInt = 0 ∨ RG f112 a0 a0_script) := Hid.mk (by have q2 := rgx.g; rw [rfa_of e40] at q2; exact q2)
                      have b17 := h.bfi m_a0_script r_a0_script (fun e q => (T_6 e).mp q) (k := 17) rfl
                      have ex2 := hv113p2
                      rw [rfa_of e40] at ex2
                      have ex3 := hv113p3
                      rw [rfa_of e40] at ex3
                      have ex4 := hv113p4
                      rw [rfa_of e40] at ex4
                      refine lv_istore_n (lv' := [(3, .int v113), (0, .ref a0), (4, .int x4_23)]) F.1 F.2.1 dX3_readScript_127 rfl hl (by decide) rfl (fun ls hl => ?_)
                      refine lv_goto (tgt := 136) F.1 F.2.1 dX3_readScript_128 (by decide) ?_
                      exact j_136 f112 _ _ _ v113 (by omega) (by omega) (by omega) (by omega) (by omega) (rgx) h hG hX hT hP hk hb136 (lv_sub hl [1, 0, 2] rfl)
                  · exact j_98 _ _ _ h (lv_sub hl [0, 2] rfl)
              · refine lv_aload_n F.1 F.2.1 dX3_readScript_70 rfl (lv_at hl 0 rfl) ?_
                refine tw_Vi (As := []) F hZ h yk_X3_readKey mw_557 mw_558 mw_559 (s_X3_readKey l D cy L R O f30 hG a0 m_a0 r_a0 (by omega)) rfl rfl m_a0 r_a0 (fun e q => (T_3 e).mp q) rfl hl.1 rfl (Nat.le_of_ble_eq_true rfl) ⟨Nat.le_of_ble_eq_true rfl, Nat.le_of_ble_eq_true rfl⟩ ⟨Nat.le_of_ble_eq_true rfl, Nat.le_of_ble_eq_true rfl⟩ dX3_readScript_71 (fun v120 f119 H locs hp119 h => ?_)
                obtain ⟨hf119, hv120a, hv120b, hv120p0, hv120p1⟩ := hp119
                have ea121 : eli f119 (rfa f119 a0_script 10) 24 = eli f30 (rfa f30 a0_script 10) 24 := E0i hG.1 hf119 (by decide +kernel) m_a0_script r_a0_script sk10 rfl (by decide +kernel) _
                have hX : OB L R O a0_script f0 f119 := OB_tr hX (by have q := hv120p1; rw [rfa_of e40] at q; exact q)
                have hT : TK L R f119 a0 := TK_fr hT hf119 (by decide +kernel) m_a0 r_a0
                have hP : PNZ f119 a0_script := PNZ_fr hP hG.1 hf119 (by decide +kernel) (by decide +kernel) (by decide +kernel) m_a0_script r_a0_script
                have hRG : RG f119 a0 a0_script := RG_fr hRG hG.1 hf119 (by decide +kernel) (by decide +kernel) (by decide +kernel) (by decide +kernel) (by decide +kernel) (by decide +kernel) (by decide +kernel) (by decide +kernel) (by decide +kernel) (by decide +kernel) m_a0_script r_a0_script m_a0 r_a0 e41 m_a0_goSlots r_a0_goSlots
                have hG : GG L R O f119 := hG.fr hf119 (by decide +kernel) (by decide +kernel)
                have hk : fr L R [(3, 2), (3, 3), (3, 8), (3, 11), (3, 12), (3, 13), (6, 14), (6, 15), (6, 16), (6, 17), (6, 18)] [3, 6, 23, 30, 31, 32, 33, 35, 36, 37, 38, 39, 40, 41, 42, 43, 44, 59, 60] f0 f119 := hk.tr hf119 (by decide +kernel) (by decide +kernel)
                have hb23 : fr L R [(3, 2), (3, 3), (3, 11), (3, 12), (3, 13), (6, 14), (6, 15), (6, 16), (6, 17), (6, 18)] [3, 6, 23, 32, 33, 35, 36, 37, 38, 39, 40, 41, 42, 43] f19 f119 := hb23.tr hf119 (by decide +kernel) (by decide +kernel)
                have hb136 : fr L R [(3, 2), (3, 3), (3, 11), (3, 12), (3, 13), (6, 14), (6, 15), (6, 16), (6, 17), (6, 18)] [3, 6, 23, 32, 33, 35, 36, 37, 38, 39, 40, 41, 42, 43] f30 f119 := hb136.tr hf119 (by decide +kernel) (by decide +kernel)
                have e122 : fi f119 a0 8 = fi f30 a0 8 := hf119.efi m_a0 r_a0 rfl
                have e123 : fld f119 a0 1 = .ref a0_script := (hf119.efl m_a0 r_a0 rfl).trans e40
                have e124 : fi f119 a0_script 14 = fi f30 a0_script 14 := hf119.efi m_a0_script r_a0_script rfl
                have e125 : fld f119 a0 10 = .ref a0_goSlots := (hf119.efl m_a0 r_a0 rfl).trans e41
                have e126 : fi f119 a0_script 17 = fi f30 a0_script 17 := hf119.efi m_a0_script r_a0_script rfl
                have e127 : fi f119 a0_script 18 = fi f30 a0_script 18 := hf119.efi m_a0_script r_a0_script rfl
                have e128 : fi f119 a0 11 = fi f30 a0 11 := hf119.efi m_a0 r_a0 rfl
                refine lv_istore_n (lv' := [(3, .int v120), (0, .ref a0), (4, .int x4_23)]) F.1 F.2.1 dX3_readScript_74 rfl hl (by decide) rfl (fun ls hl => ?_)
                refine lv_goto (tgt := 136) F.1 F.2.1 dX3_readScript_75 (by decide) ?_
                exact j_136 f119 _ _ _ v120 (by omega) (by omega) (by omega) (by omega) (by omega) (Hid.mk (Or.inr hRG)) h hG hX hT hP hk hb136 (lv_sub hl [1, 0, 2] rfl)
            · refine lv_aload_n F.1 F.2.1 dX3_readScript_52 rfl (lv_at hl 0 rfl) ?_
              refine tw_Vi (As := []) F hZ h yk_X3_readTurn mw_531 mw_532 mw_533 (s_X3_readTurn l D cy L R O f30 hG a0 m_a0 r_a0 (by omega)) rfl rfl m_a0 r_a0 (fun e q => (T_3 e).mp q) rfl hl.1 rfl (Nat.le_of_ble_eq_true rfl) ⟨Nat.le_of_ble_eq_true rfl, Nat.le_of_ble_eq_true rfl⟩ ⟨Nat.le_of_ble_eq_true rfl, Nat.le_of_ble_eq_true rfl⟩ dX3_readScript_53 (fun v130 f129 H locs hp129 h => ?_)
              obtain ⟨hf129, hv130a, hv130b, hv130p0, hv130p1⟩ := hp129
              have ea131 : eli f129 (rfa f129 a0_script 10) 24 = eli f30 (rfa f30 a0_script 10) 24 := E0i hG.1 hf129 (by decide +kernel) m_a0_script r_a0_script sk10 rfl (by decide +kernel) _
              have hX : OB L R O a0_script f0 f129 := OB_tr hX (by have q := hv130p1; rw [rfa_of e40] at q; exact q)
              have hT : TK L R f129 a0 := TK_fr hT hf129 (by decide +kernel) m_a0 r_a0
              have hP : PNZ f129 a0_script := PNZ_fr hP hG.1 hf129 (by decide +kernel) (by decide +kernel) (by decide +kernel) m_a0_script r_a0_script
              have hRG : RG f129 a0 a0_script := RG_fr hRG hG.1 hf129 (by decide +kernel) (by decide +kernel) (by decide +kernel) (by decide +kernel) (by decide +kernel) (by decide +kernel) (by decide +kernel) (by decide +kernel) (by decide +kernel) (by decide +kernel) m_a0_script r_a0_script m_a0 r_a0 e41 m_a0_goSlots r_a0_goSlots
              have hG : GG L R O f129 := hG.fr hf129 (by decide +kernel) (by decide +kernel)
              have hk : fr L R [(3, 2), (3, 3), (3, 8), (3, 11), (3, 12), (3, 13), (6, 14), (6, 15), (6, 16), (6, 17), (6, 18)] [3, 6, 23, 30, 31, 32, 33, 35, 36, 37, 38, 39, 40, 41, 42, 43, 44, 59, 60] f0 f129 := hk.tr hf129 (by decide +kernel) (by decide +kernel)
              have hb23 : fr L R [(3, 2), (3, 3), (3, 11), (3, 12), (3, 13), (6, 14), (6, 15), (6, 16), (6, 17), (6, 18)] [3, 6, 23, 32, 33, 35, 36, 37, 38, 39, 40, 41, 42, 43] f19 f129 := hb23.tr hf129 (by decide +kernel) (by decide +kernel)
              have hb136 : fr L R [(3, 2), (3, 3), (3, 11), (3, 12), (3, 13), (6, 14), (6, 15), (6, 16), (6, 17), (6, 18)] [3, 6, 23, 32, 33, 35, 36, 37, 38, 39, 40, 41, 42, 43] f30 f129 := hb136.tr hf129 (by decide +kernel) (by decide +kernel)
              have e132 : fi f129 a0 8 = fi f30 a0 8 := hf129.efi m_a0 r_a0 rfl
              have e133 : fld f129 a0 1 = .ref a0_script := (hf129.efl m_a0 r_a0 rfl).trans e40
              have e134 : fi f129 a0_script 14 = fi f30 a0_script 14 := hf129.efi m_a0_script r_a0_script rfl
              have e135 : fld f129 a0 10 = .ref a0_goSlots := (hf129.efl m_a0 r_a0 rfl).trans e41
              have e136 : fi f129 a0_script 17 = fi f30 a0_script 17 := hf129.efi m_a0_script r_a0_script rfl
              have e137 : fi f129 a0_script 18 = fi f30 a0_script 18 := hf129.efi m_a0_script r_a0_script rfl
              have e138 : fi f129 a0 11 = fi f30 a0 11 := hf129.efi m_a0 r_a0 rfl
              refine lv_istore_n (lv' := [(3, .int v130), (0, .ref a0), (4, .int x4_23)]) F.1 F.2.1 dX3_readScript_56 rfl hl (by decide) rfl (fun ls hl => ?_)
              refine lv_goto (tgt := 136) F.1 F.2.1 dX3_readScript_57 (by decide) ?_
              exact j_136 f129 _ _ _ v130 (by omega) (by omega) (by omega) (by omega) (by omega) (Hid.mk (Or.inr hRG)) h hG hX hT hP hk hb136 (lv_sub hl [1, 0, 2] rfl)
  have hb23 : fr L R [(3, 2), (3, 3), (3, 11), (3, 12), (3, 13), (6, 14), (6, 15), (6, 16), (6, 17), (6, 18)] [3, 6, 23, 32, 33, 35, 36, 37, 38, 39, 40, 41, 42, 43] f19 f19 := fr.rf
  exact j_23 (((600 - z29.toInt)).toNat + 1) f19 _ _ _ z28 z29 (by omega) (by omega) (by omega) (by omega) (by omega) (by omega) (by omega) (Hid.mk (Or.inr rg1)) (by omega) h hG hX hT hP hk hb23 (lv_sub hl [2, 1, 0] rfl)
