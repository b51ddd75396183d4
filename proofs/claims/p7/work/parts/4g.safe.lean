theorem dX3_readAnswers_0 : decode cX3_readAnswers 0 = .ok (.iconst 0, 1) := by decide +kernel
theorem dX3_readAnswers_1 : decode cX3_readAnswers 1 = .ok (.istore_n 3, 1) := by decide +kernel
theorem dX3_readAnswers_2 : decode cX3_readAnswers 2 = .ok (.iload_n 3, 1) := by decide +kernel
theorem dX3_readAnswers_3 : decode cX3_readAnswers 3 = .ok (.iconst 4, 1) := by decide +kernel
theorem dX3_readAnswers_4 : decode cX3_readAnswers 4 = .ok (.if_icmp .ge 108, 3) := by decide +kernel
theorem dX3_readAnswers_7 : decode cX3_readAnswers 7 = .ok (.iload_n 1, 1) := by decide +kernel
theorem dX3_readAnswers_8 : decode cX3_readAnswers 8 = .ok (.iconst 4, 1) := by decide +kernel
theorem dX3_readAnswers_9 : decode cX3_readAnswers 9 = .ok (.imul, 1) := by decide +kernel
theorem dX3_readAnswers_10 : decode cX3_readAnswers 10 = .ok (.iload_n 3, 1) := by decide +kernel
theorem dX3_readAnswers_11 : decode cX3_readAnswers 11 = .ok (.iadd, 1) := by decide +kernel
theorem dX3_readAnswers_12 : decode cX3_readAnswers 12 = .ok (.istore 4, 2) := by decide +kernel
theorem dX3_readAnswers_14 : decode cX3_readAnswers 14 = .ok (.aload_n 0, 1) := by decide +kernel
theorem dX3_readAnswers_15 : decode cX3_readAnswers 15 = .ok (.ldc2_w 206, 3) := by decide +kernel
theorem mw_598 : Cond.constantLong RX3 206 (239) ∈ wsL_law := inr_25 _ (List.mem_of_getElem? (i := 22) rfl)
theorem kl_239 : (239 : Int64).toInt = 239 := by decide +kernel
theorem dX3_readAnswers_18 : decode cX3_readAnswers 18 = .ok (.invokevirtual 93, 3) := by decide +kernel
theorem dX3_readAnswers_43 : decode cX3_readAnswers 43 = .ok (.istore 5, 2) := by decide +kernel
theorem dX3_readAnswers_45 : decode cX3_readAnswers 45 = .ok (.iload 5, 2) := by decide +kernel
theorem dX3_readAnswers_47 : decode cX3_readAnswers 47 = .ok (.ifCond .ne 5, 3) := by decide +kernel
theorem dX3_readAnswers_52 : decode cX3_readAnswers 52 = .ok (.aload_n 0, 1) := by decide +kernel
theorem dX3_readAnswers_53 : decode cX3_readAnswers 53 = .ok (.getfield 21, 3) := by decide +kernel
theorem dX3_readAnswers_56 : decode cX3_readAnswers 56 = .ok (.getfield 197, 3) := by decide +kernel
theorem mw_599 : Cond.fieldLink RX3 197 "AskBack$Script" "answerCounts" "[I" ∈ wsL_law := inr_25 _ (List.mem_of_getElem? (i := 23) rfl)
section
variable {p : Program} {l : Launch} {e : Env} {R0 : Room} {s : State} {m : MethodId} {args : Array Value} {below : List Frame} {meth : Method} {c : Code} {H H0 : Heap} {locs : List Loc} {cells slots : Nat} {Q : State → Prop} {cc : ByteArray} {nL : Nat} {D : va_G} {cy : Nat → ClassId} {A : Nat → Prop} {L : List Nat} {R : Nat → Nat} {f : Nat → va_E} {pc : Nat} {ls : Array Slot} {rest : List Value} {a : Nat}
theorem g_3_197 (F : CallFix p m c cc nL s args wsL_law RX3) (h : tS D cy A H0 L R (TT cy L R) f s H locs) (ha : a ∈ L) (hr : R a = 6) (hdg : decode cc pc = .ok (.getfield 197, 3)) (kk : ∀ b : Nat, b ∈ L → R b = 41 → fld f a 10 = .ref b → W p l e R0 s m args below meth c H locs cells slots Q (F0 m (pc + 3) ls (.ref b :: rest))) : W p l e R0 s m args below meth c H locs cells slots Q (F0 m pc ls (.ref a :: rest)) := tu_getr F h ha hr (fun e q => (T_6 e).mp q) rfl inlX6 rfl (Nat.le_of_ble_eq_true rfl) mw_599 hdg kk
end
theorem dX3_readAnswers_59 : decode cX3_readAnswers 59 = .ok (.iload_n 1, 1) := by decide +kernel
theorem dX3_readAnswers_60 : decode cX3_readAnswers 60 = .ok (.iload_n 3, 1) := by decide +kernel
theorem dX3_readAnswers_61 : decode cX3_readAnswers 61 = .ok (.iconst 1, 1) := by decide +kernel
theorem dX3_readAnswers_62 : decode cX3_readAnswers 62 = .ok (.iadd, 1) := by decide +kernel
theorem dX3_readAnswers_63 : decode cX3_readAnswers 63 = .ok (.iastore, 1) := by decide +kernel
theorem dX3_readAnswers_64 : decode cX3_readAnswers 64 = .ok (.iload_n 2, 1) := by decide +kernel
theorem dX3_readAnswers_65 : decode cX3_readAnswers 65 = .ok (.ifCond .ne 13, 3) := by decide +kernel
theorem dX3_readAnswers_78 : decode cX3_readAnswers 78 = .ok (.aload_n 0, 1) := by decide +kernel
theorem dX3_readAnswers_79 : decode cX3_readAnswers 79 = .ok (.invokevirtual 166, 3) := by decide +kernel
theorem dX3_readAnswers_82 : decode cX3_readAnswers 82 = .ok (.ireturn, 1) := by decide +kernel
theorem dX3_readAnswers_68 : decode cX3_readAnswers 68 = .ok (.aload_n 0, 1) := by decide +kernel
theorem dX3_readAnswers_69 : decode cX3_readAnswers 69 = .ok (.ldc2_w 214, 3) := by decide +kernel
theorem mw_600 : Cond.constantLong RX3 214 (498) ∈ wsL_law := inr_26 _ (List.mem_of_getElem? (i := 0) rfl)
theorem kl_498 : (498 : Int64).toInt = 498 := by decide +kernel
theorem dX3_readAnswers_72 : decode cX3_readAnswers 72 = .ok (.invokevirtual 93, 3) := by decide +kernel
theorem dX3_readAnswers_75 : decode cX3_readAnswers 75 = .ok (.ifCond .ne 8, 3) := by decide +kernel
theorem dX3_readAnswers_83 : decode cX3_readAnswers 83 = .ok (.iload_n 3, 1) := by decide +kernel
theorem dX3_readAnswers_84 : decode cX3_readAnswers 84 = .ok (.iconst 1, 1) := by decide +kernel
theorem dX3_readAnswers_85 : decode cX3_readAnswers 85 = .ok (.iadd, 1) := by decide +kernel
theorem dX3_readAnswers_86 : decode cX3_readAnswers 86 = .ok (.iconst 4, 1) := by decide +kernel
theorem dX3_readAnswers_87 : decode cX3_readAnswers 87 = .ok (.if_icmp .lt 9, 3) := by decide +kernel
theorem dX3_readAnswers_96 : decode cX3_readAnswers 96 = .ok (.aload_n 0, 1) := by decide +kernel
theorem dX3_readAnswers_97 : decode cX3_readAnswers 97 = .ok (.dup, 1) := by decide +kernel
theorem dX3_readAnswers_98 : decode cX3_readAnswers 98 = .ok (.getfield 58, 3) := by decide +kernel
theorem dX3_readAnswers_101 : decode cX3_readAnswers 101 = .ok (.iconst 1, 1) := by decide +kernel
theorem dX3_readAnswers_102 : decode cX3_readAnswers 102 = .ok (.iadd, 1) := by decide +kernel
theorem dX3_readAnswers_103 : decode cX3_readAnswers 103 = .ok (.putfield 58, 3) := by decide +kernel
theorem dX3_readAnswers_106 : decode cX3_readAnswers 106 = .ok (.iinc 3 1, 3) := by decide +kernel
theorem dX3_readAnswers_109 : decode cX3_readAnswers 109 = .ok (.goto (-107), 3) := by decide +kernel
theorem dX3_readAnswers_90 : decode cX3_readAnswers 90 = .ok (.aload_n 0, 1) := by decide +kernel
theorem dX3_readAnswers_91 : decode cX3_readAnswers 91 = .ok (.iconst 5, 1) := by decide +kernel
theorem dX3_readAnswers_92 : decode cX3_readAnswers 92 = .ok (.invokevirtual 75, 3) := by decide +kernel
theorem dX3_readAnswers_95 : decode cX3_readAnswers 95 = .ok (.ireturn, 1) := by decide +kernel
theorem dX3_readAnswers_50 : decode cX3_readAnswers 50 = .ok (.iconst 0, 1) := by decide +kernel
theorem dX3_readAnswers_51 : decode cX3_readAnswers 51 = .ok (.ireturn, 1) := by decide +kernel
theorem dX3_readAnswers_37 : decode cX3_readAnswers 37 = .ok (.aload_n 0, 1) := by decide +kernel
theorem dX3_readAnswers_38 : decode cX3_readAnswers 38 = .ok (.iload 4, 2) := by decide +kernel
theorem dX3_readAnswers_40 : decode cX3_readAnswers 40 = .ok (.invokevirtual 211, 3) := by decide +kernel
theorem mw_605 : Cond.methodLink RX3 211 yX3_readPieces ∈ wsL_law := inr_26 _ (List.mem_of_getElem? (i := 5) rfl)
theorem mw_608 : Cond.code yX3_readPieces cX3_readPieces 4 (some .boolean) ∈ wsL_law := inr_26 _ (List.mem_of_getElem? (i := 8) rfl)
theorem yk_X3_readPieces : xY yX3_readPieces RX3 cX3_readPieces 4 (some .boolean) 1 := ⟨⟨rfl, by decide +kernel, by decide +kernel, by decide +kernel⟩, mw_19, mw_608⟩
theorem mw_606 : Cond.instanceMethod yX3_readPieces ∈ wsL_law := inr_26 _ (List.mem_of_getElem? (i := 6) rfl)
theorem mw_607 : Cond.selects RX3 yX3_readPieces yX3_readPieces ∈ wsL_law := inr_26 _ (List.mem_of_getElem? (i := 7) rfl)
theorem dX3_readAnswers_21 : decode cX3_readAnswers 21 = .ok (.ifCond .eq 16, 3) := by decide +kernel
theorem dX3_readAnswers_24 : decode cX3_readAnswers 24 = .ok (.iload_n 2, 1) := by decide +kernel
theorem dX3_readAnswers_25 : decode cX3_readAnswers 25 = .ok (.ifCond .ne 12, 3) := by decide +kernel
theorem dX3_readAnswers_28 : decode cX3_readAnswers 28 = .ok (.aload_n 0, 1) := by decide +kernel
theorem dX3_readAnswers_29 : decode cX3_readAnswers 29 = .ok (.iload 4, 2) := by decide +kernel
theorem dX3_readAnswers_31 : decode cX3_readAnswers 31 = .ok (.invokevirtual 208, 3) := by decide +kernel
theorem mw_601 : Cond.methodLink RX3 208 yX3_readGo ∈ wsL_law := inr_26 _ (List.mem_of_getElem? (i := 1) rfl)
theorem mw_604 : Cond.code yX3_readGo cX3_readGo 2 (some .boolean) ∈ wsL_law := inr_26 _ (List.mem_of_getElem? (i := 4) rfl)
theorem yk_X3_readGo : xY yX3_readGo RX3 cX3_readGo 2 (some .boolean) 1 := ⟨⟨rfl, by decide +kernel, by decide +kernel, by decide +kernel⟩, mw_19, mw_604⟩
theorem mw_602 : Cond.instanceMethod yX3_readGo ∈ wsL_law := inr_26 _ (List.mem_of_getElem? (i := 2) rfl)
theorem mw_603 : Cond.selects RX3 yX3_readGo yX3_readGo ∈ wsL_law := inr_26 _ (List.mem_of_getElem? (i := 3) rfl)
theorem dX3_readAnswers_34 : decode cX3_readAnswers 34 = .ok (.goto 9, 3) := by decide +kernel
def rm_X3_readAnswers : Room := { frames := 3, cells := 0, slots := 0, locals := 68 }
set_option maxHeartbeats 1000000 in
set_option maxRecDepth 100000 in
theorem s_X3_readAnswers (l : Launch) (D : va_G) (cy : Nat → ClassId) (L : List Nat) (R O : Nat → Nat) (f0 : Nat → va_E) (hG : GG L R O f0) (a0 : Nat) (m_a0 : a0 ∈ L) (r_a0 : R a0 = 3) (x1 : Int32) (b1 : 0 ≤ x1.toInt ∧ x1.toInt ≤ 24) (x2 : Int32) (b2 : 0 ≤ x2.toInt ∧ x2.toInt ≤ 1) (pre0 : TK L R f0 a0) (pre1 : PNZ f0 (rfa f0 a0 1)) (pre2 : fi f0 (rfa f0 a0 1) 14 ≤ fi f0 a0 12) (pre3 : fi f0 a0 11 ≤ 96) (pre4 : (x1.toInt = 0 → AC0 f0 (rfa f0 a0 1) = 0)) : ∀ sz, Met l yX3_readAnswers (Cond.code yX3_readAnswers cX3_readAnswers 6 (some .boolean) :: wsL_law) rm_X3_readAnswers (va_Pc [.ref a0, .int x1, .int x2] (tPZ D cy L R (TT cy L R) f0 sz)) (va_Qi (fun (r : Int32) f1 => fr L R [(3, 2), (3, 3), (3, 11), (3, 12), (6, 14)] [3, 6, 32, 33, 35, 41, 42, 43] f0 f1 ∧ 0 ≤ r.toInt ∧ r.toInt ≤ 1 ∧ GG L R O f1 ∧ fi f0 a0 12 ≤ fi f1 a0 12 ∧ PNZ f1 (rfa f0 a0 1) ∧ fi f1 (rfa f0 a0 1) 14 ≤ fi f1 a0 12 ∧ (r.toInt = 0 ∨ (x1.toInt = 0 → 1 ≤ AC0 f1 (rfa f0 a0 1) ∧ (∀ d : Nat, (d : Int) < AC0 f1 (rfa f0 a0 1) → VSd f1 (rfa f0 a0 1) d ∨ GOd f1 a0 d) ∧ (x2.toInt = 1 → VSd f1 (rfa f0 a0 1) 0))) ∧ (x1.toInt ≠ 0 → AC0 f1 (rfa f0 a0 1) = AC0 f0 (rfa f0 a0 1) ∧ ∀ d, d < 4 → VSd f0 (rfa f0 a0 1) d → VSd f1 (rfa f0 a0 1) d) ∧ (∀ d, GOd f0 a0 d → GOd f1 a0 d) ∧ fi f1 a0 11 ≤ fi f0 a0 11 + 4 ∧ (r.toInt = 0 ∨ 1 ≤ eli f1 (rfa f1 (rfa f0 a0 1) 10) x1.toInt.toNat) ∧ (x1.toInt ≠ 24 → eli f1 (rfa f1 (rfa f0 a0 1) 10) 24 = eli f0 (rfa f0 (rfa f0 a0 1) 10) 24) ∧ OB L R O (rfa f0 a0 1) f0 f1) (tB D (tA L sz) L R (TT cy L R)) (tA L sz)) 0 0 (tA L sz) := by
  refine tw_enteri (by decide +kernel) rfl (Nat.le_of_ble_eq_true rfl) ?_
  intro p e s m below meth c A ls args Q F hZ h hl hret
  have hl : lv_has ls 6 [(0, .ref a0), (1, .int x1), (2, .int x2)] := hl
  have hk : fr L R [(3, 2), (3, 3), (3, 11), (3, 12), (6, 14)] [3, 6, 32, 33, 35, 41, 42, 43] f0 f0 := fr.rf
  have t_a0_at := h.bfi m_a0 r_a0 (fun e q => (T_3 e).mp q) (k := 12) rfl
  have t_a0_tokenCount := h.bfi m_a0 r_a0 (fun e q => (T_3 e).mp q) (k := 8) rfl
  obtain ⟨a0_script, m_a0_script, r_a0_script, t_a0_script⟩ := h.rf m_a0 r_a0 (fun e q => (T_3 e).mp q) (k := 1) rfl
  have t_a0_script_partCount := h.bfi m_a0_script r_a0_script (fun e q => (T_6 e).mp q) (k := 14) rfl
  obtain ⟨a0_goSlots, m_a0_goSlots, r_a0_goSlots, t_a0_goSlots⟩ := h.rf m_a0 r_a0 (fun e q => (T_3 e).mp q) (k := 10) rfl
  have t_a0_goCount := h.bfi m_a0 r_a0 (fun e q => (T_3 e).mp q) (k := 11) rfl
  have hs1 := rfa_of t_a0_script
  rw [hs1] at pre1 pre2 pre4
  have hT := pre0
  have hP := pre1
  have hGm : ∀ d, GOd f0 a0 d → GOd f0 a0 d := fun _ q => q
  have hVm : Hid (x1.toInt ≠ 0 → ∀ d, d < 4 → VSd f0 a0_script d → VSd f0 a0_script d) := Hid.mk (fun _ _ _ q => q)
  have hAC : Hid (x1.toInt ≠ 0 → AC0 f0 a0_script = AC0 f0 a0_script) := Hid.mk (fun _ => rfl)
  have h24 : Hid (x1.toInt ≠ 24 → eli f0 (rfa f0 a0_script 10) 24 = eli f0 (rfa f0 a0_script 10) 24) := Hid.mk (fun _ => rfl)
  have pre4h := Hid.mk pre4
  clear pre4
  have hX : OB L R O a0_script f0 f0 := OB_rf
  refine tw_iconst F dX3_readAnswers_0 ki_0 (fun z1 hz1 => ?_)
  refine lv_istore_n (lv' := [(3, .int z1), (0, .ref a0), (1, .int x1), (2, .int x2)]) F.1 F.2.1 dX3_readAnswers_1 rfl hl (by decide) rfl (fun ls hl => ?_)
  have j_2 : ∀ (n2 : Nat) (f2 : Nat → va_E) (H : Heap) (locs : List Loc) (ls : Array Slot) (x3_2 : Int32), 0 ≤ x3_2.toInt → x3_2.toInt ≤ 3 → fi f2 a0_script 14 ≤ fi f2 a0 12 → fi f0 a0 12 ≤ fi f2 a0 12 → fi f2 a0 8 = fi f0 a0 8 → fi f2 a0 11 ≤ fi f0 a0 11 + x3_2.toInt → (Hid (x1.toInt = 0 → AC0 f2 a0_script = x3_2.toInt ∧ (∀ d : Nat, (d : Int) < x3_2.toInt → VSd f2 a0_script d ∨ GOd f2 a0 d) ∧ (x2.toInt = 1 → 1 ≤ x3_2.toInt → VSd f2 a0_script 0))) → ((3 - x3_2.toInt)).toNat < n2 → tS D cy A s.heap L R (TT cy L R) f2 s H locs → GG L R O f2 → OB L R O a0_script f0 f2 → TK L R f2 a0 → PNZ f2 a0_script → (∀ d, GOd f0 a0 d → GOd f2 a0 d) → Hid (x1.toInt ≠ 0 → ∀ d, d < 4 → VSd f0 a0_script d → VSd f2 a0_script d) → Hid (x1.toInt ≠ 0 → AC0 f2 a0_script = AC0 f0 a0_script) → Hid (x1.toInt ≠ 24 → eli f2 (rfa f2 a0_script 10) 24 = eli f0 (rfa f0 a0_script 10) 24) → fr L R [(3, 2), (3, 3), (3, 11), (3, 12), (6, 14)] [3, 6, 32, 33, 35, 41, 42, 43] f0 f2 → fr L R [(3, 2), (3, 3), (3, 11), (3, 12), (6, 14)] [3, 6, 32, 33, 35, 41, 42, 43] f0 f2 → lv_has ls 6 [(0, .ref a0), (1, .int x1), (2, .int x2), (3, .int x3_2)] → W p l e rm_X3_readAnswers s m args below meth c H locs 0 0 Q (F0 m 2 ls []) := by
    intro n2
    induction n2 with
    | zero =>
      intro f2 H locs ls x3_2 b3 b4 b5 b6 b7 b8 ip2_0 b9 h hG hX hT hP hGm hVm hAC h24 hk hb2 hl
      exfalso
      omega
    | succ n2 ih2 =>
      intro f2 H locs ls x3_2 b3 b4 b5 b6 b7 b8 ip2_0 b9 h hG hX hT hP hGm hVm hAC h24 hk hb2 hl
      have e10 : fi f2 a0 8 = fi f0 a0 8 := hb2.efi m_a0 r_a0 rfl
      have e11 : fld f2 a0 1 = .ref a0_script := (hb2.efl m_a0 r_a0 rfl).trans t_a0_script
      have e12 : fld f2 a0 10 = .ref a0_goSlots := (hb2.efl m_a0 r_a0 rfl).trans t_a0_goSlots
      refine lv_iload_n F.1 F.2.1 dX3_readAnswers_2 rfl (lv_at hl 3 rfl) ?_
      refine tw_iconst F dX3_readAnswers_3 ki_4 (fun z13 hz13 => ?_)
      refine tw_icmp_ge (tgt := 112) F dX3_readAnswers_4 (by decide) (fun b14 => ?_) (fun b14 => ?_)
      · exfalso
        omega
      · refine lv_iload_n F.1 F.2.1 dX3_readAnswers_7 rfl (lv_at hl 1 rfl) ?_
        refine tw_iconst F dX3_readAnswers_8 ki_4 (fun z15 hz15 => ?_)
        refine tu_imulr F dX3_readAnswers_9 hz15 (by omega) (fun z16 hz16 => ?_)
        refine lv_iload_n F.1 F.2.1 dX3_readAnswers_10 rfl (lv_at hl 3 rfl) ?_
        refine tu_iadd F dX3_readAnswers_11 (by omega) (fun z17 hz17 => ?_)
        refine lv_istore (lv' := [(4, .int z17), (0, .ref a0), (1, .int x1), (2, .int x2), (3, .int x3_2)]) F.1 F.2.1 dX3_readAnswers_12 hl (by decide) rfl (fun ls hl => ?_)
        have ow43 := hG.1
        have hGm43 := hGm
        refine lv_aload_n F.1 F.2.1 dX3_readAnswers_14 rfl (lv_at hl 1 rfl) ?_
        refine tu_ldc2 F mw_598 dX3_readAnswers_15 kl_239 (fun z18 hz18 => ?_)
        refine tw_Vi (As := [.long z18]) F hZ h yk_X3_isThe mw_527 mw_528 mw_529 (s_X3_isThe l D cy L R O f2 a0 m_a0 r_a0 z18) rfl rfl m_a0 r_a0 (fun e q => (T_3 e).mp q) rfl hl.1 rfl (Nat.le_of_ble_eq_true rfl) ⟨Nat.le_of_ble_eq_true rfl, Nat.le_of_ble_eq_true rfl⟩ ⟨Nat.le_of_ble_eq_true rfl, Nat.le_of_ble_eq_true rfl⟩ dX3_readAnswers_18 (fun v20 f19 H locs hp19 h => ?_)
        obtain ⟨rfl, hv20a, hv20b, hv20p0⟩ := hp19
        have j_43 : ∀ (f21 : Nat → va_E) (H : Heap) (locs : List Loc) (ls : Array Slot) (y0_43 : Int32), 0 ≤ y0_43.toInt → y0_43.toInt ≤ 1 → fi f21 a0_script 14 ≤ fi f21 a0 12 → fi f0 a0 12 ≤ fi f21 a0 12 → fi f21 a0 8 = fi f0 a0 8 → fi f21 a0 11 ≤ fi f0 a0 11 + x3_2.toInt + 1 → (Hid (y0_43.toInt = 0 ∨ VSd f21 a0_script z17.toInt.toNat ∨ GOd f21 a0 z17.toInt.toNat)) → (Hid (y0_43.toInt = 0 ∨ x2.toInt = 0 ∨ VSd f21 a0_script z17.toInt.toNat)) → ((∀ d, d ≠ z17.toInt.toNat → VSd f2 a0_script d → VSd f21 a0_script d)) → ((∀ d, GOd f2 a0 d → GOd f21 a0 d)) → (AC0 f21 a0_script = AC0 f2 a0_script) → tS D cy A s.heap L R (TT cy L R) f21 s H locs → GG L R O f21 → OB L R O a0_script f0 f21 → TK L R f21 a0 → PNZ f21 a0_script → (∀ d, GOd f0 a0 d → GOd f21 a0 d) → Hid (x1.toInt ≠ 0 → ∀ d, d < 4 → VSd f0 a0_script d → VSd f21 a0_script d) → Hid (x1.toInt ≠ 0 → AC0 f21 a0_script = AC0 f0 a0_script) → Hid (x1.toInt ≠ 24 → eli f21 (rfa f21 a0_script 10) 24 = eli f0 (rfa f0 a0_script 10) 24) → fr L R [(3, 2), (3, 3), (3, 11), (3, 12), (6, 14)] [3, 6, 32, 33, 35, 41, 42, 43] f0 f21 → fr L R [(3, 2), (3, 3), (3, 11), (3, 12), (6, 14)] [3, 6, 32, 33, 35, 42, 43] f2 f21 → lv_has ls 6 [(0, .ref a0), (1, .int x1), (2, .int x2), (3, .int x3_2), (4, .int z17)] → W p l e rm_X3_readAnswers s m args below meth c H locs 0 0 Q (F0 m 43 ls [.int y0_43]) := by
          intro f21 H locs ls y0_43 b22 b23 b24 b25 b26 b27 ip43_0 ip43_1 ip43_2 ip43_3 ip43_4 h hG hX hT hP hGm hVm hAC h24 hk hb43 hl
          have hb2 : fr L R [(3, 2), (3, 3), (3, 11), (3, 12), (6, 14)] [3, 6, 32, 33, 35, 41, 42, 43] f0 f21 := hb2.tr hb43 rfl (by decide +kernel)
          have e28 : fi f21 a0 8 = fi f2 a0 8 := hb43.efi m_a0 r_a0 rfl
          have e29 : fld f21 a0 1 = .ref a0_script := (hb43.efl m_a0 r_a0 rfl).trans e11
          have e30 : fld f21 a0 10 = .ref a0_goSlots := (hb43.efl m_a0 r_a0 rfl).trans e12
          refine lv_istore (lv' := [(5, .int y0_43), (0, .ref a0), (1, .int x1), (2, .int x2), (3, .int x3_2), (4, .int z17)]) F.1 F.2.1 dX3_readAnswers_43 hl (by decide) rfl (fun ls hl => ?_)
          refine lv_iload F.1 F.2.1 dX3_readAnswers_45 (lv_at hl 0 rfl) ?_
          refine tw_if_ne (tgt := 52) F dX3_readAnswers_47 (by decide) (fun b31 => ?_) (fun b31 => ?_)
          · have r0 : Hid (x1.toInt = 0 → AC0 f21 a0_script = x3_2.toInt ∧ (∀ d : Nat, (d : Int) < x3_2.toInt + 1 → VSd f21 a0_script d ∨ GOd f21 a0 d) ∧ (x2.toInt = 1 → VSd f21 a0_script 0)) := Hid.mk (fun q0 => ⟨by rw [ip43_4]; exact (ip2_0.g q0).1, fun d hd => if e : d = z17.toInt.toNat then (by rw [e]; exact ip43_0.g.resolve_left (by omega)) else ((ip2_0.g q0).2.1 d (by omega)).imp (fun q => ip43_2 d e q) (fun q => ip43_3 d q), fun q1 => if e : (0 : Nat) = z17.toInt.toNat then (by rw [e]; exact (ip43_1.g.resolve_left (by omega)).resolve_left (by omega)) else ip43_2 0 e ((ip2_0.g q0).2.2 q1 (by omega))⟩)
            refine lv_aload_n F.1 F.2.1 dX3_readAnswers_52 rfl (lv_at hl 1 rfl) ?_
            refine g_3_21 F h m_a0 r_a0 dX3_readAnswers_53 (fun o32 m_o32 r_o32 ho32 => ?_)
            obtain rfl := (fld_inj e29 ho32).symm
            refine g_3_197 F h m_a0_script r_a0_script dX3_readAnswers_56 (fun o33 m_o33 r_o33 ho33 => ?_)
            refine lv_iload_n F.1 F.2.1 dX3_readAnswers_59 rfl (lv_at hl 2 rfl) ?_
            refine lv_iload_n F.1 F.2.1 dX3_readAnswers_60 rfl (lv_at hl 4 rfl) ?_
            refine tw_iconst F dX3_readAnswers_61 ki_1 (fun z34 hz34 => ?_)
            refine tu_iadd F dX3_readAnswers_62 (by omega) (fun z35 hz35 => ?_)
            have hACo := hAC
            have h24o := h24
            have owb := hG.1
            refine se_41 F h m_o33 r_o33 (by omega) (by omega) dX3_readAnswers_63 (fun f36 H locs e36a e36b hf36 h => ?_)
            have hX : OB L R O a0_script f0 f36 := OB_o hX e36b (OWa hG.1 m_a0_script r_a0_script sk10 ho33)
            have hT : TK L R f36 a0 := TK_fr hT hf36 (by decide +kernel) m_a0 r_a0
            have hP : PNZ f36 a0_script := PNZ_fr hP hG.1 hf36 (by decide +kernel) (by decide +kernel) (by decide +kernel) m_a0_script r_a0_script
            have hGm : (∀ d, GOd f0 a0 d → GOd f36 a0 d) := (fun d q => GO_fr (hGm d q) hf36 (by decide +kernel) (by decide +kernel) (by decide +kernel) m_a0 r_a0 e30 m_a0_goSlots r_a0_goSlots)
            have hVm : Hid (x1.toInt ≠ 0 → ∀ d, d < 4 → VSd f0 a0_script d → VSd f36 a0_script d) := Hid.mk (fun q0 d hd q => VSd_fr (hVm.g q0 d hd q) hG.1 hf36 (by decide +kernel) (Int.le_of_eq (hf36.efi m_a0_script r_a0_script (by decide +kernel)).symm) (by decide +kernel) (by decide +kernel) m_a0_script r_a0_script)
            have hG : GG L R O f36 := hG.fr hf36 (by decide +kernel) (by decide +kernel)
            have hk : fr L R [(3, 2), (3, 3), (3, 11), (3, 12), (6, 14)] [3, 6, 32, 33, 35, 41, 42, 43] f0 f36 := hk.tr hf36 rfl rfl
            have hb2 : fr L R [(3, 2), (3, 3), (3, 11), (3, 12), (6, 14)] [3, 6, 32, 33, 35, 41, 42, 43] f0 f36 := hb2.tr hf36 rfl rfl
            have e37 : fi f36 a0 12 = fi f21 a0 12 := hf36.efi m_a0 r_a0 rfl
            have e38 : fi f36 a0 8 = fi f21 a0 8 := hf36.efi m_a0 r_a0 rfl
            have e39 : fld f36 a0 1 = .ref a0_script := (hf36.efl m_a0 r_a0 rfl).trans e29
            have e40 : fi f36 a0_script 14 = fi f21 a0_script 14 := hf36.efi m_a0_script r_a0_script rfl
            have e41 : fld f36 a0 10 = .ref a0_goSlots := (hf36.efl m_a0 r_a0 rfl).trans e30
            have e42 : fi f36 a0 11 = fi f21 a0 11 := hf36.efi m_a0 r_a0 rfl
            have n0 : a0_script ≠ o33 := ne_r r_a0_script r_o33 (by decide)
            have e10 : AC0 f36 a0_script = if (0 : Nat) = x1.toInt.toNat then z35.toInt else AC0 f21 a0_script := by unfold AC0; rw [rfa_o e36b n0, rfa_of ho33, e36a]
            have e10x : ∀ j, eli f36 (rfa f36 a0_script 10) j = if j = x1.toInt.toNat then z35.toInt else eli f21 (rfa f21 a0_script 10) j := fun j => by rw [rfa_o e36b n0, rfa_of ho33, e36a]
            have h24 : Hid (x1.toInt ≠ 24 → eli f36 (rfa f36 a0_script 10) 24 = eli f0 (rfa f0 a0_script 10) 24) := Hid.mk (fun q0 => by rw [e10x, if_neg (by omega)]; exact h24o.g q0)
            have p8 : eli f36 (rfa f36 a0_script 10) x1.toInt.toNat = x3_2.toInt + 1 := by rw [e10x, if_pos (by omega)]; omega
            have hAC : Hid (x1.toInt ≠ 0 → AC0 f36 a0_script = AC0 f0 a0_script) := Hid.mk (fun q0 => by rw [e10, if_neg (by omega)]; exact hACo.g q0)
            have r1 : Hid (x1.toInt = 0 → AC0 f36 a0_script = x3_2.toInt + 1 ∧ (∀ d : Nat, (d : Int) < x3_2.toInt + 1 → VSd f36 a0_script d ∨ GOd f36 a0 d) ∧ (x2.toInt = 1 → VSd f36 a0_script 0)) := Hid.mk (fun q0 => ⟨by rw [e10, if_pos (by omega)]; omega, fun d hd => ((r0.g q0).2.1 d hd).imp (fun q => VSd_fr q owb hf36 (by decide +kernel) (Int.le_of_eq (hf36.efi m_a0_script r_a0_script (by decide +kernel)).symm) (by decide +kernel) (by decide +kernel) m_a0_script r_a0_script) (fun q => GO_fr q hf36 (by decide +kernel) (by decide +kernel) (by decide +kernel) m_a0 r_a0 e30 m_a0_goSlots r_a0_goSlots), fun q1 => VSd_fr ((r0.g q0).2.2 q1) owb hf36 (by decide +kernel) (Int.le_of_eq (hf36.efi m_a0_script r_a0_script (by decide +kernel)).symm) (by decide +kernel) (by decide +kernel) m_a0_script r_a0_script⟩)
            refine lv_iload_n F.1 F.2.1 dX3_readAnswers_64 rfl (lv_at hl 3 rfl) ?_
            refine tw_if_ne (tgt := 78) F dX3_readAnswers_65 (by decide) (fun b43 => ?_) (fun b43 => ?_)
            · refine lv_aload_n F.1 F.2.1 dX3_readAnswers_78 rfl (lv_at hl 1 rfl) ?_
              have owe := hG.1
              refine tw_Vi (As := []) F hZ h yk_X3_readEnd mw_553 mw_554 mw_555 (s_X3_readEnd l D cy L R O f36 a0 m_a0 r_a0) rfl rfl m_a0 r_a0 (fun e q => (T_3 e).mp q) rfl hl.1 rfl (Nat.le_of_ble_eq_true rfl) ⟨Nat.le_of_ble_eq_true rfl, Nat.le_of_ble_eq_true rfl⟩ ⟨Nat.le_of_ble_eq_true rfl, Nat.le_of_ble_eq_true rfl⟩ dX3_readAnswers_79 (fun v45 f44 H locs hp44 h => ?_)
              obtain ⟨hf44, hv45a, hv45b, hv45p0⟩ := hp44
              have hX : OB L R O a0_script f0 f44 := OB_fr hX hf44 (by decide +kernel)
              have hT : TK L R f44 a0 := TK_fr hT hf44 (by decide +kernel) m_a0 r_a0
              have hP : PNZ f44 a0_script := PNZ_fr hP hG.1 hf44 (by decide +kernel) (by decide +kernel) (by decide +kernel) m_a0_script r_a0_script
              have hGm : (∀ d, GOd f0 a0 d → GOd f44 a0 d) := (fun d q => GO_fr (hGm d q) hf44 (by decide +kernel) (by decide +kernel) (by decide +kernel) m_a0 r_a0 e41 m_a0_goSlots r_a0_goSlots)
              have hVm : Hid (x1.toInt ≠ 0 → ∀ d, d < 4 → VSd f0 a0_script d → VSd f44 a0_script d) := Hid.mk (fun q0 d hd q => VSd_fr (hVm.g q0 d hd q) hG.1 hf44 (by decide +kernel) (Int.le_of_eq (hf44.efi m_a0_script r_a0_script (by decide +kernel)).symm) (by decide +kernel) (by decide +kernel) m_a0_script r_a0_script)
              have hAC : Hid (x1.toInt ≠ 0 → AC0 f44 a0_script = AC0 f0 a0_script) := Hid.mk (fun q0 => (AC0_fr hG.1 hf44 (by decide +kernel) (by decide +kernel) m_a0_script r_a0_script).trans (hAC.g q0))
              have h24 : Hid (x1.toInt ≠ 24 → eli f44 (rfa f44 a0_script 10) 24 = eli f0 (rfa f0 a0_script 10) 24) := Hid.mk (fun q0 => (E0i hG.1 hf44 (by decide +kernel) m_a0_script r_a0_script sk10 rfl (by decide +kernel) 24).trans (h24.g q0))
              have hG : GG L R O f44 := hG.fr hf44 (by decide +kernel) (by decide +kernel)
              have hk : fr L R [(3, 2), (3, 3), (3, 11), (3, 12), (6, 14)] [3, 6, 32, 33, 35, 41, 42, 43] f0 f44 := hk.tr hf44 rfl rfl
              have hb2 : fr L R [(3, 2), (3, 3), (3, 11), (3, 12), (6, 14)] [3, 6, 32, 33, 35, 41, 42, 43] f0 f44 := hb2.tr hf44 rfl rfl
              have e46 : fi f44 a0 8 = fi f36 a0 8 := hf44.efi m_a0 r_a0 rfl
              have e47 : fld f44 a0 1 = .ref a0_script := (hf44.efl m_a0 r_a0 rfl).trans e39
              have e48 : fi f44 a0_script 14 = fi f36 a0_script 14 := hf44.efi m_a0_script r_a0_script rfl
              have e49 : fld f44 a0 10 = .ref a0_goSlots := (hf44.efl m_a0 r_a0 rfl).trans e41
              have e50 : fi f44 a0 11 = fi f36 a0 11 := hf44.efi m_a0 r_a0 rfl
              exact hret f44 _ _ _ _ v45 dX3_readAnswers_82 (tw_nb (by omega)) ⟨hk, by omega, by omega, hG, by omega, by rw [hs1]; exact hP, by rw [hs1]; omega, Or.inr (fun q0 => by rw [hs1]; have r := r1.g q0; have eA := AC0_fr owe hf44 (by decide +kernel) (by decide +kernel) m_a0_script r_a0_script; exact ⟨by omega, fun d hd => (r.2.1 d (by omega)).imp (fun q => VSd_fr q owe hf44 (by decide +kernel) (Int.le_of_eq (hf44.efi m_a0_script r_a0_script (by decide +kernel)).symm) (by decide +kernel) (by decide +kernel) m_a0_script r_a0_script) (fun q => GO_fr q hf44 (by decide +kernel) (by decide +kernel) (by decide +kernel) m_a0 r_a0 e41 m_a0_goSlots r_a0_goSlots), fun q1 => VSd_fr (r.2.2 q1) owe hf44 (by decide +kernel) (Int.le_of_eq (hf44.efi m_a0_script r_a0_script (by decide +kernel)).symm) (by decide +kernel) (by decide +kernel) m_a0_script r_a0_script⟩), by rw [hs1]; exact fun q0 => ⟨hAC.g q0, hVm.g q0⟩, hGm, by omega, Or.inr (by rw [hs1, E0i owe hf44 (by decide +kernel) m_a0_script r_a0_script sk10 rfl (by decide +kernel)]; omega), by rw [hs1]; exact h24.g, by rw [hs1]; exact hX⟩ h
            · refine lv_aload_n F.1 F.2.1 dX3_readAnswers_68 rfl (lv_at hl 1 rfl) ?_
              refine tu_ldc2 F mw_600 dX3_readAnswers_69 kl_498 (fun z51 hz51 => ?_)
              refine tw_Vi (As := [.long z51]) F hZ h yk_X3_isThe mw_527 mw_528 mw_529 (s_X3_isThe l D cy L R O f36 a0 m_a0 r_a0 z51) rfl rfl m_a0 r_a0 (fun e q => (T_3 e).mp q) rfl hl.1 rfl (Nat.le_of_ble_eq_true rfl) ⟨Nat.le_of_ble_eq_true rfl, Nat.le_of_ble_eq_true rfl⟩ ⟨Nat.le_of_ble_eq_true rfl, Nat.le_of_ble_eq_true rfl⟩ dX3_readAnswers_72 (fun v53 f52 H locs hp52 h => ?_)
              obtain ⟨rfl, hv53a, hv53b, hv53p0⟩ := hp52
              refine tw_if_ne (tgt := 83) F dX3_readAnswers_75 (by decide) (fun b54 => ?_) (fun b54 => ?_)
              · refine lv_iload_n F.1 F.2.1 dX3_readAnswers_83 rfl (lv_at hl 4 rfl) ?_
                refine tw_iconst F dX3_readAnswers_84 ki_1 (fun z55 hz55 => ?_)
                refine tu_iadd F dX3_readAnswers_85 (by omega) (fun z56 hz56 => ?_)
                refine tw_iconst F dX3_readAnswers_86 ki_4 (fun z57 hz57 => ?_)
                refine tw_icmp_lt (tgt := 96) F dX3_readAnswers_87 (by decide) (fun b58 => ?_) (fun b58 => ?_)
                · refine lv_aload_n F.1 F.2.1 dX3_readAnswers_96 rfl (lv_at hl 1 rfl) ?_
                  refine lv_dup F.1 F.2.1 dX3_readAnswers_97 rfl ?_
                  refine g_3_58 F h m_a0 r_a0 dX3_readAnswers_98 (fun v59 hv59 hv59a hv59b => ?_)
                  refine tw_iconst F dX3_readAnswers_101 ki_1 (fun z60 hz60 => ?_)
                  refine tu_iadd F dX3_readAnswers_102 (by omega) (fun z61 hz61 => ?_)
                  have owp := hG.1
                  refine p_3_58 F h m_a0 r_a0 (by omega) dX3_readAnswers_103 (fun f62 H locs e62p hf62 h => ?_)
                  have hX : OB L R O a0_script f0 f62 := OB_fr hX hf62 (by decide +kernel)
                  have hT : TK L R f62 a0 := TK_fr hT hf62 (by decide +kernel) m_a0 r_a0
                  have hP : PNZ f62 a0_script := PNZ_fr hP hG.1 hf62 (by decide +kernel) (by decide +kernel) (by decide +kernel) m_a0_script r_a0_script
                  have hGm : (∀ d, GOd f0 a0 d → GOd f62 a0 d) := (fun d q => GO_fr (hGm d q) hf62 (by decide +kernel) (by decide +kernel) (by decide +kernel) m_a0 r_a0 e41 m_a0_goSlots r_a0_goSlots)
                  have hVm : Hid (x1.toInt ≠ 0 → ∀ d, d < 4 → VSd f0 a0_script d → VSd f62 a0_script d) := Hid.mk (fun q0 d hd q => VSd_fr (hVm.g q0 d hd q) hG.1 hf62 (by decide +kernel) (Int.le_of_eq (hf62.efi m_a0_script r_a0_script (by decide +kernel)).symm) (by decide +kernel) (by decide +kernel) m_a0_script r_a0_script)
                  have hAC : Hid (x1.toInt ≠ 0 → AC0 f62 a0_script = AC0 f0 a0_script) := Hid.mk (fun q0 => (AC0_fr hG.1 hf62 (by decide +kernel) (by decide +kernel) m_a0_script r_a0_script).trans (hAC.g q0))
                  have h24 : Hid (x1.toInt ≠ 24 → eli f62 (rfa f62 a0_script 10) 24 = eli f0 (rfa f0 a0_script 10) 24) := Hid.mk (fun q0 => (E0i hG.1 hf62 (by decide +kernel) m_a0_script r_a0_script sk10 rfl (by decide +kernel) 24).trans (h24.g q0))
                  have hG : GG L R O f62 := hG.fr hf62 (by decide +kernel) (by decide +kernel)
                  have hk : fr L R [(3, 2), (3, 3), (3, 11), (3, 12), (6, 14)] [3, 6, 32, 33, 35, 41, 42, 43] f0 f62 := hk.tr hf62 rfl rfl
                  have hb2 : fr L R [(3, 2), (3, 3), (3, 11), (3, 12), (6, 14)] [3, 6, 32, 33, 35, 41, 42, 43] f0 f62 := hb2.tr hf62 rfl rfl
                  have e63 : fi f62 a0 8 = fi f36 a0 8 := hf62.efi m_a0 r_a0 rfl
                  have e64 : fld f62 a0 1 = .ref a0_script := (hf62.efl m_a0 r_a0 rfl).trans e39
                  have e65 : fi f62 a0_script 14 = fi f36 a0_script 14 := hf62.efi m_a0_script r_a0_script rfl
                  have e66 : fld f62 a0 10 = .ref a0_goSlots := (hf62.efl m_a0 r_a0 rfl).trans e41
                  have e67 : fi f62 a0 11 = fi f36 a0 11 := hf62.efi m_a0 r_a0 rfl
                  refine tu_iinc F dX3_readAnswers_106 hl (k := 4) rfl (by decide) ki_1 (by omega) (fun z68 ls hz68 hl => ?_)
                  have hl : lv_has ls 6 [(3, .int z68), (5, .int y0_43), (0, .ref a0), (1, .int x1), (2, .int x2), (4, .int z17)] := hl
                  refine lv_goto (tgt := 2) F.1 F.2.1 dX3_readAnswers_109 (by decide) ?_
                  exact ih2 f62 _ _ _ z68 (by omega) (by omega) (by omega) (by omega) (by omega) (by omega) (Hid.mk (fun q0 => ⟨by rw [AC0_fr owp hf62 (by decide +kernel) (by decide +kernel) m_a0_script r_a0_script]; have r := (r1.g q0).1; omega, fun d hd => ((r1.g q0).2.1 d (by omega)).imp (fun q => VSd_fr q owp hf62 (by decide +kernel) (Int.le_of_eq (hf62.efi m_a0_script r_a0_script (by decide +kernel)).symm) (by decide +kernel) (by decide +kernel) m_a0_script r_a0_script) (fun q => GO_fr q hf62 (by decide +kernel) (by decide +kernel) (by decide +kernel) m_a0 r_a0 e41 m_a0_goSlots r_a0_goSlots), fun q1 _ => VSd_fr ((r1.g q0).2.2 q1) owp hf62 (by decide +kernel) (Int.le_of_eq (hf62.efi m_a0_script r_a0_script (by decide +kernel)).symm) (by decide +kernel) (by decide +kernel) m_a0_script r_a0_script⟩)) (by omega) h hG hX hT hP hGm hVm hAC h24 hk hb2 (lv_sub hl [2, 3, 4, 0] rfl)
                · refine lv_aload_n F.1 F.2.1 dX3_readAnswers_90 rfl (lv_at hl 1 rfl) ?_
                  refine tw_iconst F dX3_readAnswers_91 ki_5 (fun z69 hz69 => ?_)
                  refine tw_Vi (As := [.int z69]) F hZ h yk_X3_fail mw_420 mw_421 mw_422 (s_X3_fail l D cy L R O f36 a0 m_a0 r_a0 z69 ⟨by omega, by omega⟩) rfl rfl m_a0 r_a0 (fun e q => (T_3 e).mp q) rfl hl.1 rfl (Nat.le_of_ble_eq_true rfl) ⟨Nat.le_of_ble_eq_true rfl, Nat.le_of_ble_eq_true rfl⟩ ⟨Nat.le_of_ble_eq_true rfl, Nat.le_of_ble_eq_true rfl⟩ dX3_readAnswers_92 (fun v71 f70 H locs hp70 h => ?_)
                  obtain ⟨hf70, hv71a, hv71b⟩ := hp70
                  have hX : OB L R O a0_script f0 f70 := OB_fr hX hf70 (by decide +kernel)
                  have hT : TK L R f70 a0 := TK_fr hT hf70 (by decide +kernel) m_a0 r_a0
                  have hP : PNZ f70 a0_script := PNZ_fr hP hG.1 hf70 (by decide +kernel) (by decide +kernel) (by decide +kernel) m_a0_script r_a0_script
                  have hGm : (∀ d, GOd f0 a0 d → GOd f70 a0 d) := (fun d q => GO_fr (hGm d q) hf70 (by decide +kernel) (by decide +kernel) (by decide +kernel) m_a0 r_a0 e41 m_a0_goSlots r_a0_goSlots)
                  have hVm : Hid (x1.toInt ≠ 0 → ∀ d, d < 4 → VSd f0 a0_script d → VSd f70 a0_script d) := Hid.mk (fun q0 d hd q => VSd_fr (hVm.g q0 d hd q) hG.1 hf70 (by decide +kernel) (Int.le_of_eq (hf70.efi m_a0_script r_a0_script (by decide +kernel)).symm) (by decide +kernel) (by decide +kernel) m_a0_script r_a0_script)
                  have hAC : Hid (x1.toInt ≠ 0 → AC0 f70 a0_script = AC0 f0 a0_script) := Hid.mk (fun q0 => (AC0_fr hG.1 hf70 (by decide +kernel) (by decide +kernel) m_a0_script r_a0_script).trans (hAC.g q0))
                  have h24 : Hid (x1.toInt ≠ 24 → eli f70 (rfa f70 a0_script 10) 24 = eli f0 (rfa f0 a0_script 10) 24) := Hid.mk (fun q0 => (E0i hG.1 hf70 (by decide +kernel) m_a0_script r_a0_script sk10 rfl (by decide +kernel) 24).trans (h24.g q0))
                  have hG : GG L R O f70 := hG.fr hf70 (by decide +kernel) (by decide +kernel)
                  have hk : fr L R [(3, 2), (3, 3), (3, 11), (3, 12), (6, 14)] [3, 6, 32, 33, 35, 41, 42, 43] f0 f70 := hk.tr hf70 rfl rfl
                  have hb2 : fr L R [(3, 2), (3, 3), (3, 11), (3, 12), (6, 14)] [3, 6, 32, 33, 35, 41, 42, 43] f0 f70 := hb2.tr hf70 rfl rfl
                  have e72 : fi f70 a0 12 = fi f36 a0 12 := hf70.efi m_a0 r_a0 rfl
                  have e73 : fi f70 a0 8 = fi f36 a0 8 := hf70.efi m_a0 r_a0 rfl
                  have e74 : fld f70 a0 1 = .ref a0_script := (hf70.efl m_a0 r_a0 rfl).trans e39
                  have e75 : fi f70 a0_script 14 = fi f36 a0_script 14 := hf70.efi m_a0_script r_a0_script rfl
                  have e76 : fld f70 a0 10 = .ref a0_goSlots := (hf70.efl m_a0 r_a0 rfl).trans e41
                  have e77 : fi f70 a0 11 = fi f36 a0 11 := hf70.efi m_a0 r_a0 rfl
                  exact hret f70 _ _ _ _ v71 dX3_readAnswers_95 (tw_nb (by omega)) ⟨hk, by omega, by omega, hG, by omega, by rw [hs1]; exact hP, by rw [hs1]; omega, Or.inl (by omega), by rw [hs1]; exact fun q0 => ⟨hAC.g q0, hVm.g q0⟩, hGm, by omega, Or.inl (by omega), by rw [hs1]; exact h24.g, by rw [hs1]; exact hX⟩ h
              · refine lv_aload_n F.1 F.2.1 dX3_readAnswers_78 rfl (lv_at hl 1 rfl) ?_
                have owe := hG.1
                refine tw_Vi (As := []) F hZ h yk_X3_readEnd mw_553 mw_554 mw_555 (s_X3_readEnd l D cy L R O f36 a0 m_a0 r_a0) rfl rfl m_a0 r_a0 (fun e q => (T_3 e).mp q) rfl hl.1 rfl (Nat.le_of_ble_eq_true rfl) ⟨Nat.le_of_ble_eq_true rfl, Nat.le_of_ble_eq_true rfl⟩ ⟨Nat.le_of_ble_eq_true rfl, Nat.le_of_ble_eq_true rfl⟩ dX3_readAnswers_79 (fun v79 f78 H locs hp78 h => ?_)
                obtain ⟨hf78, hv79a, hv79b, hv79p0⟩ := hp78
                have hX : OB L R O a0_script f0 f78 := OB_fr hX hf78 (by decide +kernel)
                have hT : TK L R f78 a0 := TK_fr hT hf78 (by decide +kernel) m_a0 r_a0
                have hP : PNZ f78 a0_script := PNZ_fr hP hG.1 hf78 (by decide +kernel) (by decide +kernel) (by decide +kernel) m_a0_script r_a0_script
                have hGm : (∀ d, GOd f0 a0 d → GOd f78 a0 d) := (fun d q => GO_fr (hGm d q) hf78 (by decide +kernel) (by decide +kernel) (by decide +kernel) m_a0 r_a0 e41 m_a0_goSlots r_a0_goSlots)
                have hVm : Hid (x1.toInt ≠ 0 → ∀ d, d < 4 → VSd f0 a0_script d → VSd f78 a0_script d) := Hid.mk (fun q0 d hd q => VSd_fr (hVm.g q0 d hd q) hG.1 hf78 (by decide +kernel) (Int.le_of_eq (hf78.efi m_a0_script r_a0_script (by decide +kernel)).symm) (by decide +kernel) (by decide +kernel) m_a0_script r_a0_script)
                have hAC : Hid (x1.toInt ≠ 0 → AC0 f78 a0_script = AC0 f0 a0_script) := Hid.mk (fun q0 => (AC0_fr hG.1 hf78 (by decide +kernel) (by decide +kernel) m_a0_script r_a0_script).trans (hAC.g q0))
                have h24 : Hid (x1.toInt ≠ 24 → eli f78 (rfa f78 a0_script 10) 24 = eli f0 (rfa f0 a0_script 10) 24) := Hid.mk (fun q0 => (E0i hG.1 hf78 (by decide +kernel) m_a0_script r_a0_script sk10 rfl (by decide +kernel) 24).trans (h24.g q0))
                have hG : GG L R O f78 := hG.fr hf78 (by decide +kernel) (by decide +kernel)
                have hk : fr L R [(3, 2), (3, 3), (3, 11), (3, 12), (6, 14)] [3, 6, 32, 33, 35, 41, 42, 43] f0 f78 := hk.tr hf78 rfl rfl
                have hb2 : fr L R [(3, 2), (3, 3), (3, 11), (3, 12), (6, 14)] [3, 6, 32, 33, 35, 41, 42, 43] f0 f78 := hb2.tr hf78 rfl rfl
                have e80 : fi f78 a0 8 = fi f36 a0 8 := hf78.efi m_a0 r_a0 rfl
                have e81 : fld f78 a0 1 = .ref a0_script := (hf78.efl m_a0 r_a0 rfl).trans e39
                have e82 : fi f78 a0_script 14 = fi f36 a0_script 14 := hf78.efi m_a0_script r_a0_script rfl
                have e83 : fld f78 a0 10 = .ref a0_goSlots := (hf78.efl m_a0 r_a0 rfl).trans e41
                have e84 : fi f78 a0 11 = fi f36 a0 11 := hf78.efi m_a0 r_a0 rfl
                exact hret f78 _ _ _ _ v79 dX3_readAnswers_82 (tw_nb (by omega)) ⟨hk, by omega, by omega, hG, by omega, by rw [hs1]; exact hP, by rw [hs1]; omega, Or.inr (fun q0 => by rw [hs1]; have r := r1.g q0; have eA := AC0_fr owe hf78 (by decide +kernel) (by decide +kernel) m_a0_script r_a0_script; exact ⟨by omega, fun d hd => (r.2.1 d (by omega)).imp (fun q => VSd_fr q owe hf78 (by decide +kernel) (Int.le_of_eq (hf78.efi m_a0_script r_a0_script (by decide +kernel)).symm) (by decide +kernel) (by decide +kernel) m_a0_script r_a0_script) (fun q => GO_fr q hf78 (by decide +kernel) (by decide +kernel) (by decide +kernel) m_a0 r_a0 e41 m_a0_goSlots r_a0_goSlots), fun q1 => VSd_fr (r.2.2 q1) owe hf78 (by decide +kernel) (Int.le_of_eq (hf78.efi m_a0_script r_a0_script (by decide +kernel)).symm) (by decide +kernel) (by decide +kernel) m_a0_script r_a0_script⟩), by rw [hs1]; exact fun q0 => ⟨hAC.g q0, hVm.g q0⟩, hGm, by omega, Or.inr (by rw [hs1, E0i owe hf78 (by decide +kernel) m_a0_script r_a0_script sk10 rfl (by decide +kernel)]; omega), by rw [hs1]; exact h24.g, by rw [hs1]; exact hX⟩ h
          · refine tw_iconst F dX3_readAnswers_50 ki_0 (fun z85 hz85 => ?_)
            exact hret f21 _ _ _ _ z85 dX3_readAnswers_51 (tw_nb (by omega)) ⟨hk, by omega, by omega, hG, by omega, by rw [hs1]; exact hP, by rw [hs1]; omega, Or.inl (by omega), by rw [hs1]; exact fun q0 => ⟨hAC.g q0, hVm.g q0⟩, hGm, by omega, Or.inl (by omega), by rw [hs1]; exact h24.g, by rw [hs1]; exact hX⟩ h
        have hb43 : fr L R [(3, 2), (3, 3), (3, 11), (3, 12), (6, 14)] [3, 6, 32, 33, 35, 42, 43] f2 f2 := fr.rf
        have j_37 : ∀ (ls : Array Slot), lv_has ls 6 [(0, .ref a0), (1, .int x1), (2, .int x2), (3, .int x3_2), (4, .int z17)] → W p l e rm_X3_readAnswers s m args below meth c H locs 0 0 Q (F0 m 37 ls []) := by
          intro ls hl
          refine lv_aload_n F.1 F.2.1 dX3_readAnswers_37 rfl (lv_at hl 0 rfl) ?_
          refine lv_iload F.1 F.2.1 dX3_readAnswers_38 (lv_at hl 4 rfl) ?_
          have hGo := hG
          refine tw_Vi (As := [.int z17]) F hZ h yk_X3_readPieces mw_605 mw_606 mw_607 (s_X3_readPieces l D cy L R O f2 hG a0 m_a0 r_a0 z17 ⟨by omega, by omega⟩ hT (by rw [rfa_of e11]; exact hP) (by rw [rfa_of e11]; omega)) rfl rfl m_a0 r_a0 (fun e q => (T_3 e).mp q) rfl hl.1 rfl (Nat.le_of_ble_eq_true rfl) ⟨Nat.le_of_ble_eq_true rfl, Nat.le_of_ble_eq_true rfl⟩ ⟨Nat.le_of_ble_eq_true rfl, Nat.le_of_ble_eq_true rfl⟩ dX3_readAnswers_40 (fun v87 f86 H locs hp86 h => ?_)
          obtain ⟨hf86, hv87a, hv87b, hG, hv87p0, hv87p1, hv87p2, hv87p3, hv87p4, hv87p5⟩ := hp86
          have hX : OB L R O a0_script f0 f86 := OB_tr hX (by have q := hv87p5; rw [rfa_of e11] at q; exact q)
          have hT : TK L R f86 a0 := TK_fr hT hf86 (by decide +kernel) m_a0 r_a0
          have hGm : (∀ d, GOd f0 a0 d → GOd f86 a0 d) := (fun d q => GO_fr (hGm d q) hf86 (by decide +kernel) (by decide +kernel) (by decide +kernel) m_a0 r_a0 e12 m_a0_goSlots r_a0_goSlots)
          have hAC : Hid (x1.toInt ≠ 0 → AC0 f86 a0_script = AC0 f0 a0_script) := Hid.mk (fun q0 => (AC0_fr hGo.1 hf86 (by decide +kernel) (by decide +kernel) m_a0_script r_a0_script).trans (hAC.g q0))
          have h24 : Hid (x1.toInt ≠ 24 → eli f86 (rfa f86 a0_script 10) 24 = eli f0 (rfa f0 a0_script 10) 24) := Hid.mk (fun q0 => (E0i hGo.1 hf86 (by decide +kernel) m_a0_script r_a0_script sk10 rfl (by decide +kernel) 24).trans (h24.g q0))
          have hk : fr L R [(3, 2), (3, 3), (3, 11), (3, 12), (6, 14)] [3, 6, 32, 33, 35, 41, 42, 43] f0 f86 := hk.tr hf86 (by decide +kernel) (by decide +kernel)
          have hb2 : fr L R [(3, 2), (3, 3), (3, 11), (3, 12), (6, 14)] [3, 6, 32, 33, 35, 41, 42, 43] f0 f86 := hb2.tr hf86 rfl (by decide +kernel)
          have hb43 : fr L R [(3, 2), (3, 3), (3, 11), (3, 12), (6, 14)] [3, 6, 32, 33, 35, 42, 43] f2 f86 := hb43.tr hf86 rfl rfl
          have e88 : fi f86 a0 8 = fi f2 a0 8 := hf86.efi m_a0 r_a0 rfl
          have e89 : fld f86 a0 1 = .ref a0_script := (hf86.efl m_a0 r_a0 rfl).trans e11
          have e90 : fld f86 a0 10 = .ref a0_goSlots := (hf86.efl m_a0 r_a0 rfl).trans e12
          have e91 : fi f86 a0 11 = fi f2 a0 11 := hf86.efi m_a0 r_a0 rfl
          have vsp := Hid.mk hv87p3
          clear hv87p3
          have hVm : Hid (x1.toInt ≠ 0 → ∀ d, d < 4 → VSd f0 a0_script d → VSd f86 a0_script d) := Hid.mk (fun q0 d hd q => (by have q2 := hv87p4; rw [rfa_of e11] at q2; exact q2 d (by omega) (hVm.g q0 d hd q)))
          have hP : PNZ f86 a0_script := by have q2 := hv87p1; rw [rfa_of e11] at q2; exact q2
          have pat40 : fi f86 a0_script 14 ≤ fi f86 a0 12 := by have q2 := hv87p2; rw [rfa_of e11] at q2; exact q2
          exact j_43 f86 _ _ _ v87 (by omega) (by omega) (by omega) (by omega) (by omega) (by omega) (Hid.mk (if q : v87.toInt = 0 then Or.inl q else Or.inr (Or.inl (by have q2 := vsp.g.resolve_left q; rw [rfa_of e11] at q2; exact q2)))) (Hid.mk (if q : v87.toInt = 0 then Or.inl q else Or.inr (Or.inr (by have q2 := vsp.g.resolve_left q; rw [rfa_of e11] at q2; exact q2)))) (by have q2 := hv87p4; rw [rfa_of e11] at q2; exact q2) (fun d q => GO_fr q hf86 (by decide +kernel) (by decide +kernel) (by decide +kernel) m_a0 r_a0 e12 m_a0_goSlots r_a0_goSlots) (AC0_fr ow43 hf86 (by decide +kernel) (by decide +kernel) m_a0_script r_a0_script) h hG hX hT hP hGm hVm hAC h24 hk hb43 (lv_sub hl [0, 1, 2, 3, 4] rfl)
        refine tw_if_eq (tgt := 37) F dX3_readAnswers_21 (by decide) (fun b92 => ?_) (fun b92 => ?_)
        · exact j_37 _ (lv_sub hl [1, 2, 3, 4, 0] rfl)
        · refine lv_iload_n F.1 F.2.1 dX3_readAnswers_24 rfl (lv_at hl 3 rfl) ?_
          refine tw_if_ne (tgt := 37) F dX3_readAnswers_25 (by decide) (fun b93 => ?_) (fun b93 => ?_)
          · exact j_37 _ (lv_sub hl [1, 2, 3, 4, 0] rfl)
          · refine lv_aload_n F.1 F.2.1 dX3_readAnswers_28 rfl (lv_at hl 1 rfl) ?_
            refine lv_iload F.1 F.2.1 dX3_readAnswers_29 (lv_at hl 0 rfl) ?_
            refine tw_Vi (As := [.int z17]) F hZ h yk_X3_readGo mw_601 mw_602 mw_603 (s_X3_readGo l D cy L R O f2 hG a0 m_a0 r_a0 z17 ⟨by omega, by omega⟩ (by omega) (by omega)) rfl rfl m_a0 r_a0 (fun e q => (T_3 e).mp q) rfl hl.1 rfl (Nat.le_of_ble_eq_true rfl) ⟨Nat.le_of_ble_eq_true rfl, Nat.le_of_ble_eq_true rfl⟩ ⟨Nat.le_of_ble_eq_true rfl, Nat.le_of_ble_eq_true rfl⟩ dX3_readAnswers_31 (fun v95 f94 H locs hp94 h => ?_)
            obtain ⟨hf94, hv95a, hv95b, hv95p0, hv95p1, hv95p2, hv95p3, hv95p4⟩ := hp94
            have hX : OB L R O a0_script f0 f94 := OB_fr hX hf94 (by decide +kernel)
            have hT : TK L R f94 a0 := TK_fr hT hf94 (by decide +kernel) m_a0 r_a0
            have hP : PNZ f94 a0_script := PNZ_fr hP hG.1 hf94 (by decide +kernel) (by decide +kernel) (by decide +kernel) m_a0_script r_a0_script
            have hVm : Hid (x1.toInt ≠ 0 → ∀ d, d < 4 → VSd f0 a0_script d → VSd f94 a0_script d) := Hid.mk (fun q0 d hd q => VSd_fr (hVm.g q0 d hd q) hG.1 hf94 (by decide +kernel) (Int.le_of_eq (hf94.efi m_a0_script r_a0_script (by decide +kernel)).symm) (by decide +kernel) (by decide +kernel) m_a0_script r_a0_script)
            have hAC : Hid (x1.toInt ≠ 0 → AC0 f94 a0_script = AC0 f0 a0_script) := Hid.mk (fun q0 => (AC0_fr hG.1 hf94 (by decide +kernel) (by decide +kernel) m_a0_script r_a0_script).trans (hAC.g q0))
            have h24 : Hid (x1.toInt ≠ 24 → eli f94 (rfa f94 a0_script 10) 24 = eli f0 (rfa f0 a0_script 10) 24) := Hid.mk (fun q0 => (E0i hG.1 hf94 (by decide +kernel) m_a0_script r_a0_script sk10 rfl (by decide +kernel) 24).trans (h24.g q0))
            have hG : GG L R O f94 := hG.fr hf94 (by decide +kernel) (by decide +kernel)
            have hk : fr L R [(3, 2), (3, 3), (3, 11), (3, 12), (6, 14)] [3, 6, 32, 33, 35, 41, 42, 43] f0 f94 := hk.tr hf94 rfl rfl
            have hb2 : fr L R [(3, 2), (3, 3), (3, 11), (3, 12), (6, 14)] [3, 6, 32, 33, 35, 41, 42, 43] f0 f94 := hb2.tr hf94 rfl rfl
            have hb43 : fr L R [(3, 2), (3, 3), (3, 11), (3, 12), (6, 14)] [3, 6, 32, 33, 35, 42, 43] f2 f94 := hb43.tr hf94 rfl rfl
            have e96 : fi f94 a0 8 = fi f2 a0 8 := hf94.efi m_a0 r_a0 rfl
            have e97 : fld f94 a0 1 = .ref a0_script := (hf94.efl m_a0 r_a0 rfl).trans e11
            have e98 : fi f94 a0_script 14 = fi f2 a0_script 14 := hf94.efi m_a0_script r_a0_script rfl
            have e99 : fld f94 a0 10 = .ref a0_goSlots := (hf94.efl m_a0 r_a0 rfl).trans e12
            have gon := Hid.mk hv95p3
            clear hv95p3
            have hGm : ∀ d, GOd f0 a0 d → GOd f94 a0 d := fun d q => hv95p2 d (hGm d q)
            refine lv_goto (tgt := 43) F.1 F.2.1 dX3_readAnswers_34 (by decide) ?_
            exact j_43 f94 _ _ _ v95 (by omega) (by omega) (by omega) (by omega) (by omega) (by omega) (Hid.mk (if q : v95.toInt = 0 then Or.inl q else Or.inr (Or.inr (gon.g.resolve_left q)))) (Hid.mk (Or.inr (Or.inl (by omega)))) (fun d _ q => VSd_fr q ow43 hf94 (by decide +kernel) (Int.le_of_eq (hf94.efi m_a0_script r_a0_script (by decide +kernel)).symm) (by decide +kernel) (by decide +kernel) m_a0_script r_a0_script) (hv95p2) (AC0_fr ow43 hf94 (by decide +kernel) (by decide +kernel) m_a0_script r_a0_script) h hG hX hT hP hGm hVm hAC h24 hk hb43 (lv_sub hl [1, 2, 3, 4, 0] rfl)
  have hb2 : fr L R [(3, 2), (3, 3), (3, 11), (3, 12), (6, 14)] [3, 6, 32, 33, 35, 41, 42, 43] f0 f0 := fr.rf
  exact j_2 (((3 - z1.toInt)).toNat + 1) f0 _ _ _ z1 (by omega) (by omega) (by omega) (by omega) (by omega) (by omega) (Hid.mk (fun q0 => ⟨by rw [pre4h.g q0]; omega, fun d hd => by omega, fun _ q => by omega⟩)) (by omega) h hG hX hT hP hGm hVm hAC h24 hk hb2 (lv_sub hl [1, 2, 3, 0] rfl)
theorem dX3_findGoes_0 : decode cX3_findGoes 0 = .ok (.iconst 0, 1) := by decide +kernel
theorem dX3_findGoes_1 : decode cX3_findGoes 1 = .ok (.istore_n 1, 1) := by decide +kernel
theorem dX3_findGoes_2 : decode cX3_findGoes 2 = .ok (.iload_n 1, 1) := by decide +kernel
theorem dX3_findGoes_3 : decode cX3_findGoes 3 = .ok (.aload_n 0, 1) := by decide +kernel
theorem dX3_findGoes_4 : decode cX3_findGoes 4 = .ok (.getfield 55, 3) := by decide +kernel
theorem dX3_findGoes_7 : decode cX3_findGoes 7 = .ok (.if_icmp .ge 58, 3) := by decide +kernel
theorem dX3_findGoes_65 : decode cX3_findGoes 65 = .ok (.iconst 1, 1) := by decide +kernel
theorem dX3_findGoes_66 : decode cX3_findGoes 66 = .ok (.ireturn, 1) := by decide +kernel
theorem dX3_findGoes_10 : decode cX3_findGoes 10 = .ok (.aload_n 0, 1) := by decide +kernel
theorem dX3_findGoes_11 : decode cX3_findGoes 11 = .ok (.aload_n 0, 1) := by decide +kernel
theorem dX3_findGoes_12 : decode cX3_findGoes 12 = .ok (.getfield 49, 3) := by decide +kernel
theorem dX3_findGoes_15 : decode cX3_findGoes 15 = .ok (.iload_n 1, 1) := by decide +kernel
theorem dX3_findGoes_16 : decode cX3_findGoes 16 = .ok (.iaload, 1) := by decide +kernel
section
variable {p : Program} {l : Launch} {e : Env} {R0 : Room} {s : State} {m : MethodId} {args : Array Value} {below : List Frame} {meth : Method} {c : Code} {H H0 : Heap} {locs : List Loc} {cells slots : Nat} {Q : State → Prop} {cc : ByteArray} {nL : Nat} {D : va_G} {cy : Nat → ClassId} {A : Nat → Prop} {L : List Nat} {R : Nat → Nat} {f : Nat → va_E} {pc : Nat} {ls : Array Slot} {rest : List Value} {a : Nat}
theorem ld_32 {own : String} (F : CallFix p m c cc nL s args wsL_law own) (h : tS D cy A H0 L R (TT cy L R) f s H locs) {i : Int32} (ha : a ∈ L) (hr : R a = 32) (hb : 0 ≤ i.toInt ∧ i.toInt < 100) (hdg : decode cc pc = .ok (.iaload, 1)) (kk : ∀ x : Int32, 0 ≤ x.toInt → x.toInt ≤ 601 → W p l e R0 s m args below meth c H locs cells slots Q (F0 m (pc + 1) ls (.int x :: rest))) : W p l e R0 s m args below meth c H locs cells slots Q (F0 m pc ls (.int i :: .ref a :: rest)) := tu_iald F h ha hr (fun e q => (T_32 e).mp q) hb.1 hb.2 hdg (fun x h1 h2 => kk x h1.1 h1.2)
end
theorem dX3_findGoes_17 : decode cX3_findGoes 17 = .ok (.putfield 58, 3) := by decide +kernel
theorem dX3_findGoes_20 : decode cX3_findGoes 20 = .ok (.aload_n 0, 1) := by decide +kernel
theorem dX3_findGoes_21 : decode cX3_findGoes 21 = .ok (.getfield 21, 3) := by decide +kernel
theorem dX3_findGoes_24 : decode cX3_findGoes 24 = .ok (.aload_n 0, 1) := by decide +kernel
theorem dX3_findGoes_25 : decode cX3_findGoes 25 = .ok (.invokevirtual 82, 3) := by decide +kernel
theorem dX3_findGoes_28 : decode cX3_findGoes 28 = .ok (.invokevirtual 172, 3) := by decide +kernel
theorem dX3_findGoes_31 : decode cX3_findGoes 31 = .ok (.istore_n 2, 1) := by decide +kernel
theorem dX3_findGoes_32 : decode cX3_findGoes 32 = .ok (.iload_n 2, 1) := by decide +kernel
theorem dX3_findGoes_33 : decode cX3_findGoes 33 = .ok (.iconst (-1), 1) := by decide +kernel
theorem dX3_findGoes_34 : decode cX3_findGoes 34 = .ok (.if_icmp .ne 10, 3) := by decide +kernel
theorem dX3_findGoes_44 : decode cX3_findGoes 44 = .ok (.aload_n 0, 1) := by decide +kernel
theorem dX3_findGoes_45 : decode cX3_findGoes 45 = .ok (.getfield 21, 3) := by decide +kernel
theorem dX3_findGoes_48 : decode cX3_findGoes 48 = .ok (.getfield 222, 3) := by decide +kernel
theorem mw_625 : Cond.fieldLink RX3 222 "AskBack$Script" "answerGoes" "[I" ∈ wsL_law := inr_27 _ (List.mem_of_getElem? (i := 1) rfl)
section
variable {p : Program} {l : Launch} {e : Env} {R0 : Room} {s : State} {m : MethodId} {args : Array Value} {below : List Frame} {meth : Method} {c : Code} {H H0 : Heap} {locs : List Loc} {cells slots : Nat} {Q : State → Prop} {cc : ByteArray} {nL : Nat} {D : va_G} {cy : Nat → ClassId} {A : Nat → Prop} {L : List Nat} {R : Nat → Nat} {f : Nat → va_E} {pc : Nat} {ls : Array Slot} {rest : List Value} {a : Nat}
theorem g_3_222 (F : CallFix p m c cc nL s args wsL_law RX3) (h : tS D cy A H0 L R (TT cy L R) f s H locs) (ha : a ∈ L) (hr : R a = 6) (hdg : decode cc pc = .ok (.getfield 222, 3)) (kk : ∀ b : Nat, b ∈ L → R b = 44 → fld f a 13 = .ref b → W p l e R0 s m args below meth c H locs cells slots Q (F0 m (pc + 3) ls (.ref b :: rest))) : W p l e R0 s m args below meth c H locs cells slots Q (F0 m pc ls (.ref a :: rest)) := tu_getr F h ha hr (fun e q => (T_6 e).mp q) rfl inlX6 rfl (Nat.le_of_ble_eq_true rfl) mw_625 hdg kk
end
theorem dX3_findGoes_51 : decode cX3_findGoes 51 = .ok (.aload_n 0, 1) := by decide +kernel
theorem dX3_findGoes_52 : decode cX3_findGoes 52 = .ok (.getfield 52, 3) := by decide +kernel
theorem dX3_findGoes_55 : decode cX3_findGoes 55 = .ok (.iload_n 1, 1) := by decide +kernel
theorem dX3_findGoes_56 : decode cX3_findGoes 56 = .ok (.iaload, 1) := by decide +kernel
section
variable {p : Program} {l : Launch} {e : Env} {R0 : Room} {s : State} {m : MethodId} {args : Array Value} {below : List Frame} {meth : Method} {c : Code} {H H0 : Heap} {locs : List Loc} {cells slots : Nat} {Q : State → Prop} {cc : ByteArray} {nL : Nat} {D : va_G} {cy : Nat → ClassId} {A : Nat → Prop} {L : List Nat} {R : Nat → Nat} {f : Nat → va_E} {pc : Nat} {ls : Array Slot} {rest : List Value} {a : Nat}
theorem le_33 {own : String} (F : CallFix p m c cc nL s args wsL_law own) (h : tS D cy A H0 L R (TT cy L R) f s H locs) {i : Int32} (ha : a ∈ L) (hr : R a = 33) (hb : 0 ≤ i.toInt ∧ i.toInt < 100) (hdg : decode cc pc = .ok (.iaload, 1)) (kk : ∀ x : Int32, x.toInt = eli f a i.toInt.toNat → 0 ≤ x.toInt → x.toInt ≤ 99 → W p l e R0 s m args below meth c H locs cells slots Q (F0 m (pc + 1) ls (.int x :: rest))) : W p l e R0 s m args below meth c H locs cells slots Q (F0 m pc ls (.int i :: .ref a :: rest)) := tu_iald F h ha hr (fun e q => (T_33 e).mp q) hb.1 hb.2 hdg (fun x h1 h2 => kk x h2 h1.1 h1.2)
end
theorem dX3_findGoes_57 : decode cX3_findGoes 57 = .ok (.iload_n 2, 1) := by decide +kernel
theorem dX3_findGoes_58 : decode cX3_findGoes 58 = .ok (.iastore, 1) := by decide +kernel
theorem dX3_findGoes_59 : decode cX3_findGoes 59 = .ok (.iinc 1 1, 3) := by decide +kernel
theorem dX3_findGoes_62 : decode cX3_findGoes 62 = .ok (.goto (-60), 3) := by decide +kernel
theorem dX3_findGoes_37 : decode cX3_findGoes 37 = .ok (.aload_n 0, 1) := by decide +kernel
theorem dX3_findGoes_38 : decode cX3_findGoes 38 = .ok (.bipush 6, 2) := by decide +kernel
theorem dX3_findGoes_40 : decode cX3_findGoes 40 = .ok (.invokevirtual 75, 3) := by decide +kernel
theorem dX3_findGoes_43 : decode cX3_findGoes 43 = .ok (.ireturn, 1) := by decide +kernel
def rm_X3_findGoes : Room := { frames := 1, cells := 0, slots := 0, locals := 23 }
set_option maxHeartbeats 4000000 in
set_option maxRecDepth 100000 in
theorem s_X3_findGoes (l : Launch) (D : va_G) (cy : Nat → ClassId) (L : List Nat) (R O : Nat → Nat) (f0 : Nat → va_E) (hG : GG L R O f0) (a0 : Nat) (m_a0 : a0 ∈ L) (r_a0 : R a0 = 3) : ∀ sz, Met l yX3_findGoes (Cond.code yX3_findGoes cX3_findGoes 3 (some .boolean) :: wsL_law) rm_X3_findGoes (va_Pc [.ref a0] (tPZ D cy L R (TT cy L R) f0 sz)) (va_Qi (fun (r : Int32) f1 => fr L R [(3, 2), (3, 3), (3, 12)] [3, 44] f0 f1 ∧ 0 ≤ r.toInt ∧ r.toInt ≤ 1 ∧ (r.toInt = 0 ∨ ∀ d : Nat, GOd f0 a0 d → eli f1 (rfa f1 (rfa f0 a0 1) 13) d ≠ -1) ∧ OB L R O (rfa f0 a0 1) f0 f1) (tB D (tA L sz) L R (TT cy L R)) (tA L sz)) 0 0 (tA L sz) := by
  refine tw_enteri (by decide +kernel) rfl (Nat.le_of_ble_eq_true rfl) ?_
  intro p e s m below meth c A ls args Q F hZ h hl hret
  have hl : lv_has ls 3 [(0, .ref a0)] := hl
  have hk : fr L R [(3, 2), (3, 3), (3, 12)] [3, 44] f0 f0 := fr.rf
  obtain ⟨a0_goSlots, m_a0_goSlots, r_a0_goSlots, t_a0_goSlots⟩ := h.rf m_a0 r_a0 (fun e q => (T_3 e).mp q) (k := 10) rfl
  have t_a0_goCount := h.bfi m_a0 r_a0 (fun e q => (T_3 e).mp q) (k := 11) rfl
  obtain ⟨a0_script, m_a0_script, r_a0_script, t_a0_script⟩ := h.rf m_a0 r_a0 (fun e q => (T_3 e).mp q) (k := 1) rfl
  have hs1 := rfa_of t_a0_script
  have hX : OB L R O a0_script f0 f0 := OB_rf
  refine tw_iconst F dX3_findGoes_0 ki_0 (fun z1 hz1 => ?_)
  refine lv_istore_n (lv' := [(1, .int z1), (0, .ref a0)]) F.1 F.2.1 dX3_findGoes_1 rfl hl (by decide) rfl (fun ls hl => ?_)
  have j_2 : ∀ (n2 : Nat) (f2 : Nat → va_E) (H : Heap) (locs : List Loc) (ls : Array Slot) (x1_2 : Int32), 0 ≤ x1_2.toInt → x1_2.toInt ≤ 100 → (Hid (∀ j : Nat, (j : Int) < x1_2.toInt → eli f2 (rfa f2 a0_script 13) (eli f0 (rfa f0 a0 10) j).toNat ≠ -1)) → ((100 - x1_2.toInt)).toNat < n2 → tS D cy A s.heap L R (TT cy L R) f2 s H locs → OB L R O a0_script f0 f2 → fr L R [(3, 2), (3, 3), (3, 12)] [3, 44] f0 f2 → fr L R [(3, 12)] [3, 44] f0 f2 → lv_has ls 3 [(0, .ref a0), (1, .int x1_2)] → W p l e rm_X3_findGoes s m args below meth c H locs 0 0 Q (F0 m 2 ls []) := by
    intro n2
    induction n2 with
    | zero =>
      intro f2 H locs ls x1_2 b3 b4 ip2_0 b5 h hX hk hb2 hl
      exfalso
      omega
    | succ n2 ih2 =>
      intro f2 H locs ls x1_2 b3 b4 ip2_0 b5 h hX hk hb2 hl
      have e6 : fld f2 a0 10 = .ref a0_goSlots := (hb2.efl m_a0 r_a0 rfl).trans t_a0_goSlots
      have e7 : fi f2 a0 11 = fi f0 a0 11 := hb2.efi m_a0 r_a0 rfl
      have e8 : fld f2 a0 1 = .ref a0_script := (hb2.efl m_a0 r_a0 rfl).trans t_a0_script
      refine lv_iload_n F.1 F.2.1 dX3_findGoes_2 rfl (lv_at hl 1 rfl) ?_
      refine lv_aload_n F.1 F.2.1 dX3_findGoes_3 rfl (lv_at hl 0 rfl) ?_
      refine g_3_55 F h m_a0 r_a0 dX3_findGoes_4 (fun v9 hv9 hv9a hv9b => ?_)
      refine tw_icmp_ge (tgt := 65) F dX3_findGoes_7 (by decide) (fun b10 => ?_) (fun b10 => ?_)
      · refine tw_iconst F dX3_findGoes_65 ki_1 (fun z11 hz11 => ?_)
        exact hret f2 _ _ _ _ z11 dX3_findGoes_66 (tw_nb (by omega)) ⟨hk, by omega, by omega, Or.inr (fun d hd => by rw [hs1]; obtain ⟨j, q1, q2⟩ := hd; have q3 := ip2_0.g j (by omega); rw [q2] at q3; exact q3), by rw [hs1]; exact hX⟩ h
      · have hI := ip2_0
        refine lv_aload_n F.1 F.2.1 dX3_findGoes_10 rfl (lv_at hl 0 rfl) ?_
        refine lv_aload_n F.1 F.2.1 dX3_findGoes_11 rfl (lv_at hl 0 rfl) ?_
        refine g_3_49 F h m_a0 r_a0 dX3_findGoes_12 (fun o12 m_o12 r_o12 ho12 => ?_)
        refine lv_iload_n F.1 F.2.1 dX3_findGoes_15 rfl (lv_at hl 1 rfl) ?_
        refine ld_32 F h m_o12 r_o12 (by omega) dX3_findGoes_16 (fun v13 hv13a hv13b => ?_)
        refine p_3_58 F h m_a0 r_a0 (by omega) dX3_findGoes_17 (fun f14 H locs e14p hf14 h => ?_)
        have hX : OB L R O a0_script f0 f14 := OB_fr hX hf14 (by decide +kernel)
        have hI : Hid (∀ j : Nat, (j : Int) < x1_2.toInt → eli f14 (rfa f14 a0_script 13) (eli f0 (rfa f0 a0 10) j).toNat ≠ -1) := Hid.mk (fun j hj => by rw [E0i (hG.1.fr hk (by decide +kernel)) hf14 (by decide +kernel) m_a0_script r_a0_script sk13 rfl (by decide +kernel)]; exact hI.g j hj)
        have hk : fr L R [(3, 2), (3, 3), (3, 12)] [3, 44] f0 f14 := hk.tr hf14 rfl rfl
        have hb2 : fr L R [(3, 12)] [3, 44] f0 f14 := hb2.tr hf14 rfl rfl
        have e15 : fld f14 a0 10 = .ref a0_goSlots := (hf14.efl m_a0 r_a0 rfl).trans e6
        have e16 : fi f14 a0 11 = fi f2 a0 11 := hf14.efi m_a0 r_a0 rfl
        have e17 : fld f14 a0 1 = .ref a0_script := (hf14.efl m_a0 r_a0 rfl).trans e8
        refine lv_aload_n F.1 F.2.1 dX3_findGoes_20 rfl (lv_at hl 0 rfl) ?_
        refine g_3_21 F h m_a0 r_a0 dX3_findGoes_21 (fun o18 m_o18 r_o18 ho18 => ?_)
        obtain rfl := (fld_inj e17 ho18).symm
        refine lv_aload_n F.1 F.2.1 dX3_findGoes_24 rfl (lv_at hl 0 rfl) ?_
        refine tw_Vl (As := []) F hZ h yk_X3_value mw_424 mw_425 mw_426 (s_X3_value l D cy L R O f14 a0 m_a0 r_a0) rfl rfl m_a0 r_a0 (fun e q => (T_3 e).mp q) rfl hl.1 rfl (Nat.le_of_ble_eq_true rfl) ⟨Nat.le_of_ble_eq_true rfl, Nat.le_of_ble_eq_true rfl⟩ ⟨Nat.le_of_ble_eq_true rfl, Nat.le_of_ble_eq_true rfl⟩ dX3_findGoes_25 (fun v20 f19 H locs hp19 h => ?_)
        obtain ⟨rfl, hv20p0⟩ := hp19
        refine tw_Vi (As := [.long v20]) F hZ h yk_X6_keyNamed mw_563 mw_564 mw_565 (s_X6_keyNamed l D cy L R O f14 a0_script m_a0_script r_a0_script v20) rfl rfl m_a0_script r_a0_script (fun e q => (T_6 e).mp q) rfl hl.1 rfl (Nat.le_of_ble_eq_true rfl) ⟨Nat.le_of_ble_eq_true rfl, Nat.le_of_ble_eq_true rfl⟩ ⟨Nat.le_of_ble_eq_true rfl, Nat.le_of_ble_eq_true rfl⟩ dX3_findGoes_28 (fun v22 f21 H locs hp21 h => ?_)
        obtain ⟨rfl, hv22a, hv22b⟩ := hp21
        refine lv_istore_n (lv' := [(2, .int v22), (0, .ref a0), (1, .int x1_2)]) F.1 F.2.1 dX3_findGoes_31 rfl hl (by decide) rfl (fun ls hl => ?_)
        refine lv_iload_n F.1 F.2.1 dX3_findGoes_32 rfl (lv_at hl 0 rfl) ?_
        refine tw_iconst F dX3_findGoes_33 ki_m1 (fun z23 hz23 => ?_)
        refine tw_icmp_ne (tgt := 44) F dX3_findGoes_34 (by decide) (fun b24 => ?_) (fun b24 => ?_)
        · refine lv_aload_n F.1 F.2.1 dX3_findGoes_44 rfl (lv_at hl 1 rfl) ?_
          refine g_3_21 F h m_a0 r_a0 dX3_findGoes_45 (fun o25 m_o25 r_o25 ho25 => ?_)
          obtain rfl := (fld_inj e17 ho25).symm
          refine g_3_222 F h m_a0_script r_a0_script dX3_findGoes_48 (fun o26 m_o26 r_o26 ho26 => ?_)
          refine lv_aload_n F.1 F.2.1 dX3_findGoes_51 rfl (lv_at hl 1 rfl) ?_
          refine g_3_52 F h m_a0 r_a0 dX3_findGoes_52 (fun o27 m_o27 r_o27 ho27 => ?_)
          obtain rfl := (fld_inj e15 ho27).symm
          refine lv_iload_n F.1 F.2.1 dX3_findGoes_55 rfl (lv_at hl 2 rfl) ?_
          refine le_33 F h m_a0_goSlots r_a0_goSlots (by omega) dX3_findGoes_56 (fun v28 ev28 hv28a hv28b => ?_)
          refine lv_iload_n F.1 F.2.1 dX3_findGoes_57 rfl (lv_at hl 0 rfl) ?_
          have hko := hk
          have hIo := hI
          refine se_44 F h m_o26 r_o26 (by omega) (by omega) dX3_findGoes_58 (fun f29 H locs e29a e29b hf29 h => ?_)
          have hX : OB L R O a0_script f0 f29 := OB_o hX e29b (OWa (hG.1.fr hk (by decide +kernel)) m_a0_script r_a0_script sk13 ho26)
          have hk : fr L R [(3, 2), (3, 3), (3, 12)] [3, 44] f0 f29 := hk.tr hf29 rfl rfl
          have hb2 : fr L R [(3, 12)] [3, 44] f0 f29 := hb2.tr hf29 rfl rfl
          have e30 : fld f29 a0 10 = .ref a0_goSlots := (hf29.efl m_a0 r_a0 rfl).trans e15
          have e31 : fi f29 a0 11 = fi f14 a0 11 := hf29.efi m_a0 r_a0 rfl
          have e32 : fld f29 a0 1 = .ref a0_script := (hf29.efl m_a0 r_a0 rfl).trans e17
          have e33 : fld f29 a0_script 13 = .ref o26 := (hf29.efl m_a0_script r_a0_script rfl).trans ho26
          have n0 : a0_script ≠ o26 := ne_r r_a0_script r_o26 (by decide)
          have e13 : ∀ j, eli f29 (rfa f29 a0_script 13) j = if j = v28.toInt.toNat then v22.toInt else eli f14 (rfa f14 a0_script 13) j := fun j => by rw [rfa_o e29b n0, rfa_of ho26, e29a]
          have eG : v28.toInt = eli f0 (rfa f0 a0 10) x1_2.toInt.toNat := by rw [ev28, rfa_of t_a0_goSlots]; exact hko.eeli m_a0_goSlots r_a0_goSlots (by decide +kernel) _
          have hJ : Hid (∀ j : Nat, (j : Int) < x1_2.toInt + 1 → eli f29 (rfa f29 a0_script 13) (eli f0 (rfa f0 a0 10) j).toNat ≠ -1) := Hid.mk (fun j hj => by rw [e13]; exact if q : (eli f0 (rfa f0 a0 10) j).toNat = v28.toInt.toNat then (by rw [if_pos q]; omega) else (by rw [if_neg q]; exact hIo.g j (by have : j ≠ x1_2.toInt.toNat := fun e => q (by rw [e, ← eG]); omega)))
          refine tu_iinc F dX3_findGoes_59 hl (k := 2) rfl (by decide) ki_1 (by omega) (fun z34 ls hz34 hl => ?_)
          have hl : lv_has ls 3 [(1, .int z34), (2, .int v22), (0, .ref a0)] := hl
          refine lv_goto (tgt := 2) F.1 F.2.1 dX3_findGoes_62 (by decide) ?_
          exact ih2 f29 _ _ _ z34 (by omega) (by omega) (Hid.mk (fun j hj => hJ.g j (by omega))) (by omega) h hX hk hb2 (lv_sub hl [2, 0] rfl)
        · refine lv_aload_n F.1 F.2.1 dX3_findGoes_37 rfl (lv_at hl 1 rfl) ?_
          refine tw_bipush F dX3_findGoes_38 kb_6 (fun z35 hz35 => ?_)
          refine tw_Vi (As := [.int z35]) F hZ h yk_X3_fail mw_420 mw_421 mw_422 (s_X3_fail l D cy L R O f14 a0 m_a0 r_a0 z35 ⟨by omega, by omega⟩) rfl rfl m_a0 r_a0 (fun e q => (T_3 e).mp q) rfl hl.1 rfl (Nat.le_of_ble_eq_true rfl) ⟨Nat.le_of_ble_eq_true rfl, Nat.le_of_ble_eq_true rfl⟩ ⟨Nat.le_of_ble_eq_true rfl, Nat.le_of_ble_eq_true rfl⟩ dX3_findGoes_40 (fun v37 f36 H locs hp36 h => ?_)
          obtain ⟨hf36, hv37a, hv37b⟩ := hp36
          have hX : OB L R O a0_script f0 f36 := OB_fr hX hf36 (by decide +kernel)
          have hI : Hid (∀ j : Nat, (j : Int) < x1_2.toInt → eli f36 (rfa f36 a0_script 13) (eli f0 (rfa f0 a0 10) j).toNat ≠ -1) := Hid.mk (fun j hj => by rw [E0i (hG.1.fr hk (by decide +kernel)) hf36 (by decide +kernel) m_a0_script r_a0_script sk13 rfl (by decide +kernel)]; exact hI.g j hj)
          have hk : fr L R [(3, 2), (3, 3), (3, 12)] [3, 44] f0 f36 := hk.tr hf36 rfl rfl
          have e38 : fld f36 a0 10 = .ref a0_goSlots := (hf36.efl m_a0 r_a0 rfl).trans e15
          have e39 : fi f36 a0 11 = fi f14 a0 11 := hf36.efi m_a0 r_a0 rfl
          have e40 : fld f36 a0 1 = .ref a0_script := (hf36.efl m_a0 r_a0 rfl).trans e17
          exact hret f36 _ _ _ _ v37 dX3_findGoes_43 (tw_nb (by omega)) ⟨hk, by omega, by omega, Or.inl (by omega), by rw [hs1]; exact hX⟩ h
  have hb2 : fr L R [(3, 12)] [3, 44] f0 f0 := fr.rf
  exact j_2 (((100 - z1.toInt)).toNat + 1) f0 _ _ _ z1 (by omega) (by omega) (Hid.mk (fun j hj => by omega)) (by omega) h hX hk hb2 (lv_sub hl [1, 0] rfl)
