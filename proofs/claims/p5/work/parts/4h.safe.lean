theorem dX3_readRule_0 : decode cX3_readRule 0 = .ok (.aload_n 0, 1) := by decide +kernel
theorem dX3_readRule_1 : decode cX3_readRule 1 = .ok (.getfield 21, 3) := by decide +kernel
theorem dX3_readRule_4 : decode cX3_readRule 4 = .ok (.getfield 169, 3) := by decide +kernel
theorem dX3_readRule_7 : decode cX3_readRule 7 = .ok (.ifCond .ne 9, 3) := by decide +kernel
theorem dX3_readRule_16 : decode cX3_readRule 16 = .ok (.aload_n 0, 1) := by decide +kernel
theorem dX3_readRule_17 : decode cX3_readRule 17 = .ok (.getfield 21, 3) := by decide +kernel
theorem dX3_readRule_20 : decode cX3_readRule 20 = .ok (.getfield 181, 3) := by decide +kernel
theorem mw_575 : Cond.fieldLink RX3 181 "AskBack$Script" "ruleCount" "I" ∈ wsL_law := inr_24 _ (List.mem_of_getElem? (i := 23) rfl)
section
variable {p : Program} {l : Launch} {e : Env} {R0 : Room} {s : State} {m : MethodId} {args : Array Value} {below : List Frame} {meth : Method} {c : Code} {H H0 : Heap} {locs : List Loc} {cells slots : Nat} {Q : State → Prop} {cc : ByteArray} {nL : Nat} {D : va_G} {cy : Nat → ClassId} {A : Nat → Prop} {L : List Nat} {R : Nat → Nat} {f : Nat → va_E} {pc : Nat} {ls : Array Slot} {rest : List Value} {a : Nat}
theorem g_3_181 (F : CallFix p m c cc nL s args wsL_law RX3) (h : tS D cy A H0 L R (TT cy L R) f s H locs) (ha : a ∈ L) (hr : R a = 6) (hdg : decode cc pc = .ok (.getfield 181, 3)) (kk : ∀ x : Int32, x.toInt = fi f a 17 → 0 ≤ x.toInt → x.toInt ≤ 24 → W p l e R0 s m args below meth c H locs cells slots Q (F0 m (pc + 3) ls (.int x :: rest))) : W p l e R0 s m args below meth c H locs cells slots Q (F0 m pc ls (.ref a :: rest)) := tu_geti F h ha hr (fun e q => (T_6 e).mp q) rfl inlX6 rfl (Nat.le_of_ble_eq_true rfl) mw_575 hdg (fun x h1 h2 h3 => kk x h1 h2 h3)
end
theorem dX3_readRule_23 : decode cX3_readRule 23 = .ok (.bipush 24, 2) := by decide +kernel
theorem dX3_readRule_25 : decode cX3_readRule 25 = .ok (.if_icmp .lt 9, 3) := by decide +kernel
theorem dX3_readRule_34 : decode cX3_readRule 34 = .ok (.aload_n 0, 1) := by decide +kernel
theorem dX3_readRule_35 : decode cX3_readRule 35 = .ok (.getfield 21, 3) := by decide +kernel
theorem dX3_readRule_38 : decode cX3_readRule 38 = .ok (.getfield 181, 3) := by decide +kernel
theorem dX3_readRule_41 : decode cX3_readRule 41 = .ok (.istore_n 2, 1) := by decide +kernel
theorem dX3_readRule_42 : decode cX3_readRule 42 = .ok (.aload_n 0, 1) := by decide +kernel
theorem dX3_readRule_43 : decode cX3_readRule 43 = .ok (.getfield 21, 3) := by decide +kernel
theorem dX3_readRule_46 : decode cX3_readRule 46 = .ok (.iload_n 1, 1) := by decide +kernel
theorem dX3_readRule_47 : decode cX3_readRule 47 = .ok (.invokevirtual 184, 3) := by decide +kernel
theorem mw_577 : Cond.methodLink RX3 184 yX6_addRule ∈ wsL_law := inr_25 _ (List.mem_of_getElem? (i := 1) rfl)
theorem mw_580 : Cond.code yX6_addRule cX6_addRule 2 none ∈ wsL_law := inr_25 _ (List.mem_of_getElem? (i := 4) rfl)
theorem yk_X6_addRule : xY yX6_addRule RX6 cX6_addRule 2 none 1 := ⟨⟨rfl, by decide +kernel, by decide +kernel, by decide +kernel⟩, mw_57, mw_580⟩
theorem mw_578 : Cond.instanceMethod yX6_addRule ∈ wsL_law := inr_25 _ (List.mem_of_getElem? (i := 2) rfl)
theorem mw_579 : Cond.selects RX6 yX6_addRule yX6_addRule ∈ wsL_law := inr_25 _ (List.mem_of_getElem? (i := 3) rfl)
theorem dX3_readRule_50 : decode cX3_readRule 50 = .ok (.aload_n 0, 1) := by decide +kernel
theorem dX3_readRule_51 : decode cX3_readRule 51 = .ok (.dup, 1) := by decide +kernel
theorem dX3_readRule_52 : decode cX3_readRule 52 = .ok (.getfield 58, 3) := by decide +kernel
theorem dX3_readRule_55 : decode cX3_readRule 55 = .ok (.iconst 1, 1) := by decide +kernel
theorem dX3_readRule_56 : decode cX3_readRule 56 = .ok (.iadd, 1) := by decide +kernel
theorem dX3_readRule_57 : decode cX3_readRule 57 = .ok (.putfield 58, 3) := by decide +kernel
theorem dX3_readRule_60 : decode cX3_readRule 60 = .ok (.aload_n 0, 1) := by decide +kernel
theorem dX3_readRule_61 : decode cX3_readRule 61 = .ok (.iload_n 2, 1) := by decide +kernel
theorem dX3_readRule_62 : decode cX3_readRule 62 = .ok (.invokevirtual 188, 3) := by decide +kernel
theorem mw_581 : Cond.methodLink RX3 188 yX3_readPattern ∈ wsL_law := inr_25 _ (List.mem_of_getElem? (i := 5) rfl)
theorem mw_584 : Cond.code yX3_readPattern cX3_readPattern 5 (some .boolean) ∈ wsL_law := inr_25 _ (List.mem_of_getElem? (i := 8) rfl)
theorem yk_X3_readPattern : xY yX3_readPattern RX3 cX3_readPattern 5 (some .boolean) 1 := ⟨⟨rfl, by decide +kernel, by decide +kernel, by decide +kernel⟩, mw_19, mw_584⟩
theorem mw_582 : Cond.instanceMethod yX3_readPattern ∈ wsL_law := inr_25 _ (List.mem_of_getElem? (i := 6) rfl)
theorem mw_583 : Cond.selects RX3 yX3_readPattern yX3_readPattern ∈ wsL_law := inr_25 _ (List.mem_of_getElem? (i := 7) rfl)
theorem dX3_readRule_65 : decode cX3_readRule 65 = .ok (.ifCond .ne 5, 3) := by decide +kernel
theorem dX3_readRule_70 : decode cX3_readRule 70 = .ok (.aload_n 0, 1) := by decide +kernel
theorem dX3_readRule_71 : decode cX3_readRule 71 = .ok (.ldc2_w 191, 3) := by decide +kernel
theorem mw_576 : Cond.constantLong RX3 191 (19513) ∈ wsL_law := inr_25 _ (List.mem_of_getElem? (i := 0) rfl)
theorem kl_19513 : (19513 : Int64).toInt = 19513 := by decide +kernel
theorem dX3_readRule_74 : decode cX3_readRule 74 = .ok (.invokevirtual 93, 3) := by decide +kernel
theorem dX3_readRule_77 : decode cX3_readRule 77 = .ok (.ifCond .ne 8, 3) := by decide +kernel
theorem dX3_readRule_85 : decode cX3_readRule 85 = .ok (.aload_n 0, 1) := by decide +kernel
theorem dX3_readRule_86 : decode cX3_readRule 86 = .ok (.dup, 1) := by decide +kernel
theorem dX3_readRule_87 : decode cX3_readRule 87 = .ok (.getfield 58, 3) := by decide +kernel
theorem dX3_readRule_90 : decode cX3_readRule 90 = .ok (.iconst 1, 1) := by decide +kernel
theorem dX3_readRule_91 : decode cX3_readRule 91 = .ok (.iadd, 1) := by decide +kernel
theorem dX3_readRule_92 : decode cX3_readRule 92 = .ok (.putfield 58, 3) := by decide +kernel
theorem dX3_readRule_95 : decode cX3_readRule 95 = .ok (.aload_n 0, 1) := by decide +kernel
theorem dX3_readRule_96 : decode cX3_readRule 96 = .ok (.iload_n 2, 1) := by decide +kernel
theorem dX3_readRule_97 : decode cX3_readRule 97 = .ok (.iload_n 1, 1) := by decide +kernel
theorem dX3_readRule_98 : decode cX3_readRule 98 = .ok (.invokevirtual 193, 3) := by decide +kernel
theorem mw_594 : Cond.methodLink RX3 193 yX3_readAnswers ∈ wsL_law := inr_25 _ (List.mem_of_getElem? (i := 18) rfl)
theorem mw_597 : Cond.code yX3_readAnswers cX3_readAnswers 6 (some .boolean) ∈ wsL_law := inr_25 _ (List.mem_of_getElem? (i := 21) rfl)
theorem yk_X3_readAnswers : xY yX3_readAnswers RX3 cX3_readAnswers 6 (some .boolean) 2 := ⟨⟨rfl, by decide +kernel, by decide +kernel, by decide +kernel⟩, mw_19, mw_597⟩
theorem mw_595 : Cond.instanceMethod yX3_readAnswers ∈ wsL_law := inr_25 _ (List.mem_of_getElem? (i := 19) rfl)
theorem mw_596 : Cond.selects RX3 yX3_readAnswers yX3_readAnswers ∈ wsL_law := inr_25 _ (List.mem_of_getElem? (i := 20) rfl)
theorem dX3_readRule_101 : decode cX3_readRule 101 = .ok (.ireturn, 1) := by decide +kernel
theorem dX3_readRule_80 : decode cX3_readRule 80 = .ok (.aload_n 0, 1) := by decide +kernel
theorem dX3_readRule_81 : decode cX3_readRule 81 = .ok (.invokevirtual 119, 3) := by decide +kernel
theorem dX3_readRule_84 : decode cX3_readRule 84 = .ok (.ireturn, 1) := by decide +kernel
theorem dX3_readRule_68 : decode cX3_readRule 68 = .ok (.iconst 0, 1) := by decide +kernel
theorem dX3_readRule_69 : decode cX3_readRule 69 = .ok (.ireturn, 1) := by decide +kernel
theorem dX3_readRule_28 : decode cX3_readRule 28 = .ok (.aload_n 0, 1) := by decide +kernel
theorem dX3_readRule_29 : decode cX3_readRule 29 = .ok (.iconst 5, 1) := by decide +kernel
theorem dX3_readRule_30 : decode cX3_readRule 30 = .ok (.invokevirtual 75, 3) := by decide +kernel
theorem dX3_readRule_33 : decode cX3_readRule 33 = .ok (.ireturn, 1) := by decide +kernel
theorem dX3_readRule_10 : decode cX3_readRule 10 = .ok (.aload_n 0, 1) := by decide +kernel
theorem dX3_readRule_11 : decode cX3_readRule 11 = .ok (.iconst 4, 1) := by decide +kernel
theorem dX3_readRule_12 : decode cX3_readRule 12 = .ok (.invokevirtual 75, 3) := by decide +kernel
theorem dX3_readRule_15 : decode cX3_readRule 15 = .ok (.ireturn, 1) := by decide +kernel
def rm_X3_readRule : Room := { frames := 4, cells := 0, slots := 0, locals := 93 }
set_option maxHeartbeats 1000000 in
set_option maxRecDepth 100000 in
theorem s_X3_readRule (l : Launch) (D : va_G) (cy : Nat → ClassId) (L : List Nat) (R O : Nat → Nat) (f0 : Nat → va_E) (hG : GG L R O f0) (a0 : Nat) (m_a0 : a0 ∈ L) (r_a0 : R a0 = 3) (x1 : Int32) (b1 : 0 ≤ x1.toInt ∧ x1.toInt ≤ 1) (pre0 : fi f0 a0 12 < fi f0 a0 8) (pre1 : TK L R f0 a0) (pre2 : PNZ f0 (rfa f0 a0 1)) (pre3 : fi f0 (rfa f0 a0 1) 14 ≤ fi f0 a0 12) (pre4 : (fi f0 (rfa f0 a0 1) 17 ≤ 23 → fi f0 a0 11 ≤ 96)) (pre5 : RG f0 a0 (rfa f0 a0 1)) : ∀ sz, Met l yX3_readRule (Cond.code yX3_readRule cX3_readRule 3 (some .boolean) :: wsL_law) rm_X3_readRule (va_Pc [.ref a0, .int x1] (tPZ D cy L R (TT cy L R) f0 sz)) (va_Qi (fun (r : Int32) f1 => fr L R [(3, 2), (3, 3), (3, 11), (3, 12), (3, 13), (6, 14), (6, 17), (6, 18)] [3, 6, 32, 33, 35, 37, 38, 39, 40, 41, 42, 43] f0 f1 ∧ 0 ≤ r.toInt ∧ r.toInt ≤ 1 ∧ GG L R O f1 ∧ fi f0 a0 12 ≤ fi f1 a0 12 ∧ (r.toInt = 0 ∨ RG f1 a0 (rfa f0 a0 1)) ∧ fi f1 a0 11 ≤ fi f0 a0 11 + 4 ∧ (fi f1 (rfa f0 a0 1) 17 = fi f0 (rfa f0 a0 1) 17 + 1 ∨ r.toInt = 0) ∧ PNZ f1 (rfa f0 a0 1) ∧ fi f1 (rfa f0 a0 1) 14 ≤ fi f1 a0 12 ∧ OB L R O (rfa f0 a0 1) f0 f1) (tB D (tA L sz) L R (TT cy L R)) (tA L sz)) 0 0 (tA L sz) := by
  refine tw_enteri (by decide +kernel) rfl (Nat.le_of_ble_eq_true rfl) ?_
  intro p e s m below meth c A ls args Q F hZ h hl hret
  have hl : lv_has ls 3 [(0, .ref a0), (1, .int x1)] := hl
  have hk : fr L R [(3, 2), (3, 3), (3, 11), (3, 12), (3, 13), (6, 14), (6, 17), (6, 18)] [3, 6, 32, 33, 35, 37, 38, 39, 40, 41, 42, 43] f0 f0 := fr.rf
  have t_a0_at := h.bfi m_a0 r_a0 (fun e q => (T_3 e).mp q) (k := 12) rfl
  have t_a0_tokenCount := h.bfi m_a0 r_a0 (fun e q => (T_3 e).mp q) (k := 8) rfl
  obtain ⟨a0_script, m_a0_script, r_a0_script, t_a0_script⟩ := h.rf m_a0 r_a0 (fun e q => (T_3 e).mp q) (k := 1) rfl
  have t_a0_script_partCount := h.bfi m_a0_script r_a0_script (fun e q => (T_6 e).mp q) (k := 14) rfl
  obtain ⟨a0_goSlots, m_a0_goSlots, r_a0_goSlots, t_a0_goSlots⟩ := h.rf m_a0 r_a0 (fun e q => (T_3 e).mp q) (k := 10) rfl
  have t_a0_goCount := h.bfi m_a0 r_a0 (fun e q => (T_3 e).mp q) (k := 11) rfl
  have t_a0_script_keyCount := h.bfi m_a0_script r_a0_script (fun e q => (T_6 e).mp q) (k := 15) rfl
  have t_a0_script_ruleCount := h.bfi m_a0_script r_a0_script (fun e q => (T_6 e).mp q) (k := 17) rfl
  have hs1 := rfa_of t_a0_script
  rw [hs1] at pre2 pre3 pre4 pre5
  have hT := pre1
  have hP := pre2
  have rg0 := Hid.mk pre5
  clear pre5
  have hR : RV f0 f0 a0 a0_script := RV_rf
  have hX : OB L R O a0_script f0 f0 := OB_rf
  refine lv_aload_n F.1 F.2.1 dX3_readRule_0 rfl (lv_at hl 0 rfl) ?_
  refine g_3_21 F h m_a0 r_a0 dX3_readRule_1 (fun o1 m_o1 r_o1 ho1 => ?_)
  obtain rfl := (fld_inj t_a0_script ho1).symm
  refine g_3_169 F h m_a0_script r_a0_script dX3_readRule_4 (fun v2 hv2 hv2a hv2b => ?_)
  refine tw_if_ne (tgt := 16) F dX3_readRule_7 (by decide) (fun b3 => ?_) (fun b3 => ?_)
  · refine lv_aload_n F.1 F.2.1 dX3_readRule_16 rfl (lv_at hl 0 rfl) ?_
    refine g_3_21 F h m_a0 r_a0 dX3_readRule_17 (fun o4 m_o4 r_o4 ho4 => ?_)
    obtain rfl := (fld_inj t_a0_script ho4).symm
    refine g_3_181 F h m_a0_script r_a0_script dX3_readRule_20 (fun v5 hv5 hv5a hv5b => ?_)
    refine tw_bipush F dX3_readRule_23 kb_24 (fun z6 hz6 => ?_)
    refine tw_icmp_lt (tgt := 34) F dX3_readRule_25 (by decide) (fun b7 => ?_) (fun b7 => ?_)
    · refine lv_aload_n F.1 F.2.1 dX3_readRule_34 rfl (lv_at hl 0 rfl) ?_
      refine g_3_21 F h m_a0 r_a0 dX3_readRule_35 (fun o8 m_o8 r_o8 ho8 => ?_)
      obtain rfl := (fld_inj t_a0_script ho8).symm
      refine g_3_181 F h m_a0_script r_a0_script dX3_readRule_38 (fun v9 hv9 hv9a hv9b => ?_)
      refine lv_istore_n (lv' := [(2, .int v9), (0, .ref a0), (1, .int x1)]) F.1 F.2.1 dX3_readRule_41 rfl hl (by decide) rfl (fun ls hl => ?_)
      refine lv_aload_n F.1 F.2.1 dX3_readRule_42 rfl (lv_at hl 1 rfl) ?_
      refine g_3_21 F h m_a0 r_a0 dX3_readRule_43 (fun o10 m_o10 r_o10 ho10 => ?_)
      obtain rfl := (fld_inj t_a0_script ho10).symm
      refine lv_iload_n F.1 F.2.1 dX3_readRule_46 rfl (lv_at hl 2 rfl) ?_
      have hGo := hG
      refine tw_Vv (As := [.int x1]) F hZ h yk_X6_addRule mw_577 mw_578 mw_579 (s_X6_addRule l D cy L R O f0 hG a0_script m_a0_script r_a0_script x1 ⟨by omega, by omega⟩ (by omega) (by omega)) rfl rfl m_a0_script r_a0_script (fun e q => (T_6 e).mp q) rfl hl.1 rfl (Nat.le_of_ble_eq_true rfl) ⟨Nat.le_of_ble_eq_true rfl, Nat.le_of_ble_eq_true rfl⟩ ⟨Nat.le_of_ble_eq_true rfl, Nat.le_of_ble_eq_true rfl⟩ dX3_readRule_47 (fun f11 H locs hp11 h => ?_)
      obtain ⟨hf11, hG, hv12p0, hv12p1, hv12p2, hv12p3⟩ := hp11
      have hX : OB L R O a0_script f0 f11 := OB_tr hX hv12p3
      have hT : TK L R f11 a0 := TK_fr hT hf11 (by decide +kernel) m_a0 r_a0
      have hP : PNZ f11 a0_script := PNZ_fr hP hGo.1 hf11 (by decide +kernel) (by decide +kernel) (by decide +kernel) m_a0_script r_a0_script
      have hR : RV f0 f11 a0 a0_script := RV_fr hR hGo.1 hf11 (by decide +kernel) (Int.le_of_eq (hf11.efi m_a0_script r_a0_script (by decide +kernel)).symm) (by decide +kernel) (by decide +kernel) (by decide +kernel) (by decide +kernel) (by decide +kernel) (by decide +kernel) m_a0_script r_a0_script m_a0 r_a0 t_a0_goSlots m_a0_goSlots r_a0_goSlots
      have hk : fr L R [(3, 2), (3, 3), (3, 11), (3, 12), (3, 13), (6, 14), (6, 17), (6, 18)] [3, 6, 32, 33, 35, 37, 38, 39, 40, 41, 42, 43] f0 f11 := hk.tr hf11 (by decide +kernel) (by decide +kernel)
      have e13 : fi f11 a0 12 = fi f0 a0 12 := hf11.efi m_a0 r_a0 rfl
      have e14 : fi f11 a0 8 = fi f0 a0 8 := hf11.efi m_a0 r_a0 rfl
      have e15 : fld f11 a0 1 = .ref a0_script := (hf11.efl m_a0 r_a0 rfl).trans t_a0_script
      have e16 : fi f11 a0_script 14 = fi f0 a0_script 14 := hf11.efi m_a0_script r_a0_script rfl
      have e17 : fld f11 a0 10 = .ref a0_goSlots := (hf11.efl m_a0 r_a0 rfl).trans t_a0_goSlots
      have e18 : fi f11 a0 11 = fi f0 a0 11 := hf11.efi m_a0 r_a0 rfl
      have e19 : fi f11 a0_script 15 = fi f0 a0_script 15 := hf11.efi m_a0_script r_a0_script rfl
      have ars := Hid.mk hv12p0
      have akb := Hid.mk hv12p1
      clear hv12p0 hv12p1
      have as1 : eli f11 (rfa f11 a0_script 8) (fi f0 a0_script 17).toNat = fi f0 a0_script 14 := ars.g.1
      have as2 : eli f11 (rfa f11 a0_script 9) (fi f0 a0_script 17).toNat = 0 := ars.g.2
      refine lv_aload_n F.1 F.2.1 dX3_readRule_50 rfl (lv_at hl 1 rfl) ?_
      refine lv_dup F.1 F.2.1 dX3_readRule_51 rfl ?_
      refine g_3_58 F h m_a0 r_a0 dX3_readRule_52 (fun v20 hv20 hv20a hv20b => ?_)
      refine tw_iconst F dX3_readRule_55 ki_1 (fun z21 hz21 => ?_)
      refine tu_iadd F dX3_readRule_56 (by omega) (fun z22 hz22 => ?_)
      refine p_3_58 F h m_a0 r_a0 (by omega) dX3_readRule_57 (fun f23 H locs e23p hf23 h => ?_)
      have ea24 : eli f23 (rfa f23 a0_script 8) (fi f0 a0_script 17).toNat = eli f11 (rfa f11 a0_script 8) (fi f0 a0_script 17).toNat := E0i hG.1 hf23 (by decide +kernel) m_a0_script r_a0_script sk8 rfl (by decide +kernel) _
      have ea25 : eli f23 (rfa f23 a0_script 9) (fi f0 a0_script 17).toNat = eli f11 (rfa f11 a0_script 9) (fi f0 a0_script 17).toNat := E0i hG.1 hf23 (by decide +kernel) m_a0_script r_a0_script sk9 rfl (by decide +kernel) _
      have hX : OB L R O a0_script f0 f23 := OB_fr hX hf23 (by decide +kernel)
      have hT : TK L R f23 a0 := TK_fr hT hf23 (by decide +kernel) m_a0 r_a0
      have hP : PNZ f23 a0_script := PNZ_fr hP hG.1 hf23 (by decide +kernel) (by decide +kernel) (by decide +kernel) m_a0_script r_a0_script
      have hR : RV f0 f23 a0 a0_script := RV_fr hR hG.1 hf23 (by decide +kernel) (Int.le_of_eq (hf23.efi m_a0_script r_a0_script (by decide +kernel)).symm) (by decide +kernel) (by decide +kernel) (by decide +kernel) (by decide +kernel) (by decide +kernel) (by decide +kernel) m_a0_script r_a0_script m_a0 r_a0 e17 m_a0_goSlots r_a0_goSlots
      have hG : GG L R O f23 := hG.fr hf23 (by decide +kernel) (by decide +kernel)
      have hk : fr L R [(3, 2), (3, 3), (3, 11), (3, 12), (3, 13), (6, 14), (6, 17), (6, 18)] [3, 6, 32, 33, 35, 37, 38, 39, 40, 41, 42, 43] f0 f23 := hk.tr hf23 rfl rfl
      have e26 : fi f23 a0 8 = fi f11 a0 8 := hf23.efi m_a0 r_a0 rfl
      have e27 : fld f23 a0 1 = .ref a0_script := (hf23.efl m_a0 r_a0 rfl).trans e15
      have e28 : fi f23 a0_script 14 = fi f11 a0_script 14 := hf23.efi m_a0_script r_a0_script rfl
      have e29 : fld f23 a0 10 = .ref a0_goSlots := (hf23.efl m_a0 r_a0 rfl).trans e17
      have e30 : fi f23 a0 11 = fi f11 a0 11 := hf23.efi m_a0 r_a0 rfl
      have e31 : fi f23 a0_script 15 = fi f11 a0_script 15 := hf23.efi m_a0_script r_a0_script rfl
      have e32 : fi f23 a0_script 17 = fi f11 a0_script 17 := hf23.efi m_a0_script r_a0_script rfl
      have e33 : fi f23 a0_script 18 = fi f11 a0_script 18 := hf23.efi m_a0_script r_a0_script rfl
      refine lv_aload_n F.1 F.2.1 dX3_readRule_60 rfl (lv_at hl 1 rfl) ?_
      refine lv_iload_n F.1 F.2.1 dX3_readRule_61 rfl (lv_at hl 0 rfl) ?_
      have hGo := hG
      refine tw_Vi (As := [.int v9]) F hZ h yk_X3_readPattern mw_581 mw_582 mw_583 (s_X3_readPattern l D cy L R O f23 hG a0 m_a0 r_a0 v9 ⟨by omega, by omega⟩ hT (by rw [rfa_of e27]; exact hP) (by rw [rfa_of e27]; omega) (by rw [rfa_of e27, show v9.toInt.toNat = (fi f0 a0_script 17).toNat by omega]; omega) (by rw [rfa_of e27, show v9.toInt.toNat = (fi f0 a0_script 17).toNat by omega]; omega)) rfl rfl m_a0 r_a0 (fun e q => (T_3 e).mp q) rfl hl.1 rfl (Nat.le_of_ble_eq_true rfl) ⟨Nat.le_of_ble_eq_true rfl, Nat.le_of_ble_eq_true rfl⟩ ⟨Nat.le_of_ble_eq_true rfl, Nat.le_of_ble_eq_true rfl⟩ dX3_readRule_62 (fun v35 f34 H locs hp34 h => ?_)
      obtain ⟨hf34, hv35a, hv35b, hG, hv35p0, hv35p1, hv35p2, hv35p3, hv35p4⟩ := hp34
      have ea36 : eli f34 (rfa f34 a0_script 8) (fi f0 a0_script 17).toNat = eli f23 (rfa f23 a0_script 8) (fi f0 a0_script 17).toNat := E0i hGo.1 hf34 (by decide +kernel) m_a0_script r_a0_script sk8 rfl (by decide +kernel) _
      have hX : OB L R O a0_script f0 f34 := OB_tr hX (by have q := hv35p4; rw [rfa_of e27] at q; exact q)
      have hT : TK L R f34 a0 := TK_fr hT hf34 (by decide +kernel) m_a0 r_a0
      have hR : RV f0 f34 a0 a0_script := RV_fr hR hGo.1 hf34 (by decide +kernel) (by have q2 := hv35p3; rw [rfa_of e27] at q2; exact q2) (by decide +kernel) (by decide +kernel) (by decide +kernel) (by decide +kernel) (by decide +kernel) (by decide +kernel) m_a0_script r_a0_script m_a0 r_a0 e29 m_a0_goSlots r_a0_goSlots
      have hk : fr L R [(3, 2), (3, 3), (3, 11), (3, 12), (3, 13), (6, 14), (6, 17), (6, 18)] [3, 6, 32, 33, 35, 37, 38, 39, 40, 41, 42, 43] f0 f34 := hk.tr hf34 (by decide +kernel) (by decide +kernel)
      have e37 : fi f34 a0 8 = fi f23 a0 8 := hf34.efi m_a0 r_a0 rfl
      have e38 : fld f34 a0 1 = .ref a0_script := (hf34.efl m_a0 r_a0 rfl).trans e27
      have e39 : fld f34 a0 10 = .ref a0_goSlots := (hf34.efl m_a0 r_a0 rfl).trans e29
      have e40 : fi f34 a0 11 = fi f23 a0 11 := hf34.efi m_a0 r_a0 rfl
      have e41 : fi f34 a0_script 15 = fi f23 a0_script 15 := hf34.efi m_a0_script r_a0_script rfl
      have e42 : fi f34 a0_script 17 = fi f23 a0_script 17 := hf34.efi m_a0_script r_a0_script rfl
      have e43 : fi f34 a0_script 18 = fi f23 a0_script 18 := hf34.efi m_a0_script r_a0_script rfl
      have hP : PNZ f34 a0_script := by have q2 := hv35p1; rw [rfa_of e27] at q2; exact q2
      have pat62 : fi f34 a0_script 14 ≤ fi f34 a0 12 := by have q2 := hv35p2; rw [rfa_of e27] at q2; exact q2
      refine tw_if_ne (tgt := 70) F dX3_readRule_65 (by decide) (fun b44 => ?_) (fun b44 => ?_)
      · refine lv_aload_n F.1 F.2.1 dX3_readRule_70 rfl (lv_at hl 1 rfl) ?_
        refine tu_ldc2 F mw_576 dX3_readRule_71 kl_19513 (fun z45 hz45 => ?_)
        refine tw_Vi (As := [.long z45]) F hZ h yk_X3_isThe mw_527 mw_528 mw_529 (s_X3_isThe l D cy L R O f34 a0 m_a0 r_a0 z45) rfl rfl m_a0 r_a0 (fun e q => (T_3 e).mp q) rfl hl.1 rfl (Nat.le_of_ble_eq_true rfl) ⟨Nat.le_of_ble_eq_true rfl, Nat.le_of_ble_eq_true rfl⟩ ⟨Nat.le_of_ble_eq_true rfl, Nat.le_of_ble_eq_true rfl⟩ dX3_readRule_74 (fun v47 f46 H locs hp46 h => ?_)
        obtain ⟨rfl, hv47a, hv47b, hv47p0⟩ := hp46
        refine tw_if_ne (tgt := 85) F dX3_readRule_77 (by decide) (fun b48 => ?_) (fun b48 => ?_)
        · refine lv_aload_n F.1 F.2.1 dX3_readRule_85 rfl (lv_at hl 1 rfl) ?_
          refine lv_dup F.1 F.2.1 dX3_readRule_86 rfl ?_
          refine g_3_58 F h m_a0 r_a0 dX3_readRule_87 (fun v49 hv49 hv49a hv49b => ?_)
          refine tw_iconst F dX3_readRule_90 ki_1 (fun z50 hz50 => ?_)
          refine tu_iadd F dX3_readRule_91 (by omega) (fun z51 hz51 => ?_)
          refine p_3_58 F h m_a0 r_a0 (by omega) dX3_readRule_92 (fun f52 H locs e52p hf52 h => ?_)
          have ea53 : eli f52 (rfa f52 a0_script 8) (fi f0 a0_script 17).toNat = eli f34 (rfa f34 a0_script 8) (fi f0 a0_script 17).toNat := E0i hG.1 hf52 (by decide +kernel) m_a0_script r_a0_script sk8 rfl (by decide +kernel) _
          have ea54 : eli f52 (rfa f52 a0_script 9) (fi f0 a0_script 17).toNat = eli f34 (rfa f34 a0_script 9) (fi f0 a0_script 17).toNat := E0i hG.1 hf52 (by decide +kernel) m_a0_script r_a0_script sk9 rfl (by decide +kernel) _
          have hX : OB L R O a0_script f0 f52 := OB_fr hX hf52 (by decide +kernel)
          have hT : TK L R f52 a0 := TK_fr hT hf52 (by decide +kernel) m_a0 r_a0
          have hR : RV f0 f52 a0 a0_script := RV_fr hR hG.1 hf52 (by decide +kernel) (Int.le_of_eq (hf52.efi m_a0_script r_a0_script (by decide +kernel)).symm) (by decide +kernel) (by decide +kernel) (by decide +kernel) (by decide +kernel) (by decide +kernel) (by decide +kernel) m_a0_script r_a0_script m_a0 r_a0 e39 m_a0_goSlots r_a0_goSlots
          have hP : PNZ f52 a0_script := PNZ_fr hP hG.1 hf52 (by decide +kernel) (by decide +kernel) (by decide +kernel) m_a0_script r_a0_script
          have hG : GG L R O f52 := hG.fr hf52 (by decide +kernel) (by decide +kernel)
          have hk : fr L R [(3, 2), (3, 3), (3, 11), (3, 12), (3, 13), (6, 14), (6, 17), (6, 18)] [3, 6, 32, 33, 35, 37, 38, 39, 40, 41, 42, 43] f0 f52 := hk.tr hf52 rfl rfl
          have e55 : fi f52 a0 8 = fi f34 a0 8 := hf52.efi m_a0 r_a0 rfl
          have e56 : fld f52 a0 1 = .ref a0_script := (hf52.efl m_a0 r_a0 rfl).trans e38
          have e57 : fi f52 a0_script 14 = fi f34 a0_script 14 := hf52.efi m_a0_script r_a0_script rfl
          have e58 : fld f52 a0 10 = .ref a0_goSlots := (hf52.efl m_a0 r_a0 rfl).trans e39
          have e59 : fi f52 a0 11 = fi f34 a0 11 := hf52.efi m_a0 r_a0 rfl
          have e60 : fi f52 a0_script 15 = fi f34 a0_script 15 := hf52.efi m_a0_script r_a0_script rfl
          have e61 : fi f52 a0_script 17 = fi f34 a0_script 17 := hf52.efi m_a0_script r_a0_script rfl
          have e62 : fi f52 a0_script 18 = fi f34 a0_script 18 := hf52.efi m_a0_script r_a0_script rfl
          refine lv_aload_n F.1 F.2.1 dX3_readRule_95 rfl (lv_at hl 1 rfl) ?_
          refine lv_iload_n F.1 F.2.1 dX3_readRule_96 rfl (lv_at hl 0 rfl) ?_
          refine lv_iload_n F.1 F.2.1 dX3_readRule_97 rfl (lv_at hl 2 rfl) ?_
          have hR98 := hR
          have kb98 : fi f52 a0_script 18 = fi f11 a0_script 18 := by omega
          have hGo := hG
          refine tw_Vi (As := [.int v9, .int x1]) F hZ h yk_X3_readAnswers mw_594 mw_595 mw_596 (s_X3_readAnswers l D cy L R O f52 hG a0 m_a0 r_a0 v9 ⟨by omega, by omega⟩ x1 ⟨by omega, by omega⟩ hT (by rw [rfa_of e56]; exact hP) (by rw [rfa_of e56]; omega) (by have q5 := pre4; omega) (fun q5 => by rw [rfa_of e56, hR.2.2]; exact (rg0.g.2.1 (by omega)).1)) rfl rfl m_a0 r_a0 (fun e q => (T_3 e).mp q) rfl hl.1 rfl (Nat.le_of_ble_eq_true rfl) ⟨Nat.le_of_ble_eq_true rfl, Nat.le_of_ble_eq_true rfl⟩ ⟨Nat.le_of_ble_eq_true rfl, Nat.le_of_ble_eq_true rfl⟩ dX3_readRule_98 (fun v64 f63 H locs hp63 h => ?_)
          obtain ⟨hf63, hv64a, hv64b, hG, hv64p0, hv64p1, hv64p2, hv64p3, hv64p4, hv64p5, hv64p6, hv64p7⟩ := hp63
          have ea65 : eli f63 (rfa f63 a0_script 8) (fi f0 a0_script 17).toNat = eli f52 (rfa f52 a0_script 8) (fi f0 a0_script 17).toNat := E0i hGo.1 hf63 (by decide +kernel) m_a0_script r_a0_script sk8 rfl (by decide +kernel) _
          have ea66 : eli f63 (rfa f63 a0_script 9) (fi f0 a0_script 17).toNat = eli f52 (rfa f52 a0_script 9) (fi f0 a0_script 17).toNat := E0i hGo.1 hf63 (by decide +kernel) m_a0_script r_a0_script sk9 rfl (by decide +kernel) _
          have hX : OB L R O a0_script f0 f63 := OB_tr hX (by have q := hv64p7; rw [rfa_of e56] at q; exact q)
          have hT : TK L R f63 a0 := TK_fr hT hf63 (by decide +kernel) m_a0 r_a0
          have hk : fr L R [(3, 2), (3, 3), (3, 11), (3, 12), (3, 13), (6, 14), (6, 17), (6, 18)] [3, 6, 32, 33, 35, 37, 38, 39, 40, 41, 42, 43] f0 f63 := hk.tr hf63 (by decide +kernel) (by decide +kernel)
          have e67 : fi f63 a0 8 = fi f52 a0 8 := hf63.efi m_a0 r_a0 rfl
          have e68 : fld f63 a0 1 = .ref a0_script := (hf63.efl m_a0 r_a0 rfl).trans e56
          have e69 : fld f63 a0 10 = .ref a0_goSlots := (hf63.efl m_a0 r_a0 rfl).trans e58
          have e70 : fi f63 a0_script 15 = fi f52 a0_script 15 := hf63.efi m_a0_script r_a0_script rfl
          have e71 : fi f63 a0_script 17 = fi f52 a0_script 17 := hf63.efi m_a0_script r_a0_script rfl
          have e72 : fi f63 a0_script 18 = fi f52 a0_script 18 := hf63.efi m_a0_script r_a0_script rfl
          have owz := hG.1
          exact hret f63 _ _ _ _ v64 dX3_readRule_101 (tw_nb (by omega)) ⟨hk, by omega, by omega, hG, by omega, if y : v64.toInt = 0 then Or.inl y else Or.inr (by
                rw [hs1]
                have rap := hv64p3.resolve_left y
                have ram := hv64p4
                rw [rfa_of e56] at rap ram
                have e17 : fi f63 a0_script 17 = fi f0 a0_script 17 + 1 := by rw [hf63.efi m_a0_script r_a0_script (by decide +kernel)]; omega
                have e18 : fi f63 a0_script 18 = fi f11 a0_script 18 := by rw [hf63.efi m_a0_script r_a0_script (by decide +kernel)]; omega
                obtain ⟨g1, g2, g3, g4⟩ := id rg0.g
                by_cases q : fi f0 a0_script 17 = 0
                · obtain ⟨a1, a2, a3⟩ := rap (by omega)
                  refine ⟨fun _ => a1, fun q2 => by omega, a2, ?_⟩
                  rcases akb.g with k | k
                  · exact Or.inl (by rw [e18, k]; exact (g2 q).2)
                  · exact Or.inr (a3 k.2)
                · obtain ⟨a1, a2⟩ := ram (by omega)
                  have ac4 := tS_eli h (owz.k m_a0_script r_a0_script sk10 (ro := 41) rfl).1 (owz.k m_a0_script r_a0_script sk10 (ro := 41) rfl).2.1 (fun e q => (T_41 e).mp q) (show 0 < 25 by decide)
                  have eA : AC0 f63 a0_script = AC0 f0 a0_script := a1.trans hR98.2.2
                  have eA4 : AC0 f63 a0_script ≤ 4 := ac4.2
                  refine ⟨fun _ => by rw [eA]; exact g1 (by omega), fun q2 => by omega, fun d hd => ?_, ?_⟩
                  · exact (g3 d (by omega)).imp (fun q5 => a2 d (by omega) (hR98.1 d q5)) (fun q5 => hv64p5 d (hR98.2.1 d q5))
                  · rcases akb.g with k | k
                    · exact g4.imp (fun q5 => by rw [e18, k]; exact q5) (fun q5 => a2 0 (by omega) (hR98.1 0 q5))
                    · omega), by omega, by rw [hs1]; omega, by have q2 := hv64p1; rw [rfa_of e56] at q2; rw [hs1]; exact q2, by have q2 := hv64p2; rw [rfa_of e56] at q2; rw [hs1]; exact q2, by rw [hs1]; exact hX⟩ h
        · refine lv_aload_n F.1 F.2.1 dX3_readRule_80 rfl (lv_at hl 1 rfl) ?_
          refine tw_Vi (As := []) F hZ h yk_X3_misplaced mw_541 mw_542 mw_543 (s_X3_misplaced l D cy L R O f34 a0 m_a0 r_a0) rfl rfl m_a0 r_a0 (fun e q => (T_3 e).mp q) rfl hl.1 rfl (Nat.le_of_ble_eq_true rfl) ⟨Nat.le_of_ble_eq_true rfl, Nat.le_of_ble_eq_true rfl⟩ ⟨Nat.le_of_ble_eq_true rfl, Nat.le_of_ble_eq_true rfl⟩ dX3_readRule_81 (fun v74 f73 H locs hp73 h => ?_)
          obtain ⟨hf73, hv74a, hv74b⟩ := hp73
          have ea75 : eli f73 (rfa f73 a0_script 8) (fi f0 a0_script 17).toNat = eli f34 (rfa f34 a0_script 8) (fi f0 a0_script 17).toNat := E0i hG.1 hf73 (by decide +kernel) m_a0_script r_a0_script sk8 rfl (by decide +kernel) _
          have ea76 : eli f73 (rfa f73 a0_script 9) (fi f0 a0_script 17).toNat = eli f34 (rfa f34 a0_script 9) (fi f0 a0_script 17).toNat := E0i hG.1 hf73 (by decide +kernel) m_a0_script r_a0_script sk9 rfl (by decide +kernel) _
          have hX : OB L R O a0_script f0 f73 := OB_fr hX hf73 (by decide +kernel)
          have hT : TK L R f73 a0 := TK_fr hT hf73 (by decide +kernel) m_a0 r_a0
          have hR : RV f0 f73 a0 a0_script := RV_fr hR hG.1 hf73 (by decide +kernel) (Int.le_of_eq (hf73.efi m_a0_script r_a0_script (by decide +kernel)).symm) (by decide +kernel) (by decide +kernel) (by decide +kernel) (by decide +kernel) (by decide +kernel) (by decide +kernel) m_a0_script r_a0_script m_a0 r_a0 e39 m_a0_goSlots r_a0_goSlots
          have hP : PNZ f73 a0_script := PNZ_fr hP hG.1 hf73 (by decide +kernel) (by decide +kernel) (by decide +kernel) m_a0_script r_a0_script
          have hG : GG L R O f73 := hG.fr hf73 (by decide +kernel) (by decide +kernel)
          have hk : fr L R [(3, 2), (3, 3), (3, 11), (3, 12), (3, 13), (6, 14), (6, 17), (6, 18)] [3, 6, 32, 33, 35, 37, 38, 39, 40, 41, 42, 43] f0 f73 := hk.tr hf73 rfl rfl
          have e77 : fi f73 a0 8 = fi f34 a0 8 := hf73.efi m_a0 r_a0 rfl
          have e78 : fld f73 a0 1 = .ref a0_script := (hf73.efl m_a0 r_a0 rfl).trans e38
          have e79 : fi f73 a0_script 14 = fi f34 a0_script 14 := hf73.efi m_a0_script r_a0_script rfl
          have e80 : fld f73 a0 10 = .ref a0_goSlots := (hf73.efl m_a0 r_a0 rfl).trans e39
          have e81 : fi f73 a0 11 = fi f34 a0 11 := hf73.efi m_a0 r_a0 rfl
          have e82 : fi f73 a0_script 15 = fi f34 a0_script 15 := hf73.efi m_a0_script r_a0_script rfl
          have e83 : fi f73 a0_script 17 = fi f34 a0_script 17 := hf73.efi m_a0_script r_a0_script rfl
          have e84 : fi f73 a0_script 18 = fi f34 a0_script 18 := hf73.efi m_a0_script r_a0_script rfl
          have e85 : fi f73 a0 12 = fi f34 a0 12 := hf73.efi m_a0 r_a0 rfl
          exact hret f73 _ _ _ _ v74 dX3_readRule_84 (tw_nb (by omega)) ⟨hk, by omega, by omega, hG, by omega, Or.inl (by omega), by omega, by rw [hs1]; omega, by rw [hs1]; exact hP, by rw [hs1]; omega, by rw [hs1]; exact hX⟩ h
      · refine tw_iconst F dX3_readRule_68 ki_0 (fun z86 hz86 => ?_)
        exact hret f34 _ _ _ _ z86 dX3_readRule_69 (tw_nb (by omega)) ⟨hk, by omega, by omega, hG, by omega, Or.inl (by omega), by omega, by rw [hs1]; omega, by rw [hs1]; exact hP, by rw [hs1]; omega, by rw [hs1]; exact hX⟩ h
    · refine lv_aload_n F.1 F.2.1 dX3_readRule_28 rfl (lv_at hl 0 rfl) ?_
      refine tw_iconst F dX3_readRule_29 ki_5 (fun z87 hz87 => ?_)
      refine tw_Vi (As := [.int z87]) F hZ h yk_X3_fail mw_420 mw_421 mw_422 (s_X3_fail l D cy L R O f0 a0 m_a0 r_a0 z87 ⟨by omega, by omega⟩) rfl rfl m_a0 r_a0 (fun e q => (T_3 e).mp q) rfl hl.1 rfl (Nat.le_of_ble_eq_true rfl) ⟨Nat.le_of_ble_eq_true rfl, Nat.le_of_ble_eq_true rfl⟩ ⟨Nat.le_of_ble_eq_true rfl, Nat.le_of_ble_eq_true rfl⟩ dX3_readRule_30 (fun v89 f88 H locs hp88 h => ?_)
      obtain ⟨hf88, hv89a, hv89b⟩ := hp88
      have ea90 : eli f88 (rfa f88 a0_script 8) (fi f0 a0_script 17).toNat = eli f0 (rfa f0 a0_script 8) (fi f0 a0_script 17).toNat := E0i hG.1 hf88 (by decide +kernel) m_a0_script r_a0_script sk8 rfl (by decide +kernel) _
      have ea91 : eli f88 (rfa f88 a0_script 9) (fi f0 a0_script 17).toNat = eli f0 (rfa f0 a0_script 9) (fi f0 a0_script 17).toNat := E0i hG.1 hf88 (by decide +kernel) m_a0_script r_a0_script sk9 rfl (by decide +kernel) _
      have hX : OB L R O a0_script f0 f88 := OB_fr hX hf88 (by decide +kernel)
      have hT : TK L R f88 a0 := TK_fr hT hf88 (by decide +kernel) m_a0 r_a0
      have hP : PNZ f88 a0_script := PNZ_fr hP hG.1 hf88 (by decide +kernel) (by decide +kernel) (by decide +kernel) m_a0_script r_a0_script
      have hR : RV f0 f88 a0 a0_script := RV_fr hR hG.1 hf88 (by decide +kernel) (Int.le_of_eq (hf88.efi m_a0_script r_a0_script (by decide +kernel)).symm) (by decide +kernel) (by decide +kernel) (by decide +kernel) (by decide +kernel) (by decide +kernel) (by decide +kernel) m_a0_script r_a0_script m_a0 r_a0 t_a0_goSlots m_a0_goSlots r_a0_goSlots
      have hG : GG L R O f88 := hG.fr hf88 (by decide +kernel) (by decide +kernel)
      have hk : fr L R [(3, 2), (3, 3), (3, 11), (3, 12), (3, 13), (6, 14), (6, 17), (6, 18)] [3, 6, 32, 33, 35, 37, 38, 39, 40, 41, 42, 43] f0 f88 := hk.tr hf88 rfl rfl
      have e92 : fi f88 a0 12 = fi f0 a0 12 := hf88.efi m_a0 r_a0 rfl
      have e93 : fi f88 a0 8 = fi f0 a0 8 := hf88.efi m_a0 r_a0 rfl
      have e94 : fld f88 a0 1 = .ref a0_script := (hf88.efl m_a0 r_a0 rfl).trans t_a0_script
      have e95 : fi f88 a0_script 14 = fi f0 a0_script 14 := hf88.efi m_a0_script r_a0_script rfl
      have e96 : fld f88 a0 10 = .ref a0_goSlots := (hf88.efl m_a0 r_a0 rfl).trans t_a0_goSlots
      have e97 : fi f88 a0 11 = fi f0 a0 11 := hf88.efi m_a0 r_a0 rfl
      have e98 : fi f88 a0_script 15 = fi f0 a0_script 15 := hf88.efi m_a0_script r_a0_script rfl
      have e99 : fi f88 a0_script 17 = fi f0 a0_script 17 := hf88.efi m_a0_script r_a0_script rfl
      have e100 : fi f88 a0_script 18 = fi f0 a0_script 18 := hf88.efi m_a0_script r_a0_script rfl
      exact hret f88 _ _ _ _ v89 dX3_readRule_33 (tw_nb (by omega)) ⟨hk, by omega, by omega, hG, by omega, Or.inl (by omega), by omega, by rw [hs1]; omega, by rw [hs1]; exact hP, by rw [hs1]; omega, by rw [hs1]; exact hX⟩ h
  · refine lv_aload_n F.1 F.2.1 dX3_readRule_10 rfl (lv_at hl 0 rfl) ?_
    refine tw_iconst F dX3_readRule_11 ki_4 (fun z101 hz101 => ?_)
    refine tw_Vi (As := [.int z101]) F hZ h yk_X3_fail mw_420 mw_421 mw_422 (s_X3_fail l D cy L R O f0 a0 m_a0 r_a0 z101 ⟨by omega, by omega⟩) rfl rfl m_a0 r_a0 (fun e q => (T_3 e).mp q) rfl hl.1 rfl (Nat.le_of_ble_eq_true rfl) ⟨Nat.le_of_ble_eq_true rfl, Nat.le_of_ble_eq_true rfl⟩ ⟨Nat.le_of_ble_eq_true rfl, Nat.le_of_ble_eq_true rfl⟩ dX3_readRule_12 (fun v103 f102 H locs hp102 h => ?_)
    obtain ⟨hf102, hv103a, hv103b⟩ := hp102
    have ea104 : eli f102 (rfa f102 a0_script 8) (fi f0 a0_script 17).toNat = eli f0 (rfa f0 a0_script 8) (fi f0 a0_script 17).toNat := E0i hG.1 hf102 (by decide +kernel) m_a0_script r_a0_script sk8 rfl (by decide +kernel) _
    have ea105 : eli f102 (rfa f102 a0_script 9) (fi f0 a0_script 17).toNat = eli f0 (rfa f0 a0_script 9) (fi f0 a0_script 17).toNat := E0i hG.1 hf102 (by decide +kernel) m_a0_script r_a0_script sk9 rfl (by decide +kernel) _
    have hX : OB L R O a0_script f0 f102 := OB_fr hX hf102 (by decide +kernel)
    have hT : TK L R f102 a0 := TK_fr hT hf102 (by decide +kernel) m_a0 r_a0
    have hP : PNZ f102 a0_script := PNZ_fr hP hG.1 hf102 (by decide +kernel) (by decide +kernel) (by decide +kernel) m_a0_script r_a0_script
    have hR : RV f0 f102 a0 a0_script := RV_fr hR hG.1 hf102 (by decide +kernel) (Int.le_of_eq (hf102.efi m_a0_script r_a0_script (by decide +kernel)).symm) (by decide +kernel) (by decide +kernel) (by decide +kernel) (by decide +kernel) (by decide +kernel) (by decide +kernel) m_a0_script r_a0_script m_a0 r_a0 t_a0_goSlots m_a0_goSlots r_a0_goSlots
    have hG : GG L R O f102 := hG.fr hf102 (by decide +kernel) (by decide +kernel)
    have hk : fr L R [(3, 2), (3, 3), (3, 11), (3, 12), (3, 13), (6, 14), (6, 17), (6, 18)] [3, 6, 32, 33, 35, 37, 38, 39, 40, 41, 42, 43] f0 f102 := hk.tr hf102 rfl rfl
    have e106 : fi f102 a0 12 = fi f0 a0 12 := hf102.efi m_a0 r_a0 rfl
    have e107 : fi f102 a0 8 = fi f0 a0 8 := hf102.efi m_a0 r_a0 rfl
    have e108 : fld f102 a0 1 = .ref a0_script := (hf102.efl m_a0 r_a0 rfl).trans t_a0_script
    have e109 : fi f102 a0_script 14 = fi f0 a0_script 14 := hf102.efi m_a0_script r_a0_script rfl
    have e110 : fld f102 a0 10 = .ref a0_goSlots := (hf102.efl m_a0 r_a0 rfl).trans t_a0_goSlots
    have e111 : fi f102 a0 11 = fi f0 a0 11 := hf102.efi m_a0 r_a0 rfl
    have e112 : fi f102 a0_script 15 = fi f0 a0_script 15 := hf102.efi m_a0_script r_a0_script rfl
    have e113 : fi f102 a0_script 17 = fi f0 a0_script 17 := hf102.efi m_a0_script r_a0_script rfl
    have e114 : fi f102 a0_script 18 = fi f0 a0_script 18 := hf102.efi m_a0_script r_a0_script rfl
    exact hret f102 _ _ _ _ v103 dX3_readRule_15 (tw_nb (by omega)) ⟨hk, by omega, by omega, hG, by omega, Or.inl (by omega), by omega, by rw [hs1]; omega, by rw [hs1]; exact hP, by rw [hs1]; omega, by rw [hs1]; exact hX⟩ h
