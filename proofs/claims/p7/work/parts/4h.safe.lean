theorem dX3_readRule_0 : decode cX3_readRule 0 = .ok (.aload_n 0, 1) := by decide +kernel
theorem dX3_readRule_1 : decode cX3_readRule 1 = .ok (.getfield 21, 3) := by decide +kernel
theorem dX3_readRule_4 : decode cX3_readRule 4 = .ok (.getfield 169, 3) := by decide +kernel
theorem dX3_readRule_7 : decode cX3_readRule 7 = .ok (.ifCond .ne 9, 3) := by decide +kernel
theorem dX3_readRule_16 : decode cX3_readRule 16 = .ok (.aload_n 0, 1) := by decide +kernel
theorem dX3_readRule_17 : decode cX3_readRule 17 = .ok (.getfield 21, 3) := by decide +kernel
theorem dX3_readRule_20 : decode cX3_readRule 20 = .ok (.getfield 181, 3) := by decide +kernel
theorem mw_575 : Cond.fieldLink RX3 181 "AskBack$Script" "ruleCount" "I" ∈ wsL_law := inr_24 _ (List.mem_of_getElem? (i := 23) rfl)
section
variable {p : Program} {l : Launch} {e : Env} {R0 : Room} {s : State} {m : MethodId} {args : Array Value} {below : List Frame} {meth : Method} {c : Code} {H H0 : Heap} {locs : List Loc} {cells slots : Nat} {Q : State → Prop} {cc : ByteArray} {nL : Nat} {D : va_G} {cy : Nat → ClassId} {A : Nat → Prop} {L : List Nat} {R : Nat → Nat} {f : Nat → va_E} {pc : Nat} {ls : Array Slot} {rest : List Value} {a : Nat}
theorem g_3_181 (F : CallFix p m c cc nL s args wsL_law RX3) (h : tS D cy A H0 L R (TT cy L R) f s H locs) (ha : a ∈ L) (hr : R a = 6) (hdg : decode cc pc = .ok (.getfield 181, 3)) (kk : ∀ x : Int32, x.toInt = fi f a 17 → 0 ≤ x.toInt → x.toInt ≤ 24 → W p l e R0 s m args below meth c H locs cells slots Q (F0 m (pc + 3) ls (.int x :: rest))) : W p l e R0 s m args below meth c H locs cells slots Q (F0 m pc ls (.ref a :: rest)) := tu_geti F h ha hr (fun e q => (T_6 e).mp q) rfl inlX6 rfl (Nat.le_of_ble_eq_true rfl) mw_575 hdg (fun x h1 h2 h3 => kk x h1 h2 h3)
end
theorem dX3_readRule_23 : decode cX3_readRule 23 = .ok (.bipush 24, 2) := by decide +kernel
theorem dX3_readRule_25 : decode cX3_readRule 25 = .ok (.if_icmp .lt 9, 3) := by decide +kernel
theorem dX3_readRule_34 : decode cX3_readRule 34 = .ok (.aload_n 0, 1) := by decide +kernel
theorem dX3_readRule_35 : decode cX3_readRule 35 = .ok (.getfield 21, 3) := by decide +kernel
theorem dX3_readRule_38 : decode cX3_readRule 38 = .ok (.getfield 181, 3) := by decide +kernel
theorem dX3_readRule_41 : decode cX3_readRule 41 = .ok (.istore_n 2, 1) := by decide +kernel
theorem dX3_readRule_42 : decode cX3_readRule 42 = .ok (.aload_n 0, 1) := by decide +kernel
theorem dX3_readRule_43 : decode cX3_readRule 43 = .ok (.getfield 21, 3) := by decide +kernel
theorem dX3_readRule_46 : decode cX3_readRule 46 = .ok (.iload_n 1, 1) := by decide +kernel
theorem dX3_readRule_47 : decode cX3_readRule 47 = .ok (.invokevirtual 184, 3) := by decide +kernel
theorem mw_577 : Cond.methodLink RX3 184 yX6_addRule ∈ wsL_law := inr_25 _ (List.mem_of_getElem? (i := 1) rfl)
theorem mw_580 : Cond.code yX6_addRule cX6_addRule 2 none ∈ wsL_law := inr_25 _ (List.mem_of_getElem? (i := 4) rfl)
theorem yk_X6_addRule : xY yX6_addRule RX6 cX6_addRule 2 none 1 := ⟨⟨rfl, by decide +kernel, by decide +kernel, by decide +kernel⟩, mw_57, mw_580⟩
theorem mw_578 : Cond.instanceMethod yX6_addRule ∈ wsL_law := inr_25 _ (List.mem_of_getElem? (i := 2) rfl)
theorem mw_579 : Cond.selects RX6 yX6_addRule yX6_addRule ∈ wsL_law := inr_25 _ (List.mem_of_getElem? (i := 3) rfl)
theorem dX3_readRule_50 : decode cX3_readRule 50 = .ok (.aload_n 0, 1) := by decide +kernel
theorem dX3_readRule_51 : decode cX3_readRule 51 = .ok (.dup, 1) := by decide +kernel
theorem dX3_readRule_52 : decode cX3_readRule 52 = .ok (.getfield 58, 3) := by decide +kernel
theorem dX3_readRule_55 : decode cX3_readRule 55 = .ok (.iconst 1, 1) := by decide +kernel
theorem dX3_readRule_56 : decode cX3_readRule 56 = .ok (.iadd, 1) := by decide +kernel
theorem dX3_readRule_57 : decode cX3_readRule 57 = .ok (.putfield 58, 3) := by decide +kernel
theorem dX3_readRule_60 : decode cX3_readRule 60 = .ok (.aload_n 0, 1) := by decide +kernel
theorem dX3_readRule_61 : decode cX3_readRule 61 = .ok (.iload_n 2, 1) := by decide +kernel
theorem dX3_readRule_62 : decode cX3_readRule 62 = .ok (.invokevirtual 188, 3) := by decide +kernel
theorem mw_581 : Cond.methodLink RX3 188 yX3_readPattern ∈ wsL_law := inr_25 _ (List.mem_of_getElem? (i := 5) rfl)
theorem mw_584 : Cond.code yX3_readPattern cX3_readPattern 5 (some .boolean) ∈ wsL_law := inr_25 _ (List.mem_of_getElem? (i := 8) rfl)
theorem yk_X3_readPattern : xY yX3_readPattern RX3 cX3_readPattern 5 (some .boolean) 1 := ⟨⟨rfl, by decide +kernel, by decide +kernel, by decide +kernel⟩, mw_19, mw_584⟩
theorem mw_582 : Cond.instanceMethod yX3_readPattern ∈ wsL_law := inr_25 _ (List.mem_of_getElem? (i := 6) rfl)
theorem mw_583 : Cond.selects RX3 yX3_readPattern yX3_readPattern ∈ wsL_law := inr_25 _ (List.mem_of_getElem? (i := 7) rfl)
theorem dX3_readRule_65 : decode cX3_readRule 65 = .ok (.ifCond .ne 5, 3) := by decide +kernel
theorem dX3_readRule_70 : decode cX3_readRule 70 = .ok (.aload_n 0, 1) := by decide +kernel
theorem dX3_readRule_71 : decode cX3_readRule 71 = .ok (.ldc2_w 191, 3) := by decide +kernel
theorem mw_576 : Cond.constantLong RX3 191 (19513) ∈ wsL_law := inr_25 _ (List.mem_of_getElem? (i := 0) rfl)
theorem kl_19513 : (19513 : Int64).toInt = 19513 := by decide +kernel
theorem dX3_readRule_74 : decode cX3_readRule 74 = .ok (.invokevirtual 93, 3) := by decide +kernel
theorem dX3_readRule_77 : decode cX3_readRule 77 = .ok (.ifCond .ne 8, 3) := by decide +kernel
theorem dX3_readRule_85 : decode cX3_readRule 85 = .ok (.aload_n 0, 1) := by decide +kernel
theorem dX3_readRule_86 : decode cX3_readRule 86 = .ok (.dup, 1) := by decide +kernel
theorem dX3_readRule_87 : decode cX3_readRule 87 = .ok (.getfield 58, 3) := by decide +kernel
theorem dX3_readRule_90 : decode cX3_readRule 90 = .ok (.iconst 1, 1) := by decide +kernel
theorem dX3_readRule_91 : decode cX3_readRule 91 = .ok (.iadd, 1) := by decide +kernel
theorem dX3_readRule_92 : decode cX3_readRule 92 = .ok (.putfield 58, 3) := by decide +kernel
theorem dX3_readRule_95 : decode cX3_readRule 95 = .ok (.aload_n 0, 1) := by decide +kernel
theorem dX3_readRule_96 : decode cX3_readRule 96 = .ok (.iload_n 2, 1) := by decide +kernel
theorem dX3_readRule_97 : decode cX3_readRule 97 = .ok (.iload_n 1, 1) := by decide +kernel
theorem dX3_readRule_98 : decode cX3_readRule 98 = .ok (.invokevirtual 193, 3) := by decide +kernel
theorem mw_594 : Cond.methodLink RX3 193 yX3_readAnswers ∈ wsL_law := inr_25 _ (List.mem_of_getElem? (i := 18) rfl)
theorem mw_597 : Cond.code yX3_readAnswers cX3_readAnswers 6 (some .boolean) ∈ wsL_law := inr_25 _ (List.mem_of_getElem? (i := 21) rfl)
theorem yk_X3_readAnswers : xY yX3_readAnswers RX3 cX3_readAnswers 6 (some .boolean) 2 := ⟨⟨rfl, by decide +kernel, by decide +kernel, by decide +kernel⟩, mw_19, mw_597⟩
theorem mw_595 : Cond.instanceMethod yX3_readAnswers ∈ wsL_law := inr_25 _ (List.mem_of_getElem? (i := 19) rfl)
theorem mw_596 : Cond.selects RX3 yX3_readAnswers yX3_readAnswers ∈ wsL_law := inr_25 _ (List.mem_of_getElem? (i := 20) rfl)
theorem dX3_readRule_101 : decode cX3_readRule 101 = .ok (.ireturn, 1) := by decide +kernel
theorem dX3_readRule_80 : decode cX3_readRule 80 = .ok (.aload_n 0, 1) := by decide +kernel
theorem dX3_readRule_81 : decode cX3_readRule 81 = .ok (.invokevirtual 119, 3) := by decide +kernel
theorem dX3_readRule_84 : decode cX3_readRule 84 = .ok (.ireturn, 1) := by decide +kernel
theorem dX3_readRule_68 : decode cX3_readRule 68 = .ok (.iconst 0, 1) := by decide +kernel
theorem dX3_readRule_69 : decode cX3_readRule 69 = .ok (.ireturn, 1) := by decide +kernel
theorem dX3_readRule_28 : decode cX3_readRule 28 = .ok (.aload_n 0, 1) := by decide +kernel
theorem dX3_readRule_29 : decode cX3_readRule 29 = .ok (.iconst 5, 1) := by decide +kernel
theorem dX3_readRule_30 : decode cX3_readRule 30 = .ok (.invokevirtual 75, 3) := by decide +kernel
theorem dX3_readRule_33 : decode cX3_readRule 33 = .ok (.ireturn, 1) := by decide +kernel
theorem dX3_readRule_10 : decode cX3_readRule 10 = .ok (.aload_n 0, 1) := by decide +kernel
theorem dX3_readRule_11 : decode cX3_readRule 11 = .ok (.iconst 4, 1) := by decide +kernel
theorem dX3_readRule_12 : decode cX3_readRule 12 = .ok (.invokevirtual 75, 3) := by decide +kernel
theorem dX3_readRule_15 : decode cX3_readRule 15 = .ok (.ireturn, 1) := by decide +kernel
def rm_X3_readRule : Room := { frames := 4, cells := 0, slots := 0, locals := 93 }
set_option maxHeartbeats 1000000 in
set_option maxRecDepth 100000 in
theorem s_X3_readRule (l : Launch) (D : va_G) (cy : Nat → ClassId) (L : List Nat) (R O : Nat → Nat) (f0 : Nat → va_E) (hG : GG L R O f0) (a0 : Nat) (m_a0 : a0 ∈ L) (r_a0 : R a0 = 3) (x1 : Int32) (b1 : 0 ≤ x1.toInt ∧ x1.toInt ≤ 1) (pre0 : fi f0 a0 12 < fi f0 a0 8) (pre1 : TK L R f0 a0) (pre2 : PNZ f0 (rfa f0 a0 1)) (pre3 : fi f0 (rfa f0 a0 1) 14 ≤ fi f0 a0 12) (pre4 : (fi f0 (rfa f0 a0 1) 17 ≤ 23 → fi f0 a0 11 ≤ 96)) (pre5 : RG f0 a0 (rfa f0 a0 1)) : ∀ sz, Met l yX3_readRule (Cond.code yX3_readRule cX3_readRule 3 (some .boolean) :: wsL_law) rm_X3_readRule (va_Pc [.ref a0, .int x1] (tPZ D cy L R (TT cy L R) f0 sz)) (va_Qi (fun (r : Int32) f1 => fr L R [(3, 2), (3, 3), (3, 11), (3, 12), (3, 13), (6, 14), (6, 17), (6, 18)] [3, 6, 32, 33, 35, 37, 38, 39, 40, 41, 42, 43] f0 f1 ∧ 0 ≤ r.toInt ∧ r.toInt ≤ 1 ∧ GG L R O f1 ∧ fi f0 a0 12 ≤ fi f1 a0 12 ∧ (r.toInt = 0 ∨ RG f1 a0 (rfa f0 a0 1)) ∧ eli f1 (rfa f1 (rfa f0 a0 1) 10) 24 = eli f0 (rfa f0 (rfa f0 a0 1) 10) 24 ∧ fi f1 a0 11 ≤ fi f0 a0 11 + 4 ∧ (fi f1 (rfa f0 a0 1) 17 = fi f0 (rfa f0 a0 1) 17 + 1 ∨ r.toInt = 0) ∧ PNZ f1 (rfa f0 a0 1) ∧ fi f1 (rfa f0 a0 1) 14 ≤ fi f1 a0 12 ∧ OB L R O (rfa f0 a0 1) f0 f1) (tB D (tA L sz) L R (TT cy L R)) (tA L sz)) 0 0 (tA L sz) := by
  refine tw_enteri (by decide +kernel) rfl (Nat.le_of_ble_eq_true rfl) ?_
  intro p e s m below meth c A ls args Q F hZ h hl hret
  have hl : lv_has ls 3 [(0, .ref a0), (1, .int x1)] := hl
  have hk : fr L R [(3, 2), (3, 3), (3, 11), (3, 12), (3, 13), (6, 14), (6, 17), (6, 18)] [3, 6, 32, 33, 35, 37, 38, 39, 40, 41, 42, 43] f0 f0 := fr.rf
  have t_a0_at := h.bfi m_a0 r_a0 (fun e q => (T_3 e).mp q) (k := 12) rfl
  have t_a0_tokenCount := h.bfi m_a0 r_a0 (fun e q => (T_3 e).mp q) (k := 8) rfl
  obtain ⟨a0_script, m_a0_script, r_a0_script, t_a0_script⟩ := h.rf m_a0 r_a0 (fun e q => (T_3 e).mp q) (k := 1) rfl
  have t_a0_script_partCount := h.bfi m_a0_script r_a0_script (fun e q => (T_6 e).mp q) (k := 14) rfl
  obtain ⟨a0_goSlots, m_a0_goSlots, r_a0_goSlots, t_a0_goSlots⟩ := h.rf m_a0 r_a0 (fun e q => (T_3 e).mp q) (k := 10) rfl
  have t_a0_goCount := h.bfi m_a0 r_a0 (fun e q => (T_3 e).mp q) (k := 11) rfl
  have t_a0_script_keyCount := h.bfi m_a0_script r_a0_script (fun e q => (T_6 e).mp q) (k := 15) rfl
  have t_a0_script_ruleCount := h.bfi m_a0_script r_a0_script (fun e q => (T_6 e).mp q) (k := 17) rfl
  have hs1 := rfa_of t_a0_script
  rw [hs1] at pre2 pre3 pre4 pre5
  have hT := pre1
  have hP := pre2
  have rg0 := Hid.mk pre5
  clear pre5
  have hR : RV f0 f0 a0 a0_script := RV_rf
  have hX : OB L R O a0_script f0 f0 := OB_rf
  refine lv_aload_n F.1 F.2.1 dX3_readRule_0 rfl (lv_at hl 0 rfl) ?_
  refine g_3_21 F h m_a0 r_a0 dX3_readRule_1 (fun o1 m_o1 r_o1 ho1 => ?_)
  obtain rfl := (fld_inj t_a0_script ho1).symm
  refine g_3_169 F h m_a0_script r_a0_script dX3_readRule_4 (fun v2 hv2 hv2a hv2b => ?_)
  refine tw_if_ne (tgt := 16) F dX3_readRule_7 (by decide) (fun b3 => ?_) (fun b3 => ?_)
  · refine lv_aload_n F.1 F.2.1 dX3_readRule_16 rfl (lv_at hl 0 rfl) ?_
    refine g_3_21 F h m_a0 r_a0 dX3_readRule_17 (fun o4 m_o4 r_o4 ho4 => ?_)
    obtain rfl := (fld_inj t_a0_script ho4).symm
    refine g_3_181 F h m_a0_script r_a0_script dX3_readRule_20 (fun v5 hv5 hv5a hv5b => ?_)
    refine tw_bipush F dX3_readRule_23 kb_24 (fun z6 hz6 => ?_)
    refine tw_icmp_lt (tgt := 34) F dX3_readRule_25 (by decide) (fun b7 => ?_) (fun b7 => ?_)
    · refine lv_aload_n F.1 F.2.1 dX3_readRule_34 rfl (lv_at hl 0 rfl) ?_
      refine g_3_21 F h m_a0 r_a0 dX3_readRule_35 (fun o8 m_o8 r_o8 ho8 => ?_)
      obtain rfl := (fld_inj t_a0_script ho8).symm
      refine g_3_181 F h m_a0_script r_a0_script dX3_readRule_38 (fun v9 hv9 hv9a hv9b => ?_)
      refine lv_istore_n (lv' := [(2, .int v9), (0, .ref a0), (1, .int x1)]) F.1 F.2.1 dX3_readRule_41 rfl hl (by decide) rfl (fun ls hl => ?_)
      refine lv_aload_n F.1 F.2.1 dX3_readRule_42 rfl (lv_at hl 1 rfl) ?_
      refine g_3_21 F h m_a0 r_a0 dX3_readRule_43 (fun o10 m_o10 r_o10 ho10 => ?_)
      obtain rfl := (fld_inj t_a0_script ho10).symm
      refine lv_iload_n F.1 F.2.1 dX3_readRule_46 rfl (lv_at hl 2 rfl) ?_
      have hGo := hG
      refine tw_Vv (As := [.int x1]) F hZ h yk_X6_addRule mw_577 mw_578 mw_579 (s_X6_addRule l D cy L R O f0 hG a0_script m_a0_script r_a0_script x1 ⟨by omega, by omega⟩ (by omega) (by omega)) rfl rfl m_a0_script r_a0_script (fun e q => (T_6 e).mp q) rfl hl.1 rfl (Nat.le_of_ble_eq_true rfl) ⟨Nat.le_of_ble_eq_true rfl, Nat.le_of_ble_eq_true rfl⟩ ⟨Nat.le_of_ble_eq_true rfl, Nat.le_of_ble_eq_true rfl⟩ dX3_readRule_47 (fun f11 H locs hp11 h => ?_)
      obtain ⟨hf11, hG, hv12p0, hv12p1, hv12p2, hv12p3⟩ := hp11
      have ea13 : eli f11 (rfa f11 a0_script 10) 24 = eli f0 (rfa f0 a0_script 10) 24 := E0i hGo.1 hf11 (by decide +kernel) m_a0_script r_a0_script sk10 rfl (by decide +kernel) _
      have hX : OB L R O a0_script f0 f11 := OB_tr hX hv12p3
      have hT : TK L R f11 a0 := TK_fr hT hf11 (by decide +kernel) m_a0 r_a0
      have hP : PNZ f11 a0_script := PNZ_fr hP hGo.1 hf11 (by decide +kernel) (by decide +kernel) (by decide +kernel) m_a0_script r_a0_script
      have hR : RV f0 f11 a0 a0_script := RV_fr hR hGo.1 hf11 (by decide +kernel) (Int.le_of_eq (hf11.efi m_a0_script r_a0_script (by decide +kernel)).symm) (by decide +kernel) (by decide +kernel) (by decide +kernel) (by decide +kernel) (by decide +kernel) (by decide +kernel) m_a0_script r_a0_script m_a0 r_a0 t_a0_goSlots m_a0_goSlots r_a0_goSlots
      have hk : fr L R [(3, 2), (3, 3), (3, 11), (3, 12), (3, 13), (6, 14), (6, 17), (6, 18)] [3, 6, 32, 33, 35, 37, 38, 39, 40, 41, 42, 43] f0 f11 := hk.tr hf11 (by decide +kernel) (by decide +kernel)
      have e14 : fi f11 a0 12 = fi f0 a0 12 := hf11.efi m_a0 r_a0 rfl
      have e15 : fi f11 a0 8 = fi f0 a0 8 := hf11.efi m_a0 r_a0 rfl
      have e16 : fld f11 a0 1 = .ref a0_script := (hf11.efl m_a0 r_a0 rfl).trans t_a0_script
      have e17 : fi f11 a0_script 14 = fi f0 a0_script 14 := hf11.efi m_a0_script r_a0_script rfl
      have e18 : fld f11 a0 10 = .ref a0_goSlots := (hf11.efl m_a0 r_a0 rfl).trans t_a0_goSlots
      have e19 : fi f11 a0 11 = fi f0 a0 11 := hf11.efi m_a0 r_a0 rfl
      have e20 : fi f11 a0_script 15 = fi f0 a0_script 15 := hf11.efi m_a0_script r_a0_script rfl
      have ars := Hid.mk hv12p0
      have akb := Hid.mk hv12p1
      clear hv12p0 hv12p1
      have as1 : eli f11 (rfa f11 a0_script 8) (fi f0 a0_script 17).toNat = fi f0 a0_script 14 := ars.g.1
      have as2 : eli f11 (rfa f11 a0_script 9) (fi f0 a0_script 17).toNat = 0 := ars.g.2
      refine lv_aload_n F.1 F.2.1 dX3_readRule_50 rfl (lv_at hl 1 rfl) ?_
      refine lv_dup F.1 F.2.1 dX3_readRule_51 rfl ?_
      refine g_3_58 F h m_a0 r_a0 dX3_readRule_52 (fun v21 hv21 hv21a hv21b => ?_)
      refine tw_iconst F dX3_readRule_55 ki_1 (fun z22 hz22 => ?_)
      refine tu_iadd F dX3_readRule_56 (by omega) (fun z23 hz23 => ?_)
      refine p_3_58 F h m_a0 r_a0 (by omega) dX3_readRule_57 (fun f24 H locs e24p hf24 h => ?_)
      have ea25 : eli f24 (rfa f24 a0_script 8) (fi f0 a0_script 17).toNat = eli f11 (rfa f11 a0_script 8) (fi f0 a0_script 17).toNat := E0i hG.1 hf24 (by decide +kernel) m_a0_script r_a0_script sk8 rfl (by decide +kernel) _
      have ea26 : eli f24 (rfa f24 a0_script 9) (fi f0 a0_script 17).toNat = eli f11 (rfa f11 a0_script 9) (fi f0 a0_script 17).toNat := E0i hG.1 hf24 (by decide +kernel) m_a0_script r_a0_script sk9 rfl (by decide +kernel) _
      have ea27 : eli f24 (rfa f24 a0_script 10) 24 = eli f11 (rfa f11 a0_script 10) 24 := E0i hG.1 hf24 (by decide +kernel) m_a0_script r_a0_script sk10 rfl (by decide +kernel) _
      have hX : OB L R O a0_script f0 f24 := OB_fr hX hf24 (by decide +kernel)
      have hT : TK L R f24 a0 := TK_fr hT hf24 (by decide +kernel) m_a0 r_a0
      have hP : PNZ f24 a0_script := PNZ_fr hP hG.1 hf24 (by decide +kernel) (by decide +kernel) (by decide +kernel) m_a0_script r_a0_script
      have hR : RV f0 f24 a0 a0_script := RV_fr hR hG.1 hf24 (by decide +kernel) (Int.le_of_eq (hf24.efi m_a0_script r_a0_script (by decide +kernel)).symm) (by decide +kernel) (by decide +kernel) (by decide +kernel) (by decide +kernel) (by decide +kernel) (by decide +kernel) m_a0_script r_a0_script m_a0 r_a0 e18 m_a0_goSlots r_a0_goSlots
      have hG : GG L R O f24 := hG.fr hf24 (by decide +kernel) (by decide +kernel)
      have hk : fr L R [(3, 2), (3, 3), (3, 11), (3, 12), (3, 13), (6, 14), (6, 17), (6, 18)] [3, 6, 32, 33, 35, 37, 38, 39, 40, 41, 42, 43] f0 f24 := hk.tr hf24 rfl rfl
      have e28 : fi f24 a0 8 = fi f11 a0 8 := hf24.efi m_a0 r_a0 rfl
      have e29 : fld f24 a0 1 = .ref a0_script := (hf24.efl m_a0 r_a0 rfl).trans e16
      have e30 : fi f24 a0_script 14 = fi f11 a0_script 14 := hf24.efi m_a0_script r_a0_script rfl
      have e31 : fld f24 a0 10 = .ref a0_goSlots := (hf24.efl m_a0 r_a0 rfl).trans e18
      have e32 : fi f24 a0 11 = fi f11 a0 11 := hf24.efi m_a0 r_a0 rfl
      have e33 : fi f24 a0_script 15 = fi f11 a0_script 15 := hf24.efi m_a0_script r_a0_script rfl
      have e34 : fi f24 a0_script 17 = fi f11 a0_script 17 := hf24.efi m_a0_script r_a0_script rfl
      have e35 : fi f24 a0_script 18 = fi f11 a0_script 18 := hf24.efi m_a0_script r_a0_script rfl
      refine lv_aload_n F.1 F.2.1 dX3_readRule_60 rfl (lv_at hl 1 rfl) ?_
      refine lv_iload_n F.1 F.2.1 dX3_readRule_61 rfl (lv_at hl 0 rfl) ?_
      have hGo := hG
      refine tw_Vi (As := [.int v9]) F hZ h yk_X3_readPattern mw_581 mw_582 mw_583 (s_X3_readPattern l D cy L R O f24 hG a0 m_a0 r_a0 v9 ⟨by omega, by omega⟩ hT (by rw [rfa_of e29]; exact hP) (by rw [rfa_of e29]; omega) (by rw [rfa_of e29, show v9.toInt.toNat = (fi f0 a0_script 17).toNat by omega]; omega) (by rw [rfa_of e29, show v9.toInt.toNat = (fi f0 a0_script 17).toNat by omega]; omega)) rfl rfl m_a0 r_a0 (fun e q => (T_3 e).mp q) rfl hl.1 rfl (Nat.le_of_ble_eq_true rfl) ⟨Nat.le_of_ble_eq_true rfl, Nat.le_of_ble_eq_true rfl⟩ ⟨Nat.le_of_ble_eq_true rfl, Nat.le_of_ble_eq_true rfl⟩ dX3_readRule_62 (fun v37 f36 H locs hp36 h => ?_)
      obtain ⟨hf36, hv37a, hv37b, hG, hv37p0, hv37p1, hv37p2, hv37p3, hv37p4⟩ := hp36
      have ea38 : eli f36 (rfa f36 a0_script 8) (fi f0 a0_script 17).toNat = eli f24 (rfa f24 a0_script 8) (fi f0 a0_script 17).toNat := E0i hGo.1 hf36 (by decide +kernel) m_a0_script r_a0_script sk8 rfl (by decide +kernel) _
      have ea39 : eli f36 (rfa f36 a0_script 10) 24 = eli f24 (rfa f24 a0_script 10) 24 := E0i hGo.1 hf36 (by decide +kernel) m_a0_script r_a0_script sk10 rfl (by decide +kernel) _
      have hX : OB L R O a0_script f0 f36 := OB_tr hX (by have q := hv37p4; rw [rfa_of e29] at q; exact q)
      have hT : TK L R f36 a0 := TK_fr hT hf36 (by decide +kernel) m_a0 r_a0
      have hR : RV f0 f36 a0 a0_script := RV_fr hR hGo.1 hf36 (by decide +kernel) (by have q2 := hv37p3; rw [rfa_of e29] at q2; exact q2) (by decide +kernel) (by decide +kernel) (by decide +kernel) (by decide +kernel) (by decide +kernel) (by decide +kernel) m_a0_script r_a0_script m_a0 r_a0 e31 m_a0_goSlots r_a0_goSlots
      have hk : fr L R [(3, 2), (3, 3), (3, 11), (3, 12), (3, 13), (6, 14), (6, 17), (6, 18)] [3, 6, 32, 33, 35, 37, 38, 39, 40, 41, 42, 43] f0 f36 := hk.tr hf36 (by decide +kernel) (by decide +kernel)
      have e40 : fi f36 a0 8 = fi f24 a0 8 := hf36.efi m_a0 r_a0 rfl
      have e41 : fld f36 a0 1 = .ref a0_script := (hf36.efl m_a0 r_a0 rfl).trans e29
      have e42 : fld f36 a0 10 = .ref a0_goSlots := (hf36.efl m_a0 r_a0 rfl).trans e31
      have e43 : fi f36 a0 11 = fi f24 a0 11 := hf36.efi m_a0 r_a0 rfl
      have e44 : fi f36 a0_script 15 = fi f24 a0_script 15 := hf36.efi m_a0_script r_a0_script rfl
      have e45 : fi f36 a0_script 17 = fi f24 a0_script 17 := hf36.efi m_a0_script r_a0_script rfl
      have e46 : fi f36 a0_script 18 = fi f24 a0_script 18 := hf36.efi m_a0_script r_a0_script rfl
      have hP : PNZ f36 a0_script := by have q2 := hv37p1; rw [rfa_of e29] at q2; exact q2
      have pat62 : fi f36 a0_script 14 ≤ fi f36 a0 12 := by have q2 := hv37p2; rw [rfa_of e29] at q2; exact q2
      refine tw_if_ne (tgt := 70) F dX3_readRule_65 (by decide) (fun b47 => ?_) (fun b47 => ?_)
      · refine lv_aload_n F.1 F.2.1 dX3_readRule_70 rfl (lv_at hl 1 rfl) ?_
        refine tu_ldc2 F mw_576 dX3_readRule_71 kl_19513 (fun z48 hz48 => ?_)
        refine tw_Vi (As := [.long z48]) F hZ h yk_X3_isThe mw_527 mw_528 mw_529 (s_X3_isThe l D cy L R O f36 a0 m_a0 r_a0 z48) rfl rfl m_a0 r_a0 (fun e q => (T_3 e).mp q) rfl hl.1 rfl (Nat.le_of_ble_eq_true rfl) ⟨Nat.le_of_ble_eq_true rfl, Nat.le_of_ble_eq_true rfl⟩ ⟨Nat.le_of_ble_eq_true rfl, Nat.le_of_ble_eq_true rfl⟩ dX3_readRule_74 (fun v50 f49 H locs hp49 h => ?_)
        obtain ⟨rfl, hv50a, hv50b, hv50p0⟩ := hp49
        refine tw_if_ne (tgt := 85) F dX3_readRule_77 (by decide) (fun b51 => ?_) (fun b51 => ?_)
        · refine lv_aload_n F.1 F.2.1 dX3_readRule_85 rfl (lv_at hl 1 rfl) ?_
          refine lv_dup F.1 F.2.1 dX3_readRule_86 rfl ?_
          refine g_3_58 F h m_a0 r_a0 dX3_readRule_87 (fun v52 hv52 hv52a hv52b => ?_)
          refine tw_iconst F dX3_readRule_90 ki_1 (fun z53 hz53 => ?_)
          refine tu_iadd F dX3_readRule_91 (by omega) (fun z54 hz54 => ?_)
          refine p_3_58 F h m_a0 r_a0 (by omega) dX3_readRule_92 (fun f55 H locs e55p hf55 h => ?_)
          have ea56 : eli f55 (rfa f55 a0_script 8) (fi f0 a0_script 17).toNat = eli f36 (rfa f36 a0_script 8) (fi f0 a0_script 17).toNat := E0i hG.1 hf55 (by decide +kernel) m_a0_script r_a0_script sk8 rfl (by decide +kernel) _
          have ea57 : eli f55 (rfa f55 a0_script 9) (fi f0 a0_script 17).toNat = eli f36 (rfa f36 a0_script 9) (fi f0 a0_script 17).toNat := E0i hG.1 hf55 (by decide +kernel) m_a0_script r_a0_script sk9 rfl (by decide +kernel) _
          have ea58 : eli f55 (rfa f55 a0_script 10) 24 = eli f36 (rfa f36 a0_script 10) 24 := E0i hG.1 hf55 (by decide +kernel) m_a0_script r_a0_script sk10 rfl (by decide +kernel) _
          have hX : OB L R O a0_script f0 f55 := OB_fr hX hf55 (by decide +kernel)
          have hT : TK L R f55 a0 := TK_fr hT hf55 (by decide +kernel) m_a0 r_a0
          have hR : RV f0 f55 a0 a0_script := RV_fr hR hG.1 hf55 (by decide +kernel) (Int.le_of_eq (hf55.efi m_a0_script r_a0_script (by decide +kernel)).symm) (by decide +kernel) (by decide +kernel) (by decide +kernel) (by decide +kernel) (by decide +kernel) (by decide +kernel) m_a0_script r_a0_script m_a0 r_a0 e42 m_a0_goSlots r_a0_goSlots
          have hP : PNZ f55 a0_script := PNZ_fr hP hG.1 hf55 (by decide +kernel) (by decide +kernel) (by decide +kernel) m_a0_script r_a0_script
          have hG : GG L R O f55 := hG.fr hf55 (by decide +kernel) (by decide +kernel)
          have hk : fr L R [(3, 2), (3, 3), (3, 11), (3, 12), (3, 13), (6, 14), (6, 17), (6, 18)] [3, 6, 32, 33, 35, 37, 38, 39, 40, 41, 42, 43] f0 f55 := hk.tr hf55 rfl rfl
          have e59 : fi f55 a0 8 = fi f36 a0 8 := hf55.efi m_a0 r_a0 rfl
          have e60 : fld f55 a0 1 = .ref a0_script := (hf55.efl m_a0 r_a0 rfl).trans e41
          have e61 : fi f55 a0_script 14 = fi f36 a0_script 14 := hf55.efi m_a0_script r_a0_script rfl
          have e62 : fld f55 a0 10 = .ref a0_goSlots := (hf55.efl m_a0 r_a0 rfl).trans e42
          have e63 : fi f55 a0 11 = fi f36 a0 11 := hf55.efi m_a0 r_a0 rfl
          have e64 : fi f55 a0_script 15 = fi f36 a0_script 15 := hf55.efi m_a0_script r_a0_script rfl
          have e65 : fi f55 a0_script 17 = fi f36 a0_script 17 := hf55.efi m_a0_script r_a0_script rfl
          have e66 : fi f55 a0_script 18 = fi f36 a0_script 18 := hf55.efi m_a0_script r_a0_script rfl
          refine lv_aload_n F.1 F.2.1 dX3_readRule_95 rfl (lv_at hl 1 rfl) ?_
          refine lv_iload_n F.1 F.2.1 dX3_readRule_96 rfl (lv_at hl 0 rfl) ?_
          refine lv_iload_n F.1 F.2.1 dX3_readRule_97 rfl (lv_at hl 2 rfl) ?_
          have hR98 := hR
          have kb98 : fi f55 a0_script 18 = fi f11 a0_script 18 := by omega
          have hGo := hG
          refine tw_Vi (As := [.int v9, .int x1]) F hZ h yk_X3_readAnswers mw_594 mw_595 mw_596 (s_X3_readAnswers l D cy L R O f55 hG a0 m_a0 r_a0 v9 ⟨by omega, by omega⟩ x1 ⟨by omega, by omega⟩ hT (by rw [rfa_of e60]; exact hP) (by rw [rfa_of e60]; omega) (by have q5 := pre4; omega) (fun q5 => by rw [rfa_of e60, hR.2.2]; exact (rg0.g.2.1 (by omega)).1)) rfl rfl m_a0 r_a0 (fun e q => (T_3 e).mp q) rfl hl.1 rfl (Nat.le_of_ble_eq_true rfl) ⟨Nat.le_of_ble_eq_true rfl, Nat.le_of_ble_eq_true rfl⟩ ⟨Nat.le_of_ble_eq_true rfl, Nat.le_of_ble_eq_true rfl⟩ dX3_readRule_98 (fun v68 f67 H locs hp67 h => ?_)
          obtain ⟨hf67, hv68a, hv68b, hG, hv68p0, hv68p1, hv68p2, hv68p3, hv68p4, hv68p5, hv68p6, hv68p7, hv68p8, hv68p9⟩ := hp67
          have ea69 : eli f67 (rfa f67 a0_script 8) (fi f0 a0_script 17).toNat = eli f55 (rfa f55 a0_script 8) (fi f0 a0_script 17).toNat := E0i hGo.1 hf67 (by decide +kernel) m_a0_script r_a0_script sk8 rfl (by decide +kernel) _
          have ea70 : eli f67 (rfa f67 a0_script 9) (fi f0 a0_script 17).toNat = eli f55 (rfa f55 a0_script 9) (fi f0 a0_script 17).toNat := E0i hGo.1 hf67 (by decide +kernel) m_a0_script r_a0_script sk9 rfl (by decide +kernel) _
          have hX : OB L R O a0_script f0 f67 := OB_tr hX (by have q := hv68p9; rw [rfa_of e60] at q; exact q)
          have hT : TK L R f67 a0 := TK_fr hT hf67 (by decide +kernel) m_a0 r_a0
          have hk : fr L R [(3, 2), (3, 3), (3, 11), (3, 12), (3, 13), (6, 14), (6, 17), (6, 18)] [3, 6, 32, 33, 35, 37, 38, 39, 40, 41, 42, 43] f0 f67 := hk.tr hf67 (by decide +kernel) (by decide +kernel)
          have e71 : fi f67 a0 8 = fi f55 a0 8 := hf67.efi m_a0 r_a0 rfl
          have e72 : fld f67 a0 1 = .ref a0_script := (hf67.efl m_a0 r_a0 rfl).trans e60
          have e73 : fld f67 a0 10 = .ref a0_goSlots := (hf67.efl m_a0 r_a0 rfl).trans e62
          have e74 : fi f67 a0_script 15 = fi f55 a0_script 15 := hf67.efi m_a0_script r_a0_script rfl
          have e75 : fi f67 a0_script 17 = fi f55 a0_script 17 := hf67.efi m_a0_script r_a0_script rfl
          have e76 : fi f67 a0_script 18 = fi f55 a0_script 18 := hf67.efi m_a0_script r_a0_script rfl
          have owz := hG.1
          exact hret f67 _ _ _ _ v68 dX3_readRule_101 (tw_nb (by omega)) ⟨hk, by omega, by omega, hG, by omega, if y : v68.toInt = 0 then Or.inl y else Or.inr (by
                rw [hs1]
                have rap := hv68p3.resolve_left y
                have ram := hv68p4
                rw [rfa_of e60] at rap ram
                have e17 : fi f67 a0_script 17 = fi f0 a0_script 17 + 1 := by rw [hf67.efi m_a0_script r_a0_script (by decide +kernel)]; omega
                have e18 : fi f67 a0_script 18 = fi f11 a0_script 18 := by rw [hf67.efi m_a0_script r_a0_script (by decide +kernel)]; omega
                obtain ⟨g1, g2, g3, g4⟩ := id rg0.g
                by_cases q : fi f0 a0_script 17 = 0
                · obtain ⟨a1, a2, a3⟩ := rap (by omega)
                  refine ⟨fun _ => a1, fun q2 => by omega, a2, ?_⟩
                  rcases akb.g with k | k
                  · exact Or.inl (by rw [e18, k]; exact (g2 q).2)
                  · exact Or.inr (a3 k.2)
                · obtain ⟨a1, a2⟩ := ram (by omega)
                  have ac4 := tS_eli h (owz.k m_a0_script r_a0_script sk10 (ro := 41) rfl).1 (owz.k m_a0_script r_a0_script sk10 (ro := 41) rfl).2.1 (fun e q => (T_41 e).mp q) (show 0 < 25 by decide)
                  have eA : AC0 f67 a0_script = AC0 f0 a0_script := a1.trans hR98.2.2
                  have eA4 : AC0 f67 a0_script ≤ 4 := ac4.2
                  refine ⟨fun _ => by rw [eA]; exact g1 (by omega), fun q2 => by omega, fun d hd => ?_, ?_⟩
                  · exact (g3 d (by omega)).imp (fun q5 => a2 d (by omega) (hR98.1 d q5)) (fun q5 => hv68p5 d (hR98.2.1 d q5))
                  · rcases akb.g with k | k
                    · exact g4.imp (fun q5 => by rw [e18, k]; exact q5) (fun q5 => a2 0 (by omega) (hR98.1 0 q5))
                    · omega), by have q2 := hv68p8 (by omega); rw [rfa_of e60] at q2; rw [hs1]; omega, by omega, by rw [hs1]; omega, by have q2 := hv68p1; rw [rfa_of e60] at q2; rw [hs1]; exact q2, by have q2 := hv68p2; rw [rfa_of e60] at q2; rw [hs1]; exact q2, by rw [hs1]; exact hX⟩ h
        · refine lv_aload_n F.1 F.2.1 dX3_readRule_80 rfl (lv_at hl 1 rfl) ?_
          refine tw_Vi (As := []) F hZ h yk_X3_misplaced mw_541 mw_542 mw_543 (s_X3_misplaced l D cy L R O f36 a0 m_a0 r_a0) rfl rfl m_a0 r_a0 (fun e q => (T_3 e).mp q) rfl hl.1 rfl (Nat.le_of_ble_eq_true rfl) ⟨Nat.le_of_ble_eq_true rfl, Nat.le_of_ble_eq_true rfl⟩ ⟨Nat.le_of_ble_eq_true rfl, Nat.le_of_ble_eq_true rfl⟩ dX3_readRule_81 (fun v78 f77 H locs hp77 h => ?_)
          obtain ⟨hf77, hv78a, hv78b⟩ := hp77
          have ea79 : eli f77 (rfa f77 a0_script 8) (fi f0 a0_script 17).toNat = eli f36 (rfa f36 a0_script 8) (fi f0 a0_script 17).toNat := E0i hG.1 hf77 (by decide +kernel) m_a0_script r_a0_script sk8 rfl (by decide +kernel) _
          have ea80 : eli f77 (rfa f77 a0_script 9) (fi f0 a0_script 17).toNat = eli f36 (rfa f36 a0_script 9) (fi f0 a0_script 17).toNat := E0i hG.1 hf77 (by decide +kernel) m_a0_script r_a0_script sk9 rfl (by decide +kernel) _
          have ea81 : eli f77 (rfa f77 a0_script 10) 24 = eli f36 (rfa f36 a0_script 10) 24 := E0i hG.1 hf77 (by decide +kernel) m_a0_script r_a0_script sk10 rfl (by decide +kernel) _
          have hX : OB L R O a0_script f0 f77 := OB_fr hX hf77 (by decide +kernel)
          have hT : TK L R f77 a0 := TK_fr hT hf77 (by decide +kernel) m_a0 r_a0
          have hR : RV f0 f77 a0 a0_script := RV_fr hR hG.1 hf77 (by decide +kernel) (Int.le_of_eq (hf77.efi m_a0_script r_a0_script (by decide +kernel)).symm) (by decide +kernel) (by decide +kernel) (by decide +kernel) (by decide +kernel) (by decide +kernel) (by decide +kernel) m_a0_script r_a0_script m_a0 r_a0 e42 m_a0_goSlots r_a0_goSlots
          have hP : PNZ f77 a0_script := PNZ_fr hP hG.1 hf77 (by decide +kernel) (by decide +kernel) (by decide +kernel) m_a0_script r_a0_script
          have hG : GG L R O f77 := hG.fr hf77 (by decide +kernel) (by decide +kernel)
          have hk : fr L R [(3, 2), (3, 3), (3, 11), (3, 12), (3, 13), (6, 14), (6, 17), (6, 18)] [3, 6, 32, 33, 35, 37, 38, 39, 40, 41, 42, 43] f0 f77 := hk.tr hf77 rfl rfl
          have e82 : fi f77 a0 8 = fi f36 a0 8 := hf77.efi m_a0 r_a0 rfl
          have e83 : fld f77 a0 1 = .ref a0_script := (hf77.efl m_a0 r_a0 rfl).trans e41
          have e84 : fi f77 a0_script 14 = fi f36 a0_script 14 := hf77.efi m_a0_script r_a0_script rfl
          have e85 : fld f77 a0 10 = .ref a0_goSlots := (hf77.efl m_a0 r_a0 rfl).trans e42
          have e86 : fi f77 a0 11 = fi f36 a0 11 := hf77.efi m_a0 r_a0 rfl
          have e87 : fi f77 a0_script 15 = fi f36 a0_script 15 := hf77.efi m_a0_script r_a0_script rfl
          have e88 : fi f77 a0_script 17 = fi f36 a0_script 17 := hf77.efi m_a0_script r_a0_script rfl
          have e89 : fi f77 a0_script 18 = fi f36 a0_script 18 := hf77.efi m_a0_script r_a0_script rfl
          have e90 : fi f77 a0 12 = fi f36 a0 12 := hf77.efi m_a0 r_a0 rfl
          exact hret f77 _ _ _ _ v78 dX3_readRule_84 (tw_nb (by omega)) ⟨hk, by omega, by omega, hG, by omega, Or.inl (by omega), by rw [hs1]; omega, by omega, by rw [hs1]; omega, by rw [hs1]; exact hP, by rw [hs1]; omega, by rw [hs1]; exact hX⟩ h
      · refine tw_iconst F dX3_readRule_68 ki_0 (fun z91 hz91 => ?_)
        exact hret f36 _ _ _ _ z91 dX3_readRule_69 (tw_nb (by omega)) ⟨hk, by omega, by omega, hG, by omega, Or.inl (by omega), by rw [hs1]; omega, by omega, by rw [hs1]; omega, by rw [hs1]; exact hP, by rw [hs1]; omega, by rw [hs1]; exact hX⟩ h
    · refine lv_aload_n F.1 F.2.1 dX3_readRule_28 rfl (lv_at hl 0 rfl) ?_
      refine tw_iconst F dX3_readRule_29 ki_5 (fun z92 hz92 => ?_)
      refine tw_Vi (As := [.int z92]) F hZ h yk_X3_fail mw_420 mw_421 mw_422 (s_X3_fail l D cy L R O f0 a0 m_a0 r_a0 z92 ⟨by omega, by omega⟩) rfl rfl m_a0 r_a0 (fun e q => (T_3 e).mp q) rfl hl.1 rfl (Nat.le_of_ble_eq_true rfl) ⟨Nat.le_of_ble_eq_true rfl, Nat.le_of_ble_eq_true rfl⟩ ⟨Nat.le_of_ble_eq_true rfl, Nat.le_of_ble_eq_true rfl⟩ dX3_readRule_30 (fun v94 f93 H locs hp93 h => ?_)
      obtain ⟨hf93, hv94a, hv94b⟩ := hp93
      have ea95 : eli f93 (rfa f93 a0_script 8) (fi f0 a0_script 17).toNat = eli f0 (rfa f0 a0_script 8) (fi f0 a0_script 17).toNat := E0i hG.1 hf93 (by decide +kernel) m_a0_script r_a0_script sk8 rfl (by decide +kernel) _
      have ea96 : eli f93 (rfa f93 a0_script 9) (fi f0 a0_script 17).toNat = eli f0 (rfa f0 a0_script 9) (fi f0 a0_script 17).toNat := E0i hG.1 hf93 (by decide +kernel) m_a0_script r_a0_script sk9 rfl (by decide +kernel) _
      have ea97 : eli f93 (rfa f93 a0_script 10) 24 = eli f0 (rfa f0 a0_script 10) 24 := E0i hG.1 hf93 (by decide +kernel) m_a0_script r_a0_script sk10 rfl (by decide +kernel) _
      have hX : OB L R O a0_script f0 f93 := OB_fr hX hf93 (by decide +kernel)
      have hT : TK L R f93 a0 := TK_fr hT hf93 (by decide +kernel) m_a0 r_a0
      have hP : PNZ f93 a0_script := PNZ_fr hP hG.1 hf93 (by decide +kernel) (by decide +kernel) (by decide +kernel) m_a0_script r_a0_script
      have hR : RV f0 f93 a0 a0_script := RV_fr hR hG.1 hf93 (by decide +kernel) (Int.le_of_eq (hf93.efi m_a0_script r_a0_script (by decide +kernel)).symm) (by decide +kernel) (by decide +kernel) (by decide +kernel) (by decide +kernel) (by decide +kernel) (by decide +kernel) m_a0_script r_a0_script m_a0 r_a0 t_a0_goSlots m_a0_goSlots r_a0_goSlots
      have hG : GG L R O f93 := hG.fr hf93 (by decide +kernel) (by decide +kernel)
      have hk : fr L R [(3, 2), (3, 3), (3, 11), (3, 12), (3, 13), (6, 14), (6, 17), (6, 18)] [3, 6, 32, 33, 35, 37, 38, 39, 40, 41, 42, 43] f0 f93 := hk.tr hf93 rfl rfl
      have e98 : fi f93 a0 12 = fi f0 a0 12 := hf93.efi m_a0 r_a0 rfl
      have e99 : fi f93 a0 8 = fi f0 a0 8 := hf93.efi m_a0 r_a0 rfl
      have e100 : fld f93 a0 1 = .ref a0_script := (hf93.efl m_a0 r_a0 rfl).trans t_a0_script
      have e101 : fi f93 a0_script 14 = fi f0 a0_script 14 := hf93.efi m_a0_script r_a0_script rfl
      have e102 : fld f93 a0 10 = .ref a0_goSlots := (hf93.efl m_a0 r_a0 rfl).trans t_a0_goSlots
      have e103 : fi f93 a0 11 = fi f0 a0 11 := hf93.efi m_a0 r_a0 rfl
      have e104 : fi f93 a0_script 15 = fi f0 a0_script 15 := hf93.efi m_a0_script r_a0_script rfl
      have e105 : fi f93 a0_script 17 = fi f0 a0_script 17 := hf93.efi m_a0_script r_a0_script rfl
      have e106 : fi f93 a0_script 18 = fi f0 a0_script 18 := hf93.efi m_a0_script r_a0_script rfl
      exact hret f93 _ _ _ _ v94 dX3_readRule_33 (tw_nb (by omega)) ⟨hk, by omega, by omega, hG, by omega, Or.inl (by omega), by rw [hs1]; omega, by omega, by rw [hs1]; omega, by rw [hs1]; exact hP, by rw [hs1]; omega, by rw [hs1]; exact hX⟩ h
  · refine lv_aload_n F.1 F.2.1 dX3_readRule_10 rfl (lv_at hl 0 rfl) ?_
    refine tw_iconst F dX3_readRule_11 ki_4 (fun z107 hz107 => ?_)
    refine tw_Vi (As := [.int z107]) F hZ h yk_X3_fail mw_420 mw_421 mw_422 (s_X3_fail l D cy L R O f0 a0 m_a0 r_a0 z107 ⟨by omega, by omega⟩) rfl rfl m_a0 r_a0 (fun e q => (T_3 e).mp q) rfl hl.1 rfl (Nat.le_of_ble_eq_true rfl) ⟨Nat.le_of_ble_eq_true rfl, Nat.le_of_ble_eq_true rfl⟩ ⟨Nat.le_of_ble_eq_true rfl, Nat.le_of_ble_eq_true rfl⟩ dX3_readRule_12 (fun v109 f108 H locs hp108 h => ?_)
    obtain ⟨hf108, hv109a, hv109b⟩ := hp108
    have ea110 : eli f108 (rfa f108 a0_script 8) (fi f0 a0_script 17).toNat = eli f0 (rfa f0 a0_script 8) (fi f0 a0_script 17).toNat := E0i hG.1 hf108 (by decide +kernel) m_a0_script r_a0_script sk8 rfl (by decide +kernel) _
    have ea111 : eli f108 (rfa f108 a0_script 9) (fi f0 a0_script 17).toNat = eli f0 (rfa f0 a0_script 9) (fi f0 a0_script 17).toNat := E0i hG.1 hf108 (by decide +kernel) m_a0_script r_a0_script sk9 rfl (by decide +kernel) _
    have ea112 : eli f108 (rfa f108 a0_script 10) 24 = eli f0 (rfa f0 a0_script 10) 24 := E0i hG.1 hf108 (by decide +kernel) m_a0_script r_a0_script sk10 rfl (by decide +kernel) _
    have hX : OB L R O a0_script f0 f108 := OB_fr hX hf108 (by decide +kernel)
    have hT : TK L R f108 a0 := TK_fr hT hf108 (by decide +kernel) m_a0 r_a0
    have hP : PNZ f108 a0_script := PNZ_fr hP hG.1 hf108 (by decide +kernel) (by decide +kernel) (by decide +kernel) m_a0_script r_a0_script
    have hR : RV f0 f108 a0 a0_script := RV_fr hR hG.1 hf108 (by decide +kernel) (Int.le_of_eq (hf108.efi m_a0_script r_a0_script (by decide +kernel)).symm) (by decide +kernel) (by decide +kernel) (by decide +kernel) (by decide +kernel) (by decide +kernel) (by decide +kernel) m_a0_script r_a0_script m_a0 r_a0 t_a0_goSlots m_a0_goSlots r_a0_goSlots
    have hG : GG L R O f108 := hG.fr hf108 (by decide +kernel) (by decide +kernel)
    have hk : fr L R [(3, 2), (3, 3), (3, 11), (3, 12), (3, 13), (6, 14), (6, 17), (6, 18)] [3, 6, 32, 33, 35, 37, 38, 39, 40, 41, 42, 43] f0 f108 := hk.tr hf108 rfl rfl
    have e113 : fi f108 a0 12 = fi f0 a0 12 := hf108.efi m_a0 r_a0 rfl
    have e114 : fi f108 a0 8 = fi f0 a0 8 := hf108.efi m_a0 r_a0 rfl
    have e115 : fld f108 a0 1 = .ref a0_script := (hf108.efl m_a0 r_a0 rfl).trans t_a0_script
    have e116 : fi f108 a0_script 14 = fi f0 a0_script 14 := hf108.efi m_a0_script r_a0_script rfl
    have e117 : fld f108 a0 10 = .ref a0_goSlots := (hf108.efl m_a0 r_a0 rfl).trans t_a0_goSlots
    have e118 : fi f108 a0 11 = fi f0 a0 11 := hf108.efi m_a0 r_a0 rfl
    have e119 : fi f108 a0_script 15 = fi f0 a0_script 15 := hf108.efi m_a0_script r_a0_script rfl
    have e120 : fi f108 a0_script 17 = fi f0 a0_script 17 := hf108.efi m_a0_script r_a0_script rfl
    have e121 : fi f108 a0_script 18 = fi f0 a0_script 18 := hf108.efi m_a0_script r_a0_script rfl
    exact hret f108 _ _ _ _ v109 dX3_readRule_15 (tw_nb (by omega)) ⟨hk, by omega, by omega, hG, by omega, Or.inl (by omega), by rw [hs1]; omega, by omega, by rw [hs1]; omega, by rw [hs1]; exact hP, by rw [hs1]; omega, by rw [hs1]; exact hX⟩ h
theorem dX3_readNone_0 : decode cX3_readNone 0 = .ok (.aload_n 0, 1) := by decide +kernel
theorem dX3_readNone_1 : decode cX3_readNone 1 = .ok (.getfield 21, 3) := by decide +kernel
theorem dX3_readNone_4 : decode cX3_readNone 4 = .ok (.getfield 197, 3) := by decide +kernel
theorem dX3_readNone_7 : decode cX3_readNone 7 = .ok (.bipush 24, 2) := by decide +kernel
theorem dX3_readNone_9 : decode cX3_readNone 9 = .ok (.iaload, 1) := by decide +kernel
theorem dX3_readNone_10 : decode cX3_readNone 10 = .ok (.ifCond .le 9, 3) := by decide +kernel
theorem dX3_readNone_19 : decode cX3_readNone 19 = .ok (.aload_n 0, 1) := by decide +kernel
theorem dX3_readNone_20 : decode cX3_readNone 20 = .ok (.dup, 1) := by decide +kernel
theorem dX3_readNone_21 : decode cX3_readNone 21 = .ok (.getfield 58, 3) := by decide +kernel
theorem dX3_readNone_24 : decode cX3_readNone 24 = .ok (.iconst 1, 1) := by decide +kernel
theorem dX3_readNone_25 : decode cX3_readNone 25 = .ok (.iadd, 1) := by decide +kernel
theorem dX3_readNone_26 : decode cX3_readNone 26 = .ok (.putfield 58, 3) := by decide +kernel
theorem dX3_readNone_29 : decode cX3_readNone 29 = .ok (.aload_n 0, 1) := by decide +kernel
theorem dX3_readNone_30 : decode cX3_readNone 30 = .ok (.iconst 0, 1) := by decide +kernel
theorem dX3_readNone_31 : decode cX3_readNone 31 = .ok (.putfield 61, 3) := by decide +kernel
theorem dX3_readNone_34 : decode cX3_readNone 34 = .ok (.aload_n 0, 1) := by decide +kernel
theorem dX3_readNone_35 : decode cX3_readNone 35 = .ok (.bipush 24, 2) := by decide +kernel
theorem dX3_readNone_37 : decode cX3_readNone 37 = .ok (.iconst 0, 1) := by decide +kernel
theorem dX3_readNone_38 : decode cX3_readNone 38 = .ok (.invokevirtual 193, 3) := by decide +kernel
theorem dX3_readNone_41 : decode cX3_readNone 41 = .ok (.ireturn, 1) := by decide +kernel
theorem dX3_readNone_13 : decode cX3_readNone 13 = .ok (.aload_n 0, 1) := by decide +kernel
theorem dX3_readNone_14 : decode cX3_readNone 14 = .ok (.iconst 4, 1) := by decide +kernel
theorem dX3_readNone_15 : decode cX3_readNone 15 = .ok (.invokevirtual 75, 3) := by decide +kernel
theorem dX3_readNone_18 : decode cX3_readNone 18 = .ok (.ireturn, 1) := by decide +kernel
def rm_X3_readNone : Room := { frames := 4, cells := 0, slots := 0, locals := 93 }
set_option maxHeartbeats 1000000 in
set_option maxRecDepth 100000 in
theorem s_X3_readNone (l : Launch) (D : va_G) (cy : Nat → ClassId) (L : List Nat) (R O : Nat → Nat) (f0 : Nat → va_E) (hG : GG L R O f0) (a0 : Nat) (m_a0 : a0 ∈ L) (r_a0 : R a0 = 3) (pre0 : fi f0 a0 12 < fi f0 a0 8) (pre1 : TK L R f0 a0) (pre2 : PNZ f0 (rfa f0 a0 1)) (pre3 : fi f0 (rfa f0 a0 1) 14 ≤ fi f0 a0 12) (pre4 : (eli f0 (rfa f0 (rfa f0 a0 1) 10) 24 = 0 → fi f0 a0 11 ≤ 96)) (pre5 : RG f0 a0 (rfa f0 a0 1)) : ∀ sz, Met l yX3_readNone (Cond.code yX3_readNone cX3_readNone 1 (some .boolean) :: wsL_law) rm_X3_readNone (va_Pc [.ref a0] (tPZ D cy L R (TT cy L R) f0 sz)) (va_Qi (fun (r : Int32) f1 => fr L R [(3, 2), (3, 3), (3, 11), (3, 12), (3, 13), (6, 14)] [3, 6, 32, 33, 35, 41, 42, 43] f0 f1 ∧ 0 ≤ r.toInt ∧ r.toInt ≤ 1 ∧ GG L R O f1 ∧ fi f0 a0 12 ≤ fi f1 a0 12 ∧ (r.toInt = 0 ∨ RG f1 a0 (rfa f0 a0 1)) ∧ (r.toInt = 0 ∨ 1 ≤ eli f1 (rfa f1 (rfa f0 a0 1) 10) 24) ∧ (r.toInt = 0 ∨ eli f0 (rfa f0 (rfa f0 a0 1) 10) 24 = 0) ∧ fi f1 (rfa f0 a0 1) 17 = fi f0 (rfa f0 a0 1) 17 ∧ fi f1 a0 11 ≤ fi f0 a0 11 + 4 ∧ PNZ f1 (rfa f0 a0 1) ∧ fi f1 (rfa f0 a0 1) 14 ≤ fi f1 a0 12 ∧ OB L R O (rfa f0 a0 1) f0 f1) (tB D (tA L sz) L R (TT cy L R)) (tA L sz)) 0 0 (tA L sz) := by
  refine tw_enteri (by decide +kernel) rfl (Nat.le_of_ble_eq_true rfl) ?_
  intro p e s m below meth c A ls args Q F hZ h hl hret
  have hl : lv_has ls 1 [(0, .ref a0)] := hl
  have hk : fr L R [(3, 2), (3, 3), (3, 11), (3, 12), (3, 13), (6, 14)] [3, 6, 32, 33, 35, 41, 42, 43] f0 f0 := fr.rf
  have t_a0_at := h.bfi m_a0 r_a0 (fun e q => (T_3 e).mp q) (k := 12) rfl
  have t_a0_tokenCount := h.bfi m_a0 r_a0 (fun e q => (T_3 e).mp q) (k := 8) rfl
  obtain ⟨a0_script, m_a0_script, r_a0_script, t_a0_script⟩ := h.rf m_a0 r_a0 (fun e q => (T_3 e).mp q) (k := 1) rfl
  have t_a0_script_partCount := h.bfi m_a0_script r_a0_script (fun e q => (T_6 e).mp q) (k := 14) rfl
  obtain ⟨a0_goSlots, m_a0_goSlots, r_a0_goSlots, t_a0_goSlots⟩ := h.rf m_a0 r_a0 (fun e q => (T_3 e).mp q) (k := 10) rfl
  have t_a0_goCount := h.bfi m_a0 r_a0 (fun e q => (T_3 e).mp q) (k := 11) rfl
  have t_a0_script_ruleCount := h.bfi m_a0_script r_a0_script (fun e q => (T_6 e).mp q) (k := 17) rfl
  have hs1 := rfa_of t_a0_script
  rw [hs1] at pre2 pre3 pre4 pre5
  have hT := pre1
  have hP := pre2
  have rg0 := Hid.mk pre5
  clear pre5
  have hR : RV f0 f0 a0 a0_script := RV_rf
  have hX : OB L R O a0_script f0 f0 := OB_rf
  refine lv_aload_n F.1 F.2.1 dX3_readNone_0 rfl (lv_at hl 0 rfl) ?_
  refine g_3_21 F h m_a0 r_a0 dX3_readNone_1 (fun o1 m_o1 r_o1 ho1 => ?_)
  obtain rfl := (fld_inj t_a0_script ho1).symm
  refine g_3_197 F h m_a0_script r_a0_script dX3_readNone_4 (fun o2 m_o2 r_o2 ho2 => ?_)
  refine tw_bipush F dX3_readNone_7 kb_24 (fun z3 hz3 => ?_)
  refine le_41 F h m_o2 r_o2 (by omega) dX3_readNone_9 (fun v4 ev4 hv4a hv4b => ?_)
  have e24 : v4.toInt = eli f0 (rfa f0 a0_script 10) 24 := by rw [ev4, rfa_of ho2, show z3.toInt.toNat = 24 by omega]
  refine tw_if_le (tgt := 19) F dX3_readNone_10 (by decide) (fun b5 => ?_) (fun b5 => ?_)
  · refine lv_aload_n F.1 F.2.1 dX3_readNone_19 rfl (lv_at hl 0 rfl) ?_
    refine lv_dup F.1 F.2.1 dX3_readNone_20 rfl ?_
    refine g_3_58 F h m_a0 r_a0 dX3_readNone_21 (fun v6 hv6 hv6a hv6b => ?_)
    refine tw_iconst F dX3_readNone_24 ki_1 (fun z7 hz7 => ?_)
    refine tu_iadd F dX3_readNone_25 (by omega) (fun z8 hz8 => ?_)
    refine p_3_58 F h m_a0 r_a0 (by omega) dX3_readNone_26 (fun f9 H locs e9p hf9 h => ?_)
    have hX : OB L R O a0_script f0 f9 := OB_fr hX hf9 (by decide +kernel)
    have hT : TK L R f9 a0 := TK_fr hT hf9 (by decide +kernel) m_a0 r_a0
    have hP : PNZ f9 a0_script := PNZ_fr hP hG.1 hf9 (by decide +kernel) (by decide +kernel) (by decide +kernel) m_a0_script r_a0_script
    have hR : RV f0 f9 a0 a0_script := RV_fr hR hG.1 hf9 (by decide +kernel) (Int.le_of_eq (hf9.efi m_a0_script r_a0_script (by decide +kernel)).symm) (by decide +kernel) (by decide +kernel) (by decide +kernel) (by decide +kernel) (by decide +kernel) (by decide +kernel) m_a0_script r_a0_script m_a0 r_a0 t_a0_goSlots m_a0_goSlots r_a0_goSlots
    have hG : GG L R O f9 := hG.fr hf9 (by decide +kernel) (by decide +kernel)
    have hk : fr L R [(3, 2), (3, 3), (3, 11), (3, 12), (3, 13), (6, 14)] [3, 6, 32, 33, 35, 41, 42, 43] f0 f9 := hk.tr hf9 rfl rfl
    have e10 : fi f9 a0 8 = fi f0 a0 8 := hf9.efi m_a0 r_a0 rfl
    have e11 : fld f9 a0 1 = .ref a0_script := (hf9.efl m_a0 r_a0 rfl).trans t_a0_script
    have e12 : fi f9 a0_script 14 = fi f0 a0_script 14 := hf9.efi m_a0_script r_a0_script rfl
    have e13 : fld f9 a0 10 = .ref a0_goSlots := (hf9.efl m_a0 r_a0 rfl).trans t_a0_goSlots
    have e14 : fi f9 a0 11 = fi f0 a0 11 := hf9.efi m_a0 r_a0 rfl
    have e15 : fi f9 a0_script 17 = fi f0 a0_script 17 := hf9.efi m_a0_script r_a0_script rfl
    have e16 : fi f9 a0_script 18 = fi f0 a0_script 18 := hf9.efi m_a0_script r_a0_script rfl
    refine lv_aload_n F.1 F.2.1 dX3_readNone_29 rfl (lv_at hl 0 rfl) ?_
    refine tw_iconst F dX3_readNone_30 ki_0 (fun z17 hz17 => ?_)
    refine p_3_61 F h m_a0 r_a0 (by omega) dX3_readNone_31 (fun f18 H locs e18p hf18 h => ?_)
    have hX : OB L R O a0_script f0 f18 := OB_fr hX hf18 (by decide +kernel)
    have hT : TK L R f18 a0 := TK_fr hT hf18 (by decide +kernel) m_a0 r_a0
    have hP : PNZ f18 a0_script := PNZ_fr hP hG.1 hf18 (by decide +kernel) (by decide +kernel) (by decide +kernel) m_a0_script r_a0_script
    have hR : RV f0 f18 a0 a0_script := RV_fr hR hG.1 hf18 (by decide +kernel) (Int.le_of_eq (hf18.efi m_a0_script r_a0_script (by decide +kernel)).symm) (by decide +kernel) (by decide +kernel) (by decide +kernel) (by decide +kernel) (by decide +kernel) (by decide +kernel) m_a0_script r_a0_script m_a0 r_a0 e13 m_a0_goSlots r_a0_goSlots
    have hG : GG L R O f18 := hG.fr hf18 (by decide +kernel) (by decide +kernel)
    have hk : fr L R [(3, 2), (3, 3), (3, 11), (3, 12), (3, 13), (6, 14)] [3, 6, 32, 33, 35, 41, 42, 43] f0 f18 := hk.tr hf18 rfl rfl
    have e19 : fi f18 a0 8 = fi f9 a0 8 := hf18.efi m_a0 r_a0 rfl
    have e20 : fld f18 a0 1 = .ref a0_script := (hf18.efl m_a0 r_a0 rfl).trans e11
    have e21 : fi f18 a0_script 14 = fi f9 a0_script 14 := hf18.efi m_a0_script r_a0_script rfl
    have e22 : fld f18 a0 10 = .ref a0_goSlots := (hf18.efl m_a0 r_a0 rfl).trans e13
    have e23 : fi f18 a0 11 = fi f9 a0 11 := hf18.efi m_a0 r_a0 rfl
    have e24 : fi f18 a0_script 17 = fi f9 a0_script 17 := hf18.efi m_a0_script r_a0_script rfl
    have e25 : fi f18 a0_script 18 = fi f9 a0_script 18 := hf18.efi m_a0_script r_a0_script rfl
    have e26 : fi f18 a0 12 = fi f9 a0 12 := hf18.efi m_a0 r_a0 rfl
    refine lv_aload_n F.1 F.2.1 dX3_readNone_34 rfl (lv_at hl 0 rfl) ?_
    refine tw_bipush F dX3_readNone_35 kb_24 (fun z27 hz27 => ?_)
    refine tw_iconst F dX3_readNone_37 ki_0 (fun z28 hz28 => ?_)
    have hR98 := hR
    have hGo := hG
    refine tw_Vi (As := [.int z27, .int z28]) F hZ h yk_X3_readAnswers mw_594 mw_595 mw_596 (s_X3_readAnswers l D cy L R O f18 hG a0 m_a0 r_a0 z27 ⟨by omega, by omega⟩ z28 ⟨by omega, by omega⟩ hT (by rw [rfa_of e20]; exact hP) (by rw [rfa_of e20]; omega) (by have q5 := pre4; omega) (fun q5 => by omega)) rfl rfl m_a0 r_a0 (fun e q => (T_3 e).mp q) rfl hl.1 rfl (Nat.le_of_ble_eq_true rfl) ⟨Nat.le_of_ble_eq_true rfl, Nat.le_of_ble_eq_true rfl⟩ ⟨Nat.le_of_ble_eq_true rfl, Nat.le_of_ble_eq_true rfl⟩ dX3_readNone_38 (fun v30 f29 H locs hp29 h => ?_)
    obtain ⟨hf29, hv30a, hv30b, hG, hv30p0, hv30p1, hv30p2, hv30p3, hv30p4, hv30p5, hv30p6, hv30p7, hv30p8, hv30p9⟩ := hp29
    have hX : OB L R O a0_script f0 f29 := OB_tr hX (by have q := hv30p9; rw [rfa_of e20] at q; exact q)
    have hT : TK L R f29 a0 := TK_fr hT hf29 (by decide +kernel) m_a0 r_a0
    have hk : fr L R [(3, 2), (3, 3), (3, 11), (3, 12), (3, 13), (6, 14)] [3, 6, 32, 33, 35, 41, 42, 43] f0 f29 := hk.tr hf29 (by decide +kernel) (by decide +kernel)
    have e31 : fi f29 a0 8 = fi f18 a0 8 := hf29.efi m_a0 r_a0 rfl
    have e32 : fld f29 a0 1 = .ref a0_script := (hf29.efl m_a0 r_a0 rfl).trans e20
    have e33 : fld f29 a0 10 = .ref a0_goSlots := (hf29.efl m_a0 r_a0 rfl).trans e22
    have e34 : fi f29 a0_script 17 = fi f18 a0_script 17 := hf29.efi m_a0_script r_a0_script rfl
    have e35 : fi f29 a0_script 18 = fi f18 a0_script 18 := hf29.efi m_a0_script r_a0_script rfl
    have owz := hG.1
    exact hret f29 _ _ _ _ v30 dX3_readNone_41 (tw_nb (by omega)) ⟨hk, by omega, by omega, hG, by omega, if y : v30.toInt = 0 then Or.inl y else Or.inr (by
          rw [hs1]
          have ram := hv30p4
          rw [rfa_of e20] at ram
          have e17 : fi f29 a0_script 17 = fi f0 a0_script 17 := by rw [hf29.efi m_a0_script r_a0_script (by decide +kernel)]; omega
          have e18 : fi f29 a0_script 18 = fi f0 a0_script 18 := by rw [hf29.efi m_a0_script r_a0_script (by decide +kernel)]; omega
          obtain ⟨g1, g2, g3, g4⟩ := id rg0.g
          obtain ⟨a1, a2⟩ := ram (by omega)
          have ac4 := tS_eli h (owz.k m_a0_script r_a0_script sk10 (ro := 41) rfl).1 (owz.k m_a0_script r_a0_script sk10 (ro := 41) rfl).2.1 (fun e q => (T_41 e).mp q) (show 0 < 25 by decide)
          have eA : AC0 f29 a0_script = AC0 f0 a0_script := a1.trans hR98.2.2
          have eA4 : AC0 f29 a0_script ≤ 4 := ac4.2
          refine ⟨fun q2 => by rw [eA]; exact g1 (by omega), fun q2 => by rw [eA, e18]; exact g2 (by omega), fun d hd => ?_, ?_⟩
          · exact (g3 d (by omega)).imp (fun q5 => a2 d (by omega) (hR98.1 d q5)) (fun q5 => hv30p5 d (hR98.2.1 d q5))
          · exact g4.imp (fun q5 => by rw [e18]; exact q5) (fun q5 => a2 0 (by omega) (hR98.1 0 q5))), by have q2 := hv30p7; rw [rfa_of e20, show z27.toInt.toNat = 24 by omega] at q2; rw [hs1]; exact q2, by rw [hs1]; omega, by rw [hs1]; omega, by omega, by have q2 := hv30p1; rw [rfa_of e20] at q2; rw [hs1]; exact q2, by have q2 := hv30p2; rw [rfa_of e20] at q2; rw [hs1]; exact q2, by rw [hs1]; exact hX⟩ h
  · refine lv_aload_n F.1 F.2.1 dX3_readNone_13 rfl (lv_at hl 0 rfl) ?_
    refine tw_iconst F dX3_readNone_14 ki_4 (fun z36 hz36 => ?_)
    refine tw_Vi (As := [.int z36]) F hZ h yk_X3_fail mw_420 mw_421 mw_422 (s_X3_fail l D cy L R O f0 a0 m_a0 r_a0 z36 ⟨by omega, by omega⟩) rfl rfl m_a0 r_a0 (fun e q => (T_3 e).mp q) rfl hl.1 rfl (Nat.le_of_ble_eq_true rfl) ⟨Nat.le_of_ble_eq_true rfl, Nat.le_of_ble_eq_true rfl⟩ ⟨Nat.le_of_ble_eq_true rfl, Nat.le_of_ble_eq_true rfl⟩ dX3_readNone_15 (fun v38 f37 H locs hp37 h => ?_)
    obtain ⟨hf37, hv38a, hv38b⟩ := hp37
    have hX : OB L R O a0_script f0 f37 := OB_fr hX hf37 (by decide +kernel)
    have hT : TK L R f37 a0 := TK_fr hT hf37 (by decide +kernel) m_a0 r_a0
    have hP : PNZ f37 a0_script := PNZ_fr hP hG.1 hf37 (by decide +kernel) (by decide +kernel) (by decide +kernel) m_a0_script r_a0_script
    have hR : RV f0 f37 a0 a0_script := RV_fr hR hG.1 hf37 (by decide +kernel) (Int.le_of_eq (hf37.efi m_a0_script r_a0_script (by decide +kernel)).symm) (by decide +kernel) (by decide +kernel) (by decide +kernel) (by decide +kernel) (by decide +kernel) (by decide +kernel) m_a0_script r_a0_script m_a0 r_a0 t_a0_goSlots m_a0_goSlots r_a0_goSlots
    have hG : GG L R O f37 := hG.fr hf37 (by decide +kernel) (by decide +kernel)
    have hk : fr L R [(3, 2), (3, 3), (3, 11), (3, 12), (3, 13), (6, 14)] [3, 6, 32, 33, 35, 41, 42, 43] f0 f37 := hk.tr hf37 rfl rfl
    have e39 : fi f37 a0 12 = fi f0 a0 12 := hf37.efi m_a0 r_a0 rfl
    have e40 : fi f37 a0 8 = fi f0 a0 8 := hf37.efi m_a0 r_a0 rfl
    have e41 : fld f37 a0 1 = .ref a0_script := (hf37.efl m_a0 r_a0 rfl).trans t_a0_script
    have e42 : fi f37 a0_script 14 = fi f0 a0_script 14 := hf37.efi m_a0_script r_a0_script rfl
    have e43 : fld f37 a0 10 = .ref a0_goSlots := (hf37.efl m_a0 r_a0 rfl).trans t_a0_goSlots
    have e44 : fi f37 a0 11 = fi f0 a0 11 := hf37.efi m_a0 r_a0 rfl
    have e45 : fi f37 a0_script 17 = fi f0 a0_script 17 := hf37.efi m_a0_script r_a0_script rfl
    have e46 : fi f37 a0_script 18 = fi f0 a0_script 18 := hf37.efi m_a0_script r_a0_script rfl
    exact hret f37 _ _ _ _ v38 dX3_readNone_18 (tw_nb (by omega)) ⟨hk, by omega, by omega, hG, by omega, Or.inl (by omega), Or.inl (by omega), by rw [hs1]; omega, by rw [hs1]; omega, by omega, by rw [hs1]; exact hP, by rw [hs1]; omega, by rw [hs1]; exact hX⟩ h
