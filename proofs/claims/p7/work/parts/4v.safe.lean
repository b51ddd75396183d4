theorem dX12_firstOf_0 : decode cX12_firstOf 0 = .ok (.iconst 0, 1) := by decide +kernel
theorem dX12_firstOf_1 : decode cX12_firstOf 1 = .ok (.istore_n 3, 1) := by decide +kernel
theorem dX12_firstOf_2 : decode cX12_firstOf 2 = .ok (.iload_n 3, 1) := by decide +kernel
theorem dX12_firstOf_3 : decode cX12_firstOf 3 = .ok (.i2l, 1) := by decide +kernel
theorem dX12_firstOf_4 : decode cX12_firstOf 4 = .ok (.aload_n 0, 1) := by decide +kernel
theorem dX12_firstOf_5 : decode cX12_firstOf 5 = .ok (.getfield 7, 3) := by decide +kernel
theorem dX12_firstOf_8 : decode cX12_firstOf 8 = .ok (.iload_n 1, 1) := by decide +kernel
theorem dX12_firstOf_9 : decode cX12_firstOf 9 = .ok (.iconst 1, 1) := by decide +kernel
theorem dX12_firstOf_10 : decode cX12_firstOf 10 = .ok (.iadd, 1) := by decide +kernel
theorem dX12_firstOf_11 : decode cX12_firstOf 11 = .ok (.laload, 1) := by decide +kernel
theorem dX12_firstOf_12 : decode cX12_firstOf 12 = .ok (.lcmp, 1) := by decide +kernel
theorem dX12_firstOf_13 : decode cX12_firstOf 13 = .ok (.ifCond .ge 58, 3) := by decide +kernel
theorem dX12_firstOf_71 : decode cX12_firstOf 71 = .ok (.iconst (-1), 1) := by decide +kernel
theorem dX12_firstOf_72 : decode cX12_firstOf 72 = .ok (.ireturn, 1) := by decide +kernel
theorem dX12_firstOf_16 : decode cX12_firstOf 16 = .ok (.iload_n 1, 1) := by decide +kernel
theorem dX12_firstOf_17 : decode cX12_firstOf 17 = .ok (.bipush 52, 2) := by decide +kernel
theorem dX12_firstOf_19 : decode cX12_firstOf 19 = .ok (.iadd, 1) := by decide +kernel
theorem dX12_firstOf_20 : decode cX12_firstOf 20 = .ok (.bipush 60, 2) := by decide +kernel
theorem dX12_firstOf_22 : decode cX12_firstOf 22 = .ok (.iload_n 3, 1) := by decide +kernel
theorem dX12_firstOf_23 : decode cX12_firstOf 23 = .ok (.imul, 1) := by decide +kernel
theorem dX12_firstOf_24 : decode cX12_firstOf 24 = .ok (.iadd, 1) := by decide +kernel
theorem dX12_firstOf_25 : decode cX12_firstOf 25 = .ok (.istore 4, 2) := by decide +kernel
theorem dX12_firstOf_27 : decode cX12_firstOf 27 = .ok (.aload_n 0, 1) := by decide +kernel
theorem dX12_firstOf_28 : decode cX12_firstOf 28 = .ok (.getfield 7, 3) := by decide +kernel
theorem dX12_firstOf_31 : decode cX12_firstOf 31 = .ok (.iload 4, 2) := by decide +kernel
theorem dX12_firstOf_33 : decode cX12_firstOf 33 = .ok (.laload, 1) := by decide +kernel
theorem dX12_firstOf_34 : decode cX12_firstOf 34 = .ok (.iload_n 2, 1) := by decide +kernel
theorem dX12_firstOf_35 : decode cX12_firstOf 35 = .ok (.i2l, 1) := by decide +kernel
theorem dX12_firstOf_36 : decode cX12_firstOf 36 = .ok (.lcmp, 1) := by decide +kernel
theorem dX12_firstOf_65 : decode cX12_firstOf 65 = .ok (.iinc 3 1, 3) := by decide +kernel
theorem dX12_firstOf_68 : decode cX12_firstOf 68 = .ok (.goto (-66), 3) := by decide +kernel
theorem dX12_firstOf_37 : decode cX12_firstOf 37 = .ok (.ifCond .ne 28, 3) := by decide +kernel
theorem dX12_firstOf_40 : decode cX12_firstOf 40 = .ok (.aload_n 0, 1) := by decide +kernel
theorem dX12_firstOf_41 : decode cX12_firstOf 41 = .ok (.getfield 7, 3) := by decide +kernel
theorem dX12_firstOf_44 : decode cX12_firstOf 44 = .ok (.iload 4, 2) := by decide +kernel
theorem dX12_firstOf_46 : decode cX12_firstOf 46 = .ok (.iconst 1, 1) := by decide +kernel
theorem dX12_firstOf_47 : decode cX12_firstOf 47 = .ok (.iadd, 1) := by decide +kernel
theorem dX12_firstOf_48 : decode cX12_firstOf 48 = .ok (.laload, 1) := by decide +kernel
theorem dX12_firstOf_49 : decode cX12_firstOf 49 = .ok (.lconst 0, 1) := by decide +kernel
theorem dX12_firstOf_50 : decode cX12_firstOf 50 = .ok (.lcmp, 1) := by decide +kernel
theorem dX12_firstOf_51 : decode cX12_firstOf 51 = .ok (.ifCond .ne 14, 3) := by decide +kernel
theorem dX12_firstOf_54 : decode cX12_firstOf 54 = .ok (.aload_n 0, 1) := by decide +kernel
theorem dX12_firstOf_55 : decode cX12_firstOf 55 = .ok (.iload_n 1, 1) := by decide +kernel
theorem dX12_firstOf_56 : decode cX12_firstOf 56 = .ok (.iload_n 3, 1) := by decide +kernel
theorem dX12_firstOf_57 : decode cX12_firstOf 57 = .ok (.invokevirtual 307, 3) := by decide +kernel
theorem mw_895 : Cond.methodLink RX12 307 yX12_fits ∈ wsL_law := inr_38 _ (List.mem_of_getElem? (i := 7) rfl)
theorem mw_898 : Cond.code yX12_fits cX12_fits 11 (some .boolean) ∈ wsL_law := inr_38 _ (List.mem_of_getElem? (i := 10) rfl)
theorem yk_X12_fits : xY yX12_fits RX12 cX12_fits 11 (some .boolean) 2 := ⟨⟨rfl, by decide +kernel, by decide +kernel, by decide +kernel⟩, mw_5, mw_898⟩
theorem mw_896 : Cond.instanceMethod yX12_fits ∈ wsL_law := inr_38 _ (List.mem_of_getElem? (i := 8) rfl)
theorem mw_897 : Cond.selects RX12 yX12_fits yX12_fits ∈ wsL_law := inr_38 _ (List.mem_of_getElem? (i := 9) rfl)
theorem dX12_firstOf_60 : decode cX12_firstOf 60 = .ok (.ifCond .eq 5, 3) := by decide +kernel
theorem dX12_firstOf_63 : decode cX12_firstOf 63 = .ok (.iload_n 3, 1) := by decide +kernel
theorem dX12_firstOf_64 : decode cX12_firstOf 64 = .ok (.ireturn, 1) := by decide +kernel
def rm_X12_firstOf : Room := { frames := 1, cells := 0, slots := 0, locals := 30 }
set_option maxHeartbeats 4000000 in
set_option maxRecDepth 100000 in
theorem s_X12_firstOf (l : Launch) (D : va_G) (cy : Nat → ClassId) (L : List Nat) (R O : Nat → Nat) (f0 : Nat → va_E) (a0 : Nat) (m_a0 : a0 ∈ L) (r_a0 : R a0 = 12) (x1 : Int32) (b1 : 0 ≤ x1.toInt ∧ x1.toInt ≤ 24060) (x2 : Int32) (GA : Nat) (m_GA : GA ∈ L) (r_GA : R GA = 61) (t_GA : fld f0 a0 0 = .ref GA) (GP : Nat) (m_GP : GP ∈ L) (r_GP : R GP = 69) (t_GP : fld f0 a0 22 = .ref GP) (GL : Nat) (m_GL : GL ∈ L) (r_GL : R GL = 70) (t_GL : fld f0 a0 23 = .ref GL) (GT : Nat) (m_GT : GT ∈ L) (r_GT : R GT = 64) (t_GT : fld f0 a0 6 = .ref GT) (pre0 : isB x1.toInt.toNat) (pre1 : GZ GP GL f0) : ∀ sz, Met l yX12_firstOf (Cond.code yX12_firstOf cX12_firstOf 5 (some .int) :: wsL_law) rm_X12_firstOf (va_Pc [.ref a0, .int x1, .int x2] (tPZ D cy L R (TT cy L R) f0 sz)) (va_Qi (fun (r : Int32) f1 => fr L R [] [68, 69, 70] f0 f1 ∧ (-1) ≤ r.toInt ∧ r.toInt ≤ 23 ∧ GZ GP GL f1 ∧ (r.toInt = -1 ∨ r.toInt < elj f0 GA (x1.toInt.toNat + 1))) (tB D (tA L sz) L R (TT cy L R)) (tA L sz)) 0 0 (tA L sz) := by
  refine tw_enteri (by decide +kernel) rfl (Nat.le_of_ble_eq_true rfl) ?_
  intro p e s m below meth c A ls args Q F hZ h hl hret
  have hl : lv_has ls 5 [(0, .ref a0), (1, .int x1), (2, .int x2)] := hl
  have hk : fr L R [] [68, 69, 70] f0 f0 := fr.rf
  have hB := pre0
  have hX := pre1
  have hA : KW (0) (0) GA f0 f0 := KW.rf
  refine tw_iconst F dX12_firstOf_0 ki_0 (fun z1 hz1 => ?_)
  refine lv_istore_n (lv' := [(3, .int z1), (0, .ref a0), (1, .int x1), (2, .int x2)]) F.1 F.2.1 dX12_firstOf_1 rfl hl (by decide) rfl (fun ls hl => ?_)
  have j_2 : ∀ (n2 : Nat) (f2 : Nat → va_E) (H : Heap) (locs : List Loc) (ls : Array Slot) (x3_2 : Int32), 0 ≤ x3_2.toInt → x3_2.toInt ≤ 24 → ((24 - x3_2.toInt)).toNat < n2 → tS D cy A s.heap L R (TT cy L R) f2 s H locs → GZ GP GL f2 → KW (0) (0) GA f0 f2 → fr L R [] [68, 69, 70] f0 f2 → fr L R [] [68, 69, 70] f0 f2 → lv_has ls 5 [(0, .ref a0), (1, .int x1), (2, .int x2), (3, .int x3_2)] → W p l e rm_X12_firstOf s m args below meth c H locs 0 0 Q (F0 m 2 ls []) := by
    intro n2
    induction n2 with
    | zero =>
      intro f2 H locs ls x3_2 b3 b4 b5 h hX hA hk hb2 hl
      exfalso
      omega
    | succ n2 ih2 =>
      intro f2 H locs ls x3_2 b3 b4 b5 h hX hA hk hb2 hl
      have e6 : fld f2 a0 0 = .ref GA := (hb2.efl m_a0 r_a0 rfl).trans t_GA
      have e7 : fld f2 a0 22 = .ref GP := (hb2.efl m_a0 r_a0 rfl).trans t_GP
      have e8 : fld f2 a0 23 = .ref GL := (hb2.efl m_a0 r_a0 rfl).trans t_GL
      have e9 : fld f2 a0 6 = .ref GT := (hb2.efl m_a0 r_a0 rfl).trans t_GT
      refine lv_iload_n F.1 F.2.1 dX12_firstOf_2 rfl (lv_at hl 3 rfl) ?_
      refine tw_i2l F dX12_firstOf_3 (fun z10 hz10 => ?_)
      refine lv_aload_n F.1 F.2.1 dX12_firstOf_4 rfl (lv_at hl 0 rfl) ?_
      refine g_12_7 F h m_a0 r_a0 dX12_firstOf_5 (fun o11 m_o11 r_o11 ho11 => ?_)
      obtain rfl := (fld_inj e6 ho11).symm
      refine lv_iload_n F.1 F.2.1 dX12_firstOf_8 rfl (lv_at hl 1 rfl) ?_
      refine tw_iconst F dX12_firstOf_9 ki_1 (fun z12 hz12 => ?_)
      refine tu_iadd F dX12_firstOf_10 (by omega) (fun z13 hz13 => ?_)
      refine le_61 F h m_GA r_GA (by omega) dX12_firstOf_11 (fun v14 ev14 hv14a => ?_)
      have hv14b := clP_2.mp (atb hv14a (ac_c (b := x1.toInt.toNat) 1 hB (by decide) (by omega) rfl))
      have u11 : v14.toInt = elj f2 GA (x1.toInt.toNat + 1) := by rw [ev14, show z13.toInt.toNat = x1.toInt.toNat + 1 by omega]
      have w11 := hA (x1.toInt.toNat + 1) (Or.inr (Nat.zero_le _))
      refine tw_lcmp F dX12_firstOf_12 (fun z15 hz15 => ?_)
      refine tw_if_ge (tgt := 71) F dX12_firstOf_13 (by decide) (fun b16 => ?_) (fun b16 => ?_)
      · refine tw_iconst F dX12_firstOf_71 ki_m1 (fun z17 hz17 => ?_)
        exact hret f2 _ _ _ _ z17 dX12_firstOf_72 rfl ⟨hk, by omega, by omega, hX, by omega⟩ h
      · refine lv_iload_n F.1 F.2.1 dX12_firstOf_16 rfl (lv_at hl 1 rfl) ?_
        refine tw_bipush F dX12_firstOf_17 kb_52 (fun z18 hz18 => ?_)
        refine tu_iadd F dX12_firstOf_19 (by omega) (fun z19 hz19 => ?_)
        refine tw_bipush F dX12_firstOf_20 kb_60 (fun z20 hz20 => ?_)
        refine lv_iload_n F.1 F.2.1 dX12_firstOf_22 rfl (lv_at hl 3 rfl) ?_
        refine tu_imull F dX12_firstOf_23 hz20 (by omega) (fun z21 hz21 => ?_)
        refine tu_iadd F dX12_firstOf_24 (by omega) (fun z22 hz22 => ?_)
        refine lv_istore (lv' := [(4, .int z22), (0, .ref a0), (1, .int x1), (2, .int x2), (3, .int x3_2)]) F.1 F.2.1 dX12_firstOf_25 hl (by decide) rfl (fun ls hl => ?_)
        refine lv_aload_n F.1 F.2.1 dX12_firstOf_27 rfl (lv_at hl 1 rfl) ?_
        refine g_12_7 F h m_a0 r_a0 dX12_firstOf_28 (fun o23 m_o23 r_o23 ho23 => ?_)
        obtain rfl := (fld_inj e6 ho23).symm
        refine lv_iload F.1 F.2.1 dX12_firstOf_31 (lv_at hl 0 rfl) ?_
        refine ld_61 F h m_GA r_GA (by omega) dX12_firstOf_33 (fun v24 hv24a => ?_)
        refine lv_iload_n F.1 F.2.1 dX12_firstOf_34 rfl (lv_at hl 3 rfl) ?_
        refine tu_i2l F dX12_firstOf_35 (fun z25 hz25 hz25a hz25b => ?_)
        refine tw_lcmp F dX12_firstOf_36 (fun z26 hz26 => ?_)
        have j_65 : ∀ (f27 : Nat → va_E) (H : Heap) (locs : List Loc) (ls : Array Slot), tS D cy A s.heap L R (TT cy L R) f27 s H locs → GZ GP GL f27 → KW (0) (0) GA f0 f27 → fr L R [] [68, 69, 70] f0 f27 → fr L R [] [68, 69, 70] f2 f27 → lv_has ls 5 [(0, .ref a0), (1, .int x1), (2, .int x2), (3, .int x3_2)] → W p l e rm_X12_firstOf s m args below meth c H locs 0 0 Q (F0 m 65 ls []) := by
          intro f27 H locs ls h hX hA hk hb65 hl
          have hb2 : fr L R [] [68, 69, 70] f0 f27 := hb2.tr hb65 rfl rfl
          have e28 : fld f27 a0 0 = .ref GA := (hb65.efl m_a0 r_a0 rfl).trans e6
          have e29 : fld f27 a0 22 = .ref GP := (hb65.efl m_a0 r_a0 rfl).trans e7
          have e30 : fld f27 a0 23 = .ref GL := (hb65.efl m_a0 r_a0 rfl).trans e8
          have e31 : fld f27 a0 6 = .ref GT := (hb65.efl m_a0 r_a0 rfl).trans e9
          refine tu_iinc F dX12_firstOf_65 hl (k := 3) rfl (by decide) ki_1 (by omega) (fun z32 ls hz32 hl => ?_)
          have hl : lv_has ls 5 [(3, .int z32), (0, .ref a0), (1, .int x1), (2, .int x2)] := hl
          refine lv_goto (tgt := 2) F.1 F.2.1 dX12_firstOf_68 (by decide) ?_
          exact ih2 f27 _ _ _ z32 (by omega) (by omega) (by omega) h hX hA hk hb2 (lv_sub hl [1, 2, 3, 0] rfl)
        have hb65 : fr L R [] [68, 69, 70] f2 f2 := fr.rf
        refine tw_if_ne (tgt := 65) F dX12_firstOf_37 (by decide) (fun b33 => ?_) (fun b33 => ?_)
        · exact j_65 f2 _ _ _ h hX hA hk hb65 (lv_sub hl [1, 2, 3, 4] rfl)
        · refine lv_aload_n F.1 F.2.1 dX12_firstOf_40 rfl (lv_at hl 1 rfl) ?_
          refine g_12_7 F h m_a0 r_a0 dX12_firstOf_41 (fun o34 m_o34 r_o34 ho34 => ?_)
          obtain rfl := (fld_inj e6 ho34).symm
          refine lv_iload F.1 F.2.1 dX12_firstOf_44 (lv_at hl 0 rfl) ?_
          refine tw_iconst F dX12_firstOf_46 ki_1 (fun z35 hz35 => ?_)
          refine tu_iadd F dX12_firstOf_47 (by omega) (fun z36 hz36 => ?_)
          refine ld_61 F h m_GA r_GA (by omega) dX12_firstOf_48 (fun v37 hv37a => ?_)
          refine tu_lconst F dX12_firstOf_49 (by decide) (fun z38 (hz38 : z38.toInt = 0) => ?_)
          refine tw_lcmp F dX12_firstOf_50 (fun z39 hz39 => ?_)
          refine tw_if_ne (tgt := 65) F dX12_firstOf_51 (by decide) (fun b40 => ?_) (fun b40 => ?_)
          · exact j_65 f2 _ _ _ h hX hA hk hb65 (lv_sub hl [1, 2, 3, 4] rfl)
          · refine lv_aload_n F.1 F.2.1 dX12_firstOf_54 rfl (lv_at hl 1 rfl) ?_
            refine lv_iload_n F.1 F.2.1 dX12_firstOf_55 rfl (lv_at hl 2 rfl) ?_
            refine lv_iload_n F.1 F.2.1 dX12_firstOf_56 rfl (lv_at hl 4 rfl) ?_
            refine tw_Vi (As := [.int x1, .int x3_2]) F hZ h yk_X12_fits mw_895 mw_896 mw_897 (s_X12_fits l D cy L R O f2 a0 m_a0 r_a0 x1 ⟨by omega, by omega⟩ x3_2 ⟨by omega, by omega⟩ GA m_GA r_GA e6 GP m_GP r_GP e7 GL m_GL r_GL e8 GT m_GT r_GT e9 hB hX) rfl rfl m_a0 r_a0 (fun e q => (T_12 e).mp q) rfl hl.1 rfl (Nat.le_of_ble_eq_true rfl) ⟨Nat.le_of_ble_eq_true rfl, Nat.le_of_ble_eq_true rfl⟩ ⟨Nat.le_of_ble_eq_true rfl, Nat.le_of_ble_eq_true rfl⟩ dX12_firstOf_57 (fun v42 f41 H locs hp41 h => ?_)
            obtain ⟨hf41, hv42a, hv42b, hv42p0⟩ := hp41
            have hX : GZ GP GL f41 := hv42p0
            have hA : KW (0) (0) GA f0 f41 := hA.fm hf41 m_GA r_GA (by decide +kernel)
            have hk : fr L R [] [68, 69, 70] f0 f41 := hk.tr hf41 rfl rfl
            have hb2 : fr L R [] [68, 69, 70] f0 f41 := hb2.tr hf41 rfl rfl
            have hb65 : fr L R [] [68, 69, 70] f2 f41 := hb65.tr hf41 rfl rfl
            have e43 : fld f41 a0 0 = .ref GA := (hf41.efl m_a0 r_a0 rfl).trans e6
            have e44 : fld f41 a0 22 = .ref GP := (hf41.efl m_a0 r_a0 rfl).trans e7
            have e45 : fld f41 a0 23 = .ref GL := (hf41.efl m_a0 r_a0 rfl).trans e8
            have e46 : fld f41 a0 6 = .ref GT := (hf41.efl m_a0 r_a0 rfl).trans e9
            refine tw_if_eq (tgt := 65) F dX12_firstOf_60 (by decide) (fun b47 => ?_) (fun b47 => ?_)
            · exact j_65 f41 _ _ _ h hX hA hk hb65 (lv_sub hl [1, 2, 3, 4] rfl)
            · refine lv_iload_n F.1 F.2.1 dX12_firstOf_63 rfl (lv_at hl 4 rfl) ?_
              exact hret f41 _ _ _ _ x3_2 dX12_firstOf_64 rfl ⟨hk, by omega, by omega, hX, by omega⟩ h
  have hb2 : fr L R [] [68, 69, 70] f0 f0 := fr.rf
  exact j_2 (((24 - z1.toInt)).toNat + 1) f0 _ _ _ z1 (by omega) (by omega) (by omega) h hX hA hk hb2 (lv_sub hl [1, 2, 3, 0] rfl)
theorem dX12_leadsOn_0 : decode cX12_leadsOn 0 = .ok (.aload_n 0, 1) := by decide +kernel
theorem dX12_leadsOn_1 : decode cX12_leadsOn 1 = .ok (.getfield 354, 3) := by decide +kernel
theorem mw_1055 : Cond.fieldLink RX12 354 "AskBackModel" "goes" "I" ∈ wsL_law := inr_44 _ (List.mem_of_getElem? (i := 23) rfl)
section
variable {p : Program} {l : Launch} {e : Env} {R0 : Room} {s : State} {m : MethodId} {args : Array Value} {below : List Frame} {meth : Method} {c : Code} {H H0 : Heap} {locs : List Loc} {cells slots : Nat} {Q : State → Prop} {cc : ByteArray} {nL : Nat} {D : va_G} {cy : Nat → ClassId} {A : Nat → Prop} {L : List Nat} {R : Nat → Nat} {f : Nat → va_E} {pc : Nat} {ls : Array Slot} {rest : List Value} {a : Nat}
theorem g_12_354 (F : CallFix p m c cc nL s args wsL_law RX12) (h : tS D cy A H0 L R (TT cy L R) f s H locs) (ha : a ∈ L) (hr : R a = 12) (hdg : decode cc pc = .ok (.getfield 354, 3)) (kk : ∀ x : Int32, x.toInt = fi f a 39 → 0 ≤ x.toInt → x.toInt ≤ 8 → W p l e R0 s m args below meth c H locs cells slots Q (F0 m (pc + 3) ls (.int x :: rest))) : W p l e R0 s m args below meth c H locs cells slots Q (F0 m pc ls (.ref a :: rest)) := tu_geti F h ha hr (fun e q => (T_12 e).mp q) rfl inlX12 rfl (Nat.le_of_ble_eq_true rfl) mw_1055 hdg (fun x h1 h2 h3 => kk x h1 h2 h3)
end
theorem dX12_leadsOn_4 : decode cX12_leadsOn 4 = .ok (.bipush 8, 2) := by decide +kernel
theorem dX12_leadsOn_6 : decode cX12_leadsOn 6 = .ok (.if_icmp .ne 5, 3) := by decide +kernel
theorem dX12_leadsOn_11 : decode cX12_leadsOn 11 = .ok (.aload_n 0, 1) := by decide +kernel
theorem dX12_leadsOn_12 : decode cX12_leadsOn 12 = .ok (.dup, 1) := by decide +kernel
theorem dX12_leadsOn_13 : decode cX12_leadsOn 13 = .ok (.getfield 354, 3) := by decide +kernel
theorem dX12_leadsOn_16 : decode cX12_leadsOn 16 = .ok (.iconst 1, 1) := by decide +kernel
theorem dX12_leadsOn_17 : decode cX12_leadsOn 17 = .ok (.iadd, 1) := by decide +kernel
theorem dX12_leadsOn_18 : decode cX12_leadsOn 18 = .ok (.putfield 354, 3) := by decide +kernel
section
variable {p : Program} {l : Launch} {e : Env} {R0 : Room} {s : State} {m : MethodId} {args : Array Value} {below : List Frame} {meth : Method} {c : Code} {H H0 : Heap} {locs : List Loc} {cells slots : Nat} {Q : State → Prop} {cc : ByteArray} {nL : Nat} {D : va_G} {cy : Nat → ClassId} {A : Nat → Prop} {L : List Nat} {R : Nat → Nat} {f : Nat → va_E} {pc : Nat} {ls : Array Slot} {rest : List Value} {a : Nat}
theorem p_12_354 (F : CallFix p m c cc nL s args wsL_law RX12) (h : tS D cy A H0 L R (TT cy L R) f s H locs) {x : Int32} (ha : a ∈ L) (hr : R a = 12) (hv : 0 ≤ x.toInt ∧ x.toInt ≤ 8) (hdg : decode cc pc = .ok (.putfield 354, 3)) (kk : ∀ (f1 : Nat → va_E) (H1 : Heap) (locs1 : List Loc), fi f1 a 39 = x.toInt → fr L R [(12, 39)] [12] f f1 → tS D cy A H0 L R (TT cy L R) f1 s H1 locs1 → W p l e R0 s m args below meth c H1 locs1 cells slots Q (F0 m (pc + 3) ls (rest))) : W p l e R0 s m args below meth c H locs cells slots Q (F0 m pc ls (.int x :: .ref a :: rest)) := tu_puti (k := 39) F h ha hr T_12 rfl hv.1 hv.2 inlX12 tyX12_ok nmX12 rfl (Nat.le_of_ble_eq_true rfl) mw_1055 rfl rfl rfl hdg kk
end
theorem dX12_leadsOn_21 : decode cX12_leadsOn 21 = .ok (.aload_n 0, 1) := by decide +kernel
theorem dX12_leadsOn_22 : decode cX12_leadsOn 22 = .ok (.iload_n 1, 1) := by decide +kernel
theorem dX12_leadsOn_23 : decode cX12_leadsOn 23 = .ok (.aload_n 0, 1) := by decide +kernel
theorem dX12_leadsOn_24 : decode cX12_leadsOn 24 = .ok (.getfield 7, 3) := by decide +kernel
theorem dX12_leadsOn_27 : decode cX12_leadsOn 27 = .ok (.iload_n 2, 1) := by decide +kernel
theorem dX12_leadsOn_28 : decode cX12_leadsOn 28 = .ok (.laload, 1) := by decide +kernel
theorem dX12_leadsOn_29 : decode cX12_leadsOn 29 = .ok (.l2i, 1) := by decide +kernel
theorem dX12_leadsOn_30 : decode cX12_leadsOn 30 = .ok (.iconst 1, 1) := by decide +kernel
theorem dX12_leadsOn_31 : decode cX12_leadsOn 31 = .ok (.isub, 1) := by decide +kernel
theorem dX12_leadsOn_32 : decode cX12_leadsOn 32 = .ok (.invokevirtual 372, 3) := by decide +kernel
theorem mw_1091 : Cond.methodLink RX12 372 yX12_firstOf ∈ wsL_law := inr_46 _ (List.mem_of_getElem? (i := 11) rfl)
theorem mw_1094 : Cond.code yX12_firstOf cX12_firstOf 5 (some .int) ∈ wsL_law := inr_46 _ (List.mem_of_getElem? (i := 14) rfl)
theorem yk_X12_firstOf : xY yX12_firstOf RX12 cX12_firstOf 5 (some .int) 2 := ⟨⟨rfl, by decide +kernel, by decide +kernel, by decide +kernel⟩, mw_5, mw_1094⟩
theorem mw_1092 : Cond.instanceMethod yX12_firstOf ∈ wsL_law := inr_46 _ (List.mem_of_getElem? (i := 12) rfl)
theorem mw_1093 : Cond.selects RX12 yX12_firstOf yX12_firstOf ∈ wsL_law := inr_46 _ (List.mem_of_getElem? (i := 13) rfl)
theorem dX12_leadsOn_35 : decode cX12_leadsOn 35 = .ok (.ireturn, 1) := by decide +kernel
theorem dX12_leadsOn_9 : decode cX12_leadsOn 9 = .ok (.iconst (-1), 1) := by decide +kernel
theorem dX12_leadsOn_10 : decode cX12_leadsOn 10 = .ok (.ireturn, 1) := by decide +kernel
def rm_X12_leadsOn : Room := { frames := 2, cells := 0, slots := 0, locals := 54 }
set_option maxHeartbeats 4000000 in
set_option maxRecDepth 100000 in
theorem s_X12_leadsOn (l : Launch) (D : va_G) (cy : Nat → ClassId) (L : List Nat) (R O : Nat → Nat) (f0 : Nat → va_E) (a0 : Nat) (m_a0 : a0 ∈ L) (r_a0 : R a0 = 12) (x1 : Int32) (b1 : 0 ≤ x1.toInt ∧ x1.toInt ≤ 24060) (x2 : Int32) (b2 : 0 ≤ x2.toInt ∧ x2.toInt ≤ 25698) (GA : Nat) (m_GA : GA ∈ L) (r_GA : R GA = 61) (t_GA : fld f0 a0 0 = .ref GA) (GP : Nat) (m_GP : GP ∈ L) (r_GP : R GP = 69) (t_GP : fld f0 a0 22 = .ref GP) (GL : Nat) (m_GL : GL ∈ L) (r_GL : R GL = 70) (t_GL : fld f0 a0 23 = .ref GL) (GT : Nat) (m_GT : GT ∈ L) (r_GT : R GT = 64) (t_GT : fld f0 a0 6 = .ref GT) (pre0 : isB x1.toInt.toNat) (pre1 : GZ GP GL f0) (pre2 : AH x2.toInt.toNat) : ∀ sz, Met l yX12_leadsOn (Cond.code yX12_leadsOn cX12_leadsOn 3 (some .int) :: wsL_law) rm_X12_leadsOn (va_Pc [.ref a0, .int x1, .int x2] (tPZ D cy L R (TT cy L R) f0 sz)) (va_Qi (fun (r : Int32) f1 => fr L R [(12, 39)] [12, 68, 69, 70] f0 f1 ∧ (-1) ≤ r.toInt ∧ r.toInt ≤ 23 ∧ GZ GP GL f1 ∧ (r.toInt = -1 ∨ r.toInt < elj f0 GA (x1.toInt.toNat + 1)) ∧ (r.toInt = -1 ∨ fi f1 a0 39 = fi f0 a0 39 + 1) ∧ fi f0 a0 39 ≤ fi f1 a0 39 ∧ fi f1 a0 39 ≤ 8) (tB D (tA L sz) L R (TT cy L R)) (tA L sz)) 0 0 (tA L sz) := by
  refine tw_enteri (by decide +kernel) rfl (Nat.le_of_ble_eq_true rfl) ?_
  intro p e s m below meth c A ls args Q F hZ h hl hret
  have hl : lv_has ls 3 [(0, .ref a0), (1, .int x1), (2, .int x2)] := hl
  have hk : fr L R [(12, 39)] [12, 68, 69, 70] f0 f0 := fr.rf
  have t_a0_goes := h.bfi m_a0 r_a0 (fun e q => (T_12 e).mp q) (k := 39) rfl
  have hB := pre0
  have hX := pre1
  have hA : KW (0) (0) GA f0 f0 := KW.rf
  have hH := pre2
  refine lv_aload_n F.1 F.2.1 dX12_leadsOn_0 rfl (lv_at hl 0 rfl) ?_
  refine g_12_354 F h m_a0 r_a0 dX12_leadsOn_1 (fun v1 hv1 hv1a hv1b => ?_)
  refine tw_bipush F dX12_leadsOn_4 kb_8 (fun z2 hz2 => ?_)
  refine tw_icmp_ne (tgt := 11) F dX12_leadsOn_6 (by decide) (fun b3 => ?_) (fun b3 => ?_)
  · refine lv_aload_n F.1 F.2.1 dX12_leadsOn_11 rfl (lv_at hl 0 rfl) ?_
    refine lv_dup F.1 F.2.1 dX12_leadsOn_12 rfl ?_
    refine g_12_354 F h m_a0 r_a0 dX12_leadsOn_13 (fun v4 hv4 hv4a hv4b => ?_)
    refine tw_iconst F dX12_leadsOn_16 ki_1 (fun z5 hz5 => ?_)
    refine tu_iadd F dX12_leadsOn_17 (by omega) (fun z6 hz6 => ?_)
    refine p_12_354 F h m_a0 r_a0 (by omega) dX12_leadsOn_18 (fun f7 H locs e7p hf7 h => ?_)
    have hX : GZ GP GL f7 := hX.fm hf7 m_GP r_GP m_GL r_GL (by decide +kernel) (by decide +kernel)
    have hA : KW (0) (0) GA f0 f7 := hA.fm hf7 m_GA r_GA (by decide +kernel)
    have hk : fr L R [(12, 39)] [12, 68, 69, 70] f0 f7 := hk.tr hf7 rfl rfl
    have e8 : fld f7 a0 0 = .ref GA := (hf7.efl m_a0 r_a0 rfl).trans t_GA
    have e9 : fld f7 a0 22 = .ref GP := (hf7.efl m_a0 r_a0 rfl).trans t_GP
    have e10 : fld f7 a0 23 = .ref GL := (hf7.efl m_a0 r_a0 rfl).trans t_GL
    have e11 : fld f7 a0 6 = .ref GT := (hf7.efl m_a0 r_a0 rfl).trans t_GT
    refine lv_aload_n F.1 F.2.1 dX12_leadsOn_21 rfl (lv_at hl 0 rfl) ?_
    refine lv_iload_n F.1 F.2.1 dX12_leadsOn_22 rfl (lv_at hl 1 rfl) ?_
    refine lv_aload_n F.1 F.2.1 dX12_leadsOn_23 rfl (lv_at hl 0 rfl) ?_
    refine g_12_7 F h m_a0 r_a0 dX12_leadsOn_24 (fun o12 m_o12 r_o12 ho12 => ?_)
    obtain rfl := (fld_inj e8 ho12).symm
    refine lv_iload_n F.1 F.2.1 dX12_leadsOn_27 rfl (lv_at hl 2 rfl) ?_
    refine ld_61 F h m_GA r_GA (by omega) dX12_leadsOn_28 (fun v13 hv13a => ?_)
    refine lv_l2i F.1 F.2.1 dX12_leadsOn_29 rfl ?_
    refine lv_topi (fun z14 _ => ?_)
    refine tw_iconst F dX12_leadsOn_30 ki_1 (fun z15 hz15 => ?_)
    refine lv_isub F.1 F.2.1 dX12_leadsOn_31 ?_
    refine lv_topi (fun z16 _ => ?_)
    have w32 := hA (x1.toInt.toNat + 1) (Or.inr (Nat.zero_le _))
    refine tw_Vi (As := [.int x1, .int z16]) F hZ h yk_X12_firstOf mw_1091 mw_1092 mw_1093 (s_X12_firstOf l D cy L R O f7 a0 m_a0 r_a0 x1 ⟨by omega, by omega⟩ z16 GA m_GA r_GA e8 GP m_GP r_GP e9 GL m_GL r_GL e10 GT m_GT r_GT e11 hB hX) rfl rfl m_a0 r_a0 (fun e q => (T_12 e).mp q) rfl hl.1 rfl (Nat.le_of_ble_eq_true rfl) ⟨Nat.le_of_ble_eq_true rfl, Nat.le_of_ble_eq_true rfl⟩ ⟨Nat.le_of_ble_eq_true rfl, Nat.le_of_ble_eq_true rfl⟩ dX12_leadsOn_32 (fun v18 f17 H locs hp17 h => ?_)
    obtain ⟨hf17, hv18a, hv18b, hv18p0, hv18p1⟩ := hp17
    have hX : GZ GP GL f17 := hv18p0
    have hA : KW (0) (0) GA f0 f17 := hA.fm hf17 m_GA r_GA (by decide +kernel)
    have hk : fr L R [(12, 39)] [12, 68, 69, 70] f0 f17 := hk.tr hf17 rfl rfl
    have e19 : fld f17 a0 0 = .ref GA := (hf17.efl m_a0 r_a0 rfl).trans e8
    have e20 : fld f17 a0 22 = .ref GP := (hf17.efl m_a0 r_a0 rfl).trans e9
    have e21 : fld f17 a0 23 = .ref GL := (hf17.efl m_a0 r_a0 rfl).trans e10
    have e22 : fld f17 a0 6 = .ref GT := (hf17.efl m_a0 r_a0 rfl).trans e11
    have e23 : fi f17 a0 39 = fi f7 a0 39 := hf17.efi m_a0 r_a0 rfl
    exact hret f17 _ _ _ _ v18 dX12_leadsOn_35 rfl ⟨hk, by omega, by omega, hX, by omega, by omega, by omega, by omega⟩ h
  · refine tw_iconst F dX12_leadsOn_9 ki_m1 (fun z24 hz24 => ?_)
    exact hret f0 _ _ _ _ z24 dX12_leadsOn_10 rfl ⟨hk, by omega, by omega, hX, by omega, by omega, by omega, by omega⟩ h
theorem dX12_follows_0 : decode cX12_follows 0 = .ok (.iload_n 2, 1) := by decide +kernel
theorem dX12_follows_1 : decode cX12_follows 1 = .ok (.istore_n 3, 1) := by decide +kernel
theorem dX12_follows_2 : decode cX12_follows 2 = .ok (.iload_n 3, 1) := by decide +kernel
theorem dX12_follows_3 : decode cX12_follows 3 = .ok (.iconst (-1), 1) := by decide +kernel
theorem dX12_follows_4 : decode cX12_follows 4 = .ok (.if_icmp .eq 133, 3) := by decide +kernel
theorem dX12_follows_137 : decode cX12_follows 137 = .ok (.iconst 0, 1) := by decide +kernel
theorem dX12_follows_138 : decode cX12_follows 138 = .ok (.ireturn, 1) := by decide +kernel
theorem dX12_follows_7 : decode cX12_follows 7 = .ok (.iload_n 1, 1) := by decide +kernel
theorem dX12_follows_8 : decode cX12_follows 8 = .ok (.bipush 52, 2) := by decide +kernel
theorem dX12_follows_10 : decode cX12_follows 10 = .ok (.iadd, 1) := by decide +kernel
theorem dX12_follows_11 : decode cX12_follows 11 = .ok (.bipush 60, 2) := by decide +kernel
theorem dX12_follows_13 : decode cX12_follows 13 = .ok (.iload_n 3, 1) := by decide +kernel
theorem dX12_follows_14 : decode cX12_follows 14 = .ok (.imul, 1) := by decide +kernel
theorem dX12_follows_15 : decode cX12_follows 15 = .ok (.iadd, 1) := by decide +kernel
theorem dX12_follows_16 : decode cX12_follows 16 = .ok (.istore 4, 2) := by decide +kernel
theorem dX12_follows_18 : decode cX12_follows 18 = .ok (.aload_n 0, 1) := by decide +kernel
theorem dX12_follows_19 : decode cX12_follows 19 = .ok (.iload_n 1, 1) := by decide +kernel
theorem dX12_follows_20 : decode cX12_follows 20 = .ok (.sipush 1542, 3) := by decide +kernel
theorem dX12_follows_23 : decode cX12_follows 23 = .ok (.iadd, 1) := by decide +kernel
theorem dX12_follows_24 : decode cX12_follows 24 = .ok (.iload_n 3, 1) := by decide +kernel
theorem dX12_follows_25 : decode cX12_follows 25 = .ok (.iadd, 1) := by decide +kernel
theorem dX12_follows_26 : decode cX12_follows 26 = .ok (.aload_n 0, 1) := by decide +kernel
theorem dX12_follows_27 : decode cX12_follows 27 = .ok (.getfield 7, 3) := by decide +kernel
theorem dX12_follows_30 : decode cX12_follows 30 = .ok (.iload 4, 2) := by decide +kernel
theorem dX12_follows_32 : decode cX12_follows 32 = .ok (.bipush 11, 2) := by decide +kernel
theorem dX12_follows_34 : decode cX12_follows 34 = .ok (.iadd, 1) := by decide +kernel
theorem dX12_follows_35 : decode cX12_follows 35 = .ok (.laload, 1) := by decide +kernel
theorem dX12_follows_36 : decode cX12_follows 36 = .ok (.l2i, 1) := by decide +kernel
theorem dX12_follows_37 : decode cX12_follows 37 = .ok (.invokevirtual 348, 3) := by decide +kernel
theorem mw_1099 : Cond.methodLink RX12 348 yX12_whose ∈ wsL_law := inr_46 _ (List.mem_of_getElem? (i := 19) rfl)
theorem mw_1102 : Cond.code yX12_whose cX12_whose 4 (some .int) ∈ wsL_law := inr_46 _ (List.mem_of_getElem? (i := 22) rfl)
theorem yk_X12_whose : xY yX12_whose RX12 cX12_whose 4 (some .int) 2 := ⟨⟨rfl, by decide +kernel, by decide +kernel, by decide +kernel⟩, mw_5, mw_1102⟩
theorem mw_1100 : Cond.instanceMethod yX12_whose ∈ wsL_law := inr_46 _ (List.mem_of_getElem? (i := 20) rfl)
theorem mw_1101 : Cond.selects RX12 yX12_whose yX12_whose ∈ wsL_law := inr_46 _ (List.mem_of_getElem? (i := 21) rfl)
theorem dX12_follows_40 : decode cX12_follows 40 = .ok (.istore 5, 2) := by decide +kernel
theorem dX12_follows_42 : decode cX12_follows 42 = .ok (.iload 4, 2) := by decide +kernel
theorem dX12_follows_44 : decode cX12_follows 44 = .ok (.bipush 12, 2) := by decide +kernel
theorem dX12_follows_46 : decode cX12_follows 46 = .ok (.iadd, 1) := by decide +kernel
theorem dX12_follows_47 : decode cX12_follows 47 = .ok (.bipush 12, 2) := by decide +kernel
theorem dX12_follows_49 : decode cX12_follows 49 = .ok (.iload 5, 2) := by decide +kernel
theorem dX12_follows_51 : decode cX12_follows 51 = .ok (.imul, 1) := by decide +kernel
theorem dX12_follows_52 : decode cX12_follows 52 = .ok (.iadd, 1) := by decide +kernel
theorem dX12_follows_53 : decode cX12_follows 53 = .ok (.istore 6, 2) := by decide +kernel
theorem dX12_follows_55 : decode cX12_follows 55 = .ok (.aload_n 0, 1) := by decide +kernel
theorem dX12_follows_56 : decode cX12_follows 56 = .ok (.getfield 7, 3) := by decide +kernel
theorem dX12_follows_59 : decode cX12_follows 59 = .ok (.iload 6, 2) := by decide +kernel
theorem dX12_follows_61 : decode cX12_follows 61 = .ok (.laload, 1) := by decide +kernel
theorem dX12_follows_62 : decode cX12_follows 62 = .ok (.lconst 0, 1) := by decide +kernel
theorem dX12_follows_63 : decode cX12_follows 63 = .ok (.lcmp, 1) := by decide +kernel
theorem dX12_follows_64 : decode cX12_follows 64 = .ok (.ifCond .ne 62, 3) := by decide +kernel
theorem dX12_follows_126 : decode cX12_follows 126 = .ok (.aload_n 0, 1) := by decide +kernel
theorem dX12_follows_127 : decode cX12_follows 127 = .ok (.iload_n 1, 1) := by decide +kernel
theorem dX12_follows_128 : decode cX12_follows 128 = .ok (.iload 6, 2) := by decide +kernel
theorem dX12_follows_130 : decode cX12_follows 130 = .ok (.invokevirtual 369, 3) := by decide +kernel
theorem mw_1103 : Cond.methodLink RX12 369 yX12_leadsOn ∈ wsL_law := inr_46 _ (List.mem_of_getElem? (i := 23) rfl)
theorem mw_1106 : Cond.code yX12_leadsOn cX12_leadsOn 3 (some .int) ∈ wsL_law := inr_47 _ (List.mem_of_getElem? (i := 2) rfl)
theorem yk_X12_leadsOn : xY yX12_leadsOn RX12 cX12_leadsOn 3 (some .int) 2 := ⟨⟨rfl, by decide +kernel, by decide +kernel, by decide +kernel⟩, mw_5, mw_1106⟩
theorem mw_1104 : Cond.instanceMethod yX12_leadsOn ∈ wsL_law := inr_47 _ (List.mem_of_getElem? (i := 0) rfl)
theorem mw_1105 : Cond.selects RX12 yX12_leadsOn yX12_leadsOn ∈ wsL_law := inr_47 _ (List.mem_of_getElem? (i := 1) rfl)
theorem dX12_follows_133 : decode cX12_follows 133 = .ok (.istore_n 3, 1) := by decide +kernel
theorem dX12_follows_134 : decode cX12_follows 134 = .ok (.goto (-132), 3) := by decide +kernel
theorem dX12_follows_67 : decode cX12_follows 67 = .ok (.aload_n 0, 1) := by decide +kernel
theorem dX12_follows_68 : decode cX12_follows 68 = .ok (.iload_n 1, 1) := by decide +kernel
theorem dX12_follows_69 : decode cX12_follows 69 = .ok (.iload 6, 2) := by decide +kernel
theorem dX12_follows_71 : decode cX12_follows 71 = .ok (.invokevirtual 351, 3) := by decide +kernel
theorem mw_1074 : Cond.methodLink RX12 351 yX12_makes ∈ wsL_law := inr_45 _ (List.mem_of_getElem? (i := 18) rfl)
theorem mw_1077 : Cond.code yX12_makes cX12_makes 9 (some .boolean) ∈ wsL_law := inr_45 _ (List.mem_of_getElem? (i := 21) rfl)
theorem yk_X12_makes : xY yX12_makes RX12 cX12_makes 9 (some .boolean) 2 := ⟨⟨rfl, by decide +kernel, by decide +kernel, by decide +kernel⟩, mw_5, mw_1077⟩
theorem mw_1075 : Cond.instanceMethod yX12_makes ∈ wsL_law := inr_45 _ (List.mem_of_getElem? (i := 19) rfl)
theorem mw_1076 : Cond.selects RX12 yX12_makes yX12_makes ∈ wsL_law := inr_45 _ (List.mem_of_getElem? (i := 20) rfl)
theorem dX12_follows_74 : decode cX12_follows 74 = .ok (.istore 7, 2) := by decide +kernel
theorem dX12_follows_76 : decode cX12_follows 76 = .ok (.aload_n 0, 1) := by decide +kernel
theorem dX12_follows_77 : decode cX12_follows 77 = .ok (.aload_n 0, 1) := by decide +kernel
theorem dX12_follows_78 : decode cX12_follows 78 = .ok (.getfield 354, 3) := by decide +kernel
theorem dX12_follows_98 : decode cX12_follows 98 = .ok (.putfield 357, 3) := by decide +kernel
theorem mw_1048 : Cond.fieldLink RX12 357 "AskBackModel" "kind" "I" ∈ wsL_law := inr_44 _ (List.mem_of_getElem? (i := 16) rfl)
section
variable {p : Program} {l : Launch} {e : Env} {R0 : Room} {s : State} {m : MethodId} {args : Array Value} {below : List Frame} {meth : Method} {c : Code} {H H0 : Heap} {locs : List Loc} {cells slots : Nat} {Q : State → Prop} {cc : ByteArray} {nL : Nat} {D : va_G} {cy : Nat → ClassId} {A : Nat → Prop} {L : List Nat} {R : Nat → Nat} {f : Nat → va_E} {pc : Nat} {ls : Array Slot} {rest : List Value} {a : Nat}
theorem p_12_357 (F : CallFix p m c cc nL s args wsL_law RX12) (h : tS D cy A H0 L R (TT cy L R) f s H locs) {x : Int32} (ha : a ∈ L) (hr : R a = 12) (hdg : decode cc pc = .ok (.putfield 357, 3)) (kk : ∀ (f1 : Nat → va_E) (H1 : Heap) (locs1 : List Loc), fi f1 a 35 = x.toInt → fr L R [(12, 35)] [12] f f1 → tS D cy A H0 L R (TT cy L R) f1 s H1 locs1 → W p l e R0 s m args below meth c H1 locs1 cells slots Q (F0 m (pc + 3) ls (rest))) : W p l e R0 s m args below meth c H locs cells slots Q (F0 m pc ls (.int x :: .ref a :: rest)) := tu_puti (k := 35) F h ha hr T_12 rfl (tb_i x).1 (tb_i x).2 inlX12 tyX12_ok nmX12 rfl (Nat.le_of_ble_eq_true rfl) mw_1048 rfl rfl rfl hdg kk
end
theorem dX12_follows_101 : decode cX12_follows 101 = .ok (.aload_n 0, 1) := by decide +kernel
theorem dX12_follows_102 : decode cX12_follows 102 = .ok (.aload_n 0, 1) := by decide +kernel
theorem dX12_follows_103 : decode cX12_follows 103 = .ok (.getfield 7, 3) := by decide +kernel
theorem dX12_follows_106 : decode cX12_follows 106 = .ok (.iload 4, 2) := by decide +kernel
theorem dX12_follows_108 : decode cX12_follows 108 = .ok (.laload, 1) := by decide +kernel
theorem dX12_follows_109 : decode cX12_follows 109 = .ok (.l2i, 1) := by decide +kernel
theorem dX12_follows_110 : decode cX12_follows 110 = .ok (.putfield 360, 3) := by decide +kernel
theorem mw_1049 : Cond.fieldLink RX12 360 "AskBackModel" "byKey" "I" ∈ wsL_law := inr_44 _ (List.mem_of_getElem? (i := 17) rfl)
section
variable {p : Program} {l : Launch} {e : Env} {R0 : Room} {s : State} {m : MethodId} {args : Array Value} {below : List Frame} {meth : Method} {c : Code} {H H0 : Heap} {locs : List Loc} {cells slots : Nat} {Q : State → Prop} {cc : ByteArray} {nL : Nat} {D : va_G} {cy : Nat → ClassId} {A : Nat → Prop} {L : List Nat} {R : Nat → Nat} {f : Nat → va_E} {pc : Nat} {ls : Array Slot} {rest : List Value} {a : Nat}
theorem p_12_360 (F : CallFix p m c cc nL s args wsL_law RX12) (h : tS D cy A H0 L R (TT cy L R) f s H locs) {x : Int32} (ha : a ∈ L) (hr : R a = 12) (hdg : decode cc pc = .ok (.putfield 360, 3)) (kk : ∀ (f1 : Nat → va_E) (H1 : Heap) (locs1 : List Loc), fi f1 a 36 = x.toInt → fr L R [(12, 36)] [12] f f1 → tS D cy A H0 L R (TT cy L R) f1 s H1 locs1 → W p l e R0 s m args below meth c H1 locs1 cells slots Q (F0 m (pc + 3) ls (rest))) : W p l e R0 s m args below meth c H locs cells slots Q (F0 m pc ls (.int x :: .ref a :: rest)) := tu_puti (k := 36) F h ha hr T_12 rfl (tb_i x).1 (tb_i x).2 inlX12 tyX12_ok nmX12 rfl (Nat.le_of_ble_eq_true rfl) mw_1049 rfl rfl rfl hdg kk
end
theorem dX12_follows_113 : decode cX12_follows 113 = .ok (.aload_n 0, 1) := by decide +kernel
theorem dX12_follows_114 : decode cX12_follows 114 = .ok (.iload_n 3, 1) := by decide +kernel
theorem dX12_follows_115 : decode cX12_follows 115 = .ok (.putfield 363, 3) := by decide +kernel
theorem mw_1051 : Cond.fieldLink RX12 363 "AskBackModel" "byRule" "I" ∈ wsL_law := inr_44 _ (List.mem_of_getElem? (i := 19) rfl)
section
variable {p : Program} {l : Launch} {e : Env} {R0 : Room} {s : State} {m : MethodId} {args : Array Value} {below : List Frame} {meth : Method} {c : Code} {H H0 : Heap} {locs : List Loc} {cells slots : Nat} {Q : State → Prop} {cc : ByteArray} {nL : Nat} {D : va_G} {cy : Nat → ClassId} {A : Nat → Prop} {L : List Nat} {R : Nat → Nat} {f : Nat → va_E} {pc : Nat} {ls : Array Slot} {rest : List Value} {a : Nat}
theorem p_12_363 (F : CallFix p m c cc nL s args wsL_law RX12) (h : tS D cy A H0 L R (TT cy L R) f s H locs) {x : Int32} (ha : a ∈ L) (hr : R a = 12) (hdg : decode cc pc = .ok (.putfield 363, 3)) (kk : ∀ (f1 : Nat → va_E) (H1 : Heap) (locs1 : List Loc), fi f1 a 37 = x.toInt → fr L R [(12, 37)] [12] f f1 → tS D cy A H0 L R (TT cy L R) f1 s H1 locs1 → W p l e R0 s m args below meth c H1 locs1 cells slots Q (F0 m (pc + 3) ls (rest))) : W p l e R0 s m args below meth c H locs cells slots Q (F0 m pc ls (.int x :: .ref a :: rest)) := tu_puti (k := 37) F h ha hr T_12 rfl (tb_i x).1 (tb_i x).2 inlX12 tyX12_ok nmX12 rfl (Nat.le_of_ble_eq_true rfl) mw_1051 rfl rfl rfl hdg kk
end
theorem dX12_follows_118 : decode cX12_follows 118 = .ok (.aload_n 0, 1) := by decide +kernel
theorem dX12_follows_119 : decode cX12_follows 119 = .ok (.iload 5, 2) := by decide +kernel
theorem dX12_follows_121 : decode cX12_follows 121 = .ok (.putfield 366, 3) := by decide +kernel
theorem mw_1053 : Cond.fieldLink RX12 366 "AskBackModel" "byAnswer" "I" ∈ wsL_law := inr_44 _ (List.mem_of_getElem? (i := 21) rfl)
section
variable {p : Program} {l : Launch} {e : Env} {R0 : Room} {s : State} {m : MethodId} {args : Array Value} {below : List Frame} {meth : Method} {c : Code} {H H0 : Heap} {locs : List Loc} {cells slots : Nat} {Q : State → Prop} {cc : ByteArray} {nL : Nat} {D : va_G} {cy : Nat → ClassId} {A : Nat → Prop} {L : List Nat} {R : Nat → Nat} {f : Nat → va_E} {pc : Nat} {ls : Array Slot} {rest : List Value} {a : Nat}
theorem p_12_366 (F : CallFix p m c cc nL s args wsL_law RX12) (h : tS D cy A H0 L R (TT cy L R) f s H locs) {x : Int32} (ha : a ∈ L) (hr : R a = 12) (hdg : decode cc pc = .ok (.putfield 366, 3)) (kk : ∀ (f1 : Nat → va_E) (H1 : Heap) (locs1 : List Loc), fi f1 a 38 = x.toInt → fr L R [(12, 38)] [12] f f1 → tS D cy A H0 L R (TT cy L R) f1 s H1 locs1 → W p l e R0 s m args below meth c H1 locs1 cells slots Q (F0 m (pc + 3) ls (rest))) : W p l e R0 s m args below meth c H locs cells slots Q (F0 m pc ls (.int x :: .ref a :: rest)) := tu_puti (k := 38) F h ha hr T_12 rfl (tb_i x).1 (tb_i x).2 inlX12 tyX12_ok nmX12 rfl (Nat.le_of_ble_eq_true rfl) mw_1053 rfl rfl rfl hdg kk
end
theorem dX12_follows_124 : decode cX12_follows 124 = .ok (.iconst 1, 1) := by decide +kernel
theorem dX12_follows_125 : decode cX12_follows 125 = .ok (.ireturn, 1) := by decide +kernel
theorem dX12_follows_81 : decode cX12_follows 81 = .ok (.ifCond .le 7, 3) := by decide +kernel
theorem dX12_follows_88 : decode cX12_follows 88 = .ok (.iload 7, 2) := by decide +kernel
theorem dX12_follows_90 : decode cX12_follows 90 = .ok (.ifCond .eq 7, 3) := by decide +kernel
theorem dX12_follows_97 : decode cX12_follows 97 = .ok (.iconst 1, 1) := by decide +kernel
theorem dX12_follows_93 : decode cX12_follows 93 = .ok (.iconst 0, 1) := by decide +kernel
theorem dX12_follows_94 : decode cX12_follows 94 = .ok (.goto 4, 3) := by decide +kernel
theorem dX12_follows_84 : decode cX12_follows 84 = .ok (.iconst 2, 1) := by decide +kernel
theorem dX12_follows_85 : decode cX12_follows 85 = .ok (.goto 13, 3) := by decide +kernel
def rm_X12_follows : Room := { frames := 3, cells := 0, slots := 0, locals := 76 }
set_option maxHeartbeats 4000000 in
set_option maxRecDepth 100000 in
theorem s_X12_follows (l : Launch) (D : va_G) (cy : Nat → ClassId) (L : List Nat) (R O : Nat → Nat) (f0 : Nat → va_E) (a0 : Nat) (m_a0 : a0 ∈ L) (r_a0 : R a0 = 12) (x1 : Int32) (b1 : 0 ≤ x1.toInt ∧ x1.toInt ≤ 24060) (x2 : Int32) (b2 : (-1) ≤ x2.toInt ∧ x2.toInt ≤ 23) (GA : Nat) (m_GA : GA ∈ L) (r_GA : R GA = 61) (t_GA : fld f0 a0 0 = .ref GA) (GP : Nat) (m_GP : GP ∈ L) (r_GP : R GP = 69) (t_GP : fld f0 a0 22 = .ref GP) (GL : Nat) (m_GL : GL ∈ L) (r_GL : R GL = 70) (t_GL : fld f0 a0 23 = .ref GL) (GT : Nat) (m_GT : GT ∈ L) (r_GT : R GT = 64) (t_GT : fld f0 a0 6 = .ref GT) (pre0 : isB x1.toInt.toNat) (pre1 : RB GA x1.toInt.toNat f0) (pre2 : GZ GP GL f0) (pre3 : (x2.toInt = -1 ∨ x2.toInt < elj f0 GA (x1.toInt.toNat + 1))) : ∀ sz, Met l yX12_follows (Cond.code yX12_follows cX12_follows 8 (some .boolean) :: wsL_law) rm_X12_follows (va_Pc [.ref a0, .int x1, .int x2] (tPZ D cy L R (TT cy L R) f0 sz)) (va_Qi (fun (r : Int32) f1 => fr L R [(12, 29), (12, 35), (12, 36), (12, 37), (12, 38), (12, 39)] [12, 61, 68, 69, 70, 74] f0 f1 ∧ 0 ≤ r.toInt ∧ r.toInt ≤ 1 ∧ GZ GP GL f1 ∧ KW (x1.toInt.toNat + 1542) (x1.toInt.toNat + 1646) GA f0 f1) (tB D (tA L sz) L R (TT cy L R)) (tA L sz)) 0 0 (tA L sz) := by
  refine tw_enteri (by decide +kernel) rfl (Nat.le_of_ble_eq_true rfl) ?_
  intro p e s m below meth c A ls args Q F hZ h hl hret
  have hl : lv_has ls 8 [(0, .ref a0), (1, .int x1), (2, .int x2)] := hl
  have hk : fr L R [(12, 29), (12, 35), (12, 36), (12, 37), (12, 38), (12, 39)] [12, 61, 68, 69, 70, 74] f0 f0 := fr.rf
  have t_a0_goes := h.bfi m_a0 r_a0 (fun e q => (T_12 e).mp q) (k := 39) rfl
  have hB := pre0
  have hRB := pre1
  have hX := pre2
  have hA : KW (x1.toInt.toNat + 1542) (x1.toInt.toNat + 1646) GA f0 f0 := KW.rf
  refine lv_iload_n F.1 F.2.1 dX12_follows_0 rfl (lv_at hl 2 rfl) ?_
  refine lv_istore_n (lv' := [(3, .int x2), (0, .ref a0), (1, .int x1), (2, .int x2)]) F.1 F.2.1 dX12_follows_1 rfl hl (by decide) rfl (fun ls hl => ?_)
  have j_2 : ∀ (n2 : Nat) (f1 : Nat → va_E) (H : Heap) (locs : List Loc) (ls : Array Slot) (x3_2 : Int32), (-1) ≤ x3_2.toInt → x3_2.toInt ≤ 23 → (x3_2.toInt = -1 ∨ x3_2.toInt < elj f0 GA (x1.toInt.toNat + 1)) → 0 ≤ fi f1 a0 39 → fi f1 a0 39 ≤ 8 → ((24 * (8 - fi f1 a0 39) + x3_2.toInt + 1)).toNat < n2 → tS D cy A s.heap L R (TT cy L R) f1 s H locs → RB GA x1.toInt.toNat f1 → GZ GP GL f1 → KW (x1.toInt.toNat + 1542) (x1.toInt.toNat + 1646) GA f0 f1 → fr L R [(12, 29), (12, 35), (12, 36), (12, 37), (12, 38), (12, 39)] [12, 61, 68, 69, 70, 74] f0 f1 → fr L R [(12, 39)] [12, 61, 68, 69, 70] f0 f1 → lv_has ls 8 [(0, .ref a0), (1, .int x1), (3, .int x3_2)] → W p l e rm_X12_follows s m args below meth c H locs 0 0 Q (F0 m 2 ls []) := by
    intro n2
    induction n2 with
    | zero =>
      intro f1 H locs ls x3_2 b2 b3 b4 b5 b6 b7 h hRB hX hA hk hb2 hl
      exfalso
      omega
    | succ n2 ih2 =>
      intro f1 H locs ls x3_2 b2 b3 b4 b5 b6 b7 h hRB hX hA hk hb2 hl
      have e8 : fld f1 a0 0 = .ref GA := (hb2.efl m_a0 r_a0 rfl).trans t_GA
      have e9 : fld f1 a0 22 = .ref GP := (hb2.efl m_a0 r_a0 rfl).trans t_GP
      have e10 : fld f1 a0 23 = .ref GL := (hb2.efl m_a0 r_a0 rfl).trans t_GL
      have e11 : fld f1 a0 6 = .ref GT := (hb2.efl m_a0 r_a0 rfl).trans t_GT
      refine lv_iload_n F.1 F.2.1 dX12_follows_2 rfl (lv_at hl 2 rfl) ?_
      refine tw_iconst F dX12_follows_3 ki_m1 (fun z12 hz12 => ?_)
      refine tw_icmp_eq (tgt := 137) F dX12_follows_4 (by decide) (fun b13 => ?_) (fun b13 => ?_)
      · refine tw_iconst F dX12_follows_137 ki_0 (fun z14 hz14 => ?_)
        exact hret f1 _ _ _ _ z14 dX12_follows_138 (tw_nb (by omega)) ⟨hk, by omega, by omega, hX, hA⟩ h
      · refine lv_iload_n F.1 F.2.1 dX12_follows_7 rfl (lv_at hl 1 rfl) ?_
        refine tw_bipush F dX12_follows_8 kb_52 (fun z15 hz15 => ?_)
        refine tu_iadd F dX12_follows_10 (by omega) (fun z16 hz16 => ?_)
        refine tw_bipush F dX12_follows_11 kb_60 (fun z17 hz17 => ?_)
        refine lv_iload_n F.1 F.2.1 dX12_follows_13 rfl (lv_at hl 2 rfl) ?_
        refine tu_imull F dX12_follows_14 hz17 (by omega) (fun z18 hz18 => ?_)
        refine tu_iadd F dX12_follows_15 (by omega) (fun z19 hz19 => ?_)
        refine lv_istore (lv' := [(4, .int z19), (0, .ref a0), (1, .int x1), (3, .int x3_2)]) F.1 F.2.1 dX12_follows_16 hl (by decide) rfl (fun ls hl => ?_)
        refine lv_aload_n F.1 F.2.1 dX12_follows_18 rfl (lv_at hl 1 rfl) ?_
        refine lv_iload_n F.1 F.2.1 dX12_follows_19 rfl (lv_at hl 2 rfl) ?_
        refine tw_sipush F dX12_follows_20 ks_1542 (fun z20 hz20 => ?_)
        refine tu_iadd F dX12_follows_23 (by omega) (fun z21 hz21 => ?_)
        refine lv_iload_n F.1 F.2.1 dX12_follows_24 rfl (lv_at hl 3 rfl) ?_
        refine tu_iadd F dX12_follows_25 (by omega) (fun z22 hz22 => ?_)
        refine lv_aload_n F.1 F.2.1 dX12_follows_26 rfl (lv_at hl 1 rfl) ?_
        refine g_12_7 F h m_a0 r_a0 dX12_follows_27 (fun o23 m_o23 r_o23 ho23 => ?_)
        obtain rfl := (fld_inj e8 ho23).symm
        refine lv_iload F.1 F.2.1 dX12_follows_30 (lv_at hl 0 rfl) ?_
        refine tw_bipush F dX12_follows_32 kb_11 (fun z24 hz24 => ?_)
        refine tu_iadd F dX12_follows_34 (by omega) (fun z25 hz25 => ?_)
        refine le_61 F h m_GA r_GA (by omega) dX12_follows_35 (fun v26 ev26 hv26a => ?_)
        have hv26b := clP_5.mp (atb hv26a (ac_r (b := x1.toInt.toNat) 11 hB (by omega) rfl))
        have u35 : v26.toInt = elj f1 GA (x1.toInt.toNat + 63 + 60 * x3_2.toInt.toNat) := by rw [ev26, show z25.toInt.toNat = x1.toInt.toNat + 63 + 60 * x3_2.toInt.toNat by omega]
        have w35 := hA (x1.toInt.toNat + 1) (by omega)
        have g35 := hRB.1 x3_2.toInt.toNat (by omega) (by omega)
        refine tw_l2i F dX12_follows_36 (by omega) (by omega) (fun z27 hz27 => ?_)
        refine tw_Vi (As := [.int z22, .int z27]) F hZ h yk_X12_whose mw_1099 mw_1100 mw_1101 (s_X12_whose l D cy L R O f1 a0 m_a0 r_a0 z22 ⟨by omega, by omega⟩ z27 ⟨by omega, by omega⟩ GA m_GA r_GA e8 GP m_GP r_GP e9 GL m_GL r_GL e10 GT m_GT r_GT e11 (ac_n (b := x1.toInt.toNat) hB (by omega))) rfl rfl m_a0 r_a0 (fun e q => (T_12 e).mp q) rfl hl.1 rfl (Nat.le_of_ble_eq_true rfl) ⟨Nat.le_of_ble_eq_true rfl, Nat.le_of_ble_eq_true rfl⟩ ⟨Nat.le_of_ble_eq_true rfl, Nat.le_of_ble_eq_true rfl⟩ dX12_follows_37 (fun v29 f28 H locs hp28 h => ?_)
        obtain ⟨hf28, hv29a, hv29b, hv29p0⟩ := hp28
        have hRB : RB GA x1.toInt.toNat f28 := hRB.kw hv29p0 (by omega)
        have hX : GZ GP GL f28 := hX.fm hf28 m_GP r_GP m_GL r_GL (by decide +kernel) (by decide +kernel)
        have hA : KW (x1.toInt.toNat + 1542) (x1.toInt.toNat + 1646) GA f0 f28 := hA.sub hv29p0 (by omega) (by omega)
        have hk : fr L R [(12, 29), (12, 35), (12, 36), (12, 37), (12, 38), (12, 39)] [12, 61, 68, 69, 70, 74] f0 f28 := hk.tr hf28 rfl rfl
        have hb2 : fr L R [(12, 39)] [12, 61, 68, 69, 70] f0 f28 := hb2.tr hf28 rfl rfl
        have e30 : fld f28 a0 0 = .ref GA := (hf28.efl m_a0 r_a0 rfl).trans e8
        have e31 : fld f28 a0 22 = .ref GP := (hf28.efl m_a0 r_a0 rfl).trans e9
        have e32 : fld f28 a0 23 = .ref GL := (hf28.efl m_a0 r_a0 rfl).trans e10
        have e33 : fld f28 a0 6 = .ref GT := (hf28.efl m_a0 r_a0 rfl).trans e11
        have e34 : fi f28 a0 39 = fi f1 a0 39 := hf28.efi m_a0 r_a0 rfl
        refine lv_istore (lv' := [(5, .int v29), (4, .int z19), (0, .ref a0), (1, .int x1), (3, .int x3_2)]) F.1 F.2.1 dX12_follows_40 hl (by decide) rfl (fun ls hl => ?_)
        refine lv_iload F.1 F.2.1 dX12_follows_42 (lv_at hl 1 rfl) ?_
        refine tw_bipush F dX12_follows_44 kb_12 (fun z35 hz35 => ?_)
        refine tu_iadd F dX12_follows_46 (by omega) (fun z36 hz36 => ?_)
        refine tw_bipush F dX12_follows_47 kb_12 (fun z37 hz37 => ?_)
        refine lv_iload F.1 F.2.1 dX12_follows_49 (lv_at hl 0 rfl) ?_
        refine tu_imull F dX12_follows_51 hz37 (by omega) (fun z38 hz38 => ?_)
        refine tu_iadd F dX12_follows_52 (by omega) (fun z39 hz39 => ?_)
        refine lv_istore (lv' := [(6, .int z39), (5, .int v29), (4, .int z19), (0, .ref a0), (1, .int x1), (3, .int x3_2)]) F.1 F.2.1 dX12_follows_53 hl (by decide) rfl (fun ls hl => ?_)
        refine lv_aload_n F.1 F.2.1 dX12_follows_55 rfl (lv_at hl 3 rfl) ?_
        refine g_12_7 F h m_a0 r_a0 dX12_follows_56 (fun o40 m_o40 r_o40 ho40 => ?_)
        obtain rfl := (fld_inj e30 ho40).symm
        refine lv_iload F.1 F.2.1 dX12_follows_59 (lv_at hl 0 rfl) ?_
        refine ld_61 F h m_GA r_GA (by omega) dX12_follows_61 (fun v41 hv41a => ?_)
        refine tu_lconst F dX12_follows_62 (by decide) (fun z42 (hz42 : z42.toInt = 0) => ?_)
        refine tw_lcmp F dX12_follows_63 (fun z43 hz43 => ?_)
        refine tw_if_ne (tgt := 126) F dX12_follows_64 (by decide) (fun b44 => ?_) (fun b44 => ?_)
        · refine lv_aload_n F.1 F.2.1 dX12_follows_126 rfl (lv_at hl 3 rfl) ?_
          refine lv_iload_n F.1 F.2.1 dX12_follows_127 rfl (lv_at hl 4 rfl) ?_
          refine lv_iload F.1 F.2.1 dX12_follows_128 (lv_at hl 0 rfl) ?_
          have w130 := hA (x1.toInt.toNat + 1) (by omega)
          refine tw_Vi (As := [.int x1, .int z39]) F hZ h yk_X12_leadsOn mw_1103 mw_1104 mw_1105 (s_X12_leadsOn l D cy L R O f28 a0 m_a0 r_a0 x1 ⟨by omega, by omega⟩ z39 ⟨by omega, by omega⟩ GA m_GA r_GA e30 GP m_GP r_GP e31 GL m_GL r_GL e32 GT m_GT r_GT e33 hB hX (AS_k (AS_r (j := x1.toInt.toNat + 63 + 60 * x3_2.toInt.toNat) hB (by omega)) (by omega))) rfl rfl m_a0 r_a0 (fun e q => (T_12 e).mp q) rfl hl.1 rfl (Nat.le_of_ble_eq_true rfl) ⟨Nat.le_of_ble_eq_true rfl, Nat.le_of_ble_eq_true rfl⟩ ⟨Nat.le_of_ble_eq_true rfl, Nat.le_of_ble_eq_true rfl⟩ dX12_follows_130 (fun v46 f45 H locs hp45 h => ?_)
          obtain ⟨hf45, hv46a, hv46b, hv46p0, hv46p1, hv46p2, hv46p3, hv46p4⟩ := hp45
          have hRB : RB GA x1.toInt.toNat f45 := hRB.fm hf45 m_GA r_GA (by decide +kernel)
          have hX : GZ GP GL f45 := hv46p0
          have hA : KW (x1.toInt.toNat + 1542) (x1.toInt.toNat + 1646) GA f0 f45 := hA.fm hf45 m_GA r_GA (by decide +kernel)
          have hk : fr L R [(12, 29), (12, 35), (12, 36), (12, 37), (12, 38), (12, 39)] [12, 61, 68, 69, 70, 74] f0 f45 := hk.tr hf45 rfl rfl
          have hb2 : fr L R [(12, 39)] [12, 61, 68, 69, 70] f0 f45 := hb2.tr hf45 rfl rfl
          have e47 : fld f45 a0 0 = .ref GA := (hf45.efl m_a0 r_a0 rfl).trans e30
          have e48 : fld f45 a0 22 = .ref GP := (hf45.efl m_a0 r_a0 rfl).trans e31
          have e49 : fld f45 a0 23 = .ref GL := (hf45.efl m_a0 r_a0 rfl).trans e32
          have e50 : fld f45 a0 6 = .ref GT := (hf45.efl m_a0 r_a0 rfl).trans e33
          refine lv_istore_n (lv' := [(3, .int v46), (6, .int z39), (5, .int v29), (4, .int z19), (0, .ref a0), (1, .int x1)]) F.1 F.2.1 dX12_follows_133 rfl hl (by decide) rfl (fun ls hl => ?_)
          refine lv_goto (tgt := 2) F.1 F.2.1 dX12_follows_134 (by decide) ?_
          exact ih2 f45 _ _ _ v46 (by omega) (by omega) (by omega) (by omega) (by omega) (by omega) h hRB hX hA hk hb2 (lv_sub hl [4, 5, 0] rfl)
        · refine lv_aload_n F.1 F.2.1 dX12_follows_67 rfl (lv_at hl 3 rfl) ?_
          refine lv_iload_n F.1 F.2.1 dX12_follows_68 rfl (lv_at hl 4 rfl) ?_
          refine lv_iload F.1 F.2.1 dX12_follows_69 (lv_at hl 0 rfl) ?_
          refine tw_Vi (As := [.int x1, .int z39]) F hZ h yk_X12_makes mw_1074 mw_1075 mw_1076 (s_X12_makes l D cy L R O f28 a0 m_a0 r_a0 x1 ⟨by omega, by omega⟩ z39 ⟨by omega, by omega⟩ GA m_GA r_GA e30 GP m_GP r_GP e31 GL m_GL r_GL e32 GT m_GT r_GT e33 hB hX (AS_k (AS_r (j := x1.toInt.toNat + 63 + 60 * x3_2.toInt.toNat) hB (by omega)) (by omega))) rfl rfl m_a0 r_a0 (fun e q => (T_12 e).mp q) rfl hl.1 rfl (Nat.le_of_ble_eq_true rfl) ⟨Nat.le_of_ble_eq_true rfl, Nat.le_of_ble_eq_true rfl⟩ ⟨Nat.le_of_ble_eq_true rfl, Nat.le_of_ble_eq_true rfl⟩ dX12_follows_71 (fun v52 f51 H locs hp51 h => ?_)
          obtain ⟨hf51, hv52a, hv52b, hv52p0⟩ := hp51
          have hRB : RB GA x1.toInt.toNat f51 := hRB.fm hf51 m_GA r_GA (by decide +kernel)
          have hX : GZ GP GL f51 := hX.fm hf51 m_GP r_GP m_GL r_GL (by decide +kernel) (by decide +kernel)
          have hA : KW (x1.toInt.toNat + 1542) (x1.toInt.toNat + 1646) GA f0 f51 := hA.fm hf51 m_GA r_GA (by decide +kernel)
          have hk : fr L R [(12, 29), (12, 35), (12, 36), (12, 37), (12, 38), (12, 39)] [12, 61, 68, 69, 70, 74] f0 f51 := hk.tr hf51 rfl rfl
          have e53 : fld f51 a0 0 = .ref GA := (hf51.efl m_a0 r_a0 rfl).trans e30
          have e54 : fld f51 a0 22 = .ref GP := (hf51.efl m_a0 r_a0 rfl).trans e31
          have e55 : fld f51 a0 23 = .ref GL := (hf51.efl m_a0 r_a0 rfl).trans e32
          have e56 : fld f51 a0 6 = .ref GT := (hf51.efl m_a0 r_a0 rfl).trans e33
          have e57 : fi f51 a0 39 = fi f28 a0 39 := hf51.efi m_a0 r_a0 rfl
          refine lv_istore (lv' := [(7, .int v52), (6, .int z39), (5, .int v29), (4, .int z19), (0, .ref a0), (1, .int x1), (3, .int x3_2)]) F.1 F.2.1 dX12_follows_74 hl (by decide) rfl (fun ls hl => ?_)
          refine lv_aload_n F.1 F.2.1 dX12_follows_76 rfl (lv_at hl 4 rfl) ?_
          refine lv_aload_n F.1 F.2.1 dX12_follows_77 rfl (lv_at hl 4 rfl) ?_
          refine g_12_354 F h m_a0 r_a0 dX12_follows_78 (fun v58 hv58 hv58a hv58b => ?_)
          have j_98 : ∀ (ls : Array Slot) (y0_98 : Int32), 0 ≤ y0_98.toInt → y0_98.toInt ≤ 2 → lv_has ls 8 [(0, .ref a0), (3, .int x3_2), (4, .int z19), (5, .int v29)] → W p l e rm_X12_follows s m args below meth c H locs 0 0 Q (F0 m 98 ls [.int y0_98, .ref a0]) := by
            intro ls y0_98 b59 b60 hl
            refine p_12_357 F h m_a0 r_a0 dX12_follows_98 (fun f61 H locs e61p hf61 h => ?_)
            have hRB : RB GA x1.toInt.toNat f61 := hRB.fm hf61 m_GA r_GA (by decide +kernel)
            have hX : GZ GP GL f61 := hX.fm hf61 m_GP r_GP m_GL r_GL (by decide +kernel) (by decide +kernel)
            have hA : KW (x1.toInt.toNat + 1542) (x1.toInt.toNat + 1646) GA f0 f61 := hA.fm hf61 m_GA r_GA (by decide +kernel)
            have hk : fr L R [(12, 29), (12, 35), (12, 36), (12, 37), (12, 38), (12, 39)] [12, 61, 68, 69, 70, 74] f0 f61 := hk.tr hf61 rfl rfl
            have e62 : fld f61 a0 0 = .ref GA := (hf61.efl m_a0 r_a0 rfl).trans e53
            have e63 : fld f61 a0 22 = .ref GP := (hf61.efl m_a0 r_a0 rfl).trans e54
            have e64 : fld f61 a0 23 = .ref GL := (hf61.efl m_a0 r_a0 rfl).trans e55
            have e65 : fld f61 a0 6 = .ref GT := (hf61.efl m_a0 r_a0 rfl).trans e56
            have e66 : fi f61 a0 39 = fi f51 a0 39 := hf61.efi m_a0 r_a0 rfl
            refine lv_aload_n F.1 F.2.1 dX12_follows_101 rfl (lv_at hl 0 rfl) ?_
            refine lv_aload_n F.1 F.2.1 dX12_follows_102 rfl (lv_at hl 0 rfl) ?_
            refine g_12_7 F h m_a0 r_a0 dX12_follows_103 (fun o67 m_o67 r_o67 ho67 => ?_)
            obtain rfl := (fld_inj e62 ho67).symm
            refine lv_iload F.1 F.2.1 dX12_follows_106 (lv_at hl 2 rfl) ?_
            refine ld_61 F h m_GA r_GA (by omega) dX12_follows_108 (fun v68 hv68a => ?_)
            refine lv_l2i F.1 F.2.1 dX12_follows_109 rfl ?_
            refine lv_topi (fun z69 _ => ?_)
            refine p_12_360 F h m_a0 r_a0 dX12_follows_110 (fun f70 H locs e70p hf70 h => ?_)
            have hRB : RB GA x1.toInt.toNat f70 := hRB.fm hf70 m_GA r_GA (by decide +kernel)
            have hX : GZ GP GL f70 := hX.fm hf70 m_GP r_GP m_GL r_GL (by decide +kernel) (by decide +kernel)
            have hA : KW (x1.toInt.toNat + 1542) (x1.toInt.toNat + 1646) GA f0 f70 := hA.fm hf70 m_GA r_GA (by decide +kernel)
            have hk : fr L R [(12, 29), (12, 35), (12, 36), (12, 37), (12, 38), (12, 39)] [12, 61, 68, 69, 70, 74] f0 f70 := hk.tr hf70 rfl rfl
            have e71 : fld f70 a0 0 = .ref GA := (hf70.efl m_a0 r_a0 rfl).trans e62
            have e72 : fld f70 a0 22 = .ref GP := (hf70.efl m_a0 r_a0 rfl).trans e63
            have e73 : fld f70 a0 23 = .ref GL := (hf70.efl m_a0 r_a0 rfl).trans e64
            have e74 : fld f70 a0 6 = .ref GT := (hf70.efl m_a0 r_a0 rfl).trans e65
            have e75 : fi f70 a0 39 = fi f61 a0 39 := hf70.efi m_a0 r_a0 rfl
            refine lv_aload_n F.1 F.2.1 dX12_follows_113 rfl (lv_at hl 0 rfl) ?_
            refine lv_iload_n F.1 F.2.1 dX12_follows_114 rfl (lv_at hl 1 rfl) ?_
            refine p_12_363 F h m_a0 r_a0 dX12_follows_115 (fun f76 H locs e76p hf76 h => ?_)
            have hRB : RB GA x1.toInt.toNat f76 := hRB.fm hf76 m_GA r_GA (by decide +kernel)
            have hX : GZ GP GL f76 := hX.fm hf76 m_GP r_GP m_GL r_GL (by decide +kernel) (by decide +kernel)
            have hA : KW (x1.toInt.toNat + 1542) (x1.toInt.toNat + 1646) GA f0 f76 := hA.fm hf76 m_GA r_GA (by decide +kernel)
            have hk : fr L R [(12, 29), (12, 35), (12, 36), (12, 37), (12, 38), (12, 39)] [12, 61, 68, 69, 70, 74] f0 f76 := hk.tr hf76 rfl rfl
            have e77 : fld f76 a0 0 = .ref GA := (hf76.efl m_a0 r_a0 rfl).trans e71
            have e78 : fld f76 a0 22 = .ref GP := (hf76.efl m_a0 r_a0 rfl).trans e72
            have e79 : fld f76 a0 23 = .ref GL := (hf76.efl m_a0 r_a0 rfl).trans e73
            have e80 : fld f76 a0 6 = .ref GT := (hf76.efl m_a0 r_a0 rfl).trans e74
            have e81 : fi f76 a0 39 = fi f70 a0 39 := hf76.efi m_a0 r_a0 rfl
            refine lv_aload_n F.1 F.2.1 dX12_follows_118 rfl (lv_at hl 0 rfl) ?_
            refine lv_iload F.1 F.2.1 dX12_follows_119 (lv_at hl 3 rfl) ?_
            refine p_12_366 F h m_a0 r_a0 dX12_follows_121 (fun f82 H locs e82p hf82 h => ?_)
            have hRB : RB GA x1.toInt.toNat f82 := hRB.fm hf82 m_GA r_GA (by decide +kernel)
            have hX : GZ GP GL f82 := hX.fm hf82 m_GP r_GP m_GL r_GL (by decide +kernel) (by decide +kernel)
            have hA : KW (x1.toInt.toNat + 1542) (x1.toInt.toNat + 1646) GA f0 f82 := hA.fm hf82 m_GA r_GA (by decide +kernel)
            have hk : fr L R [(12, 29), (12, 35), (12, 36), (12, 37), (12, 38), (12, 39)] [12, 61, 68, 69, 70, 74] f0 f82 := hk.tr hf82 rfl rfl
            have e83 : fld f82 a0 0 = .ref GA := (hf82.efl m_a0 r_a0 rfl).trans e77
            have e84 : fld f82 a0 22 = .ref GP := (hf82.efl m_a0 r_a0 rfl).trans e78
            have e85 : fld f82 a0 23 = .ref GL := (hf82.efl m_a0 r_a0 rfl).trans e79
            have e86 : fld f82 a0 6 = .ref GT := (hf82.efl m_a0 r_a0 rfl).trans e80
            have e87 : fi f82 a0 39 = fi f76 a0 39 := hf82.efi m_a0 r_a0 rfl
            refine tw_iconst F dX12_follows_124 ki_1 (fun z88 hz88 => ?_)
            exact hret f82 _ _ _ _ z88 dX12_follows_125 (tw_nb (by omega)) ⟨hk, by omega, by omega, hX, hA⟩ h
          refine tw_if_le (tgt := 88) F dX12_follows_81 (by decide) (fun b89 => ?_) (fun b89 => ?_)
          · refine lv_iload F.1 F.2.1 dX12_follows_88 (lv_at hl 0 rfl) ?_
            refine tw_if_eq (tgt := 97) F dX12_follows_90 (by decide) (fun b90 => ?_) (fun b90 => ?_)
            · refine tw_iconst F dX12_follows_97 ki_1 (fun z91 hz91 => ?_)
              exact j_98 _ z91 (by omega) (by omega) (lv_sub hl [4, 6, 3, 2] rfl)
            · refine tw_iconst F dX12_follows_93 ki_0 (fun z92 hz92 => ?_)
              refine lv_goto (tgt := 98) F.1 F.2.1 dX12_follows_94 (by decide) ?_
              exact j_98 _ z92 (by omega) (by omega) (lv_sub hl [4, 6, 3, 2] rfl)
          · refine tw_iconst F dX12_follows_84 ki_2 (fun z93 hz93 => ?_)
            refine lv_goto (tgt := 98) F.1 F.2.1 dX12_follows_85 (by decide) ?_
            exact j_98 _ z93 (by omega) (by omega) (lv_sub hl [4, 6, 3, 2] rfl)
  have hb2 : fr L R [(12, 39)] [12, 61, 68, 69, 70] f0 f0 := fr.rf
  exact j_2 (((24 * (8 - fi f0 a0 39) + x2.toInt + 1)).toNat + 1) f0 _ _ _ x2 (by omega) (by omega) (by omega) (by omega) (by omega) (by omega) h hRB hX hA hk hb2 (lv_sub hl [1, 2, 0] rfl)
theorem dX12_byNone_0 : decode cX12_byNone 0 = .ok (.aload_n 0, 1) := by decide +kernel
theorem dX12_byNone_1 : decode cX12_byNone 1 = .ok (.iload_n 1, 1) := by decide +kernel
theorem dX12_byNone_2 : decode cX12_byNone 2 = .ok (.sipush 1566, 3) := by decide +kernel
theorem ks_1566 : (Int16.ofInt 1566).toInt32.toInt = 1566 := by decide
theorem dX12_byNone_5 : decode cX12_byNone 5 = .ok (.iadd, 1) := by decide +kernel
theorem dX12_byNone_6 : decode cX12_byNone 6 = .ok (.aload_n 0, 1) := by decide +kernel
theorem dX12_byNone_7 : decode cX12_byNone 7 = .ok (.getfield 7, 3) := by decide +kernel
theorem dX12_byNone_10 : decode cX12_byNone 10 = .ok (.iload_n 1, 1) := by decide +kernel
theorem dX12_byNone_11 : decode cX12_byNone 11 = .ok (.sipush 1492, 3) := by decide +kernel
theorem ks_1492 : (Int16.ofInt 1492).toInt32.toInt = 1492 := by decide
theorem dX12_byNone_14 : decode cX12_byNone 14 = .ok (.iadd, 1) := by decide +kernel
theorem dX12_byNone_15 : decode cX12_byNone 15 = .ok (.laload, 1) := by decide +kernel
theorem dX12_byNone_16 : decode cX12_byNone 16 = .ok (.l2i, 1) := by decide +kernel
theorem dX12_byNone_17 : decode cX12_byNone 17 = .ok (.invokevirtual 348, 3) := by decide +kernel
theorem dX12_byNone_20 : decode cX12_byNone 20 = .ok (.istore_n 2, 1) := by decide +kernel
theorem dX12_byNone_21 : decode cX12_byNone 21 = .ok (.iload_n 1, 1) := by decide +kernel
theorem dX12_byNone_22 : decode cX12_byNone 22 = .ok (.sipush 1492, 3) := by decide +kernel
theorem dX12_byNone_25 : decode cX12_byNone 25 = .ok (.iadd, 1) := by decide +kernel
theorem dX12_byNone_26 : decode cX12_byNone 26 = .ok (.iconst 1, 1) := by decide +kernel
theorem dX12_byNone_27 : decode cX12_byNone 27 = .ok (.iadd, 1) := by decide +kernel
theorem dX12_byNone_28 : decode cX12_byNone 28 = .ok (.bipush 12, 2) := by decide +kernel
theorem dX12_byNone_30 : decode cX12_byNone 30 = .ok (.iload_n 2, 1) := by decide +kernel
theorem dX12_byNone_31 : decode cX12_byNone 31 = .ok (.imul, 1) := by decide +kernel
theorem dX12_byNone_32 : decode cX12_byNone 32 = .ok (.iadd, 1) := by decide +kernel
theorem dX12_byNone_33 : decode cX12_byNone 33 = .ok (.istore_n 3, 1) := by decide +kernel
theorem dX12_byNone_34 : decode cX12_byNone 34 = .ok (.aload_n 0, 1) := by decide +kernel
theorem dX12_byNone_35 : decode cX12_byNone 35 = .ok (.getfield 7, 3) := by decide +kernel
theorem dX12_byNone_38 : decode cX12_byNone 38 = .ok (.iload_n 3, 1) := by decide +kernel
theorem dX12_byNone_39 : decode cX12_byNone 39 = .ok (.laload, 1) := by decide +kernel
theorem dX12_byNone_40 : decode cX12_byNone 40 = .ok (.lconst 0, 1) := by decide +kernel
theorem dX12_byNone_41 : decode cX12_byNone 41 = .ok (.lcmp, 1) := by decide +kernel
theorem dX12_byNone_42 : decode cX12_byNone 42 = .ok (.ifCond .ne 21, 3) := by decide +kernel
theorem dX12_byNone_63 : decode cX12_byNone 63 = .ok (.aload_n 0, 1) := by decide +kernel
theorem dX12_byNone_64 : decode cX12_byNone 64 = .ok (.iload_n 1, 1) := by decide +kernel
theorem dX12_byNone_65 : decode cX12_byNone 65 = .ok (.aload_n 0, 1) := by decide +kernel
theorem dX12_byNone_66 : decode cX12_byNone 66 = .ok (.iload_n 1, 1) := by decide +kernel
theorem dX12_byNone_67 : decode cX12_byNone 67 = .ok (.iload_n 3, 1) := by decide +kernel
theorem dX12_byNone_68 : decode cX12_byNone 68 = .ok (.invokevirtual 369, 3) := by decide +kernel
theorem dX12_byNone_71 : decode cX12_byNone 71 = .ok (.invokevirtual 381, 3) := by decide +kernel
theorem mw_1095 : Cond.methodLink RX12 381 yX12_follows ∈ wsL_law := inr_46 _ (List.mem_of_getElem? (i := 15) rfl)
theorem mw_1098 : Cond.code yX12_follows cX12_follows 8 (some .boolean) ∈ wsL_law := inr_46 _ (List.mem_of_getElem? (i := 18) rfl)
theorem yk_X12_follows : xY yX12_follows RX12 cX12_follows 8 (some .boolean) 2 := ⟨⟨rfl, by decide +kernel, by decide +kernel, by decide +kernel⟩, mw_5, mw_1098⟩
theorem mw_1096 : Cond.instanceMethod yX12_follows ∈ wsL_law := inr_46 _ (List.mem_of_getElem? (i := 16) rfl)
theorem mw_1097 : Cond.selects RX12 yX12_follows yX12_follows ∈ wsL_law := inr_46 _ (List.mem_of_getElem? (i := 17) rfl)
theorem dX12_byNone_74 : decode cX12_byNone 74 = .ok (.ifCond .ne 8, 3) := by decide +kernel
theorem dX12_byNone_82 : decode cX12_byNone 82 = .ok (.return_, 1) := by decide +kernel
theorem dX12_byNone_77 : decode cX12_byNone 77 = .ok (.aload_n 0, 1) := by decide +kernel
theorem dX12_byNone_78 : decode cX12_byNone 78 = .ok (.iconst 0, 1) := by decide +kernel
theorem dX12_byNone_79 : decode cX12_byNone 79 = .ok (.putfield 324, 3) := by decide +kernel
theorem dX12_byNone_45 : decode cX12_byNone 45 = .ok (.aload_n 0, 1) := by decide +kernel
theorem dX12_byNone_46 : decode cX12_byNone 46 = .ok (.iload_n 1, 1) := by decide +kernel
theorem dX12_byNone_47 : decode cX12_byNone 47 = .ok (.iload_n 3, 1) := by decide +kernel
theorem dX12_byNone_48 : decode cX12_byNone 48 = .ok (.invokevirtual 351, 3) := by decide +kernel
theorem dX12_byNone_51 : decode cX12_byNone 51 = .ok (.pop, 1) := by decide +kernel
theorem dX12_byNone_52 : decode cX12_byNone 52 = .ok (.aload_n 0, 1) := by decide +kernel
theorem dX12_byNone_53 : decode cX12_byNone 53 = .ok (.iconst 4, 1) := by decide +kernel
theorem dX12_byNone_54 : decode cX12_byNone 54 = .ok (.putfield 357, 3) := by decide +kernel
theorem dX12_byNone_57 : decode cX12_byNone 57 = .ok (.aload_n 0, 1) := by decide +kernel
theorem dX12_byNone_58 : decode cX12_byNone 58 = .ok (.iload_n 2, 1) := by decide +kernel
theorem dX12_byNone_59 : decode cX12_byNone 59 = .ok (.putfield 366, 3) := by decide +kernel
theorem dX12_byNone_62 : decode cX12_byNone 62 = .ok (.return_, 1) := by decide +kernel
def rm_X12_byNone : Room := { frames := 4, cells := 0, slots := 0, locals := 103 }
set_option maxHeartbeats 4000000 in
set_option maxRecDepth 100000 in
theorem s_X12_byNone (l : Launch) (D : va_G) (cy : Nat → ClassId) (L : List Nat) (R O : Nat → Nat) (f0 : Nat → va_E) (a0 : Nat) (m_a0 : a0 ∈ L) (r_a0 : R a0 = 12) (x1 : Int32) (b1 : 0 ≤ x1.toInt ∧ x1.toInt ≤ 24060) (GA : Nat) (m_GA : GA ∈ L) (r_GA : R GA = 61) (t_GA : fld f0 a0 0 = .ref GA) (GP : Nat) (m_GP : GP ∈ L) (r_GP : R GP = 69) (t_GP : fld f0 a0 22 = .ref GP) (GL : Nat) (m_GL : GL ∈ L) (r_GL : R GL = 70) (t_GL : fld f0 a0 23 = .ref GL) (GT : Nat) (m_GT : GT ∈ L) (r_GT : R GT = 64) (t_GT : fld f0 a0 6 = .ref GT) (pre0 : isB x1.toInt.toNat) (pre1 : RB GA x1.toInt.toNat f0) (pre2 : GZ GP GL f0) (pre3 : 1 ≤ elj f0 GA (x1.toInt.toNat + 1492)) : ∀ sz, Met l yX12_byNone (Cond.code yX12_byNone cX12_byNone 4 none :: wsL_law) rm_X12_byNone (va_Pc [.ref a0, .int x1] (tPZ D cy L R (TT cy L R) f0 sz)) (va_Qv (fun f1 => fr L R [(12, 29), (12, 35), (12, 36), (12, 37), (12, 38), (12, 39)] [12, 61, 68, 69, 70, 74] f0 f1 ∧ GZ GP GL f1 ∧ KW (x1.toInt.toNat + 1542) (x1.toInt.toNat + 1646) GA f0 f1) (tB D (tA L sz) L R (TT cy L R)) (tA L sz)) 0 0 (tA L sz) := by
  refine tw_enterv (by decide +kernel) rfl (Nat.le_of_ble_eq_true rfl) ?_
  intro p e s m below meth c A ls args Q F hZ h hl hret
  have hl : lv_has ls 4 [(0, .ref a0), (1, .int x1)] := hl
  have hk : fr L R [(12, 29), (12, 35), (12, 36), (12, 37), (12, 38), (12, 39)] [12, 61, 68, 69, 70, 74] f0 f0 := fr.rf
  have hB := pre0
  have hRB := pre1
  have hX := pre2
  have hA : KW (x1.toInt.toNat + 1542) (x1.toInt.toNat + 1646) GA f0 f0 := KW.rf
  refine lv_aload_n F.1 F.2.1 dX12_byNone_0 rfl (lv_at hl 0 rfl) ?_
  refine lv_iload_n F.1 F.2.1 dX12_byNone_1 rfl (lv_at hl 1 rfl) ?_
  refine tw_sipush F dX12_byNone_2 ks_1566 (fun z1 hz1 => ?_)
  refine tu_iadd F dX12_byNone_5 (by omega) (fun z2 hz2 => ?_)
  refine lv_aload_n F.1 F.2.1 dX12_byNone_6 rfl (lv_at hl 0 rfl) ?_
  refine g_12_7 F h m_a0 r_a0 dX12_byNone_7 (fun o3 m_o3 r_o3 ho3 => ?_)
  obtain rfl := (fld_inj t_GA ho3).symm
  refine lv_iload_n F.1 F.2.1 dX12_byNone_10 rfl (lv_at hl 1 rfl) ?_
  refine tw_sipush F dX12_byNone_11 ks_1492 (fun z4 hz4 => ?_)
  refine tu_iadd F dX12_byNone_14 (by omega) (fun z5 hz5 => ?_)
  refine le_61 F h m_GA r_GA (by omega) dX12_byNone_15 (fun v6 ev6 hv6a => ?_)
  have hv6b := clP_5.mp (atb hv6a (ac_c (b := x1.toInt.toNat) 1492 hB (by decide) (by omega) rfl))
  have u15 : v6.toInt = elj f0 GA (x1.toInt.toNat + 1492) := by rw [ev6, show z5.toInt.toNat = x1.toInt.toNat + 1492 by omega]
  refine tw_l2i F dX12_byNone_16 (by omega) (by omega) (fun z7 hz7 => ?_)
  refine tw_Vi (As := [.int z2, .int z7]) F hZ h yk_X12_whose mw_1099 mw_1100 mw_1101 (s_X12_whose l D cy L R O f0 a0 m_a0 r_a0 z2 ⟨by omega, by omega⟩ z7 ⟨by omega, by omega⟩ GA m_GA r_GA t_GA GP m_GP r_GP t_GP GL m_GL r_GL t_GL GT m_GT r_GT t_GT (ac_n (b := x1.toInt.toNat) hB (by omega))) rfl rfl m_a0 r_a0 (fun e q => (T_12 e).mp q) rfl hl.1 rfl (Nat.le_of_ble_eq_true rfl) ⟨Nat.le_of_ble_eq_true rfl, Nat.le_of_ble_eq_true rfl⟩ ⟨Nat.le_of_ble_eq_true rfl, Nat.le_of_ble_eq_true rfl⟩ dX12_byNone_17 (fun v9 f8 H locs hp8 h => ?_)
  obtain ⟨hf8, hv9a, hv9b, hv9p0⟩ := hp8
  have hRB : RB GA x1.toInt.toNat f8 := hRB.kw hv9p0 (by omega)
  have hX : GZ GP GL f8 := hX.fm hf8 m_GP r_GP m_GL r_GL (by decide +kernel) (by decide +kernel)
  have hA : KW (x1.toInt.toNat + 1542) (x1.toInt.toNat + 1646) GA f0 f8 := hA.sub hv9p0 (by omega) (by omega)
  have hk : fr L R [(12, 29), (12, 35), (12, 36), (12, 37), (12, 38), (12, 39)] [12, 61, 68, 69, 70, 74] f0 f8 := hk.tr hf8 rfl rfl
  have e10 : fld f8 a0 0 = .ref GA := (hf8.efl m_a0 r_a0 rfl).trans t_GA
  have e11 : fld f8 a0 22 = .ref GP := (hf8.efl m_a0 r_a0 rfl).trans t_GP
  have e12 : fld f8 a0 23 = .ref GL := (hf8.efl m_a0 r_a0 rfl).trans t_GL
  have e13 : fld f8 a0 6 = .ref GT := (hf8.efl m_a0 r_a0 rfl).trans t_GT
  refine lv_istore_n (lv' := [(2, .int v9), (0, .ref a0), (1, .int x1)]) F.1 F.2.1 dX12_byNone_20 rfl hl (by decide) rfl (fun ls hl => ?_)
  refine lv_iload_n F.1 F.2.1 dX12_byNone_21 rfl (lv_at hl 2 rfl) ?_
  refine tw_sipush F dX12_byNone_22 ks_1492 (fun z14 hz14 => ?_)
  refine tu_iadd F dX12_byNone_25 (by omega) (fun z15 hz15 => ?_)
  refine tw_iconst F dX12_byNone_26 ki_1 (fun z16 hz16 => ?_)
  refine tu_iadd F dX12_byNone_27 (by omega) (fun z17 hz17 => ?_)
  refine tw_bipush F dX12_byNone_28 kb_12 (fun z18 hz18 => ?_)
  refine lv_iload_n F.1 F.2.1 dX12_byNone_30 rfl (lv_at hl 0 rfl) ?_
  refine tu_imull F dX12_byNone_31 hz18 (by omega) (fun z19 hz19 => ?_)
  refine tu_iadd F dX12_byNone_32 (by omega) (fun z20 hz20 => ?_)
  refine lv_istore_n (lv' := [(3, .int z20), (2, .int v9), (0, .ref a0), (1, .int x1)]) F.1 F.2.1 dX12_byNone_33 rfl hl (by decide) rfl (fun ls hl => ?_)
  refine lv_aload_n F.1 F.2.1 dX12_byNone_34 rfl (lv_at hl 2 rfl) ?_
  refine g_12_7 F h m_a0 r_a0 dX12_byNone_35 (fun o21 m_o21 r_o21 ho21 => ?_)
  obtain rfl := (fld_inj e10 ho21).symm
  refine lv_iload_n F.1 F.2.1 dX12_byNone_38 rfl (lv_at hl 0 rfl) ?_
  refine ld_61 F h m_GA r_GA (by omega) dX12_byNone_39 (fun v22 hv22a => ?_)
  refine tu_lconst F dX12_byNone_40 (by decide) (fun z23 (hz23 : z23.toInt = 0) => ?_)
  refine tw_lcmp F dX12_byNone_41 (fun z24 hz24 => ?_)
  refine tw_if_ne (tgt := 63) F dX12_byNone_42 (by decide) (fun b25 => ?_) (fun b25 => ?_)
  · refine lv_aload_n F.1 F.2.1 dX12_byNone_63 rfl (lv_at hl 2 rfl) ?_
    refine lv_iload_n F.1 F.2.1 dX12_byNone_64 rfl (lv_at hl 3 rfl) ?_
    refine lv_aload_n F.1 F.2.1 dX12_byNone_65 rfl (lv_at hl 2 rfl) ?_
    refine lv_iload_n F.1 F.2.1 dX12_byNone_66 rfl (lv_at hl 3 rfl) ?_
    refine lv_iload_n F.1 F.2.1 dX12_byNone_67 rfl (lv_at hl 0 rfl) ?_
    have w68 := hA (x1.toInt.toNat + 1) (by omega)
    refine tw_Vi (As := [.int x1, .int z20]) F hZ h yk_X12_leadsOn mw_1103 mw_1104 mw_1105 (s_X12_leadsOn l D cy L R O f8 a0 m_a0 r_a0 x1 ⟨by omega, by omega⟩ z20 ⟨by omega, by omega⟩ GA m_GA r_GA e10 GP m_GP r_GP e11 GL m_GL r_GL e12 GT m_GT r_GT e13 hB hX (AS_k (AS_n (j := x1.toInt.toNat + 1492) hB rfl) (by omega))) rfl rfl m_a0 r_a0 (fun e q => (T_12 e).mp q) rfl hl.1 rfl (Nat.le_of_ble_eq_true rfl) ⟨Nat.le_of_ble_eq_true rfl, Nat.le_of_ble_eq_true rfl⟩ ⟨Nat.le_of_ble_eq_true rfl, Nat.le_of_ble_eq_true rfl⟩ dX12_byNone_68 (fun v27 f26 H locs hp26 h => ?_)
    obtain ⟨hf26, hv27a, hv27b, hv27p0, hv27p1, hv27p2, hv27p3, hv27p4⟩ := hp26
    have hRB : RB GA x1.toInt.toNat f26 := hRB.fm hf26 m_GA r_GA (by decide +kernel)
    have hX : GZ GP GL f26 := hv27p0
    have hA : KW (x1.toInt.toNat + 1542) (x1.toInt.toNat + 1646) GA f0 f26 := hA.fm hf26 m_GA r_GA (by decide +kernel)
    have hk : fr L R [(12, 29), (12, 35), (12, 36), (12, 37), (12, 38), (12, 39)] [12, 61, 68, 69, 70, 74] f0 f26 := hk.tr hf26 rfl rfl
    have e28 : fld f26 a0 0 = .ref GA := (hf26.efl m_a0 r_a0 rfl).trans e10
    have e29 : fld f26 a0 22 = .ref GP := (hf26.efl m_a0 r_a0 rfl).trans e11
    have e30 : fld f26 a0 23 = .ref GL := (hf26.efl m_a0 r_a0 rfl).trans e12
    have e31 : fld f26 a0 6 = .ref GT := (hf26.efl m_a0 r_a0 rfl).trans e13
    have w71 := hA (x1.toInt.toNat + 1) (by omega)
    refine tw_Vi (As := [.int x1, .int v27]) F hZ h yk_X12_follows mw_1095 mw_1096 mw_1097 (s_X12_follows l D cy L R O f26 a0 m_a0 r_a0 x1 ⟨by omega, by omega⟩ v27 ⟨by omega, by omega⟩ GA m_GA r_GA e28 GP m_GP r_GP e29 GL m_GL r_GL e30 GT m_GT r_GT e31 hB hRB hX (by omega)) rfl rfl m_a0 r_a0 (fun e q => (T_12 e).mp q) rfl hl.1 rfl (Nat.le_of_ble_eq_true rfl) ⟨Nat.le_of_ble_eq_true rfl, Nat.le_of_ble_eq_true rfl⟩ ⟨Nat.le_of_ble_eq_true rfl, Nat.le_of_ble_eq_true rfl⟩ dX12_byNone_71 (fun v33 f32 H locs hp32 h => ?_)
    obtain ⟨hf32, hv33a, hv33b, hv33p0, hv33p1⟩ := hp32
    have hRB : RB GA x1.toInt.toNat f32 := hRB.kw hv33p1 (by omega)
    have hX : GZ GP GL f32 := hv33p0
    have hA : KW (x1.toInt.toNat + 1542) (x1.toInt.toNat + 1646) GA f0 f32 := hA.sub hv33p1 (by omega) (by omega)
    have hk : fr L R [(12, 29), (12, 35), (12, 36), (12, 37), (12, 38), (12, 39)] [12, 61, 68, 69, 70, 74] f0 f32 := hk.tr hf32 (by decide +kernel) (by decide +kernel)
    have e34 : fld f32 a0 0 = .ref GA := (hf32.efl m_a0 r_a0 rfl).trans e28
    have e35 : fld f32 a0 22 = .ref GP := (hf32.efl m_a0 r_a0 rfl).trans e29
    have e36 : fld f32 a0 23 = .ref GL := (hf32.efl m_a0 r_a0 rfl).trans e30
    have e37 : fld f32 a0 6 = .ref GT := (hf32.efl m_a0 r_a0 rfl).trans e31
    refine tw_if_ne (tgt := 82) F dX12_byNone_74 (by decide) (fun b38 => ?_) (fun b38 => ?_)
    · exact hret f32 _ _ _ _ dX12_byNone_82 ⟨hk, hX, hA⟩ h
    · refine lv_aload_n F.1 F.2.1 dX12_byNone_77 rfl (lv_at hl 2 rfl) ?_
      refine tw_iconst F dX12_byNone_78 ki_0 (fun z39 hz39 => ?_)
      refine p_12_324 F h m_a0 r_a0 (by omega) dX12_byNone_79 (fun f40 H locs e40p hf40 h => ?_)
      have hRB : RB GA x1.toInt.toNat f40 := hRB.fm hf40 m_GA r_GA (by decide +kernel)
      have hX : GZ GP GL f40 := hX.fm hf40 m_GP r_GP m_GL r_GL (by decide +kernel) (by decide +kernel)
      have hA : KW (x1.toInt.toNat + 1542) (x1.toInt.toNat + 1646) GA f0 f40 := hA.fm hf40 m_GA r_GA (by decide +kernel)
      have hk : fr L R [(12, 29), (12, 35), (12, 36), (12, 37), (12, 38), (12, 39)] [12, 61, 68, 69, 70, 74] f0 f40 := hk.tr hf40 rfl rfl
      have e41 : fld f40 a0 0 = .ref GA := (hf40.efl m_a0 r_a0 rfl).trans e34
      have e42 : fld f40 a0 22 = .ref GP := (hf40.efl m_a0 r_a0 rfl).trans e35
      have e43 : fld f40 a0 23 = .ref GL := (hf40.efl m_a0 r_a0 rfl).trans e36
      have e44 : fld f40 a0 6 = .ref GT := (hf40.efl m_a0 r_a0 rfl).trans e37
      exact hret f40 _ _ _ _ dX12_byNone_82 ⟨hk, hX, hA⟩ h
  · refine lv_aload_n F.1 F.2.1 dX12_byNone_45 rfl (lv_at hl 2 rfl) ?_
    refine lv_iload_n F.1 F.2.1 dX12_byNone_46 rfl (lv_at hl 3 rfl) ?_
    refine lv_iload_n F.1 F.2.1 dX12_byNone_47 rfl (lv_at hl 0 rfl) ?_
    refine tw_Vi (As := [.int x1, .int z20]) F hZ h yk_X12_makes mw_1074 mw_1075 mw_1076 (s_X12_makes l D cy L R O f8 a0 m_a0 r_a0 x1 ⟨by omega, by omega⟩ z20 ⟨by omega, by omega⟩ GA m_GA r_GA e10 GP m_GP r_GP e11 GL m_GL r_GL e12 GT m_GT r_GT e13 hB hX (AS_k (AS_n (j := x1.toInt.toNat + 1492) hB rfl) (by omega))) rfl rfl m_a0 r_a0 (fun e q => (T_12 e).mp q) rfl hl.1 rfl (Nat.le_of_ble_eq_true rfl) ⟨Nat.le_of_ble_eq_true rfl, Nat.le_of_ble_eq_true rfl⟩ ⟨Nat.le_of_ble_eq_true rfl, Nat.le_of_ble_eq_true rfl⟩ dX12_byNone_48 (fun v46 f45 H locs hp45 h => ?_)
    obtain ⟨hf45, hv46a, hv46b, hv46p0⟩ := hp45
    have hRB : RB GA x1.toInt.toNat f45 := hRB.fm hf45 m_GA r_GA (by decide +kernel)
    have hX : GZ GP GL f45 := hX.fm hf45 m_GP r_GP m_GL r_GL (by decide +kernel) (by decide +kernel)
    have hA : KW (x1.toInt.toNat + 1542) (x1.toInt.toNat + 1646) GA f0 f45 := hA.fm hf45 m_GA r_GA (by decide +kernel)
    have hk : fr L R [(12, 29), (12, 35), (12, 36), (12, 37), (12, 38), (12, 39)] [12, 61, 68, 69, 70, 74] f0 f45 := hk.tr hf45 rfl rfl
    have e47 : fld f45 a0 0 = .ref GA := (hf45.efl m_a0 r_a0 rfl).trans e10
    have e48 : fld f45 a0 22 = .ref GP := (hf45.efl m_a0 r_a0 rfl).trans e11
    have e49 : fld f45 a0 23 = .ref GL := (hf45.efl m_a0 r_a0 rfl).trans e12
    have e50 : fld f45 a0 6 = .ref GT := (hf45.efl m_a0 r_a0 rfl).trans e13
    refine lv_pop F.1 F.2.1 dX12_byNone_51 rfl ?_
    refine lv_aload_n F.1 F.2.1 dX12_byNone_52 rfl (lv_at hl 2 rfl) ?_
    refine tw_iconst F dX12_byNone_53 ki_4 (fun z51 hz51 => ?_)
    refine p_12_357 F h m_a0 r_a0 dX12_byNone_54 (fun f52 H locs e52p hf52 h => ?_)
    have hRB : RB GA x1.toInt.toNat f52 := hRB.fm hf52 m_GA r_GA (by decide +kernel)
    have hX : GZ GP GL f52 := hX.fm hf52 m_GP r_GP m_GL r_GL (by decide +kernel) (by decide +kernel)
    have hA : KW (x1.toInt.toNat + 1542) (x1.toInt.toNat + 1646) GA f0 f52 := hA.fm hf52 m_GA r_GA (by decide +kernel)
    have hk : fr L R [(12, 29), (12, 35), (12, 36), (12, 37), (12, 38), (12, 39)] [12, 61, 68, 69, 70, 74] f0 f52 := hk.tr hf52 rfl rfl
    have e53 : fld f52 a0 0 = .ref GA := (hf52.efl m_a0 r_a0 rfl).trans e47
    have e54 : fld f52 a0 22 = .ref GP := (hf52.efl m_a0 r_a0 rfl).trans e48
    have e55 : fld f52 a0 23 = .ref GL := (hf52.efl m_a0 r_a0 rfl).trans e49
    have e56 : fld f52 a0 6 = .ref GT := (hf52.efl m_a0 r_a0 rfl).trans e50
    refine lv_aload_n F.1 F.2.1 dX12_byNone_57 rfl (lv_at hl 2 rfl) ?_
    refine lv_iload_n F.1 F.2.1 dX12_byNone_58 rfl (lv_at hl 1 rfl) ?_
    refine p_12_366 F h m_a0 r_a0 dX12_byNone_59 (fun f57 H locs e57p hf57 h => ?_)
    have hRB : RB GA x1.toInt.toNat f57 := hRB.fm hf57 m_GA r_GA (by decide +kernel)
    have hX : GZ GP GL f57 := hX.fm hf57 m_GP r_GP m_GL r_GL (by decide +kernel) (by decide +kernel)
    have hA : KW (x1.toInt.toNat + 1542) (x1.toInt.toNat + 1646) GA f0 f57 := hA.fm hf57 m_GA r_GA (by decide +kernel)
    have hk : fr L R [(12, 29), (12, 35), (12, 36), (12, 37), (12, 38), (12, 39)] [12, 61, 68, 69, 70, 74] f0 f57 := hk.tr hf57 rfl rfl
    have e58 : fld f57 a0 0 = .ref GA := (hf57.efl m_a0 r_a0 rfl).trans e53
    have e59 : fld f57 a0 22 = .ref GP := (hf57.efl m_a0 r_a0 rfl).trans e54
    have e60 : fld f57 a0 23 = .ref GL := (hf57.efl m_a0 r_a0 rfl).trans e55
    have e61 : fld f57 a0 6 = .ref GT := (hf57.efl m_a0 r_a0 rfl).trans e56
    exact hret f57 _ _ _ _ dX12_byNone_62 ⟨hk, hX, hA⟩ h
theorem dX12_answers0_0 : decode cX12_answers0 0 = .ok (.aload_n 0, 1) := by decide +kernel
theorem dX12_answers0_1 : decode cX12_answers0 1 = .ok (.iconst 5, 1) := by decide +kernel
theorem dX12_answers0_2 : decode cX12_answers0 2 = .ok (.putfield 357, 3) := by decide +kernel
theorem dX12_answers0_5 : decode cX12_answers0 5 = .ok (.aload_n 0, 1) := by decide +kernel
theorem dX12_answers0_6 : decode cX12_answers0 6 = .ok (.iconst (-1), 1) := by decide +kernel
theorem dX12_answers0_7 : decode cX12_answers0 7 = .ok (.putfield 360, 3) := by decide +kernel
theorem dX12_answers0_10 : decode cX12_answers0 10 = .ok (.aload_n 0, 1) := by decide +kernel
theorem dX12_answers0_11 : decode cX12_answers0 11 = .ok (.iconst (-1), 1) := by decide +kernel
theorem dX12_answers0_12 : decode cX12_answers0 12 = .ok (.putfield 363, 3) := by decide +kernel
theorem dX12_answers0_15 : decode cX12_answers0 15 = .ok (.aload_n 0, 1) := by decide +kernel
theorem dX12_answers0_16 : decode cX12_answers0 16 = .ok (.iconst (-1), 1) := by decide +kernel
theorem dX12_answers0_17 : decode cX12_answers0 17 = .ok (.putfield 366, 3) := by decide +kernel
theorem dX12_answers0_20 : decode cX12_answers0 20 = .ok (.aload_n 0, 1) := by decide +kernel
theorem dX12_answers0_21 : decode cX12_answers0 21 = .ok (.iconst 0, 1) := by decide +kernel
theorem dX12_answers0_22 : decode cX12_answers0 22 = .ok (.putfield 354, 3) := by decide +kernel
theorem dX12_answers0_25 : decode cX12_answers0 25 = .ok (.aload_n 0, 1) := by decide +kernel
theorem dX12_answers0_26 : decode cX12_answers0 26 = .ok (.iload_n 1, 1) := by decide +kernel
theorem dX12_answers0_27 : decode cX12_answers0 27 = .ok (.invokevirtual 375, 3) := by decide +kernel
theorem mw_1061 : Cond.methodLink RX12 375 yX12_keysHeard ∈ wsL_law := inr_45 _ (List.mem_of_getElem? (i := 5) rfl)
theorem mw_1064 : Cond.code yX12_keysHeard cX12_keysHeard 5 (some .int) ∈ wsL_law := inr_45 _ (List.mem_of_getElem? (i := 8) rfl)
theorem yk_X12_keysHeard : xY yX12_keysHeard RX12 cX12_keysHeard 5 (some .int) 1 := ⟨⟨rfl, by decide +kernel, by decide +kernel, by decide +kernel⟩, mw_5, mw_1064⟩
theorem mw_1062 : Cond.instanceMethod yX12_keysHeard ∈ wsL_law := inr_45 _ (List.mem_of_getElem? (i := 6) rfl)
theorem mw_1063 : Cond.selects RX12 yX12_keysHeard yX12_keysHeard ∈ wsL_law := inr_45 _ (List.mem_of_getElem? (i := 7) rfl)
theorem dX12_answers0_30 : decode cX12_answers0 30 = .ok (.istore_n 2, 1) := by decide +kernel
theorem dX12_answers0_31 : decode cX12_answers0 31 = .ok (.iconst 0, 1) := by decide +kernel
theorem dX12_answers0_32 : decode cX12_answers0 32 = .ok (.istore_n 3, 1) := by decide +kernel
theorem dX12_answers0_33 : decode cX12_answers0 33 = .ok (.iload_n 2, 1) := by decide +kernel
theorem dX12_answers0_128 : decode cX12_answers0 128 = .ok (.iconst (-1), 1) := by decide +kernel
theorem dX12_answers0_129 : decode cX12_answers0 129 = .ok (.istore_n 3, 1) := by decide +kernel
theorem dX12_answers0_130 : decode cX12_answers0 130 = .ok (.iconst 0, 1) := by decide +kernel
theorem dX12_answers0_131 : decode cX12_answers0 131 = .ok (.istore 4, 2) := by decide +kernel
theorem dX12_answers0_133 : decode cX12_answers0 133 = .ok (.iload 4, 2) := by decide +kernel
theorem dX12_answers0_135 : decode cX12_answers0 135 = .ok (.iload_n 2, 1) := by decide +kernel
theorem dX12_answers0_163 : decode cX12_answers0 163 = .ok (.iload_n 3, 1) := by decide +kernel
theorem dX12_answers0_164 : decode cX12_answers0 164 = .ok (.iconst (-1), 1) := by decide +kernel
theorem dX12_answers0_178 : decode cX12_answers0 178 = .ok (.aload_n 0, 1) := by decide +kernel
theorem dX12_answers0_179 : decode cX12_answers0 179 = .ok (.iconst 0, 1) := by decide +kernel
theorem dX12_answers0_180 : decode cX12_answers0 180 = .ok (.putfield 324, 3) := by decide +kernel
theorem dX12_answers0_183 : decode cX12_answers0 183 = .ok (.aload_n 0, 1) := by decide +kernel
theorem dX12_answers0_184 : decode cX12_answers0 184 = .ok (.getfield 7, 3) := by decide +kernel
theorem dX12_answers0_187 : decode cX12_answers0 187 = .ok (.iload_n 1, 1) := by decide +kernel
theorem dX12_answers0_188 : decode cX12_answers0 188 = .ok (.sipush 1567, 3) := by decide +kernel
theorem dX12_answers0_191 : decode cX12_answers0 191 = .ok (.iadd, 1) := by decide +kernel
theorem dX12_answers0_192 : decode cX12_answers0 192 = .ok (.laload, 1) := by decide +kernel
theorem dX12_answers0_193 : decode cX12_answers0 193 = .ok (.lconst 0, 1) := by decide +kernel
theorem dX12_answers0_194 : decode cX12_answers0 194 = .ok (.lcmp, 1) := by decide +kernel
theorem dX12_answers0_195 : decode cX12_answers0 195 = .ok (.ifCond .le 71, 3) := by decide +kernel
theorem dX12_answers0_266 : decode cX12_answers0 266 = .ok (.aload_n 0, 1) := by decide +kernel
theorem dX12_answers0_267 : decode cX12_answers0 267 = .ok (.getfield 7, 3) := by decide +kernel
theorem dX12_answers0_270 : decode cX12_answers0 270 = .ok (.iload_n 1, 1) := by decide +kernel
theorem dX12_answers0_271 : decode cX12_answers0 271 = .ok (.iconst 3, 1) := by decide +kernel
theorem dX12_answers0_272 : decode cX12_answers0 272 = .ok (.iadd, 1) := by decide +kernel
theorem dX12_answers0_273 : decode cX12_answers0 273 = .ok (.laload, 1) := by decide +kernel
theorem dX12_answers0_274 : decode cX12_answers0 274 = .ok (.lconst 1, 1) := by decide +kernel
theorem dX12_answers0_275 : decode cX12_answers0 275 = .ok (.lcmp, 1) := by decide +kernel
theorem dX12_answers0_276 : decode cX12_answers0 276 = .ok (.ifCond .ne 8, 3) := by decide +kernel
theorem dX12_answers0_284 : decode cX12_answers0 284 = .ok (.return_, 1) := by decide +kernel
theorem dX12_answers0_279 : decode cX12_answers0 279 = .ok (.aload_n 0, 1) := by decide +kernel
theorem dX12_answers0_280 : decode cX12_answers0 280 = .ok (.iload_n 1, 1) := by decide +kernel
theorem dX12_answers0_281 : decode cX12_answers0 281 = .ok (.invokevirtual 384, 3) := by decide +kernel
theorem mw_1107 : Cond.methodLink RX12 384 yX12_byNone ∈ wsL_law := inr_47 _ (List.mem_of_getElem? (i := 3) rfl)
theorem mw_1110 : Cond.code yX12_byNone cX12_byNone 4 none ∈ wsL_law := inr_47 _ (List.mem_of_getElem? (i := 6) rfl)
theorem yk_X12_byNone : xY yX12_byNone RX12 cX12_byNone 4 none 1 := ⟨⟨rfl, by decide +kernel, by decide +kernel, by decide +kernel⟩, mw_5, mw_1110⟩
theorem mw_1108 : Cond.instanceMethod yX12_byNone ∈ wsL_law := inr_47 _ (List.mem_of_getElem? (i := 4) rfl)
theorem mw_1109 : Cond.selects RX12 yX12_byNone yX12_byNone ∈ wsL_law := inr_47 _ (List.mem_of_getElem? (i := 5) rfl)
theorem dX12_answers0_198 : decode cX12_answers0 198 = .ok (.aload_n 0, 1) := by decide +kernel
theorem dX12_answers0_199 : decode cX12_answers0 199 = .ok (.iconst 3, 1) := by decide +kernel
theorem dX12_answers0_200 : decode cX12_answers0 200 = .ok (.putfield 357, 3) := by decide +kernel
theorem dX12_answers0_203 : decode cX12_answers0 203 = .ok (.aload_n 0, 1) := by decide +kernel
theorem dX12_answers0_204 : decode cX12_answers0 204 = .ok (.aload_n 0, 1) := by decide +kernel
theorem dX12_answers0_205 : decode cX12_answers0 205 = .ok (.getfield 7, 3) := by decide +kernel
theorem dX12_answers0_208 : decode cX12_answers0 208 = .ok (.iload_n 1, 1) := by decide +kernel
theorem dX12_answers0_209 : decode cX12_answers0 209 = .ok (.sipush 1568, 3) := by decide +kernel
theorem dX12_answers0_212 : decode cX12_answers0 212 = .ok (.iadd, 1) := by decide +kernel
theorem dX12_answers0_213 : decode cX12_answers0 213 = .ok (.laload, 1) := by decide +kernel
theorem dX12_answers0_214 : decode cX12_answers0 214 = .ok (.l2i, 1) := by decide +kernel
theorem dX12_answers0_215 : decode cX12_answers0 215 = .ok (.putfield 324, 3) := by decide +kernel
theorem dX12_answers0_218 : decode cX12_answers0 218 = .ok (.iconst 0, 1) := by decide +kernel
theorem dX12_answers0_219 : decode cX12_answers0 219 = .ok (.istore 4, 2) := by decide +kernel
theorem dX12_answers0_221 : decode cX12_answers0 221 = .ok (.iload 4, 2) := by decide +kernel
theorem dX12_answers0_223 : decode cX12_answers0 223 = .ok (.aload_n 0, 1) := by decide +kernel
theorem dX12_answers0_224 : decode cX12_answers0 224 = .ok (.getfield 324, 3) := by decide +kernel
theorem dX12_answers0_227 : decode cX12_answers0 227 = .ok (.if_icmp .ge 31, 3) := by decide +kernel
theorem dX12_answers0_258 : decode cX12_answers0 258 = .ok (.aload_n 0, 1) := by decide +kernel
theorem dX12_answers0_259 : decode cX12_answers0 259 = .ok (.iload_n 1, 1) := by decide +kernel
theorem dX12_answers0_260 : decode cX12_answers0 260 = .ok (.invokevirtual 343, 3) := by decide +kernel
theorem dX12_answers0_263 : decode cX12_answers0 263 = .ok (.goto 21, 3) := by decide +kernel
theorem dX12_answers0_230 : decode cX12_answers0 230 = .ok (.aload_n 0, 1) := by decide +kernel
theorem dX12_answers0_231 : decode cX12_answers0 231 = .ok (.getfield 63, 3) := by decide +kernel
theorem dX12_answers0_234 : decode cX12_answers0 234 = .ok (.iload 4, 2) := by decide +kernel
theorem dX12_answers0_236 : decode cX12_answers0 236 = .ok (.aload_n 0, 1) := by decide +kernel
theorem dX12_answers0_237 : decode cX12_answers0 237 = .ok (.getfield 7, 3) := by decide +kernel
theorem dX12_answers0_240 : decode cX12_answers0 240 = .ok (.iload_n 1, 1) := by decide +kernel
theorem dX12_answers0_241 : decode cX12_answers0 241 = .ok (.sipush 1568, 3) := by decide +kernel
theorem dX12_answers0_244 : decode cX12_answers0 244 = .ok (.iadd, 1) := by decide +kernel
theorem dX12_answers0_245 : decode cX12_answers0 245 = .ok (.iconst 1, 1) := by decide +kernel
theorem dX12_answers0_246 : decode cX12_answers0 246 = .ok (.iadd, 1) := by decide +kernel
theorem dX12_answers0_247 : decode cX12_answers0 247 = .ok (.iload 4, 2) := by decide +kernel
theorem dX12_answers0_249 : decode cX12_answers0 249 = .ok (.iadd, 1) := by decide +kernel
theorem dX12_answers0_250 : decode cX12_answers0 250 = .ok (.laload, 1) := by decide +kernel
theorem dX12_answers0_251 : decode cX12_answers0 251 = .ok (.lastore, 1) := by decide +kernel
theorem dX12_answers0_252 : decode cX12_answers0 252 = .ok (.iinc 4 1, 3) := by decide +kernel
theorem dX12_answers0_255 : decode cX12_answers0 255 = .ok (.goto (-34), 3) := by decide +kernel
theorem dX12_answers0_165 : decode cX12_answers0 165 = .ok (.if_icmp .eq 13, 3) := by decide +kernel
theorem dX12_answers0_168 : decode cX12_answers0 168 = .ok (.aload_n 0, 1) := by decide +kernel
theorem dX12_answers0_169 : decode cX12_answers0 169 = .ok (.iload_n 1, 1) := by decide +kernel
theorem dX12_answers0_170 : decode cX12_answers0 170 = .ok (.iload_n 3, 1) := by decide +kernel
theorem dX12_answers0_171 : decode cX12_answers0 171 = .ok (.invokevirtual 381, 3) := by decide +kernel
theorem dX12_answers0_174 : decode cX12_answers0 174 = .ok (.ifCond .eq 4, 3) := by decide +kernel
theorem dX12_answers0_177 : decode cX12_answers0 177 = .ok (.return_, 1) := by decide +kernel
theorem dX12_answers0_136 : decode cX12_answers0 136 = .ok (.if_icmp .ge 27, 3) := by decide +kernel
theorem dX12_answers0_139 : decode cX12_answers0 139 = .ok (.iload_n 3, 1) := by decide +kernel
theorem dX12_answers0_140 : decode cX12_answers0 140 = .ok (.iconst (-1), 1) := by decide +kernel
theorem dX12_answers0_141 : decode cX12_answers0 141 = .ok (.if_icmp .ne 22, 3) := by decide +kernel
theorem dX12_answers0_144 : decode cX12_answers0 144 = .ok (.aload_n 0, 1) := by decide +kernel
theorem dX12_answers0_145 : decode cX12_answers0 145 = .ok (.iload_n 1, 1) := by decide +kernel
theorem dX12_answers0_146 : decode cX12_answers0 146 = .ok (.aload_n 0, 1) := by decide +kernel
theorem dX12_answers0_147 : decode cX12_answers0 147 = .ok (.getfield 75, 3) := by decide +kernel
theorem dX12_answers0_150 : decode cX12_answers0 150 = .ok (.iload 4, 2) := by decide +kernel
theorem dX12_answers0_152 : decode cX12_answers0 152 = .ok (.iaload, 1) := by decide +kernel
theorem dX12_answers0_153 : decode cX12_answers0 153 = .ok (.invokevirtual 372, 3) := by decide +kernel
theorem dX12_answers0_156 : decode cX12_answers0 156 = .ok (.istore_n 3, 1) := by decide +kernel
theorem dX12_answers0_157 : decode cX12_answers0 157 = .ok (.iinc 4 1, 3) := by decide +kernel
theorem dX12_answers0_160 : decode cX12_answers0 160 = .ok (.goto (-27), 3) := by decide +kernel
theorem dX12_answers0_34 : decode cX12_answers0 34 = .ok (.ifCond .le 94, 3) := by decide +kernel
theorem dX12_answers0_37 : decode cX12_answers0 37 = .ok (.iload_n 3, 1) := by decide +kernel
theorem dX12_answers0_38 : decode cX12_answers0 38 = .ok (.i2l, 1) := by decide +kernel
theorem dX12_answers0_39 : decode cX12_answers0 39 = .ok (.aload_n 0, 1) := by decide +kernel
theorem dX12_answers0_40 : decode cX12_answers0 40 = .ok (.getfield 7, 3) := by decide +kernel
theorem dX12_answers0_43 : decode cX12_answers0 43 = .ok (.iload_n 1, 1) := by decide +kernel
theorem dX12_answers0_44 : decode cX12_answers0 44 = .ok (.iconst 1, 1) := by decide +kernel
theorem dX12_answers0_45 : decode cX12_answers0 45 = .ok (.iadd, 1) := by decide +kernel
theorem dX12_answers0_46 : decode cX12_answers0 46 = .ok (.laload, 1) := by decide +kernel
theorem dX12_answers0_47 : decode cX12_answers0 47 = .ok (.lcmp, 1) := by decide +kernel
theorem dX12_answers0_48 : decode cX12_answers0 48 = .ok (.ifCond .ge 80, 3) := by decide +kernel
theorem dX12_answers0_51 : decode cX12_answers0 51 = .ok (.iload_n 1, 1) := by decide +kernel
theorem dX12_answers0_52 : decode cX12_answers0 52 = .ok (.bipush 52, 2) := by decide +kernel
theorem dX12_answers0_54 : decode cX12_answers0 54 = .ok (.iadd, 1) := by decide +kernel
theorem dX12_answers0_55 : decode cX12_answers0 55 = .ok (.bipush 60, 2) := by decide +kernel
theorem dX12_answers0_57 : decode cX12_answers0 57 = .ok (.iload_n 3, 1) := by decide +kernel
theorem dX12_answers0_58 : decode cX12_answers0 58 = .ok (.imul, 1) := by decide +kernel
theorem dX12_answers0_59 : decode cX12_answers0 59 = .ok (.iadd, 1) := by decide +kernel
theorem dX12_answers0_60 : decode cX12_answers0 60 = .ok (.istore 4, 2) := by decide +kernel
theorem dX12_answers0_62 : decode cX12_answers0 62 = .ok (.aload_n 0, 1) := by decide +kernel
theorem dX12_answers0_63 : decode cX12_answers0 63 = .ok (.getfield 7, 3) := by decide +kernel
theorem dX12_answers0_66 : decode cX12_answers0 66 = .ok (.iload 4, 2) := by decide +kernel
theorem dX12_answers0_68 : decode cX12_answers0 68 = .ok (.laload, 1) := by decide +kernel
theorem dX12_answers0_69 : decode cX12_answers0 69 = .ok (.aload_n 0, 1) := by decide +kernel
theorem dX12_answers0_70 : decode cX12_answers0 70 = .ok (.getfield 75, 3) := by decide +kernel
theorem dX12_answers0_73 : decode cX12_answers0 73 = .ok (.iconst 0, 1) := by decide +kernel
theorem dX12_answers0_74 : decode cX12_answers0 74 = .ok (.iaload, 1) := by decide +kernel
theorem dX12_answers0_75 : decode cX12_answers0 75 = .ok (.i2l, 1) := by decide +kernel
theorem dX12_answers0_76 : decode cX12_answers0 76 = .ok (.lcmp, 1) := by decide +kernel
theorem dX12_answers0_122 : decode cX12_answers0 122 = .ok (.iinc 3 1, 3) := by decide +kernel
theorem dX12_answers0_125 : decode cX12_answers0 125 = .ok (.goto (-92), 3) := by decide +kernel
theorem dX12_answers0_77 : decode cX12_answers0 77 = .ok (.ifCond .ne 45, 3) := by decide +kernel
theorem dX12_answers0_80 : decode cX12_answers0 80 = .ok (.aload_n 0, 1) := by decide +kernel
theorem dX12_answers0_81 : decode cX12_answers0 81 = .ok (.getfield 7, 3) := by decide +kernel
theorem dX12_answers0_84 : decode cX12_answers0 84 = .ok (.iload 4, 2) := by decide +kernel
theorem dX12_answers0_86 : decode cX12_answers0 86 = .ok (.iconst 1, 1) := by decide +kernel
theorem dX12_answers0_87 : decode cX12_answers0 87 = .ok (.iadd, 1) := by decide +kernel
theorem dX12_answers0_88 : decode cX12_answers0 88 = .ok (.laload, 1) := by decide +kernel
theorem dX12_answers0_89 : decode cX12_answers0 89 = .ok (.lconst 0, 1) := by decide +kernel
theorem dX12_answers0_90 : decode cX12_answers0 90 = .ok (.lcmp, 1) := by decide +kernel
theorem dX12_answers0_91 : decode cX12_answers0 91 = .ok (.ifCond .eq 31, 3) := by decide +kernel
theorem dX12_answers0_94 : decode cX12_answers0 94 = .ok (.aload_n 0, 1) := by decide +kernel
theorem dX12_answers0_95 : decode cX12_answers0 95 = .ok (.iload_n 1, 1) := by decide +kernel
theorem dX12_answers0_96 : decode cX12_answers0 96 = .ok (.iload_n 3, 1) := by decide +kernel
theorem dX12_answers0_97 : decode cX12_answers0 97 = .ok (.invokevirtual 307, 3) := by decide +kernel
theorem dX12_answers0_100 : decode cX12_answers0 100 = .ok (.ifCond .ne 6, 3) := by decide +kernel
theorem dX12_answers0_106 : decode cX12_answers0 106 = .ok (.aload_n 0, 1) := by decide +kernel
theorem dX12_answers0_107 : decode cX12_answers0 107 = .ok (.iload_n 1, 1) := by decide +kernel
theorem dX12_answers0_108 : decode cX12_answers0 108 = .ok (.iload 4, 2) := by decide +kernel
theorem dX12_answers0_110 : decode cX12_answers0 110 = .ok (.bipush 12, 2) := by decide +kernel
theorem dX12_answers0_112 : decode cX12_answers0 112 = .ok (.iadd, 1) := by decide +kernel
theorem dX12_answers0_113 : decode cX12_answers0 113 = .ok (.invokevirtual 351, 3) := by decide +kernel
theorem dX12_answers0_116 : decode cX12_answers0 116 = .ok (.pop, 1) := by decide +kernel
theorem dX12_answers0_117 : decode cX12_answers0 117 = .ok (.aload_n 0, 1) := by decide +kernel
theorem dX12_answers0_118 : decode cX12_answers0 118 = .ok (.iload_n 1, 1) := by decide +kernel
theorem dX12_answers0_119 : decode cX12_answers0 119 = .ok (.invokevirtual 378, 3) := by decide +kernel
theorem mw_1082 : Cond.methodLink RX12 378 yX12_remembers ∈ wsL_law := inr_46 _ (List.mem_of_getElem? (i := 2) rfl)
theorem mw_1085 : Cond.code yX12_remembers cX12_remembers 5 none ∈ wsL_law := inr_46 _ (List.mem_of_getElem? (i := 5) rfl)
theorem yk_X12_remembers : xY yX12_remembers RX12 cX12_remembers 5 none 1 := ⟨⟨rfl, by decide +kernel, by decide +kernel, by decide +kernel⟩, mw_5, mw_1085⟩
theorem mw_1083 : Cond.instanceMethod yX12_remembers ∈ wsL_law := inr_46 _ (List.mem_of_getElem? (i := 3) rfl)
theorem mw_1084 : Cond.selects RX12 yX12_remembers yX12_remembers ∈ wsL_law := inr_46 _ (List.mem_of_getElem? (i := 4) rfl)
theorem dX12_answers0_103 : decode cX12_answers0 103 = .ok (.goto 19, 3) := by decide +kernel
def rm_X12_answers0 : Room := { frames := 5, cells := 0, slots := 0, locals := 126 }
set_option maxHeartbeats 4000000 in
set_option maxRecDepth 100000 in
theorem s_X12_answers0 (l : Launch) (D : va_G) (cy : Nat → ClassId) (L : List Nat) (R O : Nat → Nat) (f0 : Nat → va_E) (a0 : Nat) (m_a0 : a0 ∈ L) (r_a0 : R a0 = 12) (x1 : Int32) (b1 : 0 ≤ x1.toInt ∧ x1.toInt ≤ 24060) (GA : Nat) (m_GA : GA ∈ L) (r_GA : R GA = 61) (t_GA : fld f0 a0 0 = .ref GA) (GP : Nat) (m_GP : GP ∈ L) (r_GP : R GP = 69) (t_GP : fld f0 a0 22 = .ref GP) (GL : Nat) (m_GL : GL ∈ L) (r_GL : R GL = 70) (t_GL : fld f0 a0 23 = .ref GL) (GT : Nat) (m_GT : GT ∈ L) (r_GT : R GT = 64) (t_GT : fld f0 a0 6 = .ref GT) (pre0 : isB x1.toInt.toNat) (pre1 : RB GA x1.toInt.toNat f0) (pre2 : GZ GP GL f0) : ∀ sz, Met l yX12_answers0 (Cond.code yX12_answers0 cX12_answers0 5 none :: wsL_law) rm_X12_answers0 (va_Pc [.ref a0, .int x1] (tPZ D cy L R (TT cy L R) f0 sz)) (va_Qv (fun f1 => fr L R [(12, 29), (12, 35), (12, 36), (12, 37), (12, 38), (12, 39)] [12, 61, 68, 69, 70, 74, 76] f0 f1 ∧ GZ GP GL f1 ∧ KW (x1.toInt.toNat + 1542) (x1.toInt.toNat + 1646) GA f0 f1) (tB D (tA L sz) L R (TT cy L R)) (tA L sz)) 0 0 (tA L sz) := by
  refine tw_enterv (by decide +kernel) rfl (Nat.le_of_ble_eq_true rfl) ?_
  intro p e s m below meth c A ls args Q F hZ h hl hret
  have hl : lv_has ls 5 [(0, .ref a0), (1, .int x1)] := hl
  have hk : fr L R [(12, 29), (12, 35), (12, 36), (12, 37), (12, 38), (12, 39)] [12, 61, 68, 69, 70, 74, 76] f0 f0 := fr.rf
  have hB := pre0
  have hRB := pre1
  have hX := pre2
  have hA : KW (x1.toInt.toNat + 1542) (x1.toInt.toNat + 1646) GA f0 f0 := KW.rf
  refine lv_aload_n F.1 F.2.1 dX12_answers0_0 rfl (lv_at hl 0 rfl) ?_
  refine tw_iconst F dX12_answers0_1 ki_5 (fun z1 hz1 => ?_)
  refine p_12_357 F h m_a0 r_a0 dX12_answers0_2 (fun f2 H locs e2p hf2 h => ?_)
  have hRB : RB GA x1.toInt.toNat f2 := hRB.fm hf2 m_GA r_GA (by decide +kernel)
  have hX : GZ GP GL f2 := hX.fm hf2 m_GP r_GP m_GL r_GL (by decide +kernel) (by decide +kernel)
  have hA : KW (x1.toInt.toNat + 1542) (x1.toInt.toNat + 1646) GA f0 f2 := hA.fm hf2 m_GA r_GA (by decide +kernel)
  have hk : fr L R [(12, 29), (12, 35), (12, 36), (12, 37), (12, 38), (12, 39)] [12, 61, 68, 69, 70, 74, 76] f0 f2 := hk.tr hf2 rfl rfl
  have e3 : fld f2 a0 0 = .ref GA := (hf2.efl m_a0 r_a0 rfl).trans t_GA
  have e4 : fld f2 a0 22 = .ref GP := (hf2.efl m_a0 r_a0 rfl).trans t_GP
  have e5 : fld f2 a0 23 = .ref GL := (hf2.efl m_a0 r_a0 rfl).trans t_GL
  have e6 : fld f2 a0 6 = .ref GT := (hf2.efl m_a0 r_a0 rfl).trans t_GT
  refine lv_aload_n F.1 F.2.1 dX12_answers0_5 rfl (lv_at hl 0 rfl) ?_
  refine tw_iconst F dX12_answers0_6 ki_m1 (fun z7 hz7 => ?_)
  refine p_12_360 F h m_a0 r_a0 dX12_answers0_7 (fun f8 H locs e8p hf8 h => ?_)
  have hRB : RB GA x1.toInt.toNat f8 := hRB.fm hf8 m_GA r_GA (by decide +kernel)
  have hX : GZ GP GL f8 := hX.fm hf8 m_GP r_GP m_GL r_GL (by decide +kernel) (by decide +kernel)
  have hA : KW (x1.toInt.toNat + 1542) (x1.toInt.toNat + 1646) GA f0 f8 := hA.fm hf8 m_GA r_GA (by decide +kernel)
  have hk : fr L R [(12, 29), (12, 35), (12, 36), (12, 37), (12, 38), (12, 39)] [12, 61, 68, 69, 70, 74, 76] f0 f8 := hk.tr hf8 rfl rfl
  have e9 : fld f8 a0 0 = .ref GA := (hf8.efl m_a0 r_a0 rfl).trans e3
  have e10 : fld f8 a0 22 = .ref GP := (hf8.efl m_a0 r_a0 rfl).trans e4
  have e11 : fld f8 a0 23 = .ref GL := (hf8.efl m_a0 r_a0 rfl).trans e5
  have e12 : fld f8 a0 6 = .ref GT := (hf8.efl m_a0 r_a0 rfl).trans e6
  refine lv_aload_n F.1 F.2.1 dX12_answers0_10 rfl (lv_at hl 0 rfl) ?_
  refine tw_iconst F dX12_answers0_11 ki_m1 (fun z13 hz13 => ?_)
  refine p_12_363 F h m_a0 r_a0 dX12_answers0_12 (fun f14 H locs e14p hf14 h => ?_)
  have hRB : RB GA x1.toInt.toNat f14 := hRB.fm hf14 m_GA r_GA (by decide +kernel)
  have hX : GZ GP GL f14 := hX.fm hf14 m_GP r_GP m_GL r_GL (by decide +kernel) (by decide +kernel)
  have hA : KW (x1.toInt.toNat + 1542) (x1.toInt.toNat + 1646) GA f0 f14 := hA.fm hf14 m_GA r_GA (by decide +kernel)
  have hk : fr L R [(12, 29), (12, 35), (12, 36), (12, 37), (12, 38), (12, 39)] [12, 61, 68, 69, 70, 74, 76] f0 f14 := hk.tr hf14 rfl rfl
  have e15 : fld f14 a0 0 = .ref GA := (hf14.efl m_a0 r_a0 rfl).trans e9
  have e16 : fld f14 a0 22 = .ref GP := (hf14.efl m_a0 r_a0 rfl).trans e10
  have e17 : fld f14 a0 23 = .ref GL := (hf14.efl m_a0 r_a0 rfl).trans e11
  have e18 : fld f14 a0 6 = .ref GT := (hf14.efl m_a0 r_a0 rfl).trans e12
  refine lv_aload_n F.1 F.2.1 dX12_answers0_15 rfl (lv_at hl 0 rfl) ?_
  refine tw_iconst F dX12_answers0_16 ki_m1 (fun z19 hz19 => ?_)
  refine p_12_366 F h m_a0 r_a0 dX12_answers0_17 (fun f20 H locs e20p hf20 h => ?_)
  have hRB : RB GA x1.toInt.toNat f20 := hRB.fm hf20 m_GA r_GA (by decide +kernel)
  have hX : GZ GP GL f20 := hX.fm hf20 m_GP r_GP m_GL r_GL (by decide +kernel) (by decide +kernel)
  have hA : KW (x1.toInt.toNat + 1542) (x1.toInt.toNat + 1646) GA f0 f20 := hA.fm hf20 m_GA r_GA (by decide +kernel)
  have hk : fr L R [(12, 29), (12, 35), (12, 36), (12, 37), (12, 38), (12, 39)] [12, 61, 68, 69, 70, 74, 76] f0 f20 := hk.tr hf20 rfl rfl
  have e21 : fld f20 a0 0 = .ref GA := (hf20.efl m_a0 r_a0 rfl).trans e15
  have e22 : fld f20 a0 22 = .ref GP := (hf20.efl m_a0 r_a0 rfl).trans e16
  have e23 : fld f20 a0 23 = .ref GL := (hf20.efl m_a0 r_a0 rfl).trans e17
  have e24 : fld f20 a0 6 = .ref GT := (hf20.efl m_a0 r_a0 rfl).trans e18
  refine lv_aload_n F.1 F.2.1 dX12_answers0_20 rfl (lv_at hl 0 rfl) ?_
  refine tw_iconst F dX12_answers0_21 ki_0 (fun z25 hz25 => ?_)
  refine p_12_354 F h m_a0 r_a0 (by omega) dX12_answers0_22 (fun f26 H locs e26p hf26 h => ?_)
  have hRB : RB GA x1.toInt.toNat f26 := hRB.fm hf26 m_GA r_GA (by decide +kernel)
  have hX : GZ GP GL f26 := hX.fm hf26 m_GP r_GP m_GL r_GL (by decide +kernel) (by decide +kernel)
  have hA : KW (x1.toInt.toNat + 1542) (x1.toInt.toNat + 1646) GA f0 f26 := hA.fm hf26 m_GA r_GA (by decide +kernel)
  have hk : fr L R [(12, 29), (12, 35), (12, 36), (12, 37), (12, 38), (12, 39)] [12, 61, 68, 69, 70, 74, 76] f0 f26 := hk.tr hf26 rfl rfl
  have e27 : fld f26 a0 0 = .ref GA := (hf26.efl m_a0 r_a0 rfl).trans e21
  have e28 : fld f26 a0 22 = .ref GP := (hf26.efl m_a0 r_a0 rfl).trans e22
  have e29 : fld f26 a0 23 = .ref GL := (hf26.efl m_a0 r_a0 rfl).trans e23
  have e30 : fld f26 a0 6 = .ref GT := (hf26.efl m_a0 r_a0 rfl).trans e24
  refine lv_aload_n F.1 F.2.1 dX12_answers0_25 rfl (lv_at hl 0 rfl) ?_
  refine lv_iload_n F.1 F.2.1 dX12_answers0_26 rfl (lv_at hl 1 rfl) ?_
  refine tw_Vi (As := [.int x1]) F hZ h yk_X12_keysHeard mw_1061 mw_1062 mw_1063 (s_X12_keysHeard l D cy L R O f26 a0 m_a0 r_a0 x1 ⟨by omega, by omega⟩ hB) rfl rfl m_a0 r_a0 (fun e q => (T_12 e).mp q) rfl hl.1 rfl (Nat.le_of_ble_eq_true rfl) ⟨Nat.le_of_ble_eq_true rfl, Nat.le_of_ble_eq_true rfl⟩ ⟨Nat.le_of_ble_eq_true rfl, Nat.le_of_ble_eq_true rfl⟩ dX12_answers0_27 (fun v32 f31 H locs hp31 h => ?_)
  obtain ⟨hf31, hv32a, hv32b⟩ := hp31
  have hRB : RB GA x1.toInt.toNat f31 := hRB.fm hf31 m_GA r_GA (by decide +kernel)
  have hX : GZ GP GL f31 := hX.fm hf31 m_GP r_GP m_GL r_GL (by decide +kernel) (by decide +kernel)
  have hA : KW (x1.toInt.toNat + 1542) (x1.toInt.toNat + 1646) GA f0 f31 := hA.fm hf31 m_GA r_GA (by decide +kernel)
  have hk : fr L R [(12, 29), (12, 35), (12, 36), (12, 37), (12, 38), (12, 39)] [12, 61, 68, 69, 70, 74, 76] f0 f31 := hk.tr hf31 rfl rfl
  have e33 : fld f31 a0 0 = .ref GA := (hf31.efl m_a0 r_a0 rfl).trans e27
  have e34 : fld f31 a0 22 = .ref GP := (hf31.efl m_a0 r_a0 rfl).trans e28
  have e35 : fld f31 a0 23 = .ref GL := (hf31.efl m_a0 r_a0 rfl).trans e29
  have e36 : fld f31 a0 6 = .ref GT := (hf31.efl m_a0 r_a0 rfl).trans e30
  refine lv_istore_n (lv' := [(2, .int v32), (0, .ref a0), (1, .int x1)]) F.1 F.2.1 dX12_answers0_30 rfl hl (by decide) rfl (fun ls hl => ?_)
  refine tw_iconst F dX12_answers0_31 ki_0 (fun z37 hz37 => ?_)
  refine lv_istore_n (lv' := [(3, .int z37), (2, .int v32), (0, .ref a0), (1, .int x1)]) F.1 F.2.1 dX12_answers0_32 rfl hl (by decide) rfl (fun ls hl => ?_)
  have j_33 : ∀ (n33 : Nat) (f38 : Nat → va_E) (H : Heap) (locs : List Loc) (ls : Array Slot) (x3_33 : Int32), 0 ≤ x3_33.toInt → x3_33.toInt ≤ 24 → ((24 - x3_33.toInt)).toNat < n33 → tS D cy A s.heap L R (TT cy L R) f38 s H locs → RB GA x1.toInt.toNat f38 → GZ GP GL f38 → KW (x1.toInt.toNat + 1542) (x1.toInt.toNat + 1646) GA f0 f38 → fr L R [(12, 29), (12, 35), (12, 36), (12, 37), (12, 38), (12, 39)] [12, 61, 68, 69, 70, 74, 76] f0 f38 → fr L R [(12, 29)] [12, 61, 68, 69, 70, 74] f31 f38 → lv_has ls 5 [(0, .ref a0), (1, .int x1), (2, .int v32), (3, .int x3_33)] → W p l e rm_X12_answers0 s m args below meth c H locs 0 0 Q (F0 m 33 ls []) := by
    intro n33
    induction n33 with
    | zero =>
      intro f38 H locs ls x3_33 b39 b40 b41 h hRB hX hA hk hb33 hl
      exfalso
      omega
    | succ n33 ih33 =>
      intro f38 H locs ls x3_33 b39 b40 b41 h hRB hX hA hk hb33 hl
      have e42 : fld f38 a0 0 = .ref GA := (hb33.efl m_a0 r_a0 rfl).trans e33
      have e43 : fld f38 a0 22 = .ref GP := (hb33.efl m_a0 r_a0 rfl).trans e34
      have e44 : fld f38 a0 23 = .ref GL := (hb33.efl m_a0 r_a0 rfl).trans e35
      have e45 : fld f38 a0 6 = .ref GT := (hb33.efl m_a0 r_a0 rfl).trans e36
      refine lv_iload_n F.1 F.2.1 dX12_answers0_33 rfl (lv_at hl 2 rfl) ?_
      have j_128 : ∀ (ls : Array Slot), lv_has ls 5 [(0, .ref a0), (1, .int x1), (2, .int v32)] → W p l e rm_X12_answers0 s m args below meth c H locs 0 0 Q (F0 m 128 ls []) := by
        intro ls hl
        refine tw_iconst F dX12_answers0_128 ki_m1 (fun z46 hz46 => ?_)
        refine lv_istore_n (lv' := [(3, .int z46), (0, .ref a0), (1, .int x1), (2, .int v32)]) F.1 F.2.1 dX12_answers0_129 rfl hl (by decide) rfl (fun ls hl => ?_)
        refine tw_iconst F dX12_answers0_130 ki_0 (fun z47 hz47 => ?_)
        refine lv_istore (lv' := [(4, .int z47), (3, .int z46), (0, .ref a0), (1, .int x1), (2, .int v32)]) F.1 F.2.1 dX12_answers0_131 hl (by decide) rfl (fun ls hl => ?_)
        have j_133 : ∀ (n133 : Nat) (f48 : Nat → va_E) (H : Heap) (locs : List Loc) (ls : Array Slot) (x3_133 : Int32) (x4_133 : Int32), (-1) ≤ x3_133.toInt → x3_133.toInt ≤ 23 → 0 ≤ x4_133.toInt → x4_133.toInt ≤ 12 → (x3_133.toInt = -1 ∨ x3_133.toInt < elj f0 GA (x1.toInt.toNat + 1)) → ((12 - x4_133.toInt)).toNat < n133 → tS D cy A s.heap L R (TT cy L R) f48 s H locs → RB GA x1.toInt.toNat f48 → GZ GP GL f48 → KW (x1.toInt.toNat + 1542) (x1.toInt.toNat + 1646) GA f0 f48 → fr L R [(12, 29), (12, 35), (12, 36), (12, 37), (12, 38), (12, 39)] [12, 61, 68, 69, 70, 74, 76] f0 f48 → fr L R [] [68, 69, 70] f38 f48 → lv_has ls 5 [(0, .ref a0), (1, .int x1), (2, .int v32), (3, .int x3_133), (4, .int x4_133)] → W p l e rm_X12_answers0 s m args below meth c H locs 0 0 Q (F0 m 133 ls []) := by
          intro n133
          induction n133 with
          | zero =>
            intro f48 H locs ls x3_133 x4_133 b49 b50 b51 b52 b53 b54 h hRB hX hA hk hb133 hl
            exfalso
            omega
          | succ n133 ih133 =>
            intro f48 H locs ls x3_133 x4_133 b49 b50 b51 b52 b53 b54 h hRB hX hA hk hb133 hl
            have hb33 : fr L R [(12, 29)] [12, 61, 68, 69, 70, 74] f31 f48 := hb33.tr hb133 rfl rfl
            have e55 : fld f48 a0 0 = .ref GA := (hb133.efl m_a0 r_a0 rfl).trans e42
            have e56 : fld f48 a0 22 = .ref GP := (hb133.efl m_a0 r_a0 rfl).trans e43
            have e57 : fld f48 a0 23 = .ref GL := (hb133.efl m_a0 r_a0 rfl).trans e44
            have e58 : fld f48 a0 6 = .ref GT := (hb133.efl m_a0 r_a0 rfl).trans e45
            refine lv_iload F.1 F.2.1 dX12_answers0_133 (lv_at hl 4 rfl) ?_
            refine lv_iload_n F.1 F.2.1 dX12_answers0_135 rfl (lv_at hl 2 rfl) ?_
            have j_163 : ∀ (ls : Array Slot), (x3_133.toInt = -1 ∨ x3_133.toInt < elj f0 GA (x1.toInt.toNat + 1)) → lv_has ls 5 [(0, .ref a0), (1, .int x1), (3, .int x3_133)] → W p l e rm_X12_answers0 s m args below meth c H locs 0 0 Q (F0 m 163 ls []) := by
              intro ls b59 hl
              refine lv_iload_n F.1 F.2.1 dX12_answers0_163 rfl (lv_at hl 2 rfl) ?_
              refine tw_iconst F dX12_answers0_164 ki_m1 (fun z60 hz60 => ?_)
              have j_178 : ∀ (f61 : Nat → va_E) (H : Heap) (locs : List Loc) (ls : Array Slot), tS D cy A s.heap L R (TT cy L R) f61 s H locs → RB GA x1.toInt.toNat f61 → GZ GP GL f61 → KW (x1.toInt.toNat + 1542) (x1.toInt.toNat + 1646) GA f0 f61 → fr L R [(12, 29), (12, 35), (12, 36), (12, 37), (12, 38), (12, 39)] [12, 61, 68, 69, 70, 74, 76] f0 f61 → fr L R [(12, 29), (12, 35), (12, 36), (12, 37), (12, 38), (12, 39)] [12, 61, 68, 69, 70, 74] f48 f61 → lv_has ls 5 [(0, .ref a0), (1, .int x1)] → W p l e rm_X12_answers0 s m args below meth c H locs 0 0 Q (F0 m 178 ls []) := by
                intro f61 H locs ls h hRB hX hA hk hb178 hl
                have e62 : fld f61 a0 0 = .ref GA := (hb178.efl m_a0 r_a0 rfl).trans e55
                have e63 : fld f61 a0 22 = .ref GP := (hb178.efl m_a0 r_a0 rfl).trans e56
                have e64 : fld f61 a0 23 = .ref GL := (hb178.efl m_a0 r_a0 rfl).trans e57
                have e65 : fld f61 a0 6 = .ref GT := (hb178.efl m_a0 r_a0 rfl).trans e58
                refine lv_aload_n F.1 F.2.1 dX12_answers0_178 rfl (lv_at hl 0 rfl) ?_
                refine tw_iconst F dX12_answers0_179 ki_0 (fun z66 hz66 => ?_)
                refine p_12_324 F h m_a0 r_a0 (by omega) dX12_answers0_180 (fun f67 H locs e67p hf67 h => ?_)
                have hRB : RB GA x1.toInt.toNat f67 := hRB.fm hf67 m_GA r_GA (by decide +kernel)
                have hX : GZ GP GL f67 := hX.fm hf67 m_GP r_GP m_GL r_GL (by decide +kernel) (by decide +kernel)
                have hA : KW (x1.toInt.toNat + 1542) (x1.toInt.toNat + 1646) GA f0 f67 := hA.fm hf67 m_GA r_GA (by decide +kernel)
                have hk : fr L R [(12, 29), (12, 35), (12, 36), (12, 37), (12, 38), (12, 39)] [12, 61, 68, 69, 70, 74, 76] f0 f67 := hk.tr hf67 rfl rfl
                have e68 : fld f67 a0 0 = .ref GA := (hf67.efl m_a0 r_a0 rfl).trans e62
                have e69 : fld f67 a0 22 = .ref GP := (hf67.efl m_a0 r_a0 rfl).trans e63
                have e70 : fld f67 a0 23 = .ref GL := (hf67.efl m_a0 r_a0 rfl).trans e64
                have e71 : fld f67 a0 6 = .ref GT := (hf67.efl m_a0 r_a0 rfl).trans e65
                refine lv_aload_n F.1 F.2.1 dX12_answers0_183 rfl (lv_at hl 0 rfl) ?_
                refine g_12_7 F h m_a0 r_a0 dX12_answers0_184 (fun o72 m_o72 r_o72 ho72 => ?_)
                obtain rfl := (fld_inj e68 ho72).symm
                refine lv_iload_n F.1 F.2.1 dX12_answers0_187 rfl (lv_at hl 1 rfl) ?_
                refine tw_sipush F dX12_answers0_188 ks_1567 (fun z73 hz73 => ?_)
                refine tu_iadd F dX12_answers0_191 (by omega) (fun z74 hz74 => ?_)
                refine le_61 F h m_GA r_GA (by omega) dX12_answers0_192 (fun v75 ev75 hv75a => ?_)
                have hv75b := clP_9.mp (atb hv75a (ac_c (b := x1.toInt.toNat) 1567 hB (by decide) (by omega) rfl))
                have u192 : v75.toInt = elj f67 GA (x1.toInt.toNat + 1567) := by rw [ev75, show z74.toInt.toNat = x1.toInt.toNat + 1567 by omega]
                refine tu_lconst F dX12_answers0_193 (by decide) (fun z76 (hz76 : z76.toInt = 0) => ?_)
                refine tw_lcmp F dX12_answers0_194 (fun z77 hz77 => ?_)
                refine tw_if_le (tgt := 266) F dX12_answers0_195 (by decide) (fun b78 => ?_) (fun b78 => ?_)
                · refine lv_aload_n F.1 F.2.1 dX12_answers0_266 rfl (lv_at hl 0 rfl) ?_
                  refine g_12_7 F h m_a0 r_a0 dX12_answers0_267 (fun o79 m_o79 r_o79 ho79 => ?_)
                  obtain rfl := (fld_inj e68 ho79).symm
                  refine lv_iload_n F.1 F.2.1 dX12_answers0_270 rfl (lv_at hl 1 rfl) ?_
                  refine tw_iconst F dX12_answers0_271 ki_3 (fun z80 hz80 => ?_)
                  refine tu_iadd F dX12_answers0_272 (by omega) (fun z81 hz81 => ?_)
                  refine le_61 F h m_GA r_GA (by omega) dX12_answers0_273 (fun v82 ev82 hv82a => ?_)
                  have hv82b := clP_3.mp (atb hv82a (ac_c (b := x1.toInt.toNat) 3 hB (by decide) (by omega) rfl))
                  have u273 : v82.toInt = elj f67 GA (x1.toInt.toNat + 3) := by rw [ev82, show z81.toInt.toNat = x1.toInt.toNat + 3 by omega]
                  refine tu_lconst F dX12_answers0_274 (by decide) (fun z83 (hz83 : z83.toInt = 1) => ?_)
                  refine tw_lcmp F dX12_answers0_275 (fun z84 hz84 => ?_)
                  refine tw_if_ne (tgt := 284) F dX12_answers0_276 (by decide) (fun b85 => ?_) (fun b85 => ?_)
                  · exact hret f67 _ _ _ _ dX12_answers0_284 ⟨hk, hX, hA⟩ h
                  · refine lv_aload_n F.1 F.2.1 dX12_answers0_279 rfl (lv_at hl 0 rfl) ?_
                    refine lv_iload_n F.1 F.2.1 dX12_answers0_280 rfl (lv_at hl 1 rfl) ?_
                    have g281 := hRB.2 (by omega)
                    refine tw_Vv (As := [.int x1]) F hZ h yk_X12_byNone mw_1107 mw_1108 mw_1109 (s_X12_byNone l D cy L R O f67 a0 m_a0 r_a0 x1 ⟨by omega, by omega⟩ GA m_GA r_GA e68 GP m_GP r_GP e69 GL m_GL r_GL e70 GT m_GT r_GT e71 hB hRB hX (by omega)) rfl rfl m_a0 r_a0 (fun e q => (T_12 e).mp q) rfl hl.1 rfl (Nat.le_of_ble_eq_true rfl) ⟨Nat.le_of_ble_eq_true rfl, Nat.le_of_ble_eq_true rfl⟩ ⟨Nat.le_of_ble_eq_true rfl, Nat.le_of_ble_eq_true rfl⟩ dX12_answers0_281 (fun f86 H locs hp86 h => ?_)
                    obtain ⟨hf86, hv87p0, hv87p1⟩ := hp86
                    have hRB : RB GA x1.toInt.toNat f86 := hRB.kw hv87p1 (by omega)
                    have hX : GZ GP GL f86 := hv87p0
                    have hA : KW (x1.toInt.toNat + 1542) (x1.toInt.toNat + 1646) GA f0 f86 := hA.sub hv87p1 (by omega) (by omega)
                    have hk : fr L R [(12, 29), (12, 35), (12, 36), (12, 37), (12, 38), (12, 39)] [12, 61, 68, 69, 70, 74, 76] f0 f86 := hk.tr hf86 (by decide +kernel) (by decide +kernel)
                    have e88 : fld f86 a0 0 = .ref GA := (hf86.efl m_a0 r_a0 rfl).trans e68
                    have e89 : fld f86 a0 22 = .ref GP := (hf86.efl m_a0 r_a0 rfl).trans e69
                    have e90 : fld f86 a0 23 = .ref GL := (hf86.efl m_a0 r_a0 rfl).trans e70
                    have e91 : fld f86 a0 6 = .ref GT := (hf86.efl m_a0 r_a0 rfl).trans e71
                    exact hret f86 _ _ _ _ dX12_answers0_284 ⟨hk, hX, hA⟩ h
                · have hqk : 1 ≤ elj f67 GA (x1.toInt.toNat + 1567) := by omega
                  refine lv_aload_n F.1 F.2.1 dX12_answers0_198 rfl (lv_at hl 0 rfl) ?_
                  refine tw_iconst F dX12_answers0_199 ki_3 (fun z92 hz92 => ?_)
                  refine p_12_357 F h m_a0 r_a0 dX12_answers0_200 (fun f93 H locs e93p hf93 h => ?_)
                  have hRB : RB GA x1.toInt.toNat f93 := hRB.fm hf93 m_GA r_GA (by decide +kernel)
                  have hX : GZ GP GL f93 := hX.fm hf93 m_GP r_GP m_GL r_GL (by decide +kernel) (by decide +kernel)
                  have hA : KW (x1.toInt.toNat + 1542) (x1.toInt.toNat + 1646) GA f0 f93 := hA.fm hf93 m_GA r_GA (by decide +kernel)
                  have hqk : 1 ≤ elj f93 GA (x1.toInt.toNat + 1567) := by rw [hf93.eelj m_GA r_GA (by decide +kernel)]; exact hqk
                  have hk : fr L R [(12, 29), (12, 35), (12, 36), (12, 37), (12, 38), (12, 39)] [12, 61, 68, 69, 70, 74, 76] f0 f93 := hk.tr hf93 rfl rfl
                  have e94 : fld f93 a0 0 = .ref GA := (hf93.efl m_a0 r_a0 rfl).trans e68
                  have e95 : fld f93 a0 22 = .ref GP := (hf93.efl m_a0 r_a0 rfl).trans e69
                  have e96 : fld f93 a0 23 = .ref GL := (hf93.efl m_a0 r_a0 rfl).trans e70
                  have e97 : fld f93 a0 6 = .ref GT := (hf93.efl m_a0 r_a0 rfl).trans e71
                  refine lv_aload_n F.1 F.2.1 dX12_answers0_203 rfl (lv_at hl 0 rfl) ?_
                  refine lv_aload_n F.1 F.2.1 dX12_answers0_204 rfl (lv_at hl 0 rfl) ?_
                  refine g_12_7 F h m_a0 r_a0 dX12_answers0_205 (fun o98 m_o98 r_o98 ho98 => ?_)
                  obtain rfl := (fld_inj e94 ho98).symm
                  refine lv_iload_n F.1 F.2.1 dX12_answers0_208 rfl (lv_at hl 1 rfl) ?_
                  refine tw_sipush F dX12_answers0_209 ks_1568 (fun z99 hz99 => ?_)
                  refine tu_iadd F dX12_answers0_212 (by omega) (fun z100 hz100 => ?_)
                  refine ld_61 F h m_GA r_GA (by omega) dX12_answers0_213 (fun v101 hv101a => ?_)
                  have hv101b := clP_10.mp (atb hv101a (ac_c (b := x1.toInt.toNat) 1568 hB (by decide) (by omega) rfl))
                  refine tw_l2i F dX12_answers0_214 (by omega) (by omega) (fun z102 hz102 => ?_)
                  refine p_12_324 F h m_a0 r_a0 (by omega) dX12_answers0_215 (fun f103 H locs e103p hf103 h => ?_)
                  have hRB : RB GA x1.toInt.toNat f103 := hRB.fm hf103 m_GA r_GA (by decide +kernel)
                  have hX : GZ GP GL f103 := hX.fm hf103 m_GP r_GP m_GL r_GL (by decide +kernel) (by decide +kernel)
                  have hA : KW (x1.toInt.toNat + 1542) (x1.toInt.toNat + 1646) GA f0 f103 := hA.fm hf103 m_GA r_GA (by decide +kernel)
                  have hqk : 1 ≤ elj f103 GA (x1.toInt.toNat + 1567) := by rw [hf103.eelj m_GA r_GA (by decide +kernel)]; exact hqk
                  have hk : fr L R [(12, 29), (12, 35), (12, 36), (12, 37), (12, 38), (12, 39)] [12, 61, 68, 69, 70, 74, 76] f0 f103 := hk.tr hf103 rfl rfl
                  have e104 : fld f103 a0 0 = .ref GA := (hf103.efl m_a0 r_a0 rfl).trans e94
                  have e105 : fld f103 a0 22 = .ref GP := (hf103.efl m_a0 r_a0 rfl).trans e95
                  have e106 : fld f103 a0 23 = .ref GL := (hf103.efl m_a0 r_a0 rfl).trans e96
                  have e107 : fld f103 a0 6 = .ref GT := (hf103.efl m_a0 r_a0 rfl).trans e97
                  refine tw_iconst F dX12_answers0_218 ki_0 (fun z108 hz108 => ?_)
                  refine lv_istore (lv' := [(4, .int z108), (0, .ref a0), (1, .int x1)]) F.1 F.2.1 dX12_answers0_219 hl (by decide) rfl (fun ls hl => ?_)
                  have j_221 : ∀ (n221 : Nat) (f109 : Nat → va_E) (H : Heap) (locs : List Loc) (ls : Array Slot) (x4_221 : Int32), 0 ≤ x4_221.toInt → x4_221.toInt ≤ 12 → ((12 - x4_221.toInt)).toNat < n221 → tS D cy A s.heap L R (TT cy L R) f109 s H locs → RB GA x1.toInt.toNat f109 → GZ GP GL f109 → KW (x1.toInt.toNat + 1542) (x1.toInt.toNat + 1646) GA f0 f109 → 1 ≤ elj f109 GA (x1.toInt.toNat + 1567) → fr L R [(12, 29), (12, 35), (12, 36), (12, 37), (12, 38), (12, 39)] [12, 61, 68, 69, 70, 74, 76] f0 f109 → fr L R [] [74] f103 f109 → lv_has ls 5 [(0, .ref a0), (1, .int x1), (4, .int x4_221)] → W p l e rm_X12_answers0 s m args below meth c H locs 0 0 Q (F0 m 221 ls []) := by
                    intro n221
                    induction n221 with
                    | zero =>
                      intro f109 H locs ls x4_221 b110 b111 b112 h hRB hX hA hqk hk hb221 hl
                      exfalso
                      omega
                    | succ n221 ih221 =>
                      intro f109 H locs ls x4_221 b110 b111 b112 h hRB hX hA hqk hk hb221 hl
                      have e113 : fld f109 a0 0 = .ref GA := (hb221.efl m_a0 r_a0 rfl).trans e104
                      have e114 : fld f109 a0 22 = .ref GP := (hb221.efl m_a0 r_a0 rfl).trans e105
                      have e115 : fld f109 a0 23 = .ref GL := (hb221.efl m_a0 r_a0 rfl).trans e106
                      have e116 : fld f109 a0 6 = .ref GT := (hb221.efl m_a0 r_a0 rfl).trans e107
                      refine lv_iload F.1 F.2.1 dX12_answers0_221 (lv_at hl 2 rfl) ?_
                      refine lv_aload_n F.1 F.2.1 dX12_answers0_223 rfl (lv_at hl 0 rfl) ?_
                      refine g_12_324 F h m_a0 r_a0 dX12_answers0_224 (fun v117 hv117 hv117a hv117b => ?_)
                      refine tw_icmp_ge (tgt := 258) F dX12_answers0_227 (by decide) (fun b118 => ?_) (fun b118 => ?_)
                      · refine lv_aload_n F.1 F.2.1 dX12_answers0_258 rfl (lv_at hl 0 rfl) ?_
                        refine lv_iload_n F.1 F.2.1 dX12_answers0_259 rfl (lv_at hl 1 rfl) ?_
                        refine tw_Vv (As := [.int x1]) F hZ h yk_X12_forgets mw_1086 mw_1087 mw_1088 (s_X12_forgets l D cy L R O f109 a0 m_a0 r_a0 x1 ⟨by omega, by omega⟩ GA m_GA r_GA e113 GP m_GP r_GP e114 GL m_GL r_GL e115 GT m_GT r_GT e116 hB (by omega)) rfl rfl m_a0 r_a0 (fun e q => (T_12 e).mp q) rfl hl.1 rfl (Nat.le_of_ble_eq_true rfl) ⟨Nat.le_of_ble_eq_true rfl, Nat.le_of_ble_eq_true rfl⟩ ⟨Nat.le_of_ble_eq_true rfl, Nat.le_of_ble_eq_true rfl⟩ dX12_answers0_260 (fun f119 H locs hp119 h => ?_)
                        obtain ⟨hf119, hv120p0, hv120p1⟩ := hp119
                        have hRB : RB GA x1.toInt.toNat f119 := hRB.kw hv120p0 (by omega)
                        have hX : GZ GP GL f119 := hX.fm hf119 m_GP r_GP m_GL r_GL (by decide +kernel) (by decide +kernel)
                        have hA : KW (x1.toInt.toNat + 1542) (x1.toInt.toNat + 1646) GA f0 f119 := hA.sub hv120p0 (by omega) (by omega)
                        have hk : fr L R [(12, 29), (12, 35), (12, 36), (12, 37), (12, 38), (12, 39)] [12, 61, 68, 69, 70, 74, 76] f0 f119 := hk.tr hf119 rfl rfl
                        have e121 : fld f119 a0 0 = .ref GA := (hf119.efl m_a0 r_a0 rfl).trans e113
                        have e122 : fld f119 a0 22 = .ref GP := (hf119.efl m_a0 r_a0 rfl).trans e114
                        have e123 : fld f119 a0 23 = .ref GL := (hf119.efl m_a0 r_a0 rfl).trans e115
                        have e124 : fld f119 a0 6 = .ref GT := (hf119.efl m_a0 r_a0 rfl).trans e116
                        refine lv_goto (tgt := 284) F.1 F.2.1 dX12_answers0_263 (by decide) ?_
                        exact hret f119 _ _ _ _ dX12_answers0_284 ⟨hk, hX, hA⟩ h
                      · refine lv_aload_n F.1 F.2.1 dX12_answers0_230 rfl (lv_at hl 0 rfl) ?_
                        refine g_12_63 F h m_a0 r_a0 dX12_answers0_231 (fun o125 m_o125 r_o125 ho125 => ?_)
                        refine lv_iload F.1 F.2.1 dX12_answers0_234 (lv_at hl 2 rfl) ?_
                        refine lv_aload_n F.1 F.2.1 dX12_answers0_236 rfl (lv_at hl 0 rfl) ?_
                        refine g_12_7 F h m_a0 r_a0 dX12_answers0_237 (fun o126 m_o126 r_o126 ho126 => ?_)
                        obtain rfl := (fld_inj e113 ho126).symm
                        refine lv_iload_n F.1 F.2.1 dX12_answers0_240 rfl (lv_at hl 1 rfl) ?_
                        refine tw_sipush F dX12_answers0_241 ks_1568 (fun z127 hz127 => ?_)
                        refine tu_iadd F dX12_answers0_244 (by omega) (fun z128 hz128 => ?_)
                        refine tw_iconst F dX12_answers0_245 ki_1 (fun z129 hz129 => ?_)
                        refine tu_iadd F dX12_answers0_246 (by omega) (fun z130 hz130 => ?_)
                        refine lv_iload F.1 F.2.1 dX12_answers0_247 (lv_at hl 2 rfl) ?_
                        refine tu_iadd F dX12_answers0_249 (by omega) (fun z131 hz131 => ?_)
                        refine ld_61 F h m_GA r_GA (by omega) dX12_answers0_250 (fun v132 hv132a => ?_)
                        refine st_74 F h m_o125 r_o125 (by omega) dX12_answers0_251 (fun f133 H locs hf133 h => ?_)
                        have hRB : RB GA x1.toInt.toNat f133 := hRB.fm hf133 m_GA r_GA (by decide +kernel)
                        have hX : GZ GP GL f133 := hX.fm hf133 m_GP r_GP m_GL r_GL (by decide +kernel) (by decide +kernel)
                        have hA : KW (x1.toInt.toNat + 1542) (x1.toInt.toNat + 1646) GA f0 f133 := hA.fm hf133 m_GA r_GA (by decide +kernel)
                        have hqk : 1 ≤ elj f133 GA (x1.toInt.toNat + 1567) := by rw [hf133.eelj m_GA r_GA (by decide +kernel)]; exact hqk
                        have hk : fr L R [(12, 29), (12, 35), (12, 36), (12, 37), (12, 38), (12, 39)] [12, 61, 68, 69, 70, 74, 76] f0 f133 := hk.tr hf133 rfl rfl
                        have hb221 : fr L R [] [74] f103 f133 := hb221.tr hf133 rfl rfl
                        have e134 : fld f133 a0 0 = .ref GA := (hf133.efl m_a0 r_a0 rfl).trans e113
                        have e135 : fld f133 a0 22 = .ref GP := (hf133.efl m_a0 r_a0 rfl).trans e114
                        have e136 : fld f133 a0 23 = .ref GL := (hf133.efl m_a0 r_a0 rfl).trans e115
                        have e137 : fld f133 a0 6 = .ref GT := (hf133.efl m_a0 r_a0 rfl).trans e116
                        refine tu_iinc F dX12_answers0_252 hl (k := 2) rfl (by decide) ki_1 (by omega) (fun z138 ls hz138 hl => ?_)
                        have hl : lv_has ls 5 [(4, .int z138), (0, .ref a0), (1, .int x1)] := hl
                        refine lv_goto (tgt := 221) F.1 F.2.1 dX12_answers0_255 (by decide) ?_
                        exact ih221 f133 _ _ _ z138 (by omega) (by omega) (by omega) h hRB hX hA hqk hk hb221 (lv_sub hl [1, 2, 0] rfl)
                  have hb221 : fr L R [] [74] f103 f103 := fr.rf
                  exact j_221 (((12 - z108.toInt)).toNat + 1) f103 _ _ _ z108 (by omega) (by omega) (by omega) h hRB hX hA hqk hk hb221 (lv_sub hl [1, 2, 0] rfl)
              have hb178 : fr L R [(12, 29), (12, 35), (12, 36), (12, 37), (12, 38), (12, 39)] [12, 61, 68, 69, 70, 74] f48 f48 := fr.rf
              refine tw_icmp_eq (tgt := 178) F dX12_answers0_165 (by decide) (fun b139 => ?_) (fun b139 => ?_)
              · exact j_178 f48 _ _ _ h hRB hX hA hk hb178 (lv_sub hl [0, 1] rfl)
              · refine lv_aload_n F.1 F.2.1 dX12_answers0_168 rfl (lv_at hl 0 rfl) ?_
                refine lv_iload_n F.1 F.2.1 dX12_answers0_169 rfl (lv_at hl 1 rfl) ?_
                refine lv_iload_n F.1 F.2.1 dX12_answers0_170 rfl (lv_at hl 2 rfl) ?_
                have w171 := hA (x1.toInt.toNat + 1) (by omega)
                refine tw_Vi (As := [.int x1, .int x3_133]) F hZ h yk_X12_follows mw_1095 mw_1096 mw_1097 (s_X12_follows l D cy L R O f48 a0 m_a0 r_a0 x1 ⟨by omega, by omega⟩ x3_133 ⟨by omega, by omega⟩ GA m_GA r_GA e55 GP m_GP r_GP e56 GL m_GL r_GL e57 GT m_GT r_GT e58 hB hRB hX (by omega)) rfl rfl m_a0 r_a0 (fun e q => (T_12 e).mp q) rfl hl.1 rfl (Nat.le_of_ble_eq_true rfl) ⟨Nat.le_of_ble_eq_true rfl, Nat.le_of_ble_eq_true rfl⟩ ⟨Nat.le_of_ble_eq_true rfl, Nat.le_of_ble_eq_true rfl⟩ dX12_answers0_171 (fun v141 f140 H locs hp140 h => ?_)
                obtain ⟨hf140, hv141a, hv141b, hv141p0, hv141p1⟩ := hp140
                have hRB : RB GA x1.toInt.toNat f140 := hRB.kw hv141p1 (by omega)
                have hX : GZ GP GL f140 := hv141p0
                have hA : KW (x1.toInt.toNat + 1542) (x1.toInt.toNat + 1646) GA f0 f140 := hA.sub hv141p1 (by omega) (by omega)
                have hk : fr L R [(12, 29), (12, 35), (12, 36), (12, 37), (12, 38), (12, 39)] [12, 61, 68, 69, 70, 74, 76] f0 f140 := hk.tr hf140 (by decide +kernel) (by decide +kernel)
                have hb178 : fr L R [(12, 29), (12, 35), (12, 36), (12, 37), (12, 38), (12, 39)] [12, 61, 68, 69, 70, 74] f48 f140 := hb178.tr hf140 rfl rfl
                have e142 : fld f140 a0 0 = .ref GA := (hf140.efl m_a0 r_a0 rfl).trans e55
                have e143 : fld f140 a0 22 = .ref GP := (hf140.efl m_a0 r_a0 rfl).trans e56
                have e144 : fld f140 a0 23 = .ref GL := (hf140.efl m_a0 r_a0 rfl).trans e57
                have e145 : fld f140 a0 6 = .ref GT := (hf140.efl m_a0 r_a0 rfl).trans e58
                refine tw_if_eq (tgt := 178) F dX12_answers0_174 (by decide) (fun b146 => ?_) (fun b146 => ?_)
                · exact j_178 f140 _ _ _ h hRB hX hA hk hb178 (lv_sub hl [0, 1] rfl)
                · exact hret f140 _ _ _ _ dX12_answers0_177 ⟨hk, hX, hA⟩ h
            refine tw_icmp_ge (tgt := 163) F dX12_answers0_136 (by decide) (fun b147 => ?_) (fun b147 => ?_)
            · exact j_163 _ (by omega) (lv_sub hl [0, 1, 3] rfl)
            · refine lv_iload_n F.1 F.2.1 dX12_answers0_139 rfl (lv_at hl 3 rfl) ?_
              refine tw_iconst F dX12_answers0_140 ki_m1 (fun z148 hz148 => ?_)
              refine tw_icmp_ne (tgt := 163) F dX12_answers0_141 (by decide) (fun b149 => ?_) (fun b149 => ?_)
              · exact j_163 _ (by omega) (lv_sub hl [0, 1, 3] rfl)
              · refine lv_aload_n F.1 F.2.1 dX12_answers0_144 rfl (lv_at hl 0 rfl) ?_
                refine lv_iload_n F.1 F.2.1 dX12_answers0_145 rfl (lv_at hl 1 rfl) ?_
                refine lv_aload_n F.1 F.2.1 dX12_answers0_146 rfl (lv_at hl 0 rfl) ?_
                refine g_12_75 F h m_a0 r_a0 dX12_answers0_147 (fun o150 m_o150 r_o150 ho150 => ?_)
                refine lv_iload F.1 F.2.1 dX12_answers0_150 (lv_at hl 4 rfl) ?_
                refine ld_76 F h m_o150 r_o150 (by omega) dX12_answers0_152 (fun v151 hv151a hv151b => ?_)
                have w153 := hA (x1.toInt.toNat + 1) (by omega)
                refine tw_Vi (As := [.int x1, .int v151]) F hZ h yk_X12_firstOf mw_1091 mw_1092 mw_1093 (s_X12_firstOf l D cy L R O f48 a0 m_a0 r_a0 x1 ⟨by omega, by omega⟩ v151 GA m_GA r_GA e55 GP m_GP r_GP e56 GL m_GL r_GL e57 GT m_GT r_GT e58 hB hX) rfl rfl m_a0 r_a0 (fun e q => (T_12 e).mp q) rfl hl.1 rfl (Nat.le_of_ble_eq_true rfl) ⟨Nat.le_of_ble_eq_true rfl, Nat.le_of_ble_eq_true rfl⟩ ⟨Nat.le_of_ble_eq_true rfl, Nat.le_of_ble_eq_true rfl⟩ dX12_answers0_153 (fun v153 f152 H locs hp152 h => ?_)
                obtain ⟨hf152, hv153a, hv153b, hv153p0, hv153p1⟩ := hp152
                have hRB : RB GA x1.toInt.toNat f152 := hRB.fm hf152 m_GA r_GA (by decide +kernel)
                have hX : GZ GP GL f152 := hv153p0
                have hA : KW (x1.toInt.toNat + 1542) (x1.toInt.toNat + 1646) GA f0 f152 := hA.fm hf152 m_GA r_GA (by decide +kernel)
                have hk : fr L R [(12, 29), (12, 35), (12, 36), (12, 37), (12, 38), (12, 39)] [12, 61, 68, 69, 70, 74, 76] f0 f152 := hk.tr hf152 rfl rfl
                have hb33 : fr L R [(12, 29)] [12, 61, 68, 69, 70, 74] f31 f152 := hb33.tr hf152 rfl rfl
                have hb133 : fr L R [] [68, 69, 70] f38 f152 := hb133.tr hf152 rfl rfl
                have e154 : fld f152 a0 0 = .ref GA := (hf152.efl m_a0 r_a0 rfl).trans e55
                have e155 : fld f152 a0 22 = .ref GP := (hf152.efl m_a0 r_a0 rfl).trans e56
                have e156 : fld f152 a0 23 = .ref GL := (hf152.efl m_a0 r_a0 rfl).trans e57
                have e157 : fld f152 a0 6 = .ref GT := (hf152.efl m_a0 r_a0 rfl).trans e58
                refine lv_istore_n (lv' := [(3, .int v153), (0, .ref a0), (1, .int x1), (2, .int v32), (4, .int x4_133)]) F.1 F.2.1 dX12_answers0_156 rfl hl (by decide) rfl (fun ls hl => ?_)
                refine tu_iinc F dX12_answers0_157 hl (k := 4) rfl (by decide) ki_1 (by omega) (fun z158 ls hz158 hl => ?_)
                have hl : lv_has ls 5 [(4, .int z158), (3, .int v153), (0, .ref a0), (1, .int x1), (2, .int v32)] := hl
                refine lv_goto (tgt := 133) F.1 F.2.1 dX12_answers0_160 (by decide) ?_
                exact ih133 f152 _ _ _ v153 z158 (by omega) (by omega) (by omega) (by omega) (by omega) (by omega) h hRB hX hA hk hb133 (lv_sub hl [2, 3, 4, 1, 0] rfl)
        have hb133 : fr L R [] [68, 69, 70] f38 f38 := fr.rf
        exact j_133 (((12 - z47.toInt)).toNat + 1) f38 _ _ _ z46 z47 (by omega) (by omega) (by omega) (by omega) (by omega) (by omega) h hRB hX hA hk hb133 (lv_sub hl [2, 3, 4, 1, 0] rfl)
      refine tw_if_le (tgt := 128) F dX12_answers0_34 (by decide) (fun b159 => ?_) (fun b159 => ?_)
      · exact j_128 _ (lv_sub hl [0, 1, 2] rfl)
      · refine lv_iload_n F.1 F.2.1 dX12_answers0_37 rfl (lv_at hl 3 rfl) ?_
        refine tw_i2l F dX12_answers0_38 (fun z160 hz160 => ?_)
        refine lv_aload_n F.1 F.2.1 dX12_answers0_39 rfl (lv_at hl 0 rfl) ?_
        refine g_12_7 F h m_a0 r_a0 dX12_answers0_40 (fun o161 m_o161 r_o161 ho161 => ?_)
        obtain rfl := (fld_inj e42 ho161).symm
        refine lv_iload_n F.1 F.2.1 dX12_answers0_43 rfl (lv_at hl 1 rfl) ?_
        refine tw_iconst F dX12_answers0_44 ki_1 (fun z162 hz162 => ?_)
        refine tu_iadd F dX12_answers0_45 (by omega) (fun z163 hz163 => ?_)
        refine ld_61 F h m_GA r_GA (by omega) dX12_answers0_46 (fun v164 hv164a => ?_)
        have hv164b := clP_2.mp (atb hv164a (ac_c (b := x1.toInt.toNat) 1 hB (by decide) (by omega) rfl))
        refine tw_lcmp F dX12_answers0_47 (fun z165 hz165 => ?_)
        refine tw_if_ge (tgt := 128) F dX12_answers0_48 (by decide) (fun b166 => ?_) (fun b166 => ?_)
        · exact j_128 _ (lv_sub hl [0, 1, 2] rfl)
        · refine lv_iload_n F.1 F.2.1 dX12_answers0_51 rfl (lv_at hl 1 rfl) ?_
          refine tw_bipush F dX12_answers0_52 kb_52 (fun z167 hz167 => ?_)
          refine tu_iadd F dX12_answers0_54 (by omega) (fun z168 hz168 => ?_)
          refine tw_bipush F dX12_answers0_55 kb_60 (fun z169 hz169 => ?_)
          refine lv_iload_n F.1 F.2.1 dX12_answers0_57 rfl (lv_at hl 3 rfl) ?_
          refine tu_imull F dX12_answers0_58 hz169 (by omega) (fun z170 hz170 => ?_)
          refine tu_iadd F dX12_answers0_59 (by omega) (fun z171 hz171 => ?_)
          refine lv_istore (lv' := [(4, .int z171), (0, .ref a0), (1, .int x1), (2, .int v32), (3, .int x3_33)]) F.1 F.2.1 dX12_answers0_60 hl (by decide) rfl (fun ls hl => ?_)
          refine lv_aload_n F.1 F.2.1 dX12_answers0_62 rfl (lv_at hl 1 rfl) ?_
          refine g_12_7 F h m_a0 r_a0 dX12_answers0_63 (fun o172 m_o172 r_o172 ho172 => ?_)
          obtain rfl := (fld_inj e42 ho172).symm
          refine lv_iload F.1 F.2.1 dX12_answers0_66 (lv_at hl 0 rfl) ?_
          refine ld_61 F h m_GA r_GA (by omega) dX12_answers0_68 (fun v173 hv173a => ?_)
          refine lv_aload_n F.1 F.2.1 dX12_answers0_69 rfl (lv_at hl 1 rfl) ?_
          refine g_12_75 F h m_a0 r_a0 dX12_answers0_70 (fun o174 m_o174 r_o174 ho174 => ?_)
          refine tw_iconst F dX12_answers0_73 ki_0 (fun z175 hz175 => ?_)
          refine ld_76 F h m_o174 r_o174 (by omega) dX12_answers0_74 (fun v176 hv176a hv176b => ?_)
          refine tw_i2l F dX12_answers0_75 (fun z177 hz177 => ?_)
          refine tw_lcmp F dX12_answers0_76 (fun z178 hz178 => ?_)
          have j_122 : ∀ (f179 : Nat → va_E) (H : Heap) (locs : List Loc) (ls : Array Slot), tS D cy A s.heap L R (TT cy L R) f179 s H locs → RB GA x1.toInt.toNat f179 → GZ GP GL f179 → KW (x1.toInt.toNat + 1542) (x1.toInt.toNat + 1646) GA f0 f179 → fr L R [(12, 29), (12, 35), (12, 36), (12, 37), (12, 38), (12, 39)] [12, 61, 68, 69, 70, 74, 76] f0 f179 → fr L R [(12, 29)] [12, 61, 68, 69, 70, 74] f38 f179 → lv_has ls 5 [(0, .ref a0), (1, .int x1), (2, .int v32), (3, .int x3_33)] → W p l e rm_X12_answers0 s m args below meth c H locs 0 0 Q (F0 m 122 ls []) := by
            intro f179 H locs ls h hRB hX hA hk hb122 hl
            have hb33 : fr L R [(12, 29)] [12, 61, 68, 69, 70, 74] f31 f179 := hb33.tr hb122 rfl rfl
            have e180 : fld f179 a0 0 = .ref GA := (hb122.efl m_a0 r_a0 rfl).trans e42
            have e181 : fld f179 a0 22 = .ref GP := (hb122.efl m_a0 r_a0 rfl).trans e43
            have e182 : fld f179 a0 23 = .ref GL := (hb122.efl m_a0 r_a0 rfl).trans e44
            have e183 : fld f179 a0 6 = .ref GT := (hb122.efl m_a0 r_a0 rfl).trans e45
            refine tu_iinc F dX12_answers0_122 hl (k := 3) rfl (by decide) ki_1 (by omega) (fun z184 ls hz184 hl => ?_)
            have hl : lv_has ls 5 [(3, .int z184), (0, .ref a0), (1, .int x1), (2, .int v32)] := hl
            refine lv_goto (tgt := 33) F.1 F.2.1 dX12_answers0_125 (by decide) ?_
            exact ih33 f179 _ _ _ z184 (by omega) (by omega) (by omega) h hRB hX hA hk hb33 (lv_sub hl [1, 2, 3, 0] rfl)
          have hb122 : fr L R [(12, 29)] [12, 61, 68, 69, 70, 74] f38 f38 := fr.rf
          refine tw_if_ne (tgt := 122) F dX12_answers0_77 (by decide) (fun b185 => ?_) (fun b185 => ?_)
          · exact j_122 f38 _ _ _ h hRB hX hA hk hb122 (lv_sub hl [1, 2, 3, 4] rfl)
          · refine lv_aload_n F.1 F.2.1 dX12_answers0_80 rfl (lv_at hl 1 rfl) ?_
            refine g_12_7 F h m_a0 r_a0 dX12_answers0_81 (fun o186 m_o186 r_o186 ho186 => ?_)
            obtain rfl := (fld_inj e42 ho186).symm
            refine lv_iload F.1 F.2.1 dX12_answers0_84 (lv_at hl 0 rfl) ?_
            refine tw_iconst F dX12_answers0_86 ki_1 (fun z187 hz187 => ?_)
            refine tu_iadd F dX12_answers0_87 (by omega) (fun z188 hz188 => ?_)
            refine ld_61 F h m_GA r_GA (by omega) dX12_answers0_88 (fun v189 hv189a => ?_)
            refine tu_lconst F dX12_answers0_89 (by decide) (fun z190 (hz190 : z190.toInt = 0) => ?_)
            refine tw_lcmp F dX12_answers0_90 (fun z191 hz191 => ?_)
            refine tw_if_eq (tgt := 122) F dX12_answers0_91 (by decide) (fun b192 => ?_) (fun b192 => ?_)
            · exact j_122 f38 _ _ _ h hRB hX hA hk hb122 (lv_sub hl [1, 2, 3, 4] rfl)
            · refine lv_aload_n F.1 F.2.1 dX12_answers0_94 rfl (lv_at hl 1 rfl) ?_
              refine lv_iload_n F.1 F.2.1 dX12_answers0_95 rfl (lv_at hl 2 rfl) ?_
              refine lv_iload_n F.1 F.2.1 dX12_answers0_96 rfl (lv_at hl 4 rfl) ?_
              refine tw_Vi (As := [.int x1, .int x3_33]) F hZ h yk_X12_fits mw_895 mw_896 mw_897 (s_X12_fits l D cy L R O f38 a0 m_a0 r_a0 x1 ⟨by omega, by omega⟩ x3_33 ⟨by omega, by omega⟩ GA m_GA r_GA e42 GP m_GP r_GP e43 GL m_GL r_GL e44 GT m_GT r_GT e45 hB hX) rfl rfl m_a0 r_a0 (fun e q => (T_12 e).mp q) rfl hl.1 rfl (Nat.le_of_ble_eq_true rfl) ⟨Nat.le_of_ble_eq_true rfl, Nat.le_of_ble_eq_true rfl⟩ ⟨Nat.le_of_ble_eq_true rfl, Nat.le_of_ble_eq_true rfl⟩ dX12_answers0_97 (fun v194 f193 H locs hp193 h => ?_)
              obtain ⟨hf193, hv194a, hv194b, hv194p0⟩ := hp193
              have hRB : RB GA x1.toInt.toNat f193 := hRB.fm hf193 m_GA r_GA (by decide +kernel)
              have hX : GZ GP GL f193 := hv194p0
              have hA : KW (x1.toInt.toNat + 1542) (x1.toInt.toNat + 1646) GA f0 f193 := hA.fm hf193 m_GA r_GA (by decide +kernel)
              have hk : fr L R [(12, 29), (12, 35), (12, 36), (12, 37), (12, 38), (12, 39)] [12, 61, 68, 69, 70, 74, 76] f0 f193 := hk.tr hf193 rfl rfl
              have hb33 : fr L R [(12, 29)] [12, 61, 68, 69, 70, 74] f31 f193 := hb33.tr hf193 rfl rfl
              have hb122 : fr L R [(12, 29)] [12, 61, 68, 69, 70, 74] f38 f193 := hb122.tr hf193 rfl rfl
              have e195 : fld f193 a0 0 = .ref GA := (hf193.efl m_a0 r_a0 rfl).trans e42
              have e196 : fld f193 a0 22 = .ref GP := (hf193.efl m_a0 r_a0 rfl).trans e43
              have e197 : fld f193 a0 23 = .ref GL := (hf193.efl m_a0 r_a0 rfl).trans e44
              have e198 : fld f193 a0 6 = .ref GT := (hf193.efl m_a0 r_a0 rfl).trans e45
              refine tw_if_ne (tgt := 106) F dX12_answers0_100 (by decide) (fun b199 => ?_) (fun b199 => ?_)
              · refine lv_aload_n F.1 F.2.1 dX12_answers0_106 rfl (lv_at hl 1 rfl) ?_
                refine lv_iload_n F.1 F.2.1 dX12_answers0_107 rfl (lv_at hl 2 rfl) ?_
                refine lv_iload F.1 F.2.1 dX12_answers0_108 (lv_at hl 0 rfl) ?_
                refine tw_bipush F dX12_answers0_110 kb_12 (fun z200 hz200 => ?_)
                refine tu_iadd F dX12_answers0_112 (by omega) (fun z201 hz201 => ?_)
                refine tw_Vi (As := [.int x1, .int z201]) F hZ h yk_X12_makes mw_1074 mw_1075 mw_1076 (s_X12_makes l D cy L R O f193 a0 m_a0 r_a0 x1 ⟨by omega, by omega⟩ z201 ⟨by omega, by omega⟩ GA m_GA r_GA e195 GP m_GP r_GP e196 GL m_GL r_GL e197 GT m_GT r_GT e198 hB hX (AS_k (AS_r (j := x1.toInt.toNat + 63 + 60 * x3_33.toInt.toNat) hB (by omega)) (by omega))) rfl rfl m_a0 r_a0 (fun e q => (T_12 e).mp q) rfl hl.1 rfl (Nat.le_of_ble_eq_true rfl) ⟨Nat.le_of_ble_eq_true rfl, Nat.le_of_ble_eq_true rfl⟩ ⟨Nat.le_of_ble_eq_true rfl, Nat.le_of_ble_eq_true rfl⟩ dX12_answers0_113 (fun v203 f202 H locs hp202 h => ?_)
                obtain ⟨hf202, hv203a, hv203b, hv203p0⟩ := hp202
                have hRB : RB GA x1.toInt.toNat f202 := hRB.fm hf202 m_GA r_GA (by decide +kernel)
                have hX : GZ GP GL f202 := hX.fm hf202 m_GP r_GP m_GL r_GL (by decide +kernel) (by decide +kernel)
                have hA : KW (x1.toInt.toNat + 1542) (x1.toInt.toNat + 1646) GA f0 f202 := hA.fm hf202 m_GA r_GA (by decide +kernel)
                have hk : fr L R [(12, 29), (12, 35), (12, 36), (12, 37), (12, 38), (12, 39)] [12, 61, 68, 69, 70, 74, 76] f0 f202 := hk.tr hf202 rfl rfl
                have hb33 : fr L R [(12, 29)] [12, 61, 68, 69, 70, 74] f31 f202 := hb33.tr hf202 rfl rfl
                have hb122 : fr L R [(12, 29)] [12, 61, 68, 69, 70, 74] f38 f202 := hb122.tr hf202 rfl rfl
                have e204 : fld f202 a0 0 = .ref GA := (hf202.efl m_a0 r_a0 rfl).trans e195
                have e205 : fld f202 a0 22 = .ref GP := (hf202.efl m_a0 r_a0 rfl).trans e196
                have e206 : fld f202 a0 23 = .ref GL := (hf202.efl m_a0 r_a0 rfl).trans e197
                have e207 : fld f202 a0 6 = .ref GT := (hf202.efl m_a0 r_a0 rfl).trans e198
                refine lv_pop F.1 F.2.1 dX12_answers0_116 rfl ?_
                refine lv_aload_n F.1 F.2.1 dX12_answers0_117 rfl (lv_at hl 1 rfl) ?_
                refine lv_iload_n F.1 F.2.1 dX12_answers0_118 rfl (lv_at hl 2 rfl) ?_
                refine tw_Vv (As := [.int x1]) F hZ h yk_X12_remembers mw_1082 mw_1083 mw_1084 (s_X12_remembers l D cy L R O f202 a0 m_a0 r_a0 x1 ⟨by omega, by omega⟩ GA m_GA r_GA e204 GP m_GP r_GP e205 GL m_GL r_GL e206 GT m_GT r_GT e207 hB) rfl rfl m_a0 r_a0 (fun e q => (T_12 e).mp q) rfl hl.1 rfl (Nat.le_of_ble_eq_true rfl) ⟨Nat.le_of_ble_eq_true rfl, Nat.le_of_ble_eq_true rfl⟩ ⟨Nat.le_of_ble_eq_true rfl, Nat.le_of_ble_eq_true rfl⟩ dX12_answers0_119 (fun f208 H locs hp208 h => ?_)
                obtain ⟨hf208, hv209p0⟩ := hp208
                have hRB : RB GA x1.toInt.toNat f208 := hRB.kw hv209p0 (by omega)
                have hX : GZ GP GL f208 := hX.fm hf208 m_GP r_GP m_GL r_GL (by decide +kernel) (by decide +kernel)
                have hA : KW (x1.toInt.toNat + 1542) (x1.toInt.toNat + 1646) GA f0 f208 := hA.sub hv209p0 (by omega) (by omega)
                have hk : fr L R [(12, 29), (12, 35), (12, 36), (12, 37), (12, 38), (12, 39)] [12, 61, 68, 69, 70, 74, 76] f0 f208 := hk.tr hf208 rfl rfl
                have hb33 : fr L R [(12, 29)] [12, 61, 68, 69, 70, 74] f31 f208 := hb33.tr hf208 rfl rfl
                have hb122 : fr L R [(12, 29)] [12, 61, 68, 69, 70, 74] f38 f208 := hb122.tr hf208 rfl rfl
                have e210 : fld f208 a0 0 = .ref GA := (hf208.efl m_a0 r_a0 rfl).trans e204
                have e211 : fld f208 a0 22 = .ref GP := (hf208.efl m_a0 r_a0 rfl).trans e205
                have e212 : fld f208 a0 23 = .ref GL := (hf208.efl m_a0 r_a0 rfl).trans e206
                have e213 : fld f208 a0 6 = .ref GT := (hf208.efl m_a0 r_a0 rfl).trans e207
                exact j_122 f208 _ _ _ h hRB hX hA hk hb122 (lv_sub hl [1, 2, 3, 4] rfl)
              · refine lv_goto (tgt := 122) F.1 F.2.1 dX12_answers0_103 (by decide) ?_
                exact j_122 f193 _ _ _ h hRB hX hA hk hb122 (lv_sub hl [1, 2, 3, 4] rfl)
  have hb33 : fr L R [(12, 29)] [12, 61, 68, 69, 70, 74] f31 f31 := fr.rf
  exact j_33 (((24 - z37.toInt)).toNat + 1) f31 _ _ _ z37 (by omega) (by omega) (by omega) h hRB hX hA hk hb33 (lv_sub hl [2, 3, 1, 0] rfl)
