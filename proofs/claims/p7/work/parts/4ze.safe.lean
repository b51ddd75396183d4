theorem dX12_script_0 : decode cX12_script 0 = .ok (.aload_n 0, 1) := by decide +kernel
theorem dX12_script_1 : decode cX12_script 1 = .ok (.iload_n 1, 1) := by decide +kernel
theorem dX12_script_2 : decode cX12_script 2 = .ok (.invokevirtual 282, 3) := by decide +kernel
theorem dX12_script_5 : decode cX12_script 5 = .ok (.ifCond .eq 15, 3) := by decide +kernel
theorem dX12_script_20 : decode cX12_script 20 = .ok (.aload_n 0, 1) := by decide +kernel
theorem dX12_script_21 : decode cX12_script 21 = .ok (.iconst 1, 1) := by decide +kernel
theorem dX12_script_22 : decode cX12_script 22 = .ok (.invokevirtual 194, 3) := by decide +kernel
theorem dX12_script_25 : decode cX12_script 25 = .ok (.ireturn, 1) := by decide +kernel
theorem dX12_script_8 : decode cX12_script 8 = .ok (.iload_n 2, 1) := by decide +kernel
theorem dX12_script_9 : decode cX12_script 9 = .ok (.ifCond .lt 11, 3) := by decide +kernel
theorem dX12_script_12 : decode cX12_script 12 = .ok (.iload_n 2, 1) := by decide +kernel
theorem dX12_script_13 : decode cX12_script 13 = .ok (.aload_n 0, 1) := by decide +kernel
theorem dX12_script_14 : decode cX12_script 14 = .ok (.getfield 144, 3) := by decide +kernel
theorem dX12_script_17 : decode cX12_script 17 = .ok (.if_icmp .le 9, 3) := by decide +kernel
theorem dX12_script_26 : decode cX12_script 26 = .ok (.aload_n 0, 1) := by decide +kernel
theorem dX12_script_27 : decode cX12_script 27 = .ok (.iload_n 2, 1) := by decide +kernel
theorem dX12_script_28 : decode cX12_script 28 = .ok (.invokevirtual 197, 3) := by decide +kernel
theorem dX12_script_31 : decode cX12_script 31 = .ok (.iconst 0, 1) := by decide +kernel
theorem dX12_script_32 : decode cX12_script 32 = .ok (.istore_n 3, 1) := by decide +kernel
theorem dX12_script_33 : decode cX12_script 33 = .ok (.iload_n 3, 1) := by decide +kernel
theorem dX12_script_34 : decode cX12_script 34 = .ok (.sipush 1650, 3) := by decide +kernel
theorem dX12_script_37 : decode cX12_script 37 = .ok (.if_icmp .ge 20, 3) := by decide +kernel
theorem dX12_script_57 : decode cX12_script 57 = .ok (.aload_n 0, 1) := by decide +kernel
theorem dX12_script_58 : decode cX12_script 58 = .ok (.invokevirtual 184, 3) := by decide +kernel
theorem dX12_script_61 : decode cX12_script 61 = .ok (.aload_n 0, 1) := by decide +kernel
theorem dX12_script_62 : decode cX12_script 62 = .ok (.getfield 167, 3) := by decide +kernel
theorem dX12_script_73 : decode cX12_script 73 = .ok (.istore_n 3, 1) := by decide +kernel
theorem dX12_script_74 : decode cX12_script 74 = .ok (.iload_n 3, 1) := by decide +kernel
theorem dX12_script_75 : decode cX12_script 75 = .ok (.ifCond .eq 26, 3) := by decide +kernel
theorem dX12_script_101 : decode cX12_script 101 = .ok (.aload_n 0, 1) := by decide +kernel
theorem dX12_script_102 : decode cX12_script 102 = .ok (.getfield 181, 3) := by decide +kernel
theorem dX12_script_182 : decode cX12_script 182 = .ok (.aload_n 0, 1) := by decide +kernel
theorem dX12_script_183 : decode cX12_script 183 = .ok (.aload_n 0, 1) := by decide +kernel
theorem dX12_script_184 : decode cX12_script 184 = .ok (.getfield 181, 3) := by decide +kernel
theorem dX12_script_187 : decode cX12_script 187 = .ok (.putfield 34, 3) := by decide +kernel
theorem dX12_script_190 : decode cX12_script 190 = .ok (.aload_n 0, 1) := by decide +kernel
theorem dX12_script_191 : decode cX12_script 191 = .ok (.getfield 181, 3) := by decide +kernel
theorem dX12_script_194 : decode cX12_script 194 = .ok (.ifCond .le 10, 3) := by decide +kernel
theorem dX12_script_204 : decode cX12_script 204 = .ok (.aload_n 0, 1) := by decide +kernel
theorem dX12_script_205 : decode cX12_script 205 = .ok (.sipush 20760, 3) := by decide +kernel
theorem dX12_script_208 : decode cX12_script 208 = .ok (.invokevirtual 291, 3) := by decide +kernel
theorem dX12_script_211 : decode cX12_script 211 = .ok (.aload_n 0, 1) := by decide +kernel
theorem dX12_script_212 : decode cX12_script 212 = .ok (.sipush 20760, 3) := by decide +kernel
theorem dX12_script_215 : decode cX12_script 215 = .ok (.sipush 1650, 3) := by decide +kernel
theorem dX12_script_218 : decode cX12_script 218 = .ok (.iload_n 1, 1) := by decide +kernel
theorem dX12_script_219 : decode cX12_script 219 = .ok (.imul, 1) := by decide +kernel
theorem dX12_script_220 : decode cX12_script 220 = .ok (.sipush 1650, 3) := by decide +kernel
theorem dX12_script_223 : decode cX12_script 223 = .ok (.invokevirtual 294, 3) := by decide +kernel
theorem dX12_script_226 : decode cX12_script 226 = .ok (.aload_n 0, 1) := by decide +kernel
theorem dX12_script_227 : decode cX12_script 227 = .ok (.aload_n 0, 1) := by decide +kernel
theorem dX12_script_228 : decode cX12_script 228 = .ok (.getfield 7, 3) := by decide +kernel
theorem dX12_script_231 : decode cX12_script 231 = .ok (.sipush 20761, 3) := by decide +kernel
theorem dX12_script_234 : decode cX12_script 234 = .ok (.laload, 1) := by decide +kernel
theorem dX12_script_235 : decode cX12_script 235 = .ok (.l2i, 1) := by decide +kernel
theorem dX12_script_236 : decode cX12_script 236 = .ok (.invokevirtual 209, 3) := by decide +kernel
theorem dX12_script_239 : decode cX12_script 239 = .ok (.ireturn, 1) := by decide +kernel
theorem dX12_script_197 : decode cX12_script 197 = .ok (.aload_n 0, 1) := by decide +kernel
theorem dX12_script_198 : decode cX12_script 198 = .ok (.bipush 9, 2) := by decide +kernel
theorem dX12_script_200 : decode cX12_script 200 = .ok (.invokevirtual 194, 3) := by decide +kernel
theorem dX12_script_203 : decode cX12_script 203 = .ok (.ireturn, 1) := by decide +kernel
theorem dX12_script_105 : decode cX12_script 105 = .ok (.ifCond .ne 77, 3) := by decide +kernel
theorem dX12_script_108 : decode cX12_script 108 = .ok (.aload_n 0, 1) := by decide +kernel
theorem dX12_script_109 : decode cX12_script 109 = .ok (.iconst (-1), 1) := by decide +kernel
theorem dX12_script_110 : decode cX12_script 110 = .ok (.putfield 279, 3) := by decide +kernel
theorem dX12_script_113 : decode cX12_script 113 = .ok (.iconst 0, 1) := by decide +kernel
theorem dX12_script_114 : decode cX12_script 114 = .ok (.istore 4, 2) := by decide +kernel
theorem dX12_script_116 : decode cX12_script 116 = .ok (.iload 4, 2) := by decide +kernel
theorem dX12_script_118 : decode cX12_script 118 = .ok (.i2l, 1) := by decide +kernel
theorem dX12_script_119 : decode cX12_script 119 = .ok (.aload_n 0, 1) := by decide +kernel
theorem dX12_script_120 : decode cX12_script 120 = .ok (.getfield 7, 3) := by decide +kernel
theorem dX12_script_123 : decode cX12_script 123 = .ok (.sipush 20761, 3) := by decide +kernel
theorem dX12_script_126 : decode cX12_script 126 = .ok (.laload, 1) := by decide +kernel
theorem dX12_script_127 : decode cX12_script 127 = .ok (.lcmp, 1) := by decide +kernel
theorem dX12_script_128 : decode cX12_script 128 = .ok (.ifCond .ge 25, 3) := by decide +kernel
theorem dX12_script_153 : decode cX12_script 153 = .ok (.aload_n 0, 1) := by decide +kernel
theorem dX12_script_154 : decode cX12_script 154 = .ok (.sipush 22252, 3) := by decide +kernel
theorem dX12_script_157 : decode cX12_script 157 = .ok (.invokevirtual 288, 3) := by decide +kernel
theorem mw_741 : Cond.methodLink RX12 288 yX12_leads ∈ wsL_law := inr_31 _ (List.mem_of_getElem? (i := 21) rfl)
theorem mw_744 : Cond.code yX12_leads cX12_leads 5 none ∈ wsL_law := inr_32 _ (List.mem_of_getElem? (i := 0) rfl)
theorem yk_X12_leads : xY yX12_leads RX12 cX12_leads 5 none 1 := ⟨⟨rfl, by decide +kernel, by decide +kernel, by decide +kernel⟩, mw_5, mw_744⟩
theorem mw_742 : Cond.instanceMethod yX12_leads ∈ wsL_law := inr_31 _ (List.mem_of_getElem? (i := 22) rfl)
theorem mw_743 : Cond.selects RX12 yX12_leads yX12_leads ∈ wsL_law := inr_31 _ (List.mem_of_getElem? (i := 23) rfl)
theorem dX12_script_160 : decode cX12_script 160 = .ok (.aload_n 0, 1) := by decide +kernel
theorem dX12_script_161 : decode cX12_script 161 = .ok (.getfield 279, 3) := by decide +kernel
theorem dX12_script_164 : decode cX12_script 164 = .ok (.iconst (-1), 1) := by decide +kernel
theorem dX12_script_165 : decode cX12_script 165 = .ok (.if_icmp .eq 17, 3) := by decide +kernel
theorem dX12_script_168 : decode cX12_script 168 = .ok (.aload_n 0, 1) := by decide +kernel
theorem dX12_script_169 : decode cX12_script 169 = .ok (.bipush 6, 2) := by decide +kernel
theorem dX12_script_171 : decode cX12_script 171 = .ok (.putfield 181, 3) := by decide +kernel
theorem dX12_script_174 : decode cX12_script 174 = .ok (.aload_n 0, 1) := by decide +kernel
theorem dX12_script_175 : decode cX12_script 175 = .ok (.aload_n 0, 1) := by decide +kernel
theorem dX12_script_176 : decode cX12_script 176 = .ok (.getfield 279, 3) := by decide +kernel
theorem dX12_script_179 : decode cX12_script 179 = .ok (.putfield 38, 3) := by decide +kernel
theorem dX12_script_131 : decode cX12_script 131 = .ok (.aload_n 0, 1) := by decide +kernel
theorem dX12_script_132 : decode cX12_script 132 = .ok (.sipush 20812, 3) := by decide +kernel
theorem dX12_script_135 : decode cX12_script 135 = .ok (.bipush 60, 2) := by decide +kernel
theorem dX12_script_137 : decode cX12_script 137 = .ok (.iload 4, 2) := by decide +kernel
theorem dX12_script_139 : decode cX12_script 139 = .ok (.imul, 1) := by decide +kernel
theorem dX12_script_140 : decode cX12_script 140 = .ok (.iadd, 1) := by decide +kernel
theorem dX12_script_141 : decode cX12_script 141 = .ok (.bipush 11, 2) := by decide +kernel
theorem dX12_script_143 : decode cX12_script 143 = .ok (.iadd, 1) := by decide +kernel
theorem dX12_script_144 : decode cX12_script 144 = .ok (.invokevirtual 288, 3) := by decide +kernel
theorem dX12_script_147 : decode cX12_script 147 = .ok (.iinc 4 1, 3) := by decide +kernel
theorem dX12_script_150 : decode cX12_script 150 = .ok (.goto (-34), 3) := by decide +kernel
theorem dX12_script_78 : decode cX12_script 78 = .ok (.aload_n 0, 1) := by decide +kernel
theorem dX12_script_79 : decode cX12_script 79 = .ok (.invokevirtual 285, 3) := by decide +kernel
theorem mw_639 : Cond.methodLink RX12 285 yX12_part ∈ wsL_law := inr_27 _ (List.mem_of_getElem? (i := 15) rfl)
theorem mw_642 : Cond.code yX12_part cX12_part 3 (some .boolean) ∈ wsL_law := inr_27 _ (List.mem_of_getElem? (i := 18) rfl)
theorem yk_X12_part : xY yX12_part RX12 cX12_part 3 (some .boolean) 0 := ⟨⟨rfl, by decide +kernel, by decide +kernel, by decide +kernel⟩, mw_5, mw_642⟩
theorem mw_640 : Cond.instanceMethod yX12_part ∈ wsL_law := inr_27 _ (List.mem_of_getElem? (i := 16) rfl)
theorem mw_641 : Cond.selects RX12 yX12_part yX12_part ∈ wsL_law := inr_27 _ (List.mem_of_getElem? (i := 17) rfl)
theorem dX12_script_97 : decode cX12_script 97 = .ok (.istore_n 3, 1) := by decide +kernel
theorem dX12_script_98 : decode cX12_script 98 = .ok (.goto (-24), 3) := by decide +kernel
theorem dX12_script_96 : decode cX12_script 96 = .ok (.iconst 0, 1) := by decide +kernel
theorem dX12_script_82 : decode cX12_script 82 = .ok (.ifCond .eq 14, 3) := by decide +kernel
theorem dX12_script_85 : decode cX12_script 85 = .ok (.aload_n 0, 1) := by decide +kernel
theorem dX12_script_86 : decode cX12_script 86 = .ok (.getfield 167, 3) := by decide +kernel
theorem dX12_script_89 : decode cX12_script 89 = .ok (.ifCond .eq 7, 3) := by decide +kernel
theorem dX12_script_92 : decode cX12_script 92 = .ok (.iconst 1, 1) := by decide +kernel
theorem dX12_script_93 : decode cX12_script 93 = .ok (.goto 4, 3) := by decide +kernel
theorem dX12_script_65 : decode cX12_script 65 = .ok (.ifCond .eq 7, 3) := by decide +kernel
theorem dX12_script_72 : decode cX12_script 72 = .ok (.iconst 0, 1) := by decide +kernel
theorem dX12_script_68 : decode cX12_script 68 = .ok (.iconst 1, 1) := by decide +kernel
theorem dX12_script_69 : decode cX12_script 69 = .ok (.goto 4, 3) := by decide +kernel
theorem dX12_script_40 : decode cX12_script 40 = .ok (.aload_n 0, 1) := by decide +kernel
theorem dX12_script_41 : decode cX12_script 41 = .ok (.getfield 7, 3) := by decide +kernel
theorem dX12_script_44 : decode cX12_script 44 = .ok (.sipush 20760, 3) := by decide +kernel
theorem dX12_script_47 : decode cX12_script 47 = .ok (.iload_n 3, 1) := by decide +kernel
theorem dX12_script_48 : decode cX12_script 48 = .ok (.iadd, 1) := by decide +kernel
theorem dX12_script_49 : decode cX12_script 49 = .ok (.lconst 0, 1) := by decide +kernel
theorem dX12_script_50 : decode cX12_script 50 = .ok (.lastore, 1) := by decide +kernel
theorem dX12_script_51 : decode cX12_script 51 = .ok (.iinc 3 1, 3) := by decide +kernel
theorem dX12_script_54 : decode cX12_script 54 = .ok (.goto (-21), 3) := by decide +kernel
def rm_X12_script : Room := { frames := 10, cells := 0, slots := 0, locals := 222 }
set_option maxHeartbeats 4000000 in
set_option maxRecDepth 100000 in
theorem s_X12_script (l : Launch) (D : va_G) (cy : Nat → ClassId) (L : List Nat) (R O : Nat → Nat) (f0 : Nat → va_E) (a0 : Nat) (m_a0 : a0 ∈ L) (r_a0 : R a0 = 12) (x1 : Int32) (x2 : Int32) (GA : Nat) (m_GA : GA ∈ L) (r_GA : R GA = 61) (t_GA : fld f0 a0 0 = .ref GA) (GP : Nat) (m_GP : GP ∈ L) (r_GP : R GP = 69) (t_GP : fld f0 a0 22 = .ref GP) (GL : Nat) (m_GL : GL ∈ L) (r_GL : R GL = 70) (t_GL : fld f0 a0 23 = .ref GL) (GT : Nat) (m_GT : GT ∈ L) (r_GT : R GT = 64) (t_GT : fld f0 a0 6 = .ref GT) (pre0 : RBA GA f0) (pre1 : GZ GP GL f0) : ∀ sz, Met l yX12_script (Cond.code yX12_script cX12_script 5 (some .int) :: wsL_law) rm_X12_script (va_Pc [.ref a0, .int x1, .int x2] (tPZ D cy L R (TT cy L R) f0 sz)) (va_Qi (fun (r : Int32) f1 => fr L R [(12, 1), (12, 9), (12, 10), (12, 11), (12, 12), (12, 13), (12, 14), (12, 15), (12, 16), (12, 17), (12, 19), (12, 20)] [12, 61, 66] f0 f1 ∧ RBA GA f1 ∧ GZ GP GL f1) (tB D (tA L sz) L R (TT cy L R)) (tA L sz)) 0 0 (tA L sz) := by
  refine tw_enteri (by decide +kernel) rfl (Nat.le_of_ble_eq_true rfl) ?_
  intro p e s m below meth c A ls args Q F hZ h hl hret
  have hl : lv_has ls 5 [(0, .ref a0), (1, .int x1), (2, .int x2)] := hl
  have hk : fr L R [(12, 1), (12, 9), (12, 10), (12, 11), (12, 12), (12, 13), (12, 14), (12, 15), (12, 16), (12, 17), (12, 19), (12, 20)] [12, 61, 66] f0 f0 := fr.rf
  have hR := pre0
  have hX := pre1
  refine lv_aload_n F.1 F.2.1 dX12_script_0 rfl (lv_at hl 0 rfl) ?_
  refine lv_iload_n F.1 F.2.1 dX12_script_1 rfl (lv_at hl 1 rfl) ?_
  refine tw_Vi (As := [.int x1]) F hZ h yk_X12_isScript mw_635 mw_636 mw_637 (s_X12_isScript l D cy L R O f0 a0 m_a0 r_a0 x1) rfl rfl m_a0 r_a0 (fun e q => (T_12 e).mp q) rfl hl.1 rfl (Nat.le_of_ble_eq_true rfl) ⟨Nat.le_of_ble_eq_true rfl, Nat.le_of_ble_eq_true rfl⟩ ⟨Nat.le_of_ble_eq_true rfl, Nat.le_of_ble_eq_true rfl⟩ dX12_script_2 (fun v2 f1 H locs hp1 h => ?_)
  obtain ⟨rfl, hv2a, hv2b, hv2p0⟩ := hp1
  refine tw_if_eq (tgt := 20) F dX12_script_5 (by decide) (fun b3 => ?_) (fun b3 => ?_)
  · refine lv_aload_n F.1 F.2.1 dX12_script_20 rfl (lv_at hl 0 rfl) ?_
    refine tw_iconst F dX12_script_21 ki_1 (fun z4 hz4 => ?_)
    refine tw_Vi (As := [.int z4]) F hZ h yk_X12_refuse mw_452 mw_453 mw_454 (s_X12_refuse l D cy L R O f0 a0 m_a0 r_a0 z4 ⟨by omega, by omega⟩) rfl rfl m_a0 r_a0 (fun e q => (T_12 e).mp q) rfl hl.1 rfl (Nat.le_of_ble_eq_true rfl) ⟨Nat.le_of_ble_eq_true rfl, Nat.le_of_ble_eq_true rfl⟩ ⟨Nat.le_of_ble_eq_true rfl, Nat.le_of_ble_eq_true rfl⟩ dX12_script_22 (fun v6 f5 H locs hp5 h => ?_)
    obtain ⟨hf5, hv6a, hv6b⟩ := hp5
    have hR : RBA GA f5 := hR.fm hf5 m_GA r_GA (by decide +kernel)
    have hX : GZ GP GL f5 := hX.fm hf5 m_GP r_GP m_GL r_GL (by decide +kernel) (by decide +kernel)
    have hk : fr L R [(12, 1), (12, 9), (12, 10), (12, 11), (12, 12), (12, 13), (12, 14), (12, 15), (12, 16), (12, 17), (12, 19), (12, 20)] [12, 61, 66] f0 f5 := hk.tr hf5 rfl rfl
    have e7 : fld f5 a0 0 = .ref GA := (hf5.efl m_a0 r_a0 rfl).trans t_GA
    have e8 : fld f5 a0 22 = .ref GP := (hf5.efl m_a0 r_a0 rfl).trans t_GP
    have e9 : fld f5 a0 23 = .ref GL := (hf5.efl m_a0 r_a0 rfl).trans t_GL
    have e10 : fld f5 a0 6 = .ref GT := (hf5.efl m_a0 r_a0 rfl).trans t_GT
    exact hret f5 _ _ _ _ v6 dX12_script_25 rfl ⟨hk, hR, hX⟩ h
  · refine lv_iload_n F.1 F.2.1 dX12_script_8 rfl (lv_at hl 2 rfl) ?_
    refine tw_if_lt (tgt := 20) F dX12_script_9 (by decide) (fun b11 => ?_) (fun b11 => ?_)
    · refine lv_aload_n F.1 F.2.1 dX12_script_20 rfl (lv_at hl 0 rfl) ?_
      refine tw_iconst F dX12_script_21 ki_1 (fun z12 hz12 => ?_)
      refine tw_Vi (As := [.int z12]) F hZ h yk_X12_refuse mw_452 mw_453 mw_454 (s_X12_refuse l D cy L R O f0 a0 m_a0 r_a0 z12 ⟨by omega, by omega⟩) rfl rfl m_a0 r_a0 (fun e q => (T_12 e).mp q) rfl hl.1 rfl (Nat.le_of_ble_eq_true rfl) ⟨Nat.le_of_ble_eq_true rfl, Nat.le_of_ble_eq_true rfl⟩ ⟨Nat.le_of_ble_eq_true rfl, Nat.le_of_ble_eq_true rfl⟩ dX12_script_22 (fun v14 f13 H locs hp13 h => ?_)
      obtain ⟨hf13, hv14a, hv14b⟩ := hp13
      have hR : RBA GA f13 := hR.fm hf13 m_GA r_GA (by decide +kernel)
      have hX : GZ GP GL f13 := hX.fm hf13 m_GP r_GP m_GL r_GL (by decide +kernel) (by decide +kernel)
      have hk : fr L R [(12, 1), (12, 9), (12, 10), (12, 11), (12, 12), (12, 13), (12, 14), (12, 15), (12, 16), (12, 17), (12, 19), (12, 20)] [12, 61, 66] f0 f13 := hk.tr hf13 rfl rfl
      have e15 : fld f13 a0 0 = .ref GA := (hf13.efl m_a0 r_a0 rfl).trans t_GA
      have e16 : fld f13 a0 22 = .ref GP := (hf13.efl m_a0 r_a0 rfl).trans t_GP
      have e17 : fld f13 a0 23 = .ref GL := (hf13.efl m_a0 r_a0 rfl).trans t_GL
      have e18 : fld f13 a0 6 = .ref GT := (hf13.efl m_a0 r_a0 rfl).trans t_GT
      exact hret f13 _ _ _ _ v14 dX12_script_25 rfl ⟨hk, hR, hX⟩ h
    · refine lv_iload_n F.1 F.2.1 dX12_script_12 rfl (lv_at hl 2 rfl) ?_
      refine lv_aload_n F.1 F.2.1 dX12_script_13 rfl (lv_at hl 0 rfl) ?_
      refine g_12_144 F h m_a0 r_a0 dX12_script_14 (fun v19 hv19 hv19a hv19b => ?_)
      refine tw_icmp_le (tgt := 26) F dX12_script_17 (by decide) (fun b20 => ?_) (fun b20 => ?_)
      · refine lv_aload_n F.1 F.2.1 dX12_script_26 rfl (lv_at hl 0 rfl) ?_
        refine lv_iload_n F.1 F.2.1 dX12_script_27 rfl (lv_at hl 2 rfl) ?_
        refine tw_Vv (As := [.int x2]) F hZ h yk_X12_begins mw_456 mw_457 mw_458 (s_X12_begins l D cy L R O f0 a0 m_a0 r_a0 x2 ⟨by omega, by omega⟩) rfl rfl m_a0 r_a0 (fun e q => (T_12 e).mp q) rfl hl.1 rfl (Nat.le_of_ble_eq_true rfl) ⟨Nat.le_of_ble_eq_true rfl, Nat.le_of_ble_eq_true rfl⟩ ⟨Nat.le_of_ble_eq_true rfl, Nat.le_of_ble_eq_true rfl⟩ dX12_script_28 (fun f21 H locs hp21 h => ?_)
        have hf21 := hp21
        have hR : RBA GA f21 := hR.fm hf21 m_GA r_GA (by decide +kernel)
        have hX : GZ GP GL f21 := hX.fm hf21 m_GP r_GP m_GL r_GL (by decide +kernel) (by decide +kernel)
        have hk : fr L R [(12, 1), (12, 9), (12, 10), (12, 11), (12, 12), (12, 13), (12, 14), (12, 15), (12, 16), (12, 17), (12, 19), (12, 20)] [12, 61, 66] f0 f21 := hk.tr hf21 (by decide +kernel) (by decide +kernel)
        have e23 : fld f21 a0 0 = .ref GA := (hf21.efl m_a0 r_a0 rfl).trans t_GA
        have e24 : fld f21 a0 22 = .ref GP := (hf21.efl m_a0 r_a0 rfl).trans t_GP
        have e25 : fld f21 a0 23 = .ref GL := (hf21.efl m_a0 r_a0 rfl).trans t_GL
        have e26 : fld f21 a0 6 = .ref GT := (hf21.efl m_a0 r_a0 rfl).trans t_GT
        refine tw_iconst F dX12_script_31 ki_0 (fun z27 hz27 => ?_)
        refine lv_istore_n (lv' := [(3, .int z27), (0, .ref a0), (1, .int x1), (2, .int x2)]) F.1 F.2.1 dX12_script_32 rfl hl (by decide) rfl (fun ls hl => ?_)
        have j_33 : ∀ (n33 : Nat) (f28 : Nat → va_E) (H : Heap) (locs : List Loc) (ls : Array Slot) (x3_33 : Int32), 0 ≤ x3_33.toInt → x3_33.toInt ≤ 1650 → ((∀ q : Nat, (q : Int) < x3_33.toInt → elj f28 GA (20760 + q) = 0)) → ((1650 - x3_33.toInt)).toNat < n33 → tS D cy A s.heap L R (TT cy L R) f28 s H locs → RBA GA f28 → GZ GP GL f28 → fr L R [(12, 1), (12, 9), (12, 10), (12, 11), (12, 12), (12, 13), (12, 14), (12, 15), (12, 16), (12, 17), (12, 19), (12, 20)] [12, 61, 66] f0 f28 → fr L R [] [61] f21 f28 → lv_has ls 5 [(0, .ref a0), (1, .int x1), (3, .int x3_33)] → W p l e rm_X12_script s m args below meth c H locs 0 0 Q (F0 m 33 ls []) := by
          intro n33
          induction n33 with
          | zero =>
            intro f28 H locs ls x3_33 b29 b30 ip33_0 b31 h hR hX hk hb33 hl
            exfalso
            omega
          | succ n33 ih33 =>
            intro f28 H locs ls x3_33 b29 b30 ip33_0 b31 h hR hX hk hb33 hl
            have e32 : fld f28 a0 0 = .ref GA := (hb33.efl m_a0 r_a0 rfl).trans e23
            have e33 : fld f28 a0 22 = .ref GP := (hb33.efl m_a0 r_a0 rfl).trans e24
            have e34 : fld f28 a0 23 = .ref GL := (hb33.efl m_a0 r_a0 rfl).trans e25
            have e35 : fld f28 a0 6 = .ref GT := (hb33.efl m_a0 r_a0 rfl).trans e26
            refine lv_iload_n F.1 F.2.1 dX12_script_33 rfl (lv_at hl 2 rfl) ?_
            refine tw_sipush F dX12_script_34 ks_1650 (fun z36 hz36 => ?_)
            refine tw_icmp_ge (tgt := 57) F dX12_script_37 (by decide) (fun b37 => ?_) (fun b37 => ?_)
            · have hRN : RB GA 20760 f28 := RB_0 (fun q hq => ip33_0 q (by omega))
              refine lv_aload_n F.1 F.2.1 dX12_script_57 rfl (lv_at hl 0 rfl) ?_
              refine tw_Vv (As := []) F hZ h yk_X12_ahead0 mw_468 mw_469 mw_470 (s_X12_ahead0 l D cy L R O f28 a0 m_a0 r_a0) rfl rfl m_a0 r_a0 (fun e q => (T_12 e).mp q) rfl hl.1 rfl (Nat.le_of_ble_eq_true rfl) ⟨Nat.le_of_ble_eq_true rfl, Nat.le_of_ble_eq_true rfl⟩ ⟨Nat.le_of_ble_eq_true rfl, Nat.le_of_ble_eq_true rfl⟩ dX12_script_58 (fun f38 H locs hp38 h => ?_)
              obtain ⟨hf38, hv39p0⟩ := hp38
              have hR : RBA GA f38 := hR.fm hf38 m_GA r_GA (by decide +kernel)
              have hX : GZ GP GL f38 := hX.fm hf38 m_GP r_GP m_GL r_GL (by decide +kernel) (by decide +kernel)
              have hRN : RB GA 20760 f38 := hRN.fm hf38 m_GA r_GA (by decide +kernel)
              have hk : fr L R [(12, 1), (12, 9), (12, 10), (12, 11), (12, 12), (12, 13), (12, 14), (12, 15), (12, 16), (12, 17), (12, 19), (12, 20)] [12, 61, 66] f0 f38 := hk.tr hf38 rfl rfl
              have e40 : fld f38 a0 0 = .ref GA := (hf38.efl m_a0 r_a0 rfl).trans e32
              have e41 : fld f38 a0 22 = .ref GP := (hf38.efl m_a0 r_a0 rfl).trans e33
              have e42 : fld f38 a0 23 = .ref GL := (hf38.efl m_a0 r_a0 rfl).trans e34
              have e43 : fld f38 a0 6 = .ref GT := (hf38.efl m_a0 r_a0 rfl).trans e35
              have su58 := SU_le h m_GA r_GA
              refine lv_aload_n F.1 F.2.1 dX12_script_61 rfl (lv_at hl 0 rfl) ?_
              refine g_12_167 F h m_a0 r_a0 dX12_script_62 (fun v44 hv44 hv44a hv44b => ?_)
              have j_73 : ∀ (ls : Array Slot) (y0_73 : Int32), 0 ≤ y0_73.toInt → y0_73.toInt ≤ 1 → lv_has ls 5 [(0, .ref a0), (1, .int x1)] → W p l e rm_X12_script s m args below meth c H locs 0 0 Q (F0 m 73 ls [.int y0_73]) := by
                intro ls y0_73 b45 b46 hl
                refine lv_istore_n (lv' := [(3, .int y0_73), (0, .ref a0), (1, .int x1)]) F.1 F.2.1 dX12_script_73 rfl hl (by decide) rfl (fun ls hl => ?_)
                have j_74 : ∀ (n74 : Nat) (f47 : Nat → va_E) (H : Heap) (locs : List Loc) (ls : Array Slot) (x3_74 : Int32), 0 ≤ x3_74.toInt → x3_74.toInt ≤ 1 → SU GA f47 ≤ 49 → ((2 * (49 - SU GA f47) + x3_74.toInt)).toNat < n74 → tS D cy A s.heap L R (TT cy L R) f47 s H locs → RBA GA f47 → GZ GP GL f47 → RB GA 20760 f47 → fr L R [(12, 1), (12, 9), (12, 10), (12, 11), (12, 12), (12, 13), (12, 14), (12, 15), (12, 16), (12, 17), (12, 19), (12, 20)] [12, 61, 66] f0 f47 → fr L R [(12, 11), (12, 12), (12, 13), (12, 14), (12, 16), (12, 17), (12, 19)] [12, 61] f38 f47 → lv_has ls 5 [(0, .ref a0), (1, .int x1), (3, .int x3_74)] → W p l e rm_X12_script s m args below meth c H locs 0 0 Q (F0 m 74 ls []) := by
                  intro n74
                  induction n74 with
                  | zero =>
                    intro f47 H locs ls x3_74 b48 b49 b50 b51 h hR hX hRN hk hb74 hl
                    exfalso
                    omega
                  | succ n74 ih74 =>
                    intro f47 H locs ls x3_74 b48 b49 b50 b51 h hR hX hRN hk hb74 hl
                    have e52 : fld f47 a0 0 = .ref GA := (hb74.efl m_a0 r_a0 rfl).trans e40
                    have e53 : fld f47 a0 22 = .ref GP := (hb74.efl m_a0 r_a0 rfl).trans e41
                    have e54 : fld f47 a0 23 = .ref GL := (hb74.efl m_a0 r_a0 rfl).trans e42
                    have e55 : fld f47 a0 6 = .ref GT := (hb74.efl m_a0 r_a0 rfl).trans e43
                    refine lv_iload_n F.1 F.2.1 dX12_script_74 rfl (lv_at hl 2 rfl) ?_
                    refine tw_if_eq (tgt := 101) F dX12_script_75 (by decide) (fun b56 => ?_) (fun b56 => ?_)
                    · refine lv_aload_n F.1 F.2.1 dX12_script_101 rfl (lv_at hl 0 rfl) ?_
                      refine g_12_181 F h m_a0 r_a0 dX12_script_102 (fun v57 hv57 => ?_)
                      have j_182 : ∀ (f58 : Nat → va_E) (H : Heap) (locs : List Loc) (ls : Array Slot), tS D cy A s.heap L R (TT cy L R) f58 s H locs → RBA GA f58 → GZ GP GL f58 → RB GA 20760 f58 → fr L R [(12, 1), (12, 9), (12, 10), (12, 11), (12, 12), (12, 13), (12, 14), (12, 15), (12, 16), (12, 17), (12, 19), (12, 20)] [12, 61, 66] f0 f58 → fr L R [(12, 16), (12, 17), (12, 20)] [12, 61] f47 f58 → lv_has ls 5 [(0, .ref a0), (1, .int x1)] → W p l e rm_X12_script s m args below meth c H locs 0 0 Q (F0 m 182 ls []) := by
                        intro f58 H locs ls h hR hX hRN hk hb182 hl
                        have e59 : fld f58 a0 0 = .ref GA := (hb182.efl m_a0 r_a0 rfl).trans e52
                        have e60 : fld f58 a0 22 = .ref GP := (hb182.efl m_a0 r_a0 rfl).trans e53
                        have e61 : fld f58 a0 23 = .ref GL := (hb182.efl m_a0 r_a0 rfl).trans e54
                        have e62 : fld f58 a0 6 = .ref GT := (hb182.efl m_a0 r_a0 rfl).trans e55
                        have e63 : fi f58 a0 11 = fi f47 a0 11 := hb182.efi m_a0 r_a0 rfl
                        refine lv_aload_n F.1 F.2.1 dX12_script_182 rfl (lv_at hl 0 rfl) ?_
                        refine lv_aload_n F.1 F.2.1 dX12_script_183 rfl (lv_at hl 0 rfl) ?_
                        refine g_12_181 F h m_a0 r_a0 dX12_script_184 (fun v64 hv64 => ?_)
                        refine p_12_34 F h m_a0 r_a0 dX12_script_187 (fun f65 H locs e65p hf65 h => ?_)
                        have hR : RBA GA f65 := hR.fm hf65 m_GA r_GA (by decide +kernel)
                        have hX : GZ GP GL f65 := hX.fm hf65 m_GP r_GP m_GL r_GL (by decide +kernel) (by decide +kernel)
                        have hRN : RB GA 20760 f65 := hRN.fm hf65 m_GA r_GA (by decide +kernel)
                        have hk : fr L R [(12, 1), (12, 9), (12, 10), (12, 11), (12, 12), (12, 13), (12, 14), (12, 15), (12, 16), (12, 17), (12, 19), (12, 20)] [12, 61, 66] f0 f65 := hk.tr hf65 rfl rfl
                        have e66 : fld f65 a0 0 = .ref GA := (hf65.efl m_a0 r_a0 rfl).trans e59
                        have e67 : fld f65 a0 22 = .ref GP := (hf65.efl m_a0 r_a0 rfl).trans e60
                        have e68 : fld f65 a0 23 = .ref GL := (hf65.efl m_a0 r_a0 rfl).trans e61
                        have e69 : fld f65 a0 6 = .ref GT := (hf65.efl m_a0 r_a0 rfl).trans e62
                        have e70 : fi f65 a0 11 = fi f58 a0 11 := hf65.efi m_a0 r_a0 rfl
                        have e71 : fi f65 a0 17 = fi f58 a0 17 := hf65.efi m_a0 r_a0 rfl
                        refine lv_aload_n F.1 F.2.1 dX12_script_190 rfl (lv_at hl 0 rfl) ?_
                        refine g_12_181 F h m_a0 r_a0 dX12_script_191 (fun v72 hv72 => ?_)
                        refine tw_if_le (tgt := 204) F dX12_script_194 (by decide) (fun b73 => ?_) (fun b73 => ?_)
                        · refine lv_aload_n F.1 F.2.1 dX12_script_204 rfl (lv_at hl 0 rfl) ?_
                          refine tw_sipush F dX12_script_205 ks_20760 (fun z74 hz74 => ?_)
                          refine tw_Vv (As := [.int z74]) F hZ h yk_X12_fresh mw_745 mw_746 mw_747 (s_X12_fresh l D cy L R O f65 a0 m_a0 r_a0 z74 ⟨by omega, by omega⟩ GA m_GA r_GA e66 GP m_GP r_GP e67 GL m_GL r_GL e68 GT m_GT r_GT e69 (isB_e isB_n (by omega))) rfl rfl m_a0 r_a0 (fun e q => (T_12 e).mp q) rfl hl.1 rfl (Nat.le_of_ble_eq_true rfl) ⟨Nat.le_of_ble_eq_true rfl, Nat.le_of_ble_eq_true rfl⟩ ⟨Nat.le_of_ble_eq_true rfl, Nat.le_of_ble_eq_true rfl⟩ dX12_script_208 (fun f75 H locs hp75 h => ?_)
                          obtain ⟨hf75, hv76p0⟩ := hp75
                          have hR : RBA GA f75 := hR.kw hv76p0 (Or.inl (by omega))
                          have hX : GZ GP GL f75 := hX.fm hf75 m_GP r_GP m_GL r_GL (by decide +kernel) (by decide +kernel)
                          have hRN : RB GA 20760 f75 := hRN.kw hv76p0 (by omega)
                          have hk : fr L R [(12, 1), (12, 9), (12, 10), (12, 11), (12, 12), (12, 13), (12, 14), (12, 15), (12, 16), (12, 17), (12, 19), (12, 20)] [12, 61, 66] f0 f75 := hk.tr hf75 rfl rfl
                          have e77 : fld f75 a0 0 = .ref GA := (hf75.efl m_a0 r_a0 rfl).trans e66
                          have e78 : fld f75 a0 22 = .ref GP := (hf75.efl m_a0 r_a0 rfl).trans e67
                          have e79 : fld f75 a0 23 = .ref GL := (hf75.efl m_a0 r_a0 rfl).trans e68
                          have e80 : fld f75 a0 6 = .ref GT := (hf75.efl m_a0 r_a0 rfl).trans e69
                          have e81 : fi f75 a0 11 = fi f65 a0 11 := hf75.efi m_a0 r_a0 rfl
                          have e82 : fi f75 a0 17 = fi f65 a0 17 := hf75.efi m_a0 r_a0 rfl
                          refine lv_aload_n F.1 F.2.1 dX12_script_211 rfl (lv_at hl 0 rfl) ?_
                          refine tw_sipush F dX12_script_212 ks_20760 (fun z83 hz83 => ?_)
                          refine tw_sipush F dX12_script_215 ks_1650 (fun z84 hz84 => ?_)
                          refine lv_iload_n F.1 F.2.1 dX12_script_218 rfl (lv_at hl 1 rfl) ?_
                          refine tu_imull F dX12_script_219 hz84 (by omega) (fun z85 hz85 => ?_)
                          refine tw_sipush F dX12_script_220 ks_1650 (fun z86 hz86 => ?_)
                          have hR0 := hR
                          have hRN0 := hRN
                          refine tw_Vv (As := [.int z83, .int z85, .int z86]) F hZ h yk_X12_copies mw_749 mw_750 mw_751 (s_X12_copies l D cy L R O f75 a0 m_a0 r_a0 z83 ⟨by omega, by omega⟩ z85 ⟨by omega, by omega⟩ z86 ⟨by omega, by omega⟩ GA m_GA r_GA e77 GP m_GP r_GP e78 GL m_GL r_GL e79 GT m_GT r_GT e80 (by rw [show z86.toInt.toNat = 1650 by omega]; exact CPc_B (isB_e isB_n (by omega)) (isB_e (isB_s (s := x1.toInt.toNat) (by omega)) (by omega))) (by omega) (by omega) (by omega)) rfl rfl m_a0 r_a0 (fun e q => (T_12 e).mp q) rfl hl.1 rfl (Nat.le_of_ble_eq_true rfl) ⟨Nat.le_of_ble_eq_true rfl, Nat.le_of_ble_eq_true rfl⟩ ⟨Nat.le_of_ble_eq_true rfl, Nat.le_of_ble_eq_true rfl⟩ dX12_script_223 (fun f87 H locs hp87 h => ?_)
                          obtain ⟨hf87, hv88p0, hv88p1⟩ := hp87
                          have hX : GZ GP GL f87 := hX.fm hf87 m_GP r_GP m_GL r_GL (by decide +kernel) (by decide +kernel)
                          have hk : fr L R [(12, 1), (12, 9), (12, 10), (12, 11), (12, 12), (12, 13), (12, 14), (12, 15), (12, 16), (12, 17), (12, 19), (12, 20)] [12, 61, 66] f0 f87 := hk.tr hf87 rfl rfl
                          have e89 : fld f87 a0 0 = .ref GA := (hf87.efl m_a0 r_a0 rfl).trans e77
                          have e90 : fld f87 a0 22 = .ref GP := (hf87.efl m_a0 r_a0 rfl).trans e78
                          have e91 : fld f87 a0 23 = .ref GL := (hf87.efl m_a0 r_a0 rfl).trans e79
                          have e92 : fld f87 a0 6 = .ref GT := (hf87.efl m_a0 r_a0 rfl).trans e80
                          have e93 : fi f87 a0 11 = fi f75 a0 11 := hf87.efi m_a0 r_a0 rfl
                          have e94 : fi f87 a0 17 = fi f75 a0 17 := hf87.efi m_a0 r_a0 rfl
                          have hR : RBA GA f87 := RBA.cp (s := x1.toInt.toNat) (a := z85.toInt.toNat) hR0 hRN0 (by omega) (by omega) (by have q := hv88p0; rw [show z86.toInt.toNat = 1650 by omega] at q; exact q) (fun q hq => by have w := hv88p1 q (by omega); rw [show z83.toInt.toNat = 20760 by omega] at w; exact w)
                          refine lv_aload_n F.1 F.2.1 dX12_script_226 rfl (lv_at hl 0 rfl) ?_
                          refine lv_aload_n F.1 F.2.1 dX12_script_227 rfl (lv_at hl 0 rfl) ?_
                          refine g_12_7 F h m_a0 r_a0 dX12_script_228 (fun o95 m_o95 r_o95 ho95 => ?_)
                          obtain rfl := (fld_inj e89 ho95).symm
                          refine tw_sipush F dX12_script_231 ks_20761 (fun z96 hz96 => ?_)
                          refine ld_61 F h m_GA r_GA (by omega) dX12_script_234 (fun v97 hv97a => ?_)
                          have hv97b := clP_2.mp (atb hv97a (ac_c (b := 20760) 1 isB_n (by decide) (by omega) rfl))
                          refine tw_l2i F dX12_script_235 (by omega) (by omega) (fun z98 hz98 => ?_)
                          refine tw_Vi (As := [.int z98]) F hZ h yk_X12_gives mw_499 mw_500 mw_501 (s_X12_gives l D cy L R O f87 a0 m_a0 r_a0 z98) rfl rfl m_a0 r_a0 (fun e q => (T_12 e).mp q) rfl hl.1 rfl (Nat.le_of_ble_eq_true rfl) ⟨Nat.le_of_ble_eq_true rfl, Nat.le_of_ble_eq_true rfl⟩ ⟨Nat.le_of_ble_eq_true rfl, Nat.le_of_ble_eq_true rfl⟩ dX12_script_236 (fun v100 f99 H locs hp99 h => ?_)
                          have hf99 := hp99
                          have hX : GZ GP GL f99 := hX.fm hf99 m_GP r_GP m_GL r_GL (by decide +kernel) (by decide +kernel)
                          have hR : RBA GA f99 := hR.fm hf99 m_GA r_GA (by decide +kernel)
                          have hk : fr L R [(12, 1), (12, 9), (12, 10), (12, 11), (12, 12), (12, 13), (12, 14), (12, 15), (12, 16), (12, 17), (12, 19), (12, 20)] [12, 61, 66] f0 f99 := hk.tr hf99 rfl rfl
                          have e101 : fld f99 a0 0 = .ref GA := (hf99.efl m_a0 r_a0 rfl).trans e89
                          have e102 : fld f99 a0 22 = .ref GP := (hf99.efl m_a0 r_a0 rfl).trans e90
                          have e103 : fld f99 a0 23 = .ref GL := (hf99.efl m_a0 r_a0 rfl).trans e91
                          have e104 : fld f99 a0 6 = .ref GT := (hf99.efl m_a0 r_a0 rfl).trans e92
                          have e105 : fi f99 a0 11 = fi f87 a0 11 := hf99.efi m_a0 r_a0 rfl
                          have e106 : fi f99 a0 17 = fi f87 a0 17 := hf99.efi m_a0 r_a0 rfl
                          exact hret f99 _ _ _ _ v100 dX12_script_239 rfl ⟨hk, hR, hX⟩ h
                        · refine lv_aload_n F.1 F.2.1 dX12_script_197 rfl (lv_at hl 0 rfl) ?_
                          refine tw_bipush F dX12_script_198 kb_9 (fun z107 hz107 => ?_)
                          refine tw_Vi (As := [.int z107]) F hZ h yk_X12_refuse mw_452 mw_453 mw_454 (s_X12_refuse l D cy L R O f65 a0 m_a0 r_a0 z107 ⟨by omega, by omega⟩) rfl rfl m_a0 r_a0 (fun e q => (T_12 e).mp q) rfl hl.1 rfl (Nat.le_of_ble_eq_true rfl) ⟨Nat.le_of_ble_eq_true rfl, Nat.le_of_ble_eq_true rfl⟩ ⟨Nat.le_of_ble_eq_true rfl, Nat.le_of_ble_eq_true rfl⟩ dX12_script_200 (fun v109 f108 H locs hp108 h => ?_)
                          obtain ⟨hf108, hv109a, hv109b⟩ := hp108
                          have hR : RBA GA f108 := hR.fm hf108 m_GA r_GA (by decide +kernel)
                          have hX : GZ GP GL f108 := hX.fm hf108 m_GP r_GP m_GL r_GL (by decide +kernel) (by decide +kernel)
                          have hRN : RB GA 20760 f108 := hRN.fm hf108 m_GA r_GA (by decide +kernel)
                          have hk : fr L R [(12, 1), (12, 9), (12, 10), (12, 11), (12, 12), (12, 13), (12, 14), (12, 15), (12, 16), (12, 17), (12, 19), (12, 20)] [12, 61, 66] f0 f108 := hk.tr hf108 rfl rfl
                          have e110 : fld f108 a0 0 = .ref GA := (hf108.efl m_a0 r_a0 rfl).trans e66
                          have e111 : fld f108 a0 22 = .ref GP := (hf108.efl m_a0 r_a0 rfl).trans e67
                          have e112 : fld f108 a0 23 = .ref GL := (hf108.efl m_a0 r_a0 rfl).trans e68
                          have e113 : fld f108 a0 6 = .ref GT := (hf108.efl m_a0 r_a0 rfl).trans e69
                          have e114 : fi f108 a0 11 = fi f65 a0 11 := hf108.efi m_a0 r_a0 rfl
                          have e115 : fi f108 a0 17 = fi f65 a0 17 := hf108.efi m_a0 r_a0 rfl
                          exact hret f108 _ _ _ _ v109 dX12_script_203 rfl ⟨hk, hR, hX⟩ h
                      have hb182 : fr L R [(12, 16), (12, 17), (12, 20)] [12, 61] f47 f47 := fr.rf
                      refine tw_if_ne (tgt := 182) F dX12_script_105 (by decide) (fun b116 => ?_) (fun b116 => ?_)
                      · exact j_182 f47 _ _ _ h hR hX hRN hk hb182 (lv_sub hl [0, 1] rfl)
                      · refine lv_aload_n F.1 F.2.1 dX12_script_108 rfl (lv_at hl 0 rfl) ?_
                        refine tw_iconst F dX12_script_109 ki_m1 (fun z117 hz117 => ?_)
                        refine p_12_279 F h m_a0 r_a0 dX12_script_110 (fun f118 H locs e118p hf118 h => ?_)
                        have hR : RBA GA f118 := hR.fm hf118 m_GA r_GA (by decide +kernel)
                        have hX : GZ GP GL f118 := hX.fm hf118 m_GP r_GP m_GL r_GL (by decide +kernel) (by decide +kernel)
                        have hRN : RB GA 20760 f118 := hRN.fm hf118 m_GA r_GA (by decide +kernel)
                        have hk : fr L R [(12, 1), (12, 9), (12, 10), (12, 11), (12, 12), (12, 13), (12, 14), (12, 15), (12, 16), (12, 17), (12, 19), (12, 20)] [12, 61, 66] f0 f118 := hk.tr hf118 rfl rfl
                        have hb182 : fr L R [(12, 16), (12, 17), (12, 20)] [12, 61] f47 f118 := hb182.tr hf118 rfl rfl
                        have e119 : fld f118 a0 0 = .ref GA := (hf118.efl m_a0 r_a0 rfl).trans e52
                        have e120 : fld f118 a0 22 = .ref GP := (hf118.efl m_a0 r_a0 rfl).trans e53
                        have e121 : fld f118 a0 23 = .ref GL := (hf118.efl m_a0 r_a0 rfl).trans e54
                        have e122 : fld f118 a0 6 = .ref GT := (hf118.efl m_a0 r_a0 rfl).trans e55
                        have e123 : fi f118 a0 11 = fi f47 a0 11 := hf118.efi m_a0 r_a0 rfl
                        have e124 : fi f118 a0 17 = fi f47 a0 17 := hf118.efi m_a0 r_a0 rfl
                        refine tw_iconst F dX12_script_113 ki_0 (fun z125 hz125 => ?_)
                        refine lv_istore (lv' := [(4, .int z125), (0, .ref a0), (1, .int x1), (3, .int x3_74)]) F.1 F.2.1 dX12_script_114 hl (by decide) rfl (fun ls hl => ?_)
                        have j_116 : ∀ (n116 : Nat) (f126 : Nat → va_E) (H : Heap) (locs : List Loc) (ls : Array Slot) (x4_116 : Int32), 0 ≤ x4_116.toInt → x4_116.toInt ≤ 24 → ((24 - x4_116.toInt)).toNat < n116 → tS D cy A s.heap L R (TT cy L R) f126 s H locs → RBA GA f126 → GZ GP GL f126 → RB GA 20760 f126 → fr L R [(12, 1), (12, 9), (12, 10), (12, 11), (12, 12), (12, 13), (12, 14), (12, 15), (12, 16), (12, 17), (12, 19), (12, 20)] [12, 61, 66] f0 f126 → fr L R [(12, 20)] [12, 61] f118 f126 → lv_has ls 5 [(0, .ref a0), (1, .int x1), (4, .int x4_116)] → W p l e rm_X12_script s m args below meth c H locs 0 0 Q (F0 m 116 ls []) := by
                          intro n116
                          induction n116 with
                          | zero =>
                            intro f126 H locs ls x4_116 b127 b128 b129 h hR hX hRN hk hb116 hl
                            exfalso
                            omega
                          | succ n116 ih116 =>
                            intro f126 H locs ls x4_116 b127 b128 b129 h hR hX hRN hk hb116 hl
                            have hb182 : fr L R [(12, 16), (12, 17), (12, 20)] [12, 61] f47 f126 := hb182.tr hb116 rfl rfl
                            have e130 : fld f126 a0 0 = .ref GA := (hb116.efl m_a0 r_a0 rfl).trans e119
                            have e131 : fld f126 a0 22 = .ref GP := (hb116.efl m_a0 r_a0 rfl).trans e120
                            have e132 : fld f126 a0 23 = .ref GL := (hb116.efl m_a0 r_a0 rfl).trans e121
                            have e133 : fld f126 a0 6 = .ref GT := (hb116.efl m_a0 r_a0 rfl).trans e122
                            have e134 : fi f126 a0 11 = fi f118 a0 11 := hb116.efi m_a0 r_a0 rfl
                            have e135 : fi f126 a0 17 = fi f118 a0 17 := hb116.efi m_a0 r_a0 rfl
                            refine lv_iload F.1 F.2.1 dX12_script_116 (lv_at hl 2 rfl) ?_
                            refine tw_i2l F dX12_script_118 (fun z136 hz136 => ?_)
                            refine lv_aload_n F.1 F.2.1 dX12_script_119 rfl (lv_at hl 0 rfl) ?_
                            refine g_12_7 F h m_a0 r_a0 dX12_script_120 (fun o137 m_o137 r_o137 ho137 => ?_)
                            obtain rfl := (fld_inj e130 ho137).symm
                            refine tw_sipush F dX12_script_123 ks_20761 (fun z138 hz138 => ?_)
                            refine ld_61 F h m_GA r_GA (by omega) dX12_script_126 (fun v139 hv139a => ?_)
                            have hv139b := clP_2.mp (atb hv139a (ac_c (b := 20760) 1 isB_n (by decide) (by omega) rfl))
                            refine tw_lcmp F dX12_script_127 (fun z140 hz140 => ?_)
                            refine tw_if_ge (tgt := 153) F dX12_script_128 (by decide) (fun b141 => ?_) (fun b141 => ?_)
                            · refine lv_aload_n F.1 F.2.1 dX12_script_153 rfl (lv_at hl 0 rfl) ?_
                              refine tw_sipush F dX12_script_154 ks_22252 (fun z142 hz142 => ?_)
                              have hRN0 := hRN
                              refine tw_Vv (As := [.int z142]) F hZ h yk_X12_leads mw_741 mw_742 mw_743 (s_X12_leads l D cy L R O f126 a0 m_a0 r_a0 z142 ⟨by omega, by omega⟩ GA m_GA r_GA e130 GP m_GP r_GP e131 GL m_GL r_GL e132 GT m_GT r_GT e133 (AS_n (b := 20760) isB_n (by omega))) rfl rfl m_a0 r_a0 (fun e q => (T_12 e).mp q) rfl hl.1 rfl (Nat.le_of_ble_eq_true rfl) ⟨Nat.le_of_ble_eq_true rfl, Nat.le_of_ble_eq_true rfl⟩ ⟨Nat.le_of_ble_eq_true rfl, Nat.le_of_ble_eq_true rfl⟩ dX12_script_157 (fun f143 H locs hp143 h => ?_)
                              obtain ⟨hf143, hv144p0⟩ := hp143
                              have hR : RBA GA f143 := hR.kw hv144p0 (Or.inl (by omega))
                              have hX : GZ GP GL f143 := hX.fm hf143 m_GP r_GP m_GL r_GL (by decide +kernel) (by decide +kernel)
                              have hk : fr L R [(12, 1), (12, 9), (12, 10), (12, 11), (12, 12), (12, 13), (12, 14), (12, 15), (12, 16), (12, 17), (12, 19), (12, 20)] [12, 61, 66] f0 f143 := hk.tr hf143 rfl rfl
                              have hb182 : fr L R [(12, 16), (12, 17), (12, 20)] [12, 61] f47 f143 := hb182.tr hf143 rfl rfl
                              have hb116 : fr L R [(12, 20)] [12, 61] f118 f143 := hb116.tr hf143 rfl rfl
                              have e145 : fld f143 a0 0 = .ref GA := (hf143.efl m_a0 r_a0 rfl).trans e130
                              have e146 : fld f143 a0 22 = .ref GP := (hf143.efl m_a0 r_a0 rfl).trans e131
                              have e147 : fld f143 a0 23 = .ref GL := (hf143.efl m_a0 r_a0 rfl).trans e132
                              have e148 : fld f143 a0 6 = .ref GT := (hf143.efl m_a0 r_a0 rfl).trans e133
                              have e149 : fi f143 a0 11 = fi f126 a0 11 := hf143.efi m_a0 r_a0 rfl
                              have e150 : fi f143 a0 17 = fi f126 a0 17 := hf143.efi m_a0 r_a0 rfl
                              have hRN : RB GA 20760 f143 := RB_ld (a := z142.toInt.toNat) hRN0 hv144p0 (by omega)
                              refine lv_aload_n F.1 F.2.1 dX12_script_160 rfl (lv_at hl 0 rfl) ?_
                              refine g_12_279 F h m_a0 r_a0 dX12_script_161 (fun v151 hv151 => ?_)
                              refine tw_iconst F dX12_script_164 ki_m1 (fun z152 hz152 => ?_)
                              refine tw_icmp_eq (tgt := 182) F dX12_script_165 (by decide) (fun b153 => ?_) (fun b153 => ?_)
                              · exact j_182 f143 _ _ _ h hR hX hRN hk hb182 (lv_sub hl [0, 1] rfl)
                              · refine lv_aload_n F.1 F.2.1 dX12_script_168 rfl (lv_at hl 0 rfl) ?_
                                refine tw_bipush F dX12_script_169 kb_6 (fun z154 hz154 => ?_)
                                refine p_12_181 F h m_a0 r_a0 dX12_script_171 (fun f155 H locs e155p hf155 h => ?_)
                                have hR : RBA GA f155 := hR.fm hf155 m_GA r_GA (by decide +kernel)
                                have hX : GZ GP GL f155 := hX.fm hf155 m_GP r_GP m_GL r_GL (by decide +kernel) (by decide +kernel)
                                have hRN : RB GA 20760 f155 := hRN.fm hf155 m_GA r_GA (by decide +kernel)
                                have hk : fr L R [(12, 1), (12, 9), (12, 10), (12, 11), (12, 12), (12, 13), (12, 14), (12, 15), (12, 16), (12, 17), (12, 19), (12, 20)] [12, 61, 66] f0 f155 := hk.tr hf155 rfl rfl
                                have hb182 : fr L R [(12, 16), (12, 17), (12, 20)] [12, 61] f47 f155 := hb182.tr hf155 rfl rfl
                                have e156 : fld f155 a0 0 = .ref GA := (hf155.efl m_a0 r_a0 rfl).trans e145
                                have e157 : fld f155 a0 22 = .ref GP := (hf155.efl m_a0 r_a0 rfl).trans e146
                                have e158 : fld f155 a0 23 = .ref GL := (hf155.efl m_a0 r_a0 rfl).trans e147
                                have e159 : fld f155 a0 6 = .ref GT := (hf155.efl m_a0 r_a0 rfl).trans e148
                                have e160 : fi f155 a0 11 = fi f143 a0 11 := hf155.efi m_a0 r_a0 rfl
                                have e161 : fi f155 a0 20 = fi f143 a0 20 := hf155.efi m_a0 r_a0 rfl
                                refine lv_aload_n F.1 F.2.1 dX12_script_174 rfl (lv_at hl 0 rfl) ?_
                                refine lv_aload_n F.1 F.2.1 dX12_script_175 rfl (lv_at hl 0 rfl) ?_
                                refine g_12_279 F h m_a0 r_a0 dX12_script_176 (fun v162 hv162 => ?_)
                                refine p_12_38 F h m_a0 r_a0 dX12_script_179 (fun f163 H locs e163p hf163 h => ?_)
                                have hR : RBA GA f163 := hR.fm hf163 m_GA r_GA (by decide +kernel)
                                have hX : GZ GP GL f163 := hX.fm hf163 m_GP r_GP m_GL r_GL (by decide +kernel) (by decide +kernel)
                                have hRN : RB GA 20760 f163 := hRN.fm hf163 m_GA r_GA (by decide +kernel)
                                have hk : fr L R [(12, 1), (12, 9), (12, 10), (12, 11), (12, 12), (12, 13), (12, 14), (12, 15), (12, 16), (12, 17), (12, 19), (12, 20)] [12, 61, 66] f0 f163 := hk.tr hf163 rfl rfl
                                have hb182 : fr L R [(12, 16), (12, 17), (12, 20)] [12, 61] f47 f163 := hb182.tr hf163 rfl rfl
                                have e164 : fld f163 a0 0 = .ref GA := (hf163.efl m_a0 r_a0 rfl).trans e156
                                have e165 : fld f163 a0 22 = .ref GP := (hf163.efl m_a0 r_a0 rfl).trans e157
                                have e166 : fld f163 a0 23 = .ref GL := (hf163.efl m_a0 r_a0 rfl).trans e158
                                have e167 : fld f163 a0 6 = .ref GT := (hf163.efl m_a0 r_a0 rfl).trans e159
                                have e168 : fi f163 a0 11 = fi f155 a0 11 := hf163.efi m_a0 r_a0 rfl
                                have e169 : fi f163 a0 20 = fi f155 a0 20 := hf163.efi m_a0 r_a0 rfl
                                have e170 : fi f163 a0 17 = fi f155 a0 17 := hf163.efi m_a0 r_a0 rfl
                                exact j_182 f163 _ _ _ h hR hX hRN hk hb182 (lv_sub hl [0, 1] rfl)
                            · refine lv_aload_n F.1 F.2.1 dX12_script_131 rfl (lv_at hl 0 rfl) ?_
                              refine tw_sipush F dX12_script_132 ks_20812 (fun z171 hz171 => ?_)
                              refine tw_bipush F dX12_script_135 kb_60 (fun z172 hz172 => ?_)
                              refine lv_iload F.1 F.2.1 dX12_script_137 (lv_at hl 2 rfl) ?_
                              refine tu_imull F dX12_script_139 hz172 (by omega) (fun z173 hz173 => ?_)
                              refine tu_iadd F dX12_script_140 (by omega) (fun z174 hz174 => ?_)
                              refine tw_bipush F dX12_script_141 kb_11 (fun z175 hz175 => ?_)
                              refine tu_iadd F dX12_script_143 (by omega) (fun z176 hz176 => ?_)
                              have hRN0 := hRN
                              refine tw_Vv (As := [.int z176]) F hZ h yk_X12_leads mw_741 mw_742 mw_743 (s_X12_leads l D cy L R O f126 a0 m_a0 r_a0 z176 ⟨by omega, by omega⟩ GA m_GA r_GA e130 GP m_GP r_GP e131 GL m_GL r_GL e132 GT m_GT r_GT e133 (AS_r (b := 20760) isB_n (by omega))) rfl rfl m_a0 r_a0 (fun e q => (T_12 e).mp q) rfl hl.1 rfl (Nat.le_of_ble_eq_true rfl) ⟨Nat.le_of_ble_eq_true rfl, Nat.le_of_ble_eq_true rfl⟩ ⟨Nat.le_of_ble_eq_true rfl, Nat.le_of_ble_eq_true rfl⟩ dX12_script_144 (fun f177 H locs hp177 h => ?_)
                              obtain ⟨hf177, hv178p0⟩ := hp177
                              have hR : RBA GA f177 := hR.kw hv178p0 (Or.inl (by omega))
                              have hX : GZ GP GL f177 := hX.fm hf177 m_GP r_GP m_GL r_GL (by decide +kernel) (by decide +kernel)
                              have hk : fr L R [(12, 1), (12, 9), (12, 10), (12, 11), (12, 12), (12, 13), (12, 14), (12, 15), (12, 16), (12, 17), (12, 19), (12, 20)] [12, 61, 66] f0 f177 := hk.tr hf177 rfl rfl
                              have hb182 : fr L R [(12, 16), (12, 17), (12, 20)] [12, 61] f47 f177 := hb182.tr hf177 rfl rfl
                              have hb116 : fr L R [(12, 20)] [12, 61] f118 f177 := hb116.tr hf177 rfl rfl
                              have e179 : fld f177 a0 0 = .ref GA := (hf177.efl m_a0 r_a0 rfl).trans e130
                              have e180 : fld f177 a0 22 = .ref GP := (hf177.efl m_a0 r_a0 rfl).trans e131
                              have e181 : fld f177 a0 23 = .ref GL := (hf177.efl m_a0 r_a0 rfl).trans e132
                              have e182 : fld f177 a0 6 = .ref GT := (hf177.efl m_a0 r_a0 rfl).trans e133
                              have e183 : fi f177 a0 11 = fi f126 a0 11 := hf177.efi m_a0 r_a0 rfl
                              have e184 : fi f177 a0 17 = fi f126 a0 17 := hf177.efi m_a0 r_a0 rfl
                              have hRN : RB GA 20760 f177 := RB_ld (a := z176.toInt.toNat) hRN0 hv178p0 (by omega)
                              refine tu_iinc F dX12_script_147 hl (k := 2) rfl (by decide) ki_1 (by omega) (fun z185 ls hz185 hl => ?_)
                              have hl : lv_has ls 5 [(4, .int z185), (0, .ref a0), (1, .int x1)] := hl
                              refine lv_goto (tgt := 116) F.1 F.2.1 dX12_script_150 (by decide) ?_
                              exact ih116 f177 _ _ _ z185 (by omega) (by omega) (by omega) h hR hX hRN hk hb116 (lv_sub hl [1, 2, 0] rfl)
                        have hb116 : fr L R [(12, 20)] [12, 61] f118 f118 := fr.rf
                        exact j_116 (((24 - z125.toInt)).toNat + 1) f118 _ _ _ z125 (by omega) (by omega) (by omega) h hR hX hRN hk hb116 (lv_sub hl [1, 2, 0] rfl)
                    · refine lv_aload_n F.1 F.2.1 dX12_script_78 rfl (lv_at hl 0 rfl) ?_
                      refine tw_Vi (As := []) F hZ h yk_X12_part mw_639 mw_640 mw_641 (s_X12_part l D cy L R O f47 a0 m_a0 r_a0 GA m_GA r_GA e52 GP m_GP r_GP e53 GL m_GL r_GL e54 GT m_GT r_GT e55 hRN) rfl rfl m_a0 r_a0 (fun e q => (T_12 e).mp q) rfl hl.1 rfl (Nat.le_of_ble_eq_true rfl) ⟨Nat.le_of_ble_eq_true rfl, Nat.le_of_ble_eq_true rfl⟩ ⟨Nat.le_of_ble_eq_true rfl, Nat.le_of_ble_eq_true rfl⟩ dX12_script_79 (fun v187 f186 H locs hp186 h => ?_)
                      obtain ⟨hf186, hv187a, hv187b, hv187p0, hv187p1, hv187p2, hv187p3⟩ := hp186
                      have hR : RBA GA f186 := hR.kw hv187p0 (Or.inl (by omega))
                      have hX : GZ GP GL f186 := hX.fm hf186 m_GP r_GP m_GL r_GL (by decide +kernel) (by decide +kernel)
                      have hRN : RB GA 20760 f186 := hv187p3
                      have hk : fr L R [(12, 1), (12, 9), (12, 10), (12, 11), (12, 12), (12, 13), (12, 14), (12, 15), (12, 16), (12, 17), (12, 19), (12, 20)] [12, 61, 66] f0 f186 := hk.tr hf186 (by decide +kernel) (by decide +kernel)
                      have hb74 : fr L R [(12, 11), (12, 12), (12, 13), (12, 14), (12, 16), (12, 17), (12, 19)] [12, 61] f38 f186 := hb74.tr hf186 (by decide +kernel) rfl
                      have e188 : fld f186 a0 0 = .ref GA := (hf186.efl m_a0 r_a0 rfl).trans e52
                      have e189 : fld f186 a0 22 = .ref GP := (hf186.efl m_a0 r_a0 rfl).trans e53
                      have e190 : fld f186 a0 23 = .ref GL := (hf186.efl m_a0 r_a0 rfl).trans e54
                      have e191 : fld f186 a0 6 = .ref GT := (hf186.efl m_a0 r_a0 rfl).trans e55
                      have su79 := SU_le h m_GA r_GA
                      have j_97 : ∀ (ls : Array Slot) (y0_97 : Int32), 0 ≤ y0_97.toInt → y0_97.toInt ≤ 1 → (y0_97.toInt = 0 ∨ SU GA f186 = SU GA f47 + 1) → SU GA f47 ≤ SU GA f186 → SU GA f186 ≤ 49 → lv_has ls 5 [(0, .ref a0), (1, .int x1)] → W p l e rm_X12_script s m args below meth c H locs 0 0 Q (F0 m 97 ls [.int y0_97]) := by
                        intro ls y0_97 b192 b193 b194 b195 b196 hl
                        refine lv_istore_n (lv' := [(3, .int y0_97), (0, .ref a0), (1, .int x1)]) F.1 F.2.1 dX12_script_97 rfl hl (by decide) rfl (fun ls hl => ?_)
                        refine lv_goto (tgt := 74) F.1 F.2.1 dX12_script_98 (by decide) ?_
                        exact ih74 f186 _ _ _ y0_97 (by omega) (by omega) (by omega) (by omega) h hR hX hRN hk hb74 (lv_sub hl [1, 2, 0] rfl)
                      have j_96 : ∀ (ls : Array Slot), lv_has ls 5 [(0, .ref a0), (1, .int x1)] → W p l e rm_X12_script s m args below meth c H locs 0 0 Q (F0 m 96 ls []) := by
                        intro ls hl
                        refine tw_iconst F dX12_script_96 ki_0 (fun z197 hz197 => ?_)
                        exact j_97 _ z197 (by omega) (by omega) (by omega) (by omega) (by omega) (lv_sub hl [0, 1] rfl)
                      refine tw_if_eq (tgt := 96) F dX12_script_82 (by decide) (fun b198 => ?_) (fun b198 => ?_)
                      · exact j_96 _ (lv_sub hl [0, 1] rfl)
                      · refine lv_aload_n F.1 F.2.1 dX12_script_85 rfl (lv_at hl 0 rfl) ?_
                        refine g_12_167 F h m_a0 r_a0 dX12_script_86 (fun v199 hv199 hv199a hv199b => ?_)
                        refine tw_if_eq (tgt := 96) F dX12_script_89 (by decide) (fun b200 => ?_) (fun b200 => ?_)
                        · exact j_96 _ (lv_sub hl [0, 1] rfl)
                        · refine tw_iconst F dX12_script_92 ki_1 (fun z201 hz201 => ?_)
                          refine lv_goto (tgt := 97) F.1 F.2.1 dX12_script_93 (by decide) ?_
                          exact j_97 _ z201 (by omega) (by omega) (by omega) (by omega) (by omega) (lv_sub hl [0, 1] rfl)
                have hb74 : fr L R [(12, 11), (12, 12), (12, 13), (12, 14), (12, 16), (12, 17), (12, 19)] [12, 61] f38 f38 := fr.rf
                exact j_74 (((2 * (49 - SU GA f38) + y0_73.toInt)).toNat + 1) f38 _ _ _ y0_73 (by omega) (by omega) (by omega) (by omega) h hR hX hRN hk hb74 (lv_sub hl [1, 2, 0] rfl)
              refine tw_if_eq (tgt := 72) F dX12_script_65 (by decide) (fun b202 => ?_) (fun b202 => ?_)
              · refine tw_iconst F dX12_script_72 ki_0 (fun z203 hz203 => ?_)
                exact j_73 _ z203 (by omega) (by omega) (lv_sub hl [0, 1] rfl)
              · refine tw_iconst F dX12_script_68 ki_1 (fun z204 hz204 => ?_)
                refine lv_goto (tgt := 73) F.1 F.2.1 dX12_script_69 (by decide) ?_
                exact j_73 _ z204 (by omega) (by omega) (lv_sub hl [0, 1] rfl)
            · refine lv_aload_n F.1 F.2.1 dX12_script_40 rfl (lv_at hl 0 rfl) ?_
              refine g_12_7 F h m_a0 r_a0 dX12_script_41 (fun o205 m_o205 r_o205 ho205 => ?_)
              obtain rfl := (fld_inj e32 ho205).symm
              refine tw_sipush F dX12_script_44 ks_20760 (fun z206 hz206 => ?_)
              refine lv_iload_n F.1 F.2.1 dX12_script_47 rfl (lv_at hl 2 rfl) ?_
              refine tu_iadd F dX12_script_48 (by omega) (fun z207 hz207 => ?_)
              refine tu_lconst F dX12_script_49 (by decide) (fun z208 (hz208 : z208.toInt = 0) => ?_)
              refine se_61 F h m_GA r_GA (by omega) (atP_0 (by omega)) dX12_script_50 (fun f209 H locs e209a e209b hf209 h => ?_)
              have hR : RBA GA f209 := hR.st e209a (Or.inl (by omega))
              have hX : GZ GP GL f209 := hX.fm hf209 m_GP r_GP m_GL r_GL (by decide +kernel) (by decide +kernel)
              have hk : fr L R [(12, 1), (12, 9), (12, 10), (12, 11), (12, 12), (12, 13), (12, 14), (12, 15), (12, 16), (12, 17), (12, 19), (12, 20)] [12, 61, 66] f0 f209 := hk.tr hf209 rfl rfl
              have hb33 : fr L R [] [61] f21 f209 := hb33.tr hf209 rfl rfl
              have e210 : fld f209 a0 0 = .ref GA := (hf209.efl m_a0 r_a0 rfl).trans e32
              have e211 : fld f209 a0 22 = .ref GP := (hf209.efl m_a0 r_a0 rfl).trans e33
              have e212 : fld f209 a0 23 = .ref GL := (hf209.efl m_a0 r_a0 rfl).trans e34
              have e213 : fld f209 a0 6 = .ref GT := (hf209.efl m_a0 r_a0 rfl).trans e35
              refine tu_iinc F dX12_script_51 hl (k := 2) rfl (by decide) ki_1 (by omega) (fun z214 ls hz214 hl => ?_)
              have hl : lv_has ls 5 [(3, .int z214), (0, .ref a0), (1, .int x1)] := hl
              refine lv_goto (tgt := 33) F.1 F.2.1 dX12_script_54 (by decide) ?_
              exact ih33 f209 _ _ _ z214 (by omega) (by omega) (fun q hq => if e : q = x3_33.toInt.toNat then (by rw [e209a, if_pos (by omega)]; omega) else (by rw [e209a, if_neg (by omega)]; exact ip33_0 q (by omega))) (by omega) h hR hX hk hb33 (lv_sub hl [1, 2, 0] rfl)
        have hb33 : fr L R [] [61] f21 f21 := fr.rf
        exact j_33 (((1650 - z27.toInt)).toNat + 1) f21 _ _ _ z27 (by omega) (by omega) (fun q hq => absurd hq (by omega)) (by omega) h hR hX hk hb33 (lv_sub hl [1, 2, 0] rfl)
      · refine lv_aload_n F.1 F.2.1 dX12_script_20 rfl (lv_at hl 0 rfl) ?_
        refine tw_iconst F dX12_script_21 ki_1 (fun z215 hz215 => ?_)
        refine tw_Vi (As := [.int z215]) F hZ h yk_X12_refuse mw_452 mw_453 mw_454 (s_X12_refuse l D cy L R O f0 a0 m_a0 r_a0 z215 ⟨by omega, by omega⟩) rfl rfl m_a0 r_a0 (fun e q => (T_12 e).mp q) rfl hl.1 rfl (Nat.le_of_ble_eq_true rfl) ⟨Nat.le_of_ble_eq_true rfl, Nat.le_of_ble_eq_true rfl⟩ ⟨Nat.le_of_ble_eq_true rfl, Nat.le_of_ble_eq_true rfl⟩ dX12_script_22 (fun v217 f216 H locs hp216 h => ?_)
        obtain ⟨hf216, hv217a, hv217b⟩ := hp216
        have hR : RBA GA f216 := hR.fm hf216 m_GA r_GA (by decide +kernel)
        have hX : GZ GP GL f216 := hX.fm hf216 m_GP r_GP m_GL r_GL (by decide +kernel) (by decide +kernel)
        have hk : fr L R [(12, 1), (12, 9), (12, 10), (12, 11), (12, 12), (12, 13), (12, 14), (12, 15), (12, 16), (12, 17), (12, 19), (12, 20)] [12, 61, 66] f0 f216 := hk.tr hf216 rfl rfl
        have e218 : fld f216 a0 0 = .ref GA := (hf216.efl m_a0 r_a0 rfl).trans t_GA
        have e219 : fld f216 a0 22 = .ref GP := (hf216.efl m_a0 r_a0 rfl).trans t_GP
        have e220 : fld f216 a0 23 = .ref GL := (hf216.efl m_a0 r_a0 rfl).trans t_GL
        have e221 : fld f216 a0 6 = .ref GT := (hf216.efl m_a0 r_a0 rfl).trans t_GT
        exact hret f216 _ _ _ _ v217 dX12_script_25 rfl ⟨hk, hR, hX⟩ h
