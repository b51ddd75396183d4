theorem dX12_answer_0 : decode cX12_answer 0 = .ok (.aload_n 0, 1) := by decide +kernel
theorem dX12_answer_1 : decode cX12_answer 1 = .ok (.getfield 7, 3) := by decide +kernel
theorem dX12_answer_4 : decode cX12_answer 4 = .ok (.iload_n 1, 1) := by decide +kernel
theorem dX12_answer_5 : decode cX12_answer 5 = .ok (.lconst 0, 1) := by decide +kernel
theorem dX12_answer_6 : decode cX12_answer 6 = .ok (.lastore, 1) := by decide +kernel
theorem dX12_answer_7 : decode cX12_answer 7 = .ok (.aload_n 0, 1) := by decide +kernel
theorem dX12_answer_8 : decode cX12_answer 8 = .ok (.getfield 7, 3) := by decide +kernel
theorem dX12_answer_11 : decode cX12_answer 11 = .ok (.iload_n 1, 1) := by decide +kernel
theorem dX12_answer_12 : decode cX12_answer 12 = .ok (.iconst 1, 1) := by decide +kernel
theorem dX12_answer_13 : decode cX12_answer 13 = .ok (.iadd, 1) := by decide +kernel
theorem dX12_answer_14 : decode cX12_answer 14 = .ok (.lconst 0, 1) := by decide +kernel
theorem dX12_answer_15 : decode cX12_answer 15 = .ok (.lastore, 1) := by decide +kernel
theorem dX12_answer_16 : decode cX12_answer 16 = .ok (.aload_n 0, 1) := by decide +kernel
theorem dX12_answer_17 : decode cX12_answer 17 = .ok (.invokevirtual 231, 3) := by decide +kernel
theorem dX12_answer_20 : decode cX12_answer 20 = .ok (.bipush 8, 2) := by decide +kernel
theorem dX12_answer_75 : decode cX12_answer 75 = .ok (.iconst 1, 1) := by decide +kernel
theorem dX12_answer_76 : decode cX12_answer 76 = .ok (.istore_n 3, 1) := by decide +kernel
theorem dX12_answer_77 : decode cX12_answer 77 = .ok (.iload_n 3, 1) := by decide +kernel
theorem dX12_answer_78 : decode cX12_answer 78 = .ok (.ifCond .eq 166, 3) := by decide +kernel
theorem dX12_answer_244 : decode cX12_answer 244 = .ok (.iconst 1, 1) := by decide +kernel
theorem dX12_answer_245 : decode cX12_answer 245 = .ok (.ireturn, 1) := by decide +kernel
theorem dX12_answer_81 : decode cX12_answer 81 = .ok (.aload_n 0, 1) := by decide +kernel
theorem dX12_answer_82 : decode cX12_answer 82 = .ok (.invokevirtual 234, 3) := by decide +kernel
theorem mw_700 : Cond.methodLink RX12 234 yX12_isName ∈ wsL_law := inr_30 _ (List.mem_of_getElem? (i := 4) rfl)
theorem mw_703 : Cond.code yX12_isName cX12_isName 1 (some .boolean) ∈ wsL_law := inr_30 _ (List.mem_of_getElem? (i := 7) rfl)
theorem yk_X12_isName : xY yX12_isName RX12 cX12_isName 1 (some .boolean) 0 := ⟨⟨rfl, by decide +kernel, by decide +kernel, by decide +kernel⟩, mw_5, mw_703⟩
theorem mw_701 : Cond.instanceMethod yX12_isName ∈ wsL_law := inr_30 _ (List.mem_of_getElem? (i := 5) rfl)
theorem mw_702 : Cond.selects RX12 yX12_isName yX12_isName ∈ wsL_law := inr_30 _ (List.mem_of_getElem? (i := 6) rfl)
theorem dX12_answer_102 : decode cX12_answer 102 = .ok (.aload_n 0, 1) := by decide +kernel
theorem dX12_answer_103 : decode cX12_answer 103 = .ok (.getfield 167, 3) := by decide +kernel
theorem dX12_answer_106 : decode cX12_answer 106 = .ok (.iconst 3, 1) := by decide +kernel
theorem dX12_answer_135 : decode cX12_answer 135 = .ok (.aload_n 0, 1) := by decide +kernel
theorem dX12_answer_136 : decode cX12_answer 136 = .ok (.getfield 7, 3) := by decide +kernel
theorem dX12_answer_139 : decode cX12_answer 139 = .ok (.iload_n 1, 1) := by decide +kernel
theorem dX12_answer_140 : decode cX12_answer 140 = .ok (.iconst 1, 1) := by decide +kernel
theorem dX12_answer_141 : decode cX12_answer 141 = .ok (.iadd, 1) := by decide +kernel
theorem dX12_answer_142 : decode cX12_answer 142 = .ok (.laload, 1) := by decide +kernel
theorem dX12_answer_143 : decode cX12_answer 143 = .ok (.ldc2_w 248, 3) := by decide +kernel
theorem mw_736 : Cond.constantLong RX12 248 (10) ∈ wsL_law := inr_31 _ (List.mem_of_getElem? (i := 16) rfl)
theorem dX12_answer_146 : decode cX12_answer 146 = .ok (.lcmp, 1) := by decide +kernel
theorem dX12_answer_147 : decode cX12_answer 147 = .ok (.ifCond .ne 9, 3) := by decide +kernel
theorem dX12_answer_156 : decode cX12_answer 156 = .ok (.aload_n 0, 1) := by decide +kernel
theorem dX12_answer_157 : decode cX12_answer 157 = .ok (.getfield 7, 3) := by decide +kernel
theorem dX12_answer_160 : decode cX12_answer 160 = .ok (.iload_n 1, 1) := by decide +kernel
theorem dX12_answer_161 : decode cX12_answer 161 = .ok (.iconst 2, 1) := by decide +kernel
theorem dX12_answer_162 : decode cX12_answer 162 = .ok (.iadd, 1) := by decide +kernel
theorem dX12_answer_163 : decode cX12_answer 163 = .ok (.aload_n 0, 1) := by decide +kernel
theorem dX12_answer_164 : decode cX12_answer 164 = .ok (.getfield 7, 3) := by decide +kernel
theorem dX12_answer_167 : decode cX12_answer 167 = .ok (.iload_n 1, 1) := by decide +kernel
theorem dX12_answer_168 : decode cX12_answer 168 = .ok (.iconst 1, 1) := by decide +kernel
theorem dX12_answer_169 : decode cX12_answer 169 = .ok (.iadd, 1) := by decide +kernel
theorem dX12_answer_170 : decode cX12_answer 170 = .ok (.laload, 1) := by decide +kernel
theorem dX12_answer_171 : decode cX12_answer 171 = .ok (.l2i, 1) := by decide +kernel
theorem dX12_answer_172 : decode cX12_answer 172 = .ok (.iadd, 1) := by decide +kernel
theorem dX12_answer_173 : decode cX12_answer 173 = .ok (.aload_n 0, 1) := by decide +kernel
theorem dX12_answer_174 : decode cX12_answer 174 = .ok (.getfield 167, 3) := by decide +kernel
theorem dX12_answer_177 : decode cX12_answer 177 = .ok (.iconst 3, 1) := by decide +kernel
theorem dX12_answer_194 : decode cX12_answer 194 = .ok (.lastore, 1) := by decide +kernel
theorem dX12_answer_195 : decode cX12_answer 195 = .ok (.aload_n 0, 1) := by decide +kernel
theorem dX12_answer_196 : decode cX12_answer 196 = .ok (.getfield 7, 3) := by decide +kernel
theorem dX12_answer_199 : decode cX12_answer 199 = .ok (.iload_n 1, 1) := by decide +kernel
theorem dX12_answer_200 : decode cX12_answer 200 = .ok (.iconst 1, 1) := by decide +kernel
theorem dX12_answer_201 : decode cX12_answer 201 = .ok (.iadd, 1) := by decide +kernel
theorem dX12_answer_202 : decode cX12_answer 202 = .ok (.dup2, 1) := by decide +kernel
theorem dX12_answer_203 : decode cX12_answer 203 = .ok (.laload, 1) := by decide +kernel
theorem dX12_answer_204 : decode cX12_answer 204 = .ok (.lconst 1, 1) := by decide +kernel
theorem dX12_answer_205 : decode cX12_answer 205 = .ok (.ladd, 1) := by decide +kernel
theorem dX12_answer_206 : decode cX12_answer 206 = .ok (.lastore, 1) := by decide +kernel
theorem dX12_answer_207 : decode cX12_answer 207 = .ok (.aload_n 0, 1) := by decide +kernel
theorem dX12_answer_208 : decode cX12_answer 208 = .ok (.invokevirtual 184, 3) := by decide +kernel
theorem dX12_answer_211 : decode cX12_answer 211 = .ok (.aload_n 0, 1) := by decide +kernel
theorem dX12_answer_212 : decode cX12_answer 212 = .ok (.getfield 167, 3) := by decide +kernel
theorem dX12_answer_215 : decode cX12_answer 215 = .ok (.iconst 2, 1) := by decide +kernel
theorem dX12_answer_240 : decode cX12_answer 240 = .ok (.istore_n 3, 1) := by decide +kernel
theorem dX12_answer_241 : decode cX12_answer 241 = .ok (.goto (-164), 3) := by decide +kernel
theorem dX12_answer_235 : decode cX12_answer 235 = .ok (.iconst 1, 1) := by decide +kernel
theorem dX12_answer_236 : decode cX12_answer 236 = .ok (.goto 4, 3) := by decide +kernel
theorem dX12_answer_227 : decode cX12_answer 227 = .ok (.aload_n 0, 1) := by decide +kernel
theorem dX12_answer_228 : decode cX12_answer 228 = .ok (.getfield 167, 3) := by decide +kernel
theorem dX12_answer_231 : decode cX12_answer 231 = .ok (.iconst 3, 1) := by decide +kernel
theorem dX12_answer_232 : decode cX12_answer 232 = .ok (.if_icmp .ne 7, 3) := by decide +kernel
theorem dX12_answer_239 : decode cX12_answer 239 = .ok (.iconst 0, 1) := by decide +kernel
theorem dX12_answer_216 : decode cX12_answer 216 = .ok (.if_icmp .ne 11, 3) := by decide +kernel
theorem dX12_answer_219 : decode cX12_answer 219 = .ok (.aload_n 0, 1) := by decide +kernel
theorem dX12_answer_220 : decode cX12_answer 220 = .ok (.invokevirtual 231, 3) := by decide +kernel
theorem dX12_answer_223 : decode cX12_answer 223 = .ok (.iconst (-1), 1) := by decide +kernel
theorem dX12_answer_224 : decode cX12_answer 224 = .ok (.if_icmp .eq 11, 3) := by decide +kernel
theorem dX12_answer_178 : decode cX12_answer 178 = .ok (.if_icmp .ne 12, 3) := by decide +kernel
theorem dX12_answer_190 : decode cX12_answer 190 = .ok (.aload_n 0, 1) := by decide +kernel
theorem dX12_answer_191 : decode cX12_answer 191 = .ok (.invokevirtual 190, 3) := by decide +kernel
theorem dX12_answer_181 : decode cX12_answer 181 = .ok (.aload_n 0, 1) := by decide +kernel
theorem dX12_answer_182 : decode cX12_answer 182 = .ok (.getfield 164, 3) := by decide +kernel
theorem dX12_answer_185 : decode cX12_answer 185 = .ok (.ineg, 1) := by decide +kernel
theorem dX12_answer_186 : decode cX12_answer 186 = .ok (.i2l, 1) := by decide +kernel
theorem dX12_answer_187 : decode cX12_answer 187 = .ok (.goto 7, 3) := by decide +kernel
theorem dX12_answer_150 : decode cX12_answer 150 = .ok (.aload_n 0, 1) := by decide +kernel
theorem dX12_answer_151 : decode cX12_answer 151 = .ok (.iconst 5, 1) := by decide +kernel
theorem dX12_answer_152 : decode cX12_answer 152 = .ok (.invokevirtual 187, 3) := by decide +kernel
theorem dX12_answer_155 : decode cX12_answer 155 = .ok (.ireturn, 1) := by decide +kernel
theorem dX12_answer_107 : decode cX12_answer 107 = .ok (.if_icmp .ne 28, 3) := by decide +kernel
theorem dX12_answer_110 : decode cX12_answer 110 = .ok (.aload_n 0, 1) := by decide +kernel
theorem dX12_answer_111 : decode cX12_answer 111 = .ok (.getfield 164, 3) := by decide +kernel
theorem dX12_answer_114 : decode cX12_answer 114 = .ok (.iconst 1, 1) := by decide +kernel
theorem dX12_answer_115 : decode cX12_answer 115 = .ok (.if_icmp .lt 14, 3) := by decide +kernel
theorem dX12_answer_129 : decode cX12_answer 129 = .ok (.aload_n 0, 1) := by decide +kernel
theorem dX12_answer_130 : decode cX12_answer 130 = .ok (.iconst 4, 1) := by decide +kernel
theorem dX12_answer_131 : decode cX12_answer 131 = .ok (.invokevirtual 187, 3) := by decide +kernel
theorem dX12_answer_134 : decode cX12_answer 134 = .ok (.ireturn, 1) := by decide +kernel
theorem dX12_answer_118 : decode cX12_answer 118 = .ok (.aload_n 0, 1) := by decide +kernel
theorem dX12_answer_119 : decode cX12_answer 119 = .ok (.getfield 164, 3) := by decide +kernel
theorem dX12_answer_122 : decode cX12_answer 122 = .ok (.aload_n 0, 1) := by decide +kernel
theorem dX12_answer_123 : decode cX12_answer 123 = .ok (.getfield 245, 3) := by decide +kernel
theorem mw_720 : Cond.fieldLink RX12 245 "AskBackModel" "gaps" "I" ∈ wsL_law := inr_31 _ (List.mem_of_getElem? (i := 0) rfl)
section
variable {p : Program} {l : Launch} {e : Env} {R0 : Room} {s : State} {m : MethodId} {args : Array Value} {below : List Frame} {meth : Method} {c : Code} {H H0 : Heap} {locs : List Loc} {cells slots : Nat} {Q : State → Prop} {cc : ByteArray} {nL : Nat} {D : va_G} {cy : Nat → ClassId} {A : Nat → Prop} {L : List Nat} {R : Nat → Nat} {f : Nat → va_E} {pc : Nat} {ls : Array Slot} {rest : List Value} {a : Nat}
theorem g_12_245 (F : CallFix p m c cc nL s args wsL_law RX12) (h : tS D cy A H0 L R (TT cy L R) f s H locs) (ha : a ∈ L) (hr : R a = 12) (hdg : decode cc pc = .ok (.getfield 245, 3)) (kk : ∀ x : Int32, x.toInt = fi f a 19 → 0 ≤ x.toInt → x.toInt ≤ 8 → W p l e R0 s m args below meth c H locs cells slots Q (F0 m (pc + 3) ls (.int x :: rest))) : W p l e R0 s m args below meth c H locs cells slots Q (F0 m pc ls (.ref a :: rest)) := tu_geti F h ha hr (fun e q => (T_12 e).mp q) rfl inlX12 rfl (Nat.le_of_ble_eq_true rfl) mw_720 hdg (fun x h1 h2 h3 => kk x h1 h2 h3)
end
theorem dX12_answer_126 : decode cX12_answer 126 = .ok (.if_icmp .le 9, 3) := by decide +kernel
theorem dX12_answer_85 : decode cX12_answer 85 = .ok (.ifCond .ne 17, 3) := by decide +kernel
theorem dX12_answer_88 : decode cX12_answer 88 = .ok (.aload_n 0, 1) := by decide +kernel
theorem dX12_answer_89 : decode cX12_answer 89 = .ok (.getfield 167, 3) := by decide +kernel
theorem dX12_answer_92 : decode cX12_answer 92 = .ok (.iconst 3, 1) := by decide +kernel
theorem dX12_answer_93 : decode cX12_answer 93 = .ok (.if_icmp .eq 9, 3) := by decide +kernel
theorem dX12_answer_96 : decode cX12_answer 96 = .ok (.aload_n 0, 1) := by decide +kernel
theorem dX12_answer_97 : decode cX12_answer 97 = .ok (.iconst 2, 1) := by decide +kernel
theorem dX12_answer_98 : decode cX12_answer 98 = .ok (.invokevirtual 187, 3) := by decide +kernel
theorem dX12_answer_101 : decode cX12_answer 101 = .ok (.ireturn, 1) := by decide +kernel
theorem dX12_answer_22 : decode cX12_answer 22 = .ok (.if_icmp .ne 53, 3) := by decide +kernel
theorem dX12_answer_25 : decode cX12_answer 25 = .ok (.iload_n 2, 1) := by decide +kernel
theorem dX12_answer_26 : decode cX12_answer 26 = .ok (.ifCond .eq 49, 3) := by decide +kernel
theorem dX12_answer_29 : decode cX12_answer 29 = .ok (.aload_n 0, 1) := by decide +kernel
theorem dX12_answer_30 : decode cX12_answer 30 = .ok (.invokevirtual 184, 3) := by decide +kernel
theorem dX12_answer_33 : decode cX12_answer 33 = .ok (.aload_n 0, 1) := by decide +kernel
theorem dX12_answer_34 : decode cX12_answer 34 = .ok (.invokevirtual 234, 3) := by decide +kernel
theorem dX12_answer_37 : decode cX12_answer 37 = .ok (.ifCond .ne 9, 3) := by decide +kernel
theorem dX12_answer_46 : decode cX12_answer 46 = .ok (.aload_n 0, 1) := by decide +kernel
theorem dX12_answer_47 : decode cX12_answer 47 = .ok (.getfield 7, 3) := by decide +kernel
theorem dX12_answer_50 : decode cX12_answer 50 = .ok (.iload_n 1, 1) := by decide +kernel
theorem dX12_answer_51 : decode cX12_answer 51 = .ok (.aload_n 0, 1) := by decide +kernel
theorem dX12_answer_52 : decode cX12_answer 52 = .ok (.invokevirtual 190, 3) := by decide +kernel
theorem dX12_answer_55 : decode cX12_answer 55 = .ok (.lastore, 1) := by decide +kernel
theorem dX12_answer_56 : decode cX12_answer 56 = .ok (.aload_n 0, 1) := by decide +kernel
theorem dX12_answer_57 : decode cX12_answer 57 = .ok (.getfield 7, 3) := by decide +kernel
theorem dX12_answer_60 : decode cX12_answer 60 = .ok (.iload_n 1, 1) := by decide +kernel
theorem dX12_answer_61 : decode cX12_answer 61 = .ok (.iconst 2, 1) := by decide +kernel
theorem dX12_answer_62 : decode cX12_answer 62 = .ok (.iadd, 1) := by decide +kernel
theorem dX12_answer_63 : decode cX12_answer 63 = .ok (.aload_n 0, 1) := by decide +kernel
theorem dX12_answer_64 : decode cX12_answer 64 = .ok (.getfield 161, 3) := by decide +kernel
theorem dX12_answer_67 : decode cX12_answer 67 = .ok (.i2l, 1) := by decide +kernel
theorem dX12_answer_68 : decode cX12_answer 68 = .ok (.lastore, 1) := by decide +kernel
theorem dX12_answer_69 : decode cX12_answer 69 = .ok (.aload_n 0, 1) := by decide +kernel
theorem dX12_answer_70 : decode cX12_answer 70 = .ok (.invokevirtual 184, 3) := by decide +kernel
theorem dX12_answer_73 : decode cX12_answer 73 = .ok (.iconst 1, 1) := by decide +kernel
theorem dX12_answer_74 : decode cX12_answer 74 = .ok (.ireturn, 1) := by decide +kernel
theorem dX12_answer_40 : decode cX12_answer 40 = .ok (.aload_n 0, 1) := by decide +kernel
theorem dX12_answer_41 : decode cX12_answer 41 = .ok (.iconst 2, 1) := by decide +kernel
theorem dX12_answer_42 : decode cX12_answer 42 = .ok (.invokevirtual 187, 3) := by decide +kernel
theorem dX12_answer_45 : decode cX12_answer 45 = .ok (.ireturn, 1) := by decide +kernel
def rm_X12_answer : Room := { frames := 6, cells := 0, slots := 0, locals := 130 }
set_option maxHeartbeats 4000000 in
set_option maxRecDepth 100000 in
theorem s_X12_answer (l : Launch) (D : va_G) (cy : Nat → ClassId) (L : List Nat) (R O : Nat → Nat) (f0 : Nat → va_E) (a0 : Nat) (m_a0 : a0 ∈ L) (r_a0 : R a0 = 12) (x1 : Int32) (b1 : 0 ≤ x1.toInt ∧ x1.toInt ≤ 25698) (x2 : Int32) (b2 : 0 ≤ x2.toInt ∧ x2.toInt ≤ 1) (GA : Nat) (m_GA : GA ∈ L) (r_GA : R GA = 61) (t_GA : fld f0 a0 0 = .ref GA) (GP : Nat) (m_GP : GP ∈ L) (r_GP : R GP = 69) (t_GP : fld f0 a0 22 = .ref GP) (GL : Nat) (m_GL : GL ∈ L) (r_GL : R GL = 70) (t_GL : fld f0 a0 23 = .ref GL) (GT : Nat) (m_GT : GT ∈ L) (r_GT : R GT = 64) (t_GT : fld f0 a0 6 = .ref GT) (pre0 : AH x1.toInt.toNat) (pre1 : TW L R a0 f0) : ∀ sz, Met l yX12_answer (Cond.code yX12_answer cX12_answer 4 (some .boolean) :: wsL_law) rm_X12_answer (va_Pc [.ref a0, .int x1, .int x2] (tPZ D cy L R (TT cy L R) f0 sz)) (va_Qi (fun (r : Int32) f1 => fr L R [(12, 11), (12, 12), (12, 13), (12, 14), (12, 16), (12, 17)] [12, 61] f0 f1 ∧ 0 ≤ r.toInt ∧ r.toInt ≤ 1 ∧ KW (x1.toInt.toNat) (x1.toInt.toNat + 12) GA f0 f1) (tB D (tA L sz) L R (TT cy L R)) (tA L sz)) 0 0 (tA L sz) := by
  refine tw_enteri (by decide +kernel) rfl (Nat.le_of_ble_eq_true rfl) ?_
  intro p e s m below meth c A ls args Q F hZ h hl hret
  have hl : lv_has ls 4 [(0, .ref a0), (1, .int x1), (2, .int x2)] := hl
  have hk : fr L R [(12, 11), (12, 12), (12, 13), (12, 14), (12, 16), (12, 17)] [12, 61] f0 f0 := fr.rf
  have t_a0_token := h.bfi m_a0 r_a0 (fun e q => (T_12 e).mp q) (k := 11) rfl
  have t_a0_gaps := h.bfi m_a0 r_a0 (fun e q => (T_12 e).mp q) (k := 19) rfl
  have t_a0_from := h.bfi m_a0 r_a0 (fun e q => (T_12 e).mp q) (k := 12) rfl
  have t_a0_end := h.bfi m_a0 r_a0 (fun e q => (T_12 e).mp q) (k := 13) rfl
  have hA : KW (x1.toInt.toNat) (x1.toInt.toNat + 12) GA f0 f0 := KW.rf
  have hH := pre0
  have hT := pre1
  refine lv_aload_n F.1 F.2.1 dX12_answer_0 rfl (lv_at hl 0 rfl) ?_
  refine g_12_7 F h m_a0 r_a0 dX12_answer_1 (fun o1 m_o1 r_o1 ho1 => ?_)
  obtain rfl := (fld_inj t_GA ho1).symm
  refine lv_iload_n F.1 F.2.1 dX12_answer_4 rfl (lv_at hl 1 rfl) ?_
  refine tu_lconst F dX12_answer_5 (by decide) (fun z2 (hz2 : z2.toInt = 0) => ?_)
  refine se_61 F h m_GA r_GA (by omega) (atP_0 (by omega)) dX12_answer_6 (fun f3 H locs e3a e3b hf3 h => ?_)
  have hA : KW (x1.toInt.toNat) (x1.toInt.toNat + 12) GA f0 f3 := hA.st e3a (by omega)
  have hT : TW L R a0 f3 := hT.fm hf3 m_a0 r_a0 (by decide +kernel) (by decide +kernel)
  have hk : fr L R [(12, 11), (12, 12), (12, 13), (12, 14), (12, 16), (12, 17)] [12, 61] f0 f3 := hk.tr hf3 rfl rfl
  have e4 : fld f3 a0 0 = .ref GA := (hf3.efl m_a0 r_a0 rfl).trans t_GA
  have e5 : fld f3 a0 22 = .ref GP := (hf3.efl m_a0 r_a0 rfl).trans t_GP
  have e6 : fld f3 a0 23 = .ref GL := (hf3.efl m_a0 r_a0 rfl).trans t_GL
  have e7 : fld f3 a0 6 = .ref GT := (hf3.efl m_a0 r_a0 rfl).trans t_GT
  have e8 : fi f3 a0 11 = fi f0 a0 11 := hf3.efi m_a0 r_a0 rfl
  have e9 : fi f3 a0 14 = fi f0 a0 14 := hf3.efi m_a0 r_a0 rfl
  have e10 : fi f3 a0 19 = fi f0 a0 19 := hf3.efi m_a0 r_a0 rfl
  have e11 : fi f3 a0 12 = fi f0 a0 12 := hf3.efi m_a0 r_a0 rfl
  have e12 : fi f3 a0 13 = fi f0 a0 13 := hf3.efi m_a0 r_a0 rfl
  refine lv_aload_n F.1 F.2.1 dX12_answer_7 rfl (lv_at hl 0 rfl) ?_
  refine g_12_7 F h m_a0 r_a0 dX12_answer_8 (fun o13 m_o13 r_o13 ho13 => ?_)
  obtain rfl := (fld_inj e4 ho13).symm
  refine lv_iload_n F.1 F.2.1 dX12_answer_11 rfl (lv_at hl 1 rfl) ?_
  refine tw_iconst F dX12_answer_12 ki_1 (fun z14 hz14 => ?_)
  refine tu_iadd F dX12_answer_13 (by omega) (fun z15 hz15 => ?_)
  refine tu_lconst F dX12_answer_14 (by decide) (fun z16 (hz16 : z16.toInt = 0) => ?_)
  refine se_61 F h m_GA r_GA (by omega) (atP_0 (by omega)) dX12_answer_15 (fun f17 H locs e17a e17b hf17 h => ?_)
  have hA : KW (x1.toInt.toNat) (x1.toInt.toNat + 12) GA f0 f17 := hA.st e17a (by omega)
  have hT : TW L R a0 f17 := hT.fm hf17 m_a0 r_a0 (by decide +kernel) (by decide +kernel)
  have hk : fr L R [(12, 11), (12, 12), (12, 13), (12, 14), (12, 16), (12, 17)] [12, 61] f0 f17 := hk.tr hf17 rfl rfl
  have e18 : fld f17 a0 0 = .ref GA := (hf17.efl m_a0 r_a0 rfl).trans e4
  have e19 : fld f17 a0 22 = .ref GP := (hf17.efl m_a0 r_a0 rfl).trans e5
  have e20 : fld f17 a0 23 = .ref GL := (hf17.efl m_a0 r_a0 rfl).trans e6
  have e21 : fld f17 a0 6 = .ref GT := (hf17.efl m_a0 r_a0 rfl).trans e7
  have e22 : fi f17 a0 11 = fi f3 a0 11 := hf17.efi m_a0 r_a0 rfl
  have e23 : fi f17 a0 14 = fi f3 a0 14 := hf17.efi m_a0 r_a0 rfl
  have e24 : fi f17 a0 19 = fi f3 a0 19 := hf17.efi m_a0 r_a0 rfl
  have e25 : fi f17 a0 12 = fi f3 a0 12 := hf17.efi m_a0 r_a0 rfl
  have e26 : fi f17 a0 13 = fi f3 a0 13 := hf17.efi m_a0 r_a0 rfl
  have hqkn : elj f17 GA (x1.toInt.toNat + 1) = z16.toInt := by rw [e17a, if_pos (by omega)]
  refine lv_aload_n F.1 F.2.1 dX12_answer_16 rfl (lv_at hl 0 rfl) ?_
  refine tw_Vi (As := []) F hZ h yk_X12_keyWord mw_643 mw_644 mw_645 (s_X12_keyWord l D cy L R O f17 a0 m_a0 r_a0) rfl rfl m_a0 r_a0 (fun e q => (T_12 e).mp q) rfl hl.1 rfl (Nat.le_of_ble_eq_true rfl) ⟨Nat.le_of_ble_eq_true rfl, Nat.le_of_ble_eq_true rfl⟩ ⟨Nat.le_of_ble_eq_true rfl, Nat.le_of_ble_eq_true rfl⟩ dX12_answer_17 (fun v28 f27 H locs hp27 h => ?_)
  obtain rfl := hp27
  refine tw_bipush F dX12_answer_20 kb_8 (fun z29 hz29 => ?_)
  have j_75 : ∀ (ls : Array Slot), lv_has ls 4 [(0, .ref a0), (1, .int x1)] → W p l e rm_X12_answer s m args below meth c H locs 0 0 Q (F0 m 75 ls []) := by
    intro ls hl
    refine tw_iconst F dX12_answer_75 ki_1 (fun z30 hz30 => ?_)
    refine lv_istore_n (lv' := [(3, .int z30), (0, .ref a0), (1, .int x1)]) F.1 F.2.1 dX12_answer_76 rfl hl (by decide) rfl (fun ls hl => ?_)
    have j_77 : ∀ (n77 : Nat) (f31 : Nat → va_E) (H : Heap) (locs : List Loc) (ls : Array Slot) (x3_77 : Int32), 0 ≤ x3_77.toInt → x3_77.toInt ≤ 1 → 0 ≤ elj f31 GA (x1.toInt.toNat + 1) → elj f31 GA (x1.toInt.toNat + 1) ≤ 10 → ((11 - elj f31 GA (x1.toInt.toNat + 1))).toNat < n77 → tS D cy A s.heap L R (TT cy L R) f31 s H locs → KW (x1.toInt.toNat) (x1.toInt.toNat + 12) GA f0 f31 → TW L R a0 f31 → fr L R [(12, 11), (12, 12), (12, 13), (12, 14), (12, 16), (12, 17)] [12, 61] f0 f31 → fr L R [(12, 11), (12, 12), (12, 13), (12, 14)] [12, 61] f17 f31 → lv_has ls 4 [(0, .ref a0), (1, .int x1), (3, .int x3_77)] → W p l e rm_X12_answer s m args below meth c H locs 0 0 Q (F0 m 77 ls []) := by
      intro n77
      induction n77 with
      | zero =>
        intro f31 H locs ls x3_77 b32 b33 b34 b35 b36 h hA hT hk hb77 hl
        exfalso
        omega
      | succ n77 ih77 =>
        intro f31 H locs ls x3_77 b32 b33 b34 b35 b36 h hA hT hk hb77 hl
        have e37 : fld f31 a0 0 = .ref GA := (hb77.efl m_a0 r_a0 rfl).trans e18
        have e38 : fld f31 a0 22 = .ref GP := (hb77.efl m_a0 r_a0 rfl).trans e19
        have e39 : fld f31 a0 23 = .ref GL := (hb77.efl m_a0 r_a0 rfl).trans e20
        have e40 : fld f31 a0 6 = .ref GT := (hb77.efl m_a0 r_a0 rfl).trans e21
        have e41 : fi f31 a0 19 = fi f17 a0 19 := hb77.efi m_a0 r_a0 rfl
        refine lv_iload_n F.1 F.2.1 dX12_answer_77 rfl (lv_at hl 2 rfl) ?_
        refine tw_if_eq (tgt := 244) F dX12_answer_78 (by decide) (fun b42 => ?_) (fun b42 => ?_)
        · refine tw_iconst F dX12_answer_244 ki_1 (fun z43 hz43 => ?_)
          exact hret f31 _ _ _ _ z43 dX12_answer_245 (tw_nb (by omega)) ⟨hk, by omega, by omega, hA⟩ h
        · refine lv_aload_n F.1 F.2.1 dX12_answer_81 rfl (lv_at hl 0 rfl) ?_
          refine tw_Vi (As := []) F hZ h yk_X12_isName mw_700 mw_701 mw_702 (s_X12_isName l D cy L R O f31 a0 m_a0 r_a0) rfl rfl m_a0 r_a0 (fun e q => (T_12 e).mp q) rfl hl.1 rfl (Nat.le_of_ble_eq_true rfl) ⟨Nat.le_of_ble_eq_true rfl, Nat.le_of_ble_eq_true rfl⟩ ⟨Nat.le_of_ble_eq_true rfl, Nat.le_of_ble_eq_true rfl⟩ dX12_answer_82 (fun v45 f44 H locs hp44 h => ?_)
          obtain ⟨rfl, hv45a, hv45b, hv45p0⟩ := hp44
          have j_102 : ∀ (ls : Array Slot), (fi f31 a0 11 = 3 ∨ (fi f31 a0 11 = 2 ∧ fi f31 a0 13 - fi f31 a0 12 ≤ 8)) → lv_has ls 4 [(0, .ref a0), (1, .int x1)] → W p l e rm_X12_answer s m args below meth c H locs 0 0 Q (F0 m 102 ls []) := by
            intro ls b46 hl
            refine lv_aload_n F.1 F.2.1 dX12_answer_102 rfl (lv_at hl 0 rfl) ?_
            refine g_12_167 F h m_a0 r_a0 dX12_answer_103 (fun v47 hv47 hv47a hv47b => ?_)
            refine tw_iconst F dX12_answer_106 ki_3 (fun z48 hz48 => ?_)
            have j_135 : ∀ (ls : Array Slot), (fi f31 a0 11 ≠ 3 ∨ (1 ≤ fi f31 a0 14 ∧ fi f31 a0 14 ≤ fi f31 a0 19)) → lv_has ls 4 [(0, .ref a0), (1, .int x1)] → W p l e rm_X12_answer s m args below meth c H locs 0 0 Q (F0 m 135 ls []) := by
              intro ls b49 hl
              refine lv_aload_n F.1 F.2.1 dX12_answer_135 rfl (lv_at hl 0 rfl) ?_
              refine g_12_7 F h m_a0 r_a0 dX12_answer_136 (fun o50 m_o50 r_o50 ho50 => ?_)
              obtain rfl := (fld_inj e37 ho50).symm
              refine lv_iload_n F.1 F.2.1 dX12_answer_139 rfl (lv_at hl 1 rfl) ?_
              refine tw_iconst F dX12_answer_140 ki_1 (fun z51 hz51 => ?_)
              refine tu_iadd F dX12_answer_141 (by omega) (fun z52 hz52 => ?_)
              refine le_61 F h m_GA r_GA (by omega) dX12_answer_142 (fun v53 ev53 hv53a => ?_)
              have hv53b := clP_6.mp (atb hv53a (AH_1 hH (by omega)))
              have u142 : v53.toInt = elj f31 GA (x1.toInt.toNat + 1) := by rw [ev53, show z52.toInt.toNat = x1.toInt.toNat + 1 by omega]
              refine tu_ldc2 F mw_736 dX12_answer_143 kl_10 (fun z54 hz54 => ?_)
              refine tw_lcmp F dX12_answer_146 (fun z55 hz55 => ?_)
              refine tw_if_ne (tgt := 156) F dX12_answer_147 (by decide) (fun b56 => ?_) (fun b56 => ?_)
              · refine lv_aload_n F.1 F.2.1 dX12_answer_156 rfl (lv_at hl 0 rfl) ?_
                refine g_12_7 F h m_a0 r_a0 dX12_answer_157 (fun o57 m_o57 r_o57 ho57 => ?_)
                obtain rfl := (fld_inj e37 ho57).symm
                refine lv_iload_n F.1 F.2.1 dX12_answer_160 rfl (lv_at hl 1 rfl) ?_
                refine tw_iconst F dX12_answer_161 ki_2 (fun z58 hz58 => ?_)
                refine tu_iadd F dX12_answer_162 (by omega) (fun z59 hz59 => ?_)
                refine lv_aload_n F.1 F.2.1 dX12_answer_163 rfl (lv_at hl 0 rfl) ?_
                refine g_12_7 F h m_a0 r_a0 dX12_answer_164 (fun o60 m_o60 r_o60 ho60 => ?_)
                obtain rfl := (fld_inj e37 ho60).symm
                refine lv_iload_n F.1 F.2.1 dX12_answer_167 rfl (lv_at hl 1 rfl) ?_
                refine tw_iconst F dX12_answer_168 ki_1 (fun z61 hz61 => ?_)
                refine tu_iadd F dX12_answer_169 (by omega) (fun z62 hz62 => ?_)
                refine le_61 F h m_GA r_GA (by omega) dX12_answer_170 (fun v63 ev63 hv63a => ?_)
                have hv63b := clP_6.mp (atb hv63a (AH_1 hH (by omega)))
                have u170 : v63.toInt = elj f31 GA (x1.toInt.toNat + 1) := by rw [ev63, show z62.toInt.toNat = x1.toInt.toNat + 1 by omega]
                have hqkc : elj f31 GA (x1.toInt.toNat + 1) = v63.toInt := u170.symm
                refine tw_l2i F dX12_answer_171 (by omega) (by omega) (fun z64 hz64 => ?_)
                refine tu_iadd F dX12_answer_172 (by omega) (fun z65 hz65 => ?_)
                refine lv_aload_n F.1 F.2.1 dX12_answer_173 rfl (lv_at hl 0 rfl) ?_
                refine g_12_167 F h m_a0 r_a0 dX12_answer_174 (fun v66 hv66 hv66a hv66b => ?_)
                refine tw_iconst F dX12_answer_177 ki_3 (fun z67 hz67 => ?_)
                have j_194 : ∀ (H : Heap) (locs : List Loc) (ls : Array Slot) (y0_194 : Int64), -8 ≤ y0_194.toInt → tS D cy A s.heap L R (TT cy L R) f31 s H locs → lv_has ls 4 [(0, .ref a0), (1, .int x1)] → W p l e rm_X12_answer s m args below meth c H locs 0 0 Q (F0 m 194 ls [.long y0_194, .int z65, .ref GA]) := by
                  intro H locs ls y0_194 b68 h hl
                  refine se_61 F h m_GA r_GA (by omega) (atS (AH_p hH (by omega)) (clP_7.mpr (by omega))) dX12_answer_194 (fun f69 H locs e69a e69b hf69 h => ?_)
                  have hA : KW (x1.toInt.toNat) (x1.toInt.toNat + 12) GA f0 f69 := hA.st e69a (by omega)
                  have hT : TW L R a0 f69 := hT.fm hf69 m_a0 r_a0 (by decide +kernel) (by decide +kernel)
                  have hqkc : elj f69 GA (x1.toInt.toNat + 1) = v63.toInt := by rw [e69a, if_neg (by omega)]; exact hqkc
                  have hk : fr L R [(12, 11), (12, 12), (12, 13), (12, 14), (12, 16), (12, 17)] [12, 61] f0 f69 := hk.tr hf69 rfl rfl
                  have hb77 : fr L R [(12, 11), (12, 12), (12, 13), (12, 14)] [12, 61] f17 f69 := hb77.tr hf69 rfl rfl
                  have e70 : fld f69 a0 0 = .ref GA := (hf69.efl m_a0 r_a0 rfl).trans e37
                  have e71 : fld f69 a0 22 = .ref GP := (hf69.efl m_a0 r_a0 rfl).trans e38
                  have e72 : fld f69 a0 23 = .ref GL := (hf69.efl m_a0 r_a0 rfl).trans e39
                  have e73 : fld f69 a0 6 = .ref GT := (hf69.efl m_a0 r_a0 rfl).trans e40
                  have e74 : fi f69 a0 11 = fi f31 a0 11 := hf69.efi m_a0 r_a0 rfl
                  have e75 : fi f69 a0 14 = fi f31 a0 14 := hf69.efi m_a0 r_a0 rfl
                  have e76 : fi f69 a0 19 = fi f31 a0 19 := hf69.efi m_a0 r_a0 rfl
                  have e77 : fi f69 a0 12 = fi f31 a0 12 := hf69.efi m_a0 r_a0 rfl
                  have e78 : fi f69 a0 13 = fi f31 a0 13 := hf69.efi m_a0 r_a0 rfl
                  refine lv_aload_n F.1 F.2.1 dX12_answer_195 rfl (lv_at hl 0 rfl) ?_
                  refine g_12_7 F h m_a0 r_a0 dX12_answer_196 (fun o79 m_o79 r_o79 ho79 => ?_)
                  obtain rfl := (fld_inj e70 ho79).symm
                  refine lv_iload_n F.1 F.2.1 dX12_answer_199 rfl (lv_at hl 1 rfl) ?_
                  refine tw_iconst F dX12_answer_200 ki_1 (fun z80 hz80 => ?_)
                  refine tu_iadd F dX12_answer_201 (by omega) (fun z81 hz81 => ?_)
                  refine lv_dup2_11 F.1 F.2.1 dX12_answer_202 rfl rfl ?_
                  refine le_61 F h m_GA r_GA (by omega) dX12_answer_203 (fun v82 ev82 hv82a => ?_)
                  have hv82b := clP_6.mp (atb hv82a (AH_1 hH (by omega)))
                  have u203 : v82.toInt = elj f69 GA (x1.toInt.toNat + 1) := by rw [ev82, show z81.toInt.toNat = x1.toInt.toNat + 1 by omega]
                  refine tu_lconst F dX12_answer_204 (by decide) (fun z83 (hz83 : z83.toInt = 1) => ?_)
                  refine tu_ladd F dX12_answer_205 (by omega) (fun z84 hz84 => ?_)
                  refine se_61 F h m_GA r_GA (by omega) (atS (AH_1 hH (by omega)) (clP_6.mpr (by omega))) dX12_answer_206 (fun f85 H locs e85a e85b hf85 h => ?_)
                  have hA : KW (x1.toInt.toNat) (x1.toInt.toNat + 12) GA f0 f85 := hA.st e85a (by omega)
                  have hT : TW L R a0 f85 := hT.fm hf85 m_a0 r_a0 (by decide +kernel) (by decide +kernel)
                  have hk : fr L R [(12, 11), (12, 12), (12, 13), (12, 14), (12, 16), (12, 17)] [12, 61] f0 f85 := hk.tr hf85 rfl rfl
                  have hb77 : fr L R [(12, 11), (12, 12), (12, 13), (12, 14)] [12, 61] f17 f85 := hb77.tr hf85 rfl rfl
                  have e86 : fld f85 a0 0 = .ref GA := (hf85.efl m_a0 r_a0 rfl).trans e70
                  have e87 : fld f85 a0 22 = .ref GP := (hf85.efl m_a0 r_a0 rfl).trans e71
                  have e88 : fld f85 a0 23 = .ref GL := (hf85.efl m_a0 r_a0 rfl).trans e72
                  have e89 : fld f85 a0 6 = .ref GT := (hf85.efl m_a0 r_a0 rfl).trans e73
                  have e90 : fi f85 a0 11 = fi f69 a0 11 := hf85.efi m_a0 r_a0 rfl
                  have e91 : fi f85 a0 14 = fi f69 a0 14 := hf85.efi m_a0 r_a0 rfl
                  have e92 : fi f85 a0 19 = fi f69 a0 19 := hf85.efi m_a0 r_a0 rfl
                  have e93 : fi f85 a0 12 = fi f69 a0 12 := hf85.efi m_a0 r_a0 rfl
                  have e94 : fi f85 a0 13 = fi f69 a0 13 := hf85.efi m_a0 r_a0 rfl
                  have hqkn : elj f85 GA (x1.toInt.toNat + 1) = z84.toInt := by rw [e85a, if_pos (by omega)]
                  refine lv_aload_n F.1 F.2.1 dX12_answer_207 rfl (lv_at hl 0 rfl) ?_
                  refine tw_Vv (As := []) F hZ h yk_X12_ahead0 mw_468 mw_469 mw_470 (s_X12_ahead0 l D cy L R O f85 a0 m_a0 r_a0) rfl rfl m_a0 r_a0 (fun e q => (T_12 e).mp q) rfl hl.1 rfl (Nat.le_of_ble_eq_true rfl) ⟨Nat.le_of_ble_eq_true rfl, Nat.le_of_ble_eq_true rfl⟩ ⟨Nat.le_of_ble_eq_true rfl, Nat.le_of_ble_eq_true rfl⟩ dX12_answer_208 (fun f95 H locs hp95 h => ?_)
                  obtain ⟨hf95, hv96p0⟩ := hp95
                  have hA : KW (x1.toInt.toNat) (x1.toInt.toNat + 12) GA f0 f95 := hA.fm hf95 m_GA r_GA (by decide +kernel)
                  have hT : TW L R a0 f95 := hv96p0
                  have hqkn : elj f95 GA (x1.toInt.toNat + 1) = z84.toInt := by rw [hf95.eelj m_GA r_GA (by decide +kernel)]; exact hqkn
                  have hk : fr L R [(12, 11), (12, 12), (12, 13), (12, 14), (12, 16), (12, 17)] [12, 61] f0 f95 := hk.tr hf95 rfl rfl
                  have hb77 : fr L R [(12, 11), (12, 12), (12, 13), (12, 14)] [12, 61] f17 f95 := hb77.tr hf95 rfl rfl
                  have e97 : fld f95 a0 0 = .ref GA := (hf95.efl m_a0 r_a0 rfl).trans e86
                  have e98 : fld f95 a0 22 = .ref GP := (hf95.efl m_a0 r_a0 rfl).trans e87
                  have e99 : fld f95 a0 23 = .ref GL := (hf95.efl m_a0 r_a0 rfl).trans e88
                  have e100 : fld f95 a0 6 = .ref GT := (hf95.efl m_a0 r_a0 rfl).trans e89
                  have e101 : fi f95 a0 19 = fi f85 a0 19 := hf95.efi m_a0 r_a0 rfl
                  refine lv_aload_n F.1 F.2.1 dX12_answer_211 rfl (lv_at hl 0 rfl) ?_
                  refine g_12_167 F h m_a0 r_a0 dX12_answer_212 (fun v102 hv102 hv102a hv102b => ?_)
                  refine tw_iconst F dX12_answer_215 ki_2 (fun z103 hz103 => ?_)
                  have j_240 : ∀ (H : Heap) (locs : List Loc) (ls : Array Slot) (y0_240 : Int32), 0 ≤ y0_240.toInt → y0_240.toInt ≤ 1 → tS D cy A s.heap L R (TT cy L R) f95 s H locs → lv_has ls 4 [(0, .ref a0), (1, .int x1)] → W p l e rm_X12_answer s m args below meth c H locs 0 0 Q (F0 m 240 ls [.int y0_240]) := by
                    intro H locs ls y0_240 b104 b105 h hl
                    refine lv_istore_n (lv' := [(3, .int y0_240), (0, .ref a0), (1, .int x1)]) F.1 F.2.1 dX12_answer_240 rfl hl (by decide) rfl (fun ls hl => ?_)
                    refine lv_goto (tgt := 77) F.1 F.2.1 dX12_answer_241 (by decide) ?_
                    exact ih77 f95 _ _ _ y0_240 (by omega) (by omega) (by omega) (by omega) (by omega) h hA hT hk hb77 (lv_sub hl [1, 2, 0] rfl)
                  have j_235 : ∀ (H : Heap) (locs : List Loc) (ls : Array Slot), tS D cy A s.heap L R (TT cy L R) f95 s H locs → lv_has ls 4 [(0, .ref a0), (1, .int x1)] → W p l e rm_X12_answer s m args below meth c H locs 0 0 Q (F0 m 235 ls []) := by
                    intro H locs ls h hl
                    refine tw_iconst F dX12_answer_235 ki_1 (fun z106 hz106 => ?_)
                    refine lv_goto (tgt := 240) F.1 F.2.1 dX12_answer_236 (by decide) ?_
                    exact j_240 _ _ _ z106 (by omega) (by omega) h (lv_sub hl [0, 1] rfl)
                  have j_227 : ∀ (H : Heap) (locs : List Loc) (ls : Array Slot), tS D cy A s.heap L R (TT cy L R) f95 s H locs → lv_has ls 4 [(0, .ref a0), (1, .int x1)] → W p l e rm_X12_answer s m args below meth c H locs 0 0 Q (F0 m 227 ls []) := by
                    intro H locs ls h hl
                    refine lv_aload_n F.1 F.2.1 dX12_answer_227 rfl (lv_at hl 0 rfl) ?_
                    refine g_12_167 F h m_a0 r_a0 dX12_answer_228 (fun v107 hv107 hv107a hv107b => ?_)
                    refine tw_iconst F dX12_answer_231 ki_3 (fun z108 hz108 => ?_)
                    refine tw_icmp_ne (tgt := 239) F dX12_answer_232 (by decide) (fun b109 => ?_) (fun b109 => ?_)
                    · refine tw_iconst F dX12_answer_239 ki_0 (fun z110 hz110 => ?_)
                      exact j_240 _ _ _ z110 (by omega) (by omega) h (lv_sub hl [0, 1] rfl)
                    · exact j_235 _ _ _ h (lv_sub hl [0, 1] rfl)
                  refine tw_icmp_ne (tgt := 227) F dX12_answer_216 (by decide) (fun b111 => ?_) (fun b111 => ?_)
                  · exact j_227 _ _ _ h (lv_sub hl [0, 1] rfl)
                  · refine lv_aload_n F.1 F.2.1 dX12_answer_219 rfl (lv_at hl 0 rfl) ?_
                    refine tw_Vi (As := []) F hZ h yk_X12_keyWord mw_643 mw_644 mw_645 (s_X12_keyWord l D cy L R O f95 a0 m_a0 r_a0) rfl rfl m_a0 r_a0 (fun e q => (T_12 e).mp q) rfl hl.1 rfl (Nat.le_of_ble_eq_true rfl) ⟨Nat.le_of_ble_eq_true rfl, Nat.le_of_ble_eq_true rfl⟩ ⟨Nat.le_of_ble_eq_true rfl, Nat.le_of_ble_eq_true rfl⟩ dX12_answer_220 (fun v113 f112 H locs hp112 h => ?_)
                    obtain rfl := hp112
                    refine tw_iconst F dX12_answer_223 ki_m1 (fun z114 hz114 => ?_)
                    refine tw_icmp_eq (tgt := 235) F dX12_answer_224 (by decide) (fun b115 => ?_) (fun b115 => ?_)
                    · exact j_235 _ _ _ h (lv_sub hl [0, 1] rfl)
                    · exact j_227 _ _ _ h (lv_sub hl [0, 1] rfl)
                refine tw_icmp_ne (tgt := 190) F dX12_answer_178 (by decide) (fun b116 => ?_) (fun b116 => ?_)
                · refine lv_aload_n F.1 F.2.1 dX12_answer_190 rfl (lv_at hl 0 rfl) ?_
                  refine tw_Vl (As := []) F hZ h yk_X12_wordHere mw_491 mw_492 mw_493 (s_X12_wordHereP l D cy L R O f31 a0 m_a0 r_a0 ⟨hT.2.2 (by omega), by omega⟩) rfl rfl m_a0 r_a0 (fun e q => (T_12 e).mp q) rfl hl.1 rfl (Nat.le_of_ble_eq_true rfl) ⟨Nat.le_of_ble_eq_true rfl, Nat.le_of_ble_eq_true rfl⟩ ⟨Nat.le_of_ble_eq_true rfl, Nat.le_of_ble_eq_true rfl⟩ dX12_answer_191 (fun v118 f117 H locs hp117 h => ?_)
                  obtain ⟨rfl, hv118p0⟩ := hp117
                  exact j_194 _ _ _ v118 (by omega) h (lv_sub hl [0, 1] rfl)
                · refine lv_aload_n F.1 F.2.1 dX12_answer_181 rfl (lv_at hl 0 rfl) ?_
                  refine g_12_164 F h m_a0 r_a0 dX12_answer_182 (fun v119 hv119 => ?_)
                  refine tu_ineg F dX12_answer_185 (by omega) (fun z120 hz120 => ?_)
                  refine tu_i2l F dX12_answer_186 (fun z121 hz121 hz121a hz121b => ?_)
                  refine lv_goto (tgt := 194) F.1 F.2.1 dX12_answer_187 (by decide) ?_
                  exact j_194 _ _ _ z121 (by omega) h (lv_sub hl [0, 1] rfl)
              · refine lv_aload_n F.1 F.2.1 dX12_answer_150 rfl (lv_at hl 0 rfl) ?_
                refine tw_iconst F dX12_answer_151 ki_5 (fun z122 hz122 => ?_)
                refine tw_Vi (As := [.int z122]) F hZ h yk_X12_fails mw_487 mw_488 mw_489 (s_X12_fails l D cy L R O f31 a0 m_a0 r_a0 z122 ⟨by omega, by omega⟩) rfl rfl m_a0 r_a0 (fun e q => (T_12 e).mp q) rfl hl.1 rfl (Nat.le_of_ble_eq_true rfl) ⟨Nat.le_of_ble_eq_true rfl, Nat.le_of_ble_eq_true rfl⟩ ⟨Nat.le_of_ble_eq_true rfl, Nat.le_of_ble_eq_true rfl⟩ dX12_answer_152 (fun v124 f123 H locs hp123 h => ?_)
                obtain ⟨hf123, hv124a, hv124b⟩ := hp123
                have hA : KW (x1.toInt.toNat) (x1.toInt.toNat + 12) GA f0 f123 := hA.fm hf123 m_GA r_GA (by decide +kernel)
                have hT : TW L R a0 f123 := hT.fm hf123 m_a0 r_a0 (by decide +kernel) (by decide +kernel)
                have hk : fr L R [(12, 11), (12, 12), (12, 13), (12, 14), (12, 16), (12, 17)] [12, 61] f0 f123 := hk.tr hf123 rfl rfl
                have e125 : fld f123 a0 0 = .ref GA := (hf123.efl m_a0 r_a0 rfl).trans e37
                have e126 : fld f123 a0 22 = .ref GP := (hf123.efl m_a0 r_a0 rfl).trans e38
                have e127 : fld f123 a0 23 = .ref GL := (hf123.efl m_a0 r_a0 rfl).trans e39
                have e128 : fld f123 a0 6 = .ref GT := (hf123.efl m_a0 r_a0 rfl).trans e40
                have e129 : fi f123 a0 11 = fi f31 a0 11 := hf123.efi m_a0 r_a0 rfl
                have e130 : fi f123 a0 14 = fi f31 a0 14 := hf123.efi m_a0 r_a0 rfl
                have e131 : fi f123 a0 19 = fi f31 a0 19 := hf123.efi m_a0 r_a0 rfl
                have e132 : fi f123 a0 12 = fi f31 a0 12 := hf123.efi m_a0 r_a0 rfl
                have e133 : fi f123 a0 13 = fi f31 a0 13 := hf123.efi m_a0 r_a0 rfl
                exact hret f123 _ _ _ _ v124 dX12_answer_155 (tw_nb (by omega)) ⟨hk, by omega, by omega, hA⟩ h
            refine tw_icmp_ne (tgt := 135) F dX12_answer_107 (by decide) (fun b134 => ?_) (fun b134 => ?_)
            · exact j_135 _ (by omega) (lv_sub hl [0, 1] rfl)
            · refine lv_aload_n F.1 F.2.1 dX12_answer_110 rfl (lv_at hl 0 rfl) ?_
              refine g_12_164 F h m_a0 r_a0 dX12_answer_111 (fun v135 hv135 => ?_)
              refine tw_iconst F dX12_answer_114 ki_1 (fun z136 hz136 => ?_)
              refine tw_icmp_lt (tgt := 129) F dX12_answer_115 (by decide) (fun b137 => ?_) (fun b137 => ?_)
              · refine lv_aload_n F.1 F.2.1 dX12_answer_129 rfl (lv_at hl 0 rfl) ?_
                refine tw_iconst F dX12_answer_130 ki_4 (fun z138 hz138 => ?_)
                refine tw_Vi (As := [.int z138]) F hZ h yk_X12_fails mw_487 mw_488 mw_489 (s_X12_fails l D cy L R O f31 a0 m_a0 r_a0 z138 ⟨by omega, by omega⟩) rfl rfl m_a0 r_a0 (fun e q => (T_12 e).mp q) rfl hl.1 rfl (Nat.le_of_ble_eq_true rfl) ⟨Nat.le_of_ble_eq_true rfl, Nat.le_of_ble_eq_true rfl⟩ ⟨Nat.le_of_ble_eq_true rfl, Nat.le_of_ble_eq_true rfl⟩ dX12_answer_131 (fun v140 f139 H locs hp139 h => ?_)
                obtain ⟨hf139, hv140a, hv140b⟩ := hp139
                have hA : KW (x1.toInt.toNat) (x1.toInt.toNat + 12) GA f0 f139 := hA.fm hf139 m_GA r_GA (by decide +kernel)
                have hT : TW L R a0 f139 := hT.fm hf139 m_a0 r_a0 (by decide +kernel) (by decide +kernel)
                have hk : fr L R [(12, 11), (12, 12), (12, 13), (12, 14), (12, 16), (12, 17)] [12, 61] f0 f139 := hk.tr hf139 rfl rfl
                have e141 : fld f139 a0 0 = .ref GA := (hf139.efl m_a0 r_a0 rfl).trans e37
                have e142 : fld f139 a0 22 = .ref GP := (hf139.efl m_a0 r_a0 rfl).trans e38
                have e143 : fld f139 a0 23 = .ref GL := (hf139.efl m_a0 r_a0 rfl).trans e39
                have e144 : fld f139 a0 6 = .ref GT := (hf139.efl m_a0 r_a0 rfl).trans e40
                have e145 : fi f139 a0 11 = fi f31 a0 11 := hf139.efi m_a0 r_a0 rfl
                have e146 : fi f139 a0 14 = fi f31 a0 14 := hf139.efi m_a0 r_a0 rfl
                have e147 : fi f139 a0 19 = fi f31 a0 19 := hf139.efi m_a0 r_a0 rfl
                have e148 : fi f139 a0 12 = fi f31 a0 12 := hf139.efi m_a0 r_a0 rfl
                have e149 : fi f139 a0 13 = fi f31 a0 13 := hf139.efi m_a0 r_a0 rfl
                exact hret f139 _ _ _ _ v140 dX12_answer_134 (tw_nb (by omega)) ⟨hk, by omega, by omega, hA⟩ h
              · refine lv_aload_n F.1 F.2.1 dX12_answer_118 rfl (lv_at hl 0 rfl) ?_
                refine g_12_164 F h m_a0 r_a0 dX12_answer_119 (fun v150 hv150 => ?_)
                refine lv_aload_n F.1 F.2.1 dX12_answer_122 rfl (lv_at hl 0 rfl) ?_
                refine g_12_245 F h m_a0 r_a0 dX12_answer_123 (fun v151 hv151 hv151a hv151b => ?_)
                refine tw_icmp_le (tgt := 135) F dX12_answer_126 (by decide) (fun b152 => ?_) (fun b152 => ?_)
                · exact j_135 _ (by omega) (lv_sub hl [0, 1] rfl)
                · refine lv_aload_n F.1 F.2.1 dX12_answer_129 rfl (lv_at hl 0 rfl) ?_
                  refine tw_iconst F dX12_answer_130 ki_4 (fun z153 hz153 => ?_)
                  refine tw_Vi (As := [.int z153]) F hZ h yk_X12_fails mw_487 mw_488 mw_489 (s_X12_fails l D cy L R O f31 a0 m_a0 r_a0 z153 ⟨by omega, by omega⟩) rfl rfl m_a0 r_a0 (fun e q => (T_12 e).mp q) rfl hl.1 rfl (Nat.le_of_ble_eq_true rfl) ⟨Nat.le_of_ble_eq_true rfl, Nat.le_of_ble_eq_true rfl⟩ ⟨Nat.le_of_ble_eq_true rfl, Nat.le_of_ble_eq_true rfl⟩ dX12_answer_131 (fun v155 f154 H locs hp154 h => ?_)
                  obtain ⟨hf154, hv155a, hv155b⟩ := hp154
                  have hA : KW (x1.toInt.toNat) (x1.toInt.toNat + 12) GA f0 f154 := hA.fm hf154 m_GA r_GA (by decide +kernel)
                  have hT : TW L R a0 f154 := hT.fm hf154 m_a0 r_a0 (by decide +kernel) (by decide +kernel)
                  have hk : fr L R [(12, 11), (12, 12), (12, 13), (12, 14), (12, 16), (12, 17)] [12, 61] f0 f154 := hk.tr hf154 rfl rfl
                  have e156 : fld f154 a0 0 = .ref GA := (hf154.efl m_a0 r_a0 rfl).trans e37
                  have e157 : fld f154 a0 22 = .ref GP := (hf154.efl m_a0 r_a0 rfl).trans e38
                  have e158 : fld f154 a0 23 = .ref GL := (hf154.efl m_a0 r_a0 rfl).trans e39
                  have e159 : fld f154 a0 6 = .ref GT := (hf154.efl m_a0 r_a0 rfl).trans e40
                  have e160 : fi f154 a0 11 = fi f31 a0 11 := hf154.efi m_a0 r_a0 rfl
                  have e161 : fi f154 a0 14 = fi f31 a0 14 := hf154.efi m_a0 r_a0 rfl
                  have e162 : fi f154 a0 19 = fi f31 a0 19 := hf154.efi m_a0 r_a0 rfl
                  have e163 : fi f154 a0 12 = fi f31 a0 12 := hf154.efi m_a0 r_a0 rfl
                  have e164 : fi f154 a0 13 = fi f31 a0 13 := hf154.efi m_a0 r_a0 rfl
                  exact hret f154 _ _ _ _ v155 dX12_answer_134 (tw_nb (by omega)) ⟨hk, by omega, by omega, hA⟩ h
          refine tw_if_ne (tgt := 102) F dX12_answer_85 (by decide) (fun b165 => ?_) (fun b165 => ?_)
          · exact j_102 _ (by omega) (lv_sub hl [0, 1] rfl)
          · refine lv_aload_n F.1 F.2.1 dX12_answer_88 rfl (lv_at hl 0 rfl) ?_
            refine g_12_167 F h m_a0 r_a0 dX12_answer_89 (fun v166 hv166 hv166a hv166b => ?_)
            refine tw_iconst F dX12_answer_92 ki_3 (fun z167 hz167 => ?_)
            refine tw_icmp_eq (tgt := 102) F dX12_answer_93 (by decide) (fun b168 => ?_) (fun b168 => ?_)
            · exact j_102 _ (by omega) (lv_sub hl [0, 1] rfl)
            · refine lv_aload_n F.1 F.2.1 dX12_answer_96 rfl (lv_at hl 0 rfl) ?_
              refine tw_iconst F dX12_answer_97 ki_2 (fun z169 hz169 => ?_)
              refine tw_Vi (As := [.int z169]) F hZ h yk_X12_fails mw_487 mw_488 mw_489 (s_X12_fails l D cy L R O f31 a0 m_a0 r_a0 z169 ⟨by omega, by omega⟩) rfl rfl m_a0 r_a0 (fun e q => (T_12 e).mp q) rfl hl.1 rfl (Nat.le_of_ble_eq_true rfl) ⟨Nat.le_of_ble_eq_true rfl, Nat.le_of_ble_eq_true rfl⟩ ⟨Nat.le_of_ble_eq_true rfl, Nat.le_of_ble_eq_true rfl⟩ dX12_answer_98 (fun v171 f170 H locs hp170 h => ?_)
              obtain ⟨hf170, hv171a, hv171b⟩ := hp170
              have hA : KW (x1.toInt.toNat) (x1.toInt.toNat + 12) GA f0 f170 := hA.fm hf170 m_GA r_GA (by decide +kernel)
              have hT : TW L R a0 f170 := hT.fm hf170 m_a0 r_a0 (by decide +kernel) (by decide +kernel)
              have hk : fr L R [(12, 11), (12, 12), (12, 13), (12, 14), (12, 16), (12, 17)] [12, 61] f0 f170 := hk.tr hf170 rfl rfl
              have e172 : fld f170 a0 0 = .ref GA := (hf170.efl m_a0 r_a0 rfl).trans e37
              have e173 : fld f170 a0 22 = .ref GP := (hf170.efl m_a0 r_a0 rfl).trans e38
              have e174 : fld f170 a0 23 = .ref GL := (hf170.efl m_a0 r_a0 rfl).trans e39
              have e175 : fld f170 a0 6 = .ref GT := (hf170.efl m_a0 r_a0 rfl).trans e40
              have e176 : fi f170 a0 11 = fi f31 a0 11 := hf170.efi m_a0 r_a0 rfl
              have e177 : fi f170 a0 14 = fi f31 a0 14 := hf170.efi m_a0 r_a0 rfl
              have e178 : fi f170 a0 19 = fi f31 a0 19 := hf170.efi m_a0 r_a0 rfl
              have e179 : fi f170 a0 12 = fi f31 a0 12 := hf170.efi m_a0 r_a0 rfl
              have e180 : fi f170 a0 13 = fi f31 a0 13 := hf170.efi m_a0 r_a0 rfl
              exact hret f170 _ _ _ _ v171 dX12_answer_101 (tw_nb (by omega)) ⟨hk, by omega, by omega, hA⟩ h
    have hb77 : fr L R [(12, 11), (12, 12), (12, 13), (12, 14)] [12, 61] f17 f17 := fr.rf
    exact j_77 (((11 - elj f17 GA (x1.toInt.toNat + 1))).toNat + 1) f17 _ _ _ z30 (by omega) (by omega) (by omega) (by omega) (by omega) h hA hT hk hb77 (lv_sub hl [1, 2, 0] rfl)
  refine tw_icmp_ne (tgt := 75) F dX12_answer_22 (by decide) (fun b181 => ?_) (fun b181 => ?_)
  · exact j_75 _ (lv_sub hl [0, 1] rfl)
  · refine lv_iload_n F.1 F.2.1 dX12_answer_25 rfl (lv_at hl 2 rfl) ?_
    refine tw_if_eq (tgt := 75) F dX12_answer_26 (by decide) (fun b182 => ?_) (fun b182 => ?_)
    · exact j_75 _ (lv_sub hl [0, 1] rfl)
    · refine lv_aload_n F.1 F.2.1 dX12_answer_29 rfl (lv_at hl 0 rfl) ?_
      refine tw_Vv (As := []) F hZ h yk_X12_ahead0 mw_468 mw_469 mw_470 (s_X12_ahead0 l D cy L R O f17 a0 m_a0 r_a0) rfl rfl m_a0 r_a0 (fun e q => (T_12 e).mp q) rfl hl.1 rfl (Nat.le_of_ble_eq_true rfl) ⟨Nat.le_of_ble_eq_true rfl, Nat.le_of_ble_eq_true rfl⟩ ⟨Nat.le_of_ble_eq_true rfl, Nat.le_of_ble_eq_true rfl⟩ dX12_answer_30 (fun f183 H locs hp183 h => ?_)
      obtain ⟨hf183, hv184p0⟩ := hp183
      have hA : KW (x1.toInt.toNat) (x1.toInt.toNat + 12) GA f0 f183 := hA.fm hf183 m_GA r_GA (by decide +kernel)
      have hT : TW L R a0 f183 := hv184p0
      have hqkn : elj f183 GA (x1.toInt.toNat + 1) = z16.toInt := by rw [hf183.eelj m_GA r_GA (by decide +kernel)]; exact hqkn
      have hk : fr L R [(12, 11), (12, 12), (12, 13), (12, 14), (12, 16), (12, 17)] [12, 61] f0 f183 := hk.tr hf183 rfl rfl
      have e185 : fld f183 a0 0 = .ref GA := (hf183.efl m_a0 r_a0 rfl).trans e18
      have e186 : fld f183 a0 22 = .ref GP := (hf183.efl m_a0 r_a0 rfl).trans e19
      have e187 : fld f183 a0 23 = .ref GL := (hf183.efl m_a0 r_a0 rfl).trans e20
      have e188 : fld f183 a0 6 = .ref GT := (hf183.efl m_a0 r_a0 rfl).trans e21
      have e189 : fi f183 a0 19 = fi f17 a0 19 := hf183.efi m_a0 r_a0 rfl
      refine lv_aload_n F.1 F.2.1 dX12_answer_33 rfl (lv_at hl 0 rfl) ?_
      refine tw_Vi (As := []) F hZ h yk_X12_isName mw_700 mw_701 mw_702 (s_X12_isName l D cy L R O f183 a0 m_a0 r_a0) rfl rfl m_a0 r_a0 (fun e q => (T_12 e).mp q) rfl hl.1 rfl (Nat.le_of_ble_eq_true rfl) ⟨Nat.le_of_ble_eq_true rfl, Nat.le_of_ble_eq_true rfl⟩ ⟨Nat.le_of_ble_eq_true rfl, Nat.le_of_ble_eq_true rfl⟩ dX12_answer_34 (fun v191 f190 H locs hp190 h => ?_)
      obtain ⟨rfl, hv191a, hv191b, hv191p0⟩ := hp190
      refine tw_if_ne (tgt := 46) F dX12_answer_37 (by decide) (fun b192 => ?_) (fun b192 => ?_)
      · refine lv_aload_n F.1 F.2.1 dX12_answer_46 rfl (lv_at hl 0 rfl) ?_
        refine g_12_7 F h m_a0 r_a0 dX12_answer_47 (fun o193 m_o193 r_o193 ho193 => ?_)
        obtain rfl := (fld_inj e185 ho193).symm
        refine lv_iload_n F.1 F.2.1 dX12_answer_50 rfl (lv_at hl 1 rfl) ?_
        refine lv_aload_n F.1 F.2.1 dX12_answer_51 rfl (lv_at hl 0 rfl) ?_
        refine tw_Vl (As := []) F hZ h yk_X12_wordHere mw_491 mw_492 mw_493 (s_X12_wordHere l D cy L R O f183 a0 m_a0 r_a0) rfl rfl m_a0 r_a0 (fun e q => (T_12 e).mp q) rfl hl.1 rfl (Nat.le_of_ble_eq_true rfl) ⟨Nat.le_of_ble_eq_true rfl, Nat.le_of_ble_eq_true rfl⟩ ⟨Nat.le_of_ble_eq_true rfl, Nat.le_of_ble_eq_true rfl⟩ dX12_answer_52 (fun v195 f194 H locs hp194 h => ?_)
        obtain rfl := hp194
        refine se_61 F h m_GA r_GA (by omega) (atS (AH_0 hH (by omega)) clP_12) dX12_answer_55 (fun f196 H locs e196a e196b hf196 h => ?_)
        have hA : KW (x1.toInt.toNat) (x1.toInt.toNat + 12) GA f0 f196 := hA.st e196a (by omega)
        have hT : TW L R a0 f196 := hT.fm hf196 m_a0 r_a0 (by decide +kernel) (by decide +kernel)
        have hqkn : elj f196 GA (x1.toInt.toNat + 1) = z16.toInt := by rw [e196a, if_neg (by omega)]; exact hqkn
        have hk : fr L R [(12, 11), (12, 12), (12, 13), (12, 14), (12, 16), (12, 17)] [12, 61] f0 f196 := hk.tr hf196 rfl rfl
        have e197 : fld f196 a0 0 = .ref GA := (hf196.efl m_a0 r_a0 rfl).trans e185
        have e198 : fld f196 a0 22 = .ref GP := (hf196.efl m_a0 r_a0 rfl).trans e186
        have e199 : fld f196 a0 23 = .ref GL := (hf196.efl m_a0 r_a0 rfl).trans e187
        have e200 : fld f196 a0 6 = .ref GT := (hf196.efl m_a0 r_a0 rfl).trans e188
        have e201 : fi f196 a0 11 = fi f183 a0 11 := hf196.efi m_a0 r_a0 rfl
        have e202 : fi f196 a0 14 = fi f183 a0 14 := hf196.efi m_a0 r_a0 rfl
        have e203 : fi f196 a0 19 = fi f183 a0 19 := hf196.efi m_a0 r_a0 rfl
        have e204 : fi f196 a0 12 = fi f183 a0 12 := hf196.efi m_a0 r_a0 rfl
        have e205 : fi f196 a0 13 = fi f183 a0 13 := hf196.efi m_a0 r_a0 rfl
        refine lv_aload_n F.1 F.2.1 dX12_answer_56 rfl (lv_at hl 0 rfl) ?_
        refine g_12_7 F h m_a0 r_a0 dX12_answer_57 (fun o206 m_o206 r_o206 ho206 => ?_)
        obtain rfl := (fld_inj e197 ho206).symm
        refine lv_iload_n F.1 F.2.1 dX12_answer_60 rfl (lv_at hl 1 rfl) ?_
        refine tw_iconst F dX12_answer_61 ki_2 (fun z207 hz207 => ?_)
        refine tu_iadd F dX12_answer_62 (by omega) (fun z208 hz208 => ?_)
        refine lv_aload_n F.1 F.2.1 dX12_answer_63 rfl (lv_at hl 0 rfl) ?_
        refine g_12_161 F h m_a0 r_a0 dX12_answer_64 (fun v209 hv209 hv209a hv209b => ?_)
        refine tw_i2l F dX12_answer_67 (fun z210 hz210 => ?_)
        refine se_61 F h m_GA r_GA (by omega) (atS (AH_p hH (by omega)) (clP_7.mpr (by omega))) dX12_answer_68 (fun f211 H locs e211a e211b hf211 h => ?_)
        have hA : KW (x1.toInt.toNat) (x1.toInt.toNat + 12) GA f0 f211 := hA.st e211a (by omega)
        have hT : TW L R a0 f211 := hT.fm hf211 m_a0 r_a0 (by decide +kernel) (by decide +kernel)
        have hqkn : elj f211 GA (x1.toInt.toNat + 1) = z16.toInt := by rw [e211a, if_neg (by omega)]; exact hqkn
        have hk : fr L R [(12, 11), (12, 12), (12, 13), (12, 14), (12, 16), (12, 17)] [12, 61] f0 f211 := hk.tr hf211 rfl rfl
        have e212 : fld f211 a0 0 = .ref GA := (hf211.efl m_a0 r_a0 rfl).trans e197
        have e213 : fld f211 a0 22 = .ref GP := (hf211.efl m_a0 r_a0 rfl).trans e198
        have e214 : fld f211 a0 23 = .ref GL := (hf211.efl m_a0 r_a0 rfl).trans e199
        have e215 : fld f211 a0 6 = .ref GT := (hf211.efl m_a0 r_a0 rfl).trans e200
        have e216 : fi f211 a0 11 = fi f196 a0 11 := hf211.efi m_a0 r_a0 rfl
        have e217 : fi f211 a0 14 = fi f196 a0 14 := hf211.efi m_a0 r_a0 rfl
        have e218 : fi f211 a0 19 = fi f196 a0 19 := hf211.efi m_a0 r_a0 rfl
        have e219 : fi f211 a0 12 = fi f196 a0 12 := hf211.efi m_a0 r_a0 rfl
        have e220 : fi f211 a0 13 = fi f196 a0 13 := hf211.efi m_a0 r_a0 rfl
        refine lv_aload_n F.1 F.2.1 dX12_answer_69 rfl (lv_at hl 0 rfl) ?_
        refine tw_Vv (As := []) F hZ h yk_X12_ahead0 mw_468 mw_469 mw_470 (s_X12_ahead0 l D cy L R O f211 a0 m_a0 r_a0) rfl rfl m_a0 r_a0 (fun e q => (T_12 e).mp q) rfl hl.1 rfl (Nat.le_of_ble_eq_true rfl) ⟨Nat.le_of_ble_eq_true rfl, Nat.le_of_ble_eq_true rfl⟩ ⟨Nat.le_of_ble_eq_true rfl, Nat.le_of_ble_eq_true rfl⟩ dX12_answer_70 (fun f221 H locs hp221 h => ?_)
        obtain ⟨hf221, hv222p0⟩ := hp221
        have hA : KW (x1.toInt.toNat) (x1.toInt.toNat + 12) GA f0 f221 := hA.fm hf221 m_GA r_GA (by decide +kernel)
        have hT : TW L R a0 f221 := hv222p0
        have hqkn : elj f221 GA (x1.toInt.toNat + 1) = z16.toInt := by rw [hf221.eelj m_GA r_GA (by decide +kernel)]; exact hqkn
        have hk : fr L R [(12, 11), (12, 12), (12, 13), (12, 14), (12, 16), (12, 17)] [12, 61] f0 f221 := hk.tr hf221 rfl rfl
        have e223 : fld f221 a0 0 = .ref GA := (hf221.efl m_a0 r_a0 rfl).trans e212
        have e224 : fld f221 a0 22 = .ref GP := (hf221.efl m_a0 r_a0 rfl).trans e213
        have e225 : fld f221 a0 23 = .ref GL := (hf221.efl m_a0 r_a0 rfl).trans e214
        have e226 : fld f221 a0 6 = .ref GT := (hf221.efl m_a0 r_a0 rfl).trans e215
        have e227 : fi f221 a0 19 = fi f211 a0 19 := hf221.efi m_a0 r_a0 rfl
        have hT : TW L R a0 f221 := hv222p0
        refine tw_iconst F dX12_answer_73 ki_1 (fun z228 hz228 => ?_)
        exact hret f221 _ _ _ _ z228 dX12_answer_74 (tw_nb (by omega)) ⟨hk, by omega, by omega, hA⟩ h
      · refine lv_aload_n F.1 F.2.1 dX12_answer_40 rfl (lv_at hl 0 rfl) ?_
        refine tw_iconst F dX12_answer_41 ki_2 (fun z229 hz229 => ?_)
        refine tw_Vi (As := [.int z229]) F hZ h yk_X12_fails mw_487 mw_488 mw_489 (s_X12_fails l D cy L R O f183 a0 m_a0 r_a0 z229 ⟨by omega, by omega⟩) rfl rfl m_a0 r_a0 (fun e q => (T_12 e).mp q) rfl hl.1 rfl (Nat.le_of_ble_eq_true rfl) ⟨Nat.le_of_ble_eq_true rfl, Nat.le_of_ble_eq_true rfl⟩ ⟨Nat.le_of_ble_eq_true rfl, Nat.le_of_ble_eq_true rfl⟩ dX12_answer_42 (fun v231 f230 H locs hp230 h => ?_)
        obtain ⟨hf230, hv231a, hv231b⟩ := hp230
        have hA : KW (x1.toInt.toNat) (x1.toInt.toNat + 12) GA f0 f230 := hA.fm hf230 m_GA r_GA (by decide +kernel)
        have hT : TW L R a0 f230 := hT.fm hf230 m_a0 r_a0 (by decide +kernel) (by decide +kernel)
        have hqkn : elj f230 GA (x1.toInt.toNat + 1) = z16.toInt := by rw [hf230.eelj m_GA r_GA (by decide +kernel)]; exact hqkn
        have hk : fr L R [(12, 11), (12, 12), (12, 13), (12, 14), (12, 16), (12, 17)] [12, 61] f0 f230 := hk.tr hf230 rfl rfl
        have e232 : fld f230 a0 0 = .ref GA := (hf230.efl m_a0 r_a0 rfl).trans e185
        have e233 : fld f230 a0 22 = .ref GP := (hf230.efl m_a0 r_a0 rfl).trans e186
        have e234 : fld f230 a0 23 = .ref GL := (hf230.efl m_a0 r_a0 rfl).trans e187
        have e235 : fld f230 a0 6 = .ref GT := (hf230.efl m_a0 r_a0 rfl).trans e188
        have e236 : fi f230 a0 11 = fi f183 a0 11 := hf230.efi m_a0 r_a0 rfl
        have e237 : fi f230 a0 14 = fi f183 a0 14 := hf230.efi m_a0 r_a0 rfl
        have e238 : fi f230 a0 19 = fi f183 a0 19 := hf230.efi m_a0 r_a0 rfl
        have e239 : fi f230 a0 12 = fi f183 a0 12 := hf230.efi m_a0 r_a0 rfl
        have e240 : fi f230 a0 13 = fi f183 a0 13 := hf230.efi m_a0 r_a0 rfl
        exact hret f230 _ _ _ _ v231 dX12_answer_45 (tw_nb (by omega)) ⟨hk, by omega, by omega, hA⟩ h
theorem dX12_answers_0 : decode cX12_answers 0 = .ok (.aload_n 0, 1) := by decide +kernel
theorem dX12_answers_1 : decode cX12_answers 1 = .ok (.getfield 7, 3) := by decide +kernel
theorem dX12_answers_4 : decode cX12_answers 4 = .ok (.iload_n 1, 1) := by decide +kernel
theorem dX12_answers_5 : decode cX12_answers 5 = .ok (.lconst 1, 1) := by decide +kernel
theorem dX12_answers_6 : decode cX12_answers 6 = .ok (.lastore, 1) := by decide +kernel
theorem dX12_answers_7 : decode cX12_answers 7 = .ok (.aload_n 0, 1) := by decide +kernel
theorem dX12_answers_8 : decode cX12_answers 8 = .ok (.iload_n 1, 1) := by decide +kernel
theorem dX12_answers_9 : decode cX12_answers 9 = .ok (.iconst 1, 1) := by decide +kernel
theorem dX12_answers_10 : decode cX12_answers 10 = .ok (.iadd, 1) := by decide +kernel
theorem dX12_answers_11 : decode cX12_answers 11 = .ok (.iload_n 2, 1) := by decide +kernel
theorem dX12_answers_12 : decode cX12_answers 12 = .ok (.invokevirtual 250, 3) := by decide +kernel
theorem mw_732 : Cond.methodLink RX12 250 yX12_answer ∈ wsL_law := inr_31 _ (List.mem_of_getElem? (i := 12) rfl)
theorem mw_735 : Cond.code yX12_answer cX12_answer 4 (some .boolean) ∈ wsL_law := inr_31 _ (List.mem_of_getElem? (i := 15) rfl)
theorem yk_X12_answer : xY yX12_answer RX12 cX12_answer 4 (some .boolean) 2 := ⟨⟨rfl, by decide +kernel, by decide +kernel, by decide +kernel⟩, mw_5, mw_735⟩
theorem mw_733 : Cond.instanceMethod yX12_answer ∈ wsL_law := inr_31 _ (List.mem_of_getElem? (i := 13) rfl)
theorem mw_734 : Cond.selects RX12 yX12_answer yX12_answer ∈ wsL_law := inr_31 _ (List.mem_of_getElem? (i := 14) rfl)
theorem dX12_answers_15 : decode cX12_answers 15 = .ok (.ifCond .ne 5, 3) := by decide +kernel
theorem dX12_answers_20 : decode cX12_answers 20 = .ok (.iload_n 2, 1) := by decide +kernel
theorem dX12_answers_21 : decode cX12_answers 21 = .ok (.ifCond .eq 72, 3) := by decide +kernel
theorem dX12_answers_93 : decode cX12_answers 93 = .ok (.iconst 1, 1) := by decide +kernel
theorem dX12_answers_94 : decode cX12_answers 94 = .ok (.ireturn, 1) := by decide +kernel
theorem dX12_answers_24 : decode cX12_answers 24 = .ok (.aload_n 0, 1) := by decide +kernel
theorem dX12_answers_25 : decode cX12_answers 25 = .ok (.invokevirtual 231, 3) := by decide +kernel
theorem dX12_answers_28 : decode cX12_answers 28 = .ok (.bipush 7, 2) := by decide +kernel
theorem dX12_answers_30 : decode cX12_answers 30 = .ok (.if_icmp .ne 63, 3) := by decide +kernel
theorem dX12_answers_33 : decode cX12_answers 33 = .ok (.aload_n 0, 1) := by decide +kernel
theorem dX12_answers_34 : decode cX12_answers 34 = .ok (.getfield 7, 3) := by decide +kernel
theorem dX12_answers_37 : decode cX12_answers 37 = .ok (.iload_n 1, 1) := by decide +kernel
theorem dX12_answers_38 : decode cX12_answers 38 = .ok (.laload, 1) := by decide +kernel
theorem dX12_answers_39 : decode cX12_answers 39 = .ok (.ldc2_w 254, 3) := by decide +kernel
theorem mw_731 : Cond.constantLong RX12 254 (4) ∈ wsL_law := inr_31 _ (List.mem_of_getElem? (i := 11) rfl)
theorem kl_4 : (4 : Int64).toInt = 4 := by decide +kernel
theorem dX12_answers_42 : decode cX12_answers 42 = .ok (.lcmp, 1) := by decide +kernel
theorem dX12_answers_43 : decode cX12_answers 43 = .ok (.ifCond .ne 9, 3) := by decide +kernel
theorem dX12_answers_52 : decode cX12_answers 52 = .ok (.aload_n 0, 1) := by decide +kernel
theorem dX12_answers_53 : decode cX12_answers 53 = .ok (.invokevirtual 184, 3) := by decide +kernel
theorem dX12_answers_56 : decode cX12_answers 56 = .ok (.aload_n 0, 1) := by decide +kernel
theorem dX12_answers_57 : decode cX12_answers 57 = .ok (.iload_n 1, 1) := by decide +kernel
theorem dX12_answers_58 : decode cX12_answers 58 = .ok (.iconst 1, 1) := by decide +kernel
theorem dX12_answers_59 : decode cX12_answers 59 = .ok (.iadd, 1) := by decide +kernel
theorem dX12_answers_60 : decode cX12_answers 60 = .ok (.bipush 12, 2) := by decide +kernel
theorem dX12_answers_62 : decode cX12_answers 62 = .ok (.aload_n 0, 1) := by decide +kernel
theorem dX12_answers_63 : decode cX12_answers 63 = .ok (.getfield 7, 3) := by decide +kernel
theorem dX12_answers_66 : decode cX12_answers 66 = .ok (.iload_n 1, 1) := by decide +kernel
theorem dX12_answers_67 : decode cX12_answers 67 = .ok (.laload, 1) := by decide +kernel
theorem dX12_answers_68 : decode cX12_answers 68 = .ok (.l2i, 1) := by decide +kernel
theorem dX12_answers_69 : decode cX12_answers 69 = .ok (.imul, 1) := by decide +kernel
theorem dX12_answers_70 : decode cX12_answers 70 = .ok (.iadd, 1) := by decide +kernel
theorem dX12_answers_71 : decode cX12_answers 71 = .ok (.iconst 1, 1) := by decide +kernel
theorem dX12_answers_72 : decode cX12_answers 72 = .ok (.invokevirtual 250, 3) := by decide +kernel
theorem dX12_answers_75 : decode cX12_answers 75 = .ok (.ifCond .ne 5, 3) := by decide +kernel
theorem dX12_answers_80 : decode cX12_answers 80 = .ok (.aload_n 0, 1) := by decide +kernel
theorem dX12_answers_81 : decode cX12_answers 81 = .ok (.getfield 7, 3) := by decide +kernel
theorem dX12_answers_84 : decode cX12_answers 84 = .ok (.iload_n 1, 1) := by decide +kernel
theorem dX12_answers_85 : decode cX12_answers 85 = .ok (.dup2, 1) := by decide +kernel
theorem dX12_answers_86 : decode cX12_answers 86 = .ok (.laload, 1) := by decide +kernel
theorem dX12_answers_87 : decode cX12_answers 87 = .ok (.lconst 1, 1) := by decide +kernel
theorem dX12_answers_88 : decode cX12_answers 88 = .ok (.ladd, 1) := by decide +kernel
theorem dX12_answers_89 : decode cX12_answers 89 = .ok (.lastore, 1) := by decide +kernel
theorem dX12_answers_90 : decode cX12_answers 90 = .ok (.goto (-70), 3) := by decide +kernel
theorem dX12_answers_78 : decode cX12_answers 78 = .ok (.iconst 0, 1) := by decide +kernel
theorem dX12_answers_79 : decode cX12_answers 79 = .ok (.ireturn, 1) := by decide +kernel
theorem dX12_answers_46 : decode cX12_answers 46 = .ok (.aload_n 0, 1) := by decide +kernel
theorem dX12_answers_47 : decode cX12_answers 47 = .ok (.iconst 5, 1) := by decide +kernel
theorem dX12_answers_48 : decode cX12_answers 48 = .ok (.invokevirtual 187, 3) := by decide +kernel
theorem dX12_answers_51 : decode cX12_answers 51 = .ok (.ireturn, 1) := by decide +kernel
theorem dX12_answers_18 : decode cX12_answers 18 = .ok (.iconst 0, 1) := by decide +kernel
theorem dX12_answers_19 : decode cX12_answers 19 = .ok (.ireturn, 1) := by decide +kernel
def rm_X12_answers : Room := { frames := 7, cells := 0, slots := 0, locals := 153 }
set_option maxHeartbeats 4000000 in
set_option maxRecDepth 100000 in
theorem s_X12_answers (l : Launch) (D : va_G) (cy : Nat → ClassId) (L : List Nat) (R O : Nat → Nat) (f0 : Nat → va_E) (a0 : Nat) (m_a0 : a0 ∈ L) (r_a0 : R a0 = 12) (x1 : Int32) (b1 : 0 ≤ x1.toInt ∧ x1.toInt ≤ 25661) (x2 : Int32) (b2 : 0 ≤ x2.toInt ∧ x2.toInt ≤ 1) (GA : Nat) (m_GA : GA ∈ L) (r_GA : R GA = 61) (t_GA : fld f0 a0 0 = .ref GA) (GP : Nat) (m_GP : GP ∈ L) (r_GP : R GP = 69) (t_GP : fld f0 a0 22 = .ref GP) (GL : Nat) (m_GL : GL ∈ L) (r_GL : R GL = 70) (t_GL : fld f0 a0 23 = .ref GL) (GT : Nat) (m_GT : GT ∈ L) (r_GT : R GT = 64) (t_GT : fld f0 a0 6 = .ref GT) (pre0 : AS x1.toInt.toNat) (pre1 : TW L R a0 f0) : ∀ sz, Met l yX12_answers (Cond.code yX12_answers cX12_answers 3 (some .boolean) :: wsL_law) rm_X12_answers (va_Pc [.ref a0, .int x1, .int x2] (tPZ D cy L R (TT cy L R) f0 sz)) (va_Qi (fun (r : Int32) f1 => fr L R [(12, 11), (12, 12), (12, 13), (12, 14), (12, 16), (12, 17)] [12, 61] f0 f1 ∧ 0 ≤ r.toInt ∧ r.toInt ≤ 1 ∧ KW (x1.toInt.toNat) (x1.toInt.toNat + 49) GA f0 f1 ∧ 1 ≤ elj f1 GA (x1.toInt.toNat)) (tB D (tA L sz) L R (TT cy L R)) (tA L sz)) 0 0 (tA L sz) := by
  refine tw_enteri (by decide +kernel) rfl (Nat.le_of_ble_eq_true rfl) ?_
  intro p e s m below meth c A ls args Q F hZ h hl hret
  have hl : lv_has ls 3 [(0, .ref a0), (1, .int x1), (2, .int x2)] := hl
  have hk : fr L R [(12, 11), (12, 12), (12, 13), (12, 14), (12, 16), (12, 17)] [12, 61] f0 f0 := fr.rf
  have hA : KW (x1.toInt.toNat) (x1.toInt.toNat + 49) GA f0 f0 := KW.rf
  have hR0 := pre0
  have hT := pre1
  refine lv_aload_n F.1 F.2.1 dX12_answers_0 rfl (lv_at hl 0 rfl) ?_
  refine g_12_7 F h m_a0 r_a0 dX12_answers_1 (fun o1 m_o1 r_o1 ho1 => ?_)
  obtain rfl := (fld_inj t_GA ho1).symm
  refine lv_iload_n F.1 F.2.1 dX12_answers_4 rfl (lv_at hl 1 rfl) ?_
  refine tu_lconst F dX12_answers_5 (by decide) (fun z2 (hz2 : z2.toInt = 1) => ?_)
  refine se_61 F h m_GA r_GA (by omega) (atS (AS_0 hR0 (by omega)) (clP_5.mpr (by omega))) dX12_answers_6 (fun f3 H locs e3a e3b hf3 h => ?_)
  have hA : KW (x1.toInt.toNat) (x1.toInt.toNat + 49) GA f0 f3 := hA.st e3a (by omega)
  have hT : TW L R a0 f3 := hT.fm hf3 m_a0 r_a0 (by decide +kernel) (by decide +kernel)
  have hk : fr L R [(12, 11), (12, 12), (12, 13), (12, 14), (12, 16), (12, 17)] [12, 61] f0 f3 := hk.tr hf3 rfl rfl
  have e4 : fld f3 a0 0 = .ref GA := (hf3.efl m_a0 r_a0 rfl).trans t_GA
  have e5 : fld f3 a0 22 = .ref GP := (hf3.efl m_a0 r_a0 rfl).trans t_GP
  have e6 : fld f3 a0 23 = .ref GL := (hf3.efl m_a0 r_a0 rfl).trans t_GL
  have e7 : fld f3 a0 6 = .ref GT := (hf3.efl m_a0 r_a0 rfl).trans t_GT
  have hq6 : elj f3 GA (x1.toInt.toNat) = z2.toInt := by rw [e3a, if_pos (by omega)]
  have hqk1 : 1 ≤ elj f3 GA (x1.toInt.toNat) := by omega
  refine lv_aload_n F.1 F.2.1 dX12_answers_7 rfl (lv_at hl 0 rfl) ?_
  refine lv_iload_n F.1 F.2.1 dX12_answers_8 rfl (lv_at hl 1 rfl) ?_
  refine tw_iconst F dX12_answers_9 ki_1 (fun z8 hz8 => ?_)
  refine tu_iadd F dX12_answers_10 (by omega) (fun z9 hz9 => ?_)
  refine lv_iload_n F.1 F.2.1 dX12_answers_11 rfl (lv_at hl 2 rfl) ?_
  refine tw_Vi (As := [.int z9, .int x2]) F hZ h yk_X12_answer mw_732 mw_733 mw_734 (s_X12_answer l D cy L R O f3 a0 m_a0 r_a0 z9 ⟨by omega, by omega⟩ x2 ⟨by omega, by omega⟩ GA m_GA r_GA e4 GP m_GP r_GP e5 GL m_GL r_GL e6 GT m_GT r_GT e7 (AS_k hR0 (by omega)) hT) rfl rfl m_a0 r_a0 (fun e q => (T_12 e).mp q) rfl hl.1 rfl (Nat.le_of_ble_eq_true rfl) ⟨Nat.le_of_ble_eq_true rfl, Nat.le_of_ble_eq_true rfl⟩ ⟨Nat.le_of_ble_eq_true rfl, Nat.le_of_ble_eq_true rfl⟩ dX12_answers_12 (fun v11 f10 H locs hp10 h => ?_)
  obtain ⟨hf10, hv11a, hv11b, hv11p0⟩ := hp10
  have hA : KW (x1.toInt.toNat) (x1.toInt.toNat + 49) GA f0 f10 := hA.sub hv11p0 (by omega) (by omega)
  have hqk1 : 1 ≤ elj f10 GA (x1.toInt.toNat) := by rw [hv11p0 _ (by omega)]; exact hqk1
  have hk : fr L R [(12, 11), (12, 12), (12, 13), (12, 14), (12, 16), (12, 17)] [12, 61] f0 f10 := hk.tr hf10 rfl rfl
  have e12 : fld f10 a0 0 = .ref GA := (hf10.efl m_a0 r_a0 rfl).trans e4
  have e13 : fld f10 a0 22 = .ref GP := (hf10.efl m_a0 r_a0 rfl).trans e5
  have e14 : fld f10 a0 23 = .ref GL := (hf10.efl m_a0 r_a0 rfl).trans e6
  have e15 : fld f10 a0 6 = .ref GT := (hf10.efl m_a0 r_a0 rfl).trans e7
  have w12 := hv11p0 (x1.toInt.toNat) (by omega)
  refine tw_if_ne (tgt := 20) F dX12_answers_15 (by decide) (fun b16 => ?_) (fun b16 => ?_)
  · have j_20 : ∀ (n20 : Nat) (f17 : Nat → va_E) (H : Heap) (locs : List Loc) (ls : Array Slot), elj f17 GA (x1.toInt.toNat) ≤ 4 → ((5 - elj f17 GA (x1.toInt.toNat))).toNat < n20 → tS D cy A s.heap L R (TT cy L R) f17 s H locs → KW (x1.toInt.toNat) (x1.toInt.toNat + 49) GA f0 f17 → 1 ≤ elj f17 GA (x1.toInt.toNat) → fr L R [(12, 11), (12, 12), (12, 13), (12, 14), (12, 16), (12, 17)] [12, 61] f0 f17 → fr L R [(12, 11), (12, 12), (12, 13), (12, 14), (12, 16), (12, 17)] [12, 61] f10 f17 → lv_has ls 3 [(0, .ref a0), (1, .int x1), (2, .int x2)] → W p l e rm_X12_answers s m args below meth c H locs 0 0 Q (F0 m 20 ls []) := by
      intro n20
      induction n20 with
      | zero =>
        intro f17 H locs ls b18 b19 h hA hqk1 hk hb20 hl
        exfalso
        omega
      | succ n20 ih20 =>
        intro f17 H locs ls b18 b19 h hA hqk1 hk hb20 hl
        have e20 : fld f17 a0 0 = .ref GA := (hb20.efl m_a0 r_a0 rfl).trans e12
        have e21 : fld f17 a0 22 = .ref GP := (hb20.efl m_a0 r_a0 rfl).trans e13
        have e22 : fld f17 a0 23 = .ref GL := (hb20.efl m_a0 r_a0 rfl).trans e14
        have e23 : fld f17 a0 6 = .ref GT := (hb20.efl m_a0 r_a0 rfl).trans e15
        refine lv_iload_n F.1 F.2.1 dX12_answers_20 rfl (lv_at hl 2 rfl) ?_
        refine tw_if_eq (tgt := 93) F dX12_answers_21 (by decide) (fun b24 => ?_) (fun b24 => ?_)
        · refine tw_iconst F dX12_answers_93 ki_1 (fun z25 hz25 => ?_)
          exact hret f17 _ _ _ _ z25 dX12_answers_94 (tw_nb (by omega)) ⟨hk, by omega, by omega, hA, hqk1⟩ h
        · refine lv_aload_n F.1 F.2.1 dX12_answers_24 rfl (lv_at hl 0 rfl) ?_
          refine tw_Vi (As := []) F hZ h yk_X12_keyWord mw_643 mw_644 mw_645 (s_X12_keyWord l D cy L R O f17 a0 m_a0 r_a0) rfl rfl m_a0 r_a0 (fun e q => (T_12 e).mp q) rfl hl.1 rfl (Nat.le_of_ble_eq_true rfl) ⟨Nat.le_of_ble_eq_true rfl, Nat.le_of_ble_eq_true rfl⟩ ⟨Nat.le_of_ble_eq_true rfl, Nat.le_of_ble_eq_true rfl⟩ dX12_answers_25 (fun v27 f26 H locs hp26 h => ?_)
          obtain rfl := hp26
          refine tw_bipush F dX12_answers_28 kb_7 (fun z28 hz28 => ?_)
          refine tw_icmp_ne (tgt := 93) F dX12_answers_30 (by decide) (fun b29 => ?_) (fun b29 => ?_)
          · refine tw_iconst F dX12_answers_93 ki_1 (fun z30 hz30 => ?_)
            exact hret f17 _ _ _ _ z30 dX12_answers_94 (tw_nb (by omega)) ⟨hk, by omega, by omega, hA, hqk1⟩ h
          · refine lv_aload_n F.1 F.2.1 dX12_answers_33 rfl (lv_at hl 0 rfl) ?_
            refine g_12_7 F h m_a0 r_a0 dX12_answers_34 (fun o31 m_o31 r_o31 ho31 => ?_)
            obtain rfl := (fld_inj e20 ho31).symm
            refine lv_iload_n F.1 F.2.1 dX12_answers_37 rfl (lv_at hl 1 rfl) ?_
            refine le_61 F h m_GA r_GA (by omega) dX12_answers_38 (fun v32 ev32 hv32a => ?_)
            have hv32b := clP_5.mp (atb hv32a (AS_0 hR0 (by omega)))
            have u38 : v32.toInt = elj f17 GA (x1.toInt.toNat) := by rw [ev32, show x1.toInt.toNat = x1.toInt.toNat by omega]
            refine tu_ldc2 F mw_731 dX12_answers_39 kl_4 (fun z33 hz33 => ?_)
            refine tw_lcmp F dX12_answers_42 (fun z34 hz34 => ?_)
            refine tw_if_ne (tgt := 52) F dX12_answers_43 (by decide) (fun b35 => ?_) (fun b35 => ?_)
            · have hqkc : elj f17 GA (x1.toInt.toNat) = v32.toInt := u38.symm
              refine lv_aload_n F.1 F.2.1 dX12_answers_52 rfl (lv_at hl 0 rfl) ?_
              refine tw_Vv (As := []) F hZ h yk_X12_ahead0 mw_468 mw_469 mw_470 (s_X12_ahead0 l D cy L R O f17 a0 m_a0 r_a0) rfl rfl m_a0 r_a0 (fun e q => (T_12 e).mp q) rfl hl.1 rfl (Nat.le_of_ble_eq_true rfl) ⟨Nat.le_of_ble_eq_true rfl, Nat.le_of_ble_eq_true rfl⟩ ⟨Nat.le_of_ble_eq_true rfl, Nat.le_of_ble_eq_true rfl⟩ dX12_answers_53 (fun f36 H locs hp36 h => ?_)
              obtain ⟨hf36, hv37p0⟩ := hp36
              have hA : KW (x1.toInt.toNat) (x1.toInt.toNat + 49) GA f0 f36 := hA.fm hf36 m_GA r_GA (by decide +kernel)
              have hqk1 : 1 ≤ elj f36 GA (x1.toInt.toNat) := by rw [hf36.eelj m_GA r_GA (by decide +kernel)]; exact hqk1
              have hqkc : elj f36 GA (x1.toInt.toNat) = v32.toInt := by rw [hf36.eelj m_GA r_GA (by decide +kernel)]; exact hqkc
              have hk : fr L R [(12, 11), (12, 12), (12, 13), (12, 14), (12, 16), (12, 17)] [12, 61] f0 f36 := hk.tr hf36 rfl rfl
              have hb20 : fr L R [(12, 11), (12, 12), (12, 13), (12, 14), (12, 16), (12, 17)] [12, 61] f10 f36 := hb20.tr hf36 rfl rfl
              have e38 : fld f36 a0 0 = .ref GA := (hf36.efl m_a0 r_a0 rfl).trans e20
              have e39 : fld f36 a0 22 = .ref GP := (hf36.efl m_a0 r_a0 rfl).trans e21
              have e40 : fld f36 a0 23 = .ref GL := (hf36.efl m_a0 r_a0 rfl).trans e22
              have e41 : fld f36 a0 6 = .ref GT := (hf36.efl m_a0 r_a0 rfl).trans e23
              have hT : TW L R a0 f36 := hv37p0
              refine lv_aload_n F.1 F.2.1 dX12_answers_56 rfl (lv_at hl 0 rfl) ?_
              refine lv_iload_n F.1 F.2.1 dX12_answers_57 rfl (lv_at hl 1 rfl) ?_
              refine tw_iconst F dX12_answers_58 ki_1 (fun z42 hz42 => ?_)
              refine tu_iadd F dX12_answers_59 (by omega) (fun z43 hz43 => ?_)
              refine tw_bipush F dX12_answers_60 kb_12 (fun z44 hz44 => ?_)
              refine lv_aload_n F.1 F.2.1 dX12_answers_62 rfl (lv_at hl 0 rfl) ?_
              refine g_12_7 F h m_a0 r_a0 dX12_answers_63 (fun o45 m_o45 r_o45 ho45 => ?_)
              obtain rfl := (fld_inj e38 ho45).symm
              refine lv_iload_n F.1 F.2.1 dX12_answers_66 rfl (lv_at hl 1 rfl) ?_
              refine le_61 F h m_GA r_GA (by omega) dX12_answers_67 (fun v46 ev46 hv46a => ?_)
              have hv46b := clP_5.mp (atb hv46a (AS_0 hR0 (by omega)))
              have u67 : v46.toInt = elj f36 GA (x1.toInt.toNat) := by rw [ev46, show x1.toInt.toNat = x1.toInt.toNat by omega]
              refine tw_l2i F dX12_answers_68 (by omega) (by omega) (fun z47 hz47 => ?_)
              refine tu_imull F dX12_answers_69 hz44 (by omega) (fun z48 hz48 => ?_)
              refine tu_iadd F dX12_answers_70 (by omega) (fun z49 hz49 => ?_)
              refine tw_iconst F dX12_answers_71 ki_1 (fun z50 hz50 => ?_)
              refine tw_Vi (As := [.int z49, .int z50]) F hZ h yk_X12_answer mw_732 mw_733 mw_734 (s_X12_answer l D cy L R O f36 a0 m_a0 r_a0 z49 ⟨by omega, by omega⟩ z50 ⟨by omega, by omega⟩ GA m_GA r_GA e38 GP m_GP r_GP e39 GL m_GL r_GL e40 GT m_GT r_GT e41 (AS_k hR0 (by omega)) hT) rfl rfl m_a0 r_a0 (fun e q => (T_12 e).mp q) rfl hl.1 rfl (Nat.le_of_ble_eq_true rfl) ⟨Nat.le_of_ble_eq_true rfl, Nat.le_of_ble_eq_true rfl⟩ ⟨Nat.le_of_ble_eq_true rfl, Nat.le_of_ble_eq_true rfl⟩ dX12_answers_72 (fun v52 f51 H locs hp51 h => ?_)
              obtain ⟨hf51, hv52a, hv52b, hv52p0⟩ := hp51
              have hA : KW (x1.toInt.toNat) (x1.toInt.toNat + 49) GA f0 f51 := hA.sub hv52p0 (by omega) (by omega)
              have hqk1 : 1 ≤ elj f51 GA (x1.toInt.toNat) := by rw [hv52p0 _ (by omega)]; exact hqk1
              have hqkc : elj f51 GA (x1.toInt.toNat) = v32.toInt := by rw [hv52p0 _ (by omega)]; exact hqkc
              have hk : fr L R [(12, 11), (12, 12), (12, 13), (12, 14), (12, 16), (12, 17)] [12, 61] f0 f51 := hk.tr hf51 rfl rfl
              have hb20 : fr L R [(12, 11), (12, 12), (12, 13), (12, 14), (12, 16), (12, 17)] [12, 61] f10 f51 := hb20.tr hf51 rfl rfl
              have e53 : fld f51 a0 0 = .ref GA := (hf51.efl m_a0 r_a0 rfl).trans e38
              have e54 : fld f51 a0 22 = .ref GP := (hf51.efl m_a0 r_a0 rfl).trans e39
              have e55 : fld f51 a0 23 = .ref GL := (hf51.efl m_a0 r_a0 rfl).trans e40
              have e56 : fld f51 a0 6 = .ref GT := (hf51.efl m_a0 r_a0 rfl).trans e41
              refine tw_if_ne (tgt := 80) F dX12_answers_75 (by decide) (fun b57 => ?_) (fun b57 => ?_)
              · refine lv_aload_n F.1 F.2.1 dX12_answers_80 rfl (lv_at hl 0 rfl) ?_
                refine g_12_7 F h m_a0 r_a0 dX12_answers_81 (fun o58 m_o58 r_o58 ho58 => ?_)
                obtain rfl := (fld_inj e53 ho58).symm
                refine lv_iload_n F.1 F.2.1 dX12_answers_84 rfl (lv_at hl 1 rfl) ?_
                refine lv_dup2_11 F.1 F.2.1 dX12_answers_85 rfl rfl ?_
                refine le_61 F h m_GA r_GA (by omega) dX12_answers_86 (fun v59 ev59 hv59a => ?_)
                have hv59b := clP_5.mp (atb hv59a (AS_0 hR0 (by omega)))
                have u86 : v59.toInt = elj f51 GA (x1.toInt.toNat) := by rw [ev59, show x1.toInt.toNat = x1.toInt.toNat by omega]
                refine tu_lconst F dX12_answers_87 (by decide) (fun z60 (hz60 : z60.toInt = 1) => ?_)
                refine tu_ladd F dX12_answers_88 (by omega) (fun z61 hz61 => ?_)
                refine se_61 F h m_GA r_GA (by omega) (atS (AS_0 hR0 (by omega)) (clP_5.mpr (by omega))) dX12_answers_89 (fun f62 H locs e62a e62b hf62 h => ?_)
                have hA : KW (x1.toInt.toNat) (x1.toInt.toNat + 49) GA f0 f62 := hA.st e62a (by omega)
                have hk : fr L R [(12, 11), (12, 12), (12, 13), (12, 14), (12, 16), (12, 17)] [12, 61] f0 f62 := hk.tr hf62 rfl rfl
                have hb20 : fr L R [(12, 11), (12, 12), (12, 13), (12, 14), (12, 16), (12, 17)] [12, 61] f10 f62 := hb20.tr hf62 rfl rfl
                have e63 : fld f62 a0 0 = .ref GA := (hf62.efl m_a0 r_a0 rfl).trans e53
                have e64 : fld f62 a0 22 = .ref GP := (hf62.efl m_a0 r_a0 rfl).trans e54
                have e65 : fld f62 a0 23 = .ref GL := (hf62.efl m_a0 r_a0 rfl).trans e55
                have e66 : fld f62 a0 6 = .ref GT := (hf62.efl m_a0 r_a0 rfl).trans e56
                have hq89 : elj f62 GA (x1.toInt.toNat) = z61.toInt := by rw [e62a, if_pos (by omega)]
                have hqk1 : 1 ≤ elj f62 GA (x1.toInt.toNat) := by omega
                refine lv_goto (tgt := 20) F.1 F.2.1 dX12_answers_90 (by decide) ?_
                exact ih20 f62 _ _ _ (by omega) (by omega) h hA hqk1 hk hb20 (lv_sub hl [0, 1, 2] rfl)
              · refine tw_iconst F dX12_answers_78 ki_0 (fun z67 hz67 => ?_)
                exact hret f51 _ _ _ _ z67 dX12_answers_79 (tw_nb (by omega)) ⟨hk, by omega, by omega, hA, hqk1⟩ h
            · refine lv_aload_n F.1 F.2.1 dX12_answers_46 rfl (lv_at hl 0 rfl) ?_
              refine tw_iconst F dX12_answers_47 ki_5 (fun z68 hz68 => ?_)
              refine tw_Vi (As := [.int z68]) F hZ h yk_X12_fails mw_487 mw_488 mw_489 (s_X12_fails l D cy L R O f17 a0 m_a0 r_a0 z68 ⟨by omega, by omega⟩) rfl rfl m_a0 r_a0 (fun e q => (T_12 e).mp q) rfl hl.1 rfl (Nat.le_of_ble_eq_true rfl) ⟨Nat.le_of_ble_eq_true rfl, Nat.le_of_ble_eq_true rfl⟩ ⟨Nat.le_of_ble_eq_true rfl, Nat.le_of_ble_eq_true rfl⟩ dX12_answers_48 (fun v70 f69 H locs hp69 h => ?_)
              obtain ⟨hf69, hv70a, hv70b⟩ := hp69
              have hA : KW (x1.toInt.toNat) (x1.toInt.toNat + 49) GA f0 f69 := hA.fm hf69 m_GA r_GA (by decide +kernel)
              have hqk1 : 1 ≤ elj f69 GA (x1.toInt.toNat) := by rw [hf69.eelj m_GA r_GA (by decide +kernel)]; exact hqk1
              have hk : fr L R [(12, 11), (12, 12), (12, 13), (12, 14), (12, 16), (12, 17)] [12, 61] f0 f69 := hk.tr hf69 rfl rfl
              have hb20 : fr L R [(12, 11), (12, 12), (12, 13), (12, 14), (12, 16), (12, 17)] [12, 61] f10 f69 := hb20.tr hf69 rfl rfl
              have e71 : fld f69 a0 0 = .ref GA := (hf69.efl m_a0 r_a0 rfl).trans e20
              have e72 : fld f69 a0 22 = .ref GP := (hf69.efl m_a0 r_a0 rfl).trans e21
              have e73 : fld f69 a0 23 = .ref GL := (hf69.efl m_a0 r_a0 rfl).trans e22
              have e74 : fld f69 a0 6 = .ref GT := (hf69.efl m_a0 r_a0 rfl).trans e23
              exact hret f69 _ _ _ _ v70 dX12_answers_51 (tw_nb (by omega)) ⟨hk, by omega, by omega, hA, hqk1⟩ h
    have hb20 : fr L R [(12, 11), (12, 12), (12, 13), (12, 14), (12, 16), (12, 17)] [12, 61] f10 f10 := fr.rf
    exact j_20 (((5 - elj f10 GA (x1.toInt.toNat))).toNat + 1) f10 _ _ _ (by omega) (by omega) h hA hqk1 hk hb20 (lv_sub hl [0, 1, 2] rfl)
  · refine tw_iconst F dX12_answers_18 ki_0 (fun z75 hz75 => ?_)
    exact hret f10 _ _ _ _ z75 dX12_answers_19 (tw_nb (by omega)) ⟨hk, by omega, by omega, hA, hqk1⟩ h
theorem dX12_aTurn_0 : decode cX12_aTurn 0 = .ok (.aload_n 0, 1) := by decide +kernel
theorem dX12_aTurn_1 : decode cX12_aTurn 1 = .ok (.getfield 7, 3) := by decide +kernel
theorem dX12_aTurn_4 : decode cX12_aTurn 4 = .ok (.sipush 20762, 3) := by decide +kernel
theorem ks_20762 : (Int16.ofInt 20762).toInt32.toInt = 20762 := by decide
theorem dX12_aTurn_7 : decode cX12_aTurn 7 = .ok (.laload, 1) := by decide +kernel
theorem dX12_aTurn_8 : decode cX12_aTurn 8 = .ok (.l2i, 1) := by decide +kernel
theorem dX12_aTurn_9 : decode cX12_aTurn 9 = .ok (.istore_n 1, 1) := by decide +kernel
theorem dX12_aTurn_10 : decode cX12_aTurn 10 = .ok (.iload_n 1, 1) := by decide +kernel
theorem dX12_aTurn_11 : decode cX12_aTurn 11 = .ok (.bipush 12, 2) := by decide +kernel
theorem dX12_aTurn_13 : decode cX12_aTurn 13 = .ok (.if_icmp .ne 9, 3) := by decide +kernel
theorem dX12_aTurn_22 : decode cX12_aTurn 22 = .ok (.aload_n 0, 1) := by decide +kernel
theorem dX12_aTurn_23 : decode cX12_aTurn 23 = .ok (.invokevirtual 184, 3) := by decide +kernel
theorem dX12_aTurn_26 : decode cX12_aTurn 26 = .ok (.aload_n 0, 1) := by decide +kernel
theorem dX12_aTurn_27 : decode cX12_aTurn 27 = .ok (.invokevirtual 234, 3) := by decide +kernel
theorem dX12_aTurn_30 : decode cX12_aTurn 30 = .ok (.ifCond .ne 9, 3) := by decide +kernel
theorem dX12_aTurn_39 : decode cX12_aTurn 39 = .ok (.iconst 0, 1) := by decide +kernel
theorem dX12_aTurn_40 : decode cX12_aTurn 40 = .ok (.istore_n 2, 1) := by decide +kernel
theorem dX12_aTurn_41 : decode cX12_aTurn 41 = .ok (.iload_n 2, 1) := by decide +kernel
theorem dX12_aTurn_42 : decode cX12_aTurn 42 = .ok (.iload_n 1, 1) := by decide +kernel
theorem dX12_aTurn_43 : decode cX12_aTurn 43 = .ok (.if_icmp .ge 35, 3) := by decide +kernel
theorem dX12_aTurn_78 : decode cX12_aTurn 78 = .ok (.aload_n 0, 1) := by decide +kernel
theorem dX12_aTurn_79 : decode cX12_aTurn 79 = .ok (.getfield 7, 3) := by decide +kernel
theorem dX12_aTurn_82 : decode cX12_aTurn 82 = .ok (.sipush 20788, 3) := by decide +kernel
theorem ks_20788 : (Int16.ofInt 20788).toInt32.toInt = 20788 := by decide
theorem dX12_aTurn_85 : decode cX12_aTurn 85 = .ok (.iconst 2, 1) := by decide +kernel
theorem dX12_aTurn_86 : decode cX12_aTurn 86 = .ok (.iload_n 1, 1) := by decide +kernel
theorem dX12_aTurn_87 : decode cX12_aTurn 87 = .ok (.imul, 1) := by decide +kernel
theorem dX12_aTurn_88 : decode cX12_aTurn 88 = .ok (.iadd, 1) := by decide +kernel
theorem dX12_aTurn_89 : decode cX12_aTurn 89 = .ok (.aload_n 0, 1) := by decide +kernel
theorem dX12_aTurn_90 : decode cX12_aTurn 90 = .ok (.invokevirtual 190, 3) := by decide +kernel
theorem dX12_aTurn_93 : decode cX12_aTurn 93 = .ok (.lastore, 1) := by decide +kernel
theorem dX12_aTurn_94 : decode cX12_aTurn 94 = .ok (.aload_n 0, 1) := by decide +kernel
theorem dX12_aTurn_95 : decode cX12_aTurn 95 = .ok (.invokevirtual 184, 3) := by decide +kernel
theorem dX12_aTurn_98 : decode cX12_aTurn 98 = .ok (.aload_n 0, 1) := by decide +kernel
theorem dX12_aTurn_99 : decode cX12_aTurn 99 = .ok (.invokevirtual 234, 3) := by decide +kernel
theorem dX12_aTurn_102 : decode cX12_aTurn 102 = .ok (.ifCond .ne 9, 3) := by decide +kernel
theorem dX12_aTurn_111 : decode cX12_aTurn 111 = .ok (.aload_n 0, 1) := by decide +kernel
theorem dX12_aTurn_112 : decode cX12_aTurn 112 = .ok (.getfield 7, 3) := by decide +kernel
theorem dX12_aTurn_115 : decode cX12_aTurn 115 = .ok (.sipush 20788, 3) := by decide +kernel
theorem dX12_aTurn_118 : decode cX12_aTurn 118 = .ok (.iconst 2, 1) := by decide +kernel
theorem dX12_aTurn_119 : decode cX12_aTurn 119 = .ok (.iload_n 1, 1) := by decide +kernel
theorem dX12_aTurn_120 : decode cX12_aTurn 120 = .ok (.imul, 1) := by decide +kernel
theorem dX12_aTurn_121 : decode cX12_aTurn 121 = .ok (.iadd, 1) := by decide +kernel
theorem dX12_aTurn_122 : decode cX12_aTurn 122 = .ok (.iconst 1, 1) := by decide +kernel
theorem dX12_aTurn_123 : decode cX12_aTurn 123 = .ok (.iadd, 1) := by decide +kernel
theorem dX12_aTurn_124 : decode cX12_aTurn 124 = .ok (.aload_n 0, 1) := by decide +kernel
theorem dX12_aTurn_125 : decode cX12_aTurn 125 = .ok (.invokevirtual 190, 3) := by decide +kernel
theorem dX12_aTurn_128 : decode cX12_aTurn 128 = .ok (.lastore, 1) := by decide +kernel
theorem dX12_aTurn_129 : decode cX12_aTurn 129 = .ok (.aload_n 0, 1) := by decide +kernel
theorem dX12_aTurn_130 : decode cX12_aTurn 130 = .ok (.getfield 7, 3) := by decide +kernel
theorem dX12_aTurn_133 : decode cX12_aTurn 133 = .ok (.sipush 20762, 3) := by decide +kernel
theorem dX12_aTurn_136 : decode cX12_aTurn 136 = .ok (.dup2, 1) := by decide +kernel
theorem dX12_aTurn_137 : decode cX12_aTurn 137 = .ok (.laload, 1) := by decide +kernel
theorem dX12_aTurn_138 : decode cX12_aTurn 138 = .ok (.lconst 1, 1) := by decide +kernel
theorem dX12_aTurn_139 : decode cX12_aTurn 139 = .ok (.ladd, 1) := by decide +kernel
theorem dX12_aTurn_140 : decode cX12_aTurn 140 = .ok (.lastore, 1) := by decide +kernel
theorem dX12_aTurn_141 : decode cX12_aTurn 141 = .ok (.aload_n 0, 1) := by decide +kernel
theorem dX12_aTurn_142 : decode cX12_aTurn 142 = .ok (.invokevirtual 184, 3) := by decide +kernel
theorem dX12_aTurn_145 : decode cX12_aTurn 145 = .ok (.iconst 1, 1) := by decide +kernel
theorem dX12_aTurn_146 : decode cX12_aTurn 146 = .ok (.ireturn, 1) := by decide +kernel
theorem dX12_aTurn_105 : decode cX12_aTurn 105 = .ok (.aload_n 0, 1) := by decide +kernel
theorem dX12_aTurn_106 : decode cX12_aTurn 106 = .ok (.iconst 2, 1) := by decide +kernel
theorem dX12_aTurn_107 : decode cX12_aTurn 107 = .ok (.invokevirtual 187, 3) := by decide +kernel
theorem dX12_aTurn_110 : decode cX12_aTurn 110 = .ok (.ireturn, 1) := by decide +kernel
theorem dX12_aTurn_46 : decode cX12_aTurn 46 = .ok (.aload_n 0, 1) := by decide +kernel
theorem dX12_aTurn_47 : decode cX12_aTurn 47 = .ok (.getfield 7, 3) := by decide +kernel
theorem dX12_aTurn_50 : decode cX12_aTurn 50 = .ok (.sipush 20788, 3) := by decide +kernel
theorem dX12_aTurn_53 : decode cX12_aTurn 53 = .ok (.iconst 2, 1) := by decide +kernel
theorem dX12_aTurn_54 : decode cX12_aTurn 54 = .ok (.iload_n 2, 1) := by decide +kernel
theorem dX12_aTurn_55 : decode cX12_aTurn 55 = .ok (.imul, 1) := by decide +kernel
theorem dX12_aTurn_56 : decode cX12_aTurn 56 = .ok (.iadd, 1) := by decide +kernel
theorem dX12_aTurn_57 : decode cX12_aTurn 57 = .ok (.laload, 1) := by decide +kernel
theorem dX12_aTurn_58 : decode cX12_aTurn 58 = .ok (.aload_n 0, 1) := by decide +kernel
theorem dX12_aTurn_59 : decode cX12_aTurn 59 = .ok (.invokevirtual 190, 3) := by decide +kernel
theorem dX12_aTurn_62 : decode cX12_aTurn 62 = .ok (.lcmp, 1) := by decide +kernel
theorem dX12_aTurn_63 : decode cX12_aTurn 63 = .ok (.ifCond .ne 9, 3) := by decide +kernel
theorem dX12_aTurn_72 : decode cX12_aTurn 72 = .ok (.iinc 2 1, 3) := by decide +kernel
theorem dX12_aTurn_75 : decode cX12_aTurn 75 = .ok (.goto (-34), 3) := by decide +kernel
theorem dX12_aTurn_66 : decode cX12_aTurn 66 = .ok (.aload_n 0, 1) := by decide +kernel
theorem dX12_aTurn_67 : decode cX12_aTurn 67 = .ok (.iconst 3, 1) := by decide +kernel
theorem dX12_aTurn_68 : decode cX12_aTurn 68 = .ok (.invokevirtual 187, 3) := by decide +kernel
theorem dX12_aTurn_71 : decode cX12_aTurn 71 = .ok (.ireturn, 1) := by decide +kernel
theorem dX12_aTurn_33 : decode cX12_aTurn 33 = .ok (.aload_n 0, 1) := by decide +kernel
theorem dX12_aTurn_34 : decode cX12_aTurn 34 = .ok (.iconst 2, 1) := by decide +kernel
theorem dX12_aTurn_35 : decode cX12_aTurn 35 = .ok (.invokevirtual 187, 3) := by decide +kernel
theorem dX12_aTurn_38 : decode cX12_aTurn 38 = .ok (.ireturn, 1) := by decide +kernel
theorem dX12_aTurn_16 : decode cX12_aTurn 16 = .ok (.aload_n 0, 1) := by decide +kernel
theorem dX12_aTurn_17 : decode cX12_aTurn 17 = .ok (.iconst 5, 1) := by decide +kernel
theorem dX12_aTurn_18 : decode cX12_aTurn 18 = .ok (.invokevirtual 187, 3) := by decide +kernel
theorem dX12_aTurn_21 : decode cX12_aTurn 21 = .ok (.ireturn, 1) := by decide +kernel
def rm_X12_aTurn : Room := { frames := 6, cells := 0, slots := 0, locals := 130 }
set_option maxHeartbeats 4000000 in
set_option maxRecDepth 100000 in
theorem s_X12_aTurn (l : Launch) (D : va_G) (cy : Nat → ClassId) (L : List Nat) (R O : Nat → Nat) (f0 : Nat → va_E) (a0 : Nat) (m_a0 : a0 ∈ L) (r_a0 : R a0 = 12) (GA : Nat) (m_GA : GA ∈ L) (r_GA : R GA = 61) (t_GA : fld f0 a0 0 = .ref GA) (GP : Nat) (m_GP : GP ∈ L) (r_GP : R GP = 69) (t_GP : fld f0 a0 22 = .ref GP) (GL : Nat) (m_GL : GL ∈ L) (r_GL : R GL = 70) (t_GL : fld f0 a0 23 = .ref GL) (GT : Nat) (m_GT : GT ∈ L) (r_GT : R GT = 64) (t_GT : fld f0 a0 6 = .ref GT) (pre0 : RB GA 20760 f0) : ∀ sz, Met l yX12_aTurn (Cond.code yX12_aTurn cX12_aTurn 3 (some .boolean) :: wsL_law) rm_X12_aTurn (va_Pc [.ref a0] (tPZ D cy L R (TT cy L R) f0 sz)) (va_Qi (fun (r : Int32) f1 => fr L R [(12, 11), (12, 12), (12, 13), (12, 14), (12, 16), (12, 17)] [12, 61] f0 f1 ∧ 0 ≤ r.toInt ∧ r.toInt ≤ 1 ∧ KW (20762) (20812) GA f0 f1 ∧ elj f1 GA 20760 = elj f0 GA 20760 ∧ elj f1 GA 20761 = elj f0 GA 20761 ∧ elj f1 GA 20763 = elj f0 GA 20763 ∧ (r.toInt = 0 ∨ elj f1 GA 20762 = elj f0 GA 20762 + 1) ∧ elj f0 GA 20762 ≤ elj f1 GA 20762 ∧ RB GA 20760 f1) (tB D (tA L sz) L R (TT cy L R)) (tA L sz)) 0 0 (tA L sz) := by
  refine tw_enteri (by decide +kernel) rfl (Nat.le_of_ble_eq_true rfl) ?_
  intro p e s m below meth c A ls args Q F hZ h hl hret
  have hl : lv_has ls 3 [(0, .ref a0)] := hl
  have hk : fr L R [(12, 11), (12, 12), (12, 13), (12, 14), (12, 16), (12, 17)] [12, 61] f0 f0 := fr.rf
  have hA : KW (20762) (20812) GA f0 f0 := KW.rf
  have hqk0 : elj f0 GA 20760 = elj f0 GA 20760 := rfl
  have hqk1 : elj f0 GA 20761 = elj f0 GA 20761 := rfl
  have hqk2 : elj f0 GA 20762 = elj f0 GA 20762 := rfl
  have hqk3 : elj f0 GA 20763 = elj f0 GA 20763 := rfl
  refine lv_aload_n F.1 F.2.1 dX12_aTurn_0 rfl (lv_at hl 0 rfl) ?_
  refine g_12_7 F h m_a0 r_a0 dX12_aTurn_1 (fun o1 m_o1 r_o1 ho1 => ?_)
  obtain rfl := (fld_inj t_GA ho1).symm
  refine tw_sipush F dX12_aTurn_4 ks_20762 (fun z2 hz2 => ?_)
  refine le_61 F h m_GA r_GA (by omega) dX12_aTurn_7 (fun v3 ev3 hv3a => ?_)
  have hv3b := clP_1.mp (atb hv3a (ac_c (b := 20760) 2 isB_n (by decide) (by omega) rfl))
  have u7 : v3.toInt = elj f0 GA (20762) := by rw [ev3, show z2.toInt.toNat = 20762 by omega]
  refine tw_l2i F dX12_aTurn_8 (by omega) (by omega) (fun z4 hz4 => ?_)
  refine lv_istore_n (lv' := [(1, .int z4), (0, .ref a0)]) F.1 F.2.1 dX12_aTurn_9 rfl hl (by decide) rfl (fun ls hl => ?_)
  refine lv_iload_n F.1 F.2.1 dX12_aTurn_10 rfl (lv_at hl 0 rfl) ?_
  refine tw_bipush F dX12_aTurn_11 kb_12 (fun z5 hz5 => ?_)
  refine tw_icmp_ne (tgt := 22) F dX12_aTurn_13 (by decide) (fun b6 => ?_) (fun b6 => ?_)
  · refine lv_aload_n F.1 F.2.1 dX12_aTurn_22 rfl (lv_at hl 1 rfl) ?_
    refine tw_Vv (As := []) F hZ h yk_X12_ahead0 mw_468 mw_469 mw_470 (s_X12_ahead0 l D cy L R O f0 a0 m_a0 r_a0) rfl rfl m_a0 r_a0 (fun e q => (T_12 e).mp q) rfl hl.1 rfl (Nat.le_of_ble_eq_true rfl) ⟨Nat.le_of_ble_eq_true rfl, Nat.le_of_ble_eq_true rfl⟩ ⟨Nat.le_of_ble_eq_true rfl, Nat.le_of_ble_eq_true rfl⟩ dX12_aTurn_23 (fun f7 H locs hp7 h => ?_)
    obtain ⟨hf7, hv8p0⟩ := hp7
    have hA : KW (20762) (20812) GA f0 f7 := hA.fm hf7 m_GA r_GA (by decide +kernel)
    have hqk0 : elj f7 GA 20760 = elj f0 GA 20760 := by rw [hf7.eelj m_GA r_GA (by decide +kernel)]; exact hqk0
    have hqk1 : elj f7 GA 20761 = elj f0 GA 20761 := by rw [hf7.eelj m_GA r_GA (by decide +kernel)]; exact hqk1
    have hqk2 : elj f7 GA 20762 = elj f0 GA 20762 := by rw [hf7.eelj m_GA r_GA (by decide +kernel)]; exact hqk2
    have hqk3 : elj f7 GA 20763 = elj f0 GA 20763 := by rw [hf7.eelj m_GA r_GA (by decide +kernel)]; exact hqk3
    have hk : fr L R [(12, 11), (12, 12), (12, 13), (12, 14), (12, 16), (12, 17)] [12, 61] f0 f7 := hk.tr hf7 rfl rfl
    have e9 : fld f7 a0 0 = .ref GA := (hf7.efl m_a0 r_a0 rfl).trans t_GA
    have e10 : fld f7 a0 22 = .ref GP := (hf7.efl m_a0 r_a0 rfl).trans t_GP
    have e11 : fld f7 a0 23 = .ref GL := (hf7.efl m_a0 r_a0 rfl).trans t_GL
    have e12 : fld f7 a0 6 = .ref GT := (hf7.efl m_a0 r_a0 rfl).trans t_GT
    refine lv_aload_n F.1 F.2.1 dX12_aTurn_26 rfl (lv_at hl 1 rfl) ?_
    refine tw_Vi (As := []) F hZ h yk_X12_isName mw_700 mw_701 mw_702 (s_X12_isName l D cy L R O f7 a0 m_a0 r_a0) rfl rfl m_a0 r_a0 (fun e q => (T_12 e).mp q) rfl hl.1 rfl (Nat.le_of_ble_eq_true rfl) ⟨Nat.le_of_ble_eq_true rfl, Nat.le_of_ble_eq_true rfl⟩ ⟨Nat.le_of_ble_eq_true rfl, Nat.le_of_ble_eq_true rfl⟩ dX12_aTurn_27 (fun v14 f13 H locs hp13 h => ?_)
    obtain ⟨rfl, hv14a, hv14b, hv14p0⟩ := hp13
    refine tw_if_ne (tgt := 39) F dX12_aTurn_30 (by decide) (fun b15 => ?_) (fun b15 => ?_)
    · refine tw_iconst F dX12_aTurn_39 ki_0 (fun z16 hz16 => ?_)
      refine lv_istore_n (lv' := [(2, .int z16), (1, .int z4), (0, .ref a0)]) F.1 F.2.1 dX12_aTurn_40 rfl hl (by decide) rfl (fun ls hl => ?_)
      have j_41 : ∀ (n41 : Nat) (H : Heap) (locs : List Loc) (ls : Array Slot) (x2_41 : Int32), 0 ≤ x2_41.toInt → x2_41.toInt ≤ 11 → ((11 - x2_41.toInt)).toNat < n41 → tS D cy A s.heap L R (TT cy L R) f7 s H locs → lv_has ls 3 [(0, .ref a0), (1, .int z4), (2, .int x2_41)] → W p l e rm_X12_aTurn s m args below meth c H locs 0 0 Q (F0 m 41 ls []) := by
        intro n41
        induction n41 with
        | zero =>
          intro H locs ls x2_41 b17 b18 b19 h hl
          exfalso
          omega
        | succ n41 ih41 =>
          intro H locs ls x2_41 b17 b18 b19 h hl
          refine lv_iload_n F.1 F.2.1 dX12_aTurn_41 rfl (lv_at hl 2 rfl) ?_
          refine lv_iload_n F.1 F.2.1 dX12_aTurn_42 rfl (lv_at hl 1 rfl) ?_
          refine tw_icmp_ge (tgt := 78) F dX12_aTurn_43 (by decide) (fun b20 => ?_) (fun b20 => ?_)
          · refine lv_aload_n F.1 F.2.1 dX12_aTurn_78 rfl (lv_at hl 0 rfl) ?_
            refine g_12_7 F h m_a0 r_a0 dX12_aTurn_79 (fun o21 m_o21 r_o21 ho21 => ?_)
            obtain rfl := (fld_inj e9 ho21).symm
            refine tw_sipush F dX12_aTurn_82 ks_20788 (fun z22 hz22 => ?_)
            refine tw_iconst F dX12_aTurn_85 ki_2 (fun z23 hz23 => ?_)
            refine lv_iload_n F.1 F.2.1 dX12_aTurn_86 rfl (lv_at hl 1 rfl) ?_
            refine tu_imull F dX12_aTurn_87 hz23 (by omega) (fun z24 hz24 => ?_)
            refine tu_iadd F dX12_aTurn_88 (by omega) (fun z25 hz25 => ?_)
            refine lv_aload_n F.1 F.2.1 dX12_aTurn_89 rfl (lv_at hl 0 rfl) ?_
            refine tw_Vl (As := []) F hZ h yk_X12_wordHere mw_491 mw_492 mw_493 (s_X12_wordHere l D cy L R O f7 a0 m_a0 r_a0) rfl rfl m_a0 r_a0 (fun e q => (T_12 e).mp q) rfl hl.1 rfl (Nat.le_of_ble_eq_true rfl) ⟨Nat.le_of_ble_eq_true rfl, Nat.le_of_ble_eq_true rfl⟩ ⟨Nat.le_of_ble_eq_true rfl, Nat.le_of_ble_eq_true rfl⟩ dX12_aTurn_90 (fun v27 f26 H locs hp26 h => ?_)
            obtain rfl := hp26
            refine se_61 F h m_GA r_GA (by omega) (atS (ac_k0 (b := 20760) isB_n (by omega)) clP_0) dX12_aTurn_93 (fun f28 H locs e28a e28b hf28 h => ?_)
            have hA : KW (20762) (20812) GA f0 f28 := hA.st e28a (by omega)
            have hqk0 : elj f28 GA 20760 = elj f0 GA 20760 := by rw [e28a, if_neg (by omega)]; exact hqk0
            have hqk1 : elj f28 GA 20761 = elj f0 GA 20761 := by rw [e28a, if_neg (by omega)]; exact hqk1
            have hqk2 : elj f28 GA 20762 = elj f0 GA 20762 := by rw [e28a, if_neg (by omega)]; exact hqk2
            have hqk3 : elj f28 GA 20763 = elj f0 GA 20763 := by rw [e28a, if_neg (by omega)]; exact hqk3
            have hk : fr L R [(12, 11), (12, 12), (12, 13), (12, 14), (12, 16), (12, 17)] [12, 61] f0 f28 := hk.tr hf28 rfl rfl
            have e29 : fld f28 a0 0 = .ref GA := (hf28.efl m_a0 r_a0 rfl).trans e9
            have e30 : fld f28 a0 22 = .ref GP := (hf28.efl m_a0 r_a0 rfl).trans e10
            have e31 : fld f28 a0 23 = .ref GL := (hf28.efl m_a0 r_a0 rfl).trans e11
            have e32 : fld f28 a0 6 = .ref GT := (hf28.efl m_a0 r_a0 rfl).trans e12
            refine lv_aload_n F.1 F.2.1 dX12_aTurn_94 rfl (lv_at hl 0 rfl) ?_
            refine tw_Vv (As := []) F hZ h yk_X12_ahead0 mw_468 mw_469 mw_470 (s_X12_ahead0 l D cy L R O f28 a0 m_a0 r_a0) rfl rfl m_a0 r_a0 (fun e q => (T_12 e).mp q) rfl hl.1 rfl (Nat.le_of_ble_eq_true rfl) ⟨Nat.le_of_ble_eq_true rfl, Nat.le_of_ble_eq_true rfl⟩ ⟨Nat.le_of_ble_eq_true rfl, Nat.le_of_ble_eq_true rfl⟩ dX12_aTurn_95 (fun f33 H locs hp33 h => ?_)
            obtain ⟨hf33, hv34p0⟩ := hp33
            have hA : KW (20762) (20812) GA f0 f33 := hA.fm hf33 m_GA r_GA (by decide +kernel)
            have hqk0 : elj f33 GA 20760 = elj f0 GA 20760 := by rw [hf33.eelj m_GA r_GA (by decide +kernel)]; exact hqk0
            have hqk1 : elj f33 GA 20761 = elj f0 GA 20761 := by rw [hf33.eelj m_GA r_GA (by decide +kernel)]; exact hqk1
            have hqk2 : elj f33 GA 20762 = elj f0 GA 20762 := by rw [hf33.eelj m_GA r_GA (by decide +kernel)]; exact hqk2
            have hqk3 : elj f33 GA 20763 = elj f0 GA 20763 := by rw [hf33.eelj m_GA r_GA (by decide +kernel)]; exact hqk3
            have hk : fr L R [(12, 11), (12, 12), (12, 13), (12, 14), (12, 16), (12, 17)] [12, 61] f0 f33 := hk.tr hf33 rfl rfl
            have e35 : fld f33 a0 0 = .ref GA := (hf33.efl m_a0 r_a0 rfl).trans e29
            have e36 : fld f33 a0 22 = .ref GP := (hf33.efl m_a0 r_a0 rfl).trans e30
            have e37 : fld f33 a0 23 = .ref GL := (hf33.efl m_a0 r_a0 rfl).trans e31
            have e38 : fld f33 a0 6 = .ref GT := (hf33.efl m_a0 r_a0 rfl).trans e32
            refine lv_aload_n F.1 F.2.1 dX12_aTurn_98 rfl (lv_at hl 0 rfl) ?_
            refine tw_Vi (As := []) F hZ h yk_X12_isName mw_700 mw_701 mw_702 (s_X12_isName l D cy L R O f33 a0 m_a0 r_a0) rfl rfl m_a0 r_a0 (fun e q => (T_12 e).mp q) rfl hl.1 rfl (Nat.le_of_ble_eq_true rfl) ⟨Nat.le_of_ble_eq_true rfl, Nat.le_of_ble_eq_true rfl⟩ ⟨Nat.le_of_ble_eq_true rfl, Nat.le_of_ble_eq_true rfl⟩ dX12_aTurn_99 (fun v40 f39 H locs hp39 h => ?_)
            obtain ⟨rfl, hv40a, hv40b, hv40p0⟩ := hp39
            refine tw_if_ne (tgt := 111) F dX12_aTurn_102 (by decide) (fun b41 => ?_) (fun b41 => ?_)
            · refine lv_aload_n F.1 F.2.1 dX12_aTurn_111 rfl (lv_at hl 0 rfl) ?_
              refine g_12_7 F h m_a0 r_a0 dX12_aTurn_112 (fun o42 m_o42 r_o42 ho42 => ?_)
              obtain rfl := (fld_inj e35 ho42).symm
              refine tw_sipush F dX12_aTurn_115 ks_20788 (fun z43 hz43 => ?_)
              refine tw_iconst F dX12_aTurn_118 ki_2 (fun z44 hz44 => ?_)
              refine lv_iload_n F.1 F.2.1 dX12_aTurn_119 rfl (lv_at hl 1 rfl) ?_
              refine tu_imull F dX12_aTurn_120 hz44 (by omega) (fun z45 hz45 => ?_)
              refine tu_iadd F dX12_aTurn_121 (by omega) (fun z46 hz46 => ?_)
              refine tw_iconst F dX12_aTurn_122 ki_1 (fun z47 hz47 => ?_)
              refine tu_iadd F dX12_aTurn_123 (by omega) (fun z48 hz48 => ?_)
              refine lv_aload_n F.1 F.2.1 dX12_aTurn_124 rfl (lv_at hl 0 rfl) ?_
              refine tw_Vl (As := []) F hZ h yk_X12_wordHere mw_491 mw_492 mw_493 (s_X12_wordHere l D cy L R O f33 a0 m_a0 r_a0) rfl rfl m_a0 r_a0 (fun e q => (T_12 e).mp q) rfl hl.1 rfl (Nat.le_of_ble_eq_true rfl) ⟨Nat.le_of_ble_eq_true rfl, Nat.le_of_ble_eq_true rfl⟩ ⟨Nat.le_of_ble_eq_true rfl, Nat.le_of_ble_eq_true rfl⟩ dX12_aTurn_125 (fun v50 f49 H locs hp49 h => ?_)
              obtain rfl := hp49
              refine se_61 F h m_GA r_GA (by omega) (atS (ac_k0 (b := 20760) isB_n (by omega)) clP_0) dX12_aTurn_128 (fun f51 H locs e51a e51b hf51 h => ?_)
              have hA : KW (20762) (20812) GA f0 f51 := hA.st e51a (by omega)
              have hqk0 : elj f51 GA 20760 = elj f0 GA 20760 := by rw [e51a, if_neg (by omega)]; exact hqk0
              have hqk1 : elj f51 GA 20761 = elj f0 GA 20761 := by rw [e51a, if_neg (by omega)]; exact hqk1
              have hqk2 : elj f51 GA 20762 = elj f0 GA 20762 := by rw [e51a, if_neg (by omega)]; exact hqk2
              have hqk3 : elj f51 GA 20763 = elj f0 GA 20763 := by rw [e51a, if_neg (by omega)]; exact hqk3
              have hk : fr L R [(12, 11), (12, 12), (12, 13), (12, 14), (12, 16), (12, 17)] [12, 61] f0 f51 := hk.tr hf51 rfl rfl
              have e52 : fld f51 a0 0 = .ref GA := (hf51.efl m_a0 r_a0 rfl).trans e35
              have e53 : fld f51 a0 22 = .ref GP := (hf51.efl m_a0 r_a0 rfl).trans e36
              have e54 : fld f51 a0 23 = .ref GL := (hf51.efl m_a0 r_a0 rfl).trans e37
              have e55 : fld f51 a0 6 = .ref GT := (hf51.efl m_a0 r_a0 rfl).trans e38
              refine lv_aload_n F.1 F.2.1 dX12_aTurn_129 rfl (lv_at hl 0 rfl) ?_
              refine g_12_7 F h m_a0 r_a0 dX12_aTurn_130 (fun o56 m_o56 r_o56 ho56 => ?_)
              obtain rfl := (fld_inj e52 ho56).symm
              refine tw_sipush F dX12_aTurn_133 ks_20762 (fun z57 hz57 => ?_)
              refine lv_dup2_11 F.1 F.2.1 dX12_aTurn_136 rfl rfl ?_
              refine le_61 F h m_GA r_GA (by omega) dX12_aTurn_137 (fun v58 ev58 hv58a => ?_)
              have hv58b := clP_1.mp (atb hv58a (ac_c (b := 20760) 2 isB_n (by decide) (by omega) rfl))
              have u137 : v58.toInt = elj f51 GA (20762) := by rw [ev58, show z57.toInt.toNat = 20762 by omega]
              refine tu_lconst F dX12_aTurn_138 (by decide) (fun z59 (hz59 : z59.toInt = 1) => ?_)
              refine tu_ladd F dX12_aTurn_139 (by omega) (fun z60 hz60 => ?_)
              refine se_61 F h m_GA r_GA (by omega) (atS (ac_c (b := 20760) 2 isB_n (by decide) (by omega) rfl) (clP_1.mpr (by omega))) dX12_aTurn_140 (fun f61 H locs e61a e61b hf61 h => ?_)
              have hA : KW (20762) (20812) GA f0 f61 := hA.st e61a (by omega)
              have hqk0 : elj f61 GA 20760 = elj f0 GA 20760 := by rw [e61a, if_neg (by omega)]; exact hqk0
              have hqk1 : elj f61 GA 20761 = elj f0 GA 20761 := by rw [e61a, if_neg (by omega)]; exact hqk1
              have hqk3 : elj f61 GA 20763 = elj f0 GA 20763 := by rw [e61a, if_neg (by omega)]; exact hqk3
              have hk : fr L R [(12, 11), (12, 12), (12, 13), (12, 14), (12, 16), (12, 17)] [12, 61] f0 f61 := hk.tr hf61 rfl rfl
              have e62 : fld f61 a0 0 = .ref GA := (hf61.efl m_a0 r_a0 rfl).trans e52
              have e63 : fld f61 a0 22 = .ref GP := (hf61.efl m_a0 r_a0 rfl).trans e53
              have e64 : fld f61 a0 23 = .ref GL := (hf61.efl m_a0 r_a0 rfl).trans e54
              have e65 : fld f61 a0 6 = .ref GT := (hf61.efl m_a0 r_a0 rfl).trans e55
              have hqk2 : elj f61 GA 20762 = elj f0 GA 20762 + 1 := by rw [e61a, if_pos (by omega)]; omega
              refine lv_aload_n F.1 F.2.1 dX12_aTurn_141 rfl (lv_at hl 0 rfl) ?_
              refine tw_Vv (As := []) F hZ h yk_X12_ahead0 mw_468 mw_469 mw_470 (s_X12_ahead0 l D cy L R O f61 a0 m_a0 r_a0) rfl rfl m_a0 r_a0 (fun e q => (T_12 e).mp q) rfl hl.1 rfl (Nat.le_of_ble_eq_true rfl) ⟨Nat.le_of_ble_eq_true rfl, Nat.le_of_ble_eq_true rfl⟩ ⟨Nat.le_of_ble_eq_true rfl, Nat.le_of_ble_eq_true rfl⟩ dX12_aTurn_142 (fun f66 H locs hp66 h => ?_)
              obtain ⟨hf66, hv67p0⟩ := hp66
              have hA : KW (20762) (20812) GA f0 f66 := hA.fm hf66 m_GA r_GA (by decide +kernel)
              have hqk0 : elj f66 GA 20760 = elj f0 GA 20760 := by rw [hf66.eelj m_GA r_GA (by decide +kernel)]; exact hqk0
              have hqk1 : elj f66 GA 20761 = elj f0 GA 20761 := by rw [hf66.eelj m_GA r_GA (by decide +kernel)]; exact hqk1
              have hqk3 : elj f66 GA 20763 = elj f0 GA 20763 := by rw [hf66.eelj m_GA r_GA (by decide +kernel)]; exact hqk3
              have hqk2 : elj f66 GA 20762 = elj f0 GA 20762 + 1 := by rw [hf66.eelj m_GA r_GA (by decide +kernel)]; exact hqk2
              have hk : fr L R [(12, 11), (12, 12), (12, 13), (12, 14), (12, 16), (12, 17)] [12, 61] f0 f66 := hk.tr hf66 rfl rfl
              have e68 : fld f66 a0 0 = .ref GA := (hf66.efl m_a0 r_a0 rfl).trans e62
              have e69 : fld f66 a0 22 = .ref GP := (hf66.efl m_a0 r_a0 rfl).trans e63
              have e70 : fld f66 a0 23 = .ref GL := (hf66.efl m_a0 r_a0 rfl).trans e64
              have e71 : fld f66 a0 6 = .ref GT := (hf66.efl m_a0 r_a0 rfl).trans e65
              refine tw_iconst F dX12_aTurn_145 ki_1 (fun z72 hz72 => ?_)
              exact hret f66 _ _ _ _ z72 dX12_aTurn_146 (tw_nb (by omega)) ⟨hk, by omega, by omega, hA, hqk0, hqk1, hqk3, by omega, by omega, RB_n pre0 hA (by omega) hqk1 hqk3⟩ h
            · refine lv_aload_n F.1 F.2.1 dX12_aTurn_105 rfl (lv_at hl 0 rfl) ?_
              refine tw_iconst F dX12_aTurn_106 ki_2 (fun z73 hz73 => ?_)
              refine tw_Vi (As := [.int z73]) F hZ h yk_X12_fails mw_487 mw_488 mw_489 (s_X12_fails l D cy L R O f33 a0 m_a0 r_a0 z73 ⟨by omega, by omega⟩) rfl rfl m_a0 r_a0 (fun e q => (T_12 e).mp q) rfl hl.1 rfl (Nat.le_of_ble_eq_true rfl) ⟨Nat.le_of_ble_eq_true rfl, Nat.le_of_ble_eq_true rfl⟩ ⟨Nat.le_of_ble_eq_true rfl, Nat.le_of_ble_eq_true rfl⟩ dX12_aTurn_107 (fun v75 f74 H locs hp74 h => ?_)
              obtain ⟨hf74, hv75a, hv75b⟩ := hp74
              have hA : KW (20762) (20812) GA f0 f74 := hA.fm hf74 m_GA r_GA (by decide +kernel)
              have hqk0 : elj f74 GA 20760 = elj f0 GA 20760 := by rw [hf74.eelj m_GA r_GA (by decide +kernel)]; exact hqk0
              have hqk1 : elj f74 GA 20761 = elj f0 GA 20761 := by rw [hf74.eelj m_GA r_GA (by decide +kernel)]; exact hqk1
              have hqk2 : elj f74 GA 20762 = elj f0 GA 20762 := by rw [hf74.eelj m_GA r_GA (by decide +kernel)]; exact hqk2
              have hqk3 : elj f74 GA 20763 = elj f0 GA 20763 := by rw [hf74.eelj m_GA r_GA (by decide +kernel)]; exact hqk3
              have hk : fr L R [(12, 11), (12, 12), (12, 13), (12, 14), (12, 16), (12, 17)] [12, 61] f0 f74 := hk.tr hf74 rfl rfl
              have e76 : fld f74 a0 0 = .ref GA := (hf74.efl m_a0 r_a0 rfl).trans e35
              have e77 : fld f74 a0 22 = .ref GP := (hf74.efl m_a0 r_a0 rfl).trans e36
              have e78 : fld f74 a0 23 = .ref GL := (hf74.efl m_a0 r_a0 rfl).trans e37
              have e79 : fld f74 a0 6 = .ref GT := (hf74.efl m_a0 r_a0 rfl).trans e38
              exact hret f74 _ _ _ _ v75 dX12_aTurn_110 (tw_nb (by omega)) ⟨hk, by omega, by omega, hA, hqk0, hqk1, hqk3, by omega, by omega, RB_n pre0 hA (by omega) hqk1 hqk3⟩ h
          · refine lv_aload_n F.1 F.2.1 dX12_aTurn_46 rfl (lv_at hl 0 rfl) ?_
            refine g_12_7 F h m_a0 r_a0 dX12_aTurn_47 (fun o80 m_o80 r_o80 ho80 => ?_)
            obtain rfl := (fld_inj e9 ho80).symm
            refine tw_sipush F dX12_aTurn_50 ks_20788 (fun z81 hz81 => ?_)
            refine tw_iconst F dX12_aTurn_53 ki_2 (fun z82 hz82 => ?_)
            refine lv_iload_n F.1 F.2.1 dX12_aTurn_54 rfl (lv_at hl 2 rfl) ?_
            refine tu_imull F dX12_aTurn_55 hz82 (by omega) (fun z83 hz83 => ?_)
            refine tu_iadd F dX12_aTurn_56 (by omega) (fun z84 hz84 => ?_)
            refine ld_61 F h m_GA r_GA (by omega) dX12_aTurn_57 (fun v85 hv85a => ?_)
            refine lv_aload_n F.1 F.2.1 dX12_aTurn_58 rfl (lv_at hl 0 rfl) ?_
            refine tw_Vl (As := []) F hZ h yk_X12_wordHere mw_491 mw_492 mw_493 (s_X12_wordHere l D cy L R O f7 a0 m_a0 r_a0) rfl rfl m_a0 r_a0 (fun e q => (T_12 e).mp q) rfl hl.1 rfl (Nat.le_of_ble_eq_true rfl) ⟨Nat.le_of_ble_eq_true rfl, Nat.le_of_ble_eq_true rfl⟩ ⟨Nat.le_of_ble_eq_true rfl, Nat.le_of_ble_eq_true rfl⟩ dX12_aTurn_59 (fun v87 f86 H locs hp86 h => ?_)
            obtain rfl := hp86
            refine tw_lcmp F dX12_aTurn_62 (fun z88 hz88 => ?_)
            refine tw_if_ne (tgt := 72) F dX12_aTurn_63 (by decide) (fun b89 => ?_) (fun b89 => ?_)
            · refine tu_iinc F dX12_aTurn_72 hl (k := 2) rfl (by decide) ki_1 (by omega) (fun z90 ls hz90 hl => ?_)
              have hl : lv_has ls 3 [(2, .int z90), (0, .ref a0), (1, .int z4)] := hl
              refine lv_goto (tgt := 41) F.1 F.2.1 dX12_aTurn_75 (by decide) ?_
              exact ih41 _ _ _ z90 (by omega) (by omega) (by omega) h (lv_sub hl [1, 2, 0] rfl)
            · refine lv_aload_n F.1 F.2.1 dX12_aTurn_66 rfl (lv_at hl 0 rfl) ?_
              refine tw_iconst F dX12_aTurn_67 ki_3 (fun z91 hz91 => ?_)
              refine tw_Vi (As := [.int z91]) F hZ h yk_X12_fails mw_487 mw_488 mw_489 (s_X12_fails l D cy L R O f7 a0 m_a0 r_a0 z91 ⟨by omega, by omega⟩) rfl rfl m_a0 r_a0 (fun e q => (T_12 e).mp q) rfl hl.1 rfl (Nat.le_of_ble_eq_true rfl) ⟨Nat.le_of_ble_eq_true rfl, Nat.le_of_ble_eq_true rfl⟩ ⟨Nat.le_of_ble_eq_true rfl, Nat.le_of_ble_eq_true rfl⟩ dX12_aTurn_68 (fun v93 f92 H locs hp92 h => ?_)
              obtain ⟨hf92, hv93a, hv93b⟩ := hp92
              have hA : KW (20762) (20812) GA f0 f92 := hA.fm hf92 m_GA r_GA (by decide +kernel)
              have hqk0 : elj f92 GA 20760 = elj f0 GA 20760 := by rw [hf92.eelj m_GA r_GA (by decide +kernel)]; exact hqk0
              have hqk1 : elj f92 GA 20761 = elj f0 GA 20761 := by rw [hf92.eelj m_GA r_GA (by decide +kernel)]; exact hqk1
              have hqk2 : elj f92 GA 20762 = elj f0 GA 20762 := by rw [hf92.eelj m_GA r_GA (by decide +kernel)]; exact hqk2
              have hqk3 : elj f92 GA 20763 = elj f0 GA 20763 := by rw [hf92.eelj m_GA r_GA (by decide +kernel)]; exact hqk3
              have hk : fr L R [(12, 11), (12, 12), (12, 13), (12, 14), (12, 16), (12, 17)] [12, 61] f0 f92 := hk.tr hf92 rfl rfl
              have e94 : fld f92 a0 0 = .ref GA := (hf92.efl m_a0 r_a0 rfl).trans e9
              have e95 : fld f92 a0 22 = .ref GP := (hf92.efl m_a0 r_a0 rfl).trans e10
              have e96 : fld f92 a0 23 = .ref GL := (hf92.efl m_a0 r_a0 rfl).trans e11
              have e97 : fld f92 a0 6 = .ref GT := (hf92.efl m_a0 r_a0 rfl).trans e12
              exact hret f92 _ _ _ _ v93 dX12_aTurn_71 (tw_nb (by omega)) ⟨hk, by omega, by omega, hA, hqk0, hqk1, hqk3, by omega, by omega, RB_n pre0 hA (by omega) hqk1 hqk3⟩ h
      exact j_41 (((11 - z16.toInt)).toNat + 1) _ _ _ z16 (by omega) (by omega) (by omega) h (lv_sub hl [2, 1, 0] rfl)
    · refine lv_aload_n F.1 F.2.1 dX12_aTurn_33 rfl (lv_at hl 1 rfl) ?_
      refine tw_iconst F dX12_aTurn_34 ki_2 (fun z98 hz98 => ?_)
      refine tw_Vi (As := [.int z98]) F hZ h yk_X12_fails mw_487 mw_488 mw_489 (s_X12_fails l D cy L R O f7 a0 m_a0 r_a0 z98 ⟨by omega, by omega⟩) rfl rfl m_a0 r_a0 (fun e q => (T_12 e).mp q) rfl hl.1 rfl (Nat.le_of_ble_eq_true rfl) ⟨Nat.le_of_ble_eq_true rfl, Nat.le_of_ble_eq_true rfl⟩ ⟨Nat.le_of_ble_eq_true rfl, Nat.le_of_ble_eq_true rfl⟩ dX12_aTurn_35 (fun v100 f99 H locs hp99 h => ?_)
      obtain ⟨hf99, hv100a, hv100b⟩ := hp99
      have hA : KW (20762) (20812) GA f0 f99 := hA.fm hf99 m_GA r_GA (by decide +kernel)
      have hqk0 : elj f99 GA 20760 = elj f0 GA 20760 := by rw [hf99.eelj m_GA r_GA (by decide +kernel)]; exact hqk0
      have hqk1 : elj f99 GA 20761 = elj f0 GA 20761 := by rw [hf99.eelj m_GA r_GA (by decide +kernel)]; exact hqk1
      have hqk2 : elj f99 GA 20762 = elj f0 GA 20762 := by rw [hf99.eelj m_GA r_GA (by decide +kernel)]; exact hqk2
      have hqk3 : elj f99 GA 20763 = elj f0 GA 20763 := by rw [hf99.eelj m_GA r_GA (by decide +kernel)]; exact hqk3
      have hk : fr L R [(12, 11), (12, 12), (12, 13), (12, 14), (12, 16), (12, 17)] [12, 61] f0 f99 := hk.tr hf99 rfl rfl
      have e101 : fld f99 a0 0 = .ref GA := (hf99.efl m_a0 r_a0 rfl).trans e9
      have e102 : fld f99 a0 22 = .ref GP := (hf99.efl m_a0 r_a0 rfl).trans e10
      have e103 : fld f99 a0 23 = .ref GL := (hf99.efl m_a0 r_a0 rfl).trans e11
      have e104 : fld f99 a0 6 = .ref GT := (hf99.efl m_a0 r_a0 rfl).trans e12
      exact hret f99 _ _ _ _ v100 dX12_aTurn_38 (tw_nb (by omega)) ⟨hk, by omega, by omega, hA, hqk0, hqk1, hqk3, by omega, by omega, RB_n pre0 hA (by omega) hqk1 hqk3⟩ h
  · refine lv_aload_n F.1 F.2.1 dX12_aTurn_16 rfl (lv_at hl 1 rfl) ?_
    refine tw_iconst F dX12_aTurn_17 ki_5 (fun z105 hz105 => ?_)
    refine tw_Vi (As := [.int z105]) F hZ h yk_X12_fails mw_487 mw_488 mw_489 (s_X12_fails l D cy L R O f0 a0 m_a0 r_a0 z105 ⟨by omega, by omega⟩) rfl rfl m_a0 r_a0 (fun e q => (T_12 e).mp q) rfl hl.1 rfl (Nat.le_of_ble_eq_true rfl) ⟨Nat.le_of_ble_eq_true rfl, Nat.le_of_ble_eq_true rfl⟩ ⟨Nat.le_of_ble_eq_true rfl, Nat.le_of_ble_eq_true rfl⟩ dX12_aTurn_18 (fun v107 f106 H locs hp106 h => ?_)
    obtain ⟨hf106, hv107a, hv107b⟩ := hp106
    have hA : KW (20762) (20812) GA f0 f106 := hA.fm hf106 m_GA r_GA (by decide +kernel)
    have hqk0 : elj f106 GA 20760 = elj f0 GA 20760 := by rw [hf106.eelj m_GA r_GA (by decide +kernel)]; exact hqk0
    have hqk1 : elj f106 GA 20761 = elj f0 GA 20761 := by rw [hf106.eelj m_GA r_GA (by decide +kernel)]; exact hqk1
    have hqk2 : elj f106 GA 20762 = elj f0 GA 20762 := by rw [hf106.eelj m_GA r_GA (by decide +kernel)]; exact hqk2
    have hqk3 : elj f106 GA 20763 = elj f0 GA 20763 := by rw [hf106.eelj m_GA r_GA (by decide +kernel)]; exact hqk3
    have hk : fr L R [(12, 11), (12, 12), (12, 13), (12, 14), (12, 16), (12, 17)] [12, 61] f0 f106 := hk.tr hf106 rfl rfl
    have e108 : fld f106 a0 0 = .ref GA := (hf106.efl m_a0 r_a0 rfl).trans t_GA
    have e109 : fld f106 a0 22 = .ref GP := (hf106.efl m_a0 r_a0 rfl).trans t_GP
    have e110 : fld f106 a0 23 = .ref GL := (hf106.efl m_a0 r_a0 rfl).trans t_GL
    have e111 : fld f106 a0 6 = .ref GT := (hf106.efl m_a0 r_a0 rfl).trans t_GT
    exact hret f106 _ _ _ _ v107 dX12_aTurn_21 (tw_nb (by omega)) ⟨hk, by omega, by omega, hA, hqk0, hqk1, hqk3, by omega, by omega, RB_n pre0 hA (by omega) hqk1 hqk3⟩ h
theorem dX12_aKey_0 : decode cX12_aKey 0 = .ok (.aload_n 0, 1) := by decide +kernel
theorem dX12_aKey_1 : decode cX12_aKey 1 = .ok (.getfield 7, 3) := by decide +kernel
theorem dX12_aKey_4 : decode cX12_aKey 4 = .ok (.sipush 20760, 3) := by decide +kernel
theorem ks_20760 : (Int16.ofInt 20760).toInt32.toInt = 20760 := by decide
theorem dX12_aKey_7 : decode cX12_aKey 7 = .ok (.laload, 1) := by decide +kernel
theorem dX12_aKey_8 : decode cX12_aKey 8 = .ok (.l2i, 1) := by decide +kernel
theorem dX12_aKey_9 : decode cX12_aKey 9 = .ok (.istore_n 1, 1) := by decide +kernel
theorem dX12_aKey_10 : decode cX12_aKey 10 = .ok (.iload_n 1, 1) := by decide +kernel
theorem dX12_aKey_11 : decode cX12_aKey 11 = .ok (.bipush 12, 2) := by decide +kernel
theorem dX12_aKey_13 : decode cX12_aKey 13 = .ok (.if_icmp .ne 9, 3) := by decide +kernel
theorem dX12_aKey_22 : decode cX12_aKey 22 = .ok (.aload_n 0, 1) := by decide +kernel
theorem dX12_aKey_23 : decode cX12_aKey 23 = .ok (.invokevirtual 184, 3) := by decide +kernel
theorem dX12_aKey_26 : decode cX12_aKey 26 = .ok (.aload_n 0, 1) := by decide +kernel
theorem dX12_aKey_27 : decode cX12_aKey 27 = .ok (.invokevirtual 234, 3) := by decide +kernel
theorem dX12_aKey_30 : decode cX12_aKey 30 = .ok (.ifCond .ne 9, 3) := by decide +kernel
theorem dX12_aKey_39 : decode cX12_aKey 39 = .ok (.aload_n 0, 1) := by decide +kernel
theorem dX12_aKey_40 : decode cX12_aKey 40 = .ok (.sipush 20760, 3) := by decide +kernel
theorem dX12_aKey_43 : decode cX12_aKey 43 = .ok (.aload_n 0, 1) := by decide +kernel
theorem dX12_aKey_44 : decode cX12_aKey 44 = .ok (.invokevirtual 190, 3) := by decide +kernel
theorem dX12_aKey_47 : decode cX12_aKey 47 = .ok (.invokevirtual 238, 3) := by decide +kernel
theorem mw_708 : Cond.methodLink RX12 238 yX12_keyNamed ∈ wsL_law := inr_30 _ (List.mem_of_getElem? (i := 12) rfl)
theorem mw_711 : Cond.code yX12_keyNamed cX12_keyNamed 5 (some .int) ∈ wsL_law := inr_30 _ (List.mem_of_getElem? (i := 15) rfl)
theorem yk_X12_keyNamed : xY yX12_keyNamed RX12 cX12_keyNamed 5 (some .int) 2 := ⟨⟨rfl, by decide +kernel, by decide +kernel, by decide +kernel⟩, mw_5, mw_711⟩
theorem mw_709 : Cond.instanceMethod yX12_keyNamed ∈ wsL_law := inr_30 _ (List.mem_of_getElem? (i := 13) rfl)
theorem mw_710 : Cond.selects RX12 yX12_keyNamed yX12_keyNamed ∈ wsL_law := inr_30 _ (List.mem_of_getElem? (i := 14) rfl)
theorem dX12_aKey_50 : decode cX12_aKey 50 = .ok (.iconst (-1), 1) := by decide +kernel
theorem dX12_aKey_51 : decode cX12_aKey 51 = .ok (.if_icmp .eq 9, 3) := by decide +kernel
theorem dX12_aKey_60 : decode cX12_aKey 60 = .ok (.aload_n 0, 1) := by decide +kernel
theorem dX12_aKey_61 : decode cX12_aKey 61 = .ok (.getfield 7, 3) := by decide +kernel
theorem dX12_aKey_64 : decode cX12_aKey 64 = .ok (.sipush 20764, 3) := by decide +kernel
theorem ks_20764 : (Int16.ofInt 20764).toInt32.toInt = 20764 := by decide
theorem dX12_aKey_67 : decode cX12_aKey 67 = .ok (.iconst 2, 1) := by decide +kernel
theorem dX12_aKey_68 : decode cX12_aKey 68 = .ok (.iload_n 1, 1) := by decide +kernel
theorem dX12_aKey_69 : decode cX12_aKey 69 = .ok (.imul, 1) := by decide +kernel
theorem dX12_aKey_70 : decode cX12_aKey 70 = .ok (.iadd, 1) := by decide +kernel
theorem dX12_aKey_71 : decode cX12_aKey 71 = .ok (.aload_n 0, 1) := by decide +kernel
theorem dX12_aKey_72 : decode cX12_aKey 72 = .ok (.invokevirtual 190, 3) := by decide +kernel
theorem dX12_aKey_75 : decode cX12_aKey 75 = .ok (.lastore, 1) := by decide +kernel
theorem dX12_aKey_76 : decode cX12_aKey 76 = .ok (.aload_n 0, 1) := by decide +kernel
theorem dX12_aKey_77 : decode cX12_aKey 77 = .ok (.invokevirtual 184, 3) := by decide +kernel
theorem dX12_aKey_80 : decode cX12_aKey 80 = .ok (.aload_n 0, 1) := by decide +kernel
theorem dX12_aKey_81 : decode cX12_aKey 81 = .ok (.iconst 2, 1) := by decide +kernel
theorem dX12_aKey_82 : decode cX12_aKey 82 = .ok (.invokevirtual 242, 3) := by decide +kernel
theorem mw_712 : Cond.methodLink RX12 242 yX12_wantWord ∈ wsL_law := inr_30 _ (List.mem_of_getElem? (i := 16) rfl)
theorem mw_715 : Cond.code yX12_wantWord cX12_wantWord 2 (some .boolean) ∈ wsL_law := inr_30 _ (List.mem_of_getElem? (i := 19) rfl)
theorem yk_X12_wantWord : xY yX12_wantWord RX12 cX12_wantWord 2 (some .boolean) 1 := ⟨⟨rfl, by decide +kernel, by decide +kernel, by decide +kernel⟩, mw_5, mw_715⟩
theorem mw_713 : Cond.instanceMethod yX12_wantWord ∈ wsL_law := inr_30 _ (List.mem_of_getElem? (i := 17) rfl)
theorem mw_714 : Cond.selects RX12 yX12_wantWord yX12_wantWord ∈ wsL_law := inr_30 _ (List.mem_of_getElem? (i := 18) rfl)
theorem dX12_aKey_85 : decode cX12_aKey 85 = .ok (.ifCond .ne 5, 3) := by decide +kernel
theorem dX12_aKey_90 : decode cX12_aKey 90 = .ok (.aload_n 0, 1) := by decide +kernel
theorem dX12_aKey_91 : decode cX12_aKey 91 = .ok (.getfield 167, 3) := by decide +kernel
theorem dX12_aKey_94 : decode cX12_aKey 94 = .ok (.iconst 3, 1) := by decide +kernel
theorem dX12_aKey_95 : decode cX12_aKey 95 = .ok (.if_icmp .eq 9, 3) := by decide +kernel
theorem dX12_aKey_104 : decode cX12_aKey 104 = .ok (.aload_n 0, 1) := by decide +kernel
theorem dX12_aKey_105 : decode cX12_aKey 105 = .ok (.getfield 7, 3) := by decide +kernel
theorem dX12_aKey_108 : decode cX12_aKey 108 = .ok (.sipush 20764, 3) := by decide +kernel
theorem dX12_aKey_111 : decode cX12_aKey 111 = .ok (.iconst 2, 1) := by decide +kernel
theorem dX12_aKey_112 : decode cX12_aKey 112 = .ok (.iload_n 1, 1) := by decide +kernel
theorem dX12_aKey_113 : decode cX12_aKey 113 = .ok (.imul, 1) := by decide +kernel
theorem dX12_aKey_114 : decode cX12_aKey 114 = .ok (.iadd, 1) := by decide +kernel
theorem dX12_aKey_115 : decode cX12_aKey 115 = .ok (.iconst 1, 1) := by decide +kernel
theorem dX12_aKey_116 : decode cX12_aKey 116 = .ok (.iadd, 1) := by decide +kernel
theorem dX12_aKey_117 : decode cX12_aKey 117 = .ok (.aload_n 0, 1) := by decide +kernel
theorem dX12_aKey_118 : decode cX12_aKey 118 = .ok (.getfield 164, 3) := by decide +kernel
theorem dX12_aKey_121 : decode cX12_aKey 121 = .ok (.i2l, 1) := by decide +kernel
theorem dX12_aKey_122 : decode cX12_aKey 122 = .ok (.lastore, 1) := by decide +kernel
theorem dX12_aKey_123 : decode cX12_aKey 123 = .ok (.aload_n 0, 1) := by decide +kernel
theorem dX12_aKey_124 : decode cX12_aKey 124 = .ok (.getfield 7, 3) := by decide +kernel
theorem dX12_aKey_127 : decode cX12_aKey 127 = .ok (.sipush 20760, 3) := by decide +kernel
theorem dX12_aKey_130 : decode cX12_aKey 130 = .ok (.dup2, 1) := by decide +kernel
theorem dX12_aKey_131 : decode cX12_aKey 131 = .ok (.laload, 1) := by decide +kernel
theorem dX12_aKey_132 : decode cX12_aKey 132 = .ok (.lconst 1, 1) := by decide +kernel
theorem dX12_aKey_133 : decode cX12_aKey 133 = .ok (.ladd, 1) := by decide +kernel
theorem dX12_aKey_134 : decode cX12_aKey 134 = .ok (.lastore, 1) := by decide +kernel
theorem dX12_aKey_135 : decode cX12_aKey 135 = .ok (.aload_n 0, 1) := by decide +kernel
theorem dX12_aKey_136 : decode cX12_aKey 136 = .ok (.invokevirtual 184, 3) := by decide +kernel
theorem dX12_aKey_139 : decode cX12_aKey 139 = .ok (.iconst 1, 1) := by decide +kernel
theorem dX12_aKey_140 : decode cX12_aKey 140 = .ok (.ireturn, 1) := by decide +kernel
theorem dX12_aKey_98 : decode cX12_aKey 98 = .ok (.aload_n 0, 1) := by decide +kernel
theorem dX12_aKey_99 : decode cX12_aKey 99 = .ok (.iconst 2, 1) := by decide +kernel
theorem dX12_aKey_100 : decode cX12_aKey 100 = .ok (.invokevirtual 187, 3) := by decide +kernel
theorem dX12_aKey_103 : decode cX12_aKey 103 = .ok (.ireturn, 1) := by decide +kernel
theorem dX12_aKey_88 : decode cX12_aKey 88 = .ok (.iconst 0, 1) := by decide +kernel
theorem dX12_aKey_89 : decode cX12_aKey 89 = .ok (.ireturn, 1) := by decide +kernel
theorem dX12_aKey_54 : decode cX12_aKey 54 = .ok (.aload_n 0, 1) := by decide +kernel
theorem dX12_aKey_55 : decode cX12_aKey 55 = .ok (.iconst 3, 1) := by decide +kernel
theorem dX12_aKey_56 : decode cX12_aKey 56 = .ok (.invokevirtual 187, 3) := by decide +kernel
theorem dX12_aKey_59 : decode cX12_aKey 59 = .ok (.ireturn, 1) := by decide +kernel
theorem dX12_aKey_33 : decode cX12_aKey 33 = .ok (.aload_n 0, 1) := by decide +kernel
theorem dX12_aKey_34 : decode cX12_aKey 34 = .ok (.iconst 2, 1) := by decide +kernel
theorem dX12_aKey_35 : decode cX12_aKey 35 = .ok (.invokevirtual 187, 3) := by decide +kernel
theorem dX12_aKey_38 : decode cX12_aKey 38 = .ok (.ireturn, 1) := by decide +kernel
theorem dX12_aKey_16 : decode cX12_aKey 16 = .ok (.aload_n 0, 1) := by decide +kernel
theorem dX12_aKey_17 : decode cX12_aKey 17 = .ok (.iconst 5, 1) := by decide +kernel
theorem dX12_aKey_18 : decode cX12_aKey 18 = .ok (.invokevirtual 187, 3) := by decide +kernel
theorem dX12_aKey_21 : decode cX12_aKey 21 = .ok (.ireturn, 1) := by decide +kernel
def rm_X12_aKey : Room := { frames := 6, cells := 0, slots := 0, locals := 131 }
set_option maxHeartbeats 4000000 in
set_option maxRecDepth 100000 in
theorem s_X12_aKey (l : Launch) (D : va_G) (cy : Nat → ClassId) (L : List Nat) (R O : Nat → Nat) (f0 : Nat → va_E) (a0 : Nat) (m_a0 : a0 ∈ L) (r_a0 : R a0 = 12) (GA : Nat) (m_GA : GA ∈ L) (r_GA : R GA = 61) (t_GA : fld f0 a0 0 = .ref GA) (GP : Nat) (m_GP : GP ∈ L) (r_GP : R GP = 69) (t_GP : fld f0 a0 22 = .ref GP) (GL : Nat) (m_GL : GL ∈ L) (r_GL : R GL = 70) (t_GL : fld f0 a0 23 = .ref GL) (GT : Nat) (m_GT : GT ∈ L) (r_GT : R GT = 64) (t_GT : fld f0 a0 6 = .ref GT) (pre0 : RB GA 20760 f0) : ∀ sz, Met l yX12_aKey (Cond.code yX12_aKey cX12_aKey 2 (some .boolean) :: wsL_law) rm_X12_aKey (va_Pc [.ref a0] (tPZ D cy L R (TT cy L R) f0 sz)) (va_Qi (fun (r : Int32) f1 => fr L R [(12, 11), (12, 12), (12, 13), (12, 14), (12, 16), (12, 17)] [12, 61] f0 f1 ∧ 0 ≤ r.toInt ∧ r.toInt ≤ 1 ∧ KW (20760) (20788) GA f0 f1 ∧ elj f1 GA 20761 = elj f0 GA 20761 ∧ elj f1 GA 20762 = elj f0 GA 20762 ∧ elj f1 GA 20763 = elj f0 GA 20763 ∧ (r.toInt = 0 ∨ elj f1 GA 20760 = elj f0 GA 20760 + 1) ∧ elj f0 GA 20760 ≤ elj f1 GA 20760 ∧ RB GA 20760 f1) (tB D (tA L sz) L R (TT cy L R)) (tA L sz)) 0 0 (tA L sz) := by
  refine tw_enteri (by decide +kernel) rfl (Nat.le_of_ble_eq_true rfl) ?_
  intro p e s m below meth c A ls args Q F hZ h hl hret
  have hl : lv_has ls 2 [(0, .ref a0)] := hl
  have hk : fr L R [(12, 11), (12, 12), (12, 13), (12, 14), (12, 16), (12, 17)] [12, 61] f0 f0 := fr.rf
  have hA : KW (20760) (20788) GA f0 f0 := KW.rf
  have hqk0 : elj f0 GA 20760 = elj f0 GA 20760 := rfl
  have hqk1 : elj f0 GA 20761 = elj f0 GA 20761 := rfl
  have hqk2 : elj f0 GA 20762 = elj f0 GA 20762 := rfl
  have hqk3 : elj f0 GA 20763 = elj f0 GA 20763 := rfl
  refine lv_aload_n F.1 F.2.1 dX12_aKey_0 rfl (lv_at hl 0 rfl) ?_
  refine g_12_7 F h m_a0 r_a0 dX12_aKey_1 (fun o1 m_o1 r_o1 ho1 => ?_)
  obtain rfl := (fld_inj t_GA ho1).symm
  refine tw_sipush F dX12_aKey_4 ks_20760 (fun z2 hz2 => ?_)
  refine le_61 F h m_GA r_GA (by omega) dX12_aKey_7 (fun v3 ev3 hv3a => ?_)
  have hv3b := clP_1.mp (atb hv3a (ac_c (b := 20760) 0 isB_n (by decide) (by omega) rfl))
  have u7 : v3.toInt = elj f0 GA (20760) := by rw [ev3, show z2.toInt.toNat = 20760 by omega]
  refine tw_l2i F dX12_aKey_8 (by omega) (by omega) (fun z4 hz4 => ?_)
  refine lv_istore_n (lv' := [(1, .int z4), (0, .ref a0)]) F.1 F.2.1 dX12_aKey_9 rfl hl (by decide) rfl (fun ls hl => ?_)
  refine lv_iload_n F.1 F.2.1 dX12_aKey_10 rfl (lv_at hl 0 rfl) ?_
  refine tw_bipush F dX12_aKey_11 kb_12 (fun z5 hz5 => ?_)
  refine tw_icmp_ne (tgt := 22) F dX12_aKey_13 (by decide) (fun b6 => ?_) (fun b6 => ?_)
  · refine lv_aload_n F.1 F.2.1 dX12_aKey_22 rfl (lv_at hl 1 rfl) ?_
    refine tw_Vv (As := []) F hZ h yk_X12_ahead0 mw_468 mw_469 mw_470 (s_X12_ahead0 l D cy L R O f0 a0 m_a0 r_a0) rfl rfl m_a0 r_a0 (fun e q => (T_12 e).mp q) rfl hl.1 rfl (Nat.le_of_ble_eq_true rfl) ⟨Nat.le_of_ble_eq_true rfl, Nat.le_of_ble_eq_true rfl⟩ ⟨Nat.le_of_ble_eq_true rfl, Nat.le_of_ble_eq_true rfl⟩ dX12_aKey_23 (fun f7 H locs hp7 h => ?_)
    obtain ⟨hf7, hv8p0⟩ := hp7
    have hA : KW (20760) (20788) GA f0 f7 := hA.fm hf7 m_GA r_GA (by decide +kernel)
    have hqk0 : elj f7 GA 20760 = elj f0 GA 20760 := by rw [hf7.eelj m_GA r_GA (by decide +kernel)]; exact hqk0
    have hqk1 : elj f7 GA 20761 = elj f0 GA 20761 := by rw [hf7.eelj m_GA r_GA (by decide +kernel)]; exact hqk1
    have hqk2 : elj f7 GA 20762 = elj f0 GA 20762 := by rw [hf7.eelj m_GA r_GA (by decide +kernel)]; exact hqk2
    have hqk3 : elj f7 GA 20763 = elj f0 GA 20763 := by rw [hf7.eelj m_GA r_GA (by decide +kernel)]; exact hqk3
    have hk : fr L R [(12, 11), (12, 12), (12, 13), (12, 14), (12, 16), (12, 17)] [12, 61] f0 f7 := hk.tr hf7 rfl rfl
    have e9 : fld f7 a0 0 = .ref GA := (hf7.efl m_a0 r_a0 rfl).trans t_GA
    have e10 : fld f7 a0 22 = .ref GP := (hf7.efl m_a0 r_a0 rfl).trans t_GP
    have e11 : fld f7 a0 23 = .ref GL := (hf7.efl m_a0 r_a0 rfl).trans t_GL
    have e12 : fld f7 a0 6 = .ref GT := (hf7.efl m_a0 r_a0 rfl).trans t_GT
    refine lv_aload_n F.1 F.2.1 dX12_aKey_26 rfl (lv_at hl 1 rfl) ?_
    refine tw_Vi (As := []) F hZ h yk_X12_isName mw_700 mw_701 mw_702 (s_X12_isName l D cy L R O f7 a0 m_a0 r_a0) rfl rfl m_a0 r_a0 (fun e q => (T_12 e).mp q) rfl hl.1 rfl (Nat.le_of_ble_eq_true rfl) ⟨Nat.le_of_ble_eq_true rfl, Nat.le_of_ble_eq_true rfl⟩ ⟨Nat.le_of_ble_eq_true rfl, Nat.le_of_ble_eq_true rfl⟩ dX12_aKey_27 (fun v14 f13 H locs hp13 h => ?_)
    obtain ⟨rfl, hv14a, hv14b, hv14p0⟩ := hp13
    refine tw_if_ne (tgt := 39) F dX12_aKey_30 (by decide) (fun b15 => ?_) (fun b15 => ?_)
    · refine lv_aload_n F.1 F.2.1 dX12_aKey_39 rfl (lv_at hl 1 rfl) ?_
      refine tw_sipush F dX12_aKey_40 ks_20760 (fun z16 hz16 => ?_)
      refine lv_aload_n F.1 F.2.1 dX12_aKey_43 rfl (lv_at hl 1 rfl) ?_
      refine tw_Vl (As := []) F hZ h yk_X12_wordHere mw_491 mw_492 mw_493 (s_X12_wordHere l D cy L R O f7 a0 m_a0 r_a0) rfl rfl m_a0 r_a0 (fun e q => (T_12 e).mp q) rfl hl.1 rfl (Nat.le_of_ble_eq_true rfl) ⟨Nat.le_of_ble_eq_true rfl, Nat.le_of_ble_eq_true rfl⟩ ⟨Nat.le_of_ble_eq_true rfl, Nat.le_of_ble_eq_true rfl⟩ dX12_aKey_44 (fun v18 f17 H locs hp17 h => ?_)
      obtain rfl := hp17
      refine tw_Vi (As := [.int z16, .long v18]) F hZ h yk_X12_keyNamed mw_708 mw_709 mw_710 (s_X12_keyNamed l D cy L R O f7 a0 m_a0 r_a0 z16 ⟨by omega, by omega⟩ v18 (isB_e isB_n (by omega))) rfl rfl m_a0 r_a0 (fun e q => (T_12 e).mp q) rfl hl.1 rfl (Nat.le_of_ble_eq_true rfl) ⟨Nat.le_of_ble_eq_true rfl, Nat.le_of_ble_eq_true rfl⟩ ⟨Nat.le_of_ble_eq_true rfl, Nat.le_of_ble_eq_true rfl⟩ dX12_aKey_47 (fun v20 f19 H locs hp19 h => ?_)
      obtain ⟨rfl, hv20a, hv20b⟩ := hp19
      refine tw_iconst F dX12_aKey_50 ki_m1 (fun z21 hz21 => ?_)
      refine tw_icmp_eq (tgt := 60) F dX12_aKey_51 (by decide) (fun b22 => ?_) (fun b22 => ?_)
      · refine lv_aload_n F.1 F.2.1 dX12_aKey_60 rfl (lv_at hl 1 rfl) ?_
        refine g_12_7 F h m_a0 r_a0 dX12_aKey_61 (fun o23 m_o23 r_o23 ho23 => ?_)
        obtain rfl := (fld_inj e9 ho23).symm
        refine tw_sipush F dX12_aKey_64 ks_20764 (fun z24 hz24 => ?_)
        refine tw_iconst F dX12_aKey_67 ki_2 (fun z25 hz25 => ?_)
        refine lv_iload_n F.1 F.2.1 dX12_aKey_68 rfl (lv_at hl 0 rfl) ?_
        refine tu_imull F dX12_aKey_69 hz25 (by omega) (fun z26 hz26 => ?_)
        refine tu_iadd F dX12_aKey_70 (by omega) (fun z27 hz27 => ?_)
        refine lv_aload_n F.1 F.2.1 dX12_aKey_71 rfl (lv_at hl 1 rfl) ?_
        refine tw_Vl (As := []) F hZ h yk_X12_wordHere mw_491 mw_492 mw_493 (s_X12_wordHere l D cy L R O f7 a0 m_a0 r_a0) rfl rfl m_a0 r_a0 (fun e q => (T_12 e).mp q) rfl hl.1 rfl (Nat.le_of_ble_eq_true rfl) ⟨Nat.le_of_ble_eq_true rfl, Nat.le_of_ble_eq_true rfl⟩ ⟨Nat.le_of_ble_eq_true rfl, Nat.le_of_ble_eq_true rfl⟩ dX12_aKey_72 (fun v29 f28 H locs hp28 h => ?_)
        obtain rfl := hp28
        refine se_61 F h m_GA r_GA (by omega) (atS (ac_k0 (b := 20760) isB_n (by omega)) clP_0) dX12_aKey_75 (fun f30 H locs e30a e30b hf30 h => ?_)
        have hA : KW (20760) (20788) GA f0 f30 := hA.st e30a (by omega)
        have hqk0 : elj f30 GA 20760 = elj f0 GA 20760 := by rw [e30a, if_neg (by omega)]; exact hqk0
        have hqk1 : elj f30 GA 20761 = elj f0 GA 20761 := by rw [e30a, if_neg (by omega)]; exact hqk1
        have hqk2 : elj f30 GA 20762 = elj f0 GA 20762 := by rw [e30a, if_neg (by omega)]; exact hqk2
        have hqk3 : elj f30 GA 20763 = elj f0 GA 20763 := by rw [e30a, if_neg (by omega)]; exact hqk3
        have hk : fr L R [(12, 11), (12, 12), (12, 13), (12, 14), (12, 16), (12, 17)] [12, 61] f0 f30 := hk.tr hf30 rfl rfl
        have e31 : fld f30 a0 0 = .ref GA := (hf30.efl m_a0 r_a0 rfl).trans e9
        have e32 : fld f30 a0 22 = .ref GP := (hf30.efl m_a0 r_a0 rfl).trans e10
        have e33 : fld f30 a0 23 = .ref GL := (hf30.efl m_a0 r_a0 rfl).trans e11
        have e34 : fld f30 a0 6 = .ref GT := (hf30.efl m_a0 r_a0 rfl).trans e12
        refine lv_aload_n F.1 F.2.1 dX12_aKey_76 rfl (lv_at hl 1 rfl) ?_
        refine tw_Vv (As := []) F hZ h yk_X12_ahead0 mw_468 mw_469 mw_470 (s_X12_ahead0 l D cy L R O f30 a0 m_a0 r_a0) rfl rfl m_a0 r_a0 (fun e q => (T_12 e).mp q) rfl hl.1 rfl (Nat.le_of_ble_eq_true rfl) ⟨Nat.le_of_ble_eq_true rfl, Nat.le_of_ble_eq_true rfl⟩ ⟨Nat.le_of_ble_eq_true rfl, Nat.le_of_ble_eq_true rfl⟩ dX12_aKey_77 (fun f35 H locs hp35 h => ?_)
        obtain ⟨hf35, hv36p0⟩ := hp35
        have hA : KW (20760) (20788) GA f0 f35 := hA.fm hf35 m_GA r_GA (by decide +kernel)
        have hqk0 : elj f35 GA 20760 = elj f0 GA 20760 := by rw [hf35.eelj m_GA r_GA (by decide +kernel)]; exact hqk0
        have hqk1 : elj f35 GA 20761 = elj f0 GA 20761 := by rw [hf35.eelj m_GA r_GA (by decide +kernel)]; exact hqk1
        have hqk2 : elj f35 GA 20762 = elj f0 GA 20762 := by rw [hf35.eelj m_GA r_GA (by decide +kernel)]; exact hqk2
        have hqk3 : elj f35 GA 20763 = elj f0 GA 20763 := by rw [hf35.eelj m_GA r_GA (by decide +kernel)]; exact hqk3
        have hk : fr L R [(12, 11), (12, 12), (12, 13), (12, 14), (12, 16), (12, 17)] [12, 61] f0 f35 := hk.tr hf35 rfl rfl
        have e37 : fld f35 a0 0 = .ref GA := (hf35.efl m_a0 r_a0 rfl).trans e31
        have e38 : fld f35 a0 22 = .ref GP := (hf35.efl m_a0 r_a0 rfl).trans e32
        have e39 : fld f35 a0 23 = .ref GL := (hf35.efl m_a0 r_a0 rfl).trans e33
        have e40 : fld f35 a0 6 = .ref GT := (hf35.efl m_a0 r_a0 rfl).trans e34
        refine lv_aload_n F.1 F.2.1 dX12_aKey_80 rfl (lv_at hl 1 rfl) ?_
        refine tw_iconst F dX12_aKey_81 ki_2 (fun z41 hz41 => ?_)
        refine tw_Vi (As := [.int z41]) F hZ h yk_X12_wantWord mw_712 mw_713 mw_714 (s_X12_wantWord l D cy L R O f35 a0 m_a0 r_a0 z41 ⟨by omega, by omega⟩) rfl rfl m_a0 r_a0 (fun e q => (T_12 e).mp q) rfl hl.1 rfl (Nat.le_of_ble_eq_true rfl) ⟨Nat.le_of_ble_eq_true rfl, Nat.le_of_ble_eq_true rfl⟩ ⟨Nat.le_of_ble_eq_true rfl, Nat.le_of_ble_eq_true rfl⟩ dX12_aKey_82 (fun v43 f42 H locs hp42 h => ?_)
        obtain ⟨hf42, hv43a, hv43b⟩ := hp42
        have hA : KW (20760) (20788) GA f0 f42 := hA.fm hf42 m_GA r_GA (by decide +kernel)
        have hqk0 : elj f42 GA 20760 = elj f0 GA 20760 := by rw [hf42.eelj m_GA r_GA (by decide +kernel)]; exact hqk0
        have hqk1 : elj f42 GA 20761 = elj f0 GA 20761 := by rw [hf42.eelj m_GA r_GA (by decide +kernel)]; exact hqk1
        have hqk2 : elj f42 GA 20762 = elj f0 GA 20762 := by rw [hf42.eelj m_GA r_GA (by decide +kernel)]; exact hqk2
        have hqk3 : elj f42 GA 20763 = elj f0 GA 20763 := by rw [hf42.eelj m_GA r_GA (by decide +kernel)]; exact hqk3
        have hk : fr L R [(12, 11), (12, 12), (12, 13), (12, 14), (12, 16), (12, 17)] [12, 61] f0 f42 := hk.tr hf42 rfl rfl
        have e44 : fld f42 a0 0 = .ref GA := (hf42.efl m_a0 r_a0 rfl).trans e37
        have e45 : fld f42 a0 22 = .ref GP := (hf42.efl m_a0 r_a0 rfl).trans e38
        have e46 : fld f42 a0 23 = .ref GL := (hf42.efl m_a0 r_a0 rfl).trans e39
        have e47 : fld f42 a0 6 = .ref GT := (hf42.efl m_a0 r_a0 rfl).trans e40
        refine tw_if_ne (tgt := 90) F dX12_aKey_85 (by decide) (fun b48 => ?_) (fun b48 => ?_)
        · refine lv_aload_n F.1 F.2.1 dX12_aKey_90 rfl (lv_at hl 1 rfl) ?_
          refine g_12_167 F h m_a0 r_a0 dX12_aKey_91 (fun v49 hv49 hv49a hv49b => ?_)
          refine tw_iconst F dX12_aKey_94 ki_3 (fun z50 hz50 => ?_)
          refine tw_icmp_eq (tgt := 104) F dX12_aKey_95 (by decide) (fun b51 => ?_) (fun b51 => ?_)
          · refine lv_aload_n F.1 F.2.1 dX12_aKey_104 rfl (lv_at hl 1 rfl) ?_
            refine g_12_7 F h m_a0 r_a0 dX12_aKey_105 (fun o52 m_o52 r_o52 ho52 => ?_)
            obtain rfl := (fld_inj e44 ho52).symm
            refine tw_sipush F dX12_aKey_108 ks_20764 (fun z53 hz53 => ?_)
            refine tw_iconst F dX12_aKey_111 ki_2 (fun z54 hz54 => ?_)
            refine lv_iload_n F.1 F.2.1 dX12_aKey_112 rfl (lv_at hl 0 rfl) ?_
            refine tu_imull F dX12_aKey_113 hz54 (by omega) (fun z55 hz55 => ?_)
            refine tu_iadd F dX12_aKey_114 (by omega) (fun z56 hz56 => ?_)
            refine tw_iconst F dX12_aKey_115 ki_1 (fun z57 hz57 => ?_)
            refine tu_iadd F dX12_aKey_116 (by omega) (fun z58 hz58 => ?_)
            refine lv_aload_n F.1 F.2.1 dX12_aKey_117 rfl (lv_at hl 1 rfl) ?_
            refine g_12_164 F h m_a0 r_a0 dX12_aKey_118 (fun v59 hv59 => ?_)
            refine tu_i2l F dX12_aKey_121 (fun z60 hz60 hz60a hz60b => ?_)
            refine se_61 F h m_GA r_GA (by omega) (atS (ac_k0 (b := 20760) isB_n (by omega)) clP_0) dX12_aKey_122 (fun f61 H locs e61a e61b hf61 h => ?_)
            have hA : KW (20760) (20788) GA f0 f61 := hA.st e61a (by omega)
            have hqk0 : elj f61 GA 20760 = elj f0 GA 20760 := by rw [e61a, if_neg (by omega)]; exact hqk0
            have hqk1 : elj f61 GA 20761 = elj f0 GA 20761 := by rw [e61a, if_neg (by omega)]; exact hqk1
            have hqk2 : elj f61 GA 20762 = elj f0 GA 20762 := by rw [e61a, if_neg (by omega)]; exact hqk2
            have hqk3 : elj f61 GA 20763 = elj f0 GA 20763 := by rw [e61a, if_neg (by omega)]; exact hqk3
            have hk : fr L R [(12, 11), (12, 12), (12, 13), (12, 14), (12, 16), (12, 17)] [12, 61] f0 f61 := hk.tr hf61 rfl rfl
            have e62 : fld f61 a0 0 = .ref GA := (hf61.efl m_a0 r_a0 rfl).trans e44
            have e63 : fld f61 a0 22 = .ref GP := (hf61.efl m_a0 r_a0 rfl).trans e45
            have e64 : fld f61 a0 23 = .ref GL := (hf61.efl m_a0 r_a0 rfl).trans e46
            have e65 : fld f61 a0 6 = .ref GT := (hf61.efl m_a0 r_a0 rfl).trans e47
            refine lv_aload_n F.1 F.2.1 dX12_aKey_123 rfl (lv_at hl 1 rfl) ?_
            refine g_12_7 F h m_a0 r_a0 dX12_aKey_124 (fun o66 m_o66 r_o66 ho66 => ?_)
            obtain rfl := (fld_inj e62 ho66).symm
            refine tw_sipush F dX12_aKey_127 ks_20760 (fun z67 hz67 => ?_)
            refine lv_dup2_11 F.1 F.2.1 dX12_aKey_130 rfl rfl ?_
            refine le_61 F h m_GA r_GA (by omega) dX12_aKey_131 (fun v68 ev68 hv68a => ?_)
            have hv68b := clP_1.mp (atb hv68a (ac_c (b := 20760) 0 isB_n (by decide) (by omega) rfl))
            have u131 : v68.toInt = elj f61 GA (20760) := by rw [ev68, show z67.toInt.toNat = 20760 by omega]
            refine tu_lconst F dX12_aKey_132 (by decide) (fun z69 (hz69 : z69.toInt = 1) => ?_)
            refine tu_ladd F dX12_aKey_133 (by omega) (fun z70 hz70 => ?_)
            refine se_61 F h m_GA r_GA (by omega) (atS (ac_c (b := 20760) 0 isB_n (by decide) (by omega) rfl) (clP_1.mpr (by omega))) dX12_aKey_134 (fun f71 H locs e71a e71b hf71 h => ?_)
            have hA : KW (20760) (20788) GA f0 f71 := hA.st e71a (by omega)
            have hqk1 : elj f71 GA 20761 = elj f0 GA 20761 := by rw [e71a, if_neg (by omega)]; exact hqk1
            have hqk2 : elj f71 GA 20762 = elj f0 GA 20762 := by rw [e71a, if_neg (by omega)]; exact hqk2
            have hqk3 : elj f71 GA 20763 = elj f0 GA 20763 := by rw [e71a, if_neg (by omega)]; exact hqk3
            have hk : fr L R [(12, 11), (12, 12), (12, 13), (12, 14), (12, 16), (12, 17)] [12, 61] f0 f71 := hk.tr hf71 rfl rfl
            have e72 : fld f71 a0 0 = .ref GA := (hf71.efl m_a0 r_a0 rfl).trans e62
            have e73 : fld f71 a0 22 = .ref GP := (hf71.efl m_a0 r_a0 rfl).trans e63
            have e74 : fld f71 a0 23 = .ref GL := (hf71.efl m_a0 r_a0 rfl).trans e64
            have e75 : fld f71 a0 6 = .ref GT := (hf71.efl m_a0 r_a0 rfl).trans e65
            have hqk0 : elj f71 GA 20760 = elj f0 GA 20760 + 1 := by rw [e71a, if_pos (by omega)]; omega
            refine lv_aload_n F.1 F.2.1 dX12_aKey_135 rfl (lv_at hl 1 rfl) ?_
            refine tw_Vv (As := []) F hZ h yk_X12_ahead0 mw_468 mw_469 mw_470 (s_X12_ahead0 l D cy L R O f71 a0 m_a0 r_a0) rfl rfl m_a0 r_a0 (fun e q => (T_12 e).mp q) rfl hl.1 rfl (Nat.le_of_ble_eq_true rfl) ⟨Nat.le_of_ble_eq_true rfl, Nat.le_of_ble_eq_true rfl⟩ ⟨Nat.le_of_ble_eq_true rfl, Nat.le_of_ble_eq_true rfl⟩ dX12_aKey_136 (fun f76 H locs hp76 h => ?_)
            obtain ⟨hf76, hv77p0⟩ := hp76
            have hA : KW (20760) (20788) GA f0 f76 := hA.fm hf76 m_GA r_GA (by decide +kernel)
            have hqk1 : elj f76 GA 20761 = elj f0 GA 20761 := by rw [hf76.eelj m_GA r_GA (by decide +kernel)]; exact hqk1
            have hqk2 : elj f76 GA 20762 = elj f0 GA 20762 := by rw [hf76.eelj m_GA r_GA (by decide +kernel)]; exact hqk2
            have hqk3 : elj f76 GA 20763 = elj f0 GA 20763 := by rw [hf76.eelj m_GA r_GA (by decide +kernel)]; exact hqk3
            have hqk0 : elj f76 GA 20760 = elj f0 GA 20760 + 1 := by rw [hf76.eelj m_GA r_GA (by decide +kernel)]; exact hqk0
            have hk : fr L R [(12, 11), (12, 12), (12, 13), (12, 14), (12, 16), (12, 17)] [12, 61] f0 f76 := hk.tr hf76 rfl rfl
            have e78 : fld f76 a0 0 = .ref GA := (hf76.efl m_a0 r_a0 rfl).trans e72
            have e79 : fld f76 a0 22 = .ref GP := (hf76.efl m_a0 r_a0 rfl).trans e73
            have e80 : fld f76 a0 23 = .ref GL := (hf76.efl m_a0 r_a0 rfl).trans e74
            have e81 : fld f76 a0 6 = .ref GT := (hf76.efl m_a0 r_a0 rfl).trans e75
            refine tw_iconst F dX12_aKey_139 ki_1 (fun z82 hz82 => ?_)
            exact hret f76 _ _ _ _ z82 dX12_aKey_140 (tw_nb (by omega)) ⟨hk, by omega, by omega, hA, hqk1, hqk2, hqk3, by omega, by omega, RB_n pre0 hA (by omega) hqk1 hqk3⟩ h
          · refine lv_aload_n F.1 F.2.1 dX12_aKey_98 rfl (lv_at hl 1 rfl) ?_
            refine tw_iconst F dX12_aKey_99 ki_2 (fun z83 hz83 => ?_)
            refine tw_Vi (As := [.int z83]) F hZ h yk_X12_fails mw_487 mw_488 mw_489 (s_X12_fails l D cy L R O f42 a0 m_a0 r_a0 z83 ⟨by omega, by omega⟩) rfl rfl m_a0 r_a0 (fun e q => (T_12 e).mp q) rfl hl.1 rfl (Nat.le_of_ble_eq_true rfl) ⟨Nat.le_of_ble_eq_true rfl, Nat.le_of_ble_eq_true rfl⟩ ⟨Nat.le_of_ble_eq_true rfl, Nat.le_of_ble_eq_true rfl⟩ dX12_aKey_100 (fun v85 f84 H locs hp84 h => ?_)
            obtain ⟨hf84, hv85a, hv85b⟩ := hp84
            have hA : KW (20760) (20788) GA f0 f84 := hA.fm hf84 m_GA r_GA (by decide +kernel)
            have hqk0 : elj f84 GA 20760 = elj f0 GA 20760 := by rw [hf84.eelj m_GA r_GA (by decide +kernel)]; exact hqk0
            have hqk1 : elj f84 GA 20761 = elj f0 GA 20761 := by rw [hf84.eelj m_GA r_GA (by decide +kernel)]; exact hqk1
            have hqk2 : elj f84 GA 20762 = elj f0 GA 20762 := by rw [hf84.eelj m_GA r_GA (by decide +kernel)]; exact hqk2
            have hqk3 : elj f84 GA 20763 = elj f0 GA 20763 := by rw [hf84.eelj m_GA r_GA (by decide +kernel)]; exact hqk3
            have hk : fr L R [(12, 11), (12, 12), (12, 13), (12, 14), (12, 16), (12, 17)] [12, 61] f0 f84 := hk.tr hf84 rfl rfl
            have e86 : fld f84 a0 0 = .ref GA := (hf84.efl m_a0 r_a0 rfl).trans e44
            have e87 : fld f84 a0 22 = .ref GP := (hf84.efl m_a0 r_a0 rfl).trans e45
            have e88 : fld f84 a0 23 = .ref GL := (hf84.efl m_a0 r_a0 rfl).trans e46
            have e89 : fld f84 a0 6 = .ref GT := (hf84.efl m_a0 r_a0 rfl).trans e47
            exact hret f84 _ _ _ _ v85 dX12_aKey_103 (tw_nb (by omega)) ⟨hk, by omega, by omega, hA, hqk1, hqk2, hqk3, by omega, by omega, RB_n pre0 hA (by omega) hqk1 hqk3⟩ h
        · refine tw_iconst F dX12_aKey_88 ki_0 (fun z90 hz90 => ?_)
          exact hret f42 _ _ _ _ z90 dX12_aKey_89 (tw_nb (by omega)) ⟨hk, by omega, by omega, hA, hqk1, hqk2, hqk3, by omega, by omega, RB_n pre0 hA (by omega) hqk1 hqk3⟩ h
      · refine lv_aload_n F.1 F.2.1 dX12_aKey_54 rfl (lv_at hl 1 rfl) ?_
        refine tw_iconst F dX12_aKey_55 ki_3 (fun z91 hz91 => ?_)
        refine tw_Vi (As := [.int z91]) F hZ h yk_X12_fails mw_487 mw_488 mw_489 (s_X12_fails l D cy L R O f7 a0 m_a0 r_a0 z91 ⟨by omega, by omega⟩) rfl rfl m_a0 r_a0 (fun e q => (T_12 e).mp q) rfl hl.1 rfl (Nat.le_of_ble_eq_true rfl) ⟨Nat.le_of_ble_eq_true rfl, Nat.le_of_ble_eq_true rfl⟩ ⟨Nat.le_of_ble_eq_true rfl, Nat.le_of_ble_eq_true rfl⟩ dX12_aKey_56 (fun v93 f92 H locs hp92 h => ?_)
        obtain ⟨hf92, hv93a, hv93b⟩ := hp92
        have hA : KW (20760) (20788) GA f0 f92 := hA.fm hf92 m_GA r_GA (by decide +kernel)
        have hqk0 : elj f92 GA 20760 = elj f0 GA 20760 := by rw [hf92.eelj m_GA r_GA (by decide +kernel)]; exact hqk0
        have hqk1 : elj f92 GA 20761 = elj f0 GA 20761 := by rw [hf92.eelj m_GA r_GA (by decide +kernel)]; exact hqk1
        have hqk2 : elj f92 GA 20762 = elj f0 GA 20762 := by rw [hf92.eelj m_GA r_GA (by decide +kernel)]; exact hqk2
        have hqk3 : elj f92 GA 20763 = elj f0 GA 20763 := by rw [hf92.eelj m_GA r_GA (by decide +kernel)]; exact hqk3
        have hk : fr L R [(12, 11), (12, 12), (12, 13), (12, 14), (12, 16), (12, 17)] [12, 61] f0 f92 := hk.tr hf92 rfl rfl
        have e94 : fld f92 a0 0 = .ref GA := (hf92.efl m_a0 r_a0 rfl).trans e9
        have e95 : fld f92 a0 22 = .ref GP := (hf92.efl m_a0 r_a0 rfl).trans e10
        have e96 : fld f92 a0 23 = .ref GL := (hf92.efl m_a0 r_a0 rfl).trans e11
        have e97 : fld f92 a0 6 = .ref GT := (hf92.efl m_a0 r_a0 rfl).trans e12
        exact hret f92 _ _ _ _ v93 dX12_aKey_59 (tw_nb (by omega)) ⟨hk, by omega, by omega, hA, hqk1, hqk2, hqk3, by omega, by omega, RB_n pre0 hA (by omega) hqk1 hqk3⟩ h
    · refine lv_aload_n F.1 F.2.1 dX12_aKey_33 rfl (lv_at hl 1 rfl) ?_
      refine tw_iconst F dX12_aKey_34 ki_2 (fun z98 hz98 => ?_)
      refine tw_Vi (As := [.int z98]) F hZ h yk_X12_fails mw_487 mw_488 mw_489 (s_X12_fails l D cy L R O f7 a0 m_a0 r_a0 z98 ⟨by omega, by omega⟩) rfl rfl m_a0 r_a0 (fun e q => (T_12 e).mp q) rfl hl.1 rfl (Nat.le_of_ble_eq_true rfl) ⟨Nat.le_of_ble_eq_true rfl, Nat.le_of_ble_eq_true rfl⟩ ⟨Nat.le_of_ble_eq_true rfl, Nat.le_of_ble_eq_true rfl⟩ dX12_aKey_35 (fun v100 f99 H locs hp99 h => ?_)
      obtain ⟨hf99, hv100a, hv100b⟩ := hp99
      have hA : KW (20760) (20788) GA f0 f99 := hA.fm hf99 m_GA r_GA (by decide +kernel)
      have hqk0 : elj f99 GA 20760 = elj f0 GA 20760 := by rw [hf99.eelj m_GA r_GA (by decide +kernel)]; exact hqk0
      have hqk1 : elj f99 GA 20761 = elj f0 GA 20761 := by rw [hf99.eelj m_GA r_GA (by decide +kernel)]; exact hqk1
      have hqk2 : elj f99 GA 20762 = elj f0 GA 20762 := by rw [hf99.eelj m_GA r_GA (by decide +kernel)]; exact hqk2
      have hqk3 : elj f99 GA 20763 = elj f0 GA 20763 := by rw [hf99.eelj m_GA r_GA (by decide +kernel)]; exact hqk3
      have hk : fr L R [(12, 11), (12, 12), (12, 13), (12, 14), (12, 16), (12, 17)] [12, 61] f0 f99 := hk.tr hf99 rfl rfl
      have e101 : fld f99 a0 0 = .ref GA := (hf99.efl m_a0 r_a0 rfl).trans e9
      have e102 : fld f99 a0 22 = .ref GP := (hf99.efl m_a0 r_a0 rfl).trans e10
      have e103 : fld f99 a0 23 = .ref GL := (hf99.efl m_a0 r_a0 rfl).trans e11
      have e104 : fld f99 a0 6 = .ref GT := (hf99.efl m_a0 r_a0 rfl).trans e12
      exact hret f99 _ _ _ _ v100 dX12_aKey_38 (tw_nb (by omega)) ⟨hk, by omega, by omega, hA, hqk1, hqk2, hqk3, by omega, by omega, RB_n pre0 hA (by omega) hqk1 hqk3⟩ h
  · refine lv_aload_n F.1 F.2.1 dX12_aKey_16 rfl (lv_at hl 1 rfl) ?_
    refine tw_iconst F dX12_aKey_17 ki_5 (fun z105 hz105 => ?_)
    refine tw_Vi (As := [.int z105]) F hZ h yk_X12_fails mw_487 mw_488 mw_489 (s_X12_fails l D cy L R O f0 a0 m_a0 r_a0 z105 ⟨by omega, by omega⟩) rfl rfl m_a0 r_a0 (fun e q => (T_12 e).mp q) rfl hl.1 rfl (Nat.le_of_ble_eq_true rfl) ⟨Nat.le_of_ble_eq_true rfl, Nat.le_of_ble_eq_true rfl⟩ ⟨Nat.le_of_ble_eq_true rfl, Nat.le_of_ble_eq_true rfl⟩ dX12_aKey_18 (fun v107 f106 H locs hp106 h => ?_)
    obtain ⟨hf106, hv107a, hv107b⟩ := hp106
    have hA : KW (20760) (20788) GA f0 f106 := hA.fm hf106 m_GA r_GA (by decide +kernel)
    have hqk0 : elj f106 GA 20760 = elj f0 GA 20760 := by rw [hf106.eelj m_GA r_GA (by decide +kernel)]; exact hqk0
    have hqk1 : elj f106 GA 20761 = elj f0 GA 20761 := by rw [hf106.eelj m_GA r_GA (by decide +kernel)]; exact hqk1
    have hqk2 : elj f106 GA 20762 = elj f0 GA 20762 := by rw [hf106.eelj m_GA r_GA (by decide +kernel)]; exact hqk2
    have hqk3 : elj f106 GA 20763 = elj f0 GA 20763 := by rw [hf106.eelj m_GA r_GA (by decide +kernel)]; exact hqk3
    have hk : fr L R [(12, 11), (12, 12), (12, 13), (12, 14), (12, 16), (12, 17)] [12, 61] f0 f106 := hk.tr hf106 rfl rfl
    have e108 : fld f106 a0 0 = .ref GA := (hf106.efl m_a0 r_a0 rfl).trans t_GA
    have e109 : fld f106 a0 22 = .ref GP := (hf106.efl m_a0 r_a0 rfl).trans t_GP
    have e110 : fld f106 a0 23 = .ref GL := (hf106.efl m_a0 r_a0 rfl).trans t_GL
    have e111 : fld f106 a0 6 = .ref GT := (hf106.efl m_a0 r_a0 rfl).trans t_GT
    exact hret f106 _ _ _ _ v107 dX12_aKey_21 (tw_nb (by omega)) ⟨hk, by omega, by omega, hA, hqk1, hqk2, hqk3, by omega, by omega, RB_n pre0 hA (by omega) hqk1 hqk3⟩ h
theorem dX12_aRule_0 : decode cX12_aRule 0 = .ok (.aload_n 0, 1) := by decide +kernel
theorem dX12_aRule_1 : decode cX12_aRule 1 = .ok (.getfield 7, 3) := by decide +kernel
theorem dX12_aRule_4 : decode cX12_aRule 4 = .ok (.sipush 20761, 3) := by decide +kernel
theorem ks_20761 : (Int16.ofInt 20761).toInt32.toInt = 20761 := by decide
theorem dX12_aRule_7 : decode cX12_aRule 7 = .ok (.laload, 1) := by decide +kernel
theorem dX12_aRule_8 : decode cX12_aRule 8 = .ok (.l2i, 1) := by decide +kernel
theorem dX12_aRule_9 : decode cX12_aRule 9 = .ok (.istore_n 2, 1) := by decide +kernel
theorem dX12_aRule_10 : decode cX12_aRule 10 = .ok (.aload_n 0, 1) := by decide +kernel
theorem dX12_aRule_11 : decode cX12_aRule 11 = .ok (.getfield 7, 3) := by decide +kernel
theorem dX12_aRule_14 : decode cX12_aRule 14 = .ok (.sipush 20760, 3) := by decide +kernel
theorem dX12_aRule_17 : decode cX12_aRule 17 = .ok (.laload, 1) := by decide +kernel
theorem dX12_aRule_18 : decode cX12_aRule 18 = .ok (.lconst 0, 1) := by decide +kernel
theorem dX12_aRule_19 : decode cX12_aRule 19 = .ok (.lcmp, 1) := by decide +kernel
theorem dX12_aRule_20 : decode cX12_aRule 20 = .ok (.ifCond .ne 9, 3) := by decide +kernel
theorem dX12_aRule_29 : decode cX12_aRule 29 = .ok (.iload_n 2, 1) := by decide +kernel
theorem dX12_aRule_30 : decode cX12_aRule 30 = .ok (.bipush 24, 2) := by decide +kernel
theorem dX12_aRule_32 : decode cX12_aRule 32 = .ok (.if_icmp .ne 9, 3) := by decide +kernel
theorem dX12_aRule_41 : decode cX12_aRule 41 = .ok (.sipush 20812, 3) := by decide +kernel
theorem ks_20812 : (Int16.ofInt 20812).toInt32.toInt = 20812 := by decide
theorem dX12_aRule_44 : decode cX12_aRule 44 = .ok (.bipush 60, 2) := by decide +kernel
theorem dX12_aRule_46 : decode cX12_aRule 46 = .ok (.iload_n 2, 1) := by decide +kernel
theorem dX12_aRule_47 : decode cX12_aRule 47 = .ok (.imul, 1) := by decide +kernel
theorem dX12_aRule_48 : decode cX12_aRule 48 = .ok (.iadd, 1) := by decide +kernel
theorem dX12_aRule_49 : decode cX12_aRule 49 = .ok (.istore_n 3, 1) := by decide +kernel
theorem dX12_aRule_50 : decode cX12_aRule 50 = .ok (.aload_n 0, 1) := by decide +kernel
theorem dX12_aRule_51 : decode cX12_aRule 51 = .ok (.getfield 7, 3) := by decide +kernel
theorem dX12_aRule_54 : decode cX12_aRule 54 = .ok (.iload_n 3, 1) := by decide +kernel
theorem dX12_aRule_55 : decode cX12_aRule 55 = .ok (.aload_n 0, 1) := by decide +kernel
theorem dX12_aRule_56 : decode cX12_aRule 56 = .ok (.getfield 7, 3) := by decide +kernel
theorem dX12_aRule_59 : decode cX12_aRule 59 = .ok (.sipush 20760, 3) := by decide +kernel
theorem dX12_aRule_62 : decode cX12_aRule 62 = .ok (.laload, 1) := by decide +kernel
theorem dX12_aRule_63 : decode cX12_aRule 63 = .ok (.lconst 1, 1) := by decide +kernel
theorem dX12_aRule_64 : decode cX12_aRule 64 = .ok (.lsub, 1) := by decide +kernel
theorem dX12_aRule_65 : decode cX12_aRule 65 = .ok (.lastore, 1) := by decide +kernel
theorem dX12_aRule_66 : decode cX12_aRule 66 = .ok (.aload_n 0, 1) := by decide +kernel
theorem dX12_aRule_67 : decode cX12_aRule 67 = .ok (.getfield 7, 3) := by decide +kernel
theorem dX12_aRule_70 : decode cX12_aRule 70 = .ok (.iload_n 3, 1) := by decide +kernel
theorem dX12_aRule_71 : decode cX12_aRule 71 = .ok (.iconst 1, 1) := by decide +kernel
theorem dX12_aRule_72 : decode cX12_aRule 72 = .ok (.iadd, 1) := by decide +kernel
theorem dX12_aRule_73 : decode cX12_aRule 73 = .ok (.iload_n 1, 1) := by decide +kernel
theorem dX12_aRule_82 : decode cX12_aRule 82 = .ok (.lastore, 1) := by decide +kernel
theorem dX12_aRule_83 : decode cX12_aRule 83 = .ok (.aload_n 0, 1) := by decide +kernel
theorem dX12_aRule_84 : decode cX12_aRule 84 = .ok (.getfield 7, 3) := by decide +kernel
theorem dX12_aRule_87 : decode cX12_aRule 87 = .ok (.iload_n 3, 1) := by decide +kernel
theorem dX12_aRule_88 : decode cX12_aRule 88 = .ok (.iconst 2, 1) := by decide +kernel
theorem dX12_aRule_89 : decode cX12_aRule 89 = .ok (.iadd, 1) := by decide +kernel
theorem dX12_aRule_90 : decode cX12_aRule 90 = .ok (.lconst 0, 1) := by decide +kernel
theorem dX12_aRule_91 : decode cX12_aRule 91 = .ok (.lastore, 1) := by decide +kernel
theorem dX12_aRule_92 : decode cX12_aRule 92 = .ok (.aload_n 0, 1) := by decide +kernel
theorem dX12_aRule_93 : decode cX12_aRule 93 = .ok (.iconst 0, 1) := by decide +kernel
theorem dX12_aRule_94 : decode cX12_aRule 94 = .ok (.putfield 245, 3) := by decide +kernel
section
variable {p : Program} {l : Launch} {e : Env} {R0 : Room} {s : State} {m : MethodId} {args : Array Value} {below : List Frame} {meth : Method} {c : Code} {H H0 : Heap} {locs : List Loc} {cells slots : Nat} {Q : State → Prop} {cc : ByteArray} {nL : Nat} {D : va_G} {cy : Nat → ClassId} {A : Nat → Prop} {L : List Nat} {R : Nat → Nat} {f : Nat → va_E} {pc : Nat} {ls : Array Slot} {rest : List Value} {a : Nat}
theorem p_12_245 (F : CallFix p m c cc nL s args wsL_law RX12) (h : tS D cy A H0 L R (TT cy L R) f s H locs) {x : Int32} (ha : a ∈ L) (hr : R a = 12) (hv : 0 ≤ x.toInt ∧ x.toInt ≤ 8) (hdg : decode cc pc = .ok (.putfield 245, 3)) (kk : ∀ (f1 : Nat → va_E) (H1 : Heap) (locs1 : List Loc), fi f1 a 19 = x.toInt → fr L R [(12, 19)] [12] f f1 → tS D cy A H0 L R (TT cy L R) f1 s H1 locs1 → W p l e R0 s m args below meth c H1 locs1 cells slots Q (F0 m (pc + 3) ls (rest))) : W p l e R0 s m args below meth c H locs cells slots Q (F0 m pc ls (.int x :: .ref a :: rest)) := tu_puti (k := 19) F h ha hr T_12 rfl hv.1 hv.2 inlX12 tyX12_ok nmX12 rfl (Nat.le_of_ble_eq_true rfl) mw_720 rfl rfl rfl hdg kk
end
theorem dX12_aRule_97 : decode cX12_aRule 97 = .ok (.aload_n 0, 1) := by decide +kernel
theorem dX12_aRule_98 : decode cX12_aRule 98 = .ok (.invokevirtual 184, 3) := by decide +kernel
theorem dX12_aRule_101 : decode cX12_aRule 101 = .ok (.iconst 1, 1) := by decide +kernel
theorem dX12_aRule_102 : decode cX12_aRule 102 = .ok (.istore 4, 2) := by decide +kernel
theorem dX12_aRule_104 : decode cX12_aRule 104 = .ok (.iload 4, 2) := by decide +kernel
theorem dX12_aRule_106 : decode cX12_aRule 106 = .ok (.ifCond .eq 168, 3) := by decide +kernel
theorem dX12_aRule_274 : decode cX12_aRule 274 = .ok (.aload_n 0, 1) := by decide +kernel
theorem dX12_aRule_275 : decode cX12_aRule 275 = .ok (.invokevirtual 184, 3) := by decide +kernel
theorem dX12_aRule_278 : decode cX12_aRule 278 = .ok (.aload_n 0, 1) := by decide +kernel
theorem dX12_aRule_279 : decode cX12_aRule 279 = .ok (.iload_n 3, 1) := by decide +kernel
theorem dX12_aRule_280 : decode cX12_aRule 280 = .ok (.bipush 11, 2) := by decide +kernel
theorem dX12_aRule_282 : decode cX12_aRule 282 = .ok (.iadd, 1) := by decide +kernel
theorem dX12_aRule_283 : decode cX12_aRule 283 = .ok (.iload_n 1, 1) := by decide +kernel
theorem dX12_aRule_292 : decode cX12_aRule 292 = .ok (.invokevirtual 263, 3) := by decide +kernel
theorem mw_727 : Cond.methodLink RX12 263 yX12_answers ∈ wsL_law := inr_31 _ (List.mem_of_getElem? (i := 7) rfl)
theorem mw_730 : Cond.code yX12_answers cX12_answers 3 (some .boolean) ∈ wsL_law := inr_31 _ (List.mem_of_getElem? (i := 10) rfl)
theorem yk_X12_answers : xY yX12_answers RX12 cX12_answers 3 (some .boolean) 2 := ⟨⟨rfl, by decide +kernel, by decide +kernel, by decide +kernel⟩, mw_5, mw_730⟩
theorem mw_728 : Cond.instanceMethod yX12_answers ∈ wsL_law := inr_31 _ (List.mem_of_getElem? (i := 8) rfl)
theorem mw_729 : Cond.selects RX12 yX12_answers yX12_answers ∈ wsL_law := inr_31 _ (List.mem_of_getElem? (i := 9) rfl)
theorem dX12_aRule_295 : decode cX12_aRule 295 = .ok (.ifCond .ne 5, 3) := by decide +kernel
theorem dX12_aRule_300 : decode cX12_aRule 300 = .ok (.aload_n 0, 1) := by decide +kernel
theorem dX12_aRule_301 : decode cX12_aRule 301 = .ok (.getfield 7, 3) := by decide +kernel
theorem dX12_aRule_304 : decode cX12_aRule 304 = .ok (.sipush 20761, 3) := by decide +kernel
theorem dX12_aRule_307 : decode cX12_aRule 307 = .ok (.dup2, 1) := by decide +kernel
theorem dX12_aRule_308 : decode cX12_aRule 308 = .ok (.laload, 1) := by decide +kernel
theorem dX12_aRule_309 : decode cX12_aRule 309 = .ok (.lconst 1, 1) := by decide +kernel
theorem dX12_aRule_310 : decode cX12_aRule 310 = .ok (.ladd, 1) := by decide +kernel
theorem dX12_aRule_311 : decode cX12_aRule 311 = .ok (.lastore, 1) := by decide +kernel
theorem dX12_aRule_312 : decode cX12_aRule 312 = .ok (.iconst 1, 1) := by decide +kernel
theorem dX12_aRule_313 : decode cX12_aRule 313 = .ok (.ireturn, 1) := by decide +kernel
theorem dX12_aRule_298 : decode cX12_aRule 298 = .ok (.iconst 0, 1) := by decide +kernel
theorem dX12_aRule_299 : decode cX12_aRule 299 = .ok (.ireturn, 1) := by decide +kernel
theorem dX12_aRule_284 : decode cX12_aRule 284 = .ok (.ifCond .ne 7, 3) := by decide +kernel
theorem dX12_aRule_291 : decode cX12_aRule 291 = .ok (.iconst 0, 1) := by decide +kernel
theorem dX12_aRule_287 : decode cX12_aRule 287 = .ok (.iconst 1, 1) := by decide +kernel
theorem dX12_aRule_288 : decode cX12_aRule 288 = .ok (.goto 4, 3) := by decide +kernel
theorem dX12_aRule_109 : decode cX12_aRule 109 = .ok (.aload_n 0, 1) := by decide +kernel
theorem dX12_aRule_110 : decode cX12_aRule 110 = .ok (.bipush 42, 2) := by decide +kernel
theorem dX12_aRule_112 : decode cX12_aRule 112 = .ok (.invokevirtual 256, 3) := by decide +kernel
theorem mw_723 : Cond.methodLink RX12 256 yX12_isSign ∈ wsL_law := inr_31 _ (List.mem_of_getElem? (i := 3) rfl)
theorem mw_726 : Cond.code yX12_isSign cX12_isSign 2 (some .boolean) ∈ wsL_law := inr_31 _ (List.mem_of_getElem? (i := 6) rfl)
theorem yk_X12_isSign : xY yX12_isSign RX12 cX12_isSign 2 (some .boolean) 1 := ⟨⟨rfl, by decide +kernel, by decide +kernel, by decide +kernel⟩, mw_5, mw_726⟩
theorem mw_724 : Cond.instanceMethod yX12_isSign ∈ wsL_law := inr_31 _ (List.mem_of_getElem? (i := 4) rfl)
theorem mw_725 : Cond.selects RX12 yX12_isSign yX12_isSign ∈ wsL_law := inr_31 _ (List.mem_of_getElem? (i := 5) rfl)
theorem dX12_aRule_132 : decode cX12_aRule 132 = .ok (.istore 5, 2) := by decide +kernel
theorem dX12_aRule_134 : decode cX12_aRule 134 = .ok (.iload 5, 2) := by decide +kernel
theorem dX12_aRule_152 : decode cX12_aRule 152 = .ok (.aload_n 0, 1) := by decide +kernel
theorem dX12_aRule_153 : decode cX12_aRule 153 = .ok (.getfield 7, 3) := by decide +kernel
theorem dX12_aRule_156 : decode cX12_aRule 156 = .ok (.iload_n 3, 1) := by decide +kernel
theorem dX12_aRule_157 : decode cX12_aRule 157 = .ok (.iconst 2, 1) := by decide +kernel
theorem dX12_aRule_158 : decode cX12_aRule 158 = .ok (.iadd, 1) := by decide +kernel
theorem dX12_aRule_159 : decode cX12_aRule 159 = .ok (.laload, 1) := by decide +kernel
theorem dX12_aRule_160 : decode cX12_aRule 160 = .ok (.ldc2_w 259, 3) := by decide +kernel
theorem mw_721 : Cond.constantLong RX12 259 (8) ∈ wsL_law := inr_31 _ (List.mem_of_getElem? (i := 1) rfl)
theorem kl_8 : (8 : Int64).toInt = 8 := by decide +kernel
theorem dX12_aRule_163 : decode cX12_aRule 163 = .ok (.lcmp, 1) := by decide +kernel
theorem dX12_aRule_164 : decode cX12_aRule 164 = .ok (.ifCond .ne 9, 3) := by decide +kernel
theorem dX12_aRule_173 : decode cX12_aRule 173 = .ok (.aload_n 0, 1) := by decide +kernel
theorem dX12_aRule_174 : decode cX12_aRule 174 = .ok (.getfield 7, 3) := by decide +kernel
theorem dX12_aRule_177 : decode cX12_aRule 177 = .ok (.iload_n 3, 1) := by decide +kernel
theorem dX12_aRule_178 : decode cX12_aRule 178 = .ok (.iconst 3, 1) := by decide +kernel
theorem dX12_aRule_179 : decode cX12_aRule 179 = .ok (.iadd, 1) := by decide +kernel
theorem dX12_aRule_180 : decode cX12_aRule 180 = .ok (.aload_n 0, 1) := by decide +kernel
theorem dX12_aRule_181 : decode cX12_aRule 181 = .ok (.getfield 7, 3) := by decide +kernel
theorem dX12_aRule_184 : decode cX12_aRule 184 = .ok (.iload_n 3, 1) := by decide +kernel
theorem dX12_aRule_185 : decode cX12_aRule 185 = .ok (.iconst 2, 1) := by decide +kernel
theorem dX12_aRule_186 : decode cX12_aRule 186 = .ok (.iadd, 1) := by decide +kernel
theorem dX12_aRule_187 : decode cX12_aRule 187 = .ok (.laload, 1) := by decide +kernel
theorem dX12_aRule_188 : decode cX12_aRule 188 = .ok (.l2i, 1) := by decide +kernel
theorem dX12_aRule_189 : decode cX12_aRule 189 = .ok (.iadd, 1) := by decide +kernel
theorem dX12_aRule_190 : decode cX12_aRule 190 = .ok (.aload_n 0, 1) := by decide +kernel
theorem dX12_aRule_191 : decode cX12_aRule 191 = .ok (.bipush 42, 2) := by decide +kernel
theorem dX12_aRule_193 : decode cX12_aRule 193 = .ok (.invokevirtual 256, 3) := by decide +kernel
theorem dX12_aRule_220 : decode cX12_aRule 220 = .ok (.lastore, 1) := by decide +kernel
theorem dX12_aRule_221 : decode cX12_aRule 221 = .ok (.aload_n 0, 1) := by decide +kernel
theorem dX12_aRule_222 : decode cX12_aRule 222 = .ok (.getfield 7, 3) := by decide +kernel
theorem dX12_aRule_225 : decode cX12_aRule 225 = .ok (.iload_n 3, 1) := by decide +kernel
theorem dX12_aRule_226 : decode cX12_aRule 226 = .ok (.iconst 2, 1) := by decide +kernel
theorem dX12_aRule_227 : decode cX12_aRule 227 = .ok (.iadd, 1) := by decide +kernel
theorem dX12_aRule_228 : decode cX12_aRule 228 = .ok (.dup2, 1) := by decide +kernel
theorem dX12_aRule_229 : decode cX12_aRule 229 = .ok (.laload, 1) := by decide +kernel
theorem dX12_aRule_230 : decode cX12_aRule 230 = .ok (.lconst 1, 1) := by decide +kernel
theorem dX12_aRule_231 : decode cX12_aRule 231 = .ok (.ladd, 1) := by decide +kernel
theorem dX12_aRule_232 : decode cX12_aRule 232 = .ok (.lastore, 1) := by decide +kernel
theorem dX12_aRule_233 : decode cX12_aRule 233 = .ok (.aload_n 0, 1) := by decide +kernel
theorem dX12_aRule_234 : decode cX12_aRule 234 = .ok (.dup, 1) := by decide +kernel
theorem dX12_aRule_235 : decode cX12_aRule 235 = .ok (.getfield 245, 3) := by decide +kernel
theorem dX12_aRule_238 : decode cX12_aRule 238 = .ok (.iload 5, 2) := by decide +kernel
theorem dX12_aRule_248 : decode cX12_aRule 248 = .ok (.iadd, 1) := by decide +kernel
theorem dX12_aRule_249 : decode cX12_aRule 249 = .ok (.putfield 245, 3) := by decide +kernel
theorem dX12_aRule_252 : decode cX12_aRule 252 = .ok (.aload_n 0, 1) := by decide +kernel
theorem dX12_aRule_253 : decode cX12_aRule 253 = .ok (.invokevirtual 184, 3) := by decide +kernel
theorem dX12_aRule_256 : decode cX12_aRule 256 = .ok (.aload_n 0, 1) := by decide +kernel
theorem dX12_aRule_257 : decode cX12_aRule 257 = .ok (.invokevirtual 231, 3) := by decide +kernel
theorem dX12_aRule_260 : decode cX12_aRule 260 = .ok (.iconst 4, 1) := by decide +kernel
theorem dX12_aRule_269 : decode cX12_aRule 269 = .ok (.istore 4, 2) := by decide +kernel
theorem dX12_aRule_271 : decode cX12_aRule 271 = .ok (.goto (-167), 3) := by decide +kernel
theorem dX12_aRule_261 : decode cX12_aRule 261 = .ok (.if_icmp .eq 7, 3) := by decide +kernel
theorem dX12_aRule_268 : decode cX12_aRule 268 = .ok (.iconst 0, 1) := by decide +kernel
theorem dX12_aRule_264 : decode cX12_aRule 264 = .ok (.iconst 1, 1) := by decide +kernel
theorem dX12_aRule_265 : decode cX12_aRule 265 = .ok (.goto 4, 3) := by decide +kernel
theorem dX12_aRule_240 : decode cX12_aRule 240 = .ok (.ifCond .eq 7, 3) := by decide +kernel
theorem dX12_aRule_247 : decode cX12_aRule 247 = .ok (.iconst 0, 1) := by decide +kernel
theorem dX12_aRule_243 : decode cX12_aRule 243 = .ok (.iconst 1, 1) := by decide +kernel
theorem dX12_aRule_244 : decode cX12_aRule 244 = .ok (.goto 4, 3) := by decide +kernel
theorem dX12_aRule_196 : decode cX12_aRule 196 = .ok (.ifCond .eq 9, 3) := by decide +kernel
theorem dX12_aRule_205 : decode cX12_aRule 205 = .ok (.iload 5, 2) := by decide +kernel
theorem dX12_aRule_207 : decode cX12_aRule 207 = .ok (.ifCond .eq 9, 3) := by decide +kernel
theorem dX12_aRule_216 : decode cX12_aRule 216 = .ok (.aload_n 0, 1) := by decide +kernel
theorem dX12_aRule_217 : decode cX12_aRule 217 = .ok (.invokevirtual 190, 3) := by decide +kernel
theorem dX12_aRule_210 : decode cX12_aRule 210 = .ok (.ldc2_w 261, 3) := by decide +kernel
theorem dX12_aRule_213 : decode cX12_aRule 213 = .ok (.goto 7, 3) := by decide +kernel
theorem dX12_aRule_199 : decode cX12_aRule 199 = .ok (.ldc2_w 142, 3) := by decide +kernel
theorem dX12_aRule_202 : decode cX12_aRule 202 = .ok (.goto 18, 3) := by decide +kernel
theorem dX12_aRule_167 : decode cX12_aRule 167 = .ok (.aload_n 0, 1) := by decide +kernel
theorem dX12_aRule_168 : decode cX12_aRule 168 = .ok (.iconst 5, 1) := by decide +kernel
theorem dX12_aRule_169 : decode cX12_aRule 169 = .ok (.invokevirtual 187, 3) := by decide +kernel
theorem dX12_aRule_172 : decode cX12_aRule 172 = .ok (.ireturn, 1) := by decide +kernel
theorem dX12_aRule_136 : decode cX12_aRule 136 = .ok (.ifCond .ne 16, 3) := by decide +kernel
theorem dX12_aRule_139 : decode cX12_aRule 139 = .ok (.aload_n 0, 1) := by decide +kernel
theorem dX12_aRule_140 : decode cX12_aRule 140 = .ok (.invokevirtual 234, 3) := by decide +kernel
theorem dX12_aRule_143 : decode cX12_aRule 143 = .ok (.ifCond .ne 9, 3) := by decide +kernel
theorem dX12_aRule_146 : decode cX12_aRule 146 = .ok (.aload_n 0, 1) := by decide +kernel
theorem dX12_aRule_147 : decode cX12_aRule 147 = .ok (.iconst 2, 1) := by decide +kernel
theorem dX12_aRule_148 : decode cX12_aRule 148 = .ok (.invokevirtual 187, 3) := by decide +kernel
theorem dX12_aRule_151 : decode cX12_aRule 151 = .ok (.ireturn, 1) := by decide +kernel
theorem dX12_aRule_127 : decode cX12_aRule 127 = .ok (.iconst 1, 1) := by decide +kernel
theorem dX12_aRule_128 : decode cX12_aRule 128 = .ok (.goto 4, 3) := by decide +kernel
theorem dX12_aRule_115 : decode cX12_aRule 115 = .ok (.ifCond .ne 12, 3) := by decide +kernel
theorem dX12_aRule_118 : decode cX12_aRule 118 = .ok (.aload_n 0, 1) := by decide +kernel
theorem dX12_aRule_119 : decode cX12_aRule 119 = .ok (.bipush 63, 2) := by decide +kernel
theorem dX12_aRule_121 : decode cX12_aRule 121 = .ok (.invokevirtual 256, 3) := by decide +kernel
theorem dX12_aRule_124 : decode cX12_aRule 124 = .ok (.ifCond .eq 7, 3) := by decide +kernel
theorem dX12_aRule_131 : decode cX12_aRule 131 = .ok (.iconst 0, 1) := by decide +kernel
theorem dX12_aRule_74 : decode cX12_aRule 74 = .ok (.ifCond .eq 7, 3) := by decide +kernel
theorem dX12_aRule_81 : decode cX12_aRule 81 = .ok (.lconst 0, 1) := by decide +kernel
theorem dX12_aRule_77 : decode cX12_aRule 77 = .ok (.lconst 1, 1) := by decide +kernel
theorem dX12_aRule_78 : decode cX12_aRule 78 = .ok (.goto 4, 3) := by decide +kernel
theorem dX12_aRule_35 : decode cX12_aRule 35 = .ok (.aload_n 0, 1) := by decide +kernel
theorem dX12_aRule_36 : decode cX12_aRule 36 = .ok (.iconst 5, 1) := by decide +kernel
theorem dX12_aRule_37 : decode cX12_aRule 37 = .ok (.invokevirtual 187, 3) := by decide +kernel
theorem dX12_aRule_40 : decode cX12_aRule 40 = .ok (.ireturn, 1) := by decide +kernel
theorem dX12_aRule_23 : decode cX12_aRule 23 = .ok (.aload_n 0, 1) := by decide +kernel
theorem dX12_aRule_24 : decode cX12_aRule 24 = .ok (.iconst 4, 1) := by decide +kernel
theorem dX12_aRule_25 : decode cX12_aRule 25 = .ok (.invokevirtual 187, 3) := by decide +kernel
theorem dX12_aRule_28 : decode cX12_aRule 28 = .ok (.ireturn, 1) := by decide +kernel
def rm_X12_aRule : Room := { frames := 8, cells := 0, slots := 0, locals := 175 }
set_option maxHeartbeats 4000000 in
set_option maxRecDepth 100000 in
theorem s_X12_aRule (l : Launch) (D : va_G) (cy : Nat → ClassId) (L : List Nat) (R O : Nat → Nat) (f0 : Nat → va_E) (a0 : Nat) (m_a0 : a0 ∈ L) (r_a0 : R a0 = 12) (x1 : Int32) (b1 : 0 ≤ x1.toInt ∧ x1.toInt ≤ 1) (GA : Nat) (m_GA : GA ∈ L) (r_GA : R GA = 61) (t_GA : fld f0 a0 0 = .ref GA) (GP : Nat) (m_GP : GP ∈ L) (r_GP : R GP = 69) (t_GP : fld f0 a0 22 = .ref GP) (GL : Nat) (m_GL : GL ∈ L) (r_GL : R GL = 70) (t_GL : fld f0 a0 23 = .ref GL) (GT : Nat) (m_GT : GT ∈ L) (r_GT : R GT = 64) (t_GT : fld f0 a0 6 = .ref GT) (pre0 : RB GA 20760 f0) : ∀ sz, Met l yX12_aRule (Cond.code yX12_aRule cX12_aRule 6 (some .boolean) :: wsL_law) rm_X12_aRule (va_Pc [.ref a0, .int x1] (tPZ D cy L R (TT cy L R) f0 sz)) (va_Qi (fun (r : Int32) f1 => fr L R [(12, 11), (12, 12), (12, 13), (12, 14), (12, 16), (12, 17), (12, 19)] [12, 61] f0 f1 ∧ 0 ≤ r.toInt ∧ r.toInt ≤ 1 ∧ KW (20761) (22252) GA f0 f1 ∧ elj f1 GA 20760 = elj f0 GA 20760 ∧ elj f1 GA 20762 = elj f0 GA 20762 ∧ elj f1 GA 20763 = elj f0 GA 20763 ∧ (r.toInt = 0 ∨ elj f1 GA 20761 = elj f0 GA 20761 + 1) ∧ elj f0 GA 20761 ≤ elj f1 GA 20761 ∧ RB GA 20760 f1) (tB D (tA L sz) L R (TT cy L R)) (tA L sz)) 0 0 (tA L sz) := by
  refine tw_enteri (by decide +kernel) rfl (Nat.le_of_ble_eq_true rfl) ?_
  intro p e s m below meth c A ls args Q F hZ h hl hret
  have hl : lv_has ls 6 [(0, .ref a0), (1, .int x1)] := hl
  have hk : fr L R [(12, 11), (12, 12), (12, 13), (12, 14), (12, 16), (12, 17), (12, 19)] [12, 61] f0 f0 := fr.rf
  have t_a0_gaps := h.bfi m_a0 r_a0 (fun e q => (T_12 e).mp q) (k := 19) rfl
  have hA : KW (20761) (22252) GA f0 f0 := KW.rf
  have hqk0 : elj f0 GA 20760 = elj f0 GA 20760 := rfl
  have hqk1 : elj f0 GA 20761 = elj f0 GA 20761 := rfl
  have hqk2 : elj f0 GA 20762 = elj f0 GA 20762 := rfl
  have hqk3 : elj f0 GA 20763 = elj f0 GA 20763 := rfl
  have hRN := pre0
  refine lv_aload_n F.1 F.2.1 dX12_aRule_0 rfl (lv_at hl 0 rfl) ?_
  refine g_12_7 F h m_a0 r_a0 dX12_aRule_1 (fun o1 m_o1 r_o1 ho1 => ?_)
  obtain rfl := (fld_inj t_GA ho1).symm
  refine tw_sipush F dX12_aRule_4 ks_20761 (fun z2 hz2 => ?_)
  refine le_61 F h m_GA r_GA (by omega) dX12_aRule_7 (fun v3 ev3 hv3a => ?_)
  have hv3b := clP_2.mp (atb hv3a (ac_c (b := 20760) 1 isB_n (by decide) (by omega) rfl))
  have u7 : v3.toInt = elj f0 GA (20761) := by rw [ev3, show z2.toInt.toNat = 20761 by omega]
  refine tw_l2i F dX12_aRule_8 (by omega) (by omega) (fun z4 hz4 => ?_)
  refine lv_istore_n (lv' := [(2, .int z4), (0, .ref a0), (1, .int x1)]) F.1 F.2.1 dX12_aRule_9 rfl hl (by decide) rfl (fun ls hl => ?_)
  refine lv_aload_n F.1 F.2.1 dX12_aRule_10 rfl (lv_at hl 1 rfl) ?_
  refine g_12_7 F h m_a0 r_a0 dX12_aRule_11 (fun o5 m_o5 r_o5 ho5 => ?_)
  obtain rfl := (fld_inj t_GA ho5).symm
  refine tw_sipush F dX12_aRule_14 ks_20760 (fun z6 hz6 => ?_)
  refine ld_61 F h m_GA r_GA (by omega) dX12_aRule_17 (fun v7 hv7a => ?_)
  have hv7b := clP_1.mp (atb hv7a (ac_c (b := 20760) 0 isB_n (by decide) (by omega) rfl))
  refine tu_lconst F dX12_aRule_18 (by decide) (fun z8 (hz8 : z8.toInt = 0) => ?_)
  refine tw_lcmp F dX12_aRule_19 (fun z9 hz9 => ?_)
  refine tw_if_ne (tgt := 29) F dX12_aRule_20 (by decide) (fun b10 => ?_) (fun b10 => ?_)
  · refine lv_iload_n F.1 F.2.1 dX12_aRule_29 rfl (lv_at hl 0 rfl) ?_
    refine tw_bipush F dX12_aRule_30 kb_24 (fun z11 hz11 => ?_)
    refine tw_icmp_ne (tgt := 41) F dX12_aRule_32 (by decide) (fun b12 => ?_) (fun b12 => ?_)
    · have hA2 : KW (20812 + 60 * z4.toInt.toNat) (20872 + 60 * z4.toInt.toNat) GA f0 f0 := KW.rf
      have hn41 : elj f0 GA 20761 = ((z4.toInt.toNat : Nat) : Int) := by omega
      refine tw_sipush F dX12_aRule_41 ks_20812 (fun z13 hz13 => ?_)
      refine tw_bipush F dX12_aRule_44 kb_60 (fun z14 hz14 => ?_)
      refine lv_iload_n F.1 F.2.1 dX12_aRule_46 rfl (lv_at hl 0 rfl) ?_
      refine tu_imull F dX12_aRule_47 hz14 (by omega) (fun z15 hz15 => ?_)
      refine tu_iadd F dX12_aRule_48 (by omega) (fun z16 hz16 => ?_)
      refine lv_istore_n (lv' := [(3, .int z16), (2, .int z4), (0, .ref a0), (1, .int x1)]) F.1 F.2.1 dX12_aRule_49 rfl hl (by decide) rfl (fun ls hl => ?_)
      refine lv_aload_n F.1 F.2.1 dX12_aRule_50 rfl (lv_at hl 2 rfl) ?_
      refine g_12_7 F h m_a0 r_a0 dX12_aRule_51 (fun o17 m_o17 r_o17 ho17 => ?_)
      obtain rfl := (fld_inj t_GA ho17).symm
      refine lv_iload_n F.1 F.2.1 dX12_aRule_54 rfl (lv_at hl 0 rfl) ?_
      refine lv_aload_n F.1 F.2.1 dX12_aRule_55 rfl (lv_at hl 2 rfl) ?_
      refine g_12_7 F h m_a0 r_a0 dX12_aRule_56 (fun o18 m_o18 r_o18 ho18 => ?_)
      obtain rfl := (fld_inj t_GA ho18).symm
      refine tw_sipush F dX12_aRule_59 ks_20760 (fun z19 hz19 => ?_)
      refine ld_61 F h m_GA r_GA (by omega) dX12_aRule_62 (fun v20 hv20a => ?_)
      have hv20b := clP_1.mp (atb hv20a (ac_c (b := 20760) 0 isB_n (by decide) (by omega) rfl))
      refine tu_lconst F dX12_aRule_63 (by decide) (fun z21 (hz21 : z21.toInt = 1) => ?_)
      refine lv_lsub F.1 F.2.1 dX12_aRule_64 ?_
      refine lv_topl (fun z22 _ => ?_)
      refine se_61 F h m_GA r_GA (by omega) (atS (ac_r (b := 20760) 0 isB_n (by omega) rfl) clP_13) dX12_aRule_65 (fun f23 H locs e23a e23b hf23 h => ?_)
      have hA : KW (20761) (22252) GA f0 f23 := hA.st e23a (by omega)
      have hqk0 : elj f23 GA 20760 = elj f0 GA 20760 := by rw [e23a, if_neg (by omega)]; exact hqk0
      have hqk1 : elj f23 GA 20761 = elj f0 GA 20761 := by rw [e23a, if_neg (by omega)]; exact hqk1
      have hqk2 : elj f23 GA 20762 = elj f0 GA 20762 := by rw [e23a, if_neg (by omega)]; exact hqk2
      have hqk3 : elj f23 GA 20763 = elj f0 GA 20763 := by rw [e23a, if_neg (by omega)]; exact hqk3
      have hA2 : KW (20812 + 60 * z4.toInt.toNat) (20872 + 60 * z4.toInt.toNat) GA f0 f23 := hA2.st e23a (by omega)
      have hk : fr L R [(12, 11), (12, 12), (12, 13), (12, 14), (12, 16), (12, 17), (12, 19)] [12, 61] f0 f23 := hk.tr hf23 rfl rfl
      have e24 : fld f23 a0 0 = .ref GA := (hf23.efl m_a0 r_a0 rfl).trans t_GA
      have e25 : fld f23 a0 22 = .ref GP := (hf23.efl m_a0 r_a0 rfl).trans t_GP
      have e26 : fld f23 a0 23 = .ref GL := (hf23.efl m_a0 r_a0 rfl).trans t_GL
      have e27 : fld f23 a0 6 = .ref GT := (hf23.efl m_a0 r_a0 rfl).trans t_GT
      have e28 : fi f23 a0 19 = fi f0 a0 19 := hf23.efi m_a0 r_a0 rfl
      refine lv_aload_n F.1 F.2.1 dX12_aRule_66 rfl (lv_at hl 2 rfl) ?_
      refine g_12_7 F h m_a0 r_a0 dX12_aRule_67 (fun o29 m_o29 r_o29 ho29 => ?_)
      obtain rfl := (fld_inj e24 ho29).symm
      refine lv_iload_n F.1 F.2.1 dX12_aRule_70 rfl (lv_at hl 0 rfl) ?_
      refine tw_iconst F dX12_aRule_71 ki_1 (fun z30 hz30 => ?_)
      refine tu_iadd F dX12_aRule_72 (by omega) (fun z31 hz31 => ?_)
      refine lv_iload_n F.1 F.2.1 dX12_aRule_73 rfl (lv_at hl 3 rfl) ?_
      have j_82 : ∀ (ls : Array Slot) (y0_82 : Int64), 0 ≤ y0_82.toInt → y0_82.toInt ≤ 1 → lv_has ls 6 [(0, .ref a0), (1, .int x1), (3, .int z16)] → W p l e rm_X12_aRule s m args below meth c H locs 0 0 Q (F0 m 82 ls [.long y0_82, .int z31, .ref GA]) := by
        intro ls y0_82 b32 b33 hl
        refine se_61 F h m_GA r_GA (by omega) (atS (ac_r (b := 20760) 1 isB_n (by omega) rfl) clP_0) dX12_aRule_82 (fun f34 H locs e34a e34b hf34 h => ?_)
        have hA : KW (20761) (22252) GA f0 f34 := hA.st e34a (by omega)
        have hqk0 : elj f34 GA 20760 = elj f0 GA 20760 := by rw [e34a, if_neg (by omega)]; exact hqk0
        have hqk1 : elj f34 GA 20761 = elj f0 GA 20761 := by rw [e34a, if_neg (by omega)]; exact hqk1
        have hqk2 : elj f34 GA 20762 = elj f0 GA 20762 := by rw [e34a, if_neg (by omega)]; exact hqk2
        have hqk3 : elj f34 GA 20763 = elj f0 GA 20763 := by rw [e34a, if_neg (by omega)]; exact hqk3
        have hA2 : KW (20812 + 60 * z4.toInt.toNat) (20872 + 60 * z4.toInt.toNat) GA f0 f34 := hA2.st e34a (by omega)
        have hk : fr L R [(12, 11), (12, 12), (12, 13), (12, 14), (12, 16), (12, 17), (12, 19)] [12, 61] f0 f34 := hk.tr hf34 rfl rfl
        have e35 : fld f34 a0 0 = .ref GA := (hf34.efl m_a0 r_a0 rfl).trans e24
        have e36 : fld f34 a0 22 = .ref GP := (hf34.efl m_a0 r_a0 rfl).trans e25
        have e37 : fld f34 a0 23 = .ref GL := (hf34.efl m_a0 r_a0 rfl).trans e26
        have e38 : fld f34 a0 6 = .ref GT := (hf34.efl m_a0 r_a0 rfl).trans e27
        have e39 : fi f34 a0 19 = fi f23 a0 19 := hf34.efi m_a0 r_a0 rfl
        refine lv_aload_n F.1 F.2.1 dX12_aRule_83 rfl (lv_at hl 0 rfl) ?_
        refine g_12_7 F h m_a0 r_a0 dX12_aRule_84 (fun o40 m_o40 r_o40 ho40 => ?_)
        obtain rfl := (fld_inj e35 ho40).symm
        refine lv_iload_n F.1 F.2.1 dX12_aRule_87 rfl (lv_at hl 2 rfl) ?_
        refine tw_iconst F dX12_aRule_88 ki_2 (fun z41 hz41 => ?_)
        refine tu_iadd F dX12_aRule_89 (by omega) (fun z42 hz42 => ?_)
        refine tu_lconst F dX12_aRule_90 (by decide) (fun z43 (hz43 : z43.toInt = 0) => ?_)
        refine se_61 F h m_GA r_GA (by omega) (atP_0 (by omega)) dX12_aRule_91 (fun f44 H locs e44a e44b hf44 h => ?_)
        have hA : KW (20761) (22252) GA f0 f44 := hA.st e44a (by omega)
        have hqk0 : elj f44 GA 20760 = elj f0 GA 20760 := by rw [e44a, if_neg (by omega)]; exact hqk0
        have hqk1 : elj f44 GA 20761 = elj f0 GA 20761 := by rw [e44a, if_neg (by omega)]; exact hqk1
        have hqk2 : elj f44 GA 20762 = elj f0 GA 20762 := by rw [e44a, if_neg (by omega)]; exact hqk2
        have hqk3 : elj f44 GA 20763 = elj f0 GA 20763 := by rw [e44a, if_neg (by omega)]; exact hqk3
        have hA2 : KW (20812 + 60 * z4.toInt.toNat) (20872 + 60 * z4.toInt.toNat) GA f0 f44 := hA2.st e44a (by omega)
        have hk : fr L R [(12, 11), (12, 12), (12, 13), (12, 14), (12, 16), (12, 17), (12, 19)] [12, 61] f0 f44 := hk.tr hf44 rfl rfl
        have e45 : fld f44 a0 0 = .ref GA := (hf44.efl m_a0 r_a0 rfl).trans e35
        have e46 : fld f44 a0 22 = .ref GP := (hf44.efl m_a0 r_a0 rfl).trans e36
        have e47 : fld f44 a0 23 = .ref GL := (hf44.efl m_a0 r_a0 rfl).trans e37
        have e48 : fld f44 a0 6 = .ref GT := (hf44.efl m_a0 r_a0 rfl).trans e38
        have e49 : fi f44 a0 19 = fi f34 a0 19 := hf44.efi m_a0 r_a0 rfl
        have hqki : elj f44 GA (20814 + 60 * z4.toInt.toNat) = z43.toInt := by rw [e44a, if_pos (by omega)]
        refine lv_aload_n F.1 F.2.1 dX12_aRule_92 rfl (lv_at hl 0 rfl) ?_
        refine tw_iconst F dX12_aRule_93 ki_0 (fun z50 hz50 => ?_)
        refine p_12_245 F h m_a0 r_a0 (by omega) dX12_aRule_94 (fun f51 H locs e51p hf51 h => ?_)
        have hA : KW (20761) (22252) GA f0 f51 := hA.fm hf51 m_GA r_GA (by decide +kernel)
        have hqk0 : elj f51 GA 20760 = elj f0 GA 20760 := by rw [hf51.eelj m_GA r_GA (by decide +kernel)]; exact hqk0
        have hqk1 : elj f51 GA 20761 = elj f0 GA 20761 := by rw [hf51.eelj m_GA r_GA (by decide +kernel)]; exact hqk1
        have hqk2 : elj f51 GA 20762 = elj f0 GA 20762 := by rw [hf51.eelj m_GA r_GA (by decide +kernel)]; exact hqk2
        have hqk3 : elj f51 GA 20763 = elj f0 GA 20763 := by rw [hf51.eelj m_GA r_GA (by decide +kernel)]; exact hqk3
        have hA2 : KW (20812 + 60 * z4.toInt.toNat) (20872 + 60 * z4.toInt.toNat) GA f0 f51 := hA2.fm hf51 m_GA r_GA (by decide +kernel)
        have hqki : elj f51 GA (20814 + 60 * z4.toInt.toNat) = z43.toInt := by rw [hf51.eelj m_GA r_GA (by decide +kernel)]; exact hqki
        have hk : fr L R [(12, 11), (12, 12), (12, 13), (12, 14), (12, 16), (12, 17), (12, 19)] [12, 61] f0 f51 := hk.tr hf51 rfl rfl
        have e52 : fld f51 a0 0 = .ref GA := (hf51.efl m_a0 r_a0 rfl).trans e45
        have e53 : fld f51 a0 22 = .ref GP := (hf51.efl m_a0 r_a0 rfl).trans e46
        have e54 : fld f51 a0 23 = .ref GL := (hf51.efl m_a0 r_a0 rfl).trans e47
        have e55 : fld f51 a0 6 = .ref GT := (hf51.efl m_a0 r_a0 rfl).trans e48
        refine lv_aload_n F.1 F.2.1 dX12_aRule_97 rfl (lv_at hl 0 rfl) ?_
        refine tw_Vv (As := []) F hZ h yk_X12_ahead0 mw_468 mw_469 mw_470 (s_X12_ahead0 l D cy L R O f51 a0 m_a0 r_a0) rfl rfl m_a0 r_a0 (fun e q => (T_12 e).mp q) rfl hl.1 rfl (Nat.le_of_ble_eq_true rfl) ⟨Nat.le_of_ble_eq_true rfl, Nat.le_of_ble_eq_true rfl⟩ ⟨Nat.le_of_ble_eq_true rfl, Nat.le_of_ble_eq_true rfl⟩ dX12_aRule_98 (fun f56 H locs hp56 h => ?_)
        obtain ⟨hf56, hv57p0⟩ := hp56
        have hA : KW (20761) (22252) GA f0 f56 := hA.fm hf56 m_GA r_GA (by decide +kernel)
        have hqk0 : elj f56 GA 20760 = elj f0 GA 20760 := by rw [hf56.eelj m_GA r_GA (by decide +kernel)]; exact hqk0
        have hqk1 : elj f56 GA 20761 = elj f0 GA 20761 := by rw [hf56.eelj m_GA r_GA (by decide +kernel)]; exact hqk1
        have hqk2 : elj f56 GA 20762 = elj f0 GA 20762 := by rw [hf56.eelj m_GA r_GA (by decide +kernel)]; exact hqk2
        have hqk3 : elj f56 GA 20763 = elj f0 GA 20763 := by rw [hf56.eelj m_GA r_GA (by decide +kernel)]; exact hqk3
        have hA2 : KW (20812 + 60 * z4.toInt.toNat) (20872 + 60 * z4.toInt.toNat) GA f0 f56 := hA2.fm hf56 m_GA r_GA (by decide +kernel)
        have hqki : elj f56 GA (20814 + 60 * z4.toInt.toNat) = z43.toInt := by rw [hf56.eelj m_GA r_GA (by decide +kernel)]; exact hqki
        have hk : fr L R [(12, 11), (12, 12), (12, 13), (12, 14), (12, 16), (12, 17), (12, 19)] [12, 61] f0 f56 := hk.tr hf56 rfl rfl
        have e58 : fld f56 a0 0 = .ref GA := (hf56.efl m_a0 r_a0 rfl).trans e52
        have e59 : fld f56 a0 22 = .ref GP := (hf56.efl m_a0 r_a0 rfl).trans e53
        have e60 : fld f56 a0 23 = .ref GL := (hf56.efl m_a0 r_a0 rfl).trans e54
        have e61 : fld f56 a0 6 = .ref GT := (hf56.efl m_a0 r_a0 rfl).trans e55
        have e62 : fi f56 a0 19 = fi f51 a0 19 := hf56.efi m_a0 r_a0 rfl
        refine tw_iconst F dX12_aRule_101 ki_1 (fun z63 hz63 => ?_)
        refine lv_istore (lv' := [(4, .int z63), (0, .ref a0), (1, .int x1), (3, .int z16)]) F.1 F.2.1 dX12_aRule_102 hl (by decide) rfl (fun ls hl => ?_)
        have j_104 : ∀ (n104 : Nat) (f64 : Nat → va_E) (H : Heap) (locs : List Loc) (ls : Array Slot) (x4_104 : Int32), 0 ≤ x4_104.toInt → x4_104.toInt ≤ 1 → elj f64 GA (20814 + 60 * z4.toInt.toNat) ≤ 8 → 0 ≤ elj f64 GA (20814 + 60 * z4.toInt.toNat) → fi f64 a0 19 ≤ elj f64 GA (20814 + 60 * z4.toInt.toNat) → 0 ≤ fi f64 a0 19 → ((9 - elj f64 GA (20814 + 60 * z4.toInt.toNat))).toNat < n104 → tS D cy A s.heap L R (TT cy L R) f64 s H locs → KW (20761) (22252) GA f0 f64 → elj f64 GA 20760 = elj f0 GA 20760 → elj f64 GA 20761 = elj f0 GA 20761 → elj f64 GA 20762 = elj f0 GA 20762 → elj f64 GA 20763 = elj f0 GA 20763 → KW (20812 + 60 * z4.toInt.toNat) (20872 + 60 * z4.toInt.toNat) GA f0 f64 → fr L R [(12, 11), (12, 12), (12, 13), (12, 14), (12, 16), (12, 17), (12, 19)] [12, 61] f0 f64 → fr L R [(12, 11), (12, 12), (12, 13), (12, 14), (12, 19)] [12, 61] f56 f64 → lv_has ls 6 [(0, .ref a0), (1, .int x1), (3, .int z16), (4, .int x4_104)] → W p l e rm_X12_aRule s m args below meth c H locs 0 0 Q (F0 m 104 ls []) := by
          intro n104
          induction n104 with
          | zero =>
            intro f64 H locs ls x4_104 b65 b66 b67 b68 b69 b70 b71 h hA hqk0 hqk1 hqk2 hqk3 hA2 hk hb104 hl
            exfalso
            omega
          | succ n104 ih104 =>
            intro f64 H locs ls x4_104 b65 b66 b67 b68 b69 b70 b71 h hA hqk0 hqk1 hqk2 hqk3 hA2 hk hb104 hl
            have e72 : fld f64 a0 0 = .ref GA := (hb104.efl m_a0 r_a0 rfl).trans e58
            have e73 : fld f64 a0 22 = .ref GP := (hb104.efl m_a0 r_a0 rfl).trans e59
            have e74 : fld f64 a0 23 = .ref GL := (hb104.efl m_a0 r_a0 rfl).trans e60
            have e75 : fld f64 a0 6 = .ref GT := (hb104.efl m_a0 r_a0 rfl).trans e61
            refine lv_iload F.1 F.2.1 dX12_aRule_104 (lv_at hl 3 rfl) ?_
            refine tw_if_eq (tgt := 274) F dX12_aRule_106 (by decide) (fun b76 => ?_) (fun b76 => ?_)
            · refine lv_aload_n F.1 F.2.1 dX12_aRule_274 rfl (lv_at hl 0 rfl) ?_
              refine tw_Vv (As := []) F hZ h yk_X12_ahead0 mw_468 mw_469 mw_470 (s_X12_ahead0 l D cy L R O f64 a0 m_a0 r_a0) rfl rfl m_a0 r_a0 (fun e q => (T_12 e).mp q) rfl hl.1 rfl (Nat.le_of_ble_eq_true rfl) ⟨Nat.le_of_ble_eq_true rfl, Nat.le_of_ble_eq_true rfl⟩ ⟨Nat.le_of_ble_eq_true rfl, Nat.le_of_ble_eq_true rfl⟩ dX12_aRule_275 (fun f77 H locs hp77 h => ?_)
              obtain ⟨hf77, hv78p0⟩ := hp77
              have hA : KW (20761) (22252) GA f0 f77 := hA.fm hf77 m_GA r_GA (by decide +kernel)
              have hqk0 : elj f77 GA 20760 = elj f0 GA 20760 := by rw [hf77.eelj m_GA r_GA (by decide +kernel)]; exact hqk0
              have hqk1 : elj f77 GA 20761 = elj f0 GA 20761 := by rw [hf77.eelj m_GA r_GA (by decide +kernel)]; exact hqk1
              have hqk2 : elj f77 GA 20762 = elj f0 GA 20762 := by rw [hf77.eelj m_GA r_GA (by decide +kernel)]; exact hqk2
              have hqk3 : elj f77 GA 20763 = elj f0 GA 20763 := by rw [hf77.eelj m_GA r_GA (by decide +kernel)]; exact hqk3
              have hA2 : KW (20812 + 60 * z4.toInt.toNat) (20872 + 60 * z4.toInt.toNat) GA f0 f77 := hA2.fm hf77 m_GA r_GA (by decide +kernel)
              have hk : fr L R [(12, 11), (12, 12), (12, 13), (12, 14), (12, 16), (12, 17), (12, 19)] [12, 61] f0 f77 := hk.tr hf77 rfl rfl
              have hb104 : fr L R [(12, 11), (12, 12), (12, 13), (12, 14), (12, 19)] [12, 61] f56 f77 := hb104.tr hf77 rfl rfl
              have e79 : fld f77 a0 0 = .ref GA := (hf77.efl m_a0 r_a0 rfl).trans e72
              have e80 : fld f77 a0 22 = .ref GP := (hf77.efl m_a0 r_a0 rfl).trans e73
              have e81 : fld f77 a0 23 = .ref GL := (hf77.efl m_a0 r_a0 rfl).trans e74
              have e82 : fld f77 a0 6 = .ref GT := (hf77.efl m_a0 r_a0 rfl).trans e75
              have e83 : fi f77 a0 19 = fi f64 a0 19 := hf77.efi m_a0 r_a0 rfl
              have hT : TW L R a0 f77 := hv78p0
              refine lv_aload_n F.1 F.2.1 dX12_aRule_278 rfl (lv_at hl 0 rfl) ?_
              refine lv_iload_n F.1 F.2.1 dX12_aRule_279 rfl (lv_at hl 2 rfl) ?_
              refine tw_bipush F dX12_aRule_280 kb_11 (fun z84 hz84 => ?_)
              refine tu_iadd F dX12_aRule_282 (by omega) (fun z85 hz85 => ?_)
              refine lv_iload_n F.1 F.2.1 dX12_aRule_283 rfl (lv_at hl 1 rfl) ?_
              have j_292 : ∀ (ls : Array Slot) (y0_292 : Int32), 0 ≤ y0_292.toInt → y0_292.toInt ≤ 1 → lv_has ls 6 [(0, .ref a0)] → W p l e rm_X12_aRule s m args below meth c H locs 0 0 Q (F0 m 292 ls [.int y0_292, .int z85, .ref a0]) := by
                intro ls y0_292 b86 b87 hl
                refine tw_Vi (As := [.int z85, .int y0_292]) F hZ h yk_X12_answers mw_727 mw_728 mw_729 (s_X12_answers l D cy L R O f77 a0 m_a0 r_a0 z85 ⟨by omega, by omega⟩ y0_292 ⟨by omega, by omega⟩ GA m_GA r_GA e79 GP m_GP r_GP e80 GL m_GL r_GL e81 GT m_GT r_GT e82 (AS_r (b := 20760) isB_n (by omega)) hT) rfl rfl m_a0 r_a0 (fun e q => (T_12 e).mp q) rfl hl.1 rfl (Nat.le_of_ble_eq_true rfl) ⟨Nat.le_of_ble_eq_true rfl, Nat.le_of_ble_eq_true rfl⟩ ⟨Nat.le_of_ble_eq_true rfl, Nat.le_of_ble_eq_true rfl⟩ dX12_aRule_292 (fun v89 f88 H locs hp88 h => ?_)
                obtain ⟨hf88, hv89a, hv89b, hv89p0, hv89p1⟩ := hp88
                have hA : KW (20761) (22252) GA f0 f88 := hA.sub hv89p0 (by omega) (by omega)
                have hqk0 : elj f88 GA 20760 = elj f0 GA 20760 := by rw [hv89p0 _ (by omega)]; exact hqk0
                have hqk1 : elj f88 GA 20761 = elj f0 GA 20761 := by rw [hv89p0 _ (by omega)]; exact hqk1
                have hqk2 : elj f88 GA 20762 = elj f0 GA 20762 := by rw [hv89p0 _ (by omega)]; exact hqk2
                have hqk3 : elj f88 GA 20763 = elj f0 GA 20763 := by rw [hv89p0 _ (by omega)]; exact hqk3
                have hA2 : KW (20812 + 60 * z4.toInt.toNat) (20872 + 60 * z4.toInt.toNat) GA f0 f88 := hA2.sub hv89p0 (by omega) (by omega)
                have hk : fr L R [(12, 11), (12, 12), (12, 13), (12, 14), (12, 16), (12, 17), (12, 19)] [12, 61] f0 f88 := hk.tr hf88 rfl rfl
                have e90 : fld f88 a0 0 = .ref GA := (hf88.efl m_a0 r_a0 rfl).trans e79
                have e91 : fld f88 a0 22 = .ref GP := (hf88.efl m_a0 r_a0 rfl).trans e80
                have e92 : fld f88 a0 23 = .ref GL := (hf88.efl m_a0 r_a0 rfl).trans e81
                have e93 : fld f88 a0 6 = .ref GT := (hf88.efl m_a0 r_a0 rfl).trans e82
                have e94 : fi f88 a0 19 = fi f77 a0 19 := hf88.efi m_a0 r_a0 rfl
                have ha292 : 1 ≤ elj f88 GA (20823 + 60 * z4.toInt.toNat) := by have q := hv89p1; rw [show z85.toInt.toNat = 20823 + 60 * z4.toInt.toNat by omega] at q; exact q
                refine tw_if_ne (tgt := 300) F dX12_aRule_295 (by decide) (fun b95 => ?_) (fun b95 => ?_)
                · refine lv_aload_n F.1 F.2.1 dX12_aRule_300 rfl (lv_at hl 0 rfl) ?_
                  refine g_12_7 F h m_a0 r_a0 dX12_aRule_301 (fun o96 m_o96 r_o96 ho96 => ?_)
                  obtain rfl := (fld_inj e90 ho96).symm
                  refine tw_sipush F dX12_aRule_304 ks_20761 (fun z97 hz97 => ?_)
                  refine lv_dup2_11 F.1 F.2.1 dX12_aRule_307 rfl rfl ?_
                  refine le_61 F h m_GA r_GA (by omega) dX12_aRule_308 (fun v98 ev98 hv98a => ?_)
                  have hv98b := clP_2.mp (atb hv98a (ac_c (b := 20760) 1 isB_n (by decide) (by omega) rfl))
                  have u308 : v98.toInt = elj f88 GA (20761) := by rw [ev98, show z97.toInt.toNat = 20761 by omega]
                  refine tu_lconst F dX12_aRule_309 (by decide) (fun z99 (hz99 : z99.toInt = 1) => ?_)
                  refine tu_ladd F dX12_aRule_310 (by omega) (fun z100 hz100 => ?_)
                  refine se_61 F h m_GA r_GA (by omega) (atS (ac_c (b := 20760) 1 isB_n (by decide) (by omega) rfl) (clP_2.mpr (by omega))) dX12_aRule_311 (fun f101 H locs e101a e101b hf101 h => ?_)
                  have hA : KW (20761) (22252) GA f0 f101 := hA.st e101a (by omega)
                  have hqk0 : elj f101 GA 20760 = elj f0 GA 20760 := by rw [e101a, if_neg (by omega)]; exact hqk0
                  have hqk2 : elj f101 GA 20762 = elj f0 GA 20762 := by rw [e101a, if_neg (by omega)]; exact hqk2
                  have hqk3 : elj f101 GA 20763 = elj f0 GA 20763 := by rw [e101a, if_neg (by omega)]; exact hqk3
                  have hk : fr L R [(12, 11), (12, 12), (12, 13), (12, 14), (12, 16), (12, 17), (12, 19)] [12, 61] f0 f101 := hk.tr hf101 rfl rfl
                  have e102 : fld f101 a0 0 = .ref GA := (hf101.efl m_a0 r_a0 rfl).trans e90
                  have e103 : fld f101 a0 22 = .ref GP := (hf101.efl m_a0 r_a0 rfl).trans e91
                  have e104 : fld f101 a0 23 = .ref GL := (hf101.efl m_a0 r_a0 rfl).trans e92
                  have e105 : fld f101 a0 6 = .ref GT := (hf101.efl m_a0 r_a0 rfl).trans e93
                  have e106 : fi f101 a0 19 = fi f88 a0 19 := hf101.efi m_a0 r_a0 rfl
                  have hRN : RB GA 20760 f101 := RB_rule pre0 hA2 hn41 (by omega) ha292 e101a (by omega) (by omega)
                  have hqk1 : elj f101 GA 20761 = elj f0 GA 20761 + 1 := by rw [e101a, if_pos (by omega)]; omega
                  refine tw_iconst F dX12_aRule_312 ki_1 (fun z107 hz107 => ?_)
                  exact hret f101 _ _ _ _ z107 dX12_aRule_313 (tw_nb (by omega)) ⟨hk, by omega, by omega, hA, hqk0, hqk2, hqk3, by omega, by omega, hRN⟩ h
                · refine tw_iconst F dX12_aRule_298 ki_0 (fun z108 hz108 => ?_)
                  exact hret f88 _ _ _ _ z108 dX12_aRule_299 (tw_nb (by omega)) ⟨hk, by omega, by omega, hA, hqk0, hqk2, hqk3, by omega, by omega, RB_row pre0 hA2 hn41 (by omega)⟩ h
              refine tw_if_ne (tgt := 291) F dX12_aRule_284 (by decide) (fun b109 => ?_) (fun b109 => ?_)
              · refine tw_iconst F dX12_aRule_291 ki_0 (fun z110 hz110 => ?_)
                exact j_292 _ z110 (by omega) (by omega) (lv_sub hl [0] rfl)
              · refine tw_iconst F dX12_aRule_287 ki_1 (fun z111 hz111 => ?_)
                refine lv_goto (tgt := 292) F.1 F.2.1 dX12_aRule_288 (by decide) ?_
                exact j_292 _ z111 (by omega) (by omega) (lv_sub hl [0] rfl)
            · refine lv_aload_n F.1 F.2.1 dX12_aRule_109 rfl (lv_at hl 0 rfl) ?_
              refine tw_bipush F dX12_aRule_110 kb_42 (fun z112 hz112 => ?_)
              refine tw_Vi (As := [.int z112]) F hZ h yk_X12_isSign mw_723 mw_724 mw_725 (s_X12_isSign l D cy L R O f64 a0 m_a0 r_a0 z112 ⟨by omega, by omega⟩) rfl rfl m_a0 r_a0 (fun e q => (T_12 e).mp q) rfl hl.1 rfl (Nat.le_of_ble_eq_true rfl) ⟨Nat.le_of_ble_eq_true rfl, Nat.le_of_ble_eq_true rfl⟩ ⟨Nat.le_of_ble_eq_true rfl, Nat.le_of_ble_eq_true rfl⟩ dX12_aRule_112 (fun v114 f113 H locs hp113 h => ?_)
              obtain ⟨rfl, hv114a, hv114b⟩ := hp113
              have j_132 : ∀ (H : Heap) (locs : List Loc) (ls : Array Slot) (y0_132 : Int32), 0 ≤ y0_132.toInt → y0_132.toInt ≤ 1 → tS D cy A s.heap L R (TT cy L R) f64 s H locs → lv_has ls 6 [(0, .ref a0), (1, .int x1), (3, .int z16)] → W p l e rm_X12_aRule s m args below meth c H locs 0 0 Q (F0 m 132 ls [.int y0_132]) := by
                intro H locs ls y0_132 b115 b116 h hl
                refine lv_istore (lv' := [(5, .int y0_132), (0, .ref a0), (1, .int x1), (3, .int z16)]) F.1 F.2.1 dX12_aRule_132 hl (by decide) rfl (fun ls hl => ?_)
                refine lv_iload F.1 F.2.1 dX12_aRule_134 (lv_at hl 0 rfl) ?_
                have j_152 : ∀ (H : Heap) (locs : List Loc) (ls : Array Slot), tS D cy A s.heap L R (TT cy L R) f64 s H locs → lv_has ls 6 [(0, .ref a0), (1, .int x1), (3, .int z16), (5, .int y0_132)] → W p l e rm_X12_aRule s m args below meth c H locs 0 0 Q (F0 m 152 ls []) := by
                  intro H locs ls h hl
                  refine lv_aload_n F.1 F.2.1 dX12_aRule_152 rfl (lv_at hl 0 rfl) ?_
                  refine g_12_7 F h m_a0 r_a0 dX12_aRule_153 (fun o117 m_o117 r_o117 ho117 => ?_)
                  obtain rfl := (fld_inj e72 ho117).symm
                  refine lv_iload_n F.1 F.2.1 dX12_aRule_156 rfl (lv_at hl 2 rfl) ?_
                  refine tw_iconst F dX12_aRule_157 ki_2 (fun z118 hz118 => ?_)
                  refine tu_iadd F dX12_aRule_158 (by omega) (fun z119 hz119 => ?_)
                  refine le_61 F h m_GA r_GA (by omega) dX12_aRule_159 (fun v120 ev120 hv120a => ?_)
                  have hv120b := clP_4.mp (atb hv120a (ac_r (b := 20760) 2 isB_n (by omega) rfl))
                  have u159 : v120.toInt = elj f64 GA (20814 + 60 * z4.toInt.toNat) := by rw [ev120, show z119.toInt.toNat = 20814 + 60 * z4.toInt.toNat by omega]
                  refine tu_ldc2 F mw_721 dX12_aRule_160 kl_8 (fun z121 hz121 => ?_)
                  refine tw_lcmp F dX12_aRule_163 (fun z122 hz122 => ?_)
                  refine tw_if_ne (tgt := 173) F dX12_aRule_164 (by decide) (fun b123 => ?_) (fun b123 => ?_)
                  · refine lv_aload_n F.1 F.2.1 dX12_aRule_173 rfl (lv_at hl 0 rfl) ?_
                    refine g_12_7 F h m_a0 r_a0 dX12_aRule_174 (fun o124 m_o124 r_o124 ho124 => ?_)
                    obtain rfl := (fld_inj e72 ho124).symm
                    refine lv_iload_n F.1 F.2.1 dX12_aRule_177 rfl (lv_at hl 2 rfl) ?_
                    refine tw_iconst F dX12_aRule_178 ki_3 (fun z125 hz125 => ?_)
                    refine tu_iadd F dX12_aRule_179 (by omega) (fun z126 hz126 => ?_)
                    refine lv_aload_n F.1 F.2.1 dX12_aRule_180 rfl (lv_at hl 0 rfl) ?_
                    refine g_12_7 F h m_a0 r_a0 dX12_aRule_181 (fun o127 m_o127 r_o127 ho127 => ?_)
                    obtain rfl := (fld_inj e72 ho127).symm
                    refine lv_iload_n F.1 F.2.1 dX12_aRule_184 rfl (lv_at hl 2 rfl) ?_
                    refine tw_iconst F dX12_aRule_185 ki_2 (fun z128 hz128 => ?_)
                    refine tu_iadd F dX12_aRule_186 (by omega) (fun z129 hz129 => ?_)
                    refine le_61 F h m_GA r_GA (by omega) dX12_aRule_187 (fun v130 ev130 hv130a => ?_)
                    have hv130b := clP_4.mp (atb hv130a (ac_r (b := 20760) 2 isB_n (by omega) rfl))
                    have u187 : v130.toInt = elj f64 GA (20814 + 60 * z4.toInt.toNat) := by rw [ev130, show z129.toInt.toNat = 20814 + 60 * z4.toInt.toNat by omega]
                    have hqkc : elj f64 GA (20814 + 60 * z4.toInt.toNat) = v130.toInt := u187.symm
                    refine tw_l2i F dX12_aRule_188 (by omega) (by omega) (fun z131 hz131 => ?_)
                    refine tu_iadd F dX12_aRule_189 (by omega) (fun z132 hz132 => ?_)
                    refine lv_aload_n F.1 F.2.1 dX12_aRule_190 rfl (lv_at hl 0 rfl) ?_
                    refine tw_bipush F dX12_aRule_191 kb_42 (fun z133 hz133 => ?_)
                    refine tw_Vi (As := [.int z133]) F hZ h yk_X12_isSign mw_723 mw_724 mw_725 (s_X12_isSign l D cy L R O f64 a0 m_a0 r_a0 z133 ⟨by omega, by omega⟩) rfl rfl m_a0 r_a0 (fun e q => (T_12 e).mp q) rfl hl.1 rfl (Nat.le_of_ble_eq_true rfl) ⟨Nat.le_of_ble_eq_true rfl, Nat.le_of_ble_eq_true rfl⟩ ⟨Nat.le_of_ble_eq_true rfl, Nat.le_of_ble_eq_true rfl⟩ dX12_aRule_193 (fun v135 f134 H locs hp134 h => ?_)
                    obtain ⟨rfl, hv135a, hv135b⟩ := hp134
                    have j_220 : ∀ (H : Heap) (locs : List Loc) (ls : Array Slot) (y0_220 : Int64), tS D cy A s.heap L R (TT cy L R) f64 s H locs → lv_has ls 6 [(0, .ref a0), (1, .int x1), (3, .int z16), (5, .int y0_132)] → W p l e rm_X12_aRule s m args below meth c H locs 0 0 Q (F0 m 220 ls [.long y0_220, .int z132, .ref GA]) := by
                      intro H locs ls y0_220 h hl
                      refine se_61 F h m_GA r_GA (by omega) (atS (ac_i (b := 20760) isB_n (by omega)) clP_0) dX12_aRule_220 (fun f136 H locs e136a e136b hf136 h => ?_)
                      have hA : KW (20761) (22252) GA f0 f136 := hA.st e136a (by omega)
                      have hqk0 : elj f136 GA 20760 = elj f0 GA 20760 := by rw [e136a, if_neg (by omega)]; exact hqk0
                      have hqk1 : elj f136 GA 20761 = elj f0 GA 20761 := by rw [e136a, if_neg (by omega)]; exact hqk1
                      have hqk2 : elj f136 GA 20762 = elj f0 GA 20762 := by rw [e136a, if_neg (by omega)]; exact hqk2
                      have hqk3 : elj f136 GA 20763 = elj f0 GA 20763 := by rw [e136a, if_neg (by omega)]; exact hqk3
                      have hA2 : KW (20812 + 60 * z4.toInt.toNat) (20872 + 60 * z4.toInt.toNat) GA f0 f136 := hA2.st e136a (by omega)
                      have hqkc : elj f136 GA (20814 + 60 * z4.toInt.toNat) = v130.toInt := by rw [e136a, if_neg (by omega)]; exact hqkc
                      have hk : fr L R [(12, 11), (12, 12), (12, 13), (12, 14), (12, 16), (12, 17), (12, 19)] [12, 61] f0 f136 := hk.tr hf136 rfl rfl
                      have hb104 : fr L R [(12, 11), (12, 12), (12, 13), (12, 14), (12, 19)] [12, 61] f56 f136 := hb104.tr hf136 rfl rfl
                      have e137 : fld f136 a0 0 = .ref GA := (hf136.efl m_a0 r_a0 rfl).trans e72
                      have e138 : fld f136 a0 22 = .ref GP := (hf136.efl m_a0 r_a0 rfl).trans e73
                      have e139 : fld f136 a0 23 = .ref GL := (hf136.efl m_a0 r_a0 rfl).trans e74
                      have e140 : fld f136 a0 6 = .ref GT := (hf136.efl m_a0 r_a0 rfl).trans e75
                      have e141 : fi f136 a0 19 = fi f64 a0 19 := hf136.efi m_a0 r_a0 rfl
                      refine lv_aload_n F.1 F.2.1 dX12_aRule_221 rfl (lv_at hl 0 rfl) ?_
                      refine g_12_7 F h m_a0 r_a0 dX12_aRule_222 (fun o142 m_o142 r_o142 ho142 => ?_)
                      obtain rfl := (fld_inj e137 ho142).symm
                      refine lv_iload_n F.1 F.2.1 dX12_aRule_225 rfl (lv_at hl 2 rfl) ?_
                      refine tw_iconst F dX12_aRule_226 ki_2 (fun z143 hz143 => ?_)
                      refine tu_iadd F dX12_aRule_227 (by omega) (fun z144 hz144 => ?_)
                      refine lv_dup2_11 F.1 F.2.1 dX12_aRule_228 rfl rfl ?_
                      refine le_61 F h m_GA r_GA (by omega) dX12_aRule_229 (fun v145 ev145 hv145a => ?_)
                      have hv145b := clP_4.mp (atb hv145a (ac_r (b := 20760) 2 isB_n (by omega) rfl))
                      have u229 : v145.toInt = elj f136 GA (20814 + 60 * z4.toInt.toNat) := by rw [ev145, show z144.toInt.toNat = 20814 + 60 * z4.toInt.toNat by omega]
                      refine tu_lconst F dX12_aRule_230 (by decide) (fun z146 (hz146 : z146.toInt = 1) => ?_)
                      refine tu_ladd F dX12_aRule_231 (by omega) (fun z147 hz147 => ?_)
                      refine se_61 F h m_GA r_GA (by omega) (atS (ac_r (b := 20760) 2 isB_n (by omega) rfl) (clP_4.mpr (by omega))) dX12_aRule_232 (fun f148 H locs e148a e148b hf148 h => ?_)
                      have hA : KW (20761) (22252) GA f0 f148 := hA.st e148a (by omega)
                      have hqk0 : elj f148 GA 20760 = elj f0 GA 20760 := by rw [e148a, if_neg (by omega)]; exact hqk0
                      have hqk1 : elj f148 GA 20761 = elj f0 GA 20761 := by rw [e148a, if_neg (by omega)]; exact hqk1
                      have hqk2 : elj f148 GA 20762 = elj f0 GA 20762 := by rw [e148a, if_neg (by omega)]; exact hqk2
                      have hqk3 : elj f148 GA 20763 = elj f0 GA 20763 := by rw [e148a, if_neg (by omega)]; exact hqk3
                      have hA2 : KW (20812 + 60 * z4.toInt.toNat) (20872 + 60 * z4.toInt.toNat) GA f0 f148 := hA2.st e148a (by omega)
                      have hk : fr L R [(12, 11), (12, 12), (12, 13), (12, 14), (12, 16), (12, 17), (12, 19)] [12, 61] f0 f148 := hk.tr hf148 rfl rfl
                      have hb104 : fr L R [(12, 11), (12, 12), (12, 13), (12, 14), (12, 19)] [12, 61] f56 f148 := hb104.tr hf148 rfl rfl
                      have e149 : fld f148 a0 0 = .ref GA := (hf148.efl m_a0 r_a0 rfl).trans e137
                      have e150 : fld f148 a0 22 = .ref GP := (hf148.efl m_a0 r_a0 rfl).trans e138
                      have e151 : fld f148 a0 23 = .ref GL := (hf148.efl m_a0 r_a0 rfl).trans e139
                      have e152 : fld f148 a0 6 = .ref GT := (hf148.efl m_a0 r_a0 rfl).trans e140
                      have e153 : fi f148 a0 19 = fi f136 a0 19 := hf148.efi m_a0 r_a0 rfl
                      have hqkn : elj f148 GA (20814 + 60 * z4.toInt.toNat) = z147.toInt := by rw [e148a, if_pos (by omega)]
                      refine lv_aload_n F.1 F.2.1 dX12_aRule_233 rfl (lv_at hl 0 rfl) ?_
                      refine lv_dup F.1 F.2.1 dX12_aRule_234 rfl ?_
                      refine g_12_245 F h m_a0 r_a0 dX12_aRule_235 (fun v154 hv154 hv154a hv154b => ?_)
                      refine lv_iload F.1 F.2.1 dX12_aRule_238 (lv_at hl 3 rfl) ?_
                      have j_248 : ∀ (ls : Array Slot) (y0_248 : Int32), 0 ≤ y0_248.toInt → y0_248.toInt ≤ 1 → lv_has ls 6 [(0, .ref a0), (1, .int x1), (3, .int z16)] → W p l e rm_X12_aRule s m args below meth c H locs 0 0 Q (F0 m 248 ls [.int y0_248, .int v154, .ref a0]) := by
                        intro ls y0_248 b155 b156 hl
                        refine tu_iadd F dX12_aRule_248 (by omega) (fun z157 hz157 => ?_)
                        refine p_12_245 F h m_a0 r_a0 (by omega) dX12_aRule_249 (fun f158 H locs e158p hf158 h => ?_)
                        have hA : KW (20761) (22252) GA f0 f158 := hA.fm hf158 m_GA r_GA (by decide +kernel)
                        have hqk0 : elj f158 GA 20760 = elj f0 GA 20760 := by rw [hf158.eelj m_GA r_GA (by decide +kernel)]; exact hqk0
                        have hqk1 : elj f158 GA 20761 = elj f0 GA 20761 := by rw [hf158.eelj m_GA r_GA (by decide +kernel)]; exact hqk1
                        have hqk2 : elj f158 GA 20762 = elj f0 GA 20762 := by rw [hf158.eelj m_GA r_GA (by decide +kernel)]; exact hqk2
                        have hqk3 : elj f158 GA 20763 = elj f0 GA 20763 := by rw [hf158.eelj m_GA r_GA (by decide +kernel)]; exact hqk3
                        have hA2 : KW (20812 + 60 * z4.toInt.toNat) (20872 + 60 * z4.toInt.toNat) GA f0 f158 := hA2.fm hf158 m_GA r_GA (by decide +kernel)
                        have hqkn : elj f158 GA (20814 + 60 * z4.toInt.toNat) = z147.toInt := by rw [hf158.eelj m_GA r_GA (by decide +kernel)]; exact hqkn
                        have hk : fr L R [(12, 11), (12, 12), (12, 13), (12, 14), (12, 16), (12, 17), (12, 19)] [12, 61] f0 f158 := hk.tr hf158 rfl rfl
                        have hb104 : fr L R [(12, 11), (12, 12), (12, 13), (12, 14), (12, 19)] [12, 61] f56 f158 := hb104.tr hf158 rfl rfl
                        have e159 : fld f158 a0 0 = .ref GA := (hf158.efl m_a0 r_a0 rfl).trans e149
                        have e160 : fld f158 a0 22 = .ref GP := (hf158.efl m_a0 r_a0 rfl).trans e150
                        have e161 : fld f158 a0 23 = .ref GL := (hf158.efl m_a0 r_a0 rfl).trans e151
                        have e162 : fld f158 a0 6 = .ref GT := (hf158.efl m_a0 r_a0 rfl).trans e152
                        refine lv_aload_n F.1 F.2.1 dX12_aRule_252 rfl (lv_at hl 0 rfl) ?_
                        refine tw_Vv (As := []) F hZ h yk_X12_ahead0 mw_468 mw_469 mw_470 (s_X12_ahead0 l D cy L R O f158 a0 m_a0 r_a0) rfl rfl m_a0 r_a0 (fun e q => (T_12 e).mp q) rfl hl.1 rfl (Nat.le_of_ble_eq_true rfl) ⟨Nat.le_of_ble_eq_true rfl, Nat.le_of_ble_eq_true rfl⟩ ⟨Nat.le_of_ble_eq_true rfl, Nat.le_of_ble_eq_true rfl⟩ dX12_aRule_253 (fun f163 H locs hp163 h => ?_)
                        obtain ⟨hf163, hv164p0⟩ := hp163
                        have hA : KW (20761) (22252) GA f0 f163 := hA.fm hf163 m_GA r_GA (by decide +kernel)
                        have hqk0 : elj f163 GA 20760 = elj f0 GA 20760 := by rw [hf163.eelj m_GA r_GA (by decide +kernel)]; exact hqk0
                        have hqk1 : elj f163 GA 20761 = elj f0 GA 20761 := by rw [hf163.eelj m_GA r_GA (by decide +kernel)]; exact hqk1
                        have hqk2 : elj f163 GA 20762 = elj f0 GA 20762 := by rw [hf163.eelj m_GA r_GA (by decide +kernel)]; exact hqk2
                        have hqk3 : elj f163 GA 20763 = elj f0 GA 20763 := by rw [hf163.eelj m_GA r_GA (by decide +kernel)]; exact hqk3
                        have hA2 : KW (20812 + 60 * z4.toInt.toNat) (20872 + 60 * z4.toInt.toNat) GA f0 f163 := hA2.fm hf163 m_GA r_GA (by decide +kernel)
                        have hqkn : elj f163 GA (20814 + 60 * z4.toInt.toNat) = z147.toInt := by rw [hf163.eelj m_GA r_GA (by decide +kernel)]; exact hqkn
                        have hk : fr L R [(12, 11), (12, 12), (12, 13), (12, 14), (12, 16), (12, 17), (12, 19)] [12, 61] f0 f163 := hk.tr hf163 rfl rfl
                        have hb104 : fr L R [(12, 11), (12, 12), (12, 13), (12, 14), (12, 19)] [12, 61] f56 f163 := hb104.tr hf163 rfl rfl
                        have e165 : fld f163 a0 0 = .ref GA := (hf163.efl m_a0 r_a0 rfl).trans e159
                        have e166 : fld f163 a0 22 = .ref GP := (hf163.efl m_a0 r_a0 rfl).trans e160
                        have e167 : fld f163 a0 23 = .ref GL := (hf163.efl m_a0 r_a0 rfl).trans e161
                        have e168 : fld f163 a0 6 = .ref GT := (hf163.efl m_a0 r_a0 rfl).trans e162
                        have e169 : fi f163 a0 19 = fi f158 a0 19 := hf163.efi m_a0 r_a0 rfl
                        refine lv_aload_n F.1 F.2.1 dX12_aRule_256 rfl (lv_at hl 0 rfl) ?_
                        refine tw_Vi (As := []) F hZ h yk_X12_keyWord mw_643 mw_644 mw_645 (s_X12_keyWord l D cy L R O f163 a0 m_a0 r_a0) rfl rfl m_a0 r_a0 (fun e q => (T_12 e).mp q) rfl hl.1 rfl (Nat.le_of_ble_eq_true rfl) ⟨Nat.le_of_ble_eq_true rfl, Nat.le_of_ble_eq_true rfl⟩ ⟨Nat.le_of_ble_eq_true rfl, Nat.le_of_ble_eq_true rfl⟩ dX12_aRule_257 (fun v171 f170 H locs hp170 h => ?_)
                        obtain rfl := hp170
                        refine tw_iconst F dX12_aRule_260 ki_4 (fun z172 hz172 => ?_)
                        have j_269 : ∀ (ls : Array Slot) (y0_269 : Int32), 0 ≤ y0_269.toInt → y0_269.toInt ≤ 1 → lv_has ls 6 [(0, .ref a0), (1, .int x1), (3, .int z16)] → W p l e rm_X12_aRule s m args below meth c H locs 0 0 Q (F0 m 269 ls [.int y0_269]) := by
                          intro ls y0_269 b173 b174 hl
                          refine lv_istore (lv' := [(4, .int y0_269), (0, .ref a0), (1, .int x1), (3, .int z16)]) F.1 F.2.1 dX12_aRule_269 hl (by decide) rfl (fun ls hl => ?_)
                          refine lv_goto (tgt := 104) F.1 F.2.1 dX12_aRule_271 (by decide) ?_
                          exact ih104 f163 _ _ _ y0_269 (by omega) (by omega) (by omega) (by omega) (by omega) (by omega) (by omega) h hA hqk0 hqk1 hqk2 hqk3 hA2 hk hb104 (lv_sub hl [1, 2, 3, 0] rfl)
                        refine tw_icmp_eq (tgt := 268) F dX12_aRule_261 (by decide) (fun b175 => ?_) (fun b175 => ?_)
                        · refine tw_iconst F dX12_aRule_268 ki_0 (fun z176 hz176 => ?_)
                          exact j_269 _ z176 (by omega) (by omega) (lv_sub hl [0, 1, 2] rfl)
                        · refine tw_iconst F dX12_aRule_264 ki_1 (fun z177 hz177 => ?_)
                          refine lv_goto (tgt := 269) F.1 F.2.1 dX12_aRule_265 (by decide) ?_
                          exact j_269 _ z177 (by omega) (by omega) (lv_sub hl [0, 1, 2] rfl)
                      refine tw_if_eq (tgt := 247) F dX12_aRule_240 (by decide) (fun b178 => ?_) (fun b178 => ?_)
                      · refine tw_iconst F dX12_aRule_247 ki_0 (fun z179 hz179 => ?_)
                        exact j_248 _ z179 (by omega) (by omega) (lv_sub hl [0, 1, 2] rfl)
                      · refine tw_iconst F dX12_aRule_243 ki_1 (fun z180 hz180 => ?_)
                        refine lv_goto (tgt := 248) F.1 F.2.1 dX12_aRule_244 (by decide) ?_
                        exact j_248 _ z180 (by omega) (by omega) (lv_sub hl [0, 1, 2] rfl)
                    refine tw_if_eq (tgt := 205) F dX12_aRule_196 (by decide) (fun b181 => ?_) (fun b181 => ?_)
                    · refine lv_iload F.1 F.2.1 dX12_aRule_205 (lv_at hl 3 rfl) ?_
                      refine tw_if_eq (tgt := 216) F dX12_aRule_207 (by decide) (fun b182 => ?_) (fun b182 => ?_)
                      · refine lv_aload_n F.1 F.2.1 dX12_aRule_216 rfl (lv_at hl 0 rfl) ?_
                        refine tw_Vl (As := []) F hZ h yk_X12_wordHere mw_491 mw_492 mw_493 (s_X12_wordHere l D cy L R O f64 a0 m_a0 r_a0) rfl rfl m_a0 r_a0 (fun e q => (T_12 e).mp q) rfl hl.1 rfl (Nat.le_of_ble_eq_true rfl) ⟨Nat.le_of_ble_eq_true rfl, Nat.le_of_ble_eq_true rfl⟩ ⟨Nat.le_of_ble_eq_true rfl, Nat.le_of_ble_eq_true rfl⟩ dX12_aRule_217 (fun v184 f183 H locs hp183 h => ?_)
                        obtain rfl := hp183
                        exact j_220 _ _ _ v184 h (lv_sub hl [0, 1, 2, 3] rfl)
                      · refine tu_ldc2 F mw_722 dX12_aRule_210 kl_m2 (fun z185 hz185 => ?_)
                        refine lv_goto (tgt := 220) F.1 F.2.1 dX12_aRule_213 (by decide) ?_
                        exact j_220 _ _ _ z185 h (lv_sub hl [0, 1, 2, 3] rfl)
                    · refine tu_ldc2 F mw_340 dX12_aRule_199 kl_m1 (fun z186 hz186 => ?_)
                      refine lv_goto (tgt := 220) F.1 F.2.1 dX12_aRule_202 (by decide) ?_
                      exact j_220 _ _ _ z186 h (lv_sub hl [0, 1, 2, 3] rfl)
                  · refine lv_aload_n F.1 F.2.1 dX12_aRule_167 rfl (lv_at hl 0 rfl) ?_
                    refine tw_iconst F dX12_aRule_168 ki_5 (fun z187 hz187 => ?_)
                    refine tw_Vi (As := [.int z187]) F hZ h yk_X12_fails mw_487 mw_488 mw_489 (s_X12_fails l D cy L R O f64 a0 m_a0 r_a0 z187 ⟨by omega, by omega⟩) rfl rfl m_a0 r_a0 (fun e q => (T_12 e).mp q) rfl hl.1 rfl (Nat.le_of_ble_eq_true rfl) ⟨Nat.le_of_ble_eq_true rfl, Nat.le_of_ble_eq_true rfl⟩ ⟨Nat.le_of_ble_eq_true rfl, Nat.le_of_ble_eq_true rfl⟩ dX12_aRule_169 (fun v189 f188 H locs hp188 h => ?_)
                    obtain ⟨hf188, hv189a, hv189b⟩ := hp188
                    have hA : KW (20761) (22252) GA f0 f188 := hA.fm hf188 m_GA r_GA (by decide +kernel)
                    have hqk0 : elj f188 GA 20760 = elj f0 GA 20760 := by rw [hf188.eelj m_GA r_GA (by decide +kernel)]; exact hqk0
                    have hqk1 : elj f188 GA 20761 = elj f0 GA 20761 := by rw [hf188.eelj m_GA r_GA (by decide +kernel)]; exact hqk1
                    have hqk2 : elj f188 GA 20762 = elj f0 GA 20762 := by rw [hf188.eelj m_GA r_GA (by decide +kernel)]; exact hqk2
                    have hqk3 : elj f188 GA 20763 = elj f0 GA 20763 := by rw [hf188.eelj m_GA r_GA (by decide +kernel)]; exact hqk3
                    have hA2 : KW (20812 + 60 * z4.toInt.toNat) (20872 + 60 * z4.toInt.toNat) GA f0 f188 := hA2.fm hf188 m_GA r_GA (by decide +kernel)
                    have hk : fr L R [(12, 11), (12, 12), (12, 13), (12, 14), (12, 16), (12, 17), (12, 19)] [12, 61] f0 f188 := hk.tr hf188 rfl rfl
                    have e190 : fld f188 a0 0 = .ref GA := (hf188.efl m_a0 r_a0 rfl).trans e72
                    have e191 : fld f188 a0 22 = .ref GP := (hf188.efl m_a0 r_a0 rfl).trans e73
                    have e192 : fld f188 a0 23 = .ref GL := (hf188.efl m_a0 r_a0 rfl).trans e74
                    have e193 : fld f188 a0 6 = .ref GT := (hf188.efl m_a0 r_a0 rfl).trans e75
                    have e194 : fi f188 a0 19 = fi f64 a0 19 := hf188.efi m_a0 r_a0 rfl
                    exact hret f188 _ _ _ _ v189 dX12_aRule_172 (tw_nb (by omega)) ⟨hk, by omega, by omega, hA, hqk0, hqk2, hqk3, by omega, by omega, RB_row pre0 hA2 hn41 (by omega)⟩ h
                refine tw_if_ne (tgt := 152) F dX12_aRule_136 (by decide) (fun b195 => ?_) (fun b195 => ?_)
                · exact j_152 _ _ _ h (lv_sub hl [1, 2, 3, 0] rfl)
                · refine lv_aload_n F.1 F.2.1 dX12_aRule_139 rfl (lv_at hl 1 rfl) ?_
                  refine tw_Vi (As := []) F hZ h yk_X12_isName mw_700 mw_701 mw_702 (s_X12_isName l D cy L R O f64 a0 m_a0 r_a0) rfl rfl m_a0 r_a0 (fun e q => (T_12 e).mp q) rfl hl.1 rfl (Nat.le_of_ble_eq_true rfl) ⟨Nat.le_of_ble_eq_true rfl, Nat.le_of_ble_eq_true rfl⟩ ⟨Nat.le_of_ble_eq_true rfl, Nat.le_of_ble_eq_true rfl⟩ dX12_aRule_140 (fun v197 f196 H locs hp196 h => ?_)
                  obtain ⟨rfl, hv197a, hv197b, hv197p0⟩ := hp196
                  refine tw_if_ne (tgt := 152) F dX12_aRule_143 (by decide) (fun b198 => ?_) (fun b198 => ?_)
                  · exact j_152 _ _ _ h (lv_sub hl [1, 2, 3, 0] rfl)
                  · refine lv_aload_n F.1 F.2.1 dX12_aRule_146 rfl (lv_at hl 1 rfl) ?_
                    refine tw_iconst F dX12_aRule_147 ki_2 (fun z199 hz199 => ?_)
                    refine tw_Vi (As := [.int z199]) F hZ h yk_X12_fails mw_487 mw_488 mw_489 (s_X12_fails l D cy L R O f64 a0 m_a0 r_a0 z199 ⟨by omega, by omega⟩) rfl rfl m_a0 r_a0 (fun e q => (T_12 e).mp q) rfl hl.1 rfl (Nat.le_of_ble_eq_true rfl) ⟨Nat.le_of_ble_eq_true rfl, Nat.le_of_ble_eq_true rfl⟩ ⟨Nat.le_of_ble_eq_true rfl, Nat.le_of_ble_eq_true rfl⟩ dX12_aRule_148 (fun v201 f200 H locs hp200 h => ?_)
                    obtain ⟨hf200, hv201a, hv201b⟩ := hp200
                    have hA : KW (20761) (22252) GA f0 f200 := hA.fm hf200 m_GA r_GA (by decide +kernel)
                    have hqk0 : elj f200 GA 20760 = elj f0 GA 20760 := by rw [hf200.eelj m_GA r_GA (by decide +kernel)]; exact hqk0
                    have hqk1 : elj f200 GA 20761 = elj f0 GA 20761 := by rw [hf200.eelj m_GA r_GA (by decide +kernel)]; exact hqk1
                    have hqk2 : elj f200 GA 20762 = elj f0 GA 20762 := by rw [hf200.eelj m_GA r_GA (by decide +kernel)]; exact hqk2
                    have hqk3 : elj f200 GA 20763 = elj f0 GA 20763 := by rw [hf200.eelj m_GA r_GA (by decide +kernel)]; exact hqk3
                    have hA2 : KW (20812 + 60 * z4.toInt.toNat) (20872 + 60 * z4.toInt.toNat) GA f0 f200 := hA2.fm hf200 m_GA r_GA (by decide +kernel)
                    have hk : fr L R [(12, 11), (12, 12), (12, 13), (12, 14), (12, 16), (12, 17), (12, 19)] [12, 61] f0 f200 := hk.tr hf200 rfl rfl
                    have e202 : fld f200 a0 0 = .ref GA := (hf200.efl m_a0 r_a0 rfl).trans e72
                    have e203 : fld f200 a0 22 = .ref GP := (hf200.efl m_a0 r_a0 rfl).trans e73
                    have e204 : fld f200 a0 23 = .ref GL := (hf200.efl m_a0 r_a0 rfl).trans e74
                    have e205 : fld f200 a0 6 = .ref GT := (hf200.efl m_a0 r_a0 rfl).trans e75
                    have e206 : fi f200 a0 19 = fi f64 a0 19 := hf200.efi m_a0 r_a0 rfl
                    exact hret f200 _ _ _ _ v201 dX12_aRule_151 (tw_nb (by omega)) ⟨hk, by omega, by omega, hA, hqk0, hqk2, hqk3, by omega, by omega, RB_row pre0 hA2 hn41 (by omega)⟩ h
              have j_127 : ∀ (H : Heap) (locs : List Loc) (ls : Array Slot), tS D cy A s.heap L R (TT cy L R) f64 s H locs → lv_has ls 6 [(0, .ref a0), (1, .int x1), (3, .int z16)] → W p l e rm_X12_aRule s m args below meth c H locs 0 0 Q (F0 m 127 ls []) := by
                intro H locs ls h hl
                refine tw_iconst F dX12_aRule_127 ki_1 (fun z207 hz207 => ?_)
                refine lv_goto (tgt := 132) F.1 F.2.1 dX12_aRule_128 (by decide) ?_
                exact j_132 _ _ _ z207 (by omega) (by omega) h (lv_sub hl [0, 1, 2] rfl)
              refine tw_if_ne (tgt := 127) F dX12_aRule_115 (by decide) (fun b208 => ?_) (fun b208 => ?_)
              · exact j_127 _ _ _ h (lv_sub hl [0, 1, 2] rfl)
              · refine lv_aload_n F.1 F.2.1 dX12_aRule_118 rfl (lv_at hl 0 rfl) ?_
                refine tw_bipush F dX12_aRule_119 kb_63 (fun z209 hz209 => ?_)
                refine tw_Vi (As := [.int z209]) F hZ h yk_X12_isSign mw_723 mw_724 mw_725 (s_X12_isSign l D cy L R O f64 a0 m_a0 r_a0 z209 ⟨by omega, by omega⟩) rfl rfl m_a0 r_a0 (fun e q => (T_12 e).mp q) rfl hl.1 rfl (Nat.le_of_ble_eq_true rfl) ⟨Nat.le_of_ble_eq_true rfl, Nat.le_of_ble_eq_true rfl⟩ ⟨Nat.le_of_ble_eq_true rfl, Nat.le_of_ble_eq_true rfl⟩ dX12_aRule_121 (fun v211 f210 H locs hp210 h => ?_)
                obtain ⟨rfl, hv211a, hv211b⟩ := hp210
                refine tw_if_eq (tgt := 131) F dX12_aRule_124 (by decide) (fun b212 => ?_) (fun b212 => ?_)
                · refine tw_iconst F dX12_aRule_131 ki_0 (fun z213 hz213 => ?_)
                  exact j_132 _ _ _ z213 (by omega) (by omega) h (lv_sub hl [0, 1, 2] rfl)
                · exact j_127 _ _ _ h (lv_sub hl [0, 1, 2] rfl)
        have hb104 : fr L R [(12, 11), (12, 12), (12, 13), (12, 14), (12, 19)] [12, 61] f56 f56 := fr.rf
        exact j_104 (((9 - elj f56 GA (20814 + 60 * z4.toInt.toNat))).toNat + 1) f56 _ _ _ z63 (by omega) (by omega) (by omega) (by omega) (by omega) (by omega) (by omega) h hA hqk0 hqk1 hqk2 hqk3 hA2 hk hb104 (lv_sub hl [1, 2, 3, 0] rfl)
      refine tw_if_eq (tgt := 81) F dX12_aRule_74 (by decide) (fun b214 => ?_) (fun b214 => ?_)
      · refine tu_lconst F dX12_aRule_81 (by decide) (fun z215 (hz215 : z215.toInt = 0) => ?_)
        exact j_82 _ z215 (by omega) (by omega) (lv_sub hl [2, 3, 0] rfl)
      · refine tu_lconst F dX12_aRule_77 (by decide) (fun z216 (hz216 : z216.toInt = 1) => ?_)
        refine lv_goto (tgt := 82) F.1 F.2.1 dX12_aRule_78 (by decide) ?_
        exact j_82 _ z216 (by omega) (by omega) (lv_sub hl [2, 3, 0] rfl)
    · refine lv_aload_n F.1 F.2.1 dX12_aRule_35 rfl (lv_at hl 1 rfl) ?_
      refine tw_iconst F dX12_aRule_36 ki_5 (fun z217 hz217 => ?_)
      refine tw_Vi (As := [.int z217]) F hZ h yk_X12_fails mw_487 mw_488 mw_489 (s_X12_fails l D cy L R O f0 a0 m_a0 r_a0 z217 ⟨by omega, by omega⟩) rfl rfl m_a0 r_a0 (fun e q => (T_12 e).mp q) rfl hl.1 rfl (Nat.le_of_ble_eq_true rfl) ⟨Nat.le_of_ble_eq_true rfl, Nat.le_of_ble_eq_true rfl⟩ ⟨Nat.le_of_ble_eq_true rfl, Nat.le_of_ble_eq_true rfl⟩ dX12_aRule_37 (fun v219 f218 H locs hp218 h => ?_)
      obtain ⟨hf218, hv219a, hv219b⟩ := hp218
      have hA : KW (20761) (22252) GA f0 f218 := hA.fm hf218 m_GA r_GA (by decide +kernel)
      have hqk0 : elj f218 GA 20760 = elj f0 GA 20760 := by rw [hf218.eelj m_GA r_GA (by decide +kernel)]; exact hqk0
      have hqk1 : elj f218 GA 20761 = elj f0 GA 20761 := by rw [hf218.eelj m_GA r_GA (by decide +kernel)]; exact hqk1
      have hqk2 : elj f218 GA 20762 = elj f0 GA 20762 := by rw [hf218.eelj m_GA r_GA (by decide +kernel)]; exact hqk2
      have hqk3 : elj f218 GA 20763 = elj f0 GA 20763 := by rw [hf218.eelj m_GA r_GA (by decide +kernel)]; exact hqk3
      have hRN : RB GA 20760 f218 := hRN.fm hf218 m_GA r_GA (by decide +kernel)
      have hk : fr L R [(12, 11), (12, 12), (12, 13), (12, 14), (12, 16), (12, 17), (12, 19)] [12, 61] f0 f218 := hk.tr hf218 rfl rfl
      have e220 : fld f218 a0 0 = .ref GA := (hf218.efl m_a0 r_a0 rfl).trans t_GA
      have e221 : fld f218 a0 22 = .ref GP := (hf218.efl m_a0 r_a0 rfl).trans t_GP
      have e222 : fld f218 a0 23 = .ref GL := (hf218.efl m_a0 r_a0 rfl).trans t_GL
      have e223 : fld f218 a0 6 = .ref GT := (hf218.efl m_a0 r_a0 rfl).trans t_GT
      have e224 : fi f218 a0 19 = fi f0 a0 19 := hf218.efi m_a0 r_a0 rfl
      exact hret f218 _ _ _ _ v219 dX12_aRule_40 (tw_nb (by omega)) ⟨hk, by omega, by omega, hA, hqk0, hqk2, hqk3, by omega, by omega, hRN⟩ h
  · refine lv_aload_n F.1 F.2.1 dX12_aRule_23 rfl (lv_at hl 1 rfl) ?_
    refine tw_iconst F dX12_aRule_24 ki_4 (fun z225 hz225 => ?_)
    refine tw_Vi (As := [.int z225]) F hZ h yk_X12_fails mw_487 mw_488 mw_489 (s_X12_fails l D cy L R O f0 a0 m_a0 r_a0 z225 ⟨by omega, by omega⟩) rfl rfl m_a0 r_a0 (fun e q => (T_12 e).mp q) rfl hl.1 rfl (Nat.le_of_ble_eq_true rfl) ⟨Nat.le_of_ble_eq_true rfl, Nat.le_of_ble_eq_true rfl⟩ ⟨Nat.le_of_ble_eq_true rfl, Nat.le_of_ble_eq_true rfl⟩ dX12_aRule_25 (fun v227 f226 H locs hp226 h => ?_)
    obtain ⟨hf226, hv227a, hv227b⟩ := hp226
    have hA : KW (20761) (22252) GA f0 f226 := hA.fm hf226 m_GA r_GA (by decide +kernel)
    have hqk0 : elj f226 GA 20760 = elj f0 GA 20760 := by rw [hf226.eelj m_GA r_GA (by decide +kernel)]; exact hqk0
    have hqk1 : elj f226 GA 20761 = elj f0 GA 20761 := by rw [hf226.eelj m_GA r_GA (by decide +kernel)]; exact hqk1
    have hqk2 : elj f226 GA 20762 = elj f0 GA 20762 := by rw [hf226.eelj m_GA r_GA (by decide +kernel)]; exact hqk2
    have hqk3 : elj f226 GA 20763 = elj f0 GA 20763 := by rw [hf226.eelj m_GA r_GA (by decide +kernel)]; exact hqk3
    have hRN : RB GA 20760 f226 := hRN.fm hf226 m_GA r_GA (by decide +kernel)
    have hk : fr L R [(12, 11), (12, 12), (12, 13), (12, 14), (12, 16), (12, 17), (12, 19)] [12, 61] f0 f226 := hk.tr hf226 rfl rfl
    have e228 : fld f226 a0 0 = .ref GA := (hf226.efl m_a0 r_a0 rfl).trans t_GA
    have e229 : fld f226 a0 22 = .ref GP := (hf226.efl m_a0 r_a0 rfl).trans t_GP
    have e230 : fld f226 a0 23 = .ref GL := (hf226.efl m_a0 r_a0 rfl).trans t_GL
    have e231 : fld f226 a0 6 = .ref GT := (hf226.efl m_a0 r_a0 rfl).trans t_GT
    have e232 : fi f226 a0 19 = fi f0 a0 19 := hf226.efi m_a0 r_a0 rfl
    exact hret f226 _ _ _ _ v227 dX12_aRule_28 (tw_nb (by omega)) ⟨hk, by omega, by omega, hA, hqk0, hqk2, hqk3, by omega, by omega, hRN⟩ h
theorem dX12_aNone_0 : decode cX12_aNone 0 = .ok (.aload_n 0, 1) := by decide +kernel
theorem dX12_aNone_1 : decode cX12_aNone 1 = .ok (.getfield 7, 3) := by decide +kernel
theorem dX12_aNone_4 : decode cX12_aNone 4 = .ok (.sipush 20763, 3) := by decide +kernel
theorem ks_20763 : (Int16.ofInt 20763).toInt32.toInt = 20763 := by decide
theorem dX12_aNone_7 : decode cX12_aNone 7 = .ok (.laload, 1) := by decide +kernel
theorem dX12_aNone_8 : decode cX12_aNone 8 = .ok (.lconst 1, 1) := by decide +kernel
theorem dX12_aNone_9 : decode cX12_aNone 9 = .ok (.lcmp, 1) := by decide +kernel
theorem dX12_aNone_10 : decode cX12_aNone 10 = .ok (.ifCond .ne 9, 3) := by decide +kernel
theorem dX12_aNone_19 : decode cX12_aNone 19 = .ok (.aload_n 0, 1) := by decide +kernel
theorem dX12_aNone_20 : decode cX12_aNone 20 = .ok (.getfield 7, 3) := by decide +kernel
theorem dX12_aNone_23 : decode cX12_aNone 23 = .ok (.sipush 20763, 3) := by decide +kernel
theorem dX12_aNone_26 : decode cX12_aNone 26 = .ok (.lconst 1, 1) := by decide +kernel
theorem dX12_aNone_27 : decode cX12_aNone 27 = .ok (.lastore, 1) := by decide +kernel
theorem dX12_aNone_28 : decode cX12_aNone 28 = .ok (.aload_n 0, 1) := by decide +kernel
theorem dX12_aNone_29 : decode cX12_aNone 29 = .ok (.iconst 0, 1) := by decide +kernel
theorem dX12_aNone_30 : decode cX12_aNone 30 = .ok (.putfield 245, 3) := by decide +kernel
theorem dX12_aNone_33 : decode cX12_aNone 33 = .ok (.aload_n 0, 1) := by decide +kernel
theorem dX12_aNone_34 : decode cX12_aNone 34 = .ok (.invokevirtual 184, 3) := by decide +kernel
theorem dX12_aNone_37 : decode cX12_aNone 37 = .ok (.aload_n 0, 1) := by decide +kernel
theorem dX12_aNone_38 : decode cX12_aNone 38 = .ok (.sipush 22252, 3) := by decide +kernel
theorem ks_22252 : (Int16.ofInt 22252).toInt32.toInt = 22252 := by decide
theorem dX12_aNone_41 : decode cX12_aNone 41 = .ok (.iconst 1, 1) := by decide +kernel
theorem dX12_aNone_42 : decode cX12_aNone 42 = .ok (.invokevirtual 263, 3) := by decide +kernel
theorem dX12_aNone_45 : decode cX12_aNone 45 = .ok (.ireturn, 1) := by decide +kernel
theorem dX12_aNone_13 : decode cX12_aNone 13 = .ok (.aload_n 0, 1) := by decide +kernel
theorem dX12_aNone_14 : decode cX12_aNone 14 = .ok (.iconst 4, 1) := by decide +kernel
theorem dX12_aNone_15 : decode cX12_aNone 15 = .ok (.invokevirtual 187, 3) := by decide +kernel
theorem dX12_aNone_18 : decode cX12_aNone 18 = .ok (.ireturn, 1) := by decide +kernel
def rm_X12_aNone : Room := { frames := 8, cells := 0, slots := 0, locals := 175 }
set_option maxHeartbeats 4000000 in
set_option maxRecDepth 100000 in
theorem s_X12_aNone (l : Launch) (D : va_G) (cy : Nat → ClassId) (L : List Nat) (R O : Nat → Nat) (f0 : Nat → va_E) (a0 : Nat) (m_a0 : a0 ∈ L) (r_a0 : R a0 = 12) (GA : Nat) (m_GA : GA ∈ L) (r_GA : R GA = 61) (t_GA : fld f0 a0 0 = .ref GA) (GP : Nat) (m_GP : GP ∈ L) (r_GP : R GP = 69) (t_GP : fld f0 a0 22 = .ref GP) (GL : Nat) (m_GL : GL ∈ L) (r_GL : R GL = 70) (t_GL : fld f0 a0 23 = .ref GL) (GT : Nat) (m_GT : GT ∈ L) (r_GT : R GT = 64) (t_GT : fld f0 a0 6 = .ref GT) (pre0 : RB GA 20760 f0) : ∀ sz, Met l yX12_aNone (Cond.code yX12_aNone cX12_aNone 1 (some .boolean) :: wsL_law) rm_X12_aNone (va_Pc [.ref a0] (tPZ D cy L R (TT cy L R) f0 sz)) (va_Qi (fun (r : Int32) f1 => fr L R [(12, 11), (12, 12), (12, 13), (12, 14), (12, 16), (12, 17), (12, 19)] [12, 61] f0 f1 ∧ 0 ≤ r.toInt ∧ r.toInt ≤ 1 ∧ KW (20763) (22302) GA f0 f1 ∧ elj f1 GA 20760 = elj f0 GA 20760 ∧ elj f1 GA 20761 = elj f0 GA 20761 ∧ elj f1 GA 20762 = elj f0 GA 20762 ∧ (r.toInt = 0 ∨ elj f1 GA 20763 = elj f0 GA 20763 + 1) ∧ elj f0 GA 20763 ≤ elj f1 GA 20763 ∧ RB GA 20760 f1) (tB D (tA L sz) L R (TT cy L R)) (tA L sz)) 0 0 (tA L sz) := by
  refine tw_enteri (by decide +kernel) rfl (Nat.le_of_ble_eq_true rfl) ?_
  intro p e s m below meth c A ls args Q F hZ h hl hret
  have hl : lv_has ls 1 [(0, .ref a0)] := hl
  have hk : fr L R [(12, 11), (12, 12), (12, 13), (12, 14), (12, 16), (12, 17), (12, 19)] [12, 61] f0 f0 := fr.rf
  have hA : KW (20763) (22302) GA f0 f0 := KW.rf
  have hqk0 : elj f0 GA 20760 = elj f0 GA 20760 := rfl
  have hqk1 : elj f0 GA 20761 = elj f0 GA 20761 := rfl
  have hqk2 : elj f0 GA 20762 = elj f0 GA 20762 := rfl
  have hqk3 : elj f0 GA 20763 = elj f0 GA 20763 := rfl
  have hRN := pre0
  refine lv_aload_n F.1 F.2.1 dX12_aNone_0 rfl (lv_at hl 0 rfl) ?_
  refine g_12_7 F h m_a0 r_a0 dX12_aNone_1 (fun o1 m_o1 r_o1 ho1 => ?_)
  obtain rfl := (fld_inj t_GA ho1).symm
  refine tw_sipush F dX12_aNone_4 ks_20763 (fun z2 hz2 => ?_)
  refine le_61 F h m_GA r_GA (by omega) dX12_aNone_7 (fun v3 ev3 hv3a => ?_)
  have hv3b := clP_3.mp (atb hv3a (ac_c (b := 20760) 3 isB_n (by decide) (by omega) rfl))
  have u7 : v3.toInt = elj f0 GA (20763) := by rw [ev3, show z2.toInt.toNat = 20763 by omega]
  refine tu_lconst F dX12_aNone_8 (by decide) (fun z4 (hz4 : z4.toInt = 1) => ?_)
  refine tw_lcmp F dX12_aNone_9 (fun z5 hz5 => ?_)
  refine tw_if_ne (tgt := 19) F dX12_aNone_10 (by decide) (fun b6 => ?_) (fun b6 => ?_)
  · refine lv_aload_n F.1 F.2.1 dX12_aNone_19 rfl (lv_at hl 0 rfl) ?_
    refine g_12_7 F h m_a0 r_a0 dX12_aNone_20 (fun o7 m_o7 r_o7 ho7 => ?_)
    obtain rfl := (fld_inj t_GA ho7).symm
    refine tw_sipush F dX12_aNone_23 ks_20763 (fun z8 hz8 => ?_)
    refine tu_lconst F dX12_aNone_26 (by decide) (fun z9 (hz9 : z9.toInt = 1) => ?_)
    refine se_61 F h m_GA r_GA (by omega) (atS (ac_c (b := 20760) 3 isB_n (by decide) (by omega) rfl) (clP_3.mpr (by omega))) dX12_aNone_27 (fun f10 H locs e10a e10b hf10 h => ?_)
    have hA : KW (20763) (22302) GA f0 f10 := hA.st e10a (by omega)
    have hqk0 : elj f10 GA 20760 = elj f0 GA 20760 := by rw [e10a, if_neg (by omega)]; exact hqk0
    have hqk1 : elj f10 GA 20761 = elj f0 GA 20761 := by rw [e10a, if_neg (by omega)]; exact hqk1
    have hqk2 : elj f10 GA 20762 = elj f0 GA 20762 := by rw [e10a, if_neg (by omega)]; exact hqk2
    have hk : fr L R [(12, 11), (12, 12), (12, 13), (12, 14), (12, 16), (12, 17), (12, 19)] [12, 61] f0 f10 := hk.tr hf10 rfl rfl
    have e11 : fld f10 a0 0 = .ref GA := (hf10.efl m_a0 r_a0 rfl).trans t_GA
    have e12 : fld f10 a0 22 = .ref GP := (hf10.efl m_a0 r_a0 rfl).trans t_GP
    have e13 : fld f10 a0 23 = .ref GL := (hf10.efl m_a0 r_a0 rfl).trans t_GL
    have e14 : fld f10 a0 6 = .ref GT := (hf10.efl m_a0 r_a0 rfl).trans t_GT
    have hA2 : KW 22252 22302 GA f10 f10 := KW.rf
    have hqk3 : elj f10 GA 20763 = 1 := by rw [e10a, if_pos (by omega)]; omega
    refine lv_aload_n F.1 F.2.1 dX12_aNone_28 rfl (lv_at hl 0 rfl) ?_
    refine tw_iconst F dX12_aNone_29 ki_0 (fun z15 hz15 => ?_)
    refine p_12_245 F h m_a0 r_a0 (by omega) dX12_aNone_30 (fun f16 H locs e16p hf16 h => ?_)
    have hA : KW (20763) (22302) GA f0 f16 := hA.fm hf16 m_GA r_GA (by decide +kernel)
    have hqk0 : elj f16 GA 20760 = elj f0 GA 20760 := by rw [hf16.eelj m_GA r_GA (by decide +kernel)]; exact hqk0
    have hqk1 : elj f16 GA 20761 = elj f0 GA 20761 := by rw [hf16.eelj m_GA r_GA (by decide +kernel)]; exact hqk1
    have hqk2 : elj f16 GA 20762 = elj f0 GA 20762 := by rw [hf16.eelj m_GA r_GA (by decide +kernel)]; exact hqk2
    have hA2 : KW 22252 22302 GA f10 f16 := hA2.fm hf16 m_GA r_GA (by decide +kernel)
    have hqk3 : elj f16 GA 20763 = 1 := by rw [hf16.eelj m_GA r_GA (by decide +kernel)]; exact hqk3
    have hk : fr L R [(12, 11), (12, 12), (12, 13), (12, 14), (12, 16), (12, 17), (12, 19)] [12, 61] f0 f16 := hk.tr hf16 rfl rfl
    have e17 : fld f16 a0 0 = .ref GA := (hf16.efl m_a0 r_a0 rfl).trans e11
    have e18 : fld f16 a0 22 = .ref GP := (hf16.efl m_a0 r_a0 rfl).trans e12
    have e19 : fld f16 a0 23 = .ref GL := (hf16.efl m_a0 r_a0 rfl).trans e13
    have e20 : fld f16 a0 6 = .ref GT := (hf16.efl m_a0 r_a0 rfl).trans e14
    refine lv_aload_n F.1 F.2.1 dX12_aNone_33 rfl (lv_at hl 0 rfl) ?_
    refine tw_Vv (As := []) F hZ h yk_X12_ahead0 mw_468 mw_469 mw_470 (s_X12_ahead0 l D cy L R O f16 a0 m_a0 r_a0) rfl rfl m_a0 r_a0 (fun e q => (T_12 e).mp q) rfl hl.1 rfl (Nat.le_of_ble_eq_true rfl) ⟨Nat.le_of_ble_eq_true rfl, Nat.le_of_ble_eq_true rfl⟩ ⟨Nat.le_of_ble_eq_true rfl, Nat.le_of_ble_eq_true rfl⟩ dX12_aNone_34 (fun f21 H locs hp21 h => ?_)
    obtain ⟨hf21, hv22p0⟩ := hp21
    have hA : KW (20763) (22302) GA f0 f21 := hA.fm hf21 m_GA r_GA (by decide +kernel)
    have hqk0 : elj f21 GA 20760 = elj f0 GA 20760 := by rw [hf21.eelj m_GA r_GA (by decide +kernel)]; exact hqk0
    have hqk1 : elj f21 GA 20761 = elj f0 GA 20761 := by rw [hf21.eelj m_GA r_GA (by decide +kernel)]; exact hqk1
    have hqk2 : elj f21 GA 20762 = elj f0 GA 20762 := by rw [hf21.eelj m_GA r_GA (by decide +kernel)]; exact hqk2
    have hA2 : KW 22252 22302 GA f10 f21 := hA2.fm hf21 m_GA r_GA (by decide +kernel)
    have hqk3 : elj f21 GA 20763 = 1 := by rw [hf21.eelj m_GA r_GA (by decide +kernel)]; exact hqk3
    have hk : fr L R [(12, 11), (12, 12), (12, 13), (12, 14), (12, 16), (12, 17), (12, 19)] [12, 61] f0 f21 := hk.tr hf21 rfl rfl
    have e23 : fld f21 a0 0 = .ref GA := (hf21.efl m_a0 r_a0 rfl).trans e17
    have e24 : fld f21 a0 22 = .ref GP := (hf21.efl m_a0 r_a0 rfl).trans e18
    have e25 : fld f21 a0 23 = .ref GL := (hf21.efl m_a0 r_a0 rfl).trans e19
    have e26 : fld f21 a0 6 = .ref GT := (hf21.efl m_a0 r_a0 rfl).trans e20
    have hT : TW L R a0 f21 := hv22p0
    refine lv_aload_n F.1 F.2.1 dX12_aNone_37 rfl (lv_at hl 0 rfl) ?_
    refine tw_sipush F dX12_aNone_38 ks_22252 (fun z27 hz27 => ?_)
    refine tw_iconst F dX12_aNone_41 ki_1 (fun z28 hz28 => ?_)
    refine tw_Vi (As := [.int z27, .int z28]) F hZ h yk_X12_answers mw_727 mw_728 mw_729 (s_X12_answers l D cy L R O f21 a0 m_a0 r_a0 z27 ⟨by omega, by omega⟩ z28 ⟨by omega, by omega⟩ GA m_GA r_GA e23 GP m_GP r_GP e24 GL m_GL r_GL e25 GT m_GT r_GT e26 (AS_n (b := 20760) isB_n (by omega)) hT) rfl rfl m_a0 r_a0 (fun e q => (T_12 e).mp q) rfl hl.1 rfl (Nat.le_of_ble_eq_true rfl) ⟨Nat.le_of_ble_eq_true rfl, Nat.le_of_ble_eq_true rfl⟩ ⟨Nat.le_of_ble_eq_true rfl, Nat.le_of_ble_eq_true rfl⟩ dX12_aNone_42 (fun v30 f29 H locs hp29 h => ?_)
    obtain ⟨hf29, hv30a, hv30b, hv30p0, hv30p1⟩ := hp29
    have hA : KW (20763) (22302) GA f0 f29 := hA.sub hv30p0 (by omega) (by omega)
    have hqk0 : elj f29 GA 20760 = elj f0 GA 20760 := by rw [hv30p0 _ (by omega)]; exact hqk0
    have hqk1 : elj f29 GA 20761 = elj f0 GA 20761 := by rw [hv30p0 _ (by omega)]; exact hqk1
    have hqk2 : elj f29 GA 20762 = elj f0 GA 20762 := by rw [hv30p0 _ (by omega)]; exact hqk2
    have hA2 : KW 22252 22302 GA f10 f29 := hA2.sub hv30p0 (by omega) (by omega)
    have hqk3 : elj f29 GA 20763 = 1 := by rw [hv30p0 _ (by omega)]; exact hqk3
    have hk : fr L R [(12, 11), (12, 12), (12, 13), (12, 14), (12, 16), (12, 17), (12, 19)] [12, 61] f0 f29 := hk.tr hf29 rfl rfl
    have e31 : fld f29 a0 0 = .ref GA := (hf29.efl m_a0 r_a0 rfl).trans e23
    have e32 : fld f29 a0 22 = .ref GP := (hf29.efl m_a0 r_a0 rfl).trans e24
    have e33 : fld f29 a0 23 = .ref GL := (hf29.efl m_a0 r_a0 rfl).trans e25
    have e34 : fld f29 a0 6 = .ref GT := (hf29.efl m_a0 r_a0 rfl).trans e26
    have ha42 : 1 ≤ elj f29 GA 22252 := by have q := hv30p1; rw [show z27.toInt.toNat = 22252 by omega] at q; exact q
    exact hret f29 _ _ _ _ v30 dX12_aNone_45 (tw_nb (by omega)) ⟨hk, by omega, by omega, hA, hqk0, hqk1, hqk2, by omega, by omega, RB_none pre0 e10a (by omega) hA2 ha42⟩ h
  · refine lv_aload_n F.1 F.2.1 dX12_aNone_13 rfl (lv_at hl 0 rfl) ?_
    refine tw_iconst F dX12_aNone_14 ki_4 (fun z35 hz35 => ?_)
    refine tw_Vi (As := [.int z35]) F hZ h yk_X12_fails mw_487 mw_488 mw_489 (s_X12_fails l D cy L R O f0 a0 m_a0 r_a0 z35 ⟨by omega, by omega⟩) rfl rfl m_a0 r_a0 (fun e q => (T_12 e).mp q) rfl hl.1 rfl (Nat.le_of_ble_eq_true rfl) ⟨Nat.le_of_ble_eq_true rfl, Nat.le_of_ble_eq_true rfl⟩ ⟨Nat.le_of_ble_eq_true rfl, Nat.le_of_ble_eq_true rfl⟩ dX12_aNone_15 (fun v37 f36 H locs hp36 h => ?_)
    obtain ⟨hf36, hv37a, hv37b⟩ := hp36
    have hA : KW (20763) (22302) GA f0 f36 := hA.fm hf36 m_GA r_GA (by decide +kernel)
    have hqk0 : elj f36 GA 20760 = elj f0 GA 20760 := by rw [hf36.eelj m_GA r_GA (by decide +kernel)]; exact hqk0
    have hqk1 : elj f36 GA 20761 = elj f0 GA 20761 := by rw [hf36.eelj m_GA r_GA (by decide +kernel)]; exact hqk1
    have hqk2 : elj f36 GA 20762 = elj f0 GA 20762 := by rw [hf36.eelj m_GA r_GA (by decide +kernel)]; exact hqk2
    have hqk3 : elj f36 GA 20763 = elj f0 GA 20763 := by rw [hf36.eelj m_GA r_GA (by decide +kernel)]; exact hqk3
    have hRN : RB GA 20760 f36 := hRN.fm hf36 m_GA r_GA (by decide +kernel)
    have hk : fr L R [(12, 11), (12, 12), (12, 13), (12, 14), (12, 16), (12, 17), (12, 19)] [12, 61] f0 f36 := hk.tr hf36 rfl rfl
    have e38 : fld f36 a0 0 = .ref GA := (hf36.efl m_a0 r_a0 rfl).trans t_GA
    have e39 : fld f36 a0 22 = .ref GP := (hf36.efl m_a0 r_a0 rfl).trans t_GP
    have e40 : fld f36 a0 23 = .ref GL := (hf36.efl m_a0 r_a0 rfl).trans t_GL
    have e41 : fld f36 a0 6 = .ref GT := (hf36.efl m_a0 r_a0 rfl).trans t_GT
    exact hret f36 _ _ _ _ v37 dX12_aNone_18 (tw_nb (by omega)) ⟨hk, by omega, by omega, hA, hqk0, hqk1, hqk2, by omega, by omega, hRN⟩ h
theorem dX12_part_0 : decode cX12_part 0 = .ok (.aload_n 0, 1) := by decide +kernel
theorem dX12_part_1 : decode cX12_part 1 = .ok (.invokevirtual 231, 3) := by decide +kernel
theorem dX12_part_4 : decode cX12_part 4 = .ok (.istore_n 1, 1) := by decide +kernel
theorem dX12_part_5 : decode cX12_part 5 = .ok (.iload_n 1, 1) := by decide +kernel
theorem dX12_part_73 : decode cX12_part 73 = .ok (.istore_n 2, 1) := by decide +kernel
theorem dX12_part_74 : decode cX12_part 74 = .ok (.iload_n 2, 1) := by decide +kernel
theorem dX12_part_75 : decode cX12_part 75 = .ok (.ifCond .ne 5, 3) := by decide +kernel
theorem dX12_part_80 : decode cX12_part 80 = .ok (.aload_n 0, 1) := by decide +kernel
theorem dX12_part_81 : decode cX12_part 81 = .ok (.bipush 59, 2) := by decide +kernel
theorem dX12_part_83 : decode cX12_part 83 = .ok (.invokevirtual 256, 3) := by decide +kernel
theorem dX12_part_86 : decode cX12_part 86 = .ok (.ifCond .ne 9, 3) := by decide +kernel
theorem dX12_part_95 : decode cX12_part 95 = .ok (.aload_n 0, 1) := by decide +kernel
theorem dX12_part_96 : decode cX12_part 96 = .ok (.invokevirtual 184, 3) := by decide +kernel
theorem dX12_part_99 : decode cX12_part 99 = .ok (.iconst 1, 1) := by decide +kernel
theorem dX12_part_100 : decode cX12_part 100 = .ok (.ireturn, 1) := by decide +kernel
theorem dX12_part_89 : decode cX12_part 89 = .ok (.aload_n 0, 1) := by decide +kernel
theorem dX12_part_90 : decode cX12_part 90 = .ok (.iconst 2, 1) := by decide +kernel
theorem dX12_part_91 : decode cX12_part 91 = .ok (.invokevirtual 187, 3) := by decide +kernel
theorem dX12_part_94 : decode cX12_part 94 = .ok (.ireturn, 1) := by decide +kernel
theorem dX12_part_78 : decode cX12_part 78 = .ok (.iconst 0, 1) := by decide +kernel
theorem dX12_part_79 : decode cX12_part 79 = .ok (.ireturn, 1) := by decide +kernel
theorem dX12_part_6 : decode cX12_part 6 = .ok (.ifCond .ne 10, 3) := by decide +kernel
theorem dX12_part_16 : decode cX12_part 16 = .ok (.iload_n 1, 1) := by decide +kernel
theorem dX12_part_17 : decode cX12_part 17 = .ok (.iconst 1, 1) := by decide +kernel
theorem dX12_part_18 : decode cX12_part 18 = .ok (.if_icmp .ne 10, 3) := by decide +kernel
theorem dX12_part_28 : decode cX12_part 28 = .ok (.iload_n 1, 1) := by decide +kernel
theorem dX12_part_29 : decode cX12_part 29 = .ok (.iconst 3, 1) := by decide +kernel
theorem dX12_part_38 : decode cX12_part 38 = .ok (.aload_n 0, 1) := by decide +kernel
theorem dX12_part_39 : decode cX12_part 39 = .ok (.iload_n 1, 1) := by decide +kernel
theorem dX12_part_40 : decode cX12_part 40 = .ok (.iconst 5, 1) := by decide +kernel
theorem dX12_part_49 : decode cX12_part 49 = .ok (.invokevirtual 272, 3) := by decide +kernel
theorem mw_716 : Cond.methodLink RX12 272 yX12_aRule ∈ wsL_law := inr_30 _ (List.mem_of_getElem? (i := 20) rfl)
theorem mw_719 : Cond.code yX12_aRule cX12_aRule 6 (some .boolean) ∈ wsL_law := inr_30 _ (List.mem_of_getElem? (i := 23) rfl)
theorem yk_X12_aRule : xY yX12_aRule RX12 cX12_aRule 6 (some .boolean) 1 := ⟨⟨rfl, by decide +kernel, by decide +kernel, by decide +kernel⟩, mw_5, mw_719⟩
theorem mw_717 : Cond.instanceMethod yX12_aRule ∈ wsL_law := inr_30 _ (List.mem_of_getElem? (i := 21) rfl)
theorem mw_718 : Cond.selects RX12 yX12_aRule yX12_aRule ∈ wsL_law := inr_30 _ (List.mem_of_getElem? (i := 22) rfl)
theorem dX12_part_52 : decode cX12_part 52 = .ok (.goto 21, 3) := by decide +kernel
theorem dX12_part_41 : decode cX12_part 41 = .ok (.if_icmp .ne 7, 3) := by decide +kernel
theorem dX12_part_48 : decode cX12_part 48 = .ok (.iconst 0, 1) := by decide +kernel
theorem dX12_part_44 : decode cX12_part 44 = .ok (.iconst 1, 1) := by decide +kernel
theorem dX12_part_45 : decode cX12_part 45 = .ok (.goto 4, 3) := by decide +kernel
theorem dX12_part_30 : decode cX12_part 30 = .ok (.if_icmp .eq 8, 3) := by decide +kernel
theorem dX12_part_33 : decode cX12_part 33 = .ok (.iload_n 1, 1) := by decide +kernel
theorem dX12_part_34 : decode cX12_part 34 = .ok (.iconst 5, 1) := by decide +kernel
theorem dX12_part_35 : decode cX12_part 35 = .ok (.if_icmp .ne 20, 3) := by decide +kernel
theorem dX12_part_55 : decode cX12_part 55 = .ok (.iload_n 1, 1) := by decide +kernel
theorem dX12_part_56 : decode cX12_part 56 = .ok (.bipush 6, 2) := by decide +kernel
theorem dX12_part_58 : decode cX12_part 58 = .ok (.if_icmp .ne 10, 3) := by decide +kernel
theorem dX12_part_68 : decode cX12_part 68 = .ok (.aload_n 0, 1) := by decide +kernel
theorem dX12_part_69 : decode cX12_part 69 = .ok (.iconst 2, 1) := by decide +kernel
theorem dX12_part_70 : decode cX12_part 70 = .ok (.invokevirtual 187, 3) := by decide +kernel
theorem dX12_part_61 : decode cX12_part 61 = .ok (.aload_n 0, 1) := by decide +kernel
theorem dX12_part_62 : decode cX12_part 62 = .ok (.invokevirtual 276, 3) := by decide +kernel
theorem mw_737 : Cond.methodLink RX12 276 yX12_aNone ∈ wsL_law := inr_31 _ (List.mem_of_getElem? (i := 17) rfl)
theorem mw_740 : Cond.code yX12_aNone cX12_aNone 1 (some .boolean) ∈ wsL_law := inr_31 _ (List.mem_of_getElem? (i := 20) rfl)
theorem yk_X12_aNone : xY yX12_aNone RX12 cX12_aNone 1 (some .boolean) 0 := ⟨⟨rfl, by decide +kernel, by decide +kernel, by decide +kernel⟩, mw_5, mw_740⟩
theorem mw_738 : Cond.instanceMethod yX12_aNone ∈ wsL_law := inr_31 _ (List.mem_of_getElem? (i := 18) rfl)
theorem mw_739 : Cond.selects RX12 yX12_aNone yX12_aNone ∈ wsL_law := inr_31 _ (List.mem_of_getElem? (i := 19) rfl)
theorem dX12_part_65 : decode cX12_part 65 = .ok (.goto 8, 3) := by decide +kernel
theorem dX12_part_21 : decode cX12_part 21 = .ok (.aload_n 0, 1) := by decide +kernel
theorem dX12_part_22 : decode cX12_part 22 = .ok (.invokevirtual 269, 3) := by decide +kernel
theorem mw_704 : Cond.methodLink RX12 269 yX12_aKey ∈ wsL_law := inr_30 _ (List.mem_of_getElem? (i := 8) rfl)
theorem mw_707 : Cond.code yX12_aKey cX12_aKey 2 (some .boolean) ∈ wsL_law := inr_30 _ (List.mem_of_getElem? (i := 11) rfl)
theorem yk_X12_aKey : xY yX12_aKey RX12 cX12_aKey 2 (some .boolean) 0 := ⟨⟨rfl, by decide +kernel, by decide +kernel, by decide +kernel⟩, mw_5, mw_707⟩
theorem mw_705 : Cond.instanceMethod yX12_aKey ∈ wsL_law := inr_30 _ (List.mem_of_getElem? (i := 9) rfl)
theorem mw_706 : Cond.selects RX12 yX12_aKey yX12_aKey ∈ wsL_law := inr_30 _ (List.mem_of_getElem? (i := 10) rfl)
theorem dX12_part_25 : decode cX12_part 25 = .ok (.goto 48, 3) := by decide +kernel
theorem dX12_part_9 : decode cX12_part 9 = .ok (.aload_n 0, 1) := by decide +kernel
theorem dX12_part_10 : decode cX12_part 10 = .ok (.invokevirtual 266, 3) := by decide +kernel
theorem mw_696 : Cond.methodLink RX12 266 yX12_aTurn ∈ wsL_law := inr_30 _ (List.mem_of_getElem? (i := 0) rfl)
theorem mw_699 : Cond.code yX12_aTurn cX12_aTurn 3 (some .boolean) ∈ wsL_law := inr_30 _ (List.mem_of_getElem? (i := 3) rfl)
theorem yk_X12_aTurn : xY yX12_aTurn RX12 cX12_aTurn 3 (some .boolean) 0 := ⟨⟨rfl, by decide +kernel, by decide +kernel, by decide +kernel⟩, mw_5, mw_699⟩
theorem mw_697 : Cond.instanceMethod yX12_aTurn ∈ wsL_law := inr_30 _ (List.mem_of_getElem? (i := 1) rfl)
theorem mw_698 : Cond.selects RX12 yX12_aTurn yX12_aTurn ∈ wsL_law := inr_30 _ (List.mem_of_getElem? (i := 2) rfl)
theorem dX12_part_13 : decode cX12_part 13 = .ok (.goto 60, 3) := by decide +kernel
def rm_X12_part : Room := { frames := 9, cells := 0, slots := 0, locals := 200 }
set_option maxHeartbeats 4000000 in
set_option maxRecDepth 100000 in
theorem s_X12_part (l : Launch) (D : va_G) (cy : Nat → ClassId) (L : List Nat) (R O : Nat → Nat) (f0 : Nat → va_E) (a0 : Nat) (m_a0 : a0 ∈ L) (r_a0 : R a0 = 12) (GA : Nat) (m_GA : GA ∈ L) (r_GA : R GA = 61) (t_GA : fld f0 a0 0 = .ref GA) (GP : Nat) (m_GP : GP ∈ L) (r_GP : R GP = 69) (t_GP : fld f0 a0 22 = .ref GP) (GL : Nat) (m_GL : GL ∈ L) (r_GL : R GL = 70) (t_GL : fld f0 a0 23 = .ref GL) (GT : Nat) (m_GT : GT ∈ L) (r_GT : R GT = 64) (t_GT : fld f0 a0 6 = .ref GT) (pre0 : RB GA 20760 f0) : ∀ sz, Met l yX12_part (Cond.code yX12_part cX12_part 3 (some .boolean) :: wsL_law) rm_X12_part (va_Pc [.ref a0] (tPZ D cy L R (TT cy L R) f0 sz)) (va_Qi (fun (r : Int32) f1 => fr L R [(12, 11), (12, 12), (12, 13), (12, 14), (12, 16), (12, 17), (12, 19)] [12, 61] f0 f1 ∧ 0 ≤ r.toInt ∧ r.toInt ≤ 1 ∧ KW (20760) (22302) GA f0 f1 ∧ (r.toInt = 0 ∨ SU GA f1 = SU GA f0 + 1) ∧ SU GA f0 ≤ SU GA f1 ∧ RB GA 20760 f1) (tB D (tA L sz) L R (TT cy L R)) (tA L sz)) 0 0 (tA L sz) := by
  refine tw_enteri (by decide +kernel) rfl (Nat.le_of_ble_eq_true rfl) ?_
  intro p e s m below meth c A ls args Q F hZ h hl hret
  have hl : lv_has ls 3 [(0, .ref a0)] := hl
  have hk : fr L R [(12, 11), (12, 12), (12, 13), (12, 14), (12, 16), (12, 17), (12, 19)] [12, 61] f0 f0 := fr.rf
  have hA : KW (20760) (22302) GA f0 f0 := KW.rf
  have hRN := pre0
  refine lv_aload_n F.1 F.2.1 dX12_part_0 rfl (lv_at hl 0 rfl) ?_
  refine tw_Vi (As := []) F hZ h yk_X12_keyWord mw_643 mw_644 mw_645 (s_X12_keyWord l D cy L R O f0 a0 m_a0 r_a0) rfl rfl m_a0 r_a0 (fun e q => (T_12 e).mp q) rfl hl.1 rfl (Nat.le_of_ble_eq_true rfl) ⟨Nat.le_of_ble_eq_true rfl, Nat.le_of_ble_eq_true rfl⟩ ⟨Nat.le_of_ble_eq_true rfl, Nat.le_of_ble_eq_true rfl⟩ dX12_part_1 (fun v2 f1 H locs hp1 h => ?_)
  obtain rfl := hp1
  refine lv_istore_n (lv' := [(1, .int v2), (0, .ref a0)]) F.1 F.2.1 dX12_part_4 rfl hl (by decide) rfl (fun ls hl => ?_)
  refine lv_iload_n F.1 F.2.1 dX12_part_5 rfl (lv_at hl 0 rfl) ?_
  have j_73 : ∀ (f3 : Nat → va_E) (H : Heap) (locs : List Loc) (ls : Array Slot) (y0_73 : Int32), 0 ≤ y0_73.toInt → y0_73.toInt ≤ 1 → (y0_73.toInt = 0 ∨ SU GA f3 = SU GA f0 + 1) → SU GA f0 ≤ SU GA f3 → tS D cy A s.heap L R (TT cy L R) f3 s H locs → KW (20760) (22302) GA f0 f3 → RB GA 20760 f3 → fr L R [(12, 11), (12, 12), (12, 13), (12, 14), (12, 16), (12, 17), (12, 19)] [12, 61] f0 f3 → fr L R [(12, 11), (12, 12), (12, 13), (12, 14), (12, 16), (12, 17), (12, 19)] [12, 61] f0 f3 → lv_has ls 3 [(0, .ref a0)] → W p l e rm_X12_part s m args below meth c H locs 0 0 Q (F0 m 73 ls [.int y0_73]) := by
    intro f3 H locs ls y0_73 b4 b5 b6 b7 h hA hRN hk hb73 hl
    have e8 : fld f3 a0 0 = .ref GA := (hb73.efl m_a0 r_a0 rfl).trans t_GA
    have e9 : fld f3 a0 22 = .ref GP := (hb73.efl m_a0 r_a0 rfl).trans t_GP
    have e10 : fld f3 a0 23 = .ref GL := (hb73.efl m_a0 r_a0 rfl).trans t_GL
    have e11 : fld f3 a0 6 = .ref GT := (hb73.efl m_a0 r_a0 rfl).trans t_GT
    refine lv_istore_n (lv' := [(2, .int y0_73), (0, .ref a0)]) F.1 F.2.1 dX12_part_73 rfl hl (by decide) rfl (fun ls hl => ?_)
    refine lv_iload_n F.1 F.2.1 dX12_part_74 rfl (lv_at hl 0 rfl) ?_
    refine tw_if_ne (tgt := 80) F dX12_part_75 (by decide) (fun b12 => ?_) (fun b12 => ?_)
    · refine lv_aload_n F.1 F.2.1 dX12_part_80 rfl (lv_at hl 1 rfl) ?_
      refine tw_bipush F dX12_part_81 kb_59 (fun z13 hz13 => ?_)
      refine tw_Vi (As := [.int z13]) F hZ h yk_X12_isSign mw_723 mw_724 mw_725 (s_X12_isSign l D cy L R O f3 a0 m_a0 r_a0 z13 ⟨by omega, by omega⟩) rfl rfl m_a0 r_a0 (fun e q => (T_12 e).mp q) rfl hl.1 rfl (Nat.le_of_ble_eq_true rfl) ⟨Nat.le_of_ble_eq_true rfl, Nat.le_of_ble_eq_true rfl⟩ ⟨Nat.le_of_ble_eq_true rfl, Nat.le_of_ble_eq_true rfl⟩ dX12_part_83 (fun v15 f14 H locs hp14 h => ?_)
      obtain ⟨rfl, hv15a, hv15b⟩ := hp14
      refine tw_if_ne (tgt := 95) F dX12_part_86 (by decide) (fun b16 => ?_) (fun b16 => ?_)
      · refine lv_aload_n F.1 F.2.1 dX12_part_95 rfl (lv_at hl 1 rfl) ?_
        refine tw_Vv (As := []) F hZ h yk_X12_ahead0 mw_468 mw_469 mw_470 (s_X12_ahead0 l D cy L R O f3 a0 m_a0 r_a0) rfl rfl m_a0 r_a0 (fun e q => (T_12 e).mp q) rfl hl.1 rfl (Nat.le_of_ble_eq_true rfl) ⟨Nat.le_of_ble_eq_true rfl, Nat.le_of_ble_eq_true rfl⟩ ⟨Nat.le_of_ble_eq_true rfl, Nat.le_of_ble_eq_true rfl⟩ dX12_part_96 (fun f17 H locs hp17 h => ?_)
        obtain ⟨hf17, hv18p0⟩ := hp17
        have hA : KW (20760) (22302) GA f0 f17 := hA.fm hf17 m_GA r_GA (by decide +kernel)
        have hRN : RB GA 20760 f17 := hRN.fm hf17 m_GA r_GA (by decide +kernel)
        have hk : fr L R [(12, 11), (12, 12), (12, 13), (12, 14), (12, 16), (12, 17), (12, 19)] [12, 61] f0 f17 := hk.tr hf17 rfl rfl
        have e19 : fld f17 a0 0 = .ref GA := (hf17.efl m_a0 r_a0 rfl).trans e8
        have e20 : fld f17 a0 22 = .ref GP := (hf17.efl m_a0 r_a0 rfl).trans e9
        have e21 : fld f17 a0 23 = .ref GL := (hf17.efl m_a0 r_a0 rfl).trans e10
        have e22 : fld f17 a0 6 = .ref GT := (hf17.efl m_a0 r_a0 rfl).trans e11
        have sf96 := SU_fm hf17 m_GA r_GA (by decide +kernel)
        refine tw_iconst F dX12_part_99 ki_1 (fun z23 hz23 => ?_)
        exact hret f17 _ _ _ _ z23 dX12_part_100 (tw_nb (by omega)) ⟨hk, by omega, by omega, hA, by omega, by omega, hRN⟩ h
      · refine lv_aload_n F.1 F.2.1 dX12_part_89 rfl (lv_at hl 1 rfl) ?_
        refine tw_iconst F dX12_part_90 ki_2 (fun z24 hz24 => ?_)
        refine tw_Vi (As := [.int z24]) F hZ h yk_X12_fails mw_487 mw_488 mw_489 (s_X12_fails l D cy L R O f3 a0 m_a0 r_a0 z24 ⟨by omega, by omega⟩) rfl rfl m_a0 r_a0 (fun e q => (T_12 e).mp q) rfl hl.1 rfl (Nat.le_of_ble_eq_true rfl) ⟨Nat.le_of_ble_eq_true rfl, Nat.le_of_ble_eq_true rfl⟩ ⟨Nat.le_of_ble_eq_true rfl, Nat.le_of_ble_eq_true rfl⟩ dX12_part_91 (fun v26 f25 H locs hp25 h => ?_)
        obtain ⟨hf25, hv26a, hv26b⟩ := hp25
        have hA : KW (20760) (22302) GA f0 f25 := hA.fm hf25 m_GA r_GA (by decide +kernel)
        have hRN : RB GA 20760 f25 := hRN.fm hf25 m_GA r_GA (by decide +kernel)
        have hk : fr L R [(12, 11), (12, 12), (12, 13), (12, 14), (12, 16), (12, 17), (12, 19)] [12, 61] f0 f25 := hk.tr hf25 rfl rfl
        have e27 : fld f25 a0 0 = .ref GA := (hf25.efl m_a0 r_a0 rfl).trans e8
        have e28 : fld f25 a0 22 = .ref GP := (hf25.efl m_a0 r_a0 rfl).trans e9
        have e29 : fld f25 a0 23 = .ref GL := (hf25.efl m_a0 r_a0 rfl).trans e10
        have e30 : fld f25 a0 6 = .ref GT := (hf25.efl m_a0 r_a0 rfl).trans e11
        have sf91 := SU_fm hf25 m_GA r_GA (by decide +kernel)
        exact hret f25 _ _ _ _ v26 dX12_part_94 (tw_nb (by omega)) ⟨hk, by omega, by omega, hA, by omega, by omega, hRN⟩ h
    · refine tw_iconst F dX12_part_78 ki_0 (fun z31 hz31 => ?_)
      exact hret f3 _ _ _ _ z31 dX12_part_79 (tw_nb (by omega)) ⟨hk, by omega, by omega, hA, by omega, by omega, hRN⟩ h
  have hb73 : fr L R [(12, 11), (12, 12), (12, 13), (12, 14), (12, 16), (12, 17), (12, 19)] [12, 61] f0 f0 := fr.rf
  refine tw_if_ne (tgt := 16) F dX12_part_6 (by decide) (fun b32 => ?_) (fun b32 => ?_)
  · refine lv_iload_n F.1 F.2.1 dX12_part_16 rfl (lv_at hl 0 rfl) ?_
    refine tw_iconst F dX12_part_17 ki_1 (fun z33 hz33 => ?_)
    refine tw_icmp_ne (tgt := 28) F dX12_part_18 (by decide) (fun b34 => ?_) (fun b34 => ?_)
    · refine lv_iload_n F.1 F.2.1 dX12_part_28 rfl (lv_at hl 0 rfl) ?_
      refine tw_iconst F dX12_part_29 ki_3 (fun z35 hz35 => ?_)
      have j_38 : ∀ (ls : Array Slot), lv_has ls 3 [(0, .ref a0), (1, .int v2)] → W p l e rm_X12_part s m args below meth c H locs 0 0 Q (F0 m 38 ls []) := by
        intro ls hl
        refine lv_aload_n F.1 F.2.1 dX12_part_38 rfl (lv_at hl 0 rfl) ?_
        refine lv_iload_n F.1 F.2.1 dX12_part_39 rfl (lv_at hl 1 rfl) ?_
        refine tw_iconst F dX12_part_40 ki_5 (fun z36 hz36 => ?_)
        have j_49 : ∀ (ls : Array Slot) (y0_49 : Int32), 0 ≤ y0_49.toInt → y0_49.toInt ≤ 1 → lv_has ls 3 [(0, .ref a0)] → W p l e rm_X12_part s m args below meth c H locs 0 0 Q (F0 m 49 ls [.int y0_49, .ref a0]) := by
          intro ls y0_49 b37 b38 hl
          refine tw_Vi (As := [.int y0_49]) F hZ h yk_X12_aRule mw_716 mw_717 mw_718 (s_X12_aRule l D cy L R O f0 a0 m_a0 r_a0 y0_49 ⟨by omega, by omega⟩ GA m_GA r_GA t_GA GP m_GP r_GP t_GP GL m_GL r_GL t_GL GT m_GT r_GT t_GT hRN) rfl rfl m_a0 r_a0 (fun e q => (T_12 e).mp q) rfl hl.1 rfl (Nat.le_of_ble_eq_true rfl) ⟨Nat.le_of_ble_eq_true rfl, Nat.le_of_ble_eq_true rfl⟩ ⟨Nat.le_of_ble_eq_true rfl, Nat.le_of_ble_eq_true rfl⟩ dX12_part_49 (fun v40 f39 H locs hp39 h => ?_)
          obtain ⟨hf39, hv40a, hv40b, hv40p0, hv40p1, hv40p2, hv40p3, hv40p4, hv40p5, hv40p6⟩ := hp39
          have hA : KW (20760) (22302) GA f0 f39 := hA.sub hv40p0 (by omega) (by omega)
          have hRN : RB GA 20760 f39 := hv40p6
          have hk : fr L R [(12, 11), (12, 12), (12, 13), (12, 14), (12, 16), (12, 17), (12, 19)] [12, 61] f0 f39 := hk.tr hf39 rfl rfl
          have hb73 : fr L R [(12, 11), (12, 12), (12, 13), (12, 14), (12, 16), (12, 17), (12, 19)] [12, 61] f0 f39 := hb73.tr hf39 (by decide +kernel) rfl
          have e41 : fld f39 a0 0 = .ref GA := (hf39.efl m_a0 r_a0 rfl).trans t_GA
          have e42 : fld f39 a0 22 = .ref GP := (hf39.efl m_a0 r_a0 rfl).trans t_GP
          have e43 : fld f39 a0 23 = .ref GL := (hf39.efl m_a0 r_a0 rfl).trans t_GL
          have e44 : fld f39 a0 6 = .ref GT := (hf39.efl m_a0 r_a0 rfl).trans t_GT
          have s49 : SU GA f0 ≤ SU GA f39 := by unfold SU; omega
          have z49 : v40.toInt = 0 ∨ SU GA f39 = SU GA f0 + 1 := by unfold SU; omega
          refine lv_goto (tgt := 73) F.1 F.2.1 dX12_part_52 (by decide) ?_
          exact j_73 f39 _ _ _ v40 (by omega) (by omega) (by omega) (by omega) h hA hRN hk hb73 (lv_sub hl [0] rfl)
        refine tw_icmp_ne (tgt := 48) F dX12_part_41 (by decide) (fun b45 => ?_) (fun b45 => ?_)
        · refine tw_iconst F dX12_part_48 ki_0 (fun z46 hz46 => ?_)
          exact j_49 _ z46 (by omega) (by omega) (lv_sub hl [0] rfl)
        · refine tw_iconst F dX12_part_44 ki_1 (fun z47 hz47 => ?_)
          refine lv_goto (tgt := 49) F.1 F.2.1 dX12_part_45 (by decide) ?_
          exact j_49 _ z47 (by omega) (by omega) (lv_sub hl [0] rfl)
      refine tw_icmp_eq (tgt := 38) F dX12_part_30 (by decide) (fun b48 => ?_) (fun b48 => ?_)
      · exact j_38 _ (lv_sub hl [1, 0] rfl)
      · refine lv_iload_n F.1 F.2.1 dX12_part_33 rfl (lv_at hl 0 rfl) ?_
        refine tw_iconst F dX12_part_34 ki_5 (fun z49 hz49 => ?_)
        refine tw_icmp_ne (tgt := 55) F dX12_part_35 (by decide) (fun b50 => ?_) (fun b50 => ?_)
        · refine lv_iload_n F.1 F.2.1 dX12_part_55 rfl (lv_at hl 0 rfl) ?_
          refine tw_bipush F dX12_part_56 kb_6 (fun z51 hz51 => ?_)
          refine tw_icmp_ne (tgt := 68) F dX12_part_58 (by decide) (fun b52 => ?_) (fun b52 => ?_)
          · refine lv_aload_n F.1 F.2.1 dX12_part_68 rfl (lv_at hl 1 rfl) ?_
            refine tw_iconst F dX12_part_69 ki_2 (fun z53 hz53 => ?_)
            refine tw_Vi (As := [.int z53]) F hZ h yk_X12_fails mw_487 mw_488 mw_489 (s_X12_fails l D cy L R O f0 a0 m_a0 r_a0 z53 ⟨by omega, by omega⟩) rfl rfl m_a0 r_a0 (fun e q => (T_12 e).mp q) rfl hl.1 rfl (Nat.le_of_ble_eq_true rfl) ⟨Nat.le_of_ble_eq_true rfl, Nat.le_of_ble_eq_true rfl⟩ ⟨Nat.le_of_ble_eq_true rfl, Nat.le_of_ble_eq_true rfl⟩ dX12_part_70 (fun v55 f54 H locs hp54 h => ?_)
            obtain ⟨hf54, hv55a, hv55b⟩ := hp54
            have hA : KW (20760) (22302) GA f0 f54 := hA.fm hf54 m_GA r_GA (by decide +kernel)
            have hRN : RB GA 20760 f54 := hRN.fm hf54 m_GA r_GA (by decide +kernel)
            have hk : fr L R [(12, 11), (12, 12), (12, 13), (12, 14), (12, 16), (12, 17), (12, 19)] [12, 61] f0 f54 := hk.tr hf54 rfl rfl
            have hb73 : fr L R [(12, 11), (12, 12), (12, 13), (12, 14), (12, 16), (12, 17), (12, 19)] [12, 61] f0 f54 := hb73.tr hf54 rfl rfl
            have e56 : fld f54 a0 0 = .ref GA := (hf54.efl m_a0 r_a0 rfl).trans t_GA
            have e57 : fld f54 a0 22 = .ref GP := (hf54.efl m_a0 r_a0 rfl).trans t_GP
            have e58 : fld f54 a0 23 = .ref GL := (hf54.efl m_a0 r_a0 rfl).trans t_GL
            have e59 : fld f54 a0 6 = .ref GT := (hf54.efl m_a0 r_a0 rfl).trans t_GT
            have sf70 := SU_fm hf54 m_GA r_GA (by decide +kernel)
            exact j_73 f54 _ _ _ v55 (by omega) (by omega) (by omega) (by omega) h hA hRN hk hb73 (lv_sub hl [1] rfl)
          · refine lv_aload_n F.1 F.2.1 dX12_part_61 rfl (lv_at hl 1 rfl) ?_
            refine tw_Vi (As := []) F hZ h yk_X12_aNone mw_737 mw_738 mw_739 (s_X12_aNone l D cy L R O f0 a0 m_a0 r_a0 GA m_GA r_GA t_GA GP m_GP r_GP t_GP GL m_GL r_GL t_GL GT m_GT r_GT t_GT hRN) rfl rfl m_a0 r_a0 (fun e q => (T_12 e).mp q) rfl hl.1 rfl (Nat.le_of_ble_eq_true rfl) ⟨Nat.le_of_ble_eq_true rfl, Nat.le_of_ble_eq_true rfl⟩ ⟨Nat.le_of_ble_eq_true rfl, Nat.le_of_ble_eq_true rfl⟩ dX12_part_62 (fun v61 f60 H locs hp60 h => ?_)
            obtain ⟨hf60, hv61a, hv61b, hv61p0, hv61p1, hv61p2, hv61p3, hv61p4, hv61p5, hv61p6⟩ := hp60
            have hA : KW (20760) (22302) GA f0 f60 := hA.sub hv61p0 (by omega) (by omega)
            have hRN : RB GA 20760 f60 := hv61p6
            have hk : fr L R [(12, 11), (12, 12), (12, 13), (12, 14), (12, 16), (12, 17), (12, 19)] [12, 61] f0 f60 := hk.tr hf60 rfl rfl
            have hb73 : fr L R [(12, 11), (12, 12), (12, 13), (12, 14), (12, 16), (12, 17), (12, 19)] [12, 61] f0 f60 := hb73.tr hf60 (by decide +kernel) rfl
            have e62 : fld f60 a0 0 = .ref GA := (hf60.efl m_a0 r_a0 rfl).trans t_GA
            have e63 : fld f60 a0 22 = .ref GP := (hf60.efl m_a0 r_a0 rfl).trans t_GP
            have e64 : fld f60 a0 23 = .ref GL := (hf60.efl m_a0 r_a0 rfl).trans t_GL
            have e65 : fld f60 a0 6 = .ref GT := (hf60.efl m_a0 r_a0 rfl).trans t_GT
            have s62 : SU GA f0 ≤ SU GA f60 := by unfold SU; omega
            have z62 : v61.toInt = 0 ∨ SU GA f60 = SU GA f0 + 1 := by unfold SU; omega
            refine lv_goto (tgt := 73) F.1 F.2.1 dX12_part_65 (by decide) ?_
            exact j_73 f60 _ _ _ v61 (by omega) (by omega) (by omega) (by omega) h hA hRN hk hb73 (lv_sub hl [1] rfl)
        · exact j_38 _ (lv_sub hl [1, 0] rfl)
    · refine lv_aload_n F.1 F.2.1 dX12_part_21 rfl (lv_at hl 1 rfl) ?_
      refine tw_Vi (As := []) F hZ h yk_X12_aKey mw_704 mw_705 mw_706 (s_X12_aKey l D cy L R O f0 a0 m_a0 r_a0 GA m_GA r_GA t_GA GP m_GP r_GP t_GP GL m_GL r_GL t_GL GT m_GT r_GT t_GT hRN) rfl rfl m_a0 r_a0 (fun e q => (T_12 e).mp q) rfl hl.1 rfl (Nat.le_of_ble_eq_true rfl) ⟨Nat.le_of_ble_eq_true rfl, Nat.le_of_ble_eq_true rfl⟩ ⟨Nat.le_of_ble_eq_true rfl, Nat.le_of_ble_eq_true rfl⟩ dX12_part_22 (fun v67 f66 H locs hp66 h => ?_)
      obtain ⟨hf66, hv67a, hv67b, hv67p0, hv67p1, hv67p2, hv67p3, hv67p4, hv67p5, hv67p6⟩ := hp66
      have hA : KW (20760) (22302) GA f0 f66 := hA.sub hv67p0 (by omega) (by omega)
      have hRN : RB GA 20760 f66 := hv67p6
      have hk : fr L R [(12, 11), (12, 12), (12, 13), (12, 14), (12, 16), (12, 17), (12, 19)] [12, 61] f0 f66 := hk.tr hf66 rfl rfl
      have hb73 : fr L R [(12, 11), (12, 12), (12, 13), (12, 14), (12, 16), (12, 17), (12, 19)] [12, 61] f0 f66 := hb73.tr hf66 (by decide +kernel) rfl
      have e68 : fld f66 a0 0 = .ref GA := (hf66.efl m_a0 r_a0 rfl).trans t_GA
      have e69 : fld f66 a0 22 = .ref GP := (hf66.efl m_a0 r_a0 rfl).trans t_GP
      have e70 : fld f66 a0 23 = .ref GL := (hf66.efl m_a0 r_a0 rfl).trans t_GL
      have e71 : fld f66 a0 6 = .ref GT := (hf66.efl m_a0 r_a0 rfl).trans t_GT
      have s22 : SU GA f0 ≤ SU GA f66 := by unfold SU; omega
      have z22 : v67.toInt = 0 ∨ SU GA f66 = SU GA f0 + 1 := by unfold SU; omega
      refine lv_goto (tgt := 73) F.1 F.2.1 dX12_part_25 (by decide) ?_
      exact j_73 f66 _ _ _ v67 (by omega) (by omega) (by omega) (by omega) h hA hRN hk hb73 (lv_sub hl [1] rfl)
  · refine lv_aload_n F.1 F.2.1 dX12_part_9 rfl (lv_at hl 1 rfl) ?_
    refine tw_Vi (As := []) F hZ h yk_X12_aTurn mw_696 mw_697 mw_698 (s_X12_aTurn l D cy L R O f0 a0 m_a0 r_a0 GA m_GA r_GA t_GA GP m_GP r_GP t_GP GL m_GL r_GL t_GL GT m_GT r_GT t_GT hRN) rfl rfl m_a0 r_a0 (fun e q => (T_12 e).mp q) rfl hl.1 rfl (Nat.le_of_ble_eq_true rfl) ⟨Nat.le_of_ble_eq_true rfl, Nat.le_of_ble_eq_true rfl⟩ ⟨Nat.le_of_ble_eq_true rfl, Nat.le_of_ble_eq_true rfl⟩ dX12_part_10 (fun v73 f72 H locs hp72 h => ?_)
    obtain ⟨hf72, hv73a, hv73b, hv73p0, hv73p1, hv73p2, hv73p3, hv73p4, hv73p5, hv73p6⟩ := hp72
    have hA : KW (20760) (22302) GA f0 f72 := hA.sub hv73p0 (by omega) (by omega)
    have hRN : RB GA 20760 f72 := hv73p6
    have hk : fr L R [(12, 11), (12, 12), (12, 13), (12, 14), (12, 16), (12, 17), (12, 19)] [12, 61] f0 f72 := hk.tr hf72 rfl rfl
    have hb73 : fr L R [(12, 11), (12, 12), (12, 13), (12, 14), (12, 16), (12, 17), (12, 19)] [12, 61] f0 f72 := hb73.tr hf72 (by decide +kernel) rfl
    have e74 : fld f72 a0 0 = .ref GA := (hf72.efl m_a0 r_a0 rfl).trans t_GA
    have e75 : fld f72 a0 22 = .ref GP := (hf72.efl m_a0 r_a0 rfl).trans t_GP
    have e76 : fld f72 a0 23 = .ref GL := (hf72.efl m_a0 r_a0 rfl).trans t_GL
    have e77 : fld f72 a0 6 = .ref GT := (hf72.efl m_a0 r_a0 rfl).trans t_GT
    have s10 : SU GA f0 ≤ SU GA f72 := by unfold SU; omega
    have z10 : v73.toInt = 0 ∨ SU GA f72 = SU GA f0 + 1 := by unfold SU; omega
    refine lv_goto (tgt := 73) F.1 F.2.1 dX12_part_13 (by decide) ?_
    exact j_73 f72 _ _ _ v73 (by omega) (by omega) (by omega) (by omega) h hA hRN hk hb73 (lv_sub hl [1] rfl)
theorem dX12_leads_0 : decode cX12_leads 0 = .ok (.iconst 0, 1) := by decide +kernel
theorem dX12_leads_1 : decode cX12_leads 1 = .ok (.istore_n 2, 1) := by decide +kernel
theorem dX12_leads_2 : decode cX12_leads 2 = .ok (.iload_n 2, 1) := by decide +kernel
theorem dX12_leads_3 : decode cX12_leads 3 = .ok (.i2l, 1) := by decide +kernel
theorem dX12_leads_4 : decode cX12_leads 4 = .ok (.aload_n 0, 1) := by decide +kernel
theorem dX12_leads_5 : decode cX12_leads 5 = .ok (.getfield 7, 3) := by decide +kernel
theorem dX12_leads_8 : decode cX12_leads 8 = .ok (.iload_n 1, 1) := by decide +kernel
theorem dX12_leads_9 : decode cX12_leads 9 = .ok (.laload, 1) := by decide +kernel
theorem dX12_leads_10 : decode cX12_leads 10 = .ok (.lcmp, 1) := by decide +kernel
theorem dX12_leads_11 : decode cX12_leads 11 = .ok (.ifCond .ge 102, 3) := by decide +kernel
theorem dX12_leads_113 : decode cX12_leads 113 = .ok (.return_, 1) := by decide +kernel
theorem dX12_leads_14 : decode cX12_leads 14 = .ok (.iload_n 1, 1) := by decide +kernel
theorem dX12_leads_15 : decode cX12_leads 15 = .ok (.iconst 1, 1) := by decide +kernel
theorem dX12_leads_16 : decode cX12_leads 16 = .ok (.iadd, 1) := by decide +kernel
theorem dX12_leads_17 : decode cX12_leads 17 = .ok (.bipush 12, 2) := by decide +kernel
theorem dX12_leads_19 : decode cX12_leads 19 = .ok (.iload_n 2, 1) := by decide +kernel
theorem dX12_leads_20 : decode cX12_leads 20 = .ok (.imul, 1) := by decide +kernel
theorem dX12_leads_21 : decode cX12_leads 21 = .ok (.iadd, 1) := by decide +kernel
theorem dX12_leads_22 : decode cX12_leads 22 = .ok (.istore_n 3, 1) := by decide +kernel
theorem dX12_leads_23 : decode cX12_leads 23 = .ok (.aload_n 0, 1) := by decide +kernel
theorem dX12_leads_24 : decode cX12_leads 24 = .ok (.getfield 7, 3) := by decide +kernel
theorem dX12_leads_27 : decode cX12_leads 27 = .ok (.iload_n 3, 1) := by decide +kernel
theorem dX12_leads_28 : decode cX12_leads 28 = .ok (.laload, 1) := by decide +kernel
theorem dX12_leads_29 : decode cX12_leads 29 = .ok (.lconst 0, 1) := by decide +kernel
theorem dX12_leads_30 : decode cX12_leads 30 = .ok (.lcmp, 1) := by decide +kernel
theorem dX12_leads_107 : decode cX12_leads 107 = .ok (.iinc 2 1, 3) := by decide +kernel
theorem dX12_leads_110 : decode cX12_leads 110 = .ok (.goto (-108), 3) := by decide +kernel
theorem dX12_leads_31 : decode cX12_leads 31 = .ok (.ifCond .ne 6, 3) := by decide +kernel
theorem dX12_leads_37 : decode cX12_leads 37 = .ok (.aload_n 0, 1) := by decide +kernel
theorem dX12_leads_38 : decode cX12_leads 38 = .ok (.sipush 20760, 3) := by decide +kernel
theorem dX12_leads_41 : decode cX12_leads 41 = .ok (.aload_n 0, 1) := by decide +kernel
theorem dX12_leads_42 : decode cX12_leads 42 = .ok (.getfield 7, 3) := by decide +kernel
theorem dX12_leads_45 : decode cX12_leads 45 = .ok (.iload_n 3, 1) := by decide +kernel
theorem dX12_leads_46 : decode cX12_leads 46 = .ok (.laload, 1) := by decide +kernel
theorem dX12_leads_47 : decode cX12_leads 47 = .ok (.invokevirtual 238, 3) := by decide +kernel
theorem dX12_leads_50 : decode cX12_leads 50 = .ok (.istore 4, 2) := by decide +kernel
theorem dX12_leads_52 : decode cX12_leads 52 = .ok (.iload 4, 2) := by decide +kernel
theorem dX12_leads_54 : decode cX12_leads 54 = .ok (.iconst (-1), 1) := by decide +kernel
theorem dX12_leads_96 : decode cX12_leads 96 = .ok (.aload_n 0, 1) := by decide +kernel
theorem dX12_leads_97 : decode cX12_leads 97 = .ok (.getfield 7, 3) := by decide +kernel
theorem dX12_leads_100 : decode cX12_leads 100 = .ok (.iload_n 3, 1) := by decide +kernel
theorem dX12_leads_101 : decode cX12_leads 101 = .ok (.iload 4, 2) := by decide +kernel
theorem dX12_leads_103 : decode cX12_leads 103 = .ok (.i2l, 1) := by decide +kernel
theorem dX12_leads_104 : decode cX12_leads 104 = .ok (.lconst 1, 1) := by decide +kernel
theorem dX12_leads_105 : decode cX12_leads 105 = .ok (.ladd, 1) := by decide +kernel
theorem dX12_leads_106 : decode cX12_leads 106 = .ok (.lastore, 1) := by decide +kernel
theorem dX12_leads_55 : decode cX12_leads 55 = .ok (.if_icmp .ne 41, 3) := by decide +kernel
theorem dX12_leads_58 : decode cX12_leads 58 = .ok (.aload_n 0, 1) := by decide +kernel
theorem dX12_leads_59 : decode cX12_leads 59 = .ok (.getfield 279, 3) := by decide +kernel
theorem mw_634 : Cond.fieldLink RX12 279 "AskBackModel" "goPlace" "I" ∈ wsL_law := inr_27 _ (List.mem_of_getElem? (i := 10) rfl)
section
variable {p : Program} {l : Launch} {e : Env} {R0 : Room} {s : State} {m : MethodId} {args : Array Value} {below : List Frame} {meth : Method} {c : Code} {H H0 : Heap} {locs : List Loc} {cells slots : Nat} {Q : State → Prop} {cc : ByteArray} {nL : Nat} {D : va_G} {cy : Nat → ClassId} {A : Nat → Prop} {L : List Nat} {R : Nat → Nat} {f : Nat → va_E} {pc : Nat} {ls : Array Slot} {rest : List Value} {a : Nat}
theorem g_12_279 (F : CallFix p m c cc nL s args wsL_law RX12) (h : tS D cy A H0 L R (TT cy L R) f s H locs) (ha : a ∈ L) (hr : R a = 12) (hdg : decode cc pc = .ok (.getfield 279, 3)) (kk : ∀ x : Int32, x.toInt = fi f a 20 → W p l e R0 s m args below meth c H locs cells slots Q (F0 m (pc + 3) ls (.int x :: rest))) : W p l e R0 s m args below meth c H locs cells slots Q (F0 m pc ls (.ref a :: rest)) := tu_geti F h ha hr (fun e q => (T_12 e).mp q) rfl inlX12 rfl (Nat.le_of_ble_eq_true rfl) mw_634 hdg (fun x h1 h2 h3 => kk x h1)
end
theorem dX12_leads_62 : decode cX12_leads 62 = .ok (.iconst (-1), 1) := by decide +kernel
theorem dX12_leads_83 : decode cX12_leads 83 = .ok (.aload_n 0, 1) := by decide +kernel
theorem dX12_leads_84 : decode cX12_leads 84 = .ok (.aload_n 0, 1) := by decide +kernel
theorem dX12_leads_85 : decode cX12_leads 85 = .ok (.getfield 7, 3) := by decide +kernel
theorem dX12_leads_88 : decode cX12_leads 88 = .ok (.iload_n 3, 1) := by decide +kernel
theorem dX12_leads_89 : decode cX12_leads 89 = .ok (.iconst 2, 1) := by decide +kernel
theorem dX12_leads_90 : decode cX12_leads 90 = .ok (.iadd, 1) := by decide +kernel
theorem dX12_leads_91 : decode cX12_leads 91 = .ok (.laload, 1) := by decide +kernel
theorem dX12_leads_92 : decode cX12_leads 92 = .ok (.l2i, 1) := by decide +kernel
theorem dX12_leads_93 : decode cX12_leads 93 = .ok (.putfield 279, 3) := by decide +kernel
section
variable {p : Program} {l : Launch} {e : Env} {R0 : Room} {s : State} {m : MethodId} {args : Array Value} {below : List Frame} {meth : Method} {c : Code} {H H0 : Heap} {locs : List Loc} {cells slots : Nat} {Q : State → Prop} {cc : ByteArray} {nL : Nat} {D : va_G} {cy : Nat → ClassId} {A : Nat → Prop} {L : List Nat} {R : Nat → Nat} {f : Nat → va_E} {pc : Nat} {ls : Array Slot} {rest : List Value} {a : Nat}
theorem p_12_279 (F : CallFix p m c cc nL s args wsL_law RX12) (h : tS D cy A H0 L R (TT cy L R) f s H locs) {x : Int32} (ha : a ∈ L) (hr : R a = 12) (hdg : decode cc pc = .ok (.putfield 279, 3)) (kk : ∀ (f1 : Nat → va_E) (H1 : Heap) (locs1 : List Loc), fi f1 a 20 = x.toInt → fr L R [(12, 20)] [12] f f1 → tS D cy A H0 L R (TT cy L R) f1 s H1 locs1 → W p l e R0 s m args below meth c H1 locs1 cells slots Q (F0 m (pc + 3) ls (rest))) : W p l e R0 s m args below meth c H locs cells slots Q (F0 m pc ls (.int x :: .ref a :: rest)) := tu_puti (k := 20) F h ha hr T_12 rfl (tb_i x).1 (tb_i x).2 inlX12 tyX12_ok nmX12 rfl (Nat.le_of_ble_eq_true rfl) mw_634 rfl rfl rfl hdg kk
end
theorem dX12_leads_63 : decode cX12_leads 63 = .ok (.if_icmp .eq 20, 3) := by decide +kernel
theorem dX12_leads_66 : decode cX12_leads 66 = .ok (.aload_n 0, 1) := by decide +kernel
theorem dX12_leads_67 : decode cX12_leads 67 = .ok (.getfield 7, 3) := by decide +kernel
theorem dX12_leads_70 : decode cX12_leads 70 = .ok (.iload_n 3, 1) := by decide +kernel
theorem dX12_leads_71 : decode cX12_leads 71 = .ok (.iconst 2, 1) := by decide +kernel
theorem dX12_leads_72 : decode cX12_leads 72 = .ok (.iadd, 1) := by decide +kernel
theorem dX12_leads_73 : decode cX12_leads 73 = .ok (.laload, 1) := by decide +kernel
theorem dX12_leads_74 : decode cX12_leads 74 = .ok (.aload_n 0, 1) := by decide +kernel
theorem dX12_leads_75 : decode cX12_leads 75 = .ok (.getfield 279, 3) := by decide +kernel
theorem dX12_leads_78 : decode cX12_leads 78 = .ok (.i2l, 1) := by decide +kernel
theorem dX12_leads_79 : decode cX12_leads 79 = .ok (.lcmp, 1) := by decide +kernel
theorem dX12_leads_80 : decode cX12_leads 80 = .ok (.ifCond .ge 16, 3) := by decide +kernel
theorem dX12_leads_34 : decode cX12_leads 34 = .ok (.goto 73, 3) := by decide +kernel
def rm_X12_leads : Room := { frames := 1, cells := 0, slots := 0, locals := 24 }
set_option maxHeartbeats 4000000 in
set_option maxRecDepth 100000 in
theorem s_X12_leads (l : Launch) (D : va_G) (cy : Nat → ClassId) (L : List Nat) (R O : Nat → Nat) (f0 : Nat → va_E) (a0 : Nat) (m_a0 : a0 ∈ L) (r_a0 : R a0 = 12) (x1 : Int32) (b1 : 0 ≤ x1.toInt ∧ x1.toInt ≤ 25661) (GA : Nat) (m_GA : GA ∈ L) (r_GA : R GA = 61) (t_GA : fld f0 a0 0 = .ref GA) (GP : Nat) (m_GP : GP ∈ L) (r_GP : R GP = 69) (t_GP : fld f0 a0 22 = .ref GP) (GL : Nat) (m_GL : GL ∈ L) (r_GL : R GL = 70) (t_GL : fld f0 a0 23 = .ref GL) (GT : Nat) (m_GT : GT ∈ L) (r_GT : R GT = 64) (t_GT : fld f0 a0 6 = .ref GT) (pre0 : AS x1.toInt.toNat) : ∀ sz, Met l yX12_leads (Cond.code yX12_leads cX12_leads 5 none :: wsL_law) rm_X12_leads (va_Pc [.ref a0, .int x1] (tPZ D cy L R (TT cy L R) f0 sz)) (va_Qv (fun f1 => fr L R [(12, 20)] [12, 61] f0 f1 ∧ KW (x1.toInt.toNat + 1) (x1.toInt.toNat + 49) GA f0 f1) (tB D (tA L sz) L R (TT cy L R)) (tA L sz)) 0 0 (tA L sz) := by
  refine tw_enterv (by decide +kernel) rfl (Nat.le_of_ble_eq_true rfl) ?_
  intro p e s m below meth c A ls args Q F hZ h hl hret
  have hl : lv_has ls 5 [(0, .ref a0), (1, .int x1)] := hl
  have hk : fr L R [(12, 20)] [12, 61] f0 f0 := fr.rf
  have hA : KW (x1.toInt.toNat + 1) (x1.toInt.toNat + 49) GA f0 f0 := KW.rf
  have hR0 := pre0
  refine tw_iconst F dX12_leads_0 ki_0 (fun z1 hz1 => ?_)
  refine lv_istore_n (lv' := [(2, .int z1), (0, .ref a0), (1, .int x1)]) F.1 F.2.1 dX12_leads_1 rfl hl (by decide) rfl (fun ls hl => ?_)
  have j_2 : ∀ (n2 : Nat) (f2 : Nat → va_E) (H : Heap) (locs : List Loc) (ls : Array Slot) (x2_2 : Int32), 0 ≤ x2_2.toInt → x2_2.toInt ≤ 4 → ((4 - x2_2.toInt)).toNat < n2 → tS D cy A s.heap L R (TT cy L R) f2 s H locs → KW (x1.toInt.toNat + 1) (x1.toInt.toNat + 49) GA f0 f2 → fr L R [(12, 20)] [12, 61] f0 f2 → fr L R [(12, 20)] [12, 61] f0 f2 → lv_has ls 5 [(0, .ref a0), (1, .int x1), (2, .int x2_2)] → W p l e rm_X12_leads s m args below meth c H locs 0 0 Q (F0 m 2 ls []) := by
    intro n2
    induction n2 with
    | zero =>
      intro f2 H locs ls x2_2 b3 b4 b5 h hA hk hb2 hl
      exfalso
      omega
    | succ n2 ih2 =>
      intro f2 H locs ls x2_2 b3 b4 b5 h hA hk hb2 hl
      have e6 : fld f2 a0 0 = .ref GA := (hb2.efl m_a0 r_a0 rfl).trans t_GA
      have e7 : fld f2 a0 22 = .ref GP := (hb2.efl m_a0 r_a0 rfl).trans t_GP
      have e8 : fld f2 a0 23 = .ref GL := (hb2.efl m_a0 r_a0 rfl).trans t_GL
      have e9 : fld f2 a0 6 = .ref GT := (hb2.efl m_a0 r_a0 rfl).trans t_GT
      refine lv_iload_n F.1 F.2.1 dX12_leads_2 rfl (lv_at hl 2 rfl) ?_
      refine tw_i2l F dX12_leads_3 (fun z10 hz10 => ?_)
      refine lv_aload_n F.1 F.2.1 dX12_leads_4 rfl (lv_at hl 0 rfl) ?_
      refine g_12_7 F h m_a0 r_a0 dX12_leads_5 (fun o11 m_o11 r_o11 ho11 => ?_)
      obtain rfl := (fld_inj e6 ho11).symm
      refine lv_iload_n F.1 F.2.1 dX12_leads_8 rfl (lv_at hl 1 rfl) ?_
      refine ld_61 F h m_GA r_GA (by omega) dX12_leads_9 (fun v12 hv12a => ?_)
      have hv12b := clP_5.mp (atb hv12a (AS_0 hR0 (by omega)))
      refine tw_lcmp F dX12_leads_10 (fun z13 hz13 => ?_)
      refine tw_if_ge (tgt := 113) F dX12_leads_11 (by decide) (fun b14 => ?_) (fun b14 => ?_)
      · exact hret f2 _ _ _ _ dX12_leads_113 ⟨hk, hA⟩ h
      · refine lv_iload_n F.1 F.2.1 dX12_leads_14 rfl (lv_at hl 1 rfl) ?_
        refine tw_iconst F dX12_leads_15 ki_1 (fun z15 hz15 => ?_)
        refine tu_iadd F dX12_leads_16 (by omega) (fun z16 hz16 => ?_)
        refine tw_bipush F dX12_leads_17 kb_12 (fun z17 hz17 => ?_)
        refine lv_iload_n F.1 F.2.1 dX12_leads_19 rfl (lv_at hl 2 rfl) ?_
        refine tu_imull F dX12_leads_20 hz17 (by omega) (fun z18 hz18 => ?_)
        refine tu_iadd F dX12_leads_21 (by omega) (fun z19 hz19 => ?_)
        refine lv_istore_n (lv' := [(3, .int z19), (0, .ref a0), (1, .int x1), (2, .int x2_2)]) F.1 F.2.1 dX12_leads_22 rfl hl (by decide) rfl (fun ls hl => ?_)
        refine lv_aload_n F.1 F.2.1 dX12_leads_23 rfl (lv_at hl 1 rfl) ?_
        refine g_12_7 F h m_a0 r_a0 dX12_leads_24 (fun o20 m_o20 r_o20 ho20 => ?_)
        obtain rfl := (fld_inj e6 ho20).symm
        refine lv_iload_n F.1 F.2.1 dX12_leads_27 rfl (lv_at hl 0 rfl) ?_
        refine ld_61 F h m_GA r_GA (by omega) dX12_leads_28 (fun v21 hv21a => ?_)
        refine tu_lconst F dX12_leads_29 (by decide) (fun z22 (hz22 : z22.toInt = 0) => ?_)
        refine tw_lcmp F dX12_leads_30 (fun z23 hz23 => ?_)
        have j_107 : ∀ (f24 : Nat → va_E) (H : Heap) (locs : List Loc) (ls : Array Slot), tS D cy A s.heap L R (TT cy L R) f24 s H locs → KW (x1.toInt.toNat + 1) (x1.toInt.toNat + 49) GA f0 f24 → fr L R [(12, 20)] [12, 61] f0 f24 → fr L R [(12, 20)] [12, 61] f2 f24 → lv_has ls 5 [(0, .ref a0), (1, .int x1), (2, .int x2_2)] → W p l e rm_X12_leads s m args below meth c H locs 0 0 Q (F0 m 107 ls []) := by
          intro f24 H locs ls h hA hk hb107 hl
          have hb2 : fr L R [(12, 20)] [12, 61] f0 f24 := hb2.tr hb107 rfl rfl
          have e25 : fld f24 a0 0 = .ref GA := (hb107.efl m_a0 r_a0 rfl).trans e6
          have e26 : fld f24 a0 22 = .ref GP := (hb107.efl m_a0 r_a0 rfl).trans e7
          have e27 : fld f24 a0 23 = .ref GL := (hb107.efl m_a0 r_a0 rfl).trans e8
          have e28 : fld f24 a0 6 = .ref GT := (hb107.efl m_a0 r_a0 rfl).trans e9
          refine tu_iinc F dX12_leads_107 hl (k := 2) rfl (by decide) ki_1 (by omega) (fun z29 ls hz29 hl => ?_)
          have hl : lv_has ls 5 [(2, .int z29), (0, .ref a0), (1, .int x1)] := hl
          refine lv_goto (tgt := 2) F.1 F.2.1 dX12_leads_110 (by decide) ?_
          exact ih2 f24 _ _ _ z29 (by omega) (by omega) (by omega) h hA hk hb2 (lv_sub hl [1, 2, 0] rfl)
        have hb107 : fr L R [(12, 20)] [12, 61] f2 f2 := fr.rf
        refine tw_if_ne (tgt := 37) F dX12_leads_31 (by decide) (fun b30 => ?_) (fun b30 => ?_)
        · refine lv_aload_n F.1 F.2.1 dX12_leads_37 rfl (lv_at hl 1 rfl) ?_
          refine tw_sipush F dX12_leads_38 ks_20760 (fun z31 hz31 => ?_)
          refine lv_aload_n F.1 F.2.1 dX12_leads_41 rfl (lv_at hl 1 rfl) ?_
          refine g_12_7 F h m_a0 r_a0 dX12_leads_42 (fun o32 m_o32 r_o32 ho32 => ?_)
          obtain rfl := (fld_inj e6 ho32).symm
          refine lv_iload_n F.1 F.2.1 dX12_leads_45 rfl (lv_at hl 0 rfl) ?_
          refine ld_61 F h m_GA r_GA (by omega) dX12_leads_46 (fun v33 hv33a => ?_)
          refine tw_Vi (As := [.int z31, .long v33]) F hZ h yk_X12_keyNamed mw_708 mw_709 mw_710 (s_X12_keyNamed l D cy L R O f2 a0 m_a0 r_a0 z31 ⟨by omega, by omega⟩ v33 (isB_e isB_n (by omega))) rfl rfl m_a0 r_a0 (fun e q => (T_12 e).mp q) rfl hl.1 rfl (Nat.le_of_ble_eq_true rfl) ⟨Nat.le_of_ble_eq_true rfl, Nat.le_of_ble_eq_true rfl⟩ ⟨Nat.le_of_ble_eq_true rfl, Nat.le_of_ble_eq_true rfl⟩ dX12_leads_47 (fun v35 f34 H locs hp34 h => ?_)
          obtain ⟨rfl, hv35a, hv35b⟩ := hp34
          refine lv_istore (lv' := [(4, .int v35), (3, .int z19), (0, .ref a0), (1, .int x1), (2, .int x2_2)]) F.1 F.2.1 dX12_leads_50 hl (by decide) rfl (fun ls hl => ?_)
          refine lv_iload F.1 F.2.1 dX12_leads_52 (lv_at hl 0 rfl) ?_
          refine tw_iconst F dX12_leads_54 ki_m1 (fun z36 hz36 => ?_)
          have j_96 : ∀ (f37 : Nat → va_E) (H : Heap) (locs : List Loc) (ls : Array Slot), tS D cy A s.heap L R (TT cy L R) f37 s H locs → KW (x1.toInt.toNat + 1) (x1.toInt.toNat + 49) GA f0 f37 → fr L R [(12, 20)] [12, 61] f0 f37 → fr L R [(12, 20)] [12] f2 f37 → lv_has ls 5 [(0, .ref a0), (1, .int x1), (2, .int x2_2), (3, .int z19), (4, .int v35)] → W p l e rm_X12_leads s m args below meth c H locs 0 0 Q (F0 m 96 ls []) := by
            intro f37 H locs ls h hA hk hb96 hl
            have hb2 : fr L R [(12, 20)] [12, 61] f0 f37 := hb2.tr hb96 rfl rfl
            have hb107 : fr L R [(12, 20)] [12, 61] f2 f37 := hb107.tr hb96 rfl rfl
            have e38 : fld f37 a0 0 = .ref GA := (hb96.efl m_a0 r_a0 rfl).trans e6
            have e39 : fld f37 a0 22 = .ref GP := (hb96.efl m_a0 r_a0 rfl).trans e7
            have e40 : fld f37 a0 23 = .ref GL := (hb96.efl m_a0 r_a0 rfl).trans e8
            have e41 : fld f37 a0 6 = .ref GT := (hb96.efl m_a0 r_a0 rfl).trans e9
            refine lv_aload_n F.1 F.2.1 dX12_leads_96 rfl (lv_at hl 0 rfl) ?_
            refine g_12_7 F h m_a0 r_a0 dX12_leads_97 (fun o42 m_o42 r_o42 ho42 => ?_)
            obtain rfl := (fld_inj e38 ho42).symm
            refine lv_iload_n F.1 F.2.1 dX12_leads_100 rfl (lv_at hl 3 rfl) ?_
            refine lv_iload F.1 F.2.1 dX12_leads_101 (lv_at hl 4 rfl) ?_
            refine tw_i2l F dX12_leads_103 (fun z43 hz43 => ?_)
            refine tu_lconst F dX12_leads_104 (by decide) (fun z44 (hz44 : z44.toInt = 1) => ?_)
            refine tu_ladd F dX12_leads_105 (by omega) (fun z45 hz45 => ?_)
            refine se_61 F h m_GA r_GA (by omega) (atS (AS_h hR0 (by omega)) clP_12) dX12_leads_106 (fun f46 H locs e46a e46b hf46 h => ?_)
            have hA : KW (x1.toInt.toNat + 1) (x1.toInt.toNat + 49) GA f0 f46 := hA.st e46a (by omega)
            have hk : fr L R [(12, 20)] [12, 61] f0 f46 := hk.tr hf46 rfl rfl
            have hb2 : fr L R [(12, 20)] [12, 61] f0 f46 := hb2.tr hf46 rfl rfl
            have hb107 : fr L R [(12, 20)] [12, 61] f2 f46 := hb107.tr hf46 rfl rfl
            have e47 : fld f46 a0 0 = .ref GA := (hf46.efl m_a0 r_a0 rfl).trans e38
            have e48 : fld f46 a0 22 = .ref GP := (hf46.efl m_a0 r_a0 rfl).trans e39
            have e49 : fld f46 a0 23 = .ref GL := (hf46.efl m_a0 r_a0 rfl).trans e40
            have e50 : fld f46 a0 6 = .ref GT := (hf46.efl m_a0 r_a0 rfl).trans e41
            exact j_107 f46 _ _ _ h hA hk hb107 (lv_sub hl [0, 1, 2] rfl)
          have hb96 : fr L R [(12, 20)] [12] f2 f2 := fr.rf
          refine tw_icmp_ne (tgt := 96) F dX12_leads_55 (by decide) (fun b51 => ?_) (fun b51 => ?_)
          · exact j_96 f2 _ _ _ h hA hk hb96 (lv_sub hl [2, 3, 4, 1, 0] rfl)
          · refine lv_aload_n F.1 F.2.1 dX12_leads_58 rfl (lv_at hl 2 rfl) ?_
            refine g_12_279 F h m_a0 r_a0 dX12_leads_59 (fun v52 hv52 => ?_)
            refine tw_iconst F dX12_leads_62 ki_m1 (fun z53 hz53 => ?_)
            have j_83 : ∀ (ls : Array Slot), lv_has ls 5 [(0, .ref a0), (1, .int x1), (2, .int x2_2), (3, .int z19), (4, .int v35)] → W p l e rm_X12_leads s m args below meth c H locs 0 0 Q (F0 m 83 ls []) := by
              intro ls hl
              refine lv_aload_n F.1 F.2.1 dX12_leads_83 rfl (lv_at hl 0 rfl) ?_
              refine lv_aload_n F.1 F.2.1 dX12_leads_84 rfl (lv_at hl 0 rfl) ?_
              refine g_12_7 F h m_a0 r_a0 dX12_leads_85 (fun o54 m_o54 r_o54 ho54 => ?_)
              obtain rfl := (fld_inj e6 ho54).symm
              refine lv_iload_n F.1 F.2.1 dX12_leads_88 rfl (lv_at hl 3 rfl) ?_
              refine tw_iconst F dX12_leads_89 ki_2 (fun z55 hz55 => ?_)
              refine tu_iadd F dX12_leads_90 (by omega) (fun z56 hz56 => ?_)
              refine ld_61 F h m_GA r_GA (by omega) dX12_leads_91 (fun v57 hv57a => ?_)
              refine lv_l2i F.1 F.2.1 dX12_leads_92 rfl ?_
              refine lv_topi (fun z58 _ => ?_)
              refine p_12_279 F h m_a0 r_a0 dX12_leads_93 (fun f59 H locs e59p hf59 h => ?_)
              have hA : KW (x1.toInt.toNat + 1) (x1.toInt.toNat + 49) GA f0 f59 := hA.fm hf59 m_GA r_GA (by decide +kernel)
              have hk : fr L R [(12, 20)] [12, 61] f0 f59 := hk.tr hf59 rfl rfl
              have hb2 : fr L R [(12, 20)] [12, 61] f0 f59 := hb2.tr hf59 rfl rfl
              have hb107 : fr L R [(12, 20)] [12, 61] f2 f59 := hb107.tr hf59 rfl rfl
              have hb96 : fr L R [(12, 20)] [12] f2 f59 := hb96.tr hf59 rfl rfl
              have e60 : fld f59 a0 0 = .ref GA := (hf59.efl m_a0 r_a0 rfl).trans e6
              have e61 : fld f59 a0 22 = .ref GP := (hf59.efl m_a0 r_a0 rfl).trans e7
              have e62 : fld f59 a0 23 = .ref GL := (hf59.efl m_a0 r_a0 rfl).trans e8
              have e63 : fld f59 a0 6 = .ref GT := (hf59.efl m_a0 r_a0 rfl).trans e9
              exact j_96 f59 _ _ _ h hA hk hb96 (lv_sub hl [0, 1, 2, 3, 4] rfl)
            refine tw_icmp_eq (tgt := 83) F dX12_leads_63 (by decide) (fun b64 => ?_) (fun b64 => ?_)
            · exact j_83 _ (lv_sub hl [2, 3, 4, 1, 0] rfl)
            · refine lv_aload_n F.1 F.2.1 dX12_leads_66 rfl (lv_at hl 2 rfl) ?_
              refine g_12_7 F h m_a0 r_a0 dX12_leads_67 (fun o65 m_o65 r_o65 ho65 => ?_)
              obtain rfl := (fld_inj e6 ho65).symm
              refine lv_iload_n F.1 F.2.1 dX12_leads_70 rfl (lv_at hl 1 rfl) ?_
              refine tw_iconst F dX12_leads_71 ki_2 (fun z66 hz66 => ?_)
              refine tu_iadd F dX12_leads_72 (by omega) (fun z67 hz67 => ?_)
              refine ld_61 F h m_GA r_GA (by omega) dX12_leads_73 (fun v68 hv68a => ?_)
              refine lv_aload_n F.1 F.2.1 dX12_leads_74 rfl (lv_at hl 2 rfl) ?_
              refine g_12_279 F h m_a0 r_a0 dX12_leads_75 (fun v69 hv69 => ?_)
              refine tu_i2l F dX12_leads_78 (fun z70 hz70 hz70a hz70b => ?_)
              refine tw_lcmp F dX12_leads_79 (fun z71 hz71 => ?_)
              refine tw_if_ge (tgt := 96) F dX12_leads_80 (by decide) (fun b72 => ?_) (fun b72 => ?_)
              · exact j_96 f2 _ _ _ h hA hk hb96 (lv_sub hl [2, 3, 4, 1, 0] rfl)
              · exact j_83 _ (lv_sub hl [2, 3, 4, 1, 0] rfl)
        · refine lv_goto (tgt := 107) F.1 F.2.1 dX12_leads_34 (by decide) ?_
          exact j_107 f2 _ _ _ h hA hk hb107 (lv_sub hl [1, 2, 3] rfl)
  have hb2 : fr L R [(12, 20)] [12, 61] f0 f0 := fr.rf
  exact j_2 (((4 - z1.toInt)).toNat + 1) f0 _ _ _ z1 (by omega) (by omega) (by omega) h hA hk hb2 (lv_sub hl [1, 2, 0] rfl)
theorem dX12_script_0 : decode cX12_script 0 = .ok (.aload_n 0, 1) := by decide +kernel
theorem dX12_script_1 : decode cX12_script 1 = .ok (.iload_n 1, 1) := by decide +kernel
theorem dX12_script_2 : decode cX12_script 2 = .ok (.invokevirtual 282, 3) := by decide +kernel
theorem dX12_script_5 : decode cX12_script 5 = .ok (.ifCond .eq 15, 3) := by decide +kernel
theorem dX12_script_20 : decode cX12_script 20 = .ok (.aload_n 0, 1) := by decide +kernel
theorem dX12_script_21 : decode cX12_script 21 = .ok (.iconst 1, 1) := by decide +kernel
theorem dX12_script_22 : decode cX12_script 22 = .ok (.invokevirtual 194, 3) := by decide +kernel
theorem dX12_script_25 : decode cX12_script 25 = .ok (.ireturn, 1) := by decide +kernel
theorem dX12_script_8 : decode cX12_script 8 = .ok (.iload_n 2, 1) := by decide +kernel
theorem dX12_script_9 : decode cX12_script 9 = .ok (.ifCond .lt 11, 3) := by decide +kernel
theorem dX12_script_12 : decode cX12_script 12 = .ok (.iload_n 2, 1) := by decide +kernel
theorem dX12_script_13 : decode cX12_script 13 = .ok (.aload_n 0, 1) := by decide +kernel
theorem dX12_script_14 : decode cX12_script 14 = .ok (.getfield 144, 3) := by decide +kernel
theorem dX12_script_17 : decode cX12_script 17 = .ok (.if_icmp .le 9, 3) := by decide +kernel
theorem dX12_script_26 : decode cX12_script 26 = .ok (.aload_n 0, 1) := by decide +kernel
theorem dX12_script_27 : decode cX12_script 27 = .ok (.iload_n 2, 1) := by decide +kernel
theorem dX12_script_28 : decode cX12_script 28 = .ok (.invokevirtual 197, 3) := by decide +kernel
theorem dX12_script_31 : decode cX12_script 31 = .ok (.iconst 0, 1) := by decide +kernel
theorem dX12_script_32 : decode cX12_script 32 = .ok (.istore_n 3, 1) := by decide +kernel
theorem dX12_script_33 : decode cX12_script 33 = .ok (.iload_n 3, 1) := by decide +kernel
theorem dX12_script_34 : decode cX12_script 34 = .ok (.sipush 1650, 3) := by decide +kernel
theorem dX12_script_37 : decode cX12_script 37 = .ok (.if_icmp .ge 20, 3) := by decide +kernel
theorem dX12_script_57 : decode cX12_script 57 = .ok (.aload_n 0, 1) := by decide +kernel
theorem dX12_script_58 : decode cX12_script 58 = .ok (.invokevirtual 184, 3) := by decide +kernel
theorem dX12_script_61 : decode cX12_script 61 = .ok (.aload_n 0, 1) := by decide +kernel
theorem dX12_script_62 : decode cX12_script 62 = .ok (.getfield 167, 3) := by decide +kernel
theorem dX12_script_73 : decode cX12_script 73 = .ok (.istore_n 3, 1) := by decide +kernel
theorem dX12_script_74 : decode cX12_script 74 = .ok (.iload_n 3, 1) := by decide +kernel
theorem dX12_script_75 : decode cX12_script 75 = .ok (.ifCond .eq 26, 3) := by decide +kernel
theorem dX12_script_101 : decode cX12_script 101 = .ok (.aload_n 0, 1) := by decide +kernel
theorem dX12_script_102 : decode cX12_script 102 = .ok (.getfield 181, 3) := by decide +kernel
theorem dX12_script_182 : decode cX12_script 182 = .ok (.aload_n 0, 1) := by decide +kernel
theorem dX12_script_183 : decode cX12_script 183 = .ok (.aload_n 0, 1) := by decide +kernel
theorem dX12_script_184 : decode cX12_script 184 = .ok (.getfield 181, 3) := by decide +kernel
theorem dX12_script_187 : decode cX12_script 187 = .ok (.putfield 34, 3) := by decide +kernel
theorem dX12_script_190 : decode cX12_script 190 = .ok (.aload_n 0, 1) := by decide +kernel
theorem dX12_script_191 : decode cX12_script 191 = .ok (.getfield 181, 3) := by decide +kernel
theorem dX12_script_194 : decode cX12_script 194 = .ok (.ifCond .le 10, 3) := by decide +kernel
theorem dX12_script_204 : decode cX12_script 204 = .ok (.aload_n 0, 1) := by decide +kernel
theorem dX12_script_205 : decode cX12_script 205 = .ok (.sipush 20760, 3) := by decide +kernel
theorem dX12_script_208 : decode cX12_script 208 = .ok (.invokevirtual 291, 3) := by decide +kernel
theorem dX12_script_211 : decode cX12_script 211 = .ok (.aload_n 0, 1) := by decide +kernel
theorem dX12_script_212 : decode cX12_script 212 = .ok (.sipush 20760, 3) := by decide +kernel
theorem dX12_script_215 : decode cX12_script 215 = .ok (.sipush 1650, 3) := by decide +kernel
theorem dX12_script_218 : decode cX12_script 218 = .ok (.iload_n 1, 1) := by decide +kernel
theorem dX12_script_219 : decode cX12_script 219 = .ok (.imul, 1) := by decide +kernel
theorem dX12_script_220 : decode cX12_script 220 = .ok (.sipush 1650, 3) := by decide +kernel
theorem dX12_script_223 : decode cX12_script 223 = .ok (.invokevirtual 294, 3) := by decide +kernel
theorem dX12_script_226 : decode cX12_script 226 = .ok (.aload_n 0, 1) := by decide +kernel
theorem dX12_script_227 : decode cX12_script 227 = .ok (.aload_n 0, 1) := by decide +kernel
theorem dX12_script_228 : decode cX12_script 228 = .ok (.getfield 7, 3) := by decide +kernel
theorem dX12_script_231 : decode cX12_script 231 = .ok (.sipush 20761, 3) := by decide +kernel
theorem dX12_script_234 : decode cX12_script 234 = .ok (.laload, 1) := by decide +kernel
theorem dX12_script_235 : decode cX12_script 235 = .ok (.l2i, 1) := by decide +kernel
theorem dX12_script_236 : decode cX12_script 236 = .ok (.invokevirtual 209, 3) := by decide +kernel
theorem dX12_script_239 : decode cX12_script 239 = .ok (.ireturn, 1) := by decide +kernel
theorem dX12_script_197 : decode cX12_script 197 = .ok (.aload_n 0, 1) := by decide +kernel
theorem dX12_script_198 : decode cX12_script 198 = .ok (.bipush 9, 2) := by decide +kernel
theorem dX12_script_200 : decode cX12_script 200 = .ok (.invokevirtual 194, 3) := by decide +kernel
theorem dX12_script_203 : decode cX12_script 203 = .ok (.ireturn, 1) := by decide +kernel
theorem dX12_script_105 : decode cX12_script 105 = .ok (.ifCond .ne 77, 3) := by decide +kernel
theorem dX12_script_108 : decode cX12_script 108 = .ok (.aload_n 0, 1) := by decide +kernel
theorem dX12_script_109 : decode cX12_script 109 = .ok (.iconst (-1), 1) := by decide +kernel
theorem dX12_script_110 : decode cX12_script 110 = .ok (.putfield 279, 3) := by decide +kernel
theorem dX12_script_113 : decode cX12_script 113 = .ok (.iconst 0, 1) := by decide +kernel
theorem dX12_script_114 : decode cX12_script 114 = .ok (.istore 4, 2) := by decide +kernel
theorem dX12_script_116 : decode cX12_script 116 = .ok (.iload 4, 2) := by decide +kernel
theorem dX12_script_118 : decode cX12_script 118 = .ok (.i2l, 1) := by decide +kernel
theorem dX12_script_119 : decode cX12_script 119 = .ok (.aload_n 0, 1) := by decide +kernel
theorem dX12_script_120 : decode cX12_script 120 = .ok (.getfield 7, 3) := by decide +kernel
theorem dX12_script_123 : decode cX12_script 123 = .ok (.sipush 20761, 3) := by decide +kernel
theorem dX12_script_126 : decode cX12_script 126 = .ok (.laload, 1) := by decide +kernel
theorem dX12_script_127 : decode cX12_script 127 = .ok (.lcmp, 1) := by decide +kernel
theorem dX12_script_128 : decode cX12_script 128 = .ok (.ifCond .ge 25, 3) := by decide +kernel
theorem dX12_script_153 : decode cX12_script 153 = .ok (.aload_n 0, 1) := by decide +kernel
theorem dX12_script_154 : decode cX12_script 154 = .ok (.sipush 22252, 3) := by decide +kernel
theorem dX12_script_157 : decode cX12_script 157 = .ok (.invokevirtual 288, 3) := by decide +kernel
theorem mw_741 : Cond.methodLink RX12 288 yX12_leads ∈ wsL_law := inr_31 _ (List.mem_of_getElem? (i := 21) rfl)
theorem mw_744 : Cond.code yX12_leads cX12_leads 5 none ∈ wsL_law := inr_32 _ (List.mem_of_getElem? (i := 0) rfl)
theorem yk_X12_leads : xY yX12_leads RX12 cX12_leads 5 none 1 := ⟨⟨rfl, by decide +kernel, by decide +kernel, by decide +kernel⟩, mw_5, mw_744⟩
theorem mw_742 : Cond.instanceMethod yX12_leads ∈ wsL_law := inr_31 _ (List.mem_of_getElem? (i := 22) rfl)
theorem mw_743 : Cond.selects RX12 yX12_leads yX12_leads ∈ wsL_law := inr_31 _ (List.mem_of_getElem? (i := 23) rfl)
theorem dX12_script_160 : decode cX12_script 160 = .ok (.aload_n 0, 1) := by decide +kernel
theorem dX12_script_161 : decode cX12_script 161 = .ok (.getfield 279, 3) := by decide +kernel
theorem dX12_script_164 : decode cX12_script 164 = .ok (.iconst (-1), 1) := by decide +kernel
theorem dX12_script_165 : decode cX12_script 165 = .ok (.if_icmp .eq 17, 3) := by decide +kernel
theorem dX12_script_168 : decode cX12_script 168 = .ok (.aload_n 0, 1) := by decide +kernel
theorem dX12_script_169 : decode cX12_script 169 = .ok (.bipush 6, 2) := by decide +kernel
theorem dX12_script_171 : decode cX12_script 171 = .ok (.putfield 181, 3) := by decide +kernel
theorem dX12_script_174 : decode cX12_script 174 = .ok (.aload_n 0, 1) := by decide +kernel
theorem dX12_script_175 : decode cX12_script 175 = .ok (.aload_n 0, 1) := by decide +kernel
theorem dX12_script_176 : decode cX12_script 176 = .ok (.getfield 279, 3) := by decide +kernel
theorem dX12_script_179 : decode cX12_script 179 = .ok (.putfield 38, 3) := by decide +kernel
theorem dX12_script_131 : decode cX12_script 131 = .ok (.aload_n 0, 1) := by decide +kernel
theorem dX12_script_132 : decode cX12_script 132 = .ok (.sipush 20812, 3) := by decide +kernel
theorem dX12_script_135 : decode cX12_script 135 = .ok (.bipush 60, 2) := by decide +kernel
theorem dX12_script_137 : decode cX12_script 137 = .ok (.iload 4, 2) := by decide +kernel
theorem dX12_script_139 : decode cX12_script 139 = .ok (.imul, 1) := by decide +kernel
theorem dX12_script_140 : decode cX12_script 140 = .ok (.iadd, 1) := by decide +kernel
theorem dX12_script_141 : decode cX12_script 141 = .ok (.bipush 11, 2) := by decide +kernel
theorem dX12_script_143 : decode cX12_script 143 = .ok (.iadd, 1) := by decide +kernel
theorem dX12_script_144 : decode cX12_script 144 = .ok (.invokevirtual 288, 3) := by decide +kernel
theorem dX12_script_147 : decode cX12_script 147 = .ok (.iinc 4 1, 3) := by decide +kernel
theorem dX12_script_150 : decode cX12_script 150 = .ok (.goto (-34), 3) := by decide +kernel
theorem dX12_script_78 : decode cX12_script 78 = .ok (.aload_n 0, 1) := by decide +kernel
theorem dX12_script_79 : decode cX12_script 79 = .ok (.invokevirtual 285, 3) := by decide +kernel
theorem mw_639 : Cond.methodLink RX12 285 yX12_part ∈ wsL_law := inr_27 _ (List.mem_of_getElem? (i := 15) rfl)
theorem mw_642 : Cond.code yX12_part cX12_part 3 (some .boolean) ∈ wsL_law := inr_27 _ (List.mem_of_getElem? (i := 18) rfl)
theorem yk_X12_part : xY yX12_part RX12 cX12_part 3 (some .boolean) 0 := ⟨⟨rfl, by decide +kernel, by decide +kernel, by decide +kernel⟩, mw_5, mw_642⟩
theorem mw_640 : Cond.instanceMethod yX12_part ∈ wsL_law := inr_27 _ (List.mem_of_getElem? (i := 16) rfl)
theorem mw_641 : Cond.selects RX12 yX12_part yX12_part ∈ wsL_law := inr_27 _ (List.mem_of_getElem? (i := 17) rfl)
theorem dX12_script_97 : decode cX12_script 97 = .ok (.istore_n 3, 1) := by decide +kernel
theorem dX12_script_98 : decode cX12_script 98 = .ok (.goto (-24), 3) := by decide +kernel
theorem dX12_script_96 : decode cX12_script 96 = .ok (.iconst 0, 1) := by decide +kernel
theorem dX12_script_82 : decode cX12_script 82 = .ok (.ifCond .eq 14, 3) := by decide +kernel
theorem dX12_script_85 : decode cX12_script 85 = .ok (.aload_n 0, 1) := by decide +kernel
theorem dX12_script_86 : decode cX12_script 86 = .ok (.getfield 167, 3) := by decide +kernel
theorem dX12_script_89 : decode cX12_script 89 = .ok (.ifCond .eq 7, 3) := by decide +kernel
theorem dX12_script_92 : decode cX12_script 92 = .ok (.iconst 1, 1) := by decide +kernel
theorem dX12_script_93 : decode cX12_script 93 = .ok (.goto 4, 3) := by decide +kernel
theorem dX12_script_65 : decode cX12_script 65 = .ok (.ifCond .eq 7, 3) := by decide +kernel
theorem dX12_script_72 : decode cX12_script 72 = .ok (.iconst 0, 1) := by decide +kernel
theorem dX12_script_68 : decode cX12_script 68 = .ok (.iconst 1, 1) := by decide +kernel
theorem dX12_script_69 : decode cX12_script 69 = .ok (.goto 4, 3) := by decide +kernel
theorem dX12_script_40 : decode cX12_script 40 = .ok (.aload_n 0, 1) := by decide +kernel
theorem dX12_script_41 : decode cX12_script 41 = .ok (.getfield 7, 3) := by decide +kernel
theorem dX12_script_44 : decode cX12_script 44 = .ok (.sipush 20760, 3) := by decide +kernel
theorem dX12_script_47 : decode cX12_script 47 = .ok (.iload_n 3, 1) := by decide +kernel
theorem dX12_script_48 : decode cX12_script 48 = .ok (.iadd, 1) := by decide +kernel
theorem dX12_script_49 : decode cX12_script 49 = .ok (.lconst 0, 1) := by decide +kernel
theorem dX12_script_50 : decode cX12_script 50 = .ok (.lastore, 1) := by decide +kernel
theorem dX12_script_51 : decode cX12_script 51 = .ok (.iinc 3 1, 3) := by decide +kernel
theorem dX12_script_54 : decode cX12_script 54 = .ok (.goto (-21), 3) := by decide +kernel
def rm_X12_script : Room := { frames := 10, cells := 0, slots := 0, locals := 222 }
set_option maxHeartbeats 4000000 in
set_option maxRecDepth 100000 in
theorem s_X12_script (l : Launch) (D : va_G) (cy : Nat → ClassId) (L : List Nat) (R O : Nat → Nat) (f0 : Nat → va_E) (a0 : Nat) (m_a0 : a0 ∈ L) (r_a0 : R a0 = 12) (x1 : Int32) (x2 : Int32) (GA : Nat) (m_GA : GA ∈ L) (r_GA : R GA = 61) (t_GA : fld f0 a0 0 = .ref GA) (GP : Nat) (m_GP : GP ∈ L) (r_GP : R GP = 69) (t_GP : fld f0 a0 22 = .ref GP) (GL : Nat) (m_GL : GL ∈ L) (r_GL : R GL = 70) (t_GL : fld f0 a0 23 = .ref GL) (GT : Nat) (m_GT : GT ∈ L) (r_GT : R GT = 64) (t_GT : fld f0 a0 6 = .ref GT) (pre0 : RBA GA f0) (pre1 : GZ GP GL f0) : ∀ sz, Met l yX12_script (Cond.code yX12_script cX12_script 5 (some .int) :: wsL_law) rm_X12_script (va_Pc [.ref a0, .int x1, .int x2] (tPZ D cy L R (TT cy L R) f0 sz)) (va_Qi (fun (r : Int32) f1 => fr L R [(12, 1), (12, 9), (12, 10), (12, 11), (12, 12), (12, 13), (12, 14), (12, 15), (12, 16), (12, 17), (12, 19), (12, 20)] [12, 61, 66] f0 f1 ∧ RBA GA f1 ∧ GZ GP GL f1) (tB D (tA L sz) L R (TT cy L R)) (tA L sz)) 0 0 (tA L sz) := by
  refine tw_enteri (by decide +kernel) rfl (Nat.le_of_ble_eq_true rfl) ?_
  intro p e s m below meth c A ls args Q F hZ h hl hret
  have hl : lv_has ls 5 [(0, .ref a0), (1, .int x1), (2, .int x2)] := hl
  have hk : fr L R [(12, 1), (12, 9), (12, 10), (12, 11), (12, 12), (12, 13), (12, 14), (12, 15), (12, 16), (12, 17), (12, 19), (12, 20)] [12, 61, 66] f0 f0 := fr.rf
  have hR := pre0
  have hX := pre1
  refine lv_aload_n F.1 F.2.1 dX12_script_0 rfl (lv_at hl 0 rfl) ?_
  refine lv_iload_n F.1 F.2.1 dX12_script_1 rfl (lv_at hl 1 rfl) ?_
  refine tw_Vi (As := [.int x1]) F hZ h yk_X12_isScript mw_635 mw_636 mw_637 (s_X12_isScript l D cy L R O f0 a0 m_a0 r_a0 x1) rfl rfl m_a0 r_a0 (fun e q => (T_12 e).mp q) rfl hl.1 rfl (Nat.le_of_ble_eq_true rfl) ⟨Nat.le_of_ble_eq_true rfl, Nat.le_of_ble_eq_true rfl⟩ ⟨Nat.le_of_ble_eq_true rfl, Nat.le_of_ble_eq_true rfl⟩ dX12_script_2 (fun v2 f1 H locs hp1 h => ?_)
  obtain ⟨rfl, hv2a, hv2b, hv2p0⟩ := hp1
  refine tw_if_eq (tgt := 20) F dX12_script_5 (by decide) (fun b3 => ?_) (fun b3 => ?_)
  · refine lv_aload_n F.1 F.2.1 dX12_script_20 rfl (lv_at hl 0 rfl) ?_
    refine tw_iconst F dX12_script_21 ki_1 (fun z4 hz4 => ?_)
    refine tw_Vi (As := [.int z4]) F hZ h yk_X12_refuse mw_452 mw_453 mw_454 (s_X12_refuse l D cy L R O f0 a0 m_a0 r_a0 z4 ⟨by omega, by omega⟩) rfl rfl m_a0 r_a0 (fun e q => (T_12 e).mp q) rfl hl.1 rfl (Nat.le_of_ble_eq_true rfl) ⟨Nat.le_of_ble_eq_true rfl, Nat.le_of_ble_eq_true rfl⟩ ⟨Nat.le_of_ble_eq_true rfl, Nat.le_of_ble_eq_true rfl⟩ dX12_script_22 (fun v6 f5 H locs hp5 h => ?_)
    obtain ⟨hf5, hv6a, hv6b⟩ := hp5
    have hR : RBA GA f5 := hR.fm hf5 m_GA r_GA (by decide +kernel)
    have hX : GZ GP GL f5 := hX.fm hf5 m_GP r_GP m_GL r_GL (by decide +kernel) (by decide +kernel)
    have hk : fr L R [(12, 1), (12, 9), (12, 10), (12, 11), (12, 12), (12, 13), (12, 14), (12, 15), (12, 16), (12, 17), (12, 19), (12, 20)] [12, 61, 66] f0 f5 := hk.tr hf5 rfl rfl
    have e7 : fld f5 a0 0 = .ref GA := (hf5.efl m_a0 r_a0 rfl).trans t_GA
    have e8 : fld f5 a0 22 = .ref GP := (hf5.efl m_a0 r_a0 rfl).trans t_GP
    have e9 : fld f5 a0 23 = .ref GL := (hf5.efl m_a0 r_a0 rfl).trans t_GL
    have e10 : fld f5 a0 6 = .ref GT := (hf5.efl m_a0 r_a0 rfl).trans t_GT
    exact hret f5 _ _ _ _ v6 dX12_script_25 rfl ⟨hk, hR, hX⟩ h
  · refine lv_iload_n F.1 F.2.1 dX12_script_8 rfl (lv_at hl 2 rfl) ?_
    refine tw_if_lt (tgt := 20) F dX12_script_9 (by decide) (fun b11 => ?_) (fun b11 => ?_)
    · refine lv_aload_n F.1 F.2.1 dX12_script_20 rfl (lv_at hl 0 rfl) ?_
      refine tw_iconst F dX12_script_21 ki_1 (fun z12 hz12 => ?_)
      refine tw_Vi (As := [.int z12]) F hZ h yk_X12_refuse mw_452 mw_453 mw_454 (s_X12_refuse l D cy L R O f0 a0 m_a0 r_a0 z12 ⟨by omega, by omega⟩) rfl rfl m_a0 r_a0 (fun e q => (T_12 e).mp q) rfl hl.1 rfl (Nat.le_of_ble_eq_true rfl) ⟨Nat.le_of_ble_eq_true rfl, Nat.le_of_ble_eq_true rfl⟩ ⟨Nat.le_of_ble_eq_true rfl, Nat.le_of_ble_eq_true rfl⟩ dX12_script_22 (fun v14 f13 H locs hp13 h => ?_)
      obtain ⟨hf13, hv14a, hv14b⟩ := hp13
      have hR : RBA GA f13 := hR.fm hf13 m_GA r_GA (by decide +kernel)
      have hX : GZ GP GL f13 := hX.fm hf13 m_GP r_GP m_GL r_GL (by decide +kernel) (by decide +kernel)
      have hk : fr L R [(12, 1), (12, 9), (12, 10), (12, 11), (12, 12), (12, 13), (12, 14), (12, 15), (12, 16), (12, 17), (12, 19), (12, 20)] [12, 61, 66] f0 f13 := hk.tr hf13 rfl rfl
      have e15 : fld f13 a0 0 = .ref GA := (hf13.efl m_a0 r_a0 rfl).trans t_GA
      have e16 : fld f13 a0 22 = .ref GP := (hf13.efl m_a0 r_a0 rfl).trans t_GP
      have e17 : fld f13 a0 23 = .ref GL := (hf13.efl m_a0 r_a0 rfl).trans t_GL
      have e18 : fld f13 a0 6 = .ref GT := (hf13.efl m_a0 r_a0 rfl).trans t_GT
      exact hret f13 _ _ _ _ v14 dX12_script_25 rfl ⟨hk, hR, hX⟩ h
    · refine lv_iload_n F.1 F.2.1 dX12_script_12 rfl (lv_at hl 2 rfl) ?_
      refine lv_aload_n F.1 F.2.1 dX12_script_13 rfl (lv_at hl 0 rfl) ?_
      refine g_12_144 F h m_a0 r_a0 dX12_script_14 (fun v19 hv19 hv19a hv19b => ?_)
      refine tw_icmp_le (tgt := 26) F dX12_script_17 (by decide) (fun b20 => ?_) (fun b20 => ?_)
      · refine lv_aload_n F.1 F.2.1 dX12_script_26 rfl (lv_at hl 0 rfl) ?_
        refine lv_iload_n F.1 F.2.1 dX12_script_27 rfl (lv_at hl 2 rfl) ?_
        refine tw_Vv (As := [.int x2]) F hZ h yk_X12_begins mw_456 mw_457 mw_458 (s_X12_begins l D cy L R O f0 a0 m_a0 r_a0 x2 ⟨by omega, by omega⟩) rfl rfl m_a0 r_a0 (fun e q => (T_12 e).mp q) rfl hl.1 rfl (Nat.le_of_ble_eq_true rfl) ⟨Nat.le_of_ble_eq_true rfl, Nat.le_of_ble_eq_true rfl⟩ ⟨Nat.le_of_ble_eq_true rfl, Nat.le_of_ble_eq_true rfl⟩ dX12_script_28 (fun f21 H locs hp21 h => ?_)
        have hf21 := hp21
        have hR : RBA GA f21 := hR.fm hf21 m_GA r_GA (by decide +kernel)
        have hX : GZ GP GL f21 := hX.fm hf21 m_GP r_GP m_GL r_GL (by decide +kernel) (by decide +kernel)
        have hk : fr L R [(12, 1), (12, 9), (12, 10), (12, 11), (12, 12), (12, 13), (12, 14), (12, 15), (12, 16), (12, 17), (12, 19), (12, 20)] [12, 61, 66] f0 f21 := hk.tr hf21 (by decide +kernel) (by decide +kernel)
        have e23 : fld f21 a0 0 = .ref GA := (hf21.efl m_a0 r_a0 rfl).trans t_GA
        have e24 : fld f21 a0 22 = .ref GP := (hf21.efl m_a0 r_a0 rfl).trans t_GP
        have e25 : fld f21 a0 23 = .ref GL := (hf21.efl m_a0 r_a0 rfl).trans t_GL
        have e26 : fld f21 a0 6 = .ref GT := (hf21.efl m_a0 r_a0 rfl).trans t_GT
        refine tw_iconst F dX12_script_31 ki_0 (fun z27 hz27 => ?_)
        refine lv_istore_n (lv' := [(3, .int z27), (0, .ref a0), (1, .int x1), (2, .int x2)]) F.1 F.2.1 dX12_script_32 rfl hl (by decide) rfl (fun ls hl => ?_)
        have j_33 : ∀ (n33 : Nat) (f28 : Nat → va_E) (H : Heap) (locs : List Loc) (ls : Array Slot) (x3_33 : Int32), 0 ≤ x3_33.toInt → x3_33.toInt ≤ 1650 → ((∀ q : Nat, (q : Int) < x3_33.toInt → elj f28 GA (20760 + q) = 0)) → ((1650 - x3_33.toInt)).toNat < n33 → tS D cy A s.heap L R (TT cy L R) f28 s H locs → RBA GA f28 → GZ GP GL f28 → fr L R [(12, 1), (12, 9), (12, 10), (12, 11), (12, 12), (12, 13), (12, 14), (12, 15), (12, 16), (12, 17), (12, 19), (12, 20)] [12, 61, 66] f0 f28 → fr L R [] [61] f21 f28 → lv_has ls 5 [(0, .ref a0), (1, .int x1), (3, .int x3_33)] → W p l e rm_X12_script s m args below meth c H locs 0 0 Q (F0 m 33 ls []) := by
          intro n33
          induction n33 with
          | zero =>
            intro f28 H locs ls x3_33 b29 b30 ip33_0 b31 h hR hX hk hb33 hl
            exfalso
            omega
          | succ n33 ih33 =>
            intro f28 H locs ls x3_33 b29 b30 ip33_0 b31 h hR hX hk hb33 hl
            have e32 : fld f28 a0 0 = .ref GA := (hb33.efl m_a0 r_a0 rfl).trans e23
            have e33 : fld f28 a0 22 = .ref GP := (hb33.efl m_a0 r_a0 rfl).trans e24
            have e34 : fld f28 a0 23 = .ref GL := (hb33.efl m_a0 r_a0 rfl).trans e25
            have e35 : fld f28 a0 6 = .ref GT := (hb33.efl m_a0 r_a0 rfl).trans e26
            refine lv_iload_n F.1 F.2.1 dX12_script_33 rfl (lv_at hl 2 rfl) ?_
            refine tw_sipush F dX12_script_34 ks_1650 (fun z36 hz36 => ?_)
            refine tw_icmp_ge (tgt := 57) F dX12_script_37 (by decide) (fun b37 => ?_) (fun b37 => ?_)
            · have hRN : RB GA 20760 f28 := RB_0 (fun q hq => ip33_0 q (by omega))
              refine lv_aload_n F.1 F.2.1 dX12_script_57 rfl (lv_at hl 0 rfl) ?_
              refine tw_Vv (As := []) F hZ h yk_X12_ahead0 mw_468 mw_469 mw_470 (s_X12_ahead0 l D cy L R O f28 a0 m_a0 r_a0) rfl rfl m_a0 r_a0 (fun e q => (T_12 e).mp q) rfl hl.1 rfl (Nat.le_of_ble_eq_true rfl) ⟨Nat.le_of_ble_eq_true rfl, Nat.le_of_ble_eq_true rfl⟩ ⟨Nat.le_of_ble_eq_true rfl, Nat.le_of_ble_eq_true rfl⟩ dX12_script_58 (fun f38 H locs hp38 h => ?_)
              obtain ⟨hf38, hv39p0⟩ := hp38
              have hR : RBA GA f38 := hR.fm hf38 m_GA r_GA (by decide +kernel)
              have hX : GZ GP GL f38 := hX.fm hf38 m_GP r_GP m_GL r_GL (by decide +kernel) (by decide +kernel)
              have hRN : RB GA 20760 f38 := hRN.fm hf38 m_GA r_GA (by decide +kernel)
              have hk : fr L R [(12, 1), (12, 9), (12, 10), (12, 11), (12, 12), (12, 13), (12, 14), (12, 15), (12, 16), (12, 17), (12, 19), (12, 20)] [12, 61, 66] f0 f38 := hk.tr hf38 rfl rfl
              have e40 : fld f38 a0 0 = .ref GA := (hf38.efl m_a0 r_a0 rfl).trans e32
              have e41 : fld f38 a0 22 = .ref GP := (hf38.efl m_a0 r_a0 rfl).trans e33
              have e42 : fld f38 a0 23 = .ref GL := (hf38.efl m_a0 r_a0 rfl).trans e34
              have e43 : fld f38 a0 6 = .ref GT := (hf38.efl m_a0 r_a0 rfl).trans e35
              have su58 := SU_le h m_GA r_GA
              refine lv_aload_n F.1 F.2.1 dX12_script_61 rfl (lv_at hl 0 rfl) ?_
              refine g_12_167 F h m_a0 r_a0 dX12_script_62 (fun v44 hv44 hv44a hv44b => ?_)
              have j_73 : ∀ (ls : Array Slot) (y0_73 : Int32), 0 ≤ y0_73.toInt → y0_73.toInt ≤ 1 → lv_has ls 5 [(0, .ref a0), (1, .int x1)] → W p l e rm_X12_script s m args below meth c H locs 0 0 Q (F0 m 73 ls [.int y0_73]) := by
                intro ls y0_73 b45 b46 hl
                refine lv_istore_n (lv' := [(3, .int y0_73), (0, .ref a0), (1, .int x1)]) F.1 F.2.1 dX12_script_73 rfl hl (by decide) rfl (fun ls hl => ?_)
                have j_74 : ∀ (n74 : Nat) (f47 : Nat → va_E) (H : Heap) (locs : List Loc) (ls : Array Slot) (x3_74 : Int32), 0 ≤ x3_74.toInt → x3_74.toInt ≤ 1 → SU GA f47 ≤ 49 → ((2 * (49 - SU GA f47) + x3_74.toInt)).toNat < n74 → tS D cy A s.heap L R (TT cy L R) f47 s H locs → RBA GA f47 → GZ GP GL f47 → RB GA 20760 f47 → fr L R [(12, 1), (12, 9), (12, 10), (12, 11), (12, 12), (12, 13), (12, 14), (12, 15), (12, 16), (12, 17), (12, 19), (12, 20)] [12, 61, 66] f0 f47 → fr L R [(12, 11), (12, 12), (12, 13), (12, 14), (12, 16), (12, 17), (12, 19)] [12, 61] f38 f47 → lv_has ls 5 [(0, .ref a0), (1, .int x1), (3, .int x3_74)] → W p l e rm_X12_script s m args below meth c H locs 0 0 Q (F0 m 74 ls []) := by
                  intro n74
                  induction n74 with
                  | zero =>
                    intro f47 H locs ls x3_74 b48 b49 b50 b51 h hR hX hRN hk hb74 hl
                    exfalso
                    omega
                  | succ n74 ih74 =>
                    intro f47 H locs ls x3_74 b48 b49 b50 b51 h hR hX hRN hk hb74 hl
                    have e52 : fld f47 a0 0 = .ref GA := (hb74.efl m_a0 r_a0 rfl).trans e40
                    have e53 : fld f47 a0 22 = .ref GP := (hb74.efl m_a0 r_a0 rfl).trans e41
                    have e54 : fld f47 a0 23 = .ref GL := (hb74.efl m_a0 r_a0 rfl).trans e42
                    have e55 : fld f47 a0 6 = .ref GT := (hb74.efl m_a0 r_a0 rfl).trans e43
                    refine lv_iload_n F.1 F.2.1 dX12_script_74 rfl (lv_at hl 2 rfl) ?_
                    refine tw_if_eq (tgt := 101) F dX12_script_75 (by decide) (fun b56 => ?_) (fun b56 => ?_)
                    · refine lv_aload_n F.1 F.2.1 dX12_script_101 rfl (lv_at hl 0 rfl) ?_
                      refine g_12_181 F h m_a0 r_a0 dX12_script_102 (fun v57 hv57 => ?_)
                      have j_182 : ∀ (f58 : Nat → va_E) (H : Heap) (locs : List Loc) (ls : Array Slot), tS D cy A s.heap L R (TT cy L R) f58 s H locs → RBA GA f58 → GZ GP GL f58 → RB GA 20760 f58 → fr L R [(12, 1), (12, 9), (12, 10), (12, 11), (12, 12), (12, 13), (12, 14), (12, 15), (12, 16), (12, 17), (12, 19), (12, 20)] [12, 61, 66] f0 f58 → fr L R [(12, 16), (12, 17), (12, 20)] [12, 61] f47 f58 → lv_has ls 5 [(0, .ref a0), (1, .int x1)] → W p l e rm_X12_script s m args below meth c H locs 0 0 Q (F0 m 182 ls []) := by
                        intro f58 H locs ls h hR hX hRN hk hb182 hl
                        have e59 : fld f58 a0 0 = .ref GA := (hb182.efl m_a0 r_a0 rfl).trans e52
                        have e60 : fld f58 a0 22 = .ref GP := (hb182.efl m_a0 r_a0 rfl).trans e53
                        have e61 : fld f58 a0 23 = .ref GL := (hb182.efl m_a0 r_a0 rfl).trans e54
                        have e62 : fld f58 a0 6 = .ref GT := (hb182.efl m_a0 r_a0 rfl).trans e55
                        have e63 : fi f58 a0 11 = fi f47 a0 11 := hb182.efi m_a0 r_a0 rfl
                        refine lv_aload_n F.1 F.2.1 dX12_script_182 rfl (lv_at hl 0 rfl) ?_
                        refine lv_aload_n F.1 F.2.1 dX12_script_183 rfl (lv_at hl 0 rfl) ?_
                        refine g_12_181 F h m_a0 r_a0 dX12_script_184 (fun v64 hv64 => ?_)
                        refine p_12_34 F h m_a0 r_a0 dX12_script_187 (fun f65 H locs e65p hf65 h => ?_)
                        have hR : RBA GA f65 := hR.fm hf65 m_GA r_GA (by decide +kernel)
                        have hX : GZ GP GL f65 := hX.fm hf65 m_GP r_GP m_GL r_GL (by decide +kernel) (by decide +kernel)
                        have hRN : RB GA 20760 f65 := hRN.fm hf65 m_GA r_GA (by decide +kernel)
                        have hk : fr L R [(12, 1), (12, 9), (12, 10), (12, 11), (12, 12), (12, 13), (12, 14), (12, 15), (12, 16), (12, 17), (12, 19), (12, 20)] [12, 61, 66] f0 f65 := hk.tr hf65 rfl rfl
                        have e66 : fld f65 a0 0 = .ref GA := (hf65.efl m_a0 r_a0 rfl).trans e59
                        have e67 : fld f65 a0 22 = .ref GP := (hf65.efl m_a0 r_a0 rfl).trans e60
                        have e68 : fld f65 a0 23 = .ref GL := (hf65.efl m_a0 r_a0 rfl).trans e61
                        have e69 : fld f65 a0 6 = .ref GT := (hf65.efl m_a0 r_a0 rfl).trans e62
                        have e70 : fi f65 a0 11 = fi f58 a0 11 := hf65.efi m_a0 r_a0 rfl
                        have e71 : fi f65 a0 17 = fi f58 a0 17 := hf65.efi m_a0 r_a0 rfl
                        refine lv_aload_n F.1 F.2.1 dX12_script_190 rfl (lv_at hl 0 rfl) ?_
                        refine g_12_181 F h m_a0 r_a0 dX12_script_191 (fun v72 hv72 => ?_)
                        refine tw_if_le (tgt := 204) F dX12_script_194 (by decide) (fun b73 => ?_) (fun b73 => ?_)
                        · refine lv_aload_n F.1 F.2.1 dX12_script_204 rfl (lv_at hl 0 rfl) ?_
                          refine tw_sipush F dX12_script_205 ks_20760 (fun z74 hz74 => ?_)
                          refine tw_Vv (As := [.int z74]) F hZ h yk_X12_fresh mw_745 mw_746 mw_747 (s_X12_fresh l D cy L R O f65 a0 m_a0 r_a0 z74 ⟨by omega, by omega⟩ GA m_GA r_GA e66 GP m_GP r_GP e67 GL m_GL r_GL e68 GT m_GT r_GT e69 (isB_e isB_n (by omega))) rfl rfl m_a0 r_a0 (fun e q => (T_12 e).mp q) rfl hl.1 rfl (Nat.le_of_ble_eq_true rfl) ⟨Nat.le_of_ble_eq_true rfl, Nat.le_of_ble_eq_true rfl⟩ ⟨Nat.le_of_ble_eq_true rfl, Nat.le_of_ble_eq_true rfl⟩ dX12_script_208 (fun f75 H locs hp75 h => ?_)
                          obtain ⟨hf75, hv76p0⟩ := hp75
                          have hR : RBA GA f75 := hR.kw hv76p0 (Or.inl (by omega))
                          have hX : GZ GP GL f75 := hX.fm hf75 m_GP r_GP m_GL r_GL (by decide +kernel) (by decide +kernel)
                          have hRN : RB GA 20760 f75 := hRN.kw hv76p0 (by omega)
                          have hk : fr L R [(12, 1), (12, 9), (12, 10), (12, 11), (12, 12), (12, 13), (12, 14), (12, 15), (12, 16), (12, 17), (12, 19), (12, 20)] [12, 61, 66] f0 f75 := hk.tr hf75 rfl rfl
                          have e77 : fld f75 a0 0 = .ref GA := (hf75.efl m_a0 r_a0 rfl).trans e66
                          have e78 : fld f75 a0 22 = .ref GP := (hf75.efl m_a0 r_a0 rfl).trans e67
                          have e79 : fld f75 a0 23 = .ref GL := (hf75.efl m_a0 r_a0 rfl).trans e68
                          have e80 : fld f75 a0 6 = .ref GT := (hf75.efl m_a0 r_a0 rfl).trans e69
                          have e81 : fi f75 a0 11 = fi f65 a0 11 := hf75.efi m_a0 r_a0 rfl
                          have e82 : fi f75 a0 17 = fi f65 a0 17 := hf75.efi m_a0 r_a0 rfl
                          refine lv_aload_n F.1 F.2.1 dX12_script_211 rfl (lv_at hl 0 rfl) ?_
                          refine tw_sipush F dX12_script_212 ks_20760 (fun z83 hz83 => ?_)
                          refine tw_sipush F dX12_script_215 ks_1650 (fun z84 hz84 => ?_)
                          refine lv_iload_n F.1 F.2.1 dX12_script_218 rfl (lv_at hl 1 rfl) ?_
                          refine tu_imull F dX12_script_219 hz84 (by omega) (fun z85 hz85 => ?_)
                          refine tw_sipush F dX12_script_220 ks_1650 (fun z86 hz86 => ?_)
                          have hR0 := hR
                          have hRN0 := hRN
                          refine tw_Vv (As := [.int z83, .int z85, .int z86]) F hZ h yk_X12_copies mw_749 mw_750 mw_751 (s_X12_copies l D cy L R O f75 a0 m_a0 r_a0 z83 ⟨by omega, by omega⟩ z85 ⟨by omega, by omega⟩ z86 ⟨by omega, by omega⟩ GA m_GA r_GA e77 GP m_GP r_GP e78 GL m_GL r_GL e79 GT m_GT r_GT e80 (by rw [show z86.toInt.toNat = 1650 by omega]; exact CPc_B (isB_e isB_n (by omega)) (isB_e (isB_s (s := x1.toInt.toNat) (by omega)) (by omega))) (by omega) (by omega) (by omega)) rfl rfl m_a0 r_a0 (fun e q => (T_12 e).mp q) rfl hl.1 rfl (Nat.le_of_ble_eq_true rfl) ⟨Nat.le_of_ble_eq_true rfl, Nat.le_of_ble_eq_true rfl⟩ ⟨Nat.le_of_ble_eq_true rfl, Nat.le_of_ble_eq_true rfl⟩ dX12_script_223 (fun f87 H locs hp87 h => ?_)
                          obtain ⟨hf87, hv88p0, hv88p1⟩ := hp87
                          have hX : GZ GP GL f87 := hX.fm hf87 m_GP r_GP m_GL r_GL (by decide +kernel) (by decide +kernel)
                          have hk : fr L R [(12, 1), (12, 9), (12, 10), (12, 11), (12, 12), (12, 13), (12, 14), (12, 15), (12, 16), (12, 17), (12, 19), (12, 20)] [12, 61, 66] f0 f87 := hk.tr hf87 rfl rfl
                          have e89 : fld f87 a0 0 = .ref GA := (hf87.efl m_a0 r_a0 rfl).trans e77
                          have e90 : fld f87 a0 22 = .ref GP := (hf87.efl m_a0 r_a0 rfl).trans e78
                          have e91 : fld f87 a0 23 = .ref GL := (hf87.efl m_a0 r_a0 rfl).trans e79
                          have e92 : fld f87 a0 6 = .ref GT := (hf87.efl m_a0 r_a0 rfl).trans e80
                          have e93 : fi f87 a0 11 = fi f75 a0 11 := hf87.efi m_a0 r_a0 rfl
                          have e94 : fi f87 a0 17 = fi f75 a0 17 := hf87.efi m_a0 r_a0 rfl
                          have hR : RBA GA f87 := RBA.cp (s := x1.toInt.toNat) (a := z85.toInt.toNat) hR0 hRN0 (by omega) (by omega) (by have q := hv88p0; rw [show z86.toInt.toNat = 1650 by omega] at q; exact q) (fun q hq => by have w := hv88p1 q (by omega); rw [show z83.toInt.toNat = 20760 by omega] at w; exact w)
                          refine lv_aload_n F.1 F.2.1 dX12_script_226 rfl (lv_at hl 0 rfl) ?_
                          refine lv_aload_n F.1 F.2.1 dX12_script_227 rfl (lv_at hl 0 rfl) ?_
                          refine g_12_7 F h m_a0 r_a0 dX12_script_228 (fun o95 m_o95 r_o95 ho95 => ?_)
                          obtain rfl := (fld_inj e89 ho95).symm
                          refine tw_sipush F dX12_script_231 ks_20761 (fun z96 hz96 => ?_)
                          refine ld_61 F h m_GA r_GA (by omega) dX12_script_234 (fun v97 hv97a => ?_)
                          have hv97b := clP_2.mp (atb hv97a (ac_c (b := 20760) 1 isB_n (by decide) (by omega) rfl))
                          refine tw_l2i F dX12_script_235 (by omega) (by omega) (fun z98 hz98 => ?_)
                          refine tw_Vi (As := [.int z98]) F hZ h yk_X12_gives mw_499 mw_500 mw_501 (s_X12_gives l D cy L R O f87 a0 m_a0 r_a0 z98) rfl rfl m_a0 r_a0 (fun e q => (T_12 e).mp q) rfl hl.1 rfl (Nat.le_of_ble_eq_true rfl) ⟨Nat.le_of_ble_eq_true rfl, Nat.le_of_ble_eq_true rfl⟩ ⟨Nat.le_of_ble_eq_true rfl, Nat.le_of_ble_eq_true rfl⟩ dX12_script_236 (fun v100 f99 H locs hp99 h => ?_)
                          have hf99 := hp99
                          have hX : GZ GP GL f99 := hX.fm hf99 m_GP r_GP m_GL r_GL (by decide +kernel) (by decide +kernel)
                          have hR : RBA GA f99 := hR.fm hf99 m_GA r_GA (by decide +kernel)
                          have hk : fr L R [(12, 1), (12, 9), (12, 10), (12, 11), (12, 12), (12, 13), (12, 14), (12, 15), (12, 16), (12, 17), (12, 19), (12, 20)] [12, 61, 66] f0 f99 := hk.tr hf99 rfl rfl
                          have e101 : fld f99 a0 0 = .ref GA := (hf99.efl m_a0 r_a0 rfl).trans e89
                          have e102 : fld f99 a0 22 = .ref GP := (hf99.efl m_a0 r_a0 rfl).trans e90
                          have e103 : fld f99 a0 23 = .ref GL := (hf99.efl m_a0 r_a0 rfl).trans e91
                          have e104 : fld f99 a0 6 = .ref GT := (hf99.efl m_a0 r_a0 rfl).trans e92
                          have e105 : fi f99 a0 11 = fi f87 a0 11 := hf99.efi m_a0 r_a0 rfl
                          have e106 : fi f99 a0 17 = fi f87 a0 17 := hf99.efi m_a0 r_a0 rfl
                          exact hret f99 _ _ _ _ v100 dX12_script_239 rfl ⟨hk, hR, hX⟩ h
                        · refine lv_aload_n F.1 F.2.1 dX12_script_197 rfl (lv_at hl 0 rfl) ?_
                          refine tw_bipush F dX12_script_198 kb_9 (fun z107 hz107 => ?_)
                          refine tw_Vi (As := [.int z107]) F hZ h yk_X12_refuse mw_452 mw_453 mw_454 (s_X12_refuse l D cy L R O f65 a0 m_a0 r_a0 z107 ⟨by omega, by omega⟩) rfl rfl m_a0 r_a0 (fun e q => (T_12 e).mp q) rfl hl.1 rfl (Nat.le_of_ble_eq_true rfl) ⟨Nat.le_of_ble_eq_true rfl, Nat.le_of_ble_eq_true rfl⟩ ⟨Nat.le_of_ble_eq_true rfl, Nat.le_of_ble_eq_true rfl⟩ dX12_script_200 (fun v109 f108 H locs hp108 h => ?_)
                          obtain ⟨hf108, hv109a, hv109b⟩ := hp108
                          have hR : RBA GA f108 := hR.fm hf108 m_GA r_GA (by decide +kernel)
                          have hX : GZ GP GL f108 := hX.fm hf108 m_GP r_GP m_GL r_GL (by decide +kernel) (by decide +kernel)
                          have hRN : RB GA 20760 f108 := hRN.fm hf108 m_GA r_GA (by decide +kernel)
                          have hk : fr L R [(12, 1), (12, 9), (12, 10), (12, 11), (12, 12), (12, 13), (12, 14), (12, 15), (12, 16), (12, 17), (12, 19), (12, 20)] [12, 61, 66] f0 f108 := hk.tr hf108 rfl rfl
                          have e110 : fld f108 a0 0 = .ref GA := (hf108.efl m_a0 r_a0 rfl).trans e66
                          have e111 : fld f108 a0 22 = .ref GP := (hf108.efl m_a0 r_a0 rfl).trans e67
                          have e112 : fld f108 a0 23 = .ref GL := (hf108.efl m_a0 r_a0 rfl).trans e68
                          have e113 : fld f108 a0 6 = .ref GT := (hf108.efl m_a0 r_a0 rfl).trans e69
                          have e114 : fi f108 a0 11 = fi f65 a0 11 := hf108.efi m_a0 r_a0 rfl
                          have e115 : fi f108 a0 17 = fi f65 a0 17 := hf108.efi m_a0 r_a0 rfl
                          exact hret f108 _ _ _ _ v109 dX12_script_203 rfl ⟨hk, hR, hX⟩ h
                      have hb182 : fr L R [(12, 16), (12, 17), (12, 20)] [12, 61] f47 f47 := fr.rf
                      refine tw_if_ne (tgt := 182) F dX12_script_105 (by decide) (fun b116 => ?_) (fun b116 => ?_)
                      · exact j_182 f47 _ _ _ h hR hX hRN hk hb182 (lv_sub hl [0, 1] rfl)
                      · refine lv_aload_n F.1 F.2.1 dX12_script_108 rfl (lv_at hl 0 rfl) ?_
                        refine tw_iconst F dX12_script_109 ki_m1 (fun z117 hz117 => ?_)
                        refine p_12_279 F h m_a0 r_a0 dX12_script_110 (fun f118 H locs e118p hf118 h => ?_)
                        have hR : RBA GA f118 := hR.fm hf118 m_GA r_GA (by decide +kernel)
                        have hX : GZ GP GL f118 := hX.fm hf118 m_GP r_GP m_GL r_GL (by decide +kernel) (by decide +kernel)
                        have hRN : RB GA 20760 f118 := hRN.fm hf118 m_GA r_GA (by decide +kernel)
                        have hk : fr L R [(12, 1), (12, 9), (12, 10), (12, 11), (12, 12), (12, 13), (12, 14), (12, 15), (12, 16), (12, 17), (12, 19), (12, 20)] [12, 61, 66] f0 f118 := hk.tr hf118 rfl rfl
                        have hb182 : fr L R [(12, 16), (12, 17), (12, 20)] [12, 61] f47 f118 := hb182.tr hf118 rfl rfl
                        have e119 : fld f118 a0 0 = .ref GA := (hf118.efl m_a0 r_a0 rfl).trans e52
                        have e120 : fld f118 a0 22 = .ref GP := (hf118.efl m_a0 r_a0 rfl).trans e53
                        have e121 : fld f118 a0 23 = .ref GL := (hf118.efl m_a0 r_a0 rfl).trans e54
                        have e122 : fld f118 a0 6 = .ref GT := (hf118.efl m_a0 r_a0 rfl).trans e55
                        have e123 : fi f118 a0 11 = fi f47 a0 11 := hf118.efi m_a0 r_a0 rfl
                        have e124 : fi f118 a0 17 = fi f47 a0 17 := hf118.efi m_a0 r_a0 rfl
                        refine tw_iconst F dX12_script_113 ki_0 (fun z125 hz125 => ?_)
                        refine lv_istore (lv' := [(4, .int z125), (0, .ref a0), (1, .int x1), (3, .int x3_74)]) F.1 F.2.1 dX12_script_114 hl (by decide) rfl (fun ls hl => ?_)
                        have j_116 : ∀ (n116 : Nat) (f126 : Nat → va_E) (H : Heap) (locs : List Loc) (ls : Array Slot) (x4_116 : Int32), 0 ≤ x4_116.toInt → x4_116.toInt ≤ 24 → ((24 - x4_116.toInt)).toNat < n116 → tS D cy A s.heap L R (TT cy L R) f126 s H locs → RBA GA f126 → GZ GP GL f126 → RB GA 20760 f126 → fr L R [(12, 1), (12, 9), (12, 10), (12, 11), (12, 12), (12, 13), (12, 14), (12, 15), (12, 16), (12, 17), (12, 19), (12, 20)] [12, 61, 66] f0 f126 → fr L R [(12, 20)] [12, 61] f118 f126 → lv_has ls 5 [(0, .ref a0), (1, .int x1), (4, .int x4_116)] → W p l e rm_X12_script s m args below meth c H locs 0 0 Q (F0 m 116 ls []) := by
                          intro n116
                          induction n116 with
                          | zero =>
                            intro f126 H locs ls x4_116 b127 b128 b129 h hR hX hRN hk hb116 hl
                            exfalso
                            omega
                          | succ n116 ih116 =>
                            intro f126 H locs ls x4_116 b127 b128 b129 h hR hX hRN hk hb116 hl
                            have hb182 : fr L R [(12, 16), (12, 17), (12, 20)] [12, 61] f47 f126 := hb182.tr hb116 rfl rfl
                            have e130 : fld f126 a0 0 = .ref GA := (hb116.efl m_a0 r_a0 rfl).trans e119
                            have e131 : fld f126 a0 22 = .ref GP := (hb116.efl m_a0 r_a0 rfl).trans e120
                            have e132 : fld f126 a0 23 = .ref GL := (hb116.efl m_a0 r_a0 rfl).trans e121
                            have e133 : fld f126 a0 6 = .ref GT := (hb116.efl m_a0 r_a0 rfl).trans e122
                            have e134 : fi f126 a0 11 = fi f118 a0 11 := hb116.efi m_a0 r_a0 rfl
                            have e135 : fi f126 a0 17 = fi f118 a0 17 := hb116.efi m_a0 r_a0 rfl
                            refine lv_iload F.1 F.2.1 dX12_script_116 (lv_at hl 2 rfl) ?_
                            refine tw_i2l F dX12_script_118 (fun z136 hz136 => ?_)
                            refine lv_aload_n F.1 F.2.1 dX12_script_119 rfl (lv_at hl 0 rfl) ?_
                            refine g_12_7 F h m_a0 r_a0 dX12_script_120 (fun o137 m_o137 r_o137 ho137 => ?_)
                            obtain rfl := (fld_inj e130 ho137).symm
                            refine tw_sipush F dX12_script_123 ks_20761 (fun z138 hz138 => ?_)
                            refine ld_61 F h m_GA r_GA (by omega) dX12_script_126 (fun v139 hv139a => ?_)
                            have hv139b := clP_2.mp (atb hv139a (ac_c (b := 20760) 1 isB_n (by decide) (by omega) rfl))
                            refine tw_lcmp F dX12_script_127 (fun z140 hz140 => ?_)
                            refine tw_if_ge (tgt := 153) F dX12_script_128 (by decide) (fun b141 => ?_) (fun b141 => ?_)
                            · refine lv_aload_n F.1 F.2.1 dX12_script_153 rfl (lv_at hl 0 rfl) ?_
                              refine tw_sipush F dX12_script_154 ks_22252 (fun z142 hz142 => ?_)
                              have hRN0 := hRN
                              refine tw_Vv (As := [.int z142]) F hZ h yk_X12_leads mw_741 mw_742 mw_743 (s_X12_leads l D cy L R O f126 a0 m_a0 r_a0 z142 ⟨by omega, by omega⟩ GA m_GA r_GA e130 GP m_GP r_GP e131 GL m_GL r_GL e132 GT m_GT r_GT e133 (AS_n (b := 20760) isB_n (by omega))) rfl rfl m_a0 r_a0 (fun e q => (T_12 e).mp q) rfl hl.1 rfl (Nat.le_of_ble_eq_true rfl) ⟨Nat.le_of_ble_eq_true rfl, Nat.le_of_ble_eq_true rfl⟩ ⟨Nat.le_of_ble_eq_true rfl, Nat.le_of_ble_eq_true rfl⟩ dX12_script_157 (fun f143 H locs hp143 h => ?_)
                              obtain ⟨hf143, hv144p0⟩ := hp143
                              have hR : RBA GA f143 := hR.kw hv144p0 (Or.inl (by omega))
                              have hX : GZ GP GL f143 := hX.fm hf143 m_GP r_GP m_GL r_GL (by decide +kernel) (by decide +kernel)
                              have hk : fr L R [(12, 1), (12, 9), (12, 10), (12, 11), (12, 12), (12, 13), (12, 14), (12, 15), (12, 16), (12, 17), (12, 19), (12, 20)] [12, 61, 66] f0 f143 := hk.tr hf143 rfl rfl
                              have hb182 : fr L R [(12, 16), (12, 17), (12, 20)] [12, 61] f47 f143 := hb182.tr hf143 rfl rfl
                              have hb116 : fr L R [(12, 20)] [12, 61] f118 f143 := hb116.tr hf143 rfl rfl
                              have e145 : fld f143 a0 0 = .ref GA := (hf143.efl m_a0 r_a0 rfl).trans e130
                              have e146 : fld f143 a0 22 = .ref GP := (hf143.efl m_a0 r_a0 rfl).trans e131
                              have e147 : fld f143 a0 23 = .ref GL := (hf143.efl m_a0 r_a0 rfl).trans e132
                              have e148 : fld f143 a0 6 = .ref GT := (hf143.efl m_a0 r_a0 rfl).trans e133
                              have e149 : fi f143 a0 11 = fi f126 a0 11 := hf143.efi m_a0 r_a0 rfl
                              have e150 : fi f143 a0 17 = fi f126 a0 17 := hf143.efi m_a0 r_a0 rfl
                              have hRN : RB GA 20760 f143 := RB_ld (a := z142.toInt.toNat) hRN0 hv144p0 (by omega)
                              refine lv_aload_n F.1 F.2.1 dX12_script_160 rfl (lv_at hl 0 rfl) ?_
                              refine g_12_279 F h m_a0 r_a0 dX12_script_161 (fun v151 hv151 => ?_)
                              refine tw_iconst F dX12_script_164 ki_m1 (fun z152 hz152 => ?_)
                              refine tw_icmp_eq (tgt := 182) F dX12_script_165 (by decide) (fun b153 => ?_) (fun b153 => ?_)
                              · exact j_182 f143 _ _ _ h hR hX hRN hk hb182 (lv_sub hl [0, 1] rfl)
                              · refine lv_aload_n F.1 F.2.1 dX12_script_168 rfl (lv_at hl 0 rfl) ?_
                                refine tw_bipush F dX12_script_169 kb_6 (fun z154 hz154 => ?_)
                                refine p_12_181 F h m_a0 r_a0 dX12_script_171 (fun f155 H locs e155p hf155 h => ?_)
                                have hR : RBA GA f155 := hR.fm hf155 m_GA r_GA (by decide +kernel)
                                have hX : GZ GP GL f155 := hX.fm hf155 m_GP r_GP m_GL r_GL (by decide +kernel) (by decide +kernel)
                                have hRN : RB GA 20760 f155 := hRN.fm hf155 m_GA r_GA (by decide +kernel)
                                have hk : fr L R [(12, 1), (12, 9), (12, 10), (12, 11), (12, 12), (12, 13), (12, 14), (12, 15), (12, 16), (12, 17), (12, 19), (12, 20)] [12, 61, 66] f0 f155 := hk.tr hf155 rfl rfl
                                have hb182 : fr L R [(12, 16), (12, 17), (12, 20)] [12, 61] f47 f155 := hb182.tr hf155 rfl rfl
                                have e156 : fld f155 a0 0 = .ref GA := (hf155.efl m_a0 r_a0 rfl).trans e145
                                have e157 : fld f155 a0 22 = .ref GP := (hf155.efl m_a0 r_a0 rfl).trans e146
                                have e158 : fld f155 a0 23 = .ref GL := (hf155.efl m_a0 r_a0 rfl).trans e147
                                have e159 : fld f155 a0 6 = .ref GT := (hf155.efl m_a0 r_a0 rfl).trans e148
                                have e160 : fi f155 a0 11 = fi f143 a0 11 := hf155.efi m_a0 r_a0 rfl
                                have e161 : fi f155 a0 20 = fi f143 a0 20 := hf155.efi m_a0 r_a0 rfl
                                refine lv_aload_n F.1 F.2.1 dX12_script_174 rfl (lv_at hl 0 rfl) ?_
                                refine lv_aload_n F.1 F.2.1 dX12_script_175 rfl (lv_at hl 0 rfl) ?_
                                refine g_12_279 F h m_a0 r_a0 dX12_script_176 (fun v162 hv162 => ?_)
                                refine p_12_38 F h m_a0 r_a0 dX12_script_179 (fun f163 H locs e163p hf163 h => ?_)
                                have hR : RBA GA f163 := hR.fm hf163 m_GA r_GA (by decide +kernel)
                                have hX : GZ GP GL f163 := hX.fm hf163 m_GP r_GP m_GL r_GL (by decide +kernel) (by decide +kernel)
                                have hRN : RB GA 20760 f163 := hRN.fm hf163 m_GA r_GA (by decide +kernel)
                                have hk : fr L R [(12, 1), (12, 9), (12, 10), (12, 11), (12, 12), (12, 13), (12, 14), (12, 15), (12, 16), (12, 17), (12, 19), (12, 20)] [12, 61, 66] f0 f163 := hk.tr hf163 rfl rfl
                                have hb182 : fr L R [(12, 16), (12, 17), (12, 20)] [12, 61] f47 f163 := hb182.tr hf163 rfl rfl
                                have e164 : fld f163 a0 0 = .ref GA := (hf163.efl m_a0 r_a0 rfl).trans e156
                                have e165 : fld f163 a0 22 = .ref GP := (hf163.efl m_a0 r_a0 rfl).trans e157
                                have e166 : fld f163 a0 23 = .ref GL := (hf163.efl m_a0 r_a0 rfl).trans e158
                                have e167 : fld f163 a0 6 = .ref GT := (hf163.efl m_a0 r_a0 rfl).trans e159
                                have e168 : fi f163 a0 11 = fi f155 a0 11 := hf163.efi m_a0 r_a0 rfl
                                have e169 : fi f163 a0 20 = fi f155 a0 20 := hf163.efi m_a0 r_a0 rfl
                                have e170 : fi f163 a0 17 = fi f155 a0 17 := hf163.efi m_a0 r_a0 rfl
                                exact j_182 f163 _ _ _ h hR hX hRN hk hb182 (lv_sub hl [0, 1] rfl)
                            · refine lv_aload_n F.1 F.2.1 dX12_script_131 rfl (lv_at hl 0 rfl) ?_
                              refine tw_sipush F dX12_script_132 ks_20812 (fun z171 hz171 => ?_)
                              refine tw_bipush F dX12_script_135 kb_60 (fun z172 hz172 => ?_)
                              refine lv_iload F.1 F.2.1 dX12_script_137 (lv_at hl 2 rfl) ?_
                              refine tu_imull F dX12_script_139 hz172 (by omega) (fun z173 hz173 => ?_)
                              refine tu_iadd F dX12_script_140 (by omega) (fun z174 hz174 => ?_)
                              refine tw_bipush F dX12_script_141 kb_11 (fun z175 hz175 => ?_)
                              refine tu_iadd F dX12_script_143 (by omega) (fun z176 hz176 => ?_)
                              have hRN0 := hRN
                              refine tw_Vv (As := [.int z176]) F hZ h yk_X12_leads mw_741 mw_742 mw_743 (s_X12_leads l D cy L R O f126 a0 m_a0 r_a0 z176 ⟨by omega, by omega⟩ GA m_GA r_GA e130 GP m_GP r_GP e131 GL m_GL r_GL e132 GT m_GT r_GT e133 (AS_r (b := 20760) isB_n (by omega))) rfl rfl m_a0 r_a0 (fun e q => (T_12 e).mp q) rfl hl.1 rfl (Nat.le_of_ble_eq_true rfl) ⟨Nat.le_of_ble_eq_true rfl, Nat.le_of_ble_eq_true rfl⟩ ⟨Nat.le_of_ble_eq_true rfl, Nat.le_of_ble_eq_true rfl⟩ dX12_script_144 (fun f177 H locs hp177 h => ?_)
                              obtain ⟨hf177, hv178p0⟩ := hp177
                              have hR : RBA GA f177 := hR.kw hv178p0 (Or.inl (by omega))
                              have hX : GZ GP GL f177 := hX.fm hf177 m_GP r_GP m_GL r_GL (by decide +kernel) (by decide +kernel)
                              have hk : fr L R [(12, 1), (12, 9), (12, 10), (12, 11), (12, 12), (12, 13), (12, 14), (12, 15), (12, 16), (12, 17), (12, 19), (12, 20)] [12, 61, 66] f0 f177 := hk.tr hf177 rfl rfl
                              have hb182 : fr L R [(12, 16), (12, 17), (12, 20)] [12, 61] f47 f177 := hb182.tr hf177 rfl rfl
                              have hb116 : fr L R [(12, 20)] [12, 61] f118 f177 := hb116.tr hf177 rfl rfl
                              have e179 : fld f177 a0 0 = .ref GA := (hf177.efl m_a0 r_a0 rfl).trans e130
                              have e180 : fld f177 a0 22 = .ref GP := (hf177.efl m_a0 r_a0 rfl).trans e131
                              have e181 : fld f177 a0 23 = .ref GL := (hf177.efl m_a0 r_a0 rfl).trans e132
                              have e182 : fld f177 a0 6 = .ref GT := (hf177.efl m_a0 r_a0 rfl).trans e133
                              have e183 : fi f177 a0 11 = fi f126 a0 11 := hf177.efi m_a0 r_a0 rfl
                              have e184 : fi f177 a0 17 = fi f126 a0 17 := hf177.efi m_a0 r_a0 rfl
                              have hRN : RB GA 20760 f177 := RB_ld (a := z176.toInt.toNat) hRN0 hv178p0 (by omega)
                              refine tu_iinc F dX12_script_147 hl (k := 2) rfl (by decide) ki_1 (by omega) (fun z185 ls hz185 hl => ?_)
                              have hl : lv_has ls 5 [(4, .int z185), (0, .ref a0), (1, .int x1)] := hl
                              refine lv_goto (tgt := 116) F.1 F.2.1 dX12_script_150 (by decide) ?_
                              exact ih116 f177 _ _ _ z185 (by omega) (by omega) (by omega) h hR hX hRN hk hb116 (lv_sub hl [1, 2, 0] rfl)
                        have hb116 : fr L R [(12, 20)] [12, 61] f118 f118 := fr.rf
                        exact j_116 (((24 - z125.toInt)).toNat + 1) f118 _ _ _ z125 (by omega) (by omega) (by omega) h hR hX hRN hk hb116 (lv_sub hl [1, 2, 0] rfl)
                    · refine lv_aload_n F.1 F.2.1 dX12_script_78 rfl (lv_at hl 0 rfl) ?_
                      refine tw_Vi (As := []) F hZ h yk_X12_part mw_639 mw_640 mw_641 (s_X12_part l D cy L R O f47 a0 m_a0 r_a0 GA m_GA r_GA e52 GP m_GP r_GP e53 GL m_GL r_GL e54 GT m_GT r_GT e55 hRN) rfl rfl m_a0 r_a0 (fun e q => (T_12 e).mp q) rfl hl.1 rfl (Nat.le_of_ble_eq_true rfl) ⟨Nat.le_of_ble_eq_true rfl, Nat.le_of_ble_eq_true rfl⟩ ⟨Nat.le_of_ble_eq_true rfl, Nat.le_of_ble_eq_true rfl⟩ dX12_script_79 (fun v187 f186 H locs hp186 h => ?_)
                      obtain ⟨hf186, hv187a, hv187b, hv187p0, hv187p1, hv187p2, hv187p3⟩ := hp186
                      have hR : RBA GA f186 := hR.kw hv187p0 (Or.inl (by omega))
                      have hX : GZ GP GL f186 := hX.fm hf186 m_GP r_GP m_GL r_GL (by decide +kernel) (by decide +kernel)
                      have hRN : RB GA 20760 f186 := hv187p3
                      have hk : fr L R [(12, 1), (12, 9), (12, 10), (12, 11), (12, 12), (12, 13), (12, 14), (12, 15), (12, 16), (12, 17), (12, 19), (12, 20)] [12, 61, 66] f0 f186 := hk.tr hf186 (by decide +kernel) (by decide +kernel)
                      have hb74 : fr L R [(12, 11), (12, 12), (12, 13), (12, 14), (12, 16), (12, 17), (12, 19)] [12, 61] f38 f186 := hb74.tr hf186 (by decide +kernel) rfl
                      have e188 : fld f186 a0 0 = .ref GA := (hf186.efl m_a0 r_a0 rfl).trans e52
                      have e189 : fld f186 a0 22 = .ref GP := (hf186.efl m_a0 r_a0 rfl).trans e53
                      have e190 : fld f186 a0 23 = .ref GL := (hf186.efl m_a0 r_a0 rfl).trans e54
                      have e191 : fld f186 a0 6 = .ref GT := (hf186.efl m_a0 r_a0 rfl).trans e55
                      have su79 := SU_le h m_GA r_GA
                      have j_97 : ∀ (ls : Array Slot) (y0_97 : Int32), 0 ≤ y0_97.toInt → y0_97.toInt ≤ 1 → (y0_97.toInt = 0 ∨ SU GA f186 = SU GA f47 + 1) → SU GA f47 ≤ SU GA f186 → SU GA f186 ≤ 49 → lv_has ls 5 [(0, .ref a0), (1, .int x1)] → W p l e rm_X12_script s m args below meth c H locs 0 0 Q (F0 m 97 ls [.int y0_97]) := by
                        intro ls y0_97 b192 b193 b194 b195 b196 hl
                        refine lv_istore_n (lv' := [(3, .int y0_97), (0, .ref a0), (1, .int x1)]) F.1 F.2.1 dX12_script_97 rfl hl (by decide) rfl (fun ls hl => ?_)
                        refine lv_goto (tgt := 74) F.1 F.2.1 dX12_script_98 (by decide) ?_
                        exact ih74 f186 _ _ _ y0_97 (by omega) (by omega) (by omega) (by omega) h hR hX hRN hk hb74 (lv_sub hl [1, 2, 0] rfl)
                      have j_96 : ∀ (ls : Array Slot), lv_has ls 5 [(0, .ref a0), (1, .int x1)] → W p l e rm_X12_script s m args below meth c H locs 0 0 Q (F0 m 96 ls []) := by
                        intro ls hl
                        refine tw_iconst F dX12_script_96 ki_0 (fun z197 hz197 => ?_)
                        exact j_97 _ z197 (by omega) (by omega) (by omega) (by omega) (by omega) (lv_sub hl [0, 1] rfl)
                      refine tw_if_eq (tgt := 96) F dX12_script_82 (by decide) (fun b198 => ?_) (fun b198 => ?_)
                      · exact j_96 _ (lv_sub hl [0, 1] rfl)
                      · refine lv_aload_n F.1 F.2.1 dX12_script_85 rfl (lv_at hl 0 rfl) ?_
                        refine g_12_167 F h m_a0 r_a0 dX12_script_86 (fun v199 hv199 hv199a hv199b => ?_)
                        refine tw_if_eq (tgt := 96) F dX12_script_89 (by decide) (fun b200 => ?_) (fun b200 => ?_)
                        · exact j_96 _ (lv_sub hl [0, 1] rfl)
                        · refine tw_iconst F dX12_script_92 ki_1 (fun z201 hz201 => ?_)
                          refine lv_goto (tgt := 97) F.1 F.2.1 dX12_script_93 (by decide) ?_
                          exact j_97 _ z201 (by omega) (by omega) (by omega) (by omega) (by omega) (lv_sub hl [0, 1] rfl)
                have hb74 : fr L R [(12, 11), (12, 12), (12, 13), (12, 14), (12, 16), (12, 17), (12, 19)] [12, 61] f38 f38 := fr.rf
                exact j_74 (((2 * (49 - SU GA f38) + y0_73.toInt)).toNat + 1) f38 _ _ _ y0_73 (by omega) (by omega) (by omega) (by omega) h hR hX hRN hk hb74 (lv_sub hl [1, 2, 0] rfl)
              refine tw_if_eq (tgt := 72) F dX12_script_65 (by decide) (fun b202 => ?_) (fun b202 => ?_)
              · refine tw_iconst F dX12_script_72 ki_0 (fun z203 hz203 => ?_)
                exact j_73 _ z203 (by omega) (by omega) (lv_sub hl [0, 1] rfl)
              · refine tw_iconst F dX12_script_68 ki_1 (fun z204 hz204 => ?_)
                refine lv_goto (tgt := 73) F.1 F.2.1 dX12_script_69 (by decide) ?_
                exact j_73 _ z204 (by omega) (by omega) (lv_sub hl [0, 1] rfl)
            · refine lv_aload_n F.1 F.2.1 dX12_script_40 rfl (lv_at hl 0 rfl) ?_
              refine g_12_7 F h m_a0 r_a0 dX12_script_41 (fun o205 m_o205 r_o205 ho205 => ?_)
              obtain rfl := (fld_inj e32 ho205).symm
              refine tw_sipush F dX12_script_44 ks_20760 (fun z206 hz206 => ?_)
              refine lv_iload_n F.1 F.2.1 dX12_script_47 rfl (lv_at hl 2 rfl) ?_
              refine tu_iadd F dX12_script_48 (by omega) (fun z207 hz207 => ?_)
              refine tu_lconst F dX12_script_49 (by decide) (fun z208 (hz208 : z208.toInt = 0) => ?_)
              refine se_61 F h m_GA r_GA (by omega) (atP_0 (by omega)) dX12_script_50 (fun f209 H locs e209a e209b hf209 h => ?_)
              have hR : RBA GA f209 := hR.st e209a (Or.inl (by omega))
              have hX : GZ GP GL f209 := hX.fm hf209 m_GP r_GP m_GL r_GL (by decide +kernel) (by decide +kernel)
              have hk : fr L R [(12, 1), (12, 9), (12, 10), (12, 11), (12, 12), (12, 13), (12, 14), (12, 15), (12, 16), (12, 17), (12, 19), (12, 20)] [12, 61, 66] f0 f209 := hk.tr hf209 rfl rfl
              have hb33 : fr L R [] [61] f21 f209 := hb33.tr hf209 rfl rfl
              have e210 : fld f209 a0 0 = .ref GA := (hf209.efl m_a0 r_a0 rfl).trans e32
              have e211 : fld f209 a0 22 = .ref GP := (hf209.efl m_a0 r_a0 rfl).trans e33
              have e212 : fld f209 a0 23 = .ref GL := (hf209.efl m_a0 r_a0 rfl).trans e34
              have e213 : fld f209 a0 6 = .ref GT := (hf209.efl m_a0 r_a0 rfl).trans e35
              refine tu_iinc F dX12_script_51 hl (k := 2) rfl (by decide) ki_1 (by omega) (fun z214 ls hz214 hl => ?_)
              have hl : lv_has ls 5 [(3, .int z214), (0, .ref a0), (1, .int x1)] := hl
              refine lv_goto (tgt := 33) F.1 F.2.1 dX12_script_54 (by decide) ?_
              exact ih33 f209 _ _ _ z214 (by omega) (by omega) (fun q hq => if e : q = x3_33.toInt.toNat then (by rw [e209a, if_pos (by omega)]; omega) else (by rw [e209a, if_neg (by omega)]; exact ip33_0 q (by omega))) (by omega) h hR hX hk hb33 (lv_sub hl [1, 2, 0] rfl)
        have hb33 : fr L R [] [61] f21 f21 := fr.rf
        exact j_33 (((1650 - z27.toInt)).toNat + 1) f21 _ _ _ z27 (by omega) (by omega) (fun q hq => absurd hq (by omega)) (by omega) h hR hX hk hb33 (lv_sub hl [1, 2, 0] rfl)
      · refine lv_aload_n F.1 F.2.1 dX12_script_20 rfl (lv_at hl 0 rfl) ?_
        refine tw_iconst F dX12_script_21 ki_1 (fun z215 hz215 => ?_)
        refine tw_Vi (As := [.int z215]) F hZ h yk_X12_refuse mw_452 mw_453 mw_454 (s_X12_refuse l D cy L R O f0 a0 m_a0 r_a0 z215 ⟨by omega, by omega⟩) rfl rfl m_a0 r_a0 (fun e q => (T_12 e).mp q) rfl hl.1 rfl (Nat.le_of_ble_eq_true rfl) ⟨Nat.le_of_ble_eq_true rfl, Nat.le_of_ble_eq_true rfl⟩ ⟨Nat.le_of_ble_eq_true rfl, Nat.le_of_ble_eq_true rfl⟩ dX12_script_22 (fun v217 f216 H locs hp216 h => ?_)
        obtain ⟨hf216, hv217a, hv217b⟩ := hp216
        have hR : RBA GA f216 := hR.fm hf216 m_GA r_GA (by decide +kernel)
        have hX : GZ GP GL f216 := hX.fm hf216 m_GP r_GP m_GL r_GL (by decide +kernel) (by decide +kernel)
        have hk : fr L R [(12, 1), (12, 9), (12, 10), (12, 11), (12, 12), (12, 13), (12, 14), (12, 15), (12, 16), (12, 17), (12, 19), (12, 20)] [12, 61, 66] f0 f216 := hk.tr hf216 rfl rfl
        have e218 : fld f216 a0 0 = .ref GA := (hf216.efl m_a0 r_a0 rfl).trans t_GA
        have e219 : fld f216 a0 22 = .ref GP := (hf216.efl m_a0 r_a0 rfl).trans t_GP
        have e220 : fld f216 a0 23 = .ref GL := (hf216.efl m_a0 r_a0 rfl).trans t_GL
        have e221 : fld f216 a0 6 = .ref GT := (hf216.efl m_a0 r_a0 rfl).trans t_GT
        exact hret f216 _ _ _ _ v217 dX12_script_25 rfl ⟨hk, hR, hX⟩ h
