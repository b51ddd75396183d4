theorem dX12_answer_0 : decode cX12_answer 0 = .ok (.aload_n 0, 1) := by decide +kernel
theorem dX12_answer_1 : decode cX12_answer 1 = .ok (.getfield 7, 3) := by decide +kernel
theorem dX12_answer_4 : decode cX12_answer 4 = .ok (.iload_n 1, 1) := by decide +kernel
theorem dX12_answer_5 : decode cX12_answer 5 = .ok (.lconst 0, 1) := by decide +kernel
theorem dX12_answer_6 : decode cX12_answer 6 = .ok (.lastore, 1) := by decide +kernel
theorem dX12_answer_7 : decode cX12_answer 7 = .ok (.aload_n 0, 1) := by decide +kernel
theorem dX12_answer_8 : decode cX12_answer 8 = .ok (.getfield 7, 3) := by decide +kernel
theorem dX12_answer_11 : decode cX12_answer 11 = .ok (.iload_n 1, 1) := by decide +kernel
theorem dX12_answer_12 : decode cX12_answer 12 = .ok (.iconst 1, 1) := by decide +kernel
theorem dX12_answer_13 : decode cX12_answer 13 = .ok (.iadd, 1) := by decide +kernel
theorem dX12_answer_14 : decode cX12_answer 14 = .ok (.lconst 0, 1) := by decide +kernel
theorem dX12_answer_15 : decode cX12_answer 15 = .ok (.lastore, 1) := by decide +kernel
theorem dX12_answer_16 : decode cX12_answer 16 = .ok (.aload_n 0, 1) := by decide +kernel
theorem dX12_answer_17 : decode cX12_answer 17 = .ok (.invokevirtual 231, 3) := by decide +kernel
theorem dX12_answer_20 : decode cX12_answer 20 = .ok (.bipush 8, 2) := by decide +kernel
theorem dX12_answer_75 : decode cX12_answer 75 = .ok (.iconst 1, 1) := by decide +kernel
theorem dX12_answer_76 : decode cX12_answer 76 = .ok (.istore_n 3, 1) := by decide +kernel
theorem dX12_answer_77 : decode cX12_answer 77 = .ok (.iload_n 3, 1) := by decide +kernel
theorem dX12_answer_78 : decode cX12_answer 78 = .ok (.ifCond .eq 166, 3) := by decide +kernel
theorem dX12_answer_244 : decode cX12_answer 244 = .ok (.iconst 1, 1) := by decide +kernel
theorem dX12_answer_245 : decode cX12_answer 245 = .ok (.ireturn, 1) := by decide +kernel
theorem dX12_answer_81 : decode cX12_answer 81 = .ok (.aload_n 0, 1) := by decide +kernel
theorem dX12_answer_82 : decode cX12_answer 82 = .ok (.invokevirtual 234, 3) := by decide +kernel
theorem mw_700 : Cond.methodLink RX12 234 yX12_isName ∈ wsL_law := inr_30 _ (List.mem_of_getElem? (i := 4) rfl)
theorem mw_703 : Cond.code yX12_isName cX12_isName 1 (some .boolean) ∈ wsL_law := inr_30 _ (List.mem_of_getElem? (i := 7) rfl)
theorem yk_X12_isName : xY yX12_isName RX12 cX12_isName 1 (some .boolean) 0 := ⟨⟨rfl, by decide +kernel, by decide +kernel, by decide +kernel⟩, mw_5, mw_703⟩
theorem mw_701 : Cond.instanceMethod yX12_isName ∈ wsL_law := inr_30 _ (List.mem_of_getElem? (i := 5) rfl)
theorem mw_702 : Cond.selects RX12 yX12_isName yX12_isName ∈ wsL_law := inr_30 _ (List.mem_of_getElem? (i := 6) rfl)
theorem dX12_answer_102 : decode cX12_answer 102 = .ok (.aload_n 0, 1) := by decide +kernel
theorem dX12_answer_103 : decode cX12_answer 103 = .ok (.getfield 167, 3) := by decide +kernel
theorem dX12_answer_106 : decode cX12_answer 106 = .ok (.iconst 3, 1) := by decide +kernel
theorem dX12_answer_135 : decode cX12_answer 135 = .ok (.aload_n 0, 1) := by decide +kernel
theorem dX12_answer_136 : decode cX12_answer 136 = .ok (.getfield 7, 3) := by decide +kernel
theorem dX12_answer_139 : decode cX12_answer 139 = .ok (.iload_n 1, 1) := by decide +kernel
theorem dX12_answer_140 : decode cX12_answer 140 = .ok (.iconst 1, 1) := by decide +kernel
theorem dX12_answer_141 : decode cX12_answer 141 = .ok (.iadd, 1) := by decide +kernel
theorem dX12_answer_142 : decode cX12_answer 142 = .ok (.laload, 1) := by decide +kernel
theorem dX12_answer_143 : decode cX12_answer 143 = .ok (.ldc2_w 248, 3) := by decide +kernel
theorem mw_736 : Cond.constantLong RX12 248 (10) ∈ wsL_law := inr_31 _ (List.mem_of_getElem? (i := 16) rfl)
theorem dX12_answer_146 : decode cX12_answer 146 = .ok (.lcmp, 1) := by decide +kernel
theorem dX12_answer_147 : decode cX12_answer 147 = .ok (.ifCond .ne 9, 3) := by decide +kernel
theorem dX12_answer_156 : decode cX12_answer 156 = .ok (.aload_n 0, 1) := by decide +kernel
theorem dX12_answer_157 : decode cX12_answer 157 = .ok (.getfield 7, 3) := by decide +kernel
theorem dX12_answer_160 : decode cX12_answer 160 = .ok (.iload_n 1, 1) := by decide +kernel
theorem dX12_answer_161 : decode cX12_answer 161 = .ok (.iconst 2, 1) := by decide +kernel
theorem dX12_answer_162 : decode cX12_answer 162 = .ok (.iadd, 1) := by decide +kernel
theorem dX12_answer_163 : decode cX12_answer 163 = .ok (.aload_n 0, 1) := by decide +kernel
theorem dX12_answer_164 : decode cX12_answer 164 = .ok (.getfield 7, 3) := by decide +kernel
theorem dX12_answer_167 : decode cX12_answer 167 = .ok (.iload_n 1, 1) := by decide +kernel
theorem dX12_answer_168 : decode cX12_answer 168 = .ok (.iconst 1, 1) := by decide +kernel
theorem dX12_answer_169 : decode cX12_answer 169 = .ok (.iadd, 1) := by decide +kernel
theorem dX12_answer_170 : decode cX12_answer 170 = .ok (.laload, 1) := by decide +kernel
theorem dX12_answer_171 : decode cX12_answer 171 = .ok (.l2i, 1) := by decide +kernel
theorem dX12_answer_172 : decode cX12_answer 172 = .ok (.iadd, 1) := by decide +kernel
theorem dX12_answer_173 : decode cX12_answer 173 = .ok (.aload_n 0, 1) := by decide +kernel
theorem dX12_answer_174 : decode cX12_answer 174 = .ok (.getfield 167, 3) := by decide +kernel
theorem dX12_answer_177 : decode cX12_answer 177 = .ok (.iconst 3, 1) := by decide +kernel
theorem dX12_answer_194 : decode cX12_answer 194 = .ok (.lastore, 1) := by decide +kernel
theorem dX12_answer_195 : decode cX12_answer 195 = .ok (.aload_n 0, 1) := by decide +kernel
theorem dX12_answer_196 : decode cX12_answer 196 = .ok (.getfield 7, 3) := by decide +kernel
theorem dX12_answer_199 : decode cX12_answer 199 = .ok (.iload_n 1, 1) := by decide +kernel
theorem dX12_answer_200 : decode cX12_answer 200 = .ok (.iconst 1, 1) := by decide +kernel
theorem dX12_answer_201 : decode cX12_answer 201 = .ok (.iadd, 1) := by decide +kernel
theorem dX12_answer_202 : decode cX12_answer 202 = .ok (.dup2, 1) := by decide +kernel
theorem dX12_answer_203 : decode cX12_answer 203 = .ok (.laload, 1) := by decide +kernel
theorem dX12_answer_204 : decode cX12_answer 204 = .ok (.lconst 1, 1) := by decide +kernel
theorem dX12_answer_205 : decode cX12_answer 205 = .ok (.ladd, 1) := by decide +kernel
theorem dX12_answer_206 : decode cX12_answer 206 = .ok (.lastore, 1) := by decide +kernel
theorem dX12_answer_207 : decode cX12_answer 207 = .ok (.aload_n 0, 1) := by decide +kernel
theorem dX12_answer_208 : decode cX12_answer 208 = .ok (.invokevirtual 184, 3) := by decide +kernel
theorem dX12_answer_211 : decode cX12_answer 211 = .ok (.aload_n 0, 1) := by decide +kernel
theorem dX12_answer_212 : decode cX12_answer 212 = .ok (.getfield 167, 3) := by decide +kernel
theorem dX12_answer_215 : decode cX12_answer 215 = .ok (.iconst 2, 1) := by decide +kernel
theorem dX12_answer_240 : decode cX12_answer 240 = .ok (.istore_n 3, 1) := by decide +kernel
theorem dX12_answer_241 : decode cX12_answer 241 = .ok (.goto (-164), 3) := by decide +kernel
theorem dX12_answer_235 : decode cX12_answer 235 = .ok (.iconst 1, 1) := by decide +kernel
theorem dX12_answer_236 : decode cX12_answer 236 = .ok (.goto 4, 3) := by decide +kernel
theorem dX12_answer_227 : decode cX12_answer 227 = .ok (.aload_n 0, 1) := by decide +kernel
theorem dX12_answer_228 : decode cX12_answer 228 = .ok (.getfield 167, 3) := by decide +kernel
theorem dX12_answer_231 : decode cX12_answer 231 = .ok (.iconst 3, 1) := by decide +kernel
theorem dX12_answer_232 : decode cX12_answer 232 = .ok (.if_icmp .ne 7, 3) := by decide +kernel
theorem dX12_answer_239 : decode cX12_answer 239 = .ok (.iconst 0, 1) := by decide +kernel
theorem dX12_answer_216 : decode cX12_answer 216 = .ok (.if_icmp .ne 11, 3) := by decide +kernel
theorem dX12_answer_219 : decode cX12_answer 219 = .ok (.aload_n 0, 1) := by decide +kernel
theorem dX12_answer_220 : decode cX12_answer 220 = .ok (.invokevirtual 231, 3) := by decide +kernel
theorem dX12_answer_223 : decode cX12_answer 223 = .ok (.iconst (-1), 1) := by decide +kernel
theorem dX12_answer_224 : decode cX12_answer 224 = .ok (.if_icmp .eq 11, 3) := by decide +kernel
theorem dX12_answer_178 : decode cX12_answer 178 = .ok (.if_icmp .ne 12, 3) := by decide +kernel
theorem dX12_answer_190 : decode cX12_answer 190 = .ok (.aload_n 0, 1) := by decide +kernel
theorem dX12_answer_191 : decode cX12_answer 191 = .ok (.invokevirtual 190, 3) := by decide +kernel
theorem dX12_answer_181 : decode cX12_answer 181 = .ok (.aload_n 0, 1) := by decide +kernel
theorem dX12_answer_182 : decode cX12_answer 182 = .ok (.getfield 164, 3) := by decide +kernel
theorem dX12_answer_185 : decode cX12_answer 185 = .ok (.ineg, 1) := by decide +kernel
theorem dX12_answer_186 : decode cX12_answer 186 = .ok (.i2l, 1) := by decide +kernel
theorem dX12_answer_187 : decode cX12_answer 187 = .ok (.goto 7, 3) := by decide +kernel
theorem dX12_answer_150 : decode cX12_answer 150 = .ok (.aload_n 0, 1) := by decide +kernel
theorem dX12_answer_151 : decode cX12_answer 151 = .ok (.iconst 5, 1) := by decide +kernel
theorem dX12_answer_152 : decode cX12_answer 152 = .ok (.invokevirtual 187, 3) := by decide +kernel
theorem dX12_answer_155 : decode cX12_answer 155 = .ok (.ireturn, 1) := by decide +kernel
theorem dX12_answer_107 : decode cX12_answer 107 = .ok (.if_icmp .ne 28, 3) := by decide +kernel
theorem dX12_answer_110 : decode cX12_answer 110 = .ok (.aload_n 0, 1) := by decide +kernel
theorem dX12_answer_111 : decode cX12_answer 111 = .ok (.getfield 164, 3) := by decide +kernel
theorem dX12_answer_114 : decode cX12_answer 114 = .ok (.iconst 1, 1) := by decide +kernel
theorem dX12_answer_115 : decode cX12_answer 115 = .ok (.if_icmp .lt 14, 3) := by decide +kernel
theorem dX12_answer_129 : decode cX12_answer 129 = .ok (.aload_n 0, 1) := by decide +kernel
theorem dX12_answer_130 : decode cX12_answer 130 = .ok (.iconst 4, 1) := by decide +kernel
theorem dX12_answer_131 : decode cX12_answer 131 = .ok (.invokevirtual 187, 3) := by decide +kernel
theorem dX12_answer_134 : decode cX12_answer 134 = .ok (.ireturn, 1) := by decide +kernel
theorem dX12_answer_118 : decode cX12_answer 118 = .ok (.aload_n 0, 1) := by decide +kernel
theorem dX12_answer_119 : decode cX12_answer 119 = .ok (.getfield 164, 3) := by decide +kernel
theorem dX12_answer_122 : decode cX12_answer 122 = .ok (.aload_n 0, 1) := by decide +kernel
theorem dX12_answer_123 : decode cX12_answer 123 = .ok (.getfield 245, 3) := by decide +kernel
theorem mw_720 : Cond.fieldLink RX12 245 "AskBackModel" "gaps" "I" ∈ wsL_law := inr_31 _ (List.mem_of_getElem? (i := 0) rfl)
section
variable {p : Program} {l : Launch} {e : Env} {R0 : Room} {s : State} {m : MethodId} {args : Array Value} {below : List Frame} {meth : Method} {c : Code} {H H0 : Heap} {locs : List Loc} {cells slots : Nat} {Q : State → Prop} {cc : ByteArray} {nL : Nat} {D : va_G} {cy : Nat → ClassId} {A : Nat → Prop} {L : List Nat} {R : Nat → Nat} {f : Nat → va_E} {pc : Nat} {ls : Array Slot} {rest : List Value} {a : Nat}
theorem g_12_245 (F : CallFix p m c cc nL s args wsL_law RX12) (h : tS D cy A H0 L R (TT cy L R) f s H locs) (ha : a ∈ L) (hr : R a = 12) (hdg : decode cc pc = .ok (.getfield 245, 3)) (kk : ∀ x : Int32, x.toInt = fi f a 19 → 0 ≤ x.toInt → x.toInt ≤ 8 → W p l e R0 s m args below meth c H locs cells slots Q (F0 m (pc + 3) ls (.int x :: rest))) : W p l e R0 s m args below meth c H locs cells slots Q (F0 m pc ls (.ref a :: rest)) := tu_geti F h ha hr (fun e q => (T_12 e).mp q) rfl inlX12 rfl (Nat.le_of_ble_eq_true rfl) mw_720 hdg (fun x h1 h2 h3 => kk x h1 h2 h3)
end
theorem dX12_answer_126 : decode cX12_answer 126 = .ok (.if_icmp .le 9, 3) := by decide +kernel
theorem dX12_answer_85 : decode cX12_answer 85 = .ok (.ifCond .ne 17, 3) := by decide +kernel
theorem dX12_answer_88 : decode cX12_answer 88 = .ok (.aload_n 0, 1) := by decide +kernel
theorem dX12_answer_89 : decode cX12_answer 89 = .ok (.getfield 167, 3) := by decide +kernel
theorem dX12_answer_92 : decode cX12_answer 92 = .ok (.iconst 3, 1) := by decide +kernel
theorem dX12_answer_93 : decode cX12_answer 93 = .ok (.if_icmp .eq 9, 3) := by decide +kernel
theorem dX12_answer_96 : decode cX12_answer 96 = .ok (.aload_n 0, 1) := by decide +kernel
theorem dX12_answer_97 : decode cX12_answer 97 = .ok (.iconst 2, 1) := by decide +kernel
theorem dX12_answer_98 : decode cX12_answer 98 = .ok (.invokevirtual 187, 3) := by decide +kernel
theorem dX12_answer_101 : decode cX12_answer 101 = .ok (.ireturn, 1) := by decide +kernel
theorem dX12_answer_22 : decode cX12_answer 22 = .ok (.if_icmp .ne 53, 3) := by decide +kernel
theorem dX12_answer_25 : decode cX12_answer 25 = .ok (.iload_n 2, 1) := by decide +kernel
theorem dX12_answer_26 : decode cX12_answer 26 = .ok (.ifCond .eq 49, 3) := by decide +kernel
theorem dX12_answer_29 : decode cX12_answer 29 = .ok (.aload_n 0, 1) := by decide +kernel
theorem dX12_answer_30 : decode cX12_answer 30 = .ok (.invokevirtual 184, 3) := by decide +kernel
theorem dX12_answer_33 : decode cX12_answer 33 = .ok (.aload_n 0, 1) := by decide +kernel
theorem dX12_answer_34 : decode cX12_answer 34 = .ok (.invokevirtual 234, 3) := by decide +kernel
theorem dX12_answer_37 : decode cX12_answer 37 = .ok (.ifCond .ne 9, 3) := by decide +kernel
theorem dX12_answer_46 : decode cX12_answer 46 = .ok (.aload_n 0, 1) := by decide +kernel
theorem dX12_answer_47 : decode cX12_answer 47 = .ok (.getfield 7, 3) := by decide +kernel
theorem dX12_answer_50 : decode cX12_answer 50 = .ok (.iload_n 1, 1) := by decide +kernel
theorem dX12_answer_51 : decode cX12_answer 51 = .ok (.aload_n 0, 1) := by decide +kernel
theorem dX12_answer_52 : decode cX12_answer 52 = .ok (.invokevirtual 190, 3) := by decide +kernel
theorem dX12_answer_55 : decode cX12_answer 55 = .ok (.lastore, 1) := by decide +kernel
theorem dX12_answer_56 : decode cX12_answer 56 = .ok (.aload_n 0, 1) := by decide +kernel
theorem dX12_answer_57 : decode cX12_answer 57 = .ok (.getfield 7, 3) := by decide +kernel
theorem dX12_answer_60 : decode cX12_answer 60 = .ok (.iload_n 1, 1) := by decide +kernel
theorem dX12_answer_61 : decode cX12_answer 61 = .ok (.iconst 2, 1) := by decide +kernel
theorem dX12_answer_62 : decode cX12_answer 62 = .ok (.iadd, 1) := by decide +kernel
theorem dX12_answer_63 : decode cX12_answer 63 = .ok (.aload_n 0, 1) := by decide +kernel
theorem dX12_answer_64 : decode cX12_answer 64 = .ok (.getfield 161, 3) := by decide +kernel
theorem dX12_answer_67 : decode cX12_answer 67 = .ok (.i2l, 1) := by decide +kernel
theorem dX12_answer_68 : decode cX12_answer 68 = .ok (.lastore, 1) := by decide +kernel
theorem dX12_answer_69 : decode cX12_answer 69 = .ok (.aload_n 0, 1) := by decide +kernel
theorem dX12_answer_70 : decode cX12_answer 70 = .ok (.invokevirtual 184, 3) := by decide +kernel
theorem dX12_answer_73 : decode cX12_answer 73 = .ok (.iconst 1, 1) := by decide +kernel
theorem dX12_answer_74 : decode cX12_answer 74 = .ok (.ireturn, 1) := by decide +kernel
theorem dX12_answer_40 : decode cX12_answer 40 = .ok (.aload_n 0, 1) := by decide +kernel
theorem dX12_answer_41 : decode cX12_answer 41 = .ok (.iconst 2, 1) := by decide +kernel
theorem dX12_answer_42 : decode cX12_answer 42 = .ok (.invokevirtual 187, 3) := by decide +kernel
theorem dX12_answer_45 : decode cX12_answer 45 = .ok (.ireturn, 1) := by decide +kernel
def rm_X12_answer : Room := { frames := 6, cells := 0, slots := 0, locals := 130 }
set_option maxHeartbeats 4000000 in
set_option maxRecDepth 100000 in
theorem s_X12_answer (l : Launch) (D : va_G) (cy : Nat → ClassId) (L : List Nat) (R O : Nat → Nat) (f0 : Nat → va_E) (a0 : Nat) (m_a0 : a0 ∈ L) (r_a0 : R a0 = 12) (x1 : Int32) (b1 : 0 ≤ x1.toInt ∧ x1.toInt ≤ 25698) (x2 : Int32) (b2 : 0 ≤ x2.toInt ∧ x2.toInt ≤ 1) (GA : Nat) (m_GA : GA ∈ L) (r_GA : R GA = 61) (t_GA : fld f0 a0 0 = .ref GA) (GP : Nat) (m_GP : GP ∈ L) (r_GP : R GP = 69) (t_GP : fld f0 a0 22 = .ref GP) (GL : Nat) (m_GL : GL ∈ L) (r_GL : R GL = 70) (t_GL : fld f0 a0 23 = .ref GL) (GT : Nat) (m_GT : GT ∈ L) (r_GT : R GT = 64) (t_GT : fld f0 a0 6 = .ref GT) (pre0 : AH x1.toInt.toNat) (pre1 : TW L R a0 f0) : ∀ sz, Met l yX12_answer (Cond.code yX12_answer cX12_answer 4 (some .boolean) :: wsL_law) rm_X12_answer (va_Pc [.ref a0, .int x1, .int x2] (tPZ D cy L R (TT cy L R) f0 sz)) (va_Qi (fun (r : Int32) f1 => fr L R [(12, 11), (12, 12), (12, 13), (12, 14), (12, 16), (12, 17)] [12, 61] f0 f1 ∧ 0 ≤ r.toInt ∧ r.toInt ≤ 1 ∧ KW (x1.toInt.toNat) (x1.toInt.toNat + 12) GA f0 f1) (tB D (tA L sz) L R (TT cy L R)) (tA L sz)) 0 0 (tA L sz) := by
  refine tw_enteri (by decide +kernel) rfl (Nat.le_of_ble_eq_true rfl) ?_
  intro p e s m below meth c A ls args Q F hZ h hl hret
  have hl : lv_has ls 4 [(0, .ref a0), (1, .int x1), (2, .int x2)] := hl
  have hk : fr L R [(12, 11), (12, 12), (12, 13), (12, 14), (12, 16), (12, 17)] [12, 61] f0 f0 := fr.rf
  have t_a0_token := h.bfi m_a0 r_a0 (fun e q => (T_12 e).mp q) (k := 11) rfl
  have t_a0_gaps := h.bfi m_a0 r_a0 (fun e q => (T_12 e).mp q) (k := 19) rfl
  have t_a0_from := h.bfi m_a0 r_a0 (fun e q => (T_12 e).mp q) (k := 12) rfl
  have t_a0_end := h.bfi m_a0 r_a0 (fun e q => (T_12 e).mp q) (k := 13) rfl
  have hA : KW (x1.toInt.toNat) (x1.toInt.toNat + 12) GA f0 f0 := KW.rf
  have hH := pre0
  have hT := pre1
  refine lv_aload_n F.1 F.2.1 dX12_answer_0 rfl (lv_at hl 0 rfl) ?_
  refine g_12_7 F h m_a0 r_a0 dX12_answer_1 (fun o1 m_o1 r_o1 ho1 => ?_)
  obtain rfl := (fld_inj t_GA ho1).symm
  refine lv_iload_n F.1 F.2.1 dX12_answer_4 rfl (lv_at hl 1 rfl) ?_
  refine tu_lconst F dX12_answer_5 (by decide) (fun z2 (hz2 : z2.toInt = 0) => ?_)
  refine se_61 F h m_GA r_GA (by omega) (atP_0 (by omega)) dX12_answer_6 (fun f3 H locs e3a e3b hf3 h => ?_)
  have hA : KW (x1.toInt.toNat) (x1.toInt.toNat + 12) GA f0 f3 := hA.st e3a (by omega)
  have hT : TW L R a0 f3 := hT.fm hf3 m_a0 r_a0 (by decide +kernel) (by decide +kernel)
  have hk : fr L R [(12, 11), (12, 12), (12, 13), (12, 14), (12, 16), (12, 17)] [12, 61] f0 f3 := hk.tr hf3 rfl rfl
  have e4 : fld f3 a0 0 = .ref GA := (hf3.efl m_a0 r_a0 rfl).trans t_GA
  have e5 : fld f3 a0 22 = .ref GP := (hf3.efl m_a0 r_a0 rfl).trans t_GP
  have e6 : fld f3 a0 23 = .ref GL := (hf3.efl m_a0 r_a0 rfl).trans t_GL
  have e7 : fld f3 a0 6 = .ref GT := (hf3.efl m_a0 r_a0 rfl).trans t_GT
  have e8 : fi f3 a0 11 = fi f0 a0 11 := hf3.efi m_a0 r_a0 rfl
  have e9 : fi f3 a0 14 = fi f0 a0 14 := hf3.efi m_a0 r_a0 rfl
  have e10 : fi f3 a0 19 = fi f0 a0 19 := hf3.efi m_a0 r_a0 rfl
  have e11 : fi f3 a0 12 = fi f0 a0 12 := hf3.efi m_a0 r_a0 rfl
  have e12 : fi f3 a0 13 = fi f0 a0 13 := hf3.efi m_a0 r_a0 rfl
  refine lv_aload_n F.1 F.2.1 dX12_answer_7 rfl (lv_at hl 0 rfl) ?_
  refine g_12_7 F h m_a0 r_a0 dX12_answer_8 (fun o13 m_o13 r_o13 ho13 => ?_)
  obtain rfl := (fld_inj e4 ho13).symm
  refine lv_iload_n F.1 F.2.1 dX12_answer_11 rfl (lv_at hl 1 rfl) ?_
  refine tw_iconst F dX12_answer_12 ki_1 (fun z14 hz14 => ?_)
  refine tu_iadd F dX12_answer_13 (by omega) (fun z15 hz15 => ?_)
  refine tu_lconst F dX12_answer_14 (by decide) (fun z16 (hz16 : z16.toInt = 0) => ?_)
  refine se_61 F h m_GA r_GA (by omega) (atP_0 (by omega)) dX12_answer_15 (fun f17 H locs e17a e17b hf17 h => ?_)
  have hA : KW (x1.toInt.toNat) (x1.toInt.toNat + 12) GA f0 f17 := hA.st e17a (by omega)
  have hT : TW L R a0 f17 := hT.fm hf17 m_a0 r_a0 (by decide +kernel) (by decide +kernel)
  have hk : fr L R [(12, 11), (12, 12), (12, 13), (12, 14), (12, 16), (12, 17)] [12, 61] f0 f17 := hk.tr hf17 rfl rfl
  have e18 : fld f17 a0 0 = .ref GA := (hf17.efl m_a0 r_a0 rfl).trans e4
  have e19 : fld f17 a0 22 = .ref GP := (hf17.efl m_a0 r_a0 rfl).trans e5
  have e20 : fld f17 a0 23 = .ref GL := (hf17.efl m_a0 r_a0 rfl).trans e6
  have e21 : fld f17 a0 6 = .ref GT := (hf17.efl m_a0 r_a0 rfl).trans e7
  have e22 : fi f17 a0 11 = fi f3 a0 11 := hf17.efi m_a0 r_a0 rfl
  have e23 : fi f17 a0 14 = fi f3 a0 14 := hf17.efi m_a0 r_a0 rfl
  have e24 : fi f17 a0 19 = fi f3 a0 19 := hf17.efi m_a0 r_a0 rfl
  have e25 : fi f17 a0 12 = fi f3 a0 12 := hf17.efi m_a0 r_a0 rfl
  have e26 : fi f17 a0 13 = fi f3 a0 13 := hf17.efi m_a0 r_a0 rfl
  have hqkn : elj f17 GA (x1.toInt.toNat + 1) = z16.toInt := by rw [e17a, if_pos (by omega)]
  refine lv_aload_n F.1 F.2.1 dX12_answer_16 rfl (lv_at hl 0 rfl) ?_
  refine tw_Vi (As := []) F hZ h yk_X12_keyWord mw_643 mw_644 mw_645 (s_X12_keyWord l D cy L R O f17 a0 m_a0 r_a0) rfl rfl m_a0 r_a0 (fun e q => (T_12 e).mp q) rfl hl.1 rfl (Nat.le_of_ble_eq_true rfl) ⟨Nat.le_of_ble_eq_true rfl, Nat.le_of_ble_eq_true rfl⟩ ⟨Nat.le_of_ble_eq_true rfl, Nat.le_of_ble_eq_true rfl⟩ dX12_answer_17 (fun v28 f27 H locs hp27 h => ?_)
  obtain rfl := hp27
  refine tw_bipush F dX12_answer_20 kb_8 (fun z29 hz29 => ?_)
  have j_75 : ∀ (ls : Array Slot), lv_has ls 4 [(0, .ref a0), (1, .int x1)] → W p l e rm_X12_answer s m args below meth c H locs 0 0 Q (F0 m 75 ls []) := by
    intro ls hl
    refine tw_iconst F dX12_answer_75 ki_1 (fun z30 hz30 => ?_)
    refine lv_istore_n (lv' := [(3, .int z30), (0, .ref a0), (1, .int x1)]) F.1 F.2.1 dX12_answer_76 rfl hl (by decide) rfl (fun ls hl => ?_)
    have j_77 : ∀ (n77 : Nat) (f31 : Nat → va_E) (H : Heap) (locs : List Loc) (ls : Array Slot) (x3_77 : Int32), 0 ≤ x3_77.toInt → x3_77.toInt ≤ 1 → 0 ≤ elj f31 GA (x1.toInt.toNat + 1) → elj f31 GA (x1.toInt.toNat + 1) ≤ 10 → ((11 - elj f31 GA (x1.toInt.toNat + 1))).toNat < n77 → tS D cy A s.heap L R (TT cy L R) f31 s H locs → KW (x1.toInt.toNat) (x1.toInt.toNat + 12) GA f0 f31 → TW L R a0 f31 → fr L R [(12, 11), (12, 12), (12, 13), (12, 14), (12, 16), (12, 17)] [12, 61] f0 f31 → fr L R [(12, 11), (12, 12), (12, 13), (12, 14)] [12, 61] f17 f31 → lv_has ls 4 [(0, .ref a0), (1, .int x1), (3, .int x3_77)] → W p l e rm_X12_answer s m args below meth c H locs 0 0 Q (F0 m 77 ls []) := by
      intro n77
      induction n77 with
      | zero =>
        intro f31 H locs ls x3_77 b32 b33 b34 b35 b36 h hA hT hk hb77 hl
        exfalso
        omega
      | succ n77 ih77 =>
        intro f31 H locs ls x3_77 b32 b33 b34 b35 b36 h hA hT hk hb77 hl
        have e37 : fld f31 a0 0 = .ref GA := (hb77.efl m_a0 r_a0 rfl).trans e18
        have e38 : fld f31 a0 22 = .ref GP := (hb77.efl m_a0 r_a0 rfl).trans e19
        have e39 : fld f31 a0 23 = .ref GL := (hb77.efl m_a0 r_a0 rfl).trans e20
        have e40 : fld f31 a0 6 = .ref GT := (hb77.efl m_a0 r_a0 rfl).trans e21
        have e41 : fi f31 a0 19 = fi f17 a0 19 := hb77.efi m_a0 r_a0 rfl
        refine lv_iload_n F.1 F.2.1 dX12_answer_77 rfl (lv_at hl 2 rfl) ?_
        refine tw_if_eq (tgt := 244) F dX12_answer_78 (by decide) (fun b42 => ?_) (fun b42 => ?_)
        · refine tw_iconst F dX12_answer_244 ki_1 (fun z43 hz43 => ?_)
          exact hret f31 _ _ _ _ z43 dX12_answer_245 (tw_nb (by omega)) ⟨hk, by omega, by omega, hA⟩ h
        · refine lv_aload_n F.1 F.2.1 dX12_answer_81 rfl (lv_at hl 0 rfl) ?_
          refine tw_Vi (As := []) F hZ h yk_X12_isName mw_700 mw_701 mw_702 (s_X12_isName l D cy L R O f31 a0 m_a0 r_a0) rfl rfl m_a0 r_a0 (fun e q => (T_12 e).mp q) rfl hl.1 rfl (Nat.le_of_ble_eq_true rfl) ⟨Nat.le_of_ble_eq_true rfl, Nat.le_of_ble_eq_true rfl⟩ ⟨Nat.le_of_ble_eq_true rfl, Nat.le_of_ble_eq_true rfl⟩ dX12_answer_82 (fun v45 f44 H locs hp44 h => ?_)
          obtain ⟨rfl, hv45a, hv45b, hv45p0⟩ := hp44
          have j_102 : ∀ (ls : Array Slot), (fi f31 a0 11 = 3 ∨ (fi f31 a0 11 = 2 ∧ fi f31 a0 13 - fi f31 a0 12 ≤ 8)) → lv_has ls 4 [(0, .ref a0), (1, .int x1)] → W p l e rm_X12_answer s m args below meth c H locs 0 0 Q (F0 m 102 ls []) := by
            intro ls b46 hl
            refine lv_aload_n F.1 F.2.1 dX12_answer_102 rfl (lv_at hl 0 rfl) ?_
            refine g_12_167 F h m_a0 r_a0 dX12_answer_103 (fun v47 hv47 hv47a hv47b => ?_)
            refine tw_iconst F dX12_answer_106 ki_3 (fun z48 hz48 => ?_)
            have j_135 : ∀ (ls : Array Slot), (fi f31 a0 11 ≠ 3 ∨ (1 ≤ fi f31 a0 14 ∧ fi f31 a0 14 ≤ fi f31 a0 19)) → lv_has ls 4 [(0, .ref a0), (1, .int x1)] → W p l e rm_X12_answer s m args below meth c H locs 0 0 Q (F0 m 135 ls []) := by
              intro ls b49 hl
              refine lv_aload_n F.1 F.2.1 dX12_answer_135 rfl (lv_at hl 0 rfl) ?_
              refine g_12_7 F h m_a0 r_a0 dX12_answer_136 (fun o50 m_o50 r_o50 ho50 => ?_)
              obtain rfl := (fld_inj e37 ho50).symm
              refine lv_iload_n F.1 F.2.1 dX12_answer_139 rfl (lv_at hl 1 rfl) ?_
              refine tw_iconst F dX12_answer_140 ki_1 (fun z51 hz51 => ?_)
              refine tu_iadd F dX12_answer_141 (by omega) (fun z52 hz52 => ?_)
              refine le_61 F h m_GA r_GA (by omega) dX12_answer_142 (fun v53 ev53 hv53a => ?_)
              have hv53b := clP_6.mp (atb hv53a (AH_1 hH (by omega)))
              have u142 : v53.toInt = elj f31 GA (x1.toInt.toNat + 1) := by rw [ev53, show z52.toInt.toNat = x1.toInt.toNat + 1 by omega]
              refine tu_ldc2 F mw_736 dX12_answer_143 kl_10 (fun z54 hz54 => ?_)
              refine tw_lcmp F dX12_answer_146 (fun z55 hz55 => ?_)
              refine tw_if_ne (tgt := 156) F dX12_answer_147 (by decide) (fun b56 => ?_) (fun b56 => ?_)
              · refine lv_aload_n F.1 F.2.1 dX12_answer_156 rfl (lv_at hl 0 rfl) ?_
                refine g_12_7 F h m_a0 r_a0 dX12_answer_157 (fun o57 m_o57 r_o57 ho57 => ?_)
                obtain rfl := (fld_inj e37 ho57).symm
                refine lv_iload_n F.1 F.2.1 dX12_answer_160 rfl (lv_at hl 1 rfl) ?_
                refine tw_iconst F dX12_answer_161 ki_2 (fun z58 hz58 => ?_)
                refine tu_iadd F dX12_answer_162 (by omega) (fun z59 hz59 => ?_)
                refine lv_aload_n F.1 F.2.1 dX12_answer_163 rfl (lv_at hl 0 rfl) ?_
                refine g_12_7 F h m_a0 r_a0 dX12_answer_164 (fun o60 m_o60 r_o60 ho60 => ?_)
                obtain rfl := (fld_inj e37 ho60).symm
                refine lv_iload_n F.1 F.2.1 dX12_answer_167 rfl (lv_at hl 1 rfl) ?_
                refine tw_iconst F dX12_answer_168 ki_1 (fun z61 hz61 => ?_)
                refine tu_iadd F dX12_answer_169 (by omega) (fun z62 hz62 => ?_)
                refine le_61 F h m_GA r_GA (by omega) dX12_answer_170 (fun v63 ev63 hv63a => ?_)
                have hv63b := clP_6.mp (atb hv63a (AH_1 hH (by omega)))
                have u170 : v63.toInt = elj f31 GA (x1.toInt.toNat + 1) := by rw [ev63, show z62.toInt.toNat = x1.toInt.toNat + 1 by omega]
                have hqkc : elj f31 GA (x1.toInt.toNat + 1) = v63.toInt := u170.symm
                refine tw_l2i F dX12_answer_171 (by omega) (by omega) (fun z64 hz64 => ?_)
                refine tu_iadd F dX12_answer_172 (by omega) (fun z65 hz65 => ?_)
                refine lv_aload_n F.1 F.2.1 dX12_answer_173 rfl (lv_at hl 0 rfl) ?_
                refine g_12_167 F h m_a0 r_a0 dX12_answer_174 (fun v66 hv66 hv66a hv66b => ?_)
                refine tw_iconst F dX12_answer_177 ki_3 (fun z67 hz67 => ?_)
                have j_194 : ∀ (H : Heap) (locs : List Loc) (ls : Array Slot) (y0_194 : Int64), -8 ≤ y0_194.toInt → tS D cy A s.heap L R (TT cy L R) f31 s H locs → lv_has ls 4 [(0, .ref a0), (1, .int x1)] → W p l e rm_X12_answer s m args below meth c H locs 0 0 Q (F0 m 194 ls [.long y0_194, .int z65, .ref GA]) := by
                  intro H locs ls y0_194 b68 h hl
                  refine se_61 F h m_GA r_GA (by omega) (atS (AH_p hH (by omega)) (clP_7.mpr (by omega))) dX12_answer_194 (fun f69 H locs e69a e69b hf69 h => ?_)
                  have hA : KW (x1.toInt.toNat) (x1.toInt.toNat + 12) GA f0 f69 := hA.st e69a (by omega)
                  have hT : TW L R a0 f69 := hT.fm hf69 m_a0 r_a0 (by decide +kernel) (by decide +kernel)
                  have hqkc : elj f69 GA (x1.toInt.toNat + 1) = v63.toInt := ((e69a _).trans (if_neg (by omega))).trans hqkc
                  have hk : fr L R [(12, 11), (12, 12), (12, 13), (12, 14), (12, 16), (12, 17)] [12, 61] f0 f69 := hk.tr hf69 rfl rfl
                  have hb77 : fr L R [(12, 11), (12, 12), (12, 13), (12, 14)] [12, 61] f17 f69 := hb77.tr hf69 rfl rfl
                  have e70 : fld f69 a0 0 = .ref GA := (hf69.efl m_a0 r_a0 rfl).trans e37
                  have e71 : fld f69 a0 22 = .ref GP := (hf69.efl m_a0 r_a0 rfl).trans e38
                  have e72 : fld f69 a0 23 = .ref GL := (hf69.efl m_a0 r_a0 rfl).trans e39
                  have e73 : fld f69 a0 6 = .ref GT := (hf69.efl m_a0 r_a0 rfl).trans e40
                  have e74 : fi f69 a0 11 = fi f31 a0 11 := hf69.efi m_a0 r_a0 rfl
                  have e75 : fi f69 a0 14 = fi f31 a0 14 := hf69.efi m_a0 r_a0 rfl
                  have e76 : fi f69 a0 19 = fi f31 a0 19 := hf69.efi m_a0 r_a0 rfl
                  have e77 : fi f69 a0 12 = fi f31 a0 12 := hf69.efi m_a0 r_a0 rfl
                  have e78 : fi f69 a0 13 = fi f31 a0 13 := hf69.efi m_a0 r_a0 rfl
                  refine lv_aload_n F.1 F.2.1 dX12_answer_195 rfl (lv_at hl 0 rfl) ?_
                  refine g_12_7 F h m_a0 r_a0 dX12_answer_196 (fun o79 m_o79 r_o79 ho79 => ?_)
                  obtain rfl := (fld_inj e70 ho79).symm
                  refine lv_iload_n F.1 F.2.1 dX12_answer_199 rfl (lv_at hl 1 rfl) ?_
                  refine tw_iconst F dX12_answer_200 ki_1 (fun z80 hz80 => ?_)
                  refine tu_iadd F dX12_answer_201 (by omega) (fun z81 hz81 => ?_)
                  refine lv_dup2_11 F.1 F.2.1 dX12_answer_202 rfl rfl ?_
                  refine le_61 F h m_GA r_GA (by omega) dX12_answer_203 (fun v82 ev82 hv82a => ?_)
                  have hv82b := clP_6.mp (atb hv82a (AH_1 hH (by omega)))
                  have u203 : v82.toInt = elj f69 GA (x1.toInt.toNat + 1) := by rw [ev82, show z81.toInt.toNat = x1.toInt.toNat + 1 by omega]
                  refine tu_lconst F dX12_answer_204 (by decide) (fun z83 (hz83 : z83.toInt = 1) => ?_)
                  refine tu_ladd F dX12_answer_205 (by omega) (fun z84 hz84 => ?_)
                  refine se_61 F h m_GA r_GA (by omega) (atS (AH_1 hH (by omega)) (clP_6.mpr (by omega))) dX12_answer_206 (fun f85 H locs e85a e85b hf85 h => ?_)
                  have hA : KW (x1.toInt.toNat) (x1.toInt.toNat + 12) GA f0 f85 := hA.st e85a (by omega)
                  have hT : TW L R a0 f85 := hT.fm hf85 m_a0 r_a0 (by decide +kernel) (by decide +kernel)
                  have hk : fr L R [(12, 11), (12, 12), (12, 13), (12, 14), (12, 16), (12, 17)] [12, 61] f0 f85 := hk.tr hf85 rfl rfl
                  have hb77 : fr L R [(12, 11), (12, 12), (12, 13), (12, 14)] [12, 61] f17 f85 := hb77.tr hf85 rfl rfl
                  have e86 : fld f85 a0 0 = .ref GA := (hf85.efl m_a0 r_a0 rfl).trans e70
                  have e87 : fld f85 a0 22 = .ref GP := (hf85.efl m_a0 r_a0 rfl).trans e71
                  have e88 : fld f85 a0 23 = .ref GL := (hf85.efl m_a0 r_a0 rfl).trans e72
                  have e89 : fld f85 a0 6 = .ref GT := (hf85.efl m_a0 r_a0 rfl).trans e73
                  have e90 : fi f85 a0 11 = fi f69 a0 11 := hf85.efi m_a0 r_a0 rfl
                  have e91 : fi f85 a0 14 = fi f69 a0 14 := hf85.efi m_a0 r_a0 rfl
                  have e92 : fi f85 a0 19 = fi f69 a0 19 := hf85.efi m_a0 r_a0 rfl
                  have e93 : fi f85 a0 12 = fi f69 a0 12 := hf85.efi m_a0 r_a0 rfl
                  have e94 : fi f85 a0 13 = fi f69 a0 13 := hf85.efi m_a0 r_a0 rfl
                  have hqkn : elj f85 GA (x1.toInt.toNat + 1) = z84.toInt := by rw [e85a, if_pos (by omega)]
                  refine lv_aload_n F.1 F.2.1 dX12_answer_207 rfl (lv_at hl 0 rfl) ?_
                  refine tw_Vv (As := []) F hZ h yk_X12_ahead0 mw_468 mw_469 mw_470 (s_X12_ahead0 l D cy L R O f85 a0 m_a0 r_a0) rfl rfl m_a0 r_a0 (fun e q => (T_12 e).mp q) rfl hl.1 rfl (Nat.le_of_ble_eq_true rfl) ⟨Nat.le_of_ble_eq_true rfl, Nat.le_of_ble_eq_true rfl⟩ ⟨Nat.le_of_ble_eq_true rfl, Nat.le_of_ble_eq_true rfl⟩ dX12_answer_208 (fun f95 H locs hp95 h => ?_)
                  obtain ⟨hf95, hv96p0⟩ := hp95
                  have hA : KW (x1.toInt.toNat) (x1.toInt.toNat + 12) GA f0 f95 := hA.fm hf95 m_GA r_GA (by decide +kernel)
                  have hT : TW L R a0 f95 := hv96p0
                  have hqkn : elj f95 GA (x1.toInt.toNat + 1) = z84.toInt := (hf95.eelj m_GA r_GA (by decide +kernel) _).trans hqkn
                  have hk : fr L R [(12, 11), (12, 12), (12, 13), (12, 14), (12, 16), (12, 17)] [12, 61] f0 f95 := hk.tr hf95 rfl rfl
                  have hb77 : fr L R [(12, 11), (12, 12), (12, 13), (12, 14)] [12, 61] f17 f95 := hb77.tr hf95 rfl rfl
                  have e97 : fld f95 a0 0 = .ref GA := (hf95.efl m_a0 r_a0 rfl).trans e86
                  have e98 : fld f95 a0 22 = .ref GP := (hf95.efl m_a0 r_a0 rfl).trans e87
                  have e99 : fld f95 a0 23 = .ref GL := (hf95.efl m_a0 r_a0 rfl).trans e88
                  have e100 : fld f95 a0 6 = .ref GT := (hf95.efl m_a0 r_a0 rfl).trans e89
                  have e101 : fi f95 a0 19 = fi f85 a0 19 := hf95.efi m_a0 r_a0 rfl
                  refine lv_aload_n F.1 F.2.1 dX12_answer_211 rfl (lv_at hl 0 rfl) ?_
                  refine g_12_167 F h m_a0 r_a0 dX12_answer_212 (fun v102 hv102 hv102a hv102b => ?_)
                  refine tw_iconst F dX12_answer_215 ki_2 (fun z103 hz103 => ?_)
                  have j_240 : ∀ (H : Heap) (locs : List Loc) (ls : Array Slot) (y0_240 : Int32), 0 ≤ y0_240.toInt → y0_240.toInt ≤ 1 → tS D cy A s.heap L R (TT cy L R) f95 s H locs → lv_has ls 4 [(0, .ref a0), (1, .int x1)] → W p l e rm_X12_answer s m args below meth c H locs 0 0 Q (F0 m 240 ls [.int y0_240]) := by
                    intro H locs ls y0_240 b104 b105 h hl
                    refine lv_istore_n (lv' := [(3, .int y0_240), (0, .ref a0), (1, .int x1)]) F.1 F.2.1 dX12_answer_240 rfl hl (by decide) rfl (fun ls hl => ?_)
                    refine lv_goto (tgt := 77) F.1 F.2.1 dX12_answer_241 (by decide) ?_
                    exact ih77 f95 _ _ _ y0_240 (by omega) (by omega) (by omega) (by omega) (by omega) h hA hT hk hb77 (lv_sub hl [1, 2, 0] rfl)
                  have j_235 : ∀ (H : Heap) (locs : List Loc) (ls : Array Slot), tS D cy A s.heap L R (TT cy L R) f95 s H locs → lv_has ls 4 [(0, .ref a0), (1, .int x1)] → W p l e rm_X12_answer s m args below meth c H locs 0 0 Q (F0 m 235 ls []) := by
                    intro H locs ls h hl
                    refine tw_iconst F dX12_answer_235 ki_1 (fun z106 hz106 => ?_)
                    refine lv_goto (tgt := 240) F.1 F.2.1 dX12_answer_236 (by decide) ?_
                    exact j_240 _ _ _ z106 (by omega) (by omega) h (lv_sub hl [0, 1] rfl)
                  have j_227 : ∀ (H : Heap) (locs : List Loc) (ls : Array Slot), tS D cy A s.heap L R (TT cy L R) f95 s H locs → lv_has ls 4 [(0, .ref a0), (1, .int x1)] → W p l e rm_X12_answer s m args below meth c H locs 0 0 Q (F0 m 227 ls []) := by
                    intro H locs ls h hl
                    refine lv_aload_n F.1 F.2.1 dX12_answer_227 rfl (lv_at hl 0 rfl) ?_
                    refine g_12_167 F h m_a0 r_a0 dX12_answer_228 (fun v107 hv107 hv107a hv107b => ?_)
                    refine tw_iconst F dX12_answer_231 ki_3 (fun z108 hz108 => ?_)
                    refine tw_icmp_ne (tgt := 239) F dX12_answer_232 (by decide) (fun b109 => ?_) (fun b109 => ?_)
                    · refine tw_iconst F dX12_answer_239 ki_0 (fun z110 hz110 => ?_)
                      exact j_240 _ _ _ z110 (by omega) (by omega) h (lv_sub hl [0, 1] rfl)
                    · exact j_235 _ _ _ h (lv_sub hl [0, 1] rfl)
                  refine tw_icmp_ne (tgt := 227) F dX12_answer_216 (by decide) (fun b111 => ?_) (fun b111 => ?_)
                  · exact j_227 _ _ _ h (lv_sub hl [0, 1] rfl)
                  · refine lv_aload_n F.1 F.2.1 dX12_answer_219 rfl (lv_at hl 0 rfl) ?_
                    refine tw_Vi (As := []) F hZ h yk_X12_keyWord mw_643 mw_644 mw_645 (s_X12_keyWord l D cy L R O f95 a0 m_a0 r_a0) rfl rfl m_a0 r_a0 (fun e q => (T_12 e).mp q) rfl hl.1 rfl (Nat.le_of_ble_eq_true rfl) ⟨Nat.le_of_ble_eq_true rfl, Nat.le_of_ble_eq_true rfl⟩ ⟨Nat.le_of_ble_eq_true rfl, Nat.le_of_ble_eq_true rfl⟩ dX12_answer_220 (fun v113 f112 H locs hp112 h => ?_)
                    obtain rfl := hp112
                    refine tw_iconst F dX12_answer_223 ki_m1 (fun z114 hz114 => ?_)
                    refine tw_icmp_eq (tgt := 235) F dX12_answer_224 (by decide) (fun b115 => ?_) (fun b115 => ?_)
                    · exact j_235 _ _ _ h (lv_sub hl [0, 1] rfl)
                    · exact j_227 _ _ _ h (lv_sub hl [0, 1] rfl)
                refine tw_icmp_ne (tgt := 190) F dX12_answer_178 (by decide) (fun b116 => ?_) (fun b116 => ?_)
                · refine lv_aload_n F.1 F.2.1 dX12_answer_190 rfl (lv_at hl 0 rfl) ?_
                  refine tw_Vl (As := []) F hZ h yk_X12_wordHere mw_491 mw_492 mw_493 (s_X12_wordHereP l D cy L R O f31 a0 m_a0 r_a0 ⟨hT.2.2 (by omega), by omega⟩) rfl rfl m_a0 r_a0 (fun e q => (T_12 e).mp q) rfl hl.1 rfl (Nat.le_of_ble_eq_true rfl) ⟨Nat.le_of_ble_eq_true rfl, Nat.le_of_ble_eq_true rfl⟩ ⟨Nat.le_of_ble_eq_true rfl, Nat.le_of_ble_eq_true rfl⟩ dX12_answer_191 (fun v118 f117 H locs hp117 h => ?_)
                  obtain ⟨rfl, hv118p0⟩ := hp117
                  exact j_194 _ _ _ v118 (by omega) h (lv_sub hl [0, 1] rfl)
                · refine lv_aload_n F.1 F.2.1 dX12_answer_181 rfl (lv_at hl 0 rfl) ?_
                  refine g_12_164 F h m_a0 r_a0 dX12_answer_182 (fun v119 hv119 => ?_)
                  refine tu_ineg F dX12_answer_185 (by omega) (fun z120 hz120 => ?_)
                  refine tu_i2l F dX12_answer_186 (fun z121 hz121 hz121a hz121b => ?_)
                  refine lv_goto (tgt := 194) F.1 F.2.1 dX12_answer_187 (by decide) ?_
                  exact j_194 _ _ _ z121 (by omega) h (lv_sub hl [0, 1] rfl)
              · refine lv_aload_n F.1 F.2.1 dX12_answer_150 rfl (lv_at hl 0 rfl) ?_
                refine tw_iconst F dX12_answer_151 ki_5 (fun z122 hz122 => ?_)
                refine tw_Vi (As := [.int z122]) F hZ h yk_X12_fails mw_487 mw_488 mw_489 (s_X12_fails l D cy L R O f31 a0 m_a0 r_a0 z122 ⟨by omega, by omega⟩) rfl rfl m_a0 r_a0 (fun e q => (T_12 e).mp q) rfl hl.1 rfl (Nat.le_of_ble_eq_true rfl) ⟨Nat.le_of_ble_eq_true rfl, Nat.le_of_ble_eq_true rfl⟩ ⟨Nat.le_of_ble_eq_true rfl, Nat.le_of_ble_eq_true rfl⟩ dX12_answer_152 (fun v124 f123 H locs hp123 h => ?_)
                obtain ⟨hf123, hv124a, hv124b⟩ := hp123
                have hA : KW (x1.toInt.toNat) (x1.toInt.toNat + 12) GA f0 f123 := hA.fm hf123 m_GA r_GA (by decide +kernel)
                have hT : TW L R a0 f123 := hT.fm hf123 m_a0 r_a0 (by decide +kernel) (by decide +kernel)
                have hk : fr L R [(12, 11), (12, 12), (12, 13), (12, 14), (12, 16), (12, 17)] [12, 61] f0 f123 := hk.tr hf123 rfl rfl
                have e125 : fld f123 a0 0 = .ref GA := (hf123.efl m_a0 r_a0 rfl).trans e37
                have e126 : fld f123 a0 22 = .ref GP := (hf123.efl m_a0 r_a0 rfl).trans e38
                have e127 : fld f123 a0 23 = .ref GL := (hf123.efl m_a0 r_a0 rfl).trans e39
                have e128 : fld f123 a0 6 = .ref GT := (hf123.efl m_a0 r_a0 rfl).trans e40
                have e129 : fi f123 a0 11 = fi f31 a0 11 := hf123.efi m_a0 r_a0 rfl
                have e130 : fi f123 a0 14 = fi f31 a0 14 := hf123.efi m_a0 r_a0 rfl
                have e131 : fi f123 a0 19 = fi f31 a0 19 := hf123.efi m_a0 r_a0 rfl
                have e132 : fi f123 a0 12 = fi f31 a0 12 := hf123.efi m_a0 r_a0 rfl
                have e133 : fi f123 a0 13 = fi f31 a0 13 := hf123.efi m_a0 r_a0 rfl
                exact hret f123 _ _ _ _ v124 dX12_answer_155 (tw_nb (by omega)) ⟨hk, by omega, by omega, hA⟩ h
            refine tw_icmp_ne (tgt := 135) F dX12_answer_107 (by decide) (fun b134 => ?_) (fun b134 => ?_)
            · exact j_135 _ (by omega) (lv_sub hl [0, 1] rfl)
            · refine lv_aload_n F.1 F.2.1 dX12_answer_110 rfl (lv_at hl 0 rfl) ?_
              refine g_12_164 F h m_a0 r_a0 dX12_answer_111 (fun v135 hv135 => ?_)
              refine tw_iconst F dX12_answer_114 ki_1 (fun z136 hz136 => ?_)
              refine tw_icmp_lt (tgt := 129) F dX12_answer_115 (by decide) (fun b137 => ?_) (fun b137 => ?_)
              · refine lv_aload_n F.1 F.2.1 dX12_answer_129 rfl (lv_at hl 0 rfl) ?_
                refine tw_iconst F dX12_answer_130 ki_4 (fun z138 hz138 => ?_)
                refine tw_Vi (As := [.int z138]) F hZ h yk_X12_fails mw_487 mw_488 mw_489 (s_X12_fails l D cy L R O f31 a0 m_a0 r_a0 z138 ⟨by omega, by omega⟩) rfl rfl m_a0 r_a0 (fun e q => (T_12 e).mp q) rfl hl.1 rfl (Nat.le_of_ble_eq_true rfl) ⟨Nat.le_of_ble_eq_true rfl, Nat.le_of_ble_eq_true rfl⟩ ⟨Nat.le_of_ble_eq_true rfl, Nat.le_of_ble_eq_true rfl⟩ dX12_answer_131 (fun v140 f139 H locs hp139 h => ?_)
                obtain ⟨hf139, hv140a, hv140b⟩ := hp139
                have hA : KW (x1.toInt.toNat) (x1.toInt.toNat + 12) GA f0 f139 := hA.fm hf139 m_GA r_GA (by decide +kernel)
                have hT : TW L R a0 f139 := hT.fm hf139 m_a0 r_a0 (by decide +kernel) (by decide +kernel)
                have hk : fr L R [(12, 11), (12, 12), (12, 13), (12, 14), (12, 16), (12, 17)] [12, 61] f0 f139 := hk.tr hf139 rfl rfl
                have e141 : fld f139 a0 0 = .ref GA := (hf139.efl m_a0 r_a0 rfl).trans e37
                have e142 : fld f139 a0 22 = .ref GP := (hf139.efl m_a0 r_a0 rfl).trans e38
                have e143 : fld f139 a0 23 = .ref GL := (hf139.efl m_a0 r_a0 rfl).trans e39
                have e144 : fld f139 a0 6 = .ref GT := (hf139.efl m_a0 r_a0 rfl).trans e40
                have e145 : fi f139 a0 11 = fi f31 a0 11 := hf139.efi m_a0 r_a0 rfl
                have e146 : fi f139 a0 14 = fi f31 a0 14 := hf139.efi m_a0 r_a0 rfl
                have e147 : fi f139 a0 19 = fi f31 a0 19 := hf139.efi m_a0 r_a0 rfl
                have e148 : fi f139 a0 12 = fi f31 a0 12 := hf139.efi m_a0 r_a0 rfl
                have e149 : fi f139 a0 13 = fi f31 a0 13 := hf139.efi m_a0 r_a0 rfl
                exact hret f139 _ _ _ _ v140 dX12_answer_134 (tw_nb (by omega)) ⟨hk, by omega, by omega, hA⟩ h
              · refine lv_aload_n F.1 F.2.1 dX12_answer_118 rfl (lv_at hl 0 rfl) ?_
                refine g_12_164 F h m_a0 r_a0 dX12_answer_119 (fun v150 hv150 => ?_)
                refine lv_aload_n F.1 F.2.1 dX12_answer_122 rfl (lv_at hl 0 rfl) ?_
                refine g_12_245 F h m_a0 r_a0 dX12_answer_123 (fun v151 hv151 hv151a hv151b => ?_)
                refine tw_icmp_le (tgt := 135) F dX12_answer_126 (by decide) (fun b152 => ?_) (fun b152 => ?_)
                · exact j_135 _ (by omega) (lv_sub hl [0, 1] rfl)
                · refine lv_aload_n F.1 F.2.1 dX12_answer_129 rfl (lv_at hl 0 rfl) ?_
                  refine tw_iconst F dX12_answer_130 ki_4 (fun z153 hz153 => ?_)
                  refine tw_Vi (As := [.int z153]) F hZ h yk_X12_fails mw_487 mw_488 mw_489 (s_X12_fails l D cy L R O f31 a0 m_a0 r_a0 z153 ⟨by omega, by omega⟩) rfl rfl m_a0 r_a0 (fun e q => (T_12 e).mp q) rfl hl.1 rfl (Nat.le_of_ble_eq_true rfl) ⟨Nat.le_of_ble_eq_true rfl, Nat.le_of_ble_eq_true rfl⟩ ⟨Nat.le_of_ble_eq_true rfl, Nat.le_of_ble_eq_true rfl⟩ dX12_answer_131 (fun v155 f154 H locs hp154 h => ?_)
                  obtain ⟨hf154, hv155a, hv155b⟩ := hp154
                  have hA : KW (x1.toInt.toNat) (x1.toInt.toNat + 12) GA f0 f154 := hA.fm hf154 m_GA r_GA (by decide +kernel)
                  have hT : TW L R a0 f154 := hT.fm hf154 m_a0 r_a0 (by decide +kernel) (by decide +kernel)
                  have hk : fr L R [(12, 11), (12, 12), (12, 13), (12, 14), (12, 16), (12, 17)] [12, 61] f0 f154 := hk.tr hf154 rfl rfl
                  have e156 : fld f154 a0 0 = .ref GA := (hf154.efl m_a0 r_a0 rfl).trans e37
                  have e157 : fld f154 a0 22 = .ref GP := (hf154.efl m_a0 r_a0 rfl).trans e38
                  have e158 : fld f154 a0 23 = .ref GL := (hf154.efl m_a0 r_a0 rfl).trans e39
                  have e159 : fld f154 a0 6 = .ref GT := (hf154.efl m_a0 r_a0 rfl).trans e40
                  have e160 : fi f154 a0 11 = fi f31 a0 11 := hf154.efi m_a0 r_a0 rfl
                  have e161 : fi f154 a0 14 = fi f31 a0 14 := hf154.efi m_a0 r_a0 rfl
                  have e162 : fi f154 a0 19 = fi f31 a0 19 := hf154.efi m_a0 r_a0 rfl
                  have e163 : fi f154 a0 12 = fi f31 a0 12 := hf154.efi m_a0 r_a0 rfl
                  have e164 : fi f154 a0 13 = fi f31 a0 13 := hf154.efi m_a0 r_a0 rfl
                  exact hret f154 _ _ _ _ v155 dX12_answer_134 (tw_nb (by omega)) ⟨hk, by omega, by omega, hA⟩ h
          refine tw_if_ne (tgt := 102) F dX12_answer_85 (by decide) (fun b165 => ?_) (fun b165 => ?_)
          · exact j_102 _ (by omega) (lv_sub hl [0, 1] rfl)
          · refine lv_aload_n F.1 F.2.1 dX12_answer_88 rfl (lv_at hl 0 rfl) ?_
            refine g_12_167 F h m_a0 r_a0 dX12_answer_89 (fun v166 hv166 hv166a hv166b => ?_)
            refine tw_iconst F dX12_answer_92 ki_3 (fun z167 hz167 => ?_)
            refine tw_icmp_eq (tgt := 102) F dX12_answer_93 (by decide) (fun b168 => ?_) (fun b168 => ?_)
            · exact j_102 _ (by omega) (lv_sub hl [0, 1] rfl)
            · refine lv_aload_n F.1 F.2.1 dX12_answer_96 rfl (lv_at hl 0 rfl) ?_
              refine tw_iconst F dX12_answer_97 ki_2 (fun z169 hz169 => ?_)
              refine tw_Vi (As := [.int z169]) F hZ h yk_X12_fails mw_487 mw_488 mw_489 (s_X12_fails l D cy L R O f31 a0 m_a0 r_a0 z169 ⟨by omega, by omega⟩) rfl rfl m_a0 r_a0 (fun e q => (T_12 e).mp q) rfl hl.1 rfl (Nat.le_of_ble_eq_true rfl) ⟨Nat.le_of_ble_eq_true rfl, Nat.le_of_ble_eq_true rfl⟩ ⟨Nat.le_of_ble_eq_true rfl, Nat.le_of_ble_eq_true rfl⟩ dX12_answer_98 (fun v171 f170 H locs hp170 h => ?_)
              obtain ⟨hf170, hv171a, hv171b⟩ := hp170
              have hA : KW (x1.toInt.toNat) (x1.toInt.toNat + 12) GA f0 f170 := hA.fm hf170 m_GA r_GA (by decide +kernel)
              have hT : TW L R a0 f170 := hT.fm hf170 m_a0 r_a0 (by decide +kernel) (by decide +kernel)
              have hk : fr L R [(12, 11), (12, 12), (12, 13), (12, 14), (12, 16), (12, 17)] [12, 61] f0 f170 := hk.tr hf170 rfl rfl
              have e172 : fld f170 a0 0 = .ref GA := (hf170.efl m_a0 r_a0 rfl).trans e37
              have e173 : fld f170 a0 22 = .ref GP := (hf170.efl m_a0 r_a0 rfl).trans e38
              have e174 : fld f170 a0 23 = .ref GL := (hf170.efl m_a0 r_a0 rfl).trans e39
              have e175 : fld f170 a0 6 = .ref GT := (hf170.efl m_a0 r_a0 rfl).trans e40
              have e176 : fi f170 a0 11 = fi f31 a0 11 := hf170.efi m_a0 r_a0 rfl
              have e177 : fi f170 a0 14 = fi f31 a0 14 := hf170.efi m_a0 r_a0 rfl
              have e178 : fi f170 a0 19 = fi f31 a0 19 := hf170.efi m_a0 r_a0 rfl
              have e179 : fi f170 a0 12 = fi f31 a0 12 := hf170.efi m_a0 r_a0 rfl
              have e180 : fi f170 a0 13 = fi f31 a0 13 := hf170.efi m_a0 r_a0 rfl
              exact hret f170 _ _ _ _ v171 dX12_answer_101 (tw_nb (by omega)) ⟨hk, by omega, by omega, hA⟩ h
    have hb77 : fr L R [(12, 11), (12, 12), (12, 13), (12, 14)] [12, 61] f17 f17 := fr.rf
    exact j_77 (((11 - elj f17 GA (x1.toInt.toNat + 1))).toNat + 1) f17 _ _ _ z30 (by omega) (by omega) (by omega) (by omega) (by omega) h hA hT hk hb77 (lv_sub hl [1, 2, 0] rfl)
  refine tw_icmp_ne (tgt := 75) F dX12_answer_22 (by decide) (fun b181 => ?_) (fun b181 => ?_)
  · exact j_75 _ (lv_sub hl [0, 1] rfl)
  · refine lv_iload_n F.1 F.2.1 dX12_answer_25 rfl (lv_at hl 2 rfl) ?_
    refine tw_if_eq (tgt := 75) F dX12_answer_26 (by decide) (fun b182 => ?_) (fun b182 => ?_)
    · exact j_75 _ (lv_sub hl [0, 1] rfl)
    · refine lv_aload_n F.1 F.2.1 dX12_answer_29 rfl (lv_at hl 0 rfl) ?_
      refine tw_Vv (As := []) F hZ h yk_X12_ahead0 mw_468 mw_469 mw_470 (s_X12_ahead0 l D cy L R O f17 a0 m_a0 r_a0) rfl rfl m_a0 r_a0 (fun e q => (T_12 e).mp q) rfl hl.1 rfl (Nat.le_of_ble_eq_true rfl) ⟨Nat.le_of_ble_eq_true rfl, Nat.le_of_ble_eq_true rfl⟩ ⟨Nat.le_of_ble_eq_true rfl, Nat.le_of_ble_eq_true rfl⟩ dX12_answer_30 (fun f183 H locs hp183 h => ?_)
      obtain ⟨hf183, hv184p0⟩ := hp183
      have hA : KW (x1.toInt.toNat) (x1.toInt.toNat + 12) GA f0 f183 := hA.fm hf183 m_GA r_GA (by decide +kernel)
      have hT : TW L R a0 f183 := hv184p0
      have hqkn : elj f183 GA (x1.toInt.toNat + 1) = z16.toInt := (hf183.eelj m_GA r_GA (by decide +kernel) _).trans hqkn
      have hk : fr L R [(12, 11), (12, 12), (12, 13), (12, 14), (12, 16), (12, 17)] [12, 61] f0 f183 := hk.tr hf183 rfl rfl
      have e185 : fld f183 a0 0 = .ref GA := (hf183.efl m_a0 r_a0 rfl).trans e18
      have e186 : fld f183 a0 22 = .ref GP := (hf183.efl m_a0 r_a0 rfl).trans e19
      have e187 : fld f183 a0 23 = .ref GL := (hf183.efl m_a0 r_a0 rfl).trans e20
      have e188 : fld f183 a0 6 = .ref GT := (hf183.efl m_a0 r_a0 rfl).trans e21
      have e189 : fi f183 a0 19 = fi f17 a0 19 := hf183.efi m_a0 r_a0 rfl
      refine lv_aload_n F.1 F.2.1 dX12_answer_33 rfl (lv_at hl 0 rfl) ?_
      refine tw_Vi (As := []) F hZ h yk_X12_isName mw_700 mw_701 mw_702 (s_X12_isName l D cy L R O f183 a0 m_a0 r_a0) rfl rfl m_a0 r_a0 (fun e q => (T_12 e).mp q) rfl hl.1 rfl (Nat.le_of_ble_eq_true rfl) ⟨Nat.le_of_ble_eq_true rfl, Nat.le_of_ble_eq_true rfl⟩ ⟨Nat.le_of_ble_eq_true rfl, Nat.le_of_ble_eq_true rfl⟩ dX12_answer_34 (fun v191 f190 H locs hp190 h => ?_)
      obtain ⟨rfl, hv191a, hv191b, hv191p0⟩ := hp190
      refine tw_if_ne (tgt := 46) F dX12_answer_37 (by decide) (fun b192 => ?_) (fun b192 => ?_)
      · refine lv_aload_n F.1 F.2.1 dX12_answer_46 rfl (lv_at hl 0 rfl) ?_
        refine g_12_7 F h m_a0 r_a0 dX12_answer_47 (fun o193 m_o193 r_o193 ho193 => ?_)
        obtain rfl := (fld_inj e185 ho193).symm
        refine lv_iload_n F.1 F.2.1 dX12_answer_50 rfl (lv_at hl 1 rfl) ?_
        refine lv_aload_n F.1 F.2.1 dX12_answer_51 rfl (lv_at hl 0 rfl) ?_
        refine tw_Vl (As := []) F hZ h yk_X12_wordHere mw_491 mw_492 mw_493 (s_X12_wordHere l D cy L R O f183 a0 m_a0 r_a0) rfl rfl m_a0 r_a0 (fun e q => (T_12 e).mp q) rfl hl.1 rfl (Nat.le_of_ble_eq_true rfl) ⟨Nat.le_of_ble_eq_true rfl, Nat.le_of_ble_eq_true rfl⟩ ⟨Nat.le_of_ble_eq_true rfl, Nat.le_of_ble_eq_true rfl⟩ dX12_answer_52 (fun v195 f194 H locs hp194 h => ?_)
        obtain rfl := hp194
        refine se_61 F h m_GA r_GA (by omega) (atS (AH_0 hH (by omega)) clP_12) dX12_answer_55 (fun f196 H locs e196a e196b hf196 h => ?_)
        have hA : KW (x1.toInt.toNat) (x1.toInt.toNat + 12) GA f0 f196 := hA.st e196a (by omega)
        have hT : TW L R a0 f196 := hT.fm hf196 m_a0 r_a0 (by decide +kernel) (by decide +kernel)
        have hqkn : elj f196 GA (x1.toInt.toNat + 1) = z16.toInt := ((e196a _).trans (if_neg (by omega))).trans hqkn
        have hk : fr L R [(12, 11), (12, 12), (12, 13), (12, 14), (12, 16), (12, 17)] [12, 61] f0 f196 := hk.tr hf196 rfl rfl
        have e197 : fld f196 a0 0 = .ref GA := (hf196.efl m_a0 r_a0 rfl).trans e185
        have e198 : fld f196 a0 22 = .ref GP := (hf196.efl m_a0 r_a0 rfl).trans e186
        have e199 : fld f196 a0 23 = .ref GL := (hf196.efl m_a0 r_a0 rfl).trans e187
        have e200 : fld f196 a0 6 = .ref GT := (hf196.efl m_a0 r_a0 rfl).trans e188
        have e201 : fi f196 a0 11 = fi f183 a0 11 := hf196.efi m_a0 r_a0 rfl
        have e202 : fi f196 a0 14 = fi f183 a0 14 := hf196.efi m_a0 r_a0 rfl
        have e203 : fi f196 a0 19 = fi f183 a0 19 := hf196.efi m_a0 r_a0 rfl
        have e204 : fi f196 a0 12 = fi f183 a0 12 := hf196.efi m_a0 r_a0 rfl
        have e205 : fi f196 a0 13 = fi f183 a0 13 := hf196.efi m_a0 r_a0 rfl
        refine lv_aload_n F.1 F.2.1 dX12_answer_56 rfl (lv_at hl 0 rfl) ?_
        refine g_12_7 F h m_a0 r_a0 dX12_answer_57 (fun o206 m_o206 r_o206 ho206 => ?_)
        obtain rfl := (fld_inj e197 ho206).symm
        refine lv_iload_n F.1 F.2.1 dX12_answer_60 rfl (lv_at hl 1 rfl) ?_
        refine tw_iconst F dX12_answer_61 ki_2 (fun z207 hz207 => ?_)
        refine tu_iadd F dX12_answer_62 (by omega) (fun z208 hz208 => ?_)
        refine lv_aload_n F.1 F.2.1 dX12_answer_63 rfl (lv_at hl 0 rfl) ?_
        refine g_12_161 F h m_a0 r_a0 dX12_answer_64 (fun v209 hv209 hv209a hv209b => ?_)
        refine tw_i2l F dX12_answer_67 (fun z210 hz210 => ?_)
        refine se_61 F h m_GA r_GA (by omega) (atS (AH_p hH (by omega)) (clP_7.mpr (by omega))) dX12_answer_68 (fun f211 H locs e211a e211b hf211 h => ?_)
        have hA : KW (x1.toInt.toNat) (x1.toInt.toNat + 12) GA f0 f211 := hA.st e211a (by omega)
        have hT : TW L R a0 f211 := hT.fm hf211 m_a0 r_a0 (by decide +kernel) (by decide +kernel)
        have hqkn : elj f211 GA (x1.toInt.toNat + 1) = z16.toInt := ((e211a _).trans (if_neg (by omega))).trans hqkn
        have hk : fr L R [(12, 11), (12, 12), (12, 13), (12, 14), (12, 16), (12, 17)] [12, 61] f0 f211 := hk.tr hf211 rfl rfl
        have e212 : fld f211 a0 0 = .ref GA := (hf211.efl m_a0 r_a0 rfl).trans e197
        have e213 : fld f211 a0 22 = .ref GP := (hf211.efl m_a0 r_a0 rfl).trans e198
        have e214 : fld f211 a0 23 = .ref GL := (hf211.efl m_a0 r_a0 rfl).trans e199
        have e215 : fld f211 a0 6 = .ref GT := (hf211.efl m_a0 r_a0 rfl).trans e200
        have e216 : fi f211 a0 11 = fi f196 a0 11 := hf211.efi m_a0 r_a0 rfl
        have e217 : fi f211 a0 14 = fi f196 a0 14 := hf211.efi m_a0 r_a0 rfl
        have e218 : fi f211 a0 19 = fi f196 a0 19 := hf211.efi m_a0 r_a0 rfl
        have e219 : fi f211 a0 12 = fi f196 a0 12 := hf211.efi m_a0 r_a0 rfl
        have e220 : fi f211 a0 13 = fi f196 a0 13 := hf211.efi m_a0 r_a0 rfl
        refine lv_aload_n F.1 F.2.1 dX12_answer_69 rfl (lv_at hl 0 rfl) ?_
        refine tw_Vv (As := []) F hZ h yk_X12_ahead0 mw_468 mw_469 mw_470 (s_X12_ahead0 l D cy L R O f211 a0 m_a0 r_a0) rfl rfl m_a0 r_a0 (fun e q => (T_12 e).mp q) rfl hl.1 rfl (Nat.le_of_ble_eq_true rfl) ⟨Nat.le_of_ble_eq_true rfl, Nat.le_of_ble_eq_true rfl⟩ ⟨Nat.le_of_ble_eq_true rfl, Nat.le_of_ble_eq_true rfl⟩ dX12_answer_70 (fun f221 H locs hp221 h => ?_)
        obtain ⟨hf221, hv222p0⟩ := hp221
        have hA : KW (x1.toInt.toNat) (x1.toInt.toNat + 12) GA f0 f221 := hA.fm hf221 m_GA r_GA (by decide +kernel)
        have hT : TW L R a0 f221 := hv222p0
        have hqkn : elj f221 GA (x1.toInt.toNat + 1) = z16.toInt := (hf221.eelj m_GA r_GA (by decide +kernel) _).trans hqkn
        have hk : fr L R [(12, 11), (12, 12), (12, 13), (12, 14), (12, 16), (12, 17)] [12, 61] f0 f221 := hk.tr hf221 rfl rfl
        have e223 : fld f221 a0 0 = .ref GA := (hf221.efl m_a0 r_a0 rfl).trans e212
        have e224 : fld f221 a0 22 = .ref GP := (hf221.efl m_a0 r_a0 rfl).trans e213
        have e225 : fld f221 a0 23 = .ref GL := (hf221.efl m_a0 r_a0 rfl).trans e214
        have e226 : fld f221 a0 6 = .ref GT := (hf221.efl m_a0 r_a0 rfl).trans e215
        have e227 : fi f221 a0 19 = fi f211 a0 19 := hf221.efi m_a0 r_a0 rfl
        have hT : TW L R a0 f221 := hv222p0
        refine tw_iconst F dX12_answer_73 ki_1 (fun z228 hz228 => ?_)
        exact hret f221 _ _ _ _ z228 dX12_answer_74 (tw_nb (by omega)) ⟨hk, by omega, by omega, hA⟩ h
      · refine lv_aload_n F.1 F.2.1 dX12_answer_40 rfl (lv_at hl 0 rfl) ?_
        refine tw_iconst F dX12_answer_41 ki_2 (fun z229 hz229 => ?_)
        refine tw_Vi (As := [.int z229]) F hZ h yk_X12_fails mw_487 mw_488 mw_489 (s_X12_fails l D cy L R O f183 a0 m_a0 r_a0 z229 ⟨by omega, by omega⟩) rfl rfl m_a0 r_a0 (fun e q => (T_12 e).mp q) rfl hl.1 rfl (Nat.le_of_ble_eq_true rfl) ⟨Nat.le_of_ble_eq_true rfl, Nat.le_of_ble_eq_true rfl⟩ ⟨Nat.le_of_ble_eq_true rfl, Nat.le_of_ble_eq_true rfl⟩ dX12_answer_42 (fun v231 f230 H locs hp230 h => ?_)
        obtain ⟨hf230, hv231a, hv231b⟩ := hp230
        have hA : KW (x1.toInt.toNat) (x1.toInt.toNat + 12) GA f0 f230 := hA.fm hf230 m_GA r_GA (by decide +kernel)
        have hT : TW L R a0 f230 := hT.fm hf230 m_a0 r_a0 (by decide +kernel) (by decide +kernel)
        have hqkn : elj f230 GA (x1.toInt.toNat + 1) = z16.toInt := (hf230.eelj m_GA r_GA (by decide +kernel) _).trans hqkn
        have hk : fr L R [(12, 11), (12, 12), (12, 13), (12, 14), (12, 16), (12, 17)] [12, 61] f0 f230 := hk.tr hf230 rfl rfl
        have e232 : fld f230 a0 0 = .ref GA := (hf230.efl m_a0 r_a0 rfl).trans e185
        have e233 : fld f230 a0 22 = .ref GP := (hf230.efl m_a0 r_a0 rfl).trans e186
        have e234 : fld f230 a0 23 = .ref GL := (hf230.efl m_a0 r_a0 rfl).trans e187
        have e235 : fld f230 a0 6 = .ref GT := (hf230.efl m_a0 r_a0 rfl).trans e188
        have e236 : fi f230 a0 11 = fi f183 a0 11 := hf230.efi m_a0 r_a0 rfl
        have e237 : fi f230 a0 14 = fi f183 a0 14 := hf230.efi m_a0 r_a0 rfl
        have e238 : fi f230 a0 19 = fi f183 a0 19 := hf230.efi m_a0 r_a0 rfl
        have e239 : fi f230 a0 12 = fi f183 a0 12 := hf230.efi m_a0 r_a0 rfl
        have e240 : fi f230 a0 13 = fi f183 a0 13 := hf230.efi m_a0 r_a0 rfl
        exact hret f230 _ _ _ _ v231 dX12_answer_45 (tw_nb (by omega)) ⟨hk, by omega, by omega, hA⟩ h
theorem dX12_answers_0 : decode cX12_answers 0 = .ok (.aload_n 0, 1) := by decide +kernel
theorem dX12_answers_1 : decode cX12_answers 1 = .ok (.getfield 7, 3) := by decide +kernel
theorem dX12_answers_4 : decode cX12_answers 4 = .ok (.iload_n 1, 1) := by decide +kernel
theorem dX12_answers_5 : decode cX12_answers 5 = .ok (.lconst 1, 1) := by decide +kernel
theorem dX12_answers_6 : decode cX12_answers 6 = .ok (.lastore, 1) := by decide +kernel
theorem dX12_answers_7 : decode cX12_answers 7 = .ok (.aload_n 0, 1) := by decide +kernel
theorem dX12_answers_8 : decode cX12_answers 8 = .ok (.iload_n 1, 1) := by decide +kernel
theorem dX12_answers_9 : decode cX12_answers 9 = .ok (.iconst 1, 1) := by decide +kernel
theorem dX12_answers_10 : decode cX12_answers 10 = .ok (.iadd, 1) := by decide +kernel
theorem dX12_answers_11 : decode cX12_answers 11 = .ok (.iload_n 2, 1) := by decide +kernel
theorem dX12_answers_12 : decode cX12_answers 12 = .ok (.invokevirtual 250, 3) := by decide +kernel
theorem mw_732 : Cond.methodLink RX12 250 yX12_answer ∈ wsL_law := inr_31 _ (List.mem_of_getElem? (i := 12) rfl)
theorem mw_735 : Cond.code yX12_answer cX12_answer 4 (some .boolean) ∈ wsL_law := inr_31 _ (List.mem_of_getElem? (i := 15) rfl)
theorem yk_X12_answer : xY yX12_answer RX12 cX12_answer 4 (some .boolean) 2 := ⟨⟨rfl, by decide +kernel, by decide +kernel, by decide +kernel⟩, mw_5, mw_735⟩
theorem mw_733 : Cond.instanceMethod yX12_answer ∈ wsL_law := inr_31 _ (List.mem_of_getElem? (i := 13) rfl)
theorem mw_734 : Cond.selects RX12 yX12_answer yX12_answer ∈ wsL_law := inr_31 _ (List.mem_of_getElem? (i := 14) rfl)
theorem dX12_answers_15 : decode cX12_answers 15 = .ok (.ifCond .ne 5, 3) := by decide +kernel
theorem dX12_answers_20 : decode cX12_answers 20 = .ok (.iload_n 2, 1) := by decide +kernel
theorem dX12_answers_21 : decode cX12_answers 21 = .ok (.ifCond .eq 72, 3) := by decide +kernel
theorem dX12_answers_93 : decode cX12_answers 93 = .ok (.iconst 1, 1) := by decide +kernel
theorem dX12_answers_94 : decode cX12_answers 94 = .ok (.ireturn, 1) := by decide +kernel
theorem dX12_answers_24 : decode cX12_answers 24 = .ok (.aload_n 0, 1) := by decide +kernel
theorem dX12_answers_25 : decode cX12_answers 25 = .ok (.invokevirtual 231, 3) := by decide +kernel
theorem dX12_answers_28 : decode cX12_answers 28 = .ok (.bipush 7, 2) := by decide +kernel
theorem dX12_answers_30 : decode cX12_answers 30 = .ok (.if_icmp .ne 63, 3) := by decide +kernel
theorem dX12_answers_33 : decode cX12_answers 33 = .ok (.aload_n 0, 1) := by decide +kernel
theorem dX12_answers_34 : decode cX12_answers 34 = .ok (.getfield 7, 3) := by decide +kernel
theorem dX12_answers_37 : decode cX12_answers 37 = .ok (.iload_n 1, 1) := by decide +kernel
theorem dX12_answers_38 : decode cX12_answers 38 = .ok (.laload, 1) := by decide +kernel
theorem dX12_answers_39 : decode cX12_answers 39 = .ok (.ldc2_w 254, 3) := by decide +kernel
theorem mw_731 : Cond.constantLong RX12 254 (4) ∈ wsL_law := inr_31 _ (List.mem_of_getElem? (i := 11) rfl)
theorem kl_4 : (4 : Int64).toInt = 4 := by decide +kernel
theorem dX12_answers_42 : decode cX12_answers 42 = .ok (.lcmp, 1) := by decide +kernel
theorem dX12_answers_43 : decode cX12_answers 43 = .ok (.ifCond .ne 9, 3) := by decide +kernel
theorem dX12_answers_52 : decode cX12_answers 52 = .ok (.aload_n 0, 1) := by decide +kernel
theorem dX12_answers_53 : decode cX12_answers 53 = .ok (.invokevirtual 184, 3) := by decide +kernel
theorem dX12_answers_56 : decode cX12_answers 56 = .ok (.aload_n 0, 1) := by decide +kernel
theorem dX12_answers_57 : decode cX12_answers 57 = .ok (.iload_n 1, 1) := by decide +kernel
theorem dX12_answers_58 : decode cX12_answers 58 = .ok (.iconst 1, 1) := by decide +kernel
theorem dX12_answers_59 : decode cX12_answers 59 = .ok (.iadd, 1) := by decide +kernel
theorem dX12_answers_60 : decode cX12_answers 60 = .ok (.bipush 12, 2) := by decide +kernel
theorem dX12_answers_62 : decode cX12_answers 62 = .ok (.aload_n 0, 1) := by decide +kernel
theorem dX12_answers_63 : decode cX12_answers 63 = .ok (.getfield 7, 3) := by decide +kernel
theorem dX12_answers_66 : decode cX12_answers 66 = .ok (.iload_n 1, 1) := by decide +kernel
theorem dX12_answers_67 : decode cX12_answers 67 = .ok (.laload, 1) := by decide +kernel
theorem dX12_answers_68 : decode cX12_answers 68 = .ok (.l2i, 1) := by decide +kernel
theorem dX12_answers_69 : decode cX12_answers 69 = .ok (.imul, 1) := by decide +kernel
theorem dX12_answers_70 : decode cX12_answers 70 = .ok (.iadd, 1) := by decide +kernel
theorem dX12_answers_71 : decode cX12_answers 71 = .ok (.iconst 1, 1) := by decide +kernel
theorem dX12_answers_72 : decode cX12_answers 72 = .ok (.invokevirtual 250, 3) := by decide +kernel
theorem dX12_answers_75 : decode cX12_answers 75 = .ok (.ifCond .ne 5, 3) := by decide +kernel
theorem dX12_answers_80 : decode cX12_answers 80 = .ok (.aload_n 0, 1) := by decide +kernel
theorem dX12_answers_81 : decode cX12_answers 81 = .ok (.getfield 7, 3) := by decide +kernel
theorem dX12_answers_84 : decode cX12_answers 84 = .ok (.iload_n 1, 1) := by decide +kernel
theorem dX12_answers_85 : decode cX12_answers 85 = .ok (.dup2, 1) := by decide +kernel
theorem dX12_answers_86 : decode cX12_answers 86 = .ok (.laload, 1) := by decide +kernel
theorem dX12_answers_87 : decode cX12_answers 87 = .ok (.lconst 1, 1) := by decide +kernel
theorem dX12_answers_88 : decode cX12_answers 88 = .ok (.ladd, 1) := by decide +kernel
theorem dX12_answers_89 : decode cX12_answers 89 = .ok (.lastore, 1) := by decide +kernel
theorem dX12_answers_90 : decode cX12_answers 90 = .ok (.goto (-70), 3) := by decide +kernel
theorem dX12_answers_78 : decode cX12_answers 78 = .ok (.iconst 0, 1) := by decide +kernel
theorem dX12_answers_79 : decode cX12_answers 79 = .ok (.ireturn, 1) := by decide +kernel
theorem dX12_answers_46 : decode cX12_answers 46 = .ok (.aload_n 0, 1) := by decide +kernel
theorem dX12_answers_47 : decode cX12_answers 47 = .ok (.iconst 5, 1) := by decide +kernel
theorem dX12_answers_48 : decode cX12_answers 48 = .ok (.invokevirtual 187, 3) := by decide +kernel
theorem dX12_answers_51 : decode cX12_answers 51 = .ok (.ireturn, 1) := by decide +kernel
theorem dX12_answers_18 : decode cX12_answers 18 = .ok (.iconst 0, 1) := by decide +kernel
theorem dX12_answers_19 : decode cX12_answers 19 = .ok (.ireturn, 1) := by decide +kernel
def rm_X12_answers : Room := { frames := 7, cells := 0, slots := 0, locals := 153 }
set_option maxHeartbeats 4000000 in
set_option maxRecDepth 100000 in
theorem s_X12_answers (l : Launch) (D : va_G) (cy : Nat → ClassId) (L : List Nat) (R O : Nat → Nat) (f0 : Nat → va_E) (a0 : Nat) (m_a0 : a0 ∈ L) (r_a0 : R a0 = 12) (x1 : Int32) (b1 : 0 ≤ x1.toInt ∧ x1.toInt ≤ 25661) (x2 : Int32) (b2 : 0 ≤ x2.toInt ∧ x2.toInt ≤ 1) (GA : Nat) (m_GA : GA ∈ L) (r_GA : R GA = 61) (t_GA : fld f0 a0 0 = .ref GA) (GP : Nat) (m_GP : GP ∈ L) (r_GP : R GP = 69) (t_GP : fld f0 a0 22 = .ref GP) (GL : Nat) (m_GL : GL ∈ L) (r_GL : R GL = 70) (t_GL : fld f0 a0 23 = .ref GL) (GT : Nat) (m_GT : GT ∈ L) (r_GT : R GT = 64) (t_GT : fld f0 a0 6 = .ref GT) (pre0 : AS x1.toInt.toNat) (pre1 : TW L R a0 f0) : ∀ sz, Met l yX12_answers (Cond.code yX12_answers cX12_answers 3 (some .boolean) :: wsL_law) rm_X12_answers (va_Pc [.ref a0, .int x1, .int x2] (tPZ D cy L R (TT cy L R) f0 sz)) (va_Qi (fun (r : Int32) f1 => fr L R [(12, 11), (12, 12), (12, 13), (12, 14), (12, 16), (12, 17)] [12, 61] f0 f1 ∧ 0 ≤ r.toInt ∧ r.toInt ≤ 1 ∧ KW (x1.toInt.toNat) (x1.toInt.toNat + 49) GA f0 f1 ∧ 1 ≤ elj f1 GA (x1.toInt.toNat)) (tB D (tA L sz) L R (TT cy L R)) (tA L sz)) 0 0 (tA L sz) := by
  refine tw_enteri (by decide +kernel) rfl (Nat.le_of_ble_eq_true rfl) ?_
  intro p e s m below meth c A ls args Q F hZ h hl hret
  have hl : lv_has ls 3 [(0, .ref a0), (1, .int x1), (2, .int x2)] := hl
  have hk : fr L R [(12, 11), (12, 12), (12, 13), (12, 14), (12, 16), (12, 17)] [12, 61] f0 f0 := fr.rf
  have hA : KW (x1.toInt.toNat) (x1.toInt.toNat + 49) GA f0 f0 := KW.rf
  have hR0 := pre0
  have hT := pre1
  refine lv_aload_n F.1 F.2.1 dX12_answers_0 rfl (lv_at hl 0 rfl) ?_
  refine g_12_7 F h m_a0 r_a0 dX12_answers_1 (fun o1 m_o1 r_o1 ho1 => ?_)
  obtain rfl := (fld_inj t_GA ho1).symm
  refine lv_iload_n F.1 F.2.1 dX12_answers_4 rfl (lv_at hl 1 rfl) ?_
  refine tu_lconst F dX12_answers_5 (by decide) (fun z2 (hz2 : z2.toInt = 1) => ?_)
  refine se_61 F h m_GA r_GA (by omega) (atS (AS_0 hR0 (by omega)) (clP_5.mpr (by omega))) dX12_answers_6 (fun f3 H locs e3a e3b hf3 h => ?_)
  have hA : KW (x1.toInt.toNat) (x1.toInt.toNat + 49) GA f0 f3 := hA.st e3a (by omega)
  have hT : TW L R a0 f3 := hT.fm hf3 m_a0 r_a0 (by decide +kernel) (by decide +kernel)
  have hk : fr L R [(12, 11), (12, 12), (12, 13), (12, 14), (12, 16), (12, 17)] [12, 61] f0 f3 := hk.tr hf3 rfl rfl
  have e4 : fld f3 a0 0 = .ref GA := (hf3.efl m_a0 r_a0 rfl).trans t_GA
  have e5 : fld f3 a0 22 = .ref GP := (hf3.efl m_a0 r_a0 rfl).trans t_GP
  have e6 : fld f3 a0 23 = .ref GL := (hf3.efl m_a0 r_a0 rfl).trans t_GL
  have e7 : fld f3 a0 6 = .ref GT := (hf3.efl m_a0 r_a0 rfl).trans t_GT
  have hq6 : elj f3 GA (x1.toInt.toNat) = z2.toInt := by rw [e3a, if_pos (by omega)]
  have hqk1 : 1 ≤ elj f3 GA (x1.toInt.toNat) := by omega
  refine lv_aload_n F.1 F.2.1 dX12_answers_7 rfl (lv_at hl 0 rfl) ?_
  refine lv_iload_n F.1 F.2.1 dX12_answers_8 rfl (lv_at hl 1 rfl) ?_
  refine tw_iconst F dX12_answers_9 ki_1 (fun z8 hz8 => ?_)
  refine tu_iadd F dX12_answers_10 (by omega) (fun z9 hz9 => ?_)
  refine lv_iload_n F.1 F.2.1 dX12_answers_11 rfl (lv_at hl 2 rfl) ?_
  refine tw_Vi (As := [.int z9, .int x2]) F hZ h yk_X12_answer mw_732 mw_733 mw_734 (s_X12_answer l D cy L R O f3 a0 m_a0 r_a0 z9 ⟨by omega, by omega⟩ x2 ⟨by omega, by omega⟩ GA m_GA r_GA e4 GP m_GP r_GP e5 GL m_GL r_GL e6 GT m_GT r_GT e7 (AS_k hR0 (by omega)) hT) rfl rfl m_a0 r_a0 (fun e q => (T_12 e).mp q) rfl hl.1 rfl (Nat.le_of_ble_eq_true rfl) ⟨Nat.le_of_ble_eq_true rfl, Nat.le_of_ble_eq_true rfl⟩ ⟨Nat.le_of_ble_eq_true rfl, Nat.le_of_ble_eq_true rfl⟩ dX12_answers_12 (fun v11 f10 H locs hp10 h => ?_)
  obtain ⟨hf10, hv11a, hv11b, hv11p0⟩ := hp10
  have hA : KW (x1.toInt.toNat) (x1.toInt.toNat + 49) GA f0 f10 := hA.sub hv11p0 (by omega) (by omega)
  have hqk1 : 1 ≤ elj f10 GA (x1.toInt.toNat) := by rw [hv11p0 _ (by omega)]; exact hqk1
  have hk : fr L R [(12, 11), (12, 12), (12, 13), (12, 14), (12, 16), (12, 17)] [12, 61] f0 f10 := hk.tr hf10 rfl rfl
  have e12 : fld f10 a0 0 = .ref GA := (hf10.efl m_a0 r_a0 rfl).trans e4
  have e13 : fld f10 a0 22 = .ref GP := (hf10.efl m_a0 r_a0 rfl).trans e5
  have e14 : fld f10 a0 23 = .ref GL := (hf10.efl m_a0 r_a0 rfl).trans e6
  have e15 : fld f10 a0 6 = .ref GT := (hf10.efl m_a0 r_a0 rfl).trans e7
  have w12 := hv11p0 (x1.toInt.toNat) (by omega)
  refine tw_if_ne (tgt := 20) F dX12_answers_15 (by decide) (fun b16 => ?_) (fun b16 => ?_)
  · have j_20 : ∀ (n20 : Nat) (f17 : Nat → va_E) (H : Heap) (locs : List Loc) (ls : Array Slot), elj f17 GA (x1.toInt.toNat) ≤ 4 → ((5 - elj f17 GA (x1.toInt.toNat))).toNat < n20 → tS D cy A s.heap L R (TT cy L R) f17 s H locs → KW (x1.toInt.toNat) (x1.toInt.toNat + 49) GA f0 f17 → 1 ≤ elj f17 GA (x1.toInt.toNat) → fr L R [(12, 11), (12, 12), (12, 13), (12, 14), (12, 16), (12, 17)] [12, 61] f0 f17 → fr L R [(12, 11), (12, 12), (12, 13), (12, 14), (12, 16), (12, 17)] [12, 61] f10 f17 → lv_has ls 3 [(0, .ref a0), (1, .int x1), (2, .int x2)] → W p l e rm_X12_answers s m args below meth c H locs 0 0 Q (F0 m 20 ls []) := by
      intro n20
      induction n20 with
      | zero =>
        intro f17 H locs ls b18 b19 h hA hqk1 hk hb20 hl
        exfalso
        omega
      | succ n20 ih20 =>
        intro f17 H locs ls b18 b19 h hA hqk1 hk hb20 hl
        have e20 : fld f17 a0 0 = .ref GA := (hb20.efl m_a0 r_a0 rfl).trans e12
        have e21 : fld f17 a0 22 = .ref GP := (hb20.efl m_a0 r_a0 rfl).trans e13
        have e22 : fld f17 a0 23 = .ref GL := (hb20.efl m_a0 r_a0 rfl).trans e14
        have e23 : fld f17 a0 6 = .ref GT := (hb20.efl m_a0 r_a0 rfl).trans e15
        refine lv_iload_n F.1 F.2.1 dX12_answers_20 rfl (lv_at hl 2 rfl) ?_
        refine tw_if_eq (tgt := 93) F dX12_answers_21 (by decide) (fun b24 => ?_) (fun b24 => ?_)
        · refine tw_iconst F dX12_answers_93 ki_1 (fun z25 hz25 => ?_)
          exact hret f17 _ _ _ _ z25 dX12_answers_94 (tw_nb (by omega)) ⟨hk, by omega, by omega, hA, hqk1⟩ h
        · refine lv_aload_n F.1 F.2.1 dX12_answers_24 rfl (lv_at hl 0 rfl) ?_
          refine tw_Vi (As := []) F hZ h yk_X12_keyWord mw_643 mw_644 mw_645 (s_X12_keyWord l D cy L R O f17 a0 m_a0 r_a0) rfl rfl m_a0 r_a0 (fun e q => (T_12 e).mp q) rfl hl.1 rfl (Nat.le_of_ble_eq_true rfl) ⟨Nat.le_of_ble_eq_true rfl, Nat.le_of_ble_eq_true rfl⟩ ⟨Nat.le_of_ble_eq_true rfl, Nat.le_of_ble_eq_true rfl⟩ dX12_answers_25 (fun v27 f26 H locs hp26 h => ?_)
          obtain rfl := hp26
          refine tw_bipush F dX12_answers_28 kb_7 (fun z28 hz28 => ?_)
          refine tw_icmp_ne (tgt := 93) F dX12_answers_30 (by decide) (fun b29 => ?_) (fun b29 => ?_)
          · refine tw_iconst F dX12_answers_93 ki_1 (fun z30 hz30 => ?_)
            exact hret f17 _ _ _ _ z30 dX12_answers_94 (tw_nb (by omega)) ⟨hk, by omega, by omega, hA, hqk1⟩ h
          · refine lv_aload_n F.1 F.2.1 dX12_answers_33 rfl (lv_at hl 0 rfl) ?_
            refine g_12_7 F h m_a0 r_a0 dX12_answers_34 (fun o31 m_o31 r_o31 ho31 => ?_)
            obtain rfl := (fld_inj e20 ho31).symm
            refine lv_iload_n F.1 F.2.1 dX12_answers_37 rfl (lv_at hl 1 rfl) ?_
            refine le_61 F h m_GA r_GA (by omega) dX12_answers_38 (fun v32 ev32 hv32a => ?_)
            have hv32b := clP_5.mp (atb hv32a (AS_0 hR0 (by omega)))
            have u38 : v32.toInt = elj f17 GA (x1.toInt.toNat) := by rw [ev32, show x1.toInt.toNat = x1.toInt.toNat by omega]
            refine tu_ldc2 F mw_731 dX12_answers_39 kl_4 (fun z33 hz33 => ?_)
            refine tw_lcmp F dX12_answers_42 (fun z34 hz34 => ?_)
            refine tw_if_ne (tgt := 52) F dX12_answers_43 (by decide) (fun b35 => ?_) (fun b35 => ?_)
            · have hqkc : elj f17 GA (x1.toInt.toNat) = v32.toInt := u38.symm
              refine lv_aload_n F.1 F.2.1 dX12_answers_52 rfl (lv_at hl 0 rfl) ?_
              refine tw_Vv (As := []) F hZ h yk_X12_ahead0 mw_468 mw_469 mw_470 (s_X12_ahead0 l D cy L R O f17 a0 m_a0 r_a0) rfl rfl m_a0 r_a0 (fun e q => (T_12 e).mp q) rfl hl.1 rfl (Nat.le_of_ble_eq_true rfl) ⟨Nat.le_of_ble_eq_true rfl, Nat.le_of_ble_eq_true rfl⟩ ⟨Nat.le_of_ble_eq_true rfl, Nat.le_of_ble_eq_true rfl⟩ dX12_answers_53 (fun f36 H locs hp36 h => ?_)
              obtain ⟨hf36, hv37p0⟩ := hp36
              have hA : KW (x1.toInt.toNat) (x1.toInt.toNat + 49) GA f0 f36 := hA.fm hf36 m_GA r_GA (by decide +kernel)
              have hqk1 : 1 ≤ elj f36 GA (x1.toInt.toNat) := by rw [hf36.eelj m_GA r_GA (by decide +kernel)]; exact hqk1
              have hqkc : elj f36 GA (x1.toInt.toNat) = v32.toInt := (hf36.eelj m_GA r_GA (by decide +kernel) _).trans hqkc
              have hk : fr L R [(12, 11), (12, 12), (12, 13), (12, 14), (12, 16), (12, 17)] [12, 61] f0 f36 := hk.tr hf36 rfl rfl
              have hb20 : fr L R [(12, 11), (12, 12), (12, 13), (12, 14), (12, 16), (12, 17)] [12, 61] f10 f36 := hb20.tr hf36 rfl rfl
              have e38 : fld f36 a0 0 = .ref GA := (hf36.efl m_a0 r_a0 rfl).trans e20
              have e39 : fld f36 a0 22 = .ref GP := (hf36.efl m_a0 r_a0 rfl).trans e21
              have e40 : fld f36 a0 23 = .ref GL := (hf36.efl m_a0 r_a0 rfl).trans e22
              have e41 : fld f36 a0 6 = .ref GT := (hf36.efl m_a0 r_a0 rfl).trans e23
              have hT : TW L R a0 f36 := hv37p0
              refine lv_aload_n F.1 F.2.1 dX12_answers_56 rfl (lv_at hl 0 rfl) ?_
              refine lv_iload_n F.1 F.2.1 dX12_answers_57 rfl (lv_at hl 1 rfl) ?_
              refine tw_iconst F dX12_answers_58 ki_1 (fun z42 hz42 => ?_)
              refine tu_iadd F dX12_answers_59 (by omega) (fun z43 hz43 => ?_)
              refine tw_bipush F dX12_answers_60 kb_12 (fun z44 hz44 => ?_)
              refine lv_aload_n F.1 F.2.1 dX12_answers_62 rfl (lv_at hl 0 rfl) ?_
              refine g_12_7 F h m_a0 r_a0 dX12_answers_63 (fun o45 m_o45 r_o45 ho45 => ?_)
              obtain rfl := (fld_inj e38 ho45).symm
              refine lv_iload_n F.1 F.2.1 dX12_answers_66 rfl (lv_at hl 1 rfl) ?_
              refine le_61 F h m_GA r_GA (by omega) dX12_answers_67 (fun v46 ev46 hv46a => ?_)
              have hv46b := clP_5.mp (atb hv46a (AS_0 hR0 (by omega)))
              have u67 : v46.toInt = elj f36 GA (x1.toInt.toNat) := by rw [ev46, show x1.toInt.toNat = x1.toInt.toNat by omega]
              refine tw_l2i F dX12_answers_68 (by omega) (by omega) (fun z47 hz47 => ?_)
              refine tu_imull F dX12_answers_69 hz44 (by omega) (fun z48 hz48 => ?_)
              refine tu_iadd F dX12_answers_70 (by omega) (fun z49 hz49 => ?_)
              refine tw_iconst F dX12_answers_71 ki_1 (fun z50 hz50 => ?_)
              refine tw_Vi (As := [.int z49, .int z50]) F hZ h yk_X12_answer mw_732 mw_733 mw_734 (s_X12_answer l D cy L R O f36 a0 m_a0 r_a0 z49 ⟨by omega, by omega⟩ z50 ⟨by omega, by omega⟩ GA m_GA r_GA e38 GP m_GP r_GP e39 GL m_GL r_GL e40 GT m_GT r_GT e41 (AS_k hR0 (by omega)) hT) rfl rfl m_a0 r_a0 (fun e q => (T_12 e).mp q) rfl hl.1 rfl (Nat.le_of_ble_eq_true rfl) ⟨Nat.le_of_ble_eq_true rfl, Nat.le_of_ble_eq_true rfl⟩ ⟨Nat.le_of_ble_eq_true rfl, Nat.le_of_ble_eq_true rfl⟩ dX12_answers_72 (fun v52 f51 H locs hp51 h => ?_)
              obtain ⟨hf51, hv52a, hv52b, hv52p0⟩ := hp51
              have hA : KW (x1.toInt.toNat) (x1.toInt.toNat + 49) GA f0 f51 := hA.sub hv52p0 (by omega) (by omega)
              have hqk1 : 1 ≤ elj f51 GA (x1.toInt.toNat) := by rw [hv52p0 _ (by omega)]; exact hqk1
              have hqkc : elj f51 GA (x1.toInt.toNat) = v32.toInt := (hv52p0 _ (by omega)).trans hqkc
              have hk : fr L R [(12, 11), (12, 12), (12, 13), (12, 14), (12, 16), (12, 17)] [12, 61] f0 f51 := hk.tr hf51 rfl rfl
              have hb20 : fr L R [(12, 11), (12, 12), (12, 13), (12, 14), (12, 16), (12, 17)] [12, 61] f10 f51 := hb20.tr hf51 rfl rfl
              have e53 : fld f51 a0 0 = .ref GA := (hf51.efl m_a0 r_a0 rfl).trans e38
              have e54 : fld f51 a0 22 = .ref GP := (hf51.efl m_a0 r_a0 rfl).trans e39
              have e55 : fld f51 a0 23 = .ref GL := (hf51.efl m_a0 r_a0 rfl).trans e40
              have e56 : fld f51 a0 6 = .ref GT := (hf51.efl m_a0 r_a0 rfl).trans e41
              refine tw_if_ne (tgt := 80) F dX12_answers_75 (by decide) (fun b57 => ?_) (fun b57 => ?_)
              · refine lv_aload_n F.1 F.2.1 dX12_answers_80 rfl (lv_at hl 0 rfl) ?_
                refine g_12_7 F h m_a0 r_a0 dX12_answers_81 (fun o58 m_o58 r_o58 ho58 => ?_)
                obtain rfl := (fld_inj e53 ho58).symm
                refine lv_iload_n F.1 F.2.1 dX12_answers_84 rfl (lv_at hl 1 rfl) ?_
                refine lv_dup2_11 F.1 F.2.1 dX12_answers_85 rfl rfl ?_
                refine le_61 F h m_GA r_GA (by omega) dX12_answers_86 (fun v59 ev59 hv59a => ?_)
                have hv59b := clP_5.mp (atb hv59a (AS_0 hR0 (by omega)))
                have u86 : v59.toInt = elj f51 GA (x1.toInt.toNat) := by rw [ev59, show x1.toInt.toNat = x1.toInt.toNat by omega]
                refine tu_lconst F dX12_answers_87 (by decide) (fun z60 (hz60 : z60.toInt = 1) => ?_)
                refine tu_ladd F dX12_answers_88 (by omega) (fun z61 hz61 => ?_)
                refine se_61 F h m_GA r_GA (by omega) (atS (AS_0 hR0 (by omega)) (clP_5.mpr (by omega))) dX12_answers_89 (fun f62 H locs e62a e62b hf62 h => ?_)
                have hA : KW (x1.toInt.toNat) (x1.toInt.toNat + 49) GA f0 f62 := hA.st e62a (by omega)
                have hk : fr L R [(12, 11), (12, 12), (12, 13), (12, 14), (12, 16), (12, 17)] [12, 61] f0 f62 := hk.tr hf62 rfl rfl
                have hb20 : fr L R [(12, 11), (12, 12), (12, 13), (12, 14), (12, 16), (12, 17)] [12, 61] f10 f62 := hb20.tr hf62 rfl rfl
                have e63 : fld f62 a0 0 = .ref GA := (hf62.efl m_a0 r_a0 rfl).trans e53
                have e64 : fld f62 a0 22 = .ref GP := (hf62.efl m_a0 r_a0 rfl).trans e54
                have e65 : fld f62 a0 23 = .ref GL := (hf62.efl m_a0 r_a0 rfl).trans e55
                have e66 : fld f62 a0 6 = .ref GT := (hf62.efl m_a0 r_a0 rfl).trans e56
                have hq89 : elj f62 GA (x1.toInt.toNat) = z61.toInt := by rw [e62a, if_pos (by omega)]
                have hqk1 : 1 ≤ elj f62 GA (x1.toInt.toNat) := by omega
                refine lv_goto (tgt := 20) F.1 F.2.1 dX12_answers_90 (by decide) ?_
                exact ih20 f62 _ _ _ (by omega) (by omega) h hA hqk1 hk hb20 (lv_sub hl [0, 1, 2] rfl)
              · refine tw_iconst F dX12_answers_78 ki_0 (fun z67 hz67 => ?_)
                exact hret f51 _ _ _ _ z67 dX12_answers_79 (tw_nb (by omega)) ⟨hk, by omega, by omega, hA, hqk1⟩ h
            · refine lv_aload_n F.1 F.2.1 dX12_answers_46 rfl (lv_at hl 0 rfl) ?_
              refine tw_iconst F dX12_answers_47 ki_5 (fun z68 hz68 => ?_)
              refine tw_Vi (As := [.int z68]) F hZ h yk_X12_fails mw_487 mw_488 mw_489 (s_X12_fails l D cy L R O f17 a0 m_a0 r_a0 z68 ⟨by omega, by omega⟩) rfl rfl m_a0 r_a0 (fun e q => (T_12 e).mp q) rfl hl.1 rfl (Nat.le_of_ble_eq_true rfl) ⟨Nat.le_of_ble_eq_true rfl, Nat.le_of_ble_eq_true rfl⟩ ⟨Nat.le_of_ble_eq_true rfl, Nat.le_of_ble_eq_true rfl⟩ dX12_answers_48 (fun v70 f69 H locs hp69 h => ?_)
              obtain ⟨hf69, hv70a, hv70b⟩ := hp69
              have hA : KW (x1.toInt.toNat) (x1.toInt.toNat + 49) GA f0 f69 := hA.fm hf69 m_GA r_GA (by decide +kernel)
              have hqk1 : 1 ≤ elj f69 GA (x1.toInt.toNat) := by rw [hf69.eelj m_GA r_GA (by decide +kernel)]; exact hqk1
              have hk : fr L R [(12, 11), (12, 12), (12, 13), (12, 14), (12, 16), (12, 17)] [12, 61] f0 f69 := hk.tr hf69 rfl rfl
              have hb20 : fr L R [(12, 11), (12, 12), (12, 13), (12, 14), (12, 16), (12, 17)] [12, 61] f10 f69 := hb20.tr hf69 rfl rfl
              have e71 : fld f69 a0 0 = .ref GA := (hf69.efl m_a0 r_a0 rfl).trans e20
              have e72 : fld f69 a0 22 = .ref GP := (hf69.efl m_a0 r_a0 rfl).trans e21
              have e73 : fld f69 a0 23 = .ref GL := (hf69.efl m_a0 r_a0 rfl).trans e22
              have e74 : fld f69 a0 6 = .ref GT := (hf69.efl m_a0 r_a0 rfl).trans e23
              exact hret f69 _ _ _ _ v70 dX12_answers_51 (tw_nb (by omega)) ⟨hk, by omega, by omega, hA, hqk1⟩ h
    have hb20 : fr L R [(12, 11), (12, 12), (12, 13), (12, 14), (12, 16), (12, 17)] [12, 61] f10 f10 := fr.rf
    exact j_20 (((5 - elj f10 GA (x1.toInt.toNat))).toNat + 1) f10 _ _ _ (by omega) (by omega) h hA hqk1 hk hb20 (lv_sub hl [0, 1, 2] rfl)
  · refine tw_iconst F dX12_answers_18 ki_0 (fun z75 hz75 => ?_)
    exact hret f10 _ _ _ _ z75 dX12_answers_19 (tw_nb (by omega)) ⟨hk, by omega, by omega, hA, hqk1⟩ h
