theorem dX12_aRule_0 : decode cX12_aRule 0 = .ok (.aload_n 0, 1) := by decide +kernel
theorem dX12_aRule_1 : decode cX12_aRule 1 = .ok (.getfield 7, 3) := by decide +kernel
theorem dX12_aRule_4 : decode cX12_aRule 4 = .ok (.sipush 20761, 3) := by decide +kernel
theorem ks_20761 : (Int16.ofInt 20761).toInt32.toInt = 20761 := by decide
theorem dX12_aRule_7 : decode cX12_aRule 7 = .ok (.laload, 1) := by decide +kernel
theorem dX12_aRule_8 : decode cX12_aRule 8 = .ok (.l2i, 1) := by decide +kernel
theorem dX12_aRule_9 : decode cX12_aRule 9 = .ok (.istore_n 2, 1) := by decide +kernel
theorem dX12_aRule_10 : decode cX12_aRule 10 = .ok (.aload_n 0, 1) := by decide +kernel
theorem dX12_aRule_11 : decode cX12_aRule 11 = .ok (.getfield 7, 3) := by decide +kernel
theorem dX12_aRule_14 : decode cX12_aRule 14 = .ok (.sipush 20760, 3) := by decide +kernel
theorem dX12_aRule_17 : decode cX12_aRule 17 = .ok (.laload, 1) := by decide +kernel
theorem dX12_aRule_18 : decode cX12_aRule 18 = .ok (.lconst 0, 1) := by decide +kernel
theorem dX12_aRule_19 : decode cX12_aRule 19 = .ok (.lcmp, 1) := by decide +kernel
theorem dX12_aRule_20 : decode cX12_aRule 20 = .ok (.ifCond .ne 9, 3) := by decide +kernel
theorem dX12_aRule_29 : decode cX12_aRule 29 = .ok (.iload_n 2, 1) := by decide +kernel
theorem dX12_aRule_30 : decode cX12_aRule 30 = .ok (.bipush 24, 2) := by decide +kernel
theorem dX12_aRule_32 : decode cX12_aRule 32 = .ok (.if_icmp .ne 9, 3) := by decide +kernel
theorem dX12_aRule_41 : decode cX12_aRule 41 = .ok (.sipush 20812, 3) := by decide +kernel
theorem ks_20812 : (Int16.ofInt 20812).toInt32.toInt = 20812 := by decide
theorem dX12_aRule_44 : decode cX12_aRule 44 = .ok (.bipush 60, 2) := by decide +kernel
theorem dX12_aRule_46 : decode cX12_aRule 46 = .ok (.iload_n 2, 1) := by decide +kernel
theorem dX12_aRule_47 : decode cX12_aRule 47 = .ok (.imul, 1) := by decide +kernel
theorem dX12_aRule_48 : decode cX12_aRule 48 = .ok (.iadd, 1) := by decide +kernel
theorem dX12_aRule_49 : decode cX12_aRule 49 = .ok (.istore_n 3, 1) := by decide +kernel
theorem dX12_aRule_50 : decode cX12_aRule 50 = .ok (.aload_n 0, 1) := by decide +kernel
theorem dX12_aRule_51 : decode cX12_aRule 51 = .ok (.getfield 7, 3) := by decide +kernel
theorem dX12_aRule_54 : decode cX12_aRule 54 = .ok (.iload_n 3, 1) := by decide +kernel
theorem dX12_aRule_55 : decode cX12_aRule 55 = .ok (.aload_n 0, 1) := by decide +kernel
theorem dX12_aRule_56 : decode cX12_aRule 56 = .ok (.getfield 7, 3) := by decide +kernel
theorem dX12_aRule_59 : decode cX12_aRule 59 = .ok (.sipush 20760, 3) := by decide +kernel
theorem dX12_aRule_62 : decode cX12_aRule 62 = .ok (.laload, 1) := by decide +kernel
theorem dX12_aRule_63 : decode cX12_aRule 63 = .ok (.lconst 1, 1) := by decide +kernel
theorem dX12_aRule_64 : decode cX12_aRule 64 = .ok (.lsub, 1) := by decide +kernel
theorem dX12_aRule_65 : decode cX12_aRule 65 = .ok (.lastore, 1) := by decide +kernel
theorem dX12_aRule_66 : decode cX12_aRule 66 = .ok (.aload_n 0, 1) := by decide +kernel
theorem dX12_aRule_67 : decode cX12_aRule 67 = .ok (.getfield 7, 3) := by decide +kernel
theorem dX12_aRule_70 : decode cX12_aRule 70 = .ok (.iload_n 3, 1) := by decide +kernel
theorem dX12_aRule_71 : decode cX12_aRule 71 = .ok (.iconst 1, 1) := by decide +kernel
theorem dX12_aRule_72 : decode cX12_aRule 72 = .ok (.iadd, 1) := by decide +kernel
theorem dX12_aRule_73 : decode cX12_aRule 73 = .ok (.iload_n 1, 1) := by decide +kernel
theorem dX12_aRule_82 : decode cX12_aRule 82 = .ok (.lastore, 1) := by decide +kernel
theorem dX12_aRule_83 : decode cX12_aRule 83 = .ok (.aload_n 0, 1) := by decide +kernel
theorem dX12_aRule_84 : decode cX12_aRule 84 = .ok (.getfield 7, 3) := by decide +kernel
theorem dX12_aRule_87 : decode cX12_aRule 87 = .ok (.iload_n 3, 1) := by decide +kernel
theorem dX12_aRule_88 : decode cX12_aRule 88 = .ok (.iconst 2, 1) := by decide +kernel
theorem dX12_aRule_89 : decode cX12_aRule 89 = .ok (.iadd, 1) := by decide +kernel
theorem dX12_aRule_90 : decode cX12_aRule 90 = .ok (.lconst 0, 1) := by decide +kernel
theorem dX12_aRule_91 : decode cX12_aRule 91 = .ok (.lastore, 1) := by decide +kernel
theorem dX12_aRule_92 : decode cX12_aRule 92 = .ok (.aload_n 0, 1) := by decide +kernel
theorem dX12_aRule_93 : decode cX12_aRule 93 = .ok (.iconst 0, 1) := by decide +kernel
theorem dX12_aRule_94 : decode cX12_aRule 94 = .ok (.putfield 245, 3) := by decide +kernel
section
variable {p : Program} {l : Launch} {e : Env} {R0 : Room} {s : State} {m : MethodId} {args : Array Value} {below : List Frame} {meth : Method} {c : Code} {H H0 : Heap} {locs : List Loc} {cells slots : Nat} {Q : State → Prop} {cc : ByteArray} {nL : Nat} {D : va_G} {cy : Nat → ClassId} {A : Nat → Prop} {L : List Nat} {R : Nat → Nat} {f : Nat → va_E} {pc : Nat} {ls : Array Slot} {rest : List Value} {a : Nat}
theorem p_12_245 (F : CallFix p m c cc nL s args wsL_law RX12) (h : tS D cy A H0 L R (TT cy L R) f s H locs) {x : Int32} (ha : a ∈ L) (hr : R a = 12) (hv : 0 ≤ x.toInt ∧ x.toInt ≤ 8) (hdg : decode cc pc = .ok (.putfield 245, 3)) (kk : ∀ (f1 : Nat → va_E) (H1 : Heap) (locs1 : List Loc), fi f1 a 19 = x.toInt → fr L R [(12, 19)] [12] f f1 → tS D cy A H0 L R (TT cy L R) f1 s H1 locs1 → W p l e R0 s m args below meth c H1 locs1 cells slots Q (F0 m (pc + 3) ls (rest))) : W p l e R0 s m args below meth c H locs cells slots Q (F0 m pc ls (.int x :: .ref a :: rest)) := tu_puti (k := 19) F h ha hr T_12 rfl hv.1 hv.2 inlX12 tyX12_ok nmX12 rfl (Nat.le_of_ble_eq_true rfl) mw_720 rfl rfl rfl hdg kk
end
theorem dX12_aRule_97 : decode cX12_aRule 97 = .ok (.aload_n 0, 1) := by decide +kernel
theorem dX12_aRule_98 : decode cX12_aRule 98 = .ok (.invokevirtual 184, 3) := by decide +kernel
theorem dX12_aRule_101 : decode cX12_aRule 101 = .ok (.iconst 1, 1) := by decide +kernel
theorem dX12_aRule_102 : decode cX12_aRule 102 = .ok (.istore 4, 2) := by decide +kernel
theorem dX12_aRule_104 : decode cX12_aRule 104 = .ok (.iload 4, 2) := by decide +kernel
theorem dX12_aRule_106 : decode cX12_aRule 106 = .ok (.ifCond .eq 168, 3) := by decide +kernel
theorem dX12_aRule_274 : decode cX12_aRule 274 = .ok (.aload_n 0, 1) := by decide +kernel
theorem dX12_aRule_275 : decode cX12_aRule 275 = .ok (.invokevirtual 184, 3) := by decide +kernel
theorem dX12_aRule_278 : decode cX12_aRule 278 = .ok (.aload_n 0, 1) := by decide +kernel
theorem dX12_aRule_279 : decode cX12_aRule 279 = .ok (.iload_n 3, 1) := by decide +kernel
theorem dX12_aRule_280 : decode cX12_aRule 280 = .ok (.bipush 11, 2) := by decide +kernel
theorem dX12_aRule_282 : decode cX12_aRule 282 = .ok (.iadd, 1) := by decide +kernel
theorem dX12_aRule_283 : decode cX12_aRule 283 = .ok (.iload_n 1, 1) := by decide +kernel
theorem dX12_aRule_292 : decode cX12_aRule 292 = .ok (.invokevirtual 263, 3) := by decide +kernel
theorem mw_727 : Cond.methodLink RX12 263 yX12_answers ∈ wsL_law := inr_31 _ (List.mem_of_getElem? (i := 7) rfl)
theorem mw_730 : Cond.code yX12_answers cX12_answers 3 (some .boolean) ∈ wsL_law := inr_31 _ (List.mem_of_getElem? (i := 10) rfl)
theorem yk_X12_answers : xY yX12_answers RX12 cX12_answers 3 (some .boolean) 2 := ⟨⟨rfl, by decide +kernel, by decide +kernel, by decide +kernel⟩, mw_5, mw_730⟩
theorem mw_728 : Cond.instanceMethod yX12_answers ∈ wsL_law := inr_31 _ (List.mem_of_getElem? (i := 8) rfl)
theorem mw_729 : Cond.selects RX12 yX12_answers yX12_answers ∈ wsL_law := inr_31 _ (List.mem_of_getElem? (i := 9) rfl)
theorem dX12_aRule_295 : decode cX12_aRule 295 = .ok (.ifCond .ne 5, 3) := by decide +kernel
theorem dX12_aRule_300 : decode cX12_aRule 300 = .ok (.aload_n 0, 1) := by decide +kernel
theorem dX12_aRule_301 : decode cX12_aRule 301 = .ok (.getfield 7, 3) := by decide +kernel
theorem dX12_aRule_304 : decode cX12_aRule 304 = .ok (.sipush 20761, 3) := by decide +kernel
theorem dX12_aRule_307 : decode cX12_aRule 307 = .ok (.dup2, 1) := by decide +kernel
theorem dX12_aRule_308 : decode cX12_aRule 308 = .ok (.laload, 1) := by decide +kernel
theorem dX12_aRule_309 : decode cX12_aRule 309 = .ok (.lconst 1, 1) := by decide +kernel
theorem dX12_aRule_310 : decode cX12_aRule 310 = .ok (.ladd, 1) := by decide +kernel
theorem dX12_aRule_311 : decode cX12_aRule 311 = .ok (.lastore, 1) := by decide +kernel
theorem dX12_aRule_312 : decode cX12_aRule 312 = .ok (.iconst 1, 1) := by decide +kernel
theorem dX12_aRule_313 : decode cX12_aRule 313 = .ok (.ireturn, 1) := by decide +kernel
theorem dX12_aRule_298 : decode cX12_aRule 298 = .ok (.iconst 0, 1) := by decide +kernel
theorem dX12_aRule_299 : decode cX12_aRule 299 = .ok (.ireturn, 1) := by decide +kernel
theorem dX12_aRule_284 : decode cX12_aRule 284 = .ok (.ifCond .ne 7, 3) := by decide +kernel
theorem dX12_aRule_291 : decode cX12_aRule 291 = .ok (.iconst 0, 1) := by decide +kernel
theorem dX12_aRule_287 : decode cX12_aRule 287 = .ok (.iconst 1, 1) := by decide +kernel
theorem dX12_aRule_288 : decode cX12_aRule 288 = .ok (.goto 4, 3) := by decide +kernel
theorem dX12_aRule_109 : decode cX12_aRule 109 = .ok (.aload_n 0, 1) := by decide +kernel
theorem dX12_aRule_110 : decode cX12_aRule 110 = .ok (.bipush 42, 2) := by decide +kernel
theorem dX12_aRule_112 : decode cX12_aRule 112 = .ok (.invokevirtual 256, 3) := by decide +kernel
theorem mw_723 : Cond.methodLink RX12 256 yX12_isSign ∈ wsL_law := inr_31 _ (List.mem_of_getElem? (i := 3) rfl)
theorem mw_726 : Cond.code yX12_isSign cX12_isSign 2 (some .boolean) ∈ wsL_law := inr_31 _ (List.mem_of_getElem? (i := 6) rfl)
theorem yk_X12_isSign : xY yX12_isSign RX12 cX12_isSign 2 (some .boolean) 1 := ⟨⟨rfl, by decide +kernel, by decide +kernel, by decide +kernel⟩, mw_5, mw_726⟩
theorem mw_724 : Cond.instanceMethod yX12_isSign ∈ wsL_law := inr_31 _ (List.mem_of_getElem? (i := 4) rfl)
theorem mw_725 : Cond.selects RX12 yX12_isSign yX12_isSign ∈ wsL_law := inr_31 _ (List.mem_of_getElem? (i := 5) rfl)
theorem dX12_aRule_132 : decode cX12_aRule 132 = .ok (.istore 5, 2) := by decide +kernel
theorem dX12_aRule_134 : decode cX12_aRule 134 = .ok (.iload 5, 2) := by decide +kernel
theorem dX12_aRule_152 : decode cX12_aRule 152 = .ok (.aload_n 0, 1) := by decide +kernel
theorem dX12_aRule_153 : decode cX12_aRule 153 = .ok (.getfield 7, 3) := by decide +kernel
theorem dX12_aRule_156 : decode cX12_aRule 156 = .ok (.iload_n 3, 1) := by decide +kernel
theorem dX12_aRule_157 : decode cX12_aRule 157 = .ok (.iconst 2, 1) := by decide +kernel
theorem dX12_aRule_158 : decode cX12_aRule 158 = .ok (.iadd, 1) := by decide +kernel
theorem dX12_aRule_159 : decode cX12_aRule 159 = .ok (.laload, 1) := by decide +kernel
theorem dX12_aRule_160 : decode cX12_aRule 160 = .ok (.ldc2_w 259, 3) := by decide +kernel
theorem mw_721 : Cond.constantLong RX12 259 (8) ∈ wsL_law := inr_31 _ (List.mem_of_getElem? (i := 1) rfl)
theorem kl_8 : (8 : Int64).toInt = 8 := by decide +kernel
theorem dX12_aRule_163 : decode cX12_aRule 163 = .ok (.lcmp, 1) := by decide +kernel
theorem dX12_aRule_164 : decode cX12_aRule 164 = .ok (.ifCond .ne 9, 3) := by decide +kernel
theorem dX12_aRule_173 : decode cX12_aRule 173 = .ok (.aload_n 0, 1) := by decide +kernel
theorem dX12_aRule_174 : decode cX12_aRule 174 = .ok (.getfield 7, 3) := by decide +kernel
theorem dX12_aRule_177 : decode cX12_aRule 177 = .ok (.iload_n 3, 1) := by decide +kernel
theorem dX12_aRule_178 : decode cX12_aRule 178 = .ok (.iconst 3, 1) := by decide +kernel
theorem dX12_aRule_179 : decode cX12_aRule 179 = .ok (.iadd, 1) := by decide +kernel
theorem dX12_aRule_180 : decode cX12_aRule 180 = .ok (.aload_n 0, 1) := by decide +kernel
theorem dX12_aRule_181 : decode cX12_aRule 181 = .ok (.getfield 7, 3) := by decide +kernel
theorem dX12_aRule_184 : decode cX12_aRule 184 = .ok (.iload_n 3, 1) := by decide +kernel
theorem dX12_aRule_185 : decode cX12_aRule 185 = .ok (.iconst 2, 1) := by decide +kernel
theorem dX12_aRule_186 : decode cX12_aRule 186 = .ok (.iadd, 1) := by decide +kernel
theorem dX12_aRule_187 : decode cX12_aRule 187 = .ok (.laload, 1) := by decide +kernel
theorem dX12_aRule_188 : decode cX12_aRule 188 = .ok (.l2i, 1) := by decide +kernel
theorem dX12_aRule_189 : decode cX12_aRule 189 = .ok (.iadd, 1) := by decide +kernel
theorem dX12_aRule_190 : decode cX12_aRule 190 = .ok (.aload_n 0, 1) := by decide +kernel
theorem dX12_aRule_191 : decode cX12_aRule 191 = .ok (.bipush 42, 2) := by decide +kernel
theorem dX12_aRule_193 : decode cX12_aRule 193 = .ok (.invokevirtual 256, 3) := by decide +kernel
theorem dX12_aRule_220 : decode cX12_aRule 220 = .ok (.lastore, 1) := by decide +kernel
theorem dX12_aRule_221 : decode cX12_aRule 221 = .ok (.aload_n 0, 1) := by decide +kernel
theorem dX12_aRule_222 : decode cX12_aRule 222 = .ok (.getfield 7, 3) := by decide +kernel
theorem dX12_aRule_225 : decode cX12_aRule 225 = .ok (.iload_n 3, 1) := by decide +kernel
theorem dX12_aRule_226 : decode cX12_aRule 226 = .ok (.iconst 2, 1) := by decide +kernel
theorem dX12_aRule_227 : decode cX12_aRule 227 = .ok (.iadd, 1) := by decide +kernel
theorem dX12_aRule_228 : decode cX12_aRule 228 = .ok (.dup2, 1) := by decide +kernel
theorem dX12_aRule_229 : decode cX12_aRule 229 = .ok (.laload, 1) := by decide +kernel
theorem dX12_aRule_230 : decode cX12_aRule 230 = .ok (.lconst 1, 1) := by decide +kernel
theorem dX12_aRule_231 : decode cX12_aRule 231 = .ok (.ladd, 1) := by decide +kernel
theorem dX12_aRule_232 : decode cX12_aRule 232 = .ok (.lastore, 1) := by decide +kernel
theorem dX12_aRule_233 : decode cX12_aRule 233 = .ok (.aload_n 0, 1) := by decide +kernel
theorem dX12_aRule_234 : decode cX12_aRule 234 = .ok (.dup, 1) := by decide +kernel
theorem dX12_aRule_235 : decode cX12_aRule 235 = .ok (.getfield 245, 3) := by decide +kernel
theorem dX12_aRule_238 : decode cX12_aRule 238 = .ok (.iload 5, 2) := by decide +kernel
theorem dX12_aRule_248 : decode cX12_aRule 248 = .ok (.iadd, 1) := by decide +kernel
theorem dX12_aRule_249 : decode cX12_aRule 249 = .ok (.putfield 245, 3) := by decide +kernel
theorem dX12_aRule_252 : decode cX12_aRule 252 = .ok (.aload_n 0, 1) := by decide +kernel
theorem dX12_aRule_253 : decode cX12_aRule 253 = .ok (.invokevirtual 184, 3) := by decide +kernel
theorem dX12_aRule_256 : decode cX12_aRule 256 = .ok (.aload_n 0, 1) := by decide +kernel
theorem dX12_aRule_257 : decode cX12_aRule 257 = .ok (.invokevirtual 231, 3) := by decide +kernel
theorem dX12_aRule_260 : decode cX12_aRule 260 = .ok (.iconst 4, 1) := by decide +kernel
theorem dX12_aRule_269 : decode cX12_aRule 269 = .ok (.istore 4, 2) := by decide +kernel
theorem dX12_aRule_271 : decode cX12_aRule 271 = .ok (.goto (-167), 3) := by decide +kernel
theorem dX12_aRule_261 : decode cX12_aRule 261 = .ok (.if_icmp .eq 7, 3) := by decide +kernel
theorem dX12_aRule_268 : decode cX12_aRule 268 = .ok (.iconst 0, 1) := by decide +kernel
theorem dX12_aRule_264 : decode cX12_aRule 264 = .ok (.iconst 1, 1) := by decide +kernel
theorem dX12_aRule_265 : decode cX12_aRule 265 = .ok (.goto 4, 3) := by decide +kernel
theorem dX12_aRule_240 : decode cX12_aRule 240 = .ok (.ifCond .eq 7, 3) := by decide +kernel
theorem dX12_aRule_247 : decode cX12_aRule 247 = .ok (.iconst 0, 1) := by decide +kernel
theorem dX12_aRule_243 : decode cX12_aRule 243 = .ok (.iconst 1, 1) := by decide +kernel
theorem dX12_aRule_244 : decode cX12_aRule 244 = .ok (.goto 4, 3) := by decide +kernel
theorem dX12_aRule_196 : decode cX12_aRule 196 = .ok (.ifCond .eq 9, 3) := by decide +kernel
theorem dX12_aRule_205 : decode cX12_aRule 205 = .ok (.iload 5, 2) := by decide +kernel
theorem dX12_aRule_207 : decode cX12_aRule 207 = .ok (.ifCond .eq 9, 3) := by decide +kernel
theorem dX12_aRule_216 : decode cX12_aRule 216 = .ok (.aload_n 0, 1) := by decide +kernel
theorem dX12_aRule_217 : decode cX12_aRule 217 = .ok (.invokevirtual 190, 3) := by decide +kernel
theorem dX12_aRule_210 : decode cX12_aRule 210 = .ok (.ldc2_w 261, 3) := by decide +kernel
theorem dX12_aRule_213 : decode cX12_aRule 213 = .ok (.goto 7, 3) := by decide +kernel
theorem dX12_aRule_199 : decode cX12_aRule 199 = .ok (.ldc2_w 142, 3) := by decide +kernel
theorem dX12_aRule_202 : decode cX12_aRule 202 = .ok (.goto 18, 3) := by decide +kernel
theorem dX12_aRule_167 : decode cX12_aRule 167 = .ok (.aload_n 0, 1) := by decide +kernel
theorem dX12_aRule_168 : decode cX12_aRule 168 = .ok (.iconst 5, 1) := by decide +kernel
theorem dX12_aRule_169 : decode cX12_aRule 169 = .ok (.invokevirtual 187, 3) := by decide +kernel
theorem dX12_aRule_172 : decode cX12_aRule 172 = .ok (.ireturn, 1) := by decide +kernel
theorem dX12_aRule_136 : decode cX12_aRule 136 = .ok (.ifCond .ne 16, 3) := by decide +kernel
theorem dX12_aRule_139 : decode cX12_aRule 139 = .ok (.aload_n 0, 1) := by decide +kernel
theorem dX12_aRule_140 : decode cX12_aRule 140 = .ok (.invokevirtual 234, 3) := by decide +kernel
theorem dX12_aRule_143 : decode cX12_aRule 143 = .ok (.ifCond .ne 9, 3) := by decide +kernel
theorem dX12_aRule_146 : decode cX12_aRule 146 = .ok (.aload_n 0, 1) := by decide +kernel
theorem dX12_aRule_147 : decode cX12_aRule 147 = .ok (.iconst 2, 1) := by decide +kernel
theorem dX12_aRule_148 : decode cX12_aRule 148 = .ok (.invokevirtual 187, 3) := by decide +kernel
theorem dX12_aRule_151 : decode cX12_aRule 151 = .ok (.ireturn, 1) := by decide +kernel
theorem dX12_aRule_127 : decode cX12_aRule 127 = .ok (.iconst 1, 1) := by decide +kernel
theorem dX12_aRule_128 : decode cX12_aRule 128 = .ok (.goto 4, 3) := by decide +kernel
theorem dX12_aRule_115 : decode cX12_aRule 115 = .ok (.ifCond .ne 12, 3) := by decide +kernel
theorem dX12_aRule_118 : decode cX12_aRule 118 = .ok (.aload_n 0, 1) := by decide +kernel
theorem dX12_aRule_119 : decode cX12_aRule 119 = .ok (.bipush 63, 2) := by decide +kernel
theorem dX12_aRule_121 : decode cX12_aRule 121 = .ok (.invokevirtual 256, 3) := by decide +kernel
theorem dX12_aRule_124 : decode cX12_aRule 124 = .ok (.ifCond .eq 7, 3) := by decide +kernel
theorem dX12_aRule_131 : decode cX12_aRule 131 = .ok (.iconst 0, 1) := by decide +kernel
theorem dX12_aRule_74 : decode cX12_aRule 74 = .ok (.ifCond .eq 7, 3) := by decide +kernel
theorem dX12_aRule_81 : decode cX12_aRule 81 = .ok (.lconst 0, 1) := by decide +kernel
theorem dX12_aRule_77 : decode cX12_aRule 77 = .ok (.lconst 1, 1) := by decide +kernel
theorem dX12_aRule_78 : decode cX12_aRule 78 = .ok (.goto 4, 3) := by decide +kernel
theorem dX12_aRule_35 : decode cX12_aRule 35 = .ok (.aload_n 0, 1) := by decide +kernel
theorem dX12_aRule_36 : decode cX12_aRule 36 = .ok (.iconst 5, 1) := by decide +kernel
theorem dX12_aRule_37 : decode cX12_aRule 37 = .ok (.invokevirtual 187, 3) := by decide +kernel
theorem dX12_aRule_40 : decode cX12_aRule 40 = .ok (.ireturn, 1) := by decide +kernel
theorem dX12_aRule_23 : decode cX12_aRule 23 = .ok (.aload_n 0, 1) := by decide +kernel
theorem dX12_aRule_24 : decode cX12_aRule 24 = .ok (.iconst 4, 1) := by decide +kernel
theorem dX12_aRule_25 : decode cX12_aRule 25 = .ok (.invokevirtual 187, 3) := by decide +kernel
theorem dX12_aRule_28 : decode cX12_aRule 28 = .ok (.ireturn, 1) := by decide +kernel
def rm_X12_aRule : Room := { frames := 8, cells := 0, slots := 0, locals := 175 }
set_option maxHeartbeats 4000000 in
set_option maxRecDepth 100000 in
theorem s_X12_aRule (l : Launch) (D : va_G) (cy : Nat → ClassId) (L : List Nat) (R O : Nat → Nat) (f0 : Nat → va_E) (a0 : Nat) (m_a0 : a0 ∈ L) (r_a0 : R a0 = 12) (x1 : Int32) (b1 : 0 ≤ x1.toInt ∧ x1.toInt ≤ 1) (GA : Nat) (m_GA : GA ∈ L) (r_GA : R GA = 61) (t_GA : fld f0 a0 0 = .ref GA) (GP : Nat) (m_GP : GP ∈ L) (r_GP : R GP = 69) (t_GP : fld f0 a0 22 = .ref GP) (GL : Nat) (m_GL : GL ∈ L) (r_GL : R GL = 70) (t_GL : fld f0 a0 23 = .ref GL) (GT : Nat) (m_GT : GT ∈ L) (r_GT : R GT = 64) (t_GT : fld f0 a0 6 = .ref GT) (pre0 : RB GA 20760 f0) : ∀ sz, Met l yX12_aRule (Cond.code yX12_aRule cX12_aRule 6 (some .boolean) :: wsL_law) rm_X12_aRule (va_Pc [.ref a0, .int x1] (tPZ D cy L R (TT cy L R) f0 sz)) (va_Qi (fun (r : Int32) f1 => fr L R [(12, 11), (12, 12), (12, 13), (12, 14), (12, 16), (12, 17), (12, 19)] [12, 61] f0 f1 ∧ 0 ≤ r.toInt ∧ r.toInt ≤ 1 ∧ KW (20761) (22252) GA f0 f1 ∧ elj f1 GA 20760 = elj f0 GA 20760 ∧ elj f1 GA 20762 = elj f0 GA 20762 ∧ elj f1 GA 20763 = elj f0 GA 20763 ∧ (r.toInt = 0 ∨ elj f1 GA 20761 = elj f0 GA 20761 + 1) ∧ elj f0 GA 20761 ≤ elj f1 GA 20761 ∧ RB GA 20760 f1) (tB D (tA L sz) L R (TT cy L R)) (tA L sz)) 0 0 (tA L sz) := by
  refine tw_enteri (by decide +kernel) rfl (Nat.le_of_ble_eq_true rfl) ?_
  intro p e s m below meth c A ls args Q F hZ h hl hret
  have hl : lv_has ls 6 [(0, .ref a0), (1, .int x1)] := hl
  have hk : fr L R [(12, 11), (12, 12), (12, 13), (12, 14), (12, 16), (12, 17), (12, 19)] [12, 61] f0 f0 := fr.rf
  have t_a0_gaps := h.bfi m_a0 r_a0 (fun e q => (T_12 e).mp q) (k := 19) rfl
  have hA : KW (20761) (22252) GA f0 f0 := KW.rf
  have hRN := pre0
  refine lv_aload_n F.1 F.2.1 dX12_aRule_0 rfl (lv_at hl 0 rfl) ?_
  refine g_12_7 F h m_a0 r_a0 dX12_aRule_1 (fun o1 m_o1 r_o1 ho1 => ?_)
  obtain rfl := (fld_inj t_GA ho1).symm
  refine tw_sipush F dX12_aRule_4 ks_20761 (fun z2 hz2 => ?_)
  refine le_61 F h m_GA r_GA (by omega) dX12_aRule_7 (fun v3 ev3 hv3a => ?_)
  have hv3b := clP_2.mp (atb hv3a (ac_c (b := 20760) 1 isB_n (by decide) (by omega) rfl))
  have u7 : v3.toInt = elj f0 GA (20761) := by rw [ev3, show z2.toInt.toNat = 20761 by omega]
  refine tw_l2i F dX12_aRule_8 (by omega) (by omega) (fun z4 hz4 => ?_)
  refine lv_istore_n (lv' := [(2, .int z4), (0, .ref a0), (1, .int x1)]) F.1 F.2.1 dX12_aRule_9 rfl hl (by decide) rfl (fun ls hl => ?_)
  have hA2 : KW (20812 + 60 * z4.toInt.toNat) (20872 + 60 * z4.toInt.toNat) GA f0 f0 := KW.rf
  have hn41 : elj f0 GA 20761 = ((z4.toInt.toNat : Nat) : Int) := by omega
  refine lv_aload_n F.1 F.2.1 dX12_aRule_10 rfl (lv_at hl 1 rfl) ?_
  refine g_12_7 F h m_a0 r_a0 dX12_aRule_11 (fun o5 m_o5 r_o5 ho5 => ?_)
  obtain rfl := (fld_inj t_GA ho5).symm
  refine tw_sipush F dX12_aRule_14 ks_20760 (fun z6 hz6 => ?_)
  refine ld_61 F h m_GA r_GA (by omega) dX12_aRule_17 (fun v7 hv7a => ?_)
  have hv7b := clP_1.mp (atb hv7a (ac_c (b := 20760) 0 isB_n (by decide) (by omega) rfl))
  refine tu_lconst F dX12_aRule_18 (by decide) (fun z8 (hz8 : z8.toInt = 0) => ?_)
  refine tw_lcmp F dX12_aRule_19 (fun z9 hz9 => ?_)
  refine tw_if_ne (tgt := 29) F dX12_aRule_20 (by decide) (fun b10 => ?_) (fun b10 => ?_)
  · refine lv_iload_n F.1 F.2.1 dX12_aRule_29 rfl (lv_at hl 0 rfl) ?_
    refine tw_bipush F dX12_aRule_30 kb_24 (fun z11 hz11 => ?_)
    refine tw_icmp_ne (tgt := 41) F dX12_aRule_32 (by decide) (fun b12 => ?_) (fun b12 => ?_)
    · refine tw_sipush F dX12_aRule_41 ks_20812 (fun z13 hz13 => ?_)
      refine tw_bipush F dX12_aRule_44 kb_60 (fun z14 hz14 => ?_)
      refine lv_iload_n F.1 F.2.1 dX12_aRule_46 rfl (lv_at hl 0 rfl) ?_
      refine tu_imull F dX12_aRule_47 hz14 (by omega) (fun z15 hz15 => ?_)
      refine tu_iadd F dX12_aRule_48 (by omega) (fun z16 hz16 => ?_)
      refine lv_istore_n (lv' := [(3, .int z16), (2, .int z4), (0, .ref a0), (1, .int x1)]) F.1 F.2.1 dX12_aRule_49 rfl hl (by decide) rfl (fun ls hl => ?_)
      refine lv_aload_n F.1 F.2.1 dX12_aRule_50 rfl (lv_at hl 2 rfl) ?_
      refine g_12_7 F h m_a0 r_a0 dX12_aRule_51 (fun o17 m_o17 r_o17 ho17 => ?_)
      obtain rfl := (fld_inj t_GA ho17).symm
      refine lv_iload_n F.1 F.2.1 dX12_aRule_54 rfl (lv_at hl 0 rfl) ?_
      refine lv_aload_n F.1 F.2.1 dX12_aRule_55 rfl (lv_at hl 2 rfl) ?_
      refine g_12_7 F h m_a0 r_a0 dX12_aRule_56 (fun o18 m_o18 r_o18 ho18 => ?_)
      obtain rfl := (fld_inj t_GA ho18).symm
      refine tw_sipush F dX12_aRule_59 ks_20760 (fun z19 hz19 => ?_)
      refine ld_61 F h m_GA r_GA (by omega) dX12_aRule_62 (fun v20 hv20a => ?_)
      have hv20b := clP_1.mp (atb hv20a (ac_c (b := 20760) 0 isB_n (by decide) (by omega) rfl))
      refine tu_lconst F dX12_aRule_63 (by decide) (fun z21 (hz21 : z21.toInt = 1) => ?_)
      refine lv_lsub F.1 F.2.1 dX12_aRule_64 ?_
      refine lv_topl (fun z22 _ => ?_)
      refine se_61 F h m_GA r_GA (by omega) (atS (ac_r (b := 20760) 0 isB_n (by omega) rfl) clP_13) dX12_aRule_65 (fun f23 H locs e23a e23b hf23 h => ?_)
      have hA : KW (20761) (22252) GA f0 f23 := hA.st e23a (by omega)
      have hA2 : KW (20812 + 60 * z4.toInt.toNat) (20872 + 60 * z4.toInt.toNat) GA f0 f23 := hA2.st e23a (by omega)
      have hk : fr L R [(12, 11), (12, 12), (12, 13), (12, 14), (12, 16), (12, 17), (12, 19)] [12, 61] f0 f23 := hk.tr hf23 rfl rfl
      have e24 : fld f23 a0 0 = .ref GA := (hf23.efl m_a0 r_a0 rfl).trans t_GA
      have e25 : fld f23 a0 22 = .ref GP := (hf23.efl m_a0 r_a0 rfl).trans t_GP
      have e26 : fld f23 a0 23 = .ref GL := (hf23.efl m_a0 r_a0 rfl).trans t_GL
      have e27 : fld f23 a0 6 = .ref GT := (hf23.efl m_a0 r_a0 rfl).trans t_GT
      have e28 : fi f23 a0 19 = fi f0 a0 19 := hf23.efi m_a0 r_a0 rfl
      refine lv_aload_n F.1 F.2.1 dX12_aRule_66 rfl (lv_at hl 2 rfl) ?_
      refine g_12_7 F h m_a0 r_a0 dX12_aRule_67 (fun o29 m_o29 r_o29 ho29 => ?_)
      obtain rfl := (fld_inj e24 ho29).symm
      refine lv_iload_n F.1 F.2.1 dX12_aRule_70 rfl (lv_at hl 0 rfl) ?_
      refine tw_iconst F dX12_aRule_71 ki_1 (fun z30 hz30 => ?_)
      refine tu_iadd F dX12_aRule_72 (by omega) (fun z31 hz31 => ?_)
      refine lv_iload_n F.1 F.2.1 dX12_aRule_73 rfl (lv_at hl 3 rfl) ?_
      have j_82 : ∀ (ls : Array Slot) (y0_82 : Int64), 0 ≤ y0_82.toInt → y0_82.toInt ≤ 1 → lv_has ls 6 [(0, .ref a0), (1, .int x1), (3, .int z16)] → W p l e rm_X12_aRule s m args below meth c H locs 0 0 Q (F0 m 82 ls [.long y0_82, .int z31, .ref GA]) := by
        intro ls y0_82 b32 b33 hl
        refine se_61 F h m_GA r_GA (by omega) (atS (ac_r (b := 20760) 1 isB_n (by omega) rfl) clP_0) dX12_aRule_82 (fun f34 H locs e34a e34b hf34 h => ?_)
        have hA : KW (20761) (22252) GA f0 f34 := hA.st e34a (by omega)
        have hA2 : KW (20812 + 60 * z4.toInt.toNat) (20872 + 60 * z4.toInt.toNat) GA f0 f34 := hA2.st e34a (by omega)
        have hk : fr L R [(12, 11), (12, 12), (12, 13), (12, 14), (12, 16), (12, 17), (12, 19)] [12, 61] f0 f34 := hk.tr hf34 rfl rfl
        have e35 : fld f34 a0 0 = .ref GA := (hf34.efl m_a0 r_a0 rfl).trans e24
        have e36 : fld f34 a0 22 = .ref GP := (hf34.efl m_a0 r_a0 rfl).trans e25
        have e37 : fld f34 a0 23 = .ref GL := (hf34.efl m_a0 r_a0 rfl).trans e26
        have e38 : fld f34 a0 6 = .ref GT := (hf34.efl m_a0 r_a0 rfl).trans e27
        have e39 : fi f34 a0 19 = fi f23 a0 19 := hf34.efi m_a0 r_a0 rfl
        refine lv_aload_n F.1 F.2.1 dX12_aRule_83 rfl (lv_at hl 0 rfl) ?_
        refine g_12_7 F h m_a0 r_a0 dX12_aRule_84 (fun o40 m_o40 r_o40 ho40 => ?_)
        obtain rfl := (fld_inj e35 ho40).symm
        refine lv_iload_n F.1 F.2.1 dX12_aRule_87 rfl (lv_at hl 2 rfl) ?_
        refine tw_iconst F dX12_aRule_88 ki_2 (fun z41 hz41 => ?_)
        refine tu_iadd F dX12_aRule_89 (by omega) (fun z42 hz42 => ?_)
        refine tu_lconst F dX12_aRule_90 (by decide) (fun z43 (hz43 : z43.toInt = 0) => ?_)
        refine se_61 F h m_GA r_GA (by omega) (atP_0 (by omega)) dX12_aRule_91 (fun f44 H locs e44a e44b hf44 h => ?_)
        have hA : KW (20761) (22252) GA f0 f44 := hA.st e44a (by omega)
        have hA2 : KW (20812 + 60 * z4.toInt.toNat) (20872 + 60 * z4.toInt.toNat) GA f0 f44 := hA2.st e44a (by omega)
        have hk : fr L R [(12, 11), (12, 12), (12, 13), (12, 14), (12, 16), (12, 17), (12, 19)] [12, 61] f0 f44 := hk.tr hf44 rfl rfl
        have e45 : fld f44 a0 0 = .ref GA := (hf44.efl m_a0 r_a0 rfl).trans e35
        have e46 : fld f44 a0 22 = .ref GP := (hf44.efl m_a0 r_a0 rfl).trans e36
        have e47 : fld f44 a0 23 = .ref GL := (hf44.efl m_a0 r_a0 rfl).trans e37
        have e48 : fld f44 a0 6 = .ref GT := (hf44.efl m_a0 r_a0 rfl).trans e38
        have e49 : fi f44 a0 19 = fi f34 a0 19 := hf44.efi m_a0 r_a0 rfl
        have hqki : elj f44 GA (20814 + 60 * z4.toInt.toNat) = z43.toInt := by rw [e44a, if_pos (by omega)]
        refine lv_aload_n F.1 F.2.1 dX12_aRule_92 rfl (lv_at hl 0 rfl) ?_
        refine tw_iconst F dX12_aRule_93 ki_0 (fun z50 hz50 => ?_)
        refine p_12_245 F h m_a0 r_a0 (by omega) dX12_aRule_94 (fun f51 H locs e51p hf51 h => ?_)
        have hA : KW (20761) (22252) GA f0 f51 := hA.fm hf51 m_GA r_GA (by decide +kernel)
        have hA2 : KW (20812 + 60 * z4.toInt.toNat) (20872 + 60 * z4.toInt.toNat) GA f0 f51 := hA2.fm hf51 m_GA r_GA (by decide +kernel)
        have hqki : elj f51 GA (20814 + 60 * z4.toInt.toNat) = z43.toInt := (hf51.eelj m_GA r_GA (by decide +kernel) _).trans hqki
        have hk : fr L R [(12, 11), (12, 12), (12, 13), (12, 14), (12, 16), (12, 17), (12, 19)] [12, 61] f0 f51 := hk.tr hf51 rfl rfl
        have e52 : fld f51 a0 0 = .ref GA := (hf51.efl m_a0 r_a0 rfl).trans e45
        have e53 : fld f51 a0 22 = .ref GP := (hf51.efl m_a0 r_a0 rfl).trans e46
        have e54 : fld f51 a0 23 = .ref GL := (hf51.efl m_a0 r_a0 rfl).trans e47
        have e55 : fld f51 a0 6 = .ref GT := (hf51.efl m_a0 r_a0 rfl).trans e48
        refine lv_aload_n F.1 F.2.1 dX12_aRule_97 rfl (lv_at hl 0 rfl) ?_
        refine tw_Vv (As := []) F hZ h yk_X12_ahead0 mw_468 mw_469 mw_470 (s_X12_ahead0 l D cy L R O f51 a0 m_a0 r_a0) rfl rfl m_a0 r_a0 (fun e q => (T_12 e).mp q) rfl hl.1 rfl (Nat.le_of_ble_eq_true rfl) ⟨Nat.le_of_ble_eq_true rfl, Nat.le_of_ble_eq_true rfl⟩ ⟨Nat.le_of_ble_eq_true rfl, Nat.le_of_ble_eq_true rfl⟩ dX12_aRule_98 (fun f56 H locs hp56 h => ?_)
        obtain ⟨hf56, hv57p0⟩ := hp56
        have hA : KW (20761) (22252) GA f0 f56 := hA.fm hf56 m_GA r_GA (by decide +kernel)
        have hA2 : KW (20812 + 60 * z4.toInt.toNat) (20872 + 60 * z4.toInt.toNat) GA f0 f56 := hA2.fm hf56 m_GA r_GA (by decide +kernel)
        have hqki : elj f56 GA (20814 + 60 * z4.toInt.toNat) = z43.toInt := (hf56.eelj m_GA r_GA (by decide +kernel) _).trans hqki
        have hk : fr L R [(12, 11), (12, 12), (12, 13), (12, 14), (12, 16), (12, 17), (12, 19)] [12, 61] f0 f56 := hk.tr hf56 rfl rfl
        have e58 : fld f56 a0 0 = .ref GA := (hf56.efl m_a0 r_a0 rfl).trans e52
        have e59 : fld f56 a0 22 = .ref GP := (hf56.efl m_a0 r_a0 rfl).trans e53
        have e60 : fld f56 a0 23 = .ref GL := (hf56.efl m_a0 r_a0 rfl).trans e54
        have e61 : fld f56 a0 6 = .ref GT := (hf56.efl m_a0 r_a0 rfl).trans e55
        have e62 : fi f56 a0 19 = fi f51 a0 19 := hf56.efi m_a0 r_a0 rfl
        refine tw_iconst F dX12_aRule_101 ki_1 (fun z63 hz63 => ?_)
        refine lv_istore (lv' := [(4, .int z63), (0, .ref a0), (1, .int x1), (3, .int z16)]) F.1 F.2.1 dX12_aRule_102 hl (by decide) rfl (fun ls hl => ?_)
        have j_104 : ∀ (n104 : Nat) (f64 : Nat → va_E) (H : Heap) (locs : List Loc) (ls : Array Slot) (x4_104 : Int32), 0 ≤ x4_104.toInt → x4_104.toInt ≤ 1 → elj f64 GA (20814 + 60 * z4.toInt.toNat) ≤ 8 → 0 ≤ elj f64 GA (20814 + 60 * z4.toInt.toNat) → fi f64 a0 19 ≤ elj f64 GA (20814 + 60 * z4.toInt.toNat) → 0 ≤ fi f64 a0 19 → ((9 - elj f64 GA (20814 + 60 * z4.toInt.toNat))).toNat < n104 → tS D cy A s.heap L R (TT cy L R) f64 s H locs → KW (20761) (22252) GA f0 f64 → KW (20812 + 60 * z4.toInt.toNat) (20872 + 60 * z4.toInt.toNat) GA f0 f64 → fr L R [(12, 11), (12, 12), (12, 13), (12, 14), (12, 16), (12, 17), (12, 19)] [12, 61] f0 f64 → fr L R [(12, 11), (12, 12), (12, 13), (12, 14), (12, 19)] [12, 61] f56 f64 → lv_has ls 6 [(0, .ref a0), (1, .int x1), (3, .int z16), (4, .int x4_104)] → W p l e rm_X12_aRule s m args below meth c H locs 0 0 Q (F0 m 104 ls []) := by
          intro n104
          induction n104 with
          | zero =>
            intro f64 H locs ls x4_104 b65 b66 b67 b68 b69 b70 b71 h hA hA2 hk hb104 hl
            exfalso
            omega
          | succ n104 ih104 =>
            intro f64 H locs ls x4_104 b65 b66 b67 b68 b69 b70 b71 h hA hA2 hk hb104 hl
            have e72 : fld f64 a0 0 = .ref GA := (hb104.efl m_a0 r_a0 rfl).trans e58
            have e73 : fld f64 a0 22 = .ref GP := (hb104.efl m_a0 r_a0 rfl).trans e59
            have e74 : fld f64 a0 23 = .ref GL := (hb104.efl m_a0 r_a0 rfl).trans e60
            have e75 : fld f64 a0 6 = .ref GT := (hb104.efl m_a0 r_a0 rfl).trans e61
            refine lv_iload F.1 F.2.1 dX12_aRule_104 (lv_at hl 3 rfl) ?_
            refine tw_if_eq (tgt := 274) F dX12_aRule_106 (by decide) (fun b76 => ?_) (fun b76 => ?_)
            · refine lv_aload_n F.1 F.2.1 dX12_aRule_274 rfl (lv_at hl 0 rfl) ?_
              refine tw_Vv (As := []) F hZ h yk_X12_ahead0 mw_468 mw_469 mw_470 (s_X12_ahead0 l D cy L R O f64 a0 m_a0 r_a0) rfl rfl m_a0 r_a0 (fun e q => (T_12 e).mp q) rfl hl.1 rfl (Nat.le_of_ble_eq_true rfl) ⟨Nat.le_of_ble_eq_true rfl, Nat.le_of_ble_eq_true rfl⟩ ⟨Nat.le_of_ble_eq_true rfl, Nat.le_of_ble_eq_true rfl⟩ dX12_aRule_275 (fun f77 H locs hp77 h => ?_)
              obtain ⟨hf77, hv78p0⟩ := hp77
              have hA : KW (20761) (22252) GA f0 f77 := hA.fm hf77 m_GA r_GA (by decide +kernel)
              have hA2 : KW (20812 + 60 * z4.toInt.toNat) (20872 + 60 * z4.toInt.toNat) GA f0 f77 := hA2.fm hf77 m_GA r_GA (by decide +kernel)
              have hk : fr L R [(12, 11), (12, 12), (12, 13), (12, 14), (12, 16), (12, 17), (12, 19)] [12, 61] f0 f77 := hk.tr hf77 rfl rfl
              have hb104 : fr L R [(12, 11), (12, 12), (12, 13), (12, 14), (12, 19)] [12, 61] f56 f77 := hb104.tr hf77 rfl rfl
              have e79 : fld f77 a0 0 = .ref GA := (hf77.efl m_a0 r_a0 rfl).trans e72
              have e80 : fld f77 a0 22 = .ref GP := (hf77.efl m_a0 r_a0 rfl).trans e73
              have e81 : fld f77 a0 23 = .ref GL := (hf77.efl m_a0 r_a0 rfl).trans e74
              have e82 : fld f77 a0 6 = .ref GT := (hf77.efl m_a0 r_a0 rfl).trans e75
              have e83 : fi f77 a0 19 = fi f64 a0 19 := hf77.efi m_a0 r_a0 rfl
              have hT : TW L R a0 f77 := hv78p0
              refine lv_aload_n F.1 F.2.1 dX12_aRule_278 rfl (lv_at hl 0 rfl) ?_
              refine lv_iload_n F.1 F.2.1 dX12_aRule_279 rfl (lv_at hl 2 rfl) ?_
              refine tw_bipush F dX12_aRule_280 kb_11 (fun z84 hz84 => ?_)
              refine tu_iadd F dX12_aRule_282 (by omega) (fun z85 hz85 => ?_)
              refine lv_iload_n F.1 F.2.1 dX12_aRule_283 rfl (lv_at hl 1 rfl) ?_
              have j_292 : ∀ (ls : Array Slot) (y0_292 : Int32), 0 ≤ y0_292.toInt → y0_292.toInt ≤ 1 → lv_has ls 6 [(0, .ref a0)] → W p l e rm_X12_aRule s m args below meth c H locs 0 0 Q (F0 m 292 ls [.int y0_292, .int z85, .ref a0]) := by
                intro ls y0_292 b86 b87 hl
                refine tw_Vi (As := [.int z85, .int y0_292]) F hZ h yk_X12_answers mw_727 mw_728 mw_729 (s_X12_answers l D cy L R O f77 a0 m_a0 r_a0 z85 ⟨by omega, by omega⟩ y0_292 ⟨by omega, by omega⟩ GA m_GA r_GA e79 GP m_GP r_GP e80 GL m_GL r_GL e81 GT m_GT r_GT e82 (AS_r (b := 20760) isB_n (by omega)) hT) rfl rfl m_a0 r_a0 (fun e q => (T_12 e).mp q) rfl hl.1 rfl (Nat.le_of_ble_eq_true rfl) ⟨Nat.le_of_ble_eq_true rfl, Nat.le_of_ble_eq_true rfl⟩ ⟨Nat.le_of_ble_eq_true rfl, Nat.le_of_ble_eq_true rfl⟩ dX12_aRule_292 (fun v89 f88 H locs hp88 h => ?_)
                obtain ⟨hf88, hv89a, hv89b, hv89p0, hv89p1⟩ := hp88
                have hA : KW (20761) (22252) GA f0 f88 := hA.sub hv89p0 (by omega) (by omega)
                have hA2 : KW (20812 + 60 * z4.toInt.toNat) (20872 + 60 * z4.toInt.toNat) GA f0 f88 := hA2.sub hv89p0 (by omega) (by omega)
                have hk : fr L R [(12, 11), (12, 12), (12, 13), (12, 14), (12, 16), (12, 17), (12, 19)] [12, 61] f0 f88 := hk.tr hf88 rfl rfl
                have e90 : fld f88 a0 0 = .ref GA := (hf88.efl m_a0 r_a0 rfl).trans e79
                have e91 : fld f88 a0 22 = .ref GP := (hf88.efl m_a0 r_a0 rfl).trans e80
                have e92 : fld f88 a0 23 = .ref GL := (hf88.efl m_a0 r_a0 rfl).trans e81
                have e93 : fld f88 a0 6 = .ref GT := (hf88.efl m_a0 r_a0 rfl).trans e82
                have e94 : fi f88 a0 19 = fi f77 a0 19 := hf88.efi m_a0 r_a0 rfl
                have ha292 : 1 ≤ elj f88 GA (20823 + 60 * z4.toInt.toNat) := by have q := hv89p1; rw [show z85.toInt.toNat = 20823 + 60 * z4.toInt.toNat by omega] at q; exact q
                refine tw_if_ne (tgt := 300) F dX12_aRule_295 (by decide) (fun b95 => ?_) (fun b95 => ?_)
                · refine lv_aload_n F.1 F.2.1 dX12_aRule_300 rfl (lv_at hl 0 rfl) ?_
                  refine g_12_7 F h m_a0 r_a0 dX12_aRule_301 (fun o96 m_o96 r_o96 ho96 => ?_)
                  obtain rfl := (fld_inj e90 ho96).symm
                  refine tw_sipush F dX12_aRule_304 ks_20761 (fun z97 hz97 => ?_)
                  refine lv_dup2_11 F.1 F.2.1 dX12_aRule_307 rfl rfl ?_
                  refine le_61 F h m_GA r_GA (by omega) dX12_aRule_308 (fun v98 ev98 hv98a => ?_)
                  have hv98b := clP_2.mp (atb hv98a (ac_c (b := 20760) 1 isB_n (by decide) (by omega) rfl))
                  have u308 : v98.toInt = elj f88 GA (20761) := by rw [ev98, show z97.toInt.toNat = 20761 by omega]
                  have g309 := hA2 20761 (by omega)
                  refine tu_lconst F dX12_aRule_309 (by decide) (fun z99 (hz99 : z99.toInt = 1) => ?_)
                  refine tu_ladd F dX12_aRule_310 (by omega) (fun z100 hz100 => ?_)
                  refine se_61 F h m_GA r_GA (by omega) (atS (ac_c (b := 20760) 1 isB_n (by decide) (by omega) rfl) (clP_2.mpr (by omega))) dX12_aRule_311 (fun f101 H locs e101a e101b hf101 h => ?_)
                  have hA : KW (20761) (22252) GA f0 f101 := hA.st e101a (by omega)
                  have hk : fr L R [(12, 11), (12, 12), (12, 13), (12, 14), (12, 16), (12, 17), (12, 19)] [12, 61] f0 f101 := hk.tr hf101 rfl rfl
                  have e102 : fld f101 a0 0 = .ref GA := (hf101.efl m_a0 r_a0 rfl).trans e90
                  have e103 : fld f101 a0 22 = .ref GP := (hf101.efl m_a0 r_a0 rfl).trans e91
                  have e104 : fld f101 a0 23 = .ref GL := (hf101.efl m_a0 r_a0 rfl).trans e92
                  have e105 : fld f101 a0 6 = .ref GT := (hf101.efl m_a0 r_a0 rfl).trans e93
                  have e106 : fi f101 a0 19 = fi f88 a0 19 := hf101.efi m_a0 r_a0 rfl
                  have hRN : RB GA 20760 f101 := RB_rule pre0 hA2 hn41 (by omega) ha292 e101a (by omega) (by omega)
                  have hs311 : elj f101 GA 20761 = elj f0 GA 20761 + 1 := by rw [e101a, if_pos (by omega)]; omega
                  refine tw_iconst F dX12_aRule_312 ki_1 (fun z107 hz107 => ?_)
                  exact hret f101 _ _ _ _ z107 dX12_aRule_313 (tw_nb (by omega)) ⟨hk, by omega, by omega, hA, ((e101a _).trans (if_neg (by omega))).trans (hA2 20760 (by omega)), ((e101a _).trans (if_neg (by omega))).trans (hA2 20762 (by omega)), ((e101a _).trans (if_neg (by omega))).trans (hA2 20763 (by omega)), Or.inr hs311, by omega, hRN⟩ h
                · refine tw_iconst F dX12_aRule_298 ki_0 (fun z108 hz108 => ?_)
                  exact hret f88 _ _ _ _ z108 dX12_aRule_299 (tw_nb (by omega)) ⟨hk, by omega, by omega, hA, hA2 20760 (by omega), hA2 20762 (by omega), hA2 20763 (by omega), Or.inl (by omega), Int.le_of_eq (hA2 20761 (by omega)).symm, RB_row pre0 hA2 hn41 (by omega)⟩ h
              refine tw_if_ne (tgt := 291) F dX12_aRule_284 (by decide) (fun b109 => ?_) (fun b109 => ?_)
              · refine tw_iconst F dX12_aRule_291 ki_0 (fun z110 hz110 => ?_)
                exact j_292 _ z110 (by omega) (by omega) (lv_sub hl [0] rfl)
              · refine tw_iconst F dX12_aRule_287 ki_1 (fun z111 hz111 => ?_)
                refine lv_goto (tgt := 292) F.1 F.2.1 dX12_aRule_288 (by decide) ?_
                exact j_292 _ z111 (by omega) (by omega) (lv_sub hl [0] rfl)
            · refine lv_aload_n F.1 F.2.1 dX12_aRule_109 rfl (lv_at hl 0 rfl) ?_
              refine tw_bipush F dX12_aRule_110 kb_42 (fun z112 hz112 => ?_)
              refine tw_Vi (As := [.int z112]) F hZ h yk_X12_isSign mw_723 mw_724 mw_725 (s_X12_isSign l D cy L R O f64 a0 m_a0 r_a0 z112 ⟨by omega, by omega⟩) rfl rfl m_a0 r_a0 (fun e q => (T_12 e).mp q) rfl hl.1 rfl (Nat.le_of_ble_eq_true rfl) ⟨Nat.le_of_ble_eq_true rfl, Nat.le_of_ble_eq_true rfl⟩ ⟨Nat.le_of_ble_eq_true rfl, Nat.le_of_ble_eq_true rfl⟩ dX12_aRule_112 (fun v114 f113 H locs hp113 h => ?_)
              obtain ⟨rfl, hv114a, hv114b⟩ := hp113
              have j_132 : ∀ (H : Heap) (locs : List Loc) (ls : Array Slot) (y0_132 : Int32), 0 ≤ y0_132.toInt → y0_132.toInt ≤ 1 → tS D cy A s.heap L R (TT cy L R) f64 s H locs → lv_has ls 6 [(0, .ref a0), (1, .int x1), (3, .int z16)] → W p l e rm_X12_aRule s m args below meth c H locs 0 0 Q (F0 m 132 ls [.int y0_132]) := by
                intro H locs ls y0_132 b115 b116 h hl
                refine lv_istore (lv' := [(5, .int y0_132), (0, .ref a0), (1, .int x1), (3, .int z16)]) F.1 F.2.1 dX12_aRule_132 hl (by decide) rfl (fun ls hl => ?_)
                refine lv_iload F.1 F.2.1 dX12_aRule_134 (lv_at hl 0 rfl) ?_
                have j_152 : ∀ (H : Heap) (locs : List Loc) (ls : Array Slot), tS D cy A s.heap L R (TT cy L R) f64 s H locs → lv_has ls 6 [(0, .ref a0), (1, .int x1), (3, .int z16), (5, .int y0_132)] → W p l e rm_X12_aRule s m args below meth c H locs 0 0 Q (F0 m 152 ls []) := by
                  intro H locs ls h hl
                  refine lv_aload_n F.1 F.2.1 dX12_aRule_152 rfl (lv_at hl 0 rfl) ?_
                  refine g_12_7 F h m_a0 r_a0 dX12_aRule_153 (fun o117 m_o117 r_o117 ho117 => ?_)
                  obtain rfl := (fld_inj e72 ho117).symm
                  refine lv_iload_n F.1 F.2.1 dX12_aRule_156 rfl (lv_at hl 2 rfl) ?_
                  refine tw_iconst F dX12_aRule_157 ki_2 (fun z118 hz118 => ?_)
                  refine tu_iadd F dX12_aRule_158 (by omega) (fun z119 hz119 => ?_)
                  refine le_61 F h m_GA r_GA (by omega) dX12_aRule_159 (fun v120 ev120 hv120a => ?_)
                  have hv120b := clP_4.mp (atb hv120a (ac_r (b := 20760) 2 isB_n (by omega) rfl))
                  have u159 : v120.toInt = elj f64 GA (20814 + 60 * z4.toInt.toNat) := by rw [ev120, show z119.toInt.toNat = 20814 + 60 * z4.toInt.toNat by omega]
                  refine tu_ldc2 F mw_721 dX12_aRule_160 kl_8 (fun z121 hz121 => ?_)
                  refine tw_lcmp F dX12_aRule_163 (fun z122 hz122 => ?_)
                  refine tw_if_ne (tgt := 173) F dX12_aRule_164 (by decide) (fun b123 => ?_) (fun b123 => ?_)
                  · refine lv_aload_n F.1 F.2.1 dX12_aRule_173 rfl (lv_at hl 0 rfl) ?_
                    refine g_12_7 F h m_a0 r_a0 dX12_aRule_174 (fun o124 m_o124 r_o124 ho124 => ?_)
                    obtain rfl := (fld_inj e72 ho124).symm
                    refine lv_iload_n F.1 F.2.1 dX12_aRule_177 rfl (lv_at hl 2 rfl) ?_
                    refine tw_iconst F dX12_aRule_178 ki_3 (fun z125 hz125 => ?_)
                    refine tu_iadd F dX12_aRule_179 (by omega) (fun z126 hz126 => ?_)
                    refine lv_aload_n F.1 F.2.1 dX12_aRule_180 rfl (lv_at hl 0 rfl) ?_
                    refine g_12_7 F h m_a0 r_a0 dX12_aRule_181 (fun o127 m_o127 r_o127 ho127 => ?_)
                    obtain rfl := (fld_inj e72 ho127).symm
                    refine lv_iload_n F.1 F.2.1 dX12_aRule_184 rfl (lv_at hl 2 rfl) ?_
                    refine tw_iconst F dX12_aRule_185 ki_2 (fun z128 hz128 => ?_)
                    refine tu_iadd F dX12_aRule_186 (by omega) (fun z129 hz129 => ?_)
                    refine le_61 F h m_GA r_GA (by omega) dX12_aRule_187 (fun v130 ev130 hv130a => ?_)
                    have hv130b := clP_4.mp (atb hv130a (ac_r (b := 20760) 2 isB_n (by omega) rfl))
                    have u187 : v130.toInt = elj f64 GA (20814 + 60 * z4.toInt.toNat) := by rw [ev130, show z129.toInt.toNat = 20814 + 60 * z4.toInt.toNat by omega]
                    have hqkc : elj f64 GA (20814 + 60 * z4.toInt.toNat) = v130.toInt := u187.symm
                    refine tw_l2i F dX12_aRule_188 (by omega) (by omega) (fun z131 hz131 => ?_)
                    refine tu_iadd F dX12_aRule_189 (by omega) (fun z132 hz132 => ?_)
                    refine lv_aload_n F.1 F.2.1 dX12_aRule_190 rfl (lv_at hl 0 rfl) ?_
                    refine tw_bipush F dX12_aRule_191 kb_42 (fun z133 hz133 => ?_)
                    refine tw_Vi (As := [.int z133]) F hZ h yk_X12_isSign mw_723 mw_724 mw_725 (s_X12_isSign l D cy L R O f64 a0 m_a0 r_a0 z133 ⟨by omega, by omega⟩) rfl rfl m_a0 r_a0 (fun e q => (T_12 e).mp q) rfl hl.1 rfl (Nat.le_of_ble_eq_true rfl) ⟨Nat.le_of_ble_eq_true rfl, Nat.le_of_ble_eq_true rfl⟩ ⟨Nat.le_of_ble_eq_true rfl, Nat.le_of_ble_eq_true rfl⟩ dX12_aRule_193 (fun v135 f134 H locs hp134 h => ?_)
                    obtain ⟨rfl, hv135a, hv135b⟩ := hp134
                    have j_220 : ∀ (H : Heap) (locs : List Loc) (ls : Array Slot) (y0_220 : Int64), tS D cy A s.heap L R (TT cy L R) f64 s H locs → lv_has ls 6 [(0, .ref a0), (1, .int x1), (3, .int z16), (5, .int y0_132)] → W p l e rm_X12_aRule s m args below meth c H locs 0 0 Q (F0 m 220 ls [.long y0_220, .int z132, .ref GA]) := by
                      intro H locs ls y0_220 h hl
                      refine se_61 F h m_GA r_GA (by omega) (atS (ac_i (b := 20760) isB_n (by omega)) clP_0) dX12_aRule_220 (fun f136 H locs e136a e136b hf136 h => ?_)
                      have hA : KW (20761) (22252) GA f0 f136 := hA.st e136a (by omega)
                      have hA2 : KW (20812 + 60 * z4.toInt.toNat) (20872 + 60 * z4.toInt.toNat) GA f0 f136 := hA2.st e136a (by omega)
                      have hqkc : elj f136 GA (20814 + 60 * z4.toInt.toNat) = v130.toInt := ((e136a _).trans (if_neg (by omega))).trans hqkc
                      have hk : fr L R [(12, 11), (12, 12), (12, 13), (12, 14), (12, 16), (12, 17), (12, 19)] [12, 61] f0 f136 := hk.tr hf136 rfl rfl
                      have hb104 : fr L R [(12, 11), (12, 12), (12, 13), (12, 14), (12, 19)] [12, 61] f56 f136 := hb104.tr hf136 rfl rfl
                      have e137 : fld f136 a0 0 = .ref GA := (hf136.efl m_a0 r_a0 rfl).trans e72
                      have e138 : fld f136 a0 22 = .ref GP := (hf136.efl m_a0 r_a0 rfl).trans e73
                      have e139 : fld f136 a0 23 = .ref GL := (hf136.efl m_a0 r_a0 rfl).trans e74
                      have e140 : fld f136 a0 6 = .ref GT := (hf136.efl m_a0 r_a0 rfl).trans e75
                      have e141 : fi f136 a0 19 = fi f64 a0 19 := hf136.efi m_a0 r_a0 rfl
                      refine lv_aload_n F.1 F.2.1 dX12_aRule_221 rfl (lv_at hl 0 rfl) ?_
                      refine g_12_7 F h m_a0 r_a0 dX12_aRule_222 (fun o142 m_o142 r_o142 ho142 => ?_)
                      obtain rfl := (fld_inj e137 ho142).symm
                      refine lv_iload_n F.1 F.2.1 dX12_aRule_225 rfl (lv_at hl 2 rfl) ?_
                      refine tw_iconst F dX12_aRule_226 ki_2 (fun z143 hz143 => ?_)
                      refine tu_iadd F dX12_aRule_227 (by omega) (fun z144 hz144 => ?_)
                      refine lv_dup2_11 F.1 F.2.1 dX12_aRule_228 rfl rfl ?_
                      refine le_61 F h m_GA r_GA (by omega) dX12_aRule_229 (fun v145 ev145 hv145a => ?_)
                      have hv145b := clP_4.mp (atb hv145a (ac_r (b := 20760) 2 isB_n (by omega) rfl))
                      have u229 : v145.toInt = elj f136 GA (20814 + 60 * z4.toInt.toNat) := by rw [ev145, show z144.toInt.toNat = 20814 + 60 * z4.toInt.toNat by omega]
                      refine tu_lconst F dX12_aRule_230 (by decide) (fun z146 (hz146 : z146.toInt = 1) => ?_)
                      refine tu_ladd F dX12_aRule_231 (by omega) (fun z147 hz147 => ?_)
                      refine se_61 F h m_GA r_GA (by omega) (atS (ac_r (b := 20760) 2 isB_n (by omega) rfl) (clP_4.mpr (by omega))) dX12_aRule_232 (fun f148 H locs e148a e148b hf148 h => ?_)
                      have hA : KW (20761) (22252) GA f0 f148 := hA.st e148a (by omega)
                      have hA2 : KW (20812 + 60 * z4.toInt.toNat) (20872 + 60 * z4.toInt.toNat) GA f0 f148 := hA2.st e148a (by omega)
                      have hk : fr L R [(12, 11), (12, 12), (12, 13), (12, 14), (12, 16), (12, 17), (12, 19)] [12, 61] f0 f148 := hk.tr hf148 rfl rfl
                      have hb104 : fr L R [(12, 11), (12, 12), (12, 13), (12, 14), (12, 19)] [12, 61] f56 f148 := hb104.tr hf148 rfl rfl
                      have e149 : fld f148 a0 0 = .ref GA := (hf148.efl m_a0 r_a0 rfl).trans e137
                      have e150 : fld f148 a0 22 = .ref GP := (hf148.efl m_a0 r_a0 rfl).trans e138
                      have e151 : fld f148 a0 23 = .ref GL := (hf148.efl m_a0 r_a0 rfl).trans e139
                      have e152 : fld f148 a0 6 = .ref GT := (hf148.efl m_a0 r_a0 rfl).trans e140
                      have e153 : fi f148 a0 19 = fi f136 a0 19 := hf148.efi m_a0 r_a0 rfl
                      have hqkn : elj f148 GA (20814 + 60 * z4.toInt.toNat) = z147.toInt := by rw [e148a, if_pos (by omega)]
                      refine lv_aload_n F.1 F.2.1 dX12_aRule_233 rfl (lv_at hl 0 rfl) ?_
                      refine lv_dup F.1 F.2.1 dX12_aRule_234 rfl ?_
                      refine g_12_245 F h m_a0 r_a0 dX12_aRule_235 (fun v154 hv154 hv154a hv154b => ?_)
                      refine lv_iload F.1 F.2.1 dX12_aRule_238 (lv_at hl 3 rfl) ?_
                      have j_248 : ∀ (ls : Array Slot) (y0_248 : Int32), 0 ≤ y0_248.toInt → y0_248.toInt ≤ 1 → lv_has ls 6 [(0, .ref a0), (1, .int x1), (3, .int z16)] → W p l e rm_X12_aRule s m args below meth c H locs 0 0 Q (F0 m 248 ls [.int y0_248, .int v154, .ref a0]) := by
                        intro ls y0_248 b155 b156 hl
                        refine tu_iadd F dX12_aRule_248 (by omega) (fun z157 hz157 => ?_)
                        refine p_12_245 F h m_a0 r_a0 (by omega) dX12_aRule_249 (fun f158 H locs e158p hf158 h => ?_)
                        have hA : KW (20761) (22252) GA f0 f158 := hA.fm hf158 m_GA r_GA (by decide +kernel)
                        have hA2 : KW (20812 + 60 * z4.toInt.toNat) (20872 + 60 * z4.toInt.toNat) GA f0 f158 := hA2.fm hf158 m_GA r_GA (by decide +kernel)
                        have hqkn : elj f158 GA (20814 + 60 * z4.toInt.toNat) = z147.toInt := (hf158.eelj m_GA r_GA (by decide +kernel) _).trans hqkn
                        have hk : fr L R [(12, 11), (12, 12), (12, 13), (12, 14), (12, 16), (12, 17), (12, 19)] [12, 61] f0 f158 := hk.tr hf158 rfl rfl
                        have hb104 : fr L R [(12, 11), (12, 12), (12, 13), (12, 14), (12, 19)] [12, 61] f56 f158 := hb104.tr hf158 rfl rfl
                        have e159 : fld f158 a0 0 = .ref GA := (hf158.efl m_a0 r_a0 rfl).trans e149
                        have e160 : fld f158 a0 22 = .ref GP := (hf158.efl m_a0 r_a0 rfl).trans e150
                        have e161 : fld f158 a0 23 = .ref GL := (hf158.efl m_a0 r_a0 rfl).trans e151
                        have e162 : fld f158 a0 6 = .ref GT := (hf158.efl m_a0 r_a0 rfl).trans e152
                        refine lv_aload_n F.1 F.2.1 dX12_aRule_252 rfl (lv_at hl 0 rfl) ?_
                        refine tw_Vv (As := []) F hZ h yk_X12_ahead0 mw_468 mw_469 mw_470 (s_X12_ahead0 l D cy L R O f158 a0 m_a0 r_a0) rfl rfl m_a0 r_a0 (fun e q => (T_12 e).mp q) rfl hl.1 rfl (Nat.le_of_ble_eq_true rfl) ⟨Nat.le_of_ble_eq_true rfl, Nat.le_of_ble_eq_true rfl⟩ ⟨Nat.le_of_ble_eq_true rfl, Nat.le_of_ble_eq_true rfl⟩ dX12_aRule_253 (fun f163 H locs hp163 h => ?_)
                        obtain ⟨hf163, hv164p0⟩ := hp163
                        have hA : KW (20761) (22252) GA f0 f163 := hA.fm hf163 m_GA r_GA (by decide +kernel)
                        have hA2 : KW (20812 + 60 * z4.toInt.toNat) (20872 + 60 * z4.toInt.toNat) GA f0 f163 := hA2.fm hf163 m_GA r_GA (by decide +kernel)
                        have hqkn : elj f163 GA (20814 + 60 * z4.toInt.toNat) = z147.toInt := (hf163.eelj m_GA r_GA (by decide +kernel) _).trans hqkn
                        have hk : fr L R [(12, 11), (12, 12), (12, 13), (12, 14), (12, 16), (12, 17), (12, 19)] [12, 61] f0 f163 := hk.tr hf163 rfl rfl
                        have hb104 : fr L R [(12, 11), (12, 12), (12, 13), (12, 14), (12, 19)] [12, 61] f56 f163 := hb104.tr hf163 rfl rfl
                        have e165 : fld f163 a0 0 = .ref GA := (hf163.efl m_a0 r_a0 rfl).trans e159
                        have e166 : fld f163 a0 22 = .ref GP := (hf163.efl m_a0 r_a0 rfl).trans e160
                        have e167 : fld f163 a0 23 = .ref GL := (hf163.efl m_a0 r_a0 rfl).trans e161
                        have e168 : fld f163 a0 6 = .ref GT := (hf163.efl m_a0 r_a0 rfl).trans e162
                        have e169 : fi f163 a0 19 = fi f158 a0 19 := hf163.efi m_a0 r_a0 rfl
                        refine lv_aload_n F.1 F.2.1 dX12_aRule_256 rfl (lv_at hl 0 rfl) ?_
                        refine tw_Vi (As := []) F hZ h yk_X12_keyWord mw_643 mw_644 mw_645 (s_X12_keyWord l D cy L R O f163 a0 m_a0 r_a0) rfl rfl m_a0 r_a0 (fun e q => (T_12 e).mp q) rfl hl.1 rfl (Nat.le_of_ble_eq_true rfl) ⟨Nat.le_of_ble_eq_true rfl, Nat.le_of_ble_eq_true rfl⟩ ⟨Nat.le_of_ble_eq_true rfl, Nat.le_of_ble_eq_true rfl⟩ dX12_aRule_257 (fun v171 f170 H locs hp170 h => ?_)
                        obtain rfl := hp170
                        refine tw_iconst F dX12_aRule_260 ki_4 (fun z172 hz172 => ?_)
                        have j_269 : ∀ (ls : Array Slot) (y0_269 : Int32), 0 ≤ y0_269.toInt → y0_269.toInt ≤ 1 → lv_has ls 6 [(0, .ref a0), (1, .int x1), (3, .int z16)] → W p l e rm_X12_aRule s m args below meth c H locs 0 0 Q (F0 m 269 ls [.int y0_269]) := by
                          intro ls y0_269 b173 b174 hl
                          refine lv_istore (lv' := [(4, .int y0_269), (0, .ref a0), (1, .int x1), (3, .int z16)]) F.1 F.2.1 dX12_aRule_269 hl (by decide) rfl (fun ls hl => ?_)
                          refine lv_goto (tgt := 104) F.1 F.2.1 dX12_aRule_271 (by decide) ?_
                          exact ih104 f163 _ _ _ y0_269 (by omega) (by omega) (by omega) (by omega) (by omega) (by omega) (by omega) h hA hA2 hk hb104 (lv_sub hl [1, 2, 3, 0] rfl)
                        refine tw_icmp_eq (tgt := 268) F dX12_aRule_261 (by decide) (fun b175 => ?_) (fun b175 => ?_)
                        · refine tw_iconst F dX12_aRule_268 ki_0 (fun z176 hz176 => ?_)
                          exact j_269 _ z176 (by omega) (by omega) (lv_sub hl [0, 1, 2] rfl)
                        · refine tw_iconst F dX12_aRule_264 ki_1 (fun z177 hz177 => ?_)
                          refine lv_goto (tgt := 269) F.1 F.2.1 dX12_aRule_265 (by decide) ?_
                          exact j_269 _ z177 (by omega) (by omega) (lv_sub hl [0, 1, 2] rfl)
                      refine tw_if_eq (tgt := 247) F dX12_aRule_240 (by decide) (fun b178 => ?_) (fun b178 => ?_)
                      · refine tw_iconst F dX12_aRule_247 ki_0 (fun z179 hz179 => ?_)
                        exact j_248 _ z179 (by omega) (by omega) (lv_sub hl [0, 1, 2] rfl)
                      · refine tw_iconst F dX12_aRule_243 ki_1 (fun z180 hz180 => ?_)
                        refine lv_goto (tgt := 248) F.1 F.2.1 dX12_aRule_244 (by decide) ?_
                        exact j_248 _ z180 (by omega) (by omega) (lv_sub hl [0, 1, 2] rfl)
                    refine tw_if_eq (tgt := 205) F dX12_aRule_196 (by decide) (fun b181 => ?_) (fun b181 => ?_)
                    · refine lv_iload F.1 F.2.1 dX12_aRule_205 (lv_at hl 3 rfl) ?_
                      refine tw_if_eq (tgt := 216) F dX12_aRule_207 (by decide) (fun b182 => ?_) (fun b182 => ?_)
                      · refine lv_aload_n F.1 F.2.1 dX12_aRule_216 rfl (lv_at hl 0 rfl) ?_
                        refine tw_Vl (As := []) F hZ h yk_X12_wordHere mw_491 mw_492 mw_493 (s_X12_wordHere l D cy L R O f64 a0 m_a0 r_a0) rfl rfl m_a0 r_a0 (fun e q => (T_12 e).mp q) rfl hl.1 rfl (Nat.le_of_ble_eq_true rfl) ⟨Nat.le_of_ble_eq_true rfl, Nat.le_of_ble_eq_true rfl⟩ ⟨Nat.le_of_ble_eq_true rfl, Nat.le_of_ble_eq_true rfl⟩ dX12_aRule_217 (fun v184 f183 H locs hp183 h => ?_)
                        obtain rfl := hp183
                        exact j_220 _ _ _ v184 h (lv_sub hl [0, 1, 2, 3] rfl)
                      · refine tu_ldc2 F mw_722 dX12_aRule_210 kl_m2 (fun z185 hz185 => ?_)
                        refine lv_goto (tgt := 220) F.1 F.2.1 dX12_aRule_213 (by decide) ?_
                        exact j_220 _ _ _ z185 h (lv_sub hl [0, 1, 2, 3] rfl)
                    · refine tu_ldc2 F mw_340 dX12_aRule_199 kl_m1 (fun z186 hz186 => ?_)
                      refine lv_goto (tgt := 220) F.1 F.2.1 dX12_aRule_202 (by decide) ?_
                      exact j_220 _ _ _ z186 h (lv_sub hl [0, 1, 2, 3] rfl)
                  · refine lv_aload_n F.1 F.2.1 dX12_aRule_167 rfl (lv_at hl 0 rfl) ?_
                    refine tw_iconst F dX12_aRule_168 ki_5 (fun z187 hz187 => ?_)
                    refine tw_Vi (As := [.int z187]) F hZ h yk_X12_fails mw_487 mw_488 mw_489 (s_X12_fails l D cy L R O f64 a0 m_a0 r_a0 z187 ⟨by omega, by omega⟩) rfl rfl m_a0 r_a0 (fun e q => (T_12 e).mp q) rfl hl.1 rfl (Nat.le_of_ble_eq_true rfl) ⟨Nat.le_of_ble_eq_true rfl, Nat.le_of_ble_eq_true rfl⟩ ⟨Nat.le_of_ble_eq_true rfl, Nat.le_of_ble_eq_true rfl⟩ dX12_aRule_169 (fun v189 f188 H locs hp188 h => ?_)
                    obtain ⟨hf188, hv189a, hv189b⟩ := hp188
                    have hA : KW (20761) (22252) GA f0 f188 := hA.fm hf188 m_GA r_GA (by decide +kernel)
                    have hA2 : KW (20812 + 60 * z4.toInt.toNat) (20872 + 60 * z4.toInt.toNat) GA f0 f188 := hA2.fm hf188 m_GA r_GA (by decide +kernel)
                    have hk : fr L R [(12, 11), (12, 12), (12, 13), (12, 14), (12, 16), (12, 17), (12, 19)] [12, 61] f0 f188 := hk.tr hf188 rfl rfl
                    have e190 : fld f188 a0 0 = .ref GA := (hf188.efl m_a0 r_a0 rfl).trans e72
                    have e191 : fld f188 a0 22 = .ref GP := (hf188.efl m_a0 r_a0 rfl).trans e73
                    have e192 : fld f188 a0 23 = .ref GL := (hf188.efl m_a0 r_a0 rfl).trans e74
                    have e193 : fld f188 a0 6 = .ref GT := (hf188.efl m_a0 r_a0 rfl).trans e75
                    have e194 : fi f188 a0 19 = fi f64 a0 19 := hf188.efi m_a0 r_a0 rfl
                    exact hret f188 _ _ _ _ v189 dX12_aRule_172 (tw_nb (by omega)) ⟨hk, by omega, by omega, hA, hA2 20760 (by omega), hA2 20762 (by omega), hA2 20763 (by omega), Or.inl (by omega), Int.le_of_eq (hA2 20761 (by omega)).symm, RB_row pre0 hA2 hn41 (by omega)⟩ h
                refine tw_if_ne (tgt := 152) F dX12_aRule_136 (by decide) (fun b195 => ?_) (fun b195 => ?_)
                · exact j_152 _ _ _ h (lv_sub hl [1, 2, 3, 0] rfl)
                · refine lv_aload_n F.1 F.2.1 dX12_aRule_139 rfl (lv_at hl 1 rfl) ?_
                  refine tw_Vi (As := []) F hZ h yk_X12_isName mw_700 mw_701 mw_702 (s_X12_isName l D cy L R O f64 a0 m_a0 r_a0) rfl rfl m_a0 r_a0 (fun e q => (T_12 e).mp q) rfl hl.1 rfl (Nat.le_of_ble_eq_true rfl) ⟨Nat.le_of_ble_eq_true rfl, Nat.le_of_ble_eq_true rfl⟩ ⟨Nat.le_of_ble_eq_true rfl, Nat.le_of_ble_eq_true rfl⟩ dX12_aRule_140 (fun v197 f196 H locs hp196 h => ?_)
                  obtain ⟨rfl, hv197a, hv197b, hv197p0⟩ := hp196
                  refine tw_if_ne (tgt := 152) F dX12_aRule_143 (by decide) (fun b198 => ?_) (fun b198 => ?_)
                  · exact j_152 _ _ _ h (lv_sub hl [1, 2, 3, 0] rfl)
                  · refine lv_aload_n F.1 F.2.1 dX12_aRule_146 rfl (lv_at hl 1 rfl) ?_
                    refine tw_iconst F dX12_aRule_147 ki_2 (fun z199 hz199 => ?_)
                    refine tw_Vi (As := [.int z199]) F hZ h yk_X12_fails mw_487 mw_488 mw_489 (s_X12_fails l D cy L R O f64 a0 m_a0 r_a0 z199 ⟨by omega, by omega⟩) rfl rfl m_a0 r_a0 (fun e q => (T_12 e).mp q) rfl hl.1 rfl (Nat.le_of_ble_eq_true rfl) ⟨Nat.le_of_ble_eq_true rfl, Nat.le_of_ble_eq_true rfl⟩ ⟨Nat.le_of_ble_eq_true rfl, Nat.le_of_ble_eq_true rfl⟩ dX12_aRule_148 (fun v201 f200 H locs hp200 h => ?_)
                    obtain ⟨hf200, hv201a, hv201b⟩ := hp200
                    have hA : KW (20761) (22252) GA f0 f200 := hA.fm hf200 m_GA r_GA (by decide +kernel)
                    have hA2 : KW (20812 + 60 * z4.toInt.toNat) (20872 + 60 * z4.toInt.toNat) GA f0 f200 := hA2.fm hf200 m_GA r_GA (by decide +kernel)
                    have hk : fr L R [(12, 11), (12, 12), (12, 13), (12, 14), (12, 16), (12, 17), (12, 19)] [12, 61] f0 f200 := hk.tr hf200 rfl rfl
                    have e202 : fld f200 a0 0 = .ref GA := (hf200.efl m_a0 r_a0 rfl).trans e72
                    have e203 : fld f200 a0 22 = .ref GP := (hf200.efl m_a0 r_a0 rfl).trans e73
                    have e204 : fld f200 a0 23 = .ref GL := (hf200.efl m_a0 r_a0 rfl).trans e74
                    have e205 : fld f200 a0 6 = .ref GT := (hf200.efl m_a0 r_a0 rfl).trans e75
                    have e206 : fi f200 a0 19 = fi f64 a0 19 := hf200.efi m_a0 r_a0 rfl
                    exact hret f200 _ _ _ _ v201 dX12_aRule_151 (tw_nb (by omega)) ⟨hk, by omega, by omega, hA, hA2 20760 (by omega), hA2 20762 (by omega), hA2 20763 (by omega), Or.inl (by omega), Int.le_of_eq (hA2 20761 (by omega)).symm, RB_row pre0 hA2 hn41 (by omega)⟩ h
              have j_127 : ∀ (H : Heap) (locs : List Loc) (ls : Array Slot), tS D cy A s.heap L R (TT cy L R) f64 s H locs → lv_has ls 6 [(0, .ref a0), (1, .int x1), (3, .int z16)] → W p l e rm_X12_aRule s m args below meth c H locs 0 0 Q (F0 m 127 ls []) := by
                intro H locs ls h hl
                refine tw_iconst F dX12_aRule_127 ki_1 (fun z207 hz207 => ?_)
                refine lv_goto (tgt := 132) F.1 F.2.1 dX12_aRule_128 (by decide) ?_
                exact j_132 _ _ _ z207 (by omega) (by omega) h (lv_sub hl [0, 1, 2] rfl)
              refine tw_if_ne (tgt := 127) F dX12_aRule_115 (by decide) (fun b208 => ?_) (fun b208 => ?_)
              · exact j_127 _ _ _ h (lv_sub hl [0, 1, 2] rfl)
              · refine lv_aload_n F.1 F.2.1 dX12_aRule_118 rfl (lv_at hl 0 rfl) ?_
                refine tw_bipush F dX12_aRule_119 kb_63 (fun z209 hz209 => ?_)
                refine tw_Vi (As := [.int z209]) F hZ h yk_X12_isSign mw_723 mw_724 mw_725 (s_X12_isSign l D cy L R O f64 a0 m_a0 r_a0 z209 ⟨by omega, by omega⟩) rfl rfl m_a0 r_a0 (fun e q => (T_12 e).mp q) rfl hl.1 rfl (Nat.le_of_ble_eq_true rfl) ⟨Nat.le_of_ble_eq_true rfl, Nat.le_of_ble_eq_true rfl⟩ ⟨Nat.le_of_ble_eq_true rfl, Nat.le_of_ble_eq_true rfl⟩ dX12_aRule_121 (fun v211 f210 H locs hp210 h => ?_)
                obtain ⟨rfl, hv211a, hv211b⟩ := hp210
                refine tw_if_eq (tgt := 131) F dX12_aRule_124 (by decide) (fun b212 => ?_) (fun b212 => ?_)
                · refine tw_iconst F dX12_aRule_131 ki_0 (fun z213 hz213 => ?_)
                  exact j_132 _ _ _ z213 (by omega) (by omega) h (lv_sub hl [0, 1, 2] rfl)
                · exact j_127 _ _ _ h (lv_sub hl [0, 1, 2] rfl)
        have hb104 : fr L R [(12, 11), (12, 12), (12, 13), (12, 14), (12, 19)] [12, 61] f56 f56 := fr.rf
        exact j_104 (((9 - elj f56 GA (20814 + 60 * z4.toInt.toNat))).toNat + 1) f56 _ _ _ z63 (by omega) (by omega) (by omega) (by omega) (by omega) (by omega) (by omega) h hA hA2 hk hb104 (lv_sub hl [1, 2, 3, 0] rfl)
      refine tw_if_eq (tgt := 81) F dX12_aRule_74 (by decide) (fun b214 => ?_) (fun b214 => ?_)
      · refine tu_lconst F dX12_aRule_81 (by decide) (fun z215 (hz215 : z215.toInt = 0) => ?_)
        exact j_82 _ z215 (by omega) (by omega) (lv_sub hl [2, 3, 0] rfl)
      · refine tu_lconst F dX12_aRule_77 (by decide) (fun z216 (hz216 : z216.toInt = 1) => ?_)
        refine lv_goto (tgt := 82) F.1 F.2.1 dX12_aRule_78 (by decide) ?_
        exact j_82 _ z216 (by omega) (by omega) (lv_sub hl [2, 3, 0] rfl)
    · refine lv_aload_n F.1 F.2.1 dX12_aRule_35 rfl (lv_at hl 1 rfl) ?_
      refine tw_iconst F dX12_aRule_36 ki_5 (fun z217 hz217 => ?_)
      refine tw_Vi (As := [.int z217]) F hZ h yk_X12_fails mw_487 mw_488 mw_489 (s_X12_fails l D cy L R O f0 a0 m_a0 r_a0 z217 ⟨by omega, by omega⟩) rfl rfl m_a0 r_a0 (fun e q => (T_12 e).mp q) rfl hl.1 rfl (Nat.le_of_ble_eq_true rfl) ⟨Nat.le_of_ble_eq_true rfl, Nat.le_of_ble_eq_true rfl⟩ ⟨Nat.le_of_ble_eq_true rfl, Nat.le_of_ble_eq_true rfl⟩ dX12_aRule_37 (fun v219 f218 H locs hp218 h => ?_)
      obtain ⟨hf218, hv219a, hv219b⟩ := hp218
      have hA : KW (20761) (22252) GA f0 f218 := hA.fm hf218 m_GA r_GA (by decide +kernel)
      have hRN : RB GA 20760 f218 := hRN.fm hf218 m_GA r_GA (by decide +kernel)
      have hA2 : KW (20812 + 60 * z4.toInt.toNat) (20872 + 60 * z4.toInt.toNat) GA f0 f218 := hA2.fm hf218 m_GA r_GA (by decide +kernel)
      have hk : fr L R [(12, 11), (12, 12), (12, 13), (12, 14), (12, 16), (12, 17), (12, 19)] [12, 61] f0 f218 := hk.tr hf218 rfl rfl
      have e220 : fld f218 a0 0 = .ref GA := (hf218.efl m_a0 r_a0 rfl).trans t_GA
      have e221 : fld f218 a0 22 = .ref GP := (hf218.efl m_a0 r_a0 rfl).trans t_GP
      have e222 : fld f218 a0 23 = .ref GL := (hf218.efl m_a0 r_a0 rfl).trans t_GL
      have e223 : fld f218 a0 6 = .ref GT := (hf218.efl m_a0 r_a0 rfl).trans t_GT
      have e224 : fi f218 a0 19 = fi f0 a0 19 := hf218.efi m_a0 r_a0 rfl
      exact hret f218 _ _ _ _ v219 dX12_aRule_40 (tw_nb (by omega)) ⟨hk, by omega, by omega, hA, hA2 20760 (by omega), hA2 20762 (by omega), hA2 20763 (by omega), Or.inl (by omega), Int.le_of_eq (hA2 20761 (by omega)).symm, hRN⟩ h
  · refine lv_aload_n F.1 F.2.1 dX12_aRule_23 rfl (lv_at hl 1 rfl) ?_
    refine tw_iconst F dX12_aRule_24 ki_4 (fun z225 hz225 => ?_)
    refine tw_Vi (As := [.int z225]) F hZ h yk_X12_fails mw_487 mw_488 mw_489 (s_X12_fails l D cy L R O f0 a0 m_a0 r_a0 z225 ⟨by omega, by omega⟩) rfl rfl m_a0 r_a0 (fun e q => (T_12 e).mp q) rfl hl.1 rfl (Nat.le_of_ble_eq_true rfl) ⟨Nat.le_of_ble_eq_true rfl, Nat.le_of_ble_eq_true rfl⟩ ⟨Nat.le_of_ble_eq_true rfl, Nat.le_of_ble_eq_true rfl⟩ dX12_aRule_25 (fun v227 f226 H locs hp226 h => ?_)
    obtain ⟨hf226, hv227a, hv227b⟩ := hp226
    have hA : KW (20761) (22252) GA f0 f226 := hA.fm hf226 m_GA r_GA (by decide +kernel)
    have hRN : RB GA 20760 f226 := hRN.fm hf226 m_GA r_GA (by decide +kernel)
    have hA2 : KW (20812 + 60 * z4.toInt.toNat) (20872 + 60 * z4.toInt.toNat) GA f0 f226 := hA2.fm hf226 m_GA r_GA (by decide +kernel)
    have hk : fr L R [(12, 11), (12, 12), (12, 13), (12, 14), (12, 16), (12, 17), (12, 19)] [12, 61] f0 f226 := hk.tr hf226 rfl rfl
    have e228 : fld f226 a0 0 = .ref GA := (hf226.efl m_a0 r_a0 rfl).trans t_GA
    have e229 : fld f226 a0 22 = .ref GP := (hf226.efl m_a0 r_a0 rfl).trans t_GP
    have e230 : fld f226 a0 23 = .ref GL := (hf226.efl m_a0 r_a0 rfl).trans t_GL
    have e231 : fld f226 a0 6 = .ref GT := (hf226.efl m_a0 r_a0 rfl).trans t_GT
    have e232 : fi f226 a0 19 = fi f0 a0 19 := hf226.efi m_a0 r_a0 rfl
    exact hret f226 _ _ _ _ v227 dX12_aRule_28 (tw_nb (by omega)) ⟨hk, by omega, by omega, hA, hA2 20760 (by omega), hA2 20762 (by omega), hA2 20763 (by omega), Or.inl (by omega), Int.le_of_eq (hA2 20761 (by omega)).symm, hRN⟩ h
