theorem dX12_ahead0_0 : decode cX12_ahead0 0 = .ok (.aload_n 0, 1) := by decide +kernel
theorem dX12_ahead0_1 : decode cX12_ahead0 1 = .ok (.aload_n 0, 1) := by decide +kernel
theorem dX12_ahead0_2 : decode cX12_ahead0 2 = .ok (.getfield 154, 3) := by decide +kernel
theorem dX12_ahead0_5 : decode cX12_ahead0 5 = .ok (.invokevirtual 157, 3) := by decide +kernel
theorem dX12_ahead0_8 : decode cX12_ahead0 8 = .ok (.bipush 32, 2) := by decide +kernel
theorem dX12_ahead0_26 : decode cX12_ahead0 26 = .ok (.aload_n 0, 1) := by decide +kernel
theorem dX12_ahead0_27 : decode cX12_ahead0 27 = .ok (.dup, 1) := by decide +kernel
theorem dX12_ahead0_28 : decode cX12_ahead0 28 = .ok (.getfield 154, 3) := by decide +kernel
theorem dX12_ahead0_31 : decode cX12_ahead0 31 = .ok (.iconst 1, 1) := by decide +kernel
theorem dX12_ahead0_32 : decode cX12_ahead0 32 = .ok (.iadd, 1) := by decide +kernel
theorem dX12_ahead0_33 : decode cX12_ahead0 33 = .ok (.putfield 154, 3) := by decide +kernel
theorem dX12_ahead0_36 : decode cX12_ahead0 36 = .ok (.goto (-36), 3) := by decide +kernel
theorem dX12_ahead0_10 : decode cX12_ahead0 10 = .ok (.if_icmp .eq 16, 3) := by decide +kernel
theorem dX12_ahead0_13 : decode cX12_ahead0 13 = .ok (.aload_n 0, 1) := by decide +kernel
theorem dX12_ahead0_14 : decode cX12_ahead0 14 = .ok (.aload_n 0, 1) := by decide +kernel
theorem dX12_ahead0_15 : decode cX12_ahead0 15 = .ok (.getfield 154, 3) := by decide +kernel
theorem dX12_ahead0_18 : decode cX12_ahead0 18 = .ok (.invokevirtual 157, 3) := by decide +kernel
theorem dX12_ahead0_21 : decode cX12_ahead0 21 = .ok (.bipush 10, 2) := by decide +kernel
theorem dX12_ahead0_23 : decode cX12_ahead0 23 = .ok (.if_icmp .ne 16, 3) := by decide +kernel
theorem dX12_ahead0_39 : decode cX12_ahead0 39 = .ok (.aload_n 0, 1) := by decide +kernel
theorem dX12_ahead0_40 : decode cX12_ahead0 40 = .ok (.aload_n 0, 1) := by decide +kernel
theorem dX12_ahead0_41 : decode cX12_ahead0 41 = .ok (.getfield 154, 3) := by decide +kernel
theorem dX12_ahead0_44 : decode cX12_ahead0 44 = .ok (.putfield 161, 3) := by decide +kernel
section
variable {p : Program} {l : Launch} {e : Env} {R0 : Room} {s : State} {m : MethodId} {args : Array Value} {below : List Frame} {meth : Method} {c : Code} {H H0 : Heap} {locs : List Loc} {cells slots : Nat} {Q : State → Prop} {cc : ByteArray} {nL : Nat} {D : va_G} {cy : Nat → ClassId} {A : Nat → Prop} {L : List Nat} {R : Nat → Nat} {f : Nat → va_E} {pc : Nat} {ls : Array Slot} {rest : List Value} {a : Nat}
theorem p_12_161 (F : CallFix p m c cc nL s args wsL_law RX12) (h : tS D cy A H0 L R (TT cy L R) f s H locs) {x : Int32} (ha : a ∈ L) (hr : R a = 12) (hv : 0 ≤ x.toInt ∧ x.toInt ≤ 600) (hdg : decode cc pc = .ok (.putfield 161, 3)) (kk : ∀ (f1 : Nat → va_E) (H1 : Heap) (locs1 : List Loc), fi f1 a 12 = x.toInt → fr L R [(12, 12)] [12] f f1 → tS D cy A H0 L R (TT cy L R) f1 s H1 locs1 → W p l e R0 s m args below meth c H1 locs1 cells slots Q (F0 m (pc + 3) ls (rest))) : W p l e R0 s m args below meth c H locs cells slots Q (F0 m pc ls (.int x :: .ref a :: rest)) := tu_puti (k := 12) F h ha hr T_12 rfl hv.1 hv.2 inlX12 tyX12_ok nmX12 rfl (Nat.le_of_ble_eq_true rfl) mw_467 rfl rfl rfl hdg kk
end
theorem dX12_ahead0_47 : decode cX12_ahead0 47 = .ok (.aload_n 0, 1) := by decide +kernel
theorem dX12_ahead0_48 : decode cX12_ahead0 48 = .ok (.aload_n 0, 1) := by decide +kernel
theorem dX12_ahead0_49 : decode cX12_ahead0 49 = .ok (.getfield 154, 3) := by decide +kernel
theorem dX12_ahead0_52 : decode cX12_ahead0 52 = .ok (.invokevirtual 157, 3) := by decide +kernel
theorem dX12_ahead0_55 : decode cX12_ahead0 55 = .ok (.istore_n 1, 1) := by decide +kernel
theorem dX12_ahead0_56 : decode cX12_ahead0 56 = .ok (.aload_n 0, 1) := by decide +kernel
theorem dX12_ahead0_57 : decode cX12_ahead0 57 = .ok (.iload_n 1, 1) := by decide +kernel
theorem dX12_ahead0_58 : decode cX12_ahead0 58 = .ok (.putfield 164, 3) := by decide +kernel
section
variable {p : Program} {l : Launch} {e : Env} {R0 : Room} {s : State} {m : MethodId} {args : Array Value} {below : List Frame} {meth : Method} {c : Code} {H H0 : Heap} {locs : List Loc} {cells slots : Nat} {Q : State → Prop} {cc : ByteArray} {nL : Nat} {D : va_G} {cy : Nat → ClassId} {A : Nat → Prop} {L : List Nat} {R : Nat → Nat} {f : Nat → va_E} {pc : Nat} {ls : Array Slot} {rest : List Value} {a : Nat}
theorem p_12_164 (F : CallFix p m c cc nL s args wsL_law RX12) (h : tS D cy A H0 L R (TT cy L R) f s H locs) {x : Int32} (ha : a ∈ L) (hr : R a = 12) (hdg : decode cc pc = .ok (.putfield 164, 3)) (kk : ∀ (f1 : Nat → va_E) (H1 : Heap) (locs1 : List Loc), fi f1 a 14 = x.toInt → fr L R [(12, 14)] [12] f f1 → tS D cy A H0 L R (TT cy L R) f1 s H1 locs1 → W p l e R0 s m args below meth c H1 locs1 cells slots Q (F0 m (pc + 3) ls (rest))) : W p l e R0 s m args below meth c H locs cells slots Q (F0 m pc ls (.int x :: .ref a :: rest)) := tu_puti (k := 14) F h ha hr T_12 rfl (tb_i x).1 (tb_i x).2 inlX12 tyX12_ok nmX12 rfl (Nat.le_of_ble_eq_true rfl) mw_472 rfl rfl rfl hdg kk
end
theorem dX12_ahead0_61 : decode cX12_ahead0 61 = .ok (.iload_n 1, 1) := by decide +kernel
theorem dX12_ahead0_62 : decode cX12_ahead0 62 = .ok (.iconst (-1), 1) := by decide +kernel
theorem dX12_ahead0_63 : decode cX12_ahead0 63 = .ok (.if_icmp .ne 11, 3) := by decide +kernel
theorem dX12_ahead0_74 : decode cX12_ahead0 74 = .ok (.iload_n 1, 1) := by decide +kernel
theorem dX12_ahead0_75 : decode cX12_ahead0 75 = .ok (.invokestatic 170, 3) := by decide +kernel
theorem mw_481 : Cond.methodLink RX12 170 yX12_isSmall ∈ wsL_law := inr_21 _ (List.mem_of_getElem? (i := 1) rfl)
theorem mw_483 : Cond.code yX12_isSmall cX12_isSmall 1 (some .boolean) ∈ wsL_law := inr_21 _ (List.mem_of_getElem? (i := 3) rfl)
theorem yk_X12_isSmall : xY yX12_isSmall RX12 cX12_isSmall 1 (some .boolean) 1 := ⟨⟨rfl, by decide +kernel, by decide +kernel, by decide +kernel⟩, mw_5, mw_483⟩
theorem mw_482 : Cond.static yX12_isSmall ∈ wsL_law := inr_21 _ (List.mem_of_getElem? (i := 2) rfl)
theorem dX12_ahead0_78 : decode cX12_ahead0 78 = .ok (.ifCond .eq 38, 3) := by decide +kernel
theorem dX12_ahead0_116 : decode cX12_ahead0 116 = .ok (.iload_n 1, 1) := by decide +kernel
theorem dX12_ahead0_117 : decode cX12_ahead0 117 = .ok (.invokestatic 173, 3) := by decide +kernel
theorem mw_484 : Cond.methodLink RX12 173 yX12_isDigit ∈ wsL_law := inr_21 _ (List.mem_of_getElem? (i := 4) rfl)
theorem mw_486 : Cond.code yX12_isDigit cX12_isDigit 1 (some .boolean) ∈ wsL_law := inr_21 _ (List.mem_of_getElem? (i := 6) rfl)
theorem yk_X12_isDigit : xY yX12_isDigit RX12 cX12_isDigit 1 (some .boolean) 1 := ⟨⟨rfl, by decide +kernel, by decide +kernel, by decide +kernel⟩, mw_5, mw_486⟩
theorem mw_485 : Cond.static yX12_isDigit ∈ wsL_law := inr_21 _ (List.mem_of_getElem? (i := 5) rfl)
theorem dX12_ahead0_120 : decode cX12_ahead0 120 = .ok (.ifCond .eq 89, 3) := by decide +kernel
theorem dX12_ahead0_209 : decode cX12_ahead0 209 = .ok (.aload_n 0, 1) := by decide +kernel
theorem dX12_ahead0_210 : decode cX12_ahead0 210 = .ok (.dup, 1) := by decide +kernel
theorem dX12_ahead0_211 : decode cX12_ahead0 211 = .ok (.getfield 154, 3) := by decide +kernel
theorem dX12_ahead0_214 : decode cX12_ahead0 214 = .ok (.iconst 1, 1) := by decide +kernel
theorem dX12_ahead0_215 : decode cX12_ahead0 215 = .ok (.iadd, 1) := by decide +kernel
theorem dX12_ahead0_216 : decode cX12_ahead0 216 = .ok (.putfield 154, 3) := by decide +kernel
theorem dX12_ahead0_219 : decode cX12_ahead0 219 = .ok (.aload_n 0, 1) := by decide +kernel
theorem dX12_ahead0_220 : decode cX12_ahead0 220 = .ok (.iload_n 1, 1) := by decide +kernel
theorem dX12_ahead0_221 : decode cX12_ahead0 221 = .ok (.bipush 59, 2) := by decide +kernel
theorem kb_59 : (Int8.ofInt 59).toInt32.toInt = 59 := by decide
theorem dX12_ahead0_223 : decode cX12_ahead0 223 = .ok (.if_icmp .eq 15, 3) := by decide +kernel
theorem dX12_ahead0_238 : decode cX12_ahead0 238 = .ok (.iconst 4, 1) := by decide +kernel
theorem dX12_ahead0_239 : decode cX12_ahead0 239 = .ok (.goto 4, 3) := by decide +kernel
theorem dX12_ahead0_243 : decode cX12_ahead0 243 = .ok (.putfield 167, 3) := by decide +kernel
section
variable {p : Program} {l : Launch} {e : Env} {R0 : Room} {s : State} {m : MethodId} {args : Array Value} {below : List Frame} {meth : Method} {c : Code} {H H0 : Heap} {locs : List Loc} {cells slots : Nat} {Q : State → Prop} {cc : ByteArray} {nL : Nat} {D : va_G} {cy : Nat → ClassId} {A : Nat → Prop} {L : List Nat} {R : Nat → Nat} {f : Nat → va_E} {pc : Nat} {ls : Array Slot} {rest : List Value} {a : Nat}
theorem p_12_167 (F : CallFix p m c cc nL s args wsL_law RX12) (h : tS D cy A H0 L R (TT cy L R) f s H locs) {x : Int32} (ha : a ∈ L) (hr : R a = 12) (hv : 0 ≤ x.toInt ∧ x.toInt ≤ 4) (hdg : decode cc pc = .ok (.putfield 167, 3)) (kk : ∀ (f1 : Nat → va_E) (H1 : Heap) (locs1 : List Loc), fi f1 a 11 = x.toInt → fr L R [(12, 11)] [12] f f1 → tS D cy A H0 L R (TT cy L R) f1 s H1 locs1 → W p l e R0 s m args below meth c H1 locs1 cells slots Q (F0 m (pc + 3) ls (rest))) : W p l e R0 s m args below meth c H locs cells slots Q (F0 m pc ls (.int x :: .ref a :: rest)) := tu_puti (k := 11) F h ha hr T_12 rfl hv.1 hv.2 inlX12 tyX12_ok nmX12 rfl (Nat.le_of_ble_eq_true rfl) mw_466 rfl rfl rfl hdg kk
end
theorem dX12_ahead0_246 : decode cX12_ahead0 246 = .ok (.return_, 1) := by decide +kernel
theorem dX12_ahead0_226 : decode cX12_ahead0 226 = .ok (.iload_n 1, 1) := by decide +kernel
theorem dX12_ahead0_227 : decode cX12_ahead0 227 = .ok (.bipush 42, 2) := by decide +kernel
theorem kb_42 : (Int8.ofInt 42).toInt32.toInt = 42 := by decide
theorem dX12_ahead0_229 : decode cX12_ahead0 229 = .ok (.if_icmp .eq 9, 3) := by decide +kernel
theorem dX12_ahead0_232 : decode cX12_ahead0 232 = .ok (.iload_n 1, 1) := by decide +kernel
theorem dX12_ahead0_233 : decode cX12_ahead0 233 = .ok (.bipush 63, 2) := by decide +kernel
theorem dX12_ahead0_235 : decode cX12_ahead0 235 = .ok (.if_icmp .ne 7, 3) := by decide +kernel
theorem dX12_ahead0_242 : decode cX12_ahead0 242 = .ok (.iconst 1, 1) := by decide +kernel
theorem dX12_ahead0_123 : decode cX12_ahead0 123 = .ok (.aload_n 0, 1) := by decide +kernel
theorem dX12_ahead0_124 : decode cX12_ahead0 124 = .ok (.iconst 0, 1) := by decide +kernel
theorem dX12_ahead0_125 : decode cX12_ahead0 125 = .ok (.putfield 164, 3) := by decide +kernel
theorem dX12_ahead0_128 : decode cX12_ahead0 128 = .ok (.aload_n 0, 1) := by decide +kernel
theorem dX12_ahead0_129 : decode cX12_ahead0 129 = .ok (.aload_n 0, 1) := by decide +kernel
theorem dX12_ahead0_130 : decode cX12_ahead0 130 = .ok (.getfield 154, 3) := by decide +kernel
theorem dX12_ahead0_133 : decode cX12_ahead0 133 = .ok (.invokevirtual 157, 3) := by decide +kernel
theorem dX12_ahead0_136 : decode cX12_ahead0 136 = .ok (.invokestatic 173, 3) := by decide +kernel
theorem dX12_ahead0_139 : decode cX12_ahead0 139 = .ok (.ifCond .eq 45, 3) := by decide +kernel
theorem dX12_ahead0_184 : decode cX12_ahead0 184 = .ok (.aload_n 0, 1) := by decide +kernel
theorem dX12_ahead0_185 : decode cX12_ahead0 185 = .ok (.aload_n 0, 1) := by decide +kernel
theorem dX12_ahead0_186 : decode cX12_ahead0 186 = .ok (.getfield 154, 3) := by decide +kernel
theorem dX12_ahead0_189 : decode cX12_ahead0 189 = .ok (.aload_n 0, 1) := by decide +kernel
theorem dX12_ahead0_190 : decode cX12_ahead0 190 = .ok (.getfield 161, 3) := by decide +kernel
theorem dX12_ahead0_193 : decode cX12_ahead0 193 = .ok (.isub, 1) := by decide +kernel
theorem dX12_ahead0_194 : decode cX12_ahead0 194 = .ok (.iconst 2, 1) := by decide +kernel
theorem dX12_ahead0_195 : decode cX12_ahead0 195 = .ok (.if_icmp .le 7, 3) := by decide +kernel
theorem dX12_ahead0_202 : decode cX12_ahead0 202 = .ok (.iconst 3, 1) := by decide +kernel
theorem dX12_ahead0_203 : decode cX12_ahead0 203 = .ok (.putfield 167, 3) := by decide +kernel
theorem dX12_ahead0_206 : decode cX12_ahead0 206 = .ok (.goto 40, 3) := by decide +kernel
theorem dX12_ahead0_198 : decode cX12_ahead0 198 = .ok (.iconst 1, 1) := by decide +kernel
theorem dX12_ahead0_199 : decode cX12_ahead0 199 = .ok (.goto 4, 3) := by decide +kernel
theorem dX12_ahead0_142 : decode cX12_ahead0 142 = .ok (.aload_n 0, 1) := by decide +kernel
theorem dX12_ahead0_143 : decode cX12_ahead0 143 = .ok (.sipush 1000, 3) := by decide +kernel
theorem ks_1000 : (Int16.ofInt 1000).toInt32.toInt = 1000 := by decide
theorem dX12_ahead0_146 : decode cX12_ahead0 146 = .ok (.bipush 10, 2) := by decide +kernel
theorem dX12_ahead0_148 : decode cX12_ahead0 148 = .ok (.aload_n 0, 1) := by decide +kernel
theorem dX12_ahead0_149 : decode cX12_ahead0 149 = .ok (.getfield 164, 3) := by decide +kernel
theorem dX12_ahead0_152 : decode cX12_ahead0 152 = .ok (.imul, 1) := by decide +kernel
theorem dX12_ahead0_153 : decode cX12_ahead0 153 = .ok (.aload_n 0, 1) := by decide +kernel
theorem dX12_ahead0_154 : decode cX12_ahead0 154 = .ok (.aload_n 0, 1) := by decide +kernel
theorem dX12_ahead0_155 : decode cX12_ahead0 155 = .ok (.getfield 154, 3) := by decide +kernel
theorem dX12_ahead0_158 : decode cX12_ahead0 158 = .ok (.invokevirtual 157, 3) := by decide +kernel
theorem dX12_ahead0_161 : decode cX12_ahead0 161 = .ok (.iadd, 1) := by decide +kernel
theorem dX12_ahead0_162 : decode cX12_ahead0 162 = .ok (.bipush 48, 2) := by decide +kernel
theorem dX12_ahead0_164 : decode cX12_ahead0 164 = .ok (.isub, 1) := by decide +kernel
theorem dX12_ahead0_165 : decode cX12_ahead0 165 = .ok (.invokestatic 176, 3) := by decide +kernel
theorem mw_473 : Cond.methodLink RX12 176 Lib.Math.min.name ∈ wsL_law := inr_20 _ (List.mem_of_getElem? (i := 17) rfl)
theorem mw_474 : Cond.static Lib.Math.min.name ∈ wsL_law := inr_20 _ (List.mem_of_getElem? (i := 18) rfl)
theorem mw_475 : Cond.initialized "java/lang/Math" ∈ wsL_law := inr_20 _ (List.mem_of_getElem? (i := 19) rfl)
theorem mw_476 : Cond.code Lib.Math.min.name Lib.Math.min.code 2 (some .int) ∈ wsL_law := inr_20 _ (List.mem_of_getElem? (i := 20) rfl)
theorem dX12_ahead0_168 : decode cX12_ahead0 168 = .ok (.putfield 164, 3) := by decide +kernel
theorem dX12_ahead0_171 : decode cX12_ahead0 171 = .ok (.aload_n 0, 1) := by decide +kernel
theorem dX12_ahead0_172 : decode cX12_ahead0 172 = .ok (.dup, 1) := by decide +kernel
theorem dX12_ahead0_173 : decode cX12_ahead0 173 = .ok (.getfield 154, 3) := by decide +kernel
theorem dX12_ahead0_176 : decode cX12_ahead0 176 = .ok (.iconst 1, 1) := by decide +kernel
theorem dX12_ahead0_177 : decode cX12_ahead0 177 = .ok (.iadd, 1) := by decide +kernel
theorem dX12_ahead0_178 : decode cX12_ahead0 178 = .ok (.putfield 154, 3) := by decide +kernel
theorem dX12_ahead0_181 : decode cX12_ahead0 181 = .ok (.goto (-53), 3) := by decide +kernel
theorem dX12_ahead0_81 : decode cX12_ahead0 81 = .ok (.aload_n 0, 1) := by decide +kernel
theorem dX12_ahead0_82 : decode cX12_ahead0 82 = .ok (.aload_n 0, 1) := by decide +kernel
theorem dX12_ahead0_83 : decode cX12_ahead0 83 = .ok (.getfield 154, 3) := by decide +kernel
theorem dX12_ahead0_86 : decode cX12_ahead0 86 = .ok (.invokevirtual 157, 3) := by decide +kernel
theorem dX12_ahead0_89 : decode cX12_ahead0 89 = .ok (.invokestatic 170, 3) := by decide +kernel
theorem dX12_ahead0_92 : decode cX12_ahead0 92 = .ok (.ifCond .eq 16, 3) := by decide +kernel
theorem dX12_ahead0_108 : decode cX12_ahead0 108 = .ok (.aload_n 0, 1) := by decide +kernel
theorem dX12_ahead0_109 : decode cX12_ahead0 109 = .ok (.iconst 2, 1) := by decide +kernel
theorem dX12_ahead0_110 : decode cX12_ahead0 110 = .ok (.putfield 167, 3) := by decide +kernel
theorem dX12_ahead0_113 : decode cX12_ahead0 113 = .ok (.goto 133, 3) := by decide +kernel
theorem dX12_ahead0_95 : decode cX12_ahead0 95 = .ok (.aload_n 0, 1) := by decide +kernel
theorem dX12_ahead0_96 : decode cX12_ahead0 96 = .ok (.dup, 1) := by decide +kernel
theorem dX12_ahead0_97 : decode cX12_ahead0 97 = .ok (.getfield 154, 3) := by decide +kernel
theorem dX12_ahead0_100 : decode cX12_ahead0 100 = .ok (.iconst 1, 1) := by decide +kernel
theorem dX12_ahead0_101 : decode cX12_ahead0 101 = .ok (.iadd, 1) := by decide +kernel
theorem dX12_ahead0_102 : decode cX12_ahead0 102 = .ok (.putfield 154, 3) := by decide +kernel
section
variable {p : Program} {l : Launch} {e : Env} {R0 : Room} {s : State} {m : MethodId} {args : Array Value} {below : List Frame} {meth : Method} {c : Code} {H H0 : Heap} {locs : List Loc} {cells slots : Nat} {Q : State → Prop} {cc : ByteArray} {nL : Nat} {D : va_G} {cy : Nat → ClassId} {A : Nat → Prop} {L : List Nat} {R : Nat → Nat} {f : Nat → va_E} {pc : Nat} {ls : Array Slot} {rest : List Value} {a : Nat}
theorem pe_12_154 (F : CallFix p m c cc nL s args wsL_law RX12) (h : tS D cy A H0 L R (TT cy L R) f s H locs) {x : Int32} (ha : a ∈ L) (hr : R a = 12) (hv : 0 ≤ x.toInt ∧ x.toInt ≤ 600) (hdg : decode cc pc = .ok (.putfield 154, 3)) (kk : ∀ (f1 : Nat → va_E) (H1 : Heap) (locs1 : List Loc), fld f1 a 13 = .int x → (∀ a', a' ≠ a → f1 a' = f a') → fr L R [(12, 13)] [12] f f1 → tS D cy A H0 L R (TT cy L R) f1 s H1 locs1 → W p l e R0 s m args below meth c H1 locs1 cells slots Q (F0 m (pc + 3) ls (rest))) : W p l e R0 s m args below meth c H locs cells slots Q (F0 m pc ls (.int x :: .ref a :: rest)) := tu_putiE (k := 13) F h ha hr T_12 rfl hv.1 hv.2 inlX12 tyX12_ok nmX12 rfl (Nat.le_of_ble_eq_true rfl) mw_461 rfl rfl rfl hdg kk
end
theorem dX12_ahead0_105 : decode cX12_ahead0 105 = .ok (.goto (-24), 3) := by decide +kernel
theorem dX12_ahead0_66 : decode cX12_ahead0 66 = .ok (.aload_n 0, 1) := by decide +kernel
theorem dX12_ahead0_67 : decode cX12_ahead0 67 = .ok (.iconst 0, 1) := by decide +kernel
theorem dX12_ahead0_68 : decode cX12_ahead0 68 = .ok (.putfield 167, 3) := by decide +kernel
theorem dX12_ahead0_71 : decode cX12_ahead0 71 = .ok (.goto 175, 3) := by decide +kernel
def rm_X12_ahead0 : Room := { frames := 1, cells := 0, slots := 0, locals := 40 }
set_option maxHeartbeats 4000000 in
set_option maxRecDepth 100000 in
theorem s_X12_ahead0 (l : Launch) (D : va_G) (cy : Nat → ClassId) (L : List Nat) (R O : Nat → Nat) (f0 : Nat → va_E) (a0 : Nat) (m_a0 : a0 ∈ L) (r_a0 : R a0 = 12) : ∀ sz, Met l yX12_ahead0 (Cond.code yX12_ahead0 cX12_ahead0 2 none :: wsL_law) rm_X12_ahead0 (va_Pc [.ref a0] (tPZ D cy L R (TT cy L R) f0 sz)) (va_Qv (fun f1 => fr L R [(12, 11), (12, 12), (12, 13), (12, 14)] [12] f0 f1 ∧ TW L R a0 f1) (tB D (tA L sz) L R (TT cy L R)) (tA L sz)) 0 0 (tA L sz) := by
  refine tw_enterv (by decide +kernel) rfl (Nat.le_of_ble_eq_true rfl) ?_
  intro p e s m below meth c A ls args Q F hZ h hl hret
  have hl : lv_has ls 2 [(0, .ref a0)] := hl
  have hk : fr L R [(12, 11), (12, 12), (12, 13), (12, 14)] [12] f0 f0 := fr.rf
  have t_a0_end := h.bfi m_a0 r_a0 (fun e q => (T_12 e).mp q) (k := 13) rfl
  have t_a0_size := h.bfi m_a0 r_a0 (fun e q => (T_12 e).mp q) (k := 10) rfl
  have t_a0_token := h.bfi m_a0 r_a0 (fun e q => (T_12 e).mp q) (k := 11) rfl
  have t_a0_from := h.bfi m_a0 r_a0 (fun e q => (T_12 e).mp q) (k := 12) rfl
  obtain ⟨a0_text, m_a0_text, r_a0_text, t_a0_text⟩ := h.rf m_a0 r_a0 (fun e q => (T_12 e).mp q) (k := 8) rfl
  have j_0 : ∀ (n0 : Nat) (f1 : Nat → va_E) (H : Heap) (locs : List Loc) (ls : Array Slot), 0 ≤ fi f1 a0 13 → fi f1 a0 13 ≤ 600 → ((600 - fi f1 a0 13)).toNat < n0 → tS D cy A s.heap L R (TT cy L R) f1 s H locs → fr L R [(12, 11), (12, 12), (12, 13), (12, 14)] [12] f0 f1 → fr L R [(12, 13)] [12] f0 f1 → lv_has ls 2 [(0, .ref a0)] → W p l e rm_X12_ahead0 s m args below meth c H locs 0 0 Q (F0 m 0 ls []) := by
    intro n0
    induction n0 with
    | zero =>
      intro f1 H locs ls b2 b3 b4 h hk hb0 hl
      exfalso
      omega
    | succ n0 ih0 =>
      intro f1 H locs ls b2 b3 b4 h hk hb0 hl
      have e5 : fi f1 a0 10 = fi f0 a0 10 := hb0.efi m_a0 r_a0 rfl
      have e6 : fi f1 a0 11 = fi f0 a0 11 := hb0.efi m_a0 r_a0 rfl
      have e7 : fi f1 a0 12 = fi f0 a0 12 := hb0.efi m_a0 r_a0 rfl
      have e8 : fld f1 a0 8 = .ref a0_text := (hb0.efl m_a0 r_a0 rfl).trans t_a0_text
      refine lv_aload_n F.1 F.2.1 dX12_ahead0_0 rfl (lv_at hl 0 rfl) ?_
      refine lv_aload_n F.1 F.2.1 dX12_ahead0_1 rfl (lv_at hl 0 rfl) ?_
      refine g_12_154 F h m_a0 r_a0 dX12_ahead0_2 (fun v9 hv9 hv9a hv9b => ?_)
      refine tw_Vi (As := [.int v9]) F hZ h yk_X12_byteAt mw_477 mw_478 mw_479 (s_X12_byteAt l D cy L R O f1 a0 m_a0 r_a0 v9 ⟨by omega, by omega⟩) rfl rfl m_a0 r_a0 (fun e q => (T_12 e).mp q) rfl hl.1 rfl (Nat.le_of_ble_eq_true rfl) ⟨Nat.le_of_ble_eq_true rfl, Nat.le_of_ble_eq_true rfl⟩ ⟨Nat.le_of_ble_eq_true rfl, Nat.le_of_ble_eq_true rfl⟩ dX12_ahead0_5 (fun v11 f10 H locs hp10 h => ?_)
      obtain ⟨rfl, hv11a, hv11b, hv11p0, hv11p1, hv11p2, hv11p3⟩ := hp10
      refine tw_bipush F dX12_ahead0_8 kb_32 (fun z12 hz12 => ?_)
      have j_26 : ∀ (H : Heap) (locs : List Loc) (ls : Array Slot), 0 ≤ fi f1 a0 13 → fi f1 a0 13 ≤ 600 → fi f1 a0 13 < fi f1 a0 10 → tS D cy A s.heap L R (TT cy L R) f1 s H locs → lv_has ls 2 [(0, .ref a0)] → W p l e rm_X12_ahead0 s m args below meth c H locs 0 0 Q (F0 m 26 ls []) := by
        intro H locs ls b13 b14 b15 h hl
        refine lv_aload_n F.1 F.2.1 dX12_ahead0_26 rfl (lv_at hl 0 rfl) ?_
        refine lv_dup F.1 F.2.1 dX12_ahead0_27 rfl ?_
        refine g_12_154 F h m_a0 r_a0 dX12_ahead0_28 (fun v16 hv16 hv16a hv16b => ?_)
        refine tw_iconst F dX12_ahead0_31 ki_1 (fun z17 hz17 => ?_)
        refine tu_iadd F dX12_ahead0_32 (by omega) (fun z18 hz18 => ?_)
        refine p_12_154 F h m_a0 r_a0 (by omega) dX12_ahead0_33 (fun f19 H locs e19p hf19 h => ?_)
        have hk : fr L R [(12, 11), (12, 12), (12, 13), (12, 14)] [12] f0 f19 := hk.tr hf19 rfl rfl
        have hb0 : fr L R [(12, 13)] [12] f0 f19 := hb0.tr hf19 rfl rfl
        have e20 : fi f19 a0 10 = fi f1 a0 10 := hf19.efi m_a0 r_a0 rfl
        have e21 : fi f19 a0 11 = fi f1 a0 11 := hf19.efi m_a0 r_a0 rfl
        have e22 : fi f19 a0 12 = fi f1 a0 12 := hf19.efi m_a0 r_a0 rfl
        have e23 : fld f19 a0 8 = .ref a0_text := (hf19.efl m_a0 r_a0 rfl).trans e8
        refine lv_goto (tgt := 0) F.1 F.2.1 dX12_ahead0_36 (by decide) ?_
        exact ih0 f19 _ _ _ (by omega) (by omega) (by omega) h hk hb0 (lv_sub hl [0] rfl)
      refine tw_icmp_eq (tgt := 26) F dX12_ahead0_10 (by decide) (fun b24 => ?_) (fun b24 => ?_)
      · exact j_26 _ _ _ (by omega) (by omega) (by omega) h (lv_sub hl [0] rfl)
      · refine lv_aload_n F.1 F.2.1 dX12_ahead0_13 rfl (lv_at hl 0 rfl) ?_
        refine lv_aload_n F.1 F.2.1 dX12_ahead0_14 rfl (lv_at hl 0 rfl) ?_
        refine g_12_154 F h m_a0 r_a0 dX12_ahead0_15 (fun v25 hv25 hv25a hv25b => ?_)
        refine tw_Vi (As := [.int v25]) F hZ h yk_X12_byteAt mw_477 mw_478 mw_479 (s_X12_byteAt l D cy L R O f1 a0 m_a0 r_a0 v25 ⟨by omega, by omega⟩) rfl rfl m_a0 r_a0 (fun e q => (T_12 e).mp q) rfl hl.1 rfl (Nat.le_of_ble_eq_true rfl) ⟨Nat.le_of_ble_eq_true rfl, Nat.le_of_ble_eq_true rfl⟩ ⟨Nat.le_of_ble_eq_true rfl, Nat.le_of_ble_eq_true rfl⟩ dX12_ahead0_18 (fun v27 f26 H locs hp26 h => ?_)
        obtain ⟨rfl, hv27a, hv27b, hv27p0, hv27p1, hv27p2, hv27p3⟩ := hp26
        refine tw_bipush F dX12_ahead0_21 kb_10 (fun z28 hz28 => ?_)
        refine tw_icmp_ne (tgt := 39) F dX12_ahead0_23 (by decide) (fun b29 => ?_) (fun b29 => ?_)
        · refine lv_aload_n F.1 F.2.1 dX12_ahead0_39 rfl (lv_at hl 0 rfl) ?_
          refine lv_aload_n F.1 F.2.1 dX12_ahead0_40 rfl (lv_at hl 0 rfl) ?_
          refine g_12_154 F h m_a0 r_a0 dX12_ahead0_41 (fun v30 hv30 hv30a hv30b => ?_)
          refine p_12_161 F h m_a0 r_a0 (by omega) dX12_ahead0_44 (fun f31 H locs e31p hf31 h => ?_)
          have hk : fr L R [(12, 11), (12, 12), (12, 13), (12, 14)] [12] f0 f31 := hk.tr hf31 rfl rfl
          have e32 : fi f31 a0 13 = fi f1 a0 13 := hf31.efi m_a0 r_a0 rfl
          have e33 : fi f31 a0 10 = fi f1 a0 10 := hf31.efi m_a0 r_a0 rfl
          have e34 : fi f31 a0 11 = fi f1 a0 11 := hf31.efi m_a0 r_a0 rfl
          have e35 : fld f31 a0 8 = .ref a0_text := (hf31.efl m_a0 r_a0 rfl).trans e8
          refine lv_aload_n F.1 F.2.1 dX12_ahead0_47 rfl (lv_at hl 0 rfl) ?_
          refine lv_aload_n F.1 F.2.1 dX12_ahead0_48 rfl (lv_at hl 0 rfl) ?_
          refine g_12_154 F h m_a0 r_a0 dX12_ahead0_49 (fun v36 hv36 hv36a hv36b => ?_)
          refine tw_Vi (As := [.int v36]) F hZ h yk_X12_byteAt mw_477 mw_478 mw_479 (s_X12_byteAt l D cy L R O f31 a0 m_a0 r_a0 v36 ⟨by omega, by omega⟩) rfl rfl m_a0 r_a0 (fun e q => (T_12 e).mp q) rfl hl.1 rfl (Nat.le_of_ble_eq_true rfl) ⟨Nat.le_of_ble_eq_true rfl, Nat.le_of_ble_eq_true rfl⟩ ⟨Nat.le_of_ble_eq_true rfl, Nat.le_of_ble_eq_true rfl⟩ dX12_ahead0_52 (fun v38 f37 H locs hp37 h => ?_)
          obtain ⟨rfl, hv38a, hv38b, hv38p0, hv38p1, hv38p2, hv38p3⟩ := hp37
          refine lv_istore_n (lv' := [(1, .int v38), (0, .ref a0)]) F.1 F.2.1 dX12_ahead0_55 rfl hl (by decide) rfl (fun ls hl => ?_)
          refine lv_aload_n F.1 F.2.1 dX12_ahead0_56 rfl (lv_at hl 1 rfl) ?_
          refine lv_iload_n F.1 F.2.1 dX12_ahead0_57 rfl (lv_at hl 0 rfl) ?_
          refine p_12_164 F h m_a0 r_a0 dX12_ahead0_58 (fun f39 H locs e39p hf39 h => ?_)
          have hk : fr L R [(12, 11), (12, 12), (12, 13), (12, 14)] [12] f0 f39 := hk.tr hf39 rfl rfl
          have e40 : fi f39 a0 13 = fi f31 a0 13 := hf39.efi m_a0 r_a0 rfl
          have e41 : fi f39 a0 10 = fi f31 a0 10 := hf39.efi m_a0 r_a0 rfl
          have e42 : fi f39 a0 11 = fi f31 a0 11 := hf39.efi m_a0 r_a0 rfl
          have e43 : fld f39 a0 8 = .ref a0_text := (hf39.efl m_a0 r_a0 rfl).trans e35
          have e44 : fi f39 a0 12 = fi f31 a0 12 := hf39.efi m_a0 r_a0 rfl
          refine lv_iload_n F.1 F.2.1 dX12_ahead0_61 rfl (lv_at hl 0 rfl) ?_
          refine tw_iconst F dX12_ahead0_62 ki_m1 (fun z45 hz45 => ?_)
          refine tw_icmp_ne (tgt := 74) F dX12_ahead0_63 (by decide) (fun b46 => ?_) (fun b46 => ?_)
          · refine lv_iload_n F.1 F.2.1 dX12_ahead0_74 rfl (lv_at hl 0 rfl) ?_
            refine tw_Si (As := [.int v38]) F hZ h yk_X12_isSmall mw_481 mw_482 (s_X12_isSmall l D cy L R O f39 v38 ⟨by omega, by omega⟩) rfl rfl hl.1 rfl (Nat.le_of_ble_eq_true rfl) ⟨Nat.le_of_ble_eq_true rfl, Nat.le_of_ble_eq_true rfl⟩ ⟨Nat.le_of_ble_eq_true rfl, Nat.le_of_ble_eq_true rfl⟩ dX12_ahead0_75 (fun v48 f47 H locs hp47 h => ?_)
            obtain ⟨rfl, hv48a, hv48b, hv48p0⟩ := hp47
            refine tw_if_eq (tgt := 116) F dX12_ahead0_78 (by decide) (fun b49 => ?_) (fun b49 => ?_)
            · refine lv_iload_n F.1 F.2.1 dX12_ahead0_116 rfl (lv_at hl 0 rfl) ?_
              refine tw_Si (As := [.int v38]) F hZ h yk_X12_isDigit mw_484 mw_485 (s_X12_isDigit l D cy L R O f39 v38 ⟨by omega, by omega⟩) rfl rfl hl.1 rfl (Nat.le_of_ble_eq_true rfl) ⟨Nat.le_of_ble_eq_true rfl, Nat.le_of_ble_eq_true rfl⟩ ⟨Nat.le_of_ble_eq_true rfl, Nat.le_of_ble_eq_true rfl⟩ dX12_ahead0_117 (fun v51 f50 H locs hp50 h => ?_)
              obtain ⟨rfl, hv51a, hv51b, hv51p0⟩ := hp50
              refine tw_if_eq (tgt := 209) F dX12_ahead0_120 (by decide) (fun b52 => ?_) (fun b52 => ?_)
              · refine lv_aload_n F.1 F.2.1 dX12_ahead0_209 rfl (lv_at hl 1 rfl) ?_
                refine lv_dup F.1 F.2.1 dX12_ahead0_210 rfl ?_
                refine g_12_154 F h m_a0 r_a0 dX12_ahead0_211 (fun v53 hv53 hv53a hv53b => ?_)
                refine tw_iconst F dX12_ahead0_214 ki_1 (fun z54 hz54 => ?_)
                refine tu_iadd F dX12_ahead0_215 (by omega) (fun z55 hz55 => ?_)
                refine p_12_154 F h m_a0 r_a0 (by omega) dX12_ahead0_216 (fun f56 H locs e56p hf56 h => ?_)
                have hk : fr L R [(12, 11), (12, 12), (12, 13), (12, 14)] [12] f0 f56 := hk.tr hf56 rfl rfl
                have e57 : fi f56 a0 10 = fi f39 a0 10 := hf56.efi m_a0 r_a0 rfl
                have e58 : fi f56 a0 11 = fi f39 a0 11 := hf56.efi m_a0 r_a0 rfl
                have e59 : fld f56 a0 8 = .ref a0_text := (hf56.efl m_a0 r_a0 rfl).trans e43
                have e60 : fi f56 a0 12 = fi f39 a0 12 := hf56.efi m_a0 r_a0 rfl
                refine lv_aload_n F.1 F.2.1 dX12_ahead0_219 rfl (lv_at hl 1 rfl) ?_
                refine lv_iload_n F.1 F.2.1 dX12_ahead0_220 rfl (lv_at hl 0 rfl) ?_
                refine tw_bipush F dX12_ahead0_221 kb_59 (fun z61 hz61 => ?_)
                refine tw_icmp_eq (tgt := 238) F dX12_ahead0_223 (by decide) (fun b62 => ?_) (fun b62 => ?_)
                · refine tw_iconst F dX12_ahead0_238 ki_4 (fun z63 hz63 => ?_)
                  refine lv_goto (tgt := 243) F.1 F.2.1 dX12_ahead0_239 (by decide) ?_
                  refine p_12_167 F h m_a0 r_a0 (by omega) dX12_ahead0_243 (fun f64 H locs e64p hf64 h => ?_)
                  have hk : fr L R [(12, 11), (12, 12), (12, 13), (12, 14)] [12] f0 f64 := hk.tr hf64 rfl rfl
                  have e65 : fi f64 a0 10 = fi f56 a0 10 := hf64.efi m_a0 r_a0 rfl
                  have e66 : fld f64 a0 8 = .ref a0_text := (hf64.efl m_a0 r_a0 rfl).trans e59
                  have e67 : fi f64 a0 12 = fi f56 a0 12 := hf64.efi m_a0 r_a0 rfl
                  have e68 : fi f64 a0 13 = fi f56 a0 13 := hf64.efi m_a0 r_a0 rfl
                  exact hret f64 _ _ _ _ dX12_ahead0_246 ⟨hk, ⟨by rw [rfa_of e66]; exact m_a0_text, by rw [rfa_of e66]; exact r_a0_text, fun q => absurd q (by omega)⟩⟩ h
                · refine lv_iload_n F.1 F.2.1 dX12_ahead0_226 rfl (lv_at hl 0 rfl) ?_
                  refine tw_bipush F dX12_ahead0_227 kb_42 (fun z69 hz69 => ?_)
                  refine tw_icmp_eq (tgt := 238) F dX12_ahead0_229 (by decide) (fun b70 => ?_) (fun b70 => ?_)
                  · refine tw_iconst F dX12_ahead0_238 ki_4 (fun z71 hz71 => ?_)
                    refine lv_goto (tgt := 243) F.1 F.2.1 dX12_ahead0_239 (by decide) ?_
                    refine p_12_167 F h m_a0 r_a0 (by omega) dX12_ahead0_243 (fun f72 H locs e72p hf72 h => ?_)
                    have hk : fr L R [(12, 11), (12, 12), (12, 13), (12, 14)] [12] f0 f72 := hk.tr hf72 rfl rfl
                    have e73 : fi f72 a0 10 = fi f56 a0 10 := hf72.efi m_a0 r_a0 rfl
                    have e74 : fld f72 a0 8 = .ref a0_text := (hf72.efl m_a0 r_a0 rfl).trans e59
                    have e75 : fi f72 a0 12 = fi f56 a0 12 := hf72.efi m_a0 r_a0 rfl
                    have e76 : fi f72 a0 13 = fi f56 a0 13 := hf72.efi m_a0 r_a0 rfl
                    exact hret f72 _ _ _ _ dX12_ahead0_246 ⟨hk, ⟨by rw [rfa_of e74]; exact m_a0_text, by rw [rfa_of e74]; exact r_a0_text, fun q => absurd q (by omega)⟩⟩ h
                  · refine lv_iload_n F.1 F.2.1 dX12_ahead0_232 rfl (lv_at hl 0 rfl) ?_
                    refine tw_bipush F dX12_ahead0_233 kb_63 (fun z77 hz77 => ?_)
                    refine tw_icmp_ne (tgt := 242) F dX12_ahead0_235 (by decide) (fun b78 => ?_) (fun b78 => ?_)
                    · refine tw_iconst F dX12_ahead0_242 ki_1 (fun z79 hz79 => ?_)
                      refine p_12_167 F h m_a0 r_a0 (by omega) dX12_ahead0_243 (fun f80 H locs e80p hf80 h => ?_)
                      have hk : fr L R [(12, 11), (12, 12), (12, 13), (12, 14)] [12] f0 f80 := hk.tr hf80 rfl rfl
                      have e81 : fi f80 a0 10 = fi f56 a0 10 := hf80.efi m_a0 r_a0 rfl
                      have e82 : fld f80 a0 8 = .ref a0_text := (hf80.efl m_a0 r_a0 rfl).trans e59
                      have e83 : fi f80 a0 12 = fi f56 a0 12 := hf80.efi m_a0 r_a0 rfl
                      have e84 : fi f80 a0 13 = fi f56 a0 13 := hf80.efi m_a0 r_a0 rfl
                      exact hret f80 _ _ _ _ dX12_ahead0_246 ⟨hk, ⟨by rw [rfa_of e82]; exact m_a0_text, by rw [rfa_of e82]; exact r_a0_text, fun q => absurd q (by omega)⟩⟩ h
                    · refine tw_iconst F dX12_ahead0_238 ki_4 (fun z85 hz85 => ?_)
                      refine lv_goto (tgt := 243) F.1 F.2.1 dX12_ahead0_239 (by decide) ?_
                      refine p_12_167 F h m_a0 r_a0 (by omega) dX12_ahead0_243 (fun f86 H locs e86p hf86 h => ?_)
                      have hk : fr L R [(12, 11), (12, 12), (12, 13), (12, 14)] [12] f0 f86 := hk.tr hf86 rfl rfl
                      have e87 : fi f86 a0 10 = fi f56 a0 10 := hf86.efi m_a0 r_a0 rfl
                      have e88 : fld f86 a0 8 = .ref a0_text := (hf86.efl m_a0 r_a0 rfl).trans e59
                      have e89 : fi f86 a0 12 = fi f56 a0 12 := hf86.efi m_a0 r_a0 rfl
                      have e90 : fi f86 a0 13 = fi f56 a0 13 := hf86.efi m_a0 r_a0 rfl
                      exact hret f86 _ _ _ _ dX12_ahead0_246 ⟨hk, ⟨by rw [rfa_of e88]; exact m_a0_text, by rw [rfa_of e88]; exact r_a0_text, fun q => absurd q (by omega)⟩⟩ h
              · refine lv_aload_n F.1 F.2.1 dX12_ahead0_123 rfl (lv_at hl 1 rfl) ?_
                refine tw_iconst F dX12_ahead0_124 ki_0 (fun z91 hz91 => ?_)
                refine p_12_164 F h m_a0 r_a0 dX12_ahead0_125 (fun f92 H locs e92p hf92 h => ?_)
                have hk : fr L R [(12, 11), (12, 12), (12, 13), (12, 14)] [12] f0 f92 := hk.tr hf92 rfl rfl
                have e93 : fi f92 a0 13 = fi f39 a0 13 := hf92.efi m_a0 r_a0 rfl
                have e94 : fi f92 a0 10 = fi f39 a0 10 := hf92.efi m_a0 r_a0 rfl
                have e95 : fi f92 a0 11 = fi f39 a0 11 := hf92.efi m_a0 r_a0 rfl
                have e96 : fld f92 a0 8 = .ref a0_text := (hf92.efl m_a0 r_a0 rfl).trans e43
                have e97 : fi f92 a0 12 = fi f39 a0 12 := hf92.efi m_a0 r_a0 rfl
                have j_128 : ∀ (n128 : Nat) (f98 : Nat → va_E) (H : Heap) (locs : List Loc) (ls : Array Slot), 0 ≤ fi f98 a0 13 → fi f98 a0 13 ≤ 600 → ((600 - fi f98 a0 13)).toNat < n128 → tS D cy A s.heap L R (TT cy L R) f98 s H locs → fr L R [(12, 11), (12, 12), (12, 13), (12, 14)] [12] f0 f98 → fr L R [(12, 13), (12, 14)] [12] f92 f98 → lv_has ls 2 [(0, .ref a0)] → W p l e rm_X12_ahead0 s m args below meth c H locs 0 0 Q (F0 m 128 ls []) := by
                  intro n128
                  induction n128 with
                  | zero =>
                    intro f98 H locs ls b99 b100 b101 h hk hb128 hl
                    exfalso
                    omega
                  | succ n128 ih128 =>
                    intro f98 H locs ls b99 b100 b101 h hk hb128 hl
                    have e102 : fi f98 a0 10 = fi f92 a0 10 := hb128.efi m_a0 r_a0 rfl
                    have e103 : fi f98 a0 11 = fi f92 a0 11 := hb128.efi m_a0 r_a0 rfl
                    have e104 : fld f98 a0 8 = .ref a0_text := (hb128.efl m_a0 r_a0 rfl).trans e96
                    have e105 : fi f98 a0 12 = fi f92 a0 12 := hb128.efi m_a0 r_a0 rfl
                    refine lv_aload_n F.1 F.2.1 dX12_ahead0_128 rfl (lv_at hl 0 rfl) ?_
                    refine lv_aload_n F.1 F.2.1 dX12_ahead0_129 rfl (lv_at hl 0 rfl) ?_
                    refine g_12_154 F h m_a0 r_a0 dX12_ahead0_130 (fun v106 hv106 hv106a hv106b => ?_)
                    refine tw_Vi (As := [.int v106]) F hZ h yk_X12_byteAt mw_477 mw_478 mw_479 (s_X12_byteAt l D cy L R O f98 a0 m_a0 r_a0 v106 ⟨by omega, by omega⟩) rfl rfl m_a0 r_a0 (fun e q => (T_12 e).mp q) rfl hl.1 rfl (Nat.le_of_ble_eq_true rfl) ⟨Nat.le_of_ble_eq_true rfl, Nat.le_of_ble_eq_true rfl⟩ ⟨Nat.le_of_ble_eq_true rfl, Nat.le_of_ble_eq_true rfl⟩ dX12_ahead0_133 (fun v108 f107 H locs hp107 h => ?_)
                    obtain ⟨rfl, hv108a, hv108b, hv108p0, hv108p1, hv108p2, hv108p3⟩ := hp107
                    refine tw_Si (As := [.int v108]) F hZ h yk_X12_isDigit mw_484 mw_485 (s_X12_isDigit l D cy L R O f98 v108 ⟨by omega, by omega⟩) rfl rfl hl.1 rfl (Nat.le_of_ble_eq_true rfl) ⟨Nat.le_of_ble_eq_true rfl, Nat.le_of_ble_eq_true rfl⟩ ⟨Nat.le_of_ble_eq_true rfl, Nat.le_of_ble_eq_true rfl⟩ dX12_ahead0_136 (fun v110 f109 H locs hp109 h => ?_)
                    obtain ⟨rfl, hv110a, hv110b, hv110p0⟩ := hp109
                    refine tw_if_eq (tgt := 184) F dX12_ahead0_139 (by decide) (fun b111 => ?_) (fun b111 => ?_)
                    · refine lv_aload_n F.1 F.2.1 dX12_ahead0_184 rfl (lv_at hl 0 rfl) ?_
                      refine lv_aload_n F.1 F.2.1 dX12_ahead0_185 rfl (lv_at hl 0 rfl) ?_
                      refine g_12_154 F h m_a0 r_a0 dX12_ahead0_186 (fun v112 hv112 hv112a hv112b => ?_)
                      refine lv_aload_n F.1 F.2.1 dX12_ahead0_189 rfl (lv_at hl 0 rfl) ?_
                      refine g_12_161 F h m_a0 r_a0 dX12_ahead0_190 (fun v113 hv113 hv113a hv113b => ?_)
                      refine tu_isub F dX12_ahead0_193 (by omega) (fun z114 hz114 => ?_)
                      refine tw_iconst F dX12_ahead0_194 ki_2 (fun z115 hz115 => ?_)
                      refine tw_icmp_le (tgt := 202) F dX12_ahead0_195 (by decide) (fun b116 => ?_) (fun b116 => ?_)
                      · refine tw_iconst F dX12_ahead0_202 ki_3 (fun z117 hz117 => ?_)
                        refine p_12_167 F h m_a0 r_a0 (by omega) dX12_ahead0_203 (fun f118 H locs e118p hf118 h => ?_)
                        have hk : fr L R [(12, 11), (12, 12), (12, 13), (12, 14)] [12] f0 f118 := hk.tr hf118 rfl rfl
                        have e119 : fi f118 a0 13 = fi f98 a0 13 := hf118.efi m_a0 r_a0 rfl
                        have e120 : fi f118 a0 10 = fi f98 a0 10 := hf118.efi m_a0 r_a0 rfl
                        have e121 : fld f118 a0 8 = .ref a0_text := (hf118.efl m_a0 r_a0 rfl).trans e104
                        have e122 : fi f118 a0 12 = fi f98 a0 12 := hf118.efi m_a0 r_a0 rfl
                        refine lv_goto (tgt := 246) F.1 F.2.1 dX12_ahead0_206 (by decide) ?_
                        exact hret f118 _ _ _ _ dX12_ahead0_246 ⟨hk, ⟨by rw [rfa_of e121]; exact m_a0_text, by rw [rfa_of e121]; exact r_a0_text, fun q => absurd q (by omega)⟩⟩ h
                      · refine tw_iconst F dX12_ahead0_198 ki_1 (fun z123 hz123 => ?_)
                        refine lv_goto (tgt := 203) F.1 F.2.1 dX12_ahead0_199 (by decide) ?_
                        refine p_12_167 F h m_a0 r_a0 (by omega) dX12_ahead0_203 (fun f124 H locs e124p hf124 h => ?_)
                        have hk : fr L R [(12, 11), (12, 12), (12, 13), (12, 14)] [12] f0 f124 := hk.tr hf124 rfl rfl
                        have e125 : fi f124 a0 13 = fi f98 a0 13 := hf124.efi m_a0 r_a0 rfl
                        have e126 : fi f124 a0 10 = fi f98 a0 10 := hf124.efi m_a0 r_a0 rfl
                        have e127 : fld f124 a0 8 = .ref a0_text := (hf124.efl m_a0 r_a0 rfl).trans e104
                        have e128 : fi f124 a0 12 = fi f98 a0 12 := hf124.efi m_a0 r_a0 rfl
                        refine lv_goto (tgt := 246) F.1 F.2.1 dX12_ahead0_206 (by decide) ?_
                        exact hret f124 _ _ _ _ dX12_ahead0_246 ⟨hk, ⟨by rw [rfa_of e127]; exact m_a0_text, by rw [rfa_of e127]; exact r_a0_text, fun q => absurd q (by omega)⟩⟩ h
                    · refine lv_aload_n F.1 F.2.1 dX12_ahead0_142 rfl (lv_at hl 0 rfl) ?_
                      refine tw_sipush F dX12_ahead0_143 ks_1000 (fun z129 hz129 => ?_)
                      refine tw_bipush F dX12_ahead0_146 kb_10 (fun z130 hz130 => ?_)
                      refine lv_aload_n F.1 F.2.1 dX12_ahead0_148 rfl (lv_at hl 0 rfl) ?_
                      refine g_12_164 F h m_a0 r_a0 dX12_ahead0_149 (fun v131 hv131 => ?_)
                      refine lv_imul F.1 F.2.1 dX12_ahead0_152 ?_
                      refine lv_topi (fun z132 _ => ?_)
                      refine lv_aload_n F.1 F.2.1 dX12_ahead0_153 rfl (lv_at hl 0 rfl) ?_
                      refine lv_aload_n F.1 F.2.1 dX12_ahead0_154 rfl (lv_at hl 0 rfl) ?_
                      refine g_12_154 F h m_a0 r_a0 dX12_ahead0_155 (fun v133 hv133 hv133a hv133b => ?_)
                      refine tw_Vi (As := [.int v133]) F hZ h yk_X12_byteAt mw_477 mw_478 mw_479 (s_X12_byteAt l D cy L R O f98 a0 m_a0 r_a0 v133 ⟨by omega, by omega⟩) rfl rfl m_a0 r_a0 (fun e q => (T_12 e).mp q) rfl hl.1 rfl (Nat.le_of_ble_eq_true rfl) ⟨Nat.le_of_ble_eq_true rfl, Nat.le_of_ble_eq_true rfl⟩ ⟨Nat.le_of_ble_eq_true rfl, Nat.le_of_ble_eq_true rfl⟩ dX12_ahead0_158 (fun v135 f134 H locs hp134 h => ?_)
                      obtain ⟨rfl, hv135a, hv135b, hv135p0, hv135p1, hv135p2, hv135p3⟩ := hp134
                      refine lv_iadd F.1 F.2.1 dX12_ahead0_161 ?_
                      refine lv_topi (fun z136 _ => ?_)
                      refine tw_bipush F dX12_ahead0_162 kb_48 (fun z137 hz137 => ?_)
                      refine lv_isub F.1 F.2.1 dX12_ahead0_164 ?_
                      refine lv_topi (fun z138 _ => ?_)
                      refine va_mmin F.1 F.2.1 (F.2.2.1.trans hl.1.symm) F.2.2.2.1 (F.2.2.2.2 _ mw_473) (F.2.2.2.2 _ mw_474) (F.2.2.2.2 _ mw_475) (F.2.2.2.2 _ mw_476) (Nat.le_of_ble_eq_true rfl) (Nat.le_of_ble_eq_true rfl) (Nat.le_of_ble_eq_true rfl) (Nat.le_of_ble_eq_true rfl) dX12_ahead0_165 ?_
                      refine lv_topi (fun z139 _ => ?_)
                      refine p_12_164 F h m_a0 r_a0 dX12_ahead0_168 (fun f140 H locs e140p hf140 h => ?_)
                      have hk : fr L R [(12, 11), (12, 12), (12, 13), (12, 14)] [12] f0 f140 := hk.tr hf140 rfl rfl
                      have hb128 : fr L R [(12, 13), (12, 14)] [12] f92 f140 := hb128.tr hf140 rfl rfl
                      have e141 : fi f140 a0 13 = fi f98 a0 13 := hf140.efi m_a0 r_a0 rfl
                      have e142 : fi f140 a0 10 = fi f98 a0 10 := hf140.efi m_a0 r_a0 rfl
                      have e143 : fi f140 a0 11 = fi f98 a0 11 := hf140.efi m_a0 r_a0 rfl
                      have e144 : fld f140 a0 8 = .ref a0_text := (hf140.efl m_a0 r_a0 rfl).trans e104
                      have e145 : fi f140 a0 12 = fi f98 a0 12 := hf140.efi m_a0 r_a0 rfl
                      refine lv_aload_n F.1 F.2.1 dX12_ahead0_171 rfl (lv_at hl 0 rfl) ?_
                      refine lv_dup F.1 F.2.1 dX12_ahead0_172 rfl ?_
                      refine g_12_154 F h m_a0 r_a0 dX12_ahead0_173 (fun v146 hv146 hv146a hv146b => ?_)
                      refine tw_iconst F dX12_ahead0_176 ki_1 (fun z147 hz147 => ?_)
                      refine tu_iadd F dX12_ahead0_177 (by omega) (fun z148 hz148 => ?_)
                      refine p_12_154 F h m_a0 r_a0 (by omega) dX12_ahead0_178 (fun f149 H locs e149p hf149 h => ?_)
                      have hk : fr L R [(12, 11), (12, 12), (12, 13), (12, 14)] [12] f0 f149 := hk.tr hf149 rfl rfl
                      have hb128 : fr L R [(12, 13), (12, 14)] [12] f92 f149 := hb128.tr hf149 rfl rfl
                      have e150 : fi f149 a0 10 = fi f140 a0 10 := hf149.efi m_a0 r_a0 rfl
                      have e151 : fi f149 a0 11 = fi f140 a0 11 := hf149.efi m_a0 r_a0 rfl
                      have e152 : fld f149 a0 8 = .ref a0_text := (hf149.efl m_a0 r_a0 rfl).trans e144
                      have e153 : fi f149 a0 12 = fi f140 a0 12 := hf149.efi m_a0 r_a0 rfl
                      refine lv_goto (tgt := 128) F.1 F.2.1 dX12_ahead0_181 (by decide) ?_
                      exact ih128 f149 _ _ _ (by omega) (by omega) (by omega) h hk hb128 (lv_sub hl [0] rfl)
                have hb128 : fr L R [(12, 13), (12, 14)] [12] f92 f92 := fr.rf
                exact j_128 (((600 - fi f92 a0 13)).toNat + 1) f92 _ _ _ (by omega) (by omega) (by omega) h hk hb128 (lv_sub hl [1] rfl)
            · have j_81 : ∀ (n81 : Nat) (f154 : Nat → va_E) (H : Heap) (locs : List Loc) (ls : Array Slot), 0 ≤ fi f154 a0 13 → fi f154 a0 13 ≤ 600 → fi f154 a0 12 ≤ fi f154 a0 13 → (SM a0 f154) → ((600 - fi f154 a0 13)).toNat < n81 → tS D cy A s.heap L R (TT cy L R) f154 s H locs → fr L R [(12, 11), (12, 12), (12, 13), (12, 14)] [12] f0 f154 → fr L R [(12, 13)] [12] f39 f154 → lv_has ls 2 [(0, .ref a0)] → W p l e rm_X12_ahead0 s m args below meth c H locs 0 0 Q (F0 m 81 ls []) := by
                intro n81
                induction n81 with
                | zero =>
                  intro f154 H locs ls b155 b156 b157 ip81_0 b158 h hk hb81 hl
                  exfalso
                  omega
                | succ n81 ih81 =>
                  intro f154 H locs ls b155 b156 b157 ip81_0 b158 h hk hb81 hl
                  have e159 : fi f154 a0 10 = fi f39 a0 10 := hb81.efi m_a0 r_a0 rfl
                  have e160 : fi f154 a0 11 = fi f39 a0 11 := hb81.efi m_a0 r_a0 rfl
                  have e161 : fld f154 a0 8 = .ref a0_text := (hb81.efl m_a0 r_a0 rfl).trans e43
                  have e162 : fi f154 a0 12 = fi f39 a0 12 := hb81.efi m_a0 r_a0 rfl
                  refine lv_aload_n F.1 F.2.1 dX12_ahead0_81 rfl (lv_at hl 0 rfl) ?_
                  refine lv_aload_n F.1 F.2.1 dX12_ahead0_82 rfl (lv_at hl 0 rfl) ?_
                  refine g_12_154 F h m_a0 r_a0 dX12_ahead0_83 (fun v163 hv163 hv163a hv163b => ?_)
                  refine tw_Vi (As := [.int v163]) F hZ h yk_X12_byteAt mw_477 mw_478 mw_479 (s_X12_byteAt l D cy L R O f154 a0 m_a0 r_a0 v163 ⟨by omega, by omega⟩) rfl rfl m_a0 r_a0 (fun e q => (T_12 e).mp q) rfl hl.1 rfl (Nat.le_of_ble_eq_true rfl) ⟨Nat.le_of_ble_eq_true rfl, Nat.le_of_ble_eq_true rfl⟩ ⟨Nat.le_of_ble_eq_true rfl, Nat.le_of_ble_eq_true rfl⟩ dX12_ahead0_86 (fun v165 f164 H locs hp164 h => ?_)
                  obtain ⟨rfl, hv165a, hv165b, hv165p0, hv165p1, hv165p2, hv165p3⟩ := hp164
                  refine tw_Si (As := [.int v165]) F hZ h yk_X12_isSmall mw_481 mw_482 (s_X12_isSmall l D cy L R O f154 v165 ⟨by omega, by omega⟩) rfl rfl hl.1 rfl (Nat.le_of_ble_eq_true rfl) ⟨Nat.le_of_ble_eq_true rfl, Nat.le_of_ble_eq_true rfl⟩ ⟨Nat.le_of_ble_eq_true rfl, Nat.le_of_ble_eq_true rfl⟩ dX12_ahead0_89 (fun v167 f166 H locs hp166 h => ?_)
                  obtain ⟨rfl, hv167a, hv167b, hv167p0⟩ := hp166
                  refine tw_if_eq (tgt := 108) F dX12_ahead0_92 (by decide) (fun b168 => ?_) (fun b168 => ?_)
                  · refine lv_aload_n F.1 F.2.1 dX12_ahead0_108 rfl (lv_at hl 0 rfl) ?_
                    refine tw_iconst F dX12_ahead0_109 ki_2 (fun z169 hz169 => ?_)
                    refine p_12_167 F h m_a0 r_a0 (by omega) dX12_ahead0_110 (fun f170 H locs e170p hf170 h => ?_)
                    have hk : fr L R [(12, 11), (12, 12), (12, 13), (12, 14)] [12] f0 f170 := hk.tr hf170 rfl rfl
                    have e171 : fi f170 a0 13 = fi f154 a0 13 := hf170.efi m_a0 r_a0 rfl
                    have e172 : fi f170 a0 10 = fi f154 a0 10 := hf170.efi m_a0 r_a0 rfl
                    have e173 : fld f170 a0 8 = .ref a0_text := (hf170.efl m_a0 r_a0 rfl).trans e161
                    have e174 : fi f170 a0 12 = fi f154 a0 12 := hf170.efi m_a0 r_a0 rfl
                    have hSM : SM a0 f170 := SM_fr ip81_0 hf170 m_a0 r_a0 (by rw [rfa_of e161]; exact m_a0_text) (by rw [rfa_of e161]; exact r_a0_text) (by decide +kernel)
                    refine lv_goto (tgt := 246) F.1 F.2.1 dX12_ahead0_113 (by decide) ?_
                    exact hret f170 _ _ _ _ dX12_ahead0_246 ⟨hk, ⟨by rw [rfa_of e173]; exact m_a0_text, by rw [rfa_of e173]; exact r_a0_text, fun _ => hSM⟩⟩ h
                  · refine lv_aload_n F.1 F.2.1 dX12_ahead0_95 rfl (lv_at hl 0 rfl) ?_
                    refine lv_dup F.1 F.2.1 dX12_ahead0_96 rfl ?_
                    refine g_12_154 F h m_a0 r_a0 dX12_ahead0_97 (fun v175 hv175 hv175a hv175b => ?_)
                    refine tw_iconst F dX12_ahead0_100 ki_1 (fun z176 hz176 => ?_)
                    refine tu_iadd F dX12_ahead0_101 (by omega) (fun z177 hz177 => ?_)
                    refine pe_12_154 F h m_a0 r_a0 (by omega) dX12_ahead0_102 (fun f178 H locs e178pq e178po hf178 h => ?_)
                    have e178p : fi f178 a0 13 = z177.toInt := by unfold fi; rw [e178pq]; rfl
                    have hk : fr L R [(12, 11), (12, 12), (12, 13), (12, 14)] [12] f0 f178 := hk.tr hf178 rfl rfl
                    have hb81 : fr L R [(12, 13)] [12] f39 f178 := hb81.tr hf178 rfl rfl
                    have e179 : fi f178 a0 10 = fi f154 a0 10 := hf178.efi m_a0 r_a0 rfl
                    have e180 : fi f178 a0 11 = fi f154 a0 11 := hf178.efi m_a0 r_a0 rfl
                    have e181 : fld f178 a0 8 = .ref a0_text := (hf178.efl m_a0 r_a0 rfl).trans e161
                    have e182 : fi f178 a0 12 = fi f154 a0 12 := hf178.efi m_a0 r_a0 rfl
                    refine lv_goto (tgt := 81) F.1 F.2.1 dX12_ahead0_105 (by decide) ?_
                    exact ih81 f178 _ _ _ (by omega) (by omega) (by omega) (SM_s ip81_0 (BY_fr hf178 m_a0 r_a0 (by rw [rfa_of e161]; exact m_a0_text) (by rw [rfa_of e161]; exact r_a0_text) rfl rfl rfl) (by omega) (by omega) ⟨by rw [show fi f154 a0 13 = v163.toInt by omega, ← hv165p3]; omega, by rw [show fi f154 a0 13 = v163.toInt by omega, ← hv165p3]; omega⟩) (by omega) h hk hb81 (lv_sub hl [0] rfl)
              have hb81 : fr L R [(12, 13)] [12] f39 f39 := fr.rf
              exact j_81 (((600 - fi f39 a0 13)).toNat + 1) f39 _ _ _ (by omega) (by omega) (by omega) (fun j h1 h2 => absurd h2 (by omega)) (by omega) h hk hb81 (lv_sub hl [1] rfl)
          · refine lv_aload_n F.1 F.2.1 dX12_ahead0_66 rfl (lv_at hl 1 rfl) ?_
            refine tw_iconst F dX12_ahead0_67 ki_0 (fun z183 hz183 => ?_)
            refine p_12_167 F h m_a0 r_a0 (by omega) dX12_ahead0_68 (fun f184 H locs e184p hf184 h => ?_)
            have hk : fr L R [(12, 11), (12, 12), (12, 13), (12, 14)] [12] f0 f184 := hk.tr hf184 rfl rfl
            have e185 : fi f184 a0 13 = fi f39 a0 13 := hf184.efi m_a0 r_a0 rfl
            have e186 : fi f184 a0 10 = fi f39 a0 10 := hf184.efi m_a0 r_a0 rfl
            have e187 : fld f184 a0 8 = .ref a0_text := (hf184.efl m_a0 r_a0 rfl).trans e43
            have e188 : fi f184 a0 12 = fi f39 a0 12 := hf184.efi m_a0 r_a0 rfl
            refine lv_goto (tgt := 246) F.1 F.2.1 dX12_ahead0_71 (by decide) ?_
            exact hret f184 _ _ _ _ dX12_ahead0_246 ⟨hk, ⟨by rw [rfa_of e187]; exact m_a0_text, by rw [rfa_of e187]; exact r_a0_text, fun q => absurd q (by omega)⟩⟩ h
        · exact j_26 _ _ _ (by omega) (by omega) (by omega) h (lv_sub hl [0] rfl)
  have hb0 : fr L R [(12, 13)] [12] f0 f0 := fr.rf
  exact j_0 (((600 - fi f0 a0 13)).toNat + 1) f0 _ _ _ (by omega) (by omega) (by omega) h hk hb0 (lv_sub hl [0] rfl)
theorem dX12_keyWord_0 : decode cX12_keyWord 0 = .ok (.aload_n 0, 1) := by decide +kernel
theorem dX12_keyWord_1 : decode cX12_keyWord 1 = .ok (.getfield 167, 3) := by decide +kernel
theorem dX12_keyWord_4 : decode cX12_keyWord 4 = .ok (.iconst 2, 1) := by decide +kernel
theorem dX12_keyWord_5 : decode cX12_keyWord 5 = .ok (.if_icmp .eq 5, 3) := by decide +kernel
theorem dX12_keyWord_10 : decode cX12_keyWord 10 = .ok (.iconst 0, 1) := by decide +kernel
theorem dX12_keyWord_11 : decode cX12_keyWord 11 = .ok (.istore_n 1, 1) := by decide +kernel
theorem dX12_keyWord_12 : decode cX12_keyWord 12 = .ok (.iconst 1, 1) := by decide +kernel
theorem dX12_keyWord_13 : decode cX12_keyWord 13 = .ok (.istore_n 2, 1) := by decide +kernel
theorem dX12_keyWord_14 : decode cX12_keyWord 14 = .ok (.iload_n 2, 1) := by decide +kernel
theorem dX12_keyWord_15 : decode cX12_keyWord 15 = .ok (.ldc 220, 2) := by decide +kernel
theorem dX12_keyWord_17 : decode cX12_keyWord 17 = .ok (.invokevirtual 222, 3) := by decide +kernel
theorem mw_651 : Cond.code yJ0_length_8abf5 cJ0_length_8abf5 1 (some .int) ∈ wsL_law := inr_28 _ (List.mem_of_getElem? (i := 3) rfl)
theorem yk_J0_length_8abf5 : xY yJ0_length_8abf5 RJ0 cJ0_length_8abf5 1 (some .int) 0 := ⟨⟨rfl, by decide +kernel, by decide +kernel, by decide +kernel⟩, mw_650, mw_651⟩
theorem mw_647 : Cond.methodLink RX12 222 yJ0_length_8abf5 ∈ wsL_law := inr_27 _ (List.mem_of_getElem? (i := 23) rfl)
theorem mw_648 : Cond.instanceMethod yJ0_length_8abf5 ∈ wsL_law := inr_28 _ (List.mem_of_getElem? (i := 0) rfl)
theorem mw_649 : Cond.selects RJ0 yJ0_length_8abf5 yJ0_length_8abf5 ∈ wsL_law := inr_28 _ (List.mem_of_getElem? (i := 1) rfl)
theorem dX12_keyWord_20 : decode cX12_keyWord 20 = .ok (.if_icmp .ge 111, 3) := by decide +kernel
theorem dX12_keyWord_131 : decode cX12_keyWord 131 = .ok (.iconst (-1), 1) := by decide +kernel
theorem dX12_keyWord_132 : decode cX12_keyWord 132 = .ok (.ireturn, 1) := by decide +kernel
theorem dX12_keyWord_23 : decode cX12_keyWord 23 = .ok (.iload_n 2, 1) := by decide +kernel
theorem dX12_keyWord_24 : decode cX12_keyWord 24 = .ok (.istore_n 3, 1) := by decide +kernel
theorem dX12_keyWord_25 : decode cX12_keyWord 25 = .ok (.ldc 220, 2) := by decide +kernel
theorem dX12_keyWord_27 : decode cX12_keyWord 27 = .ok (.iload_n 3, 1) := by decide +kernel
theorem dX12_keyWord_28 : decode cX12_keyWord 28 = .ok (.invokevirtual 227, 3) := by decide +kernel
theorem mw_662 : Cond.code yJ0_charAt_5068e cJ0_charAt_5068e 2 (some .char) ∈ wsL_law := inr_28 _ (List.mem_of_getElem? (i := 14) rfl)
theorem yk_J0_charAt_5068e : xY yJ0_charAt_5068e RJ0 cJ0_charAt_5068e 2 (some .char) 1 := ⟨⟨rfl, by decide +kernel, by decide +kernel, by decide +kernel⟩, mw_650, mw_662⟩
theorem mw_659 : Cond.methodLink RX12 227 yJ0_charAt_5068e ∈ wsL_law := inr_28 _ (List.mem_of_getElem? (i := 11) rfl)
theorem mw_660 : Cond.instanceMethod yJ0_charAt_5068e ∈ wsL_law := inr_28 _ (List.mem_of_getElem? (i := 12) rfl)
theorem mw_661 : Cond.selects RJ0 yJ0_charAt_5068e yJ0_charAt_5068e ∈ wsL_law := inr_28 _ (List.mem_of_getElem? (i := 13) rfl)
theorem dX12_keyWord_31 : decode cX12_keyWord 31 = .ok (.bipush 32, 2) := by decide +kernel
theorem dX12_keyWord_33 : decode cX12_keyWord 33 = .ok (.if_icmp .eq 9, 3) := by decide +kernel
theorem dX12_keyWord_42 : decode cX12_keyWord 42 = .ok (.iload_n 3, 1) := by decide +kernel
theorem dX12_keyWord_43 : decode cX12_keyWord 43 = .ok (.iload_n 2, 1) := by decide +kernel
theorem dX12_keyWord_44 : decode cX12_keyWord 44 = .ok (.isub, 1) := by decide +kernel
theorem dX12_keyWord_45 : decode cX12_keyWord 45 = .ok (.aload_n 0, 1) := by decide +kernel
theorem dX12_keyWord_46 : decode cX12_keyWord 46 = .ok (.getfield 154, 3) := by decide +kernel
theorem dX12_keyWord_49 : decode cX12_keyWord 49 = .ok (.aload_n 0, 1) := by decide +kernel
theorem dX12_keyWord_50 : decode cX12_keyWord 50 = .ok (.getfield 161, 3) := by decide +kernel
theorem dX12_keyWord_53 : decode cX12_keyWord 53 = .ok (.isub, 1) := by decide +kernel
theorem dX12_keyWord_62 : decode cX12_keyWord 62 = .ok (.istore 4, 2) := by decide +kernel
theorem dX12_keyWord_64 : decode cX12_keyWord 64 = .ok (.iload_n 2, 1) := by decide +kernel
theorem dX12_keyWord_65 : decode cX12_keyWord 65 = .ok (.istore 5, 2) := by decide +kernel
theorem dX12_keyWord_67 : decode cX12_keyWord 67 = .ok (.iload 5, 2) := by decide +kernel
theorem dX12_keyWord_69 : decode cX12_keyWord 69 = .ok (.iload_n 3, 1) := by decide +kernel
theorem dX12_keyWord_114 : decode cX12_keyWord 114 = .ok (.iload 4, 2) := by decide +kernel
theorem dX12_keyWord_116 : decode cX12_keyWord 116 = .ok (.ifCond .eq 5, 3) := by decide +kernel
theorem dX12_keyWord_121 : decode cX12_keyWord 121 = .ok (.iinc 1 1, 3) := by decide +kernel
theorem dX12_keyWord_124 : decode cX12_keyWord 124 = .ok (.iload_n 3, 1) := by decide +kernel
theorem dX12_keyWord_125 : decode cX12_keyWord 125 = .ok (.iconst 1, 1) := by decide +kernel
theorem dX12_keyWord_126 : decode cX12_keyWord 126 = .ok (.iadd, 1) := by decide +kernel
theorem dX12_keyWord_127 : decode cX12_keyWord 127 = .ok (.istore_n 2, 1) := by decide +kernel
theorem dX12_keyWord_128 : decode cX12_keyWord 128 = .ok (.goto (-114), 3) := by decide +kernel
theorem dX12_keyWord_119 : decode cX12_keyWord 119 = .ok (.iload_n 1, 1) := by decide +kernel
theorem dX12_keyWord_120 : decode cX12_keyWord 120 = .ok (.ireturn, 1) := by decide +kernel
theorem dX12_keyWord_70 : decode cX12_keyWord 70 = .ok (.if_icmp .ge 44, 3) := by decide +kernel
theorem dX12_keyWord_73 : decode cX12_keyWord 73 = .ok (.iload 4, 2) := by decide +kernel
theorem dX12_keyWord_75 : decode cX12_keyWord 75 = .ok (.ifCond .eq 39, 3) := by decide +kernel
theorem dX12_keyWord_78 : decode cX12_keyWord 78 = .ok (.ldc 220, 2) := by decide +kernel
theorem dX12_keyWord_80 : decode cX12_keyWord 80 = .ok (.iload 5, 2) := by decide +kernel
theorem dX12_keyWord_82 : decode cX12_keyWord 82 = .ok (.invokevirtual 227, 3) := by decide +kernel
theorem dX12_keyWord_85 : decode cX12_keyWord 85 = .ok (.aload_n 0, 1) := by decide +kernel
theorem dX12_keyWord_86 : decode cX12_keyWord 86 = .ok (.aload_n 0, 1) := by decide +kernel
theorem dX12_keyWord_87 : decode cX12_keyWord 87 = .ok (.getfield 161, 3) := by decide +kernel
theorem dX12_keyWord_90 : decode cX12_keyWord 90 = .ok (.iload 5, 2) := by decide +kernel
theorem dX12_keyWord_92 : decode cX12_keyWord 92 = .ok (.iadd, 1) := by decide +kernel
theorem dX12_keyWord_93 : decode cX12_keyWord 93 = .ok (.iload_n 2, 1) := by decide +kernel
theorem dX12_keyWord_94 : decode cX12_keyWord 94 = .ok (.isub, 1) := by decide +kernel
theorem dX12_keyWord_95 : decode cX12_keyWord 95 = .ok (.invokevirtual 157, 3) := by decide +kernel
theorem dX12_keyWord_106 : decode cX12_keyWord 106 = .ok (.istore 4, 2) := by decide +kernel
theorem dX12_keyWord_108 : decode cX12_keyWord 108 = .ok (.iinc 5 1, 3) := by decide +kernel
theorem dX12_keyWord_111 : decode cX12_keyWord 111 = .ok (.goto (-44), 3) := by decide +kernel
theorem dX12_keyWord_98 : decode cX12_keyWord 98 = .ok (.if_icmp .ne 7, 3) := by decide +kernel
theorem dX12_keyWord_105 : decode cX12_keyWord 105 = .ok (.iconst 0, 1) := by decide +kernel
theorem dX12_keyWord_101 : decode cX12_keyWord 101 = .ok (.iconst 1, 1) := by decide +kernel
theorem dX12_keyWord_102 : decode cX12_keyWord 102 = .ok (.goto 4, 3) := by decide +kernel
theorem dX12_keyWord_54 : decode cX12_keyWord 54 = .ok (.if_icmp .ne 7, 3) := by decide +kernel
theorem dX12_keyWord_61 : decode cX12_keyWord 61 = .ok (.iconst 0, 1) := by decide +kernel
theorem dX12_keyWord_57 : decode cX12_keyWord 57 = .ok (.iconst 1, 1) := by decide +kernel
theorem dX12_keyWord_58 : decode cX12_keyWord 58 = .ok (.goto 4, 3) := by decide +kernel
theorem dX12_keyWord_36 : decode cX12_keyWord 36 = .ok (.iinc 3 1, 3) := by decide +kernel
theorem dX12_keyWord_39 : decode cX12_keyWord 39 = .ok (.goto (-14), 3) := by decide +kernel
theorem dX12_keyWord_8 : decode cX12_keyWord 8 = .ok (.iconst (-1), 1) := by decide +kernel
theorem dX12_keyWord_9 : decode cX12_keyWord 9 = .ok (.ireturn, 1) := by decide +kernel
def rm_X12_keyWord : Room := { frames := 4, cells := 0, slots := 0, locals := 85 }
set_option maxHeartbeats 4000000 in
set_option maxRecDepth 100000 in
theorem s_X12_keyWord (l : Launch) (D : va_G) (cy : Nat → ClassId) (L : List Nat) (R O : Nat → Nat) (f0 : Nat → va_E) (a0 : Nat) (m_a0 : a0 ∈ L) (r_a0 : R a0 = 12) : ∀ sz, Met l yX12_keyWord (Cond.code yX12_keyWord cX12_keyWord 6 (some .int) :: wsL_law) rm_X12_keyWord (va_Pc [.ref a0] (tPZ D cy L R (TT cy L R) f0 sz)) (va_Qi (fun (r : Int32) f1 => f0 = f1) (tB D (tA L sz) L R (TT cy L R)) (tA L sz)) 0 0 (tA L sz) := by
  refine tw_enteri (by decide +kernel) rfl (Nat.le_of_ble_eq_true rfl) ?_
  intro p e s m below meth c A ls args Q F hZ h hl hret
  have hl : lv_has ls 6 [(0, .ref a0)] := hl
  obtain ⟨adK, adV, hSR, hSS⟩ := hZ.2.1
  have hSK : tK (adK 0) (adV 0) A s s.heap := hSS.1 0 (by decide)
  refine lv_aload_n F.1 F.2.1 dX12_keyWord_0 rfl (lv_at hl 0 rfl) ?_
  refine g_12_167 F h m_a0 r_a0 dX12_keyWord_1 (fun v1 hv1 hv1a hv1b => ?_)
  refine tw_iconst F dX12_keyWord_4 ki_2 (fun z2 hz2 => ?_)
  refine tw_icmp_eq (tgt := 10) F dX12_keyWord_5 (by decide) (fun b3 => ?_) (fun b3 => ?_)
  · refine tw_iconst F dX12_keyWord_10 ki_0 (fun z4 hz4 => ?_)
    refine lv_istore_n (lv' := [(1, .int z4), (0, .ref a0)]) F.1 F.2.1 dX12_keyWord_11 rfl hl (by decide) rfl (fun ls hl => ?_)
    refine tw_iconst F dX12_keyWord_12 ki_1 (fun z5 hz5 => ?_)
    refine lv_istore_n (lv' := [(2, .int z5), (1, .int z4), (0, .ref a0)]) F.1 F.2.1 dX12_keyWord_13 rfl hl (by decide) rfl (fun ls hl => ?_)
    have j_14 : ∀ (n14 : Nat) (H : Heap) (locs : List Loc) (ls : Array Slot) (x1_14 : Int32) (x2_14 : Int32), 1 ≤ x2_14.toInt → ((41 - x2_14.toInt)).toNat < n14 → tS D cy A s.heap L R (TT cy L R) f0 s H locs → lv_has ls 6 [(0, .ref a0), (1, .int x1_14), (2, .int x2_14)] → W p l e rm_X12_keyWord s m args below meth c H locs 0 0 Q (F0 m 14 ls []) := by
      intro n14
      induction n14 with
      | zero =>
        intro H locs ls x1_14 x2_14 b6 b7 h hl
        exfalso
        omega
      | succ n14 ih14 =>
        intro H locs ls x1_14 x2_14 b6 b7 h hl
        refine lv_iload_n F.1 F.2.1 dX12_keyWord_14 rfl (lv_at hl 2 rfl) ?_
        refine va_ldcS F.1 F.2.1 F.2.2.2.1 hSR dX12_keyWord_15 ?_
        refine tw_ViK (As := []) F hZ hSK h yk_J0_length_8abf5 mw_647 mw_648 mw_649 (s_J0_length_8abf5 l D cy L R O f0 (adK 0) (adV 0)) rfl rfl hl.1 rfl (Nat.le_of_ble_eq_true rfl) ⟨Nat.le_of_ble_eq_true rfl, Nat.le_of_ble_eq_true rfl⟩ ⟨Nat.le_of_ble_eq_true rfl, Nat.le_of_ble_eq_true rfl⟩ dX12_keyWord_17 (fun v8 fJ H locs hp h => ?_)
        obtain ⟨rfl, hv8p⟩ := hp
        refine tw_icmp_ge (tgt := 131) F dX12_keyWord_20 (by decide) (fun b9 => ?_) (fun b9 => ?_)
        · refine tw_iconst F dX12_keyWord_131 ki_m1 (fun z10 hz10 => ?_)
          exact hret f0 _ _ _ _ z10 dX12_keyWord_132 rfl rfl h
        · refine lv_iload_n F.1 F.2.1 dX12_keyWord_23 rfl (lv_at hl 2 rfl) ?_
          refine lv_istore_n (lv' := [(3, .int x2_14), (0, .ref a0), (1, .int x1_14), (2, .int x2_14)]) F.1 F.2.1 dX12_keyWord_24 rfl hl (by decide) rfl (fun ls hl => ?_)
          have j_25 : ∀ (n25 : Nat) (H : Heap) (locs : List Loc) (ls : Array Slot) (x3_25 : Int32), x2_14.toInt ≤ x3_25.toInt → x3_25.toInt ≤ 39 → ((2147483647 - x3_25.toInt)).toNat < n25 → tS D cy A s.heap L R (TT cy L R) f0 s H locs → lv_has ls 6 [(0, .ref a0), (1, .int x1_14), (2, .int x2_14), (3, .int x3_25)] → W p l e rm_X12_keyWord s m args below meth c H locs 0 0 Q (F0 m 25 ls []) := by
            intro n25
            induction n25 with
            | zero =>
              intro H locs ls x3_25 b11 b12 b13 h hl
              exfalso
              omega
            | succ n25 ih25 =>
              intro H locs ls x3_25 b11 b12 b13 h hl
              refine va_ldcS F.1 F.2.1 F.2.2.2.1 hSR dX12_keyWord_25 ?_
              refine lv_iload_n F.1 F.2.1 dX12_keyWord_27 rfl (lv_at hl 3 rfl) ?_
              refine tw_ViK (As := [.int x3_25]) F hZ hSK h yk_J0_charAt_5068e mw_659 mw_660 mw_661 (s_J0_charAt_5068e l D cy L R O f0 (adK 0) (adV 0) x3_25 ⟨by omega, by omega⟩) rfl rfl hl.1 rfl (Nat.le_of_ble_eq_true rfl) ⟨Nat.le_of_ble_eq_true rfl, Nat.le_of_ble_eq_true rfl⟩ ⟨Nat.le_of_ble_eq_true rfl, Nat.le_of_ble_eq_true rfl⟩ dX12_keyWord_28 (fun v14 fJ H locs hp h => ?_)
              obtain ⟨rfl, hv14p⟩ := hp
              refine tw_bipush F dX12_keyWord_31 kb_32 (fun z15 hz15 => ?_)
              refine tw_icmp_eq (tgt := 42) F dX12_keyWord_33 (by decide) (fun b16 => ?_) (fun b16 => ?_)
              · refine lv_iload_n F.1 F.2.1 dX12_keyWord_42 rfl (lv_at hl 3 rfl) ?_
                refine lv_iload_n F.1 F.2.1 dX12_keyWord_43 rfl (lv_at hl 2 rfl) ?_
                refine tu_isub F dX12_keyWord_44 (by omega) (fun z17 hz17 => ?_)
                refine lv_aload_n F.1 F.2.1 dX12_keyWord_45 rfl (lv_at hl 0 rfl) ?_
                refine g_12_154 F h m_a0 r_a0 dX12_keyWord_46 (fun v18 hv18 hv18a hv18b => ?_)
                refine lv_aload_n F.1 F.2.1 dX12_keyWord_49 rfl (lv_at hl 0 rfl) ?_
                refine g_12_161 F h m_a0 r_a0 dX12_keyWord_50 (fun v19 hv19 hv19a hv19b => ?_)
                refine tu_isub F dX12_keyWord_53 (by omega) (fun z20 hz20 => ?_)
                have j_62 : ∀ (ls : Array Slot) (y0_62 : Int32), 0 ≤ y0_62.toInt → y0_62.toInt ≤ 1 → lv_has ls 6 [(0, .ref a0), (1, .int x1_14), (2, .int x2_14), (3, .int x3_25)] → W p l e rm_X12_keyWord s m args below meth c H locs 0 0 Q (F0 m 62 ls [.int y0_62]) := by
                  intro ls y0_62 b21 b22 hl
                  refine lv_istore (lv' := [(4, .int y0_62), (0, .ref a0), (1, .int x1_14), (2, .int x2_14), (3, .int x3_25)]) F.1 F.2.1 dX12_keyWord_62 hl (by decide) rfl (fun ls hl => ?_)
                  refine lv_iload_n F.1 F.2.1 dX12_keyWord_64 rfl (lv_at hl 3 rfl) ?_
                  refine lv_istore (lv' := [(5, .int x2_14), (4, .int y0_62), (0, .ref a0), (1, .int x1_14), (2, .int x2_14), (3, .int x3_25)]) F.1 F.2.1 dX12_keyWord_65 hl (by decide) rfl (fun ls hl => ?_)
                  have j_67 : ∀ (n67 : Nat) (H : Heap) (locs : List Loc) (ls : Array Slot) (x4_67 : Int32) (x5_67 : Int32), 0 ≤ x4_67.toInt → x4_67.toInt ≤ 1 → x2_14.toInt ≤ x5_67.toInt → ((2147483647 - x5_67.toInt)).toNat < n67 → tS D cy A s.heap L R (TT cy L R) f0 s H locs → lv_has ls 6 [(0, .ref a0), (1, .int x1_14), (2, .int x2_14), (3, .int x3_25), (4, .int x4_67), (5, .int x5_67)] → W p l e rm_X12_keyWord s m args below meth c H locs 0 0 Q (F0 m 67 ls []) := by
                    intro n67
                    induction n67 with
                    | zero =>
                      intro H locs ls x4_67 x5_67 b23 b24 b25 b26 h hl
                      exfalso
                      omega
                    | succ n67 ih67 =>
                      intro H locs ls x4_67 x5_67 b23 b24 b25 b26 h hl
                      refine lv_iload F.1 F.2.1 dX12_keyWord_67 (lv_at hl 5 rfl) ?_
                      refine lv_iload_n F.1 F.2.1 dX12_keyWord_69 rfl (lv_at hl 3 rfl) ?_
                      have j_114 : ∀ (ls : Array Slot), lv_has ls 6 [(0, .ref a0), (1, .int x1_14), (3, .int x3_25), (4, .int x4_67)] → W p l e rm_X12_keyWord s m args below meth c H locs 0 0 Q (F0 m 114 ls []) := by
                        intro ls hl
                        refine lv_iload F.1 F.2.1 dX12_keyWord_114 (lv_at hl 3 rfl) ?_
                        refine tw_if_eq (tgt := 121) F dX12_keyWord_116 (by decide) (fun b27 => ?_) (fun b27 => ?_)
                        · refine tu_iincU F dX12_keyWord_121 hl (k := 1) rfl (by decide) (fun z28 ls hl => ?_)
                          have hl : lv_has ls 6 [(1, .int z28), (0, .ref a0), (3, .int x3_25), (4, .int x4_67)] := hl
                          refine lv_iload_n F.1 F.2.1 dX12_keyWord_124 rfl (lv_at hl 2 rfl) ?_
                          refine tw_iconst F dX12_keyWord_125 ki_1 (fun z29 hz29 => ?_)
                          refine tu_iadd F dX12_keyWord_126 (by omega) (fun z30 hz30 => ?_)
                          refine lv_istore_n (lv' := [(2, .int z30), (1, .int z28), (0, .ref a0), (3, .int x3_25), (4, .int x4_67)]) F.1 F.2.1 dX12_keyWord_127 rfl hl (by decide) rfl (fun ls hl => ?_)
                          refine lv_goto (tgt := 14) F.1 F.2.1 dX12_keyWord_128 (by decide) ?_
                          exact ih14 _ _ _ z28 z30 (by omega) (by omega) h (lv_sub hl [2, 1, 0] rfl)
                        · refine lv_iload_n F.1 F.2.1 dX12_keyWord_119 rfl (lv_at hl 1 rfl) ?_
                          exact hret f0 _ _ _ _ x1_14 dX12_keyWord_120 rfl rfl h
                      refine tw_icmp_ge (tgt := 114) F dX12_keyWord_70 (by decide) (fun b31 => ?_) (fun b31 => ?_)
                      · exact j_114 _ (lv_sub hl [0, 1, 3, 4] rfl)
                      · refine lv_iload F.1 F.2.1 dX12_keyWord_73 (lv_at hl 4 rfl) ?_
                        refine tw_if_eq (tgt := 114) F dX12_keyWord_75 (by decide) (fun b32 => ?_) (fun b32 => ?_)
                        · exact j_114 _ (lv_sub hl [0, 1, 3, 4] rfl)
                        · refine va_ldcS F.1 F.2.1 F.2.2.2.1 hSR dX12_keyWord_78 ?_
                          refine lv_iload F.1 F.2.1 dX12_keyWord_80 (lv_at hl 5 rfl) ?_
                          refine tw_ViK (As := [.int x5_67]) F hZ hSK h yk_J0_charAt_5068e mw_659 mw_660 mw_661 (s_J0_charAt_5068e l D cy L R O f0 (adK 0) (adV 0) x5_67 ⟨by omega, by omega⟩) rfl rfl hl.1 rfl (Nat.le_of_ble_eq_true rfl) ⟨Nat.le_of_ble_eq_true rfl, Nat.le_of_ble_eq_true rfl⟩ ⟨Nat.le_of_ble_eq_true rfl, Nat.le_of_ble_eq_true rfl⟩ dX12_keyWord_82 (fun v33 fJ H locs hp h => ?_)
                          obtain ⟨rfl, hv33p⟩ := hp
                          refine lv_aload_n F.1 F.2.1 dX12_keyWord_85 rfl (lv_at hl 0 rfl) ?_
                          refine lv_aload_n F.1 F.2.1 dX12_keyWord_86 rfl (lv_at hl 0 rfl) ?_
                          refine g_12_161 F h m_a0 r_a0 dX12_keyWord_87 (fun v34 hv34 hv34a hv34b => ?_)
                          refine lv_iload F.1 F.2.1 dX12_keyWord_90 (lv_at hl 5 rfl) ?_
                          refine tu_iadd F dX12_keyWord_92 (by omega) (fun z35 hz35 => ?_)
                          refine lv_iload_n F.1 F.2.1 dX12_keyWord_93 rfl (lv_at hl 2 rfl) ?_
                          refine tu_isub F dX12_keyWord_94 (by omega) (fun z36 hz36 => ?_)
                          refine tw_Vi (As := [.int z36]) F hZ h yk_X12_byteAt mw_477 mw_478 mw_479 (s_X12_byteAt l D cy L R O f0 a0 m_a0 r_a0 z36 ⟨by omega, by omega⟩) rfl rfl m_a0 r_a0 (fun e q => (T_12 e).mp q) rfl hl.1 rfl (Nat.le_of_ble_eq_true rfl) ⟨Nat.le_of_ble_eq_true rfl, Nat.le_of_ble_eq_true rfl⟩ ⟨Nat.le_of_ble_eq_true rfl, Nat.le_of_ble_eq_true rfl⟩ dX12_keyWord_95 (fun v38 f37 H locs hp37 h => ?_)
                          obtain ⟨rfl, hv38a, hv38b, hv38p0, hv38p1, hv38p2, hv38p3⟩ := hp37
                          have j_106 : ∀ (ls : Array Slot) (y0_106 : Int32), 0 ≤ y0_106.toInt → y0_106.toInt ≤ 1 → lv_has ls 6 [(0, .ref a0), (1, .int x1_14), (2, .int x2_14), (3, .int x3_25), (5, .int x5_67)] → W p l e rm_X12_keyWord s m args below meth c H locs 0 0 Q (F0 m 106 ls [.int y0_106]) := by
                            intro ls y0_106 b39 b40 hl
                            refine lv_istore (lv' := [(4, .int y0_106), (0, .ref a0), (1, .int x1_14), (2, .int x2_14), (3, .int x3_25), (5, .int x5_67)]) F.1 F.2.1 dX12_keyWord_106 hl (by decide) rfl (fun ls hl => ?_)
                            refine tu_iinc F dX12_keyWord_108 hl (k := 5) rfl (by decide) ki_1 (by omega) (fun z41 ls hz41 hl => ?_)
                            have hl : lv_has ls 6 [(5, .int z41), (4, .int y0_106), (0, .ref a0), (1, .int x1_14), (2, .int x2_14), (3, .int x3_25)] := hl
                            refine lv_goto (tgt := 67) F.1 F.2.1 dX12_keyWord_111 (by decide) ?_
                            exact ih67 _ _ _ y0_106 z41 (by omega) (by omega) (by omega) (by omega) h (lv_sub hl [2, 3, 4, 5, 1, 0] rfl)
                          refine tw_icmp_ne (tgt := 105) F dX12_keyWord_98 (by decide) (fun b42 => ?_) (fun b42 => ?_)
                          · refine tw_iconst F dX12_keyWord_105 ki_0 (fun z43 hz43 => ?_)
                            exact j_106 _ z43 (by omega) (by omega) (lv_sub hl [0, 1, 2, 3, 5] rfl)
                          · refine tw_iconst F dX12_keyWord_101 ki_1 (fun z44 hz44 => ?_)
                            refine lv_goto (tgt := 106) F.1 F.2.1 dX12_keyWord_102 (by decide) ?_
                            exact j_106 _ z44 (by omega) (by omega) (lv_sub hl [0, 1, 2, 3, 5] rfl)
                  exact j_67 (((2147483647 - x2_14.toInt)).toNat + 1) _ _ _ y0_62 x2_14 (by omega) (by omega) (by omega) (by omega) h (lv_sub hl [2, 3, 4, 5, 1, 0] rfl)
                refine tw_icmp_ne (tgt := 61) F dX12_keyWord_54 (by decide) (fun b45 => ?_) (fun b45 => ?_)
                · refine tw_iconst F dX12_keyWord_61 ki_0 (fun z46 hz46 => ?_)
                  exact j_62 _ z46 (by omega) (by omega) (lv_sub hl [0, 1, 2, 3] rfl)
                · refine tw_iconst F dX12_keyWord_57 ki_1 (fun z47 hz47 => ?_)
                  refine lv_goto (tgt := 62) F.1 F.2.1 dX12_keyWord_58 (by decide) ?_
                  exact j_62 _ z47 (by omega) (by omega) (lv_sub hl [0, 1, 2, 3] rfl)
              · refine tu_iinc F dX12_keyWord_36 hl (k := 3) rfl (by decide) ki_1 (by omega) (fun z48 ls hz48 hl => ?_)
                have hl : lv_has ls 6 [(3, .int z48), (0, .ref a0), (1, .int x1_14), (2, .int x2_14)] := hl
                refine lv_goto (tgt := 25) F.1 F.2.1 dX12_keyWord_39 (by decide) ?_
                exact ih25 _ _ _ z48 (by omega) (by omega) (by omega) h (lv_sub hl [1, 2, 3, 0] rfl)
          exact j_25 (((2147483647 - x2_14.toInt)).toNat + 1) _ _ _ x2_14 (by omega) (by omega) (by omega) h (lv_sub hl [1, 2, 3, 0] rfl)
    exact j_14 (((41 - z5.toInt)).toNat + 1) _ _ _ z4 z5 (by omega) (by omega) h (lv_sub hl [2, 1, 0] rfl)
  · refine tw_iconst F dX12_keyWord_8 ki_m1 (fun z49 hz49 => ?_)
    exact hret f0 _ _ _ _ z49 dX12_keyWord_9 rfl rfl h
theorem dX12_isName_0 : decode cX12_isName 0 = .ok (.aload_n 0, 1) := by decide +kernel
theorem dX12_isName_1 : decode cX12_isName 1 = .ok (.getfield 167, 3) := by decide +kernel
theorem dX12_isName_4 : decode cX12_isName 4 = .ok (.iconst 2, 1) := by decide +kernel
theorem dX12_isName_5 : decode cX12_isName 5 = .ok (.if_icmp .ne 29, 3) := by decide +kernel
theorem dX12_isName_34 : decode cX12_isName 34 = .ok (.iconst 0, 1) := by decide +kernel
theorem dX12_isName_35 : decode cX12_isName 35 = .ok (.ireturn, 1) := by decide +kernel
theorem dX12_isName_8 : decode cX12_isName 8 = .ok (.aload_n 0, 1) := by decide +kernel
theorem dX12_isName_9 : decode cX12_isName 9 = .ok (.getfield 154, 3) := by decide +kernel
theorem dX12_isName_12 : decode cX12_isName 12 = .ok (.aload_n 0, 1) := by decide +kernel
theorem dX12_isName_13 : decode cX12_isName 13 = .ok (.getfield 161, 3) := by decide +kernel
theorem dX12_isName_16 : decode cX12_isName 16 = .ok (.isub, 1) := by decide +kernel
theorem dX12_isName_17 : decode cX12_isName 17 = .ok (.bipush 8, 2) := by decide +kernel
theorem dX12_isName_19 : decode cX12_isName 19 = .ok (.if_icmp .gt 15, 3) := by decide +kernel
theorem dX12_isName_22 : decode cX12_isName 22 = .ok (.aload_n 0, 1) := by decide +kernel
theorem dX12_isName_23 : decode cX12_isName 23 = .ok (.invokevirtual 231, 3) := by decide +kernel
theorem mw_643 : Cond.methodLink RX12 231 yX12_keyWord ∈ wsL_law := inr_27 _ (List.mem_of_getElem? (i := 19) rfl)
theorem mw_646 : Cond.code yX12_keyWord cX12_keyWord 6 (some .int) ∈ wsL_law := inr_27 _ (List.mem_of_getElem? (i := 22) rfl)
theorem yk_X12_keyWord : xY yX12_keyWord RX12 cX12_keyWord 6 (some .int) 0 := ⟨⟨rfl, by decide +kernel, by decide +kernel, by decide +kernel⟩, mw_5, mw_646⟩
theorem mw_644 : Cond.instanceMethod yX12_keyWord ∈ wsL_law := inr_27 _ (List.mem_of_getElem? (i := 20) rfl)
theorem mw_645 : Cond.selects RX12 yX12_keyWord yX12_keyWord ∈ wsL_law := inr_27 _ (List.mem_of_getElem? (i := 21) rfl)
theorem dX12_isName_26 : decode cX12_isName 26 = .ok (.iconst (-1), 1) := by decide +kernel
theorem dX12_isName_27 : decode cX12_isName 27 = .ok (.if_icmp .ne 7, 3) := by decide +kernel
theorem dX12_isName_30 : decode cX12_isName 30 = .ok (.iconst 1, 1) := by decide +kernel
theorem dX12_isName_31 : decode cX12_isName 31 = .ok (.goto 4, 3) := by decide +kernel
def rm_X12_isName : Room := { frames := 5, cells := 0, slots := 0, locals := 110 }
set_option maxHeartbeats 4000000 in
set_option maxRecDepth 100000 in
theorem s_X12_isName (l : Launch) (D : va_G) (cy : Nat → ClassId) (L : List Nat) (R O : Nat → Nat) (f0 : Nat → va_E) (a0 : Nat) (m_a0 : a0 ∈ L) (r_a0 : R a0 = 12) : ∀ sz, Met l yX12_isName (Cond.code yX12_isName cX12_isName 1 (some .boolean) :: wsL_law) rm_X12_isName (va_Pc [.ref a0] (tPZ D cy L R (TT cy L R) f0 sz)) (va_Qi (fun (r : Int32) f1 => f0 = f1 ∧ 0 ≤ r.toInt ∧ r.toInt ≤ 1 ∧ (r.toInt = 0 ∨ (fi f0 a0 11 = 2 ∧ fi f0 a0 13 - fi f0 a0 12 ≤ 8))) (tB D (tA L sz) L R (TT cy L R)) (tA L sz)) 0 0 (tA L sz) := by
  refine tw_enteri (by decide +kernel) rfl (Nat.le_of_ble_eq_true rfl) ?_
  intro p e s m below meth c A ls args Q F hZ h hl hret
  have hl : lv_has ls 1 [(0, .ref a0)] := hl
  have t_a0_token := h.bfi m_a0 r_a0 (fun e q => (T_12 e).mp q) (k := 11) rfl
  have t_a0_from := h.bfi m_a0 r_a0 (fun e q => (T_12 e).mp q) (k := 12) rfl
  have t_a0_end := h.bfi m_a0 r_a0 (fun e q => (T_12 e).mp q) (k := 13) rfl
  refine lv_aload_n F.1 F.2.1 dX12_isName_0 rfl (lv_at hl 0 rfl) ?_
  refine g_12_167 F h m_a0 r_a0 dX12_isName_1 (fun v1 hv1 hv1a hv1b => ?_)
  refine tw_iconst F dX12_isName_4 ki_2 (fun z2 hz2 => ?_)
  refine tw_icmp_ne (tgt := 34) F dX12_isName_5 (by decide) (fun b3 => ?_) (fun b3 => ?_)
  · refine tw_iconst F dX12_isName_34 ki_0 (fun z4 hz4 => ?_)
    exact hret f0 _ _ _ _ z4 dX12_isName_35 (tw_nb (by omega)) ⟨rfl, by omega, by omega, by omega⟩ h
  · refine lv_aload_n F.1 F.2.1 dX12_isName_8 rfl (lv_at hl 0 rfl) ?_
    refine g_12_154 F h m_a0 r_a0 dX12_isName_9 (fun v5 hv5 hv5a hv5b => ?_)
    refine lv_aload_n F.1 F.2.1 dX12_isName_12 rfl (lv_at hl 0 rfl) ?_
    refine g_12_161 F h m_a0 r_a0 dX12_isName_13 (fun v6 hv6 hv6a hv6b => ?_)
    refine tu_isub F dX12_isName_16 (by omega) (fun z7 hz7 => ?_)
    refine tw_bipush F dX12_isName_17 kb_8 (fun z8 hz8 => ?_)
    refine tw_icmp_gt (tgt := 34) F dX12_isName_19 (by decide) (fun b9 => ?_) (fun b9 => ?_)
    · refine tw_iconst F dX12_isName_34 ki_0 (fun z10 hz10 => ?_)
      exact hret f0 _ _ _ _ z10 dX12_isName_35 (tw_nb (by omega)) ⟨rfl, by omega, by omega, by omega⟩ h
    · refine lv_aload_n F.1 F.2.1 dX12_isName_22 rfl (lv_at hl 0 rfl) ?_
      refine tw_Vi (As := []) F hZ h yk_X12_keyWord mw_643 mw_644 mw_645 (s_X12_keyWord l D cy L R O f0 a0 m_a0 r_a0) rfl rfl m_a0 r_a0 (fun e q => (T_12 e).mp q) rfl hl.1 rfl (Nat.le_of_ble_eq_true rfl) ⟨Nat.le_of_ble_eq_true rfl, Nat.le_of_ble_eq_true rfl⟩ ⟨Nat.le_of_ble_eq_true rfl, Nat.le_of_ble_eq_true rfl⟩ dX12_isName_23 (fun v12 f11 H locs hp11 h => ?_)
      obtain rfl := hp11
      refine tw_iconst F dX12_isName_26 ki_m1 (fun z13 hz13 => ?_)
      refine tw_icmp_ne (tgt := 34) F dX12_isName_27 (by decide) (fun b14 => ?_) (fun b14 => ?_)
      · refine tw_iconst F dX12_isName_34 ki_0 (fun z15 hz15 => ?_)
        exact hret f0 _ _ _ _ z15 dX12_isName_35 (tw_nb (by omega)) ⟨rfl, by omega, by omega, by omega⟩ h
      · refine tw_iconst F dX12_isName_30 ki_1 (fun z16 hz16 => ?_)
        refine lv_goto (tgt := 35) F.1 F.2.1 dX12_isName_31 (by decide) ?_
        exact hret f0 _ _ _ _ z16 dX12_isName_35 (tw_nb (by omega)) ⟨rfl, by omega, by omega, by omega⟩ h
theorem dX12_wantWord_0 : decode cX12_wantWord 0 = .ok (.aload_n 0, 1) := by decide +kernel
theorem dX12_wantWord_1 : decode cX12_wantWord 1 = .ok (.invokevirtual 231, 3) := by decide +kernel
theorem dX12_wantWord_4 : decode cX12_wantWord 4 = .ok (.iload_n 1, 1) := by decide +kernel
theorem dX12_wantWord_5 : decode cX12_wantWord 5 = .ok (.if_icmp .eq 9, 3) := by decide +kernel
theorem dX12_wantWord_14 : decode cX12_wantWord 14 = .ok (.aload_n 0, 1) := by decide +kernel
theorem dX12_wantWord_15 : decode cX12_wantWord 15 = .ok (.invokevirtual 184, 3) := by decide +kernel
theorem mw_468 : Cond.methodLink RX12 184 yX12_ahead0 ∈ wsL_law := inr_20 _ (List.mem_of_getElem? (i := 12) rfl)
theorem mw_471 : Cond.code yX12_ahead0 cX12_ahead0 2 none ∈ wsL_law := inr_20 _ (List.mem_of_getElem? (i := 15) rfl)
theorem yk_X12_ahead0 : xY yX12_ahead0 RX12 cX12_ahead0 2 none 0 := ⟨⟨rfl, by decide +kernel, by decide +kernel, by decide +kernel⟩, mw_5, mw_471⟩
theorem mw_469 : Cond.instanceMethod yX12_ahead0 ∈ wsL_law := inr_20 _ (List.mem_of_getElem? (i := 13) rfl)
theorem mw_470 : Cond.selects RX12 yX12_ahead0 yX12_ahead0 ∈ wsL_law := inr_20 _ (List.mem_of_getElem? (i := 14) rfl)
theorem dX12_wantWord_18 : decode cX12_wantWord 18 = .ok (.iconst 1, 1) := by decide +kernel
theorem dX12_wantWord_19 : decode cX12_wantWord 19 = .ok (.ireturn, 1) := by decide +kernel
theorem dX12_wantWord_8 : decode cX12_wantWord 8 = .ok (.aload_n 0, 1) := by decide +kernel
theorem dX12_wantWord_9 : decode cX12_wantWord 9 = .ok (.iconst 2, 1) := by decide +kernel
theorem dX12_wantWord_10 : decode cX12_wantWord 10 = .ok (.invokevirtual 187, 3) := by decide +kernel
theorem mw_487 : Cond.methodLink RX12 187 yX12_fails ∈ wsL_law := inr_21 _ (List.mem_of_getElem? (i := 7) rfl)
theorem mw_490 : Cond.code yX12_fails cX12_fails 2 (some .boolean) ∈ wsL_law := inr_21 _ (List.mem_of_getElem? (i := 10) rfl)
theorem yk_X12_fails : xY yX12_fails RX12 cX12_fails 2 (some .boolean) 1 := ⟨⟨rfl, by decide +kernel, by decide +kernel, by decide +kernel⟩, mw_5, mw_490⟩
theorem mw_488 : Cond.instanceMethod yX12_fails ∈ wsL_law := inr_21 _ (List.mem_of_getElem? (i := 8) rfl)
theorem mw_489 : Cond.selects RX12 yX12_fails yX12_fails ∈ wsL_law := inr_21 _ (List.mem_of_getElem? (i := 9) rfl)
theorem dX12_wantWord_13 : decode cX12_wantWord 13 = .ok (.ireturn, 1) := by decide +kernel
def rm_X12_wantWord : Room := { frames := 5, cells := 0, slots := 0, locals := 110 }
set_option maxHeartbeats 4000000 in
set_option maxRecDepth 100000 in
theorem s_X12_wantWord (l : Launch) (D : va_G) (cy : Nat → ClassId) (L : List Nat) (R O : Nat → Nat) (f0 : Nat → va_E) (a0 : Nat) (m_a0 : a0 ∈ L) (r_a0 : R a0 = 12) (x1 : Int32) (b1 : 2 ≤ x1.toInt ∧ x1.toInt ≤ 2) : ∀ sz, Met l yX12_wantWord (Cond.code yX12_wantWord cX12_wantWord 2 (some .boolean) :: wsL_law) rm_X12_wantWord (va_Pc [.ref a0, .int x1] (tPZ D cy L R (TT cy L R) f0 sz)) (va_Qi (fun (r : Int32) f1 => fr L R [(12, 11), (12, 12), (12, 13), (12, 14), (12, 16), (12, 17)] [12] f0 f1 ∧ 0 ≤ r.toInt ∧ r.toInt ≤ 1) (tB D (tA L sz) L R (TT cy L R)) (tA L sz)) 0 0 (tA L sz) := by
  refine tw_enteri (by decide +kernel) rfl (Nat.le_of_ble_eq_true rfl) ?_
  intro p e s m below meth c A ls args Q F hZ h hl hret
  have hl : lv_has ls 2 [(0, .ref a0), (1, .int x1)] := hl
  have hk : fr L R [(12, 11), (12, 12), (12, 13), (12, 14), (12, 16), (12, 17)] [12] f0 f0 := fr.rf
  refine lv_aload_n F.1 F.2.1 dX12_wantWord_0 rfl (lv_at hl 0 rfl) ?_
  refine tw_Vi (As := []) F hZ h yk_X12_keyWord mw_643 mw_644 mw_645 (s_X12_keyWord l D cy L R O f0 a0 m_a0 r_a0) rfl rfl m_a0 r_a0 (fun e q => (T_12 e).mp q) rfl hl.1 rfl (Nat.le_of_ble_eq_true rfl) ⟨Nat.le_of_ble_eq_true rfl, Nat.le_of_ble_eq_true rfl⟩ ⟨Nat.le_of_ble_eq_true rfl, Nat.le_of_ble_eq_true rfl⟩ dX12_wantWord_1 (fun v2 f1 H locs hp1 h => ?_)
  obtain rfl := hp1
  refine lv_iload_n F.1 F.2.1 dX12_wantWord_4 rfl (lv_at hl 1 rfl) ?_
  refine tw_icmp_eq (tgt := 14) F dX12_wantWord_5 (by decide) (fun b3 => ?_) (fun b3 => ?_)
  · refine lv_aload_n F.1 F.2.1 dX12_wantWord_14 rfl (lv_at hl 0 rfl) ?_
    refine tw_Vv (As := []) F hZ h yk_X12_ahead0 mw_468 mw_469 mw_470 (s_X12_ahead0 l D cy L R O f0 a0 m_a0 r_a0) rfl rfl m_a0 r_a0 (fun e q => (T_12 e).mp q) rfl hl.1 rfl (Nat.le_of_ble_eq_true rfl) ⟨Nat.le_of_ble_eq_true rfl, Nat.le_of_ble_eq_true rfl⟩ ⟨Nat.le_of_ble_eq_true rfl, Nat.le_of_ble_eq_true rfl⟩ dX12_wantWord_15 (fun f4 H locs hp4 h => ?_)
    obtain ⟨hf4, hv5p0⟩ := hp4
    have hk : fr L R [(12, 11), (12, 12), (12, 13), (12, 14), (12, 16), (12, 17)] [12] f0 f4 := hk.tr hf4 rfl rfl
    refine tw_iconst F dX12_wantWord_18 ki_1 (fun z6 hz6 => ?_)
    exact hret f4 _ _ _ _ z6 dX12_wantWord_19 (tw_nb (by omega)) ⟨hk, by omega, by omega⟩ h
  · refine lv_aload_n F.1 F.2.1 dX12_wantWord_8 rfl (lv_at hl 0 rfl) ?_
    refine tw_iconst F dX12_wantWord_9 ki_2 (fun z7 hz7 => ?_)
    refine tw_Vi (As := [.int z7]) F hZ h yk_X12_fails mw_487 mw_488 mw_489 (s_X12_fails l D cy L R O f0 a0 m_a0 r_a0 z7 ⟨by omega, by omega⟩) rfl rfl m_a0 r_a0 (fun e q => (T_12 e).mp q) rfl hl.1 rfl (Nat.le_of_ble_eq_true rfl) ⟨Nat.le_of_ble_eq_true rfl, Nat.le_of_ble_eq_true rfl⟩ ⟨Nat.le_of_ble_eq_true rfl, Nat.le_of_ble_eq_true rfl⟩ dX12_wantWord_10 (fun v9 f8 H locs hp8 h => ?_)
    obtain ⟨hf8, hv9a, hv9b⟩ := hp8
    have hk : fr L R [(12, 11), (12, 12), (12, 13), (12, 14), (12, 16), (12, 17)] [12] f0 f8 := hk.tr hf8 rfl rfl
    exact hret f8 _ _ _ _ v9 dX12_wantWord_13 (tw_nb (by omega)) ⟨hk, by omega, by omega⟩ h
def rm_X12_wordHereP : Room := { frames := 1, cells := 0, slots := 0, locals := 21 }
set_option maxHeartbeats 4000000 in
set_option maxRecDepth 100000 in
theorem s_X12_wordHereP (l : Launch) (D : va_G) (cy : Nat → ClassId) (L : List Nat) (R O : Nat → Nat) (f0 : Nat → va_E) (a0 : Nat) (m_a0 : a0 ∈ L) (r_a0 : R a0 = 12) (pre0 : (SM a0 f0 ∧ fi f0 a0 13 - fi f0 a0 12 ≤ 8)) : ∀ sz, Met l yX12_wordHere (Cond.code yX12_wordHere cX12_wordHere 4 (some .long) :: wsL_law) rm_X12_wordHereP (va_Pc [.ref a0] (tPZ D cy L R (TT cy L R) f0 sz)) (va_Ql (fun (r : Int64) f1 => f0 = f1 ∧ 0 ≤ r.toInt) (tB D (tA L sz) L R (TT cy L R)) (tA L sz)) 0 0 (tA L sz) := by
  refine tw_enterl (by decide +kernel) rfl (Nat.le_of_ble_eq_true rfl) ?_
  intro p e s m below meth c A ls args Q F hZ h hl hret
  have hl : lv_has ls 4 [(0, .ref a0)] := hl
  have t_a0_from := h.bfi m_a0 r_a0 (fun e q => (T_12 e).mp q) (k := 12) rfl
  have t_a0_end := h.bfi m_a0 r_a0 (fun e q => (T_12 e).mp q) (k := 13) rfl
  refine tu_lconst F dX12_wordHere_0 (by decide) (fun z1 (hz1 : z1.toInt = 0) => ?_)
  refine lv_lstore_n (lv' := [(1, .long z1), (0, .ref a0)]) F.1 F.2.1 dX12_wordHere_1 rfl hl (by decide) rfl (fun ls hl => ?_)
  refine lv_aload_n F.1 F.2.1 dX12_wordHere_2 rfl (lv_at hl 1 rfl) ?_
  refine g_12_161 F h m_a0 r_a0 dX12_wordHere_3 (fun v2 hv2 hv2a hv2b => ?_)
  refine lv_istore_n (lv' := [(3, .int v2), (1, .long z1), (0, .ref a0)]) F.1 F.2.1 dX12_wordHere_6 rfl hl (by decide) rfl (fun ls hl => ?_)
  have j_7 : ∀ (n7 : Nat) (H : Heap) (locs : List Loc) (ls : Array Slot) (x1_7 : Int64) (x3_7 : Int32), 0 ≤ x3_7.toInt → x3_7.toInt ≤ 600 → fi f0 a0 12 ≤ x3_7.toInt → (WV (x1_7.toInt) (x3_7.toInt - fi f0 a0 12)) → ((600 - x3_7.toInt)).toNat < n7 → tS D cy A s.heap L R (TT cy L R) f0 s H locs → lv_has ls 4 [(0, .ref a0), (1, .long x1_7), (3, .int x3_7)] → W p l e rm_X12_wordHereP s m args below meth c H locs 0 0 Q (F0 m 7 ls []) := by
    intro n7
    induction n7 with
    | zero =>
      intro H locs ls x1_7 x3_7 b3 b4 b5 ip7_0 b6 h hl
      exfalso
      omega
    | succ n7 ih7 =>
      intro H locs ls x1_7 x3_7 b3 b4 b5 ip7_0 b6 h hl
      refine lv_iload_n F.1 F.2.1 dX12_wordHere_7 rfl (lv_at hl 2 rfl) ?_
      refine lv_aload_n F.1 F.2.1 dX12_wordHere_8 rfl (lv_at hl 0 rfl) ?_
      refine g_12_154 F h m_a0 r_a0 dX12_wordHere_9 (fun v7 hv7 hv7a hv7b => ?_)
      refine tw_icmp_ge (tgt := 37) F dX12_wordHere_12 (by decide) (fun b8 => ?_) (fun b8 => ?_)
      · refine lv_lload_n F.1 F.2.1 dX12_wordHere_37 rfl (lv_at hl 1 rfl) ?_
        exact hret f0 _ _ _ _ x1_7 dX12_wordHere_38 ⟨rfl, ip7_0.1⟩ h
      · refine lv_lload_n F.1 F.2.1 dX12_wordHere_15 rfl (lv_at hl 1 rfl) ?_
        refine tw_iconst F dX12_wordHere_16 ki_5 (fun z9 hz9 => ?_)
        refine lv_lshl F.1 F.2.1 dX12_wordHere_17 rfl ?_
        refine lv_topl (fun z10 qz10 => ?_)
        refine lv_aload_n F.1 F.2.1 dX12_wordHere_18 rfl (lv_at hl 0 rfl) ?_
        refine lv_iload_n F.1 F.2.1 dX12_wordHere_19 rfl (lv_at hl 2 rfl) ?_
        refine tw_Vi (As := [.int x3_7]) F hZ h yk_X12_byteAt mw_477 mw_478 mw_479 (s_X12_byteAt l D cy L R O f0 a0 m_a0 r_a0 x3_7 ⟨by omega, by omega⟩) rfl rfl m_a0 r_a0 (fun e q => (T_12 e).mp q) rfl hl.1 rfl (Nat.le_of_ble_eq_true rfl) ⟨Nat.le_of_ble_eq_true rfl, Nat.le_of_ble_eq_true rfl⟩ ⟨Nat.le_of_ble_eq_true rfl, Nat.le_of_ble_eq_true rfl⟩ dX12_wordHere_20 (fun v12 f11 H locs hp11 h => ?_)
        obtain ⟨rfl, hv12a, hv12b, hv12p0, hv12p1, hv12p2, hv12p3⟩ := hp11
        have w20 := pre0.1 x3_7.toInt (by omega) (by omega)
        have u20 := hv12p3
        refine tw_bipush F dX12_wordHere_23 kb_97 (fun z13 hz13 => ?_)
        refine tu_isub F dX12_wordHere_25 (by omega) (fun z14 hz14 => ?_)
        refine tw_i2l F dX12_wordHere_26 (fun z15 hz15 => ?_)
        refine tu_lconst F dX12_wordHere_27 (by decide) (fun z16 (hz16 : z16.toInt = 1) => ?_)
        refine tu_ladd F dX12_wordHere_28 (by omega) (fun z17 hz17 => ?_)
        refine lv_lor F.1 F.2.1 dX12_wordHere_29 ?_
        refine lv_topl (fun z18 qz18 => ?_)
        refine lv_lstore_n (lv' := [(1, .long z18), (0, .ref a0), (3, .int x3_7)]) F.1 F.2.1 dX12_wordHere_30 rfl hl (by decide) rfl (fun ls hl => ?_)
        refine tu_iinc F dX12_wordHere_31 hl (k := 2) rfl (by decide) ki_1 (by omega) (fun z19 ls hz19 hl => ?_)
        have hl : lv_has ls 4 [(3, .int z19), (1, .long z18), (0, .ref a0)] := hl
        refine lv_goto (tgt := 7) F.1 F.2.1 dX12_wordHere_34 (by decide) ?_
        exact ih7 _ _ _ z18 z19 (by omega) (by omega) (by omega) (WV_s ip7_0 (by omega) (by omega) hz9 qz10 qz18 (by omega) (by omega)) (by omega) h (lv_sub hl [2, 1, 0] rfl)
  exact j_7 (((600 - v2.toInt)).toNat + 1) _ _ _ z1 v2 (by omega) (by omega) (by omega) (WV_0 (by omega) (by omega)) (by omega) h (lv_sub hl [2, 1, 0] rfl)
theorem dX12_readsLine_0 : decode cX12_readsLine 0 = .ok (.iconst 0, 1) := by decide +kernel
theorem dX12_readsLine_1 : decode cX12_readsLine 1 = .ok (.istore_n 1, 1) := by decide +kernel
theorem dX12_readsLine_2 : decode cX12_readsLine 2 = .ok (.aload_n 0, 1) := by decide +kernel
theorem dX12_readsLine_3 : decode cX12_readsLine 3 = .ok (.invokevirtual 184, 3) := by decide +kernel
theorem dX12_readsLine_6 : decode cX12_readsLine 6 = .ok (.aload_n 0, 1) := by decide +kernel
theorem dX12_readsLine_7 : decode cX12_readsLine 7 = .ok (.getfield 167, 3) := by decide +kernel
theorem dX12_readsLine_10 : decode cX12_readsLine 10 = .ok (.ifCond .eq 90, 3) := by decide +kernel
theorem dX12_readsLine_100 : decode cX12_readsLine 100 = .ok (.iload_n 1, 1) := by decide +kernel
theorem dX12_readsLine_101 : decode cX12_readsLine 101 = .ok (.ireturn, 1) := by decide +kernel
theorem dX12_readsLine_13 : decode cX12_readsLine 13 = .ok (.aload_n 0, 1) := by decide +kernel
theorem dX12_readsLine_14 : decode cX12_readsLine 14 = .ok (.getfield 167, 3) := by decide +kernel
theorem dX12_readsLine_17 : decode cX12_readsLine 17 = .ok (.iconst 2, 1) := by decide +kernel
theorem dX12_readsLine_18 : decode cX12_readsLine 18 = .ok (.if_icmp .eq 16, 3) := by decide +kernel
theorem dX12_readsLine_34 : decode cX12_readsLine 34 = .ok (.aload_n 0, 1) := by decide +kernel
theorem dX12_readsLine_35 : decode cX12_readsLine 35 = .ok (.getfield 154, 3) := by decide +kernel
theorem dX12_readsLine_38 : decode cX12_readsLine 38 = .ok (.aload_n 0, 1) := by decide +kernel
theorem dX12_readsLine_39 : decode cX12_readsLine 39 = .ok (.getfield 161, 3) := by decide +kernel
theorem dX12_readsLine_42 : decode cX12_readsLine 42 = .ok (.isub, 1) := by decide +kernel
theorem dX12_readsLine_43 : decode cX12_readsLine 43 = .ok (.bipush 8, 2) := by decide +kernel
theorem dX12_readsLine_54 : decode cX12_readsLine 54 = .ok (.aload_n 0, 1) := by decide +kernel
theorem dX12_readsLine_55 : decode cX12_readsLine 55 = .ok (.aload_n 0, 1) := by decide +kernel
theorem dX12_readsLine_56 : decode cX12_readsLine 56 = .ok (.getfield 154, 3) := by decide +kernel
theorem dX12_readsLine_59 : decode cX12_readsLine 59 = .ok (.aload_n 0, 1) := by decide +kernel
theorem dX12_readsLine_60 : decode cX12_readsLine 60 = .ok (.getfield 161, 3) := by decide +kernel
theorem dX12_readsLine_63 : decode cX12_readsLine 63 = .ok (.isub, 1) := by decide +kernel
theorem dX12_readsLine_64 : decode cX12_readsLine 64 = .ok (.bipush 8, 2) := by decide +kernel
theorem dX12_readsLine_66 : decode cX12_readsLine 66 = .ok (.if_icmp .le 7, 3) := by decide +kernel
theorem dX12_readsLine_73 : decode cX12_readsLine 73 = .ok (.iconst 3, 1) := by decide +kernel
theorem dX12_readsLine_74 : decode cX12_readsLine 74 = .ok (.invokevirtual 187, 3) := by decide +kernel
theorem dX12_readsLine_77 : decode cX12_readsLine 77 = .ok (.pop, 1) := by decide +kernel
theorem dX12_readsLine_78 : decode cX12_readsLine 78 = .ok (.iload_n 1, 1) := by decide +kernel
theorem dX12_readsLine_79 : decode cX12_readsLine 79 = .ok (.ireturn, 1) := by decide +kernel
theorem dX12_readsLine_69 : decode cX12_readsLine 69 = .ok (.iconst 2, 1) := by decide +kernel
theorem dX12_readsLine_70 : decode cX12_readsLine 70 = .ok (.goto 4, 3) := by decide +kernel
theorem dX12_readsLine_45 : decode cX12_readsLine 45 = .ok (.if_icmp .gt 9, 3) := by decide +kernel
theorem dX12_readsLine_48 : decode cX12_readsLine 48 = .ok (.iload_n 1, 1) := by decide +kernel
theorem dX12_readsLine_49 : decode cX12_readsLine 49 = .ok (.bipush 12, 2) := by decide +kernel
theorem dX12_readsLine_51 : decode cX12_readsLine 51 = .ok (.if_icmp .ne 29, 3) := by decide +kernel
theorem dX12_readsLine_80 : decode cX12_readsLine 80 = .ok (.aload_n 0, 1) := by decide +kernel
theorem dX12_readsLine_81 : decode cX12_readsLine 81 = .ok (.getfield 41, 3) := by decide +kernel
theorem mw_211 : Cond.fieldLink RX12 41 "AskBackModel" "reads" "[J" ∈ wsL_law := inr_9 _ (List.mem_of_getElem? (i := 19) rfl)
section
variable {p : Program} {l : Launch} {e : Env} {R0 : Room} {s : State} {m : MethodId} {args : Array Value} {below : List Frame} {meth : Method} {c : Code} {H H0 : Heap} {locs : List Loc} {cells slots : Nat} {Q : State → Prop} {cc : ByteArray} {nL : Nat} {D : va_G} {cy : Nat → ClassId} {A : Nat → Prop} {L : List Nat} {R : Nat → Nat} {f : Nat → va_E} {pc : Nat} {ls : Array Slot} {rest : List Value} {a : Nat}
theorem g_12_41 (F : CallFix p m c cc nL s args wsL_law RX12) (h : tS D cy A H0 L R (TT cy L R) f s H locs) (ha : a ∈ L) (hr : R a = 12) (hdg : decode cc pc = .ok (.getfield 41, 3)) (kk : ∀ b : Nat, b ∈ L → R b = 67 → fld f a 18 = .ref b → W p l e R0 s m args below meth c H locs cells slots Q (F0 m (pc + 3) ls (.ref b :: rest))) : W p l e R0 s m args below meth c H locs cells slots Q (F0 m pc ls (.ref a :: rest)) := tu_getr F h ha hr (fun e q => (T_12 e).mp q) rfl inlX12 rfl (Nat.le_of_ble_eq_true rfl) mw_211 hdg kk
end
theorem dX12_readsLine_84 : decode cX12_readsLine 84 = .ok (.iload_n 1, 1) := by decide +kernel
theorem dX12_readsLine_85 : decode cX12_readsLine 85 = .ok (.aload_n 0, 1) := by decide +kernel
theorem dX12_readsLine_86 : decode cX12_readsLine 86 = .ok (.invokevirtual 190, 3) := by decide +kernel
theorem mw_491 : Cond.methodLink RX12 190 yX12_wordHere ∈ wsL_law := inr_21 _ (List.mem_of_getElem? (i := 11) rfl)
theorem mw_494 : Cond.code yX12_wordHere cX12_wordHere 4 (some .long) ∈ wsL_law := inr_21 _ (List.mem_of_getElem? (i := 14) rfl)
theorem yk_X12_wordHere : xY yX12_wordHere RX12 cX12_wordHere 4 (some .long) 0 := ⟨⟨rfl, by decide +kernel, by decide +kernel, by decide +kernel⟩, mw_5, mw_494⟩
theorem mw_492 : Cond.instanceMethod yX12_wordHere ∈ wsL_law := inr_21 _ (List.mem_of_getElem? (i := 12) rfl)
theorem mw_493 : Cond.selects RX12 yX12_wordHere yX12_wordHere ∈ wsL_law := inr_21 _ (List.mem_of_getElem? (i := 13) rfl)
theorem dX12_readsLine_89 : decode cX12_readsLine 89 = .ok (.lastore, 1) := by decide +kernel
section
variable {p : Program} {l : Launch} {e : Env} {R0 : Room} {s : State} {m : MethodId} {args : Array Value} {below : List Frame} {meth : Method} {c : Code} {H H0 : Heap} {locs : List Loc} {cells slots : Nat} {Q : State → Prop} {cc : ByteArray} {nL : Nat} {D : va_G} {cy : Nat → ClassId} {A : Nat → Prop} {L : List Nat} {R : Nat → Nat} {f : Nat → va_E} {pc : Nat} {ls : Array Slot} {rest : List Value} {a : Nat}
theorem st_67 {own : String} (F : CallFix p m c cc nL s args wsL_law own) (h : tS D cy A H0 L R (TT cy L R) f s H locs) {i : Int32} {x : Int64} (ha : a ∈ L) (hr : R a = 67) (hb : 0 ≤ i.toInt ∧ i.toInt < 12) (hdg : decode cc pc = .ok (.lastore, 1)) (kk : ∀ (f1 : Nat → va_E) (H1 : Heap) (locs1 : List Loc), fr L R [] [67] f f1 → tS D cy A H0 L R (TT cy L R) f1 s H1 locs1 → W p l e R0 s m args below meth c H1 locs1 cells slots Q (F0 m (pc + 1) ls (rest))) : W p l e R0 s m args below meth c H locs cells slots Q (F0 m pc ls (.long x :: .int i :: .ref a :: rest)) := tu_last F h ha hr T_67 hb.1 hb.2 trivial hdg (fun f1 H1 locs1 h1 h2 h3 h4 => kk f1 H1 locs1 h3 h4)
end
theorem dX12_readsLine_90 : decode cX12_readsLine 90 = .ok (.iinc 1 1, 3) := by decide +kernel
theorem dX12_readsLine_93 : decode cX12_readsLine 93 = .ok (.aload_n 0, 1) := by decide +kernel
theorem dX12_readsLine_94 : decode cX12_readsLine 94 = .ok (.invokevirtual 184, 3) := by decide +kernel
theorem dX12_readsLine_97 : decode cX12_readsLine 97 = .ok (.goto (-91), 3) := by decide +kernel
theorem dX12_readsLine_21 : decode cX12_readsLine 21 = .ok (.aload_n 0, 1) := by decide +kernel
theorem dX12_readsLine_22 : decode cX12_readsLine 22 = .ok (.iconst 1, 1) := by decide +kernel
theorem dX12_readsLine_23 : decode cX12_readsLine 23 = .ok (.putfield 167, 3) := by decide +kernel
theorem dX12_readsLine_26 : decode cX12_readsLine 26 = .ok (.aload_n 0, 1) := by decide +kernel
theorem dX12_readsLine_27 : decode cX12_readsLine 27 = .ok (.iconst 1, 1) := by decide +kernel
theorem dX12_readsLine_28 : decode cX12_readsLine 28 = .ok (.invokevirtual 187, 3) := by decide +kernel
theorem dX12_readsLine_31 : decode cX12_readsLine 31 = .ok (.pop, 1) := by decide +kernel
theorem dX12_readsLine_32 : decode cX12_readsLine 32 = .ok (.iload_n 1, 1) := by decide +kernel
theorem dX12_readsLine_33 : decode cX12_readsLine 33 = .ok (.ireturn, 1) := by decide +kernel
def rm_X12_readsLine : Room := { frames := 2, cells := 0, slots := 0, locals := 61 }
set_option maxHeartbeats 4000000 in
set_option maxRecDepth 100000 in
theorem s_X12_readsLine (l : Launch) (D : va_G) (cy : Nat → ClassId) (L : List Nat) (R O : Nat → Nat) (f0 : Nat → va_E) (a0 : Nat) (m_a0 : a0 ∈ L) (r_a0 : R a0 = 12) : ∀ sz, Met l yX12_readsLine (Cond.code yX12_readsLine cX12_readsLine 2 (some .int) :: wsL_law) rm_X12_readsLine (va_Pc [.ref a0] (tPZ D cy L R (TT cy L R) f0 sz)) (va_Qi (fun (r : Int32) f1 => fr L R [(12, 11), (12, 12), (12, 13), (12, 14), (12, 16), (12, 17)] [12, 67] f0 f1 ∧ 0 ≤ r.toInt ∧ r.toInt ≤ 12) (tB D (tA L sz) L R (TT cy L R)) (tA L sz)) 0 0 (tA L sz) := by
  refine tw_enteri (by decide +kernel) rfl (Nat.le_of_ble_eq_true rfl) ?_
  intro p e s m below meth c A ls args Q F hZ h hl hret
  have hl : lv_has ls 2 [(0, .ref a0)] := hl
  have hk : fr L R [(12, 11), (12, 12), (12, 13), (12, 14), (12, 16), (12, 17)] [12, 67] f0 f0 := fr.rf
  refine tw_iconst F dX12_readsLine_0 ki_0 (fun z1 hz1 => ?_)
  refine lv_istore_n (lv' := [(1, .int z1), (0, .ref a0)]) F.1 F.2.1 dX12_readsLine_1 rfl hl (by decide) rfl (fun ls hl => ?_)
  refine lv_aload_n F.1 F.2.1 dX12_readsLine_2 rfl (lv_at hl 1 rfl) ?_
  refine tw_Vv (As := []) F hZ h yk_X12_ahead0 mw_468 mw_469 mw_470 (s_X12_ahead0 l D cy L R O f0 a0 m_a0 r_a0) rfl rfl m_a0 r_a0 (fun e q => (T_12 e).mp q) rfl hl.1 rfl (Nat.le_of_ble_eq_true rfl) ⟨Nat.le_of_ble_eq_true rfl, Nat.le_of_ble_eq_true rfl⟩ ⟨Nat.le_of_ble_eq_true rfl, Nat.le_of_ble_eq_true rfl⟩ dX12_readsLine_3 (fun f2 H locs hp2 h => ?_)
  obtain ⟨hf2, hv3p0⟩ := hp2
  have hk : fr L R [(12, 11), (12, 12), (12, 13), (12, 14), (12, 16), (12, 17)] [12, 67] f0 f2 := hk.tr hf2 rfl rfl
  have j_6 : ∀ (n6 : Nat) (f4 : Nat → va_E) (H : Heap) (locs : List Loc) (ls : Array Slot) (x1_6 : Int32), 0 ≤ x1_6.toInt → x1_6.toInt ≤ 12 → ((12 - x1_6.toInt)).toNat < n6 → tS D cy A s.heap L R (TT cy L R) f4 s H locs → fr L R [(12, 11), (12, 12), (12, 13), (12, 14), (12, 16), (12, 17)] [12, 67] f0 f4 → lv_has ls 2 [(0, .ref a0), (1, .int x1_6)] → W p l e rm_X12_readsLine s m args below meth c H locs 0 0 Q (F0 m 6 ls []) := by
    intro n6
    induction n6 with
    | zero =>
      intro f4 H locs ls x1_6 b5 b6 b7 h hk hl
      exfalso
      omega
    | succ n6 ih6 =>
      intro f4 H locs ls x1_6 b5 b6 b7 h hk hl
      refine lv_aload_n F.1 F.2.1 dX12_readsLine_6 rfl (lv_at hl 0 rfl) ?_
      refine g_12_167 F h m_a0 r_a0 dX12_readsLine_7 (fun v8 hv8 hv8a hv8b => ?_)
      refine tw_if_eq (tgt := 100) F dX12_readsLine_10 (by decide) (fun b9 => ?_) (fun b9 => ?_)
      · refine lv_iload_n F.1 F.2.1 dX12_readsLine_100 rfl (lv_at hl 1 rfl) ?_
        exact hret f4 _ _ _ _ x1_6 dX12_readsLine_101 rfl ⟨hk, by omega, by omega⟩ h
      · refine lv_aload_n F.1 F.2.1 dX12_readsLine_13 rfl (lv_at hl 0 rfl) ?_
        refine g_12_167 F h m_a0 r_a0 dX12_readsLine_14 (fun v10 hv10 hv10a hv10b => ?_)
        refine tw_iconst F dX12_readsLine_17 ki_2 (fun z11 hz11 => ?_)
        refine tw_icmp_eq (tgt := 34) F dX12_readsLine_18 (by decide) (fun b12 => ?_) (fun b12 => ?_)
        · refine lv_aload_n F.1 F.2.1 dX12_readsLine_34 rfl (lv_at hl 0 rfl) ?_
          refine g_12_154 F h m_a0 r_a0 dX12_readsLine_35 (fun v13 hv13 hv13a hv13b => ?_)
          refine lv_aload_n F.1 F.2.1 dX12_readsLine_38 rfl (lv_at hl 0 rfl) ?_
          refine g_12_161 F h m_a0 r_a0 dX12_readsLine_39 (fun v14 hv14 hv14a hv14b => ?_)
          refine tu_isub F dX12_readsLine_42 (by omega) (fun z15 hz15 => ?_)
          refine tw_bipush F dX12_readsLine_43 kb_8 (fun z16 hz16 => ?_)
          have j_54 : ∀ (ls : Array Slot), lv_has ls 2 [(0, .ref a0), (1, .int x1_6)] → W p l e rm_X12_readsLine s m args below meth c H locs 0 0 Q (F0 m 54 ls []) := by
            intro ls hl
            refine lv_aload_n F.1 F.2.1 dX12_readsLine_54 rfl (lv_at hl 0 rfl) ?_
            refine lv_aload_n F.1 F.2.1 dX12_readsLine_55 rfl (lv_at hl 0 rfl) ?_
            refine g_12_154 F h m_a0 r_a0 dX12_readsLine_56 (fun v17 hv17 hv17a hv17b => ?_)
            refine lv_aload_n F.1 F.2.1 dX12_readsLine_59 rfl (lv_at hl 0 rfl) ?_
            refine g_12_161 F h m_a0 r_a0 dX12_readsLine_60 (fun v18 hv18 hv18a hv18b => ?_)
            refine tu_isub F dX12_readsLine_63 (by omega) (fun z19 hz19 => ?_)
            refine tw_bipush F dX12_readsLine_64 kb_8 (fun z20 hz20 => ?_)
            refine tw_icmp_le (tgt := 73) F dX12_readsLine_66 (by decide) (fun b21 => ?_) (fun b21 => ?_)
            · refine tw_iconst F dX12_readsLine_73 ki_3 (fun z22 hz22 => ?_)
              refine tw_Vi (As := [.int z22]) F hZ h yk_X12_fails mw_487 mw_488 mw_489 (s_X12_fails l D cy L R O f4 a0 m_a0 r_a0 z22 ⟨by omega, by omega⟩) rfl rfl m_a0 r_a0 (fun e q => (T_12 e).mp q) rfl hl.1 rfl (Nat.le_of_ble_eq_true rfl) ⟨Nat.le_of_ble_eq_true rfl, Nat.le_of_ble_eq_true rfl⟩ ⟨Nat.le_of_ble_eq_true rfl, Nat.le_of_ble_eq_true rfl⟩ dX12_readsLine_74 (fun v24 f23 H locs hp23 h => ?_)
              obtain ⟨hf23, hv24a, hv24b⟩ := hp23
              have hk : fr L R [(12, 11), (12, 12), (12, 13), (12, 14), (12, 16), (12, 17)] [12, 67] f0 f23 := hk.tr hf23 rfl rfl
              have e25 : fi f23 a0 11 = fi f4 a0 11 := hf23.efi m_a0 r_a0 rfl
              have e26 : fi f23 a0 13 = fi f4 a0 13 := hf23.efi m_a0 r_a0 rfl
              have e27 : fi f23 a0 12 = fi f4 a0 12 := hf23.efi m_a0 r_a0 rfl
              refine lv_pop F.1 F.2.1 dX12_readsLine_77 rfl ?_
              refine lv_iload_n F.1 F.2.1 dX12_readsLine_78 rfl (lv_at hl 1 rfl) ?_
              exact hret f23 _ _ _ _ x1_6 dX12_readsLine_79 rfl ⟨hk, by omega, by omega⟩ h
            · refine tw_iconst F dX12_readsLine_69 ki_2 (fun z28 hz28 => ?_)
              refine lv_goto (tgt := 74) F.1 F.2.1 dX12_readsLine_70 (by decide) ?_
              refine tw_Vi (As := [.int z28]) F hZ h yk_X12_fails mw_487 mw_488 mw_489 (s_X12_fails l D cy L R O f4 a0 m_a0 r_a0 z28 ⟨by omega, by omega⟩) rfl rfl m_a0 r_a0 (fun e q => (T_12 e).mp q) rfl hl.1 rfl (Nat.le_of_ble_eq_true rfl) ⟨Nat.le_of_ble_eq_true rfl, Nat.le_of_ble_eq_true rfl⟩ ⟨Nat.le_of_ble_eq_true rfl, Nat.le_of_ble_eq_true rfl⟩ dX12_readsLine_74 (fun v30 f29 H locs hp29 h => ?_)
              obtain ⟨hf29, hv30a, hv30b⟩ := hp29
              have hk : fr L R [(12, 11), (12, 12), (12, 13), (12, 14), (12, 16), (12, 17)] [12, 67] f0 f29 := hk.tr hf29 rfl rfl
              have e31 : fi f29 a0 11 = fi f4 a0 11 := hf29.efi m_a0 r_a0 rfl
              have e32 : fi f29 a0 13 = fi f4 a0 13 := hf29.efi m_a0 r_a0 rfl
              have e33 : fi f29 a0 12 = fi f4 a0 12 := hf29.efi m_a0 r_a0 rfl
              refine lv_pop F.1 F.2.1 dX12_readsLine_77 rfl ?_
              refine lv_iload_n F.1 F.2.1 dX12_readsLine_78 rfl (lv_at hl 1 rfl) ?_
              exact hret f29 _ _ _ _ x1_6 dX12_readsLine_79 rfl ⟨hk, by omega, by omega⟩ h
          refine tw_icmp_gt (tgt := 54) F dX12_readsLine_45 (by decide) (fun b34 => ?_) (fun b34 => ?_)
          · exact j_54 _ (lv_sub hl [0, 1] rfl)
          · refine lv_iload_n F.1 F.2.1 dX12_readsLine_48 rfl (lv_at hl 1 rfl) ?_
            refine tw_bipush F dX12_readsLine_49 kb_12 (fun z35 hz35 => ?_)
            refine tw_icmp_ne (tgt := 80) F dX12_readsLine_51 (by decide) (fun b36 => ?_) (fun b36 => ?_)
            · refine lv_aload_n F.1 F.2.1 dX12_readsLine_80 rfl (lv_at hl 0 rfl) ?_
              refine g_12_41 F h m_a0 r_a0 dX12_readsLine_81 (fun o37 m_o37 r_o37 ho37 => ?_)
              refine lv_iload_n F.1 F.2.1 dX12_readsLine_84 rfl (lv_at hl 1 rfl) ?_
              refine lv_aload_n F.1 F.2.1 dX12_readsLine_85 rfl (lv_at hl 0 rfl) ?_
              refine tw_Vl (As := []) F hZ h yk_X12_wordHere mw_491 mw_492 mw_493 (s_X12_wordHere l D cy L R O f4 a0 m_a0 r_a0) rfl rfl m_a0 r_a0 (fun e q => (T_12 e).mp q) rfl hl.1 rfl (Nat.le_of_ble_eq_true rfl) ⟨Nat.le_of_ble_eq_true rfl, Nat.le_of_ble_eq_true rfl⟩ ⟨Nat.le_of_ble_eq_true rfl, Nat.le_of_ble_eq_true rfl⟩ dX12_readsLine_86 (fun v39 f38 H locs hp38 h => ?_)
              obtain rfl := hp38
              refine st_67 F h m_o37 r_o37 (by omega) dX12_readsLine_89 (fun f40 H locs hf40 h => ?_)
              have hk : fr L R [(12, 11), (12, 12), (12, 13), (12, 14), (12, 16), (12, 17)] [12, 67] f0 f40 := hk.tr hf40 rfl rfl
              have e41 : fi f40 a0 11 = fi f4 a0 11 := hf40.efi m_a0 r_a0 rfl
              have e42 : fi f40 a0 13 = fi f4 a0 13 := hf40.efi m_a0 r_a0 rfl
              have e43 : fi f40 a0 12 = fi f4 a0 12 := hf40.efi m_a0 r_a0 rfl
              refine tu_iinc F dX12_readsLine_90 hl (k := 1) rfl (by decide) ki_1 (by omega) (fun z44 ls hz44 hl => ?_)
              have hl : lv_has ls 2 [(1, .int z44), (0, .ref a0)] := hl
              refine lv_aload_n F.1 F.2.1 dX12_readsLine_93 rfl (lv_at hl 1 rfl) ?_
              refine tw_Vv (As := []) F hZ h yk_X12_ahead0 mw_468 mw_469 mw_470 (s_X12_ahead0 l D cy L R O f40 a0 m_a0 r_a0) rfl rfl m_a0 r_a0 (fun e q => (T_12 e).mp q) rfl hl.1 rfl (Nat.le_of_ble_eq_true rfl) ⟨Nat.le_of_ble_eq_true rfl, Nat.le_of_ble_eq_true rfl⟩ ⟨Nat.le_of_ble_eq_true rfl, Nat.le_of_ble_eq_true rfl⟩ dX12_readsLine_94 (fun f45 H locs hp45 h => ?_)
              obtain ⟨hf45, hv46p0⟩ := hp45
              have hk : fr L R [(12, 11), (12, 12), (12, 13), (12, 14), (12, 16), (12, 17)] [12, 67] f0 f45 := hk.tr hf45 rfl rfl
              refine lv_goto (tgt := 6) F.1 F.2.1 dX12_readsLine_97 (by decide) ?_
              exact ih6 f45 _ _ _ z44 (by omega) (by omega) (by omega) h hk (lv_sub hl [1, 0] rfl)
            · exact j_54 _ (lv_sub hl [0, 1] rfl)
        · refine lv_aload_n F.1 F.2.1 dX12_readsLine_21 rfl (lv_at hl 0 rfl) ?_
          refine tw_iconst F dX12_readsLine_22 ki_1 (fun z47 hz47 => ?_)
          refine p_12_167 F h m_a0 r_a0 (by omega) dX12_readsLine_23 (fun f48 H locs e48p hf48 h => ?_)
          have hk : fr L R [(12, 11), (12, 12), (12, 13), (12, 14), (12, 16), (12, 17)] [12, 67] f0 f48 := hk.tr hf48 rfl rfl
          refine lv_aload_n F.1 F.2.1 dX12_readsLine_26 rfl (lv_at hl 0 rfl) ?_
          refine tw_iconst F dX12_readsLine_27 ki_1 (fun z49 hz49 => ?_)
          refine tw_Vi (As := [.int z49]) F hZ h yk_X12_fails mw_487 mw_488 mw_489 (s_X12_fails l D cy L R O f48 a0 m_a0 r_a0 z49 ⟨by omega, by omega⟩) rfl rfl m_a0 r_a0 (fun e q => (T_12 e).mp q) rfl hl.1 rfl (Nat.le_of_ble_eq_true rfl) ⟨Nat.le_of_ble_eq_true rfl, Nat.le_of_ble_eq_true rfl⟩ ⟨Nat.le_of_ble_eq_true rfl, Nat.le_of_ble_eq_true rfl⟩ dX12_readsLine_28 (fun v51 f50 H locs hp50 h => ?_)
          obtain ⟨hf50, hv51a, hv51b⟩ := hp50
          have hk : fr L R [(12, 11), (12, 12), (12, 13), (12, 14), (12, 16), (12, 17)] [12, 67] f0 f50 := hk.tr hf50 rfl rfl
          have e52 : fi f50 a0 11 = fi f48 a0 11 := hf50.efi m_a0 r_a0 rfl
          refine lv_pop F.1 F.2.1 dX12_readsLine_31 rfl ?_
          refine lv_iload_n F.1 F.2.1 dX12_readsLine_32 rfl (lv_at hl 1 rfl) ?_
          exact hret f50 _ _ _ _ x1_6 dX12_readsLine_33 rfl ⟨hk, by omega, by omega⟩ h
  exact j_6 (((12 - z1.toInt)).toNat + 1) f2 _ _ _ z1 (by omega) (by omega) (by omega) h hk (lv_sub hl [1, 0] rfl)
theorem dX12_line_0 : decode cX12_line 0 = .ok (.iload_n 1, 1) := by decide +kernel
theorem dX12_line_1 : decode cX12_line 1 = .ok (.ifCond .lt 17, 3) := by decide +kernel
theorem dX12_line_18 : decode cX12_line 18 = .ok (.aload_n 0, 1) := by decide +kernel
theorem dX12_line_19 : decode cX12_line 19 = .ok (.iconst 1, 1) := by decide +kernel
theorem dX12_line_20 : decode cX12_line 20 = .ok (.invokevirtual 194, 3) := by decide +kernel
theorem dX12_line_23 : decode cX12_line 23 = .ok (.ireturn, 1) := by decide +kernel
theorem dX12_line_4 : decode cX12_line 4 = .ok (.iload_n 1, 1) := by decide +kernel
theorem dX12_line_5 : decode cX12_line 5 = .ok (.aload_n 0, 1) := by decide +kernel
theorem dX12_line_6 : decode cX12_line 6 = .ok (.getfield 144, 3) := by decide +kernel
theorem dX12_line_9 : decode cX12_line 9 = .ok (.if_icmp .gt 9, 3) := by decide +kernel
theorem dX12_line_12 : decode cX12_line 12 = .ok (.iload_n 1, 1) := by decide +kernel
theorem dX12_line_13 : decode cX12_line 13 = .ok (.bipush 120, 2) := by decide +kernel
theorem dX12_line_15 : decode cX12_line 15 = .ok (.if_icmp .le 9, 3) := by decide +kernel
theorem dX12_line_24 : decode cX12_line 24 = .ok (.aload_n 0, 1) := by decide +kernel
theorem dX12_line_25 : decode cX12_line 25 = .ok (.iload_n 1, 1) := by decide +kernel
theorem dX12_line_26 : decode cX12_line 26 = .ok (.invokevirtual 197, 3) := by decide +kernel
theorem mw_456 : Cond.methodLink RX12 197 yX12_begins ∈ wsL_law := inr_20 _ (List.mem_of_getElem? (i := 0) rfl)
theorem mw_459 : Cond.code yX12_begins cX12_begins 3 none ∈ wsL_law := inr_20 _ (List.mem_of_getElem? (i := 3) rfl)
theorem yk_X12_begins : xY yX12_begins RX12 cX12_begins 3 none 1 := ⟨⟨rfl, by decide +kernel, by decide +kernel, by decide +kernel⟩, mw_5, mw_459⟩
theorem mw_457 : Cond.instanceMethod yX12_begins ∈ wsL_law := inr_20 _ (List.mem_of_getElem? (i := 1) rfl)
theorem mw_458 : Cond.selects RX12 yX12_begins yX12_begins ∈ wsL_law := inr_20 _ (List.mem_of_getElem? (i := 2) rfl)
theorem dX12_line_29 : decode cX12_line 29 = .ok (.aload_n 0, 1) := by decide +kernel
theorem dX12_line_30 : decode cX12_line 30 = .ok (.invokevirtual 200, 3) := by decide +kernel
theorem mw_462 : Cond.methodLink RX12 200 yX12_readsLine ∈ wsL_law := inr_20 _ (List.mem_of_getElem? (i := 6) rfl)
theorem mw_465 : Cond.code yX12_readsLine cX12_readsLine 2 (some .int) ∈ wsL_law := inr_20 _ (List.mem_of_getElem? (i := 9) rfl)
theorem yk_X12_readsLine : xY yX12_readsLine RX12 cX12_readsLine 2 (some .int) 0 := ⟨⟨rfl, by decide +kernel, by decide +kernel, by decide +kernel⟩, mw_5, mw_465⟩
theorem mw_463 : Cond.instanceMethod yX12_readsLine ∈ wsL_law := inr_20 _ (List.mem_of_getElem? (i := 7) rfl)
theorem mw_464 : Cond.selects RX12 yX12_readsLine yX12_readsLine ∈ wsL_law := inr_20 _ (List.mem_of_getElem? (i := 8) rfl)
theorem dX12_line_33 : decode cX12_line 33 = .ok (.istore_n 2, 1) := by decide +kernel
theorem dX12_line_34 : decode cX12_line 34 = .ok (.aload_n 0, 1) := by decide +kernel
theorem dX12_line_35 : decode cX12_line 35 = .ok (.aload_n 0, 1) := by decide +kernel
theorem dX12_line_36 : decode cX12_line 36 = .ok (.getfield 181, 3) := by decide +kernel
theorem dX12_line_39 : decode cX12_line 39 = .ok (.putfield 34, 3) := by decide +kernel
section
variable {p : Program} {l : Launch} {e : Env} {R0 : Room} {s : State} {m : MethodId} {args : Array Value} {below : List Frame} {meth : Method} {c : Code} {H H0 : Heap} {locs : List Loc} {cells slots : Nat} {Q : State → Prop} {cc : ByteArray} {nL : Nat} {D : va_G} {cy : Nat → ClassId} {A : Nat → Prop} {L : List Nat} {R : Nat → Nat} {f : Nat → va_E} {pc : Nat} {ls : Array Slot} {rest : List Value} {a : Nat}
theorem p_12_34 (F : CallFix p m c cc nL s args wsL_law RX12) (h : tS D cy A H0 L R (TT cy L R) f s H locs) {x : Int32} (ha : a ∈ L) (hr : R a = 12) (hdg : decode cc pc = .ok (.putfield 34, 3)) (kk : ∀ (f1 : Nat → va_E) (H1 : Heap) (locs1 : List Loc), fi f1 a 15 = x.toInt → fr L R [(12, 15)] [12] f f1 → tS D cy A H0 L R (TT cy L R) f1 s H1 locs1 → W p l e R0 s m args below meth c H1 locs1 cells slots Q (F0 m (pc + 3) ls (rest))) : W p l e R0 s m args below meth c H locs cells slots Q (F0 m pc ls (.int x :: .ref a :: rest)) := tu_puti (k := 15) F h ha hr T_12 rfl (tb_i x).1 (tb_i x).2 inlX12 tyX12_ok nmX12 rfl (Nat.le_of_ble_eq_true rfl) mw_209 rfl rfl rfl hdg kk
end
theorem dX12_line_42 : decode cX12_line 42 = .ok (.aload_n 0, 1) := by decide +kernel
theorem dX12_line_43 : decode cX12_line 43 = .ok (.getfield 181, 3) := by decide +kernel
theorem dX12_line_46 : decode cX12_line 46 = .ok (.ifCond .le 10, 3) := by decide +kernel
theorem dX12_line_56 : decode cX12_line 56 = .ok (.aload_n 0, 1) := by decide +kernel
theorem dX12_line_57 : decode cX12_line 57 = .ok (.getfield 7, 3) := by decide +kernel
theorem dX12_line_60 : decode cX12_line 60 = .ok (.sipush 4950, 3) := by decide +kernel
theorem dX12_line_63 : decode cX12_line 63 = .ok (.laload, 1) := by decide +kernel
theorem dX12_line_64 : decode cX12_line 64 = .ok (.ldc2_w 204, 3) := by decide +kernel
theorem dX12_line_67 : decode cX12_line 67 = .ok (.lcmp, 1) := by decide +kernel
theorem dX12_line_68 : decode cX12_line 68 = .ok (.ifCond .ne 9, 3) := by decide +kernel
theorem dX12_line_77 : decode cX12_line 77 = .ok (.aload_n 0, 1) := by decide +kernel
theorem dX12_line_78 : decode cX12_line 78 = .ok (.aload_n 0, 1) := by decide +kernel
theorem dX12_line_79 : decode cX12_line 79 = .ok (.getfield 7, 3) := by decide +kernel
theorem dX12_line_82 : decode cX12_line 82 = .ok (.sipush 4950, 3) := by decide +kernel
theorem dX12_line_85 : decode cX12_line 85 = .ok (.laload, 1) := by decide +kernel
theorem dX12_line_86 : decode cX12_line 86 = .ok (.l2i, 1) := by decide +kernel
theorem dX12_line_87 : decode cX12_line 87 = .ok (.invokevirtual 206, 3) := by decide +kernel
theorem dX12_line_90 : decode cX12_line 90 = .ok (.istore_n 3, 1) := by decide +kernel
theorem dX12_line_91 : decode cX12_line 91 = .ok (.aload_n 0, 1) := by decide +kernel
theorem dX12_line_92 : decode cX12_line 92 = .ok (.getfield 7, 3) := by decide +kernel
theorem dX12_line_95 : decode cX12_line 95 = .ok (.iload_n 3, 1) := by decide +kernel
theorem dX12_line_96 : decode cX12_line 96 = .ok (.iload_n 2, 1) := by decide +kernel
theorem dX12_line_97 : decode cX12_line 97 = .ok (.i2l, 1) := by decide +kernel
theorem dX12_line_98 : decode cX12_line 98 = .ok (.lastore, 1) := by decide +kernel
theorem dX12_line_99 : decode cX12_line 99 = .ok (.iconst 0, 1) := by decide +kernel
theorem dX12_line_100 : decode cX12_line 100 = .ok (.istore 4, 2) := by decide +kernel
theorem dX12_line_102 : decode cX12_line 102 = .ok (.iload 4, 2) := by decide +kernel
theorem dX12_line_104 : decode cX12_line 104 = .ok (.iload_n 2, 1) := by decide +kernel
theorem dX12_line_105 : decode cX12_line 105 = .ok (.if_icmp .ge 27, 3) := by decide +kernel
theorem dX12_line_132 : decode cX12_line 132 = .ok (.aload_n 0, 1) := by decide +kernel
theorem dX12_line_133 : decode cX12_line 133 = .ok (.getfield 7, 3) := by decide +kernel
theorem dX12_line_136 : decode cX12_line 136 = .ok (.sipush 4950, 3) := by decide +kernel
theorem dX12_line_139 : decode cX12_line 139 = .ok (.dup2, 1) := by decide +kernel
theorem dX12_line_140 : decode cX12_line 140 = .ok (.laload, 1) := by decide +kernel
theorem dX12_line_141 : decode cX12_line 141 = .ok (.lconst 1, 1) := by decide +kernel
theorem dX12_line_142 : decode cX12_line 142 = .ok (.ladd, 1) := by decide +kernel
theorem dX12_line_143 : decode cX12_line 143 = .ok (.lastore, 1) := by decide +kernel
theorem dX12_line_144 : decode cX12_line 144 = .ok (.aload_n 0, 1) := by decide +kernel
theorem dX12_line_145 : decode cX12_line 145 = .ok (.aload_n 0, 1) := by decide +kernel
theorem dX12_line_146 : decode cX12_line 146 = .ok (.getfield 7, 3) := by decide +kernel
theorem dX12_line_149 : decode cX12_line 149 = .ok (.sipush 4950, 3) := by decide +kernel
theorem dX12_line_152 : decode cX12_line 152 = .ok (.laload, 1) := by decide +kernel
theorem dX12_line_153 : decode cX12_line 153 = .ok (.l2i, 1) := by decide +kernel
theorem dX12_line_154 : decode cX12_line 154 = .ok (.iconst 1, 1) := by decide +kernel
theorem dX12_line_155 : decode cX12_line 155 = .ok (.isub, 1) := by decide +kernel
theorem dX12_line_156 : decode cX12_line 156 = .ok (.invokevirtual 209, 3) := by decide +kernel
theorem dX12_line_159 : decode cX12_line 159 = .ok (.ireturn, 1) := by decide +kernel
theorem dX12_line_108 : decode cX12_line 108 = .ok (.aload_n 0, 1) := by decide +kernel
theorem dX12_line_109 : decode cX12_line 109 = .ok (.getfield 7, 3) := by decide +kernel
theorem dX12_line_112 : decode cX12_line 112 = .ok (.iload_n 3, 1) := by decide +kernel
theorem dX12_line_113 : decode cX12_line 113 = .ok (.iconst 1, 1) := by decide +kernel
theorem dX12_line_114 : decode cX12_line 114 = .ok (.iadd, 1) := by decide +kernel
theorem dX12_line_115 : decode cX12_line 115 = .ok (.iload 4, 2) := by decide +kernel
theorem dX12_line_117 : decode cX12_line 117 = .ok (.iadd, 1) := by decide +kernel
theorem dX12_line_118 : decode cX12_line 118 = .ok (.aload_n 0, 1) := by decide +kernel
theorem dX12_line_119 : decode cX12_line 119 = .ok (.getfield 41, 3) := by decide +kernel
theorem dX12_line_122 : decode cX12_line 122 = .ok (.iload 4, 2) := by decide +kernel
theorem dX12_line_124 : decode cX12_line 124 = .ok (.laload, 1) := by decide +kernel
section
variable {p : Program} {l : Launch} {e : Env} {R0 : Room} {s : State} {m : MethodId} {args : Array Value} {below : List Frame} {meth : Method} {c : Code} {H H0 : Heap} {locs : List Loc} {cells slots : Nat} {Q : State → Prop} {cc : ByteArray} {nL : Nat} {D : va_G} {cy : Nat → ClassId} {A : Nat → Prop} {L : List Nat} {R : Nat → Nat} {f : Nat → va_E} {pc : Nat} {ls : Array Slot} {rest : List Value} {a : Nat}
theorem ld_67 {own : String} (F : CallFix p m c cc nL s args wsL_law own) (h : tS D cy A H0 L R (TT cy L R) f s H locs) {i : Int32} (ha : a ∈ L) (hr : R a = 67) (hb : 0 ≤ i.toInt ∧ i.toInt < 12) (hdg : decode cc pc = .ok (.laload, 1)) (kk : ∀ x : Int64, W p l e R0 s m args below meth c H locs cells slots Q (F0 m (pc + 1) ls (.long x :: rest))) : W p l e R0 s m args below meth c H locs cells slots Q (F0 m pc ls (.int i :: .ref a :: rest)) := tu_lald F h ha hr (fun e q => (T_67 e).mp q) hb.1 hb.2 hdg (fun x h1 h2 => kk x)
end
theorem dX12_line_125 : decode cX12_line 125 = .ok (.lastore, 1) := by decide +kernel
theorem dX12_line_126 : decode cX12_line 126 = .ok (.iinc 4 1, 3) := by decide +kernel
theorem dX12_line_129 : decode cX12_line 129 = .ok (.goto (-27), 3) := by decide +kernel
theorem dX12_line_71 : decode cX12_line 71 = .ok (.aload_n 0, 1) := by decide +kernel
theorem dX12_line_72 : decode cX12_line 72 = .ok (.iconst 4, 1) := by decide +kernel
theorem dX12_line_73 : decode cX12_line 73 = .ok (.invokevirtual 194, 3) := by decide +kernel
theorem dX12_line_76 : decode cX12_line 76 = .ok (.ireturn, 1) := by decide +kernel
theorem dX12_line_49 : decode cX12_line 49 = .ok (.aload_n 0, 1) := by decide +kernel
theorem dX12_line_50 : decode cX12_line 50 = .ok (.bipush 9, 2) := by decide +kernel
theorem dX12_line_52 : decode cX12_line 52 = .ok (.invokevirtual 194, 3) := by decide +kernel
theorem dX12_line_55 : decode cX12_line 55 = .ok (.ireturn, 1) := by decide +kernel
def rm_X12_line : Room := { frames := 3, cells := 0, slots := 0, locals := 82 }
set_option maxHeartbeats 4000000 in
set_option maxRecDepth 100000 in
theorem s_X12_line (l : Launch) (D : va_G) (cy : Nat → ClassId) (L : List Nat) (R O : Nat → Nat) (f0 : Nat → va_E) (a0 : Nat) (m_a0 : a0 ∈ L) (r_a0 : R a0 = 12) (x1 : Int32) (GA : Nat) (m_GA : GA ∈ L) (r_GA : R GA = 61) (t_GA : fld f0 a0 0 = .ref GA) (GP : Nat) (m_GP : GP ∈ L) (r_GP : R GP = 69) (t_GP : fld f0 a0 22 = .ref GP) (GL : Nat) (m_GL : GL ∈ L) (r_GL : R GL = 70) (t_GL : fld f0 a0 23 = .ref GL) (GT : Nat) (m_GT : GT ∈ L) (r_GT : R GT = 64) (t_GT : fld f0 a0 6 = .ref GT) (pre0 : RBA GA f0) (pre1 : GZ GP GL f0) : ∀ sz, Met l yX12_line (Cond.code yX12_line cX12_line 5 (some .int) :: wsL_law) rm_X12_line (va_Pc [.ref a0, .int x1] (tPZ D cy L R (TT cy L R) f0 sz)) (va_Qi (fun (r : Int32) f1 => fr L R [(12, 1), (12, 9), (12, 10), (12, 11), (12, 12), (12, 13), (12, 14), (12, 15), (12, 16), (12, 17)] [12, 61, 66, 67] f0 f1 ∧ RBA GA f1 ∧ GZ GP GL f1) (tB D (tA L sz) L R (TT cy L R)) (tA L sz)) 0 0 (tA L sz) := by
  refine tw_enteri (by decide +kernel) rfl (Nat.le_of_ble_eq_true rfl) ?_
  intro p e s m below meth c A ls args Q F hZ h hl hret
  have hl : lv_has ls 5 [(0, .ref a0), (1, .int x1)] := hl
  have hk : fr L R [(12, 1), (12, 9), (12, 10), (12, 11), (12, 12), (12, 13), (12, 14), (12, 15), (12, 16), (12, 17)] [12, 61, 66, 67] f0 f0 := fr.rf
  have hR := pre0
  have hX := pre1
  refine lv_iload_n F.1 F.2.1 dX12_line_0 rfl (lv_at hl 1 rfl) ?_
  refine tw_if_lt (tgt := 18) F dX12_line_1 (by decide) (fun b1 => ?_) (fun b1 => ?_)
  · refine lv_aload_n F.1 F.2.1 dX12_line_18 rfl (lv_at hl 0 rfl) ?_
    refine tw_iconst F dX12_line_19 ki_1 (fun z2 hz2 => ?_)
    refine tw_Vi (As := [.int z2]) F hZ h yk_X12_refuse mw_452 mw_453 mw_454 (s_X12_refuse l D cy L R O f0 a0 m_a0 r_a0 z2 ⟨by omega, by omega⟩) rfl rfl m_a0 r_a0 (fun e q => (T_12 e).mp q) rfl hl.1 rfl (Nat.le_of_ble_eq_true rfl) ⟨Nat.le_of_ble_eq_true rfl, Nat.le_of_ble_eq_true rfl⟩ ⟨Nat.le_of_ble_eq_true rfl, Nat.le_of_ble_eq_true rfl⟩ dX12_line_20 (fun v4 f3 H locs hp3 h => ?_)
    obtain ⟨hf3, hv4a, hv4b⟩ := hp3
    have hR : RBA GA f3 := hR.fm hf3 m_GA r_GA (by decide +kernel)
    have hX : GZ GP GL f3 := hX.fm hf3 m_GP r_GP m_GL r_GL (by decide +kernel) (by decide +kernel)
    have hk : fr L R [(12, 1), (12, 9), (12, 10), (12, 11), (12, 12), (12, 13), (12, 14), (12, 15), (12, 16), (12, 17)] [12, 61, 66, 67] f0 f3 := hk.tr hf3 rfl rfl
    have e5 : fld f3 a0 0 = .ref GA := (hf3.efl m_a0 r_a0 rfl).trans t_GA
    have e6 : fld f3 a0 22 = .ref GP := (hf3.efl m_a0 r_a0 rfl).trans t_GP
    have e7 : fld f3 a0 23 = .ref GL := (hf3.efl m_a0 r_a0 rfl).trans t_GL
    have e8 : fld f3 a0 6 = .ref GT := (hf3.efl m_a0 r_a0 rfl).trans t_GT
    exact hret f3 _ _ _ _ v4 dX12_line_23 rfl ⟨hk, hR, hX⟩ h
  · refine lv_iload_n F.1 F.2.1 dX12_line_4 rfl (lv_at hl 1 rfl) ?_
    refine lv_aload_n F.1 F.2.1 dX12_line_5 rfl (lv_at hl 0 rfl) ?_
    refine g_12_144 F h m_a0 r_a0 dX12_line_6 (fun v9 hv9 hv9a hv9b => ?_)
    refine tw_icmp_gt (tgt := 18) F dX12_line_9 (by decide) (fun b10 => ?_) (fun b10 => ?_)
    · refine lv_aload_n F.1 F.2.1 dX12_line_18 rfl (lv_at hl 0 rfl) ?_
      refine tw_iconst F dX12_line_19 ki_1 (fun z11 hz11 => ?_)
      refine tw_Vi (As := [.int z11]) F hZ h yk_X12_refuse mw_452 mw_453 mw_454 (s_X12_refuse l D cy L R O f0 a0 m_a0 r_a0 z11 ⟨by omega, by omega⟩) rfl rfl m_a0 r_a0 (fun e q => (T_12 e).mp q) rfl hl.1 rfl (Nat.le_of_ble_eq_true rfl) ⟨Nat.le_of_ble_eq_true rfl, Nat.le_of_ble_eq_true rfl⟩ ⟨Nat.le_of_ble_eq_true rfl, Nat.le_of_ble_eq_true rfl⟩ dX12_line_20 (fun v13 f12 H locs hp12 h => ?_)
      obtain ⟨hf12, hv13a, hv13b⟩ := hp12
      have hR : RBA GA f12 := hR.fm hf12 m_GA r_GA (by decide +kernel)
      have hX : GZ GP GL f12 := hX.fm hf12 m_GP r_GP m_GL r_GL (by decide +kernel) (by decide +kernel)
      have hk : fr L R [(12, 1), (12, 9), (12, 10), (12, 11), (12, 12), (12, 13), (12, 14), (12, 15), (12, 16), (12, 17)] [12, 61, 66, 67] f0 f12 := hk.tr hf12 rfl rfl
      have e14 : fld f12 a0 0 = .ref GA := (hf12.efl m_a0 r_a0 rfl).trans t_GA
      have e15 : fld f12 a0 22 = .ref GP := (hf12.efl m_a0 r_a0 rfl).trans t_GP
      have e16 : fld f12 a0 23 = .ref GL := (hf12.efl m_a0 r_a0 rfl).trans t_GL
      have e17 : fld f12 a0 6 = .ref GT := (hf12.efl m_a0 r_a0 rfl).trans t_GT
      exact hret f12 _ _ _ _ v13 dX12_line_23 rfl ⟨hk, hR, hX⟩ h
    · refine lv_iload_n F.1 F.2.1 dX12_line_12 rfl (lv_at hl 1 rfl) ?_
      refine tw_bipush F dX12_line_13 kb_120 (fun z18 hz18 => ?_)
      refine tw_icmp_le (tgt := 24) F dX12_line_15 (by decide) (fun b19 => ?_) (fun b19 => ?_)
      · refine lv_aload_n F.1 F.2.1 dX12_line_24 rfl (lv_at hl 0 rfl) ?_
        refine lv_iload_n F.1 F.2.1 dX12_line_25 rfl (lv_at hl 1 rfl) ?_
        refine tw_Vv (As := [.int x1]) F hZ h yk_X12_begins mw_456 mw_457 mw_458 (s_X12_begins l D cy L R O f0 a0 m_a0 r_a0 x1 ⟨by omega, by omega⟩) rfl rfl m_a0 r_a0 (fun e q => (T_12 e).mp q) rfl hl.1 rfl (Nat.le_of_ble_eq_true rfl) ⟨Nat.le_of_ble_eq_true rfl, Nat.le_of_ble_eq_true rfl⟩ ⟨Nat.le_of_ble_eq_true rfl, Nat.le_of_ble_eq_true rfl⟩ dX12_line_26 (fun f20 H locs hp20 h => ?_)
        have hf20 := hp20
        have hR : RBA GA f20 := hR.fm hf20 m_GA r_GA (by decide +kernel)
        have hX : GZ GP GL f20 := hX.fm hf20 m_GP r_GP m_GL r_GL (by decide +kernel) (by decide +kernel)
        have hk : fr L R [(12, 1), (12, 9), (12, 10), (12, 11), (12, 12), (12, 13), (12, 14), (12, 15), (12, 16), (12, 17)] [12, 61, 66, 67] f0 f20 := hk.tr hf20 rfl rfl
        have e22 : fld f20 a0 0 = .ref GA := (hf20.efl m_a0 r_a0 rfl).trans t_GA
        have e23 : fld f20 a0 22 = .ref GP := (hf20.efl m_a0 r_a0 rfl).trans t_GP
        have e24 : fld f20 a0 23 = .ref GL := (hf20.efl m_a0 r_a0 rfl).trans t_GL
        have e25 : fld f20 a0 6 = .ref GT := (hf20.efl m_a0 r_a0 rfl).trans t_GT
        refine lv_aload_n F.1 F.2.1 dX12_line_29 rfl (lv_at hl 0 rfl) ?_
        refine tw_Vi (As := []) F hZ h yk_X12_readsLine mw_462 mw_463 mw_464 (s_X12_readsLine l D cy L R O f20 a0 m_a0 r_a0) rfl rfl m_a0 r_a0 (fun e q => (T_12 e).mp q) rfl hl.1 rfl (Nat.le_of_ble_eq_true rfl) ⟨Nat.le_of_ble_eq_true rfl, Nat.le_of_ble_eq_true rfl⟩ ⟨Nat.le_of_ble_eq_true rfl, Nat.le_of_ble_eq_true rfl⟩ dX12_line_30 (fun v27 f26 H locs hp26 h => ?_)
        obtain ⟨hf26, hv27a, hv27b⟩ := hp26
        have hR : RBA GA f26 := hR.fm hf26 m_GA r_GA (by decide +kernel)
        have hX : GZ GP GL f26 := hX.fm hf26 m_GP r_GP m_GL r_GL (by decide +kernel) (by decide +kernel)
        have hk : fr L R [(12, 1), (12, 9), (12, 10), (12, 11), (12, 12), (12, 13), (12, 14), (12, 15), (12, 16), (12, 17)] [12, 61, 66, 67] f0 f26 := hk.tr hf26 (by decide +kernel) (by decide +kernel)
        have e28 : fld f26 a0 0 = .ref GA := (hf26.efl m_a0 r_a0 rfl).trans e22
        have e29 : fld f26 a0 22 = .ref GP := (hf26.efl m_a0 r_a0 rfl).trans e23
        have e30 : fld f26 a0 23 = .ref GL := (hf26.efl m_a0 r_a0 rfl).trans e24
        have e31 : fld f26 a0 6 = .ref GT := (hf26.efl m_a0 r_a0 rfl).trans e25
        refine lv_istore_n (lv' := [(2, .int v27), (0, .ref a0), (1, .int x1)]) F.1 F.2.1 dX12_line_33 rfl hl (by decide) rfl (fun ls hl => ?_)
        refine lv_aload_n F.1 F.2.1 dX12_line_34 rfl (lv_at hl 1 rfl) ?_
        refine lv_aload_n F.1 F.2.1 dX12_line_35 rfl (lv_at hl 1 rfl) ?_
        refine g_12_181 F h m_a0 r_a0 dX12_line_36 (fun v32 hv32 => ?_)
        refine p_12_34 F h m_a0 r_a0 dX12_line_39 (fun f33 H locs e33p hf33 h => ?_)
        have hR : RBA GA f33 := hR.fm hf33 m_GA r_GA (by decide +kernel)
        have hX : GZ GP GL f33 := hX.fm hf33 m_GP r_GP m_GL r_GL (by decide +kernel) (by decide +kernel)
        have hk : fr L R [(12, 1), (12, 9), (12, 10), (12, 11), (12, 12), (12, 13), (12, 14), (12, 15), (12, 16), (12, 17)] [12, 61, 66, 67] f0 f33 := hk.tr hf33 rfl rfl
        have e34 : fld f33 a0 0 = .ref GA := (hf33.efl m_a0 r_a0 rfl).trans e28
        have e35 : fld f33 a0 22 = .ref GP := (hf33.efl m_a0 r_a0 rfl).trans e29
        have e36 : fld f33 a0 23 = .ref GL := (hf33.efl m_a0 r_a0 rfl).trans e30
        have e37 : fld f33 a0 6 = .ref GT := (hf33.efl m_a0 r_a0 rfl).trans e31
        have e38 : fi f33 a0 17 = fi f26 a0 17 := hf33.efi m_a0 r_a0 rfl
        refine lv_aload_n F.1 F.2.1 dX12_line_42 rfl (lv_at hl 1 rfl) ?_
        refine g_12_181 F h m_a0 r_a0 dX12_line_43 (fun v39 hv39 => ?_)
        refine tw_if_le (tgt := 56) F dX12_line_46 (by decide) (fun b40 => ?_) (fun b40 => ?_)
        · refine lv_aload_n F.1 F.2.1 dX12_line_56 rfl (lv_at hl 1 rfl) ?_
          refine g_12_7 F h m_a0 r_a0 dX12_line_57 (fun o41 m_o41 r_o41 ho41 => ?_)
          obtain rfl := (fld_inj e34 ho41).symm
          refine tw_sipush F dX12_line_60 ks_4950 (fun z42 hz42 => ?_)
          refine le_61 F h m_GA r_GA (by omega) dX12_line_63 (fun v43 ev43 hv43a => ?_)
          have hv43b := clP_11.mp (atb hv43a (ac_s1 (by omega)))
          have u63 : v43.toInt = elj f33 GA (4950) := by rw [ev43, show z42.toInt.toNat = 4950 by omega]
          refine tu_ldc2 F mw_451 dX12_line_64 kl_16 (fun z44 hz44 => ?_)
          refine tw_lcmp F dX12_line_67 (fun z45 hz45 => ?_)
          refine tw_if_ne (tgt := 77) F dX12_line_68 (by decide) (fun b46 => ?_) (fun b46 => ?_)
          · have hqk : elj f33 GA 4950 ≤ 15 := by omega
            refine lv_aload_n F.1 F.2.1 dX12_line_77 rfl (lv_at hl 1 rfl) ?_
            refine lv_aload_n F.1 F.2.1 dX12_line_78 rfl (lv_at hl 1 rfl) ?_
            refine g_12_7 F h m_a0 r_a0 dX12_line_79 (fun o47 m_o47 r_o47 ho47 => ?_)
            obtain rfl := (fld_inj e34 ho47).symm
            refine tw_sipush F dX12_line_82 ks_4950 (fun z48 hz48 => ?_)
            refine le_61 F h m_GA r_GA (by omega) dX12_line_85 (fun v49 ev49 hv49a => ?_)
            have hv49b := clP_11.mp (atb hv49a (ac_s1 (by omega)))
            have u85 : v49.toInt = elj f33 GA (4950) := by rw [ev49, show z48.toInt.toNat = 4950 by omega]
            refine tw_l2i F dX12_line_86 (by omega) (by omega) (fun z50 hz50 => ?_)
            refine tw_Vi (As := [.int z50]) F hZ h yk_X12_lineAt mw_495 mw_496 mw_497 (s_X12_lineAt l D cy L R O f33 a0 m_a0 r_a0 z50 ⟨by omega, by omega⟩) rfl rfl m_a0 r_a0 (fun e q => (T_12 e).mp q) rfl hl.1 rfl (Nat.le_of_ble_eq_true rfl) ⟨Nat.le_of_ble_eq_true rfl, Nat.le_of_ble_eq_true rfl⟩ ⟨Nat.le_of_ble_eq_true rfl, Nat.le_of_ble_eq_true rfl⟩ dX12_line_87 (fun v52 f51 H locs hp51 h => ?_)
            obtain ⟨rfl, hv52a, hv52b, hv52p0⟩ := hp51
            refine lv_istore_n (lv' := [(3, .int v52), (2, .int v27), (0, .ref a0), (1, .int x1)]) F.1 F.2.1 dX12_line_90 rfl hl (by decide) rfl (fun ls hl => ?_)
            refine lv_aload_n F.1 F.2.1 dX12_line_91 rfl (lv_at hl 2 rfl) ?_
            refine g_12_7 F h m_a0 r_a0 dX12_line_92 (fun o53 m_o53 r_o53 ho53 => ?_)
            obtain rfl := (fld_inj e34 ho53).symm
            refine lv_iload_n F.1 F.2.1 dX12_line_95 rfl (lv_at hl 0 rfl) ?_
            refine lv_iload_n F.1 F.2.1 dX12_line_96 rfl (lv_at hl 1 rfl) ?_
            refine tw_i2l F dX12_line_97 (fun z54 hz54 => ?_)
            refine se_61 F h m_GA r_GA (by omega) (atS (ac_l (by omega)) (clP_10.mpr (by omega))) dX12_line_98 (fun f55 H locs e55a e55b hf55 h => ?_)
            have hR : RBA GA f55 := hR.st e55a (Or.inr (Or.inl (by omega)))
            have hX : GZ GP GL f55 := hX.fm hf55 m_GP r_GP m_GL r_GL (by decide +kernel) (by decide +kernel)
            have hqk : elj f55 GA 4950 ≤ 15 := by rw [e55a, if_neg (by omega)]; exact hqk
            have hk : fr L R [(12, 1), (12, 9), (12, 10), (12, 11), (12, 12), (12, 13), (12, 14), (12, 15), (12, 16), (12, 17)] [12, 61, 66, 67] f0 f55 := hk.tr hf55 rfl rfl
            have e56 : fld f55 a0 0 = .ref GA := (hf55.efl m_a0 r_a0 rfl).trans e34
            have e57 : fld f55 a0 22 = .ref GP := (hf55.efl m_a0 r_a0 rfl).trans e35
            have e58 : fld f55 a0 23 = .ref GL := (hf55.efl m_a0 r_a0 rfl).trans e36
            have e59 : fld f55 a0 6 = .ref GT := (hf55.efl m_a0 r_a0 rfl).trans e37
            have e60 : fi f55 a0 17 = fi f33 a0 17 := hf55.efi m_a0 r_a0 rfl
            refine tw_iconst F dX12_line_99 ki_0 (fun z61 hz61 => ?_)
            refine lv_istore (lv' := [(4, .int z61), (3, .int v52), (2, .int v27), (0, .ref a0), (1, .int x1)]) F.1 F.2.1 dX12_line_100 hl (by decide) rfl (fun ls hl => ?_)
            have j_102 : ∀ (n102 : Nat) (f62 : Nat → va_E) (H : Heap) (locs : List Loc) (ls : Array Slot) (x4_102 : Int32), 0 ≤ x4_102.toInt → x4_102.toInt ≤ 12 → ((12 - x4_102.toInt)).toNat < n102 → tS D cy A s.heap L R (TT cy L R) f62 s H locs → RBA GA f62 → GZ GP GL f62 → elj f62 GA 4950 ≤ 15 → fr L R [(12, 1), (12, 9), (12, 10), (12, 11), (12, 12), (12, 13), (12, 14), (12, 15), (12, 16), (12, 17)] [12, 61, 66, 67] f0 f62 → fr L R [] [61] f55 f62 → lv_has ls 5 [(0, .ref a0), (2, .int v27), (3, .int v52), (4, .int x4_102)] → W p l e rm_X12_line s m args below meth c H locs 0 0 Q (F0 m 102 ls []) := by
              intro n102
              induction n102 with
              | zero =>
                intro f62 H locs ls x4_102 b63 b64 b65 h hR hX hqk hk hb102 hl
                exfalso
                omega
              | succ n102 ih102 =>
                intro f62 H locs ls x4_102 b63 b64 b65 h hR hX hqk hk hb102 hl
                have e66 : fld f62 a0 0 = .ref GA := (hb102.efl m_a0 r_a0 rfl).trans e56
                have e67 : fld f62 a0 22 = .ref GP := (hb102.efl m_a0 r_a0 rfl).trans e57
                have e68 : fld f62 a0 23 = .ref GL := (hb102.efl m_a0 r_a0 rfl).trans e58
                have e69 : fld f62 a0 6 = .ref GT := (hb102.efl m_a0 r_a0 rfl).trans e59
                have e70 : fi f62 a0 17 = fi f55 a0 17 := hb102.efi m_a0 r_a0 rfl
                refine lv_iload F.1 F.2.1 dX12_line_102 (lv_at hl 3 rfl) ?_
                refine lv_iload_n F.1 F.2.1 dX12_line_104 rfl (lv_at hl 1 rfl) ?_
                refine tw_icmp_ge (tgt := 132) F dX12_line_105 (by decide) (fun b71 => ?_) (fun b71 => ?_)
                · refine lv_aload_n F.1 F.2.1 dX12_line_132 rfl (lv_at hl 0 rfl) ?_
                  refine g_12_7 F h m_a0 r_a0 dX12_line_133 (fun o72 m_o72 r_o72 ho72 => ?_)
                  obtain rfl := (fld_inj e66 ho72).symm
                  refine tw_sipush F dX12_line_136 ks_4950 (fun z73 hz73 => ?_)
                  refine lv_dup2_11 F.1 F.2.1 dX12_line_139 rfl rfl ?_
                  refine le_61 F h m_GA r_GA (by omega) dX12_line_140 (fun v74 ev74 hv74a => ?_)
                  have hv74b := clP_11.mp (atb hv74a (ac_s1 (by omega)))
                  have u140 : v74.toInt = elj f62 GA (4950) := by rw [ev74, show z73.toInt.toNat = 4950 by omega]
                  refine tu_lconst F dX12_line_141 (by decide) (fun z75 (hz75 : z75.toInt = 1) => ?_)
                  refine tu_ladd F dX12_line_142 (by omega) (fun z76 hz76 => ?_)
                  refine se_61 F h m_GA r_GA (by omega) (atS (ac_s1 (by omega)) (clP_11.mpr (by omega))) dX12_line_143 (fun f77 H locs e77a e77b hf77 h => ?_)
                  have hR : RBA GA f77 := hR.st e77a (Or.inr (Or.inl (by omega)))
                  have hX : GZ GP GL f77 := hX.fm hf77 m_GP r_GP m_GL r_GL (by decide +kernel) (by decide +kernel)
                  have hk : fr L R [(12, 1), (12, 9), (12, 10), (12, 11), (12, 12), (12, 13), (12, 14), (12, 15), (12, 16), (12, 17)] [12, 61, 66, 67] f0 f77 := hk.tr hf77 rfl rfl
                  have hb102 : fr L R [] [61] f55 f77 := hb102.tr hf77 rfl rfl
                  have e78 : fld f77 a0 0 = .ref GA := (hf77.efl m_a0 r_a0 rfl).trans e66
                  have e79 : fld f77 a0 22 = .ref GP := (hf77.efl m_a0 r_a0 rfl).trans e67
                  have e80 : fld f77 a0 23 = .ref GL := (hf77.efl m_a0 r_a0 rfl).trans e68
                  have e81 : fld f77 a0 6 = .ref GT := (hf77.efl m_a0 r_a0 rfl).trans e69
                  have e82 : fi f77 a0 17 = fi f62 a0 17 := hf77.efi m_a0 r_a0 rfl
                  refine lv_aload_n F.1 F.2.1 dX12_line_144 rfl (lv_at hl 0 rfl) ?_
                  refine lv_aload_n F.1 F.2.1 dX12_line_145 rfl (lv_at hl 0 rfl) ?_
                  refine g_12_7 F h m_a0 r_a0 dX12_line_146 (fun o83 m_o83 r_o83 ho83 => ?_)
                  obtain rfl := (fld_inj e78 ho83).symm
                  refine tw_sipush F dX12_line_149 ks_4950 (fun z84 hz84 => ?_)
                  refine ld_61 F h m_GA r_GA (by omega) dX12_line_152 (fun v85 hv85a => ?_)
                  have hv85b := clP_11.mp (atb hv85a (ac_s1 (by omega)))
                  refine tw_l2i F dX12_line_153 (by omega) (by omega) (fun z86 hz86 => ?_)
                  refine tw_iconst F dX12_line_154 ki_1 (fun z87 hz87 => ?_)
                  refine tu_isub F dX12_line_155 (by omega) (fun z88 hz88 => ?_)
                  refine tw_Vi (As := [.int z88]) F hZ h yk_X12_gives mw_499 mw_500 mw_501 (s_X12_gives l D cy L R O f77 a0 m_a0 r_a0 z88) rfl rfl m_a0 r_a0 (fun e q => (T_12 e).mp q) rfl hl.1 rfl (Nat.le_of_ble_eq_true rfl) ⟨Nat.le_of_ble_eq_true rfl, Nat.le_of_ble_eq_true rfl⟩ ⟨Nat.le_of_ble_eq_true rfl, Nat.le_of_ble_eq_true rfl⟩ dX12_line_156 (fun v90 f89 H locs hp89 h => ?_)
                  have hf89 := hp89
                  have hR : RBA GA f89 := hR.fm hf89 m_GA r_GA (by decide +kernel)
                  have hX : GZ GP GL f89 := hX.fm hf89 m_GP r_GP m_GL r_GL (by decide +kernel) (by decide +kernel)
                  have hk : fr L R [(12, 1), (12, 9), (12, 10), (12, 11), (12, 12), (12, 13), (12, 14), (12, 15), (12, 16), (12, 17)] [12, 61, 66, 67] f0 f89 := hk.tr hf89 rfl rfl
                  have e91 : fld f89 a0 0 = .ref GA := (hf89.efl m_a0 r_a0 rfl).trans e78
                  have e92 : fld f89 a0 22 = .ref GP := (hf89.efl m_a0 r_a0 rfl).trans e79
                  have e93 : fld f89 a0 23 = .ref GL := (hf89.efl m_a0 r_a0 rfl).trans e80
                  have e94 : fld f89 a0 6 = .ref GT := (hf89.efl m_a0 r_a0 rfl).trans e81
                  have e95 : fi f89 a0 17 = fi f77 a0 17 := hf89.efi m_a0 r_a0 rfl
                  exact hret f89 _ _ _ _ v90 dX12_line_159 rfl ⟨hk, hR, hX⟩ h
                · refine lv_aload_n F.1 F.2.1 dX12_line_108 rfl (lv_at hl 0 rfl) ?_
                  refine g_12_7 F h m_a0 r_a0 dX12_line_109 (fun o96 m_o96 r_o96 ho96 => ?_)
                  obtain rfl := (fld_inj e66 ho96).symm
                  refine lv_iload_n F.1 F.2.1 dX12_line_112 rfl (lv_at hl 2 rfl) ?_
                  refine tw_iconst F dX12_line_113 ki_1 (fun z97 hz97 => ?_)
                  refine tu_iadd F dX12_line_114 (by omega) (fun z98 hz98 => ?_)
                  refine lv_iload F.1 F.2.1 dX12_line_115 (lv_at hl 3 rfl) ?_
                  refine tu_iadd F dX12_line_117 (by omega) (fun z99 hz99 => ?_)
                  refine lv_aload_n F.1 F.2.1 dX12_line_118 rfl (lv_at hl 0 rfl) ?_
                  refine g_12_41 F h m_a0 r_a0 dX12_line_119 (fun o100 m_o100 r_o100 ho100 => ?_)
                  refine lv_iload F.1 F.2.1 dX12_line_122 (lv_at hl 3 rfl) ?_
                  refine ld_67 F h m_o100 r_o100 (by omega) dX12_line_124 (fun v101 => ?_)
                  refine se_61 F h m_GA r_GA (by omega) (atS (ac_lw (by omega)) clP_0) dX12_line_125 (fun f102 H locs e102a e102b hf102 h => ?_)
                  have hR : RBA GA f102 := hR.st e102a (Or.inr (Or.inl (by omega)))
                  have hX : GZ GP GL f102 := hX.fm hf102 m_GP r_GP m_GL r_GL (by decide +kernel) (by decide +kernel)
                  have hqk : elj f102 GA 4950 ≤ 15 := by rw [e102a, if_neg (by omega)]; exact hqk
                  have hk : fr L R [(12, 1), (12, 9), (12, 10), (12, 11), (12, 12), (12, 13), (12, 14), (12, 15), (12, 16), (12, 17)] [12, 61, 66, 67] f0 f102 := hk.tr hf102 rfl rfl
                  have hb102 : fr L R [] [61] f55 f102 := hb102.tr hf102 rfl rfl
                  have e103 : fld f102 a0 0 = .ref GA := (hf102.efl m_a0 r_a0 rfl).trans e66
                  have e104 : fld f102 a0 22 = .ref GP := (hf102.efl m_a0 r_a0 rfl).trans e67
                  have e105 : fld f102 a0 23 = .ref GL := (hf102.efl m_a0 r_a0 rfl).trans e68
                  have e106 : fld f102 a0 6 = .ref GT := (hf102.efl m_a0 r_a0 rfl).trans e69
                  have e107 : fi f102 a0 17 = fi f62 a0 17 := hf102.efi m_a0 r_a0 rfl
                  refine tu_iinc F dX12_line_126 hl (k := 3) rfl (by decide) ki_1 (by omega) (fun z108 ls hz108 hl => ?_)
                  have hl : lv_has ls 5 [(4, .int z108), (0, .ref a0), (2, .int v27), (3, .int v52)] := hl
                  refine lv_goto (tgt := 102) F.1 F.2.1 dX12_line_129 (by decide) ?_
                  exact ih102 f102 _ _ _ z108 (by omega) (by omega) (by omega) h hR hX hqk hk hb102 (lv_sub hl [1, 2, 3, 0] rfl)
            have hb102 : fr L R [] [61] f55 f55 := fr.rf
            exact j_102 (((12 - z61.toInt)).toNat + 1) f55 _ _ _ z61 (by omega) (by omega) (by omega) h hR hX hqk hk hb102 (lv_sub hl [3, 2, 1, 0] rfl)
          · refine lv_aload_n F.1 F.2.1 dX12_line_71 rfl (lv_at hl 1 rfl) ?_
            refine tw_iconst F dX12_line_72 ki_4 (fun z109 hz109 => ?_)
            refine tw_Vi (As := [.int z109]) F hZ h yk_X12_refuse mw_452 mw_453 mw_454 (s_X12_refuse l D cy L R O f33 a0 m_a0 r_a0 z109 ⟨by omega, by omega⟩) rfl rfl m_a0 r_a0 (fun e q => (T_12 e).mp q) rfl hl.1 rfl (Nat.le_of_ble_eq_true rfl) ⟨Nat.le_of_ble_eq_true rfl, Nat.le_of_ble_eq_true rfl⟩ ⟨Nat.le_of_ble_eq_true rfl, Nat.le_of_ble_eq_true rfl⟩ dX12_line_73 (fun v111 f110 H locs hp110 h => ?_)
            obtain ⟨hf110, hv111a, hv111b⟩ := hp110
            have hR : RBA GA f110 := hR.fm hf110 m_GA r_GA (by decide +kernel)
            have hX : GZ GP GL f110 := hX.fm hf110 m_GP r_GP m_GL r_GL (by decide +kernel) (by decide +kernel)
            have hk : fr L R [(12, 1), (12, 9), (12, 10), (12, 11), (12, 12), (12, 13), (12, 14), (12, 15), (12, 16), (12, 17)] [12, 61, 66, 67] f0 f110 := hk.tr hf110 rfl rfl
            have e112 : fld f110 a0 0 = .ref GA := (hf110.efl m_a0 r_a0 rfl).trans e34
            have e113 : fld f110 a0 22 = .ref GP := (hf110.efl m_a0 r_a0 rfl).trans e35
            have e114 : fld f110 a0 23 = .ref GL := (hf110.efl m_a0 r_a0 rfl).trans e36
            have e115 : fld f110 a0 6 = .ref GT := (hf110.efl m_a0 r_a0 rfl).trans e37
            have e116 : fi f110 a0 17 = fi f33 a0 17 := hf110.efi m_a0 r_a0 rfl
            exact hret f110 _ _ _ _ v111 dX12_line_76 rfl ⟨hk, hR, hX⟩ h
        · refine lv_aload_n F.1 F.2.1 dX12_line_49 rfl (lv_at hl 1 rfl) ?_
          refine tw_bipush F dX12_line_50 kb_9 (fun z117 hz117 => ?_)
          refine tw_Vi (As := [.int z117]) F hZ h yk_X12_refuse mw_452 mw_453 mw_454 (s_X12_refuse l D cy L R O f33 a0 m_a0 r_a0 z117 ⟨by omega, by omega⟩) rfl rfl m_a0 r_a0 (fun e q => (T_12 e).mp q) rfl hl.1 rfl (Nat.le_of_ble_eq_true rfl) ⟨Nat.le_of_ble_eq_true rfl, Nat.le_of_ble_eq_true rfl⟩ ⟨Nat.le_of_ble_eq_true rfl, Nat.le_of_ble_eq_true rfl⟩ dX12_line_52 (fun v119 f118 H locs hp118 h => ?_)
          obtain ⟨hf118, hv119a, hv119b⟩ := hp118
          have hR : RBA GA f118 := hR.fm hf118 m_GA r_GA (by decide +kernel)
          have hX : GZ GP GL f118 := hX.fm hf118 m_GP r_GP m_GL r_GL (by decide +kernel) (by decide +kernel)
          have hk : fr L R [(12, 1), (12, 9), (12, 10), (12, 11), (12, 12), (12, 13), (12, 14), (12, 15), (12, 16), (12, 17)] [12, 61, 66, 67] f0 f118 := hk.tr hf118 rfl rfl
          have e120 : fld f118 a0 0 = .ref GA := (hf118.efl m_a0 r_a0 rfl).trans e34
          have e121 : fld f118 a0 22 = .ref GP := (hf118.efl m_a0 r_a0 rfl).trans e35
          have e122 : fld f118 a0 23 = .ref GL := (hf118.efl m_a0 r_a0 rfl).trans e36
          have e123 : fld f118 a0 6 = .ref GT := (hf118.efl m_a0 r_a0 rfl).trans e37
          have e124 : fi f118 a0 17 = fi f33 a0 17 := hf118.efi m_a0 r_a0 rfl
          exact hret f118 _ _ _ _ v119 dX12_line_55 rfl ⟨hk, hR, hX⟩ h
      · refine lv_aload_n F.1 F.2.1 dX12_line_18 rfl (lv_at hl 0 rfl) ?_
        refine tw_iconst F dX12_line_19 ki_1 (fun z125 hz125 => ?_)
        refine tw_Vi (As := [.int z125]) F hZ h yk_X12_refuse mw_452 mw_453 mw_454 (s_X12_refuse l D cy L R O f0 a0 m_a0 r_a0 z125 ⟨by omega, by omega⟩) rfl rfl m_a0 r_a0 (fun e q => (T_12 e).mp q) rfl hl.1 rfl (Nat.le_of_ble_eq_true rfl) ⟨Nat.le_of_ble_eq_true rfl, Nat.le_of_ble_eq_true rfl⟩ ⟨Nat.le_of_ble_eq_true rfl, Nat.le_of_ble_eq_true rfl⟩ dX12_line_20 (fun v127 f126 H locs hp126 h => ?_)
        obtain ⟨hf126, hv127a, hv127b⟩ := hp126
        have hR : RBA GA f126 := hR.fm hf126 m_GA r_GA (by decide +kernel)
        have hX : GZ GP GL f126 := hX.fm hf126 m_GP r_GP m_GL r_GL (by decide +kernel) (by decide +kernel)
        have hk : fr L R [(12, 1), (12, 9), (12, 10), (12, 11), (12, 12), (12, 13), (12, 14), (12, 15), (12, 16), (12, 17)] [12, 61, 66, 67] f0 f126 := hk.tr hf126 rfl rfl
        have e128 : fld f126 a0 0 = .ref GA := (hf126.efl m_a0 r_a0 rfl).trans t_GA
        have e129 : fld f126 a0 22 = .ref GP := (hf126.efl m_a0 r_a0 rfl).trans t_GP
        have e130 : fld f126 a0 23 = .ref GL := (hf126.efl m_a0 r_a0 rfl).trans t_GL
        have e131 : fld f126 a0 6 = .ref GT := (hf126.efl m_a0 r_a0 rfl).trans t_GT
        exact hret f126 _ _ _ _ v127 dX12_line_23 rfl ⟨hk, hR, hX⟩ h
