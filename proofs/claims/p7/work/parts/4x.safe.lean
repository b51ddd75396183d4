theorem dX12_keeps_0 : decode cX12_keeps 0 = .ok (.sipush 222, 3) := by decide +kernel
theorem dX12_keeps_3 : decode cX12_keeps 3 = .ok (.iload_n 1, 1) := by decide +kernel
theorem dX12_keeps_4 : decode cX12_keeps 4 = .ok (.imul, 1) := by decide +kernel
theorem dX12_keeps_5 : decode cX12_keeps 5 = .ok (.istore_n 3, 1) := by decide +kernel
theorem dX12_keeps_6 : decode cX12_keeps 6 = .ok (.iconst 0, 1) := by decide +kernel
theorem dX12_keeps_7 : decode cX12_keeps 7 = .ok (.istore 4, 2) := by decide +kernel
theorem dX12_keeps_9 : decode cX12_keeps 9 = .ok (.iload 4, 2) := by decide +kernel
theorem dX12_keeps_11 : decode cX12_keeps 11 = .ok (.sipush 222, 3) := by decide +kernel
theorem dX12_keeps_14 : decode cX12_keeps 14 = .ok (.if_icmp .ge 19, 3) := by decide +kernel
theorem dX12_keeps_33 : decode cX12_keeps 33 = .ok (.aload_n 0, 1) := by decide +kernel
theorem dX12_keeps_34 : decode cX12_keeps 34 = .ok (.getfield 100, 3) := by decide +kernel
theorem dX12_keeps_37 : decode cX12_keeps 37 = .ok (.iload_n 3, 1) := by decide +kernel
theorem dX12_keeps_38 : decode cX12_keeps 38 = .ok (.iload_n 2, 1) := by decide +kernel
theorem dX12_keeps_39 : decode cX12_keeps 39 = .ok (.i2l, 1) := by decide +kernel
theorem dX12_keeps_40 : decode cX12_keeps 40 = .ok (.lastore, 1) := by decide +kernel
section
variable {p : Program} {l : Launch} {e : Env} {R0 : Room} {s : State} {m : MethodId} {args : Array Value} {below : List Frame} {meth : Method} {c : Code} {H H0 : Heap} {locs : List Loc} {cells slots : Nat} {Q : State → Prop} {cc : ByteArray} {nL : Nat} {D : va_G} {cy : Nat → ClassId} {A : Nat → Prop} {L : List Nat} {R : Nat → Nat} {f : Nat → va_E} {pc : Nat} {ls : Array Slot} {rest : List Value} {a : Nat}
theorem st_83 {own : String} (F : CallFix p m c cc nL s args wsL_law own) (h : tS D cy A H0 L R (TT cy L R) f s H locs) {i : Int32} {x : Int64} (ha : a ∈ L) (hr : R a = 83) (hb : 0 ≤ i.toInt ∧ i.toInt < 44622) (hdg : decode cc pc = .ok (.lastore, 1)) (kk : ∀ (f1 : Nat → va_E) (H1 : Heap) (locs1 : List Loc), fr L R [] [83] f f1 → tS D cy A H0 L R (TT cy L R) f1 s H1 locs1 → W p l e R0 s m args below meth c H1 locs1 cells slots Q (F0 m (pc + 1) ls (rest))) : W p l e R0 s m args below meth c H locs cells slots Q (F0 m pc ls (.long x :: .int i :: .ref a :: rest)) := tu_last F h ha hr T_83 hb.1 hb.2 trivial hdg (fun f1 H1 locs1 h1 h2 h3 h4 => kk f1 H1 locs1 h3 h4)
end
theorem dX12_keeps_41 : decode cX12_keeps 41 = .ok (.aload_n 0, 1) := by decide +kernel
theorem dX12_keeps_42 : decode cX12_keeps 42 = .ok (.getfield 100, 3) := by decide +kernel
theorem dX12_keeps_45 : decode cX12_keeps 45 = .ok (.iload_n 3, 1) := by decide +kernel
theorem dX12_keeps_46 : decode cX12_keeps 46 = .ok (.iconst 1, 1) := by decide +kernel
theorem dX12_keeps_47 : decode cX12_keeps 47 = .ok (.iadd, 1) := by decide +kernel
theorem dX12_keeps_48 : decode cX12_keeps 48 = .ok (.aload_n 0, 1) := by decide +kernel
theorem dX12_keeps_49 : decode cX12_keeps 49 = .ok (.getfield 298, 3) := by decide +kernel
theorem dX12_keeps_52 : decode cX12_keeps 52 = .ok (.i2l, 1) := by decide +kernel
theorem dX12_keeps_53 : decode cX12_keeps 53 = .ok (.lastore, 1) := by decide +kernel
theorem dX12_keeps_54 : decode cX12_keeps 54 = .ok (.iconst 0, 1) := by decide +kernel
theorem dX12_keeps_55 : decode cX12_keeps 55 = .ok (.istore 4, 2) := by decide +kernel
theorem dX12_keeps_57 : decode cX12_keeps 57 = .ok (.iload 4, 2) := by decide +kernel
theorem dX12_keeps_59 : decode cX12_keeps 59 = .ok (.aload_n 0, 1) := by decide +kernel
theorem dX12_keeps_60 : decode cX12_keeps 60 = .ok (.getfield 298, 3) := by decide +kernel
theorem dX12_keeps_63 : decode cX12_keeps 63 = .ok (.if_icmp .ge 27, 3) := by decide +kernel
theorem dX12_keeps_90 : decode cX12_keeps 90 = .ok (.iconst 0, 1) := by decide +kernel
theorem dX12_keeps_91 : decode cX12_keeps 91 = .ok (.istore 4, 2) := by decide +kernel
theorem dX12_keeps_93 : decode cX12_keeps 93 = .ok (.iload 4, 2) := by decide +kernel
theorem dX12_keeps_95 : decode cX12_keeps 95 = .ok (.iconst 2, 1) := by decide +kernel
theorem dX12_keeps_96 : decode cX12_keeps 96 = .ok (.if_icmp .ge 176, 3) := by decide +kernel
theorem dX12_keeps_272 : decode cX12_keeps 272 = .ok (.return_, 1) := by decide +kernel
theorem dX12_keeps_99 : decode cX12_keeps 99 = .ok (.iload 4, 2) := by decide +kernel
theorem dX12_keeps_113 : decode cX12_keeps 113 = .ok (.istore 5, 2) := by decide +kernel
theorem dX12_keeps_115 : decode cX12_keeps 115 = .ok (.iload_n 3, 1) := by decide +kernel
theorem dX12_keeps_116 : decode cX12_keeps 116 = .ok (.bipush 14, 2) := by decide +kernel
theorem dX12_keeps_118 : decode cX12_keeps 118 = .ok (.iadd, 1) := by decide +kernel
theorem dX12_keeps_119 : decode cX12_keeps 119 = .ok (.bipush 104, 2) := by decide +kernel
theorem kb_104 : (Int8.ofInt 104).toInt32.toInt = 104 := by decide
theorem dX12_keeps_121 : decode cX12_keeps 121 = .ok (.iload 4, 2) := by decide +kernel
theorem dX12_keeps_123 : decode cX12_keeps 123 = .ok (.imul, 1) := by decide +kernel
theorem dX12_keeps_124 : decode cX12_keeps 124 = .ok (.iadd, 1) := by decide +kernel
theorem dX12_keeps_125 : decode cX12_keeps 125 = .ok (.istore 6, 2) := by decide +kernel
theorem dX12_keeps_127 : decode cX12_keeps 127 = .ok (.iconst 0, 1) := by decide +kernel
theorem dX12_keeps_128 : decode cX12_keeps 128 = .ok (.istore 7, 2) := by decide +kernel
theorem dX12_keeps_130 : decode cX12_keeps 130 = .ok (.iload 7, 2) := by decide +kernel
theorem dX12_keeps_132 : decode cX12_keeps 132 = .ok (.bipush 26, 2) := by decide +kernel
theorem dX12_keeps_134 : decode cX12_keeps 134 = .ok (.if_icmp .ge 33, 3) := by decide +kernel
theorem dX12_keeps_167 : decode cX12_keeps 167 = .ok (.iconst 0, 1) := by decide +kernel
theorem dX12_keeps_168 : decode cX12_keeps 168 = .ok (.istore 7, 2) := by decide +kernel
theorem dX12_keeps_170 : decode cX12_keeps 170 = .ok (.iload 7, 2) := by decide +kernel
theorem dX12_keeps_172 : decode cX12_keeps 172 = .ok (.i2l, 1) := by decide +kernel
theorem dX12_keeps_173 : decode cX12_keeps 173 = .ok (.aload_n 0, 1) := by decide +kernel
theorem dX12_keeps_174 : decode cX12_keeps 174 = .ok (.getfield 7, 3) := by decide +kernel
theorem dX12_keeps_177 : decode cX12_keeps 177 = .ok (.iload 5, 2) := by decide +kernel
theorem dX12_keeps_179 : decode cX12_keeps 179 = .ok (.sipush 1567, 3) := by decide +kernel
theorem dX12_keeps_182 : decode cX12_keeps 182 = .ok (.iadd, 1) := by decide +kernel
theorem dX12_keeps_183 : decode cX12_keeps 183 = .ok (.laload, 1) := by decide +kernel
theorem dX12_keeps_184 : decode cX12_keeps 184 = .ok (.lcmp, 1) := by decide +kernel
theorem dX12_keeps_185 : decode cX12_keeps 185 = .ok (.ifCond .ge 81, 3) := by decide +kernel
theorem dX12_keeps_266 : decode cX12_keeps 266 = .ok (.iinc 4 1, 3) := by decide +kernel
theorem dX12_keeps_269 : decode cX12_keeps 269 = .ok (.goto (-176), 3) := by decide +kernel
theorem dX12_keeps_188 : decode cX12_keeps 188 = .ok (.iconst 0, 1) := by decide +kernel
theorem dX12_keeps_189 : decode cX12_keeps 189 = .ok (.istore 8, 2) := by decide +kernel
theorem dX12_keeps_191 : decode cX12_keeps 191 = .ok (.iload 8, 2) := by decide +kernel
theorem dX12_keeps_193 : decode cX12_keeps 193 = .ok (.i2l, 1) := by decide +kernel
theorem dX12_keeps_194 : decode cX12_keeps 194 = .ok (.aload_n 0, 1) := by decide +kernel
theorem dX12_keeps_195 : decode cX12_keeps 195 = .ok (.getfield 7, 3) := by decide +kernel
theorem dX12_keeps_198 : decode cX12_keeps 198 = .ok (.iload 5, 2) := by decide +kernel
theorem dX12_keeps_200 : decode cX12_keeps 200 = .ok (.sipush 1568, 3) := by decide +kernel
theorem dX12_keeps_203 : decode cX12_keeps 203 = .ok (.iadd, 1) := by decide +kernel
theorem dX12_keeps_204 : decode cX12_keeps 204 = .ok (.bipush 13, 2) := by decide +kernel
theorem dX12_keeps_206 : decode cX12_keeps 206 = .ok (.iload 7, 2) := by decide +kernel
theorem dX12_keeps_208 : decode cX12_keeps 208 = .ok (.imul, 1) := by decide +kernel
theorem dX12_keeps_209 : decode cX12_keeps 209 = .ok (.iadd, 1) := by decide +kernel
theorem dX12_keeps_210 : decode cX12_keeps 210 = .ok (.laload, 1) := by decide +kernel
theorem dX12_keeps_211 : decode cX12_keeps 211 = .ok (.lcmp, 1) := by decide +kernel
theorem dX12_keeps_212 : decode cX12_keeps 212 = .ok (.ifCond .gt 48, 3) := by decide +kernel
theorem dX12_keeps_260 : decode cX12_keeps 260 = .ok (.iinc 7 1, 3) := by decide +kernel
theorem dX12_keeps_263 : decode cX12_keeps 263 = .ok (.goto (-93), 3) := by decide +kernel
theorem dX12_keeps_215 : decode cX12_keeps 215 = .ok (.aload_n 0, 1) := by decide +kernel
theorem dX12_keeps_216 : decode cX12_keeps 216 = .ok (.getfield 100, 3) := by decide +kernel
theorem dX12_keeps_219 : decode cX12_keeps 219 = .ok (.iload 6, 2) := by decide +kernel
theorem dX12_keeps_221 : decode cX12_keeps 221 = .ok (.bipush 26, 2) := by decide +kernel
theorem dX12_keeps_223 : decode cX12_keeps 223 = .ok (.iadd, 1) := by decide +kernel
theorem dX12_keeps_224 : decode cX12_keeps 224 = .ok (.bipush 13, 2) := by decide +kernel
theorem dX12_keeps_226 : decode cX12_keeps 226 = .ok (.iload 7, 2) := by decide +kernel
theorem dX12_keeps_228 : decode cX12_keeps 228 = .ok (.imul, 1) := by decide +kernel
theorem dX12_keeps_229 : decode cX12_keeps 229 = .ok (.iadd, 1) := by decide +kernel
theorem dX12_keeps_230 : decode cX12_keeps 230 = .ok (.iload 8, 2) := by decide +kernel
theorem dX12_keeps_232 : decode cX12_keeps 232 = .ok (.iadd, 1) := by decide +kernel
theorem dX12_keeps_233 : decode cX12_keeps 233 = .ok (.aload_n 0, 1) := by decide +kernel
theorem dX12_keeps_234 : decode cX12_keeps 234 = .ok (.getfield 7, 3) := by decide +kernel
theorem dX12_keeps_237 : decode cX12_keeps 237 = .ok (.iload 5, 2) := by decide +kernel
theorem dX12_keeps_239 : decode cX12_keeps 239 = .ok (.sipush 1568, 3) := by decide +kernel
theorem dX12_keeps_242 : decode cX12_keeps 242 = .ok (.iadd, 1) := by decide +kernel
theorem dX12_keeps_243 : decode cX12_keeps 243 = .ok (.bipush 13, 2) := by decide +kernel
theorem dX12_keeps_245 : decode cX12_keeps 245 = .ok (.iload 7, 2) := by decide +kernel
theorem dX12_keeps_247 : decode cX12_keeps 247 = .ok (.imul, 1) := by decide +kernel
theorem dX12_keeps_248 : decode cX12_keeps 248 = .ok (.iadd, 1) := by decide +kernel
theorem dX12_keeps_249 : decode cX12_keeps 249 = .ok (.iload 8, 2) := by decide +kernel
theorem dX12_keeps_251 : decode cX12_keeps 251 = .ok (.iadd, 1) := by decide +kernel
theorem dX12_keeps_252 : decode cX12_keeps 252 = .ok (.laload, 1) := by decide +kernel
theorem dX12_keeps_253 : decode cX12_keeps 253 = .ok (.lastore, 1) := by decide +kernel
theorem dX12_keeps_254 : decode cX12_keeps 254 = .ok (.iinc 8 1, 3) := by decide +kernel
theorem dX12_keeps_257 : decode cX12_keeps 257 = .ok (.goto (-66), 3) := by decide +kernel
theorem dX12_keeps_137 : decode cX12_keeps 137 = .ok (.aload_n 0, 1) := by decide +kernel
theorem dX12_keeps_138 : decode cX12_keeps 138 = .ok (.getfield 100, 3) := by decide +kernel
theorem dX12_keeps_141 : decode cX12_keeps 141 = .ok (.iload 6, 2) := by decide +kernel
theorem dX12_keeps_143 : decode cX12_keeps 143 = .ok (.iload 7, 2) := by decide +kernel
theorem dX12_keeps_145 : decode cX12_keeps 145 = .ok (.iadd, 1) := by decide +kernel
theorem dX12_keeps_146 : decode cX12_keeps 146 = .ok (.aload_n 0, 1) := by decide +kernel
theorem dX12_keeps_147 : decode cX12_keeps 147 = .ok (.getfield 7, 3) := by decide +kernel
theorem dX12_keeps_150 : decode cX12_keeps 150 = .ok (.iload 5, 2) := by decide +kernel
theorem dX12_keeps_152 : decode cX12_keeps 152 = .ok (.sipush 1542, 3) := by decide +kernel
theorem dX12_keeps_155 : decode cX12_keeps 155 = .ok (.iadd, 1) := by decide +kernel
theorem dX12_keeps_156 : decode cX12_keeps 156 = .ok (.iload 7, 2) := by decide +kernel
theorem dX12_keeps_158 : decode cX12_keeps 158 = .ok (.iadd, 1) := by decide +kernel
theorem dX12_keeps_159 : decode cX12_keeps 159 = .ok (.laload, 1) := by decide +kernel
theorem dX12_keeps_160 : decode cX12_keeps 160 = .ok (.lastore, 1) := by decide +kernel
theorem dX12_keeps_161 : decode cX12_keeps 161 = .ok (.iinc 7 1, 3) := by decide +kernel
theorem dX12_keeps_164 : decode cX12_keeps 164 = .ok (.goto (-34), 3) := by decide +kernel
theorem dX12_keeps_101 : decode cX12_keeps 101 = .ok (.ifCond .ne 9, 3) := by decide +kernel
theorem dX12_keeps_110 : decode cX12_keeps 110 = .ok (.sipush 24060, 3) := by decide +kernel
theorem ks_24060 : (Int16.ofInt 24060).toInt32.toInt = 24060 := by decide
theorem dX12_keeps_104 : decode cX12_keeps 104 = .ok (.sipush 22410, 3) := by decide +kernel
theorem dX12_keeps_107 : decode cX12_keeps 107 = .ok (.goto 6, 3) := by decide +kernel
theorem dX12_keeps_66 : decode cX12_keeps 66 = .ok (.aload_n 0, 1) := by decide +kernel
theorem dX12_keeps_67 : decode cX12_keeps 67 = .ok (.getfield 100, 3) := by decide +kernel
theorem dX12_keeps_70 : decode cX12_keeps 70 = .ok (.iload_n 3, 1) := by decide +kernel
theorem dX12_keeps_71 : decode cX12_keeps 71 = .ok (.iconst 2, 1) := by decide +kernel
theorem dX12_keeps_72 : decode cX12_keeps 72 = .ok (.iadd, 1) := by decide +kernel
theorem dX12_keeps_73 : decode cX12_keeps 73 = .ok (.iload 4, 2) := by decide +kernel
theorem dX12_keeps_75 : decode cX12_keeps 75 = .ok (.iadd, 1) := by decide +kernel
theorem dX12_keeps_76 : decode cX12_keeps 76 = .ok (.aload_n 0, 1) := by decide +kernel
theorem dX12_keeps_77 : decode cX12_keeps 77 = .ok (.getfield 60, 3) := by decide +kernel
theorem dX12_keeps_80 : decode cX12_keeps 80 = .ok (.iload 4, 2) := by decide +kernel
theorem dX12_keeps_82 : decode cX12_keeps 82 = .ok (.laload, 1) := by decide +kernel
theorem dX12_keeps_83 : decode cX12_keeps 83 = .ok (.lastore, 1) := by decide +kernel
theorem dX12_keeps_84 : decode cX12_keeps 84 = .ok (.iinc 4 1, 3) := by decide +kernel
theorem dX12_keeps_87 : decode cX12_keeps 87 = .ok (.goto (-30), 3) := by decide +kernel
theorem dX12_keeps_17 : decode cX12_keeps 17 = .ok (.aload_n 0, 1) := by decide +kernel
theorem dX12_keeps_18 : decode cX12_keeps 18 = .ok (.getfield 100, 3) := by decide +kernel
theorem dX12_keeps_21 : decode cX12_keeps 21 = .ok (.iload_n 3, 1) := by decide +kernel
theorem dX12_keeps_22 : decode cX12_keeps 22 = .ok (.iload 4, 2) := by decide +kernel
theorem dX12_keeps_24 : decode cX12_keeps 24 = .ok (.iadd, 1) := by decide +kernel
theorem dX12_keeps_25 : decode cX12_keeps 25 = .ok (.lconst 0, 1) := by decide +kernel
theorem dX12_keeps_26 : decode cX12_keeps 26 = .ok (.lastore, 1) := by decide +kernel
theorem dX12_keeps_27 : decode cX12_keeps 27 = .ok (.iinc 4 1, 3) := by decide +kernel
theorem dX12_keeps_30 : decode cX12_keeps 30 = .ok (.goto (-21), 3) := by decide +kernel
def rm_X12_keeps : Room := { frames := 0, cells := 0, slots := 0, locals := 0 }
set_option maxHeartbeats 4000000 in
set_option maxRecDepth 100000 in
theorem s_X12_keeps (l : Launch) (D : va_G) (cy : Nat → ClassId) (L : List Nat) (R O : Nat → Nat) (f0 : Nat → va_E) (a0 : Nat) (m_a0 : a0 ∈ L) (r_a0 : R a0 = 12) (x1 : Int32) (b1 : 0 ≤ x1.toInt ∧ x1.toInt ≤ 200) (x2 : Int32) (b2 : 0 ≤ x2.toInt ∧ x2.toInt ≤ 1) : ∀ sz, Met l yX12_keeps (Cond.code yX12_keeps cX12_keeps 9 none :: wsL_law) rm_X12_keeps (va_Pc [.ref a0, .int x1, .int x2] (tPZ D cy L R (TT cy L R) f0 sz)) (va_Qv (fun f1 => fr L R [] [83] f0 f1) (tB D (tA L sz) L R (TT cy L R)) (tA L sz)) 0 0 (tA L sz) := by
  refine tw_enterv (by decide +kernel) rfl (Nat.le_of_ble_eq_true rfl) ?_
  intro p e s m below meth c A ls args Q F hZ h hl hret
  have hl : lv_has ls 9 [(0, .ref a0), (1, .int x1), (2, .int x2)] := hl
  have hk : fr L R [] [83] f0 f0 := fr.rf
  refine tw_sipush F dX12_keeps_0 ks_222 (fun z1 hz1 => ?_)
  refine lv_iload_n F.1 F.2.1 dX12_keeps_3 rfl (lv_at hl 1 rfl) ?_
  refine tu_imull F dX12_keeps_4 hz1 (by omega) (fun z2 hz2 => ?_)
  refine lv_istore_n (lv' := [(3, .int z2), (0, .ref a0), (1, .int x1), (2, .int x2)]) F.1 F.2.1 dX12_keeps_5 rfl hl (by decide) rfl (fun ls hl => ?_)
  refine tw_iconst F dX12_keeps_6 ki_0 (fun z3 hz3 => ?_)
  refine lv_istore (lv' := [(4, .int z3), (3, .int z2), (0, .ref a0), (1, .int x1), (2, .int x2)]) F.1 F.2.1 dX12_keeps_7 hl (by decide) rfl (fun ls hl => ?_)
  have j_9 : ∀ (n9 : Nat) (f4 : Nat → va_E) (H : Heap) (locs : List Loc) (ls : Array Slot) (x4_9 : Int32), 0 ≤ x4_9.toInt → x4_9.toInt ≤ 222 → ((222 - x4_9.toInt)).toNat < n9 → tS D cy A s.heap L R (TT cy L R) f4 s H locs → fr L R [] [83] f0 f4 → lv_has ls 9 [(0, .ref a0), (2, .int x2), (3, .int z2), (4, .int x4_9)] → W p l e rm_X12_keeps s m args below meth c H locs 0 0 Q (F0 m 9 ls []) := by
    intro n9
    induction n9 with
    | zero =>
      intro f4 H locs ls x4_9 b5 b6 b7 h hk hl
      exfalso
      omega
    | succ n9 ih9 =>
      intro f4 H locs ls x4_9 b5 b6 b7 h hk hl
      refine lv_iload F.1 F.2.1 dX12_keeps_9 (lv_at hl 3 rfl) ?_
      refine tw_sipush F dX12_keeps_11 ks_222 (fun z8 hz8 => ?_)
      refine tw_icmp_ge (tgt := 33) F dX12_keeps_14 (by decide) (fun b9 => ?_) (fun b9 => ?_)
      · refine lv_aload_n F.1 F.2.1 dX12_keeps_33 rfl (lv_at hl 0 rfl) ?_
        refine g_12_100 F h m_a0 r_a0 dX12_keeps_34 (fun o10 m_o10 r_o10 ho10 => ?_)
        refine lv_iload_n F.1 F.2.1 dX12_keeps_37 rfl (lv_at hl 2 rfl) ?_
        refine lv_iload_n F.1 F.2.1 dX12_keeps_38 rfl (lv_at hl 1 rfl) ?_
        refine tw_i2l F dX12_keeps_39 (fun z11 hz11 => ?_)
        refine st_83 F h m_o10 r_o10 (by omega) dX12_keeps_40 (fun f12 H locs hf12 h => ?_)
        have hk : fr L R [] [83] f0 f12 := hk.tr hf12 rfl rfl
        refine lv_aload_n F.1 F.2.1 dX12_keeps_41 rfl (lv_at hl 0 rfl) ?_
        refine g_12_100 F h m_a0 r_a0 dX12_keeps_42 (fun o13 m_o13 r_o13 ho13 => ?_)
        refine lv_iload_n F.1 F.2.1 dX12_keeps_45 rfl (lv_at hl 2 rfl) ?_
        refine tw_iconst F dX12_keeps_46 ki_1 (fun z14 hz14 => ?_)
        refine tu_iadd F dX12_keeps_47 (by omega) (fun z15 hz15 => ?_)
        refine lv_aload_n F.1 F.2.1 dX12_keeps_48 rfl (lv_at hl 0 rfl) ?_
        refine g_12_298 F h m_a0 r_a0 dX12_keeps_49 (fun v16 hv16 hv16a hv16b => ?_)
        refine tw_i2l F dX12_keeps_52 (fun z17 hz17 => ?_)
        refine st_83 F h m_o13 r_o13 (by omega) dX12_keeps_53 (fun f18 H locs hf18 h => ?_)
        have hk : fr L R [] [83] f0 f18 := hk.tr hf18 rfl rfl
        have e19 : fi f18 a0 28 = fi f12 a0 28 := hf18.efi m_a0 r_a0 rfl
        refine tw_iconst F dX12_keeps_54 ki_0 (fun z20 hz20 => ?_)
        refine lv_istore (lv' := [(4, .int z20), (0, .ref a0), (2, .int x2), (3, .int z2)]) F.1 F.2.1 dX12_keeps_55 hl (by decide) rfl (fun ls hl => ?_)
        have j_57 : ∀ (n57 : Nat) (f21 : Nat → va_E) (H : Heap) (locs : List Loc) (ls : Array Slot) (x4_57 : Int32), 0 ≤ x4_57.toInt → x4_57.toInt ≤ 12 → ((12 - x4_57.toInt)).toNat < n57 → tS D cy A s.heap L R (TT cy L R) f21 s H locs → fr L R [] [83] f0 f21 → fr L R [] [83] f18 f21 → lv_has ls 9 [(0, .ref a0), (3, .int z2), (4, .int x4_57)] → W p l e rm_X12_keeps s m args below meth c H locs 0 0 Q (F0 m 57 ls []) := by
          intro n57
          induction n57 with
          | zero =>
            intro f21 H locs ls x4_57 b22 b23 b24 h hk hb57 hl
            exfalso
            omega
          | succ n57 ih57 =>
            intro f21 H locs ls x4_57 b22 b23 b24 h hk hb57 hl
            have e25 : fi f21 a0 28 = fi f18 a0 28 := hb57.efi m_a0 r_a0 rfl
            refine lv_iload F.1 F.2.1 dX12_keeps_57 (lv_at hl 2 rfl) ?_
            refine lv_aload_n F.1 F.2.1 dX12_keeps_59 rfl (lv_at hl 0 rfl) ?_
            refine g_12_298 F h m_a0 r_a0 dX12_keeps_60 (fun v26 hv26 hv26a hv26b => ?_)
            refine tw_icmp_ge (tgt := 90) F dX12_keeps_63 (by decide) (fun b27 => ?_) (fun b27 => ?_)
            · refine tw_iconst F dX12_keeps_90 ki_0 (fun z28 hz28 => ?_)
              refine lv_istore (lv' := [(4, .int z28), (0, .ref a0), (3, .int z2)]) F.1 F.2.1 dX12_keeps_91 hl (by decide) rfl (fun ls hl => ?_)
              have j_93 : ∀ (n93 : Nat) (f29 : Nat → va_E) (H : Heap) (locs : List Loc) (ls : Array Slot) (x4_93 : Int32), 0 ≤ x4_93.toInt → x4_93.toInt ≤ 2 → ((2 - x4_93.toInt)).toNat < n93 → tS D cy A s.heap L R (TT cy L R) f29 s H locs → fr L R [] [83] f0 f29 → fr L R [] [83] f21 f29 → lv_has ls 9 [(0, .ref a0), (3, .int z2), (4, .int x4_93)] → W p l e rm_X12_keeps s m args below meth c H locs 0 0 Q (F0 m 93 ls []) := by
                intro n93
                induction n93 with
                | zero =>
                  intro f29 H locs ls x4_93 b30 b31 b32 h hk hb93 hl
                  exfalso
                  omega
                | succ n93 ih93 =>
                  intro f29 H locs ls x4_93 b30 b31 b32 h hk hb93 hl
                  have hb57 : fr L R [] [83] f18 f29 := hb57.tr hb93 rfl rfl
                  have e33 : fi f29 a0 28 = fi f21 a0 28 := hb93.efi m_a0 r_a0 rfl
                  refine lv_iload F.1 F.2.1 dX12_keeps_93 (lv_at hl 2 rfl) ?_
                  refine tw_iconst F dX12_keeps_95 ki_2 (fun z34 hz34 => ?_)
                  refine tw_icmp_ge (tgt := 272) F dX12_keeps_96 (by decide) (fun b35 => ?_) (fun b35 => ?_)
                  · exact hret f29 _ _ _ _ dX12_keeps_272 hk h
                  · refine lv_iload F.1 F.2.1 dX12_keeps_99 (lv_at hl 2 rfl) ?_
                    have j_113 : ∀ (ls : Array Slot) (y0_113 : Int32), 22410 ≤ y0_113.toInt → y0_113.toInt ≤ 24060 → (y0_113.toInt = 22410 ∨ y0_113.toInt = 24060) → lv_has ls 9 [(0, .ref a0), (3, .int z2), (4, .int x4_93)] → W p l e rm_X12_keeps s m args below meth c H locs 0 0 Q (F0 m 113 ls [.int y0_113]) := by
                      intro ls y0_113 b36 b37 b38 hl
                      refine lv_istore (lv' := [(5, .int y0_113), (0, .ref a0), (3, .int z2), (4, .int x4_93)]) F.1 F.2.1 dX12_keeps_113 hl (by decide) rfl (fun ls hl => ?_)
                      refine lv_iload_n F.1 F.2.1 dX12_keeps_115 rfl (lv_at hl 2 rfl) ?_
                      refine tw_bipush F dX12_keeps_116 kb_14 (fun z39 hz39 => ?_)
                      refine tu_iadd F dX12_keeps_118 (by omega) (fun z40 hz40 => ?_)
                      refine tw_bipush F dX12_keeps_119 kb_104 (fun z41 hz41 => ?_)
                      refine lv_iload F.1 F.2.1 dX12_keeps_121 (lv_at hl 3 rfl) ?_
                      refine tu_imull F dX12_keeps_123 hz41 (by omega) (fun z42 hz42 => ?_)
                      refine tu_iadd F dX12_keeps_124 (by omega) (fun z43 hz43 => ?_)
                      refine lv_istore (lv' := [(6, .int z43), (5, .int y0_113), (0, .ref a0), (3, .int z2), (4, .int x4_93)]) F.1 F.2.1 dX12_keeps_125 hl (by decide) rfl (fun ls hl => ?_)
                      refine tw_iconst F dX12_keeps_127 ki_0 (fun z44 hz44 => ?_)
                      refine lv_istore (lv' := [(7, .int z44), (6, .int z43), (5, .int y0_113), (0, .ref a0), (3, .int z2), (4, .int x4_93)]) F.1 F.2.1 dX12_keeps_128 hl (by decide) rfl (fun ls hl => ?_)
                      have j_130 : ∀ (n130 : Nat) (f45 : Nat → va_E) (H : Heap) (locs : List Loc) (ls : Array Slot) (x7_130 : Int32), 0 ≤ x7_130.toInt → x7_130.toInt ≤ 26 → ((26 - x7_130.toInt)).toNat < n130 → tS D cy A s.heap L R (TT cy L R) f45 s H locs → fr L R [] [83] f0 f45 → fr L R [] [83] f29 f45 → lv_has ls 9 [(0, .ref a0), (3, .int z2), (4, .int x4_93), (5, .int y0_113), (6, .int z43), (7, .int x7_130)] → W p l e rm_X12_keeps s m args below meth c H locs 0 0 Q (F0 m 130 ls []) := by
                        intro n130
                        induction n130 with
                        | zero =>
                          intro f45 H locs ls x7_130 b46 b47 b48 h hk hb130 hl
                          exfalso
                          omega
                        | succ n130 ih130 =>
                          intro f45 H locs ls x7_130 b46 b47 b48 h hk hb130 hl
                          have hb57 : fr L R [] [83] f18 f45 := hb57.tr hb130 rfl rfl
                          have hb93 : fr L R [] [83] f21 f45 := hb93.tr hb130 rfl rfl
                          have e49 : fi f45 a0 28 = fi f29 a0 28 := hb130.efi m_a0 r_a0 rfl
                          refine lv_iload F.1 F.2.1 dX12_keeps_130 (lv_at hl 5 rfl) ?_
                          refine tw_bipush F dX12_keeps_132 kb_26 (fun z50 hz50 => ?_)
                          refine tw_icmp_ge (tgt := 167) F dX12_keeps_134 (by decide) (fun b51 => ?_) (fun b51 => ?_)
                          · refine tw_iconst F dX12_keeps_167 ki_0 (fun z52 hz52 => ?_)
                            refine lv_istore (lv' := [(7, .int z52), (0, .ref a0), (3, .int z2), (4, .int x4_93), (5, .int y0_113), (6, .int z43)]) F.1 F.2.1 dX12_keeps_168 hl (by decide) rfl (fun ls hl => ?_)
                            have j_170 : ∀ (n170 : Nat) (f53 : Nat → va_E) (H : Heap) (locs : List Loc) (ls : Array Slot) (x7_170 : Int32), 0 ≤ x7_170.toInt → x7_170.toInt ≤ 6 → ((6 - x7_170.toInt)).toNat < n170 → tS D cy A s.heap L R (TT cy L R) f53 s H locs → fr L R [] [83] f0 f53 → fr L R [] [83] f45 f53 → lv_has ls 9 [(0, .ref a0), (3, .int z2), (4, .int x4_93), (5, .int y0_113), (6, .int z43), (7, .int x7_170)] → W p l e rm_X12_keeps s m args below meth c H locs 0 0 Q (F0 m 170 ls []) := by
                              intro n170
                              induction n170 with
                              | zero =>
                                intro f53 H locs ls x7_170 b54 b55 b56 h hk hb170 hl
                                exfalso
                                omega
                              | succ n170 ih170 =>
                                intro f53 H locs ls x7_170 b54 b55 b56 h hk hb170 hl
                                have hb57 : fr L R [] [83] f18 f53 := hb57.tr hb170 rfl rfl
                                have hb93 : fr L R [] [83] f21 f53 := hb93.tr hb170 rfl rfl
                                have hb130 : fr L R [] [83] f29 f53 := hb130.tr hb170 rfl rfl
                                have e57 : fi f53 a0 28 = fi f45 a0 28 := hb170.efi m_a0 r_a0 rfl
                                refine lv_iload F.1 F.2.1 dX12_keeps_170 (lv_at hl 5 rfl) ?_
                                refine tw_i2l F dX12_keeps_172 (fun z58 hz58 => ?_)
                                refine lv_aload_n F.1 F.2.1 dX12_keeps_173 rfl (lv_at hl 0 rfl) ?_
                                refine g_12_7 F h m_a0 r_a0 dX12_keeps_174 (fun o59 m_o59 r_o59 ho59 => ?_)
                                refine lv_iload F.1 F.2.1 dX12_keeps_177 (lv_at hl 3 rfl) ?_
                                refine tw_sipush F dX12_keeps_179 ks_1567 (fun z60 hz60 => ?_)
                                refine tu_iadd F dX12_keeps_182 (by omega) (fun z61 hz61 => ?_)
                                refine ld_61 F h m_o59 r_o59 (by omega) dX12_keeps_183 (fun v62 hv62a => ?_)
                                have hv62b := clP_9.mp (atb hv62a (ac_c (b := y0_113.toInt.toNat) 1567 (isB_c (show y0_113.toInt.toNat = 22410 ∨ y0_113.toInt.toNat = 24060 by omega)) (by decide) (by omega) rfl))
                                refine tw_lcmp F dX12_keeps_184 (fun z63 hz63 => ?_)
                                refine tw_if_ge (tgt := 266) F dX12_keeps_185 (by decide) (fun b64 => ?_) (fun b64 => ?_)
                                · refine tu_iinc F dX12_keeps_266 hl (k := 2) rfl (by decide) ki_1 (by omega) (fun z65 ls hz65 hl => ?_)
                                  have hl : lv_has ls 9 [(4, .int z65), (0, .ref a0), (3, .int z2), (5, .int y0_113), (6, .int z43), (7, .int x7_170)] := hl
                                  refine lv_goto (tgt := 93) F.1 F.2.1 dX12_keeps_269 (by decide) ?_
                                  exact ih93 f53 _ _ _ z65 (by omega) (by omega) (by omega) h hk hb93 (lv_sub hl [1, 2, 0] rfl)
                                · refine tw_iconst F dX12_keeps_188 ki_0 (fun z66 hz66 => ?_)
                                  refine lv_istore (lv' := [(8, .int z66), (0, .ref a0), (3, .int z2), (4, .int x4_93), (5, .int y0_113), (6, .int z43), (7, .int x7_170)]) F.1 F.2.1 dX12_keeps_189 hl (by decide) rfl (fun ls hl => ?_)
                                  have j_191 : ∀ (n191 : Nat) (f67 : Nat → va_E) (H : Heap) (locs : List Loc) (ls : Array Slot) (x8_191 : Int32), 0 ≤ x8_191.toInt → x8_191.toInt ≤ 13 → ((13 - x8_191.toInt)).toNat < n191 → tS D cy A s.heap L R (TT cy L R) f67 s H locs → fr L R [] [83] f0 f67 → fr L R [] [83] f53 f67 → lv_has ls 9 [(0, .ref a0), (3, .int z2), (4, .int x4_93), (5, .int y0_113), (6, .int z43), (7, .int x7_170), (8, .int x8_191)] → W p l e rm_X12_keeps s m args below meth c H locs 0 0 Q (F0 m 191 ls []) := by
                                    intro n191
                                    induction n191 with
                                    | zero =>
                                      intro f67 H locs ls x8_191 b68 b69 b70 h hk hb191 hl
                                      exfalso
                                      omega
                                    | succ n191 ih191 =>
                                      intro f67 H locs ls x8_191 b68 b69 b70 h hk hb191 hl
                                      have hb57 : fr L R [] [83] f18 f67 := hb57.tr hb191 rfl rfl
                                      have hb93 : fr L R [] [83] f21 f67 := hb93.tr hb191 rfl rfl
                                      have hb130 : fr L R [] [83] f29 f67 := hb130.tr hb191 rfl rfl
                                      have hb170 : fr L R [] [83] f45 f67 := hb170.tr hb191 rfl rfl
                                      have e71 : fi f67 a0 28 = fi f53 a0 28 := hb191.efi m_a0 r_a0 rfl
                                      refine lv_iload F.1 F.2.1 dX12_keeps_191 (lv_at hl 6 rfl) ?_
                                      refine tw_i2l F dX12_keeps_193 (fun z72 hz72 => ?_)
                                      refine lv_aload_n F.1 F.2.1 dX12_keeps_194 rfl (lv_at hl 0 rfl) ?_
                                      refine g_12_7 F h m_a0 r_a0 dX12_keeps_195 (fun o73 m_o73 r_o73 ho73 => ?_)
                                      refine lv_iload F.1 F.2.1 dX12_keeps_198 (lv_at hl 3 rfl) ?_
                                      refine tw_sipush F dX12_keeps_200 ks_1568 (fun z74 hz74 => ?_)
                                      refine tu_iadd F dX12_keeps_203 (by omega) (fun z75 hz75 => ?_)
                                      refine tw_bipush F dX12_keeps_204 kb_13 (fun z76 hz76 => ?_)
                                      refine lv_iload F.1 F.2.1 dX12_keeps_206 (lv_at hl 5 rfl) ?_
                                      refine tu_imull F dX12_keeps_208 hz76 (by omega) (fun z77 hz77 => ?_)
                                      refine tu_iadd F dX12_keeps_209 (by omega) (fun z78 hz78 => ?_)
                                      refine ld_61 F h m_o73 r_o73 (by omega) dX12_keeps_210 (fun v79 hv79a => ?_)
                                      have hv79b := clP_10.mp (atb hv79a (ac_kl (b := y0_113.toInt.toNat) (isB_c (show y0_113.toInt.toNat = 22410 ∨ y0_113.toInt.toNat = 24060 by omega)) (by omega)))
                                      refine tw_lcmp F dX12_keeps_211 (fun z80 hz80 => ?_)
                                      refine tw_if_gt (tgt := 260) F dX12_keeps_212 (by decide) (fun b81 => ?_) (fun b81 => ?_)
                                      · refine tu_iinc F dX12_keeps_260 hl (k := 5) rfl (by decide) ki_1 (by omega) (fun z82 ls hz82 hl => ?_)
                                        have hl : lv_has ls 9 [(7, .int z82), (0, .ref a0), (3, .int z2), (4, .int x4_93), (5, .int y0_113), (6, .int z43), (8, .int x8_191)] := hl
                                        refine lv_goto (tgt := 170) F.1 F.2.1 dX12_keeps_263 (by decide) ?_
                                        exact ih170 f67 _ _ _ z82 (by omega) (by omega) (by omega) h hk hb170 (lv_sub hl [1, 2, 3, 4, 5, 0] rfl)
                                      · refine lv_aload_n F.1 F.2.1 dX12_keeps_215 rfl (lv_at hl 0 rfl) ?_
                                        refine g_12_100 F h m_a0 r_a0 dX12_keeps_216 (fun o83 m_o83 r_o83 ho83 => ?_)
                                        refine lv_iload F.1 F.2.1 dX12_keeps_219 (lv_at hl 4 rfl) ?_
                                        refine tw_bipush F dX12_keeps_221 kb_26 (fun z84 hz84 => ?_)
                                        refine tu_iadd F dX12_keeps_223 (by omega) (fun z85 hz85 => ?_)
                                        refine tw_bipush F dX12_keeps_224 kb_13 (fun z86 hz86 => ?_)
                                        refine lv_iload F.1 F.2.1 dX12_keeps_226 (lv_at hl 5 rfl) ?_
                                        refine tu_imull F dX12_keeps_228 hz86 (by omega) (fun z87 hz87 => ?_)
                                        refine tu_iadd F dX12_keeps_229 (by omega) (fun z88 hz88 => ?_)
                                        refine lv_iload F.1 F.2.1 dX12_keeps_230 (lv_at hl 6 rfl) ?_
                                        refine tu_iadd F dX12_keeps_232 (by omega) (fun z89 hz89 => ?_)
                                        refine lv_aload_n F.1 F.2.1 dX12_keeps_233 rfl (lv_at hl 0 rfl) ?_
                                        refine g_12_7 F h m_a0 r_a0 dX12_keeps_234 (fun o90 m_o90 r_o90 ho90 => ?_)
                                        refine lv_iload F.1 F.2.1 dX12_keeps_237 (lv_at hl 3 rfl) ?_
                                        refine tw_sipush F dX12_keeps_239 ks_1568 (fun z91 hz91 => ?_)
                                        refine tu_iadd F dX12_keeps_242 (by omega) (fun z92 hz92 => ?_)
                                        refine tw_bipush F dX12_keeps_243 kb_13 (fun z93 hz93 => ?_)
                                        refine lv_iload F.1 F.2.1 dX12_keeps_245 (lv_at hl 5 rfl) ?_
                                        refine tu_imull F dX12_keeps_247 hz93 (by omega) (fun z94 hz94 => ?_)
                                        refine tu_iadd F dX12_keeps_248 (by omega) (fun z95 hz95 => ?_)
                                        refine lv_iload F.1 F.2.1 dX12_keeps_249 (lv_at hl 6 rfl) ?_
                                        refine tu_iadd F dX12_keeps_251 (by omega) (fun z96 hz96 => ?_)
                                        refine ld_61 F h m_o90 r_o90 (by omega) dX12_keeps_252 (fun v97 hv97a => ?_)
                                        refine st_83 F h m_o83 r_o83 (by omega) dX12_keeps_253 (fun f98 H locs hf98 h => ?_)
                                        have hk : fr L R [] [83] f0 f98 := hk.tr hf98 rfl rfl
                                        have hb57 : fr L R [] [83] f18 f98 := hb57.tr hf98 rfl rfl
                                        have hb93 : fr L R [] [83] f21 f98 := hb93.tr hf98 rfl rfl
                                        have hb130 : fr L R [] [83] f29 f98 := hb130.tr hf98 rfl rfl
                                        have hb170 : fr L R [] [83] f45 f98 := hb170.tr hf98 rfl rfl
                                        have hb191 : fr L R [] [83] f53 f98 := hb191.tr hf98 rfl rfl
                                        have e99 : fi f98 a0 28 = fi f67 a0 28 := hf98.efi m_a0 r_a0 rfl
                                        refine tu_iinc F dX12_keeps_254 hl (k := 6) rfl (by decide) ki_1 (by omega) (fun z100 ls hz100 hl => ?_)
                                        have hl : lv_has ls 9 [(8, .int z100), (0, .ref a0), (3, .int z2), (4, .int x4_93), (5, .int y0_113), (6, .int z43), (7, .int x7_170)] := hl
                                        refine lv_goto (tgt := 191) F.1 F.2.1 dX12_keeps_257 (by decide) ?_
                                        exact ih191 f98 _ _ _ z100 (by omega) (by omega) (by omega) h hk hb191 (lv_sub hl [1, 2, 3, 4, 5, 6, 0] rfl)
                                  have hb191 : fr L R [] [83] f53 f53 := fr.rf
                                  exact j_191 (((13 - z66.toInt)).toNat + 1) f53 _ _ _ z66 (by omega) (by omega) (by omega) h hk hb191 (lv_sub hl [1, 2, 3, 4, 5, 6, 0] rfl)
                            have hb170 : fr L R [] [83] f45 f45 := fr.rf
                            exact j_170 (((6 - z52.toInt)).toNat + 1) f45 _ _ _ z52 (by omega) (by omega) (by omega) h hk hb170 (lv_sub hl [1, 2, 3, 4, 5, 0] rfl)
                          · refine lv_aload_n F.1 F.2.1 dX12_keeps_137 rfl (lv_at hl 0 rfl) ?_
                            refine g_12_100 F h m_a0 r_a0 dX12_keeps_138 (fun o101 m_o101 r_o101 ho101 => ?_)
                            refine lv_iload F.1 F.2.1 dX12_keeps_141 (lv_at hl 4 rfl) ?_
                            refine lv_iload F.1 F.2.1 dX12_keeps_143 (lv_at hl 5 rfl) ?_
                            refine tu_iadd F dX12_keeps_145 (by omega) (fun z102 hz102 => ?_)
                            refine lv_aload_n F.1 F.2.1 dX12_keeps_146 rfl (lv_at hl 0 rfl) ?_
                            refine g_12_7 F h m_a0 r_a0 dX12_keeps_147 (fun o103 m_o103 r_o103 ho103 => ?_)
                            refine lv_iload F.1 F.2.1 dX12_keeps_150 (lv_at hl 3 rfl) ?_
                            refine tw_sipush F dX12_keeps_152 ks_1542 (fun z104 hz104 => ?_)
                            refine tu_iadd F dX12_keeps_155 (by omega) (fun z105 hz105 => ?_)
                            refine lv_iload F.1 F.2.1 dX12_keeps_156 (lv_at hl 5 rfl) ?_
                            refine tu_iadd F dX12_keeps_158 (by omega) (fun z106 hz106 => ?_)
                            refine ld_61 F h m_o103 r_o103 (by omega) dX12_keeps_159 (fun v107 hv107a => ?_)
                            refine st_83 F h m_o101 r_o101 (by omega) dX12_keeps_160 (fun f108 H locs hf108 h => ?_)
                            have hk : fr L R [] [83] f0 f108 := hk.tr hf108 rfl rfl
                            have hb57 : fr L R [] [83] f18 f108 := hb57.tr hf108 rfl rfl
                            have hb93 : fr L R [] [83] f21 f108 := hb93.tr hf108 rfl rfl
                            have hb130 : fr L R [] [83] f29 f108 := hb130.tr hf108 rfl rfl
                            have e109 : fi f108 a0 28 = fi f45 a0 28 := hf108.efi m_a0 r_a0 rfl
                            refine tu_iinc F dX12_keeps_161 hl (k := 5) rfl (by decide) ki_1 (by omega) (fun z110 ls hz110 hl => ?_)
                            have hl : lv_has ls 9 [(7, .int z110), (0, .ref a0), (3, .int z2), (4, .int x4_93), (5, .int y0_113), (6, .int z43)] := hl
                            refine lv_goto (tgt := 130) F.1 F.2.1 dX12_keeps_164 (by decide) ?_
                            exact ih130 f108 _ _ _ z110 (by omega) (by omega) (by omega) h hk hb130 (lv_sub hl [1, 2, 3, 4, 5, 0] rfl)
                      have hb130 : fr L R [] [83] f29 f29 := fr.rf
                      exact j_130 (((26 - z44.toInt)).toNat + 1) f29 _ _ _ z44 (by omega) (by omega) (by omega) h hk hb130 (lv_sub hl [3, 4, 5, 2, 1, 0] rfl)
                    refine tw_if_ne (tgt := 110) F dX12_keeps_101 (by decide) (fun b111 => ?_) (fun b111 => ?_)
                    · refine tw_sipush F dX12_keeps_110 ks_24060 (fun z112 hz112 => ?_)
                      exact j_113 _ z112 (by omega) (by omega) (by omega) (lv_sub hl [0, 1, 2] rfl)
                    · refine tw_sipush F dX12_keeps_104 ks_22410 (fun z113 hz113 => ?_)
                      refine lv_goto (tgt := 113) F.1 F.2.1 dX12_keeps_107 (by decide) ?_
                      exact j_113 _ z113 (by omega) (by omega) (by omega) (lv_sub hl [0, 1, 2] rfl)
              have hb93 : fr L R [] [83] f21 f21 := fr.rf
              exact j_93 (((2 - z28.toInt)).toNat + 1) f21 _ _ _ z28 (by omega) (by omega) (by omega) h hk hb93 (lv_sub hl [1, 2, 0] rfl)
            · refine lv_aload_n F.1 F.2.1 dX12_keeps_66 rfl (lv_at hl 0 rfl) ?_
              refine g_12_100 F h m_a0 r_a0 dX12_keeps_67 (fun o114 m_o114 r_o114 ho114 => ?_)
              refine lv_iload_n F.1 F.2.1 dX12_keeps_70 rfl (lv_at hl 1 rfl) ?_
              refine tw_iconst F dX12_keeps_71 ki_2 (fun z115 hz115 => ?_)
              refine tu_iadd F dX12_keeps_72 (by omega) (fun z116 hz116 => ?_)
              refine lv_iload F.1 F.2.1 dX12_keeps_73 (lv_at hl 2 rfl) ?_
              refine tu_iadd F dX12_keeps_75 (by omega) (fun z117 hz117 => ?_)
              refine lv_aload_n F.1 F.2.1 dX12_keeps_76 rfl (lv_at hl 0 rfl) ?_
              refine g_12_60 F h m_a0 r_a0 dX12_keeps_77 (fun o118 m_o118 r_o118 ho118 => ?_)
              refine lv_iload F.1 F.2.1 dX12_keeps_80 (lv_at hl 2 rfl) ?_
              refine ld_73 F h m_o118 r_o118 (by omega) dX12_keeps_82 (fun v119 => ?_)
              refine st_83 F h m_o114 r_o114 (by omega) dX12_keeps_83 (fun f120 H locs hf120 h => ?_)
              have hk : fr L R [] [83] f0 f120 := hk.tr hf120 rfl rfl
              have hb57 : fr L R [] [83] f18 f120 := hb57.tr hf120 rfl rfl
              have e121 : fi f120 a0 28 = fi f21 a0 28 := hf120.efi m_a0 r_a0 rfl
              refine tu_iinc F dX12_keeps_84 hl (k := 2) rfl (by decide) ki_1 (by omega) (fun z122 ls hz122 hl => ?_)
              have hl : lv_has ls 9 [(4, .int z122), (0, .ref a0), (3, .int z2)] := hl
              refine lv_goto (tgt := 57) F.1 F.2.1 dX12_keeps_87 (by decide) ?_
              exact ih57 f120 _ _ _ z122 (by omega) (by omega) (by omega) h hk hb57 (lv_sub hl [1, 2, 0] rfl)
        have hb57 : fr L R [] [83] f18 f18 := fr.rf
        exact j_57 (((12 - z20.toInt)).toNat + 1) f18 _ _ _ z20 (by omega) (by omega) (by omega) h hk hb57 (lv_sub hl [1, 3, 0] rfl)
      · refine lv_aload_n F.1 F.2.1 dX12_keeps_17 rfl (lv_at hl 0 rfl) ?_
        refine g_12_100 F h m_a0 r_a0 dX12_keeps_18 (fun o123 m_o123 r_o123 ho123 => ?_)
        refine lv_iload_n F.1 F.2.1 dX12_keeps_21 rfl (lv_at hl 2 rfl) ?_
        refine lv_iload F.1 F.2.1 dX12_keeps_22 (lv_at hl 3 rfl) ?_
        refine tu_iadd F dX12_keeps_24 (by omega) (fun z124 hz124 => ?_)
        refine tu_lconst F dX12_keeps_25 (by decide) (fun z125 (hz125 : z125.toInt = 0) => ?_)
        refine st_83 F h m_o123 r_o123 (by omega) dX12_keeps_26 (fun f126 H locs hf126 h => ?_)
        have hk : fr L R [] [83] f0 f126 := hk.tr hf126 rfl rfl
        refine tu_iinc F dX12_keeps_27 hl (k := 3) rfl (by decide) ki_1 (by omega) (fun z127 ls hz127 hl => ?_)
        have hl : lv_has ls 9 [(4, .int z127), (0, .ref a0), (2, .int x2), (3, .int z2)] := hl
        refine lv_goto (tgt := 9) F.1 F.2.1 dX12_keeps_30 (by decide) ?_
        exact ih9 f126 _ _ _ z127 (by omega) (by omega) (by omega) h hk (lv_sub hl [1, 2, 3, 0] rfl)
  exact j_9 (((222 - z3.toInt)).toNat + 1) f0 _ _ _ z3 (by omega) (by omega) (by omega) h hk (lv_sub hl [2, 4, 1, 0] rfl)
theorem dX12_face_0 : decode cX12_face 0 = .ok (.aload_n 0, 1) := by decide +kernel
theorem dX12_face_1 : decode cX12_face 1 = .ok (.iload_n 1, 1) := by decide +kernel
theorem dX12_face_2 : decode cX12_face 2 = .ok (.invokevirtual 282, 3) := by decide +kernel
theorem dX12_face_5 : decode cX12_face 5 = .ok (.ifCond .eq 34, 3) := by decide +kernel
theorem dX12_face_39 : decode cX12_face 39 = .ok (.aload_n 0, 1) := by decide +kernel
theorem dX12_face_40 : decode cX12_face 40 = .ok (.iconst 1, 1) := by decide +kernel
theorem dX12_face_41 : decode cX12_face 41 = .ok (.invokevirtual 194, 3) := by decide +kernel
theorem dX12_face_44 : decode cX12_face 44 = .ok (.ireturn, 1) := by decide +kernel
theorem dX12_face_8 : decode cX12_face 8 = .ok (.aload_n 0, 1) := by decide +kernel
theorem dX12_face_9 : decode cX12_face 9 = .ok (.iload_n 2, 1) := by decide +kernel
theorem dX12_face_10 : decode cX12_face 10 = .ok (.invokevirtual 282, 3) := by decide +kernel
theorem dX12_face_13 : decode cX12_face 13 = .ok (.ifCond .eq 26, 3) := by decide +kernel
theorem dX12_face_16 : decode cX12_face 16 = .ok (.aload_n 0, 1) := by decide +kernel
theorem dX12_face_17 : decode cX12_face 17 = .ok (.iload_n 3, 1) := by decide +kernel
theorem dX12_face_18 : decode cX12_face 18 = .ok (.i2l, 1) := by decide +kernel
theorem dX12_face_19 : decode cX12_face 19 = .ok (.invokevirtual 212, 3) := by decide +kernel
theorem dX12_face_22 : decode cX12_face 22 = .ok (.ifCond .eq 17, 3) := by decide +kernel
theorem dX12_face_25 : decode cX12_face 25 = .ok (.iload 4, 2) := by decide +kernel
theorem dX12_face_27 : decode cX12_face 27 = .ok (.iconst 1, 1) := by decide +kernel
theorem dX12_face_28 : decode cX12_face 28 = .ok (.if_icmp .lt 11, 3) := by decide +kernel
theorem dX12_face_31 : decode cX12_face 31 = .ok (.iload 4, 2) := by decide +kernel
theorem dX12_face_33 : decode cX12_face 33 = .ok (.sipush 200, 3) := by decide +kernel
theorem dX12_face_36 : decode cX12_face 36 = .ok (.if_icmp .le 9, 3) := by decide +kernel
theorem dX12_face_45 : decode cX12_face 45 = .ok (.aload_n 0, 1) := by decide +kernel
theorem dX12_face_46 : decode cX12_face 46 = .ok (.iload_n 1, 1) := by decide +kernel
theorem dX12_face_47 : decode cX12_face 47 = .ok (.sipush 22410, 3) := by decide +kernel
theorem dX12_face_50 : decode cX12_face 50 = .ok (.invokevirtual 409, 3) := by decide +kernel
theorem dX12_face_53 : decode cX12_face 53 = .ok (.aload_n 0, 1) := by decide +kernel
theorem dX12_face_54 : decode cX12_face 54 = .ok (.iload_n 2, 1) := by decide +kernel
theorem dX12_face_55 : decode cX12_face 55 = .ok (.sipush 24060, 3) := by decide +kernel
theorem dX12_face_58 : decode cX12_face 58 = .ok (.invokevirtual 409, 3) := by decide +kernel
theorem dX12_face_61 : decode cX12_face 61 = .ok (.aload_n 0, 1) := by decide +kernel
theorem dX12_face_62 : decode cX12_face 62 = .ok (.aload_n 0, 1) := by decide +kernel
theorem dX12_face_63 : decode cX12_face 63 = .ok (.iload_n 3, 1) := by decide +kernel
theorem dX12_face_64 : decode cX12_face 64 = .ok (.invokevirtual 206, 3) := by decide +kernel
theorem dX12_face_67 : decode cX12_face 67 = .ok (.invokevirtual 304, 3) := by decide +kernel
theorem dX12_face_70 : decode cX12_face 70 = .ok (.aload_n 0, 1) := by decide +kernel
theorem dX12_face_71 : decode cX12_face 71 = .ok (.iconst (-1), 1) := by decide +kernel
theorem dX12_face_72 : decode cX12_face 72 = .ok (.putfield 103, 3) := by decide +kernel
section
variable {p : Program} {l : Launch} {e : Env} {R0 : Room} {s : State} {m : MethodId} {args : Array Value} {below : List Frame} {meth : Method} {c : Code} {H H0 : Heap} {locs : List Loc} {cells slots : Nat} {Q : State → Prop} {cc : ByteArray} {nL : Nat} {D : va_G} {cy : Nat → ClassId} {A : Nat → Prop} {L : List Nat} {R : Nat → Nat} {f : Nat → va_E} {pc : Nat} {ls : Array Slot} {rest : List Value} {a : Nat}
theorem p_12_103 (F : CallFix p m c cc nL s args wsL_law RX12) (h : tS D cy A H0 L R (TT cy L R) f s H locs) {x : Int32} (ha : a ∈ L) (hr : R a = 12) (hdg : decode cc pc = .ok (.putfield 103, 3)) (kk : ∀ (f1 : Nat → va_E) (H1 : Heap) (locs1 : List Loc), fi f1 a 56 = x.toInt → fr L R [(12, 56)] [12] f f1 → tS D cy A H0 L R (TT cy L R) f1 s H1 locs1 → W p l e R0 s m args below meth c H1 locs1 cells slots Q (F0 m (pc + 3) ls (rest))) : W p l e R0 s m args below meth c H locs cells slots Q (F0 m pc ls (.int x :: .ref a :: rest)) := tu_puti (k := 56) F h ha hr T_12 rfl (tb_i x).1 (tb_i x).2 inlX12 tyX12_ok nmX12 rfl (Nat.le_of_ble_eq_true rfl) mw_232 rfl rfl rfl hdg kk
end
theorem dX12_face_75 : decode cX12_face 75 = .ok (.iconst 0, 1) := by decide +kernel
theorem dX12_face_76 : decode cX12_face 76 = .ok (.istore 5, 2) := by decide +kernel
theorem dX12_face_78 : decode cX12_face 78 = .ok (.iconst 1, 1) := by decide +kernel
theorem dX12_face_79 : decode cX12_face 79 = .ok (.istore 6, 2) := by decide +kernel
theorem dX12_face_81 : decode cX12_face 81 = .ok (.iload 6, 2) := by decide +kernel
theorem dX12_face_83 : decode cX12_face 83 = .ok (.ifCond .eq 130, 3) := by decide +kernel
theorem dX12_face_213 : decode cX12_face 213 = .ok (.aload_n 0, 1) := by decide +kernel
theorem dX12_face_214 : decode cX12_face 214 = .ok (.iload 5, 2) := by decide +kernel
theorem dX12_face_216 : decode cX12_face 216 = .ok (.invokevirtual 209, 3) := by decide +kernel
theorem dX12_face_219 : decode cX12_face 219 = .ok (.ireturn, 1) := by decide +kernel
theorem dX12_face_86 : decode cX12_face 86 = .ok (.aload_n 0, 1) := by decide +kernel
theorem dX12_face_87 : decode cX12_face 87 = .ok (.iload 5, 2) := by decide +kernel
theorem dX12_face_89 : decode cX12_face 89 = .ok (.iload 5, 2) := by decide +kernel
theorem dX12_face_91 : decode cX12_face 91 = .ok (.iconst 2, 1) := by decide +kernel
theorem dX12_face_92 : decode cX12_face 92 = .ok (.irem, 1) := by decide +kernel
theorem dX12_face_93 : decode cX12_face 93 = .ok (.invokevirtual 425, 3) := by decide +kernel
theorem mw_1307 : Cond.methodLink RX12 425 yX12_keeps ∈ wsL_law := inr_55 _ (List.mem_of_getElem? (i := 11) rfl)
theorem mw_1310 : Cond.code yX12_keeps cX12_keeps 9 none ∈ wsL_law := inr_55 _ (List.mem_of_getElem? (i := 14) rfl)
theorem yk_X12_keeps : xY yX12_keeps RX12 cX12_keeps 9 none 2 := ⟨⟨rfl, by decide +kernel, by decide +kernel, by decide +kernel⟩, mw_5, mw_1310⟩
theorem mw_1308 : Cond.instanceMethod yX12_keeps ∈ wsL_law := inr_55 _ (List.mem_of_getElem? (i := 12) rfl)
theorem mw_1309 : Cond.selects RX12 yX12_keeps yX12_keeps ∈ wsL_law := inr_55 _ (List.mem_of_getElem? (i := 13) rfl)
theorem dX12_face_96 : decode cX12_face 96 = .ok (.aload_n 0, 1) := by decide +kernel
theorem dX12_face_97 : decode cX12_face 97 = .ok (.aload_n 0, 1) := by decide +kernel
theorem dX12_face_98 : decode cX12_face 98 = .ok (.iload 5, 2) := by decide +kernel
theorem dX12_face_100 : decode cX12_face 100 = .ok (.invokevirtual 428, 3) := by decide +kernel
theorem mw_1311 : Cond.methodLink RX12 428 yX12_cameAt ∈ wsL_law := inr_55 _ (List.mem_of_getElem? (i := 15) rfl)
theorem mw_1314 : Cond.code yX12_cameAt cX12_cameAt 5 (some .int) ∈ wsL_law := inr_55 _ (List.mem_of_getElem? (i := 18) rfl)
theorem yk_X12_cameAt : xY yX12_cameAt RX12 cX12_cameAt 5 (some .int) 1 := ⟨⟨rfl, by decide +kernel, by decide +kernel, by decide +kernel⟩, mw_5, mw_1314⟩
theorem mw_1312 : Cond.instanceMethod yX12_cameAt ∈ wsL_law := inr_55 _ (List.mem_of_getElem? (i := 16) rfl)
theorem mw_1313 : Cond.selects RX12 yX12_cameAt yX12_cameAt ∈ wsL_law := inr_55 _ (List.mem_of_getElem? (i := 17) rfl)
theorem dX12_face_103 : decode cX12_face 103 = .ok (.putfield 103, 3) := by decide +kernel
theorem dX12_face_106 : decode cX12_face 106 = .ok (.aload_n 0, 1) := by decide +kernel
theorem dX12_face_107 : decode cX12_face 107 = .ok (.iload 5, 2) := by decide +kernel
theorem dX12_face_109 : decode cX12_face 109 = .ok (.aload_n 0, 1) := by decide +kernel
theorem dX12_face_110 : decode cX12_face 110 = .ok (.getfield 103, 3) := by decide +kernel
theorem dX12_face_113 : decode cX12_face 113 = .ok (.isub, 1) := by decide +kernel
theorem dX12_face_114 : decode cX12_face 114 = .ok (.putfield 431, 3) := by decide +kernel
section
variable {p : Program} {l : Launch} {e : Env} {R0 : Room} {s : State} {m : MethodId} {args : Array Value} {below : List Frame} {meth : Method} {c : Code} {H H0 : Heap} {locs : List Loc} {cells slots : Nat} {Q : State → Prop} {cc : ByteArray} {nL : Nat} {D : va_G} {cy : Nat → ClassId} {A : Nat → Prop} {L : List Nat} {R : Nat → Nat} {f : Nat → va_E} {pc : Nat} {ls : Array Slot} {rest : List Value} {a : Nat}
theorem p_12_431 (F : CallFix p m c cc nL s args wsL_law RX12) (h : tS D cy A H0 L R (TT cy L R) f s H locs) {x : Int32} (ha : a ∈ L) (hr : R a = 12) (hdg : decode cc pc = .ok (.putfield 431, 3)) (kk : ∀ (f1 : Nat → va_E) (H1 : Heap) (locs1 : List Loc), fi f1 a 57 = x.toInt → fr L R [(12, 57)] [12] f f1 → tS D cy A H0 L R (TT cy L R) f1 s H1 locs1 → W p l e R0 s m args below meth c H1 locs1 cells slots Q (F0 m (pc + 3) ls (rest))) : W p l e R0 s m args below meth c H locs cells slots Q (F0 m pc ls (.int x :: .ref a :: rest)) := tu_puti (k := 57) F h ha hr T_12 rfl (tb_i x).1 (tb_i x).2 inlX12 tyX12_ok nmX12 rfl (Nat.le_of_ble_eq_true rfl) mw_1306 rfl rfl rfl hdg kk
end
theorem dX12_face_117 : decode cX12_face 117 = .ok (.aload_n 0, 1) := by decide +kernel
theorem dX12_face_118 : decode cX12_face 118 = .ok (.getfield 103, 3) := by decide +kernel
theorem dX12_face_121 : decode cX12_face 121 = .ok (.iconst (-1), 1) := by decide +kernel
theorem dX12_face_137 : decode cX12_face 137 = .ok (.istore 6, 2) := by decide +kernel
theorem dX12_face_139 : decode cX12_face 139 = .ok (.iload 6, 2) := by decide +kernel
theorem dX12_face_141 : decode cX12_face 141 = .ok (.ifCond .ne 6, 3) := by decide +kernel
theorem dX12_face_147 : decode cX12_face 147 = .ok (.aload_n 0, 1) := by decide +kernel
theorem dX12_face_148 : decode cX12_face 148 = .ok (.iload 5, 2) := by decide +kernel
theorem dX12_face_150 : decode cX12_face 150 = .ok (.iconst 2, 1) := by decide +kernel
theorem dX12_face_151 : decode cX12_face 151 = .ok (.irem, 1) := by decide +kernel
theorem dX12_face_164 : decode cX12_face 164 = .ok (.invokevirtual 387, 3) := by decide +kernel
theorem dX12_face_167 : decode cX12_face 167 = .ok (.aload_n 0, 1) := by decide +kernel
theorem dX12_face_168 : decode cX12_face 168 = .ok (.aload_n 0, 1) := by decide +kernel
theorem dX12_face_169 : decode cX12_face 169 = .ok (.getfield 324, 3) := by decide +kernel
theorem dX12_face_172 : decode cX12_face 172 = .ok (.putfield 298, 3) := by decide +kernel
theorem dX12_face_175 : decode cX12_face 175 = .ok (.iconst 0, 1) := by decide +kernel
theorem dX12_face_176 : decode cX12_face 176 = .ok (.istore 7, 2) := by decide +kernel
theorem dX12_face_178 : decode cX12_face 178 = .ok (.iload 7, 2) := by decide +kernel
theorem dX12_face_180 : decode cX12_face 180 = .ok (.aload_n 0, 1) := by decide +kernel
theorem dX12_face_181 : decode cX12_face 181 = .ok (.getfield 324, 3) := by decide +kernel
theorem dX12_face_184 : decode cX12_face 184 = .ok (.if_icmp .ge 23, 3) := by decide +kernel
theorem dX12_face_207 : decode cX12_face 207 = .ok (.iinc 5 1, 3) := by decide +kernel
theorem dX12_face_210 : decode cX12_face 210 = .ok (.goto (-129), 3) := by decide +kernel
theorem dX12_face_187 : decode cX12_face 187 = .ok (.aload_n 0, 1) := by decide +kernel
theorem dX12_face_188 : decode cX12_face 188 = .ok (.getfield 60, 3) := by decide +kernel
theorem dX12_face_191 : decode cX12_face 191 = .ok (.iload 7, 2) := by decide +kernel
theorem dX12_face_193 : decode cX12_face 193 = .ok (.aload_n 0, 1) := by decide +kernel
theorem dX12_face_194 : decode cX12_face 194 = .ok (.getfield 63, 3) := by decide +kernel
theorem dX12_face_197 : decode cX12_face 197 = .ok (.iload 7, 2) := by decide +kernel
theorem dX12_face_199 : decode cX12_face 199 = .ok (.laload, 1) := by decide +kernel
theorem dX12_face_200 : decode cX12_face 200 = .ok (.lastore, 1) := by decide +kernel
theorem dX12_face_201 : decode cX12_face 201 = .ok (.iinc 7 1, 3) := by decide +kernel
theorem dX12_face_204 : decode cX12_face 204 = .ok (.goto (-26), 3) := by decide +kernel
theorem dX12_face_152 : decode cX12_face 152 = .ok (.ifCond .ne 9, 3) := by decide +kernel
theorem dX12_face_161 : decode cX12_face 161 = .ok (.sipush 24060, 3) := by decide +kernel
theorem dX12_face_155 : decode cX12_face 155 = .ok (.sipush 22410, 3) := by decide +kernel
theorem dX12_face_158 : decode cX12_face 158 = .ok (.goto 6, 3) := by decide +kernel
theorem dX12_face_144 : decode cX12_face 144 = .ok (.goto (-63), 3) := by decide +kernel
theorem dX12_face_136 : decode cX12_face 136 = .ok (.iconst 0, 1) := by decide +kernel
theorem dX12_face_122 : decode cX12_face 122 = .ok (.if_icmp .ne 14, 3) := by decide +kernel
theorem dX12_face_125 : decode cX12_face 125 = .ok (.iload 5, 2) := by decide +kernel
theorem dX12_face_127 : decode cX12_face 127 = .ok (.iload 4, 2) := by decide +kernel
theorem dX12_face_129 : decode cX12_face 129 = .ok (.if_icmp .ge 7, 3) := by decide +kernel
theorem dX12_face_132 : decode cX12_face 132 = .ok (.iconst 1, 1) := by decide +kernel
theorem dX12_face_133 : decode cX12_face 133 = .ok (.goto 4, 3) := by decide +kernel
def rm_X12_face : Room := { frames := 6, cells := 0, slots := 0, locals := 150 }
set_option maxHeartbeats 4000000 in
set_option maxRecDepth 100000 in
theorem s_X12_face (l : Launch) (D : va_G) (cy : Nat → ClassId) (L : List Nat) (R O : Nat → Nat) (f0 : Nat → va_E) (a0 : Nat) (m_a0 : a0 ∈ L) (r_a0 : R a0 = 12) (x1 : Int32) (x2 : Int32) (x3 : Int32) (x4 : Int32) (GA : Nat) (m_GA : GA ∈ L) (r_GA : R GA = 61) (t_GA : fld f0 a0 0 = .ref GA) (GP : Nat) (m_GP : GP ∈ L) (r_GP : R GP = 69) (t_GP : fld f0 a0 22 = .ref GP) (GL : Nat) (m_GL : GL ∈ L) (r_GL : R GL = 70) (t_GL : fld f0 a0 23 = .ref GL) (GT : Nat) (m_GT : GT ∈ L) (r_GT : R GT = 64) (t_GT : fld f0 a0 6 = .ref GT) (pre0 : RBA GA f0) (pre1 : GZ GP GL f0) : ∀ sz, Met l yX12_face (Cond.code yX12_face cX12_face 8 (some .int) :: wsL_law) rm_X12_face (va_Pc [.ref a0, .int x1, .int x2, .int x3, .int x4] (tPZ D cy L R (TT cy L R) f0 sz)) (va_Qi (fun (r : Int32) f1 => fr L R [(12, 1), (12, 28), (12, 29), (12, 35), (12, 36), (12, 37), (12, 38), (12, 39), (12, 56), (12, 57)] [12, 61, 68, 69, 70, 73, 74, 76, 83] f0 f1 ∧ RBA GA f1 ∧ GZ GP GL f1) (tB D (tA L sz) L R (TT cy L R)) (tA L sz)) 0 0 (tA L sz) := by
  refine tw_enteri (by decide +kernel) rfl (Nat.le_of_ble_eq_true rfl) ?_
  intro p e s m below meth c A ls args Q F hZ h hl hret
  have hl : lv_has ls 8 [(0, .ref a0), (1, .int x1), (2, .int x2), (3, .int x3), (4, .int x4)] := hl
  have hk : fr L R [(12, 1), (12, 28), (12, 29), (12, 35), (12, 36), (12, 37), (12, 38), (12, 39), (12, 56), (12, 57)] [12, 61, 68, 69, 70, 73, 74, 76, 83] f0 f0 := fr.rf
  have hR := pre0
  have hX := pre1
  refine lv_aload_n F.1 F.2.1 dX12_face_0 rfl (lv_at hl 0 rfl) ?_
  refine lv_iload_n F.1 F.2.1 dX12_face_1 rfl (lv_at hl 1 rfl) ?_
  refine tw_Vi (As := [.int x1]) F hZ h yk_X12_isScript mw_635 mw_636 mw_637 (s_X12_isScript l D cy L R O f0 a0 m_a0 r_a0 x1) rfl rfl m_a0 r_a0 (fun e q => (T_12 e).mp q) rfl hl.1 rfl (Nat.le_of_ble_eq_true rfl) ⟨Nat.le_of_ble_eq_true rfl, Nat.le_of_ble_eq_true rfl⟩ ⟨Nat.le_of_ble_eq_true rfl, Nat.le_of_ble_eq_true rfl⟩ dX12_face_2 (fun v2 f1 H locs hp1 h => ?_)
  obtain ⟨rfl, hv2a, hv2b, hv2p0⟩ := hp1
  refine tw_if_eq (tgt := 39) F dX12_face_5 (by decide) (fun b3 => ?_) (fun b3 => ?_)
  · refine lv_aload_n F.1 F.2.1 dX12_face_39 rfl (lv_at hl 0 rfl) ?_
    refine tw_iconst F dX12_face_40 ki_1 (fun z4 hz4 => ?_)
    refine tw_Vi (As := [.int z4]) F hZ h yk_X12_refuse mw_452 mw_453 mw_454 (s_X12_refuse l D cy L R O f0 a0 m_a0 r_a0 z4 ⟨by omega, by omega⟩) rfl rfl m_a0 r_a0 (fun e q => (T_12 e).mp q) rfl hl.1 rfl (Nat.le_of_ble_eq_true rfl) ⟨Nat.le_of_ble_eq_true rfl, Nat.le_of_ble_eq_true rfl⟩ ⟨Nat.le_of_ble_eq_true rfl, Nat.le_of_ble_eq_true rfl⟩ dX12_face_41 (fun v6 f5 H locs hp5 h => ?_)
    obtain ⟨hf5, hv6a, hv6b⟩ := hp5
    have hR : RBA GA f5 := hR.fm hf5 m_GA r_GA (by decide +kernel)
    have hX : GZ GP GL f5 := hX.fm hf5 m_GP r_GP m_GL r_GL (by decide +kernel) (by decide +kernel)
    have hk : fr L R [(12, 1), (12, 28), (12, 29), (12, 35), (12, 36), (12, 37), (12, 38), (12, 39), (12, 56), (12, 57)] [12, 61, 68, 69, 70, 73, 74, 76, 83] f0 f5 := hk.tr hf5 rfl rfl
    have e7 : fld f5 a0 0 = .ref GA := (hf5.efl m_a0 r_a0 rfl).trans t_GA
    have e8 : fld f5 a0 22 = .ref GP := (hf5.efl m_a0 r_a0 rfl).trans t_GP
    have e9 : fld f5 a0 23 = .ref GL := (hf5.efl m_a0 r_a0 rfl).trans t_GL
    have e10 : fld f5 a0 6 = .ref GT := (hf5.efl m_a0 r_a0 rfl).trans t_GT
    exact hret f5 _ _ _ _ v6 dX12_face_44 rfl ⟨hk, hR, hX⟩ h
  · refine lv_aload_n F.1 F.2.1 dX12_face_8 rfl (lv_at hl 0 rfl) ?_
    refine lv_iload_n F.1 F.2.1 dX12_face_9 rfl (lv_at hl 2 rfl) ?_
    refine tw_Vi (As := [.int x2]) F hZ h yk_X12_isScript mw_635 mw_636 mw_637 (s_X12_isScript l D cy L R O f0 a0 m_a0 r_a0 x2) rfl rfl m_a0 r_a0 (fun e q => (T_12 e).mp q) rfl hl.1 rfl (Nat.le_of_ble_eq_true rfl) ⟨Nat.le_of_ble_eq_true rfl, Nat.le_of_ble_eq_true rfl⟩ ⟨Nat.le_of_ble_eq_true rfl, Nat.le_of_ble_eq_true rfl⟩ dX12_face_10 (fun v12 f11 H locs hp11 h => ?_)
    obtain ⟨rfl, hv12a, hv12b, hv12p0⟩ := hp11
    refine tw_if_eq (tgt := 39) F dX12_face_13 (by decide) (fun b13 => ?_) (fun b13 => ?_)
    · refine lv_aload_n F.1 F.2.1 dX12_face_39 rfl (lv_at hl 0 rfl) ?_
      refine tw_iconst F dX12_face_40 ki_1 (fun z14 hz14 => ?_)
      refine tw_Vi (As := [.int z14]) F hZ h yk_X12_refuse mw_452 mw_453 mw_454 (s_X12_refuse l D cy L R O f0 a0 m_a0 r_a0 z14 ⟨by omega, by omega⟩) rfl rfl m_a0 r_a0 (fun e q => (T_12 e).mp q) rfl hl.1 rfl (Nat.le_of_ble_eq_true rfl) ⟨Nat.le_of_ble_eq_true rfl, Nat.le_of_ble_eq_true rfl⟩ ⟨Nat.le_of_ble_eq_true rfl, Nat.le_of_ble_eq_true rfl⟩ dX12_face_41 (fun v16 f15 H locs hp15 h => ?_)
      obtain ⟨hf15, hv16a, hv16b⟩ := hp15
      have hR : RBA GA f15 := hR.fm hf15 m_GA r_GA (by decide +kernel)
      have hX : GZ GP GL f15 := hX.fm hf15 m_GP r_GP m_GL r_GL (by decide +kernel) (by decide +kernel)
      have hk : fr L R [(12, 1), (12, 28), (12, 29), (12, 35), (12, 36), (12, 37), (12, 38), (12, 39), (12, 56), (12, 57)] [12, 61, 68, 69, 70, 73, 74, 76, 83] f0 f15 := hk.tr hf15 rfl rfl
      have e17 : fld f15 a0 0 = .ref GA := (hf15.efl m_a0 r_a0 rfl).trans t_GA
      have e18 : fld f15 a0 22 = .ref GP := (hf15.efl m_a0 r_a0 rfl).trans t_GP
      have e19 : fld f15 a0 23 = .ref GL := (hf15.efl m_a0 r_a0 rfl).trans t_GL
      have e20 : fld f15 a0 6 = .ref GT := (hf15.efl m_a0 r_a0 rfl).trans t_GT
      exact hret f15 _ _ _ _ v16 dX12_face_44 rfl ⟨hk, hR, hX⟩ h
    · refine lv_aload_n F.1 F.2.1 dX12_face_16 rfl (lv_at hl 0 rfl) ?_
      refine lv_iload_n F.1 F.2.1 dX12_face_17 rfl (lv_at hl 3 rfl) ?_
      refine tu_i2l F dX12_face_18 (fun z21 hz21 hz21a hz21b => ?_)
      refine tw_Vi (As := [.long z21]) F hZ h yk_X12_isLine mw_797 mw_798 mw_799 (s_X12_isLine l D cy L R O f0 a0 m_a0 r_a0 z21) rfl rfl m_a0 r_a0 (fun e q => (T_12 e).mp q) rfl hl.1 rfl (Nat.le_of_ble_eq_true rfl) ⟨Nat.le_of_ble_eq_true rfl, Nat.le_of_ble_eq_true rfl⟩ ⟨Nat.le_of_ble_eq_true rfl, Nat.le_of_ble_eq_true rfl⟩ dX12_face_19 (fun v23 f22 H locs hp22 h => ?_)
      obtain ⟨rfl, hv23a, hv23b, hv23p0⟩ := hp22
      refine tw_if_eq (tgt := 39) F dX12_face_22 (by decide) (fun b24 => ?_) (fun b24 => ?_)
      · refine lv_aload_n F.1 F.2.1 dX12_face_39 rfl (lv_at hl 0 rfl) ?_
        refine tw_iconst F dX12_face_40 ki_1 (fun z25 hz25 => ?_)
        refine tw_Vi (As := [.int z25]) F hZ h yk_X12_refuse mw_452 mw_453 mw_454 (s_X12_refuse l D cy L R O f0 a0 m_a0 r_a0 z25 ⟨by omega, by omega⟩) rfl rfl m_a0 r_a0 (fun e q => (T_12 e).mp q) rfl hl.1 rfl (Nat.le_of_ble_eq_true rfl) ⟨Nat.le_of_ble_eq_true rfl, Nat.le_of_ble_eq_true rfl⟩ ⟨Nat.le_of_ble_eq_true rfl, Nat.le_of_ble_eq_true rfl⟩ dX12_face_41 (fun v27 f26 H locs hp26 h => ?_)
        obtain ⟨hf26, hv27a, hv27b⟩ := hp26
        have hR : RBA GA f26 := hR.fm hf26 m_GA r_GA (by decide +kernel)
        have hX : GZ GP GL f26 := hX.fm hf26 m_GP r_GP m_GL r_GL (by decide +kernel) (by decide +kernel)
        have hk : fr L R [(12, 1), (12, 28), (12, 29), (12, 35), (12, 36), (12, 37), (12, 38), (12, 39), (12, 56), (12, 57)] [12, 61, 68, 69, 70, 73, 74, 76, 83] f0 f26 := hk.tr hf26 rfl rfl
        have e28 : fld f26 a0 0 = .ref GA := (hf26.efl m_a0 r_a0 rfl).trans t_GA
        have e29 : fld f26 a0 22 = .ref GP := (hf26.efl m_a0 r_a0 rfl).trans t_GP
        have e30 : fld f26 a0 23 = .ref GL := (hf26.efl m_a0 r_a0 rfl).trans t_GL
        have e31 : fld f26 a0 6 = .ref GT := (hf26.efl m_a0 r_a0 rfl).trans t_GT
        exact hret f26 _ _ _ _ v27 dX12_face_44 rfl ⟨hk, hR, hX⟩ h
      · refine lv_iload F.1 F.2.1 dX12_face_25 (lv_at hl 4 rfl) ?_
        refine tw_iconst F dX12_face_27 ki_1 (fun z32 hz32 => ?_)
        refine tw_icmp_lt (tgt := 39) F dX12_face_28 (by decide) (fun b33 => ?_) (fun b33 => ?_)
        · refine lv_aload_n F.1 F.2.1 dX12_face_39 rfl (lv_at hl 0 rfl) ?_
          refine tw_iconst F dX12_face_40 ki_1 (fun z34 hz34 => ?_)
          refine tw_Vi (As := [.int z34]) F hZ h yk_X12_refuse mw_452 mw_453 mw_454 (s_X12_refuse l D cy L R O f0 a0 m_a0 r_a0 z34 ⟨by omega, by omega⟩) rfl rfl m_a0 r_a0 (fun e q => (T_12 e).mp q) rfl hl.1 rfl (Nat.le_of_ble_eq_true rfl) ⟨Nat.le_of_ble_eq_true rfl, Nat.le_of_ble_eq_true rfl⟩ ⟨Nat.le_of_ble_eq_true rfl, Nat.le_of_ble_eq_true rfl⟩ dX12_face_41 (fun v36 f35 H locs hp35 h => ?_)
          obtain ⟨hf35, hv36a, hv36b⟩ := hp35
          have hR : RBA GA f35 := hR.fm hf35 m_GA r_GA (by decide +kernel)
          have hX : GZ GP GL f35 := hX.fm hf35 m_GP r_GP m_GL r_GL (by decide +kernel) (by decide +kernel)
          have hk : fr L R [(12, 1), (12, 28), (12, 29), (12, 35), (12, 36), (12, 37), (12, 38), (12, 39), (12, 56), (12, 57)] [12, 61, 68, 69, 70, 73, 74, 76, 83] f0 f35 := hk.tr hf35 rfl rfl
          have e37 : fld f35 a0 0 = .ref GA := (hf35.efl m_a0 r_a0 rfl).trans t_GA
          have e38 : fld f35 a0 22 = .ref GP := (hf35.efl m_a0 r_a0 rfl).trans t_GP
          have e39 : fld f35 a0 23 = .ref GL := (hf35.efl m_a0 r_a0 rfl).trans t_GL
          have e40 : fld f35 a0 6 = .ref GT := (hf35.efl m_a0 r_a0 rfl).trans t_GT
          exact hret f35 _ _ _ _ v36 dX12_face_44 rfl ⟨hk, hR, hX⟩ h
        · refine lv_iload F.1 F.2.1 dX12_face_31 (lv_at hl 4 rfl) ?_
          refine tw_sipush F dX12_face_33 ks_200 (fun z41 hz41 => ?_)
          refine tw_icmp_le (tgt := 45) F dX12_face_36 (by decide) (fun b42 => ?_) (fun b42 => ?_)
          · refine lv_aload_n F.1 F.2.1 dX12_face_45 rfl (lv_at hl 0 rfl) ?_
            refine lv_iload_n F.1 F.2.1 dX12_face_46 rfl (lv_at hl 1 rfl) ?_
            refine tw_sipush F dX12_face_47 ks_22410 (fun z43 hz43 => ?_)
            refine tw_Vv (As := [.int x1, .int z43]) F hZ h yk_X12_works mw_1187 mw_1188 mw_1189 (s_X12_works l D cy L R O f0 a0 m_a0 r_a0 x1 ⟨by omega, by omega⟩ z43 ⟨by omega, by omega⟩ GA m_GA r_GA t_GA GP m_GP r_GP t_GP GL m_GL r_GL t_GL GT m_GT r_GT t_GT (isB_e isB_w (by omega)) (hR.s (by omega))) rfl rfl m_a0 r_a0 (fun e q => (T_12 e).mp q) rfl hl.1 rfl (Nat.le_of_ble_eq_true rfl) ⟨Nat.le_of_ble_eq_true rfl, Nat.le_of_ble_eq_true rfl⟩ ⟨Nat.le_of_ble_eq_true rfl, Nat.le_of_ble_eq_true rfl⟩ dX12_face_50 (fun f44 H locs hp44 h => ?_)
            obtain ⟨hf44, hv45p0, hv45p1⟩ := hp44
            have hR : RBA GA f44 := hR.kw hv45p0 (Or.inl (by omega))
            have hX : GZ GP GL f44 := hX.fm hf44 m_GP r_GP m_GL r_GL (by decide +kernel) (by decide +kernel)
            have hk : fr L R [(12, 1), (12, 28), (12, 29), (12, 35), (12, 36), (12, 37), (12, 38), (12, 39), (12, 56), (12, 57)] [12, 61, 68, 69, 70, 73, 74, 76, 83] f0 f44 := hk.tr hf44 rfl rfl
            have e46 : fld f44 a0 0 = .ref GA := (hf44.efl m_a0 r_a0 rfl).trans t_GA
            have e47 : fld f44 a0 22 = .ref GP := (hf44.efl m_a0 r_a0 rfl).trans t_GP
            have e48 : fld f44 a0 23 = .ref GL := (hf44.efl m_a0 r_a0 rfl).trans t_GL
            have e49 : fld f44 a0 6 = .ref GT := (hf44.efl m_a0 r_a0 rfl).trans t_GT
            have hRB : RB GA 22410 f44 := by have q := hv45p1; rw [show z43.toInt.toNat = 22410 by omega] at q; exact q
            refine lv_aload_n F.1 F.2.1 dX12_face_53 rfl (lv_at hl 0 rfl) ?_
            refine lv_iload_n F.1 F.2.1 dX12_face_54 rfl (lv_at hl 2 rfl) ?_
            refine tw_sipush F dX12_face_55 ks_24060 (fun z50 hz50 => ?_)
            refine tw_Vv (As := [.int x2, .int z50]) F hZ h yk_X12_works mw_1187 mw_1188 mw_1189 (s_X12_works l D cy L R O f44 a0 m_a0 r_a0 x2 ⟨by omega, by omega⟩ z50 ⟨by omega, by omega⟩ GA m_GA r_GA e46 GP m_GP r_GP e47 GL m_GL r_GL e48 GT m_GT r_GT e49 (isB_e isB_o (by omega)) (hR.s (by omega))) rfl rfl m_a0 r_a0 (fun e q => (T_12 e).mp q) rfl hl.1 rfl (Nat.le_of_ble_eq_true rfl) ⟨Nat.le_of_ble_eq_true rfl, Nat.le_of_ble_eq_true rfl⟩ ⟨Nat.le_of_ble_eq_true rfl, Nat.le_of_ble_eq_true rfl⟩ dX12_face_58 (fun f51 H locs hp51 h => ?_)
            obtain ⟨hf51, hv52p0, hv52p1⟩ := hp51
            have hR : RBA GA f51 := hR.kw hv52p0 (Or.inl (by omega))
            have hX : GZ GP GL f51 := hX.fm hf51 m_GP r_GP m_GL r_GL (by decide +kernel) (by decide +kernel)
            have hRB : RB GA 22410 f51 := hRB.kw hv52p0 (by omega)
            have hk : fr L R [(12, 1), (12, 28), (12, 29), (12, 35), (12, 36), (12, 37), (12, 38), (12, 39), (12, 56), (12, 57)] [12, 61, 68, 69, 70, 73, 74, 76, 83] f0 f51 := hk.tr hf51 rfl rfl
            have e53 : fld f51 a0 0 = .ref GA := (hf51.efl m_a0 r_a0 rfl).trans e46
            have e54 : fld f51 a0 22 = .ref GP := (hf51.efl m_a0 r_a0 rfl).trans e47
            have e55 : fld f51 a0 23 = .ref GL := (hf51.efl m_a0 r_a0 rfl).trans e48
            have e56 : fld f51 a0 6 = .ref GT := (hf51.efl m_a0 r_a0 rfl).trans e49
            have hRO : RB GA 24060 f51 := by have q := hv52p1; rw [show z50.toInt.toNat = 24060 by omega] at q; exact q
            refine lv_aload_n F.1 F.2.1 dX12_face_61 rfl (lv_at hl 0 rfl) ?_
            refine lv_aload_n F.1 F.2.1 dX12_face_62 rfl (lv_at hl 0 rfl) ?_
            refine lv_iload_n F.1 F.2.1 dX12_face_63 rfl (lv_at hl 3 rfl) ?_
            refine tw_Vi (As := [.int x3]) F hZ h yk_X12_lineAt mw_495 mw_496 mw_497 (s_X12_lineAt l D cy L R O f51 a0 m_a0 r_a0 x3 ⟨by omega, by omega⟩) rfl rfl m_a0 r_a0 (fun e q => (T_12 e).mp q) rfl hl.1 rfl (Nat.le_of_ble_eq_true rfl) ⟨Nat.le_of_ble_eq_true rfl, Nat.le_of_ble_eq_true rfl⟩ ⟨Nat.le_of_ble_eq_true rfl, Nat.le_of_ble_eq_true rfl⟩ dX12_face_64 (fun v58 f57 H locs hp57 h => ?_)
            obtain ⟨rfl, hv58a, hv58b, hv58p0⟩ := hp57
            refine tw_Vv (As := [.int v58]) F hZ h yk_X12_hears mw_890 mw_891 mw_892 (s_X12_hears l D cy L R O f51 a0 m_a0 r_a0 v58 ⟨by omega, by omega⟩ (ac_l (by omega))) rfl rfl m_a0 r_a0 (fun e q => (T_12 e).mp q) rfl hl.1 rfl (Nat.le_of_ble_eq_true rfl) ⟨Nat.le_of_ble_eq_true rfl, Nat.le_of_ble_eq_true rfl⟩ ⟨Nat.le_of_ble_eq_true rfl, Nat.le_of_ble_eq_true rfl⟩ dX12_face_67 (fun f59 H locs hp59 h => ?_)
            have hf59 := hp59
            have hR : RBA GA f59 := hR.fm hf59 m_GA r_GA (by decide +kernel)
            have hX : GZ GP GL f59 := hX.fm hf59 m_GP r_GP m_GL r_GL (by decide +kernel) (by decide +kernel)
            have hRB : RB GA 22410 f59 := hRB.fm hf59 m_GA r_GA (by decide +kernel)
            have hRO : RB GA 24060 f59 := hRO.fm hf59 m_GA r_GA (by decide +kernel)
            have hk : fr L R [(12, 1), (12, 28), (12, 29), (12, 35), (12, 36), (12, 37), (12, 38), (12, 39), (12, 56), (12, 57)] [12, 61, 68, 69, 70, 73, 74, 76, 83] f0 f59 := hk.tr hf59 rfl rfl
            have e61 : fld f59 a0 0 = .ref GA := (hf59.efl m_a0 r_a0 rfl).trans e53
            have e62 : fld f59 a0 22 = .ref GP := (hf59.efl m_a0 r_a0 rfl).trans e54
            have e63 : fld f59 a0 23 = .ref GL := (hf59.efl m_a0 r_a0 rfl).trans e55
            have e64 : fld f59 a0 6 = .ref GT := (hf59.efl m_a0 r_a0 rfl).trans e56
            refine lv_aload_n F.1 F.2.1 dX12_face_70 rfl (lv_at hl 0 rfl) ?_
            refine tw_iconst F dX12_face_71 ki_m1 (fun z65 hz65 => ?_)
            refine p_12_103 F h m_a0 r_a0 dX12_face_72 (fun f66 H locs e66p hf66 h => ?_)
            have hR : RBA GA f66 := hR.fm hf66 m_GA r_GA (by decide +kernel)
            have hX : GZ GP GL f66 := hX.fm hf66 m_GP r_GP m_GL r_GL (by decide +kernel) (by decide +kernel)
            have hRB : RB GA 22410 f66 := hRB.fm hf66 m_GA r_GA (by decide +kernel)
            have hRO : RB GA 24060 f66 := hRO.fm hf66 m_GA r_GA (by decide +kernel)
            have hk : fr L R [(12, 1), (12, 28), (12, 29), (12, 35), (12, 36), (12, 37), (12, 38), (12, 39), (12, 56), (12, 57)] [12, 61, 68, 69, 70, 73, 74, 76, 83] f0 f66 := hk.tr hf66 rfl rfl
            have e67 : fld f66 a0 0 = .ref GA := (hf66.efl m_a0 r_a0 rfl).trans e61
            have e68 : fld f66 a0 22 = .ref GP := (hf66.efl m_a0 r_a0 rfl).trans e62
            have e69 : fld f66 a0 23 = .ref GL := (hf66.efl m_a0 r_a0 rfl).trans e63
            have e70 : fld f66 a0 6 = .ref GT := (hf66.efl m_a0 r_a0 rfl).trans e64
            refine tw_iconst F dX12_face_75 ki_0 (fun z71 hz71 => ?_)
            refine lv_istore (lv' := [(5, .int z71), (0, .ref a0), (1, .int x1), (2, .int x2), (3, .int x3), (4, .int x4)]) F.1 F.2.1 dX12_face_76 hl (by decide) rfl (fun ls hl => ?_)
            refine tw_iconst F dX12_face_78 ki_1 (fun z72 hz72 => ?_)
            refine lv_istore (lv' := [(6, .int z72), (5, .int z71), (0, .ref a0), (1, .int x1), (2, .int x2), (3, .int x3), (4, .int x4)]) F.1 F.2.1 dX12_face_79 hl (by decide) rfl (fun ls hl => ?_)
            have j_81 : ∀ (n81 : Nat) (f73 : Nat → va_E) (H : Heap) (locs : List Loc) (ls : Array Slot) (x5_81 : Int32) (x6_81 : Int32), 0 ≤ x6_81.toInt → x6_81.toInt ≤ 1 → 0 ≤ x5_81.toInt → x5_81.toInt ≤ x4.toInt → ((2 * (201 - x5_81.toInt) + x6_81.toInt)).toNat < n81 → tS D cy A s.heap L R (TT cy L R) f73 s H locs → RBA GA f73 → GZ GP GL f73 → RB GA 22410 f73 → RB GA 24060 f73 → fr L R [(12, 1), (12, 28), (12, 29), (12, 35), (12, 36), (12, 37), (12, 38), (12, 39), (12, 56), (12, 57)] [12, 61, 68, 69, 70, 73, 74, 76, 83] f0 f73 → fr L R [(12, 28), (12, 29), (12, 35), (12, 36), (12, 37), (12, 38), (12, 39), (12, 56), (12, 57)] [12, 61, 68, 69, 70, 73, 74, 76, 83] f66 f73 → lv_has ls 8 [(0, .ref a0), (4, .int x4), (5, .int x5_81), (6, .int x6_81)] → W p l e rm_X12_face s m args below meth c H locs 0 0 Q (F0 m 81 ls []) := by
              intro n81
              induction n81 with
              | zero =>
                intro f73 H locs ls x5_81 x6_81 b74 b75 b76 b77 b78 h hR hX hRB hRO hk hb81 hl
                exfalso
                omega
              | succ n81 ih81 =>
                intro f73 H locs ls x5_81 x6_81 b74 b75 b76 b77 b78 h hR hX hRB hRO hk hb81 hl
                have e79 : fld f73 a0 0 = .ref GA := (hb81.efl m_a0 r_a0 rfl).trans e67
                have e80 : fld f73 a0 22 = .ref GP := (hb81.efl m_a0 r_a0 rfl).trans e68
                have e81 : fld f73 a0 23 = .ref GL := (hb81.efl m_a0 r_a0 rfl).trans e69
                have e82 : fld f73 a0 6 = .ref GT := (hb81.efl m_a0 r_a0 rfl).trans e70
                refine lv_iload F.1 F.2.1 dX12_face_81 (lv_at hl 3 rfl) ?_
                refine tw_if_eq (tgt := 213) F dX12_face_83 (by decide) (fun b83 => ?_) (fun b83 => ?_)
                · refine lv_aload_n F.1 F.2.1 dX12_face_213 rfl (lv_at hl 0 rfl) ?_
                  refine lv_iload F.1 F.2.1 dX12_face_214 (lv_at hl 2 rfl) ?_
                  refine tw_Vi (As := [.int x5_81]) F hZ h yk_X12_gives mw_499 mw_500 mw_501 (s_X12_gives l D cy L R O f73 a0 m_a0 r_a0 x5_81) rfl rfl m_a0 r_a0 (fun e q => (T_12 e).mp q) rfl hl.1 rfl (Nat.le_of_ble_eq_true rfl) ⟨Nat.le_of_ble_eq_true rfl, Nat.le_of_ble_eq_true rfl⟩ ⟨Nat.le_of_ble_eq_true rfl, Nat.le_of_ble_eq_true rfl⟩ dX12_face_216 (fun v85 f84 H locs hp84 h => ?_)
                  have hf84 := hp84
                  have hR : RBA GA f84 := hR.fm hf84 m_GA r_GA (by decide +kernel)
                  have hX : GZ GP GL f84 := hX.fm hf84 m_GP r_GP m_GL r_GL (by decide +kernel) (by decide +kernel)
                  have hRB : RB GA 22410 f84 := hRB.fm hf84 m_GA r_GA (by decide +kernel)
                  have hRO : RB GA 24060 f84 := hRO.fm hf84 m_GA r_GA (by decide +kernel)
                  have hk : fr L R [(12, 1), (12, 28), (12, 29), (12, 35), (12, 36), (12, 37), (12, 38), (12, 39), (12, 56), (12, 57)] [12, 61, 68, 69, 70, 73, 74, 76, 83] f0 f84 := hk.tr hf84 rfl rfl
                  have e86 : fld f84 a0 0 = .ref GA := (hf84.efl m_a0 r_a0 rfl).trans e79
                  have e87 : fld f84 a0 22 = .ref GP := (hf84.efl m_a0 r_a0 rfl).trans e80
                  have e88 : fld f84 a0 23 = .ref GL := (hf84.efl m_a0 r_a0 rfl).trans e81
                  have e89 : fld f84 a0 6 = .ref GT := (hf84.efl m_a0 r_a0 rfl).trans e82
                  have e90 : fi f84 a0 56 = fi f73 a0 56 := hf84.efi m_a0 r_a0 rfl
                  exact hret f84 _ _ _ _ v85 dX12_face_219 rfl ⟨hk, hR, hX⟩ h
                · refine lv_aload_n F.1 F.2.1 dX12_face_86 rfl (lv_at hl 0 rfl) ?_
                  refine lv_iload F.1 F.2.1 dX12_face_87 (lv_at hl 2 rfl) ?_
                  refine lv_iload F.1 F.2.1 dX12_face_89 (lv_at hl 2 rfl) ?_
                  refine tw_iconst F dX12_face_91 ki_2 (fun z91 hz91 => ?_)
                  refine tu_irem F dX12_face_92 (by omega) (fun z92 hz92a hz92b => ?_)
                  refine tw_Vv (As := [.int x5_81, .int z92]) F hZ h yk_X12_keeps mw_1307 mw_1308 mw_1309 (s_X12_keeps l D cy L R O f73 a0 m_a0 r_a0 x5_81 ⟨by omega, by omega⟩ z92 ⟨by omega, by omega⟩) rfl rfl m_a0 r_a0 (fun e q => (T_12 e).mp q) rfl hl.1 rfl (Nat.le_of_ble_eq_true rfl) ⟨Nat.le_of_ble_eq_true rfl, Nat.le_of_ble_eq_true rfl⟩ ⟨Nat.le_of_ble_eq_true rfl, Nat.le_of_ble_eq_true rfl⟩ dX12_face_93 (fun f93 H locs hp93 h => ?_)
                  have hf93 := hp93
                  have hR : RBA GA f93 := hR.fm hf93 m_GA r_GA (by decide +kernel)
                  have hX : GZ GP GL f93 := hX.fm hf93 m_GP r_GP m_GL r_GL (by decide +kernel) (by decide +kernel)
                  have hRB : RB GA 22410 f93 := hRB.fm hf93 m_GA r_GA (by decide +kernel)
                  have hRO : RB GA 24060 f93 := hRO.fm hf93 m_GA r_GA (by decide +kernel)
                  have hk : fr L R [(12, 1), (12, 28), (12, 29), (12, 35), (12, 36), (12, 37), (12, 38), (12, 39), (12, 56), (12, 57)] [12, 61, 68, 69, 70, 73, 74, 76, 83] f0 f93 := hk.tr hf93 rfl rfl
                  have hb81 : fr L R [(12, 28), (12, 29), (12, 35), (12, 36), (12, 37), (12, 38), (12, 39), (12, 56), (12, 57)] [12, 61, 68, 69, 70, 73, 74, 76, 83] f66 f93 := hb81.tr hf93 rfl rfl
                  have e95 : fld f93 a0 0 = .ref GA := (hf93.efl m_a0 r_a0 rfl).trans e79
                  have e96 : fld f93 a0 22 = .ref GP := (hf93.efl m_a0 r_a0 rfl).trans e80
                  have e97 : fld f93 a0 23 = .ref GL := (hf93.efl m_a0 r_a0 rfl).trans e81
                  have e98 : fld f93 a0 6 = .ref GT := (hf93.efl m_a0 r_a0 rfl).trans e82
                  have e99 : fi f93 a0 56 = fi f73 a0 56 := hf93.efi m_a0 r_a0 rfl
                  refine lv_aload_n F.1 F.2.1 dX12_face_96 rfl (lv_at hl 0 rfl) ?_
                  refine lv_aload_n F.1 F.2.1 dX12_face_97 rfl (lv_at hl 0 rfl) ?_
                  refine lv_iload F.1 F.2.1 dX12_face_98 (lv_at hl 2 rfl) ?_
                  refine tw_Vi (As := [.int x5_81]) F hZ h yk_X12_cameAt mw_1311 mw_1312 mw_1313 (s_X12_cameAt l D cy L R O f93 a0 m_a0 r_a0 x5_81 ⟨by omega, by omega⟩) rfl rfl m_a0 r_a0 (fun e q => (T_12 e).mp q) rfl hl.1 rfl (Nat.le_of_ble_eq_true rfl) ⟨Nat.le_of_ble_eq_true rfl, Nat.le_of_ble_eq_true rfl⟩ ⟨Nat.le_of_ble_eq_true rfl, Nat.le_of_ble_eq_true rfl⟩ dX12_face_100 (fun v101 f100 H locs hp100 h => ?_)
                  obtain ⟨rfl, hv101a, hv101b⟩ := hp100
                  refine p_12_103 F h m_a0 r_a0 dX12_face_103 (fun f102 H locs e102p hf102 h => ?_)
                  have hR : RBA GA f102 := hR.fm hf102 m_GA r_GA (by decide +kernel)
                  have hX : GZ GP GL f102 := hX.fm hf102 m_GP r_GP m_GL r_GL (by decide +kernel) (by decide +kernel)
                  have hRB : RB GA 22410 f102 := hRB.fm hf102 m_GA r_GA (by decide +kernel)
                  have hRO : RB GA 24060 f102 := hRO.fm hf102 m_GA r_GA (by decide +kernel)
                  have hk : fr L R [(12, 1), (12, 28), (12, 29), (12, 35), (12, 36), (12, 37), (12, 38), (12, 39), (12, 56), (12, 57)] [12, 61, 68, 69, 70, 73, 74, 76, 83] f0 f102 := hk.tr hf102 rfl rfl
                  have hb81 : fr L R [(12, 28), (12, 29), (12, 35), (12, 36), (12, 37), (12, 38), (12, 39), (12, 56), (12, 57)] [12, 61, 68, 69, 70, 73, 74, 76, 83] f66 f102 := hb81.tr hf102 rfl rfl
                  have e103 : fld f102 a0 0 = .ref GA := (hf102.efl m_a0 r_a0 rfl).trans e95
                  have e104 : fld f102 a0 22 = .ref GP := (hf102.efl m_a0 r_a0 rfl).trans e96
                  have e105 : fld f102 a0 23 = .ref GL := (hf102.efl m_a0 r_a0 rfl).trans e97
                  have e106 : fld f102 a0 6 = .ref GT := (hf102.efl m_a0 r_a0 rfl).trans e98
                  refine lv_aload_n F.1 F.2.1 dX12_face_106 rfl (lv_at hl 0 rfl) ?_
                  refine lv_iload F.1 F.2.1 dX12_face_107 (lv_at hl 2 rfl) ?_
                  refine lv_aload_n F.1 F.2.1 dX12_face_109 rfl (lv_at hl 0 rfl) ?_
                  refine g_12_103 F h m_a0 r_a0 dX12_face_110 (fun v107 hv107 => ?_)
                  refine lv_isub F.1 F.2.1 dX12_face_113 ?_
                  refine lv_topi (fun z108 _ => ?_)
                  refine p_12_431 F h m_a0 r_a0 dX12_face_114 (fun f109 H locs e109p hf109 h => ?_)
                  have hR : RBA GA f109 := hR.fm hf109 m_GA r_GA (by decide +kernel)
                  have hX : GZ GP GL f109 := hX.fm hf109 m_GP r_GP m_GL r_GL (by decide +kernel) (by decide +kernel)
                  have hRB : RB GA 22410 f109 := hRB.fm hf109 m_GA r_GA (by decide +kernel)
                  have hRO : RB GA 24060 f109 := hRO.fm hf109 m_GA r_GA (by decide +kernel)
                  have hk : fr L R [(12, 1), (12, 28), (12, 29), (12, 35), (12, 36), (12, 37), (12, 38), (12, 39), (12, 56), (12, 57)] [12, 61, 68, 69, 70, 73, 74, 76, 83] f0 f109 := hk.tr hf109 rfl rfl
                  have hb81 : fr L R [(12, 28), (12, 29), (12, 35), (12, 36), (12, 37), (12, 38), (12, 39), (12, 56), (12, 57)] [12, 61, 68, 69, 70, 73, 74, 76, 83] f66 f109 := hb81.tr hf109 rfl rfl
                  have e110 : fld f109 a0 0 = .ref GA := (hf109.efl m_a0 r_a0 rfl).trans e103
                  have e111 : fld f109 a0 22 = .ref GP := (hf109.efl m_a0 r_a0 rfl).trans e104
                  have e112 : fld f109 a0 23 = .ref GL := (hf109.efl m_a0 r_a0 rfl).trans e105
                  have e113 : fld f109 a0 6 = .ref GT := (hf109.efl m_a0 r_a0 rfl).trans e106
                  have e114 : fi f109 a0 56 = fi f102 a0 56 := hf109.efi m_a0 r_a0 rfl
                  refine lv_aload_n F.1 F.2.1 dX12_face_117 rfl (lv_at hl 0 rfl) ?_
                  refine g_12_103 F h m_a0 r_a0 dX12_face_118 (fun v115 hv115 => ?_)
                  refine tw_iconst F dX12_face_121 ki_m1 (fun z116 hz116 => ?_)
                  have j_137 : ∀ (ls : Array Slot) (y0_137 : Int32), 0 ≤ y0_137.toInt → y0_137.toInt ≤ 1 → (y0_137.toInt = 0 ∨ x5_81.toInt < x4.toInt) → lv_has ls 8 [(0, .ref a0), (4, .int x4), (5, .int x5_81)] → W p l e rm_X12_face s m args below meth c H locs 0 0 Q (F0 m 137 ls [.int y0_137]) := by
                    intro ls y0_137 b117 b118 b119 hl
                    refine lv_istore (lv' := [(6, .int y0_137), (0, .ref a0), (4, .int x4), (5, .int x5_81)]) F.1 F.2.1 dX12_face_137 hl (by decide) rfl (fun ls hl => ?_)
                    refine lv_iload F.1 F.2.1 dX12_face_139 (lv_at hl 0 rfl) ?_
                    refine tw_if_ne (tgt := 147) F dX12_face_141 (by decide) (fun b120 => ?_) (fun b120 => ?_)
                    · refine lv_aload_n F.1 F.2.1 dX12_face_147 rfl (lv_at hl 1 rfl) ?_
                      refine lv_iload F.1 F.2.1 dX12_face_148 (lv_at hl 3 rfl) ?_
                      refine tw_iconst F dX12_face_150 ki_2 (fun z121 hz121 => ?_)
                      refine tu_irem F dX12_face_151 (by omega) (fun z122 hz122a hz122b => ?_)
                      have j_164 : ∀ (ls : Array Slot) (y0_164 : Int32), 22410 ≤ y0_164.toInt → y0_164.toInt ≤ 24060 → (y0_164.toInt = 22410 ∨ y0_164.toInt = 24060) → lv_has ls 8 [(0, .ref a0), (4, .int x4), (5, .int x5_81), (6, .int y0_137)] → W p l e rm_X12_face s m args below meth c H locs 0 0 Q (F0 m 164 ls [.int y0_164, .ref a0]) := by
                        intro ls y0_164 b123 b124 b125 hl
                        refine tw_Vv (As := [.int y0_164]) F hZ h yk_X12_answers0 mw_1057 mw_1058 mw_1059 (s_X12_answers0 l D cy L R O f109 a0 m_a0 r_a0 y0_164 ⟨by omega, by omega⟩ GA m_GA r_GA e110 GP m_GP r_GP e111 GL m_GL r_GL e112 GT m_GT r_GT e113 (isB_c (by omega)) (RB_2 hRB hRO (by omega)) hX) rfl rfl m_a0 r_a0 (fun e q => (T_12 e).mp q) rfl hl.1 rfl (Nat.le_of_ble_eq_true rfl) ⟨Nat.le_of_ble_eq_true rfl, Nat.le_of_ble_eq_true rfl⟩ ⟨Nat.le_of_ble_eq_true rfl, Nat.le_of_ble_eq_true rfl⟩ dX12_face_164 (fun f126 H locs hp126 h => ?_)
                        obtain ⟨hf126, hv127p0, hv127p1⟩ := hp126
                        have hR : RBA GA f126 := hR.kw hv127p1 (Or.inl (by omega))
                        have hX : GZ GP GL f126 := hv127p0
                        have hRB : RB GA 22410 f126 := hRB.kw hv127p1 (by omega)
                        have hRO : RB GA 24060 f126 := hRO.kw hv127p1 (by omega)
                        have hk : fr L R [(12, 1), (12, 28), (12, 29), (12, 35), (12, 36), (12, 37), (12, 38), (12, 39), (12, 56), (12, 57)] [12, 61, 68, 69, 70, 73, 74, 76, 83] f0 f126 := hk.tr hf126 (by decide +kernel) (by decide +kernel)
                        have hb81 : fr L R [(12, 28), (12, 29), (12, 35), (12, 36), (12, 37), (12, 38), (12, 39), (12, 56), (12, 57)] [12, 61, 68, 69, 70, 73, 74, 76, 83] f66 f126 := hb81.tr hf126 (by decide +kernel) (by decide +kernel)
                        have e128 : fld f126 a0 0 = .ref GA := (hf126.efl m_a0 r_a0 rfl).trans e110
                        have e129 : fld f126 a0 22 = .ref GP := (hf126.efl m_a0 r_a0 rfl).trans e111
                        have e130 : fld f126 a0 23 = .ref GL := (hf126.efl m_a0 r_a0 rfl).trans e112
                        have e131 : fld f126 a0 6 = .ref GT := (hf126.efl m_a0 r_a0 rfl).trans e113
                        have e132 : fi f126 a0 56 = fi f109 a0 56 := hf126.efi m_a0 r_a0 rfl
                        refine lv_aload_n F.1 F.2.1 dX12_face_167 rfl (lv_at hl 0 rfl) ?_
                        refine lv_aload_n F.1 F.2.1 dX12_face_168 rfl (lv_at hl 0 rfl) ?_
                        refine g_12_324 F h m_a0 r_a0 dX12_face_169 (fun v133 hv133 hv133a hv133b => ?_)
                        refine p_12_298 F h m_a0 r_a0 (by omega) dX12_face_172 (fun f134 H locs e134p hf134 h => ?_)
                        have hR : RBA GA f134 := hR.fm hf134 m_GA r_GA (by decide +kernel)
                        have hX : GZ GP GL f134 := hX.fm hf134 m_GP r_GP m_GL r_GL (by decide +kernel) (by decide +kernel)
                        have hRB : RB GA 22410 f134 := hRB.fm hf134 m_GA r_GA (by decide +kernel)
                        have hRO : RB GA 24060 f134 := hRO.fm hf134 m_GA r_GA (by decide +kernel)
                        have hk : fr L R [(12, 1), (12, 28), (12, 29), (12, 35), (12, 36), (12, 37), (12, 38), (12, 39), (12, 56), (12, 57)] [12, 61, 68, 69, 70, 73, 74, 76, 83] f0 f134 := hk.tr hf134 rfl rfl
                        have hb81 : fr L R [(12, 28), (12, 29), (12, 35), (12, 36), (12, 37), (12, 38), (12, 39), (12, 56), (12, 57)] [12, 61, 68, 69, 70, 73, 74, 76, 83] f66 f134 := hb81.tr hf134 rfl rfl
                        have e135 : fld f134 a0 0 = .ref GA := (hf134.efl m_a0 r_a0 rfl).trans e128
                        have e136 : fld f134 a0 22 = .ref GP := (hf134.efl m_a0 r_a0 rfl).trans e129
                        have e137 : fld f134 a0 23 = .ref GL := (hf134.efl m_a0 r_a0 rfl).trans e130
                        have e138 : fld f134 a0 6 = .ref GT := (hf134.efl m_a0 r_a0 rfl).trans e131
                        have e139 : fi f134 a0 56 = fi f126 a0 56 := hf134.efi m_a0 r_a0 rfl
                        have e140 : fi f134 a0 29 = fi f126 a0 29 := hf134.efi m_a0 r_a0 rfl
                        refine tw_iconst F dX12_face_175 ki_0 (fun z141 hz141 => ?_)
                        refine lv_istore (lv' := [(7, .int z141), (0, .ref a0), (4, .int x4), (5, .int x5_81), (6, .int y0_137)]) F.1 F.2.1 dX12_face_176 hl (by decide) rfl (fun ls hl => ?_)
                        have j_178 : ∀ (n178 : Nat) (f142 : Nat → va_E) (H : Heap) (locs : List Loc) (ls : Array Slot) (x7_178 : Int32), 0 ≤ x7_178.toInt → x7_178.toInt ≤ 12 → ((12 - x7_178.toInt)).toNat < n178 → tS D cy A s.heap L R (TT cy L R) f142 s H locs → RBA GA f142 → GZ GP GL f142 → RB GA 22410 f142 → RB GA 24060 f142 → fr L R [(12, 1), (12, 28), (12, 29), (12, 35), (12, 36), (12, 37), (12, 38), (12, 39), (12, 56), (12, 57)] [12, 61, 68, 69, 70, 73, 74, 76, 83] f0 f142 → fr L R [] [73] f134 f142 → lv_has ls 8 [(0, .ref a0), (4, .int x4), (5, .int x5_81), (6, .int y0_137), (7, .int x7_178)] → W p l e rm_X12_face s m args below meth c H locs 0 0 Q (F0 m 178 ls []) := by
                          intro n178
                          induction n178 with
                          | zero =>
                            intro f142 H locs ls x7_178 b143 b144 b145 h hR hX hRB hRO hk hb178 hl
                            exfalso
                            omega
                          | succ n178 ih178 =>
                            intro f142 H locs ls x7_178 b143 b144 b145 h hR hX hRB hRO hk hb178 hl
                            have hb81 : fr L R [(12, 28), (12, 29), (12, 35), (12, 36), (12, 37), (12, 38), (12, 39), (12, 56), (12, 57)] [12, 61, 68, 69, 70, 73, 74, 76, 83] f66 f142 := hb81.tr hb178 rfl rfl
                            have e146 : fld f142 a0 0 = .ref GA := (hb178.efl m_a0 r_a0 rfl).trans e135
                            have e147 : fld f142 a0 22 = .ref GP := (hb178.efl m_a0 r_a0 rfl).trans e136
                            have e148 : fld f142 a0 23 = .ref GL := (hb178.efl m_a0 r_a0 rfl).trans e137
                            have e149 : fld f142 a0 6 = .ref GT := (hb178.efl m_a0 r_a0 rfl).trans e138
                            have e150 : fi f142 a0 56 = fi f134 a0 56 := hb178.efi m_a0 r_a0 rfl
                            have e151 : fi f142 a0 29 = fi f134 a0 29 := hb178.efi m_a0 r_a0 rfl
                            refine lv_iload F.1 F.2.1 dX12_face_178 (lv_at hl 4 rfl) ?_
                            refine lv_aload_n F.1 F.2.1 dX12_face_180 rfl (lv_at hl 0 rfl) ?_
                            refine g_12_324 F h m_a0 r_a0 dX12_face_181 (fun v152 hv152 hv152a hv152b => ?_)
                            refine tw_icmp_ge (tgt := 207) F dX12_face_184 (by decide) (fun b153 => ?_) (fun b153 => ?_)
                            · refine tu_iinc F dX12_face_207 hl (k := 2) rfl (by decide) ki_1 (by omega) (fun z154 ls hz154 hl => ?_)
                              have hl : lv_has ls 8 [(5, .int z154), (0, .ref a0), (4, .int x4), (6, .int y0_137), (7, .int x7_178)] := hl
                              refine lv_goto (tgt := 81) F.1 F.2.1 dX12_face_210 (by decide) ?_
                              exact ih81 f142 _ _ _ z154 y0_137 (by omega) (by omega) (by omega) (by omega) (by omega) h hR hX hRB hRO hk hb81 (lv_sub hl [1, 2, 0, 3] rfl)
                            · refine lv_aload_n F.1 F.2.1 dX12_face_187 rfl (lv_at hl 0 rfl) ?_
                              refine g_12_60 F h m_a0 r_a0 dX12_face_188 (fun o155 m_o155 r_o155 ho155 => ?_)
                              refine lv_iload F.1 F.2.1 dX12_face_191 (lv_at hl 4 rfl) ?_
                              refine lv_aload_n F.1 F.2.1 dX12_face_193 rfl (lv_at hl 0 rfl) ?_
                              refine g_12_63 F h m_a0 r_a0 dX12_face_194 (fun o156 m_o156 r_o156 ho156 => ?_)
                              refine lv_iload F.1 F.2.1 dX12_face_197 (lv_at hl 4 rfl) ?_
                              refine ld_74 F h m_o156 r_o156 (by omega) dX12_face_199 (fun v157 => ?_)
                              refine st_73 F h m_o155 r_o155 (by omega) dX12_face_200 (fun f158 H locs hf158 h => ?_)
                              have hR : RBA GA f158 := hR.fm hf158 m_GA r_GA (by decide +kernel)
                              have hX : GZ GP GL f158 := hX.fm hf158 m_GP r_GP m_GL r_GL (by decide +kernel) (by decide +kernel)
                              have hRB : RB GA 22410 f158 := hRB.fm hf158 m_GA r_GA (by decide +kernel)
                              have hRO : RB GA 24060 f158 := hRO.fm hf158 m_GA r_GA (by decide +kernel)
                              have hk : fr L R [(12, 1), (12, 28), (12, 29), (12, 35), (12, 36), (12, 37), (12, 38), (12, 39), (12, 56), (12, 57)] [12, 61, 68, 69, 70, 73, 74, 76, 83] f0 f158 := hk.tr hf158 rfl rfl
                              have hb81 : fr L R [(12, 28), (12, 29), (12, 35), (12, 36), (12, 37), (12, 38), (12, 39), (12, 56), (12, 57)] [12, 61, 68, 69, 70, 73, 74, 76, 83] f66 f158 := hb81.tr hf158 rfl rfl
                              have hb178 : fr L R [] [73] f134 f158 := hb178.tr hf158 rfl rfl
                              have e159 : fld f158 a0 0 = .ref GA := (hf158.efl m_a0 r_a0 rfl).trans e146
                              have e160 : fld f158 a0 22 = .ref GP := (hf158.efl m_a0 r_a0 rfl).trans e147
                              have e161 : fld f158 a0 23 = .ref GL := (hf158.efl m_a0 r_a0 rfl).trans e148
                              have e162 : fld f158 a0 6 = .ref GT := (hf158.efl m_a0 r_a0 rfl).trans e149
                              have e163 : fi f158 a0 56 = fi f142 a0 56 := hf158.efi m_a0 r_a0 rfl
                              have e164 : fi f158 a0 29 = fi f142 a0 29 := hf158.efi m_a0 r_a0 rfl
                              refine tu_iinc F dX12_face_201 hl (k := 4) rfl (by decide) ki_1 (by omega) (fun z165 ls hz165 hl => ?_)
                              have hl : lv_has ls 8 [(7, .int z165), (0, .ref a0), (4, .int x4), (5, .int x5_81), (6, .int y0_137)] := hl
                              refine lv_goto (tgt := 178) F.1 F.2.1 dX12_face_204 (by decide) ?_
                              exact ih178 f158 _ _ _ z165 (by omega) (by omega) (by omega) h hR hX hRB hRO hk hb178 (lv_sub hl [1, 2, 3, 4, 0] rfl)
                        have hb178 : fr L R [] [73] f134 f134 := fr.rf
                        exact j_178 (((12 - z141.toInt)).toNat + 1) f134 _ _ _ z141 (by omega) (by omega) (by omega) h hR hX hRB hRO hk hb178 (lv_sub hl [1, 2, 3, 4, 0] rfl)
                      refine tw_if_ne (tgt := 161) F dX12_face_152 (by decide) (fun b166 => ?_) (fun b166 => ?_)
                      · refine tw_sipush F dX12_face_161 ks_24060 (fun z167 hz167 => ?_)
                        exact j_164 _ z167 (by omega) (by omega) (by omega) (lv_sub hl [1, 2, 3, 0] rfl)
                      · refine tw_sipush F dX12_face_155 ks_22410 (fun z168 hz168 => ?_)
                        refine lv_goto (tgt := 164) F.1 F.2.1 dX12_face_158 (by decide) ?_
                        exact j_164 _ z168 (by omega) (by omega) (by omega) (lv_sub hl [1, 2, 3, 0] rfl)
                    · refine lv_goto (tgt := 81) F.1 F.2.1 dX12_face_144 (by decide) ?_
                      exact ih81 f109 _ _ _ x5_81 y0_137 (by omega) (by omega) (by omega) (by omega) (by omega) h hR hX hRB hRO hk hb81 (lv_sub hl [1, 2, 3, 0] rfl)
                  have j_136 : ∀ (ls : Array Slot), lv_has ls 8 [(0, .ref a0), (4, .int x4), (5, .int x5_81)] → W p l e rm_X12_face s m args below meth c H locs 0 0 Q (F0 m 136 ls []) := by
                    intro ls hl
                    refine tw_iconst F dX12_face_136 ki_0 (fun z169 hz169 => ?_)
                    exact j_137 _ z169 (by omega) (by omega) (by omega) (lv_sub hl [0, 1, 2] rfl)
                  refine tw_icmp_ne (tgt := 136) F dX12_face_122 (by decide) (fun b170 => ?_) (fun b170 => ?_)
                  · exact j_136 _ (lv_sub hl [0, 1, 2] rfl)
                  · refine lv_iload F.1 F.2.1 dX12_face_125 (lv_at hl 2 rfl) ?_
                    refine lv_iload F.1 F.2.1 dX12_face_127 (lv_at hl 1 rfl) ?_
                    refine tw_icmp_ge (tgt := 136) F dX12_face_129 (by decide) (fun b171 => ?_) (fun b171 => ?_)
                    · exact j_136 _ (lv_sub hl [0, 1, 2] rfl)
                    · refine tw_iconst F dX12_face_132 ki_1 (fun z172 hz172 => ?_)
                      refine lv_goto (tgt := 137) F.1 F.2.1 dX12_face_133 (by decide) ?_
                      exact j_137 _ z172 (by omega) (by omega) (by omega) (lv_sub hl [0, 1, 2] rfl)
            have hb81 : fr L R [(12, 28), (12, 29), (12, 35), (12, 36), (12, 37), (12, 38), (12, 39), (12, 56), (12, 57)] [12, 61, 68, 69, 70, 73, 74, 76, 83] f66 f66 := fr.rf
            exact j_81 (((2 * (201 - z71.toInt) + z72.toInt)).toNat + 1) f66 _ _ _ z71 z72 (by omega) (by omega) (by omega) (by omega) (by omega) h hR hX hRB hRO hk hb81 (lv_sub hl [2, 6, 1, 0] rfl)
          · refine lv_aload_n F.1 F.2.1 dX12_face_39 rfl (lv_at hl 0 rfl) ?_
            refine tw_iconst F dX12_face_40 ki_1 (fun z173 hz173 => ?_)
            refine tw_Vi (As := [.int z173]) F hZ h yk_X12_refuse mw_452 mw_453 mw_454 (s_X12_refuse l D cy L R O f0 a0 m_a0 r_a0 z173 ⟨by omega, by omega⟩) rfl rfl m_a0 r_a0 (fun e q => (T_12 e).mp q) rfl hl.1 rfl (Nat.le_of_ble_eq_true rfl) ⟨Nat.le_of_ble_eq_true rfl, Nat.le_of_ble_eq_true rfl⟩ ⟨Nat.le_of_ble_eq_true rfl, Nat.le_of_ble_eq_true rfl⟩ dX12_face_41 (fun v175 f174 H locs hp174 h => ?_)
            obtain ⟨hf174, hv175a, hv175b⟩ := hp174
            have hR : RBA GA f174 := hR.fm hf174 m_GA r_GA (by decide +kernel)
            have hX : GZ GP GL f174 := hX.fm hf174 m_GP r_GP m_GL r_GL (by decide +kernel) (by decide +kernel)
            have hk : fr L R [(12, 1), (12, 28), (12, 29), (12, 35), (12, 36), (12, 37), (12, 38), (12, 39), (12, 56), (12, 57)] [12, 61, 68, 69, 70, 73, 74, 76, 83] f0 f174 := hk.tr hf174 rfl rfl
            have e176 : fld f174 a0 0 = .ref GA := (hf174.efl m_a0 r_a0 rfl).trans t_GA
            have e177 : fld f174 a0 22 = .ref GP := (hf174.efl m_a0 r_a0 rfl).trans t_GP
            have e178 : fld f174 a0 23 = .ref GL := (hf174.efl m_a0 r_a0 rfl).trans t_GL
            have e179 : fld f174 a0 6 = .ref GT := (hf174.efl m_a0 r_a0 rfl).trans t_GT
            exact hret f174 _ _ _ _ v175 dX12_face_44 rfl ⟨hk, hR, hX⟩ h
theorem dX12_fit_0 : decode cX12_fit 0 = .ok (.aload_n 0, 1) := by decide +kernel
theorem dX12_fit_1 : decode cX12_fit 1 = .ok (.iload_n 1, 1) := by decide +kernel
theorem dX12_fit_2 : decode cX12_fit 2 = .ok (.invokevirtual 282, 3) := by decide +kernel
theorem dX12_fit_5 : decode cX12_fit 5 = .ok (.ifCond .eq 34, 3) := by decide +kernel
theorem dX12_fit_39 : decode cX12_fit 39 = .ok (.aload_n 0, 1) := by decide +kernel
theorem dX12_fit_40 : decode cX12_fit 40 = .ok (.iconst 1, 1) := by decide +kernel
theorem dX12_fit_41 : decode cX12_fit 41 = .ok (.invokevirtual 194, 3) := by decide +kernel
theorem dX12_fit_44 : decode cX12_fit 44 = .ok (.ireturn, 1) := by decide +kernel
theorem dX12_fit_8 : decode cX12_fit 8 = .ok (.iload_n 2, 1) := by decide +kernel
theorem dX12_fit_9 : decode cX12_fit 9 = .ok (.ifCond .lt 30, 3) := by decide +kernel
theorem dX12_fit_12 : decode cX12_fit 12 = .ok (.iload_n 2, 1) := by decide +kernel
theorem dX12_fit_13 : decode cX12_fit 13 = .ok (.i2l, 1) := by decide +kernel
theorem dX12_fit_14 : decode cX12_fit 14 = .ok (.aload_n 0, 1) := by decide +kernel
theorem dX12_fit_15 : decode cX12_fit 15 = .ok (.getfield 7, 3) := by decide +kernel
theorem dX12_fit_18 : decode cX12_fit 18 = .ok (.sipush 1650, 3) := by decide +kernel
theorem dX12_fit_21 : decode cX12_fit 21 = .ok (.iload_n 1, 1) := by decide +kernel
theorem dX12_fit_22 : decode cX12_fit 22 = .ok (.imul, 1) := by decide +kernel
theorem dX12_fit_23 : decode cX12_fit 23 = .ok (.iconst 1, 1) := by decide +kernel
theorem dX12_fit_24 : decode cX12_fit 24 = .ok (.iadd, 1) := by decide +kernel
theorem dX12_fit_25 : decode cX12_fit 25 = .ok (.laload, 1) := by decide +kernel
theorem dX12_fit_26 : decode cX12_fit 26 = .ok (.lcmp, 1) := by decide +kernel
theorem dX12_fit_27 : decode cX12_fit 27 = .ok (.ifCond .ge 12, 3) := by decide +kernel
theorem dX12_fit_30 : decode cX12_fit 30 = .ok (.aload_n 0, 1) := by decide +kernel
theorem dX12_fit_31 : decode cX12_fit 31 = .ok (.iload_n 3, 1) := by decide +kernel
theorem dX12_fit_32 : decode cX12_fit 32 = .ok (.i2l, 1) := by decide +kernel
theorem dX12_fit_33 : decode cX12_fit 33 = .ok (.invokevirtual 212, 3) := by decide +kernel
theorem dX12_fit_36 : decode cX12_fit 36 = .ok (.ifCond .ne 9, 3) := by decide +kernel
theorem dX12_fit_45 : decode cX12_fit 45 = .ok (.aload_n 0, 1) := by decide +kernel
theorem dX12_fit_46 : decode cX12_fit 46 = .ok (.aload_n 0, 1) := by decide +kernel
theorem dX12_fit_47 : decode cX12_fit 47 = .ok (.iload_n 3, 1) := by decide +kernel
theorem dX12_fit_48 : decode cX12_fit 48 = .ok (.invokevirtual 206, 3) := by decide +kernel
theorem dX12_fit_51 : decode cX12_fit 51 = .ok (.invokevirtual 304, 3) := by decide +kernel
theorem dX12_fit_54 : decode cX12_fit 54 = .ok (.aload_n 0, 1) := by decide +kernel
theorem dX12_fit_55 : decode cX12_fit 55 = .ok (.sipush 1650, 3) := by decide +kernel
theorem dX12_fit_58 : decode cX12_fit 58 = .ok (.iload_n 1, 1) := by decide +kernel
theorem dX12_fit_59 : decode cX12_fit 59 = .ok (.imul, 1) := by decide +kernel
theorem dX12_fit_60 : decode cX12_fit 60 = .ok (.iload_n 2, 1) := by decide +kernel
theorem dX12_fit_61 : decode cX12_fit 61 = .ok (.invokevirtual 307, 3) := by decide +kernel
theorem dX12_fit_64 : decode cX12_fit 64 = .ok (.ifCond .ne 9, 3) := by decide +kernel
theorem dX12_fit_73 : decode cX12_fit 73 = .ok (.aload_n 0, 1) := by decide +kernel
theorem dX12_fit_74 : decode cX12_fit 74 = .ok (.iconst 0, 1) := by decide +kernel
theorem dX12_fit_75 : decode cX12_fit 75 = .ok (.putfield 66, 3) := by decide +kernel
section
variable {p : Program} {l : Launch} {e : Env} {R0 : Room} {s : State} {m : MethodId} {args : Array Value} {below : List Frame} {meth : Method} {c : Code} {H H0 : Heap} {locs : List Loc} {cells slots : Nat} {Q : State → Prop} {cc : ByteArray} {nL : Nat} {D : va_G} {cy : Nat → ClassId} {A : Nat → Prop} {L : List Nat} {R : Nat → Nat} {f : Nat → va_E} {pc : Nat} {ls : Array Slot} {rest : List Value} {a : Nat}
theorem p_12_66 (F : CallFix p m c cc nL s args wsL_law RX12) (h : tS D cy A H0 L R (TT cy L R) f s H locs) {x : Int32} (ha : a ∈ L) (hr : R a = 12) (hv : (-1) ≤ x.toInt ∧ x.toInt ≤ 8) (hdg : decode cc pc = .ok (.putfield 66, 3)) (kk : ∀ (f1 : Nat → va_E) (H1 : Heap) (locs1 : List Loc), fi f1 a 30 = x.toInt → fr L R [(12, 30)] [12] f f1 → tS D cy A H0 L R (TT cy L R) f1 s H1 locs1 → W p l e R0 s m args below meth c H1 locs1 cells slots Q (F0 m (pc + 3) ls (rest))) : W p l e R0 s m args below meth c H locs cells slots Q (F0 m pc ls (.int x :: .ref a :: rest)) := tu_puti (k := 30) F h ha hr T_12 rfl hv.1 hv.2 inlX12 tyX12_ok nmX12 rfl (Nat.le_of_ble_eq_true rfl) mw_219 rfl rfl rfl hdg kk
end
theorem dX12_fit_78 : decode cX12_fit 78 = .ok (.sipush 1650, 3) := by decide +kernel
theorem dX12_fit_81 : decode cX12_fit 81 = .ok (.iload_n 1, 1) := by decide +kernel
theorem dX12_fit_82 : decode cX12_fit 82 = .ok (.imul, 1) := by decide +kernel
theorem dX12_fit_83 : decode cX12_fit 83 = .ok (.bipush 52, 2) := by decide +kernel
theorem dX12_fit_85 : decode cX12_fit 85 = .ok (.iadd, 1) := by decide +kernel
theorem dX12_fit_86 : decode cX12_fit 86 = .ok (.bipush 60, 2) := by decide +kernel
theorem dX12_fit_88 : decode cX12_fit 88 = .ok (.iload_n 2, 1) := by decide +kernel
theorem dX12_fit_89 : decode cX12_fit 89 = .ok (.imul, 1) := by decide +kernel
theorem dX12_fit_90 : decode cX12_fit 90 = .ok (.iadd, 1) := by decide +kernel
theorem dX12_fit_91 : decode cX12_fit 91 = .ok (.istore 4, 2) := by decide +kernel
theorem dX12_fit_93 : decode cX12_fit 93 = .ok (.iconst 0, 1) := by decide +kernel
theorem dX12_fit_94 : decode cX12_fit 94 = .ok (.istore 5, 2) := by decide +kernel
theorem dX12_fit_96 : decode cX12_fit 96 = .ok (.iload 5, 2) := by decide +kernel
theorem dX12_fit_98 : decode cX12_fit 98 = .ok (.i2l, 1) := by decide +kernel
theorem dX12_fit_99 : decode cX12_fit 99 = .ok (.aload_n 0, 1) := by decide +kernel
theorem dX12_fit_100 : decode cX12_fit 100 = .ok (.getfield 7, 3) := by decide +kernel
theorem dX12_fit_103 : decode cX12_fit 103 = .ok (.iload 4, 2) := by decide +kernel
theorem dX12_fit_105 : decode cX12_fit 105 = .ok (.iconst 2, 1) := by decide +kernel
theorem dX12_fit_106 : decode cX12_fit 106 = .ok (.iadd, 1) := by decide +kernel
theorem dX12_fit_107 : decode cX12_fit 107 = .ok (.laload, 1) := by decide +kernel
theorem dX12_fit_108 : decode cX12_fit 108 = .ok (.lcmp, 1) := by decide +kernel
theorem dX12_fit_109 : decode cX12_fit 109 = .ok (.ifCond .ge 40, 3) := by decide +kernel
theorem dX12_fit_149 : decode cX12_fit 149 = .ok (.iconst 0, 1) := by decide +kernel
theorem dX12_fit_150 : decode cX12_fit 150 = .ok (.istore 5, 2) := by decide +kernel
theorem dX12_fit_152 : decode cX12_fit 152 = .ok (.iload 5, 2) := by decide +kernel
theorem dX12_fit_154 : decode cX12_fit 154 = .ok (.aload_n 0, 1) := by decide +kernel
theorem dX12_fit_155 : decode cX12_fit 155 = .ok (.getfield 66, 3) := by decide +kernel
theorem dX12_fit_158 : decode cX12_fit 158 = .ok (.if_icmp .ge 37, 3) := by decide +kernel
theorem dX12_fit_195 : decode cX12_fit 195 = .ok (.aload_n 0, 1) := by decide +kernel
theorem dX12_fit_196 : decode cX12_fit 196 = .ok (.iconst 1, 1) := by decide +kernel
theorem dX12_fit_197 : decode cX12_fit 197 = .ok (.invokevirtual 209, 3) := by decide +kernel
theorem dX12_fit_200 : decode cX12_fit 200 = .ok (.ireturn, 1) := by decide +kernel
theorem dX12_fit_161 : decode cX12_fit 161 = .ok (.aload_n 0, 1) := by decide +kernel
theorem dX12_fit_162 : decode cX12_fit 162 = .ok (.getfield 54, 3) := by decide +kernel
theorem dX12_fit_165 : decode cX12_fit 165 = .ok (.iload 5, 2) := by decide +kernel
theorem dX12_fit_167 : decode cX12_fit 167 = .ok (.aload_n 0, 1) := by decide +kernel
theorem dX12_fit_168 : decode cX12_fit 168 = .ok (.getfield 48, 3) := by decide +kernel
theorem dX12_fit_171 : decode cX12_fit 171 = .ok (.iload 5, 2) := by decide +kernel
theorem dX12_fit_173 : decode cX12_fit 173 = .ok (.iaload, 1) := by decide +kernel
section
variable {p : Program} {l : Launch} {e : Env} {R0 : Room} {s : State} {m : MethodId} {args : Array Value} {below : List Frame} {meth : Method} {c : Code} {H H0 : Heap} {locs : List Loc} {cells slots : Nat} {Q : State → Prop} {cc : ByteArray} {nL : Nat} {D : va_G} {cy : Nat → ClassId} {A : Nat → Prop} {L : List Nat} {R : Nat → Nat} {f : Nat → va_E} {pc : Nat} {ls : Array Slot} {rest : List Value} {a : Nat}
theorem ld_69 {own : String} (F : CallFix p m c cc nL s args wsL_law own) (h : tS D cy A H0 L R (TT cy L R) f s H locs) {i : Int32} (ha : a ∈ L) (hr : R a = 69) (hb : 0 ≤ i.toInt ∧ i.toInt < 8) (hdg : decode cc pc = .ok (.iaload, 1)) (kk : ∀ x : Int32, 0 ≤ x.toInt → x.toInt ≤ 12 → W p l e R0 s m args below meth c H locs cells slots Q (F0 m (pc + 1) ls (.int x :: rest))) : W p l e R0 s m args below meth c H locs cells slots Q (F0 m pc ls (.int i :: .ref a :: rest)) := tu_iald F h ha hr (fun e q => (T_69 e).mp q) hb.1 hb.2 hdg (fun x h1 h2 => kk x h1.1 h1.2)
end
theorem dX12_fit_174 : decode cX12_fit 174 = .ok (.iastore, 1) := by decide +kernel
section
variable {p : Program} {l : Launch} {e : Env} {R0 : Room} {s : State} {m : MethodId} {args : Array Value} {below : List Frame} {meth : Method} {c : Code} {H H0 : Heap} {locs : List Loc} {cells slots : Nat} {Q : State → Prop} {cc : ByteArray} {nL : Nat} {D : va_G} {cy : Nat → ClassId} {A : Nat → Prop} {L : List Nat} {R : Nat → Nat} {f : Nat → va_E} {pc : Nat} {ls : Array Slot} {rest : List Value} {a : Nat}
theorem st_71 {own : String} (F : CallFix p m c cc nL s args wsL_law own) (h : tS D cy A H0 L R (TT cy L R) f s H locs) {i : Int32} {x : Int32} (ha : a ∈ L) (hr : R a = 71) (hb : 0 ≤ i.toInt ∧ i.toInt < 8) (hdg : decode cc pc = .ok (.iastore, 1)) (kk : ∀ (f1 : Nat → va_E) (H1 : Heap) (locs1 : List Loc), fr L R [] [71] f f1 → tS D cy A H0 L R (TT cy L R) f1 s H1 locs1 → W p l e R0 s m args below meth c H1 locs1 cells slots Q (F0 m (pc + 1) ls (rest))) : W p l e R0 s m args below meth c H locs cells slots Q (F0 m pc ls (.int x :: .int i :: .ref a :: rest)) := tu_iast F h ha hr T_71 hb.1 hb.2 trivial hdg (fun f1 H1 locs1 h1 h2 h3 h4 => kk f1 H1 locs1 h3 h4)
end
theorem dX12_fit_175 : decode cX12_fit 175 = .ok (.aload_n 0, 1) := by decide +kernel
theorem dX12_fit_176 : decode cX12_fit 176 = .ok (.getfield 57, 3) := by decide +kernel
theorem dX12_fit_179 : decode cX12_fit 179 = .ok (.iload 5, 2) := by decide +kernel
theorem dX12_fit_181 : decode cX12_fit 181 = .ok (.aload_n 0, 1) := by decide +kernel
theorem dX12_fit_182 : decode cX12_fit 182 = .ok (.getfield 51, 3) := by decide +kernel
theorem dX12_fit_185 : decode cX12_fit 185 = .ok (.iload 5, 2) := by decide +kernel
theorem dX12_fit_187 : decode cX12_fit 187 = .ok (.iaload, 1) := by decide +kernel
section
variable {p : Program} {l : Launch} {e : Env} {R0 : Room} {s : State} {m : MethodId} {args : Array Value} {below : List Frame} {meth : Method} {c : Code} {H H0 : Heap} {locs : List Loc} {cells slots : Nat} {Q : State → Prop} {cc : ByteArray} {nL : Nat} {D : va_G} {cy : Nat → ClassId} {A : Nat → Prop} {L : List Nat} {R : Nat → Nat} {f : Nat → va_E} {pc : Nat} {ls : Array Slot} {rest : List Value} {a : Nat}
theorem ld_70 {own : String} (F : CallFix p m c cc nL s args wsL_law own) (h : tS D cy A H0 L R (TT cy L R) f s H locs) {i : Int32} (ha : a ∈ L) (hr : R a = 70) (hb : 0 ≤ i.toInt ∧ i.toInt < 8) (hdg : decode cc pc = .ok (.iaload, 1)) (kk : ∀ x : Int32, 0 ≤ x.toInt → x.toInt ≤ 12 → W p l e R0 s m args below meth c H locs cells slots Q (F0 m (pc + 1) ls (.int x :: rest))) : W p l e R0 s m args below meth c H locs cells slots Q (F0 m pc ls (.int i :: .ref a :: rest)) := tu_iald F h ha hr (fun e q => (T_70 e).mp q) hb.1 hb.2 hdg (fun x h1 h2 => kk x h1.1 h1.2)
end
theorem dX12_fit_188 : decode cX12_fit 188 = .ok (.iastore, 1) := by decide +kernel
section
variable {p : Program} {l : Launch} {e : Env} {R0 : Room} {s : State} {m : MethodId} {args : Array Value} {below : List Frame} {meth : Method} {c : Code} {H H0 : Heap} {locs : List Loc} {cells slots : Nat} {Q : State → Prop} {cc : ByteArray} {nL : Nat} {D : va_G} {cy : Nat → ClassId} {A : Nat → Prop} {L : List Nat} {R : Nat → Nat} {f : Nat → va_E} {pc : Nat} {ls : Array Slot} {rest : List Value} {a : Nat}
theorem st_72 {own : String} (F : CallFix p m c cc nL s args wsL_law own) (h : tS D cy A H0 L R (TT cy L R) f s H locs) {i : Int32} {x : Int32} (ha : a ∈ L) (hr : R a = 72) (hb : 0 ≤ i.toInt ∧ i.toInt < 8) (hdg : decode cc pc = .ok (.iastore, 1)) (kk : ∀ (f1 : Nat → va_E) (H1 : Heap) (locs1 : List Loc), fr L R [] [72] f f1 → tS D cy A H0 L R (TT cy L R) f1 s H1 locs1 → W p l e R0 s m args below meth c H1 locs1 cells slots Q (F0 m (pc + 1) ls (rest))) : W p l e R0 s m args below meth c H locs cells slots Q (F0 m pc ls (.int x :: .int i :: .ref a :: rest)) := tu_iast F h ha hr T_72 hb.1 hb.2 trivial hdg (fun f1 H1 locs1 h1 h2 h3 h4 => kk f1 H1 locs1 h3 h4)
end
theorem dX12_fit_189 : decode cX12_fit 189 = .ok (.iinc 5 1, 3) := by decide +kernel
theorem dX12_fit_192 : decode cX12_fit 192 = .ok (.goto (-40), 3) := by decide +kernel
theorem dX12_fit_112 : decode cX12_fit 112 = .ok (.aload_n 0, 1) := by decide +kernel
theorem dX12_fit_113 : decode cX12_fit 113 = .ok (.dup, 1) := by decide +kernel
theorem dX12_fit_114 : decode cX12_fit 114 = .ok (.getfield 66, 3) := by decide +kernel
theorem dX12_fit_117 : decode cX12_fit 117 = .ok (.aload_n 0, 1) := by decide +kernel
theorem dX12_fit_118 : decode cX12_fit 118 = .ok (.getfield 7, 3) := by decide +kernel
theorem dX12_fit_121 : decode cX12_fit 121 = .ok (.iload 4, 2) := by decide +kernel
theorem dX12_fit_123 : decode cX12_fit 123 = .ok (.iconst 3, 1) := by decide +kernel
theorem dX12_fit_124 : decode cX12_fit 124 = .ok (.iadd, 1) := by decide +kernel
theorem dX12_fit_125 : decode cX12_fit 125 = .ok (.iload 5, 2) := by decide +kernel
theorem dX12_fit_127 : decode cX12_fit 127 = .ok (.iadd, 1) := by decide +kernel
theorem dX12_fit_128 : decode cX12_fit 128 = .ok (.laload, 1) := by decide +kernel
theorem dX12_fit_129 : decode cX12_fit 129 = .ok (.lconst 0, 1) := by decide +kernel
theorem dX12_fit_130 : decode cX12_fit 130 = .ok (.lcmp, 1) := by decide +kernel
theorem dX12_fit_139 : decode cX12_fit 139 = .ok (.iadd, 1) := by decide +kernel
theorem dX12_fit_140 : decode cX12_fit 140 = .ok (.putfield 66, 3) := by decide +kernel
theorem dX12_fit_143 : decode cX12_fit 143 = .ok (.iinc 5 1, 3) := by decide +kernel
theorem dX12_fit_146 : decode cX12_fit 146 = .ok (.goto (-50), 3) := by decide +kernel
theorem dX12_fit_131 : decode cX12_fit 131 = .ok (.ifCond .ge 7, 3) := by decide +kernel
theorem dX12_fit_138 : decode cX12_fit 138 = .ok (.iconst 0, 1) := by decide +kernel
theorem dX12_fit_134 : decode cX12_fit 134 = .ok (.iconst 1, 1) := by decide +kernel
theorem dX12_fit_135 : decode cX12_fit 135 = .ok (.goto 4, 3) := by decide +kernel
theorem dX12_fit_67 : decode cX12_fit 67 = .ok (.aload_n 0, 1) := by decide +kernel
theorem dX12_fit_68 : decode cX12_fit 68 = .ok (.iconst 0, 1) := by decide +kernel
theorem dX12_fit_69 : decode cX12_fit 69 = .ok (.invokevirtual 209, 3) := by decide +kernel
theorem dX12_fit_72 : decode cX12_fit 72 = .ok (.ireturn, 1) := by decide +kernel
def rm_X12_fit : Room := { frames := 1, cells := 0, slots := 0, locals := 30 }
set_option maxHeartbeats 4000000 in
set_option maxRecDepth 100000 in
theorem s_X12_fit (l : Launch) (D : va_G) (cy : Nat → ClassId) (L : List Nat) (R O : Nat → Nat) (f0 : Nat → va_E) (a0 : Nat) (m_a0 : a0 ∈ L) (r_a0 : R a0 = 12) (x1 : Int32) (x2 : Int32) (x3 : Int32) (GA : Nat) (m_GA : GA ∈ L) (r_GA : R GA = 61) (t_GA : fld f0 a0 0 = .ref GA) (GP : Nat) (m_GP : GP ∈ L) (r_GP : R GP = 69) (t_GP : fld f0 a0 22 = .ref GP) (GL : Nat) (m_GL : GL ∈ L) (r_GL : R GL = 70) (t_GL : fld f0 a0 23 = .ref GL) (GT : Nat) (m_GT : GT ∈ L) (r_GT : R GT = 64) (t_GT : fld f0 a0 6 = .ref GT) (pre0 : RBA GA f0) (pre1 : GZ GP GL f0) : ∀ sz, Met l yX12_fit (Cond.code yX12_fit cX12_fit 6 (some .int) :: wsL_law) rm_X12_fit (va_Pc [.ref a0, .int x1, .int x2, .int x3] (tPZ D cy L R (TT cy L R) f0 sz)) (va_Qi (fun (r : Int32) f1 => fr L R [(12, 1), (12, 28), (12, 30)] [12, 68, 69, 70, 71, 72, 73] f0 f1 ∧ RBA GA f1 ∧ GZ GP GL f1) (tB D (tA L sz) L R (TT cy L R)) (tA L sz)) 0 0 (tA L sz) := by
  refine tw_enteri (by decide +kernel) rfl (Nat.le_of_ble_eq_true rfl) ?_
  intro p e s m below meth c A ls args Q F hZ h hl hret
  have hl : lv_has ls 6 [(0, .ref a0), (1, .int x1), (2, .int x2), (3, .int x3)] := hl
  have hk : fr L R [(12, 1), (12, 28), (12, 30)] [12, 68, 69, 70, 71, 72, 73] f0 f0 := fr.rf
  have t_a0_fitGaps := h.bfi m_a0 r_a0 (fun e q => (T_12 e).mp q) (k := 30) rfl
  have hR := pre0
  have hX := pre1
  refine lv_aload_n F.1 F.2.1 dX12_fit_0 rfl (lv_at hl 0 rfl) ?_
  refine lv_iload_n F.1 F.2.1 dX12_fit_1 rfl (lv_at hl 1 rfl) ?_
  refine tw_Vi (As := [.int x1]) F hZ h yk_X12_isScript mw_635 mw_636 mw_637 (s_X12_isScript l D cy L R O f0 a0 m_a0 r_a0 x1) rfl rfl m_a0 r_a0 (fun e q => (T_12 e).mp q) rfl hl.1 rfl (Nat.le_of_ble_eq_true rfl) ⟨Nat.le_of_ble_eq_true rfl, Nat.le_of_ble_eq_true rfl⟩ ⟨Nat.le_of_ble_eq_true rfl, Nat.le_of_ble_eq_true rfl⟩ dX12_fit_2 (fun v2 f1 H locs hp1 h => ?_)
  obtain ⟨rfl, hv2a, hv2b, hv2p0⟩ := hp1
  refine tw_if_eq (tgt := 39) F dX12_fit_5 (by decide) (fun b3 => ?_) (fun b3 => ?_)
  · refine lv_aload_n F.1 F.2.1 dX12_fit_39 rfl (lv_at hl 0 rfl) ?_
    refine tw_iconst F dX12_fit_40 ki_1 (fun z4 hz4 => ?_)
    refine tw_Vi (As := [.int z4]) F hZ h yk_X12_refuse mw_452 mw_453 mw_454 (s_X12_refuse l D cy L R O f0 a0 m_a0 r_a0 z4 ⟨by omega, by omega⟩) rfl rfl m_a0 r_a0 (fun e q => (T_12 e).mp q) rfl hl.1 rfl (Nat.le_of_ble_eq_true rfl) ⟨Nat.le_of_ble_eq_true rfl, Nat.le_of_ble_eq_true rfl⟩ ⟨Nat.le_of_ble_eq_true rfl, Nat.le_of_ble_eq_true rfl⟩ dX12_fit_41 (fun v6 f5 H locs hp5 h => ?_)
    obtain ⟨hf5, hv6a, hv6b⟩ := hp5
    have hR : RBA GA f5 := hR.fm hf5 m_GA r_GA (by decide +kernel)
    have hX : GZ GP GL f5 := hX.fm hf5 m_GP r_GP m_GL r_GL (by decide +kernel) (by decide +kernel)
    have hk : fr L R [(12, 1), (12, 28), (12, 30)] [12, 68, 69, 70, 71, 72, 73] f0 f5 := hk.tr hf5 rfl rfl
    have e7 : fld f5 a0 0 = .ref GA := (hf5.efl m_a0 r_a0 rfl).trans t_GA
    have e8 : fld f5 a0 22 = .ref GP := (hf5.efl m_a0 r_a0 rfl).trans t_GP
    have e9 : fld f5 a0 23 = .ref GL := (hf5.efl m_a0 r_a0 rfl).trans t_GL
    have e10 : fld f5 a0 6 = .ref GT := (hf5.efl m_a0 r_a0 rfl).trans t_GT
    have e11 : fi f5 a0 30 = fi f0 a0 30 := hf5.efi m_a0 r_a0 rfl
    exact hret f5 _ _ _ _ v6 dX12_fit_44 rfl ⟨hk, hR, hX⟩ h
  · refine lv_iload_n F.1 F.2.1 dX12_fit_8 rfl (lv_at hl 2 rfl) ?_
    refine tw_if_lt (tgt := 39) F dX12_fit_9 (by decide) (fun b12 => ?_) (fun b12 => ?_)
    · refine lv_aload_n F.1 F.2.1 dX12_fit_39 rfl (lv_at hl 0 rfl) ?_
      refine tw_iconst F dX12_fit_40 ki_1 (fun z13 hz13 => ?_)
      refine tw_Vi (As := [.int z13]) F hZ h yk_X12_refuse mw_452 mw_453 mw_454 (s_X12_refuse l D cy L R O f0 a0 m_a0 r_a0 z13 ⟨by omega, by omega⟩) rfl rfl m_a0 r_a0 (fun e q => (T_12 e).mp q) rfl hl.1 rfl (Nat.le_of_ble_eq_true rfl) ⟨Nat.le_of_ble_eq_true rfl, Nat.le_of_ble_eq_true rfl⟩ ⟨Nat.le_of_ble_eq_true rfl, Nat.le_of_ble_eq_true rfl⟩ dX12_fit_41 (fun v15 f14 H locs hp14 h => ?_)
      obtain ⟨hf14, hv15a, hv15b⟩ := hp14
      have hR : RBA GA f14 := hR.fm hf14 m_GA r_GA (by decide +kernel)
      have hX : GZ GP GL f14 := hX.fm hf14 m_GP r_GP m_GL r_GL (by decide +kernel) (by decide +kernel)
      have hk : fr L R [(12, 1), (12, 28), (12, 30)] [12, 68, 69, 70, 71, 72, 73] f0 f14 := hk.tr hf14 rfl rfl
      have e16 : fld f14 a0 0 = .ref GA := (hf14.efl m_a0 r_a0 rfl).trans t_GA
      have e17 : fld f14 a0 22 = .ref GP := (hf14.efl m_a0 r_a0 rfl).trans t_GP
      have e18 : fld f14 a0 23 = .ref GL := (hf14.efl m_a0 r_a0 rfl).trans t_GL
      have e19 : fld f14 a0 6 = .ref GT := (hf14.efl m_a0 r_a0 rfl).trans t_GT
      have e20 : fi f14 a0 30 = fi f0 a0 30 := hf14.efi m_a0 r_a0 rfl
      exact hret f14 _ _ _ _ v15 dX12_fit_44 rfl ⟨hk, hR, hX⟩ h
    · refine lv_iload_n F.1 F.2.1 dX12_fit_12 rfl (lv_at hl 2 rfl) ?_
      refine tu_i2l F dX12_fit_13 (fun z21 hz21 hz21a hz21b => ?_)
      refine lv_aload_n F.1 F.2.1 dX12_fit_14 rfl (lv_at hl 0 rfl) ?_
      refine g_12_7 F h m_a0 r_a0 dX12_fit_15 (fun o22 m_o22 r_o22 ho22 => ?_)
      obtain rfl := (fld_inj t_GA ho22).symm
      refine tw_sipush F dX12_fit_18 ks_1650 (fun z23 hz23 => ?_)
      refine lv_iload_n F.1 F.2.1 dX12_fit_21 rfl (lv_at hl 1 rfl) ?_
      refine tu_imull F dX12_fit_22 hz23 (by omega) (fun z24 hz24 => ?_)
      refine tw_iconst F dX12_fit_23 ki_1 (fun z25 hz25 => ?_)
      refine tu_iadd F dX12_fit_24 (by omega) (fun z26 hz26 => ?_)
      refine ld_61 F h m_GA r_GA (by omega) dX12_fit_25 (fun v27 hv27a => ?_)
      have hv27b := clP_2.mp (atb hv27a (ac_c (b := (1650 * x1.toInt.toNat)) 1 (isB_s (show x1.toInt.toNat ≤ 2 by omega)) (by decide) (by omega) rfl))
      refine tw_lcmp F dX12_fit_26 (fun z28 hz28 => ?_)
      refine tw_if_ge (tgt := 39) F dX12_fit_27 (by decide) (fun b29 => ?_) (fun b29 => ?_)
      · refine lv_aload_n F.1 F.2.1 dX12_fit_39 rfl (lv_at hl 0 rfl) ?_
        refine tw_iconst F dX12_fit_40 ki_1 (fun z30 hz30 => ?_)
        refine tw_Vi (As := [.int z30]) F hZ h yk_X12_refuse mw_452 mw_453 mw_454 (s_X12_refuse l D cy L R O f0 a0 m_a0 r_a0 z30 ⟨by omega, by omega⟩) rfl rfl m_a0 r_a0 (fun e q => (T_12 e).mp q) rfl hl.1 rfl (Nat.le_of_ble_eq_true rfl) ⟨Nat.le_of_ble_eq_true rfl, Nat.le_of_ble_eq_true rfl⟩ ⟨Nat.le_of_ble_eq_true rfl, Nat.le_of_ble_eq_true rfl⟩ dX12_fit_41 (fun v32 f31 H locs hp31 h => ?_)
        obtain ⟨hf31, hv32a, hv32b⟩ := hp31
        have hR : RBA GA f31 := hR.fm hf31 m_GA r_GA (by decide +kernel)
        have hX : GZ GP GL f31 := hX.fm hf31 m_GP r_GP m_GL r_GL (by decide +kernel) (by decide +kernel)
        have hk : fr L R [(12, 1), (12, 28), (12, 30)] [12, 68, 69, 70, 71, 72, 73] f0 f31 := hk.tr hf31 rfl rfl
        have e33 : fld f31 a0 0 = .ref GA := (hf31.efl m_a0 r_a0 rfl).trans t_GA
        have e34 : fld f31 a0 22 = .ref GP := (hf31.efl m_a0 r_a0 rfl).trans t_GP
        have e35 : fld f31 a0 23 = .ref GL := (hf31.efl m_a0 r_a0 rfl).trans t_GL
        have e36 : fld f31 a0 6 = .ref GT := (hf31.efl m_a0 r_a0 rfl).trans t_GT
        have e37 : fi f31 a0 30 = fi f0 a0 30 := hf31.efi m_a0 r_a0 rfl
        exact hret f31 _ _ _ _ v32 dX12_fit_44 rfl ⟨hk, hR, hX⟩ h
      · refine lv_aload_n F.1 F.2.1 dX12_fit_30 rfl (lv_at hl 0 rfl) ?_
        refine lv_iload_n F.1 F.2.1 dX12_fit_31 rfl (lv_at hl 3 rfl) ?_
        refine tu_i2l F dX12_fit_32 (fun z38 hz38 hz38a hz38b => ?_)
        refine tw_Vi (As := [.long z38]) F hZ h yk_X12_isLine mw_797 mw_798 mw_799 (s_X12_isLine l D cy L R O f0 a0 m_a0 r_a0 z38) rfl rfl m_a0 r_a0 (fun e q => (T_12 e).mp q) rfl hl.1 rfl (Nat.le_of_ble_eq_true rfl) ⟨Nat.le_of_ble_eq_true rfl, Nat.le_of_ble_eq_true rfl⟩ ⟨Nat.le_of_ble_eq_true rfl, Nat.le_of_ble_eq_true rfl⟩ dX12_fit_33 (fun v40 f39 H locs hp39 h => ?_)
        obtain ⟨rfl, hv40a, hv40b, hv40p0⟩ := hp39
        refine tw_if_ne (tgt := 45) F dX12_fit_36 (by decide) (fun b41 => ?_) (fun b41 => ?_)
        · refine lv_aload_n F.1 F.2.1 dX12_fit_45 rfl (lv_at hl 0 rfl) ?_
          refine lv_aload_n F.1 F.2.1 dX12_fit_46 rfl (lv_at hl 0 rfl) ?_
          refine lv_iload_n F.1 F.2.1 dX12_fit_47 rfl (lv_at hl 3 rfl) ?_
          refine tw_Vi (As := [.int x3]) F hZ h yk_X12_lineAt mw_495 mw_496 mw_497 (s_X12_lineAt l D cy L R O f0 a0 m_a0 r_a0 x3 ⟨by omega, by omega⟩) rfl rfl m_a0 r_a0 (fun e q => (T_12 e).mp q) rfl hl.1 rfl (Nat.le_of_ble_eq_true rfl) ⟨Nat.le_of_ble_eq_true rfl, Nat.le_of_ble_eq_true rfl⟩ ⟨Nat.le_of_ble_eq_true rfl, Nat.le_of_ble_eq_true rfl⟩ dX12_fit_48 (fun v43 f42 H locs hp42 h => ?_)
          obtain ⟨rfl, hv43a, hv43b, hv43p0⟩ := hp42
          refine tw_Vv (As := [.int v43]) F hZ h yk_X12_hears mw_890 mw_891 mw_892 (s_X12_hears l D cy L R O f0 a0 m_a0 r_a0 v43 ⟨by omega, by omega⟩ (ac_l (by omega))) rfl rfl m_a0 r_a0 (fun e q => (T_12 e).mp q) rfl hl.1 rfl (Nat.le_of_ble_eq_true rfl) ⟨Nat.le_of_ble_eq_true rfl, Nat.le_of_ble_eq_true rfl⟩ ⟨Nat.le_of_ble_eq_true rfl, Nat.le_of_ble_eq_true rfl⟩ dX12_fit_51 (fun f44 H locs hp44 h => ?_)
          have hf44 := hp44
          have hR : RBA GA f44 := hR.fm hf44 m_GA r_GA (by decide +kernel)
          have hX : GZ GP GL f44 := hX.fm hf44 m_GP r_GP m_GL r_GL (by decide +kernel) (by decide +kernel)
          have hk : fr L R [(12, 1), (12, 28), (12, 30)] [12, 68, 69, 70, 71, 72, 73] f0 f44 := hk.tr hf44 rfl rfl
          have e46 : fld f44 a0 0 = .ref GA := (hf44.efl m_a0 r_a0 rfl).trans t_GA
          have e47 : fld f44 a0 22 = .ref GP := (hf44.efl m_a0 r_a0 rfl).trans t_GP
          have e48 : fld f44 a0 23 = .ref GL := (hf44.efl m_a0 r_a0 rfl).trans t_GL
          have e49 : fld f44 a0 6 = .ref GT := (hf44.efl m_a0 r_a0 rfl).trans t_GT
          have e50 : fi f44 a0 30 = fi f0 a0 30 := hf44.efi m_a0 r_a0 rfl
          refine lv_aload_n F.1 F.2.1 dX12_fit_54 rfl (lv_at hl 0 rfl) ?_
          refine tw_sipush F dX12_fit_55 ks_1650 (fun z51 hz51 => ?_)
          refine lv_iload_n F.1 F.2.1 dX12_fit_58 rfl (lv_at hl 1 rfl) ?_
          refine tu_imull F dX12_fit_59 hz51 (by omega) (fun z52 hz52 => ?_)
          refine lv_iload_n F.1 F.2.1 dX12_fit_60 rfl (lv_at hl 2 rfl) ?_
          refine tw_Vi (As := [.int z52, .int x2]) F hZ h yk_X12_fits mw_895 mw_896 mw_897 (s_X12_fits l D cy L R O f44 a0 m_a0 r_a0 z52 ⟨by omega, by omega⟩ x2 ⟨by omega, by omega⟩ GA m_GA r_GA e46 GP m_GP r_GP e47 GL m_GL r_GL e48 GT m_GT r_GT e49 (isB_e (isB_s (show x1.toInt.toNat ≤ 2 by omega)) (by omega)) hX) rfl rfl m_a0 r_a0 (fun e q => (T_12 e).mp q) rfl hl.1 rfl (Nat.le_of_ble_eq_true rfl) ⟨Nat.le_of_ble_eq_true rfl, Nat.le_of_ble_eq_true rfl⟩ ⟨Nat.le_of_ble_eq_true rfl, Nat.le_of_ble_eq_true rfl⟩ dX12_fit_61 (fun v54 f53 H locs hp53 h => ?_)
          obtain ⟨hf53, hv54a, hv54b, hv54p0⟩ := hp53
          have hR : RBA GA f53 := hR.fm hf53 m_GA r_GA (by decide +kernel)
          have hX : GZ GP GL f53 := hv54p0
          have hk : fr L R [(12, 1), (12, 28), (12, 30)] [12, 68, 69, 70, 71, 72, 73] f0 f53 := hk.tr hf53 rfl rfl
          have e55 : fld f53 a0 0 = .ref GA := (hf53.efl m_a0 r_a0 rfl).trans e46
          have e56 : fld f53 a0 22 = .ref GP := (hf53.efl m_a0 r_a0 rfl).trans e47
          have e57 : fld f53 a0 23 = .ref GL := (hf53.efl m_a0 r_a0 rfl).trans e48
          have e58 : fld f53 a0 6 = .ref GT := (hf53.efl m_a0 r_a0 rfl).trans e49
          have e59 : fi f53 a0 30 = fi f44 a0 30 := hf53.efi m_a0 r_a0 rfl
          refine tw_if_ne (tgt := 73) F dX12_fit_64 (by decide) (fun b60 => ?_) (fun b60 => ?_)
          · refine lv_aload_n F.1 F.2.1 dX12_fit_73 rfl (lv_at hl 0 rfl) ?_
            refine tw_iconst F dX12_fit_74 ki_0 (fun z61 hz61 => ?_)
            refine p_12_66 F h m_a0 r_a0 (by omega) dX12_fit_75 (fun f62 H locs e62p hf62 h => ?_)
            have hR : RBA GA f62 := hR.fm hf62 m_GA r_GA (by decide +kernel)
            have hX : GZ GP GL f62 := hX.fm hf62 m_GP r_GP m_GL r_GL (by decide +kernel) (by decide +kernel)
            have hk : fr L R [(12, 1), (12, 28), (12, 30)] [12, 68, 69, 70, 71, 72, 73] f0 f62 := hk.tr hf62 rfl rfl
            have e63 : fld f62 a0 0 = .ref GA := (hf62.efl m_a0 r_a0 rfl).trans e55
            have e64 : fld f62 a0 22 = .ref GP := (hf62.efl m_a0 r_a0 rfl).trans e56
            have e65 : fld f62 a0 23 = .ref GL := (hf62.efl m_a0 r_a0 rfl).trans e57
            have e66 : fld f62 a0 6 = .ref GT := (hf62.efl m_a0 r_a0 rfl).trans e58
            refine tw_sipush F dX12_fit_78 ks_1650 (fun z67 hz67 => ?_)
            refine lv_iload_n F.1 F.2.1 dX12_fit_81 rfl (lv_at hl 1 rfl) ?_
            refine tu_imull F dX12_fit_82 hz67 (by omega) (fun z68 hz68 => ?_)
            refine tw_bipush F dX12_fit_83 kb_52 (fun z69 hz69 => ?_)
            refine tu_iadd F dX12_fit_85 (by omega) (fun z70 hz70 => ?_)
            refine tw_bipush F dX12_fit_86 kb_60 (fun z71 hz71 => ?_)
            refine lv_iload_n F.1 F.2.1 dX12_fit_88 rfl (lv_at hl 2 rfl) ?_
            refine tu_imull F dX12_fit_89 hz71 (by omega) (fun z72 hz72 => ?_)
            refine tu_iadd F dX12_fit_90 (by omega) (fun z73 hz73 => ?_)
            refine lv_istore (lv' := [(4, .int z73), (0, .ref a0), (1, .int x1), (2, .int x2), (3, .int x3)]) F.1 F.2.1 dX12_fit_91 hl (by decide) rfl (fun ls hl => ?_)
            refine tw_iconst F dX12_fit_93 ki_0 (fun z74 hz74 => ?_)
            refine lv_istore (lv' := [(5, .int z74), (4, .int z73), (0, .ref a0), (1, .int x1), (2, .int x2), (3, .int x3)]) F.1 F.2.1 dX12_fit_94 hl (by decide) rfl (fun ls hl => ?_)
            have j_96 : ∀ (n96 : Nat) (f75 : Nat → va_E) (H : Heap) (locs : List Loc) (ls : Array Slot) (x5_96 : Int32), 0 ≤ x5_96.toInt → x5_96.toInt ≤ 8 → 0 ≤ fi f75 a0 30 → fi f75 a0 30 ≤ x5_96.toInt → ((8 - x5_96.toInt)).toNat < n96 → tS D cy A s.heap L R (TT cy L R) f75 s H locs → RBA GA f75 → GZ GP GL f75 → fr L R [(12, 1), (12, 28), (12, 30)] [12, 68, 69, 70, 71, 72, 73] f0 f75 → fr L R [(12, 30)] [12] f62 f75 → lv_has ls 6 [(0, .ref a0), (4, .int z73), (5, .int x5_96)] → W p l e rm_X12_fit s m args below meth c H locs 0 0 Q (F0 m 96 ls []) := by
              intro n96
              induction n96 with
              | zero =>
                intro f75 H locs ls x5_96 b76 b77 b78 b79 b80 h hR hX hk hb96 hl
                exfalso
                omega
              | succ n96 ih96 =>
                intro f75 H locs ls x5_96 b76 b77 b78 b79 b80 h hR hX hk hb96 hl
                have e81 : fld f75 a0 0 = .ref GA := (hb96.efl m_a0 r_a0 rfl).trans e63
                have e82 : fld f75 a0 22 = .ref GP := (hb96.efl m_a0 r_a0 rfl).trans e64
                have e83 : fld f75 a0 23 = .ref GL := (hb96.efl m_a0 r_a0 rfl).trans e65
                have e84 : fld f75 a0 6 = .ref GT := (hb96.efl m_a0 r_a0 rfl).trans e66
                refine lv_iload F.1 F.2.1 dX12_fit_96 (lv_at hl 2 rfl) ?_
                refine tw_i2l F dX12_fit_98 (fun z85 hz85 => ?_)
                refine lv_aload_n F.1 F.2.1 dX12_fit_99 rfl (lv_at hl 0 rfl) ?_
                refine g_12_7 F h m_a0 r_a0 dX12_fit_100 (fun o86 m_o86 r_o86 ho86 => ?_)
                obtain rfl := (fld_inj e81 ho86).symm
                refine lv_iload F.1 F.2.1 dX12_fit_103 (lv_at hl 1 rfl) ?_
                refine tw_iconst F dX12_fit_105 ki_2 (fun z87 hz87 => ?_)
                refine tu_iadd F dX12_fit_106 (by omega) (fun z88 hz88 => ?_)
                refine ld_61 F h m_GA r_GA (by omega) dX12_fit_107 (fun v89 hv89a => ?_)
                have hv89b := clP_4.mp (atb hv89a (ac_r (b := (1650 * x1.toInt.toNat)) 2 (isB_s (show x1.toInt.toNat ≤ 2 by omega)) (by omega) rfl))
                refine tw_lcmp F dX12_fit_108 (fun z90 hz90 => ?_)
                refine tw_if_ge (tgt := 149) F dX12_fit_109 (by decide) (fun b91 => ?_) (fun b91 => ?_)
                · refine tw_iconst F dX12_fit_149 ki_0 (fun z92 hz92 => ?_)
                  refine lv_istore (lv' := [(5, .int z92), (0, .ref a0), (4, .int z73)]) F.1 F.2.1 dX12_fit_150 hl (by decide) rfl (fun ls hl => ?_)
                  have j_152 : ∀ (n152 : Nat) (f93 : Nat → va_E) (H : Heap) (locs : List Loc) (ls : Array Slot) (x5_152 : Int32), 0 ≤ x5_152.toInt → x5_152.toInt ≤ 8 → ((8 - x5_152.toInt)).toNat < n152 → tS D cy A s.heap L R (TT cy L R) f93 s H locs → RBA GA f93 → GZ GP GL f93 → fr L R [(12, 1), (12, 28), (12, 30)] [12, 68, 69, 70, 71, 72, 73] f0 f93 → fr L R [] [71, 72] f75 f93 → lv_has ls 6 [(0, .ref a0), (5, .int x5_152)] → W p l e rm_X12_fit s m args below meth c H locs 0 0 Q (F0 m 152 ls []) := by
                    intro n152
                    induction n152 with
                    | zero =>
                      intro f93 H locs ls x5_152 b94 b95 b96 h hR hX hk hb152 hl
                      exfalso
                      omega
                    | succ n152 ih152 =>
                      intro f93 H locs ls x5_152 b94 b95 b96 h hR hX hk hb152 hl
                      have e97 : fld f93 a0 0 = .ref GA := (hb152.efl m_a0 r_a0 rfl).trans e81
                      have e98 : fld f93 a0 22 = .ref GP := (hb152.efl m_a0 r_a0 rfl).trans e82
                      have e99 : fld f93 a0 23 = .ref GL := (hb152.efl m_a0 r_a0 rfl).trans e83
                      have e100 : fld f93 a0 6 = .ref GT := (hb152.efl m_a0 r_a0 rfl).trans e84
                      have e101 : fi f93 a0 30 = fi f75 a0 30 := hb152.efi m_a0 r_a0 rfl
                      refine lv_iload F.1 F.2.1 dX12_fit_152 (lv_at hl 1 rfl) ?_
                      refine lv_aload_n F.1 F.2.1 dX12_fit_154 rfl (lv_at hl 0 rfl) ?_
                      refine g_12_66 F h m_a0 r_a0 dX12_fit_155 (fun v102 hv102 hv102a hv102b => ?_)
                      refine tw_icmp_ge (tgt := 195) F dX12_fit_158 (by decide) (fun b103 => ?_) (fun b103 => ?_)
                      · refine lv_aload_n F.1 F.2.1 dX12_fit_195 rfl (lv_at hl 0 rfl) ?_
                        refine tw_iconst F dX12_fit_196 ki_1 (fun z104 hz104 => ?_)
                        refine tw_Vi (As := [.int z104]) F hZ h yk_X12_gives mw_499 mw_500 mw_501 (s_X12_gives l D cy L R O f93 a0 m_a0 r_a0 z104) rfl rfl m_a0 r_a0 (fun e q => (T_12 e).mp q) rfl hl.1 rfl (Nat.le_of_ble_eq_true rfl) ⟨Nat.le_of_ble_eq_true rfl, Nat.le_of_ble_eq_true rfl⟩ ⟨Nat.le_of_ble_eq_true rfl, Nat.le_of_ble_eq_true rfl⟩ dX12_fit_197 (fun v106 f105 H locs hp105 h => ?_)
                        have hf105 := hp105
                        have hR : RBA GA f105 := hR.fm hf105 m_GA r_GA (by decide +kernel)
                        have hX : GZ GP GL f105 := hX.fm hf105 m_GP r_GP m_GL r_GL (by decide +kernel) (by decide +kernel)
                        have hk : fr L R [(12, 1), (12, 28), (12, 30)] [12, 68, 69, 70, 71, 72, 73] f0 f105 := hk.tr hf105 rfl rfl
                        have e107 : fld f105 a0 0 = .ref GA := (hf105.efl m_a0 r_a0 rfl).trans e97
                        have e108 : fld f105 a0 22 = .ref GP := (hf105.efl m_a0 r_a0 rfl).trans e98
                        have e109 : fld f105 a0 23 = .ref GL := (hf105.efl m_a0 r_a0 rfl).trans e99
                        have e110 : fld f105 a0 6 = .ref GT := (hf105.efl m_a0 r_a0 rfl).trans e100
                        have e111 : fi f105 a0 30 = fi f93 a0 30 := hf105.efi m_a0 r_a0 rfl
                        exact hret f105 _ _ _ _ v106 dX12_fit_200 rfl ⟨hk, hR, hX⟩ h
                      · refine lv_aload_n F.1 F.2.1 dX12_fit_161 rfl (lv_at hl 0 rfl) ?_
                        refine g_12_54 F h m_a0 r_a0 dX12_fit_162 (fun o112 m_o112 r_o112 ho112 => ?_)
                        refine lv_iload F.1 F.2.1 dX12_fit_165 (lv_at hl 1 rfl) ?_
                        refine lv_aload_n F.1 F.2.1 dX12_fit_167 rfl (lv_at hl 0 rfl) ?_
                        refine g_12_48 F h m_a0 r_a0 dX12_fit_168 (fun o113 m_o113 r_o113 ho113 => ?_)
                        obtain rfl := (fld_inj e98 ho113).symm
                        refine lv_iload F.1 F.2.1 dX12_fit_171 (lv_at hl 1 rfl) ?_
                        refine ld_69 F h m_GP r_GP (by omega) dX12_fit_173 (fun v114 hv114a hv114b => ?_)
                        refine st_71 F h m_o112 r_o112 (by omega) dX12_fit_174 (fun f115 H locs hf115 h => ?_)
                        have hR : RBA GA f115 := hR.fm hf115 m_GA r_GA (by decide +kernel)
                        have hX : GZ GP GL f115 := hX.fm hf115 m_GP r_GP m_GL r_GL (by decide +kernel) (by decide +kernel)
                        have hk : fr L R [(12, 1), (12, 28), (12, 30)] [12, 68, 69, 70, 71, 72, 73] f0 f115 := hk.tr hf115 rfl rfl
                        have hb152 : fr L R [] [71, 72] f75 f115 := hb152.tr hf115 rfl rfl
                        have e116 : fld f115 a0 0 = .ref GA := (hf115.efl m_a0 r_a0 rfl).trans e97
                        have e117 : fld f115 a0 22 = .ref GP := (hf115.efl m_a0 r_a0 rfl).trans e98
                        have e118 : fld f115 a0 23 = .ref GL := (hf115.efl m_a0 r_a0 rfl).trans e99
                        have e119 : fld f115 a0 6 = .ref GT := (hf115.efl m_a0 r_a0 rfl).trans e100
                        have e120 : fi f115 a0 30 = fi f93 a0 30 := hf115.efi m_a0 r_a0 rfl
                        refine lv_aload_n F.1 F.2.1 dX12_fit_175 rfl (lv_at hl 0 rfl) ?_
                        refine g_12_57 F h m_a0 r_a0 dX12_fit_176 (fun o121 m_o121 r_o121 ho121 => ?_)
                        refine lv_iload F.1 F.2.1 dX12_fit_179 (lv_at hl 1 rfl) ?_
                        refine lv_aload_n F.1 F.2.1 dX12_fit_181 rfl (lv_at hl 0 rfl) ?_
                        refine g_12_51 F h m_a0 r_a0 dX12_fit_182 (fun o122 m_o122 r_o122 ho122 => ?_)
                        obtain rfl := (fld_inj e118 ho122).symm
                        refine lv_iload F.1 F.2.1 dX12_fit_185 (lv_at hl 1 rfl) ?_
                        refine ld_70 F h m_GL r_GL (by omega) dX12_fit_187 (fun v123 hv123a hv123b => ?_)
                        refine st_72 F h m_o121 r_o121 (by omega) dX12_fit_188 (fun f124 H locs hf124 h => ?_)
                        have hR : RBA GA f124 := hR.fm hf124 m_GA r_GA (by decide +kernel)
                        have hX : GZ GP GL f124 := hX.fm hf124 m_GP r_GP m_GL r_GL (by decide +kernel) (by decide +kernel)
                        have hk : fr L R [(12, 1), (12, 28), (12, 30)] [12, 68, 69, 70, 71, 72, 73] f0 f124 := hk.tr hf124 rfl rfl
                        have hb152 : fr L R [] [71, 72] f75 f124 := hb152.tr hf124 rfl rfl
                        have e125 : fld f124 a0 0 = .ref GA := (hf124.efl m_a0 r_a0 rfl).trans e116
                        have e126 : fld f124 a0 22 = .ref GP := (hf124.efl m_a0 r_a0 rfl).trans e117
                        have e127 : fld f124 a0 23 = .ref GL := (hf124.efl m_a0 r_a0 rfl).trans e118
                        have e128 : fld f124 a0 6 = .ref GT := (hf124.efl m_a0 r_a0 rfl).trans e119
                        have e129 : fi f124 a0 30 = fi f115 a0 30 := hf124.efi m_a0 r_a0 rfl
                        refine tu_iinc F dX12_fit_189 hl (k := 1) rfl (by decide) ki_1 (by omega) (fun z130 ls hz130 hl => ?_)
                        have hl : lv_has ls 6 [(5, .int z130), (0, .ref a0)] := hl
                        refine lv_goto (tgt := 152) F.1 F.2.1 dX12_fit_192 (by decide) ?_
                        exact ih152 f124 _ _ _ z130 (by omega) (by omega) (by omega) h hR hX hk hb152 (lv_sub hl [1, 0] rfl)
                  have hb152 : fr L R [] [71, 72] f75 f75 := fr.rf
                  exact j_152 (((8 - z92.toInt)).toNat + 1) f75 _ _ _ z92 (by omega) (by omega) (by omega) h hR hX hk hb152 (lv_sub hl [1, 0] rfl)
                · refine lv_aload_n F.1 F.2.1 dX12_fit_112 rfl (lv_at hl 0 rfl) ?_
                  refine lv_dup F.1 F.2.1 dX12_fit_113 rfl ?_
                  refine g_12_66 F h m_a0 r_a0 dX12_fit_114 (fun v131 hv131 hv131a hv131b => ?_)
                  refine lv_aload_n F.1 F.2.1 dX12_fit_117 rfl (lv_at hl 0 rfl) ?_
                  refine g_12_7 F h m_a0 r_a0 dX12_fit_118 (fun o132 m_o132 r_o132 ho132 => ?_)
                  obtain rfl := (fld_inj e81 ho132).symm
                  refine lv_iload F.1 F.2.1 dX12_fit_121 (lv_at hl 1 rfl) ?_
                  refine tw_iconst F dX12_fit_123 ki_3 (fun z133 hz133 => ?_)
                  refine tu_iadd F dX12_fit_124 (by omega) (fun z134 hz134 => ?_)
                  refine lv_iload F.1 F.2.1 dX12_fit_125 (lv_at hl 2 rfl) ?_
                  refine tu_iadd F dX12_fit_127 (by omega) (fun z135 hz135 => ?_)
                  refine ld_61 F h m_GA r_GA (by omega) dX12_fit_128 (fun v136 hv136a => ?_)
                  refine tu_lconst F dX12_fit_129 (by decide) (fun z137 (hz137 : z137.toInt = 0) => ?_)
                  refine tw_lcmp F dX12_fit_130 (fun z138 hz138 => ?_)
                  have j_139 : ∀ (ls : Array Slot) (y0_139 : Int32), 0 ≤ y0_139.toInt → y0_139.toInt ≤ 1 → lv_has ls 6 [(0, .ref a0), (4, .int z73), (5, .int x5_96)] → W p l e rm_X12_fit s m args below meth c H locs 0 0 Q (F0 m 139 ls [.int y0_139, .int v131, .ref a0]) := by
                    intro ls y0_139 b139 b140 hl
                    refine tu_iadd F dX12_fit_139 (by omega) (fun z141 hz141 => ?_)
                    refine p_12_66 F h m_a0 r_a0 (by omega) dX12_fit_140 (fun f142 H locs e142p hf142 h => ?_)
                    have hR : RBA GA f142 := hR.fm hf142 m_GA r_GA (by decide +kernel)
                    have hX : GZ GP GL f142 := hX.fm hf142 m_GP r_GP m_GL r_GL (by decide +kernel) (by decide +kernel)
                    have hk : fr L R [(12, 1), (12, 28), (12, 30)] [12, 68, 69, 70, 71, 72, 73] f0 f142 := hk.tr hf142 rfl rfl
                    have hb96 : fr L R [(12, 30)] [12] f62 f142 := hb96.tr hf142 rfl rfl
                    have e143 : fld f142 a0 0 = .ref GA := (hf142.efl m_a0 r_a0 rfl).trans e81
                    have e144 : fld f142 a0 22 = .ref GP := (hf142.efl m_a0 r_a0 rfl).trans e82
                    have e145 : fld f142 a0 23 = .ref GL := (hf142.efl m_a0 r_a0 rfl).trans e83
                    have e146 : fld f142 a0 6 = .ref GT := (hf142.efl m_a0 r_a0 rfl).trans e84
                    refine tu_iinc F dX12_fit_143 hl (k := 2) rfl (by decide) ki_1 (by omega) (fun z147 ls hz147 hl => ?_)
                    have hl : lv_has ls 6 [(5, .int z147), (0, .ref a0), (4, .int z73)] := hl
                    refine lv_goto (tgt := 96) F.1 F.2.1 dX12_fit_146 (by decide) ?_
                    exact ih96 f142 _ _ _ z147 (by omega) (by omega) (by omega) (by omega) (by omega) h hR hX hk hb96 (lv_sub hl [1, 2, 0] rfl)
                  refine tw_if_ge (tgt := 138) F dX12_fit_131 (by decide) (fun b148 => ?_) (fun b148 => ?_)
                  · refine tw_iconst F dX12_fit_138 ki_0 (fun z149 hz149 => ?_)
                    exact j_139 _ z149 (by omega) (by omega) (lv_sub hl [0, 1, 2] rfl)
                  · refine tw_iconst F dX12_fit_134 ki_1 (fun z150 hz150 => ?_)
                    refine lv_goto (tgt := 139) F.1 F.2.1 dX12_fit_135 (by decide) ?_
                    exact j_139 _ z150 (by omega) (by omega) (lv_sub hl [0, 1, 2] rfl)
            have hb96 : fr L R [(12, 30)] [12] f62 f62 := fr.rf
            exact j_96 (((8 - z74.toInt)).toNat + 1) f62 _ _ _ z74 (by omega) (by omega) (by omega) (by omega) (by omega) h hR hX hk hb96 (lv_sub hl [2, 1, 0] rfl)
          · refine lv_aload_n F.1 F.2.1 dX12_fit_67 rfl (lv_at hl 0 rfl) ?_
            refine tw_iconst F dX12_fit_68 ki_0 (fun z151 hz151 => ?_)
            refine tw_Vi (As := [.int z151]) F hZ h yk_X12_gives mw_499 mw_500 mw_501 (s_X12_gives l D cy L R O f53 a0 m_a0 r_a0 z151) rfl rfl m_a0 r_a0 (fun e q => (T_12 e).mp q) rfl hl.1 rfl (Nat.le_of_ble_eq_true rfl) ⟨Nat.le_of_ble_eq_true rfl, Nat.le_of_ble_eq_true rfl⟩ ⟨Nat.le_of_ble_eq_true rfl, Nat.le_of_ble_eq_true rfl⟩ dX12_fit_69 (fun v153 f152 H locs hp152 h => ?_)
            have hf152 := hp152
            have hR : RBA GA f152 := hR.fm hf152 m_GA r_GA (by decide +kernel)
            have hX : GZ GP GL f152 := hX.fm hf152 m_GP r_GP m_GL r_GL (by decide +kernel) (by decide +kernel)
            have hk : fr L R [(12, 1), (12, 28), (12, 30)] [12, 68, 69, 70, 71, 72, 73] f0 f152 := hk.tr hf152 rfl rfl
            have e154 : fld f152 a0 0 = .ref GA := (hf152.efl m_a0 r_a0 rfl).trans e55
            have e155 : fld f152 a0 22 = .ref GP := (hf152.efl m_a0 r_a0 rfl).trans e56
            have e156 : fld f152 a0 23 = .ref GL := (hf152.efl m_a0 r_a0 rfl).trans e57
            have e157 : fld f152 a0 6 = .ref GT := (hf152.efl m_a0 r_a0 rfl).trans e58
            have e158 : fi f152 a0 30 = fi f53 a0 30 := hf152.efi m_a0 r_a0 rfl
            exact hret f152 _ _ _ _ v153 dX12_fit_72 rfl ⟨hk, hR, hX⟩ h
        · refine lv_aload_n F.1 F.2.1 dX12_fit_39 rfl (lv_at hl 0 rfl) ?_
          refine tw_iconst F dX12_fit_40 ki_1 (fun z159 hz159 => ?_)
          refine tw_Vi (As := [.int z159]) F hZ h yk_X12_refuse mw_452 mw_453 mw_454 (s_X12_refuse l D cy L R O f0 a0 m_a0 r_a0 z159 ⟨by omega, by omega⟩) rfl rfl m_a0 r_a0 (fun e q => (T_12 e).mp q) rfl hl.1 rfl (Nat.le_of_ble_eq_true rfl) ⟨Nat.le_of_ble_eq_true rfl, Nat.le_of_ble_eq_true rfl⟩ ⟨Nat.le_of_ble_eq_true rfl, Nat.le_of_ble_eq_true rfl⟩ dX12_fit_41 (fun v161 f160 H locs hp160 h => ?_)
          obtain ⟨hf160, hv161a, hv161b⟩ := hp160
          have hR : RBA GA f160 := hR.fm hf160 m_GA r_GA (by decide +kernel)
          have hX : GZ GP GL f160 := hX.fm hf160 m_GP r_GP m_GL r_GL (by decide +kernel) (by decide +kernel)
          have hk : fr L R [(12, 1), (12, 28), (12, 30)] [12, 68, 69, 70, 71, 72, 73] f0 f160 := hk.tr hf160 rfl rfl
          have e162 : fld f160 a0 0 = .ref GA := (hf160.efl m_a0 r_a0 rfl).trans t_GA
          have e163 : fld f160 a0 22 = .ref GP := (hf160.efl m_a0 r_a0 rfl).trans t_GP
          have e164 : fld f160 a0 23 = .ref GL := (hf160.efl m_a0 r_a0 rfl).trans t_GL
          have e165 : fld f160 a0 6 = .ref GT := (hf160.efl m_a0 r_a0 rfl).trans t_GT
          have e166 : fi f160 a0 30 = fi f0 a0 30 := hf160.efi m_a0 r_a0 rfl
          exact hret f160 _ _ _ _ v161 dX12_fit_44 rfl ⟨hk, hR, hX⟩ h
theorem dX12_broke_0 : decode cX12_broke 0 = .ok (.aload_n 0, 1) := by decide +kernel
theorem dX12_broke_1 : decode cX12_broke 1 = .ok (.aload_n 0, 1) := by decide +kernel
theorem dX12_broke_2 : decode cX12_broke 2 = .ok (.iload_n 1, 1) := by decide +kernel
theorem dX12_broke_3 : decode cX12_broke 3 = .ok (.invokevirtual 282, 3) := by decide +kernel
theorem dX12_broke_6 : decode cX12_broke 6 = .ok (.iload_n 2, 1) := by decide +kernel
theorem dX12_broke_7 : decode cX12_broke 7 = .ok (.iload_n 3, 1) := by decide +kernel
theorem dX12_broke_8 : decode cX12_broke 8 = .ok (.bipush 16, 2) := by decide +kernel
theorem dX12_broke_10 : decode cX12_broke 10 = .ok (.invokevirtual 405, 3) := by decide +kernel
theorem dX12_broke_13 : decode cX12_broke 13 = .ok (.istore 4, 2) := by decide +kernel
theorem dX12_broke_15 : decode cX12_broke 15 = .ok (.iload 4, 2) := by decide +kernel
theorem dX12_broke_17 : decode cX12_broke 17 = .ok (.ifCond .le 12, 3) := by decide +kernel
theorem dX12_broke_29 : decode cX12_broke 29 = .ok (.aload_n 0, 1) := by decide +kernel
theorem dX12_broke_30 : decode cX12_broke 30 = .ok (.aload_n 0, 1) := by decide +kernel
theorem dX12_broke_31 : decode cX12_broke 31 = .ok (.iload_n 1, 1) := by decide +kernel
theorem dX12_broke_32 : decode cX12_broke 32 = .ok (.iload_n 2, 1) := by decide +kernel
theorem dX12_broke_33 : decode cX12_broke 33 = .ok (.iload_n 3, 1) := by decide +kernel
theorem dX12_broke_34 : decode cX12_broke 34 = .ok (.invokevirtual 438, 3) := by decide +kernel
theorem mw_1355 : Cond.methodLink RX12 438 yX12_brokenBy ∈ wsL_law := inr_57 _ (List.mem_of_getElem? (i := 11) rfl)
theorem mw_1358 : Cond.code yX12_brokenBy cX12_brokenBy 6 (some .int) ∈ wsL_law := inr_57 _ (List.mem_of_getElem? (i := 14) rfl)
theorem yk_X12_brokenBy : xY yX12_brokenBy RX12 cX12_brokenBy 6 (some .int) 3 := ⟨⟨rfl, by decide +kernel, by decide +kernel, by decide +kernel⟩, mw_5, mw_1358⟩
theorem mw_1356 : Cond.instanceMethod yX12_brokenBy ∈ wsL_law := inr_57 _ (List.mem_of_getElem? (i := 12) rfl)
theorem mw_1357 : Cond.selects RX12 yX12_brokenBy yX12_brokenBy ∈ wsL_law := inr_57 _ (List.mem_of_getElem? (i := 13) rfl)
theorem dX12_broke_37 : decode cX12_broke 37 = .ok (.invokevirtual 209, 3) := by decide +kernel
theorem dX12_broke_40 : decode cX12_broke 40 = .ok (.ireturn, 1) := by decide +kernel
theorem dX12_broke_20 : decode cX12_broke 20 = .ok (.aload_n 0, 1) := by decide +kernel
theorem dX12_broke_21 : decode cX12_broke 21 = .ok (.iload 4, 2) := by decide +kernel
theorem dX12_broke_23 : decode cX12_broke 23 = .ok (.invokevirtual 194, 3) := by decide +kernel
theorem dX12_broke_26 : decode cX12_broke 26 = .ok (.goto 14, 3) := by decide +kernel
def rm_X12_broke : Room := { frames := 7, cells := 0, slots := 0, locals := 175 }
set_option maxHeartbeats 4000000 in
set_option maxRecDepth 100000 in
theorem s_X12_broke (l : Launch) (D : va_G) (cy : Nat → ClassId) (L : List Nat) (R O : Nat → Nat) (f0 : Nat → va_E) (a0 : Nat) (m_a0 : a0 ∈ L) (r_a0 : R a0 = 12) (x1 : Int32) (x2 : Int32) (x3 : Int32) (GA : Nat) (m_GA : GA ∈ L) (r_GA : R GA = 61) (t_GA : fld f0 a0 0 = .ref GA) (GP : Nat) (m_GP : GP ∈ L) (r_GP : R GP = 69) (t_GP : fld f0 a0 22 = .ref GP) (GL : Nat) (m_GL : GL ∈ L) (r_GL : R GL = 70) (t_GL : fld f0 a0 23 = .ref GL) (GT : Nat) (m_GT : GT ∈ L) (r_GT : R GT = 64) (t_GT : fld f0 a0 6 = .ref GT) (pre0 : RBA GA f0) (pre1 : GZ GP GL f0) : ∀ sz, Met l yX12_broke (Cond.code yX12_broke cX12_broke 5 (some .int) :: wsL_law) rm_X12_broke (va_Pc [.ref a0, .int x1, .int x2, .int x3] (tPZ D cy L R (TT cy L R) f0 sz)) (va_Qi (fun (r : Int32) f1 => fr L R [(12, 1), (12, 28), (12, 29), (12, 35), (12, 36), (12, 37), (12, 38), (12, 39)] [12, 61, 68, 69, 70, 73, 74, 76] f0 f1 ∧ RBA GA f1 ∧ GZ GP GL f1) (tB D (tA L sz) L R (TT cy L R)) (tA L sz)) 0 0 (tA L sz) := by
  refine tw_enteri (by decide +kernel) rfl (Nat.le_of_ble_eq_true rfl) ?_
  intro p e s m below meth c A ls args Q F hZ h hl hret
  have hl : lv_has ls 5 [(0, .ref a0), (1, .int x1), (2, .int x2), (3, .int x3)] := hl
  have hk : fr L R [(12, 1), (12, 28), (12, 29), (12, 35), (12, 36), (12, 37), (12, 38), (12, 39)] [12, 61, 68, 69, 70, 73, 74, 76] f0 f0 := fr.rf
  have hR := pre0
  have hX := pre1
  refine lv_aload_n F.1 F.2.1 dX12_broke_0 rfl (lv_at hl 0 rfl) ?_
  refine lv_aload_n F.1 F.2.1 dX12_broke_1 rfl (lv_at hl 0 rfl) ?_
  refine lv_iload_n F.1 F.2.1 dX12_broke_2 rfl (lv_at hl 1 rfl) ?_
  refine tw_Vi (As := [.int x1]) F hZ h yk_X12_isScript mw_635 mw_636 mw_637 (s_X12_isScript l D cy L R O f0 a0 m_a0 r_a0 x1) rfl rfl m_a0 r_a0 (fun e q => (T_12 e).mp q) rfl hl.1 rfl (Nat.le_of_ble_eq_true rfl) ⟨Nat.le_of_ble_eq_true rfl, Nat.le_of_ble_eq_true rfl⟩ ⟨Nat.le_of_ble_eq_true rfl, Nat.le_of_ble_eq_true rfl⟩ dX12_broke_3 (fun v2 f1 H locs hp1 h => ?_)
  obtain ⟨rfl, hv2a, hv2b, hv2p0⟩ := hp1
  refine lv_iload_n F.1 F.2.1 dX12_broke_6 rfl (lv_at hl 2 rfl) ?_
  refine lv_iload_n F.1 F.2.1 dX12_broke_7 rfl (lv_at hl 3 rfl) ?_
  refine tw_bipush F dX12_broke_8 kb_16 (fun z3 hz3 => ?_)
  refine tw_Vi (As := [.int v2, .int x2, .int x3, .int z3]) F hZ h yk_X12_wrongLines mw_1183 mw_1184 mw_1185 (s_X12_wrongLines l D cy L R O f0 a0 m_a0 r_a0 v2 ⟨by omega, by omega⟩ x2 x3 z3 ⟨by omega, by omega⟩ GA m_GA r_GA t_GA GP m_GP r_GP t_GP GL m_GL r_GL t_GL GT m_GT r_GT t_GT) rfl rfl m_a0 r_a0 (fun e q => (T_12 e).mp q) rfl hl.1 rfl (Nat.le_of_ble_eq_true rfl) ⟨Nat.le_of_ble_eq_true rfl, Nat.le_of_ble_eq_true rfl⟩ ⟨Nat.le_of_ble_eq_true rfl, Nat.le_of_ble_eq_true rfl⟩ dX12_broke_10 (fun v5 f4 H locs hp4 h => ?_)
  obtain ⟨rfl, hv5a, hv5b, hv5p0, hv5p1⟩ := hp4
  refine lv_istore (lv' := [(4, .int v5), (0, .ref a0), (1, .int x1), (2, .int x2), (3, .int x3)]) F.1 F.2.1 dX12_broke_13 hl (by decide) rfl (fun ls hl => ?_)
  refine lv_iload F.1 F.2.1 dX12_broke_15 (lv_at hl 0 rfl) ?_
  refine tw_if_le (tgt := 29) F dX12_broke_17 (by decide) (fun b6 => ?_) (fun b6 => ?_)
  · have hLT : LT GT x2.toInt.toNat x3.toInt.toNat f0 := hv5p0.g.resolve_left (by omega)
    refine lv_aload_n F.1 F.2.1 dX12_broke_29 rfl (lv_at hl 1 rfl) ?_
    refine lv_aload_n F.1 F.2.1 dX12_broke_30 rfl (lv_at hl 1 rfl) ?_
    refine lv_iload_n F.1 F.2.1 dX12_broke_31 rfl (lv_at hl 2 rfl) ?_
    refine lv_iload_n F.1 F.2.1 dX12_broke_32 rfl (lv_at hl 3 rfl) ?_
    refine lv_iload_n F.1 F.2.1 dX12_broke_33 rfl (lv_at hl 4 rfl) ?_
    refine tw_Vi (As := [.int x1, .int x2, .int x3]) F hZ h yk_X12_brokenBy mw_1355 mw_1356 mw_1357 (s_X12_brokenBy l D cy L R O f0 a0 m_a0 r_a0 x1 ⟨by omega, by omega⟩ x2 ⟨by omega, by omega⟩ x3 ⟨by omega, by omega⟩ GA m_GA r_GA t_GA GP m_GP r_GP t_GP GL m_GL r_GL t_GL GT m_GT r_GT t_GT hX hR hLT) rfl rfl m_a0 r_a0 (fun e q => (T_12 e).mp q) rfl hl.1 rfl (Nat.le_of_ble_eq_true rfl) ⟨Nat.le_of_ble_eq_true rfl, Nat.le_of_ble_eq_true rfl⟩ ⟨Nat.le_of_ble_eq_true rfl, Nat.le_of_ble_eq_true rfl⟩ dX12_broke_34 (fun v8 f7 H locs hp7 h => ?_)
    obtain ⟨hf7, hv8a, hv8b, hv8p0, hv8p1⟩ := hp7
    have hR : RBA GA f7 := hR.kw hv8p1 (Or.inl (by omega))
    have hX : GZ GP GL f7 := hv8p0
    have hLT : LT GT x2.toInt.toNat x3.toInt.toNat f7 := hLT.fm hf7 m_GT r_GT (by decide +kernel)
    have hk : fr L R [(12, 1), (12, 28), (12, 29), (12, 35), (12, 36), (12, 37), (12, 38), (12, 39)] [12, 61, 68, 69, 70, 73, 74, 76] f0 f7 := hk.tr hf7 (by decide +kernel) (by decide +kernel)
    have e9 : fld f7 a0 0 = .ref GA := (hf7.efl m_a0 r_a0 rfl).trans t_GA
    have e10 : fld f7 a0 22 = .ref GP := (hf7.efl m_a0 r_a0 rfl).trans t_GP
    have e11 : fld f7 a0 23 = .ref GL := (hf7.efl m_a0 r_a0 rfl).trans t_GL
    have e12 : fld f7 a0 6 = .ref GT := (hf7.efl m_a0 r_a0 rfl).trans t_GT
    refine tw_Vi (As := [.int v8]) F hZ h yk_X12_gives mw_499 mw_500 mw_501 (s_X12_gives l D cy L R O f7 a0 m_a0 r_a0 v8) rfl rfl m_a0 r_a0 (fun e q => (T_12 e).mp q) rfl hl.1 rfl (Nat.le_of_ble_eq_true rfl) ⟨Nat.le_of_ble_eq_true rfl, Nat.le_of_ble_eq_true rfl⟩ ⟨Nat.le_of_ble_eq_true rfl, Nat.le_of_ble_eq_true rfl⟩ dX12_broke_37 (fun v14 f13 H locs hp13 h => ?_)
    have hf13 := hp13
    have hR : RBA GA f13 := hR.fm hf13 m_GA r_GA (by decide +kernel)
    have hX : GZ GP GL f13 := hX.fm hf13 m_GP r_GP m_GL r_GL (by decide +kernel) (by decide +kernel)
    have hLT : LT GT x2.toInt.toNat x3.toInt.toNat f13 := hLT.fm hf13 m_GT r_GT (by decide +kernel)
    have hk : fr L R [(12, 1), (12, 28), (12, 29), (12, 35), (12, 36), (12, 37), (12, 38), (12, 39)] [12, 61, 68, 69, 70, 73, 74, 76] f0 f13 := hk.tr hf13 rfl rfl
    have e15 : fld f13 a0 0 = .ref GA := (hf13.efl m_a0 r_a0 rfl).trans e9
    have e16 : fld f13 a0 22 = .ref GP := (hf13.efl m_a0 r_a0 rfl).trans e10
    have e17 : fld f13 a0 23 = .ref GL := (hf13.efl m_a0 r_a0 rfl).trans e11
    have e18 : fld f13 a0 6 = .ref GT := (hf13.efl m_a0 r_a0 rfl).trans e12
    exact hret f13 _ _ _ _ v14 dX12_broke_40 rfl ⟨hk, hR, hX⟩ h
  · refine lv_aload_n F.1 F.2.1 dX12_broke_20 rfl (lv_at hl 1 rfl) ?_
    refine lv_iload F.1 F.2.1 dX12_broke_21 (lv_at hl 0 rfl) ?_
    refine tw_Vi (As := [.int v5]) F hZ h yk_X12_refuse mw_452 mw_453 mw_454 (s_X12_refuse l D cy L R O f0 a0 m_a0 r_a0 v5 ⟨by omega, by omega⟩) rfl rfl m_a0 r_a0 (fun e q => (T_12 e).mp q) rfl hl.1 rfl (Nat.le_of_ble_eq_true rfl) ⟨Nat.le_of_ble_eq_true rfl, Nat.le_of_ble_eq_true rfl⟩ ⟨Nat.le_of_ble_eq_true rfl, Nat.le_of_ble_eq_true rfl⟩ dX12_broke_23 (fun v20 f19 H locs hp19 h => ?_)
    obtain ⟨hf19, hv20a, hv20b⟩ := hp19
    have hR : RBA GA f19 := hR.fm hf19 m_GA r_GA (by decide +kernel)
    have hX : GZ GP GL f19 := hX.fm hf19 m_GP r_GP m_GL r_GL (by decide +kernel) (by decide +kernel)
    have hk : fr L R [(12, 1), (12, 28), (12, 29), (12, 35), (12, 36), (12, 37), (12, 38), (12, 39)] [12, 61, 68, 69, 70, 73, 74, 76] f0 f19 := hk.tr hf19 rfl rfl
    have e21 : fld f19 a0 0 = .ref GA := (hf19.efl m_a0 r_a0 rfl).trans t_GA
    have e22 : fld f19 a0 22 = .ref GP := (hf19.efl m_a0 r_a0 rfl).trans t_GP
    have e23 : fld f19 a0 23 = .ref GL := (hf19.efl m_a0 r_a0 rfl).trans t_GL
    have e24 : fld f19 a0 6 = .ref GT := (hf19.efl m_a0 r_a0 rfl).trans t_GT
    refine lv_goto (tgt := 40) F.1 F.2.1 dX12_broke_26 (by decide) ?_
    exact hret f19 _ _ _ _ v20 dX12_broke_40 rfl ⟨hk, hR, hX⟩ h
theorem dX12_mend_0 : decode cX12_mend 0 = .ok (.aload_n 0, 1) := by decide +kernel
theorem dX12_mend_1 : decode cX12_mend 1 = .ok (.aload_n 0, 1) := by decide +kernel
theorem dX12_mend_2 : decode cX12_mend 2 = .ok (.iload_n 1, 1) := by decide +kernel
theorem dX12_mend_3 : decode cX12_mend 3 = .ok (.invokevirtual 282, 3) := by decide +kernel
theorem dX12_mend_25 : decode cX12_mend 25 = .ok (.iload_n 2, 1) := by decide +kernel
theorem dX12_mend_26 : decode cX12_mend 26 = .ok (.iload_n 3, 1) := by decide +kernel
theorem dX12_mend_27 : decode cX12_mend 27 = .ok (.bipush 16, 2) := by decide +kernel
theorem dX12_mend_29 : decode cX12_mend 29 = .ok (.invokevirtual 405, 3) := by decide +kernel
theorem dX12_mend_32 : decode cX12_mend 32 = .ok (.istore 5, 2) := by decide +kernel
theorem dX12_mend_34 : decode cX12_mend 34 = .ok (.iload 5, 2) := by decide +kernel
theorem dX12_mend_36 : decode cX12_mend 36 = .ok (.ifCond .le 10, 3) := by decide +kernel
theorem dX12_mend_46 : decode cX12_mend 46 = .ok (.aload_n 0, 1) := by decide +kernel
theorem dX12_mend_47 : decode cX12_mend 47 = .ok (.iload_n 1, 1) := by decide +kernel
theorem dX12_mend_48 : decode cX12_mend 48 = .ok (.iload_n 2, 1) := by decide +kernel
theorem dX12_mend_49 : decode cX12_mend 49 = .ok (.iload_n 3, 1) := by decide +kernel
theorem dX12_mend_50 : decode cX12_mend 50 = .ok (.invokevirtual 438, 3) := by decide +kernel
theorem dX12_mend_53 : decode cX12_mend 53 = .ok (.iconst (-1), 1) := by decide +kernel
theorem dX12_mend_54 : decode cX12_mend 54 = .ok (.if_icmp .ne 10, 3) := by decide +kernel
theorem dX12_mend_64 : decode cX12_mend 64 = .ok (.iconst 0, 1) := by decide +kernel
theorem dX12_mend_65 : decode cX12_mend 65 = .ok (.istore 6, 2) := by decide +kernel
theorem dX12_mend_67 : decode cX12_mend 67 = .ok (.iconst (-1), 1) := by decide +kernel
theorem dX12_mend_68 : decode cX12_mend 68 = .ok (.istore 7, 2) := by decide +kernel
theorem dX12_mend_70 : decode cX12_mend 70 = .ok (.aload_n 0, 1) := by decide +kernel
theorem dX12_mend_71 : decode cX12_mend 71 = .ok (.getfield 7, 3) := by decide +kernel
theorem dX12_mend_74 : decode cX12_mend 74 = .ok (.sipush 1650, 3) := by decide +kernel
theorem dX12_mend_77 : decode cX12_mend 77 = .ok (.iload_n 1, 1) := by decide +kernel
theorem dX12_mend_78 : decode cX12_mend 78 = .ok (.imul, 1) := by decide +kernel
theorem dX12_mend_79 : decode cX12_mend 79 = .ok (.iload 4, 2) := by decide +kernel
theorem dX12_mend_81 : decode cX12_mend 81 = .ok (.iconst 2, 1) := by decide +kernel
theorem dX12_mend_90 : decode cX12_mend 90 = .ok (.iadd, 1) := by decide +kernel
theorem dX12_mend_91 : decode cX12_mend 91 = .ok (.laload, 1) := by decide +kernel
theorem dX12_mend_92 : decode cX12_mend 92 = .ok (.l2i, 1) := by decide +kernel
theorem dX12_mend_93 : decode cX12_mend 93 = .ok (.istore 8, 2) := by decide +kernel
theorem dX12_mend_95 : decode cX12_mend 95 = .ok (.iconst 0, 1) := by decide +kernel
theorem dX12_mend_96 : decode cX12_mend 96 = .ok (.istore 9, 2) := by decide +kernel
theorem dX12_mend_98 : decode cX12_mend 98 = .ok (.iload 9, 2) := by decide +kernel
theorem dX12_mend_100 : decode cX12_mend 100 = .ok (.iload 8, 2) := by decide +kernel
theorem dX12_mend_102 : decode cX12_mend 102 = .ok (.if_icmp .ge 74, 3) := by decide +kernel
theorem dX12_mend_176 : decode cX12_mend 176 = .ok (.aload_n 0, 1) := by decide +kernel
theorem dX12_mend_177 : decode cX12_mend 177 = .ok (.iconst 0, 1) := by decide +kernel
theorem dX12_mend_178 : decode cX12_mend 178 = .ok (.putfield 301, 3) := by decide +kernel
section
variable {p : Program} {l : Launch} {e : Env} {R0 : Room} {s : State} {m : MethodId} {args : Array Value} {below : List Frame} {meth : Method} {c : Code} {H H0 : Heap} {locs : List Loc} {cells slots : Nat} {Q : State → Prop} {cc : ByteArray} {nL : Nat} {D : va_G} {cy : Nat → ClassId} {A : Nat → Prop} {L : List Nat} {R : Nat → Nat} {f : Nat → va_E} {pc : Nat} {ls : Array Slot} {rest : List Value} {a : Nat}
theorem p_12_301 (F : CallFix p m c cc nL s args wsL_law RX12) (h : tS D cy A H0 L R (TT cy L R) f s H locs) {x : Int32} (ha : a ∈ L) (hr : R a = 12) (hdg : decode cc pc = .ok (.putfield 301, 3)) (kk : ∀ (f1 : Nat → va_E) (H1 : Heap) (locs1 : List Loc), fi f1 a 31 = x.toInt → fr L R [(12, 31)] [12] f f1 → tS D cy A H0 L R (TT cy L R) f1 s H1 locs1 → W p l e R0 s m args below meth c H1 locs1 cells slots Q (F0 m (pc + 3) ls (rest))) : W p l e R0 s m args below meth c H locs cells slots Q (F0 m pc ls (.int x :: .ref a :: rest)) := tu_puti (k := 31) F h ha hr T_12 rfl (tb_i x).1 (tb_i x).2 inlX12 tyX12_ok nmX12 rfl (Nat.le_of_ble_eq_true rfl) mw_899 rfl rfl rfl hdg kk
end
theorem dX12_mend_181 : decode cX12_mend 181 = .ok (.aload_n 0, 1) := by decide +kernel
theorem dX12_mend_182 : decode cX12_mend 182 = .ok (.iconst (-1), 1) := by decide +kernel
theorem dX12_mend_183 : decode cX12_mend 183 = .ok (.putfield 69, 3) := by decide +kernel
section
variable {p : Program} {l : Launch} {e : Env} {R0 : Room} {s : State} {m : MethodId} {args : Array Value} {below : List Frame} {meth : Method} {c : Code} {H H0 : Heap} {locs : List Loc} {cells slots : Nat} {Q : State → Prop} {cc : ByteArray} {nL : Nat} {D : va_G} {cy : Nat → ClassId} {A : Nat → Prop} {L : List Nat} {R : Nat → Nat} {f : Nat → va_E} {pc : Nat} {ls : Array Slot} {rest : List Value} {a : Nat}
theorem p_12_69 (F : CallFix p m c cc nL s args wsL_law RX12) (h : tS D cy A H0 L R (TT cy L R) f s H locs) {x : Int32} (ha : a ∈ L) (hr : R a = 12) (hdg : decode cc pc = .ok (.putfield 69, 3)) (kk : ∀ (f1 : Nat → va_E) (H1 : Heap) (locs1 : List Loc), fi f1 a 32 = x.toInt → fr L R [(12, 32)] [12] f f1 → tS D cy A H0 L R (TT cy L R) f1 s H1 locs1 → W p l e R0 s m args below meth c H1 locs1 cells slots Q (F0 m (pc + 3) ls (rest))) : W p l e R0 s m args below meth c H locs cells slots Q (F0 m pc ls (.int x :: .ref a :: rest)) := tu_puti (k := 32) F h ha hr T_12 rfl (tb_i x).1 (tb_i x).2 inlX12 tyX12_ok nmX12 rfl (Nat.le_of_ble_eq_true rfl) mw_220 rfl rfl rfl hdg kk
end
theorem dX12_mend_186 : decode cX12_mend 186 = .ok (.iload 4, 2) := by decide +kernel
theorem dX12_mend_188 : decode cX12_mend 188 = .ok (.iconst 2, 1) := by decide +kernel
theorem dX12_mend_189 : decode cX12_mend 189 = .ok (.irem, 1) := by decide +kernel
theorem dX12_mend_190 : decode cX12_mend 190 = .ok (.ifCond .ne 10, 3) := by decide +kernel
theorem dX12_mend_200 : decode cX12_mend 200 = .ok (.iload 6, 2) := by decide +kernel
theorem dX12_mend_202 : decode cX12_mend 202 = .ok (.ifCond .ne 12, 3) := by decide +kernel
theorem dX12_mend_214 : decode cX12_mend 214 = .ok (.aload_n 0, 1) := by decide +kernel
theorem dX12_mend_215 : decode cX12_mend 215 = .ok (.iload 7, 2) := by decide +kernel
theorem dX12_mend_217 : decode cX12_mend 217 = .ok (.invokevirtual 209, 3) := by decide +kernel
theorem dX12_mend_220 : decode cX12_mend 220 = .ok (.ireturn, 1) := by decide +kernel
theorem dX12_mend_205 : decode cX12_mend 205 = .ok (.aload_n 0, 1) := by decide +kernel
theorem dX12_mend_206 : decode cX12_mend 206 = .ok (.bipush 6, 2) := by decide +kernel
theorem dX12_mend_208 : decode cX12_mend 208 = .ok (.invokevirtual 194, 3) := by decide +kernel
theorem dX12_mend_211 : decode cX12_mend 211 = .ok (.goto 9, 3) := by decide +kernel
theorem dX12_mend_193 : decode cX12_mend 193 = .ok (.aload_n 0, 1) := by decide +kernel
theorem dX12_mend_194 : decode cX12_mend 194 = .ok (.iload 6, 2) := by decide +kernel
theorem dX12_mend_196 : decode cX12_mend 196 = .ok (.invokevirtual 209, 3) := by decide +kernel
theorem dX12_mend_199 : decode cX12_mend 199 = .ok (.ireturn, 1) := by decide +kernel
theorem dX12_mend_105 : decode cX12_mend 105 = .ok (.aload_n 0, 1) := by decide +kernel
theorem dX12_mend_106 : decode cX12_mend 106 = .ok (.iload 4, 2) := by decide +kernel
theorem dX12_mend_108 : decode cX12_mend 108 = .ok (.iconst 2, 1) := by decide +kernel
theorem dX12_mend_120 : decode cX12_mend 120 = .ok (.putfield 301, 3) := by decide +kernel
theorem dX12_mend_123 : decode cX12_mend 123 = .ok (.aload_n 0, 1) := by decide +kernel
theorem dX12_mend_124 : decode cX12_mend 124 = .ok (.iload 4, 2) := by decide +kernel
theorem dX12_mend_126 : decode cX12_mend 126 = .ok (.iconst 2, 1) := by decide +kernel
theorem dX12_mend_136 : decode cX12_mend 136 = .ok (.putfield 69, 3) := by decide +kernel
theorem dX12_mend_139 : decode cX12_mend 139 = .ok (.aload_n 0, 1) := by decide +kernel
theorem dX12_mend_140 : decode cX12_mend 140 = .ok (.iload_n 1, 1) := by decide +kernel
theorem dX12_mend_141 : decode cX12_mend 141 = .ok (.iload_n 2, 1) := by decide +kernel
theorem dX12_mend_142 : decode cX12_mend 142 = .ok (.iload_n 3, 1) := by decide +kernel
theorem dX12_mend_143 : decode cX12_mend 143 = .ok (.invokevirtual 438, 3) := by decide +kernel
theorem dX12_mend_146 : decode cX12_mend 146 = .ok (.iconst (-1), 1) := by decide +kernel
theorem dX12_mend_170 : decode cX12_mend 170 = .ok (.iinc 9 1, 3) := by decide +kernel
theorem dX12_mend_173 : decode cX12_mend 173 = .ok (.goto (-75), 3) := by decide +kernel
theorem dX12_mend_147 : decode cX12_mend 147 = .ok (.if_icmp .eq 6, 3) := by decide +kernel
theorem dX12_mend_153 : decode cX12_mend 153 = .ok (.iload 6, 2) := by decide +kernel
theorem dX12_mend_165 : decode cX12_mend 165 = .ok (.istore 7, 2) := by decide +kernel
theorem dX12_mend_167 : decode cX12_mend 167 = .ok (.iinc 6 1, 3) := by decide +kernel
theorem dX12_mend_155 : decode cX12_mend 155 = .ok (.ifCond .ne 8, 3) := by decide +kernel
theorem dX12_mend_163 : decode cX12_mend 163 = .ok (.iload 7, 2) := by decide +kernel
theorem dX12_mend_158 : decode cX12_mend 158 = .ok (.iload 9, 2) := by decide +kernel
theorem dX12_mend_160 : decode cX12_mend 160 = .ok (.goto 5, 3) := by decide +kernel
theorem dX12_mend_150 : decode cX12_mend 150 = .ok (.goto 20, 3) := by decide +kernel
theorem dX12_mend_127 : decode cX12_mend 127 = .ok (.if_icmp .ge 7, 3) := by decide +kernel
theorem dX12_mend_134 : decode cX12_mend 134 = .ok (.iload 9, 2) := by decide +kernel
theorem dX12_mend_130 : decode cX12_mend 130 = .ok (.iconst (-1), 1) := by decide +kernel
theorem dX12_mend_131 : decode cX12_mend 131 = .ok (.goto 5, 3) := by decide +kernel
theorem dX12_mend_109 : decode cX12_mend 109 = .ok (.if_icmp .ge 10, 3) := by decide +kernel
theorem dX12_mend_119 : decode cX12_mend 119 = .ok (.iconst 0, 1) := by decide +kernel
theorem dX12_mend_112 : decode cX12_mend 112 = .ok (.iconst 1, 1) := by decide +kernel
theorem dX12_mend_113 : decode cX12_mend 113 = .ok (.iload 9, 2) := by decide +kernel
theorem dX12_mend_115 : decode cX12_mend 115 = .ok (.ishl, 1) := by decide +kernel
theorem dX12_mend_116 : decode cX12_mend 116 = .ok (.goto 4, 3) := by decide +kernel
theorem dX12_mend_82 : decode cX12_mend 82 = .ok (.if_icmp .ge 7, 3) := by decide +kernel
theorem dX12_mend_89 : decode cX12_mend 89 = .ok (.iconst 2, 1) := by decide +kernel
theorem dX12_mend_85 : decode cX12_mend 85 = .ok (.iconst 1, 1) := by decide +kernel
theorem dX12_mend_86 : decode cX12_mend 86 = .ok (.goto 4, 3) := by decide +kernel
theorem dX12_mend_57 : decode cX12_mend 57 = .ok (.aload_n 0, 1) := by decide +kernel
theorem dX12_mend_58 : decode cX12_mend 58 = .ok (.bipush 6, 2) := by decide +kernel
theorem dX12_mend_60 : decode cX12_mend 60 = .ok (.invokevirtual 194, 3) := by decide +kernel
theorem dX12_mend_63 : decode cX12_mend 63 = .ok (.ireturn, 1) := by decide +kernel
theorem dX12_mend_39 : decode cX12_mend 39 = .ok (.aload_n 0, 1) := by decide +kernel
theorem dX12_mend_40 : decode cX12_mend 40 = .ok (.iload 5, 2) := by decide +kernel
theorem dX12_mend_42 : decode cX12_mend 42 = .ok (.invokevirtual 194, 3) := by decide +kernel
theorem dX12_mend_45 : decode cX12_mend 45 = .ok (.ireturn, 1) := by decide +kernel
theorem dX12_mend_24 : decode cX12_mend 24 = .ok (.iconst 0, 1) := by decide +kernel
theorem dX12_mend_6 : decode cX12_mend 6 = .ok (.ifCond .eq 18, 3) := by decide +kernel
theorem dX12_mend_9 : decode cX12_mend 9 = .ok (.iload 4, 2) := by decide +kernel
theorem dX12_mend_11 : decode cX12_mend 11 = .ok (.ifCond .lt 13, 3) := by decide +kernel
theorem dX12_mend_14 : decode cX12_mend 14 = .ok (.iload 4, 2) := by decide +kernel
theorem dX12_mend_16 : decode cX12_mend 16 = .ok (.iconst 3, 1) := by decide +kernel
theorem dX12_mend_17 : decode cX12_mend 17 = .ok (.if_icmp .gt 7, 3) := by decide +kernel
theorem dX12_mend_20 : decode cX12_mend 20 = .ok (.iconst 1, 1) := by decide +kernel
theorem dX12_mend_21 : decode cX12_mend 21 = .ok (.goto 4, 3) := by decide +kernel
def rm_X12_mend : Room := { frames := 7, cells := 0, slots := 0, locals := 175 }
set_option maxHeartbeats 4000000 in
set_option maxRecDepth 100000 in
theorem s_X12_mend (l : Launch) (D : va_G) (cy : Nat → ClassId) (L : List Nat) (R O : Nat → Nat) (f0 : Nat → va_E) (a0 : Nat) (m_a0 : a0 ∈ L) (r_a0 : R a0 = 12) (x1 : Int32) (x2 : Int32) (x3 : Int32) (x4 : Int32) (GA : Nat) (m_GA : GA ∈ L) (r_GA : R GA = 61) (t_GA : fld f0 a0 0 = .ref GA) (GP : Nat) (m_GP : GP ∈ L) (r_GP : R GP = 69) (t_GP : fld f0 a0 22 = .ref GP) (GL : Nat) (m_GL : GL ∈ L) (r_GL : R GL = 70) (t_GL : fld f0 a0 23 = .ref GL) (GT : Nat) (m_GT : GT ∈ L) (r_GT : R GT = 64) (t_GT : fld f0 a0 6 = .ref GT) (pre0 : RBA GA f0) (pre1 : GZ GP GL f0) : ∀ sz, Met l yX12_mend (Cond.code yX12_mend cX12_mend 10 (some .int) :: wsL_law) rm_X12_mend (va_Pc [.ref a0, .int x1, .int x2, .int x3, .int x4] (tPZ D cy L R (TT cy L R) f0 sz)) (va_Qi (fun (r : Int32) f1 => fr L R [(12, 1), (12, 28), (12, 29), (12, 31), (12, 32), (12, 35), (12, 36), (12, 37), (12, 38), (12, 39)] [12, 61, 68, 69, 70, 73, 74, 76] f0 f1 ∧ RBA GA f1 ∧ GZ GP GL f1) (tB D (tA L sz) L R (TT cy L R)) (tA L sz)) 0 0 (tA L sz) := by
  refine tw_enteri (by decide +kernel) rfl (Nat.le_of_ble_eq_true rfl) ?_
  intro p e s m below meth c A ls args Q F hZ h hl hret
  have hl : lv_has ls 10 [(0, .ref a0), (1, .int x1), (2, .int x2), (3, .int x3), (4, .int x4)] := hl
  have hk : fr L R [(12, 1), (12, 28), (12, 29), (12, 31), (12, 32), (12, 35), (12, 36), (12, 37), (12, 38), (12, 39)] [12, 61, 68, 69, 70, 73, 74, 76] f0 f0 := fr.rf
  have hR := pre0
  have hX := pre1
  refine lv_aload_n F.1 F.2.1 dX12_mend_0 rfl (lv_at hl 0 rfl) ?_
  refine lv_aload_n F.1 F.2.1 dX12_mend_1 rfl (lv_at hl 0 rfl) ?_
  refine lv_iload_n F.1 F.2.1 dX12_mend_2 rfl (lv_at hl 1 rfl) ?_
  refine tw_Vi (As := [.int x1]) F hZ h yk_X12_isScript mw_635 mw_636 mw_637 (s_X12_isScript l D cy L R O f0 a0 m_a0 r_a0 x1) rfl rfl m_a0 r_a0 (fun e q => (T_12 e).mp q) rfl hl.1 rfl (Nat.le_of_ble_eq_true rfl) ⟨Nat.le_of_ble_eq_true rfl, Nat.le_of_ble_eq_true rfl⟩ ⟨Nat.le_of_ble_eq_true rfl, Nat.le_of_ble_eq_true rfl⟩ dX12_mend_3 (fun v2 f1 H locs hp1 h => ?_)
  obtain ⟨rfl, hv2a, hv2b, hv2p0⟩ := hp1
  have j_25 : ∀ (ls : Array Slot) (y0_25 : Int32), 0 ≤ y0_25.toInt → y0_25.toInt ≤ 1 → (y0_25.toInt = 0 ∨ (0 ≤ x1.toInt ∧ x1.toInt ≤ 2)) → lv_has ls 10 [(0, .ref a0), (1, .int x1), (2, .int x2), (3, .int x3), (4, .int x4)] → W p l e rm_X12_mend s m args below meth c H locs 0 0 Q (F0 m 25 ls [.int y0_25, .ref a0]) := by
    intro ls y0_25 b3 b4 b5 hl
    refine lv_iload_n F.1 F.2.1 dX12_mend_25 rfl (lv_at hl 2 rfl) ?_
    refine lv_iload_n F.1 F.2.1 dX12_mend_26 rfl (lv_at hl 3 rfl) ?_
    refine tw_bipush F dX12_mend_27 kb_16 (fun z6 hz6 => ?_)
    refine tw_Vi (As := [.int y0_25, .int x2, .int x3, .int z6]) F hZ h yk_X12_wrongLines mw_1183 mw_1184 mw_1185 (s_X12_wrongLines l D cy L R O f0 a0 m_a0 r_a0 y0_25 ⟨by omega, by omega⟩ x2 x3 z6 ⟨by omega, by omega⟩ GA m_GA r_GA t_GA GP m_GP r_GP t_GP GL m_GL r_GL t_GL GT m_GT r_GT t_GT) rfl rfl m_a0 r_a0 (fun e q => (T_12 e).mp q) rfl hl.1 rfl (Nat.le_of_ble_eq_true rfl) ⟨Nat.le_of_ble_eq_true rfl, Nat.le_of_ble_eq_true rfl⟩ ⟨Nat.le_of_ble_eq_true rfl, Nat.le_of_ble_eq_true rfl⟩ dX12_mend_29 (fun v8 f7 H locs hp7 h => ?_)
    obtain ⟨rfl, hv8a, hv8b, hv8p0, hv8p1⟩ := hp7
    refine lv_istore (lv' := [(5, .int v8), (0, .ref a0), (1, .int x1), (2, .int x2), (3, .int x3), (4, .int x4)]) F.1 F.2.1 dX12_mend_32 hl (by decide) rfl (fun ls hl => ?_)
    refine lv_iload F.1 F.2.1 dX12_mend_34 (lv_at hl 0 rfl) ?_
    refine tw_if_le (tgt := 46) F dX12_mend_36 (by decide) (fun b9 => ?_) (fun b9 => ?_)
    · have hLT : LT GT x2.toInt.toNat x3.toInt.toNat f0 := hv8p0.g.resolve_left (by omega)
      refine lv_aload_n F.1 F.2.1 dX12_mend_46 rfl (lv_at hl 1 rfl) ?_
      refine lv_iload_n F.1 F.2.1 dX12_mend_47 rfl (lv_at hl 2 rfl) ?_
      refine lv_iload_n F.1 F.2.1 dX12_mend_48 rfl (lv_at hl 3 rfl) ?_
      refine lv_iload_n F.1 F.2.1 dX12_mend_49 rfl (lv_at hl 4 rfl) ?_
      refine tw_Vi (As := [.int x1, .int x2, .int x3]) F hZ h yk_X12_brokenBy mw_1355 mw_1356 mw_1357 (s_X12_brokenBy l D cy L R O f0 a0 m_a0 r_a0 x1 ⟨by omega, by omega⟩ x2 ⟨by omega, by omega⟩ x3 ⟨by omega, by omega⟩ GA m_GA r_GA t_GA GP m_GP r_GP t_GP GL m_GL r_GL t_GL GT m_GT r_GT t_GT hX hR hLT) rfl rfl m_a0 r_a0 (fun e q => (T_12 e).mp q) rfl hl.1 rfl (Nat.le_of_ble_eq_true rfl) ⟨Nat.le_of_ble_eq_true rfl, Nat.le_of_ble_eq_true rfl⟩ ⟨Nat.le_of_ble_eq_true rfl, Nat.le_of_ble_eq_true rfl⟩ dX12_mend_50 (fun v11 f10 H locs hp10 h => ?_)
      obtain ⟨hf10, hv11a, hv11b, hv11p0, hv11p1⟩ := hp10
      have hR : RBA GA f10 := hR.kw hv11p1 (Or.inl (by omega))
      have hX : GZ GP GL f10 := hv11p0
      have hLT : LT GT x2.toInt.toNat x3.toInt.toNat f10 := hLT.fm hf10 m_GT r_GT (by decide +kernel)
      have hk : fr L R [(12, 1), (12, 28), (12, 29), (12, 31), (12, 32), (12, 35), (12, 36), (12, 37), (12, 38), (12, 39)] [12, 61, 68, 69, 70, 73, 74, 76] f0 f10 := hk.tr hf10 (by decide +kernel) (by decide +kernel)
      have e12 : fld f10 a0 0 = .ref GA := (hf10.efl m_a0 r_a0 rfl).trans t_GA
      have e13 : fld f10 a0 22 = .ref GP := (hf10.efl m_a0 r_a0 rfl).trans t_GP
      have e14 : fld f10 a0 23 = .ref GL := (hf10.efl m_a0 r_a0 rfl).trans t_GL
      have e15 : fld f10 a0 6 = .ref GT := (hf10.efl m_a0 r_a0 rfl).trans t_GT
      refine tw_iconst F dX12_mend_53 ki_m1 (fun z16 hz16 => ?_)
      refine tw_icmp_ne (tgt := 64) F dX12_mend_54 (by decide) (fun b17 => ?_) (fun b17 => ?_)
      · refine tw_iconst F dX12_mend_64 ki_0 (fun z18 hz18 => ?_)
        refine lv_istore (lv' := [(6, .int z18), (5, .int v8), (0, .ref a0), (1, .int x1), (2, .int x2), (3, .int x3), (4, .int x4)]) F.1 F.2.1 dX12_mend_65 hl (by decide) rfl (fun ls hl => ?_)
        refine tw_iconst F dX12_mend_67 ki_m1 (fun z19 hz19 => ?_)
        refine lv_istore (lv' := [(7, .int z19), (6, .int z18), (5, .int v8), (0, .ref a0), (1, .int x1), (2, .int x2), (3, .int x3), (4, .int x4)]) F.1 F.2.1 dX12_mend_68 hl (by decide) rfl (fun ls hl => ?_)
        refine lv_aload_n F.1 F.2.1 dX12_mend_70 rfl (lv_at hl 3 rfl) ?_
        refine g_12_7 F h m_a0 r_a0 dX12_mend_71 (fun o20 m_o20 r_o20 ho20 => ?_)
        obtain rfl := (fld_inj e12 ho20).symm
        refine tw_sipush F dX12_mend_74 ks_1650 (fun z21 hz21 => ?_)
        refine lv_iload_n F.1 F.2.1 dX12_mend_77 rfl (lv_at hl 4 rfl) ?_
        refine tu_imull F dX12_mend_78 hz21 (by omega) (fun z22 hz22 => ?_)
        refine lv_iload F.1 F.2.1 dX12_mend_79 (lv_at hl 7 rfl) ?_
        refine tw_iconst F dX12_mend_81 ki_2 (fun z23 hz23 => ?_)
        have j_90 : ∀ (ls : Array Slot) (y0_90 : Int32), 1 ≤ y0_90.toInt → y0_90.toInt ≤ 2 → lv_has ls 10 [(0, .ref a0), (1, .int x1), (2, .int x2), (3, .int x3), (4, .int x4), (6, .int z18), (7, .int z19)] → W p l e rm_X12_mend s m args below meth c H locs 0 0 Q (F0 m 90 ls [.int y0_90, .int z22, .ref GA]) := by
          intro ls y0_90 b24 b25 hl
          refine tu_iadd F dX12_mend_90 (by omega) (fun z26 hz26 => ?_)
          refine ld_61 F h m_GA r_GA (by omega) dX12_mend_91 (fun v27 hv27a => ?_)
          refine lv_l2i F.1 F.2.1 dX12_mend_92 rfl ?_
          refine lv_topi (fun z28 _ => ?_)
          refine lv_istore (lv' := [(8, .int z28), (0, .ref a0), (1, .int x1), (2, .int x2), (3, .int x3), (4, .int x4), (6, .int z18), (7, .int z19)]) F.1 F.2.1 dX12_mend_93 hl (by decide) rfl (fun ls hl => ?_)
          refine tw_iconst F dX12_mend_95 ki_0 (fun z29 hz29 => ?_)
          refine lv_istore (lv' := [(9, .int z29), (8, .int z28), (0, .ref a0), (1, .int x1), (2, .int x2), (3, .int x3), (4, .int x4), (6, .int z18), (7, .int z19)]) F.1 F.2.1 dX12_mend_96 hl (by decide) rfl (fun ls hl => ?_)
          have j_98 : ∀ (n98 : Nat) (f30 : Nat → va_E) (H : Heap) (locs : List Loc) (ls : Array Slot) (x6_98 : Int32) (x7_98 : Int32) (x9_98 : Int32), 0 ≤ x9_98.toInt → ((2147483647 - x9_98.toInt)).toNat < n98 → tS D cy A s.heap L R (TT cy L R) f30 s H locs → RBA GA f30 → GZ GP GL f30 → LT GT x2.toInt.toNat x3.toInt.toNat f30 → fr L R [(12, 1), (12, 28), (12, 29), (12, 31), (12, 32), (12, 35), (12, 36), (12, 37), (12, 38), (12, 39)] [12, 61, 68, 69, 70, 73, 74, 76] f0 f30 → fr L R [(12, 28), (12, 29), (12, 31), (12, 32), (12, 35), (12, 36), (12, 37), (12, 38), (12, 39)] [12, 61, 68, 69, 70, 73, 74, 76] f10 f30 → lv_has ls 10 [(0, .ref a0), (1, .int x1), (2, .int x2), (3, .int x3), (4, .int x4), (6, .int x6_98), (7, .int x7_98), (8, .int z28), (9, .int x9_98)] → W p l e rm_X12_mend s m args below meth c H locs 0 0 Q (F0 m 98 ls []) := by
            intro n98
            induction n98 with
            | zero =>
              intro f30 H locs ls x6_98 x7_98 x9_98 b31 b32 h hR hX hLT hk hb98 hl
              exfalso
              omega
            | succ n98 ih98 =>
              intro f30 H locs ls x6_98 x7_98 x9_98 b31 b32 h hR hX hLT hk hb98 hl
              have e33 : fld f30 a0 0 = .ref GA := (hb98.efl m_a0 r_a0 rfl).trans e12
              have e34 : fld f30 a0 22 = .ref GP := (hb98.efl m_a0 r_a0 rfl).trans e13
              have e35 : fld f30 a0 23 = .ref GL := (hb98.efl m_a0 r_a0 rfl).trans e14
              have e36 : fld f30 a0 6 = .ref GT := (hb98.efl m_a0 r_a0 rfl).trans e15
              refine lv_iload F.1 F.2.1 dX12_mend_98 (lv_at hl 8 rfl) ?_
              refine lv_iload F.1 F.2.1 dX12_mend_100 (lv_at hl 7 rfl) ?_
              refine tw_icmp_ge (tgt := 176) F dX12_mend_102 (by decide) (fun b37 => ?_) (fun b37 => ?_)
              · refine lv_aload_n F.1 F.2.1 dX12_mend_176 rfl (lv_at hl 0 rfl) ?_
                refine tw_iconst F dX12_mend_177 ki_0 (fun z38 hz38 => ?_)
                refine p_12_301 F h m_a0 r_a0 dX12_mend_178 (fun f39 H locs e39p hf39 h => ?_)
                have hR : RBA GA f39 := hR.fm hf39 m_GA r_GA (by decide +kernel)
                have hX : GZ GP GL f39 := hX.fm hf39 m_GP r_GP m_GL r_GL (by decide +kernel) (by decide +kernel)
                have hLT : LT GT x2.toInt.toNat x3.toInt.toNat f39 := hLT.fm hf39 m_GT r_GT (by decide +kernel)
                have hk : fr L R [(12, 1), (12, 28), (12, 29), (12, 31), (12, 32), (12, 35), (12, 36), (12, 37), (12, 38), (12, 39)] [12, 61, 68, 69, 70, 73, 74, 76] f0 f39 := hk.tr hf39 rfl rfl
                have hb98 : fr L R [(12, 28), (12, 29), (12, 31), (12, 32), (12, 35), (12, 36), (12, 37), (12, 38), (12, 39)] [12, 61, 68, 69, 70, 73, 74, 76] f10 f39 := hb98.tr hf39 rfl rfl
                have e40 : fld f39 a0 0 = .ref GA := (hf39.efl m_a0 r_a0 rfl).trans e33
                have e41 : fld f39 a0 22 = .ref GP := (hf39.efl m_a0 r_a0 rfl).trans e34
                have e42 : fld f39 a0 23 = .ref GL := (hf39.efl m_a0 r_a0 rfl).trans e35
                have e43 : fld f39 a0 6 = .ref GT := (hf39.efl m_a0 r_a0 rfl).trans e36
                refine lv_aload_n F.1 F.2.1 dX12_mend_181 rfl (lv_at hl 0 rfl) ?_
                refine tw_iconst F dX12_mend_182 ki_m1 (fun z44 hz44 => ?_)
                refine p_12_69 F h m_a0 r_a0 dX12_mend_183 (fun f45 H locs e45p hf45 h => ?_)
                have hR : RBA GA f45 := hR.fm hf45 m_GA r_GA (by decide +kernel)
                have hX : GZ GP GL f45 := hX.fm hf45 m_GP r_GP m_GL r_GL (by decide +kernel) (by decide +kernel)
                have hLT : LT GT x2.toInt.toNat x3.toInt.toNat f45 := hLT.fm hf45 m_GT r_GT (by decide +kernel)
                have hk : fr L R [(12, 1), (12, 28), (12, 29), (12, 31), (12, 32), (12, 35), (12, 36), (12, 37), (12, 38), (12, 39)] [12, 61, 68, 69, 70, 73, 74, 76] f0 f45 := hk.tr hf45 rfl rfl
                have hb98 : fr L R [(12, 28), (12, 29), (12, 31), (12, 32), (12, 35), (12, 36), (12, 37), (12, 38), (12, 39)] [12, 61, 68, 69, 70, 73, 74, 76] f10 f45 := hb98.tr hf45 rfl rfl
                have e46 : fld f45 a0 0 = .ref GA := (hf45.efl m_a0 r_a0 rfl).trans e40
                have e47 : fld f45 a0 22 = .ref GP := (hf45.efl m_a0 r_a0 rfl).trans e41
                have e48 : fld f45 a0 23 = .ref GL := (hf45.efl m_a0 r_a0 rfl).trans e42
                have e49 : fld f45 a0 6 = .ref GT := (hf45.efl m_a0 r_a0 rfl).trans e43
                refine lv_iload F.1 F.2.1 dX12_mend_186 (lv_at hl 4 rfl) ?_
                refine tw_iconst F dX12_mend_188 ki_2 (fun z50 hz50 => ?_)
                refine lv_irem F.1 F.2.1 dX12_mend_189 (tw_ne0i (by omega)) ?_
                refine lv_topi (fun z51 _ => ?_)
                refine tw_if_ne (tgt := 200) F dX12_mend_190 (by decide) (fun b52 => ?_) (fun b52 => ?_)
                · refine lv_iload F.1 F.2.1 dX12_mend_200 (lv_at hl 5 rfl) ?_
                  refine tw_if_ne (tgt := 214) F dX12_mend_202 (by decide) (fun b53 => ?_) (fun b53 => ?_)
                  · refine lv_aload_n F.1 F.2.1 dX12_mend_214 rfl (lv_at hl 0 rfl) ?_
                    refine lv_iload F.1 F.2.1 dX12_mend_215 (lv_at hl 6 rfl) ?_
                    refine tw_Vi (As := [.int x7_98]) F hZ h yk_X12_gives mw_499 mw_500 mw_501 (s_X12_gives l D cy L R O f45 a0 m_a0 r_a0 x7_98) rfl rfl m_a0 r_a0 (fun e q => (T_12 e).mp q) rfl hl.1 rfl (Nat.le_of_ble_eq_true rfl) ⟨Nat.le_of_ble_eq_true rfl, Nat.le_of_ble_eq_true rfl⟩ ⟨Nat.le_of_ble_eq_true rfl, Nat.le_of_ble_eq_true rfl⟩ dX12_mend_217 (fun v55 f54 H locs hp54 h => ?_)
                    have hf54 := hp54
                    have hR : RBA GA f54 := hR.fm hf54 m_GA r_GA (by decide +kernel)
                    have hX : GZ GP GL f54 := hX.fm hf54 m_GP r_GP m_GL r_GL (by decide +kernel) (by decide +kernel)
                    have hLT : LT GT x2.toInt.toNat x3.toInt.toNat f54 := hLT.fm hf54 m_GT r_GT (by decide +kernel)
                    have hk : fr L R [(12, 1), (12, 28), (12, 29), (12, 31), (12, 32), (12, 35), (12, 36), (12, 37), (12, 38), (12, 39)] [12, 61, 68, 69, 70, 73, 74, 76] f0 f54 := hk.tr hf54 rfl rfl
                    have e56 : fld f54 a0 0 = .ref GA := (hf54.efl m_a0 r_a0 rfl).trans e46
                    have e57 : fld f54 a0 22 = .ref GP := (hf54.efl m_a0 r_a0 rfl).trans e47
                    have e58 : fld f54 a0 23 = .ref GL := (hf54.efl m_a0 r_a0 rfl).trans e48
                    have e59 : fld f54 a0 6 = .ref GT := (hf54.efl m_a0 r_a0 rfl).trans e49
                    exact hret f54 _ _ _ _ v55 dX12_mend_220 rfl ⟨hk, hR, hX⟩ h
                  · refine lv_aload_n F.1 F.2.1 dX12_mend_205 rfl (lv_at hl 0 rfl) ?_
                    refine tw_bipush F dX12_mend_206 kb_6 (fun z60 hz60 => ?_)
                    refine tw_Vi (As := [.int z60]) F hZ h yk_X12_refuse mw_452 mw_453 mw_454 (s_X12_refuse l D cy L R O f45 a0 m_a0 r_a0 z60 ⟨by omega, by omega⟩) rfl rfl m_a0 r_a0 (fun e q => (T_12 e).mp q) rfl hl.1 rfl (Nat.le_of_ble_eq_true rfl) ⟨Nat.le_of_ble_eq_true rfl, Nat.le_of_ble_eq_true rfl⟩ ⟨Nat.le_of_ble_eq_true rfl, Nat.le_of_ble_eq_true rfl⟩ dX12_mend_208 (fun v62 f61 H locs hp61 h => ?_)
                    obtain ⟨hf61, hv62a, hv62b⟩ := hp61
                    have hR : RBA GA f61 := hR.fm hf61 m_GA r_GA (by decide +kernel)
                    have hX : GZ GP GL f61 := hX.fm hf61 m_GP r_GP m_GL r_GL (by decide +kernel) (by decide +kernel)
                    have hLT : LT GT x2.toInt.toNat x3.toInt.toNat f61 := hLT.fm hf61 m_GT r_GT (by decide +kernel)
                    have hk : fr L R [(12, 1), (12, 28), (12, 29), (12, 31), (12, 32), (12, 35), (12, 36), (12, 37), (12, 38), (12, 39)] [12, 61, 68, 69, 70, 73, 74, 76] f0 f61 := hk.tr hf61 rfl rfl
                    have e63 : fld f61 a0 0 = .ref GA := (hf61.efl m_a0 r_a0 rfl).trans e46
                    have e64 : fld f61 a0 22 = .ref GP := (hf61.efl m_a0 r_a0 rfl).trans e47
                    have e65 : fld f61 a0 23 = .ref GL := (hf61.efl m_a0 r_a0 rfl).trans e48
                    have e66 : fld f61 a0 6 = .ref GT := (hf61.efl m_a0 r_a0 rfl).trans e49
                    refine lv_goto (tgt := 220) F.1 F.2.1 dX12_mend_211 (by decide) ?_
                    exact hret f61 _ _ _ _ v62 dX12_mend_220 rfl ⟨hk, hR, hX⟩ h
                · refine lv_aload_n F.1 F.2.1 dX12_mend_193 rfl (lv_at hl 0 rfl) ?_
                  refine lv_iload F.1 F.2.1 dX12_mend_194 (lv_at hl 5 rfl) ?_
                  refine tw_Vi (As := [.int x6_98]) F hZ h yk_X12_gives mw_499 mw_500 mw_501 (s_X12_gives l D cy L R O f45 a0 m_a0 r_a0 x6_98) rfl rfl m_a0 r_a0 (fun e q => (T_12 e).mp q) rfl hl.1 rfl (Nat.le_of_ble_eq_true rfl) ⟨Nat.le_of_ble_eq_true rfl, Nat.le_of_ble_eq_true rfl⟩ ⟨Nat.le_of_ble_eq_true rfl, Nat.le_of_ble_eq_true rfl⟩ dX12_mend_196 (fun v68 f67 H locs hp67 h => ?_)
                  have hf67 := hp67
                  have hR : RBA GA f67 := hR.fm hf67 m_GA r_GA (by decide +kernel)
                  have hX : GZ GP GL f67 := hX.fm hf67 m_GP r_GP m_GL r_GL (by decide +kernel) (by decide +kernel)
                  have hLT : LT GT x2.toInt.toNat x3.toInt.toNat f67 := hLT.fm hf67 m_GT r_GT (by decide +kernel)
                  have hk : fr L R [(12, 1), (12, 28), (12, 29), (12, 31), (12, 32), (12, 35), (12, 36), (12, 37), (12, 38), (12, 39)] [12, 61, 68, 69, 70, 73, 74, 76] f0 f67 := hk.tr hf67 rfl rfl
                  have e69 : fld f67 a0 0 = .ref GA := (hf67.efl m_a0 r_a0 rfl).trans e46
                  have e70 : fld f67 a0 22 = .ref GP := (hf67.efl m_a0 r_a0 rfl).trans e47
                  have e71 : fld f67 a0 23 = .ref GL := (hf67.efl m_a0 r_a0 rfl).trans e48
                  have e72 : fld f67 a0 6 = .ref GT := (hf67.efl m_a0 r_a0 rfl).trans e49
                  exact hret f67 _ _ _ _ v68 dX12_mend_199 rfl ⟨hk, hR, hX⟩ h
              · refine lv_aload_n F.1 F.2.1 dX12_mend_105 rfl (lv_at hl 0 rfl) ?_
                refine lv_iload F.1 F.2.1 dX12_mend_106 (lv_at hl 4 rfl) ?_
                refine tw_iconst F dX12_mend_108 ki_2 (fun z73 hz73 => ?_)
                have j_120 : ∀ (ls : Array Slot) (y0_120 : Int32), lv_has ls 10 [(0, .ref a0), (1, .int x1), (2, .int x2), (3, .int x3), (4, .int x4), (6, .int x6_98), (7, .int x7_98), (8, .int z28), (9, .int x9_98)] → W p l e rm_X12_mend s m args below meth c H locs 0 0 Q (F0 m 120 ls [.int y0_120, .ref a0]) := by
                  intro ls y0_120 hl
                  refine p_12_301 F h m_a0 r_a0 dX12_mend_120 (fun f74 H locs e74p hf74 h => ?_)
                  have hR : RBA GA f74 := hR.fm hf74 m_GA r_GA (by decide +kernel)
                  have hX : GZ GP GL f74 := hX.fm hf74 m_GP r_GP m_GL r_GL (by decide +kernel) (by decide +kernel)
                  have hLT : LT GT x2.toInt.toNat x3.toInt.toNat f74 := hLT.fm hf74 m_GT r_GT (by decide +kernel)
                  have hk : fr L R [(12, 1), (12, 28), (12, 29), (12, 31), (12, 32), (12, 35), (12, 36), (12, 37), (12, 38), (12, 39)] [12, 61, 68, 69, 70, 73, 74, 76] f0 f74 := hk.tr hf74 rfl rfl
                  have hb98 : fr L R [(12, 28), (12, 29), (12, 31), (12, 32), (12, 35), (12, 36), (12, 37), (12, 38), (12, 39)] [12, 61, 68, 69, 70, 73, 74, 76] f10 f74 := hb98.tr hf74 rfl rfl
                  have e75 : fld f74 a0 0 = .ref GA := (hf74.efl m_a0 r_a0 rfl).trans e33
                  have e76 : fld f74 a0 22 = .ref GP := (hf74.efl m_a0 r_a0 rfl).trans e34
                  have e77 : fld f74 a0 23 = .ref GL := (hf74.efl m_a0 r_a0 rfl).trans e35
                  have e78 : fld f74 a0 6 = .ref GT := (hf74.efl m_a0 r_a0 rfl).trans e36
                  refine lv_aload_n F.1 F.2.1 dX12_mend_123 rfl (lv_at hl 0 rfl) ?_
                  refine lv_iload F.1 F.2.1 dX12_mend_124 (lv_at hl 4 rfl) ?_
                  refine tw_iconst F dX12_mend_126 ki_2 (fun z79 hz79 => ?_)
                  have j_136 : ∀ (ls : Array Slot) (y0_136 : Int32), lv_has ls 10 [(0, .ref a0), (1, .int x1), (2, .int x2), (3, .int x3), (4, .int x4), (6, .int x6_98), (7, .int x7_98), (8, .int z28), (9, .int x9_98)] → W p l e rm_X12_mend s m args below meth c H locs 0 0 Q (F0 m 136 ls [.int y0_136, .ref a0]) := by
                    intro ls y0_136 hl
                    refine p_12_69 F h m_a0 r_a0 dX12_mend_136 (fun f80 H locs e80p hf80 h => ?_)
                    have hR : RBA GA f80 := hR.fm hf80 m_GA r_GA (by decide +kernel)
                    have hX : GZ GP GL f80 := hX.fm hf80 m_GP r_GP m_GL r_GL (by decide +kernel) (by decide +kernel)
                    have hLT : LT GT x2.toInt.toNat x3.toInt.toNat f80 := hLT.fm hf80 m_GT r_GT (by decide +kernel)
                    have hk : fr L R [(12, 1), (12, 28), (12, 29), (12, 31), (12, 32), (12, 35), (12, 36), (12, 37), (12, 38), (12, 39)] [12, 61, 68, 69, 70, 73, 74, 76] f0 f80 := hk.tr hf80 rfl rfl
                    have hb98 : fr L R [(12, 28), (12, 29), (12, 31), (12, 32), (12, 35), (12, 36), (12, 37), (12, 38), (12, 39)] [12, 61, 68, 69, 70, 73, 74, 76] f10 f80 := hb98.tr hf80 rfl rfl
                    have e81 : fld f80 a0 0 = .ref GA := (hf80.efl m_a0 r_a0 rfl).trans e75
                    have e82 : fld f80 a0 22 = .ref GP := (hf80.efl m_a0 r_a0 rfl).trans e76
                    have e83 : fld f80 a0 23 = .ref GL := (hf80.efl m_a0 r_a0 rfl).trans e77
                    have e84 : fld f80 a0 6 = .ref GT := (hf80.efl m_a0 r_a0 rfl).trans e78
                    refine lv_aload_n F.1 F.2.1 dX12_mend_139 rfl (lv_at hl 0 rfl) ?_
                    refine lv_iload_n F.1 F.2.1 dX12_mend_140 rfl (lv_at hl 1 rfl) ?_
                    refine lv_iload_n F.1 F.2.1 dX12_mend_141 rfl (lv_at hl 2 rfl) ?_
                    refine lv_iload_n F.1 F.2.1 dX12_mend_142 rfl (lv_at hl 3 rfl) ?_
                    refine tw_Vi (As := [.int x1, .int x2, .int x3]) F hZ h yk_X12_brokenBy mw_1355 mw_1356 mw_1357 (s_X12_brokenBy l D cy L R O f80 a0 m_a0 r_a0 x1 ⟨by omega, by omega⟩ x2 ⟨by omega, by omega⟩ x3 ⟨by omega, by omega⟩ GA m_GA r_GA e81 GP m_GP r_GP e82 GL m_GL r_GL e83 GT m_GT r_GT e84 hX hR hLT) rfl rfl m_a0 r_a0 (fun e q => (T_12 e).mp q) rfl hl.1 rfl (Nat.le_of_ble_eq_true rfl) ⟨Nat.le_of_ble_eq_true rfl, Nat.le_of_ble_eq_true rfl⟩ ⟨Nat.le_of_ble_eq_true rfl, Nat.le_of_ble_eq_true rfl⟩ dX12_mend_143 (fun v86 f85 H locs hp85 h => ?_)
                    obtain ⟨hf85, hv86a, hv86b, hv86p0, hv86p1⟩ := hp85
                    have hR : RBA GA f85 := hR.kw hv86p1 (Or.inl (by omega))
                    have hX : GZ GP GL f85 := hv86p0
                    have hLT : LT GT x2.toInt.toNat x3.toInt.toNat f85 := hLT.fm hf85 m_GT r_GT (by decide +kernel)
                    have hk : fr L R [(12, 1), (12, 28), (12, 29), (12, 31), (12, 32), (12, 35), (12, 36), (12, 37), (12, 38), (12, 39)] [12, 61, 68, 69, 70, 73, 74, 76] f0 f85 := hk.tr hf85 (by decide +kernel) (by decide +kernel)
                    have hb98 : fr L R [(12, 28), (12, 29), (12, 31), (12, 32), (12, 35), (12, 36), (12, 37), (12, 38), (12, 39)] [12, 61, 68, 69, 70, 73, 74, 76] f10 f85 := hb98.tr hf85 (by decide +kernel) (by decide +kernel)
                    have e87 : fld f85 a0 0 = .ref GA := (hf85.efl m_a0 r_a0 rfl).trans e81
                    have e88 : fld f85 a0 22 = .ref GP := (hf85.efl m_a0 r_a0 rfl).trans e82
                    have e89 : fld f85 a0 23 = .ref GL := (hf85.efl m_a0 r_a0 rfl).trans e83
                    have e90 : fld f85 a0 6 = .ref GT := (hf85.efl m_a0 r_a0 rfl).trans e84
                    refine tw_iconst F dX12_mend_146 ki_m1 (fun z91 hz91 => ?_)
                    have j_170 : ∀ (ls : Array Slot) (x6_170 : Int32) (x7_170 : Int32), lv_has ls 10 [(0, .ref a0), (1, .int x1), (2, .int x2), (3, .int x3), (4, .int x4), (6, .int x6_170), (7, .int x7_170), (8, .int z28), (9, .int x9_98)] → W p l e rm_X12_mend s m args below meth c H locs 0 0 Q (F0 m 170 ls []) := by
                      intro ls x6_170 x7_170 hl
                      have tb8 := tb_i z28
                      refine tu_iinc F dX12_mend_170 hl (k := 8) rfl (by decide) ki_1 (by omega) (fun z92 ls hz92 hl => ?_)
                      have hl : lv_has ls 10 [(9, .int z92), (0, .ref a0), (1, .int x1), (2, .int x2), (3, .int x3), (4, .int x4), (6, .int x6_170), (7, .int x7_170), (8, .int z28)] := hl
                      refine lv_goto (tgt := 98) F.1 F.2.1 dX12_mend_173 (by decide) ?_
                      exact ih98 f85 _ _ _ x6_170 x7_170 z92 (by omega) (by omega) h hR hX hLT hk hb98 (lv_sub hl [1, 2, 3, 4, 5, 6, 7, 8, 0] rfl)
                    refine tw_icmp_eq (tgt := 153) F dX12_mend_147 (by decide) (fun b93 => ?_) (fun b93 => ?_)
                    · refine lv_iload F.1 F.2.1 dX12_mend_153 (lv_at hl 5 rfl) ?_
                      have j_165 : ∀ (ls : Array Slot) (y0_165 : Int32), lv_has ls 10 [(0, .ref a0), (1, .int x1), (2, .int x2), (3, .int x3), (4, .int x4), (6, .int x6_98), (8, .int z28), (9, .int x9_98)] → W p l e rm_X12_mend s m args below meth c H locs 0 0 Q (F0 m 165 ls [.int y0_165]) := by
                        intro ls y0_165 hl
                        refine lv_istore (lv' := [(7, .int y0_165), (0, .ref a0), (1, .int x1), (2, .int x2), (3, .int x3), (4, .int x4), (6, .int x6_98), (8, .int z28), (9, .int x9_98)]) F.1 F.2.1 dX12_mend_165 hl (by decide) rfl (fun ls hl => ?_)
                        refine tu_iincU F dX12_mend_167 hl (k := 6) rfl (by decide) (fun z94 ls hl => ?_)
                        have hl : lv_has ls 10 [(6, .int z94), (7, .int y0_165), (0, .ref a0), (1, .int x1), (2, .int x2), (3, .int x3), (4, .int x4), (8, .int z28), (9, .int x9_98)] := hl
                        exact j_170 _ z94 y0_165 (lv_sub hl [2, 3, 4, 5, 6, 0, 1, 7, 8] rfl)
                      refine tw_if_ne (tgt := 163) F dX12_mend_155 (by decide) (fun b95 => ?_) (fun b95 => ?_)
                      · refine lv_iload F.1 F.2.1 dX12_mend_163 (lv_at hl 6 rfl) ?_
                        exact j_165 _ x7_98 (lv_sub hl [0, 1, 2, 3, 4, 5, 7, 8] rfl)
                      · refine lv_iload F.1 F.2.1 dX12_mend_158 (lv_at hl 8 rfl) ?_
                        refine lv_goto (tgt := 165) F.1 F.2.1 dX12_mend_160 (by decide) ?_
                        exact j_165 _ x9_98 (lv_sub hl [0, 1, 2, 3, 4, 5, 7, 8] rfl)
                    · refine lv_goto (tgt := 170) F.1 F.2.1 dX12_mend_150 (by decide) ?_
                      exact j_170 _ x6_98 x7_98 (lv_sub hl [0, 1, 2, 3, 4, 5, 6, 7, 8] rfl)
                  refine tw_icmp_ge (tgt := 134) F dX12_mend_127 (by decide) (fun b96 => ?_) (fun b96 => ?_)
                  · refine lv_iload F.1 F.2.1 dX12_mend_134 (lv_at hl 8 rfl) ?_
                    exact j_136 _ x9_98 (lv_sub hl [0, 1, 2, 3, 4, 5, 6, 7, 8] rfl)
                  · refine tw_iconst F dX12_mend_130 ki_m1 (fun z97 hz97 => ?_)
                    refine lv_goto (tgt := 136) F.1 F.2.1 dX12_mend_131 (by decide) ?_
                    exact j_136 _ z97 (lv_sub hl [0, 1, 2, 3, 4, 5, 6, 7, 8] rfl)
                refine tw_icmp_ge (tgt := 119) F dX12_mend_109 (by decide) (fun b98 => ?_) (fun b98 => ?_)
                · refine tw_iconst F dX12_mend_119 ki_0 (fun z99 hz99 => ?_)
                  exact j_120 _ z99 (lv_sub hl [0, 1, 2, 3, 4, 5, 6, 7, 8] rfl)
                · refine tw_iconst F dX12_mend_112 ki_1 (fun z100 hz100 => ?_)
                  refine lv_iload F.1 F.2.1 dX12_mend_113 (lv_at hl 8 rfl) ?_
                  refine lv_ishl F.1 F.2.1 dX12_mend_115 ?_
                  refine lv_topi (fun z101 _ => ?_)
                  refine lv_goto (tgt := 120) F.1 F.2.1 dX12_mend_116 (by decide) ?_
                  exact j_120 _ z101 (lv_sub hl [0, 1, 2, 3, 4, 5, 6, 7, 8] rfl)
          have hb98 : fr L R [(12, 28), (12, 29), (12, 31), (12, 32), (12, 35), (12, 36), (12, 37), (12, 38), (12, 39)] [12, 61, 68, 69, 70, 73, 74, 76] f10 f10 := fr.rf
          exact j_98 (((2147483647 - z29.toInt)).toNat + 1) f10 _ _ _ z18 z19 z29 (by omega) (by omega) h hR hX hLT hk hb98 (lv_sub hl [2, 3, 4, 5, 6, 7, 8, 1, 0] rfl)
        refine tw_icmp_ge (tgt := 89) F dX12_mend_82 (by decide) (fun b102 => ?_) (fun b102 => ?_)
        · refine tw_iconst F dX12_mend_89 ki_2 (fun z103 hz103 => ?_)
          exact j_90 _ z103 (by omega) (by omega) (lv_sub hl [3, 4, 5, 6, 7, 1, 0] rfl)
        · refine tw_iconst F dX12_mend_85 ki_1 (fun z104 hz104 => ?_)
          refine lv_goto (tgt := 90) F.1 F.2.1 dX12_mend_86 (by decide) ?_
          exact j_90 _ z104 (by omega) (by omega) (lv_sub hl [3, 4, 5, 6, 7, 1, 0] rfl)
      · refine lv_aload_n F.1 F.2.1 dX12_mend_57 rfl (lv_at hl 1 rfl) ?_
        refine tw_bipush F dX12_mend_58 kb_6 (fun z105 hz105 => ?_)
        refine tw_Vi (As := [.int z105]) F hZ h yk_X12_refuse mw_452 mw_453 mw_454 (s_X12_refuse l D cy L R O f10 a0 m_a0 r_a0 z105 ⟨by omega, by omega⟩) rfl rfl m_a0 r_a0 (fun e q => (T_12 e).mp q) rfl hl.1 rfl (Nat.le_of_ble_eq_true rfl) ⟨Nat.le_of_ble_eq_true rfl, Nat.le_of_ble_eq_true rfl⟩ ⟨Nat.le_of_ble_eq_true rfl, Nat.le_of_ble_eq_true rfl⟩ dX12_mend_60 (fun v107 f106 H locs hp106 h => ?_)
        obtain ⟨hf106, hv107a, hv107b⟩ := hp106
        have hR : RBA GA f106 := hR.fm hf106 m_GA r_GA (by decide +kernel)
        have hX : GZ GP GL f106 := hX.fm hf106 m_GP r_GP m_GL r_GL (by decide +kernel) (by decide +kernel)
        have hLT : LT GT x2.toInt.toNat x3.toInt.toNat f106 := hLT.fm hf106 m_GT r_GT (by decide +kernel)
        have hk : fr L R [(12, 1), (12, 28), (12, 29), (12, 31), (12, 32), (12, 35), (12, 36), (12, 37), (12, 38), (12, 39)] [12, 61, 68, 69, 70, 73, 74, 76] f0 f106 := hk.tr hf106 rfl rfl
        have e108 : fld f106 a0 0 = .ref GA := (hf106.efl m_a0 r_a0 rfl).trans e12
        have e109 : fld f106 a0 22 = .ref GP := (hf106.efl m_a0 r_a0 rfl).trans e13
        have e110 : fld f106 a0 23 = .ref GL := (hf106.efl m_a0 r_a0 rfl).trans e14
        have e111 : fld f106 a0 6 = .ref GT := (hf106.efl m_a0 r_a0 rfl).trans e15
        exact hret f106 _ _ _ _ v107 dX12_mend_63 rfl ⟨hk, hR, hX⟩ h
    · refine lv_aload_n F.1 F.2.1 dX12_mend_39 rfl (lv_at hl 1 rfl) ?_
      refine lv_iload F.1 F.2.1 dX12_mend_40 (lv_at hl 0 rfl) ?_
      refine tw_Vi (As := [.int v8]) F hZ h yk_X12_refuse mw_452 mw_453 mw_454 (s_X12_refuse l D cy L R O f0 a0 m_a0 r_a0 v8 ⟨by omega, by omega⟩) rfl rfl m_a0 r_a0 (fun e q => (T_12 e).mp q) rfl hl.1 rfl (Nat.le_of_ble_eq_true rfl) ⟨Nat.le_of_ble_eq_true rfl, Nat.le_of_ble_eq_true rfl⟩ ⟨Nat.le_of_ble_eq_true rfl, Nat.le_of_ble_eq_true rfl⟩ dX12_mend_42 (fun v113 f112 H locs hp112 h => ?_)
      obtain ⟨hf112, hv113a, hv113b⟩ := hp112
      have hR : RBA GA f112 := hR.fm hf112 m_GA r_GA (by decide +kernel)
      have hX : GZ GP GL f112 := hX.fm hf112 m_GP r_GP m_GL r_GL (by decide +kernel) (by decide +kernel)
      have hk : fr L R [(12, 1), (12, 28), (12, 29), (12, 31), (12, 32), (12, 35), (12, 36), (12, 37), (12, 38), (12, 39)] [12, 61, 68, 69, 70, 73, 74, 76] f0 f112 := hk.tr hf112 rfl rfl
      have e114 : fld f112 a0 0 = .ref GA := (hf112.efl m_a0 r_a0 rfl).trans t_GA
      have e115 : fld f112 a0 22 = .ref GP := (hf112.efl m_a0 r_a0 rfl).trans t_GP
      have e116 : fld f112 a0 23 = .ref GL := (hf112.efl m_a0 r_a0 rfl).trans t_GL
      have e117 : fld f112 a0 6 = .ref GT := (hf112.efl m_a0 r_a0 rfl).trans t_GT
      exact hret f112 _ _ _ _ v113 dX12_mend_45 rfl ⟨hk, hR, hX⟩ h
  have j_24 : ∀ (ls : Array Slot), lv_has ls 10 [(0, .ref a0), (1, .int x1), (2, .int x2), (3, .int x3), (4, .int x4)] → W p l e rm_X12_mend s m args below meth c H locs 0 0 Q (F0 m 24 ls [.ref a0]) := by
    intro ls hl
    refine tw_iconst F dX12_mend_24 ki_0 (fun z118 hz118 => ?_)
    exact j_25 _ z118 (by omega) (by omega) (by omega) (lv_sub hl [0, 1, 2, 3, 4] rfl)
  refine tw_if_eq (tgt := 24) F dX12_mend_6 (by decide) (fun b119 => ?_) (fun b119 => ?_)
  · exact j_24 _ (lv_sub hl [0, 1, 2, 3, 4] rfl)
  · refine lv_iload F.1 F.2.1 dX12_mend_9 (lv_at hl 4 rfl) ?_
    refine tw_if_lt (tgt := 24) F dX12_mend_11 (by decide) (fun b120 => ?_) (fun b120 => ?_)
    · exact j_24 _ (lv_sub hl [0, 1, 2, 3, 4] rfl)
    · refine lv_iload F.1 F.2.1 dX12_mend_14 (lv_at hl 4 rfl) ?_
      refine tw_iconst F dX12_mend_16 ki_3 (fun z121 hz121 => ?_)
      refine tw_icmp_gt (tgt := 24) F dX12_mend_17 (by decide) (fun b122 => ?_) (fun b122 => ?_)
      · exact j_24 _ (lv_sub hl [0, 1, 2, 3, 4] rfl)
      · refine tw_iconst F dX12_mend_20 ki_1 (fun z123 hz123 => ?_)
        refine lv_goto (tgt := 25) F.1 F.2.1 dX12_mend_21 (by decide) ?_
        exact j_25 _ z123 (by omega) (by omega) (by omega) (lv_sub hl [0, 1, 2, 3, 4] rfl)
theorem dX12_saysWhole_0 : decode cX12_saysWhole 0 = .ok (.aload_n 0, 1) := by decide +kernel
theorem dX12_saysWhole_1 : decode cX12_saysWhole 1 = .ok (.iload_n 1, 1) := by decide +kernel
theorem dX12_saysWhole_2 : decode cX12_saysWhole 2 = .ok (.sipush 22410, 3) := by decide +kernel
theorem dX12_saysWhole_5 : decode cX12_saysWhole 5 = .ok (.invokevirtual 409, 3) := by decide +kernel
theorem dX12_saysWhole_8 : decode cX12_saysWhole 8 = .ok (.iconst 0, 1) := by decide +kernel
theorem dX12_saysWhole_9 : decode cX12_saysWhole 9 = .ok (.istore 4, 2) := by decide +kernel
theorem dX12_saysWhole_11 : decode cX12_saysWhole 11 = .ok (.iload 4, 2) := by decide +kernel
theorem dX12_saysWhole_13 : decode cX12_saysWhole 13 = .ok (.iload_n 3, 1) := by decide +kernel
theorem dX12_saysWhole_14 : decode cX12_saysWhole 14 = .ok (.if_icmp .ge 112, 3) := by decide +kernel
theorem dX12_saysWhole_126 : decode cX12_saysWhole 126 = .ok (.iconst 1, 1) := by decide +kernel
theorem dX12_saysWhole_127 : decode cX12_saysWhole 127 = .ok (.ireturn, 1) := by decide +kernel
theorem dX12_saysWhole_17 : decode cX12_saysWhole 17 = .ok (.aload_n 0, 1) := by decide +kernel
theorem dX12_saysWhole_18 : decode cX12_saysWhole 18 = .ok (.iload_n 2, 1) := by decide +kernel
theorem dX12_saysWhole_19 : decode cX12_saysWhole 19 = .ok (.iload 4, 2) := by decide +kernel
theorem dX12_saysWhole_21 : decode cX12_saysWhole 21 = .ok (.invokevirtual 413, 3) := by decide +kernel
theorem dX12_saysWhole_24 : decode cX12_saysWhole 24 = .ok (.aload_n 0, 1) := by decide +kernel
theorem dX12_saysWhole_25 : decode cX12_saysWhole 25 = .ok (.sipush 22410, 3) := by decide +kernel
theorem dX12_saysWhole_28 : decode cX12_saysWhole 28 = .ok (.invokevirtual 387, 3) := by decide +kernel
theorem dX12_saysWhole_31 : decode cX12_saysWhole 31 = .ok (.aload_n 0, 1) := by decide +kernel
theorem dX12_saysWhole_32 : decode cX12_saysWhole 32 = .ok (.getfield 324, 3) := by decide +kernel
theorem dX12_saysWhole_35 : decode cX12_saysWhole 35 = .ok (.i2l, 1) := by decide +kernel
theorem dX12_saysWhole_36 : decode cX12_saysWhole 36 = .ok (.aload_n 0, 1) := by decide +kernel
theorem dX12_saysWhole_37 : decode cX12_saysWhole 37 = .ok (.getfield 106, 3) := by decide +kernel
theorem mw_233 : Cond.fieldLink RX12 106 "AskBackModel" "whole" "[J" ∈ wsL_law := inr_10 _ (List.mem_of_getElem? (i := 17) rfl)
section
variable {p : Program} {l : Launch} {e : Env} {R0 : Room} {s : State} {m : MethodId} {args : Array Value} {below : List Frame} {meth : Method} {c : Code} {H H0 : Heap} {locs : List Loc} {cells slots : Nat} {Q : State → Prop} {cc : ByteArray} {nL : Nat} {D : va_G} {cy : Nat → ClassId} {A : Nat → Prop} {L : List Nat} {R : Nat → Nat} {f : Nat → va_E} {pc : Nat} {ls : Array Slot} {rest : List Value} {a : Nat}
theorem g_12_106 (F : CallFix p m c cc nL s args wsL_law RX12) (h : tS D cy A H0 L R (TT cy L R) f s H locs) (ha : a ∈ L) (hr : R a = 12) (hdg : decode cc pc = .ok (.getfield 106, 3)) (kk : ∀ b : Nat, b ∈ L → R b = 84 → fld f a 58 = .ref b → W p l e R0 s m args below meth c H locs cells slots Q (F0 m (pc + 3) ls (.ref b :: rest))) : W p l e R0 s m args below meth c H locs cells slots Q (F0 m pc ls (.ref a :: rest)) := tu_getr F h ha hr (fun e q => (T_12 e).mp q) rfl inlX12 rfl (Nat.le_of_ble_eq_true rfl) mw_233 hdg kk
end
theorem dX12_saysWhole_40 : decode cX12_saysWhole 40 = .ok (.bipush 13, 2) := by decide +kernel
theorem dX12_saysWhole_42 : decode cX12_saysWhole 42 = .ok (.iload 4, 2) := by decide +kernel
theorem dX12_saysWhole_44 : decode cX12_saysWhole 44 = .ok (.imul, 1) := by decide +kernel
theorem dX12_saysWhole_45 : decode cX12_saysWhole 45 = .ok (.laload, 1) := by decide +kernel
section
variable {p : Program} {l : Launch} {e : Env} {R0 : Room} {s : State} {m : MethodId} {args : Array Value} {below : List Frame} {meth : Method} {c : Code} {H H0 : Heap} {locs : List Loc} {cells slots : Nat} {Q : State → Prop} {cc : ByteArray} {nL : Nat} {D : va_G} {cy : Nat → ClassId} {A : Nat → Prop} {L : List Nat} {R : Nat → Nat} {f : Nat → va_E} {pc : Nat} {ls : Array Slot} {rest : List Value} {a : Nat}
theorem ld_84 {own : String} (F : CallFix p m c cc nL s args wsL_law own) (h : tS D cy A H0 L R (TT cy L R) f s H locs) {i : Int32} (ha : a ∈ L) (hr : R a = 84) (hb : 0 ≤ i.toInt ∧ i.toInt < 260) (hdg : decode cc pc = .ok (.laload, 1)) (kk : ∀ x : Int64, W p l e R0 s m args below meth c H locs cells slots Q (F0 m (pc + 1) ls (.long x :: rest))) : W p l e R0 s m args below meth c H locs cells slots Q (F0 m pc ls (.int i :: .ref a :: rest)) := tu_lald F h ha hr (fun e q => (T_84 e).mp q) hb.1 hb.2 hdg (fun x h1 h2 => kk x)
end
theorem dX12_saysWhole_46 : decode cX12_saysWhole 46 = .ok (.lcmp, 1) := by decide +kernel
theorem dX12_saysWhole_55 : decode cX12_saysWhole 55 = .ok (.istore 5, 2) := by decide +kernel
theorem dX12_saysWhole_57 : decode cX12_saysWhole 57 = .ok (.iconst 0, 1) := by decide +kernel
theorem dX12_saysWhole_58 : decode cX12_saysWhole 58 = .ok (.istore 6, 2) := by decide +kernel
theorem dX12_saysWhole_60 : decode cX12_saysWhole 60 = .ok (.iload 6, 2) := by decide +kernel
theorem dX12_saysWhole_62 : decode cX12_saysWhole 62 = .ok (.aload_n 0, 1) := by decide +kernel
theorem dX12_saysWhole_63 : decode cX12_saysWhole 63 = .ok (.getfield 324, 3) := by decide +kernel
theorem dX12_saysWhole_113 : decode cX12_saysWhole 113 = .ok (.iload 5, 2) := by decide +kernel
theorem dX12_saysWhole_115 : decode cX12_saysWhole 115 = .ok (.ifCond .ne 5, 3) := by decide +kernel
theorem dX12_saysWhole_120 : decode cX12_saysWhole 120 = .ok (.iinc 4 1, 3) := by decide +kernel
theorem dX12_saysWhole_123 : decode cX12_saysWhole 123 = .ok (.goto (-112), 3) := by decide +kernel
theorem dX12_saysWhole_118 : decode cX12_saysWhole 118 = .ok (.iconst 0, 1) := by decide +kernel
theorem dX12_saysWhole_119 : decode cX12_saysWhole 119 = .ok (.ireturn, 1) := by decide +kernel
theorem dX12_saysWhole_66 : decode cX12_saysWhole 66 = .ok (.if_icmp .ge 47, 3) := by decide +kernel
theorem dX12_saysWhole_69 : decode cX12_saysWhole 69 = .ok (.iload 5, 2) := by decide +kernel
theorem dX12_saysWhole_71 : decode cX12_saysWhole 71 = .ok (.ifCond .eq 42, 3) := by decide +kernel
theorem dX12_saysWhole_74 : decode cX12_saysWhole 74 = .ok (.aload_n 0, 1) := by decide +kernel
theorem dX12_saysWhole_75 : decode cX12_saysWhole 75 = .ok (.getfield 63, 3) := by decide +kernel
theorem dX12_saysWhole_78 : decode cX12_saysWhole 78 = .ok (.iload 6, 2) := by decide +kernel
theorem dX12_saysWhole_80 : decode cX12_saysWhole 80 = .ok (.laload, 1) := by decide +kernel
theorem dX12_saysWhole_81 : decode cX12_saysWhole 81 = .ok (.aload_n 0, 1) := by decide +kernel
theorem dX12_saysWhole_82 : decode cX12_saysWhole 82 = .ok (.getfield 106, 3) := by decide +kernel
theorem dX12_saysWhole_85 : decode cX12_saysWhole 85 = .ok (.bipush 13, 2) := by decide +kernel
theorem dX12_saysWhole_87 : decode cX12_saysWhole 87 = .ok (.iload 4, 2) := by decide +kernel
theorem dX12_saysWhole_89 : decode cX12_saysWhole 89 = .ok (.imul, 1) := by decide +kernel
theorem dX12_saysWhole_90 : decode cX12_saysWhole 90 = .ok (.iconst 1, 1) := by decide +kernel
theorem dX12_saysWhole_91 : decode cX12_saysWhole 91 = .ok (.iadd, 1) := by decide +kernel
theorem dX12_saysWhole_92 : decode cX12_saysWhole 92 = .ok (.iload 6, 2) := by decide +kernel
theorem dX12_saysWhole_94 : decode cX12_saysWhole 94 = .ok (.iadd, 1) := by decide +kernel
theorem dX12_saysWhole_95 : decode cX12_saysWhole 95 = .ok (.laload, 1) := by decide +kernel
theorem dX12_saysWhole_96 : decode cX12_saysWhole 96 = .ok (.lcmp, 1) := by decide +kernel
theorem dX12_saysWhole_105 : decode cX12_saysWhole 105 = .ok (.istore 5, 2) := by decide +kernel
theorem dX12_saysWhole_107 : decode cX12_saysWhole 107 = .ok (.iinc 6 1, 3) := by decide +kernel
theorem dX12_saysWhole_110 : decode cX12_saysWhole 110 = .ok (.goto (-50), 3) := by decide +kernel
theorem dX12_saysWhole_97 : decode cX12_saysWhole 97 = .ok (.ifCond .ne 7, 3) := by decide +kernel
theorem dX12_saysWhole_104 : decode cX12_saysWhole 104 = .ok (.iconst 0, 1) := by decide +kernel
theorem dX12_saysWhole_100 : decode cX12_saysWhole 100 = .ok (.iconst 1, 1) := by decide +kernel
theorem dX12_saysWhole_101 : decode cX12_saysWhole 101 = .ok (.goto 4, 3) := by decide +kernel
theorem dX12_saysWhole_47 : decode cX12_saysWhole 47 = .ok (.ifCond .ne 7, 3) := by decide +kernel
theorem dX12_saysWhole_54 : decode cX12_saysWhole 54 = .ok (.iconst 0, 1) := by decide +kernel
theorem dX12_saysWhole_50 : decode cX12_saysWhole 50 = .ok (.iconst 1, 1) := by decide +kernel
theorem dX12_saysWhole_51 : decode cX12_saysWhole 51 = .ok (.goto 4, 3) := by decide +kernel
def rm_X12_saysWhole : Room := { frames := 6, cells := 0, slots := 0, locals := 150 }
set_option maxHeartbeats 4000000 in
set_option maxRecDepth 100000 in
theorem s_X12_saysWhole (l : Launch) (D : va_G) (cy : Nat → ClassId) (L : List Nat) (R O : Nat → Nat) (f0 : Nat → va_E) (a0 : Nat) (m_a0 : a0 ∈ L) (r_a0 : R a0 = 12) (x1 : Int32) (b1 : 0 ≤ x1.toInt ∧ x1.toInt ≤ 2) (x2 : Int32) (b2 : 0 ≤ x2.toInt ∧ x2.toInt ≤ 3) (x3 : Int32) (b3 : 1 ≤ x3.toInt ∧ x3.toInt ≤ 15) (GA : Nat) (m_GA : GA ∈ L) (r_GA : R GA = 61) (t_GA : fld f0 a0 0 = .ref GA) (GP : Nat) (m_GP : GP ∈ L) (r_GP : R GP = 69) (t_GP : fld f0 a0 22 = .ref GP) (GL : Nat) (m_GL : GL ∈ L) (r_GL : R GL = 70) (t_GL : fld f0 a0 23 = .ref GL) (GT : Nat) (m_GT : GT ∈ L) (r_GT : R GT = 64) (t_GT : fld f0 a0 6 = .ref GT) (pre0 : GZ GP GL f0) (pre1 : RBA GA f0) (pre2 : LT GT x2.toInt.toNat x3.toInt.toNat f0) : ∀ sz, Met l yX12_saysWhole (Cond.code yX12_saysWhole cX12_saysWhole 7 (some .boolean) :: wsL_law) rm_X12_saysWhole (va_Pc [.ref a0, .int x1, .int x2, .int x3] (tPZ D cy L R (TT cy L R) f0 sz)) (va_Qi (fun (r : Int32) f1 => fr L R [(12, 28), (12, 29), (12, 35), (12, 36), (12, 37), (12, 38), (12, 39)] [12, 61, 68, 69, 70, 73, 74, 76] f0 f1 ∧ 0 ≤ r.toInt ∧ r.toInt ≤ 1 ∧ GZ GP GL f1 ∧ KW (20760) (25710) GA f0 f1) (tB D (tA L sz) L R (TT cy L R)) (tA L sz)) 0 0 (tA L sz) := by
  refine tw_enteri (by decide +kernel) rfl (Nat.le_of_ble_eq_true rfl) ?_
  intro p e s m below meth c A ls args Q F hZ h hl hret
  have hl : lv_has ls 7 [(0, .ref a0), (1, .int x1), (2, .int x2), (3, .int x3)] := hl
  have hk : fr L R [(12, 28), (12, 29), (12, 35), (12, 36), (12, 37), (12, 38), (12, 39)] [12, 61, 68, 69, 70, 73, 74, 76] f0 f0 := fr.rf
  have hX := pre0
  have hA : KW (20760) (25710) GA f0 f0 := KW.rf
  have hR := pre1
  have hLT := pre2
  refine lv_aload_n F.1 F.2.1 dX12_saysWhole_0 rfl (lv_at hl 0 rfl) ?_
  refine lv_iload_n F.1 F.2.1 dX12_saysWhole_1 rfl (lv_at hl 1 rfl) ?_
  refine tw_sipush F dX12_saysWhole_2 ks_22410 (fun z1 hz1 => ?_)
  refine tw_Vv (As := [.int x1, .int z1]) F hZ h yk_X12_works mw_1187 mw_1188 mw_1189 (s_X12_works l D cy L R O f0 a0 m_a0 r_a0 x1 ⟨by omega, by omega⟩ z1 ⟨by omega, by omega⟩ GA m_GA r_GA t_GA GP m_GP r_GP t_GP GL m_GL r_GL t_GL GT m_GT r_GT t_GT (isB_e isB_w (by omega)) (hR.s (by omega))) rfl rfl m_a0 r_a0 (fun e q => (T_12 e).mp q) rfl hl.1 rfl (Nat.le_of_ble_eq_true rfl) ⟨Nat.le_of_ble_eq_true rfl, Nat.le_of_ble_eq_true rfl⟩ ⟨Nat.le_of_ble_eq_true rfl, Nat.le_of_ble_eq_true rfl⟩ dX12_saysWhole_5 (fun f2 H locs hp2 h => ?_)
  obtain ⟨hf2, hv3p0, hv3p1⟩ := hp2
  have hX : GZ GP GL f2 := hX.fm hf2 m_GP r_GP m_GL r_GL (by decide +kernel) (by decide +kernel)
  have hA : KW (20760) (25710) GA f0 f2 := hA.sub hv3p0 (by omega) (by omega)
  have hR : RBA GA f2 := hR.kw hv3p0 (Or.inl (by omega))
  have hLT : LT GT x2.toInt.toNat x3.toInt.toNat f2 := hLT.fm hf2 m_GT r_GT (by decide +kernel)
  have hk : fr L R [(12, 28), (12, 29), (12, 35), (12, 36), (12, 37), (12, 38), (12, 39)] [12, 61, 68, 69, 70, 73, 74, 76] f0 f2 := hk.tr hf2 rfl rfl
  have e4 : fld f2 a0 0 = .ref GA := (hf2.efl m_a0 r_a0 rfl).trans t_GA
  have e5 : fld f2 a0 22 = .ref GP := (hf2.efl m_a0 r_a0 rfl).trans t_GP
  have e6 : fld f2 a0 23 = .ref GL := (hf2.efl m_a0 r_a0 rfl).trans t_GL
  have e7 : fld f2 a0 6 = .ref GT := (hf2.efl m_a0 r_a0 rfl).trans t_GT
  have hRB : RB GA 22410 f2 := by have q := hv3p1; rw [show z1.toInt.toNat = 22410 by omega] at q; exact q
  refine tw_iconst F dX12_saysWhole_8 ki_0 (fun z8 hz8 => ?_)
  refine lv_istore (lv' := [(4, .int z8), (0, .ref a0), (1, .int x1), (2, .int x2), (3, .int x3)]) F.1 F.2.1 dX12_saysWhole_9 hl (by decide) rfl (fun ls hl => ?_)
  have j_11 : ∀ (n11 : Nat) (f9 : Nat → va_E) (H : Heap) (locs : List Loc) (ls : Array Slot) (x4_11 : Int32), 0 ≤ x4_11.toInt → x4_11.toInt ≤ 15 → ((15 - x4_11.toInt)).toNat < n11 → tS D cy A s.heap L R (TT cy L R) f9 s H locs → GZ GP GL f9 → KW (20760) (25710) GA f0 f9 → RBA GA f9 → LT GT x2.toInt.toNat x3.toInt.toNat f9 → RB GA 22410 f9 → fr L R [(12, 28), (12, 29), (12, 35), (12, 36), (12, 37), (12, 38), (12, 39)] [12, 61, 68, 69, 70, 73, 74, 76] f0 f9 → fr L R [(12, 28), (12, 29), (12, 35), (12, 36), (12, 37), (12, 38), (12, 39)] [12, 61, 68, 69, 70, 73, 74, 76] f2 f9 → lv_has ls 7 [(0, .ref a0), (2, .int x2), (3, .int x3), (4, .int x4_11)] → W p l e rm_X12_saysWhole s m args below meth c H locs 0 0 Q (F0 m 11 ls []) := by
    intro n11
    induction n11 with
    | zero =>
      intro f9 H locs ls x4_11 b10 b11 b12 h hX hA hR hLT hRB hk hb11 hl
      exfalso
      omega
    | succ n11 ih11 =>
      intro f9 H locs ls x4_11 b10 b11 b12 h hX hA hR hLT hRB hk hb11 hl
      have e13 : fld f9 a0 0 = .ref GA := (hb11.efl m_a0 r_a0 rfl).trans e4
      have e14 : fld f9 a0 22 = .ref GP := (hb11.efl m_a0 r_a0 rfl).trans e5
      have e15 : fld f9 a0 23 = .ref GL := (hb11.efl m_a0 r_a0 rfl).trans e6
      have e16 : fld f9 a0 6 = .ref GT := (hb11.efl m_a0 r_a0 rfl).trans e7
      refine lv_iload F.1 F.2.1 dX12_saysWhole_11 (lv_at hl 3 rfl) ?_
      refine lv_iload_n F.1 F.2.1 dX12_saysWhole_13 rfl (lv_at hl 2 rfl) ?_
      refine tw_icmp_ge (tgt := 126) F dX12_saysWhole_14 (by decide) (fun b17 => ?_) (fun b17 => ?_)
      · refine tw_iconst F dX12_saysWhole_126 ki_1 (fun z18 hz18 => ?_)
        exact hret f9 _ _ _ _ z18 dX12_saysWhole_127 (tw_nb (by omega)) ⟨hk, by omega, by omega, hX, hA⟩ h
      · refine lv_aload_n F.1 F.2.1 dX12_saysWhole_17 rfl (lv_at hl 0 rfl) ?_
        refine lv_iload_n F.1 F.2.1 dX12_saysWhole_18 rfl (lv_at hl 1 rfl) ?_
        refine lv_iload F.1 F.2.1 dX12_saysWhole_19 (lv_at hl 3 rfl) ?_
        refine tw_Vv (As := [.int x2, .int x4_11]) F hZ h yk_X12_hearsOf mw_1191 mw_1192 mw_1193 (s_X12_hearsOf l D cy L R O f9 a0 m_a0 r_a0 x2 ⟨by omega, by omega⟩ x4_11 ⟨by omega, by omega⟩ GA m_GA r_GA e13 GP m_GP r_GP e14 GL m_GL r_GL e15 GT m_GT r_GT e16 (hLT _ (by omega))) rfl rfl m_a0 r_a0 (fun e q => (T_12 e).mp q) rfl hl.1 rfl (Nat.le_of_ble_eq_true rfl) ⟨Nat.le_of_ble_eq_true rfl, Nat.le_of_ble_eq_true rfl⟩ ⟨Nat.le_of_ble_eq_true rfl, Nat.le_of_ble_eq_true rfl⟩ dX12_saysWhole_21 (fun f19 H locs hp19 h => ?_)
        have hf19 := hp19
        have hX : GZ GP GL f19 := hX.fm hf19 m_GP r_GP m_GL r_GL (by decide +kernel) (by decide +kernel)
        have hA : KW (20760) (25710) GA f0 f19 := hA.fm hf19 m_GA r_GA (by decide +kernel)
        have hR : RBA GA f19 := hR.fm hf19 m_GA r_GA (by decide +kernel)
        have hLT : LT GT x2.toInt.toNat x3.toInt.toNat f19 := hLT.fm hf19 m_GT r_GT (by decide +kernel)
        have hRB : RB GA 22410 f19 := hRB.fm hf19 m_GA r_GA (by decide +kernel)
        have hk : fr L R [(12, 28), (12, 29), (12, 35), (12, 36), (12, 37), (12, 38), (12, 39)] [12, 61, 68, 69, 70, 73, 74, 76] f0 f19 := hk.tr hf19 rfl rfl
        have hb11 : fr L R [(12, 28), (12, 29), (12, 35), (12, 36), (12, 37), (12, 38), (12, 39)] [12, 61, 68, 69, 70, 73, 74, 76] f2 f19 := hb11.tr hf19 rfl rfl
        have e21 : fld f19 a0 0 = .ref GA := (hf19.efl m_a0 r_a0 rfl).trans e13
        have e22 : fld f19 a0 22 = .ref GP := (hf19.efl m_a0 r_a0 rfl).trans e14
        have e23 : fld f19 a0 23 = .ref GL := (hf19.efl m_a0 r_a0 rfl).trans e15
        have e24 : fld f19 a0 6 = .ref GT := (hf19.efl m_a0 r_a0 rfl).trans e16
        refine lv_aload_n F.1 F.2.1 dX12_saysWhole_24 rfl (lv_at hl 0 rfl) ?_
        refine tw_sipush F dX12_saysWhole_25 ks_22410 (fun z25 hz25 => ?_)
        refine tw_Vv (As := [.int z25]) F hZ h yk_X12_answers0 mw_1057 mw_1058 mw_1059 (s_X12_answers0 l D cy L R O f19 a0 m_a0 r_a0 z25 ⟨by omega, by omega⟩ GA m_GA r_GA e21 GP m_GP r_GP e22 GL m_GL r_GL e23 GT m_GT r_GT e24 (isB_e isB_w (by omega)) (by rw [show z25.toInt.toNat = 22410 by omega]; exact hRB) hX) rfl rfl m_a0 r_a0 (fun e q => (T_12 e).mp q) rfl hl.1 rfl (Nat.le_of_ble_eq_true rfl) ⟨Nat.le_of_ble_eq_true rfl, Nat.le_of_ble_eq_true rfl⟩ ⟨Nat.le_of_ble_eq_true rfl, Nat.le_of_ble_eq_true rfl⟩ dX12_saysWhole_28 (fun f26 H locs hp26 h => ?_)
        obtain ⟨hf26, hv27p0, hv27p1⟩ := hp26
        have hX : GZ GP GL f26 := hv27p0
        have hA : KW (20760) (25710) GA f0 f26 := hA.sub hv27p1 (by omega) (by omega)
        have hR : RBA GA f26 := hR.kw hv27p1 (Or.inl (by omega))
        have hLT : LT GT x2.toInt.toNat x3.toInt.toNat f26 := hLT.fm hf26 m_GT r_GT (by decide +kernel)
        have hRB : RB GA 22410 f26 := hRB.kw hv27p1 (by omega)
        have hk : fr L R [(12, 28), (12, 29), (12, 35), (12, 36), (12, 37), (12, 38), (12, 39)] [12, 61, 68, 69, 70, 73, 74, 76] f0 f26 := hk.tr hf26 (by decide +kernel) (by decide +kernel)
        have hb11 : fr L R [(12, 28), (12, 29), (12, 35), (12, 36), (12, 37), (12, 38), (12, 39)] [12, 61, 68, 69, 70, 73, 74, 76] f2 f26 := hb11.tr hf26 (by decide +kernel) (by decide +kernel)
        have e28 : fld f26 a0 0 = .ref GA := (hf26.efl m_a0 r_a0 rfl).trans e21
        have e29 : fld f26 a0 22 = .ref GP := (hf26.efl m_a0 r_a0 rfl).trans e22
        have e30 : fld f26 a0 23 = .ref GL := (hf26.efl m_a0 r_a0 rfl).trans e23
        have e31 : fld f26 a0 6 = .ref GT := (hf26.efl m_a0 r_a0 rfl).trans e24
        refine lv_aload_n F.1 F.2.1 dX12_saysWhole_31 rfl (lv_at hl 0 rfl) ?_
        refine g_12_324 F h m_a0 r_a0 dX12_saysWhole_32 (fun v32 hv32 hv32a hv32b => ?_)
        refine tw_i2l F dX12_saysWhole_35 (fun z33 hz33 => ?_)
        refine lv_aload_n F.1 F.2.1 dX12_saysWhole_36 rfl (lv_at hl 0 rfl) ?_
        refine g_12_106 F h m_a0 r_a0 dX12_saysWhole_37 (fun o34 m_o34 r_o34 ho34 => ?_)
        refine tw_bipush F dX12_saysWhole_40 kb_13 (fun z35 hz35 => ?_)
        refine lv_iload F.1 F.2.1 dX12_saysWhole_42 (lv_at hl 3 rfl) ?_
        refine tu_imull F dX12_saysWhole_44 hz35 (by omega) (fun z36 hz36 => ?_)
        refine ld_84 F h m_o34 r_o34 (by omega) dX12_saysWhole_45 (fun v37 => ?_)
        refine tw_lcmp F dX12_saysWhole_46 (fun z38 hz38 => ?_)
        have j_55 : ∀ (ls : Array Slot) (y0_55 : Int32), 0 ≤ y0_55.toInt → y0_55.toInt ≤ 1 → lv_has ls 7 [(0, .ref a0), (2, .int x2), (3, .int x3), (4, .int x4_11)] → W p l e rm_X12_saysWhole s m args below meth c H locs 0 0 Q (F0 m 55 ls [.int y0_55]) := by
          intro ls y0_55 b39 b40 hl
          refine lv_istore (lv' := [(5, .int y0_55), (0, .ref a0), (2, .int x2), (3, .int x3), (4, .int x4_11)]) F.1 F.2.1 dX12_saysWhole_55 hl (by decide) rfl (fun ls hl => ?_)
          refine tw_iconst F dX12_saysWhole_57 ki_0 (fun z41 hz41 => ?_)
          refine lv_istore (lv' := [(6, .int z41), (5, .int y0_55), (0, .ref a0), (2, .int x2), (3, .int x3), (4, .int x4_11)]) F.1 F.2.1 dX12_saysWhole_58 hl (by decide) rfl (fun ls hl => ?_)
          have j_60 : ∀ (n60 : Nat) (ls : Array Slot) (x5_60 : Int32) (x6_60 : Int32), 0 ≤ x5_60.toInt → x5_60.toInt ≤ 1 → 0 ≤ x6_60.toInt → x6_60.toInt ≤ 12 → ((12 - x6_60.toInt)).toNat < n60 → lv_has ls 7 [(0, .ref a0), (2, .int x2), (3, .int x3), (4, .int x4_11), (5, .int x5_60), (6, .int x6_60)] → W p l e rm_X12_saysWhole s m args below meth c H locs 0 0 Q (F0 m 60 ls []) := by
            intro n60
            induction n60 with
            | zero =>
              intro ls x5_60 x6_60 b42 b43 b44 b45 b46 hl
              exfalso
              omega
            | succ n60 ih60 =>
              intro ls x5_60 x6_60 b42 b43 b44 b45 b46 hl
              refine lv_iload F.1 F.2.1 dX12_saysWhole_60 (lv_at hl 5 rfl) ?_
              refine lv_aload_n F.1 F.2.1 dX12_saysWhole_62 rfl (lv_at hl 0 rfl) ?_
              refine g_12_324 F h m_a0 r_a0 dX12_saysWhole_63 (fun v47 hv47 hv47a hv47b => ?_)
              have j_113 : ∀ (ls : Array Slot), lv_has ls 7 [(0, .ref a0), (2, .int x2), (3, .int x3), (4, .int x4_11), (5, .int x5_60)] → W p l e rm_X12_saysWhole s m args below meth c H locs 0 0 Q (F0 m 113 ls []) := by
                intro ls hl
                refine lv_iload F.1 F.2.1 dX12_saysWhole_113 (lv_at hl 4 rfl) ?_
                refine tw_if_ne (tgt := 120) F dX12_saysWhole_115 (by decide) (fun b48 => ?_) (fun b48 => ?_)
                · refine tu_iinc F dX12_saysWhole_120 hl (k := 3) rfl (by decide) ki_1 (by omega) (fun z49 ls hz49 hl => ?_)
                  have hl : lv_has ls 7 [(4, .int z49), (0, .ref a0), (2, .int x2), (3, .int x3), (5, .int x5_60)] := hl
                  refine lv_goto (tgt := 11) F.1 F.2.1 dX12_saysWhole_123 (by decide) ?_
                  exact ih11 f26 _ _ _ z49 (by omega) (by omega) (by omega) h hX hA hR hLT hRB hk hb11 (lv_sub hl [1, 2, 3, 0] rfl)
                · refine tw_iconst F dX12_saysWhole_118 ki_0 (fun z50 hz50 => ?_)
                  exact hret f26 _ _ _ _ z50 dX12_saysWhole_119 (tw_nb (by omega)) ⟨hk, by omega, by omega, hX, hA⟩ h
              refine tw_icmp_ge (tgt := 113) F dX12_saysWhole_66 (by decide) (fun b51 => ?_) (fun b51 => ?_)
              · exact j_113 _ (lv_sub hl [0, 1, 2, 3, 4] rfl)
              · refine lv_iload F.1 F.2.1 dX12_saysWhole_69 (lv_at hl 4 rfl) ?_
                refine tw_if_eq (tgt := 113) F dX12_saysWhole_71 (by decide) (fun b52 => ?_) (fun b52 => ?_)
                · exact j_113 _ (lv_sub hl [0, 1, 2, 3, 4] rfl)
                · refine lv_aload_n F.1 F.2.1 dX12_saysWhole_74 rfl (lv_at hl 0 rfl) ?_
                  refine g_12_63 F h m_a0 r_a0 dX12_saysWhole_75 (fun o53 m_o53 r_o53 ho53 => ?_)
                  refine lv_iload F.1 F.2.1 dX12_saysWhole_78 (lv_at hl 5 rfl) ?_
                  refine ld_74 F h m_o53 r_o53 (by omega) dX12_saysWhole_80 (fun v54 => ?_)
                  refine lv_aload_n F.1 F.2.1 dX12_saysWhole_81 rfl (lv_at hl 0 rfl) ?_
                  refine g_12_106 F h m_a0 r_a0 dX12_saysWhole_82 (fun o55 m_o55 r_o55 ho55 => ?_)
                  refine tw_bipush F dX12_saysWhole_85 kb_13 (fun z56 hz56 => ?_)
                  refine lv_iload F.1 F.2.1 dX12_saysWhole_87 (lv_at hl 3 rfl) ?_
                  refine tu_imull F dX12_saysWhole_89 hz56 (by omega) (fun z57 hz57 => ?_)
                  refine tw_iconst F dX12_saysWhole_90 ki_1 (fun z58 hz58 => ?_)
                  refine tu_iadd F dX12_saysWhole_91 (by omega) (fun z59 hz59 => ?_)
                  refine lv_iload F.1 F.2.1 dX12_saysWhole_92 (lv_at hl 5 rfl) ?_
                  refine tu_iadd F dX12_saysWhole_94 (by omega) (fun z60 hz60 => ?_)
                  refine ld_84 F h m_o55 r_o55 (by omega) dX12_saysWhole_95 (fun v61 => ?_)
                  refine tw_lcmp F dX12_saysWhole_96 (fun z62 hz62 => ?_)
                  have j_105 : ∀ (ls : Array Slot) (y0_105 : Int32), 0 ≤ y0_105.toInt → y0_105.toInt ≤ 1 → lv_has ls 7 [(0, .ref a0), (2, .int x2), (3, .int x3), (4, .int x4_11), (6, .int x6_60)] → W p l e rm_X12_saysWhole s m args below meth c H locs 0 0 Q (F0 m 105 ls [.int y0_105]) := by
                    intro ls y0_105 b63 b64 hl
                    refine lv_istore (lv' := [(5, .int y0_105), (0, .ref a0), (2, .int x2), (3, .int x3), (4, .int x4_11), (6, .int x6_60)]) F.1 F.2.1 dX12_saysWhole_105 hl (by decide) rfl (fun ls hl => ?_)
                    refine tu_iinc F dX12_saysWhole_107 hl (k := 5) rfl (by decide) ki_1 (by omega) (fun z65 ls hz65 hl => ?_)
                    have hl : lv_has ls 7 [(6, .int z65), (5, .int y0_105), (0, .ref a0), (2, .int x2), (3, .int x3), (4, .int x4_11)] := hl
                    refine lv_goto (tgt := 60) F.1 F.2.1 dX12_saysWhole_110 (by decide) ?_
                    exact ih60 _ y0_105 z65 (by omega) (by omega) (by omega) (by omega) (by omega) (lv_sub hl [2, 3, 4, 5, 1, 0] rfl)
                  refine tw_if_ne (tgt := 104) F dX12_saysWhole_97 (by decide) (fun b66 => ?_) (fun b66 => ?_)
                  · refine tw_iconst F dX12_saysWhole_104 ki_0 (fun z67 hz67 => ?_)
                    exact j_105 _ z67 (by omega) (by omega) (lv_sub hl [0, 1, 2, 3, 5] rfl)
                  · refine tw_iconst F dX12_saysWhole_100 ki_1 (fun z68 hz68 => ?_)
                    refine lv_goto (tgt := 105) F.1 F.2.1 dX12_saysWhole_101 (by decide) ?_
                    exact j_105 _ z68 (by omega) (by omega) (lv_sub hl [0, 1, 2, 3, 5] rfl)
          exact j_60 (((12 - z41.toInt)).toNat + 1) _ y0_55 z41 (by omega) (by omega) (by omega) (by omega) (by omega) (lv_sub hl [2, 3, 4, 5, 1, 0] rfl)
        refine tw_if_ne (tgt := 54) F dX12_saysWhole_47 (by decide) (fun b69 => ?_) (fun b69 => ?_)
        · refine tw_iconst F dX12_saysWhole_54 ki_0 (fun z70 hz70 => ?_)
          exact j_55 _ z70 (by omega) (by omega) (lv_sub hl [0, 1, 2, 3] rfl)
        · refine tw_iconst F dX12_saysWhole_50 ki_1 (fun z71 hz71 => ?_)
          refine lv_goto (tgt := 55) F.1 F.2.1 dX12_saysWhole_51 (by decide) ?_
          exact j_55 _ z71 (by omega) (by omega) (lv_sub hl [0, 1, 2, 3] rfl)
  have hb11 : fr L R [(12, 28), (12, 29), (12, 35), (12, 36), (12, 37), (12, 38), (12, 39)] [12, 61, 68, 69, 70, 73, 74, 76] f2 f2 := fr.rf
  exact j_11 (((15 - z8.toInt)).toNat + 1) f2 _ _ _ z8 (by omega) (by omega) (by omega) h hX hA hR hLT hRB hk hb11 (lv_sub hl [1, 3, 4, 0] rfl)
theorem dX12_least_0 : decode cX12_least 0 = .ok (.aload_n 0, 1) := by decide +kernel
theorem dX12_least_1 : decode cX12_least 1 = .ok (.iload_n 1, 1) := by decide +kernel
theorem dX12_least_2 : decode cX12_least 2 = .ok (.invokevirtual 282, 3) := by decide +kernel
theorem dX12_least_5 : decode cX12_least 5 = .ok (.ifCond .eq 21, 3) := by decide +kernel
theorem dX12_least_26 : decode cX12_least 26 = .ok (.aload_n 0, 1) := by decide +kernel
theorem dX12_least_27 : decode cX12_least 27 = .ok (.iconst 1, 1) := by decide +kernel
theorem dX12_least_28 : decode cX12_least 28 = .ok (.invokevirtual 194, 3) := by decide +kernel
theorem dX12_least_31 : decode cX12_least 31 = .ok (.ireturn, 1) := by decide +kernel
theorem dX12_least_8 : decode cX12_least 8 = .ok (.iload_n 2, 1) := by decide +kernel
theorem dX12_least_9 : decode cX12_least 9 = .ok (.invokestatic 127, 3) := by decide +kernel
theorem dX12_least_12 : decode cX12_least 12 = .ok (.ifCond .eq 14, 3) := by decide +kernel
theorem dX12_least_15 : decode cX12_least 15 = .ok (.iload_n 3, 1) := by decide +kernel
theorem dX12_least_16 : decode cX12_least 16 = .ok (.iconst 1, 1) := by decide +kernel
theorem dX12_least_17 : decode cX12_least 17 = .ok (.if_icmp .lt 9, 3) := by decide +kernel
theorem dX12_least_20 : decode cX12_least 20 = .ok (.iload_n 3, 1) := by decide +kernel
theorem dX12_least_21 : decode cX12_least 21 = .ok (.bipush 15, 2) := by decide +kernel
theorem dX12_least_23 : decode cX12_least 23 = .ok (.if_icmp .le 9, 3) := by decide +kernel
theorem dX12_least_32 : decode cX12_least 32 = .ok (.aload_n 0, 1) := by decide +kernel
theorem dX12_least_33 : decode cX12_least 33 = .ok (.getfield 7, 3) := by decide +kernel
theorem dX12_least_36 : decode cX12_least 36 = .ok (.sipush 1650, 3) := by decide +kernel
theorem dX12_least_39 : decode cX12_least 39 = .ok (.iload_n 1, 1) := by decide +kernel
theorem dX12_least_40 : decode cX12_least 40 = .ok (.imul, 1) := by decide +kernel
theorem dX12_least_41 : decode cX12_least 41 = .ok (.iconst 1, 1) := by decide +kernel
theorem dX12_least_42 : decode cX12_least 42 = .ok (.iadd, 1) := by decide +kernel
theorem dX12_least_43 : decode cX12_least 43 = .ok (.laload, 1) := by decide +kernel
theorem dX12_least_44 : decode cX12_least 44 = .ok (.l2i, 1) := by decide +kernel
theorem dX12_least_45 : decode cX12_least 45 = .ok (.istore 4, 2) := by decide +kernel
theorem dX12_least_47 : decode cX12_least 47 = .ok (.iload 4, 2) := by decide +kernel
theorem dX12_least_49 : decode cX12_least 49 = .ok (.bipush 12, 2) := by decide +kernel
theorem dX12_least_51 : decode cX12_least 51 = .ok (.if_icmp .le 9, 3) := by decide +kernel
theorem dX12_least_60 : decode cX12_least 60 = .ok (.aload_n 0, 1) := by decide +kernel
theorem dX12_least_61 : decode cX12_least 61 = .ok (.iconst 1, 1) := by decide +kernel
theorem dX12_least_62 : decode cX12_least 62 = .ok (.iload_n 2, 1) := by decide +kernel
theorem dX12_least_63 : decode cX12_least 63 = .ok (.iload_n 3, 1) := by decide +kernel
theorem dX12_least_64 : decode cX12_least 64 = .ok (.bipush 15, 2) := by decide +kernel
theorem dX12_least_66 : decode cX12_least 66 = .ok (.invokevirtual 405, 3) := by decide +kernel
theorem dX12_least_69 : decode cX12_least 69 = .ok (.istore 5, 2) := by decide +kernel
theorem dX12_least_71 : decode cX12_least 71 = .ok (.iload 5, 2) := by decide +kernel
theorem dX12_least_73 : decode cX12_least 73 = .ok (.ifCond .le 10, 3) := by decide +kernel
theorem dX12_least_83 : decode cX12_least 83 = .ok (.aload_n 0, 1) := by decide +kernel
theorem dX12_least_84 : decode cX12_least 84 = .ok (.iload_n 1, 1) := by decide +kernel
theorem dX12_least_85 : decode cX12_least 85 = .ok (.sipush 22410, 3) := by decide +kernel
theorem dX12_least_88 : decode cX12_least 88 = .ok (.invokevirtual 409, 3) := by decide +kernel
theorem dX12_least_91 : decode cX12_least 91 = .ok (.iconst 0, 1) := by decide +kernel
theorem dX12_least_92 : decode cX12_least 92 = .ok (.istore 6, 2) := by decide +kernel
theorem dX12_least_94 : decode cX12_least 94 = .ok (.iload 6, 2) := by decide +kernel
theorem dX12_least_96 : decode cX12_least 96 = .ok (.iload_n 3, 1) := by decide +kernel
theorem dX12_least_97 : decode cX12_least 97 = .ok (.if_icmp .ge 78, 3) := by decide +kernel
theorem dX12_least_175 : decode cX12_least 175 = .ok (.iconst (-1), 1) := by decide +kernel
theorem dX12_least_176 : decode cX12_least 176 = .ok (.istore 6, 2) := by decide +kernel
theorem dX12_least_178 : decode cX12_least 178 = .ok (.iconst 0, 1) := by decide +kernel
theorem dX12_least_179 : decode cX12_least 179 = .ok (.istore 7, 2) := by decide +kernel
theorem dX12_least_181 : decode cX12_least 181 = .ok (.iload 7, 2) := by decide +kernel
theorem dX12_least_183 : decode cX12_least 183 = .ok (.iconst 1, 1) := by decide +kernel
theorem dX12_least_184 : decode cX12_least 184 = .ok (.iload 4, 2) := by decide +kernel
theorem dX12_least_186 : decode cX12_least 186 = .ok (.ishl, 1) := by decide +kernel
theorem dX12_least_187 : decode cX12_least 187 = .ok (.if_icmp .ge 60, 3) := by decide +kernel
theorem dX12_least_247 : decode cX12_least 247 = .ok (.aload_n 0, 1) := by decide +kernel
theorem dX12_least_248 : decode cX12_least 248 = .ok (.iconst 0, 1) := by decide +kernel
theorem dX12_least_249 : decode cX12_least 249 = .ok (.putfield 301, 3) := by decide +kernel
theorem dX12_least_252 : decode cX12_least 252 = .ok (.aload_n 0, 1) := by decide +kernel
theorem dX12_least_253 : decode cX12_least 253 = .ok (.iload 6, 2) := by decide +kernel
theorem dX12_least_255 : decode cX12_least 255 = .ok (.putfield 109, 3) := by decide +kernel
section
variable {p : Program} {l : Launch} {e : Env} {R0 : Room} {s : State} {m : MethodId} {args : Array Value} {below : List Frame} {meth : Method} {c : Code} {H H0 : Heap} {locs : List Loc} {cells slots : Nat} {Q : State → Prop} {cc : ByteArray} {nL : Nat} {D : va_G} {cy : Nat → ClassId} {A : Nat → Prop} {L : List Nat} {R : Nat → Nat} {f : Nat → va_E} {pc : Nat} {ls : Array Slot} {rest : List Value} {a : Nat}
theorem p_12_109 (F : CallFix p m c cc nL s args wsL_law RX12) (h : tS D cy A H0 L R (TT cy L R) f s H locs) {x : Int32} (ha : a ∈ L) (hr : R a = 12) (hdg : decode cc pc = .ok (.putfield 109, 3)) (kk : ∀ (f1 : Nat → va_E) (H1 : Heap) (locs1 : List Loc), fi f1 a 59 = x.toInt → fr L R [(12, 59)] [12] f f1 → tS D cy A H0 L R (TT cy L R) f1 s H1 locs1 → W p l e R0 s m args below meth c H1 locs1 cells slots Q (F0 m (pc + 3) ls (rest))) : W p l e R0 s m args below meth c H locs cells slots Q (F0 m pc ls (.int x :: .ref a :: rest)) := tu_puti (k := 59) F h ha hr T_12 rfl (tb_i x).1 (tb_i x).2 inlX12 tyX12_ok nmX12 rfl (Nat.le_of_ble_eq_true rfl) mw_234 rfl rfl rfl hdg kk
end
theorem dX12_least_258 : decode cX12_least 258 = .ok (.aload_n 0, 1) := by decide +kernel
theorem dX12_least_259 : decode cX12_least 259 = .ok (.iload 6, 2) := by decide +kernel
theorem dX12_least_261 : decode cX12_least 261 = .ok (.invokestatic 448, 3) := by decide +kernel
theorem mw_1470 : Cond.methodLink RX12 448 yX12_bits ∈ wsL_law := inr_62 _ (List.mem_of_getElem? (i := 6) rfl)
theorem mw_1472 : Cond.code yX12_bits cX12_bits 3 (some .int) ∈ wsL_law := inr_62 _ (List.mem_of_getElem? (i := 8) rfl)
theorem yk_X12_bits : xY yX12_bits RX12 cX12_bits 3 (some .int) 1 := ⟨⟨rfl, by decide +kernel, by decide +kernel, by decide +kernel⟩, mw_5, mw_1472⟩
theorem mw_1471 : Cond.static yX12_bits ∈ wsL_law := inr_62 _ (List.mem_of_getElem? (i := 7) rfl)
theorem dX12_least_264 : decode cX12_least 264 = .ok (.invokevirtual 209, 3) := by decide +kernel
theorem dX12_least_267 : decode cX12_least 267 = .ok (.ireturn, 1) := by decide +kernel
theorem dX12_least_190 : decode cX12_least 190 = .ok (.iload 6, 2) := by decide +kernel
theorem dX12_least_192 : decode cX12_least 192 = .ok (.iconst (-1), 1) := by decide +kernel
theorem dX12_least_241 : decode cX12_least 241 = .ok (.iinc 7 1, 3) := by decide +kernel
theorem dX12_least_244 : decode cX12_least 244 = .ok (.goto (-63), 3) := by decide +kernel
theorem dX12_least_212 : decode cX12_least 212 = .ok (.aload_n 0, 1) := by decide +kernel
theorem dX12_least_213 : decode cX12_least 213 = .ok (.iconst 1, 1) := by decide +kernel
theorem dX12_least_214 : decode cX12_least 214 = .ok (.iload 4, 2) := by decide +kernel
theorem dX12_least_216 : decode cX12_least 216 = .ok (.ishl, 1) := by decide +kernel
theorem dX12_least_217 : decode cX12_least 217 = .ok (.iconst 1, 1) := by decide +kernel
theorem dX12_least_218 : decode cX12_least 218 = .ok (.isub, 1) := by decide +kernel
theorem dX12_least_219 : decode cX12_least 219 = .ok (.iload 7, 2) := by decide +kernel
theorem dX12_least_221 : decode cX12_least 221 = .ok (.iconst (-1), 1) := by decide +kernel
theorem dX12_least_222 : decode cX12_least 222 = .ok (.ixor, 1) := by decide +kernel
theorem dX12_least_223 : decode cX12_least 223 = .ok (.iand, 1) := by decide +kernel
theorem dX12_least_224 : decode cX12_least 224 = .ok (.putfield 301, 3) := by decide +kernel
theorem dX12_least_227 : decode cX12_least 227 = .ok (.aload_n 0, 1) := by decide +kernel
theorem dX12_least_228 : decode cX12_least 228 = .ok (.iload_n 1, 1) := by decide +kernel
theorem dX12_least_229 : decode cX12_least 229 = .ok (.iload_n 2, 1) := by decide +kernel
theorem dX12_least_230 : decode cX12_least 230 = .ok (.iload_n 3, 1) := by decide +kernel
theorem dX12_least_231 : decode cX12_least 231 = .ok (.invokevirtual 451, 3) := by decide +kernel
theorem mw_1473 : Cond.methodLink RX12 451 yX12_saysWhole ∈ wsL_law := inr_62 _ (List.mem_of_getElem? (i := 9) rfl)
theorem mw_1476 : Cond.code yX12_saysWhole cX12_saysWhole 7 (some .boolean) ∈ wsL_law := inr_62 _ (List.mem_of_getElem? (i := 12) rfl)
theorem yk_X12_saysWhole : xY yX12_saysWhole RX12 cX12_saysWhole 7 (some .boolean) 3 := ⟨⟨rfl, by decide +kernel, by decide +kernel, by decide +kernel⟩, mw_5, mw_1476⟩
theorem mw_1474 : Cond.instanceMethod yX12_saysWhole ∈ wsL_law := inr_62 _ (List.mem_of_getElem? (i := 10) rfl)
theorem mw_1475 : Cond.selects RX12 yX12_saysWhole yX12_saysWhole ∈ wsL_law := inr_62 _ (List.mem_of_getElem? (i := 11) rfl)
theorem dX12_least_234 : decode cX12_least 234 = .ok (.ifCond .eq 7, 3) := by decide +kernel
theorem dX12_least_237 : decode cX12_least 237 = .ok (.iload 7, 2) := by decide +kernel
theorem dX12_least_239 : decode cX12_least 239 = .ok (.istore 6, 2) := by decide +kernel
theorem dX12_least_193 : decode cX12_least 193 = .ok (.if_icmp .eq 19, 3) := by decide +kernel
theorem dX12_least_196 : decode cX12_least 196 = .ok (.iload 7, 2) := by decide +kernel
theorem dX12_least_198 : decode cX12_least 198 = .ok (.invokestatic 448, 3) := by decide +kernel
theorem dX12_least_201 : decode cX12_least 201 = .ok (.iload 6, 2) := by decide +kernel
theorem dX12_least_203 : decode cX12_least 203 = .ok (.invokestatic 448, 3) := by decide +kernel
theorem dX12_least_206 : decode cX12_least 206 = .ok (.if_icmp .lt 6, 3) := by decide +kernel
theorem dX12_least_209 : decode cX12_least 209 = .ok (.goto 32, 3) := by decide +kernel
theorem dX12_least_100 : decode cX12_least 100 = .ok (.aload_n 0, 1) := by decide +kernel
theorem dX12_least_101 : decode cX12_least 101 = .ok (.iload_n 2, 1) := by decide +kernel
theorem dX12_least_102 : decode cX12_least 102 = .ok (.iload 6, 2) := by decide +kernel
theorem dX12_least_104 : decode cX12_least 104 = .ok (.invokevirtual 413, 3) := by decide +kernel
theorem dX12_least_107 : decode cX12_least 107 = .ok (.aload_n 0, 1) := by decide +kernel
theorem dX12_least_108 : decode cX12_least 108 = .ok (.sipush 22410, 3) := by decide +kernel
theorem dX12_least_111 : decode cX12_least 111 = .ok (.invokevirtual 387, 3) := by decide +kernel
theorem dX12_least_114 : decode cX12_least 114 = .ok (.aload_n 0, 1) := by decide +kernel
theorem dX12_least_115 : decode cX12_least 115 = .ok (.getfield 106, 3) := by decide +kernel
theorem dX12_least_118 : decode cX12_least 118 = .ok (.bipush 13, 2) := by decide +kernel
theorem dX12_least_120 : decode cX12_least 120 = .ok (.iload 6, 2) := by decide +kernel
theorem dX12_least_122 : decode cX12_least 122 = .ok (.imul, 1) := by decide +kernel
theorem dX12_least_123 : decode cX12_least 123 = .ok (.aload_n 0, 1) := by decide +kernel
theorem dX12_least_124 : decode cX12_least 124 = .ok (.getfield 324, 3) := by decide +kernel
theorem dX12_least_127 : decode cX12_least 127 = .ok (.i2l, 1) := by decide +kernel
theorem dX12_least_128 : decode cX12_least 128 = .ok (.lastore, 1) := by decide +kernel
section
variable {p : Program} {l : Launch} {e : Env} {R0 : Room} {s : State} {m : MethodId} {args : Array Value} {below : List Frame} {meth : Method} {c : Code} {H H0 : Heap} {locs : List Loc} {cells slots : Nat} {Q : State → Prop} {cc : ByteArray} {nL : Nat} {D : va_G} {cy : Nat → ClassId} {A : Nat → Prop} {L : List Nat} {R : Nat → Nat} {f : Nat → va_E} {pc : Nat} {ls : Array Slot} {rest : List Value} {a : Nat}
theorem st_84 {own : String} (F : CallFix p m c cc nL s args wsL_law own) (h : tS D cy A H0 L R (TT cy L R) f s H locs) {i : Int32} {x : Int64} (ha : a ∈ L) (hr : R a = 84) (hb : 0 ≤ i.toInt ∧ i.toInt < 260) (hdg : decode cc pc = .ok (.lastore, 1)) (kk : ∀ (f1 : Nat → va_E) (H1 : Heap) (locs1 : List Loc), fr L R [] [84] f f1 → tS D cy A H0 L R (TT cy L R) f1 s H1 locs1 → W p l e R0 s m args below meth c H1 locs1 cells slots Q (F0 m (pc + 1) ls (rest))) : W p l e R0 s m args below meth c H locs cells slots Q (F0 m pc ls (.long x :: .int i :: .ref a :: rest)) := tu_last F h ha hr T_84 hb.1 hb.2 trivial hdg (fun f1 H1 locs1 h1 h2 h3 h4 => kk f1 H1 locs1 h3 h4)
end
theorem dX12_least_129 : decode cX12_least 129 = .ok (.iconst 0, 1) := by decide +kernel
theorem dX12_least_130 : decode cX12_least 130 = .ok (.istore 7, 2) := by decide +kernel
theorem dX12_least_132 : decode cX12_least 132 = .ok (.iload 7, 2) := by decide +kernel
theorem dX12_least_134 : decode cX12_least 134 = .ok (.aload_n 0, 1) := by decide +kernel
theorem dX12_least_135 : decode cX12_least 135 = .ok (.getfield 324, 3) := by decide +kernel
theorem dX12_least_138 : decode cX12_least 138 = .ok (.if_icmp .ge 31, 3) := by decide +kernel
theorem dX12_least_169 : decode cX12_least 169 = .ok (.iinc 6 1, 3) := by decide +kernel
theorem dX12_least_172 : decode cX12_least 172 = .ok (.goto (-78), 3) := by decide +kernel
theorem dX12_least_141 : decode cX12_least 141 = .ok (.aload_n 0, 1) := by decide +kernel
theorem dX12_least_142 : decode cX12_least 142 = .ok (.getfield 106, 3) := by decide +kernel
theorem dX12_least_145 : decode cX12_least 145 = .ok (.bipush 13, 2) := by decide +kernel
theorem dX12_least_147 : decode cX12_least 147 = .ok (.iload 6, 2) := by decide +kernel
theorem dX12_least_149 : decode cX12_least 149 = .ok (.imul, 1) := by decide +kernel
theorem dX12_least_150 : decode cX12_least 150 = .ok (.iconst 1, 1) := by decide +kernel
theorem dX12_least_151 : decode cX12_least 151 = .ok (.iadd, 1) := by decide +kernel
theorem dX12_least_152 : decode cX12_least 152 = .ok (.iload 7, 2) := by decide +kernel
theorem dX12_least_154 : decode cX12_least 154 = .ok (.iadd, 1) := by decide +kernel
theorem dX12_least_155 : decode cX12_least 155 = .ok (.aload_n 0, 1) := by decide +kernel
theorem dX12_least_156 : decode cX12_least 156 = .ok (.getfield 63, 3) := by decide +kernel
theorem dX12_least_159 : decode cX12_least 159 = .ok (.iload 7, 2) := by decide +kernel
theorem dX12_least_161 : decode cX12_least 161 = .ok (.laload, 1) := by decide +kernel
theorem dX12_least_162 : decode cX12_least 162 = .ok (.lastore, 1) := by decide +kernel
theorem dX12_least_163 : decode cX12_least 163 = .ok (.iinc 7 1, 3) := by decide +kernel
theorem dX12_least_166 : decode cX12_least 166 = .ok (.goto (-34), 3) := by decide +kernel
theorem dX12_least_76 : decode cX12_least 76 = .ok (.aload_n 0, 1) := by decide +kernel
theorem dX12_least_77 : decode cX12_least 77 = .ok (.iload 5, 2) := by decide +kernel
theorem dX12_least_79 : decode cX12_least 79 = .ok (.invokevirtual 194, 3) := by decide +kernel
theorem dX12_least_82 : decode cX12_least 82 = .ok (.ireturn, 1) := by decide +kernel
theorem dX12_least_54 : decode cX12_least 54 = .ok (.aload_n 0, 1) := by decide +kernel
theorem dX12_least_55 : decode cX12_least 55 = .ok (.iconst 4, 1) := by decide +kernel
theorem dX12_least_56 : decode cX12_least 56 = .ok (.invokevirtual 194, 3) := by decide +kernel
theorem dX12_least_59 : decode cX12_least 59 = .ok (.ireturn, 1) := by decide +kernel
def rm_X12_least : Room := { frames := 7, cells := 0, slots := 0, locals := 176 }
set_option maxHeartbeats 4000000 in
set_option maxRecDepth 100000 in
theorem s_X12_least (l : Launch) (D : va_G) (cy : Nat → ClassId) (L : List Nat) (R O : Nat → Nat) (f0 : Nat → va_E) (a0 : Nat) (m_a0 : a0 ∈ L) (r_a0 : R a0 = 12) (x1 : Int32) (x2 : Int32) (x3 : Int32) (GA : Nat) (m_GA : GA ∈ L) (r_GA : R GA = 61) (t_GA : fld f0 a0 0 = .ref GA) (GP : Nat) (m_GP : GP ∈ L) (r_GP : R GP = 69) (t_GP : fld f0 a0 22 = .ref GP) (GL : Nat) (m_GL : GL ∈ L) (r_GL : R GL = 70) (t_GL : fld f0 a0 23 = .ref GL) (GT : Nat) (m_GT : GT ∈ L) (r_GT : R GT = 64) (t_GT : fld f0 a0 6 = .ref GT) (pre0 : RBA GA f0) (pre1 : GZ GP GL f0) : ∀ sz, Met l yX12_least (Cond.code yX12_least cX12_least 8 (some .int) :: wsL_law) rm_X12_least (va_Pc [.ref a0, .int x1, .int x2, .int x3] (tPZ D cy L R (TT cy L R) f0 sz)) (va_Qi (fun (r : Int32) f1 => fr L R [(12, 1), (12, 28), (12, 29), (12, 31), (12, 35), (12, 36), (12, 37), (12, 38), (12, 39), (12, 59)] [12, 61, 68, 69, 70, 73, 74, 76, 84] f0 f1 ∧ RBA GA f1 ∧ GZ GP GL f1) (tB D (tA L sz) L R (TT cy L R)) (tA L sz)) 0 0 (tA L sz) := by
  refine tw_enteri (by decide +kernel) rfl (Nat.le_of_ble_eq_true rfl) ?_
  intro p e s m below meth c A ls args Q F hZ h hl hret
  have hl : lv_has ls 8 [(0, .ref a0), (1, .int x1), (2, .int x2), (3, .int x3)] := hl
  have hk : fr L R [(12, 1), (12, 28), (12, 29), (12, 31), (12, 35), (12, 36), (12, 37), (12, 38), (12, 39), (12, 59)] [12, 61, 68, 69, 70, 73, 74, 76, 84] f0 f0 := fr.rf
  have hR := pre0
  have hX := pre1
  refine lv_aload_n F.1 F.2.1 dX12_least_0 rfl (lv_at hl 0 rfl) ?_
  refine lv_iload_n F.1 F.2.1 dX12_least_1 rfl (lv_at hl 1 rfl) ?_
  refine tw_Vi (As := [.int x1]) F hZ h yk_X12_isScript mw_635 mw_636 mw_637 (s_X12_isScript l D cy L R O f0 a0 m_a0 r_a0 x1) rfl rfl m_a0 r_a0 (fun e q => (T_12 e).mp q) rfl hl.1 rfl (Nat.le_of_ble_eq_true rfl) ⟨Nat.le_of_ble_eq_true rfl, Nat.le_of_ble_eq_true rfl⟩ ⟨Nat.le_of_ble_eq_true rfl, Nat.le_of_ble_eq_true rfl⟩ dX12_least_2 (fun v2 f1 H locs hp1 h => ?_)
  obtain ⟨rfl, hv2a, hv2b, hv2p0⟩ := hp1
  refine tw_if_eq (tgt := 26) F dX12_least_5 (by decide) (fun b3 => ?_) (fun b3 => ?_)
  · refine lv_aload_n F.1 F.2.1 dX12_least_26 rfl (lv_at hl 0 rfl) ?_
    refine tw_iconst F dX12_least_27 ki_1 (fun z4 hz4 => ?_)
    refine tw_Vi (As := [.int z4]) F hZ h yk_X12_refuse mw_452 mw_453 mw_454 (s_X12_refuse l D cy L R O f0 a0 m_a0 r_a0 z4 ⟨by omega, by omega⟩) rfl rfl m_a0 r_a0 (fun e q => (T_12 e).mp q) rfl hl.1 rfl (Nat.le_of_ble_eq_true rfl) ⟨Nat.le_of_ble_eq_true rfl, Nat.le_of_ble_eq_true rfl⟩ ⟨Nat.le_of_ble_eq_true rfl, Nat.le_of_ble_eq_true rfl⟩ dX12_least_28 (fun v6 f5 H locs hp5 h => ?_)
    obtain ⟨hf5, hv6a, hv6b⟩ := hp5
    have hR : RBA GA f5 := hR.fm hf5 m_GA r_GA (by decide +kernel)
    have hX : GZ GP GL f5 := hX.fm hf5 m_GP r_GP m_GL r_GL (by decide +kernel) (by decide +kernel)
    have hk : fr L R [(12, 1), (12, 28), (12, 29), (12, 31), (12, 35), (12, 36), (12, 37), (12, 38), (12, 39), (12, 59)] [12, 61, 68, 69, 70, 73, 74, 76, 84] f0 f5 := hk.tr hf5 rfl rfl
    have e7 : fld f5 a0 0 = .ref GA := (hf5.efl m_a0 r_a0 rfl).trans t_GA
    have e8 : fld f5 a0 22 = .ref GP := (hf5.efl m_a0 r_a0 rfl).trans t_GP
    have e9 : fld f5 a0 23 = .ref GL := (hf5.efl m_a0 r_a0 rfl).trans t_GL
    have e10 : fld f5 a0 6 = .ref GT := (hf5.efl m_a0 r_a0 rfl).trans t_GT
    exact hret f5 _ _ _ _ v6 dX12_least_31 rfl ⟨hk, hR, hX⟩ h
  · refine lv_iload_n F.1 F.2.1 dX12_least_8 rfl (lv_at hl 2 rfl) ?_
    refine tw_Si (As := [.int x2]) F hZ h yk_X12_isTray mw_283 mw_284 (s_X12_isTray l D cy L R O f0 x2) rfl rfl hl.1 rfl (Nat.le_of_ble_eq_true rfl) ⟨Nat.le_of_ble_eq_true rfl, Nat.le_of_ble_eq_true rfl⟩ ⟨Nat.le_of_ble_eq_true rfl, Nat.le_of_ble_eq_true rfl⟩ dX12_least_9 (fun v12 f11 H locs hp11 h => ?_)
    obtain ⟨rfl, hv12a, hv12b, hv12p0⟩ := hp11
    refine tw_if_eq (tgt := 26) F dX12_least_12 (by decide) (fun b13 => ?_) (fun b13 => ?_)
    · refine lv_aload_n F.1 F.2.1 dX12_least_26 rfl (lv_at hl 0 rfl) ?_
      refine tw_iconst F dX12_least_27 ki_1 (fun z14 hz14 => ?_)
      refine tw_Vi (As := [.int z14]) F hZ h yk_X12_refuse mw_452 mw_453 mw_454 (s_X12_refuse l D cy L R O f0 a0 m_a0 r_a0 z14 ⟨by omega, by omega⟩) rfl rfl m_a0 r_a0 (fun e q => (T_12 e).mp q) rfl hl.1 rfl (Nat.le_of_ble_eq_true rfl) ⟨Nat.le_of_ble_eq_true rfl, Nat.le_of_ble_eq_true rfl⟩ ⟨Nat.le_of_ble_eq_true rfl, Nat.le_of_ble_eq_true rfl⟩ dX12_least_28 (fun v16 f15 H locs hp15 h => ?_)
      obtain ⟨hf15, hv16a, hv16b⟩ := hp15
      have hR : RBA GA f15 := hR.fm hf15 m_GA r_GA (by decide +kernel)
      have hX : GZ GP GL f15 := hX.fm hf15 m_GP r_GP m_GL r_GL (by decide +kernel) (by decide +kernel)
      have hk : fr L R [(12, 1), (12, 28), (12, 29), (12, 31), (12, 35), (12, 36), (12, 37), (12, 38), (12, 39), (12, 59)] [12, 61, 68, 69, 70, 73, 74, 76, 84] f0 f15 := hk.tr hf15 rfl rfl
      have e17 : fld f15 a0 0 = .ref GA := (hf15.efl m_a0 r_a0 rfl).trans t_GA
      have e18 : fld f15 a0 22 = .ref GP := (hf15.efl m_a0 r_a0 rfl).trans t_GP
      have e19 : fld f15 a0 23 = .ref GL := (hf15.efl m_a0 r_a0 rfl).trans t_GL
      have e20 : fld f15 a0 6 = .ref GT := (hf15.efl m_a0 r_a0 rfl).trans t_GT
      exact hret f15 _ _ _ _ v16 dX12_least_31 rfl ⟨hk, hR, hX⟩ h
    · refine lv_iload_n F.1 F.2.1 dX12_least_15 rfl (lv_at hl 3 rfl) ?_
      refine tw_iconst F dX12_least_16 ki_1 (fun z21 hz21 => ?_)
      refine tw_icmp_lt (tgt := 26) F dX12_least_17 (by decide) (fun b22 => ?_) (fun b22 => ?_)
      · refine lv_aload_n F.1 F.2.1 dX12_least_26 rfl (lv_at hl 0 rfl) ?_
        refine tw_iconst F dX12_least_27 ki_1 (fun z23 hz23 => ?_)
        refine tw_Vi (As := [.int z23]) F hZ h yk_X12_refuse mw_452 mw_453 mw_454 (s_X12_refuse l D cy L R O f0 a0 m_a0 r_a0 z23 ⟨by omega, by omega⟩) rfl rfl m_a0 r_a0 (fun e q => (T_12 e).mp q) rfl hl.1 rfl (Nat.le_of_ble_eq_true rfl) ⟨Nat.le_of_ble_eq_true rfl, Nat.le_of_ble_eq_true rfl⟩ ⟨Nat.le_of_ble_eq_true rfl, Nat.le_of_ble_eq_true rfl⟩ dX12_least_28 (fun v25 f24 H locs hp24 h => ?_)
        obtain ⟨hf24, hv25a, hv25b⟩ := hp24
        have hR : RBA GA f24 := hR.fm hf24 m_GA r_GA (by decide +kernel)
        have hX : GZ GP GL f24 := hX.fm hf24 m_GP r_GP m_GL r_GL (by decide +kernel) (by decide +kernel)
        have hk : fr L R [(12, 1), (12, 28), (12, 29), (12, 31), (12, 35), (12, 36), (12, 37), (12, 38), (12, 39), (12, 59)] [12, 61, 68, 69, 70, 73, 74, 76, 84] f0 f24 := hk.tr hf24 rfl rfl
        have e26 : fld f24 a0 0 = .ref GA := (hf24.efl m_a0 r_a0 rfl).trans t_GA
        have e27 : fld f24 a0 22 = .ref GP := (hf24.efl m_a0 r_a0 rfl).trans t_GP
        have e28 : fld f24 a0 23 = .ref GL := (hf24.efl m_a0 r_a0 rfl).trans t_GL
        have e29 : fld f24 a0 6 = .ref GT := (hf24.efl m_a0 r_a0 rfl).trans t_GT
        exact hret f24 _ _ _ _ v25 dX12_least_31 rfl ⟨hk, hR, hX⟩ h
      · refine lv_iload_n F.1 F.2.1 dX12_least_20 rfl (lv_at hl 3 rfl) ?_
        refine tw_bipush F dX12_least_21 kb_15 (fun z30 hz30 => ?_)
        refine tw_icmp_le (tgt := 32) F dX12_least_23 (by decide) (fun b31 => ?_) (fun b31 => ?_)
        · refine lv_aload_n F.1 F.2.1 dX12_least_32 rfl (lv_at hl 0 rfl) ?_
          refine g_12_7 F h m_a0 r_a0 dX12_least_33 (fun o32 m_o32 r_o32 ho32 => ?_)
          obtain rfl := (fld_inj t_GA ho32).symm
          refine tw_sipush F dX12_least_36 ks_1650 (fun z33 hz33 => ?_)
          refine lv_iload_n F.1 F.2.1 dX12_least_39 rfl (lv_at hl 1 rfl) ?_
          refine tu_imull F dX12_least_40 hz33 (by omega) (fun z34 hz34 => ?_)
          refine tw_iconst F dX12_least_41 ki_1 (fun z35 hz35 => ?_)
          refine tu_iadd F dX12_least_42 (by omega) (fun z36 hz36 => ?_)
          refine ld_61 F h m_GA r_GA (by omega) dX12_least_43 (fun v37 hv37a => ?_)
          have hv37b := clP_2.mp (atb hv37a (ac_c (b := (1650 * x1.toInt.toNat)) 1 (isB_s (show x1.toInt.toNat ≤ 2 by omega)) (by decide) (by omega) rfl))
          refine tw_l2i F dX12_least_44 (by omega) (by omega) (fun z38 hz38 => ?_)
          refine lv_istore (lv' := [(4, .int z38), (0, .ref a0), (1, .int x1), (2, .int x2), (3, .int x3)]) F.1 F.2.1 dX12_least_45 hl (by decide) rfl (fun ls hl => ?_)
          refine lv_iload F.1 F.2.1 dX12_least_47 (lv_at hl 0 rfl) ?_
          refine tw_bipush F dX12_least_49 kb_12 (fun z39 hz39 => ?_)
          refine tw_icmp_le (tgt := 60) F dX12_least_51 (by decide) (fun b40 => ?_) (fun b40 => ?_)
          · refine lv_aload_n F.1 F.2.1 dX12_least_60 rfl (lv_at hl 1 rfl) ?_
            refine tw_iconst F dX12_least_61 ki_1 (fun z41 hz41 => ?_)
            refine lv_iload_n F.1 F.2.1 dX12_least_62 rfl (lv_at hl 3 rfl) ?_
            refine lv_iload_n F.1 F.2.1 dX12_least_63 rfl (lv_at hl 4 rfl) ?_
            refine tw_bipush F dX12_least_64 kb_15 (fun z42 hz42 => ?_)
            refine tw_Vi (As := [.int z41, .int x2, .int x3, .int z42]) F hZ h yk_X12_wrongLines mw_1183 mw_1184 mw_1185 (s_X12_wrongLines l D cy L R O f0 a0 m_a0 r_a0 z41 ⟨by omega, by omega⟩ x2 x3 z42 ⟨by omega, by omega⟩ GA m_GA r_GA t_GA GP m_GP r_GP t_GP GL m_GL r_GL t_GL GT m_GT r_GT t_GT) rfl rfl m_a0 r_a0 (fun e q => (T_12 e).mp q) rfl hl.1 rfl (Nat.le_of_ble_eq_true rfl) ⟨Nat.le_of_ble_eq_true rfl, Nat.le_of_ble_eq_true rfl⟩ ⟨Nat.le_of_ble_eq_true rfl, Nat.le_of_ble_eq_true rfl⟩ dX12_least_66 (fun v44 f43 H locs hp43 h => ?_)
            obtain ⟨rfl, hv44a, hv44b, hv44p0, hv44p1⟩ := hp43
            refine lv_istore (lv' := [(5, .int v44), (4, .int z38), (0, .ref a0), (1, .int x1), (2, .int x2), (3, .int x3)]) F.1 F.2.1 dX12_least_69 hl (by decide) rfl (fun ls hl => ?_)
            refine lv_iload F.1 F.2.1 dX12_least_71 (lv_at hl 0 rfl) ?_
            refine tw_if_le (tgt := 83) F dX12_least_73 (by decide) (fun b45 => ?_) (fun b45 => ?_)
            · have hLT : LT GT x2.toInt.toNat x3.toInt.toNat f0 := hv44p0.g.resolve_left (by omega)
              refine lv_aload_n F.1 F.2.1 dX12_least_83 rfl (lv_at hl 2 rfl) ?_
              refine lv_iload_n F.1 F.2.1 dX12_least_84 rfl (lv_at hl 3 rfl) ?_
              refine tw_sipush F dX12_least_85 ks_22410 (fun z46 hz46 => ?_)
              refine tw_Vv (As := [.int x1, .int z46]) F hZ h yk_X12_works mw_1187 mw_1188 mw_1189 (s_X12_works l D cy L R O f0 a0 m_a0 r_a0 x1 ⟨by omega, by omega⟩ z46 ⟨by omega, by omega⟩ GA m_GA r_GA t_GA GP m_GP r_GP t_GP GL m_GL r_GL t_GL GT m_GT r_GT t_GT (isB_e isB_w (by omega)) (hR.s (by omega))) rfl rfl m_a0 r_a0 (fun e q => (T_12 e).mp q) rfl hl.1 rfl (Nat.le_of_ble_eq_true rfl) ⟨Nat.le_of_ble_eq_true rfl, Nat.le_of_ble_eq_true rfl⟩ ⟨Nat.le_of_ble_eq_true rfl, Nat.le_of_ble_eq_true rfl⟩ dX12_least_88 (fun f47 H locs hp47 h => ?_)
              obtain ⟨hf47, hv48p0, hv48p1⟩ := hp47
              have hR : RBA GA f47 := hR.kw hv48p0 (Or.inl (by omega))
              have hX : GZ GP GL f47 := hX.fm hf47 m_GP r_GP m_GL r_GL (by decide +kernel) (by decide +kernel)
              have hLT : LT GT x2.toInt.toNat x3.toInt.toNat f47 := hLT.fm hf47 m_GT r_GT (by decide +kernel)
              have hk : fr L R [(12, 1), (12, 28), (12, 29), (12, 31), (12, 35), (12, 36), (12, 37), (12, 38), (12, 39), (12, 59)] [12, 61, 68, 69, 70, 73, 74, 76, 84] f0 f47 := hk.tr hf47 rfl rfl
              have e49 : fld f47 a0 0 = .ref GA := (hf47.efl m_a0 r_a0 rfl).trans t_GA
              have e50 : fld f47 a0 22 = .ref GP := (hf47.efl m_a0 r_a0 rfl).trans t_GP
              have e51 : fld f47 a0 23 = .ref GL := (hf47.efl m_a0 r_a0 rfl).trans t_GL
              have e52 : fld f47 a0 6 = .ref GT := (hf47.efl m_a0 r_a0 rfl).trans t_GT
              have hRB : RB GA 22410 f47 := by have q := hv48p1; rw [show z46.toInt.toNat = 22410 by omega] at q; exact q
              refine tw_iconst F dX12_least_91 ki_0 (fun z53 hz53 => ?_)
              refine lv_istore (lv' := [(6, .int z53), (5, .int v44), (4, .int z38), (0, .ref a0), (1, .int x1), (2, .int x2), (3, .int x3)]) F.1 F.2.1 dX12_least_92 hl (by decide) rfl (fun ls hl => ?_)
              have j_94 : ∀ (n94 : Nat) (f54 : Nat → va_E) (H : Heap) (locs : List Loc) (ls : Array Slot) (x6_94 : Int32), 0 ≤ x6_94.toInt → x6_94.toInt ≤ 15 → ((15 - x6_94.toInt)).toNat < n94 → tS D cy A s.heap L R (TT cy L R) f54 s H locs → RBA GA f54 → GZ GP GL f54 → LT GT x2.toInt.toNat x3.toInt.toNat f54 → RB GA 22410 f54 → fr L R [(12, 1), (12, 28), (12, 29), (12, 31), (12, 35), (12, 36), (12, 37), (12, 38), (12, 39), (12, 59)] [12, 61, 68, 69, 70, 73, 74, 76, 84] f0 f54 → fr L R [(12, 28), (12, 29), (12, 35), (12, 36), (12, 37), (12, 38), (12, 39)] [12, 61, 68, 69, 70, 73, 74, 76, 84] f47 f54 → lv_has ls 8 [(0, .ref a0), (1, .int x1), (2, .int x2), (3, .int x3), (4, .int z38), (6, .int x6_94)] → W p l e rm_X12_least s m args below meth c H locs 0 0 Q (F0 m 94 ls []) := by
                intro n94
                induction n94 with
                | zero =>
                  intro f54 H locs ls x6_94 b55 b56 b57 h hR hX hLT hRB hk hb94 hl
                  exfalso
                  omega
                | succ n94 ih94 =>
                  intro f54 H locs ls x6_94 b55 b56 b57 h hR hX hLT hRB hk hb94 hl
                  have e58 : fld f54 a0 0 = .ref GA := (hb94.efl m_a0 r_a0 rfl).trans e49
                  have e59 : fld f54 a0 22 = .ref GP := (hb94.efl m_a0 r_a0 rfl).trans e50
                  have e60 : fld f54 a0 23 = .ref GL := (hb94.efl m_a0 r_a0 rfl).trans e51
                  have e61 : fld f54 a0 6 = .ref GT := (hb94.efl m_a0 r_a0 rfl).trans e52
                  refine lv_iload F.1 F.2.1 dX12_least_94 (lv_at hl 5 rfl) ?_
                  refine lv_iload_n F.1 F.2.1 dX12_least_96 rfl (lv_at hl 3 rfl) ?_
                  refine tw_icmp_ge (tgt := 175) F dX12_least_97 (by decide) (fun b62 => ?_) (fun b62 => ?_)
                  · refine tw_iconst F dX12_least_175 ki_m1 (fun z63 hz63 => ?_)
                    refine lv_istore (lv' := [(6, .int z63), (0, .ref a0), (1, .int x1), (2, .int x2), (3, .int x3), (4, .int z38)]) F.1 F.2.1 dX12_least_176 hl (by decide) rfl (fun ls hl => ?_)
                    refine tw_iconst F dX12_least_178 ki_0 (fun z64 hz64 => ?_)
                    refine lv_istore (lv' := [(7, .int z64), (6, .int z63), (0, .ref a0), (1, .int x1), (2, .int x2), (3, .int x3), (4, .int z38)]) F.1 F.2.1 dX12_least_179 hl (by decide) rfl (fun ls hl => ?_)
                    have j_181 : ∀ (n181 : Nat) (f65 : Nat → va_E) (H : Heap) (locs : List Loc) (ls : Array Slot) (x6_181 : Int32) (x7_181 : Int32), 0 ≤ x7_181.toInt → ((2147483647 - x7_181.toInt)).toNat < n181 → tS D cy A s.heap L R (TT cy L R) f65 s H locs → RBA GA f65 → GZ GP GL f65 → LT GT x2.toInt.toNat x3.toInt.toNat f65 → fr L R [(12, 1), (12, 28), (12, 29), (12, 31), (12, 35), (12, 36), (12, 37), (12, 38), (12, 39), (12, 59)] [12, 61, 68, 69, 70, 73, 74, 76, 84] f0 f65 → fr L R [(12, 28), (12, 29), (12, 31), (12, 35), (12, 36), (12, 37), (12, 38), (12, 39)] [12, 61, 68, 69, 70, 73, 74, 76] f54 f65 → lv_has ls 8 [(0, .ref a0), (1, .int x1), (2, .int x2), (3, .int x3), (4, .int z38), (6, .int x6_181), (7, .int x7_181)] → W p l e rm_X12_least s m args below meth c H locs 0 0 Q (F0 m 181 ls []) := by
                      intro n181
                      induction n181 with
                      | zero =>
                        intro f65 H locs ls x6_181 x7_181 b66 b67 h hR hX hLT hk hb181 hl
                        exfalso
                        omega
                      | succ n181 ih181 =>
                        intro f65 H locs ls x6_181 x7_181 b66 b67 h hR hX hLT hk hb181 hl
                        have e68 : fld f65 a0 0 = .ref GA := (hb181.efl m_a0 r_a0 rfl).trans e58
                        have e69 : fld f65 a0 22 = .ref GP := (hb181.efl m_a0 r_a0 rfl).trans e59
                        have e70 : fld f65 a0 23 = .ref GL := (hb181.efl m_a0 r_a0 rfl).trans e60
                        have e71 : fld f65 a0 6 = .ref GT := (hb181.efl m_a0 r_a0 rfl).trans e61
                        refine lv_iload F.1 F.2.1 dX12_least_181 (lv_at hl 6 rfl) ?_
                        refine tw_iconst F dX12_least_183 ki_1 (fun z72 hz72 => ?_)
                        refine lv_iload F.1 F.2.1 dX12_least_184 (lv_at hl 4 rfl) ?_
                        refine lv_ishl F.1 F.2.1 dX12_least_186 ?_
                        refine lv_topi (fun z73 _ => ?_)
                        have tbz := tb_i z73
                        refine tw_icmp_ge (tgt := 247) F dX12_least_187 (by decide) (fun b74 => ?_) (fun b74 => ?_)
                        · refine lv_aload_n F.1 F.2.1 dX12_least_247 rfl (lv_at hl 0 rfl) ?_
                          refine tw_iconst F dX12_least_248 ki_0 (fun z75 hz75 => ?_)
                          refine p_12_301 F h m_a0 r_a0 dX12_least_249 (fun f76 H locs e76p hf76 h => ?_)
                          have hR : RBA GA f76 := hR.fm hf76 m_GA r_GA (by decide +kernel)
                          have hX : GZ GP GL f76 := hX.fm hf76 m_GP r_GP m_GL r_GL (by decide +kernel) (by decide +kernel)
                          have hLT : LT GT x2.toInt.toNat x3.toInt.toNat f76 := hLT.fm hf76 m_GT r_GT (by decide +kernel)
                          have hk : fr L R [(12, 1), (12, 28), (12, 29), (12, 31), (12, 35), (12, 36), (12, 37), (12, 38), (12, 39), (12, 59)] [12, 61, 68, 69, 70, 73, 74, 76, 84] f0 f76 := hk.tr hf76 rfl rfl
                          have hb181 : fr L R [(12, 28), (12, 29), (12, 31), (12, 35), (12, 36), (12, 37), (12, 38), (12, 39)] [12, 61, 68, 69, 70, 73, 74, 76] f54 f76 := hb181.tr hf76 rfl rfl
                          have e77 : fld f76 a0 0 = .ref GA := (hf76.efl m_a0 r_a0 rfl).trans e68
                          have e78 : fld f76 a0 22 = .ref GP := (hf76.efl m_a0 r_a0 rfl).trans e69
                          have e79 : fld f76 a0 23 = .ref GL := (hf76.efl m_a0 r_a0 rfl).trans e70
                          have e80 : fld f76 a0 6 = .ref GT := (hf76.efl m_a0 r_a0 rfl).trans e71
                          refine lv_aload_n F.1 F.2.1 dX12_least_252 rfl (lv_at hl 0 rfl) ?_
                          refine lv_iload F.1 F.2.1 dX12_least_253 (lv_at hl 5 rfl) ?_
                          refine p_12_109 F h m_a0 r_a0 dX12_least_255 (fun f81 H locs e81p hf81 h => ?_)
                          have hR : RBA GA f81 := hR.fm hf81 m_GA r_GA (by decide +kernel)
                          have hX : GZ GP GL f81 := hX.fm hf81 m_GP r_GP m_GL r_GL (by decide +kernel) (by decide +kernel)
                          have hLT : LT GT x2.toInt.toNat x3.toInt.toNat f81 := hLT.fm hf81 m_GT r_GT (by decide +kernel)
                          have hk : fr L R [(12, 1), (12, 28), (12, 29), (12, 31), (12, 35), (12, 36), (12, 37), (12, 38), (12, 39), (12, 59)] [12, 61, 68, 69, 70, 73, 74, 76, 84] f0 f81 := hk.tr hf81 rfl rfl
                          have e82 : fld f81 a0 0 = .ref GA := (hf81.efl m_a0 r_a0 rfl).trans e77
                          have e83 : fld f81 a0 22 = .ref GP := (hf81.efl m_a0 r_a0 rfl).trans e78
                          have e84 : fld f81 a0 23 = .ref GL := (hf81.efl m_a0 r_a0 rfl).trans e79
                          have e85 : fld f81 a0 6 = .ref GT := (hf81.efl m_a0 r_a0 rfl).trans e80
                          refine lv_aload_n F.1 F.2.1 dX12_least_258 rfl (lv_at hl 0 rfl) ?_
                          refine lv_iload F.1 F.2.1 dX12_least_259 (lv_at hl 5 rfl) ?_
                          refine tw_Si (As := [.int x6_181]) F hZ h yk_X12_bits mw_1470 mw_1471 (s_X12_bits l D cy L R O f81 x6_181) rfl rfl hl.1 rfl (Nat.le_of_ble_eq_true rfl) ⟨Nat.le_of_ble_eq_true rfl, Nat.le_of_ble_eq_true rfl⟩ ⟨Nat.le_of_ble_eq_true rfl, Nat.le_of_ble_eq_true rfl⟩ dX12_least_261 (fun v87 f86 H locs hp86 h => ?_)
                          obtain rfl := hp86
                          refine tw_Vi (As := [.int v87]) F hZ h yk_X12_gives mw_499 mw_500 mw_501 (s_X12_gives l D cy L R O f81 a0 m_a0 r_a0 v87) rfl rfl m_a0 r_a0 (fun e q => (T_12 e).mp q) rfl hl.1 rfl (Nat.le_of_ble_eq_true rfl) ⟨Nat.le_of_ble_eq_true rfl, Nat.le_of_ble_eq_true rfl⟩ ⟨Nat.le_of_ble_eq_true rfl, Nat.le_of_ble_eq_true rfl⟩ dX12_least_264 (fun v89 f88 H locs hp88 h => ?_)
                          have hf88 := hp88
                          have hR : RBA GA f88 := hR.fm hf88 m_GA r_GA (by decide +kernel)
                          have hX : GZ GP GL f88 := hX.fm hf88 m_GP r_GP m_GL r_GL (by decide +kernel) (by decide +kernel)
                          have hLT : LT GT x2.toInt.toNat x3.toInt.toNat f88 := hLT.fm hf88 m_GT r_GT (by decide +kernel)
                          have hk : fr L R [(12, 1), (12, 28), (12, 29), (12, 31), (12, 35), (12, 36), (12, 37), (12, 38), (12, 39), (12, 59)] [12, 61, 68, 69, 70, 73, 74, 76, 84] f0 f88 := hk.tr hf88 rfl rfl
                          have e90 : fld f88 a0 0 = .ref GA := (hf88.efl m_a0 r_a0 rfl).trans e82
                          have e91 : fld f88 a0 22 = .ref GP := (hf88.efl m_a0 r_a0 rfl).trans e83
                          have e92 : fld f88 a0 23 = .ref GL := (hf88.efl m_a0 r_a0 rfl).trans e84
                          have e93 : fld f88 a0 6 = .ref GT := (hf88.efl m_a0 r_a0 rfl).trans e85
                          exact hret f88 _ _ _ _ v89 dX12_least_267 rfl ⟨hk, hR, hX⟩ h
                        · refine lv_iload F.1 F.2.1 dX12_least_190 (lv_at hl 5 rfl) ?_
                          refine tw_iconst F dX12_least_192 ki_m1 (fun z94 hz94 => ?_)
                          have j_241 : ∀ (f95 : Nat → va_E) (H : Heap) (locs : List Loc) (ls : Array Slot) (x6_241 : Int32), tS D cy A s.heap L R (TT cy L R) f95 s H locs → RBA GA f95 → GZ GP GL f95 → LT GT x2.toInt.toNat x3.toInt.toNat f95 → fr L R [(12, 1), (12, 28), (12, 29), (12, 31), (12, 35), (12, 36), (12, 37), (12, 38), (12, 39), (12, 59)] [12, 61, 68, 69, 70, 73, 74, 76, 84] f0 f95 → fr L R [(12, 28), (12, 29), (12, 31), (12, 35), (12, 36), (12, 37), (12, 38), (12, 39)] [12, 61, 68, 69, 70, 73, 74, 76] f65 f95 → lv_has ls 8 [(0, .ref a0), (1, .int x1), (2, .int x2), (3, .int x3), (4, .int z38), (6, .int x6_241), (7, .int x7_181)] → W p l e rm_X12_least s m args below meth c H locs 0 0 Q (F0 m 241 ls []) := by
                            intro f95 H locs ls x6_241 h hR hX hLT hk hb241 hl
                            have hb181 : fr L R [(12, 28), (12, 29), (12, 31), (12, 35), (12, 36), (12, 37), (12, 38), (12, 39)] [12, 61, 68, 69, 70, 73, 74, 76] f54 f95 := hb181.tr hb241 (by decide +kernel) (by decide +kernel)
                            have e96 : fld f95 a0 0 = .ref GA := (hb241.efl m_a0 r_a0 rfl).trans e68
                            have e97 : fld f95 a0 22 = .ref GP := (hb241.efl m_a0 r_a0 rfl).trans e69
                            have e98 : fld f95 a0 23 = .ref GL := (hb241.efl m_a0 r_a0 rfl).trans e70
                            have e99 : fld f95 a0 6 = .ref GT := (hb241.efl m_a0 r_a0 rfl).trans e71
                            refine tu_iinc F dX12_least_241 hl (k := 6) rfl (by decide) ki_1 (by omega) (fun z100 ls hz100 hl => ?_)
                            have hl : lv_has ls 8 [(7, .int z100), (0, .ref a0), (1, .int x1), (2, .int x2), (3, .int x3), (4, .int z38), (6, .int x6_241)] := hl
                            refine lv_goto (tgt := 181) F.1 F.2.1 dX12_least_244 (by decide) ?_
                            exact ih181 f95 _ _ _ x6_241 z100 (by omega) (by omega) h hR hX hLT hk hb181 (lv_sub hl [1, 2, 3, 4, 5, 6, 0] rfl)
                          have hb241 : fr L R [(12, 28), (12, 29), (12, 31), (12, 35), (12, 36), (12, 37), (12, 38), (12, 39)] [12, 61, 68, 69, 70, 73, 74, 76] f65 f65 := fr.rf
                          have j_212 : ∀ (H : Heap) (locs : List Loc) (ls : Array Slot), tS D cy A s.heap L R (TT cy L R) f65 s H locs → lv_has ls 8 [(0, .ref a0), (1, .int x1), (2, .int x2), (3, .int x3), (4, .int z38), (6, .int x6_181), (7, .int x7_181)] → W p l e rm_X12_least s m args below meth c H locs 0 0 Q (F0 m 212 ls []) := by
                            intro H locs ls h hl
                            refine lv_aload_n F.1 F.2.1 dX12_least_212 rfl (lv_at hl 0 rfl) ?_
                            refine tw_iconst F dX12_least_213 ki_1 (fun z101 hz101 => ?_)
                            refine lv_iload F.1 F.2.1 dX12_least_214 (lv_at hl 4 rfl) ?_
                            refine lv_ishl F.1 F.2.1 dX12_least_216 ?_
                            refine lv_topi (fun z102 _ => ?_)
                            refine tw_iconst F dX12_least_217 ki_1 (fun z103 hz103 => ?_)
                            refine lv_isub F.1 F.2.1 dX12_least_218 ?_
                            refine lv_topi (fun z104 _ => ?_)
                            refine lv_iload F.1 F.2.1 dX12_least_219 (lv_at hl 6 rfl) ?_
                            refine tw_iconst F dX12_least_221 ki_m1 (fun z105 hz105 => ?_)
                            refine lv_ixor F.1 F.2.1 dX12_least_222 ?_
                            refine lv_topi (fun z106 _ => ?_)
                            refine lv_iand F.1 F.2.1 dX12_least_223 ?_
                            refine lv_topi (fun z107 _ => ?_)
                            refine p_12_301 F h m_a0 r_a0 dX12_least_224 (fun f108 H locs e108p hf108 h => ?_)
                            have hR : RBA GA f108 := hR.fm hf108 m_GA r_GA (by decide +kernel)
                            have hX : GZ GP GL f108 := hX.fm hf108 m_GP r_GP m_GL r_GL (by decide +kernel) (by decide +kernel)
                            have hLT : LT GT x2.toInt.toNat x3.toInt.toNat f108 := hLT.fm hf108 m_GT r_GT (by decide +kernel)
                            have hk : fr L R [(12, 1), (12, 28), (12, 29), (12, 31), (12, 35), (12, 36), (12, 37), (12, 38), (12, 39), (12, 59)] [12, 61, 68, 69, 70, 73, 74, 76, 84] f0 f108 := hk.tr hf108 rfl rfl
                            have hb181 : fr L R [(12, 28), (12, 29), (12, 31), (12, 35), (12, 36), (12, 37), (12, 38), (12, 39)] [12, 61, 68, 69, 70, 73, 74, 76] f54 f108 := hb181.tr hf108 rfl rfl
                            have hb241 : fr L R [(12, 28), (12, 29), (12, 31), (12, 35), (12, 36), (12, 37), (12, 38), (12, 39)] [12, 61, 68, 69, 70, 73, 74, 76] f65 f108 := hb241.tr hf108 rfl rfl
                            have e109 : fld f108 a0 0 = .ref GA := (hf108.efl m_a0 r_a0 rfl).trans e68
                            have e110 : fld f108 a0 22 = .ref GP := (hf108.efl m_a0 r_a0 rfl).trans e69
                            have e111 : fld f108 a0 23 = .ref GL := (hf108.efl m_a0 r_a0 rfl).trans e70
                            have e112 : fld f108 a0 6 = .ref GT := (hf108.efl m_a0 r_a0 rfl).trans e71
                            refine lv_aload_n F.1 F.2.1 dX12_least_227 rfl (lv_at hl 0 rfl) ?_
                            refine lv_iload_n F.1 F.2.1 dX12_least_228 rfl (lv_at hl 1 rfl) ?_
                            refine lv_iload_n F.1 F.2.1 dX12_least_229 rfl (lv_at hl 2 rfl) ?_
                            refine lv_iload_n F.1 F.2.1 dX12_least_230 rfl (lv_at hl 3 rfl) ?_
                            refine tw_Vi (As := [.int x1, .int x2, .int x3]) F hZ h yk_X12_saysWhole mw_1473 mw_1474 mw_1475 (s_X12_saysWhole l D cy L R O f108 a0 m_a0 r_a0 x1 ⟨by omega, by omega⟩ x2 ⟨by omega, by omega⟩ x3 ⟨by omega, by omega⟩ GA m_GA r_GA e109 GP m_GP r_GP e110 GL m_GL r_GL e111 GT m_GT r_GT e112 hX hR hLT) rfl rfl m_a0 r_a0 (fun e q => (T_12 e).mp q) rfl hl.1 rfl (Nat.le_of_ble_eq_true rfl) ⟨Nat.le_of_ble_eq_true rfl, Nat.le_of_ble_eq_true rfl⟩ ⟨Nat.le_of_ble_eq_true rfl, Nat.le_of_ble_eq_true rfl⟩ dX12_least_231 (fun v114 f113 H locs hp113 h => ?_)
                            obtain ⟨hf113, hv114a, hv114b, hv114p0, hv114p1⟩ := hp113
                            have hR : RBA GA f113 := hR.kw hv114p1 (Or.inl (by omega))
                            have hX : GZ GP GL f113 := hv114p0
                            have hLT : LT GT x2.toInt.toNat x3.toInt.toNat f113 := hLT.fm hf113 m_GT r_GT (by decide +kernel)
                            have hk : fr L R [(12, 1), (12, 28), (12, 29), (12, 31), (12, 35), (12, 36), (12, 37), (12, 38), (12, 39), (12, 59)] [12, 61, 68, 69, 70, 73, 74, 76, 84] f0 f113 := hk.tr hf113 (by decide +kernel) (by decide +kernel)
                            have hb181 : fr L R [(12, 28), (12, 29), (12, 31), (12, 35), (12, 36), (12, 37), (12, 38), (12, 39)] [12, 61, 68, 69, 70, 73, 74, 76] f54 f113 := hb181.tr hf113 (by decide +kernel) (by decide +kernel)
                            have hb241 : fr L R [(12, 28), (12, 29), (12, 31), (12, 35), (12, 36), (12, 37), (12, 38), (12, 39)] [12, 61, 68, 69, 70, 73, 74, 76] f65 f113 := hb241.tr hf113 (by decide +kernel) (by decide +kernel)
                            have e115 : fld f113 a0 0 = .ref GA := (hf113.efl m_a0 r_a0 rfl).trans e109
                            have e116 : fld f113 a0 22 = .ref GP := (hf113.efl m_a0 r_a0 rfl).trans e110
                            have e117 : fld f113 a0 23 = .ref GL := (hf113.efl m_a0 r_a0 rfl).trans e111
                            have e118 : fld f113 a0 6 = .ref GT := (hf113.efl m_a0 r_a0 rfl).trans e112
                            refine tw_if_eq (tgt := 241) F dX12_least_234 (by decide) (fun b119 => ?_) (fun b119 => ?_)
                            · exact j_241 f113 _ _ _ x6_181 h hR hX hLT hk hb241 (lv_sub hl [0, 1, 2, 3, 4, 5, 6] rfl)
                            · refine lv_iload F.1 F.2.1 dX12_least_237 (lv_at hl 6 rfl) ?_
                              refine lv_istore (lv' := [(6, .int x7_181), (0, .ref a0), (1, .int x1), (2, .int x2), (3, .int x3), (4, .int z38), (7, .int x7_181)]) F.1 F.2.1 dX12_least_239 hl (by decide) rfl (fun ls hl => ?_)
                              exact j_241 f113 _ _ _ x7_181 h hR hX hLT hk hb241 (lv_sub hl [1, 2, 3, 4, 5, 0, 6] rfl)
                          refine tw_icmp_eq (tgt := 212) F dX12_least_193 (by decide) (fun b120 => ?_) (fun b120 => ?_)
                          · exact j_212 _ _ _ h (lv_sub hl [0, 1, 2, 3, 4, 5, 6] rfl)
                          · refine lv_iload F.1 F.2.1 dX12_least_196 (lv_at hl 6 rfl) ?_
                            refine tw_Si (As := [.int x7_181]) F hZ h yk_X12_bits mw_1470 mw_1471 (s_X12_bits l D cy L R O f65 x7_181) rfl rfl hl.1 rfl (Nat.le_of_ble_eq_true rfl) ⟨Nat.le_of_ble_eq_true rfl, Nat.le_of_ble_eq_true rfl⟩ ⟨Nat.le_of_ble_eq_true rfl, Nat.le_of_ble_eq_true rfl⟩ dX12_least_198 (fun v122 f121 H locs hp121 h => ?_)
                            obtain rfl := hp121
                            refine lv_iload F.1 F.2.1 dX12_least_201 (lv_at hl 5 rfl) ?_
                            refine tw_Si (As := [.int x6_181]) F hZ h yk_X12_bits mw_1470 mw_1471 (s_X12_bits l D cy L R O f65 x6_181) rfl rfl hl.1 rfl (Nat.le_of_ble_eq_true rfl) ⟨Nat.le_of_ble_eq_true rfl, Nat.le_of_ble_eq_true rfl⟩ ⟨Nat.le_of_ble_eq_true rfl, Nat.le_of_ble_eq_true rfl⟩ dX12_least_203 (fun v124 f123 H locs hp123 h => ?_)
                            obtain rfl := hp123
                            refine tw_icmp_lt (tgt := 212) F dX12_least_206 (by decide) (fun b125 => ?_) (fun b125 => ?_)
                            · exact j_212 _ _ _ h (lv_sub hl [0, 1, 2, 3, 4, 5, 6] rfl)
                            · refine lv_goto (tgt := 241) F.1 F.2.1 dX12_least_209 (by decide) ?_
                              exact j_241 f65 _ _ _ x6_181 h hR hX hLT hk hb241 (lv_sub hl [0, 1, 2, 3, 4, 5, 6] rfl)
                    have hb181 : fr L R [(12, 28), (12, 29), (12, 31), (12, 35), (12, 36), (12, 37), (12, 38), (12, 39)] [12, 61, 68, 69, 70, 73, 74, 76] f54 f54 := fr.rf
                    exact j_181 (((2147483647 - z64.toInt)).toNat + 1) f54 _ _ _ z63 z64 (by omega) (by omega) h hR hX hLT hk hb181 (lv_sub hl [2, 3, 4, 5, 6, 1, 0] rfl)
                  · refine lv_aload_n F.1 F.2.1 dX12_least_100 rfl (lv_at hl 0 rfl) ?_
                    refine lv_iload_n F.1 F.2.1 dX12_least_101 rfl (lv_at hl 2 rfl) ?_
                    refine lv_iload F.1 F.2.1 dX12_least_102 (lv_at hl 5 rfl) ?_
                    refine tw_Vv (As := [.int x2, .int x6_94]) F hZ h yk_X12_hearsOf mw_1191 mw_1192 mw_1193 (s_X12_hearsOf l D cy L R O f54 a0 m_a0 r_a0 x2 ⟨by omega, by omega⟩ x6_94 ⟨by omega, by omega⟩ GA m_GA r_GA e58 GP m_GP r_GP e59 GL m_GL r_GL e60 GT m_GT r_GT e61 (hLT _ (by omega))) rfl rfl m_a0 r_a0 (fun e q => (T_12 e).mp q) rfl hl.1 rfl (Nat.le_of_ble_eq_true rfl) ⟨Nat.le_of_ble_eq_true rfl, Nat.le_of_ble_eq_true rfl⟩ ⟨Nat.le_of_ble_eq_true rfl, Nat.le_of_ble_eq_true rfl⟩ dX12_least_104 (fun f126 H locs hp126 h => ?_)
                    have hf126 := hp126
                    have hR : RBA GA f126 := hR.fm hf126 m_GA r_GA (by decide +kernel)
                    have hX : GZ GP GL f126 := hX.fm hf126 m_GP r_GP m_GL r_GL (by decide +kernel) (by decide +kernel)
                    have hLT : LT GT x2.toInt.toNat x3.toInt.toNat f126 := hLT.fm hf126 m_GT r_GT (by decide +kernel)
                    have hRB : RB GA 22410 f126 := hRB.fm hf126 m_GA r_GA (by decide +kernel)
                    have hk : fr L R [(12, 1), (12, 28), (12, 29), (12, 31), (12, 35), (12, 36), (12, 37), (12, 38), (12, 39), (12, 59)] [12, 61, 68, 69, 70, 73, 74, 76, 84] f0 f126 := hk.tr hf126 rfl rfl
                    have hb94 : fr L R [(12, 28), (12, 29), (12, 35), (12, 36), (12, 37), (12, 38), (12, 39)] [12, 61, 68, 69, 70, 73, 74, 76, 84] f47 f126 := hb94.tr hf126 rfl rfl
                    have e128 : fld f126 a0 0 = .ref GA := (hf126.efl m_a0 r_a0 rfl).trans e58
                    have e129 : fld f126 a0 22 = .ref GP := (hf126.efl m_a0 r_a0 rfl).trans e59
                    have e130 : fld f126 a0 23 = .ref GL := (hf126.efl m_a0 r_a0 rfl).trans e60
                    have e131 : fld f126 a0 6 = .ref GT := (hf126.efl m_a0 r_a0 rfl).trans e61
                    refine lv_aload_n F.1 F.2.1 dX12_least_107 rfl (lv_at hl 0 rfl) ?_
                    refine tw_sipush F dX12_least_108 ks_22410 (fun z132 hz132 => ?_)
                    refine tw_Vv (As := [.int z132]) F hZ h yk_X12_answers0 mw_1057 mw_1058 mw_1059 (s_X12_answers0 l D cy L R O f126 a0 m_a0 r_a0 z132 ⟨by omega, by omega⟩ GA m_GA r_GA e128 GP m_GP r_GP e129 GL m_GL r_GL e130 GT m_GT r_GT e131 (isB_e isB_w (by omega)) (by rw [show z132.toInt.toNat = 22410 by omega]; exact hRB) hX) rfl rfl m_a0 r_a0 (fun e q => (T_12 e).mp q) rfl hl.1 rfl (Nat.le_of_ble_eq_true rfl) ⟨Nat.le_of_ble_eq_true rfl, Nat.le_of_ble_eq_true rfl⟩ ⟨Nat.le_of_ble_eq_true rfl, Nat.le_of_ble_eq_true rfl⟩ dX12_least_111 (fun f133 H locs hp133 h => ?_)
                    obtain ⟨hf133, hv134p0, hv134p1⟩ := hp133
                    have hR : RBA GA f133 := hR.kw hv134p1 (Or.inl (by omega))
                    have hX : GZ GP GL f133 := hv134p0
                    have hLT : LT GT x2.toInt.toNat x3.toInt.toNat f133 := hLT.fm hf133 m_GT r_GT (by decide +kernel)
                    have hRB : RB GA 22410 f133 := hRB.kw hv134p1 (by omega)
                    have hk : fr L R [(12, 1), (12, 28), (12, 29), (12, 31), (12, 35), (12, 36), (12, 37), (12, 38), (12, 39), (12, 59)] [12, 61, 68, 69, 70, 73, 74, 76, 84] f0 f133 := hk.tr hf133 (by decide +kernel) (by decide +kernel)
                    have hb94 : fr L R [(12, 28), (12, 29), (12, 35), (12, 36), (12, 37), (12, 38), (12, 39)] [12, 61, 68, 69, 70, 73, 74, 76, 84] f47 f133 := hb94.tr hf133 (by decide +kernel) (by decide +kernel)
                    have e135 : fld f133 a0 0 = .ref GA := (hf133.efl m_a0 r_a0 rfl).trans e128
                    have e136 : fld f133 a0 22 = .ref GP := (hf133.efl m_a0 r_a0 rfl).trans e129
                    have e137 : fld f133 a0 23 = .ref GL := (hf133.efl m_a0 r_a0 rfl).trans e130
                    have e138 : fld f133 a0 6 = .ref GT := (hf133.efl m_a0 r_a0 rfl).trans e131
                    refine lv_aload_n F.1 F.2.1 dX12_least_114 rfl (lv_at hl 0 rfl) ?_
                    refine g_12_106 F h m_a0 r_a0 dX12_least_115 (fun o139 m_o139 r_o139 ho139 => ?_)
                    refine tw_bipush F dX12_least_118 kb_13 (fun z140 hz140 => ?_)
                    refine lv_iload F.1 F.2.1 dX12_least_120 (lv_at hl 5 rfl) ?_
                    refine tu_imull F dX12_least_122 hz140 (by omega) (fun z141 hz141 => ?_)
                    refine lv_aload_n F.1 F.2.1 dX12_least_123 rfl (lv_at hl 0 rfl) ?_
                    refine g_12_324 F h m_a0 r_a0 dX12_least_124 (fun v142 hv142 hv142a hv142b => ?_)
                    refine tw_i2l F dX12_least_127 (fun z143 hz143 => ?_)
                    refine st_84 F h m_o139 r_o139 (by omega) dX12_least_128 (fun f144 H locs hf144 h => ?_)
                    have hR : RBA GA f144 := hR.fm hf144 m_GA r_GA (by decide +kernel)
                    have hX : GZ GP GL f144 := hX.fm hf144 m_GP r_GP m_GL r_GL (by decide +kernel) (by decide +kernel)
                    have hLT : LT GT x2.toInt.toNat x3.toInt.toNat f144 := hLT.fm hf144 m_GT r_GT (by decide +kernel)
                    have hRB : RB GA 22410 f144 := hRB.fm hf144 m_GA r_GA (by decide +kernel)
                    have hk : fr L R [(12, 1), (12, 28), (12, 29), (12, 31), (12, 35), (12, 36), (12, 37), (12, 38), (12, 39), (12, 59)] [12, 61, 68, 69, 70, 73, 74, 76, 84] f0 f144 := hk.tr hf144 rfl rfl
                    have hb94 : fr L R [(12, 28), (12, 29), (12, 35), (12, 36), (12, 37), (12, 38), (12, 39)] [12, 61, 68, 69, 70, 73, 74, 76, 84] f47 f144 := hb94.tr hf144 rfl rfl
                    have e145 : fld f144 a0 0 = .ref GA := (hf144.efl m_a0 r_a0 rfl).trans e135
                    have e146 : fld f144 a0 22 = .ref GP := (hf144.efl m_a0 r_a0 rfl).trans e136
                    have e147 : fld f144 a0 23 = .ref GL := (hf144.efl m_a0 r_a0 rfl).trans e137
                    have e148 : fld f144 a0 6 = .ref GT := (hf144.efl m_a0 r_a0 rfl).trans e138
                    have e149 : fi f144 a0 29 = fi f133 a0 29 := hf144.efi m_a0 r_a0 rfl
                    refine tw_iconst F dX12_least_129 ki_0 (fun z150 hz150 => ?_)
                    refine lv_istore (lv' := [(7, .int z150), (0, .ref a0), (1, .int x1), (2, .int x2), (3, .int x3), (4, .int z38), (6, .int x6_94)]) F.1 F.2.1 dX12_least_130 hl (by decide) rfl (fun ls hl => ?_)
                    have j_132 : ∀ (n132 : Nat) (f151 : Nat → va_E) (H : Heap) (locs : List Loc) (ls : Array Slot) (x7_132 : Int32), 0 ≤ x7_132.toInt → x7_132.toInt ≤ 12 → ((12 - x7_132.toInt)).toNat < n132 → tS D cy A s.heap L R (TT cy L R) f151 s H locs → RBA GA f151 → GZ GP GL f151 → LT GT x2.toInt.toNat x3.toInt.toNat f151 → RB GA 22410 f151 → fr L R [(12, 1), (12, 28), (12, 29), (12, 31), (12, 35), (12, 36), (12, 37), (12, 38), (12, 39), (12, 59)] [12, 61, 68, 69, 70, 73, 74, 76, 84] f0 f151 → fr L R [] [84] f144 f151 → lv_has ls 8 [(0, .ref a0), (1, .int x1), (2, .int x2), (3, .int x3), (4, .int z38), (6, .int x6_94), (7, .int x7_132)] → W p l e rm_X12_least s m args below meth c H locs 0 0 Q (F0 m 132 ls []) := by
                      intro n132
                      induction n132 with
                      | zero =>
                        intro f151 H locs ls x7_132 b152 b153 b154 h hR hX hLT hRB hk hb132 hl
                        exfalso
                        omega
                      | succ n132 ih132 =>
                        intro f151 H locs ls x7_132 b152 b153 b154 h hR hX hLT hRB hk hb132 hl
                        have hb94 : fr L R [(12, 28), (12, 29), (12, 35), (12, 36), (12, 37), (12, 38), (12, 39)] [12, 61, 68, 69, 70, 73, 74, 76, 84] f47 f151 := hb94.tr hb132 rfl rfl
                        have e155 : fld f151 a0 0 = .ref GA := (hb132.efl m_a0 r_a0 rfl).trans e145
                        have e156 : fld f151 a0 22 = .ref GP := (hb132.efl m_a0 r_a0 rfl).trans e146
                        have e157 : fld f151 a0 23 = .ref GL := (hb132.efl m_a0 r_a0 rfl).trans e147
                        have e158 : fld f151 a0 6 = .ref GT := (hb132.efl m_a0 r_a0 rfl).trans e148
                        have e159 : fi f151 a0 29 = fi f144 a0 29 := hb132.efi m_a0 r_a0 rfl
                        refine lv_iload F.1 F.2.1 dX12_least_132 (lv_at hl 6 rfl) ?_
                        refine lv_aload_n F.1 F.2.1 dX12_least_134 rfl (lv_at hl 0 rfl) ?_
                        refine g_12_324 F h m_a0 r_a0 dX12_least_135 (fun v160 hv160 hv160a hv160b => ?_)
                        refine tw_icmp_ge (tgt := 169) F dX12_least_138 (by decide) (fun b161 => ?_) (fun b161 => ?_)
                        · refine tu_iinc F dX12_least_169 hl (k := 5) rfl (by decide) ki_1 (by omega) (fun z162 ls hz162 hl => ?_)
                          have hl : lv_has ls 8 [(6, .int z162), (0, .ref a0), (1, .int x1), (2, .int x2), (3, .int x3), (4, .int z38), (7, .int x7_132)] := hl
                          refine lv_goto (tgt := 94) F.1 F.2.1 dX12_least_172 (by decide) ?_
                          exact ih94 f151 _ _ _ z162 (by omega) (by omega) (by omega) h hR hX hLT hRB hk hb94 (lv_sub hl [1, 2, 3, 4, 5, 0] rfl)
                        · refine lv_aload_n F.1 F.2.1 dX12_least_141 rfl (lv_at hl 0 rfl) ?_
                          refine g_12_106 F h m_a0 r_a0 dX12_least_142 (fun o163 m_o163 r_o163 ho163 => ?_)
                          refine tw_bipush F dX12_least_145 kb_13 (fun z164 hz164 => ?_)
                          refine lv_iload F.1 F.2.1 dX12_least_147 (lv_at hl 5 rfl) ?_
                          refine tu_imull F dX12_least_149 hz164 (by omega) (fun z165 hz165 => ?_)
                          refine tw_iconst F dX12_least_150 ki_1 (fun z166 hz166 => ?_)
                          refine tu_iadd F dX12_least_151 (by omega) (fun z167 hz167 => ?_)
                          refine lv_iload F.1 F.2.1 dX12_least_152 (lv_at hl 6 rfl) ?_
                          refine tu_iadd F dX12_least_154 (by omega) (fun z168 hz168 => ?_)
                          refine lv_aload_n F.1 F.2.1 dX12_least_155 rfl (lv_at hl 0 rfl) ?_
                          refine g_12_63 F h m_a0 r_a0 dX12_least_156 (fun o169 m_o169 r_o169 ho169 => ?_)
                          refine lv_iload F.1 F.2.1 dX12_least_159 (lv_at hl 6 rfl) ?_
                          refine ld_74 F h m_o169 r_o169 (by omega) dX12_least_161 (fun v170 => ?_)
                          refine st_84 F h m_o163 r_o163 (by omega) dX12_least_162 (fun f171 H locs hf171 h => ?_)
                          have hR : RBA GA f171 := hR.fm hf171 m_GA r_GA (by decide +kernel)
                          have hX : GZ GP GL f171 := hX.fm hf171 m_GP r_GP m_GL r_GL (by decide +kernel) (by decide +kernel)
                          have hLT : LT GT x2.toInt.toNat x3.toInt.toNat f171 := hLT.fm hf171 m_GT r_GT (by decide +kernel)
                          have hRB : RB GA 22410 f171 := hRB.fm hf171 m_GA r_GA (by decide +kernel)
                          have hk : fr L R [(12, 1), (12, 28), (12, 29), (12, 31), (12, 35), (12, 36), (12, 37), (12, 38), (12, 39), (12, 59)] [12, 61, 68, 69, 70, 73, 74, 76, 84] f0 f171 := hk.tr hf171 rfl rfl
                          have hb94 : fr L R [(12, 28), (12, 29), (12, 35), (12, 36), (12, 37), (12, 38), (12, 39)] [12, 61, 68, 69, 70, 73, 74, 76, 84] f47 f171 := hb94.tr hf171 rfl rfl
                          have hb132 : fr L R [] [84] f144 f171 := hb132.tr hf171 rfl rfl
                          have e172 : fld f171 a0 0 = .ref GA := (hf171.efl m_a0 r_a0 rfl).trans e155
                          have e173 : fld f171 a0 22 = .ref GP := (hf171.efl m_a0 r_a0 rfl).trans e156
                          have e174 : fld f171 a0 23 = .ref GL := (hf171.efl m_a0 r_a0 rfl).trans e157
                          have e175 : fld f171 a0 6 = .ref GT := (hf171.efl m_a0 r_a0 rfl).trans e158
                          have e176 : fi f171 a0 29 = fi f151 a0 29 := hf171.efi m_a0 r_a0 rfl
                          refine tu_iinc F dX12_least_163 hl (k := 6) rfl (by decide) ki_1 (by omega) (fun z177 ls hz177 hl => ?_)
                          have hl : lv_has ls 8 [(7, .int z177), (0, .ref a0), (1, .int x1), (2, .int x2), (3, .int x3), (4, .int z38), (6, .int x6_94)] := hl
                          refine lv_goto (tgt := 132) F.1 F.2.1 dX12_least_166 (by decide) ?_
                          exact ih132 f171 _ _ _ z177 (by omega) (by omega) (by omega) h hR hX hLT hRB hk hb132 (lv_sub hl [1, 2, 3, 4, 5, 6, 0] rfl)
                    have hb132 : fr L R [] [84] f144 f144 := fr.rf
                    exact j_132 (((12 - z150.toInt)).toNat + 1) f144 _ _ _ z150 (by omega) (by omega) (by omega) h hR hX hLT hRB hk hb132 (lv_sub hl [1, 2, 3, 4, 5, 6, 0] rfl)
              have hb94 : fr L R [(12, 28), (12, 29), (12, 35), (12, 36), (12, 37), (12, 38), (12, 39)] [12, 61, 68, 69, 70, 73, 74, 76, 84] f47 f47 := fr.rf
              exact j_94 (((15 - z53.toInt)).toNat + 1) f47 _ _ _ z53 (by omega) (by omega) (by omega) h hR hX hLT hRB hk hb94 (lv_sub hl [3, 4, 5, 6, 2, 0] rfl)
            · refine lv_aload_n F.1 F.2.1 dX12_least_76 rfl (lv_at hl 2 rfl) ?_
              refine lv_iload F.1 F.2.1 dX12_least_77 (lv_at hl 0 rfl) ?_
              refine tw_Vi (As := [.int v44]) F hZ h yk_X12_refuse mw_452 mw_453 mw_454 (s_X12_refuse l D cy L R O f0 a0 m_a0 r_a0 v44 ⟨by omega, by omega⟩) rfl rfl m_a0 r_a0 (fun e q => (T_12 e).mp q) rfl hl.1 rfl (Nat.le_of_ble_eq_true rfl) ⟨Nat.le_of_ble_eq_true rfl, Nat.le_of_ble_eq_true rfl⟩ ⟨Nat.le_of_ble_eq_true rfl, Nat.le_of_ble_eq_true rfl⟩ dX12_least_79 (fun v179 f178 H locs hp178 h => ?_)
              obtain ⟨hf178, hv179a, hv179b⟩ := hp178
              have hR : RBA GA f178 := hR.fm hf178 m_GA r_GA (by decide +kernel)
              have hX : GZ GP GL f178 := hX.fm hf178 m_GP r_GP m_GL r_GL (by decide +kernel) (by decide +kernel)
              have hk : fr L R [(12, 1), (12, 28), (12, 29), (12, 31), (12, 35), (12, 36), (12, 37), (12, 38), (12, 39), (12, 59)] [12, 61, 68, 69, 70, 73, 74, 76, 84] f0 f178 := hk.tr hf178 rfl rfl
              have e180 : fld f178 a0 0 = .ref GA := (hf178.efl m_a0 r_a0 rfl).trans t_GA
              have e181 : fld f178 a0 22 = .ref GP := (hf178.efl m_a0 r_a0 rfl).trans t_GP
              have e182 : fld f178 a0 23 = .ref GL := (hf178.efl m_a0 r_a0 rfl).trans t_GL
              have e183 : fld f178 a0 6 = .ref GT := (hf178.efl m_a0 r_a0 rfl).trans t_GT
              exact hret f178 _ _ _ _ v179 dX12_least_82 rfl ⟨hk, hR, hX⟩ h
          · refine lv_aload_n F.1 F.2.1 dX12_least_54 rfl (lv_at hl 1 rfl) ?_
            refine tw_iconst F dX12_least_55 ki_4 (fun z184 hz184 => ?_)
            refine tw_Vi (As := [.int z184]) F hZ h yk_X12_refuse mw_452 mw_453 mw_454 (s_X12_refuse l D cy L R O f0 a0 m_a0 r_a0 z184 ⟨by omega, by omega⟩) rfl rfl m_a0 r_a0 (fun e q => (T_12 e).mp q) rfl hl.1 rfl (Nat.le_of_ble_eq_true rfl) ⟨Nat.le_of_ble_eq_true rfl, Nat.le_of_ble_eq_true rfl⟩ ⟨Nat.le_of_ble_eq_true rfl, Nat.le_of_ble_eq_true rfl⟩ dX12_least_56 (fun v186 f185 H locs hp185 h => ?_)
            obtain ⟨hf185, hv186a, hv186b⟩ := hp185
            have hR : RBA GA f185 := hR.fm hf185 m_GA r_GA (by decide +kernel)
            have hX : GZ GP GL f185 := hX.fm hf185 m_GP r_GP m_GL r_GL (by decide +kernel) (by decide +kernel)
            have hk : fr L R [(12, 1), (12, 28), (12, 29), (12, 31), (12, 35), (12, 36), (12, 37), (12, 38), (12, 39), (12, 59)] [12, 61, 68, 69, 70, 73, 74, 76, 84] f0 f185 := hk.tr hf185 rfl rfl
            have e187 : fld f185 a0 0 = .ref GA := (hf185.efl m_a0 r_a0 rfl).trans t_GA
            have e188 : fld f185 a0 22 = .ref GP := (hf185.efl m_a0 r_a0 rfl).trans t_GP
            have e189 : fld f185 a0 23 = .ref GL := (hf185.efl m_a0 r_a0 rfl).trans t_GL
            have e190 : fld f185 a0 6 = .ref GT := (hf185.efl m_a0 r_a0 rfl).trans t_GT
            exact hret f185 _ _ _ _ v186 dX12_least_59 rfl ⟨hk, hR, hX⟩ h
        · refine lv_aload_n F.1 F.2.1 dX12_least_26 rfl (lv_at hl 0 rfl) ?_
          refine tw_iconst F dX12_least_27 ki_1 (fun z191 hz191 => ?_)
          refine tw_Vi (As := [.int z191]) F hZ h yk_X12_refuse mw_452 mw_453 mw_454 (s_X12_refuse l D cy L R O f0 a0 m_a0 r_a0 z191 ⟨by omega, by omega⟩) rfl rfl m_a0 r_a0 (fun e q => (T_12 e).mp q) rfl hl.1 rfl (Nat.le_of_ble_eq_true rfl) ⟨Nat.le_of_ble_eq_true rfl, Nat.le_of_ble_eq_true rfl⟩ ⟨Nat.le_of_ble_eq_true rfl, Nat.le_of_ble_eq_true rfl⟩ dX12_least_28 (fun v193 f192 H locs hp192 h => ?_)
          obtain ⟨hf192, hv193a, hv193b⟩ := hp192
          have hR : RBA GA f192 := hR.fm hf192 m_GA r_GA (by decide +kernel)
          have hX : GZ GP GL f192 := hX.fm hf192 m_GP r_GP m_GL r_GL (by decide +kernel) (by decide +kernel)
          have hk : fr L R [(12, 1), (12, 28), (12, 29), (12, 31), (12, 35), (12, 36), (12, 37), (12, 38), (12, 39), (12, 59)] [12, 61, 68, 69, 70, 73, 74, 76, 84] f0 f192 := hk.tr hf192 rfl rfl
          have e194 : fld f192 a0 0 = .ref GA := (hf192.efl m_a0 r_a0 rfl).trans t_GA
          have e195 : fld f192 a0 22 = .ref GP := (hf192.efl m_a0 r_a0 rfl).trans t_GP
          have e196 : fld f192 a0 23 = .ref GL := (hf192.efl m_a0 r_a0 rfl).trans t_GL
          have e197 : fld f192 a0 6 = .ref GT := (hf192.efl m_a0 r_a0 rfl).trans t_GT
          exact hret f192 _ _ _ _ v193 dX12_least_31 rfl ⟨hk, hR, hX⟩ h
theorem dX12_saysTalk_0 : decode cX12_saysTalk 0 = .ok (.aload_n 0, 1) := by decide +kernel
theorem dX12_saysTalk_1 : decode cX12_saysTalk 1 = .ok (.iload_n 1, 1) := by decide +kernel
theorem dX12_saysTalk_2 : decode cX12_saysTalk 2 = .ok (.sipush 22410, 3) := by decide +kernel
theorem dX12_saysTalk_5 : decode cX12_saysTalk 5 = .ok (.invokevirtual 409, 3) := by decide +kernel
theorem dX12_saysTalk_8 : decode cX12_saysTalk 8 = .ok (.iconst 0, 1) := by decide +kernel
theorem dX12_saysTalk_9 : decode cX12_saysTalk 9 = .ok (.istore_n 2, 1) := by decide +kernel
theorem dX12_saysTalk_10 : decode cX12_saysTalk 10 = .ok (.iload_n 2, 1) := by decide +kernel
theorem dX12_saysTalk_11 : decode cX12_saysTalk 11 = .ok (.aload_n 0, 1) := by decide +kernel
theorem dX12_saysTalk_12 : decode cX12_saysTalk 12 = .ok (.getfield 416, 3) := by decide +kernel
theorem dX12_saysTalk_15 : decode cX12_saysTalk 15 = .ok (.if_icmp .ge 153, 3) := by decide +kernel
theorem dX12_saysTalk_168 : decode cX12_saysTalk 168 = .ok (.iconst 1, 1) := by decide +kernel
theorem dX12_saysTalk_169 : decode cX12_saysTalk 169 = .ok (.ireturn, 1) := by decide +kernel
theorem dX12_saysTalk_18 : decode cX12_saysTalk 18 = .ok (.bipush 26, 2) := by decide +kernel
theorem dX12_saysTalk_20 : decode cX12_saysTalk 20 = .ok (.iload_n 2, 1) := by decide +kernel
theorem dX12_saysTalk_21 : decode cX12_saysTalk 21 = .ok (.imul, 1) := by decide +kernel
theorem dX12_saysTalk_22 : decode cX12_saysTalk 22 = .ok (.istore_n 3, 1) := by decide +kernel
theorem dX12_saysTalk_23 : decode cX12_saysTalk 23 = .ok (.aload_n 0, 1) := by decide +kernel
theorem dX12_saysTalk_24 : decode cX12_saysTalk 24 = .ok (.aload_n 0, 1) := by decide +kernel
theorem dX12_saysTalk_25 : decode cX12_saysTalk 25 = .ok (.getfield 84, 3) := by decide +kernel
theorem dX12_saysTalk_28 : decode cX12_saysTalk 28 = .ok (.iload_n 3, 1) := by decide +kernel
theorem dX12_saysTalk_29 : decode cX12_saysTalk 29 = .ok (.laload, 1) := by decide +kernel
theorem dX12_saysTalk_30 : decode cX12_saysTalk 30 = .ok (.l2i, 1) := by decide +kernel
theorem dX12_saysTalk_31 : decode cX12_saysTalk 31 = .ok (.putfield 298, 3) := by decide +kernel
theorem dX12_saysTalk_34 : decode cX12_saysTalk 34 = .ok (.iconst 0, 1) := by decide +kernel
theorem dX12_saysTalk_35 : decode cX12_saysTalk 35 = .ok (.istore 4, 2) := by decide +kernel
theorem dX12_saysTalk_37 : decode cX12_saysTalk 37 = .ok (.iload 4, 2) := by decide +kernel
theorem dX12_saysTalk_39 : decode cX12_saysTalk 39 = .ok (.aload_n 0, 1) := by decide +kernel
theorem dX12_saysTalk_40 : decode cX12_saysTalk 40 = .ok (.getfield 298, 3) := by decide +kernel
theorem dX12_saysTalk_43 : decode cX12_saysTalk 43 = .ok (.if_icmp .ge 27, 3) := by decide +kernel
theorem dX12_saysTalk_70 : decode cX12_saysTalk 70 = .ok (.aload_n 0, 1) := by decide +kernel
theorem dX12_saysTalk_71 : decode cX12_saysTalk 71 = .ok (.sipush 22410, 3) := by decide +kernel
theorem dX12_saysTalk_74 : decode cX12_saysTalk 74 = .ok (.invokevirtual 387, 3) := by decide +kernel
theorem dX12_saysTalk_77 : decode cX12_saysTalk 77 = .ok (.aload_n 0, 1) := by decide +kernel
theorem dX12_saysTalk_78 : decode cX12_saysTalk 78 = .ok (.getfield 324, 3) := by decide +kernel
theorem dX12_saysTalk_81 : decode cX12_saysTalk 81 = .ok (.i2l, 1) := by decide +kernel
theorem dX12_saysTalk_82 : decode cX12_saysTalk 82 = .ok (.aload_n 0, 1) := by decide +kernel
theorem dX12_saysTalk_83 : decode cX12_saysTalk 83 = .ok (.getfield 84, 3) := by decide +kernel
theorem dX12_saysTalk_86 : decode cX12_saysTalk 86 = .ok (.iload_n 3, 1) := by decide +kernel
theorem dX12_saysTalk_87 : decode cX12_saysTalk 87 = .ok (.bipush 13, 2) := by decide +kernel
theorem dX12_saysTalk_89 : decode cX12_saysTalk 89 = .ok (.iadd, 1) := by decide +kernel
theorem dX12_saysTalk_90 : decode cX12_saysTalk 90 = .ok (.laload, 1) := by decide +kernel
theorem dX12_saysTalk_91 : decode cX12_saysTalk 91 = .ok (.lcmp, 1) := by decide +kernel
theorem dX12_saysTalk_100 : decode cX12_saysTalk 100 = .ok (.istore 4, 2) := by decide +kernel
theorem dX12_saysTalk_102 : decode cX12_saysTalk 102 = .ok (.iconst 0, 1) := by decide +kernel
theorem dX12_saysTalk_103 : decode cX12_saysTalk 103 = .ok (.istore 5, 2) := by decide +kernel
theorem dX12_saysTalk_105 : decode cX12_saysTalk 105 = .ok (.iload 5, 2) := by decide +kernel
theorem dX12_saysTalk_107 : decode cX12_saysTalk 107 = .ok (.aload_n 0, 1) := by decide +kernel
theorem dX12_saysTalk_108 : decode cX12_saysTalk 108 = .ok (.getfield 324, 3) := by decide +kernel
theorem dX12_saysTalk_155 : decode cX12_saysTalk 155 = .ok (.iload 4, 2) := by decide +kernel
theorem dX12_saysTalk_157 : decode cX12_saysTalk 157 = .ok (.ifCond .ne 5, 3) := by decide +kernel
theorem dX12_saysTalk_162 : decode cX12_saysTalk 162 = .ok (.iinc 2 1, 3) := by decide +kernel
theorem dX12_saysTalk_165 : decode cX12_saysTalk 165 = .ok (.goto (-155), 3) := by decide +kernel
theorem dX12_saysTalk_160 : decode cX12_saysTalk 160 = .ok (.iconst 0, 1) := by decide +kernel
theorem dX12_saysTalk_161 : decode cX12_saysTalk 161 = .ok (.ireturn, 1) := by decide +kernel
theorem dX12_saysTalk_111 : decode cX12_saysTalk 111 = .ok (.if_icmp .ge 44, 3) := by decide +kernel
theorem dX12_saysTalk_114 : decode cX12_saysTalk 114 = .ok (.iload 4, 2) := by decide +kernel
theorem dX12_saysTalk_116 : decode cX12_saysTalk 116 = .ok (.ifCond .eq 39, 3) := by decide +kernel
theorem dX12_saysTalk_119 : decode cX12_saysTalk 119 = .ok (.aload_n 0, 1) := by decide +kernel
theorem dX12_saysTalk_120 : decode cX12_saysTalk 120 = .ok (.getfield 63, 3) := by decide +kernel
theorem dX12_saysTalk_123 : decode cX12_saysTalk 123 = .ok (.iload 5, 2) := by decide +kernel
theorem dX12_saysTalk_125 : decode cX12_saysTalk 125 = .ok (.laload, 1) := by decide +kernel
theorem dX12_saysTalk_126 : decode cX12_saysTalk 126 = .ok (.aload_n 0, 1) := by decide +kernel
theorem dX12_saysTalk_127 : decode cX12_saysTalk 127 = .ok (.getfield 84, 3) := by decide +kernel
theorem dX12_saysTalk_130 : decode cX12_saysTalk 130 = .ok (.iload_n 3, 1) := by decide +kernel
theorem dX12_saysTalk_131 : decode cX12_saysTalk 131 = .ok (.bipush 14, 2) := by decide +kernel
theorem dX12_saysTalk_133 : decode cX12_saysTalk 133 = .ok (.iadd, 1) := by decide +kernel
theorem dX12_saysTalk_134 : decode cX12_saysTalk 134 = .ok (.iload 5, 2) := by decide +kernel
theorem dX12_saysTalk_136 : decode cX12_saysTalk 136 = .ok (.iadd, 1) := by decide +kernel
theorem dX12_saysTalk_137 : decode cX12_saysTalk 137 = .ok (.laload, 1) := by decide +kernel
theorem dX12_saysTalk_138 : decode cX12_saysTalk 138 = .ok (.lcmp, 1) := by decide +kernel
theorem dX12_saysTalk_147 : decode cX12_saysTalk 147 = .ok (.istore 4, 2) := by decide +kernel
theorem dX12_saysTalk_149 : decode cX12_saysTalk 149 = .ok (.iinc 5 1, 3) := by decide +kernel
theorem dX12_saysTalk_152 : decode cX12_saysTalk 152 = .ok (.goto (-47), 3) := by decide +kernel
theorem dX12_saysTalk_139 : decode cX12_saysTalk 139 = .ok (.ifCond .ne 7, 3) := by decide +kernel
theorem dX12_saysTalk_146 : decode cX12_saysTalk 146 = .ok (.iconst 0, 1) := by decide +kernel
theorem dX12_saysTalk_142 : decode cX12_saysTalk 142 = .ok (.iconst 1, 1) := by decide +kernel
theorem dX12_saysTalk_143 : decode cX12_saysTalk 143 = .ok (.goto 4, 3) := by decide +kernel
theorem dX12_saysTalk_92 : decode cX12_saysTalk 92 = .ok (.ifCond .ne 7, 3) := by decide +kernel
theorem dX12_saysTalk_99 : decode cX12_saysTalk 99 = .ok (.iconst 0, 1) := by decide +kernel
theorem dX12_saysTalk_95 : decode cX12_saysTalk 95 = .ok (.iconst 1, 1) := by decide +kernel
theorem dX12_saysTalk_96 : decode cX12_saysTalk 96 = .ok (.goto 4, 3) := by decide +kernel
theorem dX12_saysTalk_46 : decode cX12_saysTalk 46 = .ok (.aload_n 0, 1) := by decide +kernel
theorem dX12_saysTalk_47 : decode cX12_saysTalk 47 = .ok (.getfield 60, 3) := by decide +kernel
theorem dX12_saysTalk_50 : decode cX12_saysTalk 50 = .ok (.iload 4, 2) := by decide +kernel
theorem dX12_saysTalk_52 : decode cX12_saysTalk 52 = .ok (.aload_n 0, 1) := by decide +kernel
theorem dX12_saysTalk_53 : decode cX12_saysTalk 53 = .ok (.getfield 84, 3) := by decide +kernel
theorem dX12_saysTalk_56 : decode cX12_saysTalk 56 = .ok (.iload_n 3, 1) := by decide +kernel
theorem dX12_saysTalk_57 : decode cX12_saysTalk 57 = .ok (.iconst 1, 1) := by decide +kernel
theorem dX12_saysTalk_58 : decode cX12_saysTalk 58 = .ok (.iadd, 1) := by decide +kernel
theorem dX12_saysTalk_59 : decode cX12_saysTalk 59 = .ok (.iload 4, 2) := by decide +kernel
theorem dX12_saysTalk_61 : decode cX12_saysTalk 61 = .ok (.iadd, 1) := by decide +kernel
theorem dX12_saysTalk_62 : decode cX12_saysTalk 62 = .ok (.laload, 1) := by decide +kernel
theorem dX12_saysTalk_63 : decode cX12_saysTalk 63 = .ok (.lastore, 1) := by decide +kernel
theorem dX12_saysTalk_64 : decode cX12_saysTalk 64 = .ok (.iinc 4 1, 3) := by decide +kernel
theorem dX12_saysTalk_67 : decode cX12_saysTalk 67 = .ok (.goto (-30), 3) := by decide +kernel
def rm_X12_saysTalk : Room := { frames := 6, cells := 0, slots := 0, locals := 150 }
set_option maxHeartbeats 4000000 in
set_option maxRecDepth 100000 in
theorem s_X12_saysTalk (l : Launch) (D : va_G) (cy : Nat → ClassId) (L : List Nat) (R O : Nat → Nat) (f0 : Nat → va_E) (a0 : Nat) (m_a0 : a0 ∈ L) (r_a0 : R a0 = 12) (x1 : Int32) (b1 : 0 ≤ x1.toInt ∧ x1.toInt ≤ 2) (GA : Nat) (m_GA : GA ∈ L) (r_GA : R GA = 61) (t_GA : fld f0 a0 0 = .ref GA) (GP : Nat) (m_GP : GP ∈ L) (r_GP : R GP = 69) (t_GP : fld f0 a0 22 = .ref GP) (GL : Nat) (m_GL : GL ∈ L) (r_GL : R GL = 70) (t_GL : fld f0 a0 23 = .ref GL) (GT : Nat) (m_GT : GT ∈ L) (r_GT : R GT = 64) (t_GT : fld f0 a0 6 = .ref GT) (pre0 : GZ GP GL f0) (pre1 : RBA GA f0) : ∀ sz, Met l yX12_saysTalk (Cond.code yX12_saysTalk cX12_saysTalk 6 (some .boolean) :: wsL_law) rm_X12_saysTalk (va_Pc [.ref a0, .int x1] (tPZ D cy L R (TT cy L R) f0 sz)) (va_Qi (fun (r : Int32) f1 => fr L R [(12, 28), (12, 29), (12, 35), (12, 36), (12, 37), (12, 38), (12, 39)] [12, 61, 68, 69, 70, 73, 74, 76] f0 f1 ∧ 0 ≤ r.toInt ∧ r.toInt ≤ 1 ∧ GZ GP GL f1 ∧ KW (20760) (25710) GA f0 f1) (tB D (tA L sz) L R (TT cy L R)) (tA L sz)) 0 0 (tA L sz) := by
  refine tw_enteri (by decide +kernel) rfl (Nat.le_of_ble_eq_true rfl) ?_
  intro p e s m below meth c A ls args Q F hZ h hl hret
  have hl : lv_has ls 6 [(0, .ref a0), (1, .int x1)] := hl
  have hk : fr L R [(12, 28), (12, 29), (12, 35), (12, 36), (12, 37), (12, 38), (12, 39)] [12, 61, 68, 69, 70, 73, 74, 76] f0 f0 := fr.rf
  have hX := pre0
  have hA : KW (20760) (25710) GA f0 f0 := KW.rf
  have hR := pre1
  refine lv_aload_n F.1 F.2.1 dX12_saysTalk_0 rfl (lv_at hl 0 rfl) ?_
  refine lv_iload_n F.1 F.2.1 dX12_saysTalk_1 rfl (lv_at hl 1 rfl) ?_
  refine tw_sipush F dX12_saysTalk_2 ks_22410 (fun z1 hz1 => ?_)
  refine tw_Vv (As := [.int x1, .int z1]) F hZ h yk_X12_works mw_1187 mw_1188 mw_1189 (s_X12_works l D cy L R O f0 a0 m_a0 r_a0 x1 ⟨by omega, by omega⟩ z1 ⟨by omega, by omega⟩ GA m_GA r_GA t_GA GP m_GP r_GP t_GP GL m_GL r_GL t_GL GT m_GT r_GT t_GT (isB_e isB_w (by omega)) (hR.s (by omega))) rfl rfl m_a0 r_a0 (fun e q => (T_12 e).mp q) rfl hl.1 rfl (Nat.le_of_ble_eq_true rfl) ⟨Nat.le_of_ble_eq_true rfl, Nat.le_of_ble_eq_true rfl⟩ ⟨Nat.le_of_ble_eq_true rfl, Nat.le_of_ble_eq_true rfl⟩ dX12_saysTalk_5 (fun f2 H locs hp2 h => ?_)
  obtain ⟨hf2, hv3p0, hv3p1⟩ := hp2
  have hX : GZ GP GL f2 := hX.fm hf2 m_GP r_GP m_GL r_GL (by decide +kernel) (by decide +kernel)
  have hA : KW (20760) (25710) GA f0 f2 := hA.sub hv3p0 (by omega) (by omega)
  have hR : RBA GA f2 := hR.kw hv3p0 (Or.inl (by omega))
  have hk : fr L R [(12, 28), (12, 29), (12, 35), (12, 36), (12, 37), (12, 38), (12, 39)] [12, 61, 68, 69, 70, 73, 74, 76] f0 f2 := hk.tr hf2 rfl rfl
  have e4 : fld f2 a0 0 = .ref GA := (hf2.efl m_a0 r_a0 rfl).trans t_GA
  have e5 : fld f2 a0 22 = .ref GP := (hf2.efl m_a0 r_a0 rfl).trans t_GP
  have e6 : fld f2 a0 23 = .ref GL := (hf2.efl m_a0 r_a0 rfl).trans t_GL
  have e7 : fld f2 a0 6 = .ref GT := (hf2.efl m_a0 r_a0 rfl).trans t_GT
  have hRB : RB GA 22410 f2 := by have q := hv3p1; rw [show z1.toInt.toNat = 22410 by omega] at q; exact q
  refine tw_iconst F dX12_saysTalk_8 ki_0 (fun z8 hz8 => ?_)
  refine lv_istore_n (lv' := [(2, .int z8), (0, .ref a0), (1, .int x1)]) F.1 F.2.1 dX12_saysTalk_9 rfl hl (by decide) rfl (fun ls hl => ?_)
  have j_10 : ∀ (n10 : Nat) (f9 : Nat → va_E) (H : Heap) (locs : List Loc) (ls : Array Slot) (x2_10 : Int32), 0 ≤ x2_10.toInt → x2_10.toInt ≤ 15 → ((15 - x2_10.toInt)).toNat < n10 → tS D cy A s.heap L R (TT cy L R) f9 s H locs → GZ GP GL f9 → KW (20760) (25710) GA f0 f9 → RBA GA f9 → RB GA 22410 f9 → fr L R [(12, 28), (12, 29), (12, 35), (12, 36), (12, 37), (12, 38), (12, 39)] [12, 61, 68, 69, 70, 73, 74, 76] f0 f9 → fr L R [(12, 28), (12, 29), (12, 35), (12, 36), (12, 37), (12, 38), (12, 39)] [12, 61, 68, 69, 70, 73, 74, 76] f2 f9 → lv_has ls 6 [(0, .ref a0), (2, .int x2_10)] → W p l e rm_X12_saysTalk s m args below meth c H locs 0 0 Q (F0 m 10 ls []) := by
    intro n10
    induction n10 with
    | zero =>
      intro f9 H locs ls x2_10 b10 b11 b12 h hX hA hR hRB hk hb10 hl
      exfalso
      omega
    | succ n10 ih10 =>
      intro f9 H locs ls x2_10 b10 b11 b12 h hX hA hR hRB hk hb10 hl
      have e13 : fld f9 a0 0 = .ref GA := (hb10.efl m_a0 r_a0 rfl).trans e4
      have e14 : fld f9 a0 22 = .ref GP := (hb10.efl m_a0 r_a0 rfl).trans e5
      have e15 : fld f9 a0 23 = .ref GL := (hb10.efl m_a0 r_a0 rfl).trans e6
      have e16 : fld f9 a0 6 = .ref GT := (hb10.efl m_a0 r_a0 rfl).trans e7
      refine lv_iload_n F.1 F.2.1 dX12_saysTalk_10 rfl (lv_at hl 1 rfl) ?_
      refine lv_aload_n F.1 F.2.1 dX12_saysTalk_11 rfl (lv_at hl 0 rfl) ?_
      refine g_12_416 F h m_a0 r_a0 dX12_saysTalk_12 (fun v17 hv17 hv17a hv17b => ?_)
      refine tw_icmp_ge (tgt := 168) F dX12_saysTalk_15 (by decide) (fun b18 => ?_) (fun b18 => ?_)
      · refine tw_iconst F dX12_saysTalk_168 ki_1 (fun z19 hz19 => ?_)
        exact hret f9 _ _ _ _ z19 dX12_saysTalk_169 (tw_nb (by omega)) ⟨hk, by omega, by omega, hX, hA⟩ h
      · refine tw_bipush F dX12_saysTalk_18 kb_26 (fun z20 hz20 => ?_)
        refine lv_iload_n F.1 F.2.1 dX12_saysTalk_20 rfl (lv_at hl 1 rfl) ?_
        refine tu_imull F dX12_saysTalk_21 hz20 (by omega) (fun z21 hz21 => ?_)
        refine lv_istore_n (lv' := [(3, .int z21), (0, .ref a0), (2, .int x2_10)]) F.1 F.2.1 dX12_saysTalk_22 rfl hl (by decide) rfl (fun ls hl => ?_)
        refine lv_aload_n F.1 F.2.1 dX12_saysTalk_23 rfl (lv_at hl 1 rfl) ?_
        refine lv_aload_n F.1 F.2.1 dX12_saysTalk_24 rfl (lv_at hl 1 rfl) ?_
        refine g_12_84 F h m_a0 r_a0 dX12_saysTalk_25 (fun o22 m_o22 r_o22 ho22 => ?_)
        refine lv_iload_n F.1 F.2.1 dX12_saysTalk_28 rfl (lv_at hl 0 rfl) ?_
        refine ld_78 F h m_o22 r_o22 (by omega) dX12_saysTalk_29 (fun v23 hv23a => ?_)
        have hv23b := hv23a (by omega)
        refine tw_l2i F dX12_saysTalk_30 (by omega) (by omega) (fun z24 hz24 => ?_)
        refine p_12_298 F h m_a0 r_a0 (by omega) dX12_saysTalk_31 (fun f25 H locs e25p hf25 h => ?_)
        have hX : GZ GP GL f25 := hX.fm hf25 m_GP r_GP m_GL r_GL (by decide +kernel) (by decide +kernel)
        have hA : KW (20760) (25710) GA f0 f25 := hA.fm hf25 m_GA r_GA (by decide +kernel)
        have hR : RBA GA f25 := hR.fm hf25 m_GA r_GA (by decide +kernel)
        have hRB : RB GA 22410 f25 := hRB.fm hf25 m_GA r_GA (by decide +kernel)
        have hk : fr L R [(12, 28), (12, 29), (12, 35), (12, 36), (12, 37), (12, 38), (12, 39)] [12, 61, 68, 69, 70, 73, 74, 76] f0 f25 := hk.tr hf25 rfl rfl
        have hb10 : fr L R [(12, 28), (12, 29), (12, 35), (12, 36), (12, 37), (12, 38), (12, 39)] [12, 61, 68, 69, 70, 73, 74, 76] f2 f25 := hb10.tr hf25 rfl rfl
        have e26 : fld f25 a0 0 = .ref GA := (hf25.efl m_a0 r_a0 rfl).trans e13
        have e27 : fld f25 a0 22 = .ref GP := (hf25.efl m_a0 r_a0 rfl).trans e14
        have e28 : fld f25 a0 23 = .ref GL := (hf25.efl m_a0 r_a0 rfl).trans e15
        have e29 : fld f25 a0 6 = .ref GT := (hf25.efl m_a0 r_a0 rfl).trans e16
        refine tw_iconst F dX12_saysTalk_34 ki_0 (fun z30 hz30 => ?_)
        refine lv_istore (lv' := [(4, .int z30), (3, .int z21), (0, .ref a0), (2, .int x2_10)]) F.1 F.2.1 dX12_saysTalk_35 hl (by decide) rfl (fun ls hl => ?_)
        have j_37 : ∀ (n37 : Nat) (f31 : Nat → va_E) (H : Heap) (locs : List Loc) (ls : Array Slot) (x4_37 : Int32), 0 ≤ x4_37.toInt → x4_37.toInt ≤ 12 → ((12 - x4_37.toInt)).toNat < n37 → tS D cy A s.heap L R (TT cy L R) f31 s H locs → GZ GP GL f31 → KW (20760) (25710) GA f0 f31 → RBA GA f31 → RB GA 22410 f31 → fr L R [(12, 28), (12, 29), (12, 35), (12, 36), (12, 37), (12, 38), (12, 39)] [12, 61, 68, 69, 70, 73, 74, 76] f0 f31 → fr L R [] [73] f25 f31 → lv_has ls 6 [(0, .ref a0), (2, .int x2_10), (3, .int z21), (4, .int x4_37)] → W p l e rm_X12_saysTalk s m args below meth c H locs 0 0 Q (F0 m 37 ls []) := by
          intro n37
          induction n37 with
          | zero =>
            intro f31 H locs ls x4_37 b32 b33 b34 h hX hA hR hRB hk hb37 hl
            exfalso
            omega
          | succ n37 ih37 =>
            intro f31 H locs ls x4_37 b32 b33 b34 h hX hA hR hRB hk hb37 hl
            have hb10 : fr L R [(12, 28), (12, 29), (12, 35), (12, 36), (12, 37), (12, 38), (12, 39)] [12, 61, 68, 69, 70, 73, 74, 76] f2 f31 := hb10.tr hb37 rfl rfl
            have e35 : fld f31 a0 0 = .ref GA := (hb37.efl m_a0 r_a0 rfl).trans e26
            have e36 : fld f31 a0 22 = .ref GP := (hb37.efl m_a0 r_a0 rfl).trans e27
            have e37 : fld f31 a0 23 = .ref GL := (hb37.efl m_a0 r_a0 rfl).trans e28
            have e38 : fld f31 a0 6 = .ref GT := (hb37.efl m_a0 r_a0 rfl).trans e29
            refine lv_iload F.1 F.2.1 dX12_saysTalk_37 (lv_at hl 3 rfl) ?_
            refine lv_aload_n F.1 F.2.1 dX12_saysTalk_39 rfl (lv_at hl 0 rfl) ?_
            refine g_12_298 F h m_a0 r_a0 dX12_saysTalk_40 (fun v39 hv39 hv39a hv39b => ?_)
            refine tw_icmp_ge (tgt := 70) F dX12_saysTalk_43 (by decide) (fun b40 => ?_) (fun b40 => ?_)
            · refine lv_aload_n F.1 F.2.1 dX12_saysTalk_70 rfl (lv_at hl 0 rfl) ?_
              refine tw_sipush F dX12_saysTalk_71 ks_22410 (fun z41 hz41 => ?_)
              refine tw_Vv (As := [.int z41]) F hZ h yk_X12_answers0 mw_1057 mw_1058 mw_1059 (s_X12_answers0 l D cy L R O f31 a0 m_a0 r_a0 z41 ⟨by omega, by omega⟩ GA m_GA r_GA e35 GP m_GP r_GP e36 GL m_GL r_GL e37 GT m_GT r_GT e38 (isB_e isB_w (by omega)) (by rw [show z41.toInt.toNat = 22410 by omega]; exact hRB) hX) rfl rfl m_a0 r_a0 (fun e q => (T_12 e).mp q) rfl hl.1 rfl (Nat.le_of_ble_eq_true rfl) ⟨Nat.le_of_ble_eq_true rfl, Nat.le_of_ble_eq_true rfl⟩ ⟨Nat.le_of_ble_eq_true rfl, Nat.le_of_ble_eq_true rfl⟩ dX12_saysTalk_74 (fun f42 H locs hp42 h => ?_)
              obtain ⟨hf42, hv43p0, hv43p1⟩ := hp42
              have hX : GZ GP GL f42 := hv43p0
              have hA : KW (20760) (25710) GA f0 f42 := hA.sub hv43p1 (by omega) (by omega)
              have hR : RBA GA f42 := hR.kw hv43p1 (Or.inl (by omega))
              have hRB : RB GA 22410 f42 := hRB.kw hv43p1 (by omega)
              have hk : fr L R [(12, 28), (12, 29), (12, 35), (12, 36), (12, 37), (12, 38), (12, 39)] [12, 61, 68, 69, 70, 73, 74, 76] f0 f42 := hk.tr hf42 (by decide +kernel) (by decide +kernel)
              have hb10 : fr L R [(12, 28), (12, 29), (12, 35), (12, 36), (12, 37), (12, 38), (12, 39)] [12, 61, 68, 69, 70, 73, 74, 76] f2 f42 := hb10.tr hf42 (by decide +kernel) (by decide +kernel)
              have e44 : fld f42 a0 0 = .ref GA := (hf42.efl m_a0 r_a0 rfl).trans e35
              have e45 : fld f42 a0 22 = .ref GP := (hf42.efl m_a0 r_a0 rfl).trans e36
              have e46 : fld f42 a0 23 = .ref GL := (hf42.efl m_a0 r_a0 rfl).trans e37
              have e47 : fld f42 a0 6 = .ref GT := (hf42.efl m_a0 r_a0 rfl).trans e38
              refine lv_aload_n F.1 F.2.1 dX12_saysTalk_77 rfl (lv_at hl 0 rfl) ?_
              refine g_12_324 F h m_a0 r_a0 dX12_saysTalk_78 (fun v48 hv48 hv48a hv48b => ?_)
              refine tw_i2l F dX12_saysTalk_81 (fun z49 hz49 => ?_)
              refine lv_aload_n F.1 F.2.1 dX12_saysTalk_82 rfl (lv_at hl 0 rfl) ?_
              refine g_12_84 F h m_a0 r_a0 dX12_saysTalk_83 (fun o50 m_o50 r_o50 ho50 => ?_)
              refine lv_iload_n F.1 F.2.1 dX12_saysTalk_86 rfl (lv_at hl 2 rfl) ?_
              refine tw_bipush F dX12_saysTalk_87 kb_13 (fun z51 hz51 => ?_)
              refine tu_iadd F dX12_saysTalk_89 (by omega) (fun z52 hz52 => ?_)
              refine ld_78 F h m_o50 r_o50 (by omega) dX12_saysTalk_90 (fun v53 hv53a => ?_)
              have hv53b := hv53a (by omega)
              refine tw_lcmp F dX12_saysTalk_91 (fun z54 hz54 => ?_)
              have j_100 : ∀ (ls : Array Slot) (y0_100 : Int32), 0 ≤ y0_100.toInt → y0_100.toInt ≤ 1 → lv_has ls 6 [(0, .ref a0), (2, .int x2_10), (3, .int z21)] → W p l e rm_X12_saysTalk s m args below meth c H locs 0 0 Q (F0 m 100 ls [.int y0_100]) := by
                intro ls y0_100 b55 b56 hl
                refine lv_istore (lv' := [(4, .int y0_100), (0, .ref a0), (2, .int x2_10), (3, .int z21)]) F.1 F.2.1 dX12_saysTalk_100 hl (by decide) rfl (fun ls hl => ?_)
                refine tw_iconst F dX12_saysTalk_102 ki_0 (fun z57 hz57 => ?_)
                refine lv_istore (lv' := [(5, .int z57), (4, .int y0_100), (0, .ref a0), (2, .int x2_10), (3, .int z21)]) F.1 F.2.1 dX12_saysTalk_103 hl (by decide) rfl (fun ls hl => ?_)
                have j_105 : ∀ (n105 : Nat) (ls : Array Slot) (x4_105 : Int32) (x5_105 : Int32), 0 ≤ x4_105.toInt → x4_105.toInt ≤ 1 → 0 ≤ x5_105.toInt → x5_105.toInt ≤ 12 → ((12 - x5_105.toInt)).toNat < n105 → lv_has ls 6 [(0, .ref a0), (2, .int x2_10), (3, .int z21), (4, .int x4_105), (5, .int x5_105)] → W p l e rm_X12_saysTalk s m args below meth c H locs 0 0 Q (F0 m 105 ls []) := by
                  intro n105
                  induction n105 with
                  | zero =>
                    intro ls x4_105 x5_105 b58 b59 b60 b61 b62 hl
                    exfalso
                    omega
                  | succ n105 ih105 =>
                    intro ls x4_105 x5_105 b58 b59 b60 b61 b62 hl
                    refine lv_iload F.1 F.2.1 dX12_saysTalk_105 (lv_at hl 4 rfl) ?_
                    refine lv_aload_n F.1 F.2.1 dX12_saysTalk_107 rfl (lv_at hl 0 rfl) ?_
                    refine g_12_324 F h m_a0 r_a0 dX12_saysTalk_108 (fun v63 hv63 hv63a hv63b => ?_)
                    have j_155 : ∀ (ls : Array Slot), lv_has ls 6 [(0, .ref a0), (2, .int x2_10), (4, .int x4_105)] → W p l e rm_X12_saysTalk s m args below meth c H locs 0 0 Q (F0 m 155 ls []) := by
                      intro ls hl
                      refine lv_iload F.1 F.2.1 dX12_saysTalk_155 (lv_at hl 2 rfl) ?_
                      refine tw_if_ne (tgt := 162) F dX12_saysTalk_157 (by decide) (fun b64 => ?_) (fun b64 => ?_)
                      · refine tu_iinc F dX12_saysTalk_162 hl (k := 1) rfl (by decide) ki_1 (by omega) (fun z65 ls hz65 hl => ?_)
                        have hl : lv_has ls 6 [(2, .int z65), (0, .ref a0), (4, .int x4_105)] := hl
                        refine lv_goto (tgt := 10) F.1 F.2.1 dX12_saysTalk_165 (by decide) ?_
                        exact ih10 f42 _ _ _ z65 (by omega) (by omega) (by omega) h hX hA hR hRB hk hb10 (lv_sub hl [1, 0] rfl)
                      · refine tw_iconst F dX12_saysTalk_160 ki_0 (fun z66 hz66 => ?_)
                        exact hret f42 _ _ _ _ z66 dX12_saysTalk_161 (tw_nb (by omega)) ⟨hk, by omega, by omega, hX, hA⟩ h
                    refine tw_icmp_ge (tgt := 155) F dX12_saysTalk_111 (by decide) (fun b67 => ?_) (fun b67 => ?_)
                    · exact j_155 _ (lv_sub hl [0, 1, 3] rfl)
                    · refine lv_iload F.1 F.2.1 dX12_saysTalk_114 (lv_at hl 3 rfl) ?_
                      refine tw_if_eq (tgt := 155) F dX12_saysTalk_116 (by decide) (fun b68 => ?_) (fun b68 => ?_)
                      · exact j_155 _ (lv_sub hl [0, 1, 3] rfl)
                      · refine lv_aload_n F.1 F.2.1 dX12_saysTalk_119 rfl (lv_at hl 0 rfl) ?_
                        refine g_12_63 F h m_a0 r_a0 dX12_saysTalk_120 (fun o69 m_o69 r_o69 ho69 => ?_)
                        refine lv_iload F.1 F.2.1 dX12_saysTalk_123 (lv_at hl 4 rfl) ?_
                        refine ld_74 F h m_o69 r_o69 (by omega) dX12_saysTalk_125 (fun v70 => ?_)
                        refine lv_aload_n F.1 F.2.1 dX12_saysTalk_126 rfl (lv_at hl 0 rfl) ?_
                        refine g_12_84 F h m_a0 r_a0 dX12_saysTalk_127 (fun o71 m_o71 r_o71 ho71 => ?_)
                        refine lv_iload_n F.1 F.2.1 dX12_saysTalk_130 rfl (lv_at hl 2 rfl) ?_
                        refine tw_bipush F dX12_saysTalk_131 kb_14 (fun z72 hz72 => ?_)
                        refine tu_iadd F dX12_saysTalk_133 (by omega) (fun z73 hz73 => ?_)
                        refine lv_iload F.1 F.2.1 dX12_saysTalk_134 (lv_at hl 4 rfl) ?_
                        refine tu_iadd F dX12_saysTalk_136 (by omega) (fun z74 hz74 => ?_)
                        refine ld_78 F h m_o71 r_o71 (by omega) dX12_saysTalk_137 (fun v75 hv75a => ?_)
                        refine tw_lcmp F dX12_saysTalk_138 (fun z76 hz76 => ?_)
                        have j_147 : ∀ (ls : Array Slot) (y0_147 : Int32), 0 ≤ y0_147.toInt → y0_147.toInt ≤ 1 → lv_has ls 6 [(0, .ref a0), (2, .int x2_10), (3, .int z21), (5, .int x5_105)] → W p l e rm_X12_saysTalk s m args below meth c H locs 0 0 Q (F0 m 147 ls [.int y0_147]) := by
                          intro ls y0_147 b77 b78 hl
                          refine lv_istore (lv' := [(4, .int y0_147), (0, .ref a0), (2, .int x2_10), (3, .int z21), (5, .int x5_105)]) F.1 F.2.1 dX12_saysTalk_147 hl (by decide) rfl (fun ls hl => ?_)
                          refine tu_iinc F dX12_saysTalk_149 hl (k := 4) rfl (by decide) ki_1 (by omega) (fun z79 ls hz79 hl => ?_)
                          have hl : lv_has ls 6 [(5, .int z79), (4, .int y0_147), (0, .ref a0), (2, .int x2_10), (3, .int z21)] := hl
                          refine lv_goto (tgt := 105) F.1 F.2.1 dX12_saysTalk_152 (by decide) ?_
                          exact ih105 _ y0_147 z79 (by omega) (by omega) (by omega) (by omega) (by omega) (lv_sub hl [2, 3, 4, 1, 0] rfl)
                        refine tw_if_ne (tgt := 146) F dX12_saysTalk_139 (by decide) (fun b80 => ?_) (fun b80 => ?_)
                        · refine tw_iconst F dX12_saysTalk_146 ki_0 (fun z81 hz81 => ?_)
                          exact j_147 _ z81 (by omega) (by omega) (lv_sub hl [0, 1, 2, 4] rfl)
                        · refine tw_iconst F dX12_saysTalk_142 ki_1 (fun z82 hz82 => ?_)
                          refine lv_goto (tgt := 147) F.1 F.2.1 dX12_saysTalk_143 (by decide) ?_
                          exact j_147 _ z82 (by omega) (by omega) (lv_sub hl [0, 1, 2, 4] rfl)
                exact j_105 (((12 - z57.toInt)).toNat + 1) _ y0_100 z57 (by omega) (by omega) (by omega) (by omega) (by omega) (lv_sub hl [2, 3, 4, 1, 0] rfl)
              refine tw_if_ne (tgt := 99) F dX12_saysTalk_92 (by decide) (fun b83 => ?_) (fun b83 => ?_)
              · refine tw_iconst F dX12_saysTalk_99 ki_0 (fun z84 hz84 => ?_)
                exact j_100 _ z84 (by omega) (by omega) (lv_sub hl [0, 1, 2] rfl)
              · refine tw_iconst F dX12_saysTalk_95 ki_1 (fun z85 hz85 => ?_)
                refine lv_goto (tgt := 100) F.1 F.2.1 dX12_saysTalk_96 (by decide) ?_
                exact j_100 _ z85 (by omega) (by omega) (lv_sub hl [0, 1, 2] rfl)
            · refine lv_aload_n F.1 F.2.1 dX12_saysTalk_46 rfl (lv_at hl 0 rfl) ?_
              refine g_12_60 F h m_a0 r_a0 dX12_saysTalk_47 (fun o86 m_o86 r_o86 ho86 => ?_)
              refine lv_iload F.1 F.2.1 dX12_saysTalk_50 (lv_at hl 3 rfl) ?_
              refine lv_aload_n F.1 F.2.1 dX12_saysTalk_52 rfl (lv_at hl 0 rfl) ?_
              refine g_12_84 F h m_a0 r_a0 dX12_saysTalk_53 (fun o87 m_o87 r_o87 ho87 => ?_)
              refine lv_iload_n F.1 F.2.1 dX12_saysTalk_56 rfl (lv_at hl 2 rfl) ?_
              refine tw_iconst F dX12_saysTalk_57 ki_1 (fun z88 hz88 => ?_)
              refine tu_iadd F dX12_saysTalk_58 (by omega) (fun z89 hz89 => ?_)
              refine lv_iload F.1 F.2.1 dX12_saysTalk_59 (lv_at hl 3 rfl) ?_
              refine tu_iadd F dX12_saysTalk_61 (by omega) (fun z90 hz90 => ?_)
              refine ld_78 F h m_o87 r_o87 (by omega) dX12_saysTalk_62 (fun v91 hv91a => ?_)
              refine st_73 F h m_o86 r_o86 (by omega) dX12_saysTalk_63 (fun f92 H locs hf92 h => ?_)
              have hX : GZ GP GL f92 := hX.fm hf92 m_GP r_GP m_GL r_GL (by decide +kernel) (by decide +kernel)
              have hA : KW (20760) (25710) GA f0 f92 := hA.fm hf92 m_GA r_GA (by decide +kernel)
              have hR : RBA GA f92 := hR.fm hf92 m_GA r_GA (by decide +kernel)
              have hRB : RB GA 22410 f92 := hRB.fm hf92 m_GA r_GA (by decide +kernel)
              have hk : fr L R [(12, 28), (12, 29), (12, 35), (12, 36), (12, 37), (12, 38), (12, 39)] [12, 61, 68, 69, 70, 73, 74, 76] f0 f92 := hk.tr hf92 rfl rfl
              have hb10 : fr L R [(12, 28), (12, 29), (12, 35), (12, 36), (12, 37), (12, 38), (12, 39)] [12, 61, 68, 69, 70, 73, 74, 76] f2 f92 := hb10.tr hf92 rfl rfl
              have hb37 : fr L R [] [73] f25 f92 := hb37.tr hf92 rfl rfl
              have e93 : fld f92 a0 0 = .ref GA := (hf92.efl m_a0 r_a0 rfl).trans e35
              have e94 : fld f92 a0 22 = .ref GP := (hf92.efl m_a0 r_a0 rfl).trans e36
              have e95 : fld f92 a0 23 = .ref GL := (hf92.efl m_a0 r_a0 rfl).trans e37
              have e96 : fld f92 a0 6 = .ref GT := (hf92.efl m_a0 r_a0 rfl).trans e38
              refine tu_iinc F dX12_saysTalk_64 hl (k := 3) rfl (by decide) ki_1 (by omega) (fun z97 ls hz97 hl => ?_)
              have hl : lv_has ls 6 [(4, .int z97), (0, .ref a0), (2, .int x2_10), (3, .int z21)] := hl
              refine lv_goto (tgt := 37) F.1 F.2.1 dX12_saysTalk_67 (by decide) ?_
              exact ih37 f92 _ _ _ z97 (by omega) (by omega) (by omega) h hX hA hR hRB hk hb37 (lv_sub hl [1, 2, 3, 0] rfl)
        have hb37 : fr L R [] [73] f25 f25 := fr.rf
        exact j_37 (((12 - z30.toInt)).toNat + 1) f25 _ _ _ z30 (by omega) (by omega) (by omega) h hX hA hR hRB hk hb37 (lv_sub hl [2, 3, 1, 0] rfl)
  have hb10 : fr L R [(12, 28), (12, 29), (12, 35), (12, 36), (12, 37), (12, 38), (12, 39)] [12, 61, 68, 69, 70, 73, 74, 76] f2 f2 := fr.rf
  exact j_10 (((15 - z8.toInt)).toNat + 1) f2 _ _ _ z8 (by omega) (by omega) (by omega) h hX hA hR hRB hk hb10 (lv_sub hl [1, 0] rfl)
theorem dX12_orders_0 : decode cX12_orders 0 = .ok (.aload_n 0, 1) := by decide +kernel
theorem dX12_orders_1 : decode cX12_orders 1 = .ok (.iload_n 1, 1) := by decide +kernel
theorem dX12_orders_2 : decode cX12_orders 2 = .ok (.invokevirtual 282, 3) := by decide +kernel
theorem dX12_orders_5 : decode cX12_orders 5 = .ok (.ifCond .ne 9, 3) := by decide +kernel
theorem dX12_orders_14 : decode cX12_orders 14 = .ok (.aload_n 0, 1) := by decide +kernel
theorem dX12_orders_15 : decode cX12_orders 15 = .ok (.getfield 7, 3) := by decide +kernel
theorem dX12_orders_18 : decode cX12_orders 18 = .ok (.sipush 1650, 3) := by decide +kernel
theorem dX12_orders_21 : decode cX12_orders 21 = .ok (.iload_n 1, 1) := by decide +kernel
theorem dX12_orders_22 : decode cX12_orders 22 = .ok (.imul, 1) := by decide +kernel
theorem dX12_orders_23 : decode cX12_orders 23 = .ok (.iconst 0, 1) := by decide +kernel
theorem dX12_orders_24 : decode cX12_orders 24 = .ok (.iadd, 1) := by decide +kernel
theorem dX12_orders_25 : decode cX12_orders 25 = .ok (.laload, 1) := by decide +kernel
theorem dX12_orders_26 : decode cX12_orders 26 = .ok (.l2i, 1) := by decide +kernel
theorem dX12_orders_27 : decode cX12_orders 27 = .ok (.istore_n 2, 1) := by decide +kernel
theorem dX12_orders_28 : decode cX12_orders 28 = .ok (.iload_n 2, 1) := by decide +kernel
theorem dX12_orders_29 : decode cX12_orders 29 = .ok (.bipush 6, 2) := by decide +kernel
theorem dX12_orders_31 : decode cX12_orders 31 = .ok (.if_icmp .le 9, 3) := by decide +kernel
theorem dX12_orders_40 : decode cX12_orders 40 = .ok (.aload_n 0, 1) := by decide +kernel
theorem dX12_orders_41 : decode cX12_orders 41 = .ok (.getfield 416, 3) := by decide +kernel
theorem dX12_orders_44 : decode cX12_orders 44 = .ok (.ifCond .ne 10, 3) := by decide +kernel
theorem dX12_orders_54 : decode cX12_orders 54 = .ok (.iconst 1, 1) := by decide +kernel
theorem dX12_orders_55 : decode cX12_orders 55 = .ok (.istore_n 3, 1) := by decide +kernel
theorem dX12_orders_56 : decode cX12_orders 56 = .ok (.iconst 0, 1) := by decide +kernel
theorem dX12_orders_57 : decode cX12_orders 57 = .ok (.istore 4, 2) := by decide +kernel
theorem dX12_orders_59 : decode cX12_orders 59 = .ok (.iload 4, 2) := by decide +kernel
theorem dX12_orders_61 : decode cX12_orders 61 = .ok (.iload_n 2, 1) := by decide +kernel
theorem dX12_orders_62 : decode cX12_orders 62 = .ok (.if_icmp .ge 13, 3) := by decide +kernel
theorem dX12_orders_75 : decode cX12_orders 75 = .ok (.iconst 0, 1) := by decide +kernel
theorem dX12_orders_76 : decode cX12_orders 76 = .ok (.istore 4, 2) := by decide +kernel
theorem dX12_orders_78 : decode cX12_orders 78 = .ok (.iconst 0, 1) := by decide +kernel
theorem dX12_orders_79 : decode cX12_orders 79 = .ok (.istore 5, 2) := by decide +kernel
theorem dX12_orders_81 : decode cX12_orders 81 = .ok (.iload 5, 2) := by decide +kernel
theorem dX12_orders_83 : decode cX12_orders 83 = .ok (.bipush 36, 2) := by decide +kernel
theorem kb_36 : (Int8.ofInt 36).toInt32.toInt = 36 := by decide
theorem dX12_orders_85 : decode cX12_orders 85 = .ok (.if_icmp .ge 17, 3) := by decide +kernel
theorem dX12_orders_102 : decode cX12_orders 102 = .ok (.aload_n 0, 1) := by decide +kernel
theorem dX12_orders_103 : decode cX12_orders 103 = .ok (.iconst 1, 1) := by decide +kernel
theorem dX12_orders_104 : decode cX12_orders 104 = .ok (.putfield 331, 3) := by decide +kernel
section
variable {p : Program} {l : Launch} {e : Env} {R0 : Room} {s : State} {m : MethodId} {args : Array Value} {below : List Frame} {meth : Method} {c : Code} {H H0 : Heap} {locs : List Loc} {cells slots : Nat} {Q : State → Prop} {cc : ByteArray} {nL : Nat} {D : va_G} {cy : Nat → ClassId} {A : Nat → Prop} {L : List Nat} {R : Nat → Nat} {f : Nat → va_E} {pc : Nat} {ls : Array Slot} {rest : List Value} {a : Nat}
theorem p_12_331 (F : CallFix p m c cc nL s args wsL_law RX12) (h : tS D cy A H0 L R (TT cy L R) f s H locs) {x : Int32} (ha : a ∈ L) (hr : R a = 12) (hv : 0 ≤ x.toInt ∧ x.toInt ≤ 1) (hdg : decode cc pc = .ok (.putfield 331, 3)) (kk : ∀ (f1 : Nat → va_E) (H1 : Heap) (locs1 : List Loc), fi f1 a 33 = x.toInt → fr L R [(12, 33)] [12] f f1 → tS D cy A H0 L R (TT cy L R) f1 s H1 locs1 → W p l e R0 s m args below meth c H1 locs1 cells slots Q (F0 m (pc + 3) ls (rest))) : W p l e R0 s m args below meth c H locs cells slots Q (F0 m pc ls (.int x :: .ref a :: rest)) := tu_puti (k := 33) F h ha hr T_12 rfl hv.1 hv.2 inlX12 tyX12_ok nmX12 rfl (Nat.le_of_ble_eq_true rfl) mw_1073 rfl (tw_nb hv) (by rcases tw_01 hv with rfl | rfl <;> rfl) hdg kk
end
theorem dX12_orders_107 : decode cX12_orders 107 = .ok (.iconst 0, 1) := by decide +kernel
theorem dX12_orders_108 : decode cX12_orders 108 = .ok (.istore 5, 2) := by decide +kernel
theorem dX12_orders_110 : decode cX12_orders 110 = .ok (.iload 5, 2) := by decide +kernel
theorem dX12_orders_112 : decode cX12_orders 112 = .ok (.iload_n 3, 1) := by decide +kernel
theorem dX12_orders_113 : decode cX12_orders 113 = .ok (.if_icmp .ge 170, 3) := by decide +kernel
theorem dX12_orders_283 : decode cX12_orders 283 = .ok (.aload_n 0, 1) := by decide +kernel
theorem dX12_orders_284 : decode cX12_orders 284 = .ok (.iconst 0, 1) := by decide +kernel
theorem dX12_orders_285 : decode cX12_orders 285 = .ok (.putfield 331, 3) := by decide +kernel
theorem dX12_orders_288 : decode cX12_orders 288 = .ok (.aload_n 0, 1) := by decide +kernel
theorem dX12_orders_289 : decode cX12_orders 289 = .ok (.iload 4, 2) := by decide +kernel
theorem dX12_orders_291 : decode cX12_orders 291 = .ok (.putfield 112, 3) := by decide +kernel
section
variable {p : Program} {l : Launch} {e : Env} {R0 : Room} {s : State} {m : MethodId} {args : Array Value} {below : List Frame} {meth : Method} {c : Code} {H H0 : Heap} {locs : List Loc} {cells slots : Nat} {Q : State → Prop} {cc : ByteArray} {nL : Nat} {D : va_G} {cy : Nat → ClassId} {A : Nat → Prop} {L : List Nat} {R : Nat → Nat} {f : Nat → va_E} {pc : Nat} {ls : Array Slot} {rest : List Value} {a : Nat}
theorem p_12_112 (F : CallFix p m c cc nL s args wsL_law RX12) (h : tS D cy A H0 L R (TT cy L R) f s H locs) {x : Int32} (ha : a ∈ L) (hr : R a = 12) (hdg : decode cc pc = .ok (.putfield 112, 3)) (kk : ∀ (f1 : Nat → va_E) (H1 : Heap) (locs1 : List Loc), fi f1 a 60 = x.toInt → fr L R [(12, 60)] [12] f f1 → tS D cy A H0 L R (TT cy L R) f1 s H1 locs1 → W p l e R0 s m args below meth c H1 locs1 cells slots Q (F0 m (pc + 3) ls (rest))) : W p l e R0 s m args below meth c H locs cells slots Q (F0 m pc ls (.int x :: .ref a :: rest)) := tu_puti (k := 60) F h ha hr T_12 rfl (tb_i x).1 (tb_i x).2 inlX12 tyX12_ok nmX12 rfl (Nat.le_of_ble_eq_true rfl) mw_235 rfl rfl rfl hdg kk
end
theorem dX12_orders_294 : decode cX12_orders 294 = .ok (.aload_n 0, 1) := by decide +kernel
theorem dX12_orders_295 : decode cX12_orders 295 = .ok (.iload_n 2, 1) := by decide +kernel
theorem dX12_orders_296 : decode cX12_orders 296 = .ok (.putfield 457, 3) := by decide +kernel
section
variable {p : Program} {l : Launch} {e : Env} {R0 : Room} {s : State} {m : MethodId} {args : Array Value} {below : List Frame} {meth : Method} {c : Code} {H H0 : Heap} {locs : List Loc} {cells slots : Nat} {Q : State → Prop} {cc : ByteArray} {nL : Nat} {D : va_G} {cy : Nat → ClassId} {A : Nat → Prop} {L : List Nat} {R : Nat → Nat} {f : Nat → va_E} {pc : Nat} {ls : Array Slot} {rest : List Value} {a : Nat}
theorem p_12_457 (F : CallFix p m c cc nL s args wsL_law RX12) (h : tS D cy A H0 L R (TT cy L R) f s H locs) {x : Int32} (ha : a ∈ L) (hr : R a = 12) (hv : 0 ≤ x.toInt ∧ x.toInt ≤ 6) (hdg : decode cc pc = .ok (.putfield 457, 3)) (kk : ∀ (f1 : Nat → va_E) (H1 : Heap) (locs1 : List Loc), fi f1 a 61 = x.toInt → fr L R [(12, 61)] [12] f f1 → tS D cy A H0 L R (TT cy L R) f1 s H1 locs1 → W p l e R0 s m args below meth c H1 locs1 cells slots Q (F0 m (pc + 3) ls (rest))) : W p l e R0 s m args below meth c H locs cells slots Q (F0 m pc ls (.int x :: .ref a :: rest)) := tu_puti (k := 61) F h ha hr T_12 rfl hv.1 hv.2 inlX12 tyX12_ok nmX12 rfl (Nat.le_of_ble_eq_true rfl) mw_1517 rfl rfl rfl hdg kk
end
theorem dX12_orders_299 : decode cX12_orders 299 = .ok (.aload_n 0, 1) := by decide +kernel
theorem dX12_orders_300 : decode cX12_orders 300 = .ok (.iload 4, 2) := by decide +kernel
theorem dX12_orders_302 : decode cX12_orders 302 = .ok (.invokevirtual 209, 3) := by decide +kernel
theorem dX12_orders_305 : decode cX12_orders 305 = .ok (.ireturn, 1) := by decide +kernel
theorem dX12_orders_116 : decode cX12_orders 116 = .ok (.iload 5, 2) := by decide +kernel
theorem dX12_orders_118 : decode cX12_orders 118 = .ok (.istore 6, 2) := by decide +kernel
theorem dX12_orders_120 : decode cX12_orders 120 = .ok (.iconst 0, 1) := by decide +kernel
theorem dX12_orders_121 : decode cX12_orders 121 = .ok (.istore 7, 2) := by decide +kernel
theorem dX12_orders_123 : decode cX12_orders 123 = .ok (.iconst 0, 1) := by decide +kernel
theorem dX12_orders_124 : decode cX12_orders 124 = .ok (.istore 8, 2) := by decide +kernel
theorem dX12_orders_126 : decode cX12_orders 126 = .ok (.iload 8, 2) := by decide +kernel
theorem dX12_orders_128 : decode cX12_orders 128 = .ok (.iload_n 2, 1) := by decide +kernel
theorem dX12_orders_129 : decode cX12_orders 129 = .ok (.if_icmp .ge 56, 3) := by decide +kernel
theorem dX12_orders_185 : decode cX12_orders 185 = .ok (.iload 7, 2) := by decide +kernel
theorem dX12_orders_187 : decode cX12_orders 187 = .ok (.iconst 1, 1) := by decide +kernel
theorem dX12_orders_188 : decode cX12_orders 188 = .ok (.iload_n 2, 1) := by decide +kernel
theorem dX12_orders_189 : decode cX12_orders 189 = .ok (.ishl, 1) := by decide +kernel
theorem dX12_orders_190 : decode cX12_orders 190 = .ok (.iconst 1, 1) := by decide +kernel
theorem dX12_orders_191 : decode cX12_orders 191 = .ok (.isub, 1) := by decide +kernel
theorem dX12_orders_277 : decode cX12_orders 277 = .ok (.iinc 5 1, 3) := by decide +kernel
theorem dX12_orders_280 : decode cX12_orders 280 = .ok (.goto (-170), 3) := by decide +kernel
theorem dX12_orders_192 : decode cX12_orders 192 = .ok (.if_icmp .ne 85, 3) := by decide +kernel
theorem dX12_orders_195 : decode cX12_orders 195 = .ok (.aload_n 0, 1) := by decide +kernel
theorem dX12_orders_196 : decode cX12_orders 196 = .ok (.iload_n 1, 1) := by decide +kernel
theorem dX12_orders_197 : decode cX12_orders 197 = .ok (.invokevirtual 454, 3) := by decide +kernel
theorem mw_1518 : Cond.methodLink RX12 454 yX12_saysTalk ∈ wsL_law := inr_64 _ (List.mem_of_getElem? (i := 6) rfl)
theorem mw_1521 : Cond.code yX12_saysTalk cX12_saysTalk 6 (some .boolean) ∈ wsL_law := inr_64 _ (List.mem_of_getElem? (i := 9) rfl)
theorem yk_X12_saysTalk : xY yX12_saysTalk RX12 cX12_saysTalk 6 (some .boolean) 1 := ⟨⟨rfl, by decide +kernel, by decide +kernel, by decide +kernel⟩, mw_5, mw_1521⟩
theorem mw_1519 : Cond.instanceMethod yX12_saysTalk ∈ wsL_law := inr_64 _ (List.mem_of_getElem? (i := 7) rfl)
theorem mw_1520 : Cond.selects RX12 yX12_saysTalk yX12_saysTalk ∈ wsL_law := inr_64 _ (List.mem_of_getElem? (i := 8) rfl)
theorem dX12_orders_200 : decode cX12_orders 200 = .ok (.ifCond .ne 6, 3) := by decide +kernel
theorem dX12_orders_206 : decode cX12_orders 206 = .ok (.iinc 4 1, 3) := by decide +kernel
theorem dX12_orders_209 : decode cX12_orders 209 = .ok (.iconst 0, 1) := by decide +kernel
theorem dX12_orders_210 : decode cX12_orders 210 = .ok (.istore 8, 2) := by decide +kernel
theorem dX12_orders_212 : decode cX12_orders 212 = .ok (.iload 8, 2) := by decide +kernel
theorem dX12_orders_214 : decode cX12_orders 214 = .ok (.iload_n 2, 1) := by decide +kernel
theorem dX12_orders_215 : decode cX12_orders 215 = .ok (.if_icmp .ge 62, 3) := by decide +kernel
theorem dX12_orders_218 : decode cX12_orders 218 = .ok (.iconst 0, 1) := by decide +kernel
theorem dX12_orders_219 : decode cX12_orders 219 = .ok (.istore 9, 2) := by decide +kernel
theorem dX12_orders_221 : decode cX12_orders 221 = .ok (.iload 9, 2) := by decide +kernel
theorem dX12_orders_223 : decode cX12_orders 223 = .ok (.iload_n 2, 1) := by decide +kernel
theorem dX12_orders_224 : decode cX12_orders 224 = .ok (.if_icmp .ge 47, 3) := by decide +kernel
theorem dX12_orders_271 : decode cX12_orders 271 = .ok (.iinc 8 1, 3) := by decide +kernel
theorem dX12_orders_274 : decode cX12_orders 274 = .ok (.goto (-62), 3) := by decide +kernel
theorem dX12_orders_227 : decode cX12_orders 227 = .ok (.aload_n 0, 1) := by decide +kernel
theorem dX12_orders_228 : decode cX12_orders 228 = .ok (.getfield 115, 3) := by decide +kernel
theorem dX12_orders_231 : decode cX12_orders 231 = .ok (.bipush 6, 2) := by decide +kernel
theorem dX12_orders_233 : decode cX12_orders 233 = .ok (.iload 8, 2) := by decide +kernel
theorem dX12_orders_235 : decode cX12_orders 235 = .ok (.imul, 1) := by decide +kernel
theorem dX12_orders_236 : decode cX12_orders 236 = .ok (.iload 9, 2) := by decide +kernel
theorem dX12_orders_238 : decode cX12_orders 238 = .ok (.iadd, 1) := by decide +kernel
theorem dX12_orders_239 : decode cX12_orders 239 = .ok (.dup2, 1) := by decide +kernel
theorem dX12_orders_240 : decode cX12_orders 240 = .ok (.iaload, 1) := by decide +kernel
theorem dX12_orders_241 : decode cX12_orders 241 = .ok (.aload_n 0, 1) := by decide +kernel
theorem dX12_orders_242 : decode cX12_orders 242 = .ok (.getfield 118, 3) := by decide +kernel
theorem mw_237 : Cond.fieldLink RX12 118 "AskBackModel" "place" "[I" ∈ wsL_law := inr_10 _ (List.mem_of_getElem? (i := 21) rfl)
section
variable {p : Program} {l : Launch} {e : Env} {R0 : Room} {s : State} {m : MethodId} {args : Array Value} {below : List Frame} {meth : Method} {c : Code} {H H0 : Heap} {locs : List Loc} {cells slots : Nat} {Q : State → Prop} {cc : ByteArray} {nL : Nat} {D : va_G} {cy : Nat → ClassId} {A : Nat → Prop} {L : List Nat} {R : Nat → Nat} {f : Nat → va_E} {pc : Nat} {ls : Array Slot} {rest : List Value} {a : Nat}
theorem g_12_118 (F : CallFix p m c cc nL s args wsL_law RX12) (h : tS D cy A H0 L R (TT cy L R) f s H locs) (ha : a ∈ L) (hr : R a = 12) (hdg : decode cc pc = .ok (.getfield 118, 3)) (kk : ∀ b : Nat, b ∈ L → R b = 86 → fld f a 63 = .ref b → W p l e R0 s m args below meth c H locs cells slots Q (F0 m (pc + 3) ls (.ref b :: rest))) : W p l e R0 s m args below meth c H locs cells slots Q (F0 m pc ls (.ref a :: rest)) := tu_getr F h ha hr (fun e q => (T_12 e).mp q) rfl inlX12 rfl (Nat.le_of_ble_eq_true rfl) mw_237 hdg kk
end
theorem dX12_orders_245 : decode cX12_orders 245 = .ok (.iload 8, 2) := by decide +kernel
theorem dX12_orders_247 : decode cX12_orders 247 = .ok (.iaload, 1) := by decide +kernel
section
variable {p : Program} {l : Launch} {e : Env} {R0 : Room} {s : State} {m : MethodId} {args : Array Value} {below : List Frame} {meth : Method} {c : Code} {H H0 : Heap} {locs : List Loc} {cells slots : Nat} {Q : State → Prop} {cc : ByteArray} {nL : Nat} {D : va_G} {cy : Nat → ClassId} {A : Nat → Prop} {L : List Nat} {R : Nat → Nat} {f : Nat → va_E} {pc : Nat} {ls : Array Slot} {rest : List Value} {a : Nat}
theorem ld_86 {own : String} (F : CallFix p m c cc nL s args wsL_law own) (h : tS D cy A H0 L R (TT cy L R) f s H locs) {i : Int32} (ha : a ∈ L) (hr : R a = 86) (hb : 0 ≤ i.toInt ∧ i.toInt < 6) (hdg : decode cc pc = .ok (.iaload, 1)) (kk : ∀ x : Int32, 0 ≤ x.toInt → x.toInt ≤ 5 → W p l e R0 s m args below meth c H locs cells slots Q (F0 m (pc + 1) ls (.int x :: rest))) : W p l e R0 s m args below meth c H locs cells slots Q (F0 m pc ls (.int i :: .ref a :: rest)) := tu_iald F h ha hr (fun e q => (T_86 e).mp q) hb.1 hb.2 hdg (fun x h1 h2 => kk x h1.1 h1.2)
end
theorem dX12_orders_248 : decode cX12_orders 248 = .ok (.aload_n 0, 1) := by decide +kernel
theorem dX12_orders_249 : decode cX12_orders 249 = .ok (.getfield 118, 3) := by decide +kernel
theorem dX12_orders_252 : decode cX12_orders 252 = .ok (.iload 9, 2) := by decide +kernel
theorem dX12_orders_254 : decode cX12_orders 254 = .ok (.iaload, 1) := by decide +kernel
theorem dX12_orders_263 : decode cX12_orders 263 = .ok (.iadd, 1) := by decide +kernel
theorem dX12_orders_264 : decode cX12_orders 264 = .ok (.iastore, 1) := by decide +kernel
section
variable {p : Program} {l : Launch} {e : Env} {R0 : Room} {s : State} {m : MethodId} {args : Array Value} {below : List Frame} {meth : Method} {c : Code} {H H0 : Heap} {locs : List Loc} {cells slots : Nat} {Q : State → Prop} {cc : ByteArray} {nL : Nat} {D : va_G} {cy : Nat → ClassId} {A : Nat → Prop} {L : List Nat} {R : Nat → Nat} {f : Nat → va_E} {pc : Nat} {ls : Array Slot} {rest : List Value} {a : Nat}
theorem st_85 {own : String} (F : CallFix p m c cc nL s args wsL_law own) (h : tS D cy A H0 L R (TT cy L R) f s H locs) {i : Int32} {x : Int32} (ha : a ∈ L) (hr : R a = 85) (hb : 0 ≤ i.toInt ∧ i.toInt < 36) (hdg : decode cc pc = .ok (.iastore, 1)) (kk : ∀ (f1 : Nat → va_E) (H1 : Heap) (locs1 : List Loc), fr L R [] [85] f f1 → tS D cy A H0 L R (TT cy L R) f1 s H1 locs1 → W p l e R0 s m args below meth c H1 locs1 cells slots Q (F0 m (pc + 1) ls (rest))) : W p l e R0 s m args below meth c H locs cells slots Q (F0 m pc ls (.int x :: .int i :: .ref a :: rest)) := tu_iast F h ha hr T_85 hb.1 hb.2 trivial hdg (fun f1 H1 locs1 h1 h2 h3 h4 => kk f1 H1 locs1 h3 h4)
end
theorem dX12_orders_265 : decode cX12_orders 265 = .ok (.iinc 9 1, 3) := by decide +kernel
theorem dX12_orders_268 : decode cX12_orders 268 = .ok (.goto (-47), 3) := by decide +kernel
theorem dX12_orders_255 : decode cX12_orders 255 = .ok (.if_icmp .ge 7, 3) := by decide +kernel
theorem dX12_orders_262 : decode cX12_orders 262 = .ok (.iconst 0, 1) := by decide +kernel
theorem dX12_orders_258 : decode cX12_orders 258 = .ok (.iconst 1, 1) := by decide +kernel
theorem dX12_orders_259 : decode cX12_orders 259 = .ok (.goto 4, 3) := by decide +kernel
theorem dX12_orders_203 : decode cX12_orders 203 = .ok (.goto 74, 3) := by decide +kernel
theorem dX12_orders_132 : decode cX12_orders 132 = .ok (.aload_n 0, 1) := by decide +kernel
theorem dX12_orders_133 : decode cX12_orders 133 = .ok (.getfield 118, 3) := by decide +kernel
theorem dX12_orders_136 : decode cX12_orders 136 = .ok (.iload 8, 2) := by decide +kernel
theorem dX12_orders_138 : decode cX12_orders 138 = .ok (.iload 6, 2) := by decide +kernel
theorem dX12_orders_140 : decode cX12_orders 140 = .ok (.iload_n 2, 1) := by decide +kernel
theorem dX12_orders_141 : decode cX12_orders 141 = .ok (.irem, 1) := by decide +kernel
theorem dX12_orders_142 : decode cX12_orders 142 = .ok (.iastore, 1) := by decide +kernel
section
variable {p : Program} {l : Launch} {e : Env} {R0 : Room} {s : State} {m : MethodId} {args : Array Value} {below : List Frame} {meth : Method} {c : Code} {H H0 : Heap} {locs : List Loc} {cells slots : Nat} {Q : State → Prop} {cc : ByteArray} {nL : Nat} {D : va_G} {cy : Nat → ClassId} {A : Nat → Prop} {L : List Nat} {R : Nat → Nat} {f : Nat → va_E} {pc : Nat} {ls : Array Slot} {rest : List Value} {a : Nat}
theorem st_86 {own : String} (F : CallFix p m c cc nL s args wsL_law own) (h : tS D cy A H0 L R (TT cy L R) f s H locs) {i : Int32} {x : Int32} (ha : a ∈ L) (hr : R a = 86) (hb : 0 ≤ i.toInt ∧ i.toInt < 6) (hv : 0 ≤ x.toInt ∧ x.toInt ≤ 5) (hdg : decode cc pc = .ok (.iastore, 1)) (kk : ∀ (f1 : Nat → va_E) (H1 : Heap) (locs1 : List Loc), fr L R [] [86] f f1 → tS D cy A H0 L R (TT cy L R) f1 s H1 locs1 → W p l e R0 s m args below meth c H1 locs1 cells slots Q (F0 m (pc + 1) ls (rest))) : W p l e R0 s m args below meth c H locs cells slots Q (F0 m pc ls (.int x :: .int i :: .ref a :: rest)) := tu_iast F h ha hr T_86 hb.1 hb.2 hv hdg (fun f1 H1 locs1 h1 h2 h3 h4 => kk f1 H1 locs1 h3 h4)
end
theorem dX12_orders_143 : decode cX12_orders 143 = .ok (.aload_n 0, 1) := by decide +kernel
theorem dX12_orders_144 : decode cX12_orders 144 = .ok (.getfield 72, 3) := by decide +kernel
theorem dX12_orders_147 : decode cX12_orders 147 = .ok (.iload 8, 2) := by decide +kernel
theorem dX12_orders_149 : decode cX12_orders 149 = .ok (.iload_n 2, 1) := by decide +kernel
theorem dX12_orders_150 : decode cX12_orders 150 = .ok (.aload_n 0, 1) := by decide +kernel
theorem dX12_orders_151 : decode cX12_orders 151 = .ok (.getfield 118, 3) := by decide +kernel
theorem dX12_orders_154 : decode cX12_orders 154 = .ok (.iload 8, 2) := by decide +kernel
theorem dX12_orders_156 : decode cX12_orders 156 = .ok (.iaload, 1) := by decide +kernel
theorem dX12_orders_157 : decode cX12_orders 157 = .ok (.isub, 1) := by decide +kernel
theorem dX12_orders_158 : decode cX12_orders 158 = .ok (.iastore, 1) := by decide +kernel
section
variable {p : Program} {l : Launch} {e : Env} {R0 : Room} {s : State} {m : MethodId} {args : Array Value} {below : List Frame} {meth : Method} {c : Code} {H H0 : Heap} {locs : List Loc} {cells slots : Nat} {Q : State → Prop} {cc : ByteArray} {nL : Nat} {D : va_G} {cy : Nat → ClassId} {A : Nat → Prop} {L : List Nat} {R : Nat → Nat} {f : Nat → va_E} {pc : Nat} {ls : Array Slot} {rest : List Value} {a : Nat}
theorem st_75 {own : String} (F : CallFix p m c cc nL s args wsL_law own) (h : tS D cy A H0 L R (TT cy L R) f s H locs) {i : Int32} {x : Int32} (ha : a ∈ L) (hr : R a = 75) (hb : 0 ≤ i.toInt ∧ i.toInt < 12) (hdg : decode cc pc = .ok (.iastore, 1)) (kk : ∀ (f1 : Nat → va_E) (H1 : Heap) (locs1 : List Loc), fr L R [] [75] f f1 → tS D cy A H0 L R (TT cy L R) f1 s H1 locs1 → W p l e R0 s m args below meth c H1 locs1 cells slots Q (F0 m (pc + 1) ls (rest))) : W p l e R0 s m args below meth c H locs cells slots Q (F0 m pc ls (.int x :: .int i :: .ref a :: rest)) := tu_iast F h ha hr T_75 hb.1 hb.2 trivial hdg (fun f1 H1 locs1 h1 h2 h3 h4 => kk f1 H1 locs1 h3 h4)
end
theorem dX12_orders_159 : decode cX12_orders 159 = .ok (.iload 7, 2) := by decide +kernel
theorem dX12_orders_161 : decode cX12_orders 161 = .ok (.iconst 1, 1) := by decide +kernel
theorem dX12_orders_162 : decode cX12_orders 162 = .ok (.aload_n 0, 1) := by decide +kernel
theorem dX12_orders_163 : decode cX12_orders 163 = .ok (.getfield 118, 3) := by decide +kernel
theorem dX12_orders_166 : decode cX12_orders 166 = .ok (.iload 8, 2) := by decide +kernel
theorem dX12_orders_168 : decode cX12_orders 168 = .ok (.iaload, 1) := by decide +kernel
theorem dX12_orders_169 : decode cX12_orders 169 = .ok (.ishl, 1) := by decide +kernel
theorem dX12_orders_170 : decode cX12_orders 170 = .ok (.ior, 1) := by decide +kernel
theorem dX12_orders_171 : decode cX12_orders 171 = .ok (.istore 7, 2) := by decide +kernel
theorem dX12_orders_173 : decode cX12_orders 173 = .ok (.iload 6, 2) := by decide +kernel
theorem dX12_orders_175 : decode cX12_orders 175 = .ok (.iload_n 2, 1) := by decide +kernel
theorem dX12_orders_176 : decode cX12_orders 176 = .ok (.idiv, 1) := by decide +kernel
theorem dX12_orders_177 : decode cX12_orders 177 = .ok (.istore 6, 2) := by decide +kernel
theorem dX12_orders_179 : decode cX12_orders 179 = .ok (.iinc 8 1, 3) := by decide +kernel
theorem dX12_orders_182 : decode cX12_orders 182 = .ok (.goto (-56), 3) := by decide +kernel
theorem dX12_orders_88 : decode cX12_orders 88 = .ok (.aload_n 0, 1) := by decide +kernel
theorem dX12_orders_89 : decode cX12_orders 89 = .ok (.getfield 115, 3) := by decide +kernel
theorem dX12_orders_92 : decode cX12_orders 92 = .ok (.iload 5, 2) := by decide +kernel
theorem dX12_orders_94 : decode cX12_orders 94 = .ok (.iconst 0, 1) := by decide +kernel
theorem dX12_orders_95 : decode cX12_orders 95 = .ok (.iastore, 1) := by decide +kernel
theorem dX12_orders_96 : decode cX12_orders 96 = .ok (.iinc 5 1, 3) := by decide +kernel
theorem dX12_orders_99 : decode cX12_orders 99 = .ok (.goto (-18), 3) := by decide +kernel
theorem dX12_orders_65 : decode cX12_orders 65 = .ok (.iload_n 3, 1) := by decide +kernel
theorem dX12_orders_66 : decode cX12_orders 66 = .ok (.iload_n 2, 1) := by decide +kernel
theorem dX12_orders_67 : decode cX12_orders 67 = .ok (.imul, 1) := by decide +kernel
theorem dX12_orders_68 : decode cX12_orders 68 = .ok (.istore_n 3, 1) := by decide +kernel
theorem dX12_orders_69 : decode cX12_orders 69 = .ok (.iinc 4 1, 3) := by decide +kernel
theorem dX12_orders_72 : decode cX12_orders 72 = .ok (.goto (-13), 3) := by decide +kernel
theorem dX12_orders_47 : decode cX12_orders 47 = .ok (.aload_n 0, 1) := by decide +kernel
theorem dX12_orders_48 : decode cX12_orders 48 = .ok (.bipush 6, 2) := by decide +kernel
theorem dX12_orders_50 : decode cX12_orders 50 = .ok (.invokevirtual 194, 3) := by decide +kernel
theorem dX12_orders_53 : decode cX12_orders 53 = .ok (.ireturn, 1) := by decide +kernel
theorem dX12_orders_34 : decode cX12_orders 34 = .ok (.aload_n 0, 1) := by decide +kernel
theorem dX12_orders_35 : decode cX12_orders 35 = .ok (.iconst 4, 1) := by decide +kernel
theorem dX12_orders_36 : decode cX12_orders 36 = .ok (.invokevirtual 194, 3) := by decide +kernel
theorem dX12_orders_39 : decode cX12_orders 39 = .ok (.ireturn, 1) := by decide +kernel
theorem dX12_orders_8 : decode cX12_orders 8 = .ok (.aload_n 0, 1) := by decide +kernel
theorem dX12_orders_9 : decode cX12_orders 9 = .ok (.iconst 1, 1) := by decide +kernel
theorem dX12_orders_10 : decode cX12_orders 10 = .ok (.invokevirtual 194, 3) := by decide +kernel
theorem dX12_orders_13 : decode cX12_orders 13 = .ok (.ireturn, 1) := by decide +kernel
def rm_X12_orders : Room := { frames := 7, cells := 0, slots := 0, locals := 175 }
set_option maxHeartbeats 4000000 in
set_option maxRecDepth 100000 in
theorem s_X12_orders (l : Launch) (D : va_G) (cy : Nat → ClassId) (L : List Nat) (R O : Nat → Nat) (f0 : Nat → va_E) (a0 : Nat) (m_a0 : a0 ∈ L) (r_a0 : R a0 = 12) (x1 : Int32) (GA : Nat) (m_GA : GA ∈ L) (r_GA : R GA = 61) (t_GA : fld f0 a0 0 = .ref GA) (GP : Nat) (m_GP : GP ∈ L) (r_GP : R GP = 69) (t_GP : fld f0 a0 22 = .ref GP) (GL : Nat) (m_GL : GL ∈ L) (r_GL : R GL = 70) (t_GL : fld f0 a0 23 = .ref GL) (GT : Nat) (m_GT : GT ∈ L) (r_GT : R GT = 64) (t_GT : fld f0 a0 6 = .ref GT) (pre0 : RBA GA f0) (pre1 : GZ GP GL f0) : ∀ sz, Met l yX12_orders (Cond.code yX12_orders cX12_orders 10 (some .int) :: wsL_law) rm_X12_orders (va_Pc [.ref a0, .int x1] (tPZ D cy L R (TT cy L R) f0 sz)) (va_Qi (fun (r : Int32) f1 => fr L R [(12, 1), (12, 28), (12, 29), (12, 33), (12, 35), (12, 36), (12, 37), (12, 38), (12, 39), (12, 60), (12, 61)] [12, 61, 68, 69, 70, 73, 74, 75, 76, 85, 86] f0 f1 ∧ RBA GA f1 ∧ GZ GP GL f1) (tB D (tA L sz) L R (TT cy L R)) (tA L sz)) 0 0 (tA L sz) := by
  refine tw_enteri (by decide +kernel) rfl (Nat.le_of_ble_eq_true rfl) ?_
  intro p e s m below meth c A ls args Q F hZ h hl hret
  have hl : lv_has ls 10 [(0, .ref a0), (1, .int x1)] := hl
  have hk : fr L R [(12, 1), (12, 28), (12, 29), (12, 33), (12, 35), (12, 36), (12, 37), (12, 38), (12, 39), (12, 60), (12, 61)] [12, 61, 68, 69, 70, 73, 74, 75, 76, 85, 86] f0 f0 := fr.rf
  have hR := pre0
  have hX := pre1
  refine lv_aload_n F.1 F.2.1 dX12_orders_0 rfl (lv_at hl 0 rfl) ?_
  refine lv_iload_n F.1 F.2.1 dX12_orders_1 rfl (lv_at hl 1 rfl) ?_
  refine tw_Vi (As := [.int x1]) F hZ h yk_X12_isScript mw_635 mw_636 mw_637 (s_X12_isScript l D cy L R O f0 a0 m_a0 r_a0 x1) rfl rfl m_a0 r_a0 (fun e q => (T_12 e).mp q) rfl hl.1 rfl (Nat.le_of_ble_eq_true rfl) ⟨Nat.le_of_ble_eq_true rfl, Nat.le_of_ble_eq_true rfl⟩ ⟨Nat.le_of_ble_eq_true rfl, Nat.le_of_ble_eq_true rfl⟩ dX12_orders_2 (fun v2 f1 H locs hp1 h => ?_)
  obtain ⟨rfl, hv2a, hv2b, hv2p0⟩ := hp1
  refine tw_if_ne (tgt := 14) F dX12_orders_5 (by decide) (fun b3 => ?_) (fun b3 => ?_)
  · refine lv_aload_n F.1 F.2.1 dX12_orders_14 rfl (lv_at hl 0 rfl) ?_
    refine g_12_7 F h m_a0 r_a0 dX12_orders_15 (fun o4 m_o4 r_o4 ho4 => ?_)
    obtain rfl := (fld_inj t_GA ho4).symm
    refine tw_sipush F dX12_orders_18 ks_1650 (fun z5 hz5 => ?_)
    refine lv_iload_n F.1 F.2.1 dX12_orders_21 rfl (lv_at hl 1 rfl) ?_
    refine tu_imull F dX12_orders_22 hz5 (by omega) (fun z6 hz6 => ?_)
    refine tw_iconst F dX12_orders_23 ki_0 (fun z7 hz7 => ?_)
    refine tu_iadd F dX12_orders_24 (by omega) (fun z8 hz8 => ?_)
    refine ld_61 F h m_GA r_GA (by omega) dX12_orders_25 (fun v9 hv9a => ?_)
    have hv9b := clP_1.mp (atb hv9a (ac_c (b := (1650 * x1.toInt.toNat)) 0 (isB_s (show x1.toInt.toNat ≤ 2 by omega)) (by decide) (by omega) rfl))
    refine tw_l2i F dX12_orders_26 (by omega) (by omega) (fun z10 hz10 => ?_)
    refine lv_istore_n (lv' := [(2, .int z10), (0, .ref a0), (1, .int x1)]) F.1 F.2.1 dX12_orders_27 rfl hl (by decide) rfl (fun ls hl => ?_)
    refine lv_iload_n F.1 F.2.1 dX12_orders_28 rfl (lv_at hl 0 rfl) ?_
    refine tw_bipush F dX12_orders_29 kb_6 (fun z11 hz11 => ?_)
    refine tw_icmp_le (tgt := 40) F dX12_orders_31 (by decide) (fun b12 => ?_) (fun b12 => ?_)
    · refine lv_aload_n F.1 F.2.1 dX12_orders_40 rfl (lv_at hl 1 rfl) ?_
      refine g_12_416 F h m_a0 r_a0 dX12_orders_41 (fun v13 hv13 hv13a hv13b => ?_)
      refine tw_if_ne (tgt := 54) F dX12_orders_44 (by decide) (fun b14 => ?_) (fun b14 => ?_)
      · refine tw_iconst F dX12_orders_54 ki_1 (fun z15 hz15 => ?_)
        refine lv_istore_n (lv' := [(3, .int z15), (2, .int z10), (0, .ref a0), (1, .int x1)]) F.1 F.2.1 dX12_orders_55 rfl hl (by decide) rfl (fun ls hl => ?_)
        refine tw_iconst F dX12_orders_56 ki_0 (fun z16 hz16 => ?_)
        refine lv_istore (lv' := [(4, .int z16), (3, .int z15), (2, .int z10), (0, .ref a0), (1, .int x1)]) F.1 F.2.1 dX12_orders_57 hl (by decide) rfl (fun ls hl => ?_)
        have j_59 : ∀ (n59 : Nat) (ls : Array Slot) (x3_59 : Int32) (x4_59 : Int32), 0 ≤ x4_59.toInt → x4_59.toInt ≤ 6 → ((6 - x4_59.toInt)).toNat < n59 → lv_has ls 10 [(0, .ref a0), (1, .int x1), (2, .int z10), (3, .int x3_59), (4, .int x4_59)] → W p l e rm_X12_orders s m args below meth c H locs 0 0 Q (F0 m 59 ls []) := by
          intro n59
          induction n59 with
          | zero =>
            intro ls x3_59 x4_59 b17 b18 b19 hl
            exfalso
            omega
          | succ n59 ih59 =>
            intro ls x3_59 x4_59 b17 b18 b19 hl
            refine lv_iload F.1 F.2.1 dX12_orders_59 (lv_at hl 4 rfl) ?_
            refine lv_iload_n F.1 F.2.1 dX12_orders_61 rfl (lv_at hl 2 rfl) ?_
            refine tw_icmp_ge (tgt := 75) F dX12_orders_62 (by decide) (fun b20 => ?_) (fun b20 => ?_)
            · refine tw_iconst F dX12_orders_75 ki_0 (fun z21 hz21 => ?_)
              refine lv_istore (lv' := [(4, .int z21), (0, .ref a0), (1, .int x1), (2, .int z10), (3, .int x3_59)]) F.1 F.2.1 dX12_orders_76 hl (by decide) rfl (fun ls hl => ?_)
              refine tw_iconst F dX12_orders_78 ki_0 (fun z22 hz22 => ?_)
              refine lv_istore (lv' := [(5, .int z22), (4, .int z21), (0, .ref a0), (1, .int x1), (2, .int z10), (3, .int x3_59)]) F.1 F.2.1 dX12_orders_79 hl (by decide) rfl (fun ls hl => ?_)
              have j_81 : ∀ (n81 : Nat) (f23 : Nat → va_E) (H : Heap) (locs : List Loc) (ls : Array Slot) (x5_81 : Int32), 0 ≤ x5_81.toInt → x5_81.toInt ≤ 36 → ((36 - x5_81.toInt)).toNat < n81 → tS D cy A s.heap L R (TT cy L R) f23 s H locs → RBA GA f23 → GZ GP GL f23 → fr L R [(12, 1), (12, 28), (12, 29), (12, 33), (12, 35), (12, 36), (12, 37), (12, 38), (12, 39), (12, 60), (12, 61)] [12, 61, 68, 69, 70, 73, 74, 75, 76, 85, 86] f0 f23 → fr L R [] [85] f0 f23 → lv_has ls 10 [(0, .ref a0), (1, .int x1), (2, .int z10), (3, .int x3_59), (4, .int z21), (5, .int x5_81)] → W p l e rm_X12_orders s m args below meth c H locs 0 0 Q (F0 m 81 ls []) := by
                intro n81
                induction n81 with
                | zero =>
                  intro f23 H locs ls x5_81 b24 b25 b26 h hR hX hk hb81 hl
                  exfalso
                  omega
                | succ n81 ih81 =>
                  intro f23 H locs ls x5_81 b24 b25 b26 h hR hX hk hb81 hl
                  have e27 : fld f23 a0 0 = .ref GA := (hb81.efl m_a0 r_a0 rfl).trans t_GA
                  have e28 : fld f23 a0 22 = .ref GP := (hb81.efl m_a0 r_a0 rfl).trans t_GP
                  have e29 : fld f23 a0 23 = .ref GL := (hb81.efl m_a0 r_a0 rfl).trans t_GL
                  have e30 : fld f23 a0 6 = .ref GT := (hb81.efl m_a0 r_a0 rfl).trans t_GT
                  refine lv_iload F.1 F.2.1 dX12_orders_81 (lv_at hl 5 rfl) ?_
                  refine tw_bipush F dX12_orders_83 kb_36 (fun z31 hz31 => ?_)
                  refine tw_icmp_ge (tgt := 102) F dX12_orders_85 (by decide) (fun b32 => ?_) (fun b32 => ?_)
                  · refine lv_aload_n F.1 F.2.1 dX12_orders_102 rfl (lv_at hl 0 rfl) ?_
                    refine tw_iconst F dX12_orders_103 ki_1 (fun z33 hz33 => ?_)
                    refine p_12_331 F h m_a0 r_a0 (by omega) dX12_orders_104 (fun f34 H locs e34p hf34 h => ?_)
                    have hR : RBA GA f34 := hR.fm hf34 m_GA r_GA (by decide +kernel)
                    have hX : GZ GP GL f34 := hX.fm hf34 m_GP r_GP m_GL r_GL (by decide +kernel) (by decide +kernel)
                    have hk : fr L R [(12, 1), (12, 28), (12, 29), (12, 33), (12, 35), (12, 36), (12, 37), (12, 38), (12, 39), (12, 60), (12, 61)] [12, 61, 68, 69, 70, 73, 74, 75, 76, 85, 86] f0 f34 := hk.tr hf34 rfl rfl
                    have e35 : fld f34 a0 0 = .ref GA := (hf34.efl m_a0 r_a0 rfl).trans e27
                    have e36 : fld f34 a0 22 = .ref GP := (hf34.efl m_a0 r_a0 rfl).trans e28
                    have e37 : fld f34 a0 23 = .ref GL := (hf34.efl m_a0 r_a0 rfl).trans e29
                    have e38 : fld f34 a0 6 = .ref GT := (hf34.efl m_a0 r_a0 rfl).trans e30
                    refine tw_iconst F dX12_orders_107 ki_0 (fun z39 hz39 => ?_)
                    refine lv_istore (lv' := [(5, .int z39), (0, .ref a0), (1, .int x1), (2, .int z10), (3, .int x3_59), (4, .int z21)]) F.1 F.2.1 dX12_orders_108 hl (by decide) rfl (fun ls hl => ?_)
                    have j_110 : ∀ (n110 : Nat) (f40 : Nat → va_E) (H : Heap) (locs : List Loc) (ls : Array Slot) (x4_110 : Int32) (x5_110 : Int32), 0 ≤ x5_110.toInt → ((2147483647 - x5_110.toInt)).toNat < n110 → tS D cy A s.heap L R (TT cy L R) f40 s H locs → RBA GA f40 → GZ GP GL f40 → fr L R [(12, 1), (12, 28), (12, 29), (12, 33), (12, 35), (12, 36), (12, 37), (12, 38), (12, 39), (12, 60), (12, 61)] [12, 61, 68, 69, 70, 73, 74, 75, 76, 85, 86] f0 f40 → fr L R [(12, 28), (12, 29), (12, 35), (12, 36), (12, 37), (12, 38), (12, 39)] [12, 61, 68, 69, 70, 73, 74, 75, 76, 85, 86] f34 f40 → lv_has ls 10 [(0, .ref a0), (1, .int x1), (2, .int z10), (3, .int x3_59), (4, .int x4_110), (5, .int x5_110)] → W p l e rm_X12_orders s m args below meth c H locs 0 0 Q (F0 m 110 ls []) := by
                      intro n110
                      induction n110 with
                      | zero =>
                        intro f40 H locs ls x4_110 x5_110 b41 b42 h hR hX hk hb110 hl
                        exfalso
                        omega
                      | succ n110 ih110 =>
                        intro f40 H locs ls x4_110 x5_110 b41 b42 h hR hX hk hb110 hl
                        have e43 : fld f40 a0 0 = .ref GA := (hb110.efl m_a0 r_a0 rfl).trans e35
                        have e44 : fld f40 a0 22 = .ref GP := (hb110.efl m_a0 r_a0 rfl).trans e36
                        have e45 : fld f40 a0 23 = .ref GL := (hb110.efl m_a0 r_a0 rfl).trans e37
                        have e46 : fld f40 a0 6 = .ref GT := (hb110.efl m_a0 r_a0 rfl).trans e38
                        refine lv_iload F.1 F.2.1 dX12_orders_110 (lv_at hl 5 rfl) ?_
                        refine lv_iload_n F.1 F.2.1 dX12_orders_112 rfl (lv_at hl 3 rfl) ?_
                        refine tw_icmp_ge (tgt := 283) F dX12_orders_113 (by decide) (fun b47 => ?_) (fun b47 => ?_)
                        · refine lv_aload_n F.1 F.2.1 dX12_orders_283 rfl (lv_at hl 0 rfl) ?_
                          refine tw_iconst F dX12_orders_284 ki_0 (fun z48 hz48 => ?_)
                          refine p_12_331 F h m_a0 r_a0 (by omega) dX12_orders_285 (fun f49 H locs e49p hf49 h => ?_)
                          have hR : RBA GA f49 := hR.fm hf49 m_GA r_GA (by decide +kernel)
                          have hX : GZ GP GL f49 := hX.fm hf49 m_GP r_GP m_GL r_GL (by decide +kernel) (by decide +kernel)
                          have hk : fr L R [(12, 1), (12, 28), (12, 29), (12, 33), (12, 35), (12, 36), (12, 37), (12, 38), (12, 39), (12, 60), (12, 61)] [12, 61, 68, 69, 70, 73, 74, 75, 76, 85, 86] f0 f49 := hk.tr hf49 rfl rfl
                          have e50 : fld f49 a0 0 = .ref GA := (hf49.efl m_a0 r_a0 rfl).trans e43
                          have e51 : fld f49 a0 22 = .ref GP := (hf49.efl m_a0 r_a0 rfl).trans e44
                          have e52 : fld f49 a0 23 = .ref GL := (hf49.efl m_a0 r_a0 rfl).trans e45
                          have e53 : fld f49 a0 6 = .ref GT := (hf49.efl m_a0 r_a0 rfl).trans e46
                          refine lv_aload_n F.1 F.2.1 dX12_orders_288 rfl (lv_at hl 0 rfl) ?_
                          refine lv_iload F.1 F.2.1 dX12_orders_289 (lv_at hl 4 rfl) ?_
                          refine p_12_112 F h m_a0 r_a0 dX12_orders_291 (fun f54 H locs e54p hf54 h => ?_)
                          have hR : RBA GA f54 := hR.fm hf54 m_GA r_GA (by decide +kernel)
                          have hX : GZ GP GL f54 := hX.fm hf54 m_GP r_GP m_GL r_GL (by decide +kernel) (by decide +kernel)
                          have hk : fr L R [(12, 1), (12, 28), (12, 29), (12, 33), (12, 35), (12, 36), (12, 37), (12, 38), (12, 39), (12, 60), (12, 61)] [12, 61, 68, 69, 70, 73, 74, 75, 76, 85, 86] f0 f54 := hk.tr hf54 rfl rfl
                          have e55 : fld f54 a0 0 = .ref GA := (hf54.efl m_a0 r_a0 rfl).trans e50
                          have e56 : fld f54 a0 22 = .ref GP := (hf54.efl m_a0 r_a0 rfl).trans e51
                          have e57 : fld f54 a0 23 = .ref GL := (hf54.efl m_a0 r_a0 rfl).trans e52
                          have e58 : fld f54 a0 6 = .ref GT := (hf54.efl m_a0 r_a0 rfl).trans e53
                          refine lv_aload_n F.1 F.2.1 dX12_orders_294 rfl (lv_at hl 0 rfl) ?_
                          refine lv_iload_n F.1 F.2.1 dX12_orders_295 rfl (lv_at hl 2 rfl) ?_
                          refine p_12_457 F h m_a0 r_a0 (by omega) dX12_orders_296 (fun f59 H locs e59p hf59 h => ?_)
                          have hR : RBA GA f59 := hR.fm hf59 m_GA r_GA (by decide +kernel)
                          have hX : GZ GP GL f59 := hX.fm hf59 m_GP r_GP m_GL r_GL (by decide +kernel) (by decide +kernel)
                          have hk : fr L R [(12, 1), (12, 28), (12, 29), (12, 33), (12, 35), (12, 36), (12, 37), (12, 38), (12, 39), (12, 60), (12, 61)] [12, 61, 68, 69, 70, 73, 74, 75, 76, 85, 86] f0 f59 := hk.tr hf59 rfl rfl
                          have e60 : fld f59 a0 0 = .ref GA := (hf59.efl m_a0 r_a0 rfl).trans e55
                          have e61 : fld f59 a0 22 = .ref GP := (hf59.efl m_a0 r_a0 rfl).trans e56
                          have e62 : fld f59 a0 23 = .ref GL := (hf59.efl m_a0 r_a0 rfl).trans e57
                          have e63 : fld f59 a0 6 = .ref GT := (hf59.efl m_a0 r_a0 rfl).trans e58
                          refine lv_aload_n F.1 F.2.1 dX12_orders_299 rfl (lv_at hl 0 rfl) ?_
                          refine lv_iload F.1 F.2.1 dX12_orders_300 (lv_at hl 4 rfl) ?_
                          refine tw_Vi (As := [.int x4_110]) F hZ h yk_X12_gives mw_499 mw_500 mw_501 (s_X12_gives l D cy L R O f59 a0 m_a0 r_a0 x4_110) rfl rfl m_a0 r_a0 (fun e q => (T_12 e).mp q) rfl hl.1 rfl (Nat.le_of_ble_eq_true rfl) ⟨Nat.le_of_ble_eq_true rfl, Nat.le_of_ble_eq_true rfl⟩ ⟨Nat.le_of_ble_eq_true rfl, Nat.le_of_ble_eq_true rfl⟩ dX12_orders_302 (fun v65 f64 H locs hp64 h => ?_)
                          have hf64 := hp64
                          have hR : RBA GA f64 := hR.fm hf64 m_GA r_GA (by decide +kernel)
                          have hX : GZ GP GL f64 := hX.fm hf64 m_GP r_GP m_GL r_GL (by decide +kernel) (by decide +kernel)
                          have hk : fr L R [(12, 1), (12, 28), (12, 29), (12, 33), (12, 35), (12, 36), (12, 37), (12, 38), (12, 39), (12, 60), (12, 61)] [12, 61, 68, 69, 70, 73, 74, 75, 76, 85, 86] f0 f64 := hk.tr hf64 rfl rfl
                          have e66 : fld f64 a0 0 = .ref GA := (hf64.efl m_a0 r_a0 rfl).trans e60
                          have e67 : fld f64 a0 22 = .ref GP := (hf64.efl m_a0 r_a0 rfl).trans e61
                          have e68 : fld f64 a0 23 = .ref GL := (hf64.efl m_a0 r_a0 rfl).trans e62
                          have e69 : fld f64 a0 6 = .ref GT := (hf64.efl m_a0 r_a0 rfl).trans e63
                          exact hret f64 _ _ _ _ v65 dX12_orders_305 rfl ⟨hk, hR, hX⟩ h
                        · refine lv_iload F.1 F.2.1 dX12_orders_116 (lv_at hl 5 rfl) ?_
                          refine lv_istore (lv' := [(6, .int x5_110), (0, .ref a0), (1, .int x1), (2, .int z10), (3, .int x3_59), (4, .int x4_110), (5, .int x5_110)]) F.1 F.2.1 dX12_orders_118 hl (by decide) rfl (fun ls hl => ?_)
                          refine tw_iconst F dX12_orders_120 ki_0 (fun z70 hz70 => ?_)
                          refine lv_istore (lv' := [(7, .int z70), (6, .int x5_110), (0, .ref a0), (1, .int x1), (2, .int z10), (3, .int x3_59), (4, .int x4_110), (5, .int x5_110)]) F.1 F.2.1 dX12_orders_121 hl (by decide) rfl (fun ls hl => ?_)
                          refine tw_iconst F dX12_orders_123 ki_0 (fun z71 hz71 => ?_)
                          refine lv_istore (lv' := [(8, .int z71), (7, .int z70), (6, .int x5_110), (0, .ref a0), (1, .int x1), (2, .int z10), (3, .int x3_59), (4, .int x4_110), (5, .int x5_110)]) F.1 F.2.1 dX12_orders_124 hl (by decide) rfl (fun ls hl => ?_)
                          have j_126 : ∀ (n126 : Nat) (f72 : Nat → va_E) (H : Heap) (locs : List Loc) (ls : Array Slot) (x6_126 : Int32) (x7_126 : Int32) (x8_126 : Int32), 0 ≤ x8_126.toInt → x8_126.toInt ≤ 6 → 0 ≤ x6_126.toInt → ((6 - x8_126.toInt)).toNat < n126 → tS D cy A s.heap L R (TT cy L R) f72 s H locs → RBA GA f72 → GZ GP GL f72 → fr L R [(12, 1), (12, 28), (12, 29), (12, 33), (12, 35), (12, 36), (12, 37), (12, 38), (12, 39), (12, 60), (12, 61)] [12, 61, 68, 69, 70, 73, 74, 75, 76, 85, 86] f0 f72 → fr L R [] [75, 86] f40 f72 → lv_has ls 10 [(0, .ref a0), (1, .int x1), (2, .int z10), (3, .int x3_59), (4, .int x4_110), (5, .int x5_110), (6, .int x6_126), (7, .int x7_126), (8, .int x8_126)] → W p l e rm_X12_orders s m args below meth c H locs 0 0 Q (F0 m 126 ls []) := by
                            intro n126
                            induction n126 with
                            | zero =>
                              intro f72 H locs ls x6_126 x7_126 x8_126 b73 b74 b75 b76 h hR hX hk hb126 hl
                              exfalso
                              omega
                            | succ n126 ih126 =>
                              intro f72 H locs ls x6_126 x7_126 x8_126 b73 b74 b75 b76 h hR hX hk hb126 hl
                              have hb110 : fr L R [(12, 28), (12, 29), (12, 35), (12, 36), (12, 37), (12, 38), (12, 39)] [12, 61, 68, 69, 70, 73, 74, 75, 76, 85, 86] f34 f72 := hb110.tr hb126 rfl rfl
                              have e77 : fld f72 a0 0 = .ref GA := (hb126.efl m_a0 r_a0 rfl).trans e43
                              have e78 : fld f72 a0 22 = .ref GP := (hb126.efl m_a0 r_a0 rfl).trans e44
                              have e79 : fld f72 a0 23 = .ref GL := (hb126.efl m_a0 r_a0 rfl).trans e45
                              have e80 : fld f72 a0 6 = .ref GT := (hb126.efl m_a0 r_a0 rfl).trans e46
                              refine lv_iload F.1 F.2.1 dX12_orders_126 (lv_at hl 8 rfl) ?_
                              refine lv_iload_n F.1 F.2.1 dX12_orders_128 rfl (lv_at hl 2 rfl) ?_
                              refine tw_icmp_ge (tgt := 185) F dX12_orders_129 (by decide) (fun b81 => ?_) (fun b81 => ?_)
                              · refine lv_iload F.1 F.2.1 dX12_orders_185 (lv_at hl 7 rfl) ?_
                                refine tw_iconst F dX12_orders_187 ki_1 (fun z82 hz82 => ?_)
                                refine lv_iload_n F.1 F.2.1 dX12_orders_188 rfl (lv_at hl 2 rfl) ?_
                                refine lv_ishl F.1 F.2.1 dX12_orders_189 ?_
                                refine lv_topi (fun z83 _ => ?_)
                                refine tw_iconst F dX12_orders_190 ki_1 (fun z84 hz84 => ?_)
                                refine lv_isub F.1 F.2.1 dX12_orders_191 ?_
                                refine lv_topi (fun z85 _ => ?_)
                                have j_277 : ∀ (f86 : Nat → va_E) (H : Heap) (locs : List Loc) (ls : Array Slot) (x4_277 : Int32), tS D cy A s.heap L R (TT cy L R) f86 s H locs → RBA GA f86 → GZ GP GL f86 → fr L R [(12, 1), (12, 28), (12, 29), (12, 33), (12, 35), (12, 36), (12, 37), (12, 38), (12, 39), (12, 60), (12, 61)] [12, 61, 68, 69, 70, 73, 74, 75, 76, 85, 86] f0 f86 → fr L R [(12, 28), (12, 29), (12, 35), (12, 36), (12, 37), (12, 38), (12, 39)] [12, 61, 68, 69, 70, 73, 74, 76, 85] f72 f86 → lv_has ls 10 [(0, .ref a0), (1, .int x1), (2, .int z10), (3, .int x3_59), (4, .int x4_277), (5, .int x5_110)] → W p l e rm_X12_orders s m args below meth c H locs 0 0 Q (F0 m 277 ls []) := by
                                  intro f86 H locs ls x4_277 h hR hX hk hb277 hl
                                  have hb110 : fr L R [(12, 28), (12, 29), (12, 35), (12, 36), (12, 37), (12, 38), (12, 39)] [12, 61, 68, 69, 70, 73, 74, 75, 76, 85, 86] f34 f86 := hb110.tr hb277 (by decide +kernel) (by decide +kernel)
                                  have e87 : fld f86 a0 0 = .ref GA := (hb277.efl m_a0 r_a0 rfl).trans e77
                                  have e88 : fld f86 a0 22 = .ref GP := (hb277.efl m_a0 r_a0 rfl).trans e78
                                  have e89 : fld f86 a0 23 = .ref GL := (hb277.efl m_a0 r_a0 rfl).trans e79
                                  have e90 : fld f86 a0 6 = .ref GT := (hb277.efl m_a0 r_a0 rfl).trans e80
                                  have tb3 := tb_i x3_59
                                  refine tu_iinc F dX12_orders_277 hl (k := 5) rfl (by decide) ki_1 (by omega) (fun z91 ls hz91 hl => ?_)
                                  have hl : lv_has ls 10 [(5, .int z91), (0, .ref a0), (1, .int x1), (2, .int z10), (3, .int x3_59), (4, .int x4_277)] := hl
                                  refine lv_goto (tgt := 110) F.1 F.2.1 dX12_orders_280 (by decide) ?_
                                  exact ih110 f86 _ _ _ x4_277 z91 (by omega) (by omega) h hR hX hk hb110 (lv_sub hl [1, 2, 3, 4, 5, 0] rfl)
                                have hb277 : fr L R [(12, 28), (12, 29), (12, 35), (12, 36), (12, 37), (12, 38), (12, 39)] [12, 61, 68, 69, 70, 73, 74, 76, 85] f72 f72 := fr.rf
                                refine tw_icmp_ne (tgt := 277) F dX12_orders_192 (by decide) (fun b92 => ?_) (fun b92 => ?_)
                                · exact j_277 f72 _ _ _ x4_110 h hR hX hk hb277 (lv_sub hl [0, 1, 2, 3, 4, 5] rfl)
                                · refine lv_aload_n F.1 F.2.1 dX12_orders_195 rfl (lv_at hl 0 rfl) ?_
                                  refine lv_iload_n F.1 F.2.1 dX12_orders_196 rfl (lv_at hl 1 rfl) ?_
                                  refine tw_Vi (As := [.int x1]) F hZ h yk_X12_saysTalk mw_1518 mw_1519 mw_1520 (s_X12_saysTalk l D cy L R O f72 a0 m_a0 r_a0 x1 ⟨by omega, by omega⟩ GA m_GA r_GA e77 GP m_GP r_GP e78 GL m_GL r_GL e79 GT m_GT r_GT e80 hX hR) rfl rfl m_a0 r_a0 (fun e q => (T_12 e).mp q) rfl hl.1 rfl (Nat.le_of_ble_eq_true rfl) ⟨Nat.le_of_ble_eq_true rfl, Nat.le_of_ble_eq_true rfl⟩ ⟨Nat.le_of_ble_eq_true rfl, Nat.le_of_ble_eq_true rfl⟩ dX12_orders_197 (fun v94 f93 H locs hp93 h => ?_)
                                  obtain ⟨hf93, hv94a, hv94b, hv94p0, hv94p1⟩ := hp93
                                  have hR : RBA GA f93 := hR.kw hv94p1 (Or.inl (by omega))
                                  have hX : GZ GP GL f93 := hv94p0
                                  have hk : fr L R [(12, 1), (12, 28), (12, 29), (12, 33), (12, 35), (12, 36), (12, 37), (12, 38), (12, 39), (12, 60), (12, 61)] [12, 61, 68, 69, 70, 73, 74, 75, 76, 85, 86] f0 f93 := hk.tr hf93 (by decide +kernel) (by decide +kernel)
                                  have hb110 : fr L R [(12, 28), (12, 29), (12, 35), (12, 36), (12, 37), (12, 38), (12, 39)] [12, 61, 68, 69, 70, 73, 74, 75, 76, 85, 86] f34 f93 := hb110.tr hf93 (by decide +kernel) (by decide +kernel)
                                  have hb277 : fr L R [(12, 28), (12, 29), (12, 35), (12, 36), (12, 37), (12, 38), (12, 39)] [12, 61, 68, 69, 70, 73, 74, 76, 85] f72 f93 := hb277.tr hf93 (by decide +kernel) (by decide +kernel)
                                  have e95 : fld f93 a0 0 = .ref GA := (hf93.efl m_a0 r_a0 rfl).trans e77
                                  have e96 : fld f93 a0 22 = .ref GP := (hf93.efl m_a0 r_a0 rfl).trans e78
                                  have e97 : fld f93 a0 23 = .ref GL := (hf93.efl m_a0 r_a0 rfl).trans e79
                                  have e98 : fld f93 a0 6 = .ref GT := (hf93.efl m_a0 r_a0 rfl).trans e80
                                  refine tw_if_ne (tgt := 206) F dX12_orders_200 (by decide) (fun b99 => ?_) (fun b99 => ?_)
                                  · refine tu_iincU F dX12_orders_206 hl (k := 4) rfl (by decide) (fun z100 ls hl => ?_)
                                    have hl : lv_has ls 10 [(4, .int z100), (0, .ref a0), (1, .int x1), (2, .int z10), (3, .int x3_59), (5, .int x5_110), (6, .int x6_126), (7, .int x7_126), (8, .int x8_126)] := hl
                                    refine tw_iconst F dX12_orders_209 ki_0 (fun z101 hz101 => ?_)
                                    refine lv_istore (lv' := [(8, .int z101), (4, .int z100), (0, .ref a0), (1, .int x1), (2, .int z10), (3, .int x3_59), (5, .int x5_110), (6, .int x6_126), (7, .int x7_126)]) F.1 F.2.1 dX12_orders_210 hl (by decide) rfl (fun ls hl => ?_)
                                    have j_212 : ∀ (n212 : Nat) (f102 : Nat → va_E) (H : Heap) (locs : List Loc) (ls : Array Slot) (x8_212 : Int32), 0 ≤ x8_212.toInt → x8_212.toInt ≤ 6 → ((6 - x8_212.toInt)).toNat < n212 → tS D cy A s.heap L R (TT cy L R) f102 s H locs → RBA GA f102 → GZ GP GL f102 → fr L R [(12, 1), (12, 28), (12, 29), (12, 33), (12, 35), (12, 36), (12, 37), (12, 38), (12, 39), (12, 60), (12, 61)] [12, 61, 68, 69, 70, 73, 74, 75, 76, 85, 86] f0 f102 → fr L R [] [85] f93 f102 → lv_has ls 10 [(0, .ref a0), (1, .int x1), (2, .int z10), (3, .int x3_59), (4, .int z100), (5, .int x5_110), (8, .int x8_212)] → W p l e rm_X12_orders s m args below meth c H locs 0 0 Q (F0 m 212 ls []) := by
                                      intro n212
                                      induction n212 with
                                      | zero =>
                                        intro f102 H locs ls x8_212 b103 b104 b105 h hR hX hk hb212 hl
                                        exfalso
                                        omega
                                      | succ n212 ih212 =>
                                        intro f102 H locs ls x8_212 b103 b104 b105 h hR hX hk hb212 hl
                                        have hb110 : fr L R [(12, 28), (12, 29), (12, 35), (12, 36), (12, 37), (12, 38), (12, 39)] [12, 61, 68, 69, 70, 73, 74, 75, 76, 85, 86] f34 f102 := hb110.tr hb212 rfl rfl
                                        have hb277 : fr L R [(12, 28), (12, 29), (12, 35), (12, 36), (12, 37), (12, 38), (12, 39)] [12, 61, 68, 69, 70, 73, 74, 76, 85] f72 f102 := hb277.tr hb212 rfl rfl
                                        have e106 : fld f102 a0 0 = .ref GA := (hb212.efl m_a0 r_a0 rfl).trans e95
                                        have e107 : fld f102 a0 22 = .ref GP := (hb212.efl m_a0 r_a0 rfl).trans e96
                                        have e108 : fld f102 a0 23 = .ref GL := (hb212.efl m_a0 r_a0 rfl).trans e97
                                        have e109 : fld f102 a0 6 = .ref GT := (hb212.efl m_a0 r_a0 rfl).trans e98
                                        refine lv_iload F.1 F.2.1 dX12_orders_212 (lv_at hl 6 rfl) ?_
                                        refine lv_iload_n F.1 F.2.1 dX12_orders_214 rfl (lv_at hl 2 rfl) ?_
                                        refine tw_icmp_ge (tgt := 277) F dX12_orders_215 (by decide) (fun b110 => ?_) (fun b110 => ?_)
                                        · exact j_277 f102 _ _ _ z100 h hR hX hk hb277 (lv_sub hl [0, 1, 2, 3, 4, 5] rfl)
                                        · refine tw_iconst F dX12_orders_218 ki_0 (fun z111 hz111 => ?_)
                                          refine lv_istore (lv' := [(9, .int z111), (0, .ref a0), (1, .int x1), (2, .int z10), (3, .int x3_59), (4, .int z100), (5, .int x5_110), (8, .int x8_212)]) F.1 F.2.1 dX12_orders_219 hl (by decide) rfl (fun ls hl => ?_)
                                          have j_221 : ∀ (n221 : Nat) (f112 : Nat → va_E) (H : Heap) (locs : List Loc) (ls : Array Slot) (x9_221 : Int32), 0 ≤ x9_221.toInt → x9_221.toInt ≤ 6 → ((6 - x9_221.toInt)).toNat < n221 → tS D cy A s.heap L R (TT cy L R) f112 s H locs → RBA GA f112 → GZ GP GL f112 → fr L R [(12, 1), (12, 28), (12, 29), (12, 33), (12, 35), (12, 36), (12, 37), (12, 38), (12, 39), (12, 60), (12, 61)] [12, 61, 68, 69, 70, 73, 74, 75, 76, 85, 86] f0 f112 → fr L R [] [85] f102 f112 → lv_has ls 10 [(0, .ref a0), (1, .int x1), (2, .int z10), (3, .int x3_59), (4, .int z100), (5, .int x5_110), (8, .int x8_212), (9, .int x9_221)] → W p l e rm_X12_orders s m args below meth c H locs 0 0 Q (F0 m 221 ls []) := by
                                            intro n221
                                            induction n221 with
                                            | zero =>
                                              intro f112 H locs ls x9_221 b113 b114 b115 h hR hX hk hb221 hl
                                              exfalso
                                              omega
                                            | succ n221 ih221 =>
                                              intro f112 H locs ls x9_221 b113 b114 b115 h hR hX hk hb221 hl
                                              have hb110 : fr L R [(12, 28), (12, 29), (12, 35), (12, 36), (12, 37), (12, 38), (12, 39)] [12, 61, 68, 69, 70, 73, 74, 75, 76, 85, 86] f34 f112 := hb110.tr hb221 rfl rfl
                                              have hb277 : fr L R [(12, 28), (12, 29), (12, 35), (12, 36), (12, 37), (12, 38), (12, 39)] [12, 61, 68, 69, 70, 73, 74, 76, 85] f72 f112 := hb277.tr hb221 rfl rfl
                                              have hb212 : fr L R [] [85] f93 f112 := hb212.tr hb221 rfl rfl
                                              have e116 : fld f112 a0 0 = .ref GA := (hb221.efl m_a0 r_a0 rfl).trans e106
                                              have e117 : fld f112 a0 22 = .ref GP := (hb221.efl m_a0 r_a0 rfl).trans e107
                                              have e118 : fld f112 a0 23 = .ref GL := (hb221.efl m_a0 r_a0 rfl).trans e108
                                              have e119 : fld f112 a0 6 = .ref GT := (hb221.efl m_a0 r_a0 rfl).trans e109
                                              refine lv_iload F.1 F.2.1 dX12_orders_221 (lv_at hl 7 rfl) ?_
                                              refine lv_iload_n F.1 F.2.1 dX12_orders_223 rfl (lv_at hl 2 rfl) ?_
                                              refine tw_icmp_ge (tgt := 271) F dX12_orders_224 (by decide) (fun b120 => ?_) (fun b120 => ?_)
                                              · refine tu_iinc F dX12_orders_271 hl (k := 6) rfl (by decide) ki_1 (by omega) (fun z121 ls hz121 hl => ?_)
                                                have hl : lv_has ls 10 [(8, .int z121), (0, .ref a0), (1, .int x1), (2, .int z10), (3, .int x3_59), (4, .int z100), (5, .int x5_110), (9, .int x9_221)] := hl
                                                refine lv_goto (tgt := 212) F.1 F.2.1 dX12_orders_274 (by decide) ?_
                                                exact ih212 f112 _ _ _ z121 (by omega) (by omega) (by omega) h hR hX hk hb212 (lv_sub hl [1, 2, 3, 4, 5, 6, 0] rfl)
                                              · refine lv_aload_n F.1 F.2.1 dX12_orders_227 rfl (lv_at hl 0 rfl) ?_
                                                refine g_12_115 F h m_a0 r_a0 dX12_orders_228 (fun o122 m_o122 r_o122 ho122 => ?_)
                                                refine tw_bipush F dX12_orders_231 kb_6 (fun z123 hz123 => ?_)
                                                refine lv_iload F.1 F.2.1 dX12_orders_233 (lv_at hl 6 rfl) ?_
                                                refine tu_imull F dX12_orders_235 hz123 (by omega) (fun z124 hz124 => ?_)
                                                refine lv_iload F.1 F.2.1 dX12_orders_236 (lv_at hl 7 rfl) ?_
                                                refine tu_iadd F dX12_orders_238 (by omega) (fun z125 hz125 => ?_)
                                                refine lv_dup2_11 F.1 F.2.1 dX12_orders_239 rfl rfl ?_
                                                refine ld_85 F h m_o122 r_o122 (by omega) dX12_orders_240 (fun v126 => ?_)
                                                refine lv_aload_n F.1 F.2.1 dX12_orders_241 rfl (lv_at hl 0 rfl) ?_
                                                refine g_12_118 F h m_a0 r_a0 dX12_orders_242 (fun o127 m_o127 r_o127 ho127 => ?_)
                                                refine lv_iload F.1 F.2.1 dX12_orders_245 (lv_at hl 6 rfl) ?_
                                                refine ld_86 F h m_o127 r_o127 (by omega) dX12_orders_247 (fun v128 hv128a hv128b => ?_)
                                                refine lv_aload_n F.1 F.2.1 dX12_orders_248 rfl (lv_at hl 0 rfl) ?_
                                                refine g_12_118 F h m_a0 r_a0 dX12_orders_249 (fun o129 m_o129 r_o129 ho129 => ?_)
                                                refine lv_iload F.1 F.2.1 dX12_orders_252 (lv_at hl 7 rfl) ?_
                                                refine ld_86 F h m_o129 r_o129 (by omega) dX12_orders_254 (fun v130 hv130a hv130b => ?_)
                                                have j_263 : ∀ (ls : Array Slot) (y0_263 : Int32), 0 ≤ y0_263.toInt → y0_263.toInt ≤ 1 → lv_has ls 10 [(0, .ref a0), (1, .int x1), (2, .int z10), (3, .int x3_59), (4, .int z100), (5, .int x5_110), (8, .int x8_212), (9, .int x9_221)] → W p l e rm_X12_orders s m args below meth c H locs 0 0 Q (F0 m 263 ls [.int y0_263, .int v126, .int z125, .ref o122]) := by
                                                  intro ls y0_263 b131 b132 hl
                                                  refine lv_iadd F.1 F.2.1 dX12_orders_263 ?_
                                                  refine lv_topi (fun z133 _ => ?_)
                                                  refine st_85 F h m_o122 r_o122 (by omega) dX12_orders_264 (fun f134 H locs hf134 h => ?_)
                                                  have hR : RBA GA f134 := hR.fm hf134 m_GA r_GA (by decide +kernel)
                                                  have hX : GZ GP GL f134 := hX.fm hf134 m_GP r_GP m_GL r_GL (by decide +kernel) (by decide +kernel)
                                                  have hk : fr L R [(12, 1), (12, 28), (12, 29), (12, 33), (12, 35), (12, 36), (12, 37), (12, 38), (12, 39), (12, 60), (12, 61)] [12, 61, 68, 69, 70, 73, 74, 75, 76, 85, 86] f0 f134 := hk.tr hf134 rfl rfl
                                                  have hb110 : fr L R [(12, 28), (12, 29), (12, 35), (12, 36), (12, 37), (12, 38), (12, 39)] [12, 61, 68, 69, 70, 73, 74, 75, 76, 85, 86] f34 f134 := hb110.tr hf134 rfl rfl
                                                  have hb277 : fr L R [(12, 28), (12, 29), (12, 35), (12, 36), (12, 37), (12, 38), (12, 39)] [12, 61, 68, 69, 70, 73, 74, 76, 85] f72 f134 := hb277.tr hf134 rfl rfl
                                                  have hb212 : fr L R [] [85] f93 f134 := hb212.tr hf134 rfl rfl
                                                  have hb221 : fr L R [] [85] f102 f134 := hb221.tr hf134 rfl rfl
                                                  have e135 : fld f134 a0 0 = .ref GA := (hf134.efl m_a0 r_a0 rfl).trans e116
                                                  have e136 : fld f134 a0 22 = .ref GP := (hf134.efl m_a0 r_a0 rfl).trans e117
                                                  have e137 : fld f134 a0 23 = .ref GL := (hf134.efl m_a0 r_a0 rfl).trans e118
                                                  have e138 : fld f134 a0 6 = .ref GT := (hf134.efl m_a0 r_a0 rfl).trans e119
                                                  refine tu_iinc F dX12_orders_265 hl (k := 7) rfl (by decide) ki_1 (by omega) (fun z139 ls hz139 hl => ?_)
                                                  have hl : lv_has ls 10 [(9, .int z139), (0, .ref a0), (1, .int x1), (2, .int z10), (3, .int x3_59), (4, .int z100), (5, .int x5_110), (8, .int x8_212)] := hl
                                                  refine lv_goto (tgt := 221) F.1 F.2.1 dX12_orders_268 (by decide) ?_
                                                  exact ih221 f134 _ _ _ z139 (by omega) (by omega) (by omega) h hR hX hk hb221 (lv_sub hl [1, 2, 3, 4, 5, 6, 7, 0] rfl)
                                                refine tw_icmp_ge (tgt := 262) F dX12_orders_255 (by decide) (fun b140 => ?_) (fun b140 => ?_)
                                                · refine tw_iconst F dX12_orders_262 ki_0 (fun z141 hz141 => ?_)
                                                  exact j_263 _ z141 (by omega) (by omega) (lv_sub hl [0, 1, 2, 3, 4, 5, 6, 7] rfl)
                                                · refine tw_iconst F dX12_orders_258 ki_1 (fun z142 hz142 => ?_)
                                                  refine lv_goto (tgt := 263) F.1 F.2.1 dX12_orders_259 (by decide) ?_
                                                  exact j_263 _ z142 (by omega) (by omega) (lv_sub hl [0, 1, 2, 3, 4, 5, 6, 7] rfl)
                                          have hb221 : fr L R [] [85] f102 f102 := fr.rf
                                          exact j_221 (((6 - z111.toInt)).toNat + 1) f102 _ _ _ z111 (by omega) (by omega) (by omega) h hR hX hk hb221 (lv_sub hl [1, 2, 3, 4, 5, 6, 7, 0] rfl)
                                    have hb212 : fr L R [] [85] f93 f93 := fr.rf
                                    exact j_212 (((6 - z101.toInt)).toNat + 1) f93 _ _ _ z101 (by omega) (by omega) (by omega) h hR hX hk hb212 (lv_sub hl [2, 3, 4, 5, 1, 6, 0] rfl)
                                  · refine lv_goto (tgt := 277) F.1 F.2.1 dX12_orders_203 (by decide) ?_
                                    exact j_277 f93 _ _ _ x4_110 h hR hX hk hb277 (lv_sub hl [0, 1, 2, 3, 4, 5] rfl)
                              · refine lv_aload_n F.1 F.2.1 dX12_orders_132 rfl (lv_at hl 0 rfl) ?_
                                refine g_12_118 F h m_a0 r_a0 dX12_orders_133 (fun o143 m_o143 r_o143 ho143 => ?_)
                                refine lv_iload F.1 F.2.1 dX12_orders_136 (lv_at hl 8 rfl) ?_
                                refine lv_iload F.1 F.2.1 dX12_orders_138 (lv_at hl 6 rfl) ?_
                                refine lv_iload_n F.1 F.2.1 dX12_orders_140 rfl (lv_at hl 2 rfl) ?_
                                refine tu_irem F dX12_orders_141 (by omega) (fun z144 hz144a hz144b => ?_)
                                refine st_86 F h m_o143 r_o143 (by omega) (by omega) dX12_orders_142 (fun f145 H locs hf145 h => ?_)
                                have hR : RBA GA f145 := hR.fm hf145 m_GA r_GA (by decide +kernel)
                                have hX : GZ GP GL f145 := hX.fm hf145 m_GP r_GP m_GL r_GL (by decide +kernel) (by decide +kernel)
                                have hk : fr L R [(12, 1), (12, 28), (12, 29), (12, 33), (12, 35), (12, 36), (12, 37), (12, 38), (12, 39), (12, 60), (12, 61)] [12, 61, 68, 69, 70, 73, 74, 75, 76, 85, 86] f0 f145 := hk.tr hf145 rfl rfl
                                have hb110 : fr L R [(12, 28), (12, 29), (12, 35), (12, 36), (12, 37), (12, 38), (12, 39)] [12, 61, 68, 69, 70, 73, 74, 75, 76, 85, 86] f34 f145 := hb110.tr hf145 rfl rfl
                                have hb126 : fr L R [] [75, 86] f40 f145 := hb126.tr hf145 rfl rfl
                                have e146 : fld f145 a0 0 = .ref GA := (hf145.efl m_a0 r_a0 rfl).trans e77
                                have e147 : fld f145 a0 22 = .ref GP := (hf145.efl m_a0 r_a0 rfl).trans e78
                                have e148 : fld f145 a0 23 = .ref GL := (hf145.efl m_a0 r_a0 rfl).trans e79
                                have e149 : fld f145 a0 6 = .ref GT := (hf145.efl m_a0 r_a0 rfl).trans e80
                                refine lv_aload_n F.1 F.2.1 dX12_orders_143 rfl (lv_at hl 0 rfl) ?_
                                refine g_12_72 F h m_a0 r_a0 dX12_orders_144 (fun o150 m_o150 r_o150 ho150 => ?_)
                                refine lv_iload F.1 F.2.1 dX12_orders_147 (lv_at hl 8 rfl) ?_
                                refine lv_iload_n F.1 F.2.1 dX12_orders_149 rfl (lv_at hl 2 rfl) ?_
                                refine lv_aload_n F.1 F.2.1 dX12_orders_150 rfl (lv_at hl 0 rfl) ?_
                                refine g_12_118 F h m_a0 r_a0 dX12_orders_151 (fun o151 m_o151 r_o151 ho151 => ?_)
                                refine lv_iload F.1 F.2.1 dX12_orders_154 (lv_at hl 8 rfl) ?_
                                refine ld_86 F h m_o151 r_o151 (by omega) dX12_orders_156 (fun v152 hv152a hv152b => ?_)
                                refine tu_isub F dX12_orders_157 (by omega) (fun z153 hz153 => ?_)
                                refine st_75 F h m_o150 r_o150 (by omega) dX12_orders_158 (fun f154 H locs hf154 h => ?_)
                                have hR : RBA GA f154 := hR.fm hf154 m_GA r_GA (by decide +kernel)
                                have hX : GZ GP GL f154 := hX.fm hf154 m_GP r_GP m_GL r_GL (by decide +kernel) (by decide +kernel)
                                have hk : fr L R [(12, 1), (12, 28), (12, 29), (12, 33), (12, 35), (12, 36), (12, 37), (12, 38), (12, 39), (12, 60), (12, 61)] [12, 61, 68, 69, 70, 73, 74, 75, 76, 85, 86] f0 f154 := hk.tr hf154 rfl rfl
                                have hb110 : fr L R [(12, 28), (12, 29), (12, 35), (12, 36), (12, 37), (12, 38), (12, 39)] [12, 61, 68, 69, 70, 73, 74, 75, 76, 85, 86] f34 f154 := hb110.tr hf154 rfl rfl
                                have hb126 : fr L R [] [75, 86] f40 f154 := hb126.tr hf154 rfl rfl
                                have e155 : fld f154 a0 0 = .ref GA := (hf154.efl m_a0 r_a0 rfl).trans e146
                                have e156 : fld f154 a0 22 = .ref GP := (hf154.efl m_a0 r_a0 rfl).trans e147
                                have e157 : fld f154 a0 23 = .ref GL := (hf154.efl m_a0 r_a0 rfl).trans e148
                                have e158 : fld f154 a0 6 = .ref GT := (hf154.efl m_a0 r_a0 rfl).trans e149
                                refine lv_iload F.1 F.2.1 dX12_orders_159 (lv_at hl 7 rfl) ?_
                                refine tw_iconst F dX12_orders_161 ki_1 (fun z159 hz159 => ?_)
                                refine lv_aload_n F.1 F.2.1 dX12_orders_162 rfl (lv_at hl 0 rfl) ?_
                                refine g_12_118 F h m_a0 r_a0 dX12_orders_163 (fun o160 m_o160 r_o160 ho160 => ?_)
                                refine lv_iload F.1 F.2.1 dX12_orders_166 (lv_at hl 8 rfl) ?_
                                refine ld_86 F h m_o160 r_o160 (by omega) dX12_orders_168 (fun v161 hv161a hv161b => ?_)
                                refine lv_ishl F.1 F.2.1 dX12_orders_169 ?_
                                refine lv_topi (fun z162 _ => ?_)
                                refine lv_ior F.1 F.2.1 dX12_orders_170 ?_
                                refine lv_topi (fun z163 _ => ?_)
                                refine lv_istore (lv' := [(7, .int z163), (0, .ref a0), (1, .int x1), (2, .int z10), (3, .int x3_59), (4, .int x4_110), (5, .int x5_110), (6, .int x6_126), (8, .int x8_126)]) F.1 F.2.1 dX12_orders_171 hl (by decide) rfl (fun ls hl => ?_)
                                refine lv_iload F.1 F.2.1 dX12_orders_173 (lv_at hl 7 rfl) ?_
                                refine lv_iload_n F.1 F.2.1 dX12_orders_175 rfl (lv_at hl 3 rfl) ?_
                                refine tu_idiv F dX12_orders_176 (by omega) (fun z164 hz164a hz164b => ?_)
                                refine lv_istore (lv' := [(6, .int z164), (7, .int z163), (0, .ref a0), (1, .int x1), (2, .int z10), (3, .int x3_59), (4, .int x4_110), (5, .int x5_110), (8, .int x8_126)]) F.1 F.2.1 dX12_orders_177 hl (by decide) rfl (fun ls hl => ?_)
                                refine tu_iinc F dX12_orders_179 hl (k := 8) rfl (by decide) ki_1 (by omega) (fun z165 ls hz165 hl => ?_)
                                have hl : lv_has ls 10 [(8, .int z165), (6, .int z164), (7, .int z163), (0, .ref a0), (1, .int x1), (2, .int z10), (3, .int x3_59), (4, .int x4_110), (5, .int x5_110)] := hl
                                refine lv_goto (tgt := 126) F.1 F.2.1 dX12_orders_182 (by decide) ?_
                                exact ih126 f154 _ _ _ z164 z163 z165 (by omega) (by omega) (by omega) (by omega) h hR hX hk hb126 (lv_sub hl [3, 4, 5, 6, 7, 8, 1, 2, 0] rfl)
                          have hb126 : fr L R [] [75, 86] f40 f40 := fr.rf
                          exact j_126 (((6 - z71.toInt)).toNat + 1) f40 _ _ _ x5_110 z70 z71 (by omega) (by omega) (by omega) (by omega) h hR hX hk hb126 (lv_sub hl [3, 4, 5, 6, 7, 8, 2, 1, 0] rfl)
                    have hb110 : fr L R [(12, 28), (12, 29), (12, 35), (12, 36), (12, 37), (12, 38), (12, 39)] [12, 61, 68, 69, 70, 73, 74, 75, 76, 85, 86] f34 f34 := fr.rf
                    exact j_110 (((2147483647 - z39.toInt)).toNat + 1) f34 _ _ _ z21 z39 (by omega) (by omega) h hR hX hk hb110 (lv_sub hl [1, 2, 3, 4, 5, 0] rfl)
                  · refine lv_aload_n F.1 F.2.1 dX12_orders_88 rfl (lv_at hl 0 rfl) ?_
                    refine g_12_115 F h m_a0 r_a0 dX12_orders_89 (fun o166 m_o166 r_o166 ho166 => ?_)
                    refine lv_iload F.1 F.2.1 dX12_orders_92 (lv_at hl 5 rfl) ?_
                    refine tw_iconst F dX12_orders_94 ki_0 (fun z167 hz167 => ?_)
                    refine st_85 F h m_o166 r_o166 (by omega) dX12_orders_95 (fun f168 H locs hf168 h => ?_)
                    have hR : RBA GA f168 := hR.fm hf168 m_GA r_GA (by decide +kernel)
                    have hX : GZ GP GL f168 := hX.fm hf168 m_GP r_GP m_GL r_GL (by decide +kernel) (by decide +kernel)
                    have hk : fr L R [(12, 1), (12, 28), (12, 29), (12, 33), (12, 35), (12, 36), (12, 37), (12, 38), (12, 39), (12, 60), (12, 61)] [12, 61, 68, 69, 70, 73, 74, 75, 76, 85, 86] f0 f168 := hk.tr hf168 rfl rfl
                    have hb81 : fr L R [] [85] f0 f168 := hb81.tr hf168 rfl rfl
                    have e169 : fld f168 a0 0 = .ref GA := (hf168.efl m_a0 r_a0 rfl).trans e27
                    have e170 : fld f168 a0 22 = .ref GP := (hf168.efl m_a0 r_a0 rfl).trans e28
                    have e171 : fld f168 a0 23 = .ref GL := (hf168.efl m_a0 r_a0 rfl).trans e29
                    have e172 : fld f168 a0 6 = .ref GT := (hf168.efl m_a0 r_a0 rfl).trans e30
                    refine tu_iinc F dX12_orders_96 hl (k := 5) rfl (by decide) ki_1 (by omega) (fun z173 ls hz173 hl => ?_)
                    have hl : lv_has ls 10 [(5, .int z173), (0, .ref a0), (1, .int x1), (2, .int z10), (3, .int x3_59), (4, .int z21)] := hl
                    refine lv_goto (tgt := 81) F.1 F.2.1 dX12_orders_99 (by decide) ?_
                    exact ih81 f168 _ _ _ z173 (by omega) (by omega) (by omega) h hR hX hk hb81 (lv_sub hl [1, 2, 3, 4, 5, 0] rfl)
              have hb81 : fr L R [] [85] f0 f0 := fr.rf
              exact j_81 (((36 - z22.toInt)).toNat + 1) f0 _ _ _ z22 (by omega) (by omega) (by omega) h hR hX hk hb81 (lv_sub hl [2, 3, 4, 5, 1, 0] rfl)
            · refine lv_iload_n F.1 F.2.1 dX12_orders_65 rfl (lv_at hl 3 rfl) ?_
              refine lv_iload_n F.1 F.2.1 dX12_orders_66 rfl (lv_at hl 2 rfl) ?_
              refine lv_imul F.1 F.2.1 dX12_orders_67 ?_
              refine lv_topi (fun z174 _ => ?_)
              refine lv_istore_n (lv' := [(3, .int z174), (0, .ref a0), (1, .int x1), (2, .int z10), (4, .int x4_59)]) F.1 F.2.1 dX12_orders_68 rfl hl (by decide) rfl (fun ls hl => ?_)
              refine tu_iinc F dX12_orders_69 hl (k := 4) rfl (by decide) ki_1 (by omega) (fun z175 ls hz175 hl => ?_)
              have hl : lv_has ls 10 [(4, .int z175), (3, .int z174), (0, .ref a0), (1, .int x1), (2, .int z10)] := hl
              refine lv_goto (tgt := 59) F.1 F.2.1 dX12_orders_72 (by decide) ?_
              exact ih59 _ z174 z175 (by omega) (by omega) (by omega) (lv_sub hl [2, 3, 4, 1, 0] rfl)
        exact j_59 (((6 - z16.toInt)).toNat + 1) _ z15 z16 (by omega) (by omega) (by omega) (lv_sub hl [3, 4, 2, 1, 0] rfl)
      · refine lv_aload_n F.1 F.2.1 dX12_orders_47 rfl (lv_at hl 1 rfl) ?_
        refine tw_bipush F dX12_orders_48 kb_6 (fun z176 hz176 => ?_)
        refine tw_Vi (As := [.int z176]) F hZ h yk_X12_refuse mw_452 mw_453 mw_454 (s_X12_refuse l D cy L R O f0 a0 m_a0 r_a0 z176 ⟨by omega, by omega⟩) rfl rfl m_a0 r_a0 (fun e q => (T_12 e).mp q) rfl hl.1 rfl (Nat.le_of_ble_eq_true rfl) ⟨Nat.le_of_ble_eq_true rfl, Nat.le_of_ble_eq_true rfl⟩ ⟨Nat.le_of_ble_eq_true rfl, Nat.le_of_ble_eq_true rfl⟩ dX12_orders_50 (fun v178 f177 H locs hp177 h => ?_)
        obtain ⟨hf177, hv178a, hv178b⟩ := hp177
        have hR : RBA GA f177 := hR.fm hf177 m_GA r_GA (by decide +kernel)
        have hX : GZ GP GL f177 := hX.fm hf177 m_GP r_GP m_GL r_GL (by decide +kernel) (by decide +kernel)
        have hk : fr L R [(12, 1), (12, 28), (12, 29), (12, 33), (12, 35), (12, 36), (12, 37), (12, 38), (12, 39), (12, 60), (12, 61)] [12, 61, 68, 69, 70, 73, 74, 75, 76, 85, 86] f0 f177 := hk.tr hf177 rfl rfl
        have e179 : fld f177 a0 0 = .ref GA := (hf177.efl m_a0 r_a0 rfl).trans t_GA
        have e180 : fld f177 a0 22 = .ref GP := (hf177.efl m_a0 r_a0 rfl).trans t_GP
        have e181 : fld f177 a0 23 = .ref GL := (hf177.efl m_a0 r_a0 rfl).trans t_GL
        have e182 : fld f177 a0 6 = .ref GT := (hf177.efl m_a0 r_a0 rfl).trans t_GT
        exact hret f177 _ _ _ _ v178 dX12_orders_53 rfl ⟨hk, hR, hX⟩ h
    · refine lv_aload_n F.1 F.2.1 dX12_orders_34 rfl (lv_at hl 1 rfl) ?_
      refine tw_iconst F dX12_orders_35 ki_4 (fun z183 hz183 => ?_)
      refine tw_Vi (As := [.int z183]) F hZ h yk_X12_refuse mw_452 mw_453 mw_454 (s_X12_refuse l D cy L R O f0 a0 m_a0 r_a0 z183 ⟨by omega, by omega⟩) rfl rfl m_a0 r_a0 (fun e q => (T_12 e).mp q) rfl hl.1 rfl (Nat.le_of_ble_eq_true rfl) ⟨Nat.le_of_ble_eq_true rfl, Nat.le_of_ble_eq_true rfl⟩ ⟨Nat.le_of_ble_eq_true rfl, Nat.le_of_ble_eq_true rfl⟩ dX12_orders_36 (fun v185 f184 H locs hp184 h => ?_)
      obtain ⟨hf184, hv185a, hv185b⟩ := hp184
      have hR : RBA GA f184 := hR.fm hf184 m_GA r_GA (by decide +kernel)
      have hX : GZ GP GL f184 := hX.fm hf184 m_GP r_GP m_GL r_GL (by decide +kernel) (by decide +kernel)
      have hk : fr L R [(12, 1), (12, 28), (12, 29), (12, 33), (12, 35), (12, 36), (12, 37), (12, 38), (12, 39), (12, 60), (12, 61)] [12, 61, 68, 69, 70, 73, 74, 75, 76, 85, 86] f0 f184 := hk.tr hf184 rfl rfl
      have e186 : fld f184 a0 0 = .ref GA := (hf184.efl m_a0 r_a0 rfl).trans t_GA
      have e187 : fld f184 a0 22 = .ref GP := (hf184.efl m_a0 r_a0 rfl).trans t_GP
      have e188 : fld f184 a0 23 = .ref GL := (hf184.efl m_a0 r_a0 rfl).trans t_GL
      have e189 : fld f184 a0 6 = .ref GT := (hf184.efl m_a0 r_a0 rfl).trans t_GT
      exact hret f184 _ _ _ _ v185 dX12_orders_39 rfl ⟨hk, hR, hX⟩ h
  · refine lv_aload_n F.1 F.2.1 dX12_orders_8 rfl (lv_at hl 0 rfl) ?_
    refine tw_iconst F dX12_orders_9 ki_1 (fun z190 hz190 => ?_)
    refine tw_Vi (As := [.int z190]) F hZ h yk_X12_refuse mw_452 mw_453 mw_454 (s_X12_refuse l D cy L R O f0 a0 m_a0 r_a0 z190 ⟨by omega, by omega⟩) rfl rfl m_a0 r_a0 (fun e q => (T_12 e).mp q) rfl hl.1 rfl (Nat.le_of_ble_eq_true rfl) ⟨Nat.le_of_ble_eq_true rfl, Nat.le_of_ble_eq_true rfl⟩ ⟨Nat.le_of_ble_eq_true rfl, Nat.le_of_ble_eq_true rfl⟩ dX12_orders_10 (fun v192 f191 H locs hp191 h => ?_)
    obtain ⟨hf191, hv192a, hv192b⟩ := hp191
    have hR : RBA GA f191 := hR.fm hf191 m_GA r_GA (by decide +kernel)
    have hX : GZ GP GL f191 := hX.fm hf191 m_GP r_GP m_GL r_GL (by decide +kernel) (by decide +kernel)
    have hk : fr L R [(12, 1), (12, 28), (12, 29), (12, 33), (12, 35), (12, 36), (12, 37), (12, 38), (12, 39), (12, 60), (12, 61)] [12, 61, 68, 69, 70, 73, 74, 75, 76, 85, 86] f0 f191 := hk.tr hf191 rfl rfl
    have e193 : fld f191 a0 0 = .ref GA := (hf191.efl m_a0 r_a0 rfl).trans t_GA
    have e194 : fld f191 a0 22 = .ref GP := (hf191.efl m_a0 r_a0 rfl).trans t_GP
    have e195 : fld f191 a0 23 = .ref GL := (hf191.efl m_a0 r_a0 rfl).trans t_GL
    have e196 : fld f191 a0 6 = .ref GT := (hf191.efl m_a0 r_a0 rfl).trans t_GT
    exact hret f191 _ _ _ _ v192 dX12_orders_13 rfl ⟨hk, hR, hX⟩ h
theorem dX12_odds_0 : decode cX12_odds 0 = .ok (.iload_n 1, 1) := by decide +kernel
theorem dX12_odds_1 : decode cX12_odds 1 = .ok (.ifCond .lt 9, 3) := by decide +kernel
theorem dX12_odds_10 : decode cX12_odds 10 = .ok (.aload_n 0, 1) := by decide +kernel
theorem dX12_odds_11 : decode cX12_odds 11 = .ok (.iconst 1, 1) := by decide +kernel
theorem dX12_odds_12 : decode cX12_odds 12 = .ok (.invokevirtual 131, 3) := by decide +kernel
theorem dX12_odds_15 : decode cX12_odds 15 = .ok (.ireturn, 1) := by decide +kernel
theorem dX12_odds_4 : decode cX12_odds 4 = .ok (.iload_n 1, 1) := by decide +kernel
theorem dX12_odds_5 : decode cX12_odds 5 = .ok (.bipush 16, 2) := by decide +kernel
theorem dX12_odds_7 : decode cX12_odds 7 = .ok (.if_icmp .le 9, 3) := by decide +kernel
theorem dX12_odds_16 : decode cX12_odds 16 = .ok (.lconst 1, 1) := by decide +kernel
theorem dX12_odds_17 : decode cX12_odds 17 = .ok (.lstore_n 2, 1) := by decide +kernel
theorem dX12_odds_18 : decode cX12_odds 18 = .ok (.lconst 1, 1) := by decide +kernel
theorem dX12_odds_19 : decode cX12_odds 19 = .ok (.lstore 4, 2) := by decide +kernel
theorem dX12_odds_21 : decode cX12_odds 21 = .ok (.iconst 0, 1) := by decide +kernel
theorem dX12_odds_22 : decode cX12_odds 22 = .ok (.istore 6, 2) := by decide +kernel
theorem dX12_odds_24 : decode cX12_odds 24 = .ok (.iload 6, 2) := by decide +kernel
theorem dX12_odds_26 : decode cX12_odds 26 = .ok (.aload_n 0, 1) := by decide +kernel
theorem dX12_odds_27 : decode cX12_odds 27 = .ok (.getfield 416, 3) := by decide +kernel
theorem dX12_odds_30 : decode cX12_odds 30 = .ok (.if_icmp .ge 34, 3) := by decide +kernel
theorem dX12_odds_64 : decode cX12_odds 64 = .ok (.lload_n 2, 1) := by decide +kernel
theorem dX12_odds_65 : decode cX12_odds 65 = .ok (.lstore 6, 2) := by decide +kernel
theorem dX12_odds_67 : decode cX12_odds 67 = .ok (.lload 4, 2) := by decide +kernel
theorem dX12_odds_69 : decode cX12_odds 69 = .ok (.lstore 8, 2) := by decide +kernel
theorem dX12_odds_71 : decode cX12_odds 71 = .ok (.lload 8, 2) := by decide +kernel
theorem dX12_odds_73 : decode cX12_odds 73 = .ok (.lconst 0, 1) := by decide +kernel
theorem dX12_odds_74 : decode cX12_odds 74 = .ok (.lcmp, 1) := by decide +kernel
theorem dX12_odds_75 : decode cX12_odds 75 = .ok (.ifCond .eq 21, 3) := by decide +kernel
theorem dX12_odds_96 : decode cX12_odds 96 = .ok (.aload_n 0, 1) := by decide +kernel
theorem dX12_odds_97 : decode cX12_odds 97 = .ok (.lload_n 2, 1) := by decide +kernel
theorem dX12_odds_98 : decode cX12_odds 98 = .ok (.lload 6, 2) := by decide +kernel
theorem dX12_odds_100 : decode cX12_odds 100 = .ok (.ldiv, 1) := by decide +kernel
theorem dX12_odds_101 : decode cX12_odds 101 = .ok (.putfield 124, 3) := by decide +kernel
section
variable {p : Program} {l : Launch} {e : Env} {R0 : Room} {s : State} {m : MethodId} {args : Array Value} {below : List Frame} {meth : Method} {c : Code} {H H0 : Heap} {locs : List Loc} {cells slots : Nat} {Q : State → Prop} {cc : ByteArray} {nL : Nat} {D : va_G} {cy : Nat → ClassId} {A : Nat → Prop} {L : List Nat} {R : Nat → Nat} {f : Nat → va_E} {pc : Nat} {ls : Array Slot} {rest : List Value} {a : Nat}
theorem p_12_124 (F : CallFix p m c cc nL s args wsL_law RX12) (h : tS D cy A H0 L R (TT cy L R) f s H locs) {x : Int64} (ha : a ∈ L) (hr : R a = 12) (hdg : decode cc pc = .ok (.putfield 124, 3)) (kk : ∀ (f1 : Nat → va_E) (H1 : Heap) (locs1 : List Loc), fi f1 a 2 = x.toInt → fr L R [(12, 2)] [12] f f1 → tS D cy A H0 L R (TT cy L R) f1 s H1 locs1 → W p l e R0 s m args below meth c H1 locs1 cells slots Q (F0 m (pc + 3) ls (rest))) : W p l e R0 s m args below meth c H locs cells slots Q (F0 m pc ls (.long x :: .ref a :: rest)) := tu_putl (k := 2) F h ha hr T_12 rfl (tb_l x).1 (tb_l x).2 inlX12 tyX12_ok nmX12 rfl (Nat.le_of_ble_eq_true rfl) mw_255 rfl rfl rfl hdg kk
end
theorem dX12_odds_104 : decode cX12_odds 104 = .ok (.aload_n 0, 1) := by decide +kernel
theorem dX12_odds_105 : decode cX12_odds 105 = .ok (.lload 4, 2) := by decide +kernel
theorem dX12_odds_107 : decode cX12_odds 107 = .ok (.lload 6, 2) := by decide +kernel
theorem dX12_odds_109 : decode cX12_odds 109 = .ok (.ldiv, 1) := by decide +kernel
theorem dX12_odds_110 : decode cX12_odds 110 = .ok (.putfield 13, 3) := by decide +kernel
section
variable {p : Program} {l : Launch} {e : Env} {R0 : Room} {s : State} {m : MethodId} {args : Array Value} {below : List Frame} {meth : Method} {c : Code} {H H0 : Heap} {locs : List Loc} {cells slots : Nat} {Q : State → Prop} {cc : ByteArray} {nL : Nat} {D : va_G} {cy : Nat → ClassId} {A : Nat → Prop} {L : List Nat} {R : Nat → Nat} {f : Nat → va_E} {pc : Nat} {ls : Array Slot} {rest : List Value} {a : Nat}
theorem p_12_13 (F : CallFix p m c cc nL s args wsL_law RX12) (h : tS D cy A H0 L R (TT cy L R) f s H locs) {x : Int64} (ha : a ∈ L) (hr : R a = 12) (hdg : decode cc pc = .ok (.putfield 13, 3)) (kk : ∀ (f1 : Nat → va_E) (H1 : Heap) (locs1 : List Loc), fi f1 a 3 = x.toInt → fr L R [(12, 3)] [12] f f1 → tS D cy A H0 L R (TT cy L R) f1 s H1 locs1 → W p l e R0 s m args below meth c H1 locs1 cells slots Q (F0 m (pc + 3) ls (rest))) : W p l e R0 s m args below meth c H locs cells slots Q (F0 m pc ls (.long x :: .ref a :: rest)) := tu_putl (k := 3) F h ha hr T_12 rfl (tb_l x).1 (tb_l x).2 inlX12 tyX12_ok nmX12 rfl (Nat.le_of_ble_eq_true rfl) mw_203 rfl rfl rfl hdg kk
end
theorem dX12_odds_113 : decode cX12_odds 113 = .ok (.aload_n 0, 1) := by decide +kernel
theorem dX12_odds_114 : decode cX12_odds 114 = .ok (.iconst 0, 1) := by decide +kernel
theorem dX12_odds_115 : decode cX12_odds 115 = .ok (.invokevirtual 131, 3) := by decide +kernel
theorem dX12_odds_118 : decode cX12_odds 118 = .ok (.ireturn, 1) := by decide +kernel
theorem dX12_odds_78 : decode cX12_odds 78 = .ok (.lload 6, 2) := by decide +kernel
theorem dX12_odds_80 : decode cX12_odds 80 = .ok (.lload 8, 2) := by decide +kernel
theorem dX12_odds_82 : decode cX12_odds 82 = .ok (.lrem, 1) := by decide +kernel
theorem dX12_odds_83 : decode cX12_odds 83 = .ok (.lstore 10, 2) := by decide +kernel
theorem dX12_odds_85 : decode cX12_odds 85 = .ok (.lload 8, 2) := by decide +kernel
theorem dX12_odds_87 : decode cX12_odds 87 = .ok (.lstore 6, 2) := by decide +kernel
theorem dX12_odds_89 : decode cX12_odds 89 = .ok (.lload 10, 2) := by decide +kernel
theorem dX12_odds_91 : decode cX12_odds 91 = .ok (.lstore 8, 2) := by decide +kernel
theorem dX12_odds_93 : decode cX12_odds 93 = .ok (.goto (-22), 3) := by decide +kernel
theorem dX12_odds_33 : decode cX12_odds 33 = .ok (.aload_n 0, 1) := by decide +kernel
theorem dX12_odds_34 : decode cX12_odds 34 = .ok (.iload 6, 2) := by decide +kernel
theorem dX12_odds_36 : decode cX12_odds 36 = .ok (.invokevirtual 442, 3) := by decide +kernel
theorem dX12_odds_58 : decode cX12_odds 58 = .ok (.iinc 6 1, 3) := by decide +kernel
theorem dX12_odds_61 : decode cX12_odds 61 = .ok (.goto (-37), 3) := by decide +kernel
theorem dX12_odds_39 : decode cX12_odds 39 = .ok (.ifCond .ne 6, 3) := by decide +kernel
theorem dX12_odds_45 : decode cX12_odds 45 = .ok (.lload_n 2, 1) := by decide +kernel
theorem dX12_odds_46 : decode cX12_odds 46 = .ok (.iload_n 1, 1) := by decide +kernel
theorem dX12_odds_47 : decode cX12_odds 47 = .ok (.i2l, 1) := by decide +kernel
theorem dX12_odds_48 : decode cX12_odds 48 = .ok (.lmul, 1) := by decide +kernel
theorem dX12_odds_49 : decode cX12_odds 49 = .ok (.lstore_n 2, 1) := by decide +kernel
theorem dX12_odds_50 : decode cX12_odds 50 = .ok (.lload 4, 2) := by decide +kernel
theorem dX12_odds_52 : decode cX12_odds 52 = .ok (.ldc2_w 204, 3) := by decide +kernel
theorem mw_451 : Cond.constantLong RX12 204 (16) ∈ wsL_law := inr_19 _ (List.mem_of_getElem? (i := 19) rfl)
theorem kl_16 : (16 : Int64).toInt = 16 := by decide +kernel
theorem dX12_odds_55 : decode cX12_odds 55 = .ok (.lmul, 1) := by decide +kernel
theorem dX12_odds_56 : decode cX12_odds 56 = .ok (.lstore 4, 2) := by decide +kernel
theorem dX12_odds_42 : decode cX12_odds 42 = .ok (.goto 16, 3) := by decide +kernel
def rm_X12_odds : Room := { frames := 1, cells := 0, slots := 0, locals := 25 }
set_option maxHeartbeats 4000000 in
set_option maxRecDepth 100000 in
theorem s_X12_odds (l : Launch) (D : va_G) (cy : Nat → ClassId) (L : List Nat) (R O : Nat → Nat) (f0 : Nat → va_E) (a0 : Nat) (m_a0 : a0 ∈ L) (r_a0 : R a0 = 12) (x1 : Int32) : ∀ sz, Met l yX12_odds (Cond.code yX12_odds cX12_odds 12 (some .boolean) :: wsL_law) rm_X12_odds (va_Pc [.ref a0, .int x1] (tPZ D cy L R (TT cy L R) f0 sz)) (va_Qi (fun (r : Int32) f1 => fr L R [(12, 1), (12, 2), (12, 3)] [12] f0 f1 ∧ 0 ≤ r.toInt ∧ r.toInt ≤ 1) (tB D (tA L sz) L R (TT cy L R)) (tA L sz)) 0 0 (tA L sz) := by
  refine tw_enteri (by decide +kernel) rfl (Nat.le_of_ble_eq_true rfl) ?_
  intro p e s m below meth c A ls args Q F hZ h hl hret
  have hl : lv_has ls 12 [(0, .ref a0), (1, .int x1)] := hl
  have hk : fr L R [(12, 1), (12, 2), (12, 3)] [12] f0 f0 := fr.rf
  refine lv_iload_n F.1 F.2.1 dX12_odds_0 rfl (lv_at hl 1 rfl) ?_
  refine tw_if_lt (tgt := 10) F dX12_odds_1 (by decide) (fun b1 => ?_) (fun b1 => ?_)
  · refine lv_aload_n F.1 F.2.1 dX12_odds_10 rfl (lv_at hl 0 rfl) ?_
    refine tw_iconst F dX12_odds_11 ki_1 (fun z2 hz2 => ?_)
    refine tw_Vi (As := [.int z2]) F hZ h yk_X12_is mw_286 mw_287 mw_288 (s_X12_is l D cy L R O f0 a0 m_a0 r_a0 z2 ⟨by omega, by omega⟩) rfl rfl m_a0 r_a0 (fun e q => (T_12 e).mp q) rfl hl.1 rfl (Nat.le_of_ble_eq_true rfl) ⟨Nat.le_of_ble_eq_true rfl, Nat.le_of_ble_eq_true rfl⟩ ⟨Nat.le_of_ble_eq_true rfl, Nat.le_of_ble_eq_true rfl⟩ dX12_odds_12 (fun v4 f3 H locs hp3 h => ?_)
    obtain ⟨hf3, hv4a, hv4b, hv4p0⟩ := hp3
    have hk : fr L R [(12, 1), (12, 2), (12, 3)] [12] f0 f3 := hk.tr hf3 rfl rfl
    exact hret f3 _ _ _ _ v4 dX12_odds_15 (tw_nb (by omega)) ⟨hk, by omega, by omega⟩ h
  · refine lv_iload_n F.1 F.2.1 dX12_odds_4 rfl (lv_at hl 1 rfl) ?_
    refine tw_bipush F dX12_odds_5 kb_16 (fun z5 hz5 => ?_)
    refine tw_icmp_le (tgt := 16) F dX12_odds_7 (by decide) (fun b6 => ?_) (fun b6 => ?_)
    · refine tu_lconst F dX12_odds_16 (by decide) (fun z7 (hz7 : z7.toInt = 1) => ?_)
      refine lv_lstore_n (lv' := [(2, .long z7), (0, .ref a0), (1, .int x1)]) F.1 F.2.1 dX12_odds_17 rfl hl (by decide) rfl (fun ls hl => ?_)
      refine tu_lconst F dX12_odds_18 (by decide) (fun z8 (hz8 : z8.toInt = 1) => ?_)
      refine lv_lstore (lv' := [(4, .long z8), (2, .long z7), (0, .ref a0), (1, .int x1)]) F.1 F.2.1 dX12_odds_19 hl (by decide) rfl (fun ls hl => ?_)
      refine tw_iconst F dX12_odds_21 ki_0 (fun z9 hz9 => ?_)
      refine lv_istore (lv' := [(6, .int z9), (4, .long z8), (2, .long z7), (0, .ref a0), (1, .int x1)]) F.1 F.2.1 dX12_odds_22 hl (by decide) rfl (fun ls hl => ?_)
      have j_24 : ∀ (n24 : Nat) (H : Heap) (locs : List Loc) (ls : Array Slot) (x2_24 : Int64) (x4_24 : Int64) (x6_24 : Int32), 0 ≤ x6_24.toInt → x6_24.toInt ≤ 15 → (PW (x2_24.toInt) (x4_24.toInt) (x6_24.toInt.toNat)) → ((15 - x6_24.toInt)).toNat < n24 → tS D cy A s.heap L R (TT cy L R) f0 s H locs → lv_has ls 12 [(0, .ref a0), (1, .int x1), (2, .long x2_24), (4, .long x4_24), (6, .int x6_24)] → W p l e rm_X12_odds s m args below meth c H locs 0 0 Q (F0 m 24 ls []) := by
        intro n24
        induction n24 with
        | zero =>
          intro H locs ls x2_24 x4_24 x6_24 b10 b11 ip24_0 b12 h hl
          exfalso
          omega
        | succ n24 ih24 =>
          intro H locs ls x2_24 x4_24 x6_24 b10 b11 ip24_0 b12 h hl
          refine lv_iload F.1 F.2.1 dX12_odds_24 (lv_at hl 4 rfl) ?_
          refine lv_aload_n F.1 F.2.1 dX12_odds_26 rfl (lv_at hl 0 rfl) ?_
          refine g_12_416 F h m_a0 r_a0 dX12_odds_27 (fun v13 hv13 hv13a hv13b => ?_)
          refine tw_icmp_ge (tgt := 64) F dX12_odds_30 (by decide) (fun b14 => ?_) (fun b14 => ?_)
          · have hpw := PW_g ip24_0
            refine lv_lload_n F.1 F.2.1 dX12_odds_64 rfl (lv_at hl 2 rfl) ?_
            refine lv_lstore (lv' := [(6, .long x2_24), (0, .ref a0), (1, .int x1), (2, .long x2_24), (4, .long x4_24)]) F.1 F.2.1 dX12_odds_65 hl (by decide) rfl (fun ls hl => ?_)
            refine lv_lload F.1 F.2.1 dX12_odds_67 (lv_at hl 4 rfl) ?_
            refine lv_lstore (lv' := [(8, .long x4_24), (6, .long x2_24), (0, .ref a0), (1, .int x1), (2, .long x2_24), (4, .long x4_24)]) F.1 F.2.1 dX12_odds_69 hl (by decide) rfl (fun ls hl => ?_)
            have j_71 : ∀ (n71 : Nat) (ls : Array Slot) (x6_71 : Int64) (x8_71 : Int64), 0 ≤ x6_71.toInt → 0 ≤ x8_71.toInt → (0 < x6_71.toInt ∨ 0 < x8_71.toInt) → ((x8_71.toInt)).toNat < n71 → lv_has ls 12 [(0, .ref a0), (2, .long x2_24), (4, .long x4_24), (6, .long x6_71), (8, .long x8_71)] → W p l e rm_X12_odds s m args below meth c H locs 0 0 Q (F0 m 71 ls []) := by
              intro n71
              induction n71 with
              | zero =>
                intro ls x6_71 x8_71 b15 b16 b17 b18 hl
                exfalso
                omega
              | succ n71 ih71 =>
                intro ls x6_71 x8_71 b15 b16 b17 b18 hl
                refine lv_lload F.1 F.2.1 dX12_odds_71 (lv_at hl 4 rfl) ?_
                refine tu_lconst F dX12_odds_73 (by decide) (fun z19 (hz19 : z19.toInt = 0) => ?_)
                refine tw_lcmp F dX12_odds_74 (fun z20 hz20 => ?_)
                refine tw_if_eq (tgt := 96) F dX12_odds_75 (by decide) (fun b21 => ?_) (fun b21 => ?_)
                · refine lv_aload_n F.1 F.2.1 dX12_odds_96 rfl (lv_at hl 0 rfl) ?_
                  refine lv_lload_n F.1 F.2.1 dX12_odds_97 rfl (lv_at hl 1 rfl) ?_
                  refine lv_lload F.1 F.2.1 dX12_odds_98 (lv_at hl 3 rfl) ?_
                  refine lv_ldiv F.1 F.2.1 dX12_odds_100 (tw_ne0l (by omega)) ?_
                  refine lv_topl (fun z22 _ => ?_)
                  refine p_12_124 F h m_a0 r_a0 dX12_odds_101 (fun f23 H locs e23p hf23 h => ?_)
                  have hk : fr L R [(12, 1), (12, 2), (12, 3)] [12] f0 f23 := hk.tr hf23 rfl rfl
                  refine lv_aload_n F.1 F.2.1 dX12_odds_104 rfl (lv_at hl 0 rfl) ?_
                  refine lv_lload F.1 F.2.1 dX12_odds_105 (lv_at hl 2 rfl) ?_
                  refine lv_lload F.1 F.2.1 dX12_odds_107 (lv_at hl 3 rfl) ?_
                  refine lv_ldiv F.1 F.2.1 dX12_odds_109 (tw_ne0l (by omega)) ?_
                  refine lv_topl (fun z24 _ => ?_)
                  refine p_12_13 F h m_a0 r_a0 dX12_odds_110 (fun f25 H locs e25p hf25 h => ?_)
                  have hk : fr L R [(12, 1), (12, 2), (12, 3)] [12] f0 f25 := hk.tr hf25 rfl rfl
                  refine lv_aload_n F.1 F.2.1 dX12_odds_113 rfl (lv_at hl 0 rfl) ?_
                  refine tw_iconst F dX12_odds_114 ki_0 (fun z26 hz26 => ?_)
                  refine tw_Vi (As := [.int z26]) F hZ h yk_X12_is mw_286 mw_287 mw_288 (s_X12_is l D cy L R O f25 a0 m_a0 r_a0 z26 ⟨by omega, by omega⟩) rfl rfl m_a0 r_a0 (fun e q => (T_12 e).mp q) rfl hl.1 rfl (Nat.le_of_ble_eq_true rfl) ⟨Nat.le_of_ble_eq_true rfl, Nat.le_of_ble_eq_true rfl⟩ ⟨Nat.le_of_ble_eq_true rfl, Nat.le_of_ble_eq_true rfl⟩ dX12_odds_115 (fun v28 f27 H locs hp27 h => ?_)
                  obtain ⟨hf27, hv28a, hv28b, hv28p0⟩ := hp27
                  have hk : fr L R [(12, 1), (12, 2), (12, 3)] [12] f0 f27 := hk.tr hf27 rfl rfl
                  exact hret f27 _ _ _ _ v28 dX12_odds_118 (tw_nb (by omega)) ⟨hk, by omega, by omega⟩ h
                · refine lv_lload F.1 F.2.1 dX12_odds_78 (lv_at hl 3 rfl) ?_
                  refine lv_lload F.1 F.2.1 dX12_odds_80 (lv_at hl 4 rfl) ?_
                  refine tu_lrem F dX12_odds_82 (by omega) (fun z29 hz29a hz29b => ?_)
                  refine lv_lstore (lv' := [(10, .long z29), (0, .ref a0), (2, .long x2_24), (4, .long x4_24), (6, .long x6_71), (8, .long x8_71)]) F.1 F.2.1 dX12_odds_83 hl (by decide) rfl (fun ls hl => ?_)
                  refine lv_lload F.1 F.2.1 dX12_odds_85 (lv_at hl 5 rfl) ?_
                  refine lv_lstore (lv' := [(6, .long x8_71), (10, .long z29), (0, .ref a0), (2, .long x2_24), (4, .long x4_24), (8, .long x8_71)]) F.1 F.2.1 dX12_odds_87 hl (by decide) rfl (fun ls hl => ?_)
                  refine lv_lload F.1 F.2.1 dX12_odds_89 (lv_at hl 1 rfl) ?_
                  refine lv_lstore (lv' := [(8, .long z29), (6, .long x8_71), (10, .long z29), (0, .ref a0), (2, .long x2_24), (4, .long x4_24)]) F.1 F.2.1 dX12_odds_91 hl (by decide) rfl (fun ls hl => ?_)
                  refine lv_goto (tgt := 71) F.1 F.2.1 dX12_odds_93 (by decide) ?_
                  exact ih71 _ x8_71 z29 (by omega) (by omega) (by omega) (by omega) (lv_sub hl [3, 4, 5, 1, 0] rfl)
            exact j_71 (((x4_24.toInt)).toNat + 1) _ x2_24 x4_24 (by omega) (by omega) (by omega) (by omega) (lv_sub hl [2, 4, 5, 1, 0] rfl)
          · refine lv_aload_n F.1 F.2.1 dX12_odds_33 rfl (lv_at hl 0 rfl) ?_
            refine lv_iload F.1 F.2.1 dX12_odds_34 (lv_at hl 4 rfl) ?_
            refine tw_Vi (As := [.int x6_24]) F hZ h yk_X12_ahead1 mw_1405 mw_1406 mw_1407 (s_X12_ahead1 l D cy L R O f0 a0 m_a0 r_a0 x6_24 ⟨by omega, by omega⟩) rfl rfl m_a0 r_a0 (fun e q => (T_12 e).mp q) rfl hl.1 rfl (Nat.le_of_ble_eq_true rfl) ⟨Nat.le_of_ble_eq_true rfl, Nat.le_of_ble_eq_true rfl⟩ ⟨Nat.le_of_ble_eq_true rfl, Nat.le_of_ble_eq_true rfl⟩ dX12_odds_36 (fun v31 f30 H locs hp30 h => ?_)
            obtain rfl := hp30
            have j_58 : ∀ (ls : Array Slot) (x2_58 : Int64) (x4_58 : Int64), (PW (x2_58.toInt) (x4_58.toInt) (x6_24.toInt.toNat + 1)) → lv_has ls 12 [(0, .ref a0), (1, .int x1), (2, .long x2_58), (4, .long x4_58), (6, .int x6_24)] → W p l e rm_X12_odds s m args below meth c H locs 0 0 Q (F0 m 58 ls []) := by
              intro ls x2_58 x4_58 ip58_0 hl
              refine tu_iinc F dX12_odds_58 hl (k := 4) rfl (by decide) ki_1 (by omega) (fun z32 ls hz32 hl => ?_)
              have hl : lv_has ls 12 [(6, .int z32), (0, .ref a0), (1, .int x1), (2, .long x2_58), (4, .long x4_58)] := hl
              refine lv_goto (tgt := 24) F.1 F.2.1 dX12_odds_61 (by decide) ?_
              exact ih24 _ _ _ x2_58 x4_58 z32 (by omega) (by omega) (by rw [show z32.toInt.toNat = x6_24.toInt.toNat + 1 by omega]; exact ip58_0) (by omega) h (lv_sub hl [1, 2, 3, 4, 0] rfl)
            refine tw_if_ne (tgt := 45) F dX12_odds_39 (by decide) (fun b33 => ?_) (fun b33 => ?_)
            · refine lv_lload_n F.1 F.2.1 dX12_odds_45 rfl (lv_at hl 2 rfl) ?_
              refine lv_iload_n F.1 F.2.1 dX12_odds_46 rfl (lv_at hl 1 rfl) ?_
              refine tw_i2l F dX12_odds_47 (fun z34 hz34 => ?_)
              refine lv_lmul F.1 F.2.1 dX12_odds_48 ?_
              refine lv_topl (fun z35 qz35 => ?_)
              refine lv_lstore_n (lv' := [(2, .long z35), (0, .ref a0), (1, .int x1), (4, .long x4_24), (6, .int x6_24)]) F.1 F.2.1 dX12_odds_49 rfl hl (by decide) rfl (fun ls hl => ?_)
              refine lv_lload F.1 F.2.1 dX12_odds_50 (lv_at hl 3 rfl) ?_
              refine tu_ldc2 F mw_451 dX12_odds_52 kl_16 (fun z36 hz36 => ?_)
              refine lv_lmul F.1 F.2.1 dX12_odds_55 ?_
              refine lv_topl (fun z37 qz37 => ?_)
              refine lv_lstore (lv' := [(4, .long z37), (2, .long z35), (0, .ref a0), (1, .int x1), (6, .int x6_24)]) F.1 F.2.1 dX12_odds_56 hl (by decide) rfl (fun ls hl => ?_)
              exact j_58 _ z35 z37 (PW_s ip24_0 qz35 qz37 (by omega) hz36 (by omega) rfl) (lv_sub hl [2, 3, 1, 0, 4] rfl)
            · refine lv_goto (tgt := 58) F.1 F.2.1 dX12_odds_42 (by decide) ?_
              exact j_58 _ x2_24 x4_24 (PW_n ip24_0 rfl) (lv_sub hl [0, 1, 2, 3, 4] rfl)
      exact j_24 (((15 - z9.toInt)).toNat + 1) _ _ _ z7 z8 z9 (by omega) (by omega) (PW_0 (by omega) (by omega) (by omega)) (by omega) h (lv_sub hl [3, 4, 2, 1, 0] rfl)
    · refine lv_aload_n F.1 F.2.1 dX12_odds_10 rfl (lv_at hl 0 rfl) ?_
      refine tw_iconst F dX12_odds_11 ki_1 (fun z38 hz38 => ?_)
      refine tw_Vi (As := [.int z38]) F hZ h yk_X12_is mw_286 mw_287 mw_288 (s_X12_is l D cy L R O f0 a0 m_a0 r_a0 z38 ⟨by omega, by omega⟩) rfl rfl m_a0 r_a0 (fun e q => (T_12 e).mp q) rfl hl.1 rfl (Nat.le_of_ble_eq_true rfl) ⟨Nat.le_of_ble_eq_true rfl, Nat.le_of_ble_eq_true rfl⟩ ⟨Nat.le_of_ble_eq_true rfl, Nat.le_of_ble_eq_true rfl⟩ dX12_odds_12 (fun v40 f39 H locs hp39 h => ?_)
      obtain ⟨hf39, hv40a, hv40b, hv40p0⟩ := hp39
      have hk : fr L R [(12, 1), (12, 2), (12, 3)] [12] f0 f39 := hk.tr hf39 rfl rfl
      exact hret f39 _ _ _ _ v40 dX12_odds_15 (tw_nb (by omega)) ⟨hk, by omega, by omega⟩ h
theorem dX12_broken_0 : decode cX12_broken 0 = .ok (.lload_n 1, 1) := by decide +kernel
theorem dX12_broken_1 : decode cX12_broken 1 = .ok (.invokestatic 317, 3) := by decide +kernel
theorem dX12_broken_4 : decode cX12_broken 4 = .ok (.ifCond .eq 10, 3) := by decide +kernel
theorem dX12_broken_14 : decode cX12_broken 14 = .ok (.aload_n 0, 1) := by decide +kernel
theorem dX12_broken_15 : decode cX12_broken 15 = .ok (.iconst 1, 1) := by decide +kernel
theorem dX12_broken_16 : decode cX12_broken 16 = .ok (.invokevirtual 194, 3) := by decide +kernel
theorem dX12_broken_19 : decode cX12_broken 19 = .ok (.ireturn, 1) := by decide +kernel
theorem dX12_broken_7 : decode cX12_broken 7 = .ok (.lload_n 3, 1) := by decide +kernel
theorem dX12_broken_8 : decode cX12_broken 8 = .ok (.invokestatic 317, 3) := by decide +kernel
theorem dX12_broken_11 : decode cX12_broken 11 = .ok (.ifCond .ne 9, 3) := by decide +kernel
theorem dX12_broken_20 : decode cX12_broken 20 = .ok (.aload_n 0, 1) := by decide +kernel
theorem dX12_broken_21 : decode cX12_broken 21 = .ok (.getfield 7, 3) := by decide +kernel
theorem dX12_broken_24 : decode cX12_broken 24 = .ok (.sipush 5159, 3) := by decide +kernel
theorem dX12_broken_27 : decode cX12_broken 27 = .ok (.laload, 1) := by decide +kernel
theorem dX12_broken_28 : decode cX12_broken 28 = .ok (.l2i, 1) := by decide +kernel
theorem dX12_broken_29 : decode cX12_broken 29 = .ok (.istore 5, 2) := by decide +kernel
theorem dX12_broken_31 : decode cX12_broken 31 = .ok (.iload 5, 2) := by decide +kernel
theorem dX12_broken_33 : decode cX12_broken 33 = .ok (.bipush 12, 2) := by decide +kernel
theorem dX12_broken_35 : decode cX12_broken 35 = .ok (.if_icmp .ne 9, 3) := by decide +kernel
theorem dX12_broken_44 : decode cX12_broken 44 = .ok (.aload_n 0, 1) := by decide +kernel
theorem dX12_broken_45 : decode cX12_broken 45 = .ok (.getfield 7, 3) := by decide +kernel
theorem dX12_broken_48 : decode cX12_broken 48 = .ok (.sipush 5160, 3) := by decide +kernel
theorem dX12_broken_51 : decode cX12_broken 51 = .ok (.iconst 2, 1) := by decide +kernel
theorem dX12_broken_52 : decode cX12_broken 52 = .ok (.iload 5, 2) := by decide +kernel
theorem dX12_broken_54 : decode cX12_broken 54 = .ok (.imul, 1) := by decide +kernel
theorem dX12_broken_55 : decode cX12_broken 55 = .ok (.iadd, 1) := by decide +kernel
theorem dX12_broken_56 : decode cX12_broken 56 = .ok (.lload_n 1, 1) := by decide +kernel
theorem dX12_broken_57 : decode cX12_broken 57 = .ok (.lastore, 1) := by decide +kernel
theorem dX12_broken_58 : decode cX12_broken 58 = .ok (.aload_n 0, 1) := by decide +kernel
theorem dX12_broken_59 : decode cX12_broken 59 = .ok (.getfield 7, 3) := by decide +kernel
theorem dX12_broken_62 : decode cX12_broken 62 = .ok (.sipush 5160, 3) := by decide +kernel
theorem dX12_broken_65 : decode cX12_broken 65 = .ok (.iconst 2, 1) := by decide +kernel
theorem dX12_broken_66 : decode cX12_broken 66 = .ok (.iload 5, 2) := by decide +kernel
theorem dX12_broken_68 : decode cX12_broken 68 = .ok (.imul, 1) := by decide +kernel
theorem dX12_broken_69 : decode cX12_broken 69 = .ok (.iadd, 1) := by decide +kernel
theorem dX12_broken_70 : decode cX12_broken 70 = .ok (.iconst 1, 1) := by decide +kernel
theorem dX12_broken_71 : decode cX12_broken 71 = .ok (.iadd, 1) := by decide +kernel
theorem dX12_broken_72 : decode cX12_broken 72 = .ok (.lload_n 3, 1) := by decide +kernel
theorem dX12_broken_73 : decode cX12_broken 73 = .ok (.lastore, 1) := by decide +kernel
theorem dX12_broken_74 : decode cX12_broken 74 = .ok (.aload_n 0, 1) := by decide +kernel
theorem dX12_broken_75 : decode cX12_broken 75 = .ok (.getfield 7, 3) := by decide +kernel
theorem dX12_broken_78 : decode cX12_broken 78 = .ok (.sipush 5159, 3) := by decide +kernel
theorem dX12_broken_81 : decode cX12_broken 81 = .ok (.dup2, 1) := by decide +kernel
theorem dX12_broken_82 : decode cX12_broken 82 = .ok (.laload, 1) := by decide +kernel
theorem dX12_broken_83 : decode cX12_broken 83 = .ok (.lconst 1, 1) := by decide +kernel
theorem dX12_broken_84 : decode cX12_broken 84 = .ok (.ladd, 1) := by decide +kernel
theorem dX12_broken_85 : decode cX12_broken 85 = .ok (.lastore, 1) := by decide +kernel
theorem dX12_broken_86 : decode cX12_broken 86 = .ok (.aload_n 0, 1) := by decide +kernel
theorem dX12_broken_87 : decode cX12_broken 87 = .ok (.iload 5, 2) := by decide +kernel
theorem dX12_broken_89 : decode cX12_broken 89 = .ok (.iconst 1, 1) := by decide +kernel
theorem dX12_broken_90 : decode cX12_broken 90 = .ok (.iadd, 1) := by decide +kernel
theorem dX12_broken_91 : decode cX12_broken 91 = .ok (.invokevirtual 209, 3) := by decide +kernel
theorem dX12_broken_94 : decode cX12_broken 94 = .ok (.ireturn, 1) := by decide +kernel
theorem dX12_broken_38 : decode cX12_broken 38 = .ok (.aload_n 0, 1) := by decide +kernel
theorem dX12_broken_39 : decode cX12_broken 39 = .ok (.iconst 4, 1) := by decide +kernel
theorem dX12_broken_40 : decode cX12_broken 40 = .ok (.invokevirtual 194, 3) := by decide +kernel
theorem dX12_broken_43 : decode cX12_broken 43 = .ok (.ireturn, 1) := by decide +kernel
def rm_X12_broken : Room := { frames := 1, cells := 0, slots := 0, locals := 24 }
set_option maxHeartbeats 4000000 in
set_option maxRecDepth 100000 in
theorem s_X12_broken (l : Launch) (D : va_G) (cy : Nat → ClassId) (L : List Nat) (R O : Nat → Nat) (f0 : Nat → va_E) (a0 : Nat) (m_a0 : a0 ∈ L) (r_a0 : R a0 = 12) (x1 : Int64) (x3 : Int64) (GA : Nat) (m_GA : GA ∈ L) (r_GA : R GA = 61) (t_GA : fld f0 a0 0 = .ref GA) (GP : Nat) (m_GP : GP ∈ L) (r_GP : R GP = 69) (t_GP : fld f0 a0 22 = .ref GP) (GL : Nat) (m_GL : GL ∈ L) (r_GL : R GL = 70) (t_GL : fld f0 a0 23 = .ref GL) (GT : Nat) (m_GT : GT ∈ L) (r_GT : R GT = 64) (t_GT : fld f0 a0 6 = .ref GT) (pre0 : RBA GA f0) (pre1 : GZ GP GL f0) : ∀ sz, Met l yX12_broken (Cond.code yX12_broken cX12_broken 6 (some .int) :: wsL_law) rm_X12_broken (va_Pc [.ref a0, .long x1, .long x3] (tPZ D cy L R (TT cy L R) f0 sz)) (va_Qi (fun (r : Int32) f1 => fr L R [(12, 1)] [12, 61] f0 f1 ∧ RBA GA f1 ∧ GZ GP GL f1) (tB D (tA L sz) L R (TT cy L R)) (tA L sz)) 0 0 (tA L sz) := by
  refine tw_enteri (by decide +kernel) rfl (Nat.le_of_ble_eq_true rfl) ?_
  intro p e s m below meth c A ls args Q F hZ h hl hret
  have hl : lv_has ls 6 [(0, .ref a0), (1, .long x1), (3, .long x3)] := hl
  have hk : fr L R [(12, 1)] [12, 61] f0 f0 := fr.rf
  have hR := pre0
  have hX := pre1
  refine lv_lload_n F.1 F.2.1 dX12_broken_0 rfl (lv_at hl 1 rfl) ?_
  refine tw_Si (As := [.long x1]) F hZ h yk_X12_isWordNumber mw_931 mw_932 (s_X12_isWordNumber l D cy L R O f0 x1) rfl rfl hl.1 rfl (Nat.le_of_ble_eq_true rfl) ⟨Nat.le_of_ble_eq_true rfl, Nat.le_of_ble_eq_true rfl⟩ ⟨Nat.le_of_ble_eq_true rfl, Nat.le_of_ble_eq_true rfl⟩ dX12_broken_1 (fun v2 f1 H locs hp1 h => ?_)
  obtain ⟨rfl, hv2a, hv2b⟩ := hp1
  refine tw_if_eq (tgt := 14) F dX12_broken_4 (by decide) (fun b3 => ?_) (fun b3 => ?_)
  · refine lv_aload_n F.1 F.2.1 dX12_broken_14 rfl (lv_at hl 0 rfl) ?_
    refine tw_iconst F dX12_broken_15 ki_1 (fun z4 hz4 => ?_)
    refine tw_Vi (As := [.int z4]) F hZ h yk_X12_refuse mw_452 mw_453 mw_454 (s_X12_refuse l D cy L R O f0 a0 m_a0 r_a0 z4 ⟨by omega, by omega⟩) rfl rfl m_a0 r_a0 (fun e q => (T_12 e).mp q) rfl hl.1 rfl (Nat.le_of_ble_eq_true rfl) ⟨Nat.le_of_ble_eq_true rfl, Nat.le_of_ble_eq_true rfl⟩ ⟨Nat.le_of_ble_eq_true rfl, Nat.le_of_ble_eq_true rfl⟩ dX12_broken_16 (fun v6 f5 H locs hp5 h => ?_)
    obtain ⟨hf5, hv6a, hv6b⟩ := hp5
    have hR : RBA GA f5 := hR.fm hf5 m_GA r_GA (by decide +kernel)
    have hX : GZ GP GL f5 := hX.fm hf5 m_GP r_GP m_GL r_GL (by decide +kernel) (by decide +kernel)
    have hk : fr L R [(12, 1)] [12, 61] f0 f5 := hk.tr hf5 rfl rfl
    have e7 : fld f5 a0 0 = .ref GA := (hf5.efl m_a0 r_a0 rfl).trans t_GA
    have e8 : fld f5 a0 22 = .ref GP := (hf5.efl m_a0 r_a0 rfl).trans t_GP
    have e9 : fld f5 a0 23 = .ref GL := (hf5.efl m_a0 r_a0 rfl).trans t_GL
    have e10 : fld f5 a0 6 = .ref GT := (hf5.efl m_a0 r_a0 rfl).trans t_GT
    exact hret f5 _ _ _ _ v6 dX12_broken_19 rfl ⟨hk, hR, hX⟩ h
  · refine lv_lload_n F.1 F.2.1 dX12_broken_7 rfl (lv_at hl 2 rfl) ?_
    refine tw_Si (As := [.long x3]) F hZ h yk_X12_isWordNumber mw_931 mw_932 (s_X12_isWordNumber l D cy L R O f0 x3) rfl rfl hl.1 rfl (Nat.le_of_ble_eq_true rfl) ⟨Nat.le_of_ble_eq_true rfl, Nat.le_of_ble_eq_true rfl⟩ ⟨Nat.le_of_ble_eq_true rfl, Nat.le_of_ble_eq_true rfl⟩ dX12_broken_8 (fun v12 f11 H locs hp11 h => ?_)
    obtain ⟨rfl, hv12a, hv12b⟩ := hp11
    refine tw_if_ne (tgt := 20) F dX12_broken_11 (by decide) (fun b13 => ?_) (fun b13 => ?_)
    · refine lv_aload_n F.1 F.2.1 dX12_broken_20 rfl (lv_at hl 0 rfl) ?_
      refine g_12_7 F h m_a0 r_a0 dX12_broken_21 (fun o14 m_o14 r_o14 ho14 => ?_)
      obtain rfl := (fld_inj t_GA ho14).symm
      refine tw_sipush F dX12_broken_24 ks_5159 (fun z15 hz15 => ?_)
      refine le_61 F h m_GA r_GA (by omega) dX12_broken_27 (fun v16 ev16 hv16a => ?_)
      have hv16b := clP_1.mp (atb hv16a (ac_s2 (by omega)))
      have u27 : v16.toInt = elj f0 GA (5159) := by rw [ev16, show z15.toInt.toNat = 5159 by omega]
      refine tw_l2i F dX12_broken_28 (by omega) (by omega) (fun z17 hz17 => ?_)
      refine lv_istore (lv' := [(5, .int z17), (0, .ref a0), (1, .long x1), (3, .long x3)]) F.1 F.2.1 dX12_broken_29 hl (by decide) rfl (fun ls hl => ?_)
      refine lv_iload F.1 F.2.1 dX12_broken_31 (lv_at hl 0 rfl) ?_
      refine tw_bipush F dX12_broken_33 kb_12 (fun z18 hz18 => ?_)
      refine tw_icmp_ne (tgt := 44) F dX12_broken_35 (by decide) (fun b19 => ?_) (fun b19 => ?_)
      · have hqk : elj f0 GA 5159 ≤ 11 := by omega
        refine lv_aload_n F.1 F.2.1 dX12_broken_44 rfl (lv_at hl 1 rfl) ?_
        refine g_12_7 F h m_a0 r_a0 dX12_broken_45 (fun o20 m_o20 r_o20 ho20 => ?_)
        obtain rfl := (fld_inj t_GA ho20).symm
        refine tw_sipush F dX12_broken_48 ks_5160 (fun z21 hz21 => ?_)
        refine tw_iconst F dX12_broken_51 ki_2 (fun z22 hz22 => ?_)
        refine lv_iload F.1 F.2.1 dX12_broken_52 (lv_at hl 0 rfl) ?_
        refine tu_imull F dX12_broken_54 hz22 (by omega) (fun z23 hz23 => ?_)
        refine tu_iadd F dX12_broken_55 (by omega) (fun z24 hz24 => ?_)
        refine lv_lload_n F.1 F.2.1 dX12_broken_56 rfl (lv_at hl 2 rfl) ?_
        refine se_61 F h m_GA r_GA (by omega) (atS (ac_cp (by omega)) clP_0) dX12_broken_57 (fun f25 H locs e25a e25b hf25 h => ?_)
        have hR : RBA GA f25 := hR.st e25a (Or.inr (Or.inl (by omega)))
        have hX : GZ GP GL f25 := hX.fm hf25 m_GP r_GP m_GL r_GL (by decide +kernel) (by decide +kernel)
        have hqk : elj f25 GA 5159 ≤ 11 := by rw [e25a, if_neg (by omega)]; exact hqk
        have hk : fr L R [(12, 1)] [12, 61] f0 f25 := hk.tr hf25 rfl rfl
        have e26 : fld f25 a0 0 = .ref GA := (hf25.efl m_a0 r_a0 rfl).trans t_GA
        have e27 : fld f25 a0 22 = .ref GP := (hf25.efl m_a0 r_a0 rfl).trans t_GP
        have e28 : fld f25 a0 23 = .ref GL := (hf25.efl m_a0 r_a0 rfl).trans t_GL
        have e29 : fld f25 a0 6 = .ref GT := (hf25.efl m_a0 r_a0 rfl).trans t_GT
        refine lv_aload_n F.1 F.2.1 dX12_broken_58 rfl (lv_at hl 1 rfl) ?_
        refine g_12_7 F h m_a0 r_a0 dX12_broken_59 (fun o30 m_o30 r_o30 ho30 => ?_)
        obtain rfl := (fld_inj e26 ho30).symm
        refine tw_sipush F dX12_broken_62 ks_5160 (fun z31 hz31 => ?_)
        refine tw_iconst F dX12_broken_65 ki_2 (fun z32 hz32 => ?_)
        refine lv_iload F.1 F.2.1 dX12_broken_66 (lv_at hl 0 rfl) ?_
        refine tu_imull F dX12_broken_68 hz32 (by omega) (fun z33 hz33 => ?_)
        refine tu_iadd F dX12_broken_69 (by omega) (fun z34 hz34 => ?_)
        refine tw_iconst F dX12_broken_70 ki_1 (fun z35 hz35 => ?_)
        refine tu_iadd F dX12_broken_71 (by omega) (fun z36 hz36 => ?_)
        refine lv_lload_n F.1 F.2.1 dX12_broken_72 rfl (lv_at hl 3 rfl) ?_
        refine se_61 F h m_GA r_GA (by omega) (atS (ac_cp (by omega)) clP_0) dX12_broken_73 (fun f37 H locs e37a e37b hf37 h => ?_)
        have hR : RBA GA f37 := hR.st e37a (Or.inr (Or.inl (by omega)))
        have hX : GZ GP GL f37 := hX.fm hf37 m_GP r_GP m_GL r_GL (by decide +kernel) (by decide +kernel)
        have hqk : elj f37 GA 5159 ≤ 11 := by rw [e37a, if_neg (by omega)]; exact hqk
        have hk : fr L R [(12, 1)] [12, 61] f0 f37 := hk.tr hf37 rfl rfl
        have e38 : fld f37 a0 0 = .ref GA := (hf37.efl m_a0 r_a0 rfl).trans e26
        have e39 : fld f37 a0 22 = .ref GP := (hf37.efl m_a0 r_a0 rfl).trans e27
        have e40 : fld f37 a0 23 = .ref GL := (hf37.efl m_a0 r_a0 rfl).trans e28
        have e41 : fld f37 a0 6 = .ref GT := (hf37.efl m_a0 r_a0 rfl).trans e29
        refine lv_aload_n F.1 F.2.1 dX12_broken_74 rfl (lv_at hl 1 rfl) ?_
        refine g_12_7 F h m_a0 r_a0 dX12_broken_75 (fun o42 m_o42 r_o42 ho42 => ?_)
        obtain rfl := (fld_inj e38 ho42).symm
        refine tw_sipush F dX12_broken_78 ks_5159 (fun z43 hz43 => ?_)
        refine lv_dup2_11 F.1 F.2.1 dX12_broken_81 rfl rfl ?_
        refine le_61 F h m_GA r_GA (by omega) dX12_broken_82 (fun v44 ev44 hv44a => ?_)
        have hv44b := clP_1.mp (atb hv44a (ac_s2 (by omega)))
        have u82 : v44.toInt = elj f37 GA (5159) := by rw [ev44, show z43.toInt.toNat = 5159 by omega]
        refine tu_lconst F dX12_broken_83 (by decide) (fun z45 (hz45 : z45.toInt = 1) => ?_)
        refine tu_ladd F dX12_broken_84 (by omega) (fun z46 hz46 => ?_)
        refine se_61 F h m_GA r_GA (by omega) (atS (ac_s2 (by omega)) (clP_1.mpr (by omega))) dX12_broken_85 (fun f47 H locs e47a e47b hf47 h => ?_)
        have hR : RBA GA f47 := hR.st e47a (Or.inr (Or.inl (by omega)))
        have hX : GZ GP GL f47 := hX.fm hf47 m_GP r_GP m_GL r_GL (by decide +kernel) (by decide +kernel)
        have hk : fr L R [(12, 1)] [12, 61] f0 f47 := hk.tr hf47 rfl rfl
        have e48 : fld f47 a0 0 = .ref GA := (hf47.efl m_a0 r_a0 rfl).trans e38
        have e49 : fld f47 a0 22 = .ref GP := (hf47.efl m_a0 r_a0 rfl).trans e39
        have e50 : fld f47 a0 23 = .ref GL := (hf47.efl m_a0 r_a0 rfl).trans e40
        have e51 : fld f47 a0 6 = .ref GT := (hf47.efl m_a0 r_a0 rfl).trans e41
        refine lv_aload_n F.1 F.2.1 dX12_broken_86 rfl (lv_at hl 1 rfl) ?_
        refine lv_iload F.1 F.2.1 dX12_broken_87 (lv_at hl 0 rfl) ?_
        refine tw_iconst F dX12_broken_89 ki_1 (fun z52 hz52 => ?_)
        refine tu_iadd F dX12_broken_90 (by omega) (fun z53 hz53 => ?_)
        refine tw_Vi (As := [.int z53]) F hZ h yk_X12_gives mw_499 mw_500 mw_501 (s_X12_gives l D cy L R O f47 a0 m_a0 r_a0 z53) rfl rfl m_a0 r_a0 (fun e q => (T_12 e).mp q) rfl hl.1 rfl (Nat.le_of_ble_eq_true rfl) ⟨Nat.le_of_ble_eq_true rfl, Nat.le_of_ble_eq_true rfl⟩ ⟨Nat.le_of_ble_eq_true rfl, Nat.le_of_ble_eq_true rfl⟩ dX12_broken_91 (fun v55 f54 H locs hp54 h => ?_)
        have hf54 := hp54
        have hR : RBA GA f54 := hR.fm hf54 m_GA r_GA (by decide +kernel)
        have hX : GZ GP GL f54 := hX.fm hf54 m_GP r_GP m_GL r_GL (by decide +kernel) (by decide +kernel)
        have hk : fr L R [(12, 1)] [12, 61] f0 f54 := hk.tr hf54 rfl rfl
        have e56 : fld f54 a0 0 = .ref GA := (hf54.efl m_a0 r_a0 rfl).trans e48
        have e57 : fld f54 a0 22 = .ref GP := (hf54.efl m_a0 r_a0 rfl).trans e49
        have e58 : fld f54 a0 23 = .ref GL := (hf54.efl m_a0 r_a0 rfl).trans e50
        have e59 : fld f54 a0 6 = .ref GT := (hf54.efl m_a0 r_a0 rfl).trans e51
        exact hret f54 _ _ _ _ v55 dX12_broken_94 rfl ⟨hk, hR, hX⟩ h
      · refine lv_aload_n F.1 F.2.1 dX12_broken_38 rfl (lv_at hl 1 rfl) ?_
        refine tw_iconst F dX12_broken_39 ki_4 (fun z60 hz60 => ?_)
        refine tw_Vi (As := [.int z60]) F hZ h yk_X12_refuse mw_452 mw_453 mw_454 (s_X12_refuse l D cy L R O f0 a0 m_a0 r_a0 z60 ⟨by omega, by omega⟩) rfl rfl m_a0 r_a0 (fun e q => (T_12 e).mp q) rfl hl.1 rfl (Nat.le_of_ble_eq_true rfl) ⟨Nat.le_of_ble_eq_true rfl, Nat.le_of_ble_eq_true rfl⟩ ⟨Nat.le_of_ble_eq_true rfl, Nat.le_of_ble_eq_true rfl⟩ dX12_broken_40 (fun v62 f61 H locs hp61 h => ?_)
        obtain ⟨hf61, hv62a, hv62b⟩ := hp61
        have hR : RBA GA f61 := hR.fm hf61 m_GA r_GA (by decide +kernel)
        have hX : GZ GP GL f61 := hX.fm hf61 m_GP r_GP m_GL r_GL (by decide +kernel) (by decide +kernel)
        have hk : fr L R [(12, 1)] [12, 61] f0 f61 := hk.tr hf61 rfl rfl
        have e63 : fld f61 a0 0 = .ref GA := (hf61.efl m_a0 r_a0 rfl).trans t_GA
        have e64 : fld f61 a0 22 = .ref GP := (hf61.efl m_a0 r_a0 rfl).trans t_GP
        have e65 : fld f61 a0 23 = .ref GL := (hf61.efl m_a0 r_a0 rfl).trans t_GL
        have e66 : fld f61 a0 6 = .ref GT := (hf61.efl m_a0 r_a0 rfl).trans t_GT
        exact hret f61 _ _ _ _ v62 dX12_broken_43 rfl ⟨hk, hR, hX⟩ h
    · refine lv_aload_n F.1 F.2.1 dX12_broken_14 rfl (lv_at hl 0 rfl) ?_
      refine tw_iconst F dX12_broken_15 ki_1 (fun z67 hz67 => ?_)
      refine tw_Vi (As := [.int z67]) F hZ h yk_X12_refuse mw_452 mw_453 mw_454 (s_X12_refuse l D cy L R O f0 a0 m_a0 r_a0 z67 ⟨by omega, by omega⟩) rfl rfl m_a0 r_a0 (fun e q => (T_12 e).mp q) rfl hl.1 rfl (Nat.le_of_ble_eq_true rfl) ⟨Nat.le_of_ble_eq_true rfl, Nat.le_of_ble_eq_true rfl⟩ ⟨Nat.le_of_ble_eq_true rfl, Nat.le_of_ble_eq_true rfl⟩ dX12_broken_16 (fun v69 f68 H locs hp68 h => ?_)
      obtain ⟨hf68, hv69a, hv69b⟩ := hp68
      have hR : RBA GA f68 := hR.fm hf68 m_GA r_GA (by decide +kernel)
      have hX : GZ GP GL f68 := hX.fm hf68 m_GP r_GP m_GL r_GL (by decide +kernel) (by decide +kernel)
      have hk : fr L R [(12, 1)] [12, 61] f0 f68 := hk.tr hf68 rfl rfl
      have e70 : fld f68 a0 0 = .ref GA := (hf68.efl m_a0 r_a0 rfl).trans t_GA
      have e71 : fld f68 a0 22 = .ref GP := (hf68.efl m_a0 r_a0 rfl).trans t_GP
      have e72 : fld f68 a0 23 = .ref GL := (hf68.efl m_a0 r_a0 rfl).trans t_GL
      have e73 : fld f68 a0 6 = .ref GT := (hf68.efl m_a0 r_a0 rfl).trans t_GT
      exact hret f68 _ _ _ _ v69 dX12_broken_19 rfl ⟨hk, hR, hX⟩ h
